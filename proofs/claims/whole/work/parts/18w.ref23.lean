/-! THE REFERENCE'S CONSTRUCTOR: its memory in steps -/
def rcLn (i : Nat) : Nat := ([85, 85, 85, 680, 16, 60, 50, 12, 4, 66, 13] : List Nat).getD i 0
def rcM (m : mM) (r : Nat) : Nat → mM
  | 0 => sI (sI m 386 r (-1)) 387 r (-1)
  | i + 1 => sR (nw (rcM m r i) (.inr (0, rcLn i))) (389 + i) r (some (r + (i + 1)))
def wrW (m : mM) (r : Nat) : Nat → mM
  | 0 => nw (rcM m r 9) (.inr (0, 66))
  | n + 1 => sA (wrW m r n) (r + 10) n (wdC n)
def rcW (m : mM) (r : Nat) : mM := sR (wrW m r 66) 398 r (some (r + 10))
def wrT (m : mM) (r : Nat) : Nat → mM
  | 0 => nw (rcW m r) (.inr (0, 13))
  | n + 1 => sA (wrT m r n) (r + 11) n (nI (wdS n))
def rcT (m : mM) (r : Nat) : mM := sR (wrT m r 13) 399 r (some (r + 11))
/-- i rows are there -/
def RC (m0 m : mM) (r i : Nat) : Prop := (gN m = r + (i + 1)) ∧ (gK m r = some (.inl 12)) ∧ (∀ j, j < i → gR m (389 + j) r = some (r + (j + 1))) ∧ (∀ j, j < i → gK m (r + (j + 1)) = some (.inr (0, rcLn j))) ∧ (∀ j, j < i → j < 9 → ∀ q, gA m (r + (j + 1)) q = 0) ∧ (∀ k, gI m k r = gI (sI (sI m0 386 r (-1)) 387 r (-1)) k r) ∧ (∀ a, a < r → gK m a = gK m0 a ∧ mS m0 m a)
section
variable {m0 m : mM} {r i : Nat}
theorem RC.n (h : RC m0 m r i) : gN m = r + (i + 1) := h.1
theorem RC.k (h : RC m0 m r i) : gK m r = some (.inl 12) := h.2.1
theorem RC.rr (h : RC m0 m r i) : ∀ j, j < i → gR m (389 + j) r = some (r + (j + 1)) := h.2.2.1
theorem RC.kk (h : RC m0 m r i) : ∀ j, j < i → gK m (r + (j + 1)) = some (.inr (0, rcLn j)) := h.2.2.2.1
theorem RC.z (h : RC m0 m r i) : ∀ j, j < i → j < 9 → ∀ q, gA m (r + (j + 1)) q = 0 := h.2.2.2.2.1
theorem RC.I (h : RC m0 m r i) : ∀ k, gI m k r = gI (sI (sI m0 386 r (-1)) 387 r (-1)) k r := h.2.2.2.2.2.1
theorem RC.F (h : RC m0 m r i) : ∀ a, a < r → gK m a = gK m0 a ∧ mS m0 m a := h.2.2.2.2.2.2
end
section
variable {m0 m : mM} {r i : Nat}
theorem RC.st (h : RC m0 m r i) : RC m0 (sR (nw m (.inr (0, rcLn i))) (389 + i) r (some (r + (i + 1)))) r (i + 1) := by
  have hn := h.n
  refine ⟨?_, ?_, fun j hj => ?_, fun j hj => ?_, fun j hj h9 q => ?_, fun k => ?_, fun a ha => ⟨?_, ?_⟩⟩
  · simp only [mm]
    omega
  · simp only [mm]
    rw [if_neg (by omega)]
    exact h.k
  · simp only [mm]
    by_cases e : j = i
    · subst e
      rw [if_pos (by simp)]
    · rw [if_neg (by omega), if_neg (by omega)]
      exact h.rr j (by omega)
  · simp only [mm]
    by_cases e : j = i
    · subst e
      rw [if_pos (by omega)]
    · rw [if_neg (by omega)]
      exact h.kk j (by omega)
  · simp only [mm]
    by_cases e : j = i
    · subst e
      rw [if_pos (by omega)]
    · rw [if_neg (by omega)]
      exact h.z j (by omega) h9 q
  · rw [← h.I k]
    simp only [mm]
    rw [if_neg (by omega)]
  · simp only [mm]
    rw [if_neg (by omega)]
    exact (h.F a ha).1
  · exact mS_tr (h.F a ha).2 (mS_tr (mS_nw (by omega)) (mS_R (by omega)))
theorem RC.A {q : Nat} {v : Int32} {a : Nat} (h : RC m0 m r i) (ha : r + 10 ≤ a) : RC m0 (sA m a q v) r i := by
  refine ⟨h.n, h.k, h.rr, h.kk, fun j hj h9 q2 => ?_, h.I, fun b hb => ⟨(h.F b hb).1, mS_tr (h.F b hb).2 (mS_A (by omega))⟩⟩
  simp only [mm]
  rw [if_neg (by omega)]
  exact h.z j hj h9 q2
theorem RC.s0 (hk : gK m r = some (.inl 12)) (hg : gN m = r + 1) : RC m (rcM m r 0) r 0 := by
  refine ⟨hg, hk, fun j hj => by omega, fun j hj => by omega, fun j hj => by omega, fun k => rfl, fun a ha => ⟨rfl, mS_tr (mS_I (by omega)) (mS_I (by omega))⟩⟩
theorem RC.M (hk : gK m r = some (.inl 12)) (hg : gN m = r + 1) : ∀ i, RC m (rcM m r i) r i
  | 0 => RC.s0 hk hg
  | i + 1 => (RC.M hk hg i).st
theorem RC.W (hk : gK m r = some (.inl 12)) (hg : gN m = r + 1) : ∀ n, RC m (sR (wrW m r n) 398 r (some (r + 10))) r 10
  | 0 => (RC.M hk hg 9).st
  | n + 1 => (RC.W hk hg n).A (a := r + 10) (q := n) (v := wdC n) (Nat.le_refl _)
theorem RC.T (hk : gK m r = some (.inl 12)) (hg : gN m = r + 1) : ∀ n, RC m (sR (wrT m r n) 399 r (some (r + 11))) r 11
  | 0 => (RC.W hk hg 66).st
  | n + 1 => (RC.T hk hg n).A (a := r + 11) (q := n) (v := nI (wdS n)) (by omega)
theorem mV_eqM {g : mG} {x : mCx} {m m1 : mM} {ce sl pc : Nat} {lv : List (Nat × Value)} {st : List Value} (e : m = m1) (h : mV g x m1 ce sl pc lv st) : mV g x m ce sl pc lv st := e ▸ h
theorem rcM_0 : sI (sI m 386 r (-1)) 387 r (-1) = rcM m r 0 := rfl
theorem rcM_f {i1 ln q ky : Nat} (h : i + 1 = i1) (hl : ln = rcLn i) (hq : q = r + i1) (hy : ky = 389 + i) : sR (nw (rcM m r i) (.inr (0, ln))) ky r (some q) = rcM m r i1 := by
  subst h hl hq hy
  rfl
theorem wrW_0 : nw (rcM m r 9) (.inr (0, 66)) = wrW m r 0 := rfl
theorem wrW_f {n n1 : Nat} {v : Int32} (h : n + 1 = n1) (hv : v = wdC n) : sA (wrW m r n) (r + 10) n v = wrW m r n1 := by
  subst h hv
  rfl
theorem rcW_f : sR (wrW m r 66) 398 r (some (r + 10)) = rcW m r := rfl
theorem wrT_0 : nw (rcW m r) (.inr (0, 13)) = wrT m r 0 := rfl
theorem wrT_f {n n1 : Nat} {v : Int32} (h : n + 1 = n1) (hv : v = nI (wdS n)) : sA (wrT m r n) (r + 11) n v = wrT m r n1 := by
  subst h hv
  rfl
theorem rcT_f : sR (wrT m r 13) 399 r (some (r + 11)) = rcT m r := rfl
theorem rcM_n (hk : gK m r = some (.inl 12)) (hg : gN m = r + 1) {i1 : Nat} (h : i + 1 = i1) : gN (rcM m r i) = r + i1 := by
  rw [(RC.M hk hg i).n, h]
theorem rcM_k (hk : gK m r = some (.inl 12)) (hg : gN m = r + 1) : gK (rcM m r i) r = some (.inl 12) := (RC.M hk hg i).k
theorem rcM_kn (hk : gK m r = some (.inl 12)) (hg : gN m = r + 1) {kd : mK} : gK (nw (rcM m r i) kd) r = some (.inl 12) := by
  have := (RC.M hk hg i).n
  simp only [mm]
  rw [if_neg (by omega)]
  exact (RC.M hk hg i).k
theorem wrW_k (hk : gK m r = some (.inl 12)) (hg : gN m = r + 1) {n : Nat} : gK (wrW m r n) r = some (.inl 12) := by
  have h := (RC.W hk hg n).k
  simp only [mm] at h
  exact h
theorem wrW_kk (hk : gK m r = some (.inl 12)) (hg : gN m = r + 1) {n : Nat} : gK (wrW m r n) (r + 10) = some (.inr (0, 66)) := by
  have h := (RC.W hk hg n).kk 9 (by decide)
  simp only [mm] at h
  exact h
theorem rcW_n (hk : gK m r = some (.inl 12)) (hg : gN m = r + 1) : gN (rcW m r) = r + 11 := (RC.W hk hg 66).n
theorem wrT_k (hk : gK m r = some (.inl 12)) (hg : gN m = r + 1) {n : Nat} : gK (wrT m r n) r = some (.inl 12) := by
  have h := (RC.T hk hg n).k
  simp only [mm] at h
  exact h
theorem wrT_kk (hk : gK m r = some (.inl 12)) (hg : gN m = r + 1) {n : Nat} : gK (wrT m r n) (r + 11) = some (.inr (0, 13)) := by
  have h := (RC.T hk hg n).kk 10 (by decide)
  simp only [mm] at h
  exact h
theorem rcT_k (hk : gK m r = some (.inl 12)) (hg : gN m = r + 1) : gK (rcT m r) r = some (.inl 12) := (RC.T hk hg 13).k
theorem rcT_kv (hk : gK m r = some (.inl 12)) (hg : gN m = r + 1) : gK (rcT m r) (r + 1) = some (.inr (0, 85)) := (RC.T hk hg 13).kk 0 (by decide)
theorem rcT_v (hk : gK m r = some (.inl 12)) (hg : gN m = r + 1) : gR (rcT m r) 389 r = some (r + 1) := (RC.T hk hg 13).rr 0 (by decide)
end
def X11_init_m (g : mG) (m : mM) (r : Nat)  : mM := (sA (sA (sA (rcT m r) (r + 1) 1 20) (r + 1) 3 20) (r + 1) 4 1)

set_option maxHeartbeats 4000000 in
set_option maxRecDepth 100000 in
theorem c_X11_init {l : Launch} {g : mG} (hO : mO l g) (m : mM) (r : Nat)  (hk : gK m r = some (.inl 12)) (hg : gN m = r + 1) : mT l g yX11_init (.code yX11_init cX11_init 1 (Option.none : Option FieldType)) 1 20 11 1156 [.ref r] m (fun u m' => u = none ∧ m' = X11_init_m g m r ) nX := by
  refine mT_of hO (by decide) (Nat.le_of_ble_eq_true rfl) (fun x hX hZ => ?_)
  show mV g x m 0 0 0 [(0, .ref r)] []
  refine v_aload_n (pc := 0) hX dX11_init_0 rfl ?_
  refine v_objInit (pc := 1) hX dX11_init_1 wd_1505 wd_43 wd_44 (by decide) (by decide) ?_
  refine v_aload_n (pc := 4) hX dX11_init_4 rfl ?_
  refine v_iconst (v := (-1)) (pc := 5) hX dX11_init_5 (by decide) ?_
  refine v_put (m1 := (sI m 386 r ((-1)))) (pc := 6) hX dX11_init_6 hk (ci := 12) (r := vwC12) rfl 2 (by decide) wd_1508 rfl rfl rfl rfl ?_
  refine v_aload_n (pc := 9) hX dX11_init_9 rfl ?_
  refine v_iconst (v := (-1)) (pc := 10) hX dX11_init_10 (by decide) ?_
  refine v_put (m1 := (sI (sI m 386 r ((-1))) 387 r ((-1)))) (pc := 11) hX dX11_init_11 (by simp only [mm]; exact hk) (ci := 12) (r := vwC12) rfl 3 (by decide) wd_1509 rfl rfl rfl rfl ?_
  refine mV_eqM (m1 := (rcM m r 0)) (rcM_0) ?_
  refine v_aload_n (pc := 14) hX dX11_init_14 rfl ?_
  refine v_bipush (v := 85) (pc := 15) hX dX11_init_15 (by decide) ?_
  refine v_newarr (t := 0) (n := 85) (pc := 17) hX dX11_init_17 rfl (by decide) wd_272 rfl (by decide) (by show 0 + 1 ≤ 11; omega) (by show 0 + 85 ≤ 1156; omega) ?_
  rw [rcM_n (i := 0) (i1 := 1) hk hg (by decide)]
  refine v_putF (m1 := (sR (nw ((rcM m r 0)) (.inr (0, 85))) 389 r (some (r + 1)))) (pc := 19) hX dX11_init_19 (rcM_kn hk hg) (ci := 12) (r := vwC12) rfl 5 (by decide) wd_1511 rfl rfl rfl rfl rfl rfl ?_
  refine mV_eqM (m1 := (rcM m r 1)) (rcM_f (i := 0) (by decide) (by decide) rfl (by decide)) ?_
  refine v_aload_n (pc := 22) hX dX11_init_22 rfl ?_
  refine v_bipush (v := 85) (pc := 23) hX dX11_init_23 (by decide) ?_
  refine v_newarr (t := 0) (n := 85) (pc := 25) hX dX11_init_25 rfl (by decide) wd_272 rfl (by decide) (by show 1 + 1 ≤ 11; omega) (by show 0 + 85 + 85 ≤ 1156; omega) ?_
  rw [rcM_n (i := 1) (i1 := 2) hk hg (by decide)]
  refine v_putF (m1 := (sR (nw ((rcM m r 1)) (.inr (0, 85))) 390 r (some (r + 2)))) (pc := 27) hX dX11_init_27 (rcM_kn hk hg) (ci := 12) (r := vwC12) rfl 6 (by decide) wd_1512 rfl rfl rfl rfl rfl rfl ?_
  refine mV_eqM (m1 := (rcM m r 2)) (rcM_f (i := 1) (by decide) (by decide) rfl (by decide)) ?_
  refine v_aload_n (pc := 30) hX dX11_init_30 rfl ?_
  refine v_bipush (v := 85) (pc := 31) hX dX11_init_31 (by decide) ?_
  refine v_newarr (t := 0) (n := 85) (pc := 33) hX dX11_init_33 rfl (by decide) wd_272 rfl (by decide) (by show 2 + 1 ≤ 11; omega) (by show 0 + 85 + 85 + 85 ≤ 1156; omega) ?_
  rw [rcM_n (i := 2) (i1 := 3) hk hg (by decide)]
  refine v_putF (m1 := (sR (nw ((rcM m r 2)) (.inr (0, 85))) 391 r (some (r + 3)))) (pc := 35) hX dX11_init_35 (rcM_kn hk hg) (ci := 12) (r := vwC12) rfl 7 (by decide) wd_1513 rfl rfl rfl rfl rfl rfl ?_
  refine mV_eqM (m1 := (rcM m r 3)) (rcM_f (i := 2) (by decide) (by decide) rfl (by decide)) ?_
  refine v_aload_n (pc := 38) hX dX11_init_38 rfl ?_
  refine v_sipush (v := 680) (pc := 39) hX dX11_init_39 (by decide) ?_
  refine v_newarr (t := 0) (n := 680) (pc := 42) hX dX11_init_42 rfl (by decide) wd_272 rfl (by decide) (by show 3 + 1 ≤ 11; omega) (by show 0 + 85 + 85 + 85 + 680 ≤ 1156; omega) ?_
  rw [rcM_n (i := 3) (i1 := 4) hk hg (by decide)]
  refine v_putF (m1 := (sR (nw ((rcM m r 3)) (.inr (0, 680))) 392 r (some (r + 4)))) (pc := 44) hX dX11_init_44 (rcM_kn hk hg) (ci := 12) (r := vwC12) rfl 8 (by decide) wd_1514 rfl rfl rfl rfl rfl rfl ?_
  refine mV_eqM (m1 := (rcM m r 4)) (rcM_f (i := 3) (by decide) (by decide) rfl (by decide)) ?_
  refine v_aload_n (pc := 47) hX dX11_init_47 rfl ?_
  refine v_bipush (v := 16) (pc := 48) hX dX11_init_48 (by decide) ?_
  refine v_newarr (t := 0) (n := 16) (pc := 50) hX dX11_init_50 rfl (by decide) wd_272 rfl (by decide) (by show 4 + 1 ≤ 11; omega) (by show 0 + 85 + 85 + 85 + 680 + 16 ≤ 1156; omega) ?_
  rw [rcM_n (i := 4) (i1 := 5) hk hg (by decide)]
  refine v_putF (m1 := (sR (nw ((rcM m r 4)) (.inr (0, 16))) 393 r (some (r + 5)))) (pc := 52) hX dX11_init_52 (rcM_kn hk hg) (ci := 12) (r := vwC12) rfl 9 (by decide) wd_1515 rfl rfl rfl rfl rfl rfl ?_
  refine mV_eqM (m1 := (rcM m r 5)) (rcM_f (i := 4) (by decide) (by decide) rfl (by decide)) ?_
  refine v_aload_n (pc := 55) hX dX11_init_55 rfl ?_
  refine v_bipush (v := 60) (pc := 56) hX dX11_init_56 (by decide) ?_
  refine v_newarr (t := 0) (n := 60) (pc := 58) hX dX11_init_58 rfl (by decide) wd_272 rfl (by decide) (by show 5 + 1 ≤ 11; omega) (by show 0 + 85 + 85 + 85 + 680 + 16 + 60 ≤ 1156; omega) ?_
  rw [rcM_n (i := 5) (i1 := 6) hk hg (by decide)]
  refine v_putF (m1 := (sR (nw ((rcM m r 5)) (.inr (0, 60))) 394 r (some (r + 6)))) (pc := 60) hX dX11_init_60 (rcM_kn hk hg) (ci := 12) (r := vwC12) rfl 10 (by decide) wd_1516 rfl rfl rfl rfl rfl rfl ?_
  refine mV_eqM (m1 := (rcM m r 6)) (rcM_f (i := 5) (by decide) (by decide) rfl (by decide)) ?_
  refine v_aload_n (pc := 63) hX dX11_init_63 rfl ?_
  refine v_bipush (v := 50) (pc := 64) hX dX11_init_64 (by decide) ?_
  refine v_newarr (t := 0) (n := 50) (pc := 66) hX dX11_init_66 rfl (by decide) wd_272 rfl (by decide) (by show 6 + 1 ≤ 11; omega) (by show 0 + 85 + 85 + 85 + 680 + 16 + 60 + 50 ≤ 1156; omega) ?_
  rw [rcM_n (i := 6) (i1 := 7) hk hg (by decide)]
  refine v_putF (m1 := (sR (nw ((rcM m r 6)) (.inr (0, 50))) 395 r (some (r + 7)))) (pc := 68) hX dX11_init_68 (rcM_kn hk hg) (ci := 12) (r := vwC12) rfl 11 (by decide) wd_1517 rfl rfl rfl rfl rfl rfl ?_
  refine mV_eqM (m1 := (rcM m r 7)) (rcM_f (i := 6) (by decide) (by decide) rfl (by decide)) ?_
  refine v_aload_n (pc := 71) hX dX11_init_71 rfl ?_
  refine v_bipush (v := 12) (pc := 72) hX dX11_init_72 (by decide) ?_
  refine v_newarr (t := 0) (n := 12) (pc := 74) hX dX11_init_74 rfl (by decide) wd_272 rfl (by decide) (by show 7 + 1 ≤ 11; omega) (by show 0 + 85 + 85 + 85 + 680 + 16 + 60 + 50 + 12 ≤ 1156; omega) ?_
  rw [rcM_n (i := 7) (i1 := 8) hk hg (by decide)]
  refine v_putF (m1 := (sR (nw ((rcM m r 7)) (.inr (0, 12))) 396 r (some (r + 8)))) (pc := 76) hX dX11_init_76 (rcM_kn hk hg) (ci := 12) (r := vwC12) rfl 12 (by decide) wd_1518 rfl rfl rfl rfl rfl rfl ?_
  refine mV_eqM (m1 := (rcM m r 8)) (rcM_f (i := 7) (by decide) (by decide) rfl (by decide)) ?_
  refine v_aload_n (pc := 79) hX dX11_init_79 rfl ?_
  refine v_iconst (v := 4) (pc := 80) hX dX11_init_80 (by decide) ?_
  refine v_newarr (t := 0) (n := 4) (pc := 81) hX dX11_init_81 rfl (by decide) wd_272 rfl (by decide) (by show 8 + 1 ≤ 11; omega) (by show 0 + 85 + 85 + 85 + 680 + 16 + 60 + 50 + 12 + 4 ≤ 1156; omega) ?_
  rw [rcM_n (i := 8) (i1 := 9) hk hg (by decide)]
  refine v_putF (m1 := (sR (nw ((rcM m r 8)) (.inr (0, 4))) 397 r (some (r + 9)))) (pc := 83) hX dX11_init_83 (rcM_kn hk hg) (ci := 12) (r := vwC12) rfl 13 (by decide) wd_1519 rfl rfl rfl rfl rfl rfl ?_
  refine mV_eqM (m1 := (rcM m r 9)) (rcM_f (i := 8) (by decide) (by decide) rfl (by decide)) ?_
  refine v_aload_n (pc := 86) hX dX11_init_86 rfl ?_
  refine v_bipush (v := 66) (pc := 87) hX dX11_init_87 (by decide) ?_
  refine v_newarr (t := 0) (n := 66) (pc := 89) hX dX11_init_89 rfl (by decide) wd_272 rfl (by decide) (by show 9 + 1 ≤ 11; omega) (by show 0 + 85 + 85 + 85 + 680 + 16 + 60 + 50 + 12 + 4 + 66 ≤ 1156; omega) ?_
  rw [rcM_n (i := 9) (i1 := 10) hk hg (by decide)]
  refine mV_eqM (m1 := (wrW m r 0)) (wrW_0) ?_
  refine v_dup (pc := 91) hX dX11_init_91 rfl ?_
  refine v_iconst (v := 0) (pc := 92) hX dX11_init_92 (by decide) ?_
  refine v_bipush (v := 99) (pc := 93) hX dX11_init_93 (by decide) ?_
  refine v_iast (j := 0) (pc := 95) hX dX11_init_95 (wrW_kk hk hg) rfl (by decide) (by decide) ?_
  refine mV_eqM (m1 := (wrW m r 1)) (wrW_f (n := 0) (by decide) (by decide)) ?_
  refine v_dup (pc := 96) hX dX11_init_96 rfl ?_
  refine v_iconst (v := 1) (pc := 97) hX dX11_init_97 (by decide) ?_
  refine v_bipush (v := 111) (pc := 98) hX dX11_init_98 (by decide) ?_
  refine v_iast (j := 1) (pc := 100) hX dX11_init_100 (wrW_kk hk hg) rfl (by decide) (by decide) ?_
  refine mV_eqM (m1 := (wrW m r 2)) (wrW_f (n := 1) (by decide) (by decide)) ?_
  refine v_dup (pc := 101) hX dX11_init_101 rfl ?_
  refine v_iconst (v := 2) (pc := 102) hX dX11_init_102 (by decide) ?_
  refine v_bipush (v := 97) (pc := 103) hX dX11_init_103 (by decide) ?_
  refine v_iast (j := 2) (pc := 105) hX dX11_init_105 (wrW_kk hk hg) rfl (by decide) (by decide) ?_
  refine mV_eqM (m1 := (wrW m r 3)) (wrW_f (n := 2) (by decide) (by decide)) ?_
  refine v_dup (pc := 106) hX dX11_init_106 rfl ?_
  refine v_iconst (v := 3) (pc := 107) hX dX11_init_107 (by decide) ?_
  refine v_bipush (v := 108) (pc := 108) hX dX11_init_108 (by decide) ?_
  refine v_iast (j := 3) (pc := 110) hX dX11_init_110 (wrW_kk hk hg) rfl (by decide) (by decide) ?_
  refine mV_eqM (m1 := (wrW m r 4)) (wrW_f (n := 3) (by decide) (by decide)) ?_
  refine v_dup (pc := 111) hX dX11_init_111 rfl ?_
  refine v_iconst (v := 4) (pc := 112) hX dX11_init_112 (by decide) ?_
  refine v_bipush (v := 32) (pc := 113) hX dX11_init_113 (by decide) ?_
  refine v_iast (j := 4) (pc := 115) hX dX11_init_115 (wrW_kk hk hg) rfl (by decide) (by decide) ?_
  refine mV_eqM (m1 := (wrW m r 5)) (wrW_f (n := 4) (by decide) (by decide)) ?_
  refine v_dup (pc := 116) hX dX11_init_116 rfl ?_
  refine v_iconst (v := 5) (pc := 117) hX dX11_init_117 (by decide) ?_
  refine v_bipush (v := 98) (pc := 118) hX dX11_init_118 (by decide) ?_
  refine v_iast (j := 5) (pc := 120) hX dX11_init_120 (wrW_kk hk hg) rfl (by decide) (by decide) ?_
  refine mV_eqM (m1 := (wrW m r 6)) (wrW_f (n := 5) (by decide) (by decide)) ?_
  refine v_dup (pc := 121) hX dX11_init_121 rfl ?_
  refine v_bipush (v := 6) (pc := 122) hX dX11_init_122 (by decide) ?_
  refine v_bipush (v := 101) (pc := 124) hX dX11_init_124 (by decide) ?_
  refine v_iast (j := 6) (pc := 126) hX dX11_init_126 (wrW_kk hk hg) rfl (by decide) (by decide) ?_
  refine mV_eqM (m1 := (wrW m r 7)) (wrW_f (n := 6) (by decide) (by decide)) ?_
  refine v_dup (pc := 127) hX dX11_init_127 rfl ?_
  refine v_bipush (v := 7) (pc := 128) hX dX11_init_128 (by decide) ?_
  refine v_bipush (v := 108) (pc := 130) hX dX11_init_130 (by decide) ?_
  refine v_iast (j := 7) (pc := 132) hX dX11_init_132 (wrW_kk hk hg) rfl (by decide) (by decide) ?_
  refine mV_eqM (m1 := (wrW m r 8)) (wrW_f (n := 7) (by decide) (by decide)) ?_
  refine v_dup (pc := 133) hX dX11_init_133 rfl ?_
  refine v_bipush (v := 8) (pc := 134) hX dX11_init_134 (by decide) ?_
  refine v_bipush (v := 108) (pc := 136) hX dX11_init_136 (by decide) ?_
  refine v_iast (j := 8) (pc := 138) hX dX11_init_138 (wrW_kk hk hg) rfl (by decide) (by decide) ?_
  refine mV_eqM (m1 := (wrW m r 9)) (wrW_f (n := 8) (by decide) (by decide)) ?_
  refine v_dup (pc := 139) hX dX11_init_139 rfl ?_
  refine v_bipush (v := 9) (pc := 140) hX dX11_init_140 (by decide) ?_
  refine v_bipush (v := 111) (pc := 142) hX dX11_init_142 (by decide) ?_
  refine v_iast (j := 9) (pc := 144) hX dX11_init_144 (wrW_kk hk hg) rfl (by decide) (by decide) ?_
  refine mV_eqM (m1 := (wrW m r 10)) (wrW_f (n := 9) (by decide) (by decide)) ?_
  refine v_dup (pc := 145) hX dX11_init_145 rfl ?_
  refine v_bipush (v := 10) (pc := 146) hX dX11_init_146 (by decide) ?_
  refine v_bipush (v := 119) (pc := 148) hX dX11_init_148 (by decide) ?_
  refine v_iast (j := 10) (pc := 150) hX dX11_init_150 (wrW_kk hk hg) rfl (by decide) (by decide) ?_
  refine mV_eqM (m1 := (wrW m r 11)) (wrW_f (n := 10) (by decide) (by decide)) ?_
  refine v_dup (pc := 151) hX dX11_init_151 rfl ?_
  refine v_bipush (v := 11) (pc := 152) hX dX11_init_152 (by decide) ?_
  refine v_bipush (v := 115) (pc := 154) hX dX11_init_154 (by decide) ?_
  refine v_iast (j := 11) (pc := 156) hX dX11_init_156 (wrW_kk hk hg) rfl (by decide) (by decide) ?_
  refine mV_eqM (m1 := (wrW m r 12)) (wrW_f (n := 11) (by decide) (by decide)) ?_
  refine v_dup (pc := 157) hX dX11_init_157 rfl ?_
  refine v_bipush (v := 12) (pc := 158) hX dX11_init_158 (by decide) ?_
  refine v_bipush (v := 32) (pc := 160) hX dX11_init_160 (by decide) ?_
  refine v_iast (j := 12) (pc := 162) hX dX11_init_162 (wrW_kk hk hg) rfl (by decide) (by decide) ?_
  refine mV_eqM (m1 := (wrW m r 13)) (wrW_f (n := 12) (by decide) (by decide)) ?_
  refine v_dup (pc := 163) hX dX11_init_163 rfl ?_
  refine v_bipush (v := 13) (pc := 164) hX dX11_init_164 (by decide) ?_
  refine v_bipush (v := 112) (pc := 166) hX dX11_init_166 (by decide) ?_
  refine v_iast (j := 13) (pc := 168) hX dX11_init_168 (wrW_kk hk hg) rfl (by decide) (by decide) ?_
  refine mV_eqM (m1 := (wrW m r 14)) (wrW_f (n := 13) (by decide) (by decide)) ?_
  refine v_dup (pc := 169) hX dX11_init_169 rfl ?_
  refine v_bipush (v := 14) (pc := 170) hX dX11_init_170 (by decide) ?_
  refine v_bipush (v := 105) (pc := 172) hX dX11_init_172 (by decide) ?_
  refine v_iast (j := 14) (pc := 174) hX dX11_init_174 (wrW_kk hk hg) rfl (by decide) (by decide) ?_
  refine mV_eqM (m1 := (wrW m r 15)) (wrW_f (n := 14) (by decide) (by decide)) ?_
  refine v_dup (pc := 175) hX dX11_init_175 rfl ?_
  refine v_bipush (v := 15) (pc := 176) hX dX11_init_176 (by decide) ?_
  refine v_bipush (v := 101) (pc := 178) hX dX11_init_178 (by decide) ?_
  refine v_iast (j := 15) (pc := 180) hX dX11_init_180 (wrW_kk hk hg) rfl (by decide) (by decide) ?_
  refine mV_eqM (m1 := (wrW m r 16)) (wrW_f (n := 15) (by decide) (by decide)) ?_
  refine v_dup (pc := 181) hX dX11_init_181 rfl ?_
  refine v_bipush (v := 16) (pc := 182) hX dX11_init_182 (by decide) ?_
  refine v_bipush (v := 99) (pc := 184) hX dX11_init_184 (by decide) ?_
  refine v_iast (j := 16) (pc := 186) hX dX11_init_186 (wrW_kk hk hg) rfl (by decide) (by decide) ?_
  refine mV_eqM (m1 := (wrW m r 17)) (wrW_f (n := 16) (by decide) (by decide)) ?_
  refine v_dup (pc := 187) hX dX11_init_187 rfl ?_
  refine v_bipush (v := 17) (pc := 188) hX dX11_init_188 (by decide) ?_
  refine v_bipush (v := 101) (pc := 190) hX dX11_init_190 (by decide) ?_
  refine v_iast (j := 17) (pc := 192) hX dX11_init_192 (wrW_kk hk hg) rfl (by decide) (by decide) ?_
  refine mV_eqM (m1 := (wrW m r 18)) (wrW_f (n := 17) (by decide) (by decide)) ?_
  refine v_dup (pc := 193) hX dX11_init_193 rfl ?_
  refine v_bipush (v := 18) (pc := 194) hX dX11_init_194 (by decide) ?_
  refine v_bipush (v := 32) (pc := 196) hX dX11_init_196 (by decide) ?_
  refine v_iast (j := 18) (pc := 198) hX dX11_init_198 (wrW_kk hk hg) rfl (by decide) (by decide) ?_
  refine mV_eqM (m1 := (wrW m r 19)) (wrW_f (n := 18) (by decide) (by decide)) ?_
  refine v_dup (pc := 199) hX dX11_init_199 rfl ?_
  refine v_bipush (v := 19) (pc := 200) hX dX11_init_200 (by decide) ?_
  refine v_bipush (v := 116) (pc := 202) hX dX11_init_202 (by decide) ?_
  refine v_iast (j := 19) (pc := 204) hX dX11_init_204 (wrW_kk hk hg) rfl (by decide) (by decide) ?_
  refine mV_eqM (m1 := (wrW m r 20)) (wrW_f (n := 19) (by decide) (by decide)) ?_
  refine v_dup (pc := 205) hX dX11_init_205 rfl ?_
  refine v_bipush (v := 20) (pc := 206) hX dX11_init_206 (by decide) ?_
  refine v_bipush (v := 111) (pc := 208) hX dX11_init_208 (by decide) ?_
  refine v_iast (j := 20) (pc := 210) hX dX11_init_210 (wrW_kk hk hg) rfl (by decide) (by decide) ?_
  refine mV_eqM (m1 := (wrW m r 21)) (wrW_f (n := 20) (by decide) (by decide)) ?_
  refine v_dup (pc := 211) hX dX11_init_211 rfl ?_
  refine v_bipush (v := 21) (pc := 212) hX dX11_init_212 (by decide) ?_
  refine v_bipush (v := 111) (pc := 214) hX dX11_init_214 (by decide) ?_
  refine v_iast (j := 21) (pc := 216) hX dX11_init_216 (wrW_kk hk hg) rfl (by decide) (by decide) ?_
  refine mV_eqM (m1 := (wrW m r 22)) (wrW_f (n := 21) (by decide) (by decide)) ?_
  refine v_dup (pc := 217) hX dX11_init_217 rfl ?_
  refine v_bipush (v := 22) (pc := 218) hX dX11_init_218 (by decide) ?_
  refine v_bipush (v := 108) (pc := 220) hX dX11_init_220 (by decide) ?_
  refine v_iast (j := 22) (pc := 222) hX dX11_init_222 (wrW_kk hk hg) rfl (by decide) (by decide) ?_
  refine mV_eqM (m1 := (wrW m r 23)) (wrW_f (n := 22) (by decide) (by decide)) ?_
  refine v_dup (pc := 223) hX dX11_init_223 rfl ?_
  refine v_bipush (v := 23) (pc := 224) hX dX11_init_224 (by decide) ?_
  refine v_bipush (v := 32) (pc := 226) hX dX11_init_226 (by decide) ?_
  refine v_iast (j := 23) (pc := 228) hX dX11_init_228 (wrW_kk hk hg) rfl (by decide) (by decide) ?_
  refine mV_eqM (m1 := (wrW m r 24)) (wrW_f (n := 23) (by decide) (by decide)) ?_
  refine v_dup (pc := 229) hX dX11_init_229 rfl ?_
  refine v_bipush (v := 24) (pc := 230) hX dX11_init_230 (by decide) ?_
  refine v_bipush (v := 105) (pc := 232) hX dX11_init_232 (by decide) ?_
  refine v_iast (j := 24) (pc := 234) hX dX11_init_234 (wrW_kk hk hg) rfl (by decide) (by decide) ?_
  refine mV_eqM (m1 := (wrW m r 25)) (wrW_f (n := 24) (by decide) (by decide)) ?_
  refine v_dup (pc := 235) hX dX11_init_235 rfl ?_
  refine v_bipush (v := 25) (pc := 236) hX dX11_init_236 (by decide) ?_
  refine v_bipush (v := 110) (pc := 238) hX dX11_init_238 (by decide) ?_
  refine v_iast (j := 25) (pc := 240) hX dX11_init_240 (wrW_kk hk hg) rfl (by decide) (by decide) ?_
  refine mV_eqM (m1 := (wrW m r 26)) (wrW_f (n := 25) (by decide) (by decide)) ?_
  refine v_dup (pc := 241) hX dX11_init_241 rfl ?_
  refine v_bipush (v := 26) (pc := 242) hX dX11_init_242 (by decide) ?_
  refine v_bipush (v := 32) (pc := 244) hX dX11_init_244 (by decide) ?_
  refine v_iast (j := 26) (pc := 246) hX dX11_init_246 (wrW_kk hk hg) rfl (by decide) (by decide) ?_
  refine mV_eqM (m1 := (wrW m r 27)) (wrW_f (n := 26) (by decide) (by decide)) ?_
  refine v_dup (pc := 247) hX dX11_init_247 rfl ?_
  refine v_bipush (v := 27) (pc := 248) hX dX11_init_248 (by decide) ?_
  refine v_bipush (v := 111) (pc := 250) hX dX11_init_250 (by decide) ?_
  refine v_iast (j := 27) (pc := 252) hX dX11_init_252 (wrW_kk hk hg) rfl (by decide) (by decide) ?_
  refine mV_eqM (m1 := (wrW m r 28)) (wrW_f (n := 27) (by decide) (by decide)) ?_
  refine v_dup (pc := 253) hX dX11_init_253 rfl ?_
  refine v_bipush (v := 28) (pc := 254) hX dX11_init_254 (by decide) ?_
  refine v_bipush (v := 117) (pc := 256) hX dX11_init_256 (by decide) ?_
  refine v_iast (j := 28) (pc := 258) hX dX11_init_258 (wrW_kk hk hg) rfl (by decide) (by decide) ?_
  refine mV_eqM (m1 := (wrW m r 29)) (wrW_f (n := 28) (by decide) (by decide)) ?_
  refine v_dup (pc := 259) hX dX11_init_259 rfl ?_
  refine v_bipush (v := 29) (pc := 260) hX dX11_init_260 (by decide) ?_
  refine v_bipush (v := 116) (pc := 262) hX dX11_init_262 (by decide) ?_
  refine v_iast (j := 29) (pc := 264) hX dX11_init_264 (wrW_kk hk hg) rfl (by decide) (by decide) ?_
  refine mV_eqM (m1 := (wrW m r 30)) (wrW_f (n := 29) (by decide) (by decide)) ?_
  refine v_dup (pc := 265) hX dX11_init_265 rfl ?_
  refine v_bipush (v := 30) (pc := 266) hX dX11_init_266 (by decide) ?_
  refine v_bipush (v := 32) (pc := 268) hX dX11_init_268 (by decide) ?_
  refine v_iast (j := 30) (pc := 270) hX dX11_init_270 (wrW_kk hk hg) rfl (by decide) (by decide) ?_
  refine mV_eqM (m1 := (wrW m r 31)) (wrW_f (n := 30) (by decide) (by decide)) ?_
  refine v_dup (pc := 271) hX dX11_init_271 rfl ?_
  refine v_bipush (v := 31) (pc := 272) hX dX11_init_272 (by decide) ?_
  refine v_bipush (v := 104) (pc := 274) hX dX11_init_274 (by decide) ?_
  refine v_iast (j := 31) (pc := 276) hX dX11_init_276 (wrW_kk hk hg) rfl (by decide) (by decide) ?_
  refine mV_eqM (m1 := (wrW m r 32)) (wrW_f (n := 31) (by decide) (by decide)) ?_
  refine v_dup (pc := 277) hX dX11_init_277 rfl ?_
  refine v_bipush (v := 32) (pc := 278) hX dX11_init_278 (by decide) ?_
  refine v_bipush (v := 97) (pc := 280) hX dX11_init_280 (by decide) ?_
  refine v_iast (j := 32) (pc := 282) hX dX11_init_282 (wrW_kk hk hg) rfl (by decide) (by decide) ?_
  refine mV_eqM (m1 := (wrW m r 33)) (wrW_f (n := 32) (by decide) (by decide)) ?_
  refine v_dup (pc := 283) hX dX11_init_283 rfl ?_
  refine v_bipush (v := 33) (pc := 284) hX dX11_init_284 (by decide) ?_
  refine v_bipush (v := 109) (pc := 286) hX dX11_init_286 (by decide) ?_
  refine v_iast (j := 33) (pc := 288) hX dX11_init_288 (wrW_kk hk hg) rfl (by decide) (by decide) ?_
  refine mV_eqM (m1 := (wrW m r 34)) (wrW_f (n := 33) (by decide) (by decide)) ?_
  refine v_dup (pc := 289) hX dX11_init_289 rfl ?_
  refine v_bipush (v := 34) (pc := 290) hX dX11_init_290 (by decide) ?_
  refine v_bipush (v := 109) (pc := 292) hX dX11_init_292 (by decide) ?_
  refine v_iast (j := 34) (pc := 294) hX dX11_init_294 (wrW_kk hk hg) rfl (by decide) (by decide) ?_
  refine mV_eqM (m1 := (wrW m r 35)) (wrW_f (n := 34) (by decide) (by decide)) ?_
  refine v_dup (pc := 295) hX dX11_init_295 rfl ?_
  refine v_bipush (v := 35) (pc := 296) hX dX11_init_296 (by decide) ?_
  refine v_bipush (v := 101) (pc := 298) hX dX11_init_298 (by decide) ?_
  refine v_iast (j := 35) (pc := 300) hX dX11_init_300 (wrW_kk hk hg) rfl (by decide) (by decide) ?_
  refine mV_eqM (m1 := (wrW m r 36)) (wrW_f (n := 35) (by decide) (by decide)) ?_
  refine v_dup (pc := 301) hX dX11_init_301 rfl ?_
  refine v_bipush (v := 36) (pc := 302) hX dX11_init_302 (by decide) ?_
  refine v_bipush (v := 114) (pc := 304) hX dX11_init_304 (by decide) ?_
  refine v_iast (j := 36) (pc := 306) hX dX11_init_306 (wrW_kk hk hg) rfl (by decide) (by decide) ?_
  refine mV_eqM (m1 := (wrW m r 37)) (wrW_f (n := 36) (by decide) (by decide)) ?_
  refine v_dup (pc := 307) hX dX11_init_307 rfl ?_
  refine v_bipush (v := 37) (pc := 308) hX dX11_init_308 (by decide) ?_
  refine v_bipush (v := 32) (pc := 310) hX dX11_init_310 (by decide) ?_
  refine v_iast (j := 37) (pc := 312) hX dX11_init_312 (wrW_kk hk hg) rfl (by decide) (by decide) ?_
  refine mV_eqM (m1 := (wrW m r 38)) (wrW_f (n := 37) (by decide) (by decide)) ?_
  refine v_dup (pc := 313) hX dX11_init_313 rfl ?_
  refine v_bipush (v := 38) (pc := 314) hX dX11_init_314 (by decide) ?_
  refine v_bipush (v := 113) (pc := 316) hX dX11_init_316 (by decide) ?_
  refine v_iast (j := 38) (pc := 318) hX dX11_init_318 (wrW_kk hk hg) rfl (by decide) (by decide) ?_
  refine mV_eqM (m1 := (wrW m r 39)) (wrW_f (n := 38) (by decide) (by decide)) ?_
  refine v_dup (pc := 319) hX dX11_init_319 rfl ?_
  refine v_bipush (v := 39) (pc := 320) hX dX11_init_320 (by decide) ?_
  refine v_bipush (v := 117) (pc := 322) hX dX11_init_322 (by decide) ?_
  refine v_iast (j := 39) (pc := 324) hX dX11_init_324 (wrW_kk hk hg) rfl (by decide) (by decide) ?_
  refine mV_eqM (m1 := (wrW m r 40)) (wrW_f (n := 39) (by decide) (by decide)) ?_
  refine v_dup (pc := 325) hX dX11_init_325 rfl ?_
  refine v_bipush (v := 40) (pc := 326) hX dX11_init_326 (by decide) ?_
  refine v_bipush (v := 101) (pc := 328) hX dX11_init_328 (by decide) ?_
  refine v_iast (j := 40) (pc := 330) hX dX11_init_330 (wrW_kk hk hg) rfl (by decide) (by decide) ?_
  refine mV_eqM (m1 := (wrW m r 41)) (wrW_f (n := 40) (by decide) (by decide)) ?_
  refine v_dup (pc := 331) hX dX11_init_331 rfl ?_
  refine v_bipush (v := 41) (pc := 332) hX dX11_init_332 (by decide) ?_
  refine v_bipush (v := 110) (pc := 334) hX dX11_init_334 (by decide) ?_
  refine v_iast (j := 41) (pc := 336) hX dX11_init_336 (wrW_kk hk hg) rfl (by decide) (by decide) ?_
  refine mV_eqM (m1 := (wrW m r 42)) (wrW_f (n := 41) (by decide) (by decide)) ?_
  refine v_dup (pc := 337) hX dX11_init_337 rfl ?_
  refine v_bipush (v := 42) (pc := 338) hX dX11_init_338 (by decide) ?_
  refine v_bipush (v := 99) (pc := 340) hX dX11_init_340 (by decide) ?_
  refine v_iast (j := 42) (pc := 342) hX dX11_init_342 (wrW_kk hk hg) rfl (by decide) (by decide) ?_
  refine mV_eqM (m1 := (wrW m r 43)) (wrW_f (n := 42) (by decide) (by decide)) ?_
  refine v_dup (pc := 343) hX dX11_init_343 rfl ?_
  refine v_bipush (v := 43) (pc := 344) hX dX11_init_344 (by decide) ?_
  refine v_bipush (v := 104) (pc := 346) hX dX11_init_346 (by decide) ?_
  refine v_iast (j := 43) (pc := 348) hX dX11_init_348 (wrW_kk hk hg) rfl (by decide) (by decide) ?_
  refine mV_eqM (m1 := (wrW m r 44)) (wrW_f (n := 43) (by decide) (by decide)) ?_
  refine v_dup (pc := 349) hX dX11_init_349 rfl ?_
  refine v_bipush (v := 44) (pc := 350) hX dX11_init_350 (by decide) ?_
  refine v_bipush (v := 32) (pc := 352) hX dX11_init_352 (by decide) ?_
  refine v_iast (j := 44) (pc := 354) hX dX11_init_354 (wrW_kk hk hg) rfl (by decide) (by decide) ?_
  refine mV_eqM (m1 := (wrW m r 45)) (wrW_f (n := 44) (by decide) (by decide)) ?_
  refine v_dup (pc := 355) hX dX11_init_355 rfl ?_
  refine v_bipush (v := 45) (pc := 356) hX dX11_init_356 (by decide) ?_
  refine v_bipush (v := 116) (pc := 358) hX dX11_init_358 (by decide) ?_
  refine v_iast (j := 45) (pc := 360) hX dX11_init_360 (wrW_kk hk hg) rfl (by decide) (by decide) ?_
  refine mV_eqM (m1 := (wrW m r 46)) (wrW_f (n := 45) (by decide) (by decide)) ?_
  refine v_dup (pc := 361) hX dX11_init_361 rfl ?_
  refine v_bipush (v := 46) (pc := 362) hX dX11_init_362 (by decide) ?_
  refine v_bipush (v := 101) (pc := 364) hX dX11_init_364 (by decide) ?_
  refine v_iast (j := 46) (pc := 366) hX dX11_init_366 (wrW_kk hk hg) rfl (by decide) (by decide) ?_
  refine mV_eqM (m1 := (wrW m r 47)) (wrW_f (n := 46) (by decide) (by decide)) ?_
  refine v_dup (pc := 367) hX dX11_init_367 rfl ?_
  refine v_bipush (v := 47) (pc := 368) hX dX11_init_368 (by decide) ?_
  refine v_bipush (v := 115) (pc := 370) hX dX11_init_370 (by decide) ?_
  refine v_iast (j := 47) (pc := 372) hX dX11_init_372 (wrW_kk hk hg) rfl (by decide) (by decide) ?_
  refine mV_eqM (m1 := (wrW m r 48)) (wrW_f (n := 47) (by decide) (by decide)) ?_
  refine v_dup (pc := 373) hX dX11_init_373 rfl ?_
  refine v_bipush (v := 48) (pc := 374) hX dX11_init_374 (by decide) ?_
  refine v_bipush (v := 116) (pc := 376) hX dX11_init_376 (by decide) ?_
  refine v_iast (j := 48) (pc := 378) hX dX11_init_378 (wrW_kk hk hg) rfl (by decide) (by decide) ?_
  refine mV_eqM (m1 := (wrW m r 49)) (wrW_f (n := 48) (by decide) (by decide)) ?_
  refine v_dup (pc := 379) hX dX11_init_379 rfl ?_
  refine v_bipush (v := 49) (pc := 380) hX dX11_init_380 (by decide) ?_
  refine v_bipush (v := 32) (pc := 382) hX dX11_init_382 (by decide) ?_
  refine v_iast (j := 49) (pc := 384) hX dX11_init_384 (wrW_kk hk hg) rfl (by decide) (by decide) ?_
  refine mV_eqM (m1 := (wrW m r 50)) (wrW_f (n := 49) (by decide) (by decide)) ?_
  refine v_dup (pc := 385) hX dX11_init_385 rfl ?_
  refine v_bipush (v := 50) (pc := 386) hX dX11_init_386 (by decide) ?_
  refine v_bipush (v := 98) (pc := 388) hX dX11_init_388 (by decide) ?_
  refine v_iast (j := 50) (pc := 390) hX dX11_init_390 (wrW_kk hk hg) rfl (by decide) (by decide) ?_
  refine mV_eqM (m1 := (wrW m r 51)) (wrW_f (n := 50) (by decide) (by decide)) ?_
  refine v_dup (pc := 391) hX dX11_init_391 rfl ?_
  refine v_bipush (v := 51) (pc := 392) hX dX11_init_392 (by decide) ?_
  refine v_bipush (v := 105) (pc := 394) hX dX11_init_394 (by decide) ?_
  refine v_iast (j := 51) (pc := 396) hX dX11_init_396 (wrW_kk hk hg) rfl (by decide) (by decide) ?_
  refine mV_eqM (m1 := (wrW m r 52)) (wrW_f (n := 51) (by decide) (by decide)) ?_
  refine v_dup (pc := 397) hX dX11_init_397 rfl ?_
  refine v_bipush (v := 52) (pc := 398) hX dX11_init_398 (by decide) ?_
  refine v_bipush (v := 114) (pc := 400) hX dX11_init_400 (by decide) ?_
  refine v_iast (j := 52) (pc := 402) hX dX11_init_402 (wrW_kk hk hg) rfl (by decide) (by decide) ?_
  refine mV_eqM (m1 := (wrW m r 53)) (wrW_f (n := 52) (by decide) (by decide)) ?_
  refine v_dup (pc := 403) hX dX11_init_403 rfl ?_
  refine v_bipush (v := 53) (pc := 404) hX dX11_init_404 (by decide) ?_
  refine v_bipush (v := 100) (pc := 406) hX dX11_init_406 (by decide) ?_
  refine v_iast (j := 53) (pc := 408) hX dX11_init_408 (wrW_kk hk hg) rfl (by decide) (by decide) ?_
  refine mV_eqM (m1 := (wrW m r 54)) (wrW_f (n := 53) (by decide) (by decide)) ?_
  refine v_dup (pc := 409) hX dX11_init_409 rfl ?_
  refine v_bipush (v := 54) (pc := 410) hX dX11_init_410 (by decide) ?_
  refine v_bipush (v := 32) (pc := 412) hX dX11_init_412 (by decide) ?_
  refine v_iast (j := 54) (pc := 414) hX dX11_init_414 (wrW_kk hk hg) rfl (by decide) (by decide) ?_
  refine mV_eqM (m1 := (wrW m r 55)) (wrW_f (n := 54) (by decide) (by decide)) ?_
  refine v_dup (pc := 415) hX dX11_init_415 rfl ?_
  refine v_bipush (v := 55) (pc := 416) hX dX11_init_416 (by decide) ?_
  refine v_bipush (v := 115) (pc := 418) hX dX11_init_418 (by decide) ?_
  refine v_iast (j := 55) (pc := 420) hX dX11_init_420 (wrW_kk hk hg) rfl (by decide) (by decide) ?_
  refine mV_eqM (m1 := (wrW m r 56)) (wrW_f (n := 55) (by decide) (by decide)) ?_
  refine v_dup (pc := 421) hX dX11_init_421 rfl ?_
  refine v_bipush (v := 56) (pc := 422) hX dX11_init_422 (by decide) ?_
  refine v_bipush (v := 99) (pc := 424) hX dX11_init_424 (by decide) ?_
  refine v_iast (j := 56) (pc := 426) hX dX11_init_426 (wrW_kk hk hg) rfl (by decide) (by decide) ?_
  refine mV_eqM (m1 := (wrW m r 57)) (wrW_f (n := 56) (by decide) (by decide)) ?_
  refine v_dup (pc := 427) hX dX11_init_427 rfl ?_
  refine v_bipush (v := 57) (pc := 428) hX dX11_init_428 (by decide) ?_
  refine v_bipush (v := 114) (pc := 430) hX dX11_init_430 (by decide) ?_
  refine v_iast (j := 57) (pc := 432) hX dX11_init_432 (wrW_kk hk hg) rfl (by decide) (by decide) ?_
  refine mV_eqM (m1 := (wrW m r 58)) (wrW_f (n := 57) (by decide) (by decide)) ?_
  refine v_dup (pc := 433) hX dX11_init_433 rfl ?_
  refine v_bipush (v := 58) (pc := 434) hX dX11_init_434 (by decide) ?_
  refine v_bipush (v := 97) (pc := 436) hX dX11_init_436 (by decide) ?_
  refine v_iast (j := 58) (pc := 438) hX dX11_init_438 (wrW_kk hk hg) rfl (by decide) (by decide) ?_
  refine mV_eqM (m1 := (wrW m r 59)) (wrW_f (n := 58) (by decide) (by decide)) ?_
  refine v_dup (pc := 439) hX dX11_init_439 rfl ?_
  refine v_bipush (v := 59) (pc := 440) hX dX11_init_440 (by decide) ?_
  refine v_bipush (v := 112) (pc := 442) hX dX11_init_442 (by decide) ?_
  refine v_iast (j := 59) (pc := 444) hX dX11_init_444 (wrW_kk hk hg) rfl (by decide) (by decide) ?_
  refine mV_eqM (m1 := (wrW m r 60)) (wrW_f (n := 59) (by decide) (by decide)) ?_
  refine v_dup (pc := 445) hX dX11_init_445 rfl ?_
  refine v_bipush (v := 60) (pc := 446) hX dX11_init_446 (by decide) ?_
  refine v_bipush (v := 32) (pc := 448) hX dX11_init_448 (by decide) ?_
  refine v_iast (j := 60) (pc := 450) hX dX11_init_450 (wrW_kk hk hg) rfl (by decide) (by decide) ?_
  refine mV_eqM (m1 := (wrW m r 61)) (wrW_f (n := 60) (by decide) (by decide)) ?_
  refine v_dup (pc := 451) hX dX11_init_451 rfl ?_
  refine v_bipush (v := 61) (pc := 452) hX dX11_init_452 (by decide) ?_
  refine v_bipush (v := 119) (pc := 454) hX dX11_init_454 (by decide) ?_
  refine v_iast (j := 61) (pc := 456) hX dX11_init_456 (wrW_kk hk hg) rfl (by decide) (by decide) ?_
  refine mV_eqM (m1 := (wrW m r 62)) (wrW_f (n := 61) (by decide) (by decide)) ?_
  refine v_dup (pc := 457) hX dX11_init_457 rfl ?_
  refine v_bipush (v := 62) (pc := 458) hX dX11_init_458 (by decide) ?_
  refine v_bipush (v := 97) (pc := 460) hX dX11_init_460 (by decide) ?_
  refine v_iast (j := 62) (pc := 462) hX dX11_init_462 (wrW_kk hk hg) rfl (by decide) (by decide) ?_
  refine mV_eqM (m1 := (wrW m r 63)) (wrW_f (n := 62) (by decide) (by decide)) ?_
  refine v_dup (pc := 463) hX dX11_init_463 rfl ?_
  refine v_bipush (v := 63) (pc := 464) hX dX11_init_464 (by decide) ?_
  refine v_bipush (v := 105) (pc := 466) hX dX11_init_466 (by decide) ?_
  refine v_iast (j := 63) (pc := 468) hX dX11_init_468 (wrW_kk hk hg) rfl (by decide) (by decide) ?_
  refine mV_eqM (m1 := (wrW m r 64)) (wrW_f (n := 63) (by decide) (by decide)) ?_
  refine v_dup (pc := 469) hX dX11_init_469 rfl ?_
  refine v_bipush (v := 64) (pc := 470) hX dX11_init_470 (by decide) ?_
  refine v_bipush (v := 116) (pc := 472) hX dX11_init_472 (by decide) ?_
  refine v_iast (j := 64) (pc := 474) hX dX11_init_474 (wrW_kk hk hg) rfl (by decide) (by decide) ?_
  refine mV_eqM (m1 := (wrW m r 65)) (wrW_f (n := 64) (by decide) (by decide)) ?_
  refine v_dup (pc := 475) hX dX11_init_475 rfl ?_
  refine v_bipush (v := 65) (pc := 476) hX dX11_init_476 (by decide) ?_
  refine v_bipush (v := 32) (pc := 478) hX dX11_init_478 (by decide) ?_
  refine v_iast (j := 65) (pc := 480) hX dX11_init_480 (wrW_kk hk hg) rfl (by decide) (by decide) ?_
  refine mV_eqM (m1 := (wrW m r 66)) (wrW_f (n := 65) (by decide) (by decide)) ?_
  refine v_putF (m1 := (sR (wrW m r 66) 398 r (some (r + 10)))) (pc := 481) hX dX11_init_481 (wrW_k hk hg) (ci := 12) (r := vwC12) rfl 14 (by decide) wd_1520 rfl rfl rfl rfl rfl rfl ?_
  refine mV_eqM (m1 := (rcW m r)) (rcW_f) ?_
  refine v_aload_n (pc := 484) hX dX11_init_484 rfl ?_
  refine v_bipush (v := 13) (pc := 485) hX dX11_init_485 (by decide) ?_
  refine v_newarr (t := 0) (n := 13) (pc := 487) hX dX11_init_487 rfl (by decide) wd_272 rfl (by decide) (by show 10 + 1 ≤ 11; omega) (by show 0 + 85 + 85 + 85 + 680 + 16 + 60 + 50 + 12 + 4 + 66 + 13 ≤ 1156; omega) ?_
  rw [rcW_n hk hg]
  refine mV_eqM (m1 := (wrT m r 0)) (wrT_0) ?_
  refine v_dup (pc := 489) hX dX11_init_489 rfl ?_
  refine v_iconst (v := 0) (pc := 490) hX dX11_init_490 (by decide) ?_
  refine v_iconst (v := 0) (pc := 491) hX dX11_init_491 (by decide) ?_
  refine v_iast (j := 0) (pc := 492) hX dX11_init_492 (wrT_kk hk hg) rfl (by decide) (by decide) ?_
  refine mV_eqM (m1 := (wrT m r 1)) (wrT_f (n := 0) (by decide) (by decide)) ?_
  refine v_dup (pc := 493) hX dX11_init_493 rfl ?_
  refine v_iconst (v := 1) (pc := 494) hX dX11_init_494 (by decide) ?_
  refine v_iconst (v := 5) (pc := 495) hX dX11_init_495 (by decide) ?_
  refine v_iast (j := 1) (pc := 496) hX dX11_init_496 (wrT_kk hk hg) rfl (by decide) (by decide) ?_
  refine mV_eqM (m1 := (wrT m r 2)) (wrT_f (n := 1) (by decide) (by decide)) ?_
  refine v_dup (pc := 497) hX dX11_init_497 rfl ?_
  refine v_iconst (v := 2) (pc := 498) hX dX11_init_498 (by decide) ?_
  refine v_bipush (v := 13) (pc := 499) hX dX11_init_499 (by decide) ?_
  refine v_iast (j := 2) (pc := 501) hX dX11_init_501 (wrT_kk hk hg) rfl (by decide) (by decide) ?_
  refine mV_eqM (m1 := (wrT m r 3)) (wrT_f (n := 2) (by decide) (by decide)) ?_
  refine v_dup (pc := 502) hX dX11_init_502 rfl ?_
  refine v_iconst (v := 3) (pc := 503) hX dX11_init_503 (by decide) ?_
  refine v_bipush (v := 19) (pc := 504) hX dX11_init_504 (by decide) ?_
  refine v_iast (j := 3) (pc := 506) hX dX11_init_506 (wrT_kk hk hg) rfl (by decide) (by decide) ?_
  refine mV_eqM (m1 := (wrT m r 4)) (wrT_f (n := 3) (by decide) (by decide)) ?_
  refine v_dup (pc := 507) hX dX11_init_507 rfl ?_
  refine v_iconst (v := 4) (pc := 508) hX dX11_init_508 (by decide) ?_
  refine v_bipush (v := 24) (pc := 509) hX dX11_init_509 (by decide) ?_
  refine v_iast (j := 4) (pc := 511) hX dX11_init_511 (wrT_kk hk hg) rfl (by decide) (by decide) ?_
  refine mV_eqM (m1 := (wrT m r 5)) (wrT_f (n := 4) (by decide) (by decide)) ?_
  refine v_dup (pc := 512) hX dX11_init_512 rfl ?_
  refine v_iconst (v := 5) (pc := 513) hX dX11_init_513 (by decide) ?_
  refine v_bipush (v := 27) (pc := 514) hX dX11_init_514 (by decide) ?_
  refine v_iast (j := 5) (pc := 516) hX dX11_init_516 (wrT_kk hk hg) rfl (by decide) (by decide) ?_
  refine mV_eqM (m1 := (wrT m r 6)) (wrT_f (n := 5) (by decide) (by decide)) ?_
  refine v_dup (pc := 517) hX dX11_init_517 rfl ?_
  refine v_bipush (v := 6) (pc := 518) hX dX11_init_518 (by decide) ?_
  refine v_bipush (v := 31) (pc := 520) hX dX11_init_520 (by decide) ?_
  refine v_iast (j := 6) (pc := 522) hX dX11_init_522 (wrT_kk hk hg) rfl (by decide) (by decide) ?_
  refine mV_eqM (m1 := (wrT m r 7)) (wrT_f (n := 6) (by decide) (by decide)) ?_
  refine v_dup (pc := 523) hX dX11_init_523 rfl ?_
  refine v_bipush (v := 7) (pc := 524) hX dX11_init_524 (by decide) ?_
  refine v_bipush (v := 38) (pc := 526) hX dX11_init_526 (by decide) ?_
  refine v_iast (j := 7) (pc := 528) hX dX11_init_528 (wrT_kk hk hg) rfl (by decide) (by decide) ?_
  refine mV_eqM (m1 := (wrT m r 8)) (wrT_f (n := 7) (by decide) (by decide)) ?_
  refine v_dup (pc := 529) hX dX11_init_529 rfl ?_
  refine v_bipush (v := 8) (pc := 530) hX dX11_init_530 (by decide) ?_
  refine v_bipush (v := 45) (pc := 532) hX dX11_init_532 (by decide) ?_
  refine v_iast (j := 8) (pc := 534) hX dX11_init_534 (wrT_kk hk hg) rfl (by decide) (by decide) ?_
  refine mV_eqM (m1 := (wrT m r 9)) (wrT_f (n := 8) (by decide) (by decide)) ?_
  refine v_dup (pc := 535) hX dX11_init_535 rfl ?_
  refine v_bipush (v := 9) (pc := 536) hX dX11_init_536 (by decide) ?_
  refine v_bipush (v := 50) (pc := 538) hX dX11_init_538 (by decide) ?_
  refine v_iast (j := 9) (pc := 540) hX dX11_init_540 (wrT_kk hk hg) rfl (by decide) (by decide) ?_
  refine mV_eqM (m1 := (wrT m r 10)) (wrT_f (n := 9) (by decide) (by decide)) ?_
  refine v_dup (pc := 541) hX dX11_init_541 rfl ?_
  refine v_bipush (v := 10) (pc := 542) hX dX11_init_542 (by decide) ?_
  refine v_bipush (v := 55) (pc := 544) hX dX11_init_544 (by decide) ?_
  refine v_iast (j := 10) (pc := 546) hX dX11_init_546 (wrT_kk hk hg) rfl (by decide) (by decide) ?_
  refine mV_eqM (m1 := (wrT m r 11)) (wrT_f (n := 10) (by decide) (by decide)) ?_
  refine v_dup (pc := 547) hX dX11_init_547 rfl ?_
  refine v_bipush (v := 11) (pc := 548) hX dX11_init_548 (by decide) ?_
  refine v_bipush (v := 61) (pc := 550) hX dX11_init_550 (by decide) ?_
  refine v_iast (j := 11) (pc := 552) hX dX11_init_552 (wrT_kk hk hg) rfl (by decide) (by decide) ?_
  refine mV_eqM (m1 := (wrT m r 12)) (wrT_f (n := 11) (by decide) (by decide)) ?_
  refine v_dup (pc := 553) hX dX11_init_553 rfl ?_
  refine v_bipush (v := 12) (pc := 554) hX dX11_init_554 (by decide) ?_
  refine v_bipush (v := 66) (pc := 556) hX dX11_init_556 (by decide) ?_
  refine v_iast (j := 12) (pc := 558) hX dX11_init_558 (wrT_kk hk hg) rfl (by decide) (by decide) ?_
  refine mV_eqM (m1 := (wrT m r 13)) (wrT_f (n := 12) (by decide) (by decide)) ?_
  refine v_putF (m1 := (sR (wrT m r 13) 399 r (some (r + 11)))) (pc := 559) hX dX11_init_559 (wrT_k hk hg) (ci := 12) (r := vwC12) rfl 15 (by decide) wd_1521 rfl rfl rfl rfl rfl rfl ?_
  refine mV_eqM (m1 := (rcT m r)) (rcT_f) ?_
  refine v_aload_n (pc := 562) hX dX11_init_562 rfl ?_
  refine v_get (v := .ref (r + 1)) (pc := 563) hX dX11_init_563 (rcT_k hk hg) (ci := 12) (r := vwC12) rfl 5 (by decide) wd_1511 (fvA rfl ((rcT_v hk hg))) ?_
  refine v_iconst (v := 1) (pc := 566) hX dX11_init_566 (by decide) ?_
  refine v_bipush (v := 20) (pc := 567) hX dX11_init_567 (by decide) ?_
  refine v_iast (j := 1) (pc := 569) hX dX11_init_569 (rcT_kv hk hg) rfl (by decide) (by decide) ?_
  refine v_aload_n (pc := 570) hX dX11_init_570 rfl ?_
  refine v_get (v := .ref (r + 1)) (pc := 571) hX dX11_init_571 (by simp only [mm]; exact rcT_k hk hg) (ci := 12) (r := vwC12) rfl 5 (by decide) wd_1511 (fvA rfl ((by simp only [mm]; exact rcT_v hk hg))) ?_
  refine v_iconst (v := 3) (pc := 574) hX dX11_init_574 (by decide) ?_
  refine v_bipush (v := 20) (pc := 575) hX dX11_init_575 (by decide) ?_
  refine v_iast (j := 3) (pc := 577) hX dX11_init_577 (by simp only [mm]; exact rcT_kv hk hg) rfl (by decide) (by decide) ?_
  refine v_aload_n (pc := 578) hX dX11_init_578 rfl ?_
  refine v_get (v := .ref (r + 1)) (pc := 579) hX dX11_init_579 (by simp only [mm]; exact rcT_k hk hg) (ci := 12) (r := vwC12) rfl 5 (by decide) wd_1511 (fvA rfl ((by simp only [mm]; exact rcT_v hk hg))) ?_
  refine v_iconst (v := 4) (pc := 582) hX dX11_init_582 (by decide) ?_
  refine v_iconst (v := 1) (pc := 583) hX dX11_init_583 (by decide) ?_
  refine v_iast (j := 4) (pc := 584) hX dX11_init_584 (by simp only [mm]; exact rcT_kv hk hg) rfl (by decide) (by decide) ?_
  exact v_vret (pc := 585) hX hZ dX11_init_585 (by decide) (by omega) ⟨rfl, (by rw [X11_init_m])⟩
