/-! ARRAYS AND NEW CELLS -/
theorem cell_i (cA : ClassId) (n : Nat) (f : Nat → Int32) (j : Nat) (v : Int32) : (vp_cell cA (n, .inl f)).setSlot j (.int v) = vp_cell cA (n, .inl (fun q => if q = j then v else f q)) := by
  rw [vp_cell_i, vp_cell_i, arrV_store]
  refine congrArg (arrV cA n) (funext fun q => ?_)
  by_cases h : q = j <;> simp [updV, h]
theorem cell_l (cA : ClassId) (n : Nat) (f : Nat → Int64) (j : Nat) (v : Int64) : (vp_cell cA (n, .inr (.inl f))).setSlot j (.long v) = vp_cell cA (n, .inr (.inl (fun q => if q = j then v else f q))) := by
  rw [vp_cell_l, vp_cell_l, arrV_store]
  refine congrArg (arrV cA n) (funext fun q => ?_)
  by_cases h : q = j <;> simp [updV, h]
theorem cell_d (cA : ClassId) (n : Nat) (f : Nat → UInt64) (j : Nat) (v : UInt64) : (vp_cell cA (n, .inr (.inr (.inr (.inl f))))).setSlot j (.double v) = vp_cell cA (n, .inr (.inr (.inr (.inl (fun q => if q = j then v else f q))))) := by
  rw [vp_cell_d, vp_cell_d, arrV_store]
  refine congrArg (arrV cA n) (funext fun q => ?_)
  by_cases h : q = j <;> simp [updV, h]
theorem cell_q (cA : ClassId) (n : Nat) (f : Nat → Option Nat) (j : Nat) (v : Option Nat) : (vp_cell cA (n, .inr (.inr (.inr (.inr f))))).setSlot j (va_rf v) = vp_cell cA (n, .inr (.inr (.inr (.inr (fun q => if q = j then v else f q))))) := by
  rw [vp_cell_q, vp_cell_q, arrV_store]
  refine congrArg (arrV cA n) (funext fun q => ?_)
  by_cases h : q = j <;> simp [updV, h]
theorem gA_s (m : mM) (a j : Nat) (v : Int32) : gA (sA m a j v) a = fun q => if q = j then v else gA m a q := by funext q; simp [mm]
theorem gL_s (m : mM) (a j : Nat) (v : Int64) : gL (sL m a j v) a = fun q => if q = j then v else gL m a q := by funext q; simp [mm]
theorem gD_s (m : mM) (a j : Nat) (v : UInt64) : gD (sD m a j v) a = fun q => if q = j then v else gD m a q := by funext q; simp [mm]
theorem gQ_s (m : mM) (a j : Nat) (v : Option Nat) : gQ (sQ m a j v) a = fun q => if q = j then v else gQ m a q := by funext q; simp [mm]
theorem mP_arr {g : mG} {m m1 : mM} {H H1 : Heap} {a t n : Nat} (hP : mP g m H) (hk : gK m a = some (.inr (t, n))) (hK : gK m1 = gK m) (hN : gN m1 = gN m) (hs : ∀ b, b ≠ a → mS m m1 b) (z : H1.size = H.size) (oq : ∀ q : Nat, q ≠ a → H1[q]? = H[q]?) (h : H1[a]? = some (vp_cell (g.2.1 t) (n, arrOf t m1 a))) : mP g m1 H1 := mP_set hP hk hK hN hs z oq h

section
variable {l : Launch} {g : mG} {x : mCx} {m m1 : mM} {cc : ByteArray} {y : MethodName} {rm : Room} {nL : Nat} {ce sl pc : Nat} {lv : List (Nat × Value)} {st : List Value}
theorem v_iald {a n j : Nat} {i : Int32} {v : Int32} (hX : mX l g x cc y rm nL) (hdg : decode cc pc = .ok (.iaload, 1)) (hκ : gK m a = some (.inr (0, n))) (hi : i = nI j) (hj : j < n) (hn : n < 2 ^ 31) (hv : gA m a j = v) (kk : mV g x m ce sl (pc + 1) lv (.int v :: st)) : mV g x m ce sl pc lv (.int i :: .ref a :: st) := by
  obtain ⟨p, l', e, R, s, md, args, below, meth, c, Q⟩ := x
  obtain ⟨rfl, hx, hb, hml, ⟨hown, hnm⟩, hts, hvm, rfl, hO, hH9⟩ := hX
  subst hi
  subst hv
  intro H locs ls hP hz hL hl
  refine va_iald hx hb (mO_K hO hvm) (va_P1 (q := (a, .inl (g.2.1 0, n, arrOf 0 m a))) (hP.2.2 a _ hκ).2) 0 0 rfl (tysL_at _ (by decide)) (vp_in_nI hj hn) hdg ?_
  rw [nI_clamp (Nat.lt_trans hj hn)]
  exact kk H locs ls hP hz hL hl
theorem v_cald {a n j : Nat} {i : Int32} {v : Int32} (hX : mX l g x cc y rm nL) (hdg : decode cc pc = .ok (.caload, 1)) (hκ : gK m a = some (.inr (1, n))) (hi : i = nI j) (hj : j < n) (hn : n < 2 ^ 31) (hv : gA m a j = v) (kk : mV g x m ce sl (pc + 1) lv (.int v :: st)) : mV g x m ce sl pc lv (.int i :: .ref a :: st) := by
  obtain ⟨p, l', e, R, s, md, args, below, meth, c, Q⟩ := x
  obtain ⟨rfl, hx, hb, hml, ⟨hown, hnm⟩, hts, hvm, rfl, hO, hH9⟩ := hX
  subst hi
  subst hv
  intro H locs ls hP hz hL hl
  refine va_cald hx hb (mO_K hO hvm) (va_P1 (q := (a, .inl (g.2.1 1, n, arrOf 1 m a))) (hP.2.2 a _ hκ).2) 0 1 rfl (tysL_at _ (by decide)) (vp_in_nI hj hn) hdg ?_
  rw [nI_clamp (Nat.lt_trans hj hn)]
  exact kk H locs ls hP hz hL hl
theorem v_bald {a n j : Nat} {i : Int32} {v : Int32} (hX : mX l g x cc y rm nL) (hdg : decode cc pc = .ok (.baload, 1)) (hκ : gK m a = some (.inr (2, n))) (hi : i = nI j) (hj : j < n) (hn : n < 2 ^ 31) (hv : gA m a j = v) (kk : mV g x m ce sl (pc + 1) lv (.int v :: st)) : mV g x m ce sl pc lv (.int i :: .ref a :: st) := by
  obtain ⟨p, l', e, R, s, md, args, below, meth, c, Q⟩ := x
  obtain ⟨rfl, hx, hb, hml, ⟨hown, hnm⟩, hts, hvm, rfl, hO, hH9⟩ := hX
  subst hi
  subst hv
  intro H locs ls hP hz hL hl
  refine va_bald hx hb (mO_K hO hvm) (va_P1 (q := (a, .inl (g.2.1 2, n, arrOf 2 m a))) (hP.2.2 a _ hκ).2) 0 2 rfl (tysL_at _ (by decide)) (vp_in_nI hj hn) hdg ?_
  rw [nI_clamp (Nat.lt_trans hj hn)]
  exact kk H locs ls hP hz hL hl
theorem v_lald {a n j : Nat} {i : Int32} {v : Int64} (hX : mX l g x cc y rm nL) (hdg : decode cc pc = .ok (.laload, 1)) (hκ : gK m a = some (.inr (4, n))) (hi : i = nI j) (hj : j < n) (hn : n < 2 ^ 31) (hv : gL m a j = v) (kk : mV g x m ce sl (pc + 1) lv (.long v :: st)) : mV g x m ce sl pc lv (.int i :: .ref a :: st) := by
  obtain ⟨p, l', e, R, s, md, args, below, meth, c, Q⟩ := x
  obtain ⟨rfl, hx, hb, hml, ⟨hown, hnm⟩, hts, hvm, rfl, hO, hH9⟩ := hX
  subst hi
  subst hv
  intro H locs ls hP hz hL hl
  refine va_lald hx hb (mO_K hO hvm) (va_P1 (q := (a, .inl (g.2.1 4, n, arrOf 4 m a))) (hP.2.2 a _ hκ).2) 0 4 rfl (tysL_at _ (by decide)) (vp_in_nI hj hn) hdg ?_
  rw [nI_clamp (Nat.lt_trans hj hn)]
  exact kk H locs ls hP hz hL hl
theorem v_dald {a n j : Nat} {i : Int32} {v : UInt64} (hX : mX l g x cc y rm nL) (hdg : decode cc pc = .ok (.daload, 1)) (hκ : gK m a = some (.inr (5, n))) (hi : i = nI j) (hj : j < n) (hn : n < 2 ^ 31) (hv : gD m a j = v) (kk : mV g x m ce sl (pc + 1) lv (.double v :: st)) : mV g x m ce sl pc lv (.int i :: .ref a :: st) := by
  obtain ⟨p, l', e, R, s, md, args, below, meth, c, Q⟩ := x
  obtain ⟨rfl, hx, hb, hml, ⟨hown, hnm⟩, hts, hvm, rfl, hO, hH9⟩ := hX
  subst hi
  subst hv
  intro H locs ls hP hz hL hl
  refine va_dald hx hb (mO_K hO hvm) (va_P1 (q := (a, .inl (g.2.1 5, n, arrOf 5 m a))) (hP.2.2 a _ hκ).2) 0 5 rfl (tysL_at _ (by decide)) (vp_in_nI hj hn) hdg ?_
  rw [nI_clamp (Nat.lt_trans hj hn)]
  exact kk H locs ls hP hz hL hl
theorem v_aald {a t n j : Nat} {i : Int32} {C : String} {v : Option Nat} (hX : mX l g x cc y rm nL) (hdg : decode cc pc = .ok (.aaload, 1)) (hκ : gK m a = some (.inr (t, n))) (ht : t < 10) (ht6 : 6 ≤ t) (hi : i = nI j) (hj : j < n) (hn : n < 2 ^ 31) (hv : gQ m a j = v) (kk : mV g x m ce sl (pc + 1) lv (va_rf v :: st)) : mV g x m ce sl pc lv (.int i :: .ref a :: st) := by
  obtain ⟨p, l', e, R, s, md, args, below, meth, c, Q⟩ := x
  obtain ⟨rfl, hx, hb, hml, ⟨hown, hnm⟩, hts, hvm, rfl, hO, hH9⟩ := hX
  subst hi
  subst hv
  intro H locs ls hP hz hL hl
  have ha : arrOf t m a = .inr (.inr (.inr (.inr (gQ m a)))) := by
    match t, ht6 with
    | n + 6, _ => rfl
  have hty : ∃ C, aty t = .object C := by
    have : t = 6 ∨ t = 7 ∨ t = 8 ∨ t = 9 := by omega
    rcases this with rfl | rfl | rfl | rfl <;> exact ⟨_, rfl⟩
  obtain ⟨C, hC⟩ := hty
  refine va_aldq (C := C) hx hb (mO_K hO hvm) (va_P1 (q := (a, .inl (g.2.1 t, n, .inr (.inr (.inr (.inr (gQ m a))))))) (by rw [← ha]; exact (hP.2.2 a _ hκ).2)) 0 t rfl (by rw [← hC]; exact tysL_at _ (by omega)) (vp_in_nI hj hn) hdg ?_
  rw [nI_clamp (Nat.lt_trans hj hn)]
  exact kk H locs ls hP hz hL hl
theorem v_aaldA {a n j : Nat} {i : Int32} {v : Option Nat} (hX : mX l g x cc y rm nL) (hdg : decode cc pc = .ok (.aaload, 1)) (hκ : gK m a = some (.inr (10, n))) (hi : i = nI j) (hj : j < n) (hn : n < 2 ^ 31) (hv : gQ m a j = v) (kk : mV g x m ce sl (pc + 1) lv (va_rf v :: st)) : mV g x m ce sl pc lv (.int i :: .ref a :: st) := by
  obtain ⟨p, l', e, R, s, md, args, below, meth, c, Q⟩ := x
  obtain ⟨rfl, hx, hb, hml, ⟨hown, hnm⟩, hts, hvm, rfl, hO, hH9⟩ := hX
  subst hi
  subst hv
  intro H locs ls hP hz hL hl
  have hin : ¬ (nI j < 0 ∨ n ≤ (nI j).toNatClampNeg) := vp_in_nI hj hn
  refine W.aald (v := va_rf (gQ m a j)) (ty := .array .int) hx hb (hP.2.2 a _ hκ).2 (((mO_K hO hvm).2 10 _ (tysL_at _ (by decide))).1 n (fun j => va_rf (gQ m a j))) rfl (fun q => by cases q) (by show ¬ (_ < 0 ∨ (arrV _ _ _).slots.size ≤ _); rw [arrV_size]; exact hin) (by show (arrV _ _ _).slots[_]? = _; rw [nI_clamp (Nat.lt_trans hj hn), arrV_read _ _ hj]) rfl rfl hdg (kk H locs ls hP hz hL hl)
theorem v_iast {a n j : Nat} {i : Int32} {v : Int32} (hX : mX l g x cc y rm nL) (hdg : decode cc pc = .ok (.iastore, 1)) (hκ : gK m a = some (.inr (0, n))) (hi : i = nI j) (hj : j < n) (hn : n < 2 ^ 31) (kk : mV g x (sA m a j v) ce sl (pc + 1) lv st) : mV g x m ce sl pc lv (.int v :: .int i :: .ref a :: st) := by
  obtain ⟨p, l', e, R, s, md, args, below, meth, c, Q⟩ := x
  obtain ⟨rfl, hx, hb, hml, ⟨hown, hnm⟩, hts, hvm, rfl, hO, hH9⟩ := hX
  subst hi
  intro H locs ls hP hz hL hl
  have hin : ¬ (nI j < 0 ∨ n ≤ (nI j).toNatClampNeg) := vp_in_nI hj hn
  refine W.iast hx hb (hP.2.2 a _ hκ).2 (((mO_K hO hvm).2 0 _ (tysL_at _ (by decide))).1 n (fun j => .int (gA m a j))) (fun q => by cases q) (by show ¬ (_ < 0 ∨ (arrV _ _ _).slots.size ≤ _); rw [arrV_size]; exact hin) rfl rfl hdg fun H1 e z oq => ?_
  refine kk H1 _ ls (mP_arr hP hκ rfl rfl (fun b hb => mS_A hb) z oq ?_) hz (t_lc hL (hP.2.2 a _ hκ).1) hl
  rw [nI_clamp (Nat.lt_trans hj hn)] at e
  rw [e]
  show some ((vp_cell (g.2.1 0) (n, arrOf 0 m a)).setSlot j (.int v)) = some (vp_cell (g.2.1 0) (n, arrOf 0 (sA m a j v) a))
  refine congrArg some ((cell_i _ _ _ _ _).trans ?_)
  rw [← gA_s]
  rfl
theorem v_cast {a n j : Nat} {i : Int32} {u v : Int32} (hX : mX l g x cc y rm nL) (hdg : decode cc pc = .ok (.castore, 1)) (hκ : gK m a = some (.inr (1, n))) (hi : i = nI j) (hj : j < n) (hn : n < 2 ^ 31) (hv : narrow .char (.int u) = .int v) (kk : mV g x (sA m a j v) ce sl (pc + 1) lv st) : mV g x m ce sl pc lv (.int u :: .int i :: .ref a :: st) := by
  obtain ⟨p, l', e, R, s, md, args, below, meth, c, Q⟩ := x
  obtain ⟨rfl, hx, hb, hml, ⟨hown, hnm⟩, hts, hvm, rfl, hO, hH9⟩ := hX
  subst hi
  intro H locs ls hP hz hL hl
  have hin : ¬ (nI j < 0 ∨ n ≤ (nI j).toNatClampNeg) := vp_in_nI hj hn
  refine W.cast hx hb (hP.2.2 a _ hκ).2 (((mO_K hO hvm).2 1 _ (tysL_at _ (by decide))).1 n (fun j => .int (gA m a j))) (fun q => by cases q) (by show ¬ (_ < 0 ∨ (arrV _ _ _).slots.size ≤ _); rw [arrV_size]; exact hin) rfl rfl hdg fun H1 e z oq => ?_
  refine kk H1 _ ls (mP_arr hP hκ rfl rfl (fun b hb => mS_A hb) z oq ?_) hz (t_lc hL (hP.2.2 a _ hκ).1) hl
  rw [nI_clamp (Nat.lt_trans hj hn)] at e
  rw [e, hv]
  show some ((vp_cell (g.2.1 1) (n, arrOf 1 m a)).setSlot j (.int v)) = some (vp_cell (g.2.1 1) (n, arrOf 1 (sA m a j v) a))
  refine congrArg some ((cell_i _ _ _ _ _).trans ?_)
  rw [← gA_s]
  rfl
theorem v_bast {a n j : Nat} {i : Int32} {u v : Int32} (hX : mX l g x cc y rm nL) (hdg : decode cc pc = .ok (.bastore, 1)) (hκ : gK m a = some (.inr (2, n))) (hi : i = nI j) (hj : j < n) (hn : n < 2 ^ 31) (hv : narrow .byte (.int u) = .int v) (kk : mV g x (sA m a j v) ce sl (pc + 1) lv st) : mV g x m ce sl pc lv (.int u :: .int i :: .ref a :: st) := by
  obtain ⟨p, l', e, R, s, md, args, below, meth, c, Q⟩ := x
  obtain ⟨rfl, hx, hb, hml, ⟨hown, hnm⟩, hts, hvm, rfl, hO, hH9⟩ := hX
  subst hi
  intro H locs ls hP hz hL hl
  have hin : ¬ (nI j < 0 ∨ n ≤ (nI j).toNatClampNeg) := vp_in_nI hj hn
  refine W.bast hx hb (hP.2.2 a _ hκ).2 (((mO_K hO hvm).2 2 _ (tysL_at _ (by decide))).1 n (fun j => .int (gA m a j))) (fun q => by cases q) (by show ¬ (_ < 0 ∨ (arrV _ _ _).slots.size ≤ _); rw [arrV_size]; exact hin) rfl rfl hdg fun H1 e z oq => ?_
  refine kk H1 _ ls (mP_arr hP hκ rfl rfl (fun b hb => mS_A hb) z oq ?_) hz (t_lc hL (hP.2.2 a _ hκ).1) hl
  rw [nI_clamp (Nat.lt_trans hj hn)] at e
  rw [e, hv]
  show some ((vp_cell (g.2.1 2) (n, arrOf 2 m a)).setSlot j (.int v)) = some (vp_cell (g.2.1 2) (n, arrOf 2 (sA m a j v) a))
  refine congrArg some ((cell_i _ _ _ _ _).trans ?_)
  rw [← gA_s]
  rfl
theorem v_last {a n j : Nat} {i : Int32} {v : Int64} (hX : mX l g x cc y rm nL) (hdg : decode cc pc = .ok (.lastore, 1)) (hκ : gK m a = some (.inr (4, n))) (hi : i = nI j) (hj : j < n) (hn : n < 2 ^ 31) (kk : mV g x (sL m a j v) ce sl (pc + 1) lv st) : mV g x m ce sl pc lv (.long v :: .int i :: .ref a :: st) := by
  obtain ⟨p, l', e, R, s, md, args, below, meth, c, Q⟩ := x
  obtain ⟨rfl, hx, hb, hml, ⟨hown, hnm⟩, hts, hvm, rfl, hO, hH9⟩ := hX
  subst hi
  intro H locs ls hP hz hL hl
  have hin : ¬ (nI j < 0 ∨ n ≤ (nI j).toNatClampNeg) := vp_in_nI hj hn
  refine W.last hx hb (hP.2.2 a _ hκ).2 (((mO_K hO hvm).2 4 _ (tysL_at _ (by decide))).1 n (fun j => .long (gL m a j))) (fun q => by cases q) (by show ¬ (_ < 0 ∨ (arrV _ _ _).slots.size ≤ _); rw [arrV_size]; exact hin) rfl rfl hdg fun H1 e z oq => ?_
  refine kk H1 _ ls (mP_arr hP hκ rfl rfl (fun b hb => mS_L hb) z oq ?_) hz (t_lc hL (hP.2.2 a _ hκ).1) hl
  rw [nI_clamp (Nat.lt_trans hj hn)] at e
  rw [e]
  show some ((vp_cell (g.2.1 4) (n, arrOf 4 m a)).setSlot j (.long v)) = some (vp_cell (g.2.1 4) (n, arrOf 4 (sL m a j v) a))
  refine congrArg some ((cell_l _ _ _ _ _).trans ?_)
  rw [← gL_s]
  rfl
theorem v_dast {a n j : Nat} {i : Int32} {v : UInt64} (hX : mX l g x cc y rm nL) (hdg : decode cc pc = .ok (.dastore, 1)) (hκ : gK m a = some (.inr (5, n))) (hi : i = nI j) (hj : j < n) (hn : n < 2 ^ 31) (kk : mV g x (sD m a j v) ce sl (pc + 1) lv st) : mV g x m ce sl pc lv (.double v :: .int i :: .ref a :: st) := by
  obtain ⟨p, l', e, R, s, md, args, below, meth, c, Q⟩ := x
  obtain ⟨rfl, hx, hb, hml, ⟨hown, hnm⟩, hts, hvm, rfl, hO, hH9⟩ := hX
  subst hi
  intro H locs ls hP hz hL hl
  have hin : ¬ (nI j < 0 ∨ n ≤ (nI j).toNatClampNeg) := vp_in_nI hj hn
  refine W.dast hx hb (hP.2.2 a _ hκ).2 (((mO_K hO hvm).2 5 _ (tysL_at _ (by decide))).1 n (fun j => .double (gD m a j))) (fun q => by cases q) (by show ¬ (_ < 0 ∨ (arrV _ _ _).slots.size ≤ _); rw [arrV_size]; exact hin) rfl rfl hdg fun H1 e z oq => ?_
  refine kk H1 _ ls (mP_arr hP hκ rfl rfl (fun b hb => mS_D hb) z oq ?_) hz (t_lc hL (hP.2.2 a _ hκ).1) hl
  rw [nI_clamp (Nat.lt_trans hj hn)] at e
  rw [e]
  show some ((vp_cell (g.2.1 5) (n, arrOf 5 m a)).setSlot j (.double v)) = some (vp_cell (g.2.1 5) (n, arrOf 5 (sD m a j v) a))
  refine congrArg some ((cell_d _ _ _ _ _).trans ?_)
  rw [← gD_s]
  rfl
theorem v_aast {a t n j b ci : Nat} {i : Int32} {r : vw_C} (hX : mX l g x cc y rm nL) (hdg : decode cc pc = .ok (.aastore, 1)) (hκ : gK m a = some (.inr (t, n))) (ht : t < 10) (ht6 : 6 ≤ t) (hty : aty t = .object r.1) (hb0 : gK m b = some (.inl ci)) (hr : vwCl[ci]? = some r) (hi : i = nI j) (hj : j < n) (hn : n < 2 ^ 31) (kk : mV g x (sQ m a j (some b)) ce sl (pc + 1) lv st) : mV g x m ce sl pc lv (.ref b :: .int i :: .ref a :: st) := by
  obtain ⟨p, l', e, R, s, md, args, below, meth, c, Q⟩ := x
  obtain ⟨rfl, hx, hb, hml, ⟨hown, hnm⟩, hts, hvm, rfl, hO, hH9⟩ := hX
  subst hi
  intro H locs ls hP hz hL hl
  have hin : ¬ (nI j < 0 ∨ n ≤ (nI j).toNatClampNeg) := vp_in_nI hj hn
  have ha : ∀ m' : mM, arrOf t m' a = .inr (.inr (.inr (.inr (gQ m' a)))) := by
    match t, ht6 with
    | n + 6, _ => exact fun _ => rfl
  have hK := mO_K hO hvm
  obtain ⟨r', hr', ⟨cellV, g1, g2, g3, -⟩, -⟩ := (hP.2.2 b _ hb0).2
  cases hr.symm.trans hr'
  have hcls := (hK.1 ci _ hr).2
  have hRA := (hK.2 t _ (tysL_at _ (by omega))).2
  dsimp only at hRA
  rw [hty] at hRA
  obtain ⟨kA, comp, k1, k2, k3, -⟩ := hRA
  have hcomp : comp = g.1.1 ci := Option.some.inj (k3.symm.trans hcls.1)
  subst hcomp
  obtain ⟨kC, hkC, -⟩ := hcls.2
  have hc0 : H[a]? = some (vp_cell (g.2.1 t) (n, .inr (.inr (.inr (.inr (gQ m a)))))) := by rw [← ha]; exact (hP.2.2 a _ hκ).2
  refine W.aast hx hb hc0 (fun q h => by cases h) (fun h => by cases h) k1 k2 rfl hkC ⟨fun q => hin (Or.inl q), by show _ < (arrV _ _ _).slots.size; rw [arrV_size, nI_clamp (Nat.lt_trans hj hn)]; exact hj⟩ g1 (fun q h => by rw [g3] at h; cases h) (by rw [g2]; exact hkC) (by rw [g2]; exact va_assign hcls) rfl rfl hdg fun H1 e z oq => ?_
  refine kk H1 _ ls (mP_arr hP hκ rfl rfl (fun b hb => mS_Q hb) z oq ?_) hz (t_lc hL (hP.2.2 a _ hκ).1) hl
  rw [nI_clamp (Nat.lt_trans hj hn)] at e
  rw [e, ha]
  refine congrArg some ((cell_q _ _ _ j (some b)).trans ?_)
  rw [← gQ_s]
theorem v_alen {a t n : Nat} (hX : mX l g x cc y rm nL) (hdg : decode cc pc = .ok (.arraylength, 1)) (hκ : gK m a = some (.inr (t, n))) (ht : t < 11) (kk : mV g x m ce sl (pc + 1) lv (.int (nI n) :: st)) : mV g x m ce sl pc lv (.ref a :: st) := by
  obtain ⟨p, l', e, R, s, md, args, below, meth, c, Q⟩ := x
  obtain ⟨rfl, hx, hb, hml, ⟨hown, hnm⟩, hts, hvm, rfl, hO, hH9⟩ := hX
  intro H locs ls hP hz hL hl
  have hA := ((mO_K hO hvm).2 t _ (tysL_at _ ht)).1
  have hcell : H[a]? = some (vp_cell (g.2.1 t) (n, arrOf t m a)) := (hP.2.2 a _ hκ).2
  have hsz : ∃ z : Nat → Value, vp_cell (g.2.1 t) (n, arrOf t m a) = arrV (g.2.1 t) n z := by
    unfold arrOf
    split <;> first | exact ⟨_, vp_cell_i _ _ _⟩ | exact ⟨_, vp_cell_l _ _ _⟩ | exact ⟨_, vp_cell_d _ _ _⟩ | exact ⟨_, vp_cell_q _ _ _⟩
  obtain ⟨z9, hz9⟩ := hsz
  rw [hz9] at hcell
  exact W.alen hx hb hcell (hA n z9) (by rw [arrV_size]; rfl) rfl rfl hdg (kk H locs ls hP hz hL hl)
theorem fv_nw {ci k key : Nat} {kd : mK} {ty : FieldType} (ht : okTy ty = true) : fv ty (nw m kd) key (gN m) = defaultValue ty := by
  cases ty <;> first | (cases ht; done) | (simp [fv, mm, va_rf, defaultValue]; done)
theorem ok_dflt {ty : FieldType} (ht : okTy ty = true) : narrow ty (defaultValue ty) = defaultValue ty ∧ fits ty (defaultValue ty) = true := by
  cases ty <;> first | (cases ht; done) | exact ⟨rfl, rfl⟩ | (simp [narrow, fits, defaultValue]; done) | (constructor <;> decide)
theorem v_new {ci index : Nat} {r : vw_C} (hX : mX l g x cc y rm nL) (hdg : decode cc pc = .ok (.new index, 3)) (hr : vwCl[ci]? = some r) (h1 : Cond.classLink y.cls index r.1 ∈ gw) (h2 : Cond.instantiable r.1 r.2.2 ∈ gw) (h3 : Cond.initialized r.1 ∈ gw) (hc : ce + 1 ≤ rm.cells) (hs : sl + r.2.2 ≤ rm.slots) (kk : mV g x (nw m (.inl ci)) (ce + 1) (sl + r.2.2) (pc + 3) lv (.ref (gN m) :: st)) : mV g x m ce sl pc lv st := by
  obtain ⟨p, l', e, R, s, md, args, below, meth, c, Q⟩ := x
  obtain ⟨rfl, hx, hb, hml, ⟨hown, hnm⟩, hts, hvm, rfl, hO, hH9⟩ := hX
  obtain ⟨C, T, N⟩ := r
  intro H locs ls hP hz hL hl
  have hKn := (mO_K hO hvm).1 ci _ hr
  have hN := hP.1.1
  refine W.newcK hx hb hown (hts _ h1) (hts _ h2) (hts _ h3) rfl hdg hc hs hKn.2.1 rfl fun H1 kC hkC e1 z1 o1 => ?_
  rw [hN]
  refine kk H1 locs ls (mP_new hP z1 o1 ⟨_, hr, (u_born (tyOf ci) hts (inGc hr) hKn hkC e1 (nmG ci _ hr).1).to (fun k hk => ?_), fun k hk => ?_⟩) (Nat.le_succ_of_le hz) hL hl
  · rw [hN]
    exact (fv_nw (ci := ci) (k := k) ((nmG ci _ hr).2.2.2 k hk)).symm
  · rw [hN, fv_nw (ci := ci) (k := k) ((nmG ci _ hr).2.2.2 k hk)]
    exact ok_dflt ((nmG ci _ hr).2.2.2 k hk)
theorem v_newarr {atype : ArrayType} {t n : Nat} {i : Int32} (hX : mX l g x cc y rm nL) (hdg : decode cc pc = .ok (.newarray atype, 2)) (hty : newarray.typeOf atype = aty t) (ht : t < 6) (h1 : Cond.arrayClass (newarray.typeOf atype) ∈ gw) (hi : i = nI n) (hn : n ≤ 1000000) (hc : ce + 1 ≤ rm.cells) (hs : sl + n ≤ rm.slots) (kk : mV g x (nw m (.inr (t, n))) (ce + 1) (sl + n) (pc + 2) lv (.ref (gN m) :: st)) : mV g x m ce sl pc lv (.int i :: st) := by
  obtain ⟨p, l', e, R, s, md, args, below, meth, c, Q⟩ := x
  obtain ⟨rfl, hx, hb, hml, ⟨hown, hnm⟩, hts, hvm, rfl, hO, hH9⟩ := hX
  subst hi
  intro H locs ls hP hz hL hl
  have hN := hP.1.1
  have hcb : componentBytes (newarray.typeOf atype) ≤ 8 := by cases atype <;> decide
  refine va_newaK (N := n) hx hb (hts _ h1) rfl hdg rfl (nI_pos (by omega)) (nI_clamp (by omega)) (Nat.le_trans (Nat.mul_le_mul hn hcb) (by decide)) hc hs rfl fun H1 cA e1 z1 o1 hAr hNm => ?_
  have hcA : g.2.1 t = cA := by
    have hRA := ((mO_K hO hvm).2 t _ (tysL_at _ (by omega))).2
    rw [hty] at hNm
    have : t = 0 ∨ t = 1 ∨ t = 2 ∨ t = 3 ∨ t = 4 ∨ t = 5 := by omega
    rcases this with rfl | rfl | rfl | rfl | rfl | rfl <;> exact Option.some.inj (hRA.symm.trans hNm)
  subst hcA
  rw [hN]
  refine kk H1 locs ls (mP_new hP z1 o1 ?_) (Nat.le_succ_of_le hz) hL hl
  show H1[H.size]? = some (vp_cell (g.2.1 t) (n, arrOf t (nw m (.inr (t, n))) H.size))
  rw [e1, hN, hty]
  have : t = 0 ∨ t = 1 ∨ t = 2 ∨ t = 3 ∨ t = 4 ∨ t = 5 := by omega
  have hA0 : gA (nw m (.inr (t, n))) (gN m) = fun _ => 0 := by funext q; simp [mm]
  have hL0 : gL (nw m (.inr (t, n))) (gN m) = fun _ => 0 := by funext q; simp [mm]
  have hD0 : gD (nw m (.inr (t, n))) (gN m) = fun _ => 0 := by funext q; simp [mm]
  rcases this with rfl | rfl | rfl | rfl | rfl | rfl <;> simp only [arrOf, hA0, hL0, hD0, vp_cell_i, vp_cell_l, vp_cell_d] <;> rfl
theorem v_anew {index t n : Nat} {i : Int32} {C : String} (hX : mX l g x cc y rm nL) (hdg : decode cc pc = .ok (.anewarray index, 3)) (ht : t < 10) (ht6 : 6 ≤ t) (hty : aty t = .object C) (h1 : Cond.classLink y.cls index C ∈ gw) (h2 : Cond.arrayOver (.object C) ∈ lw_tbl) (hi : i = nI n) (hn : n ≤ 1000000) (hc : ce + 1 ≤ rm.cells) (hs : sl + n ≤ rm.slots) (kk : mV g x (nw m (.inr (t, n))) (ce + 1) (sl + n) (pc + 3) lv (.ref (gN m) :: st)) : mV g x m ce sl pc lv (.int i :: st) := by
  obtain ⟨p, l', e, R, s, md, args, below, meth, c, Q⟩ := x
  obtain ⟨rfl, hx, hb, hml, ⟨hown, hnm⟩, hts, hvm, rfl, hO, hH9⟩ := hX
  subst hi
  intro H locs ls hP hz hL hl
  have hN := hP.1.1
  have hAO : va_AO C s := by
    obtain ⟨-, -, b, -, hb9⟩ := hO
    exact va_AO.moved hvm.alike (va_AO.of (hb9 _ h2))
  refine W.anew hx hb hown (hts _ h1) (va_AO.use hAO) rfl hdg rfl (nI_pos (by omega)) (by rw [nI_clamp (by omega)]; omega) hc (by rw [nI_clamp (by omega)]; exact hs) fun cA kA comp f1 f2 f3 f4 => ?_
  have hcA : g.2.1 t = cA := by
    have hRA := ((mO_K hO hvm).2 t _ (tysL_at _ (by omega))).2
    dsimp only at hRA
    rw [hty] at hRA
    obtain ⟨kA', comp', k1, k2, k3, k4⟩ := hRA
    exact Option.some.inj (k4.symm.trans f1)
  subst hcA
  rw [nI_clamp (show n < 2 ^ 31 by omega), hN]
  refine kk _ locs ls (mP_new hP (by rw [Array.size_push]) (fun q hq => by rw [Array.getElem?_push, if_neg (Nat.ne_of_lt hq)]) ?_) (Nat.le_succ_of_le hz) hL hl
  show (H.push _)[H.size]? = some (vp_cell (g.2.1 t) (n, arrOf t (nw m (.inr (t, n))) H.size))
  have ha : ∀ m' : mM, arrOf t m' (gN m) = .inr (.inr (.inr (.inr (gQ m' (gN m))))) := by
    match t, ht6 with
    | n + 6, _ => exact fun _ => rfl
  have hQ0 : gQ (nw m (.inr (t, n))) (gN m) = fun _ => none := by funext q; simp [mm]
  rw [Array.getElem?_push_size, hN, ha, hQ0, vp_cell_q, arrV_new]
  rfl
end
