theorem mO_K {l : Launch} {g : mG} {s : State} (hO : mO l g) (hvm : g.2.2.WarmedH s.vm) : va_K g.1 vwCl (tysL g.2.1) s := va_K.moved hvm.alike hO.2.1
theorem mO_lays {args : Array Value} {s : State} {ci : Nat} {r : vw_C} (hts : ∀ w ∈ gw, w.before args s = true) (hr : vwCl[ci]? = some r) {k : Nat} (hk : k < r.2.2) : (Cond.lays r.1 (r.2.1 k).1 (r.2.1 k).2.1 (r.2.1 k).2.2.1).before args s = true ∨ (Cond.laysFinal r.1 (r.2.1 k).1 (r.2.1 k).2.1 (r.2.1 k).2.2.1).before args s = true := u_lays hts (inGc hr) hk
/-- a link to a nest mate's member -/
def isNest : Cond → Bool
  | .fieldLinkNest _ _ _ _ _ _ => true
  | .methodLinkNest _ _ _ _ => true
  | _ => false
theorem mN {l : Launch} {g : mG} {s : State} {args : Array Value} {w : Cond} (hO : mO l g) (hW : g.2.2.WarmedH s.vm) (hw : w ∈ lw_tbl) (hn : isNest w = true) : w.before args s = true := by
  obtain ⟨-, -, b, -, hb⟩ := hO
  have h := hb w hw
  cases w <;> first | (exact va_Nw.use rfl (va_Nw.warmF hW (va_Nw.of rfl h))) | (exact va_Nw.use rfl (va_Nw.warmM hW (va_Nw.of rfl h))) | (cases hn; done)
/-- a class's slots are apart -/
theorem mO_apart {l : Launch} {g : mG} {s : State} {args : Array Value} {own : String} (hO : mO l g) (hvm : g.2.2.WarmedH s.vm) (hts : ∀ w ∈ gw, w.before args s = true) {ci : Nat} {r : vw_C} (hr : vwCl[ci]? = some r) : ∀ x y, x < r.2.2 → y < r.2.2 → x ≠ y → g.1.2 ci x ≠ g.1.2 ci y := by
  obtain ⟨C, T, N⟩ := r
  exact va_apart (own := own) (D := g.1) hts (inGc hr) (tyOf ci) (nmG ci _ hr).1 (nmG ci _ hr).2.1 (mO_K hO hvm) hr
theorem va_P1 {D : va_G} {cl : List vw_C} {q : Nat × va_E} {H : Heap} (h : va_at D cl q H) : va_P D cl [q] H := by
  intro k q' hk
  cases k with
  | zero => cases hk; exact h
  | succ k => simp at hk
/-- an object of the memory as the kit's world of one cell -/
theorem mC_P {g : mG} {m : mM} {H : Heap} {a ci : Nat} {r : vw_C} (h : mC g m H a (.inl ci)) (hr : vwCl[ci]? = some r) : va_P g.1 vwCl [(a, .inr (ci, (List.range r.2.2).map (fun k => fv (tyOf ci k) m (32 * ci + k) a)))] H := by
  obtain ⟨r', h1, h2, -⟩ := h
  cases hr.symm.trans h1
  refine va_P1 ⟨r, hr, h2.to (fun k hk => ?_)⟩
  simp [vp_V, hk]
theorem mC_at {m : mM} {a ci N k : Nat} (hk : k < N) : ((List.range N).map (fun k => fv (tyOf ci k) m (32 * ci + k) a))[k]? = some (fv (tyOf ci k) m (32 * ci + k) a) := by simp [hk]
theorem mP_put {g : mG} {m : mM} {H H1 : Heap} {a ci k : Nat} {r : vw_C} {v : Value} {cell : Cell} (hP : mP g m H) (hκ : gK m a = some (.inl ci)) (hr : vwCl[ci]? = some r) (hk : k < r.2.2) (hn : narrow (tyOf ci k) v = v) (hf : fits (tyOf ci k) v = true) (q1 : H[a]? = some cell) (e1 : H1[a]? = some (cell.setSlot (g.1.2 ci k) v)) (z : H1.size = H.size) (oq : ∀ q : Nat, q ≠ a → H1[q]? = H[q]?) (hap : ∀ x y, x < r.2.2 → y < r.2.2 → x ≠ y → g.1.2 ci x ≠ g.1.2 ci y) : mP g (sV (tyOf ci k) m (32 * ci + k) a v) H1 := by
  have hok := (nmG ci r hr).2.2.2 k hk
  refine mP_set hP hκ sV_K sV_N (fun b hb => mS_V hb) z oq ?_
  obtain ⟨r', h1, ⟨cell', c1, c2, c3, c4⟩, h3⟩ := (hP.2.2 a _ hκ).2
  cases hr.symm.trans h1
  cases q1.symm.trans c1
  refine ⟨r, hr, t_OB.to (V := updV (fun k => fv (tyOf ci k) m (32 * ci + k) a) k v) ⟨_, e1, c2, c3, t_set c4 hap hk v⟩ (fun j hj => ?_), fun j hj => ?_⟩
  · by_cases e : j = k
    · subst e
      simp [updV, fv_eq hok hf]
    · simp only [updV, e, if_false]
      rw [fv_ne (by omega)]
  · by_cases e : j = k
    · subst e
      rw [fv_eq hok hf]
      exact ⟨hn, hf⟩
    · rw [fv_ne (by omega)]
      exact h3 j hj
section
variable {l : Launch} {g : mG} {x : mCx} {m m1 : mM} {cc : ByteArray} {y : MethodName} {rm : Room} {nL : Nat} {ce sl pc : Nat} {lv : List (Nat × Value)} {st : List Value}
theorem v_get {a ci index : Nat} {r : vw_C} {v : Value} (hX : mX l g x cc y rm nL) (hdg : decode cc pc = .ok (.getfield index, 3)) (hκ : gK m a = some (.inl ci)) (hr : vwCl[ci]? = some r) (k : Nat) (hk : k < r.2.2) (hw : Cond.fieldLink y.cls index (r.2.1 k).1 (r.2.1 k).2.1 (r.2.1 k).2.2.1 ∈ gw) (hv : fv (tyOf ci k) m (32 * ci + k) a = v) (kk : mV g x m ce sl (pc + 3) lv (v :: st)) : mV g x m ce sl pc lv (.ref a :: st) := by
  obtain ⟨p, l', e, R, s, md, args, below, meth, c, Q⟩ := x
  obtain ⟨rfl, hx, hb, hml, ⟨hown, hnm⟩, hts, hvm, hR, hO, hH9⟩ := hX
  obtain ⟨C, T, N⟩ := r
  exact fun H locs ls hP hz hL hl => va_get hx hb hts (inGc hr) hown (mO_K hO hvm) (mC_P (hP.2.2 a _ hκ).2 hr) 0 rfl hr k hk (hts _ hw) (fun _ h => h) ((mC_at hk).trans (congrArg some hv)) hdg (kk H locs ls hP hz hL hl)
theorem v_getN {a ci index : Nat} {r : vw_C} {host : String} {v : Value} (hX : mX l g x cc y rm nL) (hdg : decode cc pc = .ok (.getfield index, 3)) (hκ : gK m a = some (.inl ci)) (hr : vwCl[ci]? = some r) (k : Nat) (hk : k < r.2.2) (hw : Cond.fieldLinkNest y.cls index (r.2.1 k).1 (r.2.1 k).2.1 (r.2.1 k).2.2.1 host ∈ lw_tbl) (hv : fv (tyOf ci k) m (32 * ci + k) a = v) (kk : mV g x m ce sl (pc + 3) lv (v :: st)) : mV g x m ce sl pc lv (.ref a :: st) := by
  obtain ⟨p, l', e, R, s, md, args, below, meth, c, Q⟩ := x
  obtain ⟨rfl, hx, hb, hml, ⟨hown, hnm⟩, hts, hvm, hR, hO, hH9⟩ := hX
  obtain ⟨C, T, N⟩ := r
  exact fun H locs ls hP hz hL hl => va_getN hx hb hts (inGc hr) hown (mO_K hO hvm) (mC_P (hP.2.2 a _ hκ).2 hr) 0 rfl hr k hk (mN hO hvm hw rfl) (fun _ h => h) ((mC_at hk).trans (congrArg some hv)) hdg (kk H locs ls hP hz hL hl)
theorem v_put {a ci index : Nat} {r : vw_C} {v : Value} (hX : mX l g x cc y rm nL) (hdg : decode cc pc = .ok (.putfield index, 3)) (hκ : gK m a = some (.inl ci)) (hr : vwCl[ci]? = some r) (k : Nat) (hk : k < r.2.2) (hw : Cond.fieldLink y.cls index (r.2.1 k).1 (r.2.1 k).2.1 (r.2.1 k).2.2.1 ∈ gw) (hfin : (r.2.1 k).2.2.2 = false) (hn : narrow (tyOf ci k) v = v) (hf : fits (tyOf ci k) v = true) (hm : sV (tyOf ci k) m (32 * ci + k) a v = m1) (kk : mV g x m1 ce sl (pc + 3) lv st) : mV g x m ce sl pc lv (v :: .ref a :: st) := by
  obtain ⟨p, l', e, R, s, md, args, below, meth, c, Q⟩ := x
  obtain ⟨rfl, hx, hb, hml, ⟨hown, hnm⟩, hts, hvm, hR, hO, hH9⟩ := hX
  obtain ⟨C, T, N⟩ := r
  intro H locs ls hP hz hL hl
  have hK := mO_K hO hvm
  obtain ⟨r', h1, ⟨cell, q1, q2, q3, q4⟩, h3⟩ := (hP.2.2 a _ hκ).2
  cases hr.symm.trans h1
  obtain ⟨hS, hfc, kC, hkC, hkind⟩ := hK.1 ci _ hr
  obtain ⟨cf, kf, fi, f, hi, hsl⟩ := hS k hk
  have hlay := hts _ (inGc hr _ (u_in_lay hk))
  unfold u_lay at hlay
  rw [if_neg (by rw [hfin]; decide)] at hlay
  have hst := (u_facts hfc hkC (mO_lays hts hr hk) hi).1
  have h6 := u_store hfc hkC hkind hlay hi ((nmG ci _ hr).1 k hk) hn hf
  refine W.putK hx hb (f := f) ⟨hown, hts _ hw, ⟨_, _, _, hi⟩, hst⟩ (by rw [q2]; exact h6) q1 q3 (by rw [hsl]; exact k2_hasslot (q4 k hk)) rfl rfl hdg fun H' e1 e2 e3 => ?_
  rw [hsl] at e1 ⊢
  subst hm
  exact kk H' _ ls (mP_put hP hκ hr hk hn hf q1 e1 e2 e3 (mO_apart (own := y.cls) hO hvm hts hr)) (by rw [sV_N]; exact hz) (t_lc hL (hP.2.2 a _ hκ).1) hl
theorem v_putN {a ci index : Nat} {r : vw_C} {host : String} {v : Value} (hX : mX l g x cc y rm nL) (hdg : decode cc pc = .ok (.putfield index, 3)) (hκ : gK m a = some (.inl ci)) (hr : vwCl[ci]? = some r) (k : Nat) (hk : k < r.2.2) (hw : Cond.fieldLinkNest y.cls index (r.2.1 k).1 (r.2.1 k).2.1 (r.2.1 k).2.2.1 host ∈ lw_tbl) (hfin : (r.2.1 k).2.2.2 = false) (hn : narrow (tyOf ci k) v = v) (hf : fits (tyOf ci k) v = true) (hm : sV (tyOf ci k) m (32 * ci + k) a v = m1) (kk : mV g x m1 ce sl (pc + 3) lv st) : mV g x m ce sl pc lv (v :: .ref a :: st) := by
  obtain ⟨p, l', e, R, s, md, args, below, meth, c, Q⟩ := x
  obtain ⟨rfl, hx, hb, hml, ⟨hown, hnm⟩, hts, hvm, hR, hO, hH9⟩ := hX
  obtain ⟨C, T, N⟩ := r
  intro H locs ls hP hz hL hl
  have hK := mO_K hO hvm
  obtain ⟨r', h1, ⟨cell, q1, q2, q3, q4⟩, h3⟩ := (hP.2.2 a _ hκ).2
  cases hr.symm.trans h1
  obtain ⟨hS, hfc, kC, hkC, hkind⟩ := hK.1 ci _ hr
  obtain ⟨cf, kf, fi, f, hi, hsl⟩ := hS k hk
  have hlay := hts _ (inGc hr _ (u_in_lay hk))
  unfold u_lay at hlay
  rw [if_neg (by rw [hfin]; decide)] at hlay
  have hst := (u_facts hfc hkC (mO_lays hts hr hk) hi).1
  have h6 := u_store hfc hkC hkind hlay hi ((nmG ci _ hr).1 k hk) hn hf
  refine va_WputK hx hb (f := f) hown (mN hO hvm hw rfl) hi hst (by rw [q2]; exact h6) q1 q3 (by rw [hsl]; exact k2_hasslot (q4 k hk)) rfl rfl hdg fun H' e1 e2 e3 => ?_
  rw [hsl] at e1 ⊢
  subst hm
  exact kk H' _ ls (mP_put hP hκ hr hk hn hf q1 e1 e2 e3 (mO_apart (own := y.cls) hO hvm hts hr)) (by rw [sV_N]; exact hz) (t_lc hL (hP.2.2 a _ hκ).1) hl
theorem v_putF {a ci index : Nat} {r : vw_C} {v : Value} (hX : mX l g x cc y rm nL) (hdg : decode cc pc = .ok (.putfield index, 3)) (hκ : gK m a = some (.inl ci)) (hr : vwCl[ci]? = some r) (k : Nat) (hk : k < r.2.2) (hw : Cond.fieldLink y.cls index (r.2.1 k).1 (r.2.1 k).2.1 (r.2.1 k).2.2.1 ∈ gw) (hfin : (r.2.1 k).2.2.2 = true) (hin2 : y.name = "<init>") (hdecl : (r.2.1 k).1 = y.cls) (hn : narrow (tyOf ci k) v = v) (hf : fits (tyOf ci k) v = true) (hm : sV (tyOf ci k) m (32 * ci + k) a v = m1) (kk : mV g x m1 ce sl (pc + 3) lv st) : mV g x m ce sl pc lv (v :: .ref a :: st) := by
  obtain ⟨p, l', e, R, s, md, args, below, meth, c, Q⟩ := x
  obtain ⟨rfl, hx, hb, hml, ⟨hown, hnm⟩, hts, hvm, hR, hO, hH9⟩ := hX
  obtain ⟨C, T, N⟩ := r
  intro H locs ls hP hz hL hl
  have hK := mO_K hO hvm
  obtain ⟨r', h1, ⟨cell, q1, q2, q3, q4⟩, h3⟩ := (hP.2.2 a _ hκ).2
  cases hr.symm.trans h1
  obtain ⟨hS, hfc, kC, hkC, hkind⟩ := hK.1 ci _ hr
  obtain ⟨cf, kf, fi, f, hi, hsl⟩ := hS k hk
  have hlay := hts _ (inGc hr _ (u_in_lay hk))
  unfold u_lay at hlay
  rw [if_pos hfin] at hlay
  have hst := (u_facts hfc hkC (mO_lays hts hr hk) hi).1
  have hcf : md.cls = cf := by
    obtain ⟨_, _, c', _, _, _, -, -, hf', -, -, -, hown2, -⟩ := Cond.laysFinal_spec hlay
    have e1 : c' = cf := by have := hi.symm.trans hf'; simp at this; exact this.1.symm
    dsimp only at hdecl
    rw [hdecl] at hown2
    rw [← e1]; exact Option.some.inj (hown.symm.trans hown2)
  have h6 := u_fits hfc hkC hkind (Or.inr hlay) hi ((nmG ci _ hr).1 k hk) hn hf
  refine W.putFinK hx hb hown (hts _ hw) hi hst hcf (hnm.trans hin2) (by rw [q2]; exact h6) q1 q3 (by rw [hsl]; exact k2_hasslot (q4 k hk)) rfl rfl hdg fun H' e1 e2 e3 => ?_
  rw [hsl] at e1 ⊢
  subst hm
  exact kk H' _ ls (mP_put hP hκ hr hk hn hf q1 e1 e2 e3 (mO_apart (own := y.cls) hO hvm hts hr)) (by rw [sV_N]; exact hz) (t_lc hL (hP.2.2 a _ hκ).1) hl
end
