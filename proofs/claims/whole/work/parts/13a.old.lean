/-! THE START'S OWN OBJECTS AND ARRAYS (constants): they lie below the memory and stay as they are -/
abbrev oF (g : mG) (o n d : String) (v : Value) (t : Nat) : Prop := va_OF o n d v t (fun q => (gH g).size ≤ q) g.2.2 (gH g)
abbrev oT (g : mG) (ty : FieldType) (t N : Nat) (f : Nat → Value) : Prop := va_T ty t N f (fun q => (gH g).size ≤ q) g.2.2 (gH g)
abbrev oO (g : mG) (C : String) (t : Nat) : Prop := va_O C t (fun q => (gH g).size ≤ q) g.2.2 (gH g)
theorem oT_at {g : mG} {ty : FieldType} {t N : Nat} {f : Nat → Value} {s : State} (h : oT g ty t N f) (hvm : g.2.2.WarmedH s.vm) (hH : ∀ q : Nat, q < (gH g).size → s.heap[q]? = (gH g)[q]?) : va_T ty t N f (fun q => (gH g).size ≤ q) s s.heap := (va_T.moved hvm.alike h).kept (fun a h1 _ => hH a h1)
theorem oO_at {g : mG} {C : String} {t : Nat} {s : State} (h : oO g C t) (hvm : g.2.2.WarmedH s.vm) (hH : ∀ q : Nat, q < (gH g).size → s.heap[q]? = (gH g)[q]?) : va_O C t (fun q => (gH g).size ≤ q) s s.heap := (va_O.moved hvm.alike h).kept (fun a h1 _ => hH a h1)
theorem in_nI {i : Int32} {j n : Nat} (hi : i = nI j) (hj : j < n) (hn : n < 2 ^ 31) : vp_in i n := by
  subst hi
  rintro (q | q)
  · exact absurd q (by have h0 : nI 0 ≤ nI j := nI_le (Nat.zero_le _) (by omega); exact Int32.not_lt.mpr h0)
  · rw [nI_clamp (by omega)] at q; omega
theorem v_getO {l : Launch} {g : mG} {x : mCx} {m : mM} {cc : ByteArray} {y : MethodName} {rm : Room} {nL : Nat} {ce sl pc : Nat} {lv : List (Nat × Value)} {st : List Value} {o n d : String} {index t : Nat} {v : Value} (hX : mX l g x cc y rm nL) (hdg : decode cc pc = .ok (.getfield index, 3)) (hF : oF g o n d v t) (hw : Cond.fieldLink y.cls index o n d ∈ gw) (kk : mV g x m ce sl (pc + 3) lv (v :: st)) : mV g x m ce sl pc lv (.ref t :: st) := by
  obtain ⟨p, l', e, R, s, md, args, below, meth, c, Q⟩ := x
  obtain ⟨rfl, hx, hb, hml, ⟨hown, hnm⟩, hts, hvm, rfl, hO, hH9⟩ := hX
  intro H locs ls hP hz hL hl
  obtain ⟨cf, k, fi, f, cell, h1, h2, h3, h4, h5, h6⟩ := (va_OF.moved hvm.alike hF).kept (fun a q1 _ => hP.2.1 a q1)
  exact W.getf hx hb hown (hts _ hw) h1 h2 h3 h4 (v := v) h5 rfl rfl hdg (kk H locs ls hP hz hL hl)
theorem v_getON {l : Launch} {g : mG} {x : mCx} {m : mM} {cc : ByteArray} {y : MethodName} {rm : Room} {nL : Nat} {ce sl pc : Nat} {lv : List (Nat × Value)} {st : List Value} {o n d host : String} {index t : Nat} {v : Value} (hX : mX l g x cc y rm nL) (hdg : decode cc pc = .ok (.getfield index, 3)) (hF : oF g o n d v t) (hw : Cond.fieldLinkNest y.cls index o n d host ∈ lw_tbl) (kk : mV g x m ce sl (pc + 3) lv (v :: st)) : mV g x m ce sl pc lv (.ref t :: st) := by
  obtain ⟨p, l', e, R, s, md, args, below, meth, c, Q⟩ := x
  obtain ⟨rfl, hx, hb, hml, ⟨hown, hnm⟩, hts, hvm, rfl, hO, hH9⟩ := hX
  intro H locs ls hP hz hL hl
  obtain ⟨cf, k, fi, f, cell, h1, h2, h3, h4, h5, h6⟩ := (va_OF.moved hvm.alike hF).kept (fun a q1 _ => hP.2.1 a q1)
  exact va_Wgetf hx hb hown (mN hO hvm hw rfl) h1 h2 h3 h4 (v := v) h5 rfl rfl hdg (kk H locs ls hP hz hL hl)
theorem v_tiO {l : Launch} {g : mG} {x : mCx} {m : mM} {cc : ByteArray} {y : MethodName} {rm : Room} {nL : Nat} {ce sl pc : Nat} {lv : List (Nat × Value)} {st : List Value} {t N j : Nat} {f : Nat → Value} {i : Int32} (hX : mX l g x cc y rm nL) (hdg : decode cc pc = .ok (.iaload, 1)) (hT : oT g .int t N f) (hi : i = nI j) (hj : j < N) (hN : N < 2 ^ 31) (kk : mV g x m ce sl (pc + 1) lv (f j :: st)) : mV g x m ce sl pc lv (.int i :: .ref t :: st) := by
  obtain ⟨p, l', e, R, s, md, args, below, meth, c, Q⟩ := x
  obtain ⟨rfl, hx, hb, hml, ⟨hown, hnm⟩, hts, hvm, rfl, hO, hH9⟩ := hX
  exact fun H locs ls hP hz hL hl => va_ti hx hb (oT_at hT hvm hH9.2) (mV_S hP hz hL hH9.2) (in_nI hi hj hN) (v := f j) (by rw [hi, nI_clamp (by omega)]) hdg (kk H locs ls hP hz hL hl)
theorem v_tbO {l : Launch} {g : mG} {x : mCx} {m : mM} {cc : ByteArray} {y : MethodName} {rm : Room} {nL : Nat} {ce sl pc : Nat} {lv : List (Nat × Value)} {st : List Value} {t N j : Nat} {f : Nat → Value} {i : Int32} (hX : mX l g x cc y rm nL) (hdg : decode cc pc = .ok (.baload, 1)) (hT : oT g .byte t N f) (hi : i = nI j) (hj : j < N) (hN : N < 2 ^ 31) (kk : mV g x m ce sl (pc + 1) lv (f j :: st)) : mV g x m ce sl pc lv (.int i :: .ref t :: st) := by
  obtain ⟨p, l', e, R, s, md, args, below, meth, c, Q⟩ := x
  obtain ⟨rfl, hx, hb, hml, ⟨hown, hnm⟩, hts, hvm, rfl, hO, hH9⟩ := hX
  exact fun H locs ls hP hz hL hl => va_tb hx hb (oT_at hT hvm hH9.2) (mV_S hP hz hL hH9.2) (in_nI hi hj hN) (v := f j) (by rw [hi, nI_clamp (by omega)]) hdg (kk H locs ls hP hz hL hl)
theorem v_taO {l : Launch} {g : mG} {x : mCx} {m : mM} {cc : ByteArray} {y : MethodName} {rm : Room} {nL : Nat} {ce sl pc : Nat} {lv : List (Nat × Value)} {st : List Value} {C : String} {t N j : Nat} {f : Nat → Value} {i : Int32} (hX : mX l g x cc y rm nL) (hdg : decode cc pc = .ok (.aaload, 1)) (hT : oT g (.object C) t N f) (hi : i = nI j) (hj : j < N) (hN : N < 2 ^ 31) (kk : mV g x m ce sl (pc + 1) lv (f j :: st)) : mV g x m ce sl pc lv (.int i :: .ref t :: st) := by
  obtain ⟨p, l', e, R, s, md, args, below, meth, c, Q⟩ := x
  obtain ⟨rfl, hx, hb, hml, ⟨hown, hnm⟩, hts, hvm, rfl, hO, hH9⟩ := hX
  exact fun H locs ls hP hz hL hl => vb_tq hx hb (oT_at hT hvm hH9.2) (mV_S hP hz hL hH9.2) (in_nI hi hj hN) (v := f j) (by rw [hi, nI_clamp (by omega)]) hdg (kk H locs ls hP hz hL hl)
theorem v_tlO {l : Launch} {g : mG} {x : mCx} {m : mM} {cc : ByteArray} {y : MethodName} {rm : Room} {nL : Nat} {ce sl pc : Nat} {lv : List (Nat × Value)} {st : List Value} {ty : FieldType} {t N : Nat} {f : Nat → Value} (hX : mX l g x cc y rm nL) (hdg : decode cc pc = .ok (.arraylength, 1)) (hT : oT g ty t N f) (kk : mV g x m ce sl (pc + 1) lv (.int (nI N) :: st)) : mV g x m ce sl pc lv (.ref t :: st) := by
  obtain ⟨p, l', e, R, s, md, args, below, meth, c, Q⟩ := x
  obtain ⟨rfl, hx, hb, hml, ⟨hown, hnm⟩, hts, hvm, rfl, hO, hH9⟩ := hX
  exact fun H locs ls hP hz hL hl => va_tlen hx hb (oT_at hT hvm hH9.2) (mV_S hP hz hL hH9.2) rfl hdg (kk H locs ls hP hz hL hl)
section
variable {l : Launch} {g : mG} {x : mCx} {m m1 : mM} {cc : ByteArray} {y z : MethodName} {rm : Room} {nL : Nat} {ce sl pc : Nat} {lv : List (Nat × Value)} {st : List Value}
variable {fr lo mc ms maxL index : Nat} {cb : ByteArray} {ret : Option FieldType} {As rest st0 : List Value} {post : Option Value → mM → Prop} {XC : String → mM → Prop}
theorem v_callVO {b : Nat} (hX : mX l g x cc y rm nL) (hdg : decode cc pc = .ok (.invokevirtual index, 3)) (hM : mT l g z (.code z cb maxL ret) fr lo mc ms (.ref b :: As) m post XC) (hB : oO g z.cls b)
    (h1 : Cond.methodLink y.cls index z ∈ gw) (h2 : Cond.instanceMethod z ∈ gw) (h3 : Cond.selects z.cls z z ∈ gw) (h4 : Cond.initialized z.cls ∈ gw) (h5 : Cond.code z cb maxL ret ∈ gw) (hd : hMH z As.length) (hst : st0 = As.reverse ++ .ref b :: rest) (hcat : (rest.map fun v => v.category).sum ≤ 8) (hR : hRm fr lo mc ms maxL ce sl rm)
    (kx : ∀ E m', XC E m' → mVX g x m' (ce + mc) (sl + ms) pc lv E) (kk : ∀ r m', post r m' → mV g x m' (ce + mc) (sl + ms) (pc + 3) lv (r.toList ++ rest)) : mV g x m ce sl pc lv st0 := by
  obtain ⟨p, l', e, R, s, md, args, below, meth, c, Q⟩ := x
  obtain ⟨rfl, hx, hb, hml, ⟨hown, hnm⟩, hts, hvm, rfl, hO, hH9⟩ := hX
  have hG : GoodIn gw (wsV y.cls index z.cls z (Cond.code z cb maxL ret :: gw)) := gw_in (fun w hw => by
    simp only [wsV, List.mem_append, List.mem_cons, List.not_mem_nil, or_false] at hw
    rcases hw with (rfl | rfl | rfl | rfl) | rfl | hw <;> assumption)
  refine mV_run (a9 := (Value.ref b :: As).toArray) (fun H locs ls hP hls => ?_) kx kk
  have hrc : ∃ cell : Cell, H[b]? = some cell ∧ cell.vm.isStatics = false ∧ s.vm.findClass z.cls = some cell.cls := by
    obtain ⟨cell, q1, q2, q3, -⟩ := (va_O.moved hvm.alike hB).kept (fun a q1 _ => hP.2.1 a q1)
    exact ⟨cell, q1, q2, q3⟩
  exact vx_runV ⟨hx, hb, hml, hown, hts⟩ hM (cwV As.length hts hG rfl rfl rfl ⟨rfl, hd⟩ hR.1) ⟨mV_blind, hrc, fun U hU hW => ⟨rfl, hvm.trans hW, by rw [hU]; exact hP⟩⟩ rfl rfl (hls.trans hml) hst (lv_room hcat) hdg hR.2
end
