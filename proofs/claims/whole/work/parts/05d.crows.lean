/-! CALLS, ENDS, THROWS -/
theorem mV_run {g : mG} {p : Program} {l : Launch} {e : Env} {R : Room} {s : State} {md : MethodId} {args : Array Value} {below : List Frame} {meth : Method} {c : Code} {Q : State → Prop} {m : mM} {ce sl pc mc ms : Nat} {lv : List (Nat × Value)} {st0 rest : List Value} {a9 : Array Value} {post : Option Value → mM → Prop} {XC : String → mM → Prop}
    (hr : ∀ (H : Heap) (locs : List Loc) (ls : Array Slot), mP g m H → ls.size = c.maxLocals → vx_Run p l e R s md args below meth c H locs ce sl mc ms (F0 md pc ls st0) rest (mQ g post a9) (mQX g XC) (fun q => (gH g).size ≤ q))
    (kx : ∀ E m', XC E m' → mVX g (p, l, e, R, s, md, args, below, meth, c, Q) m' (ce + mc) (sl + ms) pc lv E)
    (kk : ∀ r m', post r m' → mV g (p, l, e, R, s, md, args, below, meth, c, Q) m' (ce + mc) (sl + ms) (pc + 3) lv (r.toList ++ rest)) : mV g (p, l, e, R, s, md, args, below, meth, c, Q) m ce sl pc lv st0 := by
  intro H locs ls hP hz hL hl T hT X
  rcases hr H locs ls hP hl.1 T hT X with ⟨v, st₀, t, T', L, h0, X', hL', e1, e2, ⟨r, m', hv, hp, hP', hz'⟩, st⟩ | ⟨q, st₀, t, T', L, E, ce', h0, X', hL', e1, e2, ⟨m', hXC, hP', hz'⟩, hce, hcv, hcl, st⟩
  · cases hv
    have hz2 : s.heap.size ≤ gN m' := by rw [h0] at hz'; rw [← hP'.1.1]; exact Nat.le_trans hz (by rw [← hP.1.1]; exact hz')
    obtain ⟨t2, a1, b1⟩ := kk v m' hp T'.heap (locs ++ L) ls (by rw [e1]; exact hP') hz2 (t_lL hL hL') hl T' rfl X'
    exact ⟨t2, st t2 a1, b1⟩
  · have hz2 : s.heap.size ≤ gN m' := by rw [h0] at hz'; rw [← hP'.1.1]; exact Nat.le_trans hz (by rw [← hP.1.1]; exact hz')
    obtain ⟨t2, a1, b1⟩ := kx E m' hXC T'.heap (locs ++ L) ls rest q ce' (by rw [e1]; exact hP') hz2 (t_lL hL hL') hl (by rw [e1]; exact hce) hcv hcl T' rfl X'
    exact ⟨t2, st.trans a1, b1⟩
theorem mV_blind {g : mG} {m : mM} {av : List Value} : FrameBlind (fun a U => a = av.toArray ∧ g.2.2.WarmedH U.vm ∧ mP g m U.heap) := fun a U g9 mk h => ⟨h.1, h.2.1, h.2.2⟩
theorem mC_recv {g : mG} {m : mM} {H : Heap} {b ci : Nat} {C : String} {s : State} {l : Launch} (hO : mO l g) (hvm : g.2.2.WarmedH s.vm) (hP : mP g m H) (hκ : gK m b = some (.inl ci)) (hC : (vwCl[ci]?).map Prod.fst = some C) : ∃ cellB : Cell, H[b]? = some cellB ∧ cellB.vm.isStatics = false ∧ s.vm.findClass C = some cellB.cls := by
  obtain ⟨r, h1, ⟨cell, q1, q2, q3, q4⟩, -⟩ := (hP.2.2 b _ hκ).2
  rw [h1] at hC
  have hC' : r.1 = C := Option.some.inj hC
  refine ⟨cell, q1, by rw [q3]; rfl, ?_⟩
  rw [q2, ← hC']
  exact ((mO_K hO hvm).1 ci r h1).2.1
section
variable {l : Launch} {g : mG} {x : mCx} {m m1 : mM} {cc : ByteArray} {y z : MethodName} {rm : Room} {nL : Nat} {ce sl pc : Nat} {lv : List (Nat × Value)} {st : List Value}
variable {fr lo mc ms maxL index : Nat} {cb : ByteArray} {ret : Option FieldType} {As rest st0 : List Value} {post : Option Value → mM → Prop} {XC : String → mM → Prop}
abbrev hMH (z : MethodName) (n : Nat) : Prop := z.cls ≠ "java/lang/invoke/MethodHandle" ∧ z.cls ≠ "java/lang/invoke/VarHandle" ∧ (parseMethodDescriptor z.desc).map (fun d => d.parameters.length) = some n
abbrev hRm (fr lo mc ms maxL ce sl : Nat) (rm : Room) : Prop := (fr + 1 ≤ rm.frames ∧ 8 + (maxL + 11) + lo ≤ rm.locals) ∧ ce + mc ≤ rm.cells ∧ sl + ms ≤ rm.slots
theorem v_callV {b ci : Nat} (hX : mX l g x cc y rm nL) (hdg : decode cc pc = .ok (.invokevirtual index, 3)) (hM : mT l g z (.code z cb maxL ret) fr lo mc ms (.ref b :: As) m post XC) (hκ : gK m b = some (.inl ci)) (hC : (vwCl[ci]?).map Prod.fst = some z.cls)
    (h1 : Cond.methodLink y.cls index z ∈ gw) (h2 : Cond.instanceMethod z ∈ gw) (h3 : Cond.selects z.cls z z ∈ gw) (h4 : Cond.initialized z.cls ∈ gw) (h5 : Cond.code z cb maxL ret ∈ gw) (hd : hMH z As.length) (hst : st0 = As.reverse ++ .ref b :: rest) (hcat : (rest.map fun v => v.category).sum ≤ 8) (hR : hRm fr lo mc ms maxL ce sl rm)
    (kx : ∀ E m', XC E m' → mVX g x m' (ce + mc) (sl + ms) pc lv E) (kk : ∀ r m', post r m' → mV g x m' (ce + mc) (sl + ms) (pc + 3) lv (r.toList ++ rest)) : mV g x m ce sl pc lv st0 := by
  obtain ⟨p, l', e, R, s, md, args, below, meth, c, Q⟩ := x
  obtain ⟨rfl, hx, hb, hml, ⟨hown, hnm⟩, hts, hvm, rfl, hO, hH9⟩ := hX
  have hG : GoodIn gw (wsV y.cls index z.cls z (Cond.code z cb maxL ret :: gw)) := gw_in (fun w hw => by
    simp only [wsV, List.mem_append, List.mem_cons, List.not_mem_nil, or_false] at hw
    rcases hw with (rfl | rfl | rfl | rfl) | rfl | hw <;> assumption)
  refine mV_run (a9 := (Value.ref b :: As).toArray) (fun H locs ls hP hls => ?_) kx kk
  exact vx_runV ⟨hx, hb, hml, hown, hts⟩ hM (cwV As.length hts hG rfl rfl rfl ⟨rfl, hd⟩ hR.1) ⟨mV_blind, mC_recv hO hvm hP hκ hC, fun U hU hW => ⟨rfl, hvm.trans hW, by rw [hU]; exact hP⟩⟩ rfl rfl (hls.trans hml) hst (lv_room hcat) hdg hR.2
theorem v_callS (hX : mX l g x cc y rm nL) (hdg : decode cc pc = .ok (.invokestatic index, 3)) (hM : mT l g z (.code z cb maxL ret) fr lo mc ms As m post XC)
    (h1 : Cond.methodLink y.cls index z ∈ gw) (h2 : Cond.static z ∈ gw) (h4 : Cond.initialized z.cls ∈ gw) (h5 : Cond.code z cb maxL ret ∈ gw) (hd : hMH z As.length) (hst : st0 = As.reverse ++ rest) (hcat : (rest.map fun v => v.category).sum ≤ 8) (hR : hRm fr lo mc ms maxL ce sl rm)
    (kx : ∀ E m', XC E m' → mVX g x m' (ce + mc) (sl + ms) pc lv E) (kk : ∀ r m', post r m' → mV g x m' (ce + mc) (sl + ms) (pc + 3) lv (r.toList ++ rest)) : mV g x m ce sl pc lv st0 := by
  obtain ⟨p, l', e, R, s, md, args, below, meth, c, Q⟩ := x
  obtain ⟨rfl, hx, hb, hml, ⟨hown, hnm⟩, hts, hvm, rfl, hO, hH9⟩ := hX
  have hG : GoodIn gw (Cond.code z cb maxL ret :: gw) := gw_in (fun w hw => by
    rcases List.mem_cons.mp hw with rfl | hw <;> assumption)
  refine mV_run (a9 := As.toArray) (fun H locs ls hP hls => ?_) kx kk
  exact vx_runS ⟨hx, hb, hml, hown, hts⟩ hM ⟨callB_of As.length hts hG rfl rfl rfl (hts _ h4) (hts _ h1) hd hR.1, hts _ h2⟩ ⟨mV_blind, fun U hU hW => ⟨rfl, hvm.trans hW, by rw [hU]; exact hP⟩⟩ rfl rfl (hls.trans hml) hst (lv_room hcat) hdg hR.2
/-- a static method with a table of its own -/
theorem v_callSX {hh : List (Nat × Nat × Nat × Nat)} (hX : mX l g x cc y rm nL) (hdg : decode cc pc = .ok (.invokestatic index, 3)) (hM : mT l g z (.codeWith z cb maxL ret hh) fr lo mc ms As m post XC)
    (h1 : Cond.methodLink y.cls index z ∈ gw) (h2 : Cond.static z ∈ gw) (h4 : Cond.initialized z.cls ∈ gw) (h5 : Cond.codeWith z cb maxL ret hh ∈ gw) (hd : hMH z As.length) (hst : st0 = As.reverse ++ rest) (hcat : (rest.map fun v => v.category).sum ≤ 8) (hR : hRm fr lo mc ms maxL ce sl rm)
    (kx : ∀ E m', XC E m' → mVX g x m' (ce + mc) (sl + ms) pc lv E) (kk : ∀ r m', post r m' → mV g x m' (ce + mc) (sl + ms) (pc + 3) lv (r.toList ++ rest)) : mV g x m ce sl pc lv st0 := by
  obtain ⟨p, l', e, R, s, md, args, below, meth, c, Q⟩ := x
  obtain ⟨rfl, hx, hb, hml, ⟨hown, hnm⟩, hts, hvm, rfl, hO, hH9⟩ := hX
  have hG : GoodIn gw (va_wsS y.cls index z (Cond.codeWith z cb maxL ret hh :: gw)) := gw_in (fun w hw => by
    simp only [va_wsS, List.mem_append, List.mem_cons, List.not_mem_nil, or_false] at hw
    rcases hw with (rfl | rfl | rfl) | rfl | hw <;> assumption)
  refine mV_run (a9 := As.toArray) (fun H locs ls hP hls => ?_) kx kk
  exact vx_runSX ⟨hx, hb, hml, hown, hts⟩ hM (vx_cwSW As.length hts hG rfl rfl rfl hd hR.1) ⟨mV_blind, fun U hU hW => ⟨rfl, hvm.trans hW, by rw [hU]; exact hP⟩⟩ rfl rfl (hls.trans hml) hst (lv_room hcat) hdg hR.2
theorem v_callI {b : Nat} (hX : mX l g x cc y rm nL) (hdg : decode cc pc = .ok (.invokespecial index, 3)) (hM : mT l g z (.code z cb maxL none) fr lo mc ms (.ref b :: As) m post XC)
    (h1 : Cond.methodLink y.cls index z ∈ gw) (h2 : Cond.instanceMethod z ∈ gw) (h4 : Cond.initialized z.cls ∈ gw) (h5 : Cond.code z cb maxL none ∈ gw) (hi : z.name = "<init>") (hd : hMH z As.length) (hst : st0 = As.reverse ++ .ref b :: rest) (hcat : (rest.map fun v => v.category).sum ≤ 8) (hR : hRm fr lo mc ms maxL ce sl rm)
    (kx : ∀ E m', XC E m' → mVX g x m' (ce + mc) (sl + ms) pc lv E) (kk : ∀ r m', post r m' → mV g x m' (ce + mc) (sl + ms) (pc + 3) lv (r.toList ++ rest)) : mV g x m ce sl pc lv st0 := by
  obtain ⟨p, l', e, R, s, md, args, below, meth, c, Q⟩ := x
  obtain ⟨rfl, hx, hb, hml, ⟨hown, hnm⟩, hts, hvm, rfl, hO, hH9⟩ := hX
  have hG : GoodIn gw (Cond.code z cb maxL none :: gw) := gw_in (fun w hw => by
    rcases List.mem_cons.mp hw with rfl | hw <;> assumption)
  refine mV_run (a9 := (Value.ref b :: As).toArray) (fun H locs ls hP hls => ?_) kx kk
  exact vx_runI ⟨hx, hb, hml, hown, hts⟩ hM (cwI As.length hts hG rfl rfl rfl (hts _ h4) (hts _ h1) (hts _ h2) hi hd hR.1) ⟨mV_blind, fun U hU hW => ⟨rfl, hvm.trans hW, by rw [hU]; exact hP⟩⟩ rfl rfl (hls.trans hml) hst (lv_room hcat) hdg hR.2
theorem v_callIN {b : Nat} {host : String} (hX : mX l g x cc y rm nL) (hdg : decode cc pc = .ok (.invokespecial index, 3)) (hM : mT l g z (.code z cb maxL none) fr lo mc ms (.ref b :: As) m post XC)
    (h1 : Cond.methodLinkNest y.cls index z host ∈ lw_tbl) (h2 : Cond.instanceMethod z ∈ gw) (h4 : Cond.initialized z.cls ∈ gw) (h5 : Cond.code z cb maxL none ∈ gw) (hi : z.name = "<init>") (hd : hMH z As.length) (hst : st0 = As.reverse ++ .ref b :: rest) (hcat : (rest.map fun v => v.category).sum ≤ 8) (hR : hRm fr lo mc ms maxL ce sl rm)
    (kx : ∀ E m', XC E m' → mVX g x m' (ce + mc) (sl + ms) pc lv E) (kk : ∀ r m', post r m' → mV g x m' (ce + mc) (sl + ms) (pc + 3) lv (r.toList ++ rest)) : mV g x m ce sl pc lv st0 := by
  obtain ⟨p, l', e, R, s, md, args, below, meth, c, Q⟩ := x
  obtain ⟨rfl, hx, hb, hml, ⟨hown, hnm⟩, hts, hvm, rfl, hO, hH9⟩ := hX
  have hG : GoodIn gw (Cond.code z cb maxL none :: gw) := gw_in (fun w hw => by
    rcases List.mem_cons.mp hw with rfl | hw <;> assumption)
  refine mV_run (a9 := (Value.ref b :: As).toArray) (fun H locs ls hP hls => ?_) kx kk
  exact vx_runIN ⟨hx, hb, hml, hown, hts⟩ hM ⟨va_cnB As.length hts hG rfl rfl rfl (va_Nw.of rfl (mN (args := args) hO hvm h1 rfl)) (hts _ h4) hd hR.1, hi, hts _ h2⟩ ⟨mV_blind, fun U hU hW => ⟨rfl, hvm.trans hW, by rw [hU]; exact hP⟩⟩ rfl rfl (hls.trans hml) hst (lv_room hcat) hdg hR.2
/-- Object.<init> -/
theorem v_objInit {b : Nat} (hX : mX l g x cc y rm nL) (hdg : decode cc pc = .ok (.invokespecial index, 3)) (h1 : Cond.methodLink y.cls index Lib.objectInit ∈ gw) (h2 : Cond.instanceMethod Lib.objectInit ∈ gw) (h3 : Cond.code Lib.objectInit ⟨#[0xb1]⟩ 1 none ∈ gw) (hcat : (st.map fun v => v.category).sum ≤ 8) (hR : 1 ≤ rm.frames ∧ 20 ≤ rm.locals) (kk : mV g x m ce sl (pc + 3) lv st) : mV g x m ce sl pc lv (.ref b :: st) := by
  obtain ⟨p, l', e, R, s, md, args, below, meth, c, Q⟩ := x
  obtain ⟨rfl, hx, hb, hml, ⟨hown, hnm⟩, hts, hvm, rfl, hO, hH9⟩ := hX
  exact fun H locs ls hP hz hL hl => W.objInit hx hb hown (hts _ h1) (hts _ h2) (hts _ h3) rfl hl.1 rfl hdg hR.1 (Nat.le_trans (show _ ≤ 20 from by show 2 * 0 + _ + 12 ≤ 20; omega) hR.2) (kk H locs ls hP hz hL hl)
variable {pst : Option Value → mM → Prop} {XX : String → mM → Prop} {hh : List (Nat × Nat × Nat × Nat)} {mc' ms' : Nat}
theorem v_iret {v : Int32} (hX : mX l g x cc y rm nL) (hZ : mZ g x (some .int) hh pst XX mc' ms') (hdg : decode cc pc = .ok (.ireturn, 1)) (hc : ce ≤ mc') (hs : sl ≤ ms') (hp : pst (some (.int v)) m) : mV g x m ce sl pc lv [.int v] := by
  obtain ⟨p, l', e, R, s, md, args, below, meth, c, Q⟩ := x
  obtain ⟨rfl, hx, hb, hml, ⟨hown, hnm⟩, hts, hvm, rfl, hO, hH9⟩ := hX
  obtain ⟨hr, hlk, htb, rfl⟩ := hZ
  refine fun H locs ls hP hz hL hl => W.widen hc hs (vx_ret (W.iret hx hb hr (fun t ht hW => ⟨_, m, rfl, hp, by rw [ht]; exact hP, by rw [ht, hP.1.1]; exact hz⟩) hL hdg hlk))
theorem v_zret {v : Int32} {ty : FieldType} (hX : mX l g x cc y rm nL) (hZ : mZ g x (some ty) hh pst XX mc' ms') (hdg : decode cc pc = .ok (.ireturn, 1)) (hn : narrow ty (.int v) = .int v) (hc : ce ≤ mc') (hs : sl ≤ ms') (hp : pst (some (.int v)) m) : mV g x m ce sl pc lv [.int v] := by
  obtain ⟨p, l', e, R, s, md, args, below, meth, c, Q⟩ := x
  obtain ⟨rfl, hx, hb, hml, ⟨hown, hnm⟩, hts, hvm, rfl, hO, hH9⟩ := hX
  obtain ⟨hr, hlk, htb, rfl⟩ := hZ
  refine fun H locs ls hP hz hL hl => W.widen hc hs (vx_ret (W.zret hx hb hr hn (fun t ht hW => ⟨_, m, rfl, hp, by rw [ht]; exact hP, by rw [ht, hP.1.1]; exact hz⟩) hL hdg hlk))
theorem v_vret (hX : mX l g x cc y rm nL) (hZ : mZ g x none hh pst XX mc' ms') (hdg : decode cc pc = .ok (.return_, 1)) (hc : ce ≤ mc') (hs : sl ≤ ms') (hp : pst none m) : mV g x m ce sl pc lv [] := by
  obtain ⟨p, l', e, R, s, md, args, below, meth, c, Q⟩ := x
  obtain ⟨rfl, hx, hb, hml, ⟨hown, hnm⟩, hts, hvm, rfl, hO, hH9⟩ := hX
  obtain ⟨hr, hlk, htb, rfl⟩ := hZ
  refine fun H locs ls hP hz hL hl => W.widen hc hs (vx_ret (W.vret hx hb hr (fun t ht hW => ⟨_, m, rfl, hp, by rw [ht]; exact hP, by rw [ht, hP.1.1]; exact hz⟩) hL hdg hlk))
theorem v_aret {v : Option Nat} {rt : FieldType} (hX : mX l g x cc y rm nL) (hZ : mZ g x (some rt) hh pst XX mc' ms') (hdg : decode cc pc = .ok (.areturn, 1)) (hrt : (∃ n, rt = .object n) ∨ ∃ t, rt = .array t) (hc : ce ≤ mc') (hs : sl ≤ ms') (hp : pst (some (va_rf v)) m) : mV g x m ce sl pc lv [va_rf v] := by
  obtain ⟨p, l', e, R, s, md, args, below, meth, c, Q⟩ := x
  obtain ⟨rfl, hx, hb, hml, ⟨hown, hnm⟩, hts, hvm, rfl, hO, hH9⟩ := hX
  obtain ⟨hr, hlk, htb, rfl⟩ := hZ
  refine fun H locs ls hP hz hL hl => W.widen hc hs (vx_ret (W.aret hx hb hr hrt (by cases v; exact Or.inl rfl; exact Or.inr ⟨_, rfl⟩) (fun t ht hW => ⟨_, m, rfl, hp, by rw [ht]; exact hP, by rw [ht, hP.1.1]; exact hz⟩) hL hdg hlk))
theorem v_lret {v : Int64} (hX : mX l g x cc y rm nL) (hZ : mZ g x (some .long) hh pst XX mc' ms') (hdg : decode cc pc = .ok (.lreturn, 1)) (hc : ce ≤ mc') (hs : sl ≤ ms') (hp : pst (some (.long v)) m) : mV g x m ce sl pc lv [.long v] := by
  obtain ⟨p, l', e, R, s, md, args, below, meth, c, Q⟩ := x
  obtain ⟨rfl, hx, hb, hml, ⟨hown, hnm⟩, hts, hvm, rfl, hO, hH9⟩ := hX
  obtain ⟨hr, hlk, htb, rfl⟩ := hZ
  refine fun H locs ls hP hz hL hl => W.widen hc hs (vx_ret (W.lret hx hb hr (fun t ht hW => ⟨_, m, rfl, hp, by rw [ht]; exact hP, by rw [ht, hP.1.1]; exact hz⟩) hL hdg hlk))
/-- an exception that is not caught here -/
theorem v_out {E : String} {rt : Option FieldType} (hX : mX l g x cc y rm nL) (hZ : mZ g x rt [] pst XX mc' ms') (hc : ce ≤ mc') (hs : sl ≤ ms') (hp : XX E m) : mVX g x m ce sl pc lv E := by
  obtain ⟨p, l', e, R, s, md, args, below, meth, c, Q⟩ := x
  obtain ⟨rfl, hx, hb, hml, ⟨hown, hnm⟩, hts, hvm, rfl, hO, hH9⟩ := hX
  obtain ⟨hr, hlk, htb, rfl⟩ := hZ
  intro H locs ls rest q cell hP hz hL hl hcell hv hcl
  exact vx_out (fun x9 h9 => by rw [htb] at h9; cases h9) hlk hcell hv hcl (fun t ht hW => ⟨m, hp, by rw [ht]; exact hP, by rw [ht, hP.1.1]; exact hz⟩) hL hc hs
end
