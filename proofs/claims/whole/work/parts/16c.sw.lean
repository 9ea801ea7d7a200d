/-! ARRAYS of numbers that statics hold: the switch table, the digits -/
theorem st_arr {l : Launch} {g : mG} {C n d : String} {ty : FieldType} {N : Nat} {f : Nat → Int32} (hO : mO l g) (hN : N < 2 ^ 31) (hl : Cond.laysStatic C n d ∈ lw_tbl) (hi : Cond.initialized C ∈ gw) (harr : Cond.arrayOf (.static C n d) ty ∈ FC) (hlen : Cond.eq (.length (.static C n d)) (.int (Int32.ofNat N)) ∈ FC) (hel : ∀ j, j < N → Cond.eq (.elem (.static C n d) (.int (Int32.ofNat j))) (.int (f j)) ∈ FC) : oT g ty (stA g C n d) N (fun j => .int (f j)) ∧ va_Z C n d (.ref (stA g C n d)) (fun a => (gH g).size ≤ a) g.2.2 (gH g) := by
  obtain ⟨-, -, b, h, hw⟩ := hO
  have F := flat_of_before _ h
  obtain ⟨t, r1, hT⟩ := va_Tof (f := fun j => .int (f j)) hN (F _ harr) (va_eqt (F _ hlen)) (fun j hj => va_eqt (F _ (hel j hj))) (mO_old g)
  have e : stA g C n d = t := by
    have q : (Term.static C n d).eval #[] g.2.2 none [] g.2.2 = some (.ref t) := r1
    unfold stA
    rw [q]
  rw [e]
  exact ⟨hT, va_Zref (hw _ hl) (hw _ (gw_tbl hi)) r1 (mO_old g)⟩
def swV (j : Nat) : Int32 := if j = 11 then 0 else nI (j + 1)
def d1V (j : Nat) : Int32 := nI (48 + j % 10)
def d2V (j : Nat) : Int32 := nI (48 + j / 10)
theorem sw_e : ∀ j : Fin 12, FC[253 + j.1]? = some (Cond.eq (.elem (.static "BirdForge$1" "$SwitchMap$BirdForge$Command" "[I") (.int (Int32.ofNat j.1))) (.int (swV j.1))) := by decide +kernel
theorem sw_a : Cond.arrayOf (.static "BirdForge$1" "$SwitchMap$BirdForge$Command" "[I") .int ∈ FC := List.mem_of_getElem? (i := 251) (by decide +kernel)
theorem sw_n : Cond.eq (.length (.static "BirdForge$1" "$SwitchMap$BirdForge$Command" "[I")) (.int (Int32.ofNat 12)) ∈ FC := List.mem_of_getElem? (i := 252) (by decide +kernel)
def swA (g : mG) : Nat := stA g "BirdForge$1" "$SwitchMap$BirdForge$Command" "[I"
theorem sw_TZ {l : Launch} {g : mG} (hO : mO l g) : oT g .int (swA g) 12 (fun j => .int (swV j)) ∧ va_Z "BirdForge$1" "$SwitchMap$BirdForge$Command" "[I" (.ref (swA g)) (fun a => (gH g).size ≤ a) g.2.2 (gH g) := st_arr hO (by decide) wd_1407 wd_30 sw_a sw_n (fun j hj => List.mem_of_getElem? (sw_e ⟨j, hj⟩))
theorem d1_e : ∀ j : Fin 100, FC[19 + j.1]? = some (Cond.eq (.elem (.static "java/lang/Integer" "DigitOnes" "[B") (.int (Int32.ofNat j.1))) (.int (d1V j.1))) := by decide +kernel
theorem d1_a : Cond.arrayOf (.static "java/lang/Integer" "DigitOnes" "[B") .byte ∈ FC := List.mem_of_getElem? (i := 17) (by decide +kernel)
theorem d1_n : Cond.eq (.length (.static "java/lang/Integer" "DigitOnes" "[B")) (.int (Int32.ofNat 100)) ∈ FC := List.mem_of_getElem? (i := 18) (by decide +kernel)
def d1A (g : mG) : Nat := stA g "java/lang/Integer" "DigitOnes" "[B"
theorem d1_TZ {l : Launch} {g : mG} (hO : mO l g) : oT g .byte (d1A g) 100 (fun j => .int (d1V j)) ∧ va_Z "java/lang/Integer" "DigitOnes" "[B" (.ref (d1A g)) (fun a => (gH g).size ≤ a) g.2.2 (gH g) := st_arr hO (by decide) wd_615 wd_36 d1_a d1_n (fun j hj => List.mem_of_getElem? (d1_e ⟨j, hj⟩))
theorem d2_e : ∀ j : Fin 100, FC[122 + j.1]? = some (Cond.eq (.elem (.static "java/lang/Integer" "DigitTens" "[B") (.int (Int32.ofNat j.1))) (.int (d2V j.1))) := by decide +kernel
theorem d2_a : Cond.arrayOf (.static "java/lang/Integer" "DigitTens" "[B") .byte ∈ FC := List.mem_of_getElem? (i := 120) (by decide +kernel)
theorem d2_n : Cond.eq (.length (.static "java/lang/Integer" "DigitTens" "[B")) (.int (Int32.ofNat 100)) ∈ FC := List.mem_of_getElem? (i := 121) (by decide +kernel)
def d2A (g : mG) : Nat := stA g "java/lang/Integer" "DigitTens" "[B"
theorem d2_TZ {l : Launch} {g : mG} (hO : mO l g) : oT g .byte (d2A g) 100 (fun j => .int (d2V j)) ∧ va_Z "java/lang/Integer" "DigitTens" "[B" (.ref (d2A g)) (fun a => (gH g).size ≤ a) g.2.2 (gH g) := st_arr hO (by decide) wd_617 wd_36 d2_a d2_n (fun j hj => List.mem_of_getElem? (d2_e ⟨j, hj⟩))
theorem v_callUO {l : Launch} {g : mG} {x : mCx} {m : mM} {cc : ByteArray} {y z : MethodName} {rm : Room} {nL : Nat} {ce sl pc : Nat} {lv : List (Nat × Value)} {fr lo mc ms maxL index : Nat} {cb : ByteArray} {ret : Option FieldType} {As rest st0 : List Value} {post : Option Value → mM → Prop} {XC : String → mM → Prop} {C : String} {xm : MethodName} {b : Nat} (hX : mX l g x cc y rm nL) (hdg : decode cc pc = .ok (.invokevirtual index, 3)) (hM : mT l g z (.code z cb maxL ret) fr lo mc ms (.ref b :: As) m post XC) (hB : oO g C b)
    (h1 : Cond.methodLink y.cls index xm ∈ gw) (h2 : Cond.sameMethod xm.cls z.cls xm.name xm.desc ∈ gw) (h3 : Cond.selects C xm z ∈ gw) (h4 : Cond.instanceMethod z ∈ gw) (h6 : Cond.initialized z.cls ∈ gw) (h5 : Cond.code z cb maxL ret ∈ gw) (hyx : z = ⟨z.cls, xm.name, xm.desc⟩) (hd : z.cls ≠ "java/lang/invoke/MethodHandle" ∧ z.cls ≠ "java/lang/invoke/VarHandle" ∧ (parseMethodDescriptor xm.desc).map (fun d => d.parameters.length) = some As.length) (hst : st0 = As.reverse ++ .ref b :: rest) (hcat : (rest.map fun v => v.category).sum ≤ 8) (hR : hRm fr lo mc ms maxL ce sl rm)
    (kx : ∀ E m', XC E m' → mVX g x m' (ce + mc) (sl + ms) pc lv E) (kk : ∀ r m', post r m' → mV g x m' (ce + mc) (sl + ms) (pc + 3) lv (r.toList ++ rest)) : mV g x m ce sl pc lv st0 := by
  obtain ⟨p, l', e, R, s, md, args, below, meth, c, Q⟩ := x
  obtain ⟨rfl, hx, hb, hml, ⟨hown, hnm⟩, hts, hvm, rfl, hO, hH9⟩ := hX
  have hG : GoodIn gw (va_wsU y.cls index C z.cls xm z (Cond.code z cb maxL ret :: gw)) := gw_in (fun w hw => by
    simp only [va_wsU, List.mem_append, List.mem_cons, List.not_mem_nil, or_false] at hw
    rcases hw with (rfl | rfl | rfl | rfl | rfl) | rfl | hw <;> assumption)
  refine mV_run (a9 := (Value.ref b :: As).toArray) (fun H locs ls hP hls => ?_) kx kk
  have hrc : ∃ cell : Cell, H[b]? = some cell ∧ cell.vm.isStatics = false ∧ s.vm.findClass C = some cell.cls := by
    obtain ⟨cell, q1, q2, q3, -⟩ := (va_O.moved hvm.alike hB).kept (fun a q1 _ => hP.2.1 a q1)
    exact ⟨cell, q1, q2, q3⟩
  exact vx_runU ⟨hx, hb, hml, hown, hts⟩ hM (va_cwU As.length hts hG rfl rfl rfl hyx hd hR.1) ⟨mV_blind, hrc, fun U hU hW => ⟨rfl, hvm.trans hW, by rw [hU]; exact hP⟩⟩ rfl rfl (hls.trans hml) hst (lv_room hcat) hdg hR.2
theorem v_callU {l : Launch} {g : mG} {x : mCx} {m : mM} {cc : ByteArray} {y z : MethodName} {rm : Room} {nL : Nat} {ce sl pc : Nat} {lv : List (Nat × Value)} {fr lo mc ms maxL index : Nat} {cb : ByteArray} {ret : Option FieldType} {As rest st0 : List Value} {post : Option Value → mM → Prop} {XC : String → mM → Prop} {C : String} {xm : MethodName} {b ci : Nat} (hX : mX l g x cc y rm nL) (hdg : decode cc pc = .ok (.invokevirtual index, 3)) (hM : mT l g z (.code z cb maxL ret) fr lo mc ms (.ref b :: As) m post XC) (hκ : gK m b = some (.inl ci)) (hC : (vwCl[ci]?).map Prod.fst = some C)
    (h1 : Cond.methodLink y.cls index xm ∈ gw) (h2 : Cond.sameMethod xm.cls z.cls xm.name xm.desc ∈ gw) (h3 : Cond.selects C xm z ∈ gw) (h4 : Cond.instanceMethod z ∈ gw) (h6 : Cond.initialized z.cls ∈ gw) (h5 : Cond.code z cb maxL ret ∈ gw) (hyx : z = ⟨z.cls, xm.name, xm.desc⟩) (hd : z.cls ≠ "java/lang/invoke/MethodHandle" ∧ z.cls ≠ "java/lang/invoke/VarHandle" ∧ (parseMethodDescriptor xm.desc).map (fun d => d.parameters.length) = some As.length) (hst : st0 = As.reverse ++ .ref b :: rest) (hcat : (rest.map fun v => v.category).sum ≤ 8) (hR : hRm fr lo mc ms maxL ce sl rm)
    (kx : ∀ E m', XC E m' → mVX g x m' (ce + mc) (sl + ms) pc lv E) (kk : ∀ r m', post r m' → mV g x m' (ce + mc) (sl + ms) (pc + 3) lv (r.toList ++ rest)) : mV g x m ce sl pc lv st0 := by
  obtain ⟨p, l', e, R, s, md, args, below, meth, c, Q⟩ := x
  obtain ⟨rfl, hx, hb, hml, ⟨hown, hnm⟩, hts, hvm, rfl, hO, hH9⟩ := hX
  have hG : GoodIn gw (va_wsU y.cls index C z.cls xm z (Cond.code z cb maxL ret :: gw)) := gw_in (fun w hw => by
    simp only [va_wsU, List.mem_append, List.mem_cons, List.not_mem_nil, or_false] at hw
    rcases hw with (rfl | rfl | rfl | rfl | rfl) | rfl | hw <;> assumption)
  refine mV_run (a9 := (Value.ref b :: As).toArray) (fun H locs ls hP hls => ?_) kx kk
  exact vx_runU ⟨hx, hb, hml, hown, hts⟩ hM (va_cwU As.length hts hG rfl rfl rfl hyx hd hR.1) ⟨mV_blind, mC_recv hO hvm hP hκ hC, fun U hU hW => ⟨rfl, hvm.trans hW, by rw [hU]; exact hP⟩⟩ rfl rfl (hls.trans hml) hst (lv_room hcat) hdg hR.2
theorem v_callSU {l : Launch} {g : mG} {x : mCx} {m : mM} {cc : ByteArray} {y z : MethodName} {rm : Room} {nL : Nat} {ce sl pc : Nat} {lv : List (Nat × Value)} {fr lo mc ms maxL index : Nat} {cb : ByteArray} {ret : Option FieldType} {As rest st0 : List Value} {post : Option Value → mM → Prop} {XC : String → mM → Prop} {b ci : Nat} {C : String} (hX : mX l g x cc y rm nL) (hdg : decode cc pc = .ok (.invokespecial index, 3)) (hM : mT l g z (.code z cb maxL ret) fr lo mc ms (.ref b :: As) m post XC) (hκ : gK m b = some (.inl ci)) (hC : (vwCl[ci]?).map Prod.fst = some C)
    (h1 : Cond.methodLink y.cls index z ∈ gw) (h2 : Cond.sameMethod z.cls z.cls z.name z.desc ∈ gw) (h3 : Cond.superclass y.cls z.cls ∈ gw) (h4 : Cond.instanceMethod z ∈ gw) (h6 : Cond.initialized z.cls ∈ gw) (h5 : Cond.code z cb maxL ret ∈ gw) (hd : z.name ≠ "<init>" ∧ (parseMethodDescriptor z.desc).map (fun d => d.parameters.length) = some As.length) (hst : st0 = As.reverse ++ .ref b :: rest) (hcat : (rest.map fun v => v.category).sum ≤ 8) (hR : hRm fr lo mc ms maxL ce sl rm)
    (kx : ∀ E m', XC E m' → mVX g x m' (ce + mc) (sl + ms) pc lv E) (kk : ∀ r m', post r m' → mV g x m' (ce + mc) (sl + ms) (pc + 3) lv (r.toList ++ rest)) : mV g x m ce sl pc lv st0 := by
  obtain ⟨p, l', e, R, s, md, args, below, meth, c, Q⟩ := x
  obtain ⟨rfl, hx, hb, hml, ⟨hown, hnm⟩, hts, hvm, rfl, hO, hH9⟩ := hX
  have hG : GoodIn gw (va_wsSU y.cls index z (Cond.code z cb maxL ret :: gw)) := gw_in (fun w hw => by
    simp only [va_wsSU, List.mem_append, List.mem_cons, List.not_mem_nil, or_false] at hw
    rcases hw with (rfl | rfl | rfl | rfl | rfl) | rfl | hw <;> assumption)
  refine mV_run (a9 := (Value.ref b :: As).toArray) (fun H locs ls hP hls => ?_) kx kk
  obtain ⟨r, hr, -⟩ := (hP.2.2 b _ hκ).2
  have hC' : r.1 = C := by rw [hr] at hC; exact Option.some.inj hC
  exact vx_runSU (C := C) (hC' ▸ ((mO_K hO hvm).1 ci r hr).2) ⟨hx, hb, hml, hown, hts⟩ hM (va_cwSU As.length hts hG rfl rfl rfl hd hR.1) ⟨mV_blind, mC_recv hO hvm hP hκ hC, fun U hU hW => ⟨rfl, hvm.trans hW, by rw [hU]; exact hP⟩⟩ rfl rfl (hls.trans hml) hst (lv_room hcat) hdg hR.2
theorem sel_sub {C : String} {z w : MethodName} {s : State} {args : Array Value} (hy : z.cls ≠ "java/lang/invoke/MethodHandle" ∧ z.cls ≠ "java/lang/invoke/VarHandle") (hw : (Cond.selects C w w).before args s = true) (hcl : w.cls = z.cls) (hpriv : (Cond.privateMethod z).before args s = true) (hinst : (Cond.instanceMethod z).before args s = true) : (Cond.selects C z z).before args s = true := by
  obtain ⟨c, r, m, q1, q2, q3, q4, kP, hkP, hkPi⟩ := Cond.selects_spec hw
  obtain ⟨mk, methM, hnamed, hmethM, -, -⟩ := Cond.instanceMethod_spec hinst
  have hfound : s.methodFound? z.cls z.name z.desc = some mk := State.methodFound?_of_named hnamed hy
  have h1 := findClass_of_methodNamed q3
  have h2 := findClass_of_methodNamed hnamed
  rw [hcl] at h1
  have hcm : m.cls = mk.cls := Option.some.inj (h1.symm.trans h2)
  have hsel : selectMethod {} s.vm c mk = .method mk := selectMethod_private hmethM (Cond.privateMethod_at hpriv mk methM hnamed hmethM)
  rw [hcm] at hkP
  simp only [Cond.before, Cond.holds, Cond.value, q1, hfound, hnamed, hsel, hkP]
  simp; exact hkPi
theorem v_callUP {l : Launch} {g : mG} {x : mCx} {m : mM} {cc : ByteArray} {y z : MethodName} {rm : Room} {nL : Nat} {ce sl pc : Nat} {lv : List (Nat × Value)} {fr lo mc ms maxL index : Nat} {cb : ByteArray} {ret : Option FieldType} {As rest st0 : List Value} {post : Option Value → mM → Prop} {XC : String → mM → Prop} {C : String} {w0 : MethodName} {b ci : Nat} (hX : mX l g x cc y rm nL) (hdg : decode cc pc = .ok (.invokevirtual index, 3)) (hM : mT l g z (.code z cb maxL ret) fr lo mc ms (.ref b :: As) m post XC) (hκ : gK m b = some (.inl ci)) (hC : (vwCl[ci]?).map Prod.fst = some C)
    (h1 : Cond.methodLink y.cls index z ∈ gw) (h2 : Cond.sameMethod z.cls z.cls z.name z.desc ∈ gw) (h3 : Cond.selects C w0 w0 ∈ gw) (hcl : w0.cls = z.cls) (hpv : Cond.privateMethod z ∈ lw_tbl) (h4 : Cond.instanceMethod z ∈ gw) (h6 : Cond.initialized z.cls ∈ gw) (h5 : Cond.code z cb maxL ret ∈ gw) (hd : z.cls ≠ "java/lang/invoke/MethodHandle" ∧ z.cls ≠ "java/lang/invoke/VarHandle" ∧ (parseMethodDescriptor z.desc).map (fun d => d.parameters.length) = some As.length) (hst : st0 = As.reverse ++ .ref b :: rest) (hcat : (rest.map fun v => v.category).sum ≤ 8) (hR : hRm fr lo mc ms maxL ce sl rm)
    (kx : ∀ E m', XC E m' → mVX g x m' (ce + mc) (sl + ms) pc lv E) (kk : ∀ r m', post r m' → mV g x m' (ce + mc) (sl + ms) (pc + 3) lv (r.toList ++ rest)) : mV g x m ce sl pc lv st0 := by
  obtain ⟨p, l', e, R, s, md, args, below, meth, c, Q⟩ := x
  obtain ⟨rfl, hx, hb, hml, ⟨hown, hnm⟩, hts, hvm, rfl, hO, hH9⟩ := hX
  have hs3 : (Cond.selects C z z).before args s = true := by
    obtain ⟨-, -, b0, h0, hw0⟩ := hO
    exact word_at hvm (Or.inl rfl) (sel_sub ⟨hd.1, hd.2.1⟩ (hw0 _ (gw_tbl h3)) hcl (hw0 _ hpv) (hw0 _ (gw_tbl h4)))
  have hts' : ∀ w ∈ Cond.selects C z z :: gw, w.before args s = true := by
    intro w hw
    rcases List.mem_cons.mp hw with rfl | hw
    · exact hs3
    · exact hts _ hw
  have hG : GoodIn (Cond.selects C z z :: gw) (va_wsU y.cls index C z.cls z z (Cond.code z cb maxL ret :: gw)) := by
    have ok : ∀ w, w ∈ gw → w ∈ Cond.selects C z z :: gw ∧ ((w.onTables && w.keeps) = true ∨ ∃ ty, w = .arrayClass ty) := fun w hw => ⟨List.mem_cons_of_mem _ hw, good_of_word (List.mem_filter.mp hw).2⟩
    intro w hw
    simp only [va_wsU, List.mem_append, List.mem_cons, List.not_mem_nil, or_false] at hw
    rcases hw with (rfl | rfl | rfl | rfl | rfl) | rfl | hw
    · exact ok _ h1
    · exact ok _ h2
    · exact ⟨List.mem_cons_self, Or.inl rfl⟩
    · exact ok _ h4
    · exact ok _ h6
    · exact ok _ h5
    · exact ok _ hw
  refine mV_run (a9 := (Value.ref b :: As).toArray) (fun H locs ls hP hls => ?_) kx kk
  exact vx_runU ⟨hx, hb, hml, hown, hts'⟩ hM (va_cwU As.length hts' hG rfl rfl rfl rfl hd hR.1) ⟨mV_blind, mC_recv hO hvm hP hκ hC, fun U hU hW => ⟨rfl, hvm.trans hW, by rw [hU]; exact hP⟩⟩ rfl rfl (hls.trans hml) hst (lv_room hcat) hdg hR.2
