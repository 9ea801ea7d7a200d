/-! STATICS, as the start has them -/
def stA (g : mG) (C n d : String) : Nat := match (Term.static C n d).eval #[] g.2.2 none [] g.2.2 with
  | some (.ref a) => a
  | _ => 0
theorem mO_flat {l : Launch} {g : mG} (hO : mO l g) : ∃ b : Addr, ∀ w ∈ flatC (Jvm.Cond.and given_1 narrow_1), w.before #[Value.ref b] g.2.2 = true := by
  obtain ⟨-, -, b, h, -⟩ := hO
  exact ⟨b, flat_of_before _ h⟩
theorem mO_old (g : mG) : ∀ a : Nat, a < (gH g).size → ¬ (gH g).size ≤ a := fun a h => Nat.not_le.mpr h
theorem st_ref {l : Launch} {g : mG} {C n d E : String} (hO : mO l g) (hl : Cond.laysStatic C n d ∈ lw_tbl) (hi : Cond.initialized C ∈ gw) (hx : Cond.exactly (.static C n d) E ∈ flatC (Jvm.Cond.and given_1 narrow_1)) : va_Z C n d (.ref (stA g C n d)) (fun a => (gH g).size ≤ a) g.2.2 (gH g) ∧ va_O E (stA g C n d) (fun a => (gH g).size ≤ a) g.2.2 (gH g) := by
  obtain ⟨-, -, b, h, hw⟩ := hO
  obtain ⟨a, c, cell, k, q1, q2, q3, q4, q5, q6, -⟩ := Cond.exactly_spec (flat_of_before _ h _ hx)
  have e : stA g C n d = a := by
    have q : (Term.static C n d).eval #[] g.2.2 none [] g.2.2 = some (.ref a) := q1
    unfold stA
    rw [q]
  rw [e]
  exact ⟨va_Zref (hw _ hl) (hw _ (gw_tbl hi)) q1 (mO_old g), cell, q3, q5, by rw [q6]; exact q2, mO_old g _ (Array.getElem?_eq_some_iff.mp q3).1⟩
theorem st_ne {l : Launch} {g : mG} {C n d C' n' d' E E' : String} (hO : mO l g) (hx : Cond.exactly (.static C n d) E ∈ flatC (Jvm.Cond.and given_1 narrow_1)) (hx' : Cond.exactly (.static C' n' d') E' ∈ flatC (Jvm.Cond.and given_1 narrow_1)) (hn : Cond.not (.eq (.static C n d) (.static C' n' d')) ∈ flatC (Jvm.Cond.and given_1 narrow_1)) : stA g C n d ≠ stA g C' n' d' := by
  obtain ⟨-, -, b, h, hw⟩ := hO
  obtain ⟨a, c, cell, k, q1, -⟩ := Cond.exactly_spec (flat_of_before _ h _ hx)
  obtain ⟨a', c', cell', k', q1', -⟩ := Cond.exactly_spec (flat_of_before _ h _ hx')
  have e : stA g C n d = a := by
    have q : (Term.static C n d).eval #[] g.2.2 none [] g.2.2 = some (.ref a) := q1
    unfold stA
    rw [q]
  have e' : stA g C' n' d' = a' := by
    have q : (Term.static C' n' d').eval #[] g.2.2 none [] g.2.2 = some (.ref a') := q1'
    unfold stA
    rw [q]
  rw [e, e']
  exact va_neR (flat_of_before _ h _ hn) q1 q1'
section
variable {l : Launch} {g : mG} {x : mCx} {m m1 : mM} {cc : ByteArray} {y : MethodName} {rm : Room} {nL : Nat} {ce sl pc : Nat} {lv : List (Nat × Value)} {st : List Value}
theorem mV_S {g : mG} {m : mM} {H : Heap} {s : State} {locs : List Loc} (hP : mP g m H) (hz : s.heap.size ≤ gN m) (hL : ∀ q ∈ locs, (gH g).size ≤ q.base) (hH : ∀ q : Nat, q < (gH g).size → s.heap[q]? = (gH g)[q]?) : va_S (fun q => (gH g).size ≤ q) s.heap H locs :=
  ⟨by rw [hP.1.1]; exact hz, fun q h1 h2 => (hP.2.1 q (Nat.not_le.mp h2)).trans (hH q (Nat.not_le.mp h2)).symm, hL⟩
theorem mV_Z {g : mG} {s : State} {C n d : String} {v : Value} (hZ : va_Z C n d v (fun q => (gH g).size ≤ q) g.2.2 (gH g)) (hvm : g.2.2.WarmedH s.vm) (hH : ∀ q : Nat, q < (gH g).size → s.heap[q]? = (gH g)[q]?) : va_Z C n d v (fun q => (gH g).size ≤ q) s s.heap :=
  va_Z.kept (va_Z.moved hvm.alike hZ) (fun a h1 _ => hH a h1)
theorem v_gets {C n d : String} {index : Nat} {v : Value} (hX : mX l g x cc y rm nL) (hdg : decode cc pc = .ok (.getstatic index, 3)) (hZ : va_Z C n d v (fun q => (gH g).size ≤ q) g.2.2 (gH g)) (hw : Cond.fieldLink y.cls index C n d ∈ gw) (kk : mV g x m ce sl (pc + 3) lv (v :: st)) : mV g x m ce sl pc lv st := by
  obtain ⟨p, l', e, R, s, md, args, below, meth, c, Q⟩ := x
  obtain ⟨rfl, hx, hb, hml, ⟨hown, hnm⟩, hts, hvm, rfl, hO, hH9⟩ := hX
  exact fun H locs ls hP hz hL hl => va_gets hx hb (mV_Z hZ hvm hH9.2) (mV_S hP hz hL hH9.2) hown (hts _ hw) (fun _ h => h) hdg (kk H locs ls hP hz hL hl)
end
/-- the verdicts' addresses -/
def vdA (g : mG) : Nat → Nat
  | 0 => stA g "BirdForge$Verdict" "UNTESTED" "LBirdForge$Verdict;"
  | 1 => stA g "BirdForge$Verdict" "PASSED" "LBirdForge$Verdict;"
  | _ => stA g "BirdForge$Verdict" "FAILED" "LBirdForge$Verdict;"
theorem vd_x0 : Cond.exactly (.static "BirdForge$Verdict" "UNTESTED" "LBirdForge$Verdict;") "BirdForge$Verdict" ∈ flatC (Jvm.Cond.and given_1 narrow_1) := by decide +kernel
theorem vd_Z0 {l : Launch} {g : mG} (hO : mO l g) : va_Z "BirdForge$Verdict" "UNTESTED" "LBirdForge$Verdict;" (.ref (vdA g 0)) (fun a => (gH g).size ≤ a) g.2.2 (gH g) := (st_ref hO wd_89 wd_6 vd_x0).1
theorem vd_x1 : Cond.exactly (.static "BirdForge$Verdict" "PASSED" "LBirdForge$Verdict;") "BirdForge$Verdict" ∈ flatC (Jvm.Cond.and given_1 narrow_1) := by decide +kernel
theorem vd_Z1 {l : Launch} {g : mG} (hO : mO l g) : va_Z "BirdForge$Verdict" "PASSED" "LBirdForge$Verdict;" (.ref (vdA g 1)) (fun a => (gH g).size ≤ a) g.2.2 (gH g) := (st_ref hO wd_1076 wd_6 vd_x1).1
theorem vd_x2 : Cond.exactly (.static "BirdForge$Verdict" "FAILED" "LBirdForge$Verdict;") "BirdForge$Verdict" ∈ flatC (Jvm.Cond.and given_1 narrow_1) := by decide +kernel
theorem vd_Z2 {l : Launch} {g : mG} (hO : mO l g) : va_Z "BirdForge$Verdict" "FAILED" "LBirdForge$Verdict;" (.ref (vdA g 2)) (fun a => (gH g).size ≤ a) g.2.2 (gH g) := (st_ref hO wd_1074 wd_6 vd_x2).1
theorem vd_n01 {l : Launch} {g : mG} (hO : mO l g) : vdA g 0 ≠ vdA g 1 := st_ne hO vd_x0 vd_x1 (by decide +kernel)
theorem vd_n10 {l : Launch} {g : mG} (hO : mO l g) : vdA g 1 ≠ vdA g 0 := (vd_n01 hO).symm
theorem vd_n02 {l : Launch} {g : mG} (hO : mO l g) : vdA g 0 ≠ vdA g 2 := st_ne hO vd_x0 vd_x2 (by decide +kernel)
theorem vd_n20 {l : Launch} {g : mG} (hO : mO l g) : vdA g 2 ≠ vdA g 0 := (vd_n02 hO).symm
theorem vd_n21 {l : Launch} {g : mG} (hO : mO l g) : vdA g 2 ≠ vdA g 1 := st_ne hO vd_x2 vd_x1 (by decide +kernel)
theorem vd_n12 {l : Launch} {g : mG} (hO : mO l g) : vdA g 1 ≠ vdA g 2 := (vd_n21 hO).symm
