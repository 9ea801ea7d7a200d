/-! THE FIRST OBJECT -/
section
variable {g : mG} {m M1 M2 : mM} {b r : Nat}
theorem toL0 : (0 : Int32).toInt64 = 0 := by decide
theorem fst_OBJ (hk : gK m b = some (.inl 11)) (hg : gN m = b + 1) (h1 : M1 = X10_init_m g m b) (hr : gN M1 = r) (h2 : M2 = X11_init_m g (nw M1 (.inl 12)) r) : OBJ g M1 M2 b r 0 ∧ vaO M1 (b + 230) = b + 231 := by
  have e1 : M1 = biZ g m b := h1
  have sb : SB M1 b := by rw [e1]; exact bi_SB hk hg
  obtain ⟨i1, i2, i3, i4⟩ : gI M1 359 b = 0 ∧ gI M1 360 b = -1 ∧ gI M1 361 b = -1 ∧ gN M1 = b + 232 := by rw [e1]; exact bi_I hg
  obtain ⟨p1, p2, p3, p4, p5⟩ : SP M1 (b + 214) ∧ gI M1 323 (b + 214) = 0 ∧ gI M1 324 (b + 214) = 0 ∧ gI M1 325 (b + 214) = 0 ∧ ∀ i, i < 12 → gQ M1 (b + 214 + 2) i = some (cmA g 11) := by rw [e1]; exact bi_P hg
  have l1 : SL M1 (b + 230) (b + 231) 16 0 := by rw [e1]; exact bi_L hg
  obtain ⟨h3, h4⟩ : gI M1 257 (b + 49) = 0 ∧ gI M1 258 (b + 49) = 0 := by rw [e1]; exact bi_H hg
  obtain ⟨f1, f2, f3, f4, f5, f6⟩ : (∀ ky, 163 ≤ ky → ky ≤ 170 → gI M1 ky (b + 1) = 0) ∧ gJ M1 171 (b + 1) = 0 ∧ gI M1 192 (b + 1 + 1) = 20 ∧ gI M1 193 (b + 1 + 1) = 0 ∧ gI M1 194 (b + 1 + 1) = 20 ∧ gJ M1 195 (b + 1 + 1) = 0 := by rw [e1]; exact bi_F hg
  have n1 := nwk (M := M1) (kd := .inl 12) hr
  have sr : SR M2 r := by rw [h2]; exact ri_SR n1.1 n1.2
  have wd : WD M2 r := by rw [h2]; exact ri_WD n1.1 n1.2
  have rv : ∀ i, gA M2 (r + 1) i = if i = 4 then 1 else if i = 3 then 20 else if i = 1 then 20 else 0 := fun i => by rw [h2]; exact ri_v n1.1 n1.2
  have rI : ∀ ky, gI M2 ky r = if ky = 387 then -1 else if ky = 386 then -1 else 0 := fun ky => by
    have q := ri_I (g := g) n1.1 n1.2 (ky := ky)
    rw [h2, q]
    have z : gI (nw M1 (.inl 12)) ky r = 0 := by
      simp only [mm]
      rw [if_pos hr.symm]
    rw [z]
  have w0 : gA M2 (r + 1) 0 = 0 := by rw [rv]; decide
  have w1 : gA M2 (r + 1) 1 = 20 := by rw [rv]; decide
  have w2 : gA M2 (r + 1) 2 = 0 := by rw [rv]; decide
  have w3 : gA M2 (r + 1) 3 = 20 := by rw [rv]; decide
  have w4 : gA M2 (r + 1) 4 = 1 := by rw [rv]; decide
  have w5 : gA M2 (r + 1) 5 = 0 := by rw [rv]; decide
  have w6 : gA M2 (r + 1) 6 = 0 := by rw [rv]; decide
  have w7 : gA M2 (r + 1) 7 = 0 := by rw [rv]; decide
  have w8 : gA M2 (r + 1) 8 = 0 := by rw [rv]; decide
  have w9 : gA M2 (r + 1) 9 = 0 := by rw [rv]; decide
  have w10 : gA M2 (r + 1) 10 = 0 := by rw [rv]; decide
  have w11 : gA M2 (r + 1) 11 = 0 := by rw [rv]; decide
  have w12 : gA M2 (r + 1) 12 = 0 := by rw [rv]; decide
  have n0 : nI 0 = 0 := rfl
  have fr : FR g M1 (b + 1) (gA M2 (r + 1)) 0 0 := by
    refine ⟨sb.f1, ⟨?_, ?_, ?_, ?_, ?_, ?_, ?_, ?_, ?_, ?_, ?_, ?_, ?_⟩, fun i hi => by omega, fun i hi => by omega, by omega, by omega⟩
    · rw [w0, f1 166 (by decide) (by decide)]
    · rw [w1]; exact f3
    · rw [w2]; exact f4
    · rw [w3]; exact f5
    · rw [w4, f1 165 (by decide) (by decide)]; decide
    · rw [w5, f1 163 (by decide) (by decide)]
    · rw [w6, f1 164 (by decide) (by decide)]
    · rw [w7, f1 167 (by decide) (by decide)]
    · rw [w8, f1 168 (by decide) (by decide)]
    · rw [w9, f6]; exact toL0.symm
    · rw [w10, f2]; exact toL0.symm
    · rw [w11, f1 169 (by decide) (by decide)]
    · rw [w12, f1 170 (by decide) (by decide)]
  have rV : RV 0 (gA M2 (r + 1)) 0 0 := by
    refine ⟨?_, fun i hi => by omega, fun i j _ hi => by omega, fun i hi => by omega, by rw [inW]; omega, by omega, by omega⟩
    unfold SV
    rw [w1, w2, w3, w4, w5, w6, w8, w9, w10]
    decide
  have slo : SLo M1 (b + 230) := by
    unfold SLo
    rw [l1.va, l1.ca, l1.cn]
    exact l1
  refine ⟨⟨sb, p1, fun i hi => ⟨11, by decide, p5 i hi⟩, sr, wd, ⟨0, 0, fr, rV⟩, Or.inl ⟨i1, by rw [rI]; decide⟩, ⟨0, 0, by decide, by decide, h3, h4, by rw [rI]; decide, fun c hc => by omega⟩, ⟨0, by decide, p2, by rw [rI]; decide, fun i hi => by omega⟩, ?_, ⟨0, by decide, slo, by rw [l1.va]; exact Nat.le_refl _, l1.cn, by rw [rI]; decide, fun i hi => by omega⟩⟩, l1.va⟩
  unfold ERR
  rw [i2, i3, rI, rI]
  decide
/-- behind both constructors, with the law's two arrays -/
theorem fst_all (hk : gK m b = some (.inl 11)) (hg : gN m = b + 1) (h1 : M1 = X10_init_m g m b) (hr : gN M1 = r) (h2 : M2 = X11_init_m g (nw M1 (.inl 12)) r) : OBJ g (nw (nw M2 (.inr (4, 1))) (.inr (5, 1))) (nw (nw M2 (.inr (4, 1))) (.inr (5, 1))) b r 0 ∧ PL (nw (nw M2 (.inr (4, 1))) (.inr (5, 1))) b r (r + 12) (r + 13) ∧ gN M2 = r + 12 := by
  obtain ⟨h, hv⟩ := fst_OBJ hk hg h1 hr h2
  have e1 : M1 = biZ g m b := h1
  have hn : gN M1 = b + 232 := by rw [e1]; exact (bi_I hg).2.2.2
  have n1 := nwk (M := M1) (kd := .inl 12) hr
  have n2 : gN M2 = r + 12 := by rw [h2]; exact ri_n n1.1 n1.2
  have sN1 : ∀ a, a < r → Sm M1 M2 a := fun a ha => by
    have q := ri_F (g := g) n1.1 n1.2 ha
    rw [h2]
    refine ⟨q.1.trans ?_, mS_tr (mS_nw (by omega)) q.2⟩
    simp only [mm]
    rw [if_neg (by omega)]
  have sN2 : ∀ a, a < r + 12 → Sm M2 (nw (nw M2 (.inr (4, 1))) (.inr (5, 1))) a := fun a ha => by
    have g1 : gN (nw M2 (.inr (4, 1))) = r + 13 := by simp only [mm]; omega
    refine ⟨?_, mS_tr (mS_nw (by omega)) (mS_nw (by omega))⟩
    simp only [mm]
    rw [if_neg (by omega), if_neg (by omega)]
  have k1 := nwk (M := M2) (kd := .inr (4, 1)) n2
  have k2 := nwk (M := nw M2 (.inr (4, 1))) (kd := .inr (5, 1)) k1.2
  refine ⟨(h.toC (fun a q1 q2 => (sN1 a (by omega)).tr (sN2 a (by omega))) ((sN1 _ (by omega)).tr (sN2 _ (by omega)))).toR (fun a q1 q2 => sN2 a q2), ⟨by omega, by omega, by omega, ?_, k2.1⟩, n2⟩
  generalize hM : nw M2 (.inr (4, 1)) = M3 at k1 k2 ⊢
  simp only [mm]
  rw [if_neg (by omega)]
  exact k1.1
end
/-- the commands lie apart -/
theorem cmd_apt {l : Launch} {g : mG} (hO : mO l g) : ∀ j, j < 12 → cmI g (cmA g j) = j := fun j hj => by
  obtain ⟨e1, e2⟩ := cmI_at (g := g) hj
  generalize cmI g (cmA g j) = i at e1 e2 ⊢
  have q1 := cm_ord hO i e2
  have q2 := cm_ord hO j hj
  rw [e1] at q1
  obtain ⟨cf, k, fi, f, cell, a1, a2, a3, a4, a5, a6⟩ := q1
  obtain ⟨cf', k', fi', f', cell', b1, b2, b3, b4, b5, b6⟩ := q2
  rw [a1] at b1
  cases b1
  rw [a3] at b3
  cases b3
  rw [a5] at b5
  have z : nI i = nI j := by
    injection b5 with z1
    injection z1
  exact (nI_eq (by omega) (by omega)).mp z
/-- the classes and the array classes, as the start has them -/
theorem ak_c {s : State} {A : Array Value} {ty : FieldType} (hb : ∀ C, ty ≠ .object C) (h : (Cond.arrayClass ty).before A s = true) : ∃ c, ArrOfT s c ty ∧ va_RA s c ty := by
  obtain ⟨c, k, comp, h1, h2, h3⟩ := Cond.arrayClass_spec h
  refine ⟨c, fun n z => ⟨(fun k h => by cases h), k, h2, comp, h3⟩, ?_⟩
  cases ty with
  | object C => exact absurd rfl (hb C)
  | _ => exact h1
theorem ak_o {s : State} {A : Array Value} {C : String} (h : (Cond.arrayOver (.object C)).before A s = true) : ∃ c, ArrOfT s c (.object C) ∧ va_RA s c (.object C) := by
  obtain ⟨comp, c, k, h1, -, h3, h4, h5⟩ := Cond.arrayOver_spec h
  exact ⟨c, fun n z => ⟨(fun k h => by cases h), k, h3, comp, h4⟩, k, comp, h3, h4, h1, h5⟩
theorem ak_a {s : State} {A : Array Value} (h : (Cond.arrayOver (.array .int)).before A s = true) : ∃ c, ArrOfT s c (.array .int) ∧ va_RA s c (.array .int) := by
  obtain ⟨comp, c, k, h1, -, h3, h4, h5⟩ := arrayOverA_spec h
  exact ⟨c, fun n z => ⟨(fun k h => by cases h), k, h3, comp, h4⟩, h5⟩
theorem st_tys {s : State} {A : Array Value} (hts : ∀ w ∈ lw_tbl, w.before A s = true) : ∀ t, t < 11 → ∃ c, ArrOfT s c (aty t) ∧ va_RA s c (aty t) := fun t ht => by
  match t, ht with
  | 0, _ => exact ak_c (fun _ q => by cases q) (hts _ (gw_tbl wd_272))
  | 1, _ => exact ak_c (fun _ q => by cases q) (hts _ (gw_tbl wd_271))
  | 2, _ => exact ak_c (fun _ q => by cases q) (hts _ (gw_tbl wd_305))
  | 3, _ => exact ak_c (fun _ q => by cases q) (hts _ (gw_tbl wd_305))
  | 4, _ => exact ak_c (fun _ q => by cases q) (hts _ (gw_tbl wd_1961))
  | 5, _ => exact ak_c (fun _ q => by cases q) (hts _ (gw_tbl wd_1962))
  | 6, _ => exact ak_o (hts _ wd_204)
  | 7, _ => exact ak_o (hts _ wd_82)
  | 8, _ => exact ak_o (hts _ wd_80)
  | 9, _ => exact ak_o (hts _ wd_246)
  | 10, _ => exact ak_a (hts _ wd_248)
  | n + 11, h => omega
theorem st_cls {s : State} {A : Array Value} (hts : ∀ w ∈ lw_tbl, w.before A s = true) : ∀ (k : Nat) (q : vw_C), vwCl[k]? = some q → ∃ (cC : ClassId) (iS : Nat → Nat), u_Kn s q.1 q.2.1 q.2.2 cC iS := fun k q hq => by
  have hin : ∀ w ∈ u_ws q.1 q.2.1 q.2.2, w ∈ lw_tbl := fun w hw => gw_tbl (inG k q hq w hw)
  match k, hq, hin with
  | 0, hq, hin => cases hq; exact u_known hts hin (hts _ (gw_tbl wd_631))
  | 1, hq, hin => cases hq; exact u_known hts hin (hts _ (gw_tbl wd_274))
  | 2, hq, hin => cases hq; exact u_known hts hin (hts _ (gw_tbl wd_787))
  | 3, hq, hin => cases hq; exact u_known hts hin (hts _ (gw_tbl wd_478))
  | 4, hq, hin => cases hq; exact u_known hts hin (hts _ (gw_tbl wd_218))
  | 5, hq, hin => cases hq; exact u_known hts hin (hts _ (gw_tbl wd_46))
  | 6, hq, hin => cases hq; exact u_known hts hin (hts _ (gw_tbl wd_52))
  | 7, hq, hin => cases hq; exact u_known hts hin (hts _ (gw_tbl wd_133))
  | 8, hq, hin => cases hq; exact u_known hts hin (hts _ (gw_tbl wd_198))
  | 9, hq, hin => cases hq; exact u_known hts hin (hts _ (gw_tbl wd_83))
  | 10, hq, hin => cases hq; exact u_known hts hin (hts _ (gw_tbl wd_240))
  | 11, hq, hin => cases hq; exact u_known hts hin (hts _ (gw_tbl wd_38))
  | 12, hq, hin => cases hq; exact u_known hts hin (hts _ (gw_tbl wd_1501))
  | n + 13, hq, _ => simp [vwCl] at hq
theorem st_K {s : State} {A : Array Value} (hts : ∀ w ∈ lw_tbl, w.before A s = true) : ∃ (cC : Nat → ClassId) (iS : Nat → Nat → Nat) (cA : Nat → ClassId), va_K (cC, iS) vwCl (tysL cA) s := by
  have h1 := st_cls hts
  have h2 := st_tys hts
  have h3 : ∀ k : Nat, ∃ (cC : ClassId) (iS : Nat → Nat), ∀ q : vw_C, vwCl[k]? = some q → u_Kn s q.1 q.2.1 q.2.2 cC iS := fun k => by
    cases e : vwCl[k]? with
    | none => exact ⟨0, fun _ => 0, fun q hq => by cases hq⟩
    | some q =>
      obtain ⟨cC, iS, h⟩ := h1 k q e
      exact ⟨cC, iS, fun q' hq => by cases hq; exact h⟩
  have h4 : ∀ t : Nat, ∃ c, t < 11 → ArrOfT s c (aty t) ∧ va_RA s c (aty t) := fun t => by
    by_cases c : t < 11
    · obtain ⟨c, h⟩ := h2 t c
      exact ⟨c, fun _ => h⟩
    · exact ⟨0, fun h => absurd h c⟩
  refine ⟨fun k => Classical.choose (h3 k), fun k => Classical.choose (Classical.choose_spec (h3 k)), fun t => Classical.choose (h4 t), fun k q hq => Classical.choose_spec (Classical.choose_spec (h3 k)) q hq, fun k q hq => ?_⟩
  by_cases c : k < 11
  · rw [tysL_at _ c] at hq
    cases hq
    exact Classical.choose_spec (h4 k) c
  · have e : (tysL fun t => Classical.choose (h4 t))[k]? = none := by
      unfold tysL
      rw [List.getElem?_map, List.getElem?_eq_none (by simp; omega)]
      rfl
    rw [e] at hq
    cases hq
/-- the script is one of the start's own arrays -/
theorem st_scr {s : State} {g : mG} {b L : Nat} {xs : Nat → Int32} (hs : g.2.2 = s) (hX : va_X b L xs s s.heap) (hb : b < s.heap.size) : oT g .int b L (fun i => .int (xs i)) := by
  subst hs
  obtain ⟨scr, h1, h2, h3, h4, h5⟩ := hX
  refine ⟨scr, h1, h2, h3, by omega, ?_, h5, Nat.not_le.mpr hb⟩
  rw [h4]
