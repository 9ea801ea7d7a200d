/-! THE LINES: THE OBJECT BEHIND THEM -/
/-- signs of the line -/
def AL (L : List Int32) : Prop := ∀ x, x ∈ L → 0 ≤ x.toInt ∧ x.toInt < 128
section
variable {g : mG} {mc mr m m1 M R : mM} {b r T N H i p : Nat} {w : Nat → Int32} {L K : List Int32}
theorem AL.at (h : AL L) (hi : i < L.length) : 0 ≤ (L.getD i 0).toInt ∧ (L.getD i 0).toInt < 128 := by
  rw [List.getD_eq_getElem?_getD, List.getElem?_eq_getElem hi]
  exact h _ (List.getElem_mem hi)
theorem AL.app (h : AL L) (q : AL K) : AL (L ++ K) := fun x hx => by
  rcases List.mem_append.mp hx with e | e
  · exact h x e
  · exact q x e
theorem AL.nil : AL [] := fun x hx => by cases hx
theorem AL.c {a : Int32} (h : 0 ≤ a.toInt ∧ a.toInt < 128) : AL [a] := fun x hx => by
  rw [List.mem_singleton.mp hx]
  exact h
theorem AL.num (n : Nat) : AL (dl n) := fun x hx => by
  unfold dl at hx
  obtain ⟨t, -, rfl⟩ := List.mem_map.mp hx
  unfold dgt
  have h := Nat.mod_lt (n / 10 ^ (digs n - 1 - t)) (show 10 > 0 by decide)
  generalize n / 10 ^ (digs n - 1 - t) % 10 = y at h ⊢
  rw [nI_toInt (by omega)]
  omega
theorem AL.ite {c : Prop} [Decidable c] (h1 : AL L) (h2 : AL K) : AL (if c then L else K) := by
  split <;> assumption
theorem rpL_al (hv : PV w i) : AL (rpL w i) := by
  have v3 := hv.2.2.1
  have k : AL [w (8 * i + 14)] := by
    rcases v3 with z | z | z <;> (rw [z]; exact AL.c (by decide))
  unfold rpL
  refine AL.app (AL.app (AL.app (AL.app (AL.app (AL.app (AL.app (AL.app (AL.app (AL.app (AL.num _) k) ?_) (AL.num _)) ?_) (AL.num _)) ?_) (AL.num _)) ?_) ?_) ?_
  · exact AL.c (by decide)
  · exact AL.c (by decide)
  · exact AL.c (by decide)
  · exact AL.ite (AL.c (by decide)) AL.nil
  · exact AL.ite (AL.c (by decide)) AL.nil
  · exact AL.ite AL.nil (AL.ite (AL.c (by decide)) (AL.c (by decide)))
theorem rfL_al : ∀ (n j : Nat), AL (rfL w n j)
  | 0, j => by
    rw [rfL]
    exact AL.nil
  | n + 1, j => by
    rw [rfL]
    exact AL.app (AL.ite AL.nil (AL.app (AL.c (by decide)) (AL.num _))) (rfL_al n (j + 1))
theorem rpL_len : (rpL w i).length ≤ 50 := by
  have d1 := digs_le (w (8 * i + 13)).toNatClampNeg
  have d2 := digs_le (w (8 * i + 15)).toNatClampNeg
  have d3 := digs_le (w (8 * i + 16)).toNatClampNeg
  have d4 := digs_le (w (8 * i + 17)).toNatClampNeg
  have e1 : (if w (8 * i + 18) = 1 then ([42] : List Int32) else []).length ≤ 1 := by split <;> simp
  have e2 : (if w (8 * i + 19) = 1 then ([113] : List Int32) else []).length ≤ 1 := by split <;> simp
  have e3 : (if w (8 * i + 20) = 0 then ([] : List Int32) else if w (8 * i + 20) = 1 then [43] else [45]).length ≤ 1 := by
    split
    · simp
    · split <;> simp
  unfold rpL
  simp only [List.length_append, dl_len, List.length_cons, List.length_nil]
  omega
theorem rfL_len : ∀ (n j : Nat), (rfL w n j).length ≤ 5 * inW w n j
  | 0, j => by
    rw [rfL]
    simp
  | n + 1, j => by
    have d := digs_le (w (8 * j + 13)).toNatClampNeg
    have := rfL_len n (j + 1)
    rw [rfL, inW, List.length_append]
    by_cases c : w (8 * j + 18) = 0
    · rw [if_pos c, if_pos c]
      simp only [List.length_nil]
      omega
    · rw [if_neg c, if_neg c]
      simp only [List.length_append, List.length_cons, List.length_nil, dl_len]
      omega
/-- the object and the reference, both with the same new line -/
theorem OBJ.line (h : OBJ g mc mr b r T) (hF : mF mc) (hL : L.length ≤ 50) (hA : AL L) (q : LN mc M (b + 230) L) (v : LV mc M (b + 230)) (hr : LR (sI mr 384 r 0) R r L) (h4 : R4 r mr R) (eL : gL R = gL mr) (eD : gD R = gD mr) : OBJ g M R b r T ∧ KF mc M ∧ (∀ a, (a < r ∨ r + 12 ≤ a) → Sm mr R a) ∧ gI R 384 r = 0 ∧ nI (cnO M (b + 230)) = gI R 403 r := by
  obtain ⟨h1, h2, h3, hS, h5, h6, h7, ⟨nx, C, h8⟩, h9, h10, ⟨L0, g1, g2, g3, g4, g5, g6⟩⟩ := h
  obtain ⟨q1, q2, kf, q4, q5⟩ := q
  have e : ∀ a, b ≤ a → a < b + 230 → Sm mc M a := fun a z1 z2 => kf.sm (h1.gd h2 z1 z2)
  have hb : b + 230 < gN mc := hF _ _ g2.k
  have hv : b + 231 ≤ vaO M (b + 230) := by
    rcases v.1 with z | z
    · rw [z]
      exact g3
    · omega
  have e0 := e b (by omega) (by omega)
  have rI : ∀ k, k ≠ 403 → k ≠ 384 → gI R k r = gI mr k r := fun k k1 k2 => by
    rw [hr.I k1]
    simp [mm, k2]
  have rA : ∀ c, c ≠ r + 7 → gA R c = gA mr c := fun c hc => by
    funext i
    rw [hr.A hc]
    rfl
  have rK : gK R = gK mr := hr.1
  have rR : gR R = gR mr := hr.2.1
  refine ⟨⟨h1.sm (fun a z1 z2 => e a z1 (by omega)), h2.below (fun a z1 z2 => e a (by omega) (by omega)), h3.sm (e _ (by omega) (by omega)), hS.sm (fun a _ _ => by rw [rK]) (fun k => by rw [rR]), h5.sm (rA _ (by omega)) (rA _ (by omega)), (h6.toC (fun a z1 z2 => e a (by omega) (by omega))).toR (rA _ (by omega)), (h7.toC (e0.gI _) (fun a z1 z2 => e a (by omega) (by omega))).toR (rI _ (by decide) (by decide)) (rA _ (by omega)), ⟨nx, C, (h8.toC (fun a z1 z2 => e a (by omega) (by omega))).toR (rI _ (by decide) (by decide)) (rA _ (by omega))⟩, (h9.toC (fun a z1 z2 => e a (by omega) (by omega))).toR (rI _ (by decide) (by decide)) (rA _ (by omega)), (h10.toC (e0.gI _) (e0.gI _)).toR (rI _ (by decide) (by decide)) (rI _ (by decide) (by decide)), ⟨L.length, hL, q1, hv, q4, hr.ln, fun i hi => ?_⟩⟩, kf, fun a ha => ?_, ?_, ?_⟩
  · have z := hr.2.2.2.2.2.2.2.2 i hi
    rw [q5 i hi, z]
    exact ⟨rfl, hA.at hi⟩
  · refine ⟨by rw [rK], fun k => ?_, fun k => ?_, fun k => by rw [rR], rA a (by omega), ?_, by rw [eL], by rw [eD]⟩
    · by_cases c : k = 403
      · rw [c]
        exact h4 a (by omega)
      · rw [hr.I c]
        simp only [mm]
        rw [if_neg (fun z => by omega)]
    · rw [hr.2.2.2.1]
      rfl
    · rw [hr.2.2.1]
      rfl
  · rw [hr.I (by decide)]
    simp [mm]
  · rw [q4, hr.ln]
/-- a call that writes the line -/
def CALLL (g : mG) (b r T : Nat) (mc mr mc1 mr1 : mM) (tab : List (String × Int32)) (x : Option String) (same : Prop) : Prop :=
  OBJ g mc1 mr1 b r T ∧ KF mc mc1 ∧ (∀ a, (a < r ∨ r + 12 ≤ a) → Sm mr mr1 a) ∧ ((x = none ∧ gI mr1 384 r = 0 ∧ same) ∨ ∃ E k, x = some E ∧ tab.lookup E = some k ∧ gI mr1 384 r = k)
theorem call_writePiece (hd : VD g) (h : OBJ g mc mr b r T) (hF : mF mc) (F0 : FR g mc (b + 1) (gA mr (r + 1)) N H) (V0 : RV T (gA mr (r + 1)) N H) (a : Int32) : CALLL g b r T mc mr (X10_writePiece_m g mc b a N) (X11_writePiece_m g mr r a N) [("java/util/NoSuchElementException", 1)] (X10_writePiece_x g mc b a N) (X10_writePiece_r g mc b a N = X11_writePiece_r g mr r a N) := by
  have hN8 := V0.2.2.2.2.2.1
  rcases (fi_of F0 a).no hN8 with ⟨hx, hf⟩ | ⟨i, hi, hf, hx, ha⟩
  · have e1 : X10_writePiece_m g mc b a N = mc := by simp only [X10_writePiece_m, hf]
    have e2 : X10_writePiece_x g mc b a N = some "java/util/NoSuchElementException" := by simp only [X10_writePiece_x, hf]
    have e3 : X11_writePiece_m g mr r a N = sI mr 384 r 1 := by
      unfold X11_writePiece_m
      rw [hx, if_neg n01]
    rw [e1, e2, e3]
    have c : CALL g b r T mc mr mc (sI mr 384 r 1) [("java/util/NoSuchElementException", 1)] (some "java/util/NoSuchElementException") (X10_writePiece_r g mc b a N = X11_writePiece_r g mr r a N) := CALL.qx h (by decide)
    exact ⟨c.1, KF.rf, c.2.2.1, c.2.2.2⟩
  · obtain ⟨y1, y2⟩ := rp_LR (g := g) V0 hi ha hx
    have hi8 : i < 8 := by omega
    have hv := V0.2.1 i hi
    have hSL : SLo mc (b + 230) := by
      obtain ⟨-, -, -, -, -, -, -, -, -, -, L0, -, g2, -⟩ := h
      exact g2
    have LS := slO_LN (g := g) hSL hF
    have kS := LS.2.2.1
    have hk := F0.1.kp hi8
    have hp := F0.2.2.1 i hi
    have hpS : PR g (slO g mc (b + 230)) (pa mc (b + 1) i) (gA mr (r + 1)) i := hp.to (kS.s hk (by decide))
    have e1 : X10_writePiece_m g mc b a N = X7_writeTo_m g (slO g mc (b + 230)) (pa mc (b + 1) i) (b + 230) (gI mc 288 (pa mc (b + 1) i)).toNatClampNeg (gI mc 290 (pa mc (b + 1) i)).toNatClampNeg (gI mc 291 (pa mc (b + 1) i)).toNatClampNeg (gI mc 292 (pa mc (b + 1) i)).toNatClampNeg := by simp only [X10_writePiece_m, hf]
    have e2 : X10_writePiece_x g mc b a N = none := by simp only [X10_writePiece_x, hf]
    have e3 : X10_writePiece_r g mc b a N = nI (cnO (X10_writePiece_m g mc b a N) (b + 230)) := by simp only [X10_writePiece_r, X10_writePiece_m, hf]
    have u1 : (gI mc 288 (pa mc (b + 1) i)).toNatClampNeg < 10000 := by
      obtain ⟨-, -, -, -, -, -, -, -, s1, s2, -, -, -, -, s3, -⟩ := V0.1
      have := ncl (B := 9999) (x := gI mc 288 (pa mc (b + 1) i)) (by rw [hp.1]; have := hv.1; omega) (by rw [hp.1]; have := hv.2.1; omega)
      omega
    have u2 : (gI mc 290 (pa mc (b + 1) i)).toNatClampNeg < 10000 := by
      have := ncl (B := 1200) (x := gI mc 290 (pa mc (b + 1) i)) (by rw [hp.2.2.1]; have := hv.2.2.2.1; omega) (by rw [hp.2.2.1]; have := hv.2.2.2.2.1; omega)
      omega
    have u3 : (gI mc 291 (pa mc (b + 1) i)).toNatClampNeg < 10000 := by
      have := ncl (B := 10) (x := gI mc 291 (pa mc (b + 1) i)) (by rw [hp.2.2.2.1]; have := hv.2.2.2.2.2.1; omega) (by rw [hp.2.2.2.1]; have := hv.2.2.2.2.2.2.1; omega)
      omega
    have u4 : (gI mc 292 (pa mc (b + 1) i)).toNatClampNeg < 10000 := by
      have := ncl (B := 99) (x := gI mc 292 (pa mc (b + 1) i)) (by rw [hp.2.2.2.2.1]; have := hv.2.2.2.2.2.2.2.1; omega) (by rw [hp.2.2.2.2.1]; have := hv.2.2.2.2.2.2.2.2.1; omega)
      omega
    have LW := wp_LN (g := g) (p := pa mc (b + 1) i) LS u1 u2 u3 u4
    have VW := wp_LV (g := g) (p := pa mc (b + 1) i) (nn := (gI mc 288 (pa mc (b + 1) i)).toNatClampNeg) (tt := (gI mc 290 (pa mc (b + 1) i)).toNatClampNeg) (ss := (gI mc 291 (pa mc (b + 1) i)).toNatClampNeg) (hh := (gI mc 292 (pa mc (b + 1) i)).toNatClampNeg) (slO_LV (g := g) (m := mc) (sb := b + 230))
    have ew := wpL_e hd hpS hv
    rw [kS.I hk (by decide), kS.I hk (by decide), kS.I hk (by decide), kS.I hk (by decide)] at ew
    rw [ew] at LW
    rw [← e1] at LW VW
    obtain ⟨z1, z2, z3, z4, z5⟩ := h.line hF rpL_len (rpL_al hv) LW VW y1 wp_R4 (kL_X11_writePiece g mr r a N) (kD_X11_writePiece g mr r a N)
    exact ⟨z1, z2, z3, Or.inl ⟨e2, z4, by rw [e3, y2]; exact z5⟩⟩
theorem call_writeFurnace (h : OBJ g mc mr b r T) (hF : mF mc) (F0 : FR g mc (b + 1) (gA mr (r + 1)) N H) (V0 : RV T (gA mr (r + 1)) N H) : CALLL g b r T mc mr (X10_writeFurnace_m g mc b N) (X11_writeFurnace_m g mr r N) [] none (X10_writeFurnace_r g mc b N = X11_writeFurnace_r g mr r N) := by
  have hN8 := V0.2.2.2.2.2.1
  have hI3 := V0.2.2.2.2.1
  obtain ⟨-, -, t1, t2, v1, v2, o1, o2, s1, s2, -, -, -, -, s3, -⟩ := V0.1
  obtain ⟨-, f1, f2, f3, -⟩ := F0.2.1
  have hSL : SLo mc (b + 230) := by
    obtain ⟨-, -, -, -, -, -, -, -, -, -, L0, -, g2, -⟩ := h
    exact g2
  have LS := slO_LN (g := g) hSL hF
  have w1 : (gA mr (r + 1) 1).toNatClampNeg < 10000 := by
    have := ncl (B := 1200) (x := gA mr (r + 1) 1) (by omega) (by omega)
    omega
  have w2 : (gA mr (r + 1) 2).toNatClampNeg < 10000 := by
    have := ncl (B := 5) (x := gA mr (r + 1) 2) (by omega) (by omega)
    omega
  have w3 : (gA mr (r + 1) 3).toNatClampNeg < 10000 := by
    have := ncl (B := 99) (x := gA mr (r + 1) 3) (by omega) (by omega)
    omega
  have hn : ∀ i, i < N → (gA mr (r + 1) (8 * i + 13)).toNatClampNeg < 10000 := fun i hi => by
    have hv := V0.2.1 i hi
    have := ncl (B := 9999) (x := gA mr (r + 1) (8 * i + 13)) (by have := hv.1; omega) (by have := hv.2.1; omega)
    omega
  have hnum : ∀ i, i < N → okI (gI mc 288 (pa mc (b + 1) i)) 9999 := fun i hi => by
    have hv := V0.2.1 i hi
    rw [(F0.2.2.1 i hi).1]
    have a1 : 0 ≤ (gA mr (r + 1) (8 * i + 13)).toInt := by have := hv.1; omega
    have a2 : (gA mr (r + 1) (8 * i + 13)).toInt ≤ 9999 := by have := hv.2.1; omega
    refine okI_of (n := (gA mr (r + 1) (8 * i + 13)).toInt.toNat) (Int32.toInt_inj.mp ?_) (by omega) (by decide)
    rw [nI_toInt (by omega)]
    omega
  have LW := wf_LN (g := g) (f := b + 1) (N := N) F0.1 hN8 LS w1 w2 w3 hnum
  have VW := wf_LV (g := g) (f := b + 1) (N := N) (tt := (gA mr (r + 1) 1).toNatClampNeg) (vv := (gA mr (r + 1) 2).toNatClampNeg) (oo := (gA mr (r + 1) 3).toNatClampNeg) (slO_LV (g := g) (m := mc) (sb := b + 230))
  have em : X10_writeFurnace_m g mc b N = X3_writeFurnaceTo_m g (slO g mc (b + 230)) (b + 1) (b + 230) N (gA mr (r + 1) 1).toNatClampNeg (gA mr (r + 1) 2).toNatClampNeg (gA mr (r + 1) 3).toNatClampNeg := by
    unfold X10_writeFurnace_m
    rw [f1, f2, f3]
  have er : X10_writeFurnace_r g mc b N = nI (cnO (X10_writeFurnace_m g mc b N) (b + 230)) := rfl
  rw [wfL_e (w := gA mr (r + 1)) (fun i hi => F0.2.2.1 i hi) N 0 (by omega)] at LW
  rw [← em] at LW VW
  have d1 := digs_le (gA mr (r + 1) 1).toNatClampNeg
  have d2 := digs_le (gA mr (r + 1) 2).toNatClampNeg
  have d3 := digs_le (gA mr (r + 1) 3).toNatClampNeg
  have k1 := (LR.st (sI mr 384 r 0) r).n (g := g) w1 (by simp)
  have k2 := k1.w (g := g) (a := 64) (by simp [dl_len]; omega)
  have k3 := k2.n (g := g) w2 (by simp [dl_len]; omega)
  have k4 := k3.w (g := g) (a := 35) (by simp [dl_len]; omega)
  have k5 := k4.n (g := g) w3 (by simp [dl_len]; omega)
  rw [List.nil_append] at k5
  have hA1 : gA (sI mr 384 r 0) (r + 1) = gA mr (r + 1) := by simp only [mm]
  have hlen : (dl (gA mr (r + 1) 1).toNatClampNeg ++ [64] ++ dl (gA mr (r + 1) 2).toNatClampNeg ++ [35] ++ dl (gA mr (r + 1) 3).toNatClampNeg).length ≤ 14 := by
    simp only [List.length_append, dl_len, List.length_cons, List.length_nil]
    omega
  obtain ⟨y1, y2⟩ := rf_l (g := g) (N := N) (r := r) (m0 := sI mr 384 r 0) N 0 _ _ k5 (by rw [hA1]; omega) (fun i _ hi => by rw [hA1]; exact hn i (by omega))
  rw [hA1] at y1
  have eR : X11_writeFurnace_r g mr r N = gI (X11_writeFurnace_m g mr r N) 403 r := y2
  have y1 : LR (sI mr 384 r 0) (X11_writeFurnace_m g mr r N) r _ := y1
  have hl2 := rfL_len (w := gA mr (r + 1)) N 0
  have hal : AL (dl (gA mr (r + 1) 1).toNatClampNeg ++ [64] ++ dl (gA mr (r + 1) 2).toNatClampNeg ++ [35] ++ dl (gA mr (r + 1) 3).toNatClampNeg ++ rfL (gA mr (r + 1)) N 0) :=
    AL.app (AL.app (AL.app (AL.app (AL.app (AL.num _) (AL.c (by decide))) (AL.num _)) (AL.c (by decide))) (AL.num _)) (rfL_al N 0)
  obtain ⟨z1, z2, z3, z4, z5⟩ := h.line hF (by rw [List.length_append]; omega) hal LW VW y1 wf_R4 (kL_X11_writeFurnace g mr r N) (kD_X11_writeFurnace g mr r N)
  exact ⟨z1, z2, z3, Or.inl ⟨rfl, z4, by rw [er, eR]; exact z5⟩⟩
end
