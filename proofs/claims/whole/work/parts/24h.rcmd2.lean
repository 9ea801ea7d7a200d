/-! A COMMAND OF THE REFERENCE -/
def nxt (f : Option Int32 × Nat) (h : Nat → Option (List Int32) × Nat) : Option (List Int32) × Nat := match f with
  | (none, q) => (none, q)
  | (some v, q) => (((h q).1).map (v :: ·), (h q).2)
def CG (g : mG) (r : Nat) (t : Nat → Int32) (L k N H : Nat) (m C : mM) (P : Option (List Int32) × Nat) : Prop := ∃ M, PX r m M ∧ QS M r t L P.2 ∧ ((P.1 = none ∧ gI M 404 r = 1 ∧ C = M) ∨ ∃ l, P.1 = some l ∧ gI M 404 r = 0 ∧ (∀ d, d < l.length → gA M (r + 9) d = l.getD d 0) ∧ C = if gI M 405 r = 0 then M else X11_does_m g M r (nI k) N H)
section
variable {t : Nat → Int32} {L pos k n i j x q N H : Nat} {g : mG} {m m1 m2 W : mM} {p r : Nat}
theorem pAs_0 : pAs t L k (n + 1) 0 pos = nxt (pC t L (shc k 0) pos) (pAs t L k n 1) := by
  rw [pAs, if_pos (Or.inl rfl), if_pos rfl]
  rfl
theorem pAs_j {mo : Nat} (hj : j ≠ 0) (h : ∀ q, pC t L (shc k j) q = pN t L mo q) : pAs t L k (n + 1) j pos = nxt (pG t L mo pos) (pAs t L k n (j + 1)) := by
  rw [pAs, h, if_neg hj]
  unfold pG
  by_cases c : pos < L ∧ t pos = 32
  · rw [if_pos (Or.inr c), if_pos c]
    rfl
  · rw [if_neg (fun z => z.elim hj c), if_neg c]
    rfl
theorem pC_n2 {c : Int32} (h : c = 110) (q : Nat) : pC t L c q = pN t L 2 q := by
  unfold pC
  rw [h, if_neg (by decide), if_pos rfl]
theorem pC_n1 {c : Int32} (h : c = 100) (q : Nat) : pC t L c q = pN t L 1 q := by
  unfold pC
  rw [h, if_neg (by decide), if_neg (by decide)]
theorem pC_k {c : Int32} (h : c = 107) (q : Nat) : pC t L c q = pK t L q := by
  unfold pC
  rw [h, if_pos rfl]
/-- the last argument, at i -/
theorem cg_end {M0 M : mM} {C : mM} {i : Nat} {f : Option Int32 × Nat} {w : List Int32} (x : PX r m M0) (h : AG g r t L M0 M i f) (hw : w.length = i) (hM0 : ∀ d, d < i → gA M0 (r + 9) d = w.getD d 0) (hC : C = if gI M 404 r = 0 then (if gI M 405 r = 0 then M else X11_does_m g M r (nI k) N H) else M) : CG g r t L k N H m C (f.1.map (fun v => w ++ [v]), f.2) := by
  obtain ⟨a1, a2, a3, a4⟩ := h
  rcases f with ⟨_ | v, q⟩
  · have e := a4 rfl
    rw [e, if_neg nz1] at hC
    exact ⟨M, x.tr a1, a2, Or.inl ⟨rfl, e, hC⟩⟩
  · obtain ⟨e1, e2⟩ := a3 v rfl
    rw [e1, if_pos rfl] at hC
    refine ⟨M, x.tr a1, a2, Or.inr ⟨w ++ [v], rfl, e1, fun d hd => ?_, hC⟩⟩
    rw [e2]
    simp only [List.length_append, List.length_cons, List.length_nil] at hd
    by_cases c : d = i
    · rw [ui c, c, ← hw]
      simp
    · rw [un c, hM0 d (by omega)]
      simp [List.getElem?_append_left (show d < w.length by omega)]
/-- one argument, and more behind it -/
theorem cg_step {M0 M : mM} {C C2 : mM} {i : Nat} {f : Option Int32 × Nat} {h : Nat → Option (List Int32) × Nat} {w : List Int32} (x : PX r m M0) (a : AG g r t L M0 M i f) (hC : C = if gI M 404 r = 0 then C2 else M) (k2 : ∀ v q, f = (some v, q) → CG g r t L k N H m C2 (((h q).1).map (fun l => w ++ v :: l), (h q).2)) : CG g r t L k N H m C (((nxt f h).1).map (fun l => w ++ l), (nxt f h).2) := by
  obtain ⟨a1, a2, a3, a4⟩ := a
  rcases f with ⟨_ | v, q⟩
  · have e := a4 rfl
    rw [e, if_neg nz1] at hC
    exact ⟨M, x.tr a1, a2, Or.inl ⟨rfl, e, hC⟩⟩
  · obtain ⟨e1, e2⟩ := a3 v rfl
    rw [e1, if_pos rfl] at hC
    have := k2 v q rfl
    rw [hC]
    unfold nxt
    dsimp only
    rw [Option.map_map]
    exact this
theorem AG.row {M0 M : mM} {v : Int32} {i : Nat} {w : List Int32} (a : AG g r t L M0 M i (some v, q)) (hw : w.length = i) (hM0 : ∀ d, d < i → gA M0 (r + 9) d = w.getD d 0) : ∀ d, d < i + 1 → gA M (r + 9) d = (w ++ [v]).getD d 0 := fun d hd => by
  rw [(a.2.2.1 v rfl).2]
  by_cases c : d = i
  · rw [ui c, c, ← hw]
    simp
  · rw [un c, hM0 d (by omega)]
    simp [List.getElem?_append_left (show d < w.length by omega)]
theorem p1_e {f : Option Int32 × Nat} : nxt f (pAs t L k 0 j) = (f.1.map (fun v => [] ++ [v]), f.2) := by
  rcases f with ⟨_ | v, q⟩
  · rfl
  · rfl
theorem pw_e {f : Option Int32 × Nat} {w : List Int32} : ((nxt f (pAs t L k 0 j)).1.map (fun l => w ++ l), (nxt f (pAs t L k 0 j)).2) = (f.1.map (fun v => w ++ [v]), f.2) := by
  rcases f with ⟨_ | v, q⟩
  · rfl
  · rfl
theorem nil_e {P : Option (List Int32) × Nat} : (P.1.map (fun l => [] ++ l), P.2) = P := by
  rcases P with ⟨_ | v, q⟩
  · rfl
  · rfl
theorem cons_e {P : Option (List Int32) × Nat} {w : List Int32} {v : Int32} : (P.1.map (fun l => w ++ v :: l), P.2) = (P.1.map (fun l => (w ++ [v]) ++ l), P.2) := by
  rcases P with ⟨_ | u, q⟩
  · rfl
  · simp
theorem cg_all (hk : k < 12) (h : QS W r t L pos) (h4 : gI W 404 r = 0) {C : mM} (hC : C = if nI k = 2 then (if gI (X11_cL_m g W r) 404 r = 0 then (if gI (X11_cL_m g W r) 405 r = 0 then X11_cL_m g W r else X11_does_m g (X11_cL_m g W r) r (nI k) N H) else X11_cL_m g W r) else if nI k = 1 then (if gI (X11_cD_m g W r 1) 404 r = 0 then (if gI (X11_cD_m g W r 1) 405 r = 0 then X11_cD_m g W r 1 else X11_does_m g (X11_cD_m g W r 1) r (nI k) N H) else X11_cD_m g W r 1) else if nI k = 3 then (if gI (X11_cD_m g W r 1) 404 r = 0 then (if gI (X11_cD_m g W r 1) 405 r = 0 then X11_cD_m g W r 1 else X11_does_m g (X11_cD_m g W r 1) r (nI k) N H) else X11_cD_m g W r 1) else if nI k = 6 then (if gI (X11_cD_m g W r 2) 404 r = 0 then (if gI (X11_cB_m g (X11_cD_m g W r 2) r 1 1) 404 r = 0 then (if gI (X11_cB_m g (X11_cD_m g W r 2) r 1 1) 405 r = 0 then X11_cB_m g (X11_cD_m g W r 2) r 1 1 else X11_does_m g (X11_cB_m g (X11_cD_m g W r 2) r 1 1) r (nI k) N H) else X11_cB_m g (X11_cD_m g W r 2) r 1 1) else X11_cD_m g W r 2) else if nI k = 9 then (if gI (X11_cD_m g W r 2) 404 r = 0 then (if gI (X11_cB_m g (X11_cD_m g W r 2) r 2 1) 404 r = 0 then (if gI (X11_cB_m g (X11_cB_m g (X11_cD_m g W r 2) r 2 1) r 2 2) 404 r = 0 then (if gI (X11_cB_m g (X11_cB_m g (X11_cB_m g (X11_cD_m g W r 2) r 2 1) r 2 2) r 2 3) 404 r = 0 then (if gI (X11_cB_m g (X11_cB_m g (X11_cB_m g (X11_cD_m g W r 2) r 2 1) r 2 2) r 2 3) 405 r = 0 then X11_cB_m g (X11_cB_m g (X11_cB_m g (X11_cD_m g W r 2) r 2 1) r 2 2) r 2 3 else X11_does_m g (X11_cB_m g (X11_cB_m g (X11_cB_m g (X11_cD_m g W r 2) r 2 1) r 2 2) r 2 3) r (nI k) N H) else X11_cB_m g (X11_cB_m g (X11_cB_m g (X11_cD_m g W r 2) r 2 1) r 2 2) r 2 3) else X11_cB_m g (X11_cB_m g (X11_cD_m g W r 2) r 2 1) r 2 2) else X11_cB_m g (X11_cD_m g W r 2) r 2 1) else X11_cD_m g W r 2) else (if gI (X11_cD_m g W r 2) 404 r = 0 then (if gI (X11_cD_m g W r 2) 405 r = 0 then X11_cD_m g W r 2 else X11_does_m g (X11_cD_m g W r 2) r (nI k) N H) else X11_cD_m g W r 2)) : CG g r t L k N H W C (pAs t L k (shL k) 0 pos) := by
  have x0 : PX r W W := ⟨rfl, rfl, rfl, fun _ _ _ _ => rfl, fun _ _ _ _ => rfl, rfl, rfl, rfl, rfl, fun _ _ _ => rfl⟩
  have eq : ∀ a : Nat, a < 12 → (nI k = nI a ↔ k = a) := fun a ha => nI_eq (by omega) (by omega)
  have e2 : nI k = 2 ↔ k = 2 := eq 2 (by omega)
  have e1 : nI k = 1 ↔ k = 1 := eq 1 (by omega)
  have e3 : nI k = 3 ↔ k = 3 := eq 3 (by omega)
  have e6 : nI k = 6 ↔ k = 6 := eq 6 (by omega)
  have e9 : nI k = 9 ↔ k = 9 := eq 9 (by omega)
  have n0 : ∀ d : Nat, d < 0 → gA W (r + 9) d = ([] : List Int32).getD d 0 := fun d hd => by omega
  by_cases c2 : k = 2
  · rw [if_pos (e2.mpr c2)] at hC
    subst c2
    rw [show shL 2 = 0 + 1 from rfl, pAs_0, p1_e, pC_k (show shc 2 0 = 107 from rfl)]
    exact cg_end x0 (ag_L h) rfl n0 hC
  · rw [if_neg (fun z => c2 (e2.mp z))] at hC
    by_cases c1 : k = 1
    · rw [if_pos (e1.mpr c1)] at hC
      subst c1
      rw [show shL 1 = 0 + 1 from rfl, pAs_0, p1_e, pC_n1 (show shc 1 0 = 100 from rfl)]
      exact cg_end x0 (ag_D (Or.inl rfl) h) rfl n0 hC
    · rw [if_neg (fun z => c1 (e1.mp z))] at hC
      by_cases c3 : k = 3
      · rw [if_pos (e3.mpr c3)] at hC
        subst c3
        rw [show shL 3 = 0 + 1 from rfl, pAs_0, p1_e, pC_n1 (show shc 3 0 = 100 from rfl)]
        exact cg_end x0 (ag_D (Or.inl rfl) h) rfl n0 hC
      · rw [if_neg (fun z => c3 (e3.mp z))] at hC
        by_cases c6 : k = 6
        · rw [if_pos (e6.mpr c6)] at hC
          subst c6
          rw [show shL 6 = 1 + 1 from rfl, pAs_0, pC_n2 (show shc 6 0 = 110 from rfl), ← nil_e (P := nxt _ _)]
          have a1 := ag_D (g := g) (mo := 2) (Or.inr rfl) h
          refine cg_step x0 a1 hC (fun v q e => ?_)
          rw [e] at a1
          obtain ⟨y1, y2, y3, -⟩ := id a1
          rw [cons_e, pAs_j (n := 0) (mo := 1) (by omega) (fun q => pC_n1 rfl q), pw_e]
          exact cg_end y1 (ag_B (Or.inl rfl) y2 (y3 v rfl).1) rfl (a1.row rfl n0) rfl
        · rw [if_neg (fun z => c6 (e6.mp z))] at hC
          by_cases c9 : k = 9
          · rw [if_pos (e9.mpr c9)] at hC
            subst c9
            have sh : ∀ j, ∀ q, pC t L (shc 9 j) q = pN t L 2 q := fun j q => pC_n2 (by unfold shc; rw [if_neg (by omega), if_neg (by omega)]) q
            rw [show shL 9 = 3 + 1 from rfl, pAs_0, sh, ← nil_e (P := nxt _ _)]
            have a1 := ag_D (g := g) (mo := 2) (Or.inr rfl) h
            refine cg_step x0 a1 hC (fun v q e => ?_)
            rw [e] at a1
            obtain ⟨y1, y2, y3, -⟩ := id a1
            have r1 := a1.row rfl n0
            rw [cons_e, pAs_j (n := 2) (mo := 2) (by omega) (sh 1)]
            have a2 := ag_B (g := g) (mo := 2) (i := 1) (Or.inr rfl) y2 (y3 v rfl).1
            refine cg_step y1 a2 rfl (fun v2 q2 e => ?_)
            rw [e] at a2
            obtain ⟨z1, z2, z3, -⟩ := id a2
            have r2 := a2.row rfl r1
            rw [cons_e, pAs_j (n := 1) (mo := 2) (by omega) (sh 2)]
            have a3 := ag_B (g := g) (mo := 2) (i := 2) (Or.inr rfl) z2 (z3 v2 rfl).1
            refine cg_step (y1.tr z1) a3 rfl (fun v3 q3 e => ?_)
            rw [e] at a3
            obtain ⟨u1, u2, u3, -⟩ := id a3
            have r3 := a3.row rfl r2
            rw [cons_e, pAs_j (n := 0) (mo := 2) (by omega) (sh 3), pw_e]
            exact cg_end ((y1.tr z1).tr u1) (ag_B (Or.inr rfl) u2 (u3 v3 rfl).1) rfl r3 rfl
          · rw [if_neg (fun z => c9 (e9.mp z))] at hC
            have sh : shc k 0 = 110 := by
              unfold shc
              rw [if_neg c2, if_neg (by omega)]
            have s1 : shL k = 0 + 1 := (by decide : ∀ k : Fin 12, k.1 ≠ 6 → k.1 ≠ 9 → shL k.1 = 0 + 1) ⟨k, hk⟩ c6 c9
            rw [s1, pAs_0, p1_e, pC_n2 sh]
            exact cg_end x0 (ag_D (Or.inr rfl) h) rfl n0 hC
theorem cd_ref (h : QS m r t L pos) (h4 : gI m 404 r = 0) : ∃ o q M, CR t L pos o q ∧ PX r m M ∧ QS M r t L q ∧ ((o = none ∧ gI M 404 r = 1 ∧ X11_command_m g m r N H = M) ∨ ∃ k l, o = some (k, l) ∧ k < 12 ∧ gI M 404 r = 0 ∧ (∀ d, d < l.length → gA M (r + 9) d = l.getD d 0) ∧ X11_command_m g m r N H = if gI M 405 r = 0 then M else X11_does_m g M r (nI k) N H) := by
  obtain ⟨o, q, u1, u2, u3, u4⟩ := w_ref (g := g) h h4
  have xw := px_word (g := g) (m := m) (r := r)
  rcases o with _ | k
  · have e4 : gI (X11_word_m g m r) 404 r = 1 := u4
    refine ⟨none, q, X11_word_m g m r, ⟨none, q, u1, Or.inl ⟨rfl, rfl, rfl⟩⟩, xw, u3, Or.inl ⟨rfl, e4, ?_⟩⟩
    unfold X11_command_m
    rw [if_neg (by rw [e4]; decide)]
  · have e4 : gI (X11_word_m g m r) 404 r = 0 := u4
    have hk : k < 12 := by
      rcases u1 with ⟨j, hj, e, -⟩ | ⟨e, -⟩
      · cases e
        exact hj
      · cases e
    have hC : CG g r t L k N H (X11_word_m g m r) (X11_command_m g m r N H) (pAs t L k (shL k) 0 q) := cg_all hk u3 e4 (by
      unfold X11_command_m
      rw [if_pos e4, u2 k rfl])
    obtain ⟨M, a1, a2, a3⟩ := hC
    rcases a3 with ⟨b1, b2, b3⟩ | ⟨l, b1, b2, b3, b4⟩
    · exact ⟨none, _, M, ⟨some k, q, u1, Or.inr ⟨k, rfl, by rw [b1]; rfl, rfl⟩⟩, xw.tr a1, a2, Or.inl ⟨rfl, b2, b3⟩⟩
    · exact ⟨some (k, l), _, M, ⟨some k, q, u1, Or.inr ⟨k, rfl, by rw [b1]; rfl, rfl⟩⟩, xw.tr a1, a2, Or.inr ⟨k, l, rfl, hk, b2, b3, b4⟩⟩
end
