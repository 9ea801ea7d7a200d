/-! THE LINES: THE REFERENCE -/
def rpL (w : Nat → Int32) (i : Nat) : List Int32 := dl (w (8 * i + 13)).toNatClampNeg ++ [w (8 * i + 14)] ++ [58] ++ dl (w (8 * i + 15)).toNatClampNeg ++ [47] ++ dl (w (8 * i + 16)).toNatClampNeg ++ [47] ++ dl (w (8 * i + 17)).toNatClampNeg ++ (if w (8 * i + 18) = 1 then [42] else []) ++ (if w (8 * i + 19) = 1 then [113] else []) ++ (if w (8 * i + 20) = 0 then [] else if w (8 * i + 20) = 1 then [43] else [45])
section
variable {g : mG} {mc mr m m1 M R : mM} {b r T L N H i : Nat}
theorem LR.o {m0 m : mM} {L : List Int32} (h : LR m0 m r L) : LR m0 m r (L ++ []) := by
  rw [List.append_nil]
  exact h
theorem ncl {x : Int32} {B : Nat} (h : 0 ≤ x.toInt) (h2 : x.toInt ≤ B) : x.toNatClampNeg ≤ B := by
  have : (x.toNatClampNeg : Int) = x.toInt := by
    rw [← Int32.toNat_toInt]
    omega
  omega
theorem rp_LR (V0 : RV T (gA mr (r + 1)) N H) (hi : i < N) {a : Int32} (ha : gA mr (r + 1) (8 * i + 13) = a) (hx : X11_find_r g mr r a N = nI i) : LR (sI mr 384 r 0) (X11_writePiece_m g mr r a N) r (rpL (gA mr (r + 1)) i) ∧ X11_writePiece_r g mr r a N = gI (X11_writePiece_m g mr r a N) 403 r := by
  have hN8 := V0.2.2.2.2.2.1
  have hp : (0 : Int32) ≤ nI i := nI_pos' (by omega)
  obtain ⟨v1, v2, v3, v4, v5, v6, v7, v8, v9, -⟩ := V0.2.1 i hi
  obtain ⟨-, -, -, -, -, -, -, -, s1, s2, -, -, -, -, s3, -⟩ := V0.1
  have n1 : (gA mr (r + 1) (8 * i + 13)).toNatClampNeg < 10000 := by
    have := ncl (B := 9999) (x := gA mr (r + 1) (8 * i + 13)) (by omega) (by omega)
    omega
  have n2 : (gA mr (r + 1) (8 * i + 15)).toNatClampNeg < 10000 := by
    have := ncl (B := 1200) (x := gA mr (r + 1) (8 * i + 15)) (by omega) (by omega)
    omega
  have n3 : (gA mr (r + 1) (8 * i + 16)).toNatClampNeg < 10000 := by
    have := ncl (B := 10) (x := gA mr (r + 1) (8 * i + 16)) (by omega) (by omega)
    omega
  have n4 : (gA mr (r + 1) (8 * i + 17)).toNatClampNeg < 10000 := by
    have := ncl (B := 99) (x := gA mr (r + 1) (8 * i + 17)) (by omega) (by omega)
    omega
  have d1 := digs_le (gA mr (r + 1) (8 * i + 13)).toNatClampNeg
  have d2 := digs_le (gA mr (r + 1) (8 * i + 15)).toNatClampNeg
  have d3 := digs_le (gA mr (r + 1) (8 * i + 16)).toNatClampNeg
  have d4 := digs_le (gA mr (r + 1) (8 * i + 17)).toNatClampNeg
  have e1 := (LR.st (sI mr 384 r 0) r).n (g := g) n1 (by simp)
  have e2 := e1.w (g := g) (a := gA mr (r + 1) (8 * i + 14)) (by simp [dl_len]; omega)
  have e3 := e2.w (g := g) (a := 58) (by simp [dl_len]; omega)
  have e4 := e3.n (g := g) n2 (by simp [dl_len]; omega)
  have e5 := e4.w (g := g) (a := 47) (by simp [dl_len]; omega)
  have e6 := e5.n (g := g) n3 (by simp [dl_len]; omega)
  have e7 := e6.w (g := g) (a := 47) (by simp [dl_len]; omega)
  have e8 := e7.n (g := g) n4 (by simp [dl_len]; omega)
  rw [List.nil_append] at e8
  have hl8 : (dl (gA mr (r + 1) (8 * i + 13)).toNatClampNeg ++ [gA mr (r + 1) (8 * i + 14)] ++ [58] ++ dl (gA mr (r + 1) (8 * i + 15)).toNatClampNeg ++ [47] ++ dl (gA mr (r + 1) (8 * i + 16)).toNatClampNeg ++ [47] ++ dl (gA mr (r + 1) (8 * i + 17)).toNatClampNeg).length ≤ 24 := by simp [dl_len]; omega
  subst ha
  unfold X11_writePiece_m X11_writePiece_r rpL
  rw [hx, nI_clamp (show i < 2 ^ 31 by omega)]
  generalize dl (gA mr (r + 1) (8 * i + 13)).toNatClampNeg ++ [gA mr (r + 1) (8 * i + 14)] ++ [58] ++ dl (gA mr (r + 1) (8 * i + 15)).toNatClampNeg ++ [47] ++ dl (gA mr (r + 1) (8 * i + 16)).toNatClampNeg ++ [47] ++ dl (gA mr (r + 1) (8 * i + 17)).toNatClampNeg = L8 at e8 hl8 ⊢
  generalize (X11_writesNumber_m g (X11_writes_m g (X11_writesNumber_m g (X11_writes_m g (X11_writesNumber_m g (X11_writes_m g (X11_writes_m g (X11_writesNumber_m g (sI (sI mr 384 r 0) 403 r 0) r (gA mr (r + 1) (8 * i + 13)).toNatClampNeg) r (gA mr (r + 1) (8 * i + 14))) r 58) r (gA mr (r + 1) (8 * i + 15)).toNatClampNeg) r 47) r (gA mr (r + 1) (8 * i + 16)).toNatClampNeg) r 47) r (gA mr (r + 1) (8 * i + 17)).toNatClampNeg) = M8 at e8 ⊢
  have w : ∀ {M : mM} {L : List Int32} (a : Int32), LR (sI mr 384 r 0) M r L → L.length ≤ 40 → LR (sI mr 384 r 0) (X11_writes_m g M r a) r (L ++ [a]) := fun a q hq => q.w (by omega)
  rw [if_pos hp, if_pos hp]
  by_cases c1 : gA mr (r + 1) (8 * i + 18) = 1 <;> by_cases c2 : gA mr (r + 1) (8 * i + 19) = 1 <;> by_cases c3 : gA mr (r + 1) (8 * i + 20) = 0 <;> by_cases c4 : gA mr (r + 1) (8 * i + 20) = 1
  all_goals first | (rw [c3] at c4; exact absurd c4 (by decide)) | skip
  all_goals simp only [c1, c2, c3, c4, nz1, if_true, if_false]
  all_goals refine ⟨?_, trivial⟩
  all_goals first | (with_reducible exact LR.o (LR.o (LR.o e8))) | (with_reducible exact w _ (LR.o (LR.o e8)) (by first | omega | (simp only [List.length_append, List.length_cons, List.length_nil]; omega))) | (with_reducible exact LR.o (w _ (LR.o e8) (by first | omega | (simp only [List.length_append, List.length_cons, List.length_nil]; omega)))) | (with_reducible exact w _ (w _ (LR.o e8) (by first | omega | (simp only [List.length_append, List.length_cons, List.length_nil]; omega))) (by first | omega | (simp only [List.length_append, List.length_cons, List.length_nil]; omega))) | (with_reducible exact LR.o (LR.o (w _ e8 (by first | omega | (simp only [List.length_append, List.length_cons, List.length_nil]; omega))))) | (with_reducible exact w _ (LR.o (w _ e8 (by first | omega | (simp only [List.length_append, List.length_cons, List.length_nil]; omega)))) (by first | omega | (simp only [List.length_append, List.length_cons, List.length_nil]; omega))) | (with_reducible exact LR.o (w _ (w _ e8 (by first | omega | (simp only [List.length_append, List.length_cons, List.length_nil]; omega))) (by first | omega | (simp only [List.length_append, List.length_cons, List.length_nil]; omega)))) | (with_reducible exact w _ (w _ (w _ e8 (by first | omega | (simp only [List.length_append, List.length_cons, List.length_nil]; omega))) (by first | omega | (simp only [List.length_append, List.length_cons, List.length_nil]; omega))) (by first | omega | (simp only [List.length_append, List.length_cons, List.length_nil]; omega)))
end
