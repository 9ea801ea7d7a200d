/-! THE LINES ARE THE SAME -/
section
variable {g : mG} {mc mr m m1 M R : mM} {b r T N H i q : Nat} {w : Nat → Int32}
theorem some_ne {x y : Nat} (h : x ≠ y) : ¬ (some x = some y) := fun z => h (Option.some.inj z)
theorem wpL_e (hd : VD g) (hp : PR g mc q w i) (hv : PV w i) : wpL g mc q (gI mc 288 q).toNatClampNeg (gI mc 290 q).toNatClampNeg (gI mc 291 q).toNatClampNeg (gI mc 292 q).toNatClampNeg = rpL w i := by
  obtain ⟨p1, p2, p3, p4, p5, p6, p7, p8⟩ := hp
  obtain ⟨-, -, v3, -, -, -, -, -, -, v10, v11, -⟩ := hv
  unfold wpL rpL
  rw [p1, p2, p3, p4, p5, p6, p7]
  have e1 : (w (8 * i + 14)).toInt8.toInt32 = w (8 * i + 14) := by
    rcases v3 with z | z | z <;> (rw [z]; decide)
  have e2 : (if w (8 * i + 18) = 0 then ([] : List Int32) else [42]) = if w (8 * i + 18) = 1 then [42] else [] := by
    rcases v10 with z | z <;> (rw [z]; decide)
  have e3 : (if w (8 * i + 19) = 0 then ([] : List Int32) else [113]) = if w (8 * i + 19) = 1 then [113] else [] := by
    rcases v11 with z | z <;> (rw [z]; decide)
  rw [e1, e2, e3, List.append_assoc _ (if gR mc 295 q = some (vdA g 1) then [43] else []) _]
  obtain ⟨d1, d2, d3⟩ := hd
  have e4 : (if gR mc 295 q = some (vdA g 1) then ([43] : List Int32) else []) ++ (if gR mc 295 q = some (vdA g 2) then [45] else []) = if w (8 * i + 20) = 0 then [] else if w (8 * i + 20) = 1 then [43] else [45] := by
    rcases p8 with ⟨z, y⟩ | ⟨z, y⟩ | ⟨z, y⟩
    · rw [z, y, if_neg (some_ne d1), if_neg (some_ne d2)]
      decide
    · rw [z, y, if_pos rfl, if_neg (some_ne d3)]
      decide
    · rw [z, y, if_neg (some_ne (Ne.symm d3)), if_pos rfl]
      decide
  rw [e4]
theorem wfL_e {f : Nat} (hp : ∀ i, i < N → PR g mc (pa mc f i) w i) : ∀ (n j : Nat), j + n ≤ N → wfL mc f n j = rfL w n j
  | 0, j, hj => by rw [wfL, rfL]
  | n + 1, j, hj => by
    obtain ⟨p1, p2, p3, p4, p5, p6, -⟩ := hp j (by omega)
    rw [wfL, rfL, p1, p6, wfL_e hp n (j + 1) (by omega)]
end
