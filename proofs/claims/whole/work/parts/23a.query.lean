/-! QUERIES -/
section
variable {g : mG} {mc mr m : mM} {b r T N H : Nat}
theorem OBJ.th (h : OBJ g mc mr b r T) (v : Int32) : OBJ g mc (sI mr 384 r v) b r T := by
  obtain ⟨nx, C, hH⟩ := h.2.2.2.2.2.2.2.1
  exact h.asm h.1 (fun a _ => Sm.rf) rfl rfl (h.2.2.2.2.2.1.toR (by simp only [mm])) (h.2.2.2.2.2.2.1.toR (by simp [mm]) (by simp only [mm])) ⟨nx, C, hH.toR (by simp [mm]) (by simp only [mm])⟩ (by simp only [mm]) (by simp only [mm]) (fun a _ _ => by simp only [mm]) (fun k hk _ _ => by simp [mm, hk])
theorem CALL.q0 {tab : List (String × Int32)} {P : Prop} (h : OBJ g mc mr b r T) (hp : P) : CALL g b r T mc mr mc (sI mr 384 r 0) tab none P := ⟨h.th 0, fun _ _ => Sm.rf, fun a ha => Sm_I (by omega), Or.inl ⟨rfl, by simp [mm], hp⟩⟩
theorem CALL.qx {tab : List (String × Int32)} {P : Prop} {E : String} {k : Int32} (h : OBJ g mc mr b r T) (hl : tab.lookup E = some k) : CALL g b r T mc mr mc (sI mr 384 r k) tab (some E) P := ⟨h.th k, fun _ _ => Sm.rf, fun a ha => Sm_I (by omega), Or.inr ⟨E, k, rfl, hl, by simp [mm]⟩⟩
theorem n01 : ¬ (0 : Int32) ≤ -1 := by decide
theorem n10 : (-1 : Int32) < 0 := by decide
theorem q_time (h : OBJ g mc mr b r T) (F0 : FR g mc (b + 1) (gA mr (r + 1)) N H) : CALL g b r T mc mr mc (X11_time_m g mr r) [] none (X10_time_r g mc b = X11_time_r g mr r) := CALL.q0 h (show X10_time_r g mc b = _ from F0.2.1.1)
theorem q_furnace (h : OBJ g mc mr b r T) (F0 : FR g mc (b + 1) (gA mr (r + 1)) N H) : CALL g b r T mc mr mc (X11_furnace_m g mr r) [] none (X10_furnace_r g mc b = X11_furnace_r g mr r) := CALL.q0 h (show X10_furnace_r g mc b = _ from F0.2.1.2.1)
theorem q_bellows (h : OBJ g mc mr b r T) (F0 : FR g mc (b + 1) (gA mr (r + 1)) N H) : CALL g b r T mc mr mc (X11_bellows_m g mr r) [] none (X10_bellows_r g mc b = X11_bellows_r g mr r) := CALL.q0 h (show X10_bellows_r g mc b = _ from F0.2.1.2.2.1)
theorem q_coal (h : OBJ g mc mr b r T) (F0 : FR g mc (b + 1) (gA mr (r + 1)) N H) : CALL g b r T mc mr mc (X11_coal_m g mr r) [] none (X10_coal_r g mc b = X11_coal_r g mr r) := CALL.q0 h (show X10_coal_r g mc b = _ from F0.2.1.2.2.2.1)
theorem q_pieceCount (h : OBJ g mc mr b r T) (F0 : FR g mc (b + 1) (gA mr (r + 1)) N H) : CALL g b r T mc mr mc (X11_pieceCount_m g mr r) [] none (X10_pieceCount_r g mc b = X11_pieceCount_r g mr r) := CALL.q0 h (show X10_pieceCount_r g mc b = _ from F0.2.1.2.2.2.2.2.1)
theorem q_hammerCount (h : OBJ g mc mr b r T) (F0 : FR g mc (b + 1) (gA mr (r + 1)) N H) : CALL g b r T mc mr mc (X11_hammerCount_m g mr r) [] none (X10_hammerCount_r g mc b = X11_hammerCount_r g mr r) := CALL.q0 h (show X10_hammerCount_r g mc b = _ from F0.2.1.2.2.2.2.2.2.1)
theorem q_strokeTotal (h : OBJ g mc mr b r T) (F0 : FR g mc (b + 1) (gA mr (r + 1)) N H) : CALL g b r T mc mr mc (X11_strokeTotal_m g mr r) [] none (X10_strokeTotal_r g mc b = X11_strokeTotal_r g mr r) := CALL.q0 h (show X10_strokeTotal_r g mc b = _ from F0.2.1.2.2.2.2.2.2.2.1)
theorem q_birdTotal (h : OBJ g mc mr b r T) (F0 : FR g mc (b + 1) (gA mr (r + 1)) N H) : CALL g b r T mc mr mc (X11_birdTotal_m g mr r) [] none (X10_birdTotal_r g mc b = X11_birdTotal_r g mr r) := CALL.q0 h (show X10_birdTotal_r g mc b = _ from F0.2.1.2.2.2.2.2.2.2.2.1)
theorem q_burntTotal (h : OBJ g mc mr b r T) (F0 : FR g mc (b + 1) (gA mr (r + 1)) N H) : CALL g b r T mc mr mc (X11_burntTotal_m g mr r) [] none (X10_burntTotal_r g mc b = X11_burntTotal_r g mr r) := CALL.q0 h (show X10_burntTotal_r g mc b = _ from F0.2.1.2.2.2.2.2.2.2.2.2.1)
theorem q_temperature (hd : VD g) (h : OBJ g mc mr b r T) (F0 : FR g mc (b + 1) (gA mr (r + 1)) N H) (V0 : RV T (gA mr (r + 1)) N H) (a : Int32) : CALL g b r T mc mr mc (X11_temperature_m g mr r a N) [("java/util/NoSuchElementException", 1)] (X10_temperature_x g mc b a N) (X10_temperature_r g mc b a N = X11_temperature_r g mr r a N) := by
  have hN8 := F0.2.2.2.2.1
  unfold X10_temperature_x X10_temperature_r X11_temperature_m X11_temperature_r X11_tellsOf_m X11_tellsOf_r
  rcases fi_of (mr := mr) (r := r) F0 a with ⟨h1, h2, h3⟩ | ⟨i, hi, h1, h2, h3⟩
  · simp only [h1, h2, if_neg n01]
    exact CALL.qx h rfl
  · have hp : (0 : Int32) ≤ nI i := nI_pos' (by omega)
    simp only [h1, h2, if_pos hp, nI_clamp (show i < 2 ^ 31 by omega)]
    exact CALL.q0 h (F0.2.2.1 i hi).2.2.1
theorem q_stages (hd : VD g) (h : OBJ g mc mr b r T) (F0 : FR g mc (b + 1) (gA mr (r + 1)) N H) (V0 : RV T (gA mr (r + 1)) N H) (a : Int32) : CALL g b r T mc mr mc (X11_stages_m g mr r a N) [("java/util/NoSuchElementException", 1)] (X10_stages_x g mc b a N) (X10_stages_r g mc b a N = X11_stages_r g mr r a N) := by
  have hN8 := F0.2.2.2.2.1
  unfold X10_stages_x X10_stages_r X11_stages_m X11_stages_r X11_tellsOf_m X11_tellsOf_r
  rcases fi_of (mr := mr) (r := r) F0 a with ⟨h1, h2, h3⟩ | ⟨i, hi, h1, h2, h3⟩
  · simp only [h1, h2, if_neg n01]
    exact CALL.qx h rfl
  · have hp : (0 : Int32) ≤ nI i := nI_pos' (by omega)
    simp only [h1, h2, if_pos hp, nI_clamp (show i < 2 ^ 31 by omega)]
    exact CALL.q0 h (F0.2.2.1 i hi).2.2.2.1
theorem q_hardness (hd : VD g) (h : OBJ g mc mr b r T) (F0 : FR g mc (b + 1) (gA mr (r + 1)) N H) (V0 : RV T (gA mr (r + 1)) N H) (a : Int32) : CALL g b r T mc mr mc (X11_hardness_m g mr r a N) [("java/util/NoSuchElementException", 1)] (X10_hardness_x g mc b a N) (X10_hardness_r g mc b a N = X11_hardness_r g mr r a N) := by
  have hN8 := F0.2.2.2.2.1
  unfold X10_hardness_x X10_hardness_r X11_hardness_m X11_hardness_r X11_tellsOf_m X11_tellsOf_r
  rcases fi_of (mr := mr) (r := r) F0 a with ⟨h1, h2, h3⟩ | ⟨i, hi, h1, h2, h3⟩
  · simp only [h1, h2, if_neg n01]
    exact CALL.qx h rfl
  · have hp : (0 : Int32) ≤ nI i := nI_pos' (by omega)
    simp only [h1, h2, if_pos hp, nI_clamp (show i < 2 ^ 31 by omega)]
    exact CALL.q0 h (F0.2.2.1 i hi).2.2.2.2.1
theorem q_kind (hd : VD g) (h : OBJ g mc mr b r T) (F0 : FR g mc (b + 1) (gA mr (r + 1)) N H) (V0 : RV T (gA mr (r + 1)) N H) (a : Int32) : CALL g b r T mc mr mc (X11_kind_m g mr r a N) [("java/util/NoSuchElementException", 1)] (X10_kind_x g mc b a N) (X10_kind_r g mc b a N = X11_kind_r g mr r a N) := by
  have hN8 := F0.2.2.2.2.1
  have em : X11_kind_m g mr r a N = X11_tellsOf_m g mr r a 1 N := by
    unfold X11_kind_m
    split <;> rfl
  rw [em]
  unfold X10_kind_x X10_kind_r X11_kind_r X11_tellsOf_m X11_tellsOf_r
  rcases fi_of (mr := mr) (r := r) F0 a with ⟨h1, h2, h3⟩ | ⟨i, hi, h1, h2, h3⟩
  · simp only [h1, h2, if_neg n01]
    exact CALL.qx h rfl
  · have hp : (0 : Int32) ≤ nI i := nI_pos' (by omega)
    have hz : gI (sI mr 384 r 0) 384 r = 0 := by simp [mm]
    simp only [h1, h2, if_pos hp, nI_clamp (show i < 2 ^ 31 by omega), hz, if_true]
    refine CALL.q0 h ?_
    have e := (F0.2.2.1 i hi).2.1
    have k := (V0.2.1 i hi).2.2.1
    rw [e]
    show gA mr (r + 1) (8 * i + 14) = ((gA mr (r + 1) (8 * i + 14)).toUInt32 % 65536).toInt32
    rcases k with k | k | k <;> (rw [k]; decide)
theorem q_isInFurnace (hd : VD g) (h : OBJ g mc mr b r T) (F0 : FR g mc (b + 1) (gA mr (r + 1)) N H) (V0 : RV T (gA mr (r + 1)) N H) (a : Int32) : CALL g b r T mc mr mc (X11_isInFurnace_m g mr r a N) [("java/util/NoSuchElementException", 1)] (X10_isInFurnace_x g mc b a N) (X10_isInFurnace_r g mc b a N = X11_isInFurnace_r g mr r a N) := by
  have hN8 := F0.2.2.2.2.1
  have em : X11_isInFurnace_m g mr r a N = X11_tellsOf_m g mr r a 5 N := by
    unfold X11_isInFurnace_m
    split <;> rfl
  rw [em]
  unfold X10_isInFurnace_x X10_isInFurnace_r X11_isInFurnace_r X11_tellsOf_m X11_tellsOf_r
  rcases fi_of (mr := mr) (r := r) F0 a with ⟨h1, h2, h3⟩ | ⟨i, hi, h1, h2, h3⟩
  · simp only [h1, h2, if_neg n01]
    exact CALL.qx h rfl
  · have hp : (0 : Int32) ≤ nI i := nI_pos' (by omega)
    simp only [h1, h2, if_pos hp, nI_clamp (show i < 2 ^ 31 by omega)]
    refine CALL.q0 h ?_
    have e := (F0.2.2.1 i hi).2.2.2.2.2.1
    have k := (V0.2.1 i hi).2.2.2.2.2.2.2.2.2.1
    rw [e]
    show gA mr (r + 1) (8 * i + 18) = if gA mr (r + 1) (8 * i + 18) = 1 then 1 else 0
    rcases k with k | k <;> (rw [k]; decide)
theorem q_isQuenched (hd : VD g) (h : OBJ g mc mr b r T) (F0 : FR g mc (b + 1) (gA mr (r + 1)) N H) (V0 : RV T (gA mr (r + 1)) N H) (a : Int32) : CALL g b r T mc mr mc (X11_isQuenched_m g mr r a N) [("java/util/NoSuchElementException", 1)] (X10_isQuenched_x g mc b a N) (X10_isQuenched_r g mc b a N = X11_isQuenched_r g mr r a N) := by
  have hN8 := F0.2.2.2.2.1
  have em : X11_isQuenched_m g mr r a N = X11_tellsOf_m g mr r a 6 N := by
    unfold X11_isQuenched_m
    split <;> rfl
  rw [em]
  unfold X10_isQuenched_x X10_isQuenched_r X11_isQuenched_r X11_tellsOf_m X11_tellsOf_r
  rcases fi_of (mr := mr) (r := r) F0 a with ⟨h1, h2, h3⟩ | ⟨i, hi, h1, h2, h3⟩
  · simp only [h1, h2, if_neg n01]
    exact CALL.qx h rfl
  · have hp : (0 : Int32) ≤ nI i := nI_pos' (by omega)
    simp only [h1, h2, if_pos hp, nI_clamp (show i < 2 ^ 31 by omega)]
    refine CALL.q0 h ?_
    have e := (F0.2.2.1 i hi).2.2.2.2.2.2.1
    have k := (V0.2.1 i hi).2.2.2.2.2.2.2.2.2.2.1
    rw [e]
    show gA mr (r + 1) (8 * i + 19) = if gA mr (r + 1) (8 * i + 19) = 1 then 1 else 0
    rcases k with k | k <;> (rw [k]; decide)
theorem q_hasPassed (hd : VD g) (h : OBJ g mc mr b r T) (F0 : FR g mc (b + 1) (gA mr (r + 1)) N H) (V0 : RV T (gA mr (r + 1)) N H) (a : Int32) : CALL g b r T mc mr mc (X11_hasPassed_m g mr r a N) [("java/util/NoSuchElementException", 1)] (X10_hasPassed_x g mc b a N) (X10_hasPassed_r g mc b a N = X11_hasPassed_r g mr r a N) := by
  have hN8 := F0.2.2.2.2.1
  have em : X11_hasPassed_m g mr r a N = X11_tellsOf_m g mr r a 7 N := by
    unfold X11_hasPassed_m
    split <;> rfl
  rw [em]
  unfold X10_hasPassed_x X10_hasPassed_r X11_hasPassed_r X11_tellsOf_m X11_tellsOf_r
  rcases fi_of (mr := mr) (r := r) F0 a with ⟨h1, h2, h3⟩ | ⟨i, hi, h1, h2, h3⟩
  · simp only [h1, h2, if_neg n01]
    exact CALL.qx h rfl
  · have hp : (0 : Int32) ≤ nI i := nI_pos' (by omega)
    simp only [h1, h2, if_pos hp, nI_clamp (show i < 2 ^ 31 by omega), ite_self]
    refine CALL.q0 h ?_
    have e := ((F0.2.2.1 i hi).2.2.2.2.2.2.2.z hd).2.1
    show (if gR mc 295 (pa mc (b + 1) i) = some (vdA g 1) then (1 : Int32) else 0) = if gA mr (r + 1) (8 * i + 20) = 1 then 1 else 0
    by_cases c : gA mr (r + 1) (8 * i + 20) = 1
    · rw [if_pos c, if_pos (e.mpr c)]
    · rw [if_neg c, if_neg (fun q => c (e.mp q))]
theorem q_exists (hd : VD g) (h : OBJ g mc mr b r T) (F0 : FR g mc (b + 1) (gA mr (r + 1)) N H) (V0 : RV T (gA mr (r + 1)) N H) (a : Int32) : CALL g b r T mc mr mc (X11_exists_m g mr r a N) [] none (X10_exists_r g mc b a N = X11_exists_r g mr r a N) := by
  have hN8 := F0.2.2.2.2.1
  have em : X11_exists_m g mr r a N = sI mr 384 r 0 := by
    unfold X11_exists_m
    split <;> rfl
  rw [em]
  unfold X10_exists_r X11_exists_r
  rcases fi_of (mr := mr) (r := r) F0 a with ⟨h1, h2, h3⟩ | ⟨i, hi, h1, h2, h3⟩
  · simp only [h1, h2, if_pos n10]
    exact CALL.q0 h trivial
  · have hp : ¬ nI i < 0 := nI_pos (by omega)
    simp only [h1, h2, if_neg hp]
    exact CALL.q0 h trivial
theorem pos_of (hN : N ≤ 8) (a : Int32) : (isI a 0 (nI N - 1) = 0 ∧ (a < 0 ∨ ¬ a < nI N)) ∨ ∃ i, i < N ∧ a = nI i ∧ ¬ isI a 0 (nI N - 1) = 0 ∧ ¬ a < 0 ∧ a < nI N := by
  have e : (nI N - 1).toInt = (N : Int) - 1 := by
    rw [Kit.i32_sub (by rw [nI_toInt (by omega)]; simp only [tl]; omega) (by rw [nI_toInt (by omega)]; simp only [tl]; omega), nI_toInt (by omega)]
    simp only [tl]
  by_cases c1 : a < 0
  · refine Or.inl ⟨(isI_b _ _ _).mpr ?_, Or.inl c1⟩
    rw [ti.1] at c1
    simp only [tl] at c1 ⊢
    omega
  by_cases c2 : a < nI N
  · obtain ⟨i, hi, hb⟩ := nI_of c1
    subst hb
    have hi2 : i < N := (nI_ltI hi (by omega)).mp c2
    refine Or.inr ⟨i, hi2, rfl, fun q => (isI_b _ _ _).mp q ?_, c1, c2⟩
    rw [e, nI_toInt hi]
    simp only [tl]
    omega
  · refine Or.inl ⟨(isI_b _ _ _).mpr ?_, Or.inr c2⟩
    rw [ti.1, nI_toInt (by omega)] at c2
    rw [e]
    omega
theorem q_pieceAt (hd : VD g) (h : OBJ g mc mr b r T) (F0 : FR g mc (b + 1) (gA mr (r + 1)) N H) (V0 : RV T (gA mr (r + 1)) N H) (a : Int32) : CALL g b r T mc mr mc (X11_pieceAt_m g mr r a N) [("java/lang/IndexOutOfBoundsException", 1)] (X10_pieceAt_x g mc b a N) (X10_pieceAt_r g mc b a N = X11_pieceAt_r g mr r a N) := by
  have hN8 := F0.2.2.2.2.1
  unfold X10_pieceAt_x X10_pieceAt_r X11_pieceAt_m X11_pieceAt_r X3_pieceIn_r
  rcases pos_of hN8 a with ⟨h1, h2⟩ | ⟨i, hi, rfl, h2, h3, h4⟩
  · have e : (if a < 0 then none else if a < nI N then some (pa mc (b + 1) a.toNatClampNeg) else none) = (none : Option Nat) := by
      rcases h2 with h2 | h2
      · rw [if_pos h2]
      · rw [if_neg h2, ite_self]
    simp only [h1, e, if_true]
    exact CALL.qx h rfl
  · simp only [if_neg h2, if_neg h3, if_pos h4, nI_clamp (show i < 2 ^ 31 by omega)]
    exact CALL.q0 h (F0.2.2.1 i hi).1
theorem q_weight (hd : VD g) (h : OBJ g mc mr b r T) (F0 : FR g mc (b + 1) (gA mr (r + 1)) N H) (V0 : RV T (gA mr (r + 1)) N H) (a : Int32) : CALL g b r T mc mr mc (X11_weight_m g mr r a H) [("java/lang/IndexOutOfBoundsException", 1)] (X10_weight_x g mc b a H) (X10_weight_r g mc b a H = X11_weight_r g mr r a H) := by
  have hH4 := F0.2.2.2.2.2
  unfold X10_weight_x X10_weight_r X11_weight_m X11_weight_r
  rcases tool_of (g := g) (mc := mc) (mr := mr) (f := b + 1) (r := r) hH4 a with ⟨t1, t2⟩ | ⟨i, hi, rfl, t1, t2⟩
  · simp only [t1, t2, if_true]
    exact CALL.qx h rfl
  · simp only [t1, if_neg t2]
    refine CALL.q0 h ?_
    unfold X11_weighs_r
    rw [nI_clamp (by omega)]
    have e : gA (sI mr 384 r 0) = gA mr := by simp only [mm]
    rw [e]
    exact (F0.2.2.2.1 i hi).1
theorem q_wear (hd : VD g) (h : OBJ g mc mr b r T) (F0 : FR g mc (b + 1) (gA mr (r + 1)) N H) (V0 : RV T (gA mr (r + 1)) N H) (a : Int32) : CALL g b r T mc mr mc (X11_wear_m g mr r a H) [("java/lang/IndexOutOfBoundsException", 1)] (X10_wear_x g mc b a H) (X10_wear_r g mc b a H = X11_wear_r g mr r a H) := by
  have hH4 := F0.2.2.2.2.2
  unfold X10_wear_x X10_wear_r X11_wear_m X11_wear_r
  rcases tool_of (g := g) (mc := mc) (mr := mr) (f := b + 1) (r := r) hH4 a with ⟨t1, t2⟩ | ⟨i, hi, rfl, t1, t2⟩
  · simp only [t1, t2, if_true]
    exact CALL.qx h rfl
  · simp only [t1, if_neg t2]
    refine CALL.q0 h ?_
    unfold X11_worn_r
    rw [nI_clamp (by omega)]
    have e : gA (sI mr 384 r 0) = gA mr := by simp only [mm]
    rw [e]
    exact (F0.2.2.2.1 i hi).2
theorem q_stroke (hd : VD g) (h : OBJ g mc mr b r T) (F0 : FR g mc (b + 1) (gA mr (r + 1)) N H) (V0 : RV T (gA mr (r + 1)) N H) (a a2 : Int32) : CALL g b r T mc mr mc (X11_stroke_m g mr r a a2 N H) [("java/util/NoSuchElementException", 1), ("java/lang/IndexOutOfBoundsException", 2)] (X10_stroke_x g mc b a a2 N H) (X10_stroke_r g mc b a a2 N H = X11_stroke_r g mr r a a2 N H) := by
  have hN8 := F0.2.2.2.2.1
  have hH4 := F0.2.2.2.2.2
  unfold X10_stroke_x X10_stroke_r X11_stroke_m X11_stroke_r
  rcases fi_of (mr := mr) (r := r) F0 a with ⟨h1, h2, h3⟩ | ⟨i, hi, h1, h2, h3⟩
  · simp only [h1, h2, if_neg n01]
    exact CALL.qx h rfl
  · have hp : (0 : Int32) ≤ nI i := nI_pos' (by omega)
    simp only [h1, h2, if_pos hp]
    rcases tool_of (g := g) (mc := mc) (mr := mr) (f := b + 1) (r := r) hH4 a2 with ⟨t1, t2⟩ | ⟨q, hq, rfl, t1, t2⟩
    · simp only [t1, t2, if_true]
      exact CALL.qx h rfl
    · simp only [t1, if_neg t2]
      refine CALL.q0 h ?_
      rw [blow_eq, sg_eq, nI_clamp (by omega), nI_clamp (by omega)]
      have e : gA (sI mr 384 r 0) = gA mr := by simp only [mm]
      obtain ⟨p1, p2, p3, p4, p5, p6, p7, p8⟩ := F0.2.2.1 i hi
      rw [e, p3, p4, (F0.2.2.2.1 q hq).1]
theorem q_coalMinutes (hd : VD g) (h : OBJ g mc mr b r T) (F0 : FR g mc (b + 1) (gA mr (r + 1)) N H) (V0 : RV T (gA mr (r + 1)) N H)  : CALL g b r T mc mr mc (X11_coalMinutes_m g mr r) [("java/lang/ArithmeticException", 1)] (X10_coalMinutes_x g mc b) (X10_coalMinutes_r g mc b = X11_coalMinutes_r g mr r) := by
  unfold X10_coalMinutes_x X10_coalMinutes_r X11_coalMinutes_m X11_coalMinutes_r
  rw [F0.2.1.2.2.1, F0.2.1.2.2.2.1]
  by_cases c : gA mr (r + 1) 2 = 0
  · simp only [if_pos c]
    exact CALL.qx h rfl
  · simp only [if_neg c]
    exact CALL.q0 h trivial
theorem q_piecesInFurnace (hd : VD g) (h : OBJ g mc mr b r T) (F0 : FR g mc (b + 1) (gA mr (r + 1)) N H) (V0 : RV T (gA mr (r + 1)) N H)  : CALL g b r T mc mr mc (X11_piecesInFurnace_m g mr r N) [] none (X10_piecesInFurnace_r g mc b N = X11_piecesInFurnace_r g mr r N) := by
  unfold X10_piecesInFurnace_r X11_piecesInFurnace_m X11_piecesInFurnace_r
  refine CALL.q0 h ?_
  have e : gA (sI mr 384 r 0) = gA mr := by simp only [mm]
  have V1 : RV T (gA (sI mr 384 r 0) (r + 1)) N H := by
    rw [e]
    exact V0
  rw [cnt_of F0, ins_of V1, e]
theorem q_errorPosition (h : OBJ g mc mr b r T) : CALL g b r T mc mr mc (X11_errorPosition_m g mr r) [("java/util/NoSuchElementException", 1)] (X10_errorPosition_x g mc b) (X10_errorPosition_r g mc b = X11_errorPosition_r g mr r) := by
  obtain ⟨e1, e2, e3, e4⟩ := h.2.2.2.2.2.2.2.2.2.1
  unfold X10_errorPosition_x X10_errorPosition_r X11_errorPosition_m X11_errorPosition_r
  rw [e1]
  rcases e3 with c | c
  · simp only [c, if_true, if_neg n01]
    exact CALL.qx h rfl
  · have c1 : ¬ gI mr 386 r = -1 := fun q => by
      rw [q] at c
      exact absurd c (by decide)
    have c2 : (0 : Int32) ≤ gI mr 386 r := by
      rw [ti.2.1]
      simp only [tl]
      exact c
    simp only [if_neg c1, if_pos c2]
    exact CALL.q0 h trivial
theorem q_failedCommand (h : OBJ g mc mr b r T) : CALL g b r T mc mr mc (X11_failedCommand_m g mr r) [("java/util/NoSuchElementException", 1)] (X10_failedCommand_x g mc b) (X10_failedCommand_r g mc b = X11_failedCommand_r g mr r) := by
  obtain ⟨e1, e2, e3, e4⟩ := h.2.2.2.2.2.2.2.2.2.1
  unfold X10_failedCommand_x X10_failedCommand_r X11_failedCommand_m X11_failedCommand_r
  rw [e2]
  rcases e4 with c | c
  · simp only [c, if_true, if_neg n01]
    exact CALL.qx h rfl
  · have c1 : ¬ gI mr 387 r = -1 := fun q => by
      rw [q] at c
      exact absurd c (by decide)
    have c2 : (0 : Int32) ≤ gI mr 387 r := by
      rw [ti.2.1]
      simp only [tl]
      exact c
    simp only [if_neg c1, if_pos c2]
    exact CALL.q0 h trivial
end
