/-! THE TWELVE CHANGING CALLS -/
section
variable {g : mG} {mc mr : mM} {b r T N H nx C : Nat}
theorem call_addCoal (hd : VD g) (h : OBJ g mc mr b r T) (hH : HIS g mc mr b r T nx C) (F0 : FR g mc (b + 1) (gA mr (r + 1)) N H) (V0 : RV T (gA mr (r + 1)) N H) (hT : T + 1 ≤ 9000) (a : Int32) : CALL g b r (T + 1) mc mr (X10_addCoal_m g mc b a nx) (X11_addCoal_m g mr r a  C) [("java/lang/IllegalArgumentException", 1), ("java/lang/IllegalStateException", 2)] (X10_addCoal_x g mc b a nx) (X10_addCoal_r g mc b a nx = X11_addCoal_r g mr r a  C) := by
  obtain ⟨F, e1, z⟩ := pre_f (g := g) (r := r) (T := T) h.1 hH.1 F0
  have V : RV T (gA (X11_begins_m g mr r) (r + 1)) N H := by
    rw [e1]
    exact V0
  have hN8 := F.2.2.2.2.1
  have hH4 := F.2.2.2.2.2
  have hs : SIM g (b + 1) r (pl5 0 0 1 2 0) (T + 1) (X6_prepare_m g mc (b + 49) (b + 1) nx) (X3_storeCoal_m g (X6_prepare_m g mc (b + 49) (b + 1) nx) (b + 1) a) (X3_storeCoal_r g (X6_prepare_m g mc (b + 49) (b + 1) nx) (b + 1) a) (X11_adds_m g (X11_begins_m g mr r) r a) (X11_adds_r g (X11_begins_m g mr r) r a) := sim_coal F V z hT a
  have hc := change h hH (Nat.le_succ T) hT hs (fr_X3_storeCoal g (X6_prepare_m g mc (b + 49) (b + 1) nx) (b + 1) a F.1 ) rx_adds (tab := [("java/lang/IllegalArgumentException", 1), ("java/lang/IllegalStateException", 2)]) (fun A hA hp => by
    rcases hA with rfl | rfl | rfl | rfl | rfl
    · first | rfl | exact absurd pl5_1 hp
    · first | rfl | exact absurd pl5_2 hp
    · first | rfl | exact absurd pl5_3 hp
    · first | rfl | exact absurd pl5_4 hp
    · first | rfl | exact absurd pl5_5 hp)
  have ex : X10_addCoal_x g mc b a nx = X10_settle_x g (X3_storeCoal_m g (X6_prepare_m g mc (b + 49) (b + 1) nx) (b + 1) a) b (X3_storeCoal_r g (X6_prepare_m g mc (b + 49) (b + 1) nx) (b + 1) a) := by
    unfold X10_addCoal_x
    cases X10_settle_x g (X3_storeCoal_m g (X6_prepare_m g mc (b + 49) (b + 1) nx) (b + 1) a) b (X3_storeCoal_r g (X6_prepare_m g mc (b + 49) (b + 1) nx) (b + 1) a) <;> rfl
  have em : X10_addCoal_m g mc b a nx = X10_settle_m g (X3_storeCoal_m g (X6_prepare_m g mc (b + 49) (b + 1) nx) (b + 1) a) b (X3_storeCoal_r g (X6_prepare_m g mc (b + 49) (b + 1) nx) (b + 1) a) := by
    unfold X10_addCoal_m
    cases X10_settle_x g (X3_storeCoal_m g (X6_prepare_m g mc (b + 49) (b + 1) nx) (b + 1) a) b (X3_storeCoal_r g (X6_prepare_m g mc (b + 49) (b + 1) nx) (b + 1) a) <;> rfl
  rw [ex, em]
  refine CALL.same hc (fun e q => ?_)
  unfold X10_addCoal_r
  rw [e]
  exact q
theorem call_setBellows (hd : VD g) (h : OBJ g mc mr b r T) (hH : HIS g mc mr b r T nx C) (F0 : FR g mc (b + 1) (gA mr (r + 1)) N H) (V0 : RV T (gA mr (r + 1)) N H) (hT : T + 1 ≤ 9000) (a : Int32) : CALL g b r (T + 1) mc mr (X10_setBellows_m g mc b a nx) (X11_setBellows_m g mr r a  C) [("java/lang/IllegalArgumentException", 1)] (X10_setBellows_x g mc b a nx) (X10_setBellows_r g mc b a nx = X11_setBellows_r g mr r a  C) := by
  obtain ⟨F, e1, z⟩ := pre_f (g := g) (r := r) (T := T) h.1 hH.1 F0
  have V : RV T (gA (X11_begins_m g mr r) (r + 1)) N H := by
    rw [e1]
    exact V0
  have hN8 := F.2.2.2.2.1
  have hH4 := F.2.2.2.2.2
  have hs : SIM g (b + 1) r (pl5 0 0 1 0 0) (T + 1) (X6_prepare_m g mc (b + 49) (b + 1) nx) (X3_changeLevel_m g (X6_prepare_m g mc (b + 49) (b + 1) nx) (b + 1) a) (X3_changeLevel_r g (X6_prepare_m g mc (b + 49) (b + 1) nx) (b + 1) a) (X11_blows_m g (X11_begins_m g mr r) r a) (X11_blows_r g (X11_begins_m g mr r) r a) := (sim_level F V z a).mono (by omega) hT
  have hc := change h hH (Nat.le_succ T) hT hs (fr_X3_changeLevel g (X6_prepare_m g mc (b + 49) (b + 1) nx) (b + 1) a F.1 ) rx_blows (tab := [("java/lang/IllegalArgumentException", 1)]) (fun A hA hp => by
    rcases hA with rfl | rfl | rfl | rfl | rfl
    · first | rfl | exact absurd pl5_1 hp
    · first | rfl | exact absurd pl5_2 hp
    · first | rfl | exact absurd pl5_3 hp
    · first | rfl | exact absurd pl5_4 hp
    · first | rfl | exact absurd pl5_5 hp)
  have ex : X10_setBellows_x g mc b a nx = X10_settle_x g (X3_changeLevel_m g (X6_prepare_m g mc (b + 49) (b + 1) nx) (b + 1) a) b (X3_changeLevel_r g (X6_prepare_m g mc (b + 49) (b + 1) nx) (b + 1) a) := by
    unfold X10_setBellows_x
    cases X10_settle_x g (X3_changeLevel_m g (X6_prepare_m g mc (b + 49) (b + 1) nx) (b + 1) a) b (X3_changeLevel_r g (X6_prepare_m g mc (b + 49) (b + 1) nx) (b + 1) a) <;> rfl
  have em : X10_setBellows_m g mc b a nx = X10_settle_m g (X3_changeLevel_m g (X6_prepare_m g mc (b + 49) (b + 1) nx) (b + 1) a) b (X3_changeLevel_r g (X6_prepare_m g mc (b + 49) (b + 1) nx) (b + 1) a) := by
    unfold X10_setBellows_m
    cases X10_settle_x g (X3_changeLevel_m g (X6_prepare_m g mc (b + 49) (b + 1) nx) (b + 1) a) b (X3_changeLevel_r g (X6_prepare_m g mc (b + 49) (b + 1) nx) (b + 1) a) <;> rfl
  rw [ex, em]
  refine CALL.same hc (fun e q => ?_)
  unfold X10_setBellows_r
  rw [e]
  exact q
theorem call_advance (hd : VD g) (h : OBJ g mc mr b r T) (hH : HIS g mc mr b r T nx C) (F0 : FR g mc (b + 1) (gA mr (r + 1)) N H) (V0 : RV T (gA mr (r + 1)) N H) (hT : T + 1 ≤ 9000) (a : Int32) : CALL g b r (T + 1) mc mr (X10_advance_m g mc b a N nx) (X11_advance_m g mr r a N C) [("java/lang/IllegalArgumentException", 1)] (X10_advance_x g mc b a N nx) (X10_advance_r g mc b a N nx = X11_advance_r g mr r a N C) := by
  obtain ⟨F, e1, z⟩ := pre_f (g := g) (r := r) (T := T) h.1 hH.1 F0
  have V : RV T (gA (X11_begins_m g mr r) (r + 1)) N H := by
    rw [e1]
    exact V0
  have hN8 := F.2.2.2.2.1
  have hH4 := F.2.2.2.2.2
  have hs : SIM g (b + 1) r (pl5 0 0 1 0 0) (T + 1) (X6_prepare_m g mc (b + 49) (b + 1) nx) (X3_passMinutes_m g (X6_prepare_m g mc (b + 49) (b + 1) nx) (b + 1) a N) (X3_passMinutes_r g (X6_prepare_m g mc (b + 49) (b + 1) nx) (b + 1) a N) (X11_passes_m g (X11_begins_m g mr r) r a N) (X11_passes_r g (X11_begins_m g mr r) r a N) := (sim_mins F V z a).mono (by omega) hT
  have hc := change h hH (Nat.le_succ T) hT hs (fr_X3_passMinutes g (X6_prepare_m g mc (b + 49) (b + 1) nx) (b + 1) a N F.1 hN8) rx_passes (tab := [("java/lang/IllegalArgumentException", 1)]) (fun A hA hp => by
    rcases hA with rfl | rfl | rfl | rfl | rfl
    · first | rfl | exact absurd pl5_1 hp
    · first | rfl | exact absurd pl5_2 hp
    · first | rfl | exact absurd pl5_3 hp
    · first | rfl | exact absurd pl5_4 hp
    · first | rfl | exact absurd pl5_5 hp)
  have ex : X10_advance_x g mc b a N nx = X10_settle_x g (X3_passMinutes_m g (X6_prepare_m g mc (b + 49) (b + 1) nx) (b + 1) a N) b (X3_passMinutes_r g (X6_prepare_m g mc (b + 49) (b + 1) nx) (b + 1) a N) := by
    unfold X10_advance_x
    cases X10_settle_x g (X3_passMinutes_m g (X6_prepare_m g mc (b + 49) (b + 1) nx) (b + 1) a N) b (X3_passMinutes_r g (X6_prepare_m g mc (b + 49) (b + 1) nx) (b + 1) a N) <;> rfl
  have em : X10_advance_m g mc b a N nx = X10_settle_m g (X3_passMinutes_m g (X6_prepare_m g mc (b + 49) (b + 1) nx) (b + 1) a N) b (X3_passMinutes_r g (X6_prepare_m g mc (b + 49) (b + 1) nx) (b + 1) a N) := by
    unfold X10_advance_m
    cases X10_settle_x g (X3_passMinutes_m g (X6_prepare_m g mc (b + 49) (b + 1) nx) (b + 1) a N) b (X3_passMinutes_r g (X6_prepare_m g mc (b + 49) (b + 1) nx) (b + 1) a N) <;> rfl
  rw [ex, em]
  refine CALL.same hc (fun e q => ?_)
  unfold X10_advance_r
  rw [e]
  exact q
theorem call_addPiece (hd : VD g) (h : OBJ g mc mr b r T) (hH : HIS g mc mr b r T nx C) (F0 : FR g mc (b + 1) (gA mr (r + 1)) N H) (V0 : RV T (gA mr (r + 1)) N H) (hT : T + 1 ≤ 9000) (a : Int32) : CALL g b r (T + 1) mc mr (X10_addPiece_m g mc b a N nx) (X11_addPiece_m g mr r a N C) [("java/lang/IllegalArgumentException", 1), ("java/lang/IllegalStateException", 2)] (X10_addPiece_x g mc b a N nx) (X10_addPiece_r g mc b a N nx = X11_addPiece_r g mr r a N C) := by
  obtain ⟨F, e1, z⟩ := pre_f (g := g) (r := r) (T := T) h.1 hH.1 F0
  have V : RV T (gA (X11_begins_m g mr r) (r + 1)) N H := by
    rw [e1]
    exact V0
  have hN8 := F.2.2.2.2.1
  have hH4 := F.2.2.2.2.2
  have hs : SIM g (b + 1) r (pl5 0 0 1 2 0) (T + 1) (X6_prepare_m g mc (b + 49) (b + 1) nx) (X3_newPiece_m g (X6_prepare_m g mc (b + 49) (b + 1) nx) (b + 1) a N) (X3_newPiece_r g (X6_prepare_m g mc (b + 49) (b + 1) nx) (b + 1) a N) (X11_makes_m g (X11_begins_m g mr r) r a N) (X11_makes_r g (X11_begins_m g mr r) r a N) := sim_make F V z hT a
  have hc := change h hH (Nat.le_succ T) hT hs (fr_X3_newPiece g (X6_prepare_m g mc (b + 49) (b + 1) nx) (b + 1) a N F.1 hN8) rx_makes (tab := [("java/lang/IllegalArgumentException", 1), ("java/lang/IllegalStateException", 2)]) (fun A hA hp => by
    rcases hA with rfl | rfl | rfl | rfl | rfl
    · first | rfl | exact absurd pl5_1 hp
    · first | rfl | exact absurd pl5_2 hp
    · first | rfl | exact absurd pl5_3 hp
    · first | rfl | exact absurd pl5_4 hp
    · first | rfl | exact absurd pl5_5 hp)
  have ex : X10_addPiece_x g mc b a N nx = X10_settle_x g (X3_newPiece_m g (X6_prepare_m g mc (b + 49) (b + 1) nx) (b + 1) a N) b (X3_newPiece_r g (X6_prepare_m g mc (b + 49) (b + 1) nx) (b + 1) a N) := by
    unfold X10_addPiece_x
    cases X10_settle_x g (X3_newPiece_m g (X6_prepare_m g mc (b + 49) (b + 1) nx) (b + 1) a N) b (X3_newPiece_r g (X6_prepare_m g mc (b + 49) (b + 1) nx) (b + 1) a N) <;> rfl
  have em : X10_addPiece_m g mc b a N nx = X10_settle_m g (X3_newPiece_m g (X6_prepare_m g mc (b + 49) (b + 1) nx) (b + 1) a N) b (X3_newPiece_r g (X6_prepare_m g mc (b + 49) (b + 1) nx) (b + 1) a N) := by
    unfold X10_addPiece_m
    cases X10_settle_x g (X3_newPiece_m g (X6_prepare_m g mc (b + 49) (b + 1) nx) (b + 1) a N) b (X3_newPiece_r g (X6_prepare_m g mc (b + 49) (b + 1) nx) (b + 1) a N) <;> rfl
  rw [ex, em]
  refine CALL.same hc (fun e q => ?_)
  unfold X10_addPiece_r
  rw [e]
  exact q
theorem call_addHammer (hd : VD g) (h : OBJ g mc mr b r T) (hH : HIS g mc mr b r T nx C) (F0 : FR g mc (b + 1) (gA mr (r + 1)) N H) (V0 : RV T (gA mr (r + 1)) N H) (hT : T + 1 ≤ 9000) (a : Int32) : CALL g b r (T + 1) mc mr (X10_addHammer_m g mc b a H nx) (X11_addHammer_m g mr r a H C) [("java/lang/IllegalArgumentException", 1), ("java/lang/IllegalStateException", 2)] (X10_addHammer_x g mc b a H nx) (X10_addHammer_r g mc b a H nx = X11_addHammer_r g mr r a H C) := by
  obtain ⟨F, e1, z⟩ := pre_f (g := g) (r := r) (T := T) h.1 hH.1 F0
  have V : RV T (gA (X11_begins_m g mr r) (r + 1)) N H := by
    rw [e1]
    exact V0
  have hN8 := F.2.2.2.2.1
  have hH4 := F.2.2.2.2.2
  have hs : SIM g (b + 1) r (pl5 0 0 1 2 0) (T + 1) (X6_prepare_m g mc (b + 49) (b + 1) nx) (X3_newHammer_m g (X6_prepare_m g mc (b + 49) (b + 1) nx) (b + 1) a H) (X3_newHammer_r g (X6_prepare_m g mc (b + 49) (b + 1) nx) (b + 1) a H) (X11_equips_m g (X11_begins_m g mr r) r a H) (X11_equips_r g (X11_begins_m g mr r) r a H) := (sim_equip F V z a).mono (by omega) hT
  have hc := change h hH (Nat.le_succ T) hT hs (fr_X3_newHammer g (X6_prepare_m g mc (b + 49) (b + 1) nx) (b + 1) a H F.1 hH4) rx_equips (tab := [("java/lang/IllegalArgumentException", 1), ("java/lang/IllegalStateException", 2)]) (fun A hA hp => by
    rcases hA with rfl | rfl | rfl | rfl | rfl
    · first | rfl | exact absurd pl5_1 hp
    · first | rfl | exact absurd pl5_2 hp
    · first | rfl | exact absurd pl5_3 hp
    · first | rfl | exact absurd pl5_4 hp
    · first | rfl | exact absurd pl5_5 hp)
  have ex : X10_addHammer_x g mc b a H nx = X10_settle_x g (X3_newHammer_m g (X6_prepare_m g mc (b + 49) (b + 1) nx) (b + 1) a H) b (X3_newHammer_r g (X6_prepare_m g mc (b + 49) (b + 1) nx) (b + 1) a H) := by
    unfold X10_addHammer_x
    cases X10_settle_x g (X3_newHammer_m g (X6_prepare_m g mc (b + 49) (b + 1) nx) (b + 1) a H) b (X3_newHammer_r g (X6_prepare_m g mc (b + 49) (b + 1) nx) (b + 1) a H) <;> rfl
  have em : X10_addHammer_m g mc b a H nx = X10_settle_m g (X3_newHammer_m g (X6_prepare_m g mc (b + 49) (b + 1) nx) (b + 1) a H) b (X3_newHammer_r g (X6_prepare_m g mc (b + 49) (b + 1) nx) (b + 1) a H) := by
    unfold X10_addHammer_m
    cases X10_settle_x g (X3_newHammer_m g (X6_prepare_m g mc (b + 49) (b + 1) nx) (b + 1) a H) b (X3_newHammer_r g (X6_prepare_m g mc (b + 49) (b + 1) nx) (b + 1) a H) <;> rfl
  rw [ex, em]
  refine CALL.same hc (fun e q => ?_)
  unfold X10_addHammer_r
  rw [e]
  exact q
theorem call_putIn (hd : VD g) (h : OBJ g mc mr b r T) (hH : HIS g mc mr b r T nx C) (F0 : FR g mc (b + 1) (gA mr (r + 1)) N H) (V0 : RV T (gA mr (r + 1)) N H) (hT : T + 1 ≤ 9000) (a : Int32) : CALL g b r (T + 1) mc mr (X10_putIn_m g mc b a N nx) (X11_putIn_m g mr r a N C) [("java/util/NoSuchElementException", 1), ("java/lang/IllegalStateException", 2)] (X10_putIn_x g mc b a N nx) (X10_putIn_r g mc b a N nx = X11_putIn_r g mr r a N C) := by
  obtain ⟨F, e1, z⟩ := pre_f (g := g) (r := r) (T := T) h.1 hH.1 F0
  have V : RV T (gA (X11_begins_m g mr r) (r + 1)) N H := by
    rw [e1]
    exact V0
  have hN8 := F.2.2.2.2.1
  have hH4 := F.2.2.2.2.2
  have I : FI g (X6_prepare_m g mc (b + 49) (b + 1) nx) (b + 1) a N (gA (X11_begins_m g mr r) (r + 1)) (X11_find_r g mr r a N) := by
    have q := F
    rw [e1] at q ⊢
    exact fi_of q a
  have hs : SIM g (b + 1) r (pl5 1 0 0 2 0) (T + 1) (X6_prepare_m g mc (b + 49) (b + 1) nx) (X3_intoFurnace_m g (X6_prepare_m g mc (b + 49) (b + 1) nx) (b + 1) a N) (X3_intoFurnace_r g (X6_prepare_m g mc (b + 49) (b + 1) nx) (b + 1) a N) (X11_puts_m g (X11_begins_m g mr r) r (X11_find_r g mr r a N) N) (X11_puts_r g (X11_begins_m g mr r) r (X11_find_r g mr r a N) N) := (sim_into F V z I).mono (by omega) hT
  have hc := change h hH (Nat.le_succ T) hT hs (fr_X3_intoFurnace g (X6_prepare_m g mc (b + 49) (b + 1) nx) (b + 1) a N F.1 hN8) rx_puts (tab := [("java/util/NoSuchElementException", 1), ("java/lang/IllegalStateException", 2)]) (fun A hA hp => by
    rcases hA with rfl | rfl | rfl | rfl | rfl
    · first | rfl | exact absurd pl5_1 hp
    · first | rfl | exact absurd pl5_2 hp
    · first | rfl | exact absurd pl5_3 hp
    · first | rfl | exact absurd pl5_4 hp
    · first | rfl | exact absurd pl5_5 hp)
  have ex : X10_putIn_x g mc b a N nx = X10_settle_x g (X3_intoFurnace_m g (X6_prepare_m g mc (b + 49) (b + 1) nx) (b + 1) a N) b (X3_intoFurnace_r g (X6_prepare_m g mc (b + 49) (b + 1) nx) (b + 1) a N) := by
    unfold X10_putIn_x
    cases X10_settle_x g (X3_intoFurnace_m g (X6_prepare_m g mc (b + 49) (b + 1) nx) (b + 1) a N) b (X3_intoFurnace_r g (X6_prepare_m g mc (b + 49) (b + 1) nx) (b + 1) a N) <;> rfl
  have em : X10_putIn_m g mc b a N nx = X10_settle_m g (X3_intoFurnace_m g (X6_prepare_m g mc (b + 49) (b + 1) nx) (b + 1) a N) b (X3_intoFurnace_r g (X6_prepare_m g mc (b + 49) (b + 1) nx) (b + 1) a N) := by
    unfold X10_putIn_m
    cases X10_settle_x g (X3_intoFurnace_m g (X6_prepare_m g mc (b + 49) (b + 1) nx) (b + 1) a N) b (X3_intoFurnace_r g (X6_prepare_m g mc (b + 49) (b + 1) nx) (b + 1) a N) <;> rfl
  rw [ex, em]
  refine CALL.same hc (fun e q => ?_)
  unfold X10_putIn_r
  rw [e]
  exact q
theorem call_takeOut (hd : VD g) (h : OBJ g mc mr b r T) (hH : HIS g mc mr b r T nx C) (F0 : FR g mc (b + 1) (gA mr (r + 1)) N H) (V0 : RV T (gA mr (r + 1)) N H) (hT : T + 1 ≤ 9000) (a : Int32) : CALL g b r (T + 1) mc mr (X10_takeOut_m g mc b a N nx) (X11_takeOut_m g mr r a N C) [("java/util/NoSuchElementException", 1), ("java/lang/IllegalStateException", 2)] (X10_takeOut_x g mc b a N nx) (X10_takeOut_r g mc b a N nx = X11_takeOut_r g mr r a N C) := by
  obtain ⟨F, e1, z⟩ := pre_f (g := g) (r := r) (T := T) h.1 hH.1 F0
  have V : RV T (gA (X11_begins_m g mr r) (r + 1)) N H := by
    rw [e1]
    exact V0
  have hN8 := F.2.2.2.2.1
  have hH4 := F.2.2.2.2.2
  have I : FI g (X6_prepare_m g mc (b + 49) (b + 1) nx) (b + 1) a N (gA (X11_begins_m g mr r) (r + 1)) (X11_find_r g mr r a N) := by
    have q := F
    rw [e1] at q ⊢
    exact fi_of q a
  have hs : SIM g (b + 1) r (pl5 1 0 0 2 0) (T + 1) (X6_prepare_m g mc (b + 49) (b + 1) nx) (X3_ontoBench_m g (X6_prepare_m g mc (b + 49) (b + 1) nx) (b + 1) a N) (X3_ontoBench_r g (X6_prepare_m g mc (b + 49) (b + 1) nx) (b + 1) a N) (X11_takes_m g (X11_begins_m g mr r) r (X11_find_r g mr r a N)) (X11_takes_r g (X11_begins_m g mr r) r (X11_find_r g mr r a N)) := (sim_onto F V z I).mono (by omega) hT
  have hc := change h hH (Nat.le_succ T) hT hs (fr_X3_ontoBench g (X6_prepare_m g mc (b + 49) (b + 1) nx) (b + 1) a N F.1 hN8) rx_takes (tab := [("java/util/NoSuchElementException", 1), ("java/lang/IllegalStateException", 2)]) (fun A hA hp => by
    rcases hA with rfl | rfl | rfl | rfl | rfl
    · first | rfl | exact absurd pl5_1 hp
    · first | rfl | exact absurd pl5_2 hp
    · first | rfl | exact absurd pl5_3 hp
    · first | rfl | exact absurd pl5_4 hp
    · first | rfl | exact absurd pl5_5 hp)
  have ex : X10_takeOut_x g mc b a N nx = X10_settle_x g (X3_ontoBench_m g (X6_prepare_m g mc (b + 49) (b + 1) nx) (b + 1) a N) b (X3_ontoBench_r g (X6_prepare_m g mc (b + 49) (b + 1) nx) (b + 1) a N) := by
    unfold X10_takeOut_x
    cases X10_settle_x g (X3_ontoBench_m g (X6_prepare_m g mc (b + 49) (b + 1) nx) (b + 1) a N) b (X3_ontoBench_r g (X6_prepare_m g mc (b + 49) (b + 1) nx) (b + 1) a N) <;> rfl
  have em : X10_takeOut_m g mc b a N nx = X10_settle_m g (X3_ontoBench_m g (X6_prepare_m g mc (b + 49) (b + 1) nx) (b + 1) a N) b (X3_ontoBench_r g (X6_prepare_m g mc (b + 49) (b + 1) nx) (b + 1) a N) := by
    unfold X10_takeOut_m
    cases X10_settle_x g (X3_ontoBench_m g (X6_prepare_m g mc (b + 49) (b + 1) nx) (b + 1) a N) b (X3_ontoBench_r g (X6_prepare_m g mc (b + 49) (b + 1) nx) (b + 1) a N) <;> rfl
  rw [ex, em]
  refine CALL.same hc (fun e q => ?_)
  unfold X10_takeOut_r
  rw [e]
  exact q
theorem call_hammer (hd : VD g) (h : OBJ g mc mr b r T) (hH : HIS g mc mr b r T nx C) (F0 : FR g mc (b + 1) (gA mr (r + 1)) N H) (V0 : RV T (gA mr (r + 1)) N H) (hT : T + 1 ≤ 9000) (a : Int32) (a2 : Int32) : CALL g b r (T + 1) mc mr (X10_hammer_m g mc b a a2 N H nx) (X11_hammer_m g mr r a a2 N H C) [("java/util/NoSuchElementException", 1), ("java/lang/IndexOutOfBoundsException", 2), ("java/lang/IllegalStateException", 3), ("java/lang/UnsupportedOperationException", 4)] (X10_hammer_x g mc b a a2 N H nx) (X10_hammer_r g mc b a a2 N H nx = X11_hammer_r g mr r a a2 N H C) := by
  obtain ⟨F, e1, z⟩ := pre_f (g := g) (r := r) (T := T) h.1 hH.1 F0
  have V : RV T (gA (X11_begins_m g mr r) (r + 1)) N H := by
    rw [e1]
    exact V0
  have hN8 := F.2.2.2.2.1
  have hH4 := F.2.2.2.2.2
  have I : FI g (X6_prepare_m g mc (b + 49) (b + 1) nx) (b + 1) a N (gA (X11_begins_m g mr r) (r + 1)) (X11_find_r g mr r a N) := by
    have q := F
    rw [e1] at q ⊢
    exact fi_of q a
  have hs : SIM g (b + 1) r (pl5 1 2 0 3 4) (T + 1) (X6_prepare_m g mc (b + 49) (b + 1) nx) (X3_strike_m g (X6_prepare_m g mc (b + 49) (b + 1) nx) (b + 1) a a2 N H) (X3_strike_r g (X6_prepare_m g mc (b + 49) (b + 1) nx) (b + 1) a a2 N H) (X11_strikes_m g (X11_begins_m g mr r) r (X11_find_r g mr r a N) a2 H) (X11_strikes_r g (X11_begins_m g mr r) r (X11_find_r g mr r a N) a2 H) := (sim_strike F V z I a2).mono (by omega) hT
  have hc := change h hH (Nat.le_succ T) hT hs (fr_X3_strike g (X6_prepare_m g mc (b + 49) (b + 1) nx) (b + 1) a a2 N H F.1 hN8 hH4) rx_strikes (tab := [("java/util/NoSuchElementException", 1), ("java/lang/IndexOutOfBoundsException", 2), ("java/lang/IllegalStateException", 3), ("java/lang/UnsupportedOperationException", 4)]) (fun A hA hp => by
    rcases hA with rfl | rfl | rfl | rfl | rfl
    · first | rfl | exact absurd pl5_1 hp
    · first | rfl | exact absurd pl5_2 hp
    · first | rfl | exact absurd pl5_3 hp
    · first | rfl | exact absurd pl5_4 hp
    · first | rfl | exact absurd pl5_5 hp)
  have ex : X10_hammer_x g mc b a a2 N H nx = X10_settle_x g (X3_strike_m g (X6_prepare_m g mc (b + 49) (b + 1) nx) (b + 1) a a2 N H) b (X3_strike_r g (X6_prepare_m g mc (b + 49) (b + 1) nx) (b + 1) a a2 N H) := by
    unfold X10_hammer_x
    cases X10_settle_x g (X3_strike_m g (X6_prepare_m g mc (b + 49) (b + 1) nx) (b + 1) a a2 N H) b (X3_strike_r g (X6_prepare_m g mc (b + 49) (b + 1) nx) (b + 1) a a2 N H) <;> rfl
  have em : X10_hammer_m g mc b a a2 N H nx = X10_settle_m g (X3_strike_m g (X6_prepare_m g mc (b + 49) (b + 1) nx) (b + 1) a a2 N H) b (X3_strike_r g (X6_prepare_m g mc (b + 49) (b + 1) nx) (b + 1) a a2 N H) := by
    unfold X10_hammer_m
    cases X10_settle_x g (X3_strike_m g (X6_prepare_m g mc (b + 49) (b + 1) nx) (b + 1) a a2 N H) b (X3_strike_r g (X6_prepare_m g mc (b + 49) (b + 1) nx) (b + 1) a a2 N H) <;> rfl
  rw [ex, em]
  refine CALL.same hc (fun e q => ?_)
  unfold X10_hammer_r
  rw [e]
  exact q
theorem call_quench (hd : VD g) (h : OBJ g mc mr b r T) (hH : HIS g mc mr b r T nx C) (F0 : FR g mc (b + 1) (gA mr (r + 1)) N H) (V0 : RV T (gA mr (r + 1)) N H) (hT : T + 1 ≤ 9000) (a : Int32) : CALL g b r (T + 1) mc mr (X10_quench_m g mc b a N nx) (X11_quench_m g mr r a N C) [("java/util/NoSuchElementException", 1), ("java/lang/IllegalStateException", 2), ("java/lang/UnsupportedOperationException", 3)] (X10_quench_x g mc b a N nx) (X10_quench_r g mc b a N nx = X11_quench_r g mr r a N C) := by
  obtain ⟨F, e1, z⟩ := pre_f (g := g) (r := r) (T := T) h.1 hH.1 F0
  have V : RV T (gA (X11_begins_m g mr r) (r + 1)) N H := by
    rw [e1]
    exact V0
  have hN8 := F.2.2.2.2.1
  have hH4 := F.2.2.2.2.2
  have I : FI g (X6_prepare_m g mc (b + 49) (b + 1) nx) (b + 1) a N (gA (X11_begins_m g mr r) (r + 1)) (X11_find_r g mr r a N) := by
    have q := F
    rw [e1] at q ⊢
    exact fi_of q a
  have hs : SIM g (b + 1) r (pl5 1 0 0 2 3) (T + 1) (X6_prepare_m g mc (b + 49) (b + 1) nx) (X3_chill_m g (X6_prepare_m g mc (b + 49) (b + 1) nx) (b + 1) a N) (X3_chill_r g (X6_prepare_m g mc (b + 49) (b + 1) nx) (b + 1) a N) (X11_quenches_m g (X11_begins_m g mr r) r (X11_find_r g mr r a N)) (X11_quenches_r g (X11_begins_m g mr r) r (X11_find_r g mr r a N)) := (sim_chill F V z I).mono (by omega) hT
  have hc := change h hH (Nat.le_succ T) hT hs (fr_X3_chill g (X6_prepare_m g mc (b + 49) (b + 1) nx) (b + 1) a N F.1 hN8) rx_quenches (tab := [("java/util/NoSuchElementException", 1), ("java/lang/IllegalStateException", 2), ("java/lang/UnsupportedOperationException", 3)]) (fun A hA hp => by
    rcases hA with rfl | rfl | rfl | rfl | rfl
    · first | rfl | exact absurd pl5_1 hp
    · first | rfl | exact absurd pl5_2 hp
    · first | rfl | exact absurd pl5_3 hp
    · first | rfl | exact absurd pl5_4 hp
    · first | rfl | exact absurd pl5_5 hp)
  have ex : X10_quench_x g mc b a N nx = X10_settle_x g (X3_chill_m g (X6_prepare_m g mc (b + 49) (b + 1) nx) (b + 1) a N) b (X3_chill_r g (X6_prepare_m g mc (b + 49) (b + 1) nx) (b + 1) a N) := by
    unfold X10_quench_x
    cases X10_settle_x g (X3_chill_m g (X6_prepare_m g mc (b + 49) (b + 1) nx) (b + 1) a N) b (X3_chill_r g (X6_prepare_m g mc (b + 49) (b + 1) nx) (b + 1) a N) <;> rfl
  have em : X10_quench_m g mc b a N nx = X10_settle_m g (X3_chill_m g (X6_prepare_m g mc (b + 49) (b + 1) nx) (b + 1) a N) b (X3_chill_r g (X6_prepare_m g mc (b + 49) (b + 1) nx) (b + 1) a N) := by
    unfold X10_quench_m
    cases X10_settle_x g (X3_chill_m g (X6_prepare_m g mc (b + 49) (b + 1) nx) (b + 1) a N) b (X3_chill_r g (X6_prepare_m g mc (b + 49) (b + 1) nx) (b + 1) a N) <;> rfl
  rw [ex, em]
  refine CALL.same hc (fun e q => ?_)
  unfold X10_quench_r
  rw [e]
  exact q
theorem call_test (hd : VD g) (h : OBJ g mc mr b r T) (hH : HIS g mc mr b r T nx C) (F0 : FR g mc (b + 1) (gA mr (r + 1)) N H) (V0 : RV T (gA mr (r + 1)) N H) (hT : T + 1 ≤ 9000) (a : Int32) : CALL g b r (T + 1) mc mr (X10_test_m g mc b a N nx) (X11_test_m g mr r a N C) [("java/util/NoSuchElementException", 1), ("java/lang/IllegalStateException", 2), ("java/lang/UnsupportedOperationException", 3)] (X10_test_x g mc b a N nx) (X10_test_r g mc b a N nx = X11_test_r g mr r a N C) := by
  obtain ⟨F, e1, z⟩ := pre_f (g := g) (r := r) (T := T) h.1 hH.1 F0
  have V : RV T (gA (X11_begins_m g mr r) (r + 1)) N H := by
    rw [e1]
    exact V0
  have hN8 := F.2.2.2.2.1
  have hH4 := F.2.2.2.2.2
  have I : FI g (X6_prepare_m g mc (b + 49) (b + 1) nx) (b + 1) a N (gA (X11_begins_m g mr r) (r + 1)) (X11_find_r g mr r a N) := by
    have q := F
    rw [e1] at q ⊢
    exact fi_of q a
  have hs : SIM g (b + 1) r (pl5 1 0 0 2 3) (T + 1) (X6_prepare_m g mc (b + 49) (b + 1) nx) (X3_examine_m g (X6_prepare_m g mc (b + 49) (b + 1) nx) (b + 1) a N) (X3_examine_r g (X6_prepare_m g mc (b + 49) (b + 1) nx) (b + 1) a N) (X11_tests_m g (X11_begins_m g mr r) r (X11_find_r g mr r a N)) (X11_tests_r g (X11_begins_m g mr r) r (X11_find_r g mr r a N)) := (sim_exam hd F V z I).mono (by omega) hT
  have hc := change h hH (Nat.le_succ T) hT hs (fr_X3_examine g (X6_prepare_m g mc (b + 49) (b + 1) nx) (b + 1) a N F.1 hN8) rx_tests (tab := [("java/util/NoSuchElementException", 1), ("java/lang/IllegalStateException", 2), ("java/lang/UnsupportedOperationException", 3)]) (fun A hA hp => by
    rcases hA with rfl | rfl | rfl | rfl | rfl
    · first | rfl | exact absurd pl5_1 hp
    · first | rfl | exact absurd pl5_2 hp
    · first | rfl | exact absurd pl5_3 hp
    · first | rfl | exact absurd pl5_4 hp
    · first | rfl | exact absurd pl5_5 hp)
  have ex : X10_test_x g mc b a N nx = X10_settle_x g (X3_examine_m g (X6_prepare_m g mc (b + 49) (b + 1) nx) (b + 1) a N) b (X3_examine_r g (X6_prepare_m g mc (b + 49) (b + 1) nx) (b + 1) a N) := by
    unfold X10_test_x
    cases X10_settle_x g (X3_examine_m g (X6_prepare_m g mc (b + 49) (b + 1) nx) (b + 1) a N) b (X3_examine_r g (X6_prepare_m g mc (b + 49) (b + 1) nx) (b + 1) a N)
    · show (if _ then none else none) = none
      split <;> rfl
    · rfl
  have em : X10_test_m g mc b a N nx = X10_settle_m g (X3_examine_m g (X6_prepare_m g mc (b + 49) (b + 1) nx) (b + 1) a N) b (X3_examine_r g (X6_prepare_m g mc (b + 49) (b + 1) nx) (b + 1) a N) := by
    unfold X10_test_m
    cases X10_settle_x g (X3_examine_m g (X6_prepare_m g mc (b + 49) (b + 1) nx) (b + 1) a N) b (X3_examine_r g (X6_prepare_m g mc (b + 49) (b + 1) nx) (b + 1) a N)
    · show (if _ then _ else _) = _
      split <;> rfl
    · rfl
  have er : X11_test_m g mr r a N C = X11_ends_m g (X11_tests_m g (X11_begins_m g mr r) r (X11_find_r g mr r a N)) r (X11_tests_r g (X11_begins_m g mr r) r (X11_find_r g mr r a N)) C := by
    unfold X11_test_m
    split <;> rfl
  rw [ex, em, er]
  refine CALL.same hc (fun e q => ?_)
  unfold X10_test_r X11_test_r
  rw [e]
  show (if _ then _ else _) = _
  rw [q]
theorem call_assemble (hd : VD g) (h : OBJ g mc mr b r T) (hH : HIS g mc mr b r T nx C) (F0 : FR g mc (b + 1) (gA mr (r + 1)) N H) (V0 : RV T (gA mr (r + 1)) N H) (hT : T + 1 ≤ 9000) (a : Int32) (a2 : Int32) (a3 : Int32) (a4 : Int32) : CALL g b r (T + 1) mc mr (X10_assemble_m g mc b a a2 a3 a4 N nx) (X11_assemble_m g mr r a a2 a3 a4 N C) [("java/util/NoSuchElementException", 1), ("java/lang/IllegalArgumentException", 2), ("java/lang/IllegalStateException", 3)] (X10_assemble_x g mc b a a2 a3 a4 N nx) (X10_assemble_r g mc b a a2 a3 a4 N nx = X11_assemble_r g mr r a a2 a3 a4 N C) := by
  obtain ⟨F, e1, z⟩ := pre_f (g := g) (r := r) (T := T) h.1 hH.1 F0
  have V : RV T (gA (X11_begins_m g mr r) (r + 1)) N H := by
    rw [e1]
    exact V0
  have hN8 := F.2.2.2.2.1
  have hH4 := F.2.2.2.2.2
  have hs : SIM g (b + 1) r (pl5 1 0 2 3 0) (T + 1) (X6_prepare_m g mc (b + 49) (b + 1) nx) (X3_join_m g (X6_prepare_m g mc (b + 49) (b + 1) nx) (b + 1) a a2 a3 a4 N) (X3_join_r g (X6_prepare_m g mc (b + 49) (b + 1) nx) (b + 1) a a2 a3 a4 N) (X11_joins_m g (X11_begins_m g mr r) r a a2 a3 a4 N) (X11_joins_r g (X11_begins_m g mr r) r a a2 a3 a4 N) := sim_join hd F V z hT a a2 a3 a4
  have hc := change h hH (Nat.le_succ T) hT hs (fr_X3_join g (X6_prepare_m g mc (b + 49) (b + 1) nx) (b + 1) a a2 a3 a4 N F.1 hN8) rx_joins (tab := [("java/util/NoSuchElementException", 1), ("java/lang/IllegalArgumentException", 2), ("java/lang/IllegalStateException", 3)]) (fun A hA hp => by
    rcases hA with rfl | rfl | rfl | rfl | rfl
    · first | rfl | exact absurd pl5_1 hp
    · first | rfl | exact absurd pl5_2 hp
    · first | rfl | exact absurd pl5_3 hp
    · first | rfl | exact absurd pl5_4 hp
    · first | rfl | exact absurd pl5_5 hp)
  have ex : X10_assemble_x g mc b a a2 a3 a4 N nx = X10_settle_x g (X3_join_m g (X6_prepare_m g mc (b + 49) (b + 1) nx) (b + 1) a a2 a3 a4 N) b (X3_join_r g (X6_prepare_m g mc (b + 49) (b + 1) nx) (b + 1) a a2 a3 a4 N) := by
    unfold X10_assemble_x
    cases X10_settle_x g (X3_join_m g (X6_prepare_m g mc (b + 49) (b + 1) nx) (b + 1) a a2 a3 a4 N) b (X3_join_r g (X6_prepare_m g mc (b + 49) (b + 1) nx) (b + 1) a a2 a3 a4 N) <;> rfl
  have em : X10_assemble_m g mc b a a2 a3 a4 N nx = X10_settle_m g (X3_join_m g (X6_prepare_m g mc (b + 49) (b + 1) nx) (b + 1) a a2 a3 a4 N) b (X3_join_r g (X6_prepare_m g mc (b + 49) (b + 1) nx) (b + 1) a a2 a3 a4 N) := by
    unfold X10_assemble_m
    cases X10_settle_x g (X3_join_m g (X6_prepare_m g mc (b + 49) (b + 1) nx) (b + 1) a a2 a3 a4 N) b (X3_join_r g (X6_prepare_m g mc (b + 49) (b + 1) nx) (b + 1) a a2 a3 a4 N) <;> rfl
  rw [ex, em]
  refine CALL.same hc (fun e q => ?_)
  unfold X10_assemble_r
  rw [e]
  exact q
theorem call_scrap (hd : VD g) (h : OBJ g mc mr b r T) (hH : HIS g mc mr b r T nx C) (F0 : FR g mc (b + 1) (gA mr (r + 1)) N H) (V0 : RV T (gA mr (r + 1)) N H) (hT : T + 1 ≤ 9000) (a : Int32) : CALL g b r (T + 1) mc mr (X10_scrap_m g mc b a N nx) (X11_scrap_m g mr r a N C) [("java/util/NoSuchElementException", 1)] (X10_scrap_x g mc b a N nx) (X10_scrap_r g mc b a N nx = X11_scrap_r g mr r a N C) := by
  obtain ⟨F, e1, z⟩ := pre_f (g := g) (r := r) (T := T) h.1 hH.1 F0
  have V : RV T (gA (X11_begins_m g mr r) (r + 1)) N H := by
    rw [e1]
    exact V0
  have hN8 := F.2.2.2.2.1
  have hH4 := F.2.2.2.2.2
  have I : FI g (X6_prepare_m g mc (b + 49) (b + 1) nx) (b + 1) a N (gA (X11_begins_m g mr r) (r + 1)) (X11_find_r g mr r a N) := by
    have q := F
    rw [e1] at q ⊢
    exact fi_of q a
  have hs : SIM g (b + 1) r (pl5 1 0 0 0 0) (T + 1) (X6_prepare_m g mc (b + 49) (b + 1) nx) (X3_throwAway_m g (X6_prepare_m g mc (b + 49) (b + 1) nx) (b + 1) a N) (X3_throwAway_r g (X6_prepare_m g mc (b + 49) (b + 1) nx) (b + 1) a N) (X11_drops_m g (X11_begins_m g mr r) r (X11_find_r g mr r a N)) (X11_drops_r g (X11_begins_m g mr r) r (X11_find_r g mr r a N)) := (sim_drop F V z I).mono (by omega) hT
  have hc := change h hH (Nat.le_succ T) hT hs (fr_X3_throwAway g (X6_prepare_m g mc (b + 49) (b + 1) nx) (b + 1) a N F.1 hN8) rx_drops (tab := [("java/util/NoSuchElementException", 1)]) (fun A hA hp => by
    rcases hA with rfl | rfl | rfl | rfl | rfl
    · first | rfl | exact absurd pl5_1 hp
    · first | rfl | exact absurd pl5_2 hp
    · first | rfl | exact absurd pl5_3 hp
    · first | rfl | exact absurd pl5_4 hp
    · first | rfl | exact absurd pl5_5 hp)
  have ex : X10_scrap_x g mc b a N nx = X10_settle_x g (X3_throwAway_m g (X6_prepare_m g mc (b + 49) (b + 1) nx) (b + 1) a N) b (X3_throwAway_r g (X6_prepare_m g mc (b + 49) (b + 1) nx) (b + 1) a N) := by
    unfold X10_scrap_x
    cases X10_settle_x g (X3_throwAway_m g (X6_prepare_m g mc (b + 49) (b + 1) nx) (b + 1) a N) b (X3_throwAway_r g (X6_prepare_m g mc (b + 49) (b + 1) nx) (b + 1) a N) <;> rfl
  have em : X10_scrap_m g mc b a N nx = X10_settle_m g (X3_throwAway_m g (X6_prepare_m g mc (b + 49) (b + 1) nx) (b + 1) a N) b (X3_throwAway_r g (X6_prepare_m g mc (b + 49) (b + 1) nx) (b + 1) a N) := by
    unfold X10_scrap_m
    cases X10_settle_x g (X3_throwAway_m g (X6_prepare_m g mc (b + 49) (b + 1) nx) (b + 1) a N) b (X3_throwAway_r g (X6_prepare_m g mc (b + 49) (b + 1) nx) (b + 1) a N) <;> rfl
  rw [ex, em]
  refine CALL.same hc (fun e q => ?_)
  unfold X10_scrap_r
  rw [e]
  exact q
end
