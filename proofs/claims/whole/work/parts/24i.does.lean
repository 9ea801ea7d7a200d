/-! THE READ COMMANDS ARE DONE -/
section
variable {t : Nat → Int32} {L pos k n i j x q N H : Nat} {g : mG} {m m1 m2 mr : mM} {p r : Nat}
theorem co0_r {a : Int32} {f : Nat} : X8_carryOut_r g m p a f i 0 N H = X3_storeCoal_r g m f (gA m (p + 4 + i) 0)  := by
  unfold X8_carryOut_r
  rw [if_pos (by decide)]
theorem co0_m {a : Int32} {f : Nat} : X8_carryOut_m g m p a f i 0 N H = X3_storeCoal_m g m f (gA m (p + 4 + i) 0)  := by
  unfold X8_carryOut_m
  rw [if_pos (by decide)]
theorem do0_r : X11_does_r g m r (nI 0) N H = X11_adds_r g m r (gA m (r + 9) 0)  := by
  unfold X11_does_r
  rw [if_pos (by decide)]
theorem do0_m : X11_does_m g m r (nI 0) N H = X11_adds_m g m r (gA m (r + 9) 0)  := by
  unfold X11_does_m
  rw [if_pos (by decide)]
theorem co1_r {a : Int32} {f : Nat} : X8_carryOut_r g m p a f i 1 N H = X3_changeLevel_r g m f (gA m (p + 4 + i) 0)  := by
  unfold X8_carryOut_r
  rw [if_neg (by decide), if_pos (by decide)]
theorem co1_m {a : Int32} {f : Nat} : X8_carryOut_m g m p a f i 1 N H = X3_changeLevel_m g m f (gA m (p + 4 + i) 0)  := by
  unfold X8_carryOut_m
  rw [if_neg (by decide), if_pos (by decide)]
theorem do1_r : X11_does_r g m r (nI 1) N H = X11_blows_r g m r (gA m (r + 9) 0)  := by
  unfold X11_does_r
  rw [if_neg (by decide), if_pos (by decide)]
theorem do1_m : X11_does_m g m r (nI 1) N H = X11_blows_m g m r (gA m (r + 9) 0)  := by
  unfold X11_does_m
  rw [if_neg (by decide), if_pos (by decide)]
theorem co2_r {a : Int32} {f : Nat} : X8_carryOut_r g m p a f i 2 N H = X3_newPiece_r g m f (((gA m (p + 4 + i) 0).toUInt32 % 65536).toInt32) N := by
  unfold X8_carryOut_r
  rw [if_neg (by decide), if_neg (by decide), if_pos (by decide)]
theorem co2_m {a : Int32} {f : Nat} : X8_carryOut_m g m p a f i 2 N H = X3_newPiece_m g m f (((gA m (p + 4 + i) 0).toUInt32 % 65536).toInt32) N := by
  unfold X8_carryOut_m
  rw [if_neg (by decide), if_neg (by decide), if_pos (by decide)]
theorem do2_r : X11_does_r g m r (nI 2) N H = X11_makes_r g m r (gA m (r + 9) 0) N := by
  unfold X11_does_r
  rw [if_neg (by decide), if_neg (by decide), if_pos (by decide)]
theorem do2_m : X11_does_m g m r (nI 2) N H = X11_makes_m g m r (gA m (r + 9) 0) N := by
  unfold X11_does_m
  rw [if_neg (by decide), if_neg (by decide), if_pos (by decide)]
theorem co3_r {a : Int32} {f : Nat} : X8_carryOut_r g m p a f i 3 N H = X3_newHammer_r g m f (gA m (p + 4 + i) 0) H := by
  unfold X8_carryOut_r
  rw [if_neg (by decide), if_neg (by decide), if_neg (by decide), if_pos (by decide)]
theorem co3_m {a : Int32} {f : Nat} : X8_carryOut_m g m p a f i 3 N H = X3_newHammer_m g m f (gA m (p + 4 + i) 0) H := by
  unfold X8_carryOut_m
  rw [if_neg (by decide), if_neg (by decide), if_neg (by decide), if_pos (by decide)]
theorem do3_r : X11_does_r g m r (nI 3) N H = X11_equips_r g m r (gA m (r + 9) 0) H := by
  unfold X11_does_r
  rw [if_neg (by decide), if_neg (by decide), if_neg (by decide), if_pos (by decide)]
theorem do3_m : X11_does_m g m r (nI 3) N H = X11_equips_m g m r (gA m (r + 9) 0) H := by
  unfold X11_does_m
  rw [if_neg (by decide), if_neg (by decide), if_neg (by decide), if_pos (by decide)]
theorem co4_r {a : Int32} {f : Nat} : X8_carryOut_r g m p a f i 4 N H = X3_intoFurnace_r g m f (gA m (p + 4 + i) 0) N := by
  unfold X8_carryOut_r
  rw [if_neg (by decide), if_neg (by decide), if_neg (by decide), if_neg (by decide), if_pos (by decide)]
theorem co4_m {a : Int32} {f : Nat} : X8_carryOut_m g m p a f i 4 N H = X3_intoFurnace_m g m f (gA m (p + 4 + i) 0) N := by
  unfold X8_carryOut_m
  rw [if_neg (by decide), if_neg (by decide), if_neg (by decide), if_neg (by decide), if_pos (by decide)]
theorem do4_r : X11_does_r g m r (nI 4) N H = X11_puts_r g m r (X11_find_r g m r (gA m (r + 9) 0) N) N := by
  unfold X11_does_r
  rw [if_neg (by decide), if_neg (by decide), if_neg (by decide), if_neg (by decide), if_pos (by decide)]
theorem do4_m : X11_does_m g m r (nI 4) N H = X11_puts_m g m r (X11_find_r g m r (gA m (r + 9) 0) N) N := by
  unfold X11_does_m
  rw [if_neg (by decide), if_neg (by decide), if_neg (by decide), if_neg (by decide), if_pos (by decide)]
theorem co5_r {a : Int32} {f : Nat} : X8_carryOut_r g m p a f i 5 N H = X3_ontoBench_r g m f (gA m (p + 4 + i) 0) N := by
  unfold X8_carryOut_r
  rw [if_neg (by decide), if_neg (by decide), if_neg (by decide), if_neg (by decide), if_neg (by decide), if_pos (by decide)]
theorem co5_m {a : Int32} {f : Nat} : X8_carryOut_m g m p a f i 5 N H = X3_ontoBench_m g m f (gA m (p + 4 + i) 0) N := by
  unfold X8_carryOut_m
  rw [if_neg (by decide), if_neg (by decide), if_neg (by decide), if_neg (by decide), if_neg (by decide), if_pos (by decide)]
theorem do5_r : X11_does_r g m r (nI 5) N H = X11_takes_r g m r (X11_find_r g m r (gA m (r + 9) 0) N)  := by
  unfold X11_does_r
  rw [if_neg (by decide), if_neg (by decide), if_neg (by decide), if_neg (by decide), if_neg (by decide), if_pos (by decide)]
theorem do5_m : X11_does_m g m r (nI 5) N H = X11_takes_m g m r (X11_find_r g m r (gA m (r + 9) 0) N)  := by
  unfold X11_does_m
  rw [if_neg (by decide), if_neg (by decide), if_neg (by decide), if_neg (by decide), if_neg (by decide), if_pos (by decide)]
theorem co6_r {a : Int32} {f : Nat} : X8_carryOut_r g m p a f i 6 N H = X3_strike_r g m f (gA m (p + 4 + i) 0) (gA m (p + 4 + i) 1) N H := by
  unfold X8_carryOut_r
  rw [if_neg (by decide), if_neg (by decide), if_neg (by decide), if_neg (by decide), if_neg (by decide), if_neg (by decide), if_pos (by decide)]
theorem co6_m {a : Int32} {f : Nat} : X8_carryOut_m g m p a f i 6 N H = X3_strike_m g m f (gA m (p + 4 + i) 0) (gA m (p + 4 + i) 1) N H := by
  unfold X8_carryOut_m
  rw [if_neg (by decide), if_neg (by decide), if_neg (by decide), if_neg (by decide), if_neg (by decide), if_neg (by decide), if_pos (by decide)]
theorem do6_r : X11_does_r g m r (nI 6) N H = X11_strikes_r g m r (X11_find_r g m r (gA m (r + 9) 0) N) (gA m (r + 9) 1) H := by
  unfold X11_does_r
  rw [if_neg (by decide), if_neg (by decide), if_neg (by decide), if_neg (by decide), if_neg (by decide), if_neg (by decide), if_pos (by decide)]
theorem do6_m : X11_does_m g m r (nI 6) N H = X11_strikes_m g m r (X11_find_r g m r (gA m (r + 9) 0) N) (gA m (r + 9) 1) H := by
  unfold X11_does_m
  rw [if_neg (by decide), if_neg (by decide), if_neg (by decide), if_neg (by decide), if_neg (by decide), if_neg (by decide), if_pos (by decide)]
theorem co7_r {a : Int32} {f : Nat} : X8_carryOut_r g m p a f i 7 N H = X3_chill_r g m f (gA m (p + 4 + i) 0) N := by
  unfold X8_carryOut_r
  rw [if_neg (by decide), if_neg (by decide), if_neg (by decide), if_neg (by decide), if_neg (by decide), if_neg (by decide), if_neg (by decide), if_pos (by decide)]
theorem co7_m {a : Int32} {f : Nat} : X8_carryOut_m g m p a f i 7 N H = X3_chill_m g m f (gA m (p + 4 + i) 0) N := by
  unfold X8_carryOut_m
  rw [if_neg (by decide), if_neg (by decide), if_neg (by decide), if_neg (by decide), if_neg (by decide), if_neg (by decide), if_neg (by decide), if_pos (by decide)]
theorem do7_r : X11_does_r g m r (nI 7) N H = X11_quenches_r g m r (X11_find_r g m r (gA m (r + 9) 0) N)  := by
  unfold X11_does_r
  rw [if_neg (by decide), if_neg (by decide), if_neg (by decide), if_neg (by decide), if_neg (by decide), if_neg (by decide), if_neg (by decide), if_pos (by decide)]
theorem do7_m : X11_does_m g m r (nI 7) N H = X11_quenches_m g m r (X11_find_r g m r (gA m (r + 9) 0) N)  := by
  unfold X11_does_m
  rw [if_neg (by decide), if_neg (by decide), if_neg (by decide), if_neg (by decide), if_neg (by decide), if_neg (by decide), if_neg (by decide), if_pos (by decide)]
theorem co8_r {a : Int32} {f : Nat} : X8_carryOut_r g m p a f i 8 N H = X3_examine_r g m f (gA m (p + 4 + i) 0) N := by
  unfold X8_carryOut_r
  rw [if_neg (by decide), if_neg (by decide), if_neg (by decide), if_neg (by decide), if_neg (by decide), if_neg (by decide), if_neg (by decide), if_neg (by decide), if_pos (by decide)]
theorem co8_m {a : Int32} {f : Nat} : X8_carryOut_m g m p a f i 8 N H = X3_examine_m g m f (gA m (p + 4 + i) 0) N := by
  unfold X8_carryOut_m
  rw [if_neg (by decide), if_neg (by decide), if_neg (by decide), if_neg (by decide), if_neg (by decide), if_neg (by decide), if_neg (by decide), if_neg (by decide), if_pos (by decide)]
theorem do8_r : X11_does_r g m r (nI 8) N H = X11_tests_r g m r (X11_find_r g m r (gA m (r + 9) 0) N)  := by
  unfold X11_does_r
  rw [if_neg (by decide), if_neg (by decide), if_neg (by decide), if_neg (by decide), if_neg (by decide), if_neg (by decide), if_neg (by decide), if_neg (by decide), if_pos (by decide)]
theorem do8_m : X11_does_m g m r (nI 8) N H = X11_tests_m g m r (X11_find_r g m r (gA m (r + 9) 0) N)  := by
  unfold X11_does_m
  rw [if_neg (by decide), if_neg (by decide), if_neg (by decide), if_neg (by decide), if_neg (by decide), if_neg (by decide), if_neg (by decide), if_neg (by decide), if_pos (by decide)]
theorem co9_r {a : Int32} {f : Nat} : X8_carryOut_r g m p a f i 9 N H = X3_join_r g m f (gA m (p + 4 + i) 0) (gA m (p + 4 + i) 1) (gA m (p + 4 + i) 2) (gA m (p + 4 + i) 3) N := by
  unfold X8_carryOut_r
  rw [if_neg (by decide), if_neg (by decide), if_neg (by decide), if_neg (by decide), if_neg (by decide), if_neg (by decide), if_neg (by decide), if_neg (by decide), if_neg (by decide), if_pos (by decide)]
theorem co9_m {a : Int32} {f : Nat} : X8_carryOut_m g m p a f i 9 N H = X3_join_m g m f (gA m (p + 4 + i) 0) (gA m (p + 4 + i) 1) (gA m (p + 4 + i) 2) (gA m (p + 4 + i) 3) N := by
  unfold X8_carryOut_m
  rw [if_neg (by decide), if_neg (by decide), if_neg (by decide), if_neg (by decide), if_neg (by decide), if_neg (by decide), if_neg (by decide), if_neg (by decide), if_neg (by decide), if_pos (by decide)]
theorem do9_r : X11_does_r g m r (nI 9) N H = X11_joins_r g m r (gA m (r + 9) 0) (gA m (r + 9) 1) (gA m (r + 9) 2) (gA m (r + 9) 3) N := by
  unfold X11_does_r
  rw [if_neg (by decide), if_neg (by decide), if_neg (by decide), if_neg (by decide), if_neg (by decide), if_neg (by decide), if_neg (by decide), if_neg (by decide), if_neg (by decide), if_pos (by decide)]
theorem do9_m : X11_does_m g m r (nI 9) N H = X11_joins_m g m r (gA m (r + 9) 0) (gA m (r + 9) 1) (gA m (r + 9) 2) (gA m (r + 9) 3) N := by
  unfold X11_does_m
  rw [if_neg (by decide), if_neg (by decide), if_neg (by decide), if_neg (by decide), if_neg (by decide), if_neg (by decide), if_neg (by decide), if_neg (by decide), if_neg (by decide), if_pos (by decide)]
theorem co10_r {a : Int32} {f : Nat} : X8_carryOut_r g m p a f i 10 N H = X3_throwAway_r g m f (gA m (p + 4 + i) 0) N := by
  unfold X8_carryOut_r
  rw [if_neg (by decide), if_neg (by decide), if_neg (by decide), if_neg (by decide), if_neg (by decide), if_neg (by decide), if_neg (by decide), if_neg (by decide), if_neg (by decide), if_neg (by decide), if_pos (by decide)]
theorem co10_m {a : Int32} {f : Nat} : X8_carryOut_m g m p a f i 10 N H = X3_throwAway_m g m f (gA m (p + 4 + i) 0) N := by
  unfold X8_carryOut_m
  rw [if_neg (by decide), if_neg (by decide), if_neg (by decide), if_neg (by decide), if_neg (by decide), if_neg (by decide), if_neg (by decide), if_neg (by decide), if_neg (by decide), if_neg (by decide), if_pos (by decide)]
theorem do10_r : X11_does_r g m r (nI 10) N H = X11_drops_r g m r (X11_find_r g m r (gA m (r + 9) 0) N)  := by
  unfold X11_does_r
  rw [if_neg (by decide), if_neg (by decide), if_neg (by decide), if_neg (by decide), if_neg (by decide), if_neg (by decide), if_neg (by decide), if_neg (by decide), if_neg (by decide), if_neg (by decide), if_pos (by decide)]
theorem do10_m : X11_does_m g m r (nI 10) N H = X11_drops_m g m r (X11_find_r g m r (gA m (r + 9) 0) N)  := by
  unfold X11_does_m
  rw [if_neg (by decide), if_neg (by decide), if_neg (by decide), if_neg (by decide), if_neg (by decide), if_neg (by decide), if_neg (by decide), if_neg (by decide), if_neg (by decide), if_neg (by decide), if_pos (by decide)]
theorem co11_r {a : Int32} {f : Nat} : X8_carryOut_r g m p a f i 11 N H = X3_passMinutes_r g m f (gA m (p + 4 + i) 0) N := by
  unfold X8_carryOut_r
  rw [if_neg (by decide), if_neg (by decide), if_neg (by decide), if_neg (by decide), if_neg (by decide), if_neg (by decide), if_neg (by decide), if_neg (by decide), if_neg (by decide), if_neg (by decide), if_neg (by decide)]
theorem co11_m {a : Int32} {f : Nat} : X8_carryOut_m g m p a f i 11 N H = X3_passMinutes_m g m f (gA m (p + 4 + i) 0) N := by
  unfold X8_carryOut_m
  rw [if_neg (by decide), if_neg (by decide), if_neg (by decide), if_neg (by decide), if_neg (by decide), if_neg (by decide), if_neg (by decide), if_neg (by decide), if_neg (by decide), if_neg (by decide), if_neg (by decide)]
theorem do11_r : X11_does_r g m r (nI 11) N H = X11_passes_r g m r (gA m (r + 9) 0) N := by
  unfold X11_does_r
  rw [if_neg (by decide), if_neg (by decide), if_neg (by decide), if_neg (by decide), if_neg (by decide), if_neg (by decide), if_neg (by decide), if_neg (by decide), if_neg (by decide), if_neg (by decide), if_neg (by decide)]
theorem do11_m : X11_does_m g m r (nI 11) N H = X11_passes_m g m r (gA m (r + 9) 0) N := by
  unfold X11_does_m
  rw [if_neg (by decide), if_neg (by decide), if_neg (by decide), if_neg (by decide), if_neg (by decide), if_neg (by decide), if_neg (by decide), if_neg (by decide), if_neg (by decide), if_neg (by decide), if_neg (by decide)]
theorem co_do {f T : Nat} {a : Int32} (hd : VD g) (hk : k < 12) (F : FR g m f (gA mr (r + 1)) N H) (V : RV T (gA mr (r + 1)) N H) (h0 : gI mr 384 r = 0) (hT : T + 1 ≤ 9000) (ha : ∀ d, d < shL k → gA m (p + 4 + i) d = gA mr (r + 9) d) (h2 : k = 2 → gA mr (r + 9) 0 = 98 ∨ gA mr (r + 9) 0 = 110 ∨ gA mr (r + 9) 0 = 119) : (∃ pl, SIM g f r pl (T + 1) m (X8_carryOut_m g m p a f i k N H) (X8_carryOut_r g m p a f i k N H) (X11_does_m g mr r (nI k) N H) (X11_does_r g mr r (nI k) N H)) ∧ RX r mr (X11_does_m g mr r (nI k) N H) := by
  have e : k = 0 ∨ k = 1 ∨ k = 2 ∨ k = 3 ∨ k = 4 ∨ k = 5 ∨ k = 6 ∨ k = 7 ∨ k = 8 ∨ k = 9 ∨ k = 10 ∨ k = 11 := by omega
  rcases e with rfl | rfl | rfl | rfl | rfl | rfl | rfl | rfl | rfl | rfl | rfl | rfl
  · rw [co0_m, co0_r, do0_m, do0_r, ha 0 (by decide)]
    exact ⟨⟨_, sim_coal F V h0 hT _⟩, rx_adds⟩
  · rw [co1_m, co1_r, do1_m, do1_r, ha 0 (by decide)]
    exact ⟨⟨_, (sim_level F V h0 _).mono (Nat.le_succ T) hT⟩, rx_blows⟩
  · rw [co2_m, co2_r, do2_m, do2_r, ha 0 (by decide)]
    have e : ((gA mr (r + 9) 0).toUInt32 % 65536).toInt32 = gA mr (r + 9) 0 := by
      rcases h2 rfl with z | z | z <;> (rw [z]; decide)
    rw [e]
    exact ⟨⟨_, sim_make F V h0 hT _⟩, rx_makes⟩
  · rw [co3_m, co3_r, do3_m, do3_r, ha 0 (by decide)]
    exact ⟨⟨_, (sim_equip F V h0 _).mono (Nat.le_succ T) hT⟩, rx_equips⟩
  · rw [co4_m, co4_r, do4_m, do4_r, ha 0 (by decide)]
    exact ⟨⟨_, (sim_into F V h0 (fi_of F _)).mono (Nat.le_succ T) hT⟩, rx_puts⟩
  · rw [co5_m, co5_r, do5_m, do5_r, ha 0 (by decide)]
    exact ⟨⟨_, (sim_onto F V h0 (fi_of F _)).mono (Nat.le_succ T) hT⟩, rx_takes⟩
  · rw [co6_m, co6_r, do6_m, do6_r, ha 0 (by decide), ha 1 (by decide)]
    exact ⟨⟨_, (sim_strike F V h0 (fi_of F _) _).mono (Nat.le_succ T) hT⟩, rx_strikes⟩
  · rw [co7_m, co7_r, do7_m, do7_r, ha 0 (by decide)]
    exact ⟨⟨_, (sim_chill F V h0 (fi_of F _)).mono (Nat.le_succ T) hT⟩, rx_quenches⟩
  · rw [co8_m, co8_r, do8_m, do8_r, ha 0 (by decide)]
    exact ⟨⟨_, (sim_exam hd F V h0 (fi_of F _)).mono (Nat.le_succ T) hT⟩, rx_tests⟩
  · rw [co9_m, co9_r, do9_m, do9_r, ha 0 (by decide), ha 1 (by decide), ha 2 (by decide), ha 3 (by decide)]
    exact ⟨⟨_, sim_join hd F V h0 hT _ _ _ _⟩, rx_joins⟩
  · rw [co10_m, co10_r, do10_m, do10_r, ha 0 (by decide)]
    exact ⟨⟨_, (sim_drop F V h0 (fi_of F _)).mono (Nat.le_succ T) hT⟩, rx_drops⟩
  · rw [co11_m, co11_r, do11_m, do11_r, ha 0 (by decide)]
    exact ⟨⟨_, (sim_mins F V h0 _).mono (Nat.le_succ T) hT⟩, rx_passes⟩
end
