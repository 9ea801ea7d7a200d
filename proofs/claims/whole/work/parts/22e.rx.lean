/-! WHAT THE REFERENCE'S OPERATIONS LEAVE ALONE -/
section
variable {g : mG} {m m1 : mM} {r N H C : Nat} {a b c d : Int32}
theorem RX.burn (n : Nat) : RX r m (X11_burns_m g m (r + 1) n) := by
  unfold X11_burns_m
  repeat' split
  all_goals repeat (first | with_reducible exact RX.rf | with_reducible refine RX.A ?_ | with_reducible refine RX.Th ?_)
theorem rx_adds : RX r m (X11_adds_m g m r a) := by
  unfold X11_adds_m
  repeat' split
  all_goals repeat (first | with_reducible exact RX.rf | with_reducible refine RX.A ?_ | with_reducible refine RX.Th ?_)
theorem rx_blows : RX r m (X11_blows_m g m r a) := by
  unfold X11_blows_m
  repeat' split
  all_goals repeat (first | with_reducible exact RX.rf | with_reducible refine RX.A ?_ | with_reducible refine RX.Th ?_)
theorem rx_lives_l : ∀ (n j : Nat) (m : mM), RX r m (X11_lives_l1 g r N n j m)
  | 0, j, m => by
    rw [X11_lives_l1]
    exact RX.rf
  | n + 1, j, m => by
    rw [X11_lives_l1]
    repeat' split
    all_goals refine RX.tr ?_ (rx_lives_l n (j + 1) _)
    all_goals repeat (first | with_reducible exact RX.rf | with_reducible refine RX.A ?_ | with_reducible refine RX.Th ?_)
theorem rx_lives : RX r m (X11_lives_m g m r N) := by
  unfold X11_lives_m
  exact (RX.rf.A.tr (RX.burn 85)).tr (rx_lives_l N 0 _)
theorem rx_passes_l : ∀ (n j : Nat) (m : mM), RX r m (X11_passes_l1 g r a N n j m).2
  | 0, j, m => by
    rw [X11_passes_l1]
    exact RX.rf
  | n + 1, j, m => by
    rw [X11_passes_l1]
    exact rx_lives.tr (rx_passes_l n (j + 1) _)
theorem rx_passes : RX r m (X11_passes_m g m r a N) := by
  unfold X11_passes_m
  split
  · exact RX.rf.Th
  · exact rx_passes_l _ _ _
theorem rx_makes_l : ∀ (n j : Nat) (m : mM), RX r m (X11_makes_l1 g r a N n j m).2
  | 0, j, m => by
    rw [X11_makes_l1]
    exact RX.rf.A.A.A.A.A.A
  | n + 1, j, m => by
    rw [X11_makes_l1]
    exact RX.rf.A.tr (rx_makes_l n (j + 1) _)
theorem rx_makes : RX r m (X11_makes_m g m r a N) := by
  unfold X11_makes_m
  repeat' split
  all_goals first | with_reducible exact rx_makes_l _ _ _ | exact RX.rf.Th
theorem rx_equips : RX r m (X11_equips_m g m r a H) := by
  unfold X11_equips_m
  repeat' split
  all_goals repeat (first | with_reducible exact RX.rf | with_reducible refine RX.A ?_ | with_reducible refine RX.Th ?_)
theorem rx_puts : RX r m (X11_puts_m g m r a N) := by
  unfold X11_puts_m
  repeat' split
  all_goals repeat (first | with_reducible exact RX.rf | with_reducible refine RX.A ?_ | with_reducible refine RX.Th ?_)
theorem rx_takes : RX r m (X11_takes_m g m r a) := by
  unfold X11_takes_m
  repeat' split
  all_goals repeat (first | with_reducible exact RX.rf | with_reducible refine RX.A ?_ | with_reducible refine RX.Th ?_)
theorem rx_strikes : RX r m (X11_strikes_m g m r a b H) := by
  unfold X11_strikes_m
  rw [hd_eq]
  repeat' split
  all_goals repeat (first | with_reducible exact RX.rf | with_reducible refine RX.A ?_ | with_reducible refine RX.Th ?_)
theorem rx_quenches : RX r m (X11_quenches_m g m r a) := by
  unfold X11_quenches_m
  rw [hd_eq]
  repeat' split
  all_goals repeat (first | with_reducible exact RX.rf | with_reducible refine RX.A ?_ | with_reducible refine RX.Th ?_)
theorem rx_tests : RX r m (X11_tests_m g m r a) := by
  unfold X11_tests_m
  repeat' split
  all_goals repeat (first | with_reducible exact RX.rf | with_reducible refine RX.A ?_ | with_reducible refine RX.Th ?_)
theorem rx_goes_l : ∀ (n j : Nat) (m : mM), RX r m (X11_goes_l1 g r a n j m)
  | 0, j, m => by
    rw [X11_goes_l1]
    exact RX.rf.A
  | n + 1, j, m => by
    rw [X11_goes_l1]
    split
    · exact RX.rf.A.tr (rx_goes_l n (j + 1) _)
    · exact RX.rf.A.tr (rx_goes_l n (j + 1) _)
theorem rx_goes : RX r m (X11_goes_m g m r a) := rx_goes_l _ _ _
theorem rx_ite {p : Prop} [Decidable p] {A B : mM} (h1 : RX r m A) (h2 : RX r m B) : RX r m (if p then A else B) := by
  split <;> assumption
theorem rx_joins : RX r m (X11_joins_m g m r a b c d N) := by
  unfold X11_joins_m
  generalize hG : sA (X11_goes_m g (X11_goes_m g (X11_goes_m g (X11_goes_m g m r (X11_find_r g m r a N)) r (X11_find_r g (X11_goes_m g m r (X11_find_r g m r a N)) r b (N - 1))) r (X11_find_r g (X11_goes_m g (X11_goes_m g m r (X11_find_r g m r a N)) r (X11_find_r g (X11_goes_m g m r (X11_find_r g m r a N)) r b (N - 1))) r c (N - 2))) r (X11_find_r g (X11_goes_m g (X11_goes_m g (X11_goes_m g m r (X11_find_r g m r a N)) r (X11_find_r g (X11_goes_m g m r (X11_find_r g m r a N)) r b (N - 1))) r (X11_find_r g (X11_goes_m g (X11_goes_m g m r (X11_find_r g m r a N)) r (X11_find_r g (X11_goes_m g m r (X11_find_r g m r a N)) r b (N - 1))) r c (N - 2))) r d (N - 3))) (r + 1) 8 _ = G
  have hx : RX r m G := by
    rw [← hG]
    exact (((rx_goes.tr rx_goes).tr rx_goes).tr rx_goes).A
  repeat' (first | with_reducible exact hx | with_reducible exact RX.rf.Th | with_reducible refine rx_ite ?_ ?_)
theorem rx_drops : RX r m (X11_drops_m g m r a) := by
  unfold X11_drops_m
  split
  · exact rx_goes
  · exact RX.rf.Th
theorem SIM.mono {f T T1 : Nat} {pl : Int32 → Int32} {mc mc1 : mM} {x y : Int32} (h : SIM g f r pl T mc mc1 x m1 y) (ht : T ≤ T1) (h9 : T1 ≤ 9000) : SIM g f r pl T1 mc mc1 x m1 y := by
  rcases h with h | ⟨h1, h2, h3, N, H, h4, h5⟩
  · exact Or.inl h
  · exact Or.inr ⟨h1, h2, h3, N, H, h4, h5.mono ht h9⟩
theorem CALL.same {b T : Nat} {mc mr mc1 : mM} {tab : List (String × Int32)} {x : Option String} {P Q : Prop} (h : CALL g b r T mc mr mc1 m1 tab x P) (e : x = none → P → Q) : CALL g b r T mc mr mc1 m1 tab x Q := by
  obtain ⟨h1, h2, h3, h4⟩ := h
  refine ⟨h1, h2, h3, ?_⟩
  rcases h4 with ⟨q1, q2, q3⟩ | q
  · exact Or.inl ⟨q1, q2, e q1 q3⟩
  · exact Or.inr q
/-- what stands behind the class's 'prepare' and the reference's 'begins' -/
theorem pre_f {mc mr : mM} {b T nx : Nat} (h1 : SB mc b) (hn : nx < 9) (F : FR g mc (b + 1) (gA mr (r + 1)) N H) : FR g (X6_prepare_m g mc (b + 49) (b + 1) nx) (b + 1) (gA (X11_begins_m g mr r) (r + 1)) N H ∧ gA (X11_begins_m g mr r) (r + 1) = gA mr (r + 1) ∧ gI (X11_begins_m g mr r) 384 r = 0 := by
  obtain ⟨q1, q2, q3, q4, q5, q6, q7⟩ := beg_f (g := g) mr r
  have hs : SF mc (b + 49 + 2 + 16 * nx) := h1.h.f hn
  have hP : Fr (b + 49 + 2 + 16 * nx) (b + 49 + 2 + 16 * nx + 16) mc (X6_prepare_m g mc (b + 49) (b + 1) nx) := fr_X3_copyFrom g mc (b + 49 + 2 + 16 * nx) (b + 1) hs h1.f1
  rw [q4]
  exact ⟨F.fr hP (by omega), rfl, q2⟩
end
