def J5_init_d00df_m (g : mG) (m : mM) (sb : Nat) (nn : Nat)  : mM := (sI (sR (nw m (.inr (2, nn))) 32 sb (some (sb + 1))) 33 sb 0)

set_option maxHeartbeats 4000000 in
set_option maxRecDepth 100000 in
theorem c_J5_init_d00df {l : Launch} {g : mG} (hO : mO l g) (m : mM) (sb : Nat) (nn : Nat)  (hk : gK m sb = some (.inl 1)) (hg : gN m = sb + 1) (hn : nn ≤ 1000) : mT l g yJ5_init_d00df (.code yJ5_init_d00df cJ5_init_d00df 2 (Option.none : Option FieldType)) 1 20 1 1000 [.ref sb, .int (nI nn)] m (fun u m' => u = none ∧ m' = J5_init_d00df_m g m sb nn ) nX := by
  refine mT_of hO (by decide) (Nat.le_of_ble_eq_true rfl) (fun x hX hZ => ?_)
  show mV g x m 0 0 0 [(0, .ref sb), (1, .int (nI nn))] []
  refine v_aload_n (pc := 0) hX dJ5_init_d00df_0 rfl ?_
  refine v_objInit (pc := 1) hX dJ5_init_d00df_1 wd_281 wd_43 wd_44 (by decide) (by decide) ?_
  refine v_gets (v := .int 1) (pc := 4) hX dJ5_init_d00df_4 (cs_Z hO) wd_282 ?_
  refine v_if_eq (tgt := 25) (pc := 7) hX dJ5_init_d00df_7 (by decide) (fun c1 => ?_) (fun c1 => ?_)
  · exact absurd c1 (by decide)
  ·
    refine v_aload_n (pc := 10) hX dJ5_init_d00df_10 rfl ?_
    refine v_iload_n (pc := 11) hX dJ5_init_d00df_11 rfl ?_
    refine v_newarr (t := 2) (n := nn) (pc := 12) hX dJ5_init_d00df_12 rfl (by decide) wd_305 rfl (by omega) (by show 0 + 1 ≤ 1; omega) (by show 0 + nn ≤ 1000; omega) ?_
    rw [hg]
    refine v_put (m1 := (sR (nw m (.inr (2, nn))) 32 sb (some (sb + 1)))) (pc := 14) hX dJ5_init_d00df_14 (by simp only [mm]; rw [if_neg (by omega)]; exact hk) (ci := 1) (r := vwC1) rfl 0 (by decide) wd_291 rfl rfl rfl rfl ?_
    refine v_aload_n (pc := 17) hX dJ5_init_d00df_17 rfl ?_
    refine v_iconst (v := 0) (pc := 18) hX dJ5_init_d00df_18 (by decide) ?_
    refine v_put (m1 := (sI (sR (nw m (.inr (2, nn))) 32 sb (some (sb + 1))) 33 sb 0)) (pc := 19) hX dJ5_init_d00df_19 (by simp only [mm]; rw [if_neg (by omega)]; exact hk) (ci := 1) (r := vwC1) rfl 1 (by decide) wd_292 rfl (by decide) (by decide) rfl ?_
    refine v_goto (tgt := 38) (pc := 22) hX dJ5_init_d00df_22 (by decide) ?_
    exact v_vret (pc := 38) hX hZ dJ5_init_d00df_38 (by decide) (by omega) ⟨rfl, (by rw [J5_init_d00df_m])⟩
def J4_init_da8c8_m (g : mG) (m : mM) (sb : Nat)  : mM := (J5_init_d00df_m g m sb 16 )

set_option maxHeartbeats 4000000 in
set_option maxRecDepth 100000 in
theorem c_J4_init_da8c8 {l : Launch} {g : mG} (hO : mO l g) (m : mM) (sb : Nat)  (hk : gK m sb = some (.inl 1)) (hg : gN m = sb + 1) : mT l g yJ4_init_da8c8 (.code yJ4_init_da8c8 cJ4_init_da8c8 1 (Option.none : Option FieldType)) 2 41 1 1000 [.ref sb] m (fun u m' => u = none ∧ m' = J4_init_da8c8_m g m sb ) nX := by
  refine mT_of hO (by decide) (Nat.le_of_ble_eq_true rfl) (fun x hX hZ => ?_)
  show mV g x m 0 0 0 [(0, .ref sb)] []
  refine v_aload_n (pc := 0) hX dJ4_init_da8c8_0 rfl ?_
  refine v_bipush (v := 16) (pc := 1) hX dJ4_init_da8c8_1 (by decide) ?_
  refine v_callI (z := yJ5_init_d00df) (pc := 3) hX dJ4_init_da8c8_3 (c_J5_init_d00df hO m sb 16  hk hg (by decide)) wd_278 wd_279 wd_12 wd_280 rfl ⟨by decide, by decide, (by decide +kernel : (parseMethodDescriptor yJ5_init_d00df.desc).map (fun d => d.parameters.length) = some 1)⟩ rfl (Nat.le_of_ble_eq_true rfl) ⟨⟨by decide, by decide⟩, by decide, by decide⟩ (fun E m9 h9 => h9.elim) (fun r9 m9 h9 => ?_)
  obtain ⟨rfl, h8⟩ := h9
  replace h8 := h8.symm
  subst h8
  show mV g x _ _ _ _ _ []
  exact v_vret (pc := 6) hX hZ dJ4_init_da8c8_6 (by decide) (by decide) ⟨rfl, (by rw [J4_init_da8c8_m])⟩
section
variable {g : mG} {m : mM} {sb : Nat}
theorem si_n (hg : gN m = sb + 1) : gN (J4_init_da8c8_m g m sb) = sb + 2 := by
  unfold J4_init_da8c8_m J5_init_d00df_m
  simp only [mm]
  omega
theorem si_SL (hk : gK m sb = some (.inl 1)) (hg : gN m = sb + 1) (h0 : gI m 35 sb = 0) : SL (J4_init_da8c8_m g m sb) sb (sb + 1) 16 0 := by
  unfold J4_init_da8c8_m J5_init_d00df_m
  refine ⟨?_, ?_, ?_, ?_, ?_, by omega, by omega, fun i => ?_⟩
  · simp only [mm]
    rw [if_neg (by omega)]
    exact hk
  · simp [mm]
  · simp only [mm]
    rw [if_pos (by omega)]
  · simp [mm]
  · simp only [mm]
    rw [if_neg (by omega), if_neg (by omega)]
    exact h0
  · simp only [mm]
    rw [if_pos (by omega)]
    rfl
theorem si_F (hg : gN m = sb + 1) {a : Nat} (ha : a < sb) : gK (J4_init_da8c8_m g m sb) a = gK m a ∧ mS m (J4_init_da8c8_m g m sb) a := by
  unfold J4_init_da8c8_m J5_init_d00df_m
  refine ⟨?_, mS_tr (mS_nw (by omega)) (mS_tr (mS_R (by omega)) (mS_I (by omega)))⟩
  simp only [mm]
  rw [if_neg (by omega)]
end
