/-! THE FORGE'S CONSTRUCTOR: its memory in steps -/
def fcK (j : Nat) : mK := if j = 0 then .inl 6 else if j = 1 then .inr (8, 8) else if j = 2 then .inr (7, 4) else if j < 11 then .inl 9 else .inl 7
def fcA (g : mG) (m : mM) (f : Nat) : mM := sR (X4_init_m g (nw m (.inl 6)) (f + 1)) 160 f (some (f + 1))
def fcB (g : mG) (m : mM) (f : Nat) : mM := sR (nw (fcA g m f) (.inr (8, 8))) 161 f (some (f + 2))
def fcC (g : mG) (m : mM) (f : Nat) : mM := sR (nw (fcB g m f) (.inr (7, 4))) 162 f (some (f + 3))
def fcZ (m : mM) (f : Nat) : mM := (sJ (sI (sI (sI (sI (sI (sI (sI (sI m 163 f 0) 164 f 0) 165 f 0) 166 f 0) 167 f 0) 168 f 0) 169 f 0) 170 f 0) 171 f (0 : Int64))
def fcP (g : mG) (m : mM) (f : Nat) : Nat → mM
  | 0 => fcZ (fcC g m f) f
  | j + 1 => sQ (X7_init_m g (nw (fcP g m f j) (.inl 9)) (f + (j + 4))) (f + 2) j (some (f + (j + 4)))
def fcH (g : mG) (m : mM) (f : Nat) : Nat → mM
  | 0 => fcP g m f 8
  | j + 1 => sQ (X5_init_m g (nw (fcH g m f j) (.inl 7)) (f + (j + 12))) (f + 3) j (some (f + (j + 12)))
def FZ (m0 m : mM) (f i : Nat) : Prop := gN m = f + (i + 1) ∧ gK m f = some (.inl 5) ∧ (∀ j, j < i → gK m (f + (j + 1)) = some (fcK j)) ∧ (∀ a, a < f → gK m a = gK m0 a ∧ mS m0 m a)
section
variable {g : mG} {m0 m : mM} {f i j : Nat}
theorem FZ.n (h : FZ m0 m f i) : gN m = f + (i + 1) := h.1
theorem FZ.k (h : FZ m0 m f i) : gK m f = some (.inl 5) := h.2.1
theorem FZ.kk (h : FZ m0 m f i) (hj : j < i) : gK m (f + (j + 1)) = some (fcK j) := h.2.2.1 j hj
theorem FZ.F (h : FZ m0 m f i) {a : Nat} (ha : a < f) : gK m a = gK m0 a ∧ mS m0 m a := h.2.2.2 a ha
theorem FZ.nW (h : FZ m0 m f i) {kd : mK} (e : kd = fcK i) : FZ m0 (nw m kd) f (i + 1) := by
  have hn := h.n
  refine ⟨?_, ?_, fun j hj => ?_, fun a ha => ⟨?_, ?_⟩⟩
  · simp only [mm]
    omega
  · simp only [mm]
    rw [if_neg (by omega)]
    exact h.k
  · simp only [mm]
    by_cases q : j = i
    · subst q
      rw [if_pos (by omega), e]
    · rw [if_neg (by omega)]
      exact h.kk (by omega)
  · simp only [mm]
    rw [if_neg (by omega)]
    exact (h.F ha).1
  · exact mS_tr (h.F ha).2 (mS_nw (by omega))
theorem FZ.R {ky a : Nat} {v : Option Nat} (h : FZ m0 m f i) (ha : f ≤ a) : FZ m0 (sR m ky a v) f i := ⟨h.1, h.2.1, h.2.2.1, fun b hb => ⟨(h.F hb).1, mS_tr (h.F hb).2 (mS_R (by omega))⟩⟩
theorem FZ.I {ky a : Nat} {v : Int32} (h : FZ m0 m f i) (ha : f ≤ a) : FZ m0 (sI m ky a v) f i := ⟨h.1, h.2.1, h.2.2.1, fun b hb => ⟨(h.F hb).1, mS_tr (h.F hb).2 (mS_I (by omega))⟩⟩
theorem FZ.J {ky a : Nat} {v : Int64} (h : FZ m0 m f i) (ha : f ≤ a) : FZ m0 (sJ m ky a v) f i := ⟨h.1, h.2.1, h.2.2.1, fun b hb => ⟨(h.F hb).1, mS_tr (h.F hb).2 (mS_J (by omega))⟩⟩
theorem FZ.Q {a q : Nat} {v : Option Nat} (h : FZ m0 m f i) (ha : f ≤ a) : FZ m0 (sQ m a q v) f i := ⟨h.1, h.2.1, h.2.2.1, fun b hb => ⟨(h.F hb).1, mS_tr (h.F hb).2 (mS_Q (by omega))⟩⟩
theorem FZ.a4 {a : Nat} (h : FZ m0 m f i) (ha : f ≤ a) : FZ m0 (X4_init_m g m a) f i := by
  unfold X4_init_m
  exact (((h.I ha).I ha).I ha).J ha
theorem FZ.a5 {a : Nat} (h : FZ m0 m f i) (ha : f ≤ a) : FZ m0 (X5_init_m g m a) f i := by
  unfold X5_init_m
  exact (h.I ha).I ha
theorem FZ.a7 {a : Nat} (h : FZ m0 m f i) (ha : f ≤ a) : FZ m0 (X7_init_m g m a) f i := by
  unfold X7_init_m
  exact (((((((h.I ha).I ha).I ha).I ha).I ha).I ha).I ha).R ha
theorem FZ.s0 (hk : gK m f = some (.inl 5)) (hg : gN m = f + 1) : FZ m m f 0 := ⟨hg, hk, fun j hj => by omega, fun a ha => ⟨rfl, mS_rf⟩⟩
theorem FZ.A (hk : gK m f = some (.inl 5)) (hg : gN m = f + 1) : FZ m (fcA g m f) f 1 := (((FZ.s0 hk hg).nW (kd := .inl 6) rfl).a4 (by omega)).R (by omega)
theorem FZ.B (hk : gK m f = some (.inl 5)) (hg : gN m = f + 1) : FZ m (fcB g m f) f 2 := ((FZ.A hk hg).nW (kd := .inr (8, 8)) rfl).R (by omega)
theorem FZ.C (hk : gK m f = some (.inl 5)) (hg : gN m = f + 1) : FZ m (fcC g m f) f 3 := ((FZ.B hk hg).nW (kd := .inr (7, 4)) rfl).R (by omega)
theorem FZ.z (h : FZ m0 m f i) : FZ m0 (fcZ m f) f i := by
  unfold fcZ
  repeat (first | exact h | refine FZ.I ?_ (Nat.le_refl _) | refine FZ.J ?_ (Nat.le_refl _))
theorem fcK_p (h : j < 8) : fcK (j + 3) = .inl 9 := by
  unfold fcK
  rw [if_neg (by omega), if_neg (by omega), if_neg (by omega), if_pos (by omega)]
theorem fcK_h : fcK (j + 11) = .inl 7 := by
  unfold fcK
  rw [if_neg (by omega), if_neg (by omega), if_neg (by omega), if_neg (by omega)]
theorem FZ.P (hk : gK m f = some (.inl 5)) (hg : gN m = f + 1) : ∀ j, j ≤ 8 → FZ m (fcP g m f j) f (j + 3)
  | 0, _ => (FZ.C hk hg).z
  | j + 1, hj => by
    have h := (FZ.P hk hg j (by omega)).nW (kd := .inl 9) (fcK_p (by omega)).symm
    rw [fcP, show j + 1 + 3 = j + 3 + 1 by omega]
    exact (h.a7 (by omega)).Q (by omega)
theorem FZ.H (hk : gK m f = some (.inl 5)) (hg : gN m = f + 1) : ∀ j, FZ m (fcH g m f j) f (j + 11)
  | 0 => FZ.P hk hg 8 (Nat.le_refl _)
  | j + 1 => by
    have h := (FZ.H hk hg j).nW (kd := .inl 7) fcK_h.symm
    rw [fcH, show j + 1 + 11 = j + 11 + 1 by omega]
    exact (h.a5 (by omega)).Q (by omega)
/-- kinds behind a new cell -/
theorem FZ.kn (h : FZ m0 m f i) {kd : mK} : (if f = gN m then some kd else gK m f) = some (.inl 5) := by
  rw [if_neg (by have := h.n; omega)]
  exact h.k
theorem FZ.kj (h : FZ m0 m f i) {kd : mK} (hj : j < i) {a : Nat} (ha : a = f + (j + 1)) : (if a = gN m then some kd else gK m a) = some (fcK j) := by
  subst ha
  rw [if_neg (by have := h.n; omega)]
  exact h.kk hj
theorem FZ.new (h : FZ m0 m f i) {kd : mK} {a : Nat} (ha : a = f + (i + 1)) : (if a = gN m then some kd else gK m a) = some kd := by
  rw [if_pos (by have := h.n; omega)]
theorem FZ.nn (h : FZ m0 m f i) {a : Nat} (ha : a = f + (i + 1)) : gN m = a := by
  rw [h.n, ha]
theorem fcA_f : sR (X4_init_m g (nw m (.inl 6)) (f + 1)) 160 f (some (f + 1)) = fcA g m f := rfl
theorem fcB_f : sR (nw (fcA g m f) (.inr (8, 8))) 161 f (some (f + 2)) = fcB g m f := rfl
theorem fcC_f : sR (nw (fcB g m f) (.inr (7, 4))) 162 f (some (f + 3)) = fcC g m f := rfl
theorem fcP_0 : fcZ (fcC g m f) f = fcP g m f 0 := rfl
theorem fcH_0 : fcP g m f 8 = fcH g m f 0 := rfl
theorem fcP_f {j1 q : Nat} (h : j + 1 = j1) (hq : q = f + (j + 4)) : sQ (X7_init_m g (nw (fcP g m f j) (.inl 9)) q) (f + 2) j (some q) = fcP g m f j1 := by
  subst h hq
  rfl
theorem fcH_f {j1 q : Nat} (h : j + 1 = j1) (hq : q = f + (j + 12)) : sQ (X5_init_m g (nw (fcH g m f j) (.inl 7)) q) (f + 3) j (some q) = fcH g m f j1 := by
  subst h hq
  rfl
end
section
variable {g : mG} {m : mM} {f : Nat}
theorem X4i_R {m : mM} {h : Nat} : gR (X4_init_m g m h) = gR m := by
  unfold X4_init_m
  simp only [mm]
theorem fcZ_R {m : mM} : gR (fcZ m f) = gR m := by
  unfold fcZ
  simp only [mm]
theorem fcP_R (hk : gK m f = some (.inl 5)) (hg : gN m = f + 1) {ky : Nat} (hy : ky = 160 ∨ ky = 161 ∨ ky = 162) : ∀ j, j ≤ 8 → gR (fcP g m f j) ky f = gR (fcC g m f) ky f
  | 0, _ => by
    rw [fcP, fcZ_R]
  | j + 1, hj => by
    rw [fcP]
    unfold X7_init_m
    simp only [mm]
    have hn := (FZ.P (g := g) hk hg j (by omega)).n
    rw [if_neg (by omega), if_neg (by omega)]
    exact fcP_R hk hg hy j (by omega)
theorem fcH_R (hk : gK m f = some (.inl 5)) (hg : gN m = f + 1) {ky : Nat} (hy : ky = 160 ∨ ky = 161 ∨ ky = 162) : ∀ j, gR (fcH g m f j) ky f = gR (fcC g m f) ky f
  | 0 => fcP_R hk hg hy 8 (Nat.le_refl _)
  | j + 1 => by
    rw [fcH]
    unfold X5_init_m
    simp only [mm]
    have hn := (FZ.H (g := g) hk hg j).n
    rw [if_neg (by omega)]
    exact fcH_R hk hg hy j
theorem fcC_R (hk : gK m f = some (.inl 5)) (hg : gN m = f + 1) : gR (fcC g m f) 160 f = some (f + 1) ∧ gR (fcC g m f) 161 f = some (f + 2) ∧ gR (fcC g m f) 162 f = some (f + 3) := by
  have hA := (FZ.A (g := g) hk hg).n
  have hB := (FZ.B (g := g) hk hg).n
  have a1 : gR (fcA g m f) 160 f = some (f + 1) := by
    unfold fcA
    simp [mm]
  have b1 : gR (fcB g m f) 160 f = some (f + 1) := by
    unfold fcB
    simp only [mm]
    rw [if_neg (by omega), if_neg (by omega)]
    exact a1
  have b2 : gR (fcB g m f) 161 f = some (f + 2) := by
    unfold fcB
    simp [mm]
  refine ⟨?_, ?_, ?_⟩
  · unfold fcC
    simp only [mm]
    rw [if_neg (by omega), if_neg (by omega)]
    exact b1
  · unfold fcC
    simp only [mm]
    rw [if_neg (by omega), if_neg (by omega)]
    exact b2
  · unfold fcC
    simp [mm]
end
def X3_init_m (g : mG) (m : mM) (f : Nat)  : mM := (fcH g m f 4)

set_option maxHeartbeats 4000000 in
set_option maxRecDepth 100000 in
theorem c_X3_init {l : Launch} {g : mG} (hO : mO l g) (m : mM) (f : Nat)  (hk : gK m f = some (.inl 5)) (hg : gN m = f + 1) : mT l g yX3_init (.code yX3_init cX3_init 2 (Option.none : Option FieldType)) 2 40 15 88 [.ref f] m (fun u m' => u = none ∧ m' = X3_init_m g m f ) nX := by
  refine mT_of hO (by decide) (Nat.le_of_ble_eq_true rfl) (fun x hX hZ => ?_)
  show mV g x m 0 0 0 [(0, .ref f)] []
  refine v_aload_n (pc := 0) hX dX3_init_0 rfl ?_
  refine v_objInit (pc := 1) hX dX3_init_1 wd_50 wd_43 wd_44 (by decide) (by decide) ?_
  refine v_aload_n (pc := 4) hX dX3_init_4 rfl ?_
  refine v_new (ci := 6) (r := vwC6) (pc := 5) hX dX3_init_5 rfl wd_51 wd_52 wd_3 (by decide) (by decide) ?_
  rw [(FZ.s0 hk hg).nn (a := f + 1) (by omega)]
  refine v_dup (pc := 8) hX dX3_init_8 rfl ?_
  refine v_callIN (z := yX4_init) (pc := 9) hX dX3_init_9 (c_X4_init hO ((nw m (.inl 6))) (f + 1) (by simp only [mm, kK_X4_init, kK_X5_init, kK_X7_init]; exact (FZ.s0 hk hg).new (by omega))) wd_53 wd_54 wd_3 wd_55 rfl ⟨by decide, by decide, (by decide +kernel : (parseMethodDescriptor yX4_init.desc).map (fun d => d.parameters.length) = some 0)⟩ rfl (Nat.le_of_ble_eq_true rfl) ⟨⟨by decide, by decide⟩, by decide, by decide⟩ (fun E m9 h9 => h9.elim) (fun r9 m9 h9 => ?_)
  obtain ⟨rfl, h8⟩ := h9
  replace h8 := h8.symm
  subst h8
  show mV g x _ _ _ _ _ [.ref (f + 1), .ref f]
  refine v_putF (m1 := (sR (X4_init_m g ((nw m (.inl 6))) (f + 1)) 160 f (some (f + 1)))) (pc := 12) hX dX3_init_12 (by simp only [mm, kK_X4_init, kK_X5_init, kK_X7_init]; exact (FZ.s0 hk hg).kn) (ci := 5) (r := vwC5) rfl 0 (by decide) wd_149 rfl rfl rfl rfl rfl rfl ?_
  refine mV_eqM (m1 := (fcA g m f)) (fcA_f) ?_
  refine v_aload_n (pc := 15) hX dX3_init_15 rfl ?_
  refine v_bipush (v := 8) (pc := 16) hX dX3_init_16 (by decide) ?_
  refine v_anew (t := 8) (n := 8) (pc := 18) hX dX3_init_18 (by decide) (by decide) rfl wd_79 wd_80 rfl (by decide) (by decide) (by decide) ?_
  rw [(FZ.A (g := g) hk hg).nn (a := f + 2) (by omega)]
  refine v_putF (m1 := (sR (nw ((fcA g m f)) (.inr (8, 8))) 161 f (some (f + 2)))) (pc := 21) hX dX3_init_21 (by simp only [mm, kK_X4_init, kK_X5_init, kK_X7_init]; exact (FZ.A (g := g) hk hg).kn) (ci := 5) (r := vwC5) rfl 1 (by decide) wd_152 rfl rfl rfl rfl rfl rfl ?_
  refine mV_eqM (m1 := (fcB g m f)) (fcB_f) ?_
  refine v_aload_n (pc := 24) hX dX3_init_24 rfl ?_
  refine v_iconst (v := 4) (pc := 25) hX dX3_init_25 (by decide) ?_
  refine v_anew (t := 7) (n := 4) (pc := 26) hX dX3_init_26 (by decide) (by decide) rfl wd_81 wd_82 rfl (by decide) (by decide) (by decide) ?_
  rw [(FZ.B (g := g) hk hg).nn (a := f + 3) (by omega)]
  refine v_putF (m1 := (sR (nw ((fcB g m f)) (.inr (7, 4))) 162 f (some (f + 3)))) (pc := 29) hX dX3_init_29 (by simp only [mm, kK_X4_init, kK_X5_init, kK_X7_init]; exact (FZ.B (g := g) hk hg).kn) (ci := 5) (r := vwC5) rfl 2 (by decide) wd_154 rfl rfl rfl rfl rfl rfl ?_
  refine mV_eqM (m1 := (fcC g m f)) (fcC_f) ?_
  refine v_aload_n (pc := 32) hX dX3_init_32 rfl ?_
  refine v_iconst (v := 0) (pc := 33) hX dX3_init_33 (by decide) ?_
  refine v_put (m1 := (sI (fcC g m f) 163 f 0)) (pc := 34) hX dX3_init_34 (by exact (FZ.C (g := g) hk hg).k) (ci := 5) (r := vwC5) rfl 3 (by decide) wd_155 rfl rfl rfl rfl ?_
  refine v_aload_n (pc := 37) hX dX3_init_37 rfl ?_
  refine v_iconst (v := 0) (pc := 38) hX dX3_init_38 (by decide) ?_
  refine v_put (m1 := (sI (sI (fcC g m f) 163 f 0) 164 f 0)) (pc := 39) hX dX3_init_39 (by simp only [mm]; exact (FZ.C (g := g) hk hg).k) (ci := 5) (r := vwC5) rfl 4 (by decide) wd_158 rfl rfl rfl rfl ?_
  refine v_aload_n (pc := 42) hX dX3_init_42 rfl ?_
  refine v_iconst (v := 0) (pc := 43) hX dX3_init_43 (by decide) ?_
  refine v_put (m1 := (sI (sI (sI (fcC g m f) 163 f 0) 164 f 0) 165 f 0)) (pc := 44) hX dX3_init_44 (by simp only [mm]; exact (FZ.C (g := g) hk hg).k) (ci := 5) (r := vwC5) rfl 5 (by decide) wd_160 rfl rfl rfl rfl ?_
  refine v_aload_n (pc := 47) hX dX3_init_47 rfl ?_
  refine v_iconst (v := 0) (pc := 48) hX dX3_init_48 (by decide) ?_
  refine v_put (m1 := (sI (sI (sI (sI (fcC g m f) 163 f 0) 164 f 0) 165 f 0) 166 f 0)) (pc := 49) hX dX3_init_49 (by simp only [mm]; exact (FZ.C (g := g) hk hg).k) (ci := 5) (r := vwC5) rfl 6 (by decide) wd_161 rfl rfl rfl rfl ?_
  refine v_aload_n (pc := 52) hX dX3_init_52 rfl ?_
  refine v_iconst (v := 0) (pc := 53) hX dX3_init_53 (by decide) ?_
  refine v_put (m1 := (sI (sI (sI (sI (sI (fcC g m f) 163 f 0) 164 f 0) 165 f 0) 166 f 0) 167 f 0)) (pc := 54) hX dX3_init_54 (by simp only [mm]; exact (FZ.C (g := g) hk hg).k) (ci := 5) (r := vwC5) rfl 7 (by decide) wd_163 rfl rfl rfl rfl ?_
  refine v_aload_n (pc := 57) hX dX3_init_57 rfl ?_
  refine v_iconst (v := 0) (pc := 58) hX dX3_init_58 (by decide) ?_
  refine v_put (m1 := (sI (sI (sI (sI (sI (sI (fcC g m f) 163 f 0) 164 f 0) 165 f 0) 166 f 0) 167 f 0) 168 f 0)) (pc := 59) hX dX3_init_59 (by simp only [mm]; exact (FZ.C (g := g) hk hg).k) (ci := 5) (r := vwC5) rfl 8 (by decide) wd_165 rfl rfl rfl rfl ?_
  refine v_aload_n (pc := 62) hX dX3_init_62 rfl ?_
  refine v_iconst (v := 0) (pc := 63) hX dX3_init_63 (by decide) ?_
  refine v_put (m1 := (sI (sI (sI (sI (sI (sI (sI (fcC g m f) 163 f 0) 164 f 0) 165 f 0) 166 f 0) 167 f 0) 168 f 0) 169 f 0)) (pc := 64) hX dX3_init_64 (by simp only [mm]; exact (FZ.C (g := g) hk hg).k) (ci := 5) (r := vwC5) rfl 9 (by decide) wd_167 rfl rfl rfl rfl ?_
  refine v_aload_n (pc := 67) hX dX3_init_67 rfl ?_
  refine v_iconst (v := 0) (pc := 68) hX dX3_init_68 (by decide) ?_
  refine v_put (m1 := (sI (sI (sI (sI (sI (sI (sI (sI (fcC g m f) 163 f 0) 164 f 0) 165 f 0) 166 f 0) 167 f 0) 168 f 0) 169 f 0) 170 f 0)) (pc := 69) hX dX3_init_69 (by simp only [mm]; exact (FZ.C (g := g) hk hg).k) (ci := 5) (r := vwC5) rfl 10 (by decide) wd_169 rfl rfl rfl rfl ?_
  refine v_aload_n (pc := 72) hX dX3_init_72 rfl ?_
  refine v_lconst (v := 0) (pc := 73) hX dX3_init_73 (by decide) ?_
  refine v_put (m1 := (sJ (sI (sI (sI (sI (sI (sI (sI (sI (fcC g m f) 163 f 0) 164 f 0) 165 f 0) 166 f 0) 167 f 0) 168 f 0) 169 f 0) 170 f 0) 171 f ((0 : Int64)))) (pc := 74) hX dX3_init_74 (by simp only [mm]; exact (FZ.C (g := g) hk hg).k) (ci := 5) (r := vwC5) rfl 11 (by decide) wd_171 rfl rfl rfl rfl ?_
  refine mV_eqM (m1 := (fcP g m f 0)) (fcP_0) ?_
  refine v_iconst (v := 0) (pc := 77) hX dX3_init_77 (by decide) ?_
  refine v_istore_n (pc := 78) hX dX3_init_78 (by decide) rfl ?_
  refine v_iload_n (pc := 79) hX dX3_init_79 rfl ?_
  refine v_aload_n (pc := 80) hX dX3_init_80 rfl ?_
  refine v_get (v := .ref (f + 2)) (pc := 81) hX dX3_init_81 (by exact (FZ.P (g := g) hk hg 0 (by decide)).k) (ci := 5) (r := vwC5) rfl 1 (by decide) wd_152 (fvA rfl (((fcP_R (g := g) hk hg (ky := 161) (by decide) 0 (by decide)).trans (fcC_R (g := g) hk hg).2.1))) ?_
  refine v_alen (t := 8) (n := 8) (pc := 84) hX dX3_init_84 (by exact (FZ.P (g := g) hk hg 0 (by decide)).kk (j := 1) (by decide)) (by decide) ?_
  refine v_icmp_ge (tgt := 107) (pc := 85) hX dX3_init_85 (by decide) (fun c1 => ?_) (fun c1 => ?_)
  · exact absurd c1 (by decide)
  ·
    refine v_aload_n (pc := 88) hX dX3_init_88 rfl ?_
    refine v_get (v := .ref (f + 2)) (pc := 89) hX dX3_init_89 (by exact (FZ.P (g := g) hk hg 0 (by decide)).k) (ci := 5) (r := vwC5) rfl 1 (by decide) wd_152 (fvA rfl (((fcP_R (g := g) hk hg (ky := 161) (by decide) 0 (by decide)).trans (fcC_R (g := g) hk hg).2.1))) ?_
    refine v_iload_n (pc := 92) hX dX3_init_92 rfl ?_
    refine v_new (ci := 9) (r := vwC9) (pc := 93) hX dX3_init_93 rfl wd_79 wd_83 wd_4 (by decide) (by decide) ?_
    rw [(FZ.P (g := g) hk hg 0 (by decide)).nn (a := f + 4) (by omega)]
    refine v_dup (pc := 96) hX dX3_init_96 rfl ?_
    refine v_callIN (z := yX7_init) (pc := 97) hX dX3_init_97 (c_X7_init hO ((nw ((fcP g m f 0)) (.inl 9))) (f + 4) (by simp only [mm, kK_X4_init, kK_X5_init, kK_X7_init]; exact (FZ.P (g := g) hk hg 0 (by decide)).new (by omega))) wd_84 wd_85 wd_4 wd_86 rfl ⟨by decide, by decide, (by decide +kernel : (parseMethodDescriptor yX7_init.desc).map (fun d => d.parameters.length) = some 0)⟩ rfl (Nat.le_of_ble_eq_true rfl) ⟨⟨by decide, by decide⟩, by decide, by decide⟩ (fun E m9 h9 => h9.elim) (fun r9 m9 h9 => ?_)
    obtain ⟨rfl, h8⟩ := h9
    replace h8 := h8.symm
    subst h8
    show mV g x _ _ _ _ _ [.ref (f + 4), .int 0, .ref (f + 2)]
    refine v_aast (ci := 9) (pc := 100) hX dX3_init_100 (t := 8) (n := 8) (by simp only [mm, kK_X4_init, kK_X5_init, kK_X7_init]; exact (FZ.P (g := g) hk hg 0 (by decide)).kj (j := 1) (by decide) rfl) (by decide) (by decide) rfl (by simp only [mm, kK_X4_init, kK_X5_init, kK_X7_init]; exact (FZ.P (g := g) hk hg 0 (by decide)).new (by omega)) (r := vwC9) rfl (j := 0) (by decide) (by decide) (by decide) ?_
    refine mV_eqM (m1 := (fcP g m f 1)) (fcP_f (j := 0) (by decide) (by omega)) ?_
    refine v_iinc (w := 0 + 1) (pc := 101) hX dX3_init_101 rfl rfl (by decide) rfl ?_
    refine v_goto (tgt := 79) (pc := 104) hX dX3_init_104 (by decide) ?_
    refine v_iload_n (pc := 79) hX dX3_init_79 rfl ?_
    refine v_aload_n (pc := 80) hX dX3_init_80 rfl ?_
    refine v_get (v := .ref (f + 2)) (pc := 81) hX dX3_init_81 (by exact (FZ.P (g := g) hk hg 1 (by decide)).k) (ci := 5) (r := vwC5) rfl 1 (by decide) wd_152 (fvA rfl (((fcP_R (g := g) hk hg (ky := 161) (by decide) 1 (by decide)).trans (fcC_R (g := g) hk hg).2.1))) ?_
    refine v_alen (t := 8) (n := 8) (pc := 84) hX dX3_init_84 (by exact (FZ.P (g := g) hk hg 1 (by decide)).kk (j := 1) (by decide)) (by decide) ?_
    refine v_icmp_ge (tgt := 107) (pc := 85) hX dX3_init_85 (by decide) (fun c2 => ?_) (fun c2 => ?_)
    · exact absurd c2 (by decide)
    ·
      refine v_aload_n (pc := 88) hX dX3_init_88 rfl ?_
      refine v_get (v := .ref (f + 2)) (pc := 89) hX dX3_init_89 (by exact (FZ.P (g := g) hk hg 1 (by decide)).k) (ci := 5) (r := vwC5) rfl 1 (by decide) wd_152 (fvA rfl (((fcP_R (g := g) hk hg (ky := 161) (by decide) 1 (by decide)).trans (fcC_R (g := g) hk hg).2.1))) ?_
      refine v_iload_n (pc := 92) hX dX3_init_92 rfl ?_
      refine v_new (ci := 9) (r := vwC9) (pc := 93) hX dX3_init_93 rfl wd_79 wd_83 wd_4 (by decide) (by decide) ?_
      rw [(FZ.P (g := g) hk hg 1 (by decide)).nn (a := f + 5) (by omega)]
      refine v_dup (pc := 96) hX dX3_init_96 rfl ?_
      refine v_callIN (z := yX7_init) (pc := 97) hX dX3_init_97 (c_X7_init hO ((nw ((fcP g m f 1)) (.inl 9))) (f + 5) (by simp only [mm, kK_X4_init, kK_X5_init, kK_X7_init]; exact (FZ.P (g := g) hk hg 1 (by decide)).new (by omega))) wd_84 wd_85 wd_4 wd_86 rfl ⟨by decide, by decide, (by decide +kernel : (parseMethodDescriptor yX7_init.desc).map (fun d => d.parameters.length) = some 0)⟩ rfl (Nat.le_of_ble_eq_true rfl) ⟨⟨by decide, by decide⟩, by decide, by decide⟩ (fun E m9 h9 => h9.elim) (fun r9 m9 h9 => ?_)
      obtain ⟨rfl, h8⟩ := h9
      replace h8 := h8.symm
      subst h8
      show mV g x _ _ _ _ _ [.ref (f + 5), .int (0 + 1), .ref (f + 2)]
      refine v_aast (ci := 9) (pc := 100) hX dX3_init_100 (t := 8) (n := 8) (by simp only [mm, kK_X4_init, kK_X5_init, kK_X7_init]; exact (FZ.P (g := g) hk hg 1 (by decide)).kj (j := 1) (by decide) rfl) (by decide) (by decide) rfl (by simp only [mm, kK_X4_init, kK_X5_init, kK_X7_init]; exact (FZ.P (g := g) hk hg 1 (by decide)).new (by omega)) (r := vwC9) rfl (j := 1) (by decide) (by decide) (by decide) ?_
      refine mV_eqM (m1 := (fcP g m f 2)) (fcP_f (j := 1) (by decide) (by omega)) ?_
      refine v_iinc (w := (0 + 1) + 1) (pc := 101) hX dX3_init_101 rfl rfl (by decide) rfl ?_
      refine v_goto (tgt := 79) (pc := 104) hX dX3_init_104 (by decide) ?_
      refine v_iload_n (pc := 79) hX dX3_init_79 rfl ?_
      refine v_aload_n (pc := 80) hX dX3_init_80 rfl ?_
      refine v_get (v := .ref (f + 2)) (pc := 81) hX dX3_init_81 (by exact (FZ.P (g := g) hk hg 2 (by decide)).k) (ci := 5) (r := vwC5) rfl 1 (by decide) wd_152 (fvA rfl (((fcP_R (g := g) hk hg (ky := 161) (by decide) 2 (by decide)).trans (fcC_R (g := g) hk hg).2.1))) ?_
      refine v_alen (t := 8) (n := 8) (pc := 84) hX dX3_init_84 (by exact (FZ.P (g := g) hk hg 2 (by decide)).kk (j := 1) (by decide)) (by decide) ?_
      refine v_icmp_ge (tgt := 107) (pc := 85) hX dX3_init_85 (by decide) (fun c3 => ?_) (fun c3 => ?_)
      · exact absurd c3 (by decide)
      ·
        refine v_aload_n (pc := 88) hX dX3_init_88 rfl ?_
        refine v_get (v := .ref (f + 2)) (pc := 89) hX dX3_init_89 (by exact (FZ.P (g := g) hk hg 2 (by decide)).k) (ci := 5) (r := vwC5) rfl 1 (by decide) wd_152 (fvA rfl (((fcP_R (g := g) hk hg (ky := 161) (by decide) 2 (by decide)).trans (fcC_R (g := g) hk hg).2.1))) ?_
        refine v_iload_n (pc := 92) hX dX3_init_92 rfl ?_
        refine v_new (ci := 9) (r := vwC9) (pc := 93) hX dX3_init_93 rfl wd_79 wd_83 wd_4 (by decide) (by decide) ?_
        rw [(FZ.P (g := g) hk hg 2 (by decide)).nn (a := f + 6) (by omega)]
        refine v_dup (pc := 96) hX dX3_init_96 rfl ?_
        refine v_callIN (z := yX7_init) (pc := 97) hX dX3_init_97 (c_X7_init hO ((nw ((fcP g m f 2)) (.inl 9))) (f + 6) (by simp only [mm, kK_X4_init, kK_X5_init, kK_X7_init]; exact (FZ.P (g := g) hk hg 2 (by decide)).new (by omega))) wd_84 wd_85 wd_4 wd_86 rfl ⟨by decide, by decide, (by decide +kernel : (parseMethodDescriptor yX7_init.desc).map (fun d => d.parameters.length) = some 0)⟩ rfl (Nat.le_of_ble_eq_true rfl) ⟨⟨by decide, by decide⟩, by decide, by decide⟩ (fun E m9 h9 => h9.elim) (fun r9 m9 h9 => ?_)
        obtain ⟨rfl, h8⟩ := h9
        replace h8 := h8.symm
        subst h8
        show mV g x _ _ _ _ _ [.ref (f + 6), .int ((0 + 1) + 1), .ref (f + 2)]
        refine v_aast (ci := 9) (pc := 100) hX dX3_init_100 (t := 8) (n := 8) (by simp only [mm, kK_X4_init, kK_X5_init, kK_X7_init]; exact (FZ.P (g := g) hk hg 2 (by decide)).kj (j := 1) (by decide) rfl) (by decide) (by decide) rfl (by simp only [mm, kK_X4_init, kK_X5_init, kK_X7_init]; exact (FZ.P (g := g) hk hg 2 (by decide)).new (by omega)) (r := vwC9) rfl (j := 2) (by decide) (by decide) (by decide) ?_
        refine mV_eqM (m1 := (fcP g m f 3)) (fcP_f (j := 2) (by decide) (by omega)) ?_
        refine v_iinc (w := ((0 + 1) + 1) + 1) (pc := 101) hX dX3_init_101 rfl rfl (by decide) rfl ?_
        refine v_goto (tgt := 79) (pc := 104) hX dX3_init_104 (by decide) ?_
        refine v_iload_n (pc := 79) hX dX3_init_79 rfl ?_
        refine v_aload_n (pc := 80) hX dX3_init_80 rfl ?_
        refine v_get (v := .ref (f + 2)) (pc := 81) hX dX3_init_81 (by exact (FZ.P (g := g) hk hg 3 (by decide)).k) (ci := 5) (r := vwC5) rfl 1 (by decide) wd_152 (fvA rfl (((fcP_R (g := g) hk hg (ky := 161) (by decide) 3 (by decide)).trans (fcC_R (g := g) hk hg).2.1))) ?_
        refine v_alen (t := 8) (n := 8) (pc := 84) hX dX3_init_84 (by exact (FZ.P (g := g) hk hg 3 (by decide)).kk (j := 1) (by decide)) (by decide) ?_
        refine v_icmp_ge (tgt := 107) (pc := 85) hX dX3_init_85 (by decide) (fun c4 => ?_) (fun c4 => ?_)
        · exact absurd c4 (by decide)
        ·
          refine v_aload_n (pc := 88) hX dX3_init_88 rfl ?_
          refine v_get (v := .ref (f + 2)) (pc := 89) hX dX3_init_89 (by exact (FZ.P (g := g) hk hg 3 (by decide)).k) (ci := 5) (r := vwC5) rfl 1 (by decide) wd_152 (fvA rfl (((fcP_R (g := g) hk hg (ky := 161) (by decide) 3 (by decide)).trans (fcC_R (g := g) hk hg).2.1))) ?_
          refine v_iload_n (pc := 92) hX dX3_init_92 rfl ?_
          refine v_new (ci := 9) (r := vwC9) (pc := 93) hX dX3_init_93 rfl wd_79 wd_83 wd_4 (by decide) (by decide) ?_
          rw [(FZ.P (g := g) hk hg 3 (by decide)).nn (a := f + 7) (by omega)]
          refine v_dup (pc := 96) hX dX3_init_96 rfl ?_
          refine v_callIN (z := yX7_init) (pc := 97) hX dX3_init_97 (c_X7_init hO ((nw ((fcP g m f 3)) (.inl 9))) (f + 7) (by simp only [mm, kK_X4_init, kK_X5_init, kK_X7_init]; exact (FZ.P (g := g) hk hg 3 (by decide)).new (by omega))) wd_84 wd_85 wd_4 wd_86 rfl ⟨by decide, by decide, (by decide +kernel : (parseMethodDescriptor yX7_init.desc).map (fun d => d.parameters.length) = some 0)⟩ rfl (Nat.le_of_ble_eq_true rfl) ⟨⟨by decide, by decide⟩, by decide, by decide⟩ (fun E m9 h9 => h9.elim) (fun r9 m9 h9 => ?_)
          obtain ⟨rfl, h8⟩ := h9
          replace h8 := h8.symm
          subst h8
          show mV g x _ _ _ _ _ [.ref (f + 7), .int (((0 + 1) + 1) + 1), .ref (f + 2)]
          refine v_aast (ci := 9) (pc := 100) hX dX3_init_100 (t := 8) (n := 8) (by simp only [mm, kK_X4_init, kK_X5_init, kK_X7_init]; exact (FZ.P (g := g) hk hg 3 (by decide)).kj (j := 1) (by decide) rfl) (by decide) (by decide) rfl (by simp only [mm, kK_X4_init, kK_X5_init, kK_X7_init]; exact (FZ.P (g := g) hk hg 3 (by decide)).new (by omega)) (r := vwC9) rfl (j := 3) (by decide) (by decide) (by decide) ?_
          refine mV_eqM (m1 := (fcP g m f 4)) (fcP_f (j := 3) (by decide) (by omega)) ?_
          refine v_iinc (w := (((0 + 1) + 1) + 1) + 1) (pc := 101) hX dX3_init_101 rfl rfl (by decide) rfl ?_
          refine v_goto (tgt := 79) (pc := 104) hX dX3_init_104 (by decide) ?_
          refine v_iload_n (pc := 79) hX dX3_init_79 rfl ?_
          refine v_aload_n (pc := 80) hX dX3_init_80 rfl ?_
          refine v_get (v := .ref (f + 2)) (pc := 81) hX dX3_init_81 (by exact (FZ.P (g := g) hk hg 4 (by decide)).k) (ci := 5) (r := vwC5) rfl 1 (by decide) wd_152 (fvA rfl (((fcP_R (g := g) hk hg (ky := 161) (by decide) 4 (by decide)).trans (fcC_R (g := g) hk hg).2.1))) ?_
          refine v_alen (t := 8) (n := 8) (pc := 84) hX dX3_init_84 (by exact (FZ.P (g := g) hk hg 4 (by decide)).kk (j := 1) (by decide)) (by decide) ?_
          refine v_icmp_ge (tgt := 107) (pc := 85) hX dX3_init_85 (by decide) (fun c5 => ?_) (fun c5 => ?_)
          · exact absurd c5 (by decide)
          ·
            refine v_aload_n (pc := 88) hX dX3_init_88 rfl ?_
            refine v_get (v := .ref (f + 2)) (pc := 89) hX dX3_init_89 (by exact (FZ.P (g := g) hk hg 4 (by decide)).k) (ci := 5) (r := vwC5) rfl 1 (by decide) wd_152 (fvA rfl (((fcP_R (g := g) hk hg (ky := 161) (by decide) 4 (by decide)).trans (fcC_R (g := g) hk hg).2.1))) ?_
            refine v_iload_n (pc := 92) hX dX3_init_92 rfl ?_
            refine v_new (ci := 9) (r := vwC9) (pc := 93) hX dX3_init_93 rfl wd_79 wd_83 wd_4 (by decide) (by decide) ?_
            rw [(FZ.P (g := g) hk hg 4 (by decide)).nn (a := f + 8) (by omega)]
            refine v_dup (pc := 96) hX dX3_init_96 rfl ?_
            refine v_callIN (z := yX7_init) (pc := 97) hX dX3_init_97 (c_X7_init hO ((nw ((fcP g m f 4)) (.inl 9))) (f + 8) (by simp only [mm, kK_X4_init, kK_X5_init, kK_X7_init]; exact (FZ.P (g := g) hk hg 4 (by decide)).new (by omega))) wd_84 wd_85 wd_4 wd_86 rfl ⟨by decide, by decide, (by decide +kernel : (parseMethodDescriptor yX7_init.desc).map (fun d => d.parameters.length) = some 0)⟩ rfl (Nat.le_of_ble_eq_true rfl) ⟨⟨by decide, by decide⟩, by decide, by decide⟩ (fun E m9 h9 => h9.elim) (fun r9 m9 h9 => ?_)
            obtain ⟨rfl, h8⟩ := h9
            replace h8 := h8.symm
            subst h8
            show mV g x _ _ _ _ _ [.ref (f + 8), .int ((((0 + 1) + 1) + 1) + 1), .ref (f + 2)]
            refine v_aast (ci := 9) (pc := 100) hX dX3_init_100 (t := 8) (n := 8) (by simp only [mm, kK_X4_init, kK_X5_init, kK_X7_init]; exact (FZ.P (g := g) hk hg 4 (by decide)).kj (j := 1) (by decide) rfl) (by decide) (by decide) rfl (by simp only [mm, kK_X4_init, kK_X5_init, kK_X7_init]; exact (FZ.P (g := g) hk hg 4 (by decide)).new (by omega)) (r := vwC9) rfl (j := 4) (by decide) (by decide) (by decide) ?_
            refine mV_eqM (m1 := (fcP g m f 5)) (fcP_f (j := 4) (by decide) (by omega)) ?_
            refine v_iinc (w := ((((0 + 1) + 1) + 1) + 1) + 1) (pc := 101) hX dX3_init_101 rfl rfl (by decide) rfl ?_
            refine v_goto (tgt := 79) (pc := 104) hX dX3_init_104 (by decide) ?_
            refine v_iload_n (pc := 79) hX dX3_init_79 rfl ?_
            refine v_aload_n (pc := 80) hX dX3_init_80 rfl ?_
            refine v_get (v := .ref (f + 2)) (pc := 81) hX dX3_init_81 (by exact (FZ.P (g := g) hk hg 5 (by decide)).k) (ci := 5) (r := vwC5) rfl 1 (by decide) wd_152 (fvA rfl (((fcP_R (g := g) hk hg (ky := 161) (by decide) 5 (by decide)).trans (fcC_R (g := g) hk hg).2.1))) ?_
            refine v_alen (t := 8) (n := 8) (pc := 84) hX dX3_init_84 (by exact (FZ.P (g := g) hk hg 5 (by decide)).kk (j := 1) (by decide)) (by decide) ?_
            refine v_icmp_ge (tgt := 107) (pc := 85) hX dX3_init_85 (by decide) (fun c6 => ?_) (fun c6 => ?_)
            · exact absurd c6 (by decide)
            ·
              refine v_aload_n (pc := 88) hX dX3_init_88 rfl ?_
              refine v_get (v := .ref (f + 2)) (pc := 89) hX dX3_init_89 (by exact (FZ.P (g := g) hk hg 5 (by decide)).k) (ci := 5) (r := vwC5) rfl 1 (by decide) wd_152 (fvA rfl (((fcP_R (g := g) hk hg (ky := 161) (by decide) 5 (by decide)).trans (fcC_R (g := g) hk hg).2.1))) ?_
              refine v_iload_n (pc := 92) hX dX3_init_92 rfl ?_
              refine v_new (ci := 9) (r := vwC9) (pc := 93) hX dX3_init_93 rfl wd_79 wd_83 wd_4 (by decide) (by decide) ?_
              rw [(FZ.P (g := g) hk hg 5 (by decide)).nn (a := f + 9) (by omega)]
              refine v_dup (pc := 96) hX dX3_init_96 rfl ?_
              refine v_callIN (z := yX7_init) (pc := 97) hX dX3_init_97 (c_X7_init hO ((nw ((fcP g m f 5)) (.inl 9))) (f + 9) (by simp only [mm, kK_X4_init, kK_X5_init, kK_X7_init]; exact (FZ.P (g := g) hk hg 5 (by decide)).new (by omega))) wd_84 wd_85 wd_4 wd_86 rfl ⟨by decide, by decide, (by decide +kernel : (parseMethodDescriptor yX7_init.desc).map (fun d => d.parameters.length) = some 0)⟩ rfl (Nat.le_of_ble_eq_true rfl) ⟨⟨by decide, by decide⟩, by decide, by decide⟩ (fun E m9 h9 => h9.elim) (fun r9 m9 h9 => ?_)
              obtain ⟨rfl, h8⟩ := h9
              replace h8 := h8.symm
              subst h8
              show mV g x _ _ _ _ _ [.ref (f + 9), .int (((((0 + 1) + 1) + 1) + 1) + 1), .ref (f + 2)]
              refine v_aast (ci := 9) (pc := 100) hX dX3_init_100 (t := 8) (n := 8) (by simp only [mm, kK_X4_init, kK_X5_init, kK_X7_init]; exact (FZ.P (g := g) hk hg 5 (by decide)).kj (j := 1) (by decide) rfl) (by decide) (by decide) rfl (by simp only [mm, kK_X4_init, kK_X5_init, kK_X7_init]; exact (FZ.P (g := g) hk hg 5 (by decide)).new (by omega)) (r := vwC9) rfl (j := 5) (by decide) (by decide) (by decide) ?_
              refine mV_eqM (m1 := (fcP g m f 6)) (fcP_f (j := 5) (by decide) (by omega)) ?_
              refine v_iinc (w := (((((0 + 1) + 1) + 1) + 1) + 1) + 1) (pc := 101) hX dX3_init_101 rfl rfl (by decide) rfl ?_
              refine v_goto (tgt := 79) (pc := 104) hX dX3_init_104 (by decide) ?_
              refine v_iload_n (pc := 79) hX dX3_init_79 rfl ?_
              refine v_aload_n (pc := 80) hX dX3_init_80 rfl ?_
              refine v_get (v := .ref (f + 2)) (pc := 81) hX dX3_init_81 (by exact (FZ.P (g := g) hk hg 6 (by decide)).k) (ci := 5) (r := vwC5) rfl 1 (by decide) wd_152 (fvA rfl (((fcP_R (g := g) hk hg (ky := 161) (by decide) 6 (by decide)).trans (fcC_R (g := g) hk hg).2.1))) ?_
              refine v_alen (t := 8) (n := 8) (pc := 84) hX dX3_init_84 (by exact (FZ.P (g := g) hk hg 6 (by decide)).kk (j := 1) (by decide)) (by decide) ?_
              refine v_icmp_ge (tgt := 107) (pc := 85) hX dX3_init_85 (by decide) (fun c7 => ?_) (fun c7 => ?_)
              · exact absurd c7 (by decide)
              ·
                refine v_aload_n (pc := 88) hX dX3_init_88 rfl ?_
                refine v_get (v := .ref (f + 2)) (pc := 89) hX dX3_init_89 (by exact (FZ.P (g := g) hk hg 6 (by decide)).k) (ci := 5) (r := vwC5) rfl 1 (by decide) wd_152 (fvA rfl (((fcP_R (g := g) hk hg (ky := 161) (by decide) 6 (by decide)).trans (fcC_R (g := g) hk hg).2.1))) ?_
                refine v_iload_n (pc := 92) hX dX3_init_92 rfl ?_
                refine v_new (ci := 9) (r := vwC9) (pc := 93) hX dX3_init_93 rfl wd_79 wd_83 wd_4 (by decide) (by decide) ?_
                rw [(FZ.P (g := g) hk hg 6 (by decide)).nn (a := f + 10) (by omega)]
                refine v_dup (pc := 96) hX dX3_init_96 rfl ?_
                refine v_callIN (z := yX7_init) (pc := 97) hX dX3_init_97 (c_X7_init hO ((nw ((fcP g m f 6)) (.inl 9))) (f + 10) (by simp only [mm, kK_X4_init, kK_X5_init, kK_X7_init]; exact (FZ.P (g := g) hk hg 6 (by decide)).new (by omega))) wd_84 wd_85 wd_4 wd_86 rfl ⟨by decide, by decide, (by decide +kernel : (parseMethodDescriptor yX7_init.desc).map (fun d => d.parameters.length) = some 0)⟩ rfl (Nat.le_of_ble_eq_true rfl) ⟨⟨by decide, by decide⟩, by decide, by decide⟩ (fun E m9 h9 => h9.elim) (fun r9 m9 h9 => ?_)
                obtain ⟨rfl, h8⟩ := h9
                replace h8 := h8.symm
                subst h8
                show mV g x _ _ _ _ _ [.ref (f + 10), .int ((((((0 + 1) + 1) + 1) + 1) + 1) + 1), .ref (f + 2)]
                refine v_aast (ci := 9) (pc := 100) hX dX3_init_100 (t := 8) (n := 8) (by simp only [mm, kK_X4_init, kK_X5_init, kK_X7_init]; exact (FZ.P (g := g) hk hg 6 (by decide)).kj (j := 1) (by decide) rfl) (by decide) (by decide) rfl (by simp only [mm, kK_X4_init, kK_X5_init, kK_X7_init]; exact (FZ.P (g := g) hk hg 6 (by decide)).new (by omega)) (r := vwC9) rfl (j := 6) (by decide) (by decide) (by decide) ?_
                refine mV_eqM (m1 := (fcP g m f 7)) (fcP_f (j := 6) (by decide) (by omega)) ?_
                refine v_iinc (w := ((((((0 + 1) + 1) + 1) + 1) + 1) + 1) + 1) (pc := 101) hX dX3_init_101 rfl rfl (by decide) rfl ?_
                refine v_goto (tgt := 79) (pc := 104) hX dX3_init_104 (by decide) ?_
                refine v_iload_n (pc := 79) hX dX3_init_79 rfl ?_
                refine v_aload_n (pc := 80) hX dX3_init_80 rfl ?_
                refine v_get (v := .ref (f + 2)) (pc := 81) hX dX3_init_81 (by exact (FZ.P (g := g) hk hg 7 (by decide)).k) (ci := 5) (r := vwC5) rfl 1 (by decide) wd_152 (fvA rfl (((fcP_R (g := g) hk hg (ky := 161) (by decide) 7 (by decide)).trans (fcC_R (g := g) hk hg).2.1))) ?_
                refine v_alen (t := 8) (n := 8) (pc := 84) hX dX3_init_84 (by exact (FZ.P (g := g) hk hg 7 (by decide)).kk (j := 1) (by decide)) (by decide) ?_
                refine v_icmp_ge (tgt := 107) (pc := 85) hX dX3_init_85 (by decide) (fun c8 => ?_) (fun c8 => ?_)
                · exact absurd c8 (by decide)
                ·
                  refine v_aload_n (pc := 88) hX dX3_init_88 rfl ?_
                  refine v_get (v := .ref (f + 2)) (pc := 89) hX dX3_init_89 (by exact (FZ.P (g := g) hk hg 7 (by decide)).k) (ci := 5) (r := vwC5) rfl 1 (by decide) wd_152 (fvA rfl (((fcP_R (g := g) hk hg (ky := 161) (by decide) 7 (by decide)).trans (fcC_R (g := g) hk hg).2.1))) ?_
                  refine v_iload_n (pc := 92) hX dX3_init_92 rfl ?_
                  refine v_new (ci := 9) (r := vwC9) (pc := 93) hX dX3_init_93 rfl wd_79 wd_83 wd_4 (by decide) (by decide) ?_
                  rw [(FZ.P (g := g) hk hg 7 (by decide)).nn (a := f + 11) (by omega)]
                  refine v_dup (pc := 96) hX dX3_init_96 rfl ?_
                  refine v_callIN (z := yX7_init) (pc := 97) hX dX3_init_97 (c_X7_init hO ((nw ((fcP g m f 7)) (.inl 9))) (f + 11) (by simp only [mm, kK_X4_init, kK_X5_init, kK_X7_init]; exact (FZ.P (g := g) hk hg 7 (by decide)).new (by omega))) wd_84 wd_85 wd_4 wd_86 rfl ⟨by decide, by decide, (by decide +kernel : (parseMethodDescriptor yX7_init.desc).map (fun d => d.parameters.length) = some 0)⟩ rfl (Nat.le_of_ble_eq_true rfl) ⟨⟨by decide, by decide⟩, by decide, by decide⟩ (fun E m9 h9 => h9.elim) (fun r9 m9 h9 => ?_)
                  obtain ⟨rfl, h8⟩ := h9
                  replace h8 := h8.symm
                  subst h8
                  show mV g x _ _ _ _ _ [.ref (f + 11), .int (((((((0 + 1) + 1) + 1) + 1) + 1) + 1) + 1), .ref (f + 2)]
                  refine v_aast (ci := 9) (pc := 100) hX dX3_init_100 (t := 8) (n := 8) (by simp only [mm, kK_X4_init, kK_X5_init, kK_X7_init]; exact (FZ.P (g := g) hk hg 7 (by decide)).kj (j := 1) (by decide) rfl) (by decide) (by decide) rfl (by simp only [mm, kK_X4_init, kK_X5_init, kK_X7_init]; exact (FZ.P (g := g) hk hg 7 (by decide)).new (by omega)) (r := vwC9) rfl (j := 7) (by decide) (by decide) (by decide) ?_
                  refine mV_eqM (m1 := (fcP g m f 8)) (fcP_f (j := 7) (by decide) (by omega)) ?_
                  refine v_iinc (w := (((((((0 + 1) + 1) + 1) + 1) + 1) + 1) + 1) + 1) (pc := 101) hX dX3_init_101 rfl rfl (by decide) rfl ?_
                  refine v_goto (tgt := 79) (pc := 104) hX dX3_init_104 (by decide) ?_
                  refine v_iload_n (pc := 79) hX dX3_init_79 rfl ?_
                  refine v_aload_n (pc := 80) hX dX3_init_80 rfl ?_
                  refine v_get (v := .ref (f + 2)) (pc := 81) hX dX3_init_81 (by exact (FZ.P (g := g) hk hg 8 (by decide)).k) (ci := 5) (r := vwC5) rfl 1 (by decide) wd_152 (fvA rfl (((fcP_R (g := g) hk hg (ky := 161) (by decide) 8 (by decide)).trans (fcC_R (g := g) hk hg).2.1))) ?_
                  refine v_alen (t := 8) (n := 8) (pc := 84) hX dX3_init_84 (by exact (FZ.P (g := g) hk hg 8 (by decide)).kk (j := 1) (by decide)) (by decide) ?_
                  refine v_icmp_ge (tgt := 107) (pc := 85) hX dX3_init_85 (by decide) (fun c9 => ?_) (fun c9 => ?_)
                  ·
                    refine v_iconst (v := 0) (pc := 107) hX dX3_init_107 (by decide) ?_
                    refine v_istore_n (pc := 108) hX dX3_init_108 (by decide) rfl ?_
                    refine mV_eqM (m1 := (fcH g m f 0)) (fcH_0) ?_
                    refine v_iload_n (pc := 109) hX dX3_init_109 rfl ?_
                    refine v_aload_n (pc := 110) hX dX3_init_110 rfl ?_
                    refine v_get (v := .ref (f + 3)) (pc := 111) hX dX3_init_111 (by exact (FZ.H (g := g) hk hg 0).k) (ci := 5) (r := vwC5) rfl 2 (by decide) wd_154 (fvA rfl (((fcH_R (g := g) hk hg (ky := 162) (by decide) 0).trans (fcC_R (g := g) hk hg).2.2))) ?_
                    refine v_alen (t := 7) (n := 4) (pc := 114) hX dX3_init_114 (by exact (FZ.H (g := g) hk hg 0).kk (j := 2) (by decide)) (by decide) ?_
                    refine v_icmp_ge (tgt := 137) (pc := 115) hX dX3_init_115 (by decide) (fun c10 => ?_) (fun c10 => ?_)
                    · exact absurd c10 (by decide)
                    ·
                      refine v_aload_n (pc := 118) hX dX3_init_118 rfl ?_
                      refine v_get (v := .ref (f + 3)) (pc := 119) hX dX3_init_119 (by exact (FZ.H (g := g) hk hg 0).k) (ci := 5) (r := vwC5) rfl 2 (by decide) wd_154 (fvA rfl (((fcH_R (g := g) hk hg (ky := 162) (by decide) 0).trans (fcC_R (g := g) hk hg).2.2))) ?_
                      refine v_iload_n (pc := 122) hX dX3_init_122 rfl ?_
                      refine v_new (ci := 7) (r := vwC7) (pc := 123) hX dX3_init_123 rfl wd_81 wd_133 wd_7 (by decide) (by decide) ?_
                      rw [(FZ.H (g := g) hk hg 0).nn (a := f + 12) (by omega)]
                      refine v_dup (pc := 126) hX dX3_init_126 rfl ?_
                      refine v_callIN (z := yX5_init) (pc := 127) hX dX3_init_127 (c_X5_init hO ((nw ((fcH g m f 0)) (.inl 7))) (f + 12) (by simp only [mm, kK_X4_init, kK_X5_init, kK_X7_init]; exact (FZ.H (g := g) hk hg 0).new (by omega))) wd_134 wd_135 wd_7 wd_136 rfl ⟨by decide, by decide, (by decide +kernel : (parseMethodDescriptor yX5_init.desc).map (fun d => d.parameters.length) = some 0)⟩ rfl (Nat.le_of_ble_eq_true rfl) ⟨⟨by decide, by decide⟩, by decide, by decide⟩ (fun E m9 h9 => h9.elim) (fun r9 m9 h9 => ?_)
                      obtain ⟨rfl, h8⟩ := h9
                      replace h8 := h8.symm
                      subst h8
                      show mV g x _ _ _ _ _ [.ref (f + 12), .int 0, .ref (f + 3)]
                      refine v_aast (ci := 7) (pc := 130) hX dX3_init_130 (t := 7) (n := 4) (by simp only [mm, kK_X4_init, kK_X5_init, kK_X7_init]; exact (FZ.H (g := g) hk hg 0).kj (j := 2) (by decide) rfl) (by decide) (by decide) rfl (by simp only [mm, kK_X4_init, kK_X5_init, kK_X7_init]; exact (FZ.H (g := g) hk hg 0).new (by omega)) (r := vwC7) rfl (j := 0) (by decide) (by decide) (by decide) ?_
                      refine mV_eqM (m1 := (fcH g m f 1)) (fcH_f (j := 0) (by decide) (by omega)) ?_
                      refine v_iinc (w := 0 + 1) (pc := 131) hX dX3_init_131 rfl rfl (by decide) rfl ?_
                      refine v_goto (tgt := 109) (pc := 134) hX dX3_init_134 (by decide) ?_
                      refine v_iload_n (pc := 109) hX dX3_init_109 rfl ?_
                      refine v_aload_n (pc := 110) hX dX3_init_110 rfl ?_
                      refine v_get (v := .ref (f + 3)) (pc := 111) hX dX3_init_111 (by exact (FZ.H (g := g) hk hg 1).k) (ci := 5) (r := vwC5) rfl 2 (by decide) wd_154 (fvA rfl (((fcH_R (g := g) hk hg (ky := 162) (by decide) 1).trans (fcC_R (g := g) hk hg).2.2))) ?_
                      refine v_alen (t := 7) (n := 4) (pc := 114) hX dX3_init_114 (by exact (FZ.H (g := g) hk hg 1).kk (j := 2) (by decide)) (by decide) ?_
                      refine v_icmp_ge (tgt := 137) (pc := 115) hX dX3_init_115 (by decide) (fun c11 => ?_) (fun c11 => ?_)
                      · exact absurd c11 (by decide)
                      ·
                        refine v_aload_n (pc := 118) hX dX3_init_118 rfl ?_
                        refine v_get (v := .ref (f + 3)) (pc := 119) hX dX3_init_119 (by exact (FZ.H (g := g) hk hg 1).k) (ci := 5) (r := vwC5) rfl 2 (by decide) wd_154 (fvA rfl (((fcH_R (g := g) hk hg (ky := 162) (by decide) 1).trans (fcC_R (g := g) hk hg).2.2))) ?_
                        refine v_iload_n (pc := 122) hX dX3_init_122 rfl ?_
                        refine v_new (ci := 7) (r := vwC7) (pc := 123) hX dX3_init_123 rfl wd_81 wd_133 wd_7 (by decide) (by decide) ?_
                        rw [(FZ.H (g := g) hk hg 1).nn (a := f + 13) (by omega)]
                        refine v_dup (pc := 126) hX dX3_init_126 rfl ?_
                        refine v_callIN (z := yX5_init) (pc := 127) hX dX3_init_127 (c_X5_init hO ((nw ((fcH g m f 1)) (.inl 7))) (f + 13) (by simp only [mm, kK_X4_init, kK_X5_init, kK_X7_init]; exact (FZ.H (g := g) hk hg 1).new (by omega))) wd_134 wd_135 wd_7 wd_136 rfl ⟨by decide, by decide, (by decide +kernel : (parseMethodDescriptor yX5_init.desc).map (fun d => d.parameters.length) = some 0)⟩ rfl (Nat.le_of_ble_eq_true rfl) ⟨⟨by decide, by decide⟩, by decide, by decide⟩ (fun E m9 h9 => h9.elim) (fun r9 m9 h9 => ?_)
                        obtain ⟨rfl, h8⟩ := h9
                        replace h8 := h8.symm
                        subst h8
                        show mV g x _ _ _ _ _ [.ref (f + 13), .int (0 + 1), .ref (f + 3)]
                        refine v_aast (ci := 7) (pc := 130) hX dX3_init_130 (t := 7) (n := 4) (by simp only [mm, kK_X4_init, kK_X5_init, kK_X7_init]; exact (FZ.H (g := g) hk hg 1).kj (j := 2) (by decide) rfl) (by decide) (by decide) rfl (by simp only [mm, kK_X4_init, kK_X5_init, kK_X7_init]; exact (FZ.H (g := g) hk hg 1).new (by omega)) (r := vwC7) rfl (j := 1) (by decide) (by decide) (by decide) ?_
                        refine mV_eqM (m1 := (fcH g m f 2)) (fcH_f (j := 1) (by decide) (by omega)) ?_
                        refine v_iinc (w := (0 + 1) + 1) (pc := 131) hX dX3_init_131 rfl rfl (by decide) rfl ?_
                        refine v_goto (tgt := 109) (pc := 134) hX dX3_init_134 (by decide) ?_
                        refine v_iload_n (pc := 109) hX dX3_init_109 rfl ?_
                        refine v_aload_n (pc := 110) hX dX3_init_110 rfl ?_
                        refine v_get (v := .ref (f + 3)) (pc := 111) hX dX3_init_111 (by exact (FZ.H (g := g) hk hg 2).k) (ci := 5) (r := vwC5) rfl 2 (by decide) wd_154 (fvA rfl (((fcH_R (g := g) hk hg (ky := 162) (by decide) 2).trans (fcC_R (g := g) hk hg).2.2))) ?_
                        refine v_alen (t := 7) (n := 4) (pc := 114) hX dX3_init_114 (by exact (FZ.H (g := g) hk hg 2).kk (j := 2) (by decide)) (by decide) ?_
                        refine v_icmp_ge (tgt := 137) (pc := 115) hX dX3_init_115 (by decide) (fun c12 => ?_) (fun c12 => ?_)
                        · exact absurd c12 (by decide)
                        ·
                          refine v_aload_n (pc := 118) hX dX3_init_118 rfl ?_
                          refine v_get (v := .ref (f + 3)) (pc := 119) hX dX3_init_119 (by exact (FZ.H (g := g) hk hg 2).k) (ci := 5) (r := vwC5) rfl 2 (by decide) wd_154 (fvA rfl (((fcH_R (g := g) hk hg (ky := 162) (by decide) 2).trans (fcC_R (g := g) hk hg).2.2))) ?_
                          refine v_iload_n (pc := 122) hX dX3_init_122 rfl ?_
                          refine v_new (ci := 7) (r := vwC7) (pc := 123) hX dX3_init_123 rfl wd_81 wd_133 wd_7 (by decide) (by decide) ?_
                          rw [(FZ.H (g := g) hk hg 2).nn (a := f + 14) (by omega)]
                          refine v_dup (pc := 126) hX dX3_init_126 rfl ?_
                          refine v_callIN (z := yX5_init) (pc := 127) hX dX3_init_127 (c_X5_init hO ((nw ((fcH g m f 2)) (.inl 7))) (f + 14) (by simp only [mm, kK_X4_init, kK_X5_init, kK_X7_init]; exact (FZ.H (g := g) hk hg 2).new (by omega))) wd_134 wd_135 wd_7 wd_136 rfl ⟨by decide, by decide, (by decide +kernel : (parseMethodDescriptor yX5_init.desc).map (fun d => d.parameters.length) = some 0)⟩ rfl (Nat.le_of_ble_eq_true rfl) ⟨⟨by decide, by decide⟩, by decide, by decide⟩ (fun E m9 h9 => h9.elim) (fun r9 m9 h9 => ?_)
                          obtain ⟨rfl, h8⟩ := h9
                          replace h8 := h8.symm
                          subst h8
                          show mV g x _ _ _ _ _ [.ref (f + 14), .int ((0 + 1) + 1), .ref (f + 3)]
                          refine v_aast (ci := 7) (pc := 130) hX dX3_init_130 (t := 7) (n := 4) (by simp only [mm, kK_X4_init, kK_X5_init, kK_X7_init]; exact (FZ.H (g := g) hk hg 2).kj (j := 2) (by decide) rfl) (by decide) (by decide) rfl (by simp only [mm, kK_X4_init, kK_X5_init, kK_X7_init]; exact (FZ.H (g := g) hk hg 2).new (by omega)) (r := vwC7) rfl (j := 2) (by decide) (by decide) (by decide) ?_
                          refine mV_eqM (m1 := (fcH g m f 3)) (fcH_f (j := 2) (by decide) (by omega)) ?_
                          refine v_iinc (w := ((0 + 1) + 1) + 1) (pc := 131) hX dX3_init_131 rfl rfl (by decide) rfl ?_
                          refine v_goto (tgt := 109) (pc := 134) hX dX3_init_134 (by decide) ?_
                          refine v_iload_n (pc := 109) hX dX3_init_109 rfl ?_
                          refine v_aload_n (pc := 110) hX dX3_init_110 rfl ?_
                          refine v_get (v := .ref (f + 3)) (pc := 111) hX dX3_init_111 (by exact (FZ.H (g := g) hk hg 3).k) (ci := 5) (r := vwC5) rfl 2 (by decide) wd_154 (fvA rfl (((fcH_R (g := g) hk hg (ky := 162) (by decide) 3).trans (fcC_R (g := g) hk hg).2.2))) ?_
                          refine v_alen (t := 7) (n := 4) (pc := 114) hX dX3_init_114 (by exact (FZ.H (g := g) hk hg 3).kk (j := 2) (by decide)) (by decide) ?_
                          refine v_icmp_ge (tgt := 137) (pc := 115) hX dX3_init_115 (by decide) (fun c13 => ?_) (fun c13 => ?_)
                          · exact absurd c13 (by decide)
                          ·
                            refine v_aload_n (pc := 118) hX dX3_init_118 rfl ?_
                            refine v_get (v := .ref (f + 3)) (pc := 119) hX dX3_init_119 (by exact (FZ.H (g := g) hk hg 3).k) (ci := 5) (r := vwC5) rfl 2 (by decide) wd_154 (fvA rfl (((fcH_R (g := g) hk hg (ky := 162) (by decide) 3).trans (fcC_R (g := g) hk hg).2.2))) ?_
                            refine v_iload_n (pc := 122) hX dX3_init_122 rfl ?_
                            refine v_new (ci := 7) (r := vwC7) (pc := 123) hX dX3_init_123 rfl wd_81 wd_133 wd_7 (by decide) (by decide) ?_
                            rw [(FZ.H (g := g) hk hg 3).nn (a := f + 15) (by omega)]
                            refine v_dup (pc := 126) hX dX3_init_126 rfl ?_
                            refine v_callIN (z := yX5_init) (pc := 127) hX dX3_init_127 (c_X5_init hO ((nw ((fcH g m f 3)) (.inl 7))) (f + 15) (by simp only [mm, kK_X4_init, kK_X5_init, kK_X7_init]; exact (FZ.H (g := g) hk hg 3).new (by omega))) wd_134 wd_135 wd_7 wd_136 rfl ⟨by decide, by decide, (by decide +kernel : (parseMethodDescriptor yX5_init.desc).map (fun d => d.parameters.length) = some 0)⟩ rfl (Nat.le_of_ble_eq_true rfl) ⟨⟨by decide, by decide⟩, by decide, by decide⟩ (fun E m9 h9 => h9.elim) (fun r9 m9 h9 => ?_)
                            obtain ⟨rfl, h8⟩ := h9
                            replace h8 := h8.symm
                            subst h8
                            show mV g x _ _ _ _ _ [.ref (f + 15), .int (((0 + 1) + 1) + 1), .ref (f + 3)]
                            refine v_aast (ci := 7) (pc := 130) hX dX3_init_130 (t := 7) (n := 4) (by simp only [mm, kK_X4_init, kK_X5_init, kK_X7_init]; exact (FZ.H (g := g) hk hg 3).kj (j := 2) (by decide) rfl) (by decide) (by decide) rfl (by simp only [mm, kK_X4_init, kK_X5_init, kK_X7_init]; exact (FZ.H (g := g) hk hg 3).new (by omega)) (r := vwC7) rfl (j := 3) (by decide) (by decide) (by decide) ?_
                            refine mV_eqM (m1 := (fcH g m f 4)) (fcH_f (j := 3) (by decide) (by omega)) ?_
                            refine v_iinc (w := (((0 + 1) + 1) + 1) + 1) (pc := 131) hX dX3_init_131 rfl rfl (by decide) rfl ?_
                            refine v_goto (tgt := 109) (pc := 134) hX dX3_init_134 (by decide) ?_
                            refine v_iload_n (pc := 109) hX dX3_init_109 rfl ?_
                            refine v_aload_n (pc := 110) hX dX3_init_110 rfl ?_
                            refine v_get (v := .ref (f + 3)) (pc := 111) hX dX3_init_111 (by exact (FZ.H (g := g) hk hg 4).k) (ci := 5) (r := vwC5) rfl 2 (by decide) wd_154 (fvA rfl (((fcH_R (g := g) hk hg (ky := 162) (by decide) 4).trans (fcC_R (g := g) hk hg).2.2))) ?_
                            refine v_alen (t := 7) (n := 4) (pc := 114) hX dX3_init_114 (by exact (FZ.H (g := g) hk hg 4).kk (j := 2) (by decide)) (by decide) ?_
                            refine v_icmp_ge (tgt := 137) (pc := 115) hX dX3_init_115 (by decide) (fun c14 => ?_) (fun c14 => ?_)
                            ·
                              exact v_vret (pc := 137) hX hZ dX3_init_137 (by decide) (by decide) ⟨rfl, (by rw [X3_init_m])⟩
                            · exact absurd (by decide) c14
                  · exact absurd (by decide) c9
