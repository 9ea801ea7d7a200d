/-! how the reference's reading goes on: from m to m1 -/
def PG (m m1 : mM) (r : Nat) : Prop := okI (gI m1 401 r) 60 ∧ gI m1 402 r = gI m 402 r ∧ (gI m 401 r).toNatClampNeg ≤ (gI m1 401 r).toNatClampNeg
section
variable {g : mG} {m m1 m2 : mM} {r : Nat} {a : Int32}
theorem PG.rf (h : okI (gI m 401 r) 60) : PG m m r := ⟨h, rfl, Nat.le_refl _⟩
theorem PG.tr (h : PG m m1 r) (h2 : PG m1 m2 r) : PG m m2 r := ⟨h2.1, h2.2.1.trans h.2.1, Nat.le_trans h.2.2 h2.2.2⟩
theorem PG.en (h : PG m m1 r) {B : Nat} (hE : okI (gI m 402 r) B) : okI (gI m1 402 r) B := by rw [h.2.1]; exact hE
theorem PG.cg (h : PG m m1 r) (e1 : gI m2 401 r = gI m1 401 r) (e2 : gI m2 402 r = gI m1 402 r) : PG m m2 r := by
  unfold PG
  rw [e1, e2]
  exact h
theorem up_nat {x : Int32} {B : Nat} (h : okI x B) (hB : B < 2 ^ 30) : (x + 1).toNatClampNeg = x.toNatClampNeg + 1 := by
  obtain ⟨e, hb⟩ := h
  generalize x.toNatClampNeg = n at *
  subst e
  rw [nI_1, nI_clamp (by omega)]
theorem PG.up (h : okI (gI m 401 r) 60) (hE : okI (gI m 402 r) 60) (c : gI m 401 r < gI m 402 r) (e1 : gI m1 401 r = gI m 401 r + 1) (e2 : gI m1 402 r = gI m 402 r) : PG m m1 r := by
  refine ⟨by rw [e1]; exact okI_up2 h hE c, e2, ?_⟩
  rw [e1, up_nat h (by decide)]
  omega
theorem sg_lt (ha : ¬ a < 0) (h : X11_sign_r g m r = a) : gI m 401 r < gI m 402 r := by
  unfold X11_sign_r at h
  split at h
  · subst h
    exact absurd (by decide) ha
  · rename_i c
    exact Int32.not_le.mp c
theorem add0 {x : Int32} : x + 0 = x := by simp
theorem mk_PG (h : okI (gI m 401 r) 60) (hE : okI (gI m 402 r) 60) (ha : ¬ a < 0) : PG m (X11_mark_m g m r a) r := by
  unfold X11_mark_m
  split
  · split
    · rename_i c
      exact PG.up h hE (sg_lt ha c) (by simp [mm]) (by simp [mm])
    · exact (PG.rf h).cg (by simp [mm]) (by simp [mm])
  · exact PG.rf h
/-- after a mark that is there -/
theorem mk_up (h : okI (gI m 401 r) 60) (hW : gI (X11_mark_m g m r a) 404 r = 0) : gI m 404 r = 0 ∧ X11_sign_r g m r = a ∧ (gI (X11_mark_m g m r a) 401 r).toNatClampNeg = (gI m 401 r).toNatClampNeg + 1 := by
  unfold X11_mark_m at hW ⊢
  by_cases c1 : gI m 404 r = 0
  · rw [if_pos c1] at hW ⊢
    by_cases c2 : X11_sign_r g m r = a
    · rw [if_pos c2]
      refine ⟨c1, c2, ?_⟩
      simp [mm]
      exact up_nat h (by decide)
    · rw [if_neg c2] at hW
      exact absurd hW (by simp [mm])
  · rw [if_neg c1] at hW
    exact absurd hW c1
theorem lt_PG (h : okI (gI m 401 r) 60) (hE : okI (gI m 402 r) 60) : PG m (X11_letter_m g m r) r := by
  unfold X11_letter_m
  split
  · rename_i c
    exact PG.up h hE (sg_lt (by decide) c) (by simp [mm]) (by simp [mm])
  · split
    · rename_i c
      exact PG.up h hE (sg_lt (by decide) c) (by simp [mm]) (by simp [mm])
    · split
      · rename_i c
        exact PG.up h hE (sg_lt (by decide) c) (by simp [mm]) (by simp [mm])
      · exact (PG.rf h).cg (by simp [mm]) (by simp [mm])
theorem dg_l {mo : Nat} {m0 : mM} : ∀ (n j : Nat) (s : Int32) (m : mM), PG m0 m r → okI (gI m 402 r) 60 → PG m0 (X11_digits_l1 g r mo n j s m).2 r := by
  intro n
  induction n with
  | zero =>
    intro j s m h hE
    rw [X11_digits_l1]
    split
    · exact h.cg (by simp [mm]) (by simp [mm])
    · exact h.cg (by simp [mm]) (by simp [mm])
  | succ n ih =>
    intro j s m h hE
    rw [X11_digits_l1]
    split
    · split
      · exact h.cg (by simp [mm]) (by simp [mm])
      · exact h.cg (by simp [mm]) (by simp [mm])
    · rename_i c
      refine ih _ _ _ (h.tr (PG.up h.1 hE (sign_pos c) (by simp [mm]) (by simp [mm]))) ?_
      simp only [mm]
      rw [if_neg (by simp)]
      exact hE
theorem dg_PG {mo : Nat} (h : okI (gI m 401 r) 60) (hE : okI (gI m 402 r) 60) : PG m (X11_digits_m g m r mo) r := dg_l mo 0 0 m (PG.rf h) hE
end
def X11_behind_r (g : mG) (m : mM) (r : Nat) (mo : Nat)  : Int32 := if (gI (X11_mark_m g m r 32 ) 404 r) = 0 then (X11_digits_r g ((X11_mark_m g m r 32 )) r mo ) else 0
def X11_behind_m (g : mG) (m : mM) (r : Nat) (mo : Nat)  : mM := if (gI (X11_mark_m g m r 32 ) 404 r) = 0 then ((X11_digits_m g ((X11_mark_m g m r 32 )) r mo )) else ((X11_mark_m g m r 32 ))
theorem kK_X11_behind (g : mG) (m : mM) (r : Nat) (mo : Nat)  : gK (X11_behind_m g m r mo ) = gK m := by
  unfold X11_behind_m
  repeat' split
  all_goals simp only [mm, kK_X11_digits, kK_X11_mark]
theorem kN_X11_behind (g : mG) (m : mM) (r : Nat) (mo : Nat)  : gN (X11_behind_m g m r mo ) = gN m := by
  unfold X11_behind_m
  repeat' split
  all_goals simp only [mm, kN_X11_digits, kN_X11_mark]
theorem kI_X11_behind (g : mG) (m : mM) (r : Nat) (mo : Nat)  (k a9 : Nat) (h0 : k ≠ 401) (h1 : k ≠ 404) : gI (X11_behind_m g m r mo ) k a9 = gI m k a9 := by
  unfold X11_behind_m
  repeat' split
  all_goals simp [mm, kI_X11_digits, kI_X11_mark, h0, h1]
theorem kJ_X11_behind (g : mG) (m : mM) (r : Nat) (mo : Nat)  : gJ (X11_behind_m g m r mo ) = gJ m := by
  unfold X11_behind_m
  repeat' split
  all_goals simp only [mm, kJ_X11_digits, kJ_X11_mark]
theorem kR_X11_behind (g : mG) (m : mM) (r : Nat) (mo : Nat)  : gR (X11_behind_m g m r mo ) = gR m := by
  unfold X11_behind_m
  repeat' split
  all_goals simp only [mm, kR_X11_digits, kR_X11_mark]
theorem kA_X11_behind (g : mG) (m : mM) (r : Nat) (mo : Nat)  : gA (X11_behind_m g m r mo ) = gA m := by
  unfold X11_behind_m
  repeat' split
  all_goals simp only [mm, kA_X11_digits, kA_X11_mark]
theorem kQ_X11_behind (g : mG) (m : mM) (r : Nat) (mo : Nat)  : gQ (X11_behind_m g m r mo ) = gQ m := by
  unfold X11_behind_m
  repeat' split
  all_goals simp only [mm, kQ_X11_digits, kQ_X11_mark]
theorem kL_X11_behind (g : mG) (m : mM) (r : Nat) (mo : Nat)  : gL (X11_behind_m g m r mo ) = gL m := by
  unfold X11_behind_m
  repeat' split
  all_goals simp only [mm, kL_X11_digits, kL_X11_mark]
theorem kD_X11_behind (g : mG) (m : mM) (r : Nat) (mo : Nat)  : gD (X11_behind_m g m r mo ) = gD m := by
  unfold X11_behind_m
  repeat' split
  all_goals simp only [mm, kD_X11_digits, kD_X11_mark]
set_option maxHeartbeats 4000000 in
set_option maxRecDepth 100000 in
theorem c_X11_behind {l : Launch} {g : mG} (hO : mO l g) (m : mM) (r : Nat) (mo : Nat)  (hs : SR m r) (hHe : okI (gI m 401 r) 60) (hEn : okI (gI m 402 r) 60) (hmo : mo ≤ 2) : mT l g yX11_behind (.code yX11_behind cX11_behind 2 (Option.some FieldType.int)) 3 65 0 0 [.ref r, .int (nI mo)] m (fun u m' => u = some (.int (X11_behind_r g m r mo )) ∧ m' = X11_behind_m g m r mo ) nX := by
  refine mT_of hO (by decide) (Nat.le_of_ble_eq_true rfl) (fun x hX hZ => ?_)
  show mV g x m 0 0 0 [(0, .ref r), (1, .int (nI mo))] []
  refine v_aload_n (pc := 0) hX dX11_behind_0 rfl ?_
  refine v_bipush (v := 32) (pc := 1) hX dX11_behind_1 (by decide) ?_
  refine v_callV (z := yX11_mark) (pc := 3) hX dX11_behind_3 (c_X11_mark hO m r 32  hs hHe hEn) hs.k rfl wd_1913 wd_1915 wp_52 wd_16 wd_1916 ⟨by decide, by decide, (by decide +kernel : (parseMethodDescriptor yX11_mark.desc).map (fun d => d.parameters.length) = some 1)⟩ rfl (Nat.le_of_ble_eq_true rfl) ⟨⟨by decide, by decide⟩, by decide, by decide⟩ (fun E m9 h9 => h9.elim) (fun r9 m9 h9 => ?_)
  obtain ⟨rfl, h8⟩ := h9
  replace h8 := h8.symm
  subst h8
  show mV g x _ _ _ _ _ []
  refine v_aload_n (pc := 6) hX dX11_behind_6 rfl ?_
  refine v_get (v := .int (gI (X11_mark_m g m r 32 ) 404 r)) (pc := 7) hX dX11_behind_7 (by simp only [mm, kK_X11_mark]; exact hs.k) (ci := 12) (r := vwC12) rfl 20 (by decide) wd_1526 rfl ?_
  refine v_if_eq (tgt := 17) (pc := 10) hX dX11_behind_10 (by decide) (fun c1 => ?_) (fun c1 => ?_)
  ·
    refine v_aload_n (pc := 17) hX dX11_behind_17 rfl ?_
    refine v_iload_n (pc := 18) hX dX11_behind_18 rfl ?_
    refine v_callV (z := yX11_digits) (pc := 19) hX dX11_behind_19 (c_X11_digits hO ((X11_mark_m g m r 32 )) r mo  (hs.to (by simp only [mm, kK_X11_mark]) (by simp only [mm, kR_X11_mark])) (mk_PG (g := g) hHe hEn (by decide)).1 ((mk_PG (g := g) hHe hEn (by decide)).en hEn) (by assumption) hmo) (by simp only [mm, kK_X11_mark]; exact hs.k) rfl wd_1905 wd_1907 wp_50 wd_16 wd_1908 ⟨by decide, by decide, (by decide +kernel : (parseMethodDescriptor yX11_digits.desc).map (fun d => d.parameters.length) = some 1)⟩ rfl (Nat.le_of_ble_eq_true rfl) ⟨⟨by decide, by decide⟩, by decide, by decide⟩ (fun E m9 h9 => h9.elim) (fun r9 m9 h9 => ?_)
    obtain ⟨rfl, h8⟩ := h9
    replace h8 := h8.symm
    subst h8
    show mV g x _ _ _ _ _ [.int (X11_digits_r g ((X11_mark_m g m r 32 )) r mo )]
    exact v_iret (pc := 22) hX hZ dX11_behind_22 (by decide) (by decide) ⟨(by rw [X11_behind_r, if_pos c1]), (by rw [X11_behind_m, if_pos c1])⟩
  ·
    refine v_iconst (v := 0) (pc := 13) hX dX11_behind_13 (by decide) ?_
    refine v_goto (tgt := 22) (pc := 14) hX dX11_behind_14 (by decide) ?_
    exact v_iret (pc := 22) hX hZ dX11_behind_22 (by decide) (by decide) ⟨(by rw [X11_behind_r, if_neg c1]), (by rw [X11_behind_m, if_neg c1])⟩
theorem bh_PG {g : mG} {m : mM} {r mo : Nat} (h : okI (gI m 401 r) 60) (hE : okI (gI m 402 r) 60) : PG m (X11_behind_m g m r mo) r := by
  have h1 := mk_PG (g := g) (a := 32) h hE (by decide)
  unfold X11_behind_m
  split
  · exact h1.tr (dg_PG h1.1 (h1.en hE))
  · exact h1
/-- the reference's words -/
def rwL : List Int32 := [99, 111, 97, 108, 32, 98, 101, 108, 108, 111, 119, 115, 32, 112, 105, 101, 99, 101, 32, 116, 111, 111, 108, 32, 105, 110, 32, 111, 117, 116, 32, 104, 97, 109, 109, 101, 114, 32, 113, 117, 101, 110, 99, 104, 32, 116, 101, 115, 116, 32, 98, 105, 114, 100, 32, 115, 99, 114, 97, 112, 32, 119, 97, 105, 116, 32]
def rwT : List Nat := [0, 5, 13, 19, 24, 27, 31, 38, 45, 50, 55, 61, 66]
def wdC (i : Nat) : Int32 := rwL.getD i 0
def wdS (w : Nat) : Nat := rwT.getD w 0
def WD (m : mM) (r : Nat) : Prop := (∀ j, j < 66 → gA m (r + 10) j = wdC j) ∧ ∀ j, j < 13 → gA m (r + 11) j = nI (wdS j)
theorem wdS_le : ∀ w : Fin 13, wdS w.1 ≤ 66 := by decide
theorem wdS_l {w : Nat} (h : w < 13) : wdS w ≤ 66 := wdS_le ⟨w, h⟩
theorem wdC_p : ∀ i : Fin 66, ¬ wdC i.1 < 0 := by decide +kernel
/-- a word goes on behind its first j letters -/
def WL (j : Nat) : Prop := ∃ w, w < 12 ∧ wdS w + j < wdS (w + 1)
theorem WL_8 (h : WL 8) : False := by
  obtain ⟨w, h1, h2⟩ := h
  exact absurd h2 ((by decide : ∀ w : Fin 12, ¬ wdS w.1 + 8 < wdS (w.1 + 1)) ⟨w, h1⟩)
theorem WL_0 : WL 0 := ⟨0, by decide, by decide⟩
theorem and_0 (x : Int32) : ¬ x &&& 0 = 1 := by simp
def X11_word_l3 (g : mG) (m : mM) (r : Nat)  : Nat → Nat → Nat → Int32 → Int32
  | 0, j, q, s => s
  | n + 1, j, q, s => if (gA m (r + 8) j) = 1 then (if ((nI (wdS j)) + (nI q)) = (nI (wdS (j + 1))) then (X11_word_l3 g m r  n (j + 1) q (nI j) ) else (X11_word_l3 g m r  n (j + 1) q s )) else (X11_word_l3 g m r  n (j + 1) q s )
def X11_word_l3a0 (g : mG) (m : mM) (r : Nat)  (q : Nat) (s : Int32) : Int32 := X11_word_l3 g m r  12 0 q s 
theorem or1_b {b : Int32} (h : b = 0 ∨ b = 1) : b ||| 1 = 0 ∨ b ||| 1 = 1 := by
  rcases h with h | h <;> subst h <;> decide
theorem or0_b {b : Int32} (h : b = 0 ∨ b = 1) : b ||| 0 = 0 ∨ b ||| 0 = 1 := by
  rcases h with h | h <;> subst h <;> decide
set_option maxHeartbeats 4000000 in
set_option maxRecDepth 100000 in
theorem lpc_X11_word_l3 {l : Launch} {g : mG} {x : mCx} (hO : mO l g) {m : mM} (r : Nat)   {pst : Option Value → mM → Prop} {XX : String → mM → Prop} (hX : mX l g x cX11_word yX11_word { frames := 2, cells := 0, slots := 0, locals := 40 } 5) (hZ : mZ g x (Option.some FieldType.int) [] pst XX 0 0) : ∀ (n j : Nat) (q : Nat) (s : Int32) (hs : SR m r) (hwd : WD m r) (hq : q ≤ 8) (hj : j + n = 12) (hk : mV g x m 0 0 219 [(0, .ref r), (1, .int (nI q)), (2, .int (X11_word_l3 g m r  n j q s ))] []), mV g x m 0 0 167 [(0, .ref r), (1, .int (nI q)), (2, .int s), (4, .int (nI j))] [] := by
  intro n
  induction n with
  | zero =>
    intro j q s  hs hwd hq hj hk
    refine v_iload (pc := 167) hX dX11_word_167 rfl ?_
    refine v_bipush (v := 12) (pc := 169) hX dX11_word_169 (by decide) ?_
    refine v_icmp_ge (tgt := 219) (pc := 171) hX dX11_word_171 (by decide) (fun c1 => ?_) (fun c1 => ?_)
    ·
      refine mV_sub (lv' := [(0, .ref r), (1, .int (nI q)), (2, .int s)]) ⟨rfl, rfl, rfl, trivial⟩ ?_
      exact (by rw [X11_word_l3] at hk; exact hk)
    · exact absurd (show nI 12 ≤ nI j from nI_le (by omega) (by omega)) c1
  | succ n ih =>
    intro j q s  hs hwd hq hj hk
    refine v_iload (pc := 167) hX dX11_word_167 rfl ?_
    refine v_bipush (v := 12) (pc := 169) hX dX11_word_169 (by decide) ?_
    refine v_icmp_ge (tgt := 219) (pc := 171) hX dX11_word_171 (by decide) (fun c1 => ?_) (fun c1 => ?_)
    · exact absurd c1 (show ¬ nI 12 ≤ nI j from nI_ge (by omega) (by omega))
    ·
      refine v_aload_n (pc := 174) hX dX11_word_174 rfl ?_
      refine v_get (v := .ref (r + 8)) (pc := 175) hX dX11_word_175 hs.k (ci := 12) (r := vwC12) rfl 12 (by decide) wd_1518 (fvA rfl hs.r8) ?_
      refine v_iload (pc := 178) hX dX11_word_178 rfl ?_
      refine v_iald (j := j) (v := (gA m (r + 8) j)) (pc := 180) hX dX11_word_180 hs.k8 rfl (by omega) (by decide) rfl ?_
      refine v_iconst (v := 1) (pc := 181) hX dX11_word_181 (by decide) ?_
      refine v_icmp_ne (tgt := 211) (pc := 182) hX dX11_word_182 (by decide) (fun c2 => ?_) (fun c2 => ?_)
      ·
        refine v_iload_n (pc := 211) hX dX11_word_211 rfl ?_
        refine v_istore_n (pc := 212) hX dX11_word_212 (by decide) rfl ?_
        refine v_iinc (w := nI (j + 1)) (pc := 213) hX dX11_word_213 rfl (nI_1 _) (by decide) rfl ?_
        refine v_goto (tgt := 167) (pc := 216) hX dX11_word_216 (by decide) ?_
        refine mV_sub (lv' := [(0, .ref r), (1, .int (nI q)), (2, .int s), (4, .int (nI ((j + 1))))]) ⟨rfl, rfl, rfl, rfl, trivial⟩ ?_
        exact ih (j + 1) q s  hs hwd (by omega) (by omega) (by rw [X11_word_l3, if_neg c2] at hk; exact hk)
      ·
        refine v_aload_n (pc := 185) hX dX11_word_185 rfl ?_
        refine v_get (v := .ref (r + 11)) (pc := 186) hX dX11_word_186 hs.k (ci := 12) (r := vwC12) rfl 15 (by decide) wd_1521 (fvA rfl hs.r11) ?_
        refine v_iload (pc := 189) hX dX11_word_189 rfl ?_
        refine v_iald (j := j) (v := (nI (wdS j))) (pc := 191) hX dX11_word_191 hs.k11 rfl (by omega) (by decide) (((rfl).trans (hwd.2 j (by omega)))) ?_
        refine v_iload_n (pc := 192) hX dX11_word_192 rfl ?_
        refine v_iadd (pc := 193) hX dX11_word_193 ?_
        refine v_aload_n (pc := 194) hX dX11_word_194 rfl ?_
        refine v_get (v := .ref (r + 11)) (pc := 195) hX dX11_word_195 hs.k (ci := 12) (r := vwC12) rfl 15 (by decide) wd_1521 (fvA rfl hs.r11) ?_
        refine v_iload (pc := 198) hX dX11_word_198 rfl ?_
        refine v_iconst (v := 1) (pc := 200) hX dX11_word_200 (by decide) ?_
        refine v_iadd (pc := 201) hX dX11_word_201 ?_
        refine v_iald (j := j + 1) (v := (nI (wdS (j + 1)))) (pc := 202) hX dX11_word_202 hs.k11 (ix_pl j 1) (by omega) (by decide) (((rfl).trans (hwd.2 (j + 1) (by omega)))) ?_
        refine v_icmp_ne (tgt := 211) (pc := 203) hX dX11_word_203 (by decide) (fun c3 => ?_) (fun c3 => ?_)
        ·
          refine v_iload_n (pc := 211) hX dX11_word_211 rfl ?_
          refine v_istore_n (pc := 212) hX dX11_word_212 (by decide) rfl ?_
          refine v_iinc (w := nI (j + 1)) (pc := 213) hX dX11_word_213 rfl (nI_1 _) (by decide) rfl ?_
          refine v_goto (tgt := 167) (pc := 216) hX dX11_word_216 (by decide) ?_
          refine mV_sub (lv' := [(0, .ref r), (1, .int (nI q)), (2, .int s), (4, .int (nI ((j + 1))))]) ⟨rfl, rfl, rfl, rfl, trivial⟩ ?_
          exact ih (j + 1) q s  hs hwd (by omega) (by omega) (by rw [X11_word_l3, if_pos c2, if_neg c3] at hk; exact hk)
        ·
          refine v_iload (pc := 206) hX dX11_word_206 rfl ?_
          refine v_goto (tgt := 212) (pc := 208) hX dX11_word_208 (by decide) ?_
          refine v_istore_n (pc := 212) hX dX11_word_212 (by decide) rfl ?_
          refine v_iinc (w := nI (j + 1)) (pc := 213) hX dX11_word_213 rfl (nI_1 _) (by decide) rfl ?_
          refine v_goto (tgt := 167) (pc := 216) hX dX11_word_216 (by decide) ?_
          refine mV_sub (lv' := [(0, .ref r), (1, .int (nI q)), (2, .int (nI j)), (4, .int (nI ((j + 1))))]) ⟨rfl, rfl, rfl, rfl, trivial⟩ ?_
          exact ih (j + 1) q (nI j)  hs hwd (by omega) (by omega) (by rw [X11_word_l3, if_pos c2, if_pos c3] at hk; exact hk)
def X11_word_l2 (g : mG) (r : Nat)  : Nat → Nat → Nat → Int32 → Int32 → mM → Int32 × mM
  | 0, j, q, s, b, m => (b, m)
  | n + 1, j, q, s, b, m => if (nI (wdS (j + 1))) ≤ ((nI (wdS j)) + (nI q)) then (X11_word_l2 g r  n (j + 1) q s (b ||| 0) ((sA m (r + 8) j ((gA m (r + 8) j) &&& 0)))) else (if (wdC (wdS j + q)) = (X11_sign_r g m r ) then (if ((gA m (r + 8) j) &&& 1) = 1 then (X11_word_l2 g r  n (j + 1) q s (b ||| 1) ((sA m (r + 8) j ((gA m (r + 8) j) &&& 1)))) else (X11_word_l2 g r  n (j + 1) q s (b ||| 0) ((sA m (r + 8) j ((gA m (r + 8) j) &&& 1))))) else (X11_word_l2 g r  n (j + 1) q s (b ||| 0) ((sA m (r + 8) j ((gA m (r + 8) j) &&& 0)))))
def X11_word_l2a0 (g : mG) (m : mM) (r : Nat)  (q : Nat) (s : Int32) (b : Int32) : Int32 := (X11_word_l2 g r  12 0 q s b m).1
def X11_word_l2x_m (g : mG) (m : mM) (r : Nat)  (q : Nat) (s : Int32) (b : Int32) : mM := (X11_word_l2 g r  12 0 q s b m).2
set_option maxHeartbeats 4000000 in
set_option maxRecDepth 100000 in
theorem lpc_X11_word_l2 {l : Launch} {g : mG} {x : mCx} (hO : mO l g) (r : Nat)   {pst : Option Value → mM → Prop} {XX : String → mM → Prop} (hX : mX l g x cX11_word yX11_word { frames := 2, cells := 0, slots := 0, locals := 40 } 5) (hZ : mZ g x (Option.some FieldType.int) [] pst XX 0 0) : ∀ (n j : Nat) (q : Nat) (s : Int32) (b : Int32) (m : mM) (hs : SR m r) (hHe : okI (gI m 401 r) 60) (hEn : okI (gI m 402 r) 60) (hwd : WD m r) (hq : q ≤ 8) (hb : b = 0 ∨ b = 1) (hj : j + n = 12) (hk : mV g x ((X11_word_l2 g r  n j q s b m).2) 0 0 130 [(0, .ref r), (1, .int (nI q)), (2, .int s), (3, .int ((X11_word_l2 g r  n j q s b m).1))] []), mV g x m 0 0 41 [(0, .ref r), (1, .int (nI q)), (2, .int s), (3, .int b), (4, .int (nI j))] [] := by
  intro n
  induction n with
  | zero =>
    intro j q s b m hs hHe hEn hwd hq hb hj hk
    refine v_iload (pc := 41) hX dX11_word_41 rfl ?_
    refine v_bipush (v := 12) (pc := 43) hX dX11_word_43 (by decide) ?_
    refine v_icmp_ge (tgt := 130) (pc := 45) hX dX11_word_45 (by decide) (fun c1 => ?_) (fun c1 => ?_)
    ·
      refine mV_sub (lv' := [(0, .ref r), (1, .int (nI q)), (2, .int s), (3, .int b)]) ⟨rfl, rfl, rfl, rfl, trivial⟩ ?_
      exact (by rw [X11_word_l2] at hk; exact hk)
    · exact absurd (show nI 12 ≤ nI j from nI_le (by omega) (by omega)) c1
  | succ n ih =>
    intro j q s b m hs hHe hEn hwd hq hb hj hk
    refine v_iload (pc := 41) hX dX11_word_41 rfl ?_
    refine v_bipush (v := 12) (pc := 43) hX dX11_word_43 (by decide) ?_
    refine v_icmp_ge (tgt := 130) (pc := 45) hX dX11_word_45 (by decide) (fun c1 => ?_) (fun c1 => ?_)
    · exact absurd c1 (show ¬ nI 12 ≤ nI j from nI_ge (by omega) (by omega))
    ·
      refine v_aload_n (pc := 48) hX dX11_word_48 rfl ?_
      refine v_get (v := .ref (r + 8)) (pc := 49) hX dX11_word_49 hs.k (ci := 12) (r := vwC12) rfl 12 (by decide) wd_1518 (fvA rfl hs.r8) ?_
      refine v_iload (pc := 52) hX dX11_word_52 rfl ?_
      refine v_dup2 (pc := 54) hX dX11_word_54 rfl rfl ?_
      refine v_iald (j := j) (v := (gA m (r + 8) j)) (pc := 55) hX dX11_word_55 hs.k8 rfl (by omega) (by decide) rfl ?_
      refine v_aload_n (pc := 56) hX dX11_word_56 rfl ?_
      refine v_get (v := .ref (r + 11)) (pc := 57) hX dX11_word_57 hs.k (ci := 12) (r := vwC12) rfl 15 (by decide) wd_1521 (fvA rfl hs.r11) ?_
      refine v_iload (pc := 60) hX dX11_word_60 rfl ?_
      refine v_iald (j := j) (v := (nI (wdS j))) (pc := 62) hX dX11_word_62 hs.k11 rfl (by omega) (by decide) (((rfl).trans (hwd.2 j (by omega)))) ?_
      refine v_iload_n (pc := 63) hX dX11_word_63 rfl ?_
      refine v_iadd (pc := 64) hX dX11_word_64 ?_
      refine v_aload_n (pc := 65) hX dX11_word_65 rfl ?_
      refine v_get (v := .ref (r + 11)) (pc := 66) hX dX11_word_66 hs.k (ci := 12) (r := vwC12) rfl 15 (by decide) wd_1521 (fvA rfl hs.r11) ?_
      refine v_iload (pc := 69) hX dX11_word_69 rfl ?_
      refine v_iconst (v := 1) (pc := 71) hX dX11_word_71 (by decide) ?_
      refine v_iadd (pc := 72) hX dX11_word_72 ?_
      refine v_iald (j := j + 1) (v := (nI (wdS (j + 1)))) (pc := 73) hX dX11_word_73 hs.k11 (ix_pl j 1) (by omega) (by decide) (((rfl).trans (hwd.2 (j + 1) (by omega)))) ?_
      refine v_icmp_ge (tgt := 102) (pc := 74) hX dX11_word_74 (by decide) (fun c2 => ?_) (fun c2 => ?_)
      ·
        refine v_iconst (v := 0) (pc := 102) hX dX11_word_102 (by decide) ?_
        refine v_iand (pc := 103) hX dX11_word_103 ?_
        refine v_iast (j := j) (pc := 104) hX dX11_word_104 hs.k8 rfl (by omega) (by decide) ?_
        refine v_iload_n (pc := 105) hX dX11_word_105 rfl ?_
        refine v_aload_n (pc := 106) hX dX11_word_106 rfl ?_
        refine v_get (v := .ref (r + 8)) (pc := 107) hX dX11_word_107 (by simp only [mm]; exact hs.k) (ci := 12) (r := vwC12) rfl 12 (by decide) wd_1518 (fvA rfl (by simp [mm, hs.r8])) ?_
        refine v_iload (pc := 110) hX dX11_word_110 rfl ?_
        refine v_iald (j := j) (v := ((gA m (r + 8) j) &&& 0)) (pc := 112) hX dX11_word_112 (by simp only [mm]; exact hs.k8) rfl (by omega) (by decide) gA_y ?_
        refine v_iconst (v := 1) (pc := 113) hX dX11_word_113 (by decide) ?_
        refine v_icmp_ne (tgt := 121) (pc := 114) hX dX11_word_114 (by decide) (fun c3 => ?_) (fun c3 => ?_)
        ·
          refine v_iconst (v := 0) (pc := 121) hX dX11_word_121 (by decide) ?_
          refine v_ior (pc := 122) hX dX11_word_122 ?_
          refine v_istore_n (pc := 123) hX dX11_word_123 (by decide) rfl ?_
          refine v_iinc (w := nI (j + 1)) (pc := 124) hX dX11_word_124 rfl (nI_1 _) (by decide) rfl ?_
          refine v_goto (tgt := 41) (pc := 127) hX dX11_word_127 (by decide) ?_
          refine mV_sub (lv' := [(0, .ref r), (1, .int (nI q)), (2, .int s), (3, .int (b ||| 0)), (4, .int (nI ((j + 1))))]) ⟨rfl, rfl, rfl, rfl, rfl, trivial⟩ ?_
          exact ih (j + 1) q s (b ||| 0) ((sA m (r + 8) j ((gA m (r + 8) j) &&& 0))) (hs.to (by simp only [mm]) (by simp only [mm])) (by simp [mm]; exact hHe) (by simp [mm]; exact hEn) ⟨fun j h => by simp [mm]; exact hwd.1 j h, fun j h => by simp [mm]; exact hwd.2 j h⟩ (by omega) (by first | exact hb | exact or1_b hb | exact or0_b hb) (by omega) (by rw [X11_word_l2, if_pos c2] at hk; exact hk)
        · exact absurd c3 ((and_0 _))
      ·
        have ix_ := (nI_ltI (a := wdS j + q) (b := wdS (j + 1)) (by have := wdS_l (w := j) (by omega); omega) (by have := wdS_l (w := j + 1) (by omega); omega)).mp (by rw [← ix_pl]; exact Int32.not_le.mp (by assumption))
        have ix2_ := wdS_l (w := j + 1) (by omega)
        refine v_aload_n (pc := 77) hX dX11_word_77 rfl ?_
        refine v_get (v := .ref (r + 10)) (pc := 78) hX dX11_word_78 hs.k (ci := 12) (r := vwC12) rfl 14 (by decide) wd_1520 (fvA rfl hs.r10) ?_
        refine v_aload_n (pc := 81) hX dX11_word_81 rfl ?_
        refine v_get (v := .ref (r + 11)) (pc := 82) hX dX11_word_82 hs.k (ci := 12) (r := vwC12) rfl 15 (by decide) wd_1521 (fvA rfl hs.r11) ?_
        refine v_iload (pc := 85) hX dX11_word_85 rfl ?_
        refine v_iald (j := j) (v := (nI (wdS j))) (pc := 87) hX dX11_word_87 hs.k11 rfl (by omega) (by decide) (((rfl).trans (hwd.2 j (by omega)))) ?_
        refine v_iload_n (pc := 88) hX dX11_word_88 rfl ?_
        refine v_iadd (pc := 89) hX dX11_word_89 ?_
        refine v_iald (j := wdS j + q) (v := (wdC (wdS j + q))) (pc := 90) hX dX11_word_90 hs.k10 (ix_pl _ _) (by omega) (by decide) (((rfl).trans (hwd.1 (wdS j + q) (by omega)))) ?_
        refine v_aload_n (pc := 91) hX dX11_word_91 rfl ?_
        refine v_callV (z := yX11_sign) (pc := 92) hX dX11_word_92 (c_X11_sign hO m r  hs hHe hEn) hs.k rfl wd_1897 wd_1899 wp_48 wd_16 wd_1900 ⟨by decide, by decide, (by decide +kernel : (parseMethodDescriptor yX11_sign.desc).map (fun d => d.parameters.length) = some 0)⟩ rfl (Nat.le_of_ble_eq_true rfl) ⟨⟨by decide, by decide⟩, by decide, by decide⟩ (fun E m9 h9 => h9.elim) (fun r9 m9 h9 => ?_)
        obtain ⟨rfl, h8⟩ := h9
        replace h8 := h8.symm
        subst h8
        show mV g x _ _ _ _ _ [.int (X11_sign_r g m r ), .int (wdC (wdS j + q)), .int (gA m (r + 8) j), .int (nI j), .ref (r + 8)]
        refine v_icmp_ne (tgt := 102) (pc := 95) hX dX11_word_95 (by decide) (fun c4 => ?_) (fun c4 => ?_)
        ·
          refine v_iconst (v := 0) (pc := 102) hX dX11_word_102 (by decide) ?_
          refine v_iand (pc := 103) hX dX11_word_103 ?_
          refine v_iast (j := j) (pc := 104) hX dX11_word_104 hs.k8 rfl (by omega) (by decide) ?_
          refine v_iload_n (pc := 105) hX dX11_word_105 rfl ?_
          refine v_aload_n (pc := 106) hX dX11_word_106 rfl ?_
          refine v_get (v := .ref (r + 8)) (pc := 107) hX dX11_word_107 (by simp only [mm]; exact hs.k) (ci := 12) (r := vwC12) rfl 12 (by decide) wd_1518 (fvA rfl (by simp [mm, hs.r8])) ?_
          refine v_iload (pc := 110) hX dX11_word_110 rfl ?_
          refine v_iald (j := j) (v := ((gA m (r + 8) j) &&& 0)) (pc := 112) hX dX11_word_112 (by simp only [mm]; exact hs.k8) rfl (by omega) (by decide) gA_y ?_
          refine v_iconst (v := 1) (pc := 113) hX dX11_word_113 (by decide) ?_
          refine v_icmp_ne (tgt := 121) (pc := 114) hX dX11_word_114 (by decide) (fun c5 => ?_) (fun c5 => ?_)
          ·
            refine v_iconst (v := 0) (pc := 121) hX dX11_word_121 (by decide) ?_
            refine v_ior (pc := 122) hX dX11_word_122 ?_
            refine v_istore_n (pc := 123) hX dX11_word_123 (by decide) rfl ?_
            refine v_iinc (w := nI (j + 1)) (pc := 124) hX dX11_word_124 rfl (nI_1 _) (by decide) rfl ?_
            refine v_goto (tgt := 41) (pc := 127) hX dX11_word_127 (by decide) ?_
            refine mV_sub (lv' := [(0, .ref r), (1, .int (nI q)), (2, .int s), (3, .int (b ||| 0)), (4, .int (nI ((j + 1))))]) ⟨rfl, rfl, rfl, rfl, rfl, trivial⟩ ?_
            exact ih (j + 1) q s (b ||| 0) ((sA m (r + 8) j ((gA m (r + 8) j) &&& 0))) (hs.to (by simp only [mm]) (by simp only [mm])) (by simp [mm]; exact hHe) (by simp [mm]; exact hEn) ⟨fun j h => by simp [mm]; exact hwd.1 j h, fun j h => by simp [mm]; exact hwd.2 j h⟩ (by omega) (by first | exact hb | exact or1_b hb | exact or0_b hb) (by omega) (by rw [X11_word_l2, if_neg c2, if_neg c4] at hk; exact hk)
          · exact absurd c5 ((and_0 _))
        ·
          refine v_iconst (v := 1) (pc := 98) hX dX11_word_98 (by decide) ?_
          refine v_goto (tgt := 103) (pc := 99) hX dX11_word_99 (by decide) ?_
          refine v_iand (pc := 103) hX dX11_word_103 ?_
          refine v_iast (j := j) (pc := 104) hX dX11_word_104 hs.k8 rfl (by omega) (by decide) ?_
          refine v_iload_n (pc := 105) hX dX11_word_105 rfl ?_
          refine v_aload_n (pc := 106) hX dX11_word_106 rfl ?_
          refine v_get (v := .ref (r + 8)) (pc := 107) hX dX11_word_107 (by simp only [mm]; exact hs.k) (ci := 12) (r := vwC12) rfl 12 (by decide) wd_1518 (fvA rfl (by simp [mm, hs.r8])) ?_
          refine v_iload (pc := 110) hX dX11_word_110 rfl ?_
          refine v_iald (j := j) (v := ((gA m (r + 8) j) &&& 1)) (pc := 112) hX dX11_word_112 (by simp only [mm]; exact hs.k8) rfl (by omega) (by decide) gA_y ?_
          refine v_iconst (v := 1) (pc := 113) hX dX11_word_113 (by decide) ?_
          refine v_icmp_ne (tgt := 121) (pc := 114) hX dX11_word_114 (by decide) (fun c6 => ?_) (fun c6 => ?_)
          ·
            refine v_iconst (v := 0) (pc := 121) hX dX11_word_121 (by decide) ?_
            refine v_ior (pc := 122) hX dX11_word_122 ?_
            refine v_istore_n (pc := 123) hX dX11_word_123 (by decide) rfl ?_
            refine v_iinc (w := nI (j + 1)) (pc := 124) hX dX11_word_124 rfl (nI_1 _) (by decide) rfl ?_
            refine v_goto (tgt := 41) (pc := 127) hX dX11_word_127 (by decide) ?_
            refine mV_sub (lv' := [(0, .ref r), (1, .int (nI q)), (2, .int s), (3, .int (b ||| 0)), (4, .int (nI ((j + 1))))]) ⟨rfl, rfl, rfl, rfl, rfl, trivial⟩ ?_
            exact ih (j + 1) q s (b ||| 0) ((sA m (r + 8) j ((gA m (r + 8) j) &&& 1))) (hs.to (by simp only [mm]) (by simp only [mm])) (by simp [mm]; exact hHe) (by simp [mm]; exact hEn) ⟨fun j h => by simp [mm]; exact hwd.1 j h, fun j h => by simp [mm]; exact hwd.2 j h⟩ (by omega) (by first | exact hb | exact or1_b hb | exact or0_b hb) (by omega) (by rw [X11_word_l2, if_neg c2, if_pos c4, if_neg c6] at hk; exact hk)
          ·
            refine v_iconst (v := 1) (pc := 117) hX dX11_word_117 (by decide) ?_
            refine v_goto (tgt := 122) (pc := 118) hX dX11_word_118 (by decide) ?_
            refine v_ior (pc := 122) hX dX11_word_122 ?_
            refine v_istore_n (pc := 123) hX dX11_word_123 (by decide) rfl ?_
            refine v_iinc (w := nI (j + 1)) (pc := 124) hX dX11_word_124 rfl (nI_1 _) (by decide) rfl ?_
            refine v_goto (tgt := 41) (pc := 127) hX dX11_word_127 (by decide) ?_
            refine mV_sub (lv' := [(0, .ref r), (1, .int (nI q)), (2, .int s), (3, .int (b ||| 1)), (4, .int (nI ((j + 1))))]) ⟨rfl, rfl, rfl, rfl, rfl, trivial⟩ ?_
            exact ih (j + 1) q s (b ||| 1) ((sA m (r + 8) j ((gA m (r + 8) j) &&& 1))) (hs.to (by simp only [mm]) (by simp only [mm])) (by simp [mm]; exact hHe) (by simp [mm]; exact hEn) ⟨fun j h => by simp [mm]; exact hwd.1 j h, fun j h => by simp [mm]; exact hwd.2 j h⟩ (by omega) (by first | exact hb | exact or1_b hb | exact or0_b hb) (by omega) (by rw [X11_word_l2, if_neg c2, if_pos c4, if_pos c6] at hk; exact hk)
theorem kK_X11_word_l2 (g : mG) (r : Nat)  : ∀ (n j : Nat) (q : Nat) (s : Int32) (b : Int32) (m : mM), gK ((X11_word_l2 g r  n j q s b m).2) = gK m := by
  intro n
  induction n with
  | zero =>
    intro j q s b m
    rw [X11_word_l2]
    repeat' split
    all_goals simp only [mm]
  | succ n ih =>
    intro j q s b m
    rw [X11_word_l2]
    repeat' split
    all_goals simp only [mm, ih]
theorem kN_X11_word_l2 (g : mG) (r : Nat)  : ∀ (n j : Nat) (q : Nat) (s : Int32) (b : Int32) (m : mM), gN ((X11_word_l2 g r  n j q s b m).2) = gN m := by
  intro n
  induction n with
  | zero =>
    intro j q s b m
    rw [X11_word_l2]
    repeat' split
    all_goals simp only [mm]
  | succ n ih =>
    intro j q s b m
    rw [X11_word_l2]
    repeat' split
    all_goals simp only [mm, ih]
theorem kI_X11_word_l2 (g : mG) (r : Nat)  : ∀ (n j : Nat) (q : Nat) (s : Int32) (b : Int32) (m : mM), gI ((X11_word_l2 g r  n j q s b m).2) = gI m := by
  intro n
  induction n with
  | zero =>
    intro j q s b m
    rw [X11_word_l2]
    repeat' split
    all_goals simp only [mm]
  | succ n ih =>
    intro j q s b m
    rw [X11_word_l2]
    repeat' split
    all_goals simp only [mm, ih]
theorem kJ_X11_word_l2 (g : mG) (r : Nat)  : ∀ (n j : Nat) (q : Nat) (s : Int32) (b : Int32) (m : mM), gJ ((X11_word_l2 g r  n j q s b m).2) = gJ m := by
  intro n
  induction n with
  | zero =>
    intro j q s b m
    rw [X11_word_l2]
    repeat' split
    all_goals simp only [mm]
  | succ n ih =>
    intro j q s b m
    rw [X11_word_l2]
    repeat' split
    all_goals simp only [mm, ih]
theorem kR_X11_word_l2 (g : mG) (r : Nat)  : ∀ (n j : Nat) (q : Nat) (s : Int32) (b : Int32) (m : mM), gR ((X11_word_l2 g r  n j q s b m).2) = gR m := by
  intro n
  induction n with
  | zero =>
    intro j q s b m
    rw [X11_word_l2]
    repeat' split
    all_goals simp only [mm]
  | succ n ih =>
    intro j q s b m
    rw [X11_word_l2]
    repeat' split
    all_goals simp only [mm, ih]
theorem kQ_X11_word_l2 (g : mG) (r : Nat)  : ∀ (n j : Nat) (q : Nat) (s : Int32) (b : Int32) (m : mM), gQ ((X11_word_l2 g r  n j q s b m).2) = gQ m := by
  intro n
  induction n with
  | zero =>
    intro j q s b m
    rw [X11_word_l2]
    repeat' split
    all_goals simp only [mm]
  | succ n ih =>
    intro j q s b m
    rw [X11_word_l2]
    repeat' split
    all_goals simp only [mm, ih]
theorem kL_X11_word_l2 (g : mG) (r : Nat)  : ∀ (n j : Nat) (q : Nat) (s : Int32) (b : Int32) (m : mM), gL ((X11_word_l2 g r  n j q s b m).2) = gL m := by
  intro n
  induction n with
  | zero =>
    intro j q s b m
    rw [X11_word_l2]
    repeat' split
    all_goals simp only [mm]
  | succ n ih =>
    intro j q s b m
    rw [X11_word_l2]
    repeat' split
    all_goals simp only [mm, ih]
theorem kD_X11_word_l2 (g : mG) (r : Nat)  : ∀ (n j : Nat) (q : Nat) (s : Int32) (b : Int32) (m : mM), gD ((X11_word_l2 g r  n j q s b m).2) = gD m := by
  intro n
  induction n with
  | zero =>
    intro j q s b m
    rw [X11_word_l2]
    repeat' split
    all_goals simp only [mm]
  | succ n ih =>
    intro j q s b m
    rw [X11_word_l2]
    repeat' split
    all_goals simp only [mm, ih]
theorem kA_X11_word_l2 (g : mG) (r : Nat)  (c9 i9 : Nat) (h0 : c9 ≠ r + 8) : ∀ (n j : Nat) (q : Nat) (s : Int32) (b : Int32) (m : mM), gA ((X11_word_l2 g r  n j q s b m).2) c9 i9 = gA m c9 i9 := by
  intro n
  induction n with
  | zero =>
    intro j q s b m
    rw [X11_word_l2]
    repeat' split
    all_goals simp [mm, h0]
  | succ n ih =>
    intro j q s b m
    rw [X11_word_l2]
    repeat' split
    all_goals simp [mm, ih, h0]
theorem kK_X11_word_l2x (g : mG) (m : mM) (r : Nat)  (q : Nat) (s : Int32) (b : Int32) : gK (X11_word_l2x_m g m r  q s b) = gK m := kK_X11_word_l2 g r  _ _ q s b m
theorem kN_X11_word_l2x (g : mG) (m : mM) (r : Nat)  (q : Nat) (s : Int32) (b : Int32) : gN (X11_word_l2x_m g m r  q s b) = gN m := kN_X11_word_l2 g r  _ _ q s b m
theorem kI_X11_word_l2x (g : mG) (m : mM) (r : Nat)  (q : Nat) (s : Int32) (b : Int32) : gI (X11_word_l2x_m g m r  q s b) = gI m := kI_X11_word_l2 g r  _ _ q s b m
theorem kJ_X11_word_l2x (g : mG) (m : mM) (r : Nat)  (q : Nat) (s : Int32) (b : Int32) : gJ (X11_word_l2x_m g m r  q s b) = gJ m := kJ_X11_word_l2 g r  _ _ q s b m
theorem kR_X11_word_l2x (g : mG) (m : mM) (r : Nat)  (q : Nat) (s : Int32) (b : Int32) : gR (X11_word_l2x_m g m r  q s b) = gR m := kR_X11_word_l2 g r  _ _ q s b m
theorem kQ_X11_word_l2x (g : mG) (m : mM) (r : Nat)  (q : Nat) (s : Int32) (b : Int32) : gQ (X11_word_l2x_m g m r  q s b) = gQ m := kQ_X11_word_l2 g r  _ _ q s b m
theorem kL_X11_word_l2x (g : mG) (m : mM) (r : Nat)  (q : Nat) (s : Int32) (b : Int32) : gL (X11_word_l2x_m g m r  q s b) = gL m := kL_X11_word_l2 g r  _ _ q s b m
theorem kD_X11_word_l2x (g : mG) (m : mM) (r : Nat)  (q : Nat) (s : Int32) (b : Int32) : gD (X11_word_l2x_m g m r  q s b) = gD m := kD_X11_word_l2 g r  _ _ q s b m
theorem kA_X11_word_l2x (g : mG) (m : mM) (r : Nat)  (q : Nat) (s : Int32) (b : Int32) (c9 i9 : Nat) (h0 : c9 ≠ r + 8) : gA (X11_word_l2x_m g m r  q s b) c9 i9 = gA m c9 i9 := kA_X11_word_l2 g r  c9 i9 h0 _ _ q s b m
theorem l2_A {g : mG} {r q : Nat} {s : Int32} {i : Nat} : ∀ (n j : Nat) (b : Int32) (m : mM), i < j → gA (X11_word_l2 g r n j q s b m).2 (r + 8) i = gA m (r + 8) i := by
  intro n
  induction n with
  | zero =>
    intro j b m h
    rw [X11_word_l2]
  | succ n ih =>
    intro j b m h
    have e : ∀ v, gA (sA m (r + 8) j v) (r + 8) i = gA m (r + 8) i := fun v => gA_n (Or.inr (by omega))
    rw [X11_word_l2]
    repeat' split
    all_goals rw [ih _ _ _ (by omega), e]
/-- some word is left: it goes on, and the text does -/
theorem l2_ok {g : mG} {r q : Nat} {s : Int32} (hq : q ≤ 8) : ∀ (n j : Nat) (b : Int32) (m : mM), j + n = 12 → (b = 0 ∨ b = 1) → ¬ (X11_word_l2 g r n j q s b m).1 = 0 → b = 1 ∨ ((∃ w, j ≤ w ∧ w < 12 ∧ gA (X11_word_l2 g r n j q s b m).2 (r + 8) w = 1 ∧ wdS w + q < wdS (w + 1)) ∧ gI m 401 r < gI m 402 r) := by
  intro n
  induction n with
  | zero =>
    intro j b m hj hb h
    rw [X11_word_l2] at h
    rcases hb with hb | hb
    · exact absurd hb h
    · exact Or.inl hb
  | succ n ih =>
    intro j b m hj hb h
    rw [X11_word_l2] at h ⊢
    by_cases c1 : nI (wdS (j + 1)) ≤ nI (wdS j) + nI q
    · rw [if_pos c1] at h ⊢
      rw [show b ||| 0 = b by simp] at h ⊢
      rcases ih (j + 1) _ _ (by omega) hb h with e | ⟨⟨w, h1, h2, h3, h4⟩, h5⟩
      · exact Or.inl e
      · exact Or.inr ⟨⟨w, by omega, h2, h3, h4⟩, h5⟩
    · rw [if_neg c1] at h ⊢
      have c1' : wdS j + q < wdS (j + 1) := by
        have w1 := wdS_l (w := j) (by omega)
        have w2 := wdS_l (w := j + 1) (by omega)
        rw [ix_pl] at c1
        exact (nI_ltI (by omega) (by omega)).mp (Int32.not_le.mp c1)
      by_cases c2 : wdC (wdS j + q) = X11_sign_r g m r
      · rw [if_pos c2] at h ⊢
        have w2 := wdS_l (w := j + 1) (by omega)
        have hc : gI m 401 r < gI m 402 r := sg_lt (wdC_p ⟨wdS j + q, by omega⟩) c2.symm
        by_cases c3 : gA m (r + 8) j &&& 1 = 1
        · rw [if_pos c3]
          refine Or.inr ⟨⟨j, Nat.le_refl _, by omega, ?_, c1'⟩, hc⟩
          rw [l2_A _ _ _ _ (by omega)]
          exact gA_y.trans c3
        · rw [if_neg c3] at h ⊢
          rw [show b ||| 0 = b by simp] at h ⊢
          rcases ih (j + 1) _ _ (by omega) hb h with e | ⟨⟨w, h1, h2, h3, h4⟩, h5⟩
          · exact Or.inl e
          · exact Or.inr ⟨⟨w, by omega, h2, h3, h4⟩, h5⟩
      · rw [if_neg c2] at h ⊢
        rw [show b ||| 0 = b by simp] at h ⊢
        rcases ih (j + 1) _ _ (by omega) hb h with e | ⟨⟨w, h1, h2, h3, h4⟩, h5⟩
        · exact Or.inl e
        · exact Or.inr ⟨⟨w, by omega, h2, h3, h4⟩, h5⟩
theorem l2_fin {g : mG} {m : mM} {r q : Nat} {s : Int32} (hq : q ≤ 8) (h : ¬ X11_word_l2a0 g m r q s 0 = 0) : (∃ w, w < 12 ∧ gA (X11_word_l2x_m g m r q s 0) (r + 8) w = 1 ∧ wdS w + q < wdS (w + 1)) ∧ gI m 401 r < gI m 402 r := by
  rcases l2_ok (g := g) (r := r) (s := s) hq 12 0 0 m (by omega) (Or.inl rfl) h with e | ⟨⟨w, h1, h2, h3, h4⟩, h5⟩
  · exact absurd e (by decide)
  · exact ⟨⟨w, h2, h3, h4⟩, h5⟩
theorem l3_n {g : mG} {m : mM} {r q : Nat} (hq : q ≤ 9) : ∀ (n j : Nat) (s : Int32), j + n = 12 → X11_word_l3 g m r n j q s < 0 → s < 0 ∧ ∀ w, j ≤ w → w < 12 → gA m (r + 8) w = 1 → wdS w + q ≠ wdS (w + 1) := by
  intro n
  induction n with
  | zero =>
    intro j s hj h
    rw [X11_word_l3] at h
    exact ⟨h, fun w h1 h2 => by omega⟩
  | succ n ih =>
    intro j s hj h
    rw [X11_word_l3] at h
    by_cases c1 : gA m (r + 8) j = 1
    · rw [if_pos c1] at h
      by_cases c2 : nI (wdS j) + nI q = nI (wdS (j + 1))
      · rw [if_pos c2] at h
        have := (ih (j + 1) _ (by omega) h).1
        exact absurd this (show ¬ nI j < nI 0 from nI_nlt (by omega) (by omega))
      · rw [if_neg c2] at h
        obtain ⟨h1, h2⟩ := ih (j + 1) _ (by omega) h
        refine ⟨h1, fun w h3 h4 h5 => ?_⟩
        by_cases e : w = j
        · subst e
          intro q2
          exact c2 (by rw [ix_pl, q2])
        · exact h2 w (by omega) h4 h5
    · rw [if_neg c1] at h
      obtain ⟨h1, h2⟩ := ih (j + 1) _ (by omega) h
      refine ⟨h1, fun w h3 h4 h5 => ?_⟩
      by_cases e : w = j
      · subst e
        exact absurd h5 c1
      · exact h2 w (by omega) h4 h5
theorem l3_WL {g : mG} {m2 m3 : mM} {r q : Nat} {s : Int32} (hq : q ≤ 8) (h : ∃ w, w < 12 ∧ gA m2 (r + 8) w = 1 ∧ wdS w + q < wdS (w + 1)) (e : gA m3 (r + 8) = gA m2 (r + 8)) (hs : X11_word_l3a0 g m3 r (q + 1) s < 0) : WL (q + 1) := by
  obtain ⟨w, h1, h2, h3⟩ := h
  have h4 := (l3_n (q := q + 1) (by omega) 12 0 s (by omega) hs).2 w (Nat.zero_le _) h1 (by rw [e]; exact h2)
  exact ⟨w, h1, by omega⟩
def X11_word_l4 (g : mG) (r : Nat)  : Nat → Nat → Int32 → mM → Int32 × mM
  | 0, j, s, m => if 0 ≤ s then ((s, m)) else ((s, m))
  | n + 1, j, s, m => if 0 ≤ s then ((s, m)) else (if (gI m 404 r) = 0 then (if (X11_word_l2a0 g m r  j s 0) = 0 then (X11_word_l4 g r  n (j + 1) (X11_word_l3a0 g ((sI (sI (X11_word_l2x_m g m r  j s 0) 404 r 1) 401 r ((gI (X11_word_l2x_m g m r  j s 0) 401 r) + 0))) r  (j + 1) s) ((sI (sI (X11_word_l2x_m g m r  j s 0) 404 r 1) 401 r ((gI (X11_word_l2x_m g m r  j s 0) 401 r) + 0)))) else (X11_word_l4 g r  n (j + 1) (X11_word_l3a0 g ((sI (sI (X11_word_l2x_m g m r  j s 0) 404 r 0) 401 r ((gI (X11_word_l2x_m g m r  j s 0) 401 r) + 1))) r  (j + 1) s) ((sI (sI (X11_word_l2x_m g m r  j s 0) 404 r 0) 401 r ((gI (X11_word_l2x_m g m r  j s 0) 401 r) + 1))))) else ((s, m)))
set_option maxHeartbeats 4000000 in
set_option maxRecDepth 100000 in
theorem lp_X11_word_l4 {l : Launch} {g : mG} {x : mCx} (hO : mO l g) (r : Nat)   {pst : Option Value → mM → Prop} {XX : String → mM → Prop} (hX : mX l g x cX11_word yX11_word { frames := 2, cells := 0, slots := 0, locals := 40 } 5) (hZ : mZ g x (Option.some FieldType.int) [] pst XX 0 0) : ∀ (n j : Nat) (s : Int32) (m : mM) (hs : SR m r) (hHe : okI (gI m 401 r) 60) (hEn : okI (gI m 402 r) 60) (hwd : WD m r) (hlv : s < 0 → gI m 404 r = 0 → WL j) (hj : j + n = 8) (hp : pst (some (.int ((X11_word_l4 g r  n j s m).1))) ((X11_word_l4 g r  n j s m).2)), mV g x m 0 0 25 [(0, .ref r), (1, .int (nI j)), (2, .int s)] [] := by
  intro n
  induction n with
  | zero =>
    intro j s m hs hHe hEn hwd hlv hj hp
    refine v_iload_n (pc := 25) hX dX11_word_25 rfl ?_
    refine v_if_ge (tgt := 222) (pc := 26) hX dX11_word_26 (by decide) (fun c1 => ?_) (fun c1 => ?_)
    ·
      refine v_iload_n (pc := 222) hX dX11_word_222 rfl ?_
      exact v_iret (pc := 223) hX hZ dX11_word_223 (by decide) (by decide) (by rw [X11_word_l4, if_pos c1] at hp; exact hp)
    ·
      refine v_aload_n (pc := 29) hX dX11_word_29 rfl ?_
      refine v_get (v := .int (gI m 404 r)) (pc := 30) hX dX11_word_30 hs.k (ci := 12) (r := vwC12) rfl 20 (by decide) wd_1526 rfl ?_
      refine v_if_ne (tgt := 222) (pc := 33) hX dX11_word_33 (by decide) (fun c2 => ?_) (fun c2 => ?_)
      ·
        refine v_iload_n (pc := 222) hX dX11_word_222 rfl ?_
        exact v_iret (pc := 223) hX hZ dX11_word_223 (by decide) (by decide) (by rw [X11_word_l4, if_neg c1] at hp; exact hp)
      · exact absurd c2 ((fun h_ => WL_8 (by have h9_ := hlv (Int32.not_le.mp (by assumption)) h_; rw [show j = 8 by omega] at h9_; exact h9_)))
  | succ n ih =>
    intro j s m hs hHe hEn hwd hlv hj hp
    refine v_iload_n (pc := 25) hX dX11_word_25 rfl ?_
    refine v_if_ge (tgt := 222) (pc := 26) hX dX11_word_26 (by decide) (fun c1 => ?_) (fun c1 => ?_)
    ·
      refine v_iload_n (pc := 222) hX dX11_word_222 rfl ?_
      exact v_iret (pc := 223) hX hZ dX11_word_223 (by decide) (by decide) (by rw [X11_word_l4, if_pos c1] at hp; exact hp)
    ·
      refine v_aload_n (pc := 29) hX dX11_word_29 rfl ?_
      refine v_get (v := .int (gI m 404 r)) (pc := 30) hX dX11_word_30 hs.k (ci := 12) (r := vwC12) rfl 20 (by decide) wd_1526 rfl ?_
      refine v_if_ne (tgt := 222) (pc := 33) hX dX11_word_33 (by decide) (fun c2 => ?_) (fun c2 => ?_)
      ·
        refine v_iload_n (pc := 222) hX dX11_word_222 rfl ?_
        exact v_iret (pc := 223) hX hZ dX11_word_223 (by decide) (by decide) (by rw [X11_word_l4, if_neg c1, if_neg c2] at hp; exact hp)
      ·
        refine v_iconst (v := 0) (pc := 36) hX dX11_word_36 (by decide) ?_
        refine v_istore_n (pc := 37) hX dX11_word_37 (by decide) rfl ?_
        refine v_iconst (v := 0) (pc := 38) hX dX11_word_38 (by decide) ?_
        refine v_istore (pc := 39) hX dX11_word_39 (by decide) rfl ?_
        refine mV_sub (lv' := [(0, .ref r), (1, .int (nI j)), (2, .int s), (3, .int 0), (4, .int (nI 0))]) ⟨rfl, rfl, rfl, rfl, rfl, trivial⟩ ?_
        refine lpc_X11_word_l2 hO r   hX hZ 12 0 j s 0 m hs hHe hEn hwd (by omega) (Or.inl rfl) (by omega) ?_
        show mV g x ((X11_word_l2x_m g m r  j s 0)) _ _ _ [(0, .ref r), (1, .int (nI j)), (2, .int s), (3, .int (X11_word_l2a0 g m r  j s 0))] []
        have l2k := l2_fin (g := g) (m := m) (r := r) (q := j) (s := s) (by omega)
        refine v_aload_n (pc := 130) hX dX11_word_130 rfl ?_
        refine v_iload_n (pc := 131) hX dX11_word_131 rfl ?_
        refine v_if_ne (tgt := 139) (pc := 132) hX dX11_word_132 (by decide) (fun c3 => ?_) (fun c3 => ?_)
        ·
          obtain ⟨l2w, l2c⟩ := l2k (by assumption)
          refine v_iconst (v := 0) (pc := 139) hX dX11_word_139 (by decide) ?_
          refine v_put (m1 := (sI (X11_word_l2x_m g m r  j s 0) 404 r 0)) (pc := 140) hX dX11_word_140 (by simp only [mm, kK_X11_word_l2x]; exact hs.k) (ci := 12) (r := vwC12) rfl 20 (by decide) wd_1526 rfl (by decide) (by decide) rfl ?_
          refine v_aload_n (pc := 143) hX dX11_word_143 rfl ?_
          refine v_dup (pc := 144) hX dX11_word_144 rfl ?_
          refine v_get (v := .int (gI (X11_word_l2x_m g m r  j s 0) 401 r)) (pc := 145) hX dX11_word_145 (by simp only [mm, kK_X11_word_l2x]; exact hs.k) (ci := 12) (r := vwC12) rfl 17 (by decide) wd_1523 (by show Value.int _ = Value.int _; simp [mm]) ?_
          refine v_iload_n (pc := 148) hX dX11_word_148 rfl ?_
          refine v_if_eq (tgt := 156) (pc := 149) hX dX11_word_149 (by decide) (fun c4 => ?_) (fun c4 => ?_)
          · exact absurd c4 ((by assumption))
          ·
            refine v_iconst (v := 1) (pc := 152) hX dX11_word_152 (by decide) ?_
            refine v_goto (tgt := 157) (pc := 153) hX dX11_word_153 (by decide) ?_
            refine v_iadd (pc := 157) hX dX11_word_157 ?_
            refine v_put (m1 := (sI (sI (X11_word_l2x_m g m r  j s 0) 404 r 0) 401 r ((gI (X11_word_l2x_m g m r  j s 0) 401 r) + 1))) (pc := 158) hX dX11_word_158 (by simp only [mm, kK_X11_word_l2x]; exact hs.k) (ci := 12) (r := vwC12) rfl 17 (by decide) wd_1523 rfl rfl rfl rfl ?_
            refine v_iinc (w := nI (j + 1)) (pc := 161) hX dX11_word_161 rfl (nI_1 _) (by decide) rfl ?_
            refine v_iconst (v := 0) (pc := 164) hX dX11_word_164 (by decide) ?_
            refine v_istore (pc := 165) hX dX11_word_165 (by decide) rfl ?_
            refine mV_sub (lv' := [(0, .ref r), (1, .int (nI (j + 1))), (2, .int s), (4, .int (nI 0))]) ⟨rfl, rfl, rfl, rfl, trivial⟩ ?_
            refine lpc_X11_word_l3 hO r   hX hZ 12 0 (j + 1) s  (hs.to (by simp only [mm, kK_X11_word_l2x]) (by simp only [mm, kR_X11_word_l2x])) ⟨fun j h => by simp [mm, kA_X11_word_l2x]; exact hwd.1 j h, fun j h => by simp [mm, kA_X11_word_l2x]; exact hwd.2 j h⟩ (by omega) (by omega) ?_
            show mV g x ((sI (sI (X11_word_l2x_m g m r  j s 0) 404 r 0) 401 r ((gI (X11_word_l2x_m g m r  j s 0) 401 r) + 1))) _ _ _ [(0, .ref r), (1, .int (nI (j + 1))), (2, .int (X11_word_l3a0 g ((sI (sI (X11_word_l2x_m g m r  j s 0) 404 r 0) 401 r ((gI (X11_word_l2x_m g m r  j s 0) 401 r) + 1))) r  (j + 1) s))] []
            refine v_goto (tgt := 25) (pc := 219) hX dX11_word_219 (by decide) ?_
            refine mV_sub (lv' := [(0, .ref r), (1, .int (nI (j + 1))), (2, .int (X11_word_l3a0 g ((sI (sI (X11_word_l2x_m g m r  j s 0) 404 r 0) 401 r ((gI (X11_word_l2x_m g m r  j s 0) 401 r) + 1))) r  (j + 1) s))]) ⟨rfl, rfl, rfl, trivial⟩ ?_
            exact ih (j + 1) (X11_word_l3a0 g ((sI (sI (X11_word_l2x_m g m r  j s 0) 404 r 0) 401 r ((gI (X11_word_l2x_m g m r  j s 0) 401 r) + 1))) r  (j + 1) s) ((sI (sI (X11_word_l2x_m g m r  j s 0) 404 r 0) 401 r ((gI (X11_word_l2x_m g m r  j s 0) 401 r) + 1))) (hs.to (by simp only [mm, kK_X11_word_l2x]) (by simp only [mm, kR_X11_word_l2x])) (by simp [mm, kI_X11_word_l2x]; exact okI_up2 hHe hEn l2c) (by simp [mm, kI_X11_word_l2x]; exact hEn) ⟨fun j h => by simp [mm, kA_X11_word_l2x]; exact hwd.1 j h, fun j h => by simp [mm, kA_X11_word_l2x]; exact hwd.2 j h⟩ (fun h_ _ => l3_WL (g := g) (by omega) l2w rfl h_) (by omega) (by rw [X11_word_l4, if_neg c1, if_pos c2, if_neg c3] at hp; exact hp)
        ·
          refine v_iconst (v := 1) (pc := 135) hX dX11_word_135 (by decide) ?_
          rw [show X11_word_l2a0 g m r  j s 0 = 0 by assumption]
          refine v_goto (tgt := 140) (pc := 136) hX dX11_word_136 (by decide) ?_
          refine v_put (m1 := (sI (X11_word_l2x_m g m r  j s 0) 404 r 1)) (pc := 140) hX dX11_word_140 (by simp only [mm, kK_X11_word_l2x]; exact hs.k) (ci := 12) (r := vwC12) rfl 20 (by decide) wd_1526 rfl (by decide) (by decide) rfl ?_
          refine v_aload_n (pc := 143) hX dX11_word_143 rfl ?_
          refine v_dup (pc := 144) hX dX11_word_144 rfl ?_
          refine v_get (v := .int (gI (X11_word_l2x_m g m r  j s 0) 401 r)) (pc := 145) hX dX11_word_145 (by simp only [mm, kK_X11_word_l2x]; exact hs.k) (ci := 12) (r := vwC12) rfl 17 (by decide) wd_1523 (by show Value.int _ = Value.int _; simp [mm]) ?_
          refine v_iload_n (pc := 148) hX dX11_word_148 rfl ?_
          refine v_if_eq (tgt := 156) (pc := 149) hX dX11_word_149 (by decide) (fun c5 => ?_) (fun c5 => ?_)
          ·
            refine v_iconst (v := 0) (pc := 156) hX dX11_word_156 (by decide) ?_
            refine v_iadd (pc := 157) hX dX11_word_157 ?_
            refine v_put (m1 := (sI (sI (X11_word_l2x_m g m r  j s 0) 404 r 1) 401 r ((gI (X11_word_l2x_m g m r  j s 0) 401 r) + 0))) (pc := 158) hX dX11_word_158 (by simp only [mm, kK_X11_word_l2x]; exact hs.k) (ci := 12) (r := vwC12) rfl 17 (by decide) wd_1523 rfl rfl rfl rfl ?_
            refine v_iinc (w := nI (j + 1)) (pc := 161) hX dX11_word_161 rfl (nI_1 _) (by decide) rfl ?_
            refine v_iconst (v := 0) (pc := 164) hX dX11_word_164 (by decide) ?_
            refine v_istore (pc := 165) hX dX11_word_165 (by decide) rfl ?_
            refine mV_sub (lv' := [(0, .ref r), (1, .int (nI (j + 1))), (2, .int s), (4, .int (nI 0))]) ⟨rfl, rfl, rfl, rfl, trivial⟩ ?_
            refine lpc_X11_word_l3 hO r   hX hZ 12 0 (j + 1) s  (hs.to (by simp only [mm, kK_X11_word_l2x]) (by simp only [mm, kR_X11_word_l2x])) ⟨fun j h => by simp [mm, kA_X11_word_l2x]; exact hwd.1 j h, fun j h => by simp [mm, kA_X11_word_l2x]; exact hwd.2 j h⟩ (by omega) (by omega) ?_
            show mV g x ((sI (sI (X11_word_l2x_m g m r  j s 0) 404 r 1) 401 r ((gI (X11_word_l2x_m g m r  j s 0) 401 r) + 0))) _ _ _ [(0, .ref r), (1, .int (nI (j + 1))), (2, .int (X11_word_l3a0 g ((sI (sI (X11_word_l2x_m g m r  j s 0) 404 r 1) 401 r ((gI (X11_word_l2x_m g m r  j s 0) 401 r) + 0))) r  (j + 1) s))] []
            refine v_goto (tgt := 25) (pc := 219) hX dX11_word_219 (by decide) ?_
            refine mV_sub (lv' := [(0, .ref r), (1, .int (nI (j + 1))), (2, .int (X11_word_l3a0 g ((sI (sI (X11_word_l2x_m g m r  j s 0) 404 r 1) 401 r ((gI (X11_word_l2x_m g m r  j s 0) 401 r) + 0))) r  (j + 1) s))]) ⟨rfl, rfl, rfl, trivial⟩ ?_
            exact ih (j + 1) (X11_word_l3a0 g ((sI (sI (X11_word_l2x_m g m r  j s 0) 404 r 1) 401 r ((gI (X11_word_l2x_m g m r  j s 0) 401 r) + 0))) r  (j + 1) s) ((sI (sI (X11_word_l2x_m g m r  j s 0) 404 r 1) 401 r ((gI (X11_word_l2x_m g m r  j s 0) 401 r) + 0))) (hs.to (by simp only [mm, kK_X11_word_l2x]) (by simp only [mm, kR_X11_word_l2x])) (by simp [mm, kI_X11_word_l2x]; exact hHe) (by simp [mm, kI_X11_word_l2x]; exact hEn) ⟨fun j h => by simp [mm, kA_X11_word_l2x]; exact hwd.1 j h, fun j h => by simp [mm, kA_X11_word_l2x]; exact hwd.2 j h⟩ (fun _ h_ => absurd h_ (by simp [mm])) (by omega) (by rw [X11_word_l4, if_neg c1, if_pos c2, if_pos c3] at hp; exact hp)
          · exact absurd (by decide) c5
theorem kK_X11_word_l4 (g : mG) (r : Nat)  : ∀ (n j : Nat) (s : Int32) (m : mM), gK ((X11_word_l4 g r  n j s m).2) = gK m := by
  intro n
  induction n with
  | zero =>
    intro j s m
    rw [X11_word_l4]
    repeat' split
    all_goals simp only [mm, kK_X11_word_l2x]
  | succ n ih =>
    intro j s m
    rw [X11_word_l4]
    repeat' split
    all_goals simp only [mm, ih, kK_X11_word_l2x]
theorem kN_X11_word_l4 (g : mG) (r : Nat)  : ∀ (n j : Nat) (s : Int32) (m : mM), gN ((X11_word_l4 g r  n j s m).2) = gN m := by
  intro n
  induction n with
  | zero =>
    intro j s m
    rw [X11_word_l4]
    repeat' split
    all_goals simp only [mm, kN_X11_word_l2x]
  | succ n ih =>
    intro j s m
    rw [X11_word_l4]
    repeat' split
    all_goals simp only [mm, ih, kN_X11_word_l2x]
theorem kI_X11_word_l4 (g : mG) (r : Nat)  (k a9 : Nat) (h0 : k ≠ 401) (h1 : k ≠ 404) : ∀ (n j : Nat) (s : Int32) (m : mM), gI ((X11_word_l4 g r  n j s m).2) k a9 = gI m k a9 := by
  intro n
  induction n with
  | zero =>
    intro j s m
    rw [X11_word_l4]
    repeat' split
    all_goals simp [mm, kI_X11_word_l2x, h0, h1]
  | succ n ih =>
    intro j s m
    rw [X11_word_l4]
    repeat' split
    all_goals simp [mm, ih, kI_X11_word_l2x, h0, h1]
theorem kJ_X11_word_l4 (g : mG) (r : Nat)  : ∀ (n j : Nat) (s : Int32) (m : mM), gJ ((X11_word_l4 g r  n j s m).2) = gJ m := by
  intro n
  induction n with
  | zero =>
    intro j s m
    rw [X11_word_l4]
    repeat' split
    all_goals simp only [mm, kJ_X11_word_l2x]
  | succ n ih =>
    intro j s m
    rw [X11_word_l4]
    repeat' split
    all_goals simp only [mm, ih, kJ_X11_word_l2x]
theorem kR_X11_word_l4 (g : mG) (r : Nat)  : ∀ (n j : Nat) (s : Int32) (m : mM), gR ((X11_word_l4 g r  n j s m).2) = gR m := by
  intro n
  induction n with
  | zero =>
    intro j s m
    rw [X11_word_l4]
    repeat' split
    all_goals simp only [mm, kR_X11_word_l2x]
  | succ n ih =>
    intro j s m
    rw [X11_word_l4]
    repeat' split
    all_goals simp only [mm, ih, kR_X11_word_l2x]
theorem kQ_X11_word_l4 (g : mG) (r : Nat)  : ∀ (n j : Nat) (s : Int32) (m : mM), gQ ((X11_word_l4 g r  n j s m).2) = gQ m := by
  intro n
  induction n with
  | zero =>
    intro j s m
    rw [X11_word_l4]
    repeat' split
    all_goals simp only [mm, kQ_X11_word_l2x]
  | succ n ih =>
    intro j s m
    rw [X11_word_l4]
    repeat' split
    all_goals simp only [mm, ih, kQ_X11_word_l2x]
theorem kL_X11_word_l4 (g : mG) (r : Nat)  : ∀ (n j : Nat) (s : Int32) (m : mM), gL ((X11_word_l4 g r  n j s m).2) = gL m := by
  intro n
  induction n with
  | zero =>
    intro j s m
    rw [X11_word_l4]
    repeat' split
    all_goals simp only [mm, kL_X11_word_l2x]
  | succ n ih =>
    intro j s m
    rw [X11_word_l4]
    repeat' split
    all_goals simp only [mm, ih, kL_X11_word_l2x]
theorem kD_X11_word_l4 (g : mG) (r : Nat)  : ∀ (n j : Nat) (s : Int32) (m : mM), gD ((X11_word_l4 g r  n j s m).2) = gD m := by
  intro n
  induction n with
  | zero =>
    intro j s m
    rw [X11_word_l4]
    repeat' split
    all_goals simp only [mm, kD_X11_word_l2x]
  | succ n ih =>
    intro j s m
    rw [X11_word_l4]
    repeat' split
    all_goals simp only [mm, ih, kD_X11_word_l2x]
theorem kA_X11_word_l4 (g : mG) (r : Nat)  (c9 i9 : Nat) (h0 : c9 ≠ r + 8) : ∀ (n j : Nat) (s : Int32) (m : mM), gA ((X11_word_l4 g r  n j s m).2) c9 i9 = gA m c9 i9 := by
  intro n
  induction n with
  | zero =>
    intro j s m
    rw [X11_word_l4]
    repeat' split
    all_goals simp [mm, kA_X11_word_l2x, h0]
  | succ n ih =>
    intro j s m
    rw [X11_word_l4]
    repeat' split
    all_goals simp [mm, ih, kA_X11_word_l2x, h0]
def X11_word_l1 (g : mG) (r : Nat)  : Nat → Nat → mM → mM
  | 0, j, m => m
  | n + 1, j, m => X11_word_l1 g r  n (j + 1)  ((sA m (r + 8) j 1))
def X11_word_l1x_m (g : mG) (m : mM) (r : Nat)   : mM := X11_word_l1 g r  12 0  m
set_option maxHeartbeats 4000000 in
set_option maxRecDepth 100000 in
theorem lpc_X11_word_l1 {l : Launch} {g : mG} {x : mCx} (hO : mO l g) (r : Nat)   {pst : Option Value → mM → Prop} {XX : String → mM → Prop} (hX : mX l g x cX11_word yX11_word { frames := 2, cells := 0, slots := 0, locals := 40 } 5) (hZ : mZ g x (Option.some FieldType.int) [] pst XX 0 0) : ∀ (n j : Nat)  (m : mM) (hs : SR m r) (hHe : okI (gI m 401 r) 60) (hEn : okI (gI m 402 r) 60) (hW0 : gI m 404 r = 0) (hwd : WD m r) (hj : j + n = 12) (hk : mV g x (X11_word_l1 g r  n j  m) 0 0 21 [(0, .ref r)] []), mV g x m 0 0 2 [(0, .ref r), (1, .int (nI j))] [] := by
  intro n
  induction n with
  | zero =>
    intro j  m hs hHe hEn hW0 hwd hj hk
    refine v_iload_n (pc := 2) hX dX11_word_2 rfl ?_
    refine v_bipush (v := 12) (pc := 3) hX dX11_word_3 (by decide) ?_
    refine v_icmp_ge (tgt := 21) (pc := 5) hX dX11_word_5 (by decide) (fun c1 => ?_) (fun c1 => ?_)
    ·
      refine mV_sub (lv' := [(0, .ref r)]) ⟨rfl, trivial⟩ ?_
      exact (by rw [X11_word_l1] at hk; exact hk)
    · exact absurd (show nI 12 ≤ nI j from nI_le (by omega) (by omega)) c1
  | succ n ih =>
    intro j  m hs hHe hEn hW0 hwd hj hk
    refine v_iload_n (pc := 2) hX dX11_word_2 rfl ?_
    refine v_bipush (v := 12) (pc := 3) hX dX11_word_3 (by decide) ?_
    refine v_icmp_ge (tgt := 21) (pc := 5) hX dX11_word_5 (by decide) (fun c1 => ?_) (fun c1 => ?_)
    · exact absurd c1 (show ¬ nI 12 ≤ nI j from nI_ge (by omega) (by omega))
    ·
      refine v_aload_n (pc := 8) hX dX11_word_8 rfl ?_
      refine v_get (v := .ref (r + 8)) (pc := 9) hX dX11_word_9 hs.k (ci := 12) (r := vwC12) rfl 12 (by decide) wd_1518 (fvA rfl hs.r8) ?_
      refine v_iload_n (pc := 12) hX dX11_word_12 rfl ?_
      refine v_iconst (v := 1) (pc := 13) hX dX11_word_13 (by decide) ?_
      refine v_iast (j := j) (pc := 14) hX dX11_word_14 hs.k8 rfl (by omega) (by decide) ?_
      refine v_iinc (w := nI (j + 1)) (pc := 15) hX dX11_word_15 rfl (nI_1 _) (by decide) rfl ?_
      refine v_goto (tgt := 2) (pc := 18) hX dX11_word_18 (by decide) ?_
      refine mV_sub (lv' := [(0, .ref r), (1, .int (nI ((j + 1))))]) ⟨rfl, rfl, trivial⟩ ?_
      exact ih (j + 1)  ((sA m (r + 8) j 1)) (hs.to (by simp only [mm]) (by simp only [mm])) (by simp [mm]; exact hHe) (by simp [mm]; exact hEn) (by simp [mm, hW0]) ⟨fun j h => by simp [mm]; exact hwd.1 j h, fun j h => by simp [mm]; exact hwd.2 j h⟩ (by omega) (by rw [X11_word_l1] at hk; exact hk)
theorem kK_X11_word_l1 (g : mG) (r : Nat)  : ∀ (n j : Nat)  (m : mM), gK (X11_word_l1 g r  n j  m) = gK m := by
  intro n
  induction n with
  | zero =>
    intro j  m
    rw [X11_word_l1]
    repeat' split
    all_goals simp only [mm]
  | succ n ih =>
    intro j  m
    rw [X11_word_l1]
    repeat' split
    all_goals simp only [mm, ih]
theorem kN_X11_word_l1 (g : mG) (r : Nat)  : ∀ (n j : Nat)  (m : mM), gN (X11_word_l1 g r  n j  m) = gN m := by
  intro n
  induction n with
  | zero =>
    intro j  m
    rw [X11_word_l1]
    repeat' split
    all_goals simp only [mm]
  | succ n ih =>
    intro j  m
    rw [X11_word_l1]
    repeat' split
    all_goals simp only [mm, ih]
theorem kI_X11_word_l1 (g : mG) (r : Nat)  : ∀ (n j : Nat)  (m : mM), gI (X11_word_l1 g r  n j  m) = gI m := by
  intro n
  induction n with
  | zero =>
    intro j  m
    rw [X11_word_l1]
    repeat' split
    all_goals simp only [mm]
  | succ n ih =>
    intro j  m
    rw [X11_word_l1]
    repeat' split
    all_goals simp only [mm, ih]
theorem kJ_X11_word_l1 (g : mG) (r : Nat)  : ∀ (n j : Nat)  (m : mM), gJ (X11_word_l1 g r  n j  m) = gJ m := by
  intro n
  induction n with
  | zero =>
    intro j  m
    rw [X11_word_l1]
    repeat' split
    all_goals simp only [mm]
  | succ n ih =>
    intro j  m
    rw [X11_word_l1]
    repeat' split
    all_goals simp only [mm, ih]
theorem kR_X11_word_l1 (g : mG) (r : Nat)  : ∀ (n j : Nat)  (m : mM), gR (X11_word_l1 g r  n j  m) = gR m := by
  intro n
  induction n with
  | zero =>
    intro j  m
    rw [X11_word_l1]
    repeat' split
    all_goals simp only [mm]
  | succ n ih =>
    intro j  m
    rw [X11_word_l1]
    repeat' split
    all_goals simp only [mm, ih]
theorem kQ_X11_word_l1 (g : mG) (r : Nat)  : ∀ (n j : Nat)  (m : mM), gQ (X11_word_l1 g r  n j  m) = gQ m := by
  intro n
  induction n with
  | zero =>
    intro j  m
    rw [X11_word_l1]
    repeat' split
    all_goals simp only [mm]
  | succ n ih =>
    intro j  m
    rw [X11_word_l1]
    repeat' split
    all_goals simp only [mm, ih]
theorem kL_X11_word_l1 (g : mG) (r : Nat)  : ∀ (n j : Nat)  (m : mM), gL (X11_word_l1 g r  n j  m) = gL m := by
  intro n
  induction n with
  | zero =>
    intro j  m
    rw [X11_word_l1]
    repeat' split
    all_goals simp only [mm]
  | succ n ih =>
    intro j  m
    rw [X11_word_l1]
    repeat' split
    all_goals simp only [mm, ih]
theorem kD_X11_word_l1 (g : mG) (r : Nat)  : ∀ (n j : Nat)  (m : mM), gD (X11_word_l1 g r  n j  m) = gD m := by
  intro n
  induction n with
  | zero =>
    intro j  m
    rw [X11_word_l1]
    repeat' split
    all_goals simp only [mm]
  | succ n ih =>
    intro j  m
    rw [X11_word_l1]
    repeat' split
    all_goals simp only [mm, ih]
theorem kA_X11_word_l1 (g : mG) (r : Nat)  (c9 i9 : Nat) (h0 : c9 ≠ r + 8) : ∀ (n j : Nat)  (m : mM), gA (X11_word_l1 g r  n j  m) c9 i9 = gA m c9 i9 := by
  intro n
  induction n with
  | zero =>
    intro j  m
    rw [X11_word_l1]
    repeat' split
    all_goals simp [mm, h0]
  | succ n ih =>
    intro j  m
    rw [X11_word_l1]
    repeat' split
    all_goals simp [mm, ih, h0]
theorem kK_X11_word_l1x (g : mG) (m : mM) (r : Nat)   : gK (X11_word_l1x_m g m r  ) = gK m := kK_X11_word_l1 g r  _ _  m
theorem kN_X11_word_l1x (g : mG) (m : mM) (r : Nat)   : gN (X11_word_l1x_m g m r  ) = gN m := kN_X11_word_l1 g r  _ _  m
theorem kI_X11_word_l1x (g : mG) (m : mM) (r : Nat)   : gI (X11_word_l1x_m g m r  ) = gI m := kI_X11_word_l1 g r  _ _  m
theorem kJ_X11_word_l1x (g : mG) (m : mM) (r : Nat)   : gJ (X11_word_l1x_m g m r  ) = gJ m := kJ_X11_word_l1 g r  _ _  m
theorem kR_X11_word_l1x (g : mG) (m : mM) (r : Nat)   : gR (X11_word_l1x_m g m r  ) = gR m := kR_X11_word_l1 g r  _ _  m
theorem kQ_X11_word_l1x (g : mG) (m : mM) (r : Nat)   : gQ (X11_word_l1x_m g m r  ) = gQ m := kQ_X11_word_l1 g r  _ _  m
theorem kL_X11_word_l1x (g : mG) (m : mM) (r : Nat)   : gL (X11_word_l1x_m g m r  ) = gL m := kL_X11_word_l1 g r  _ _  m
theorem kD_X11_word_l1x (g : mG) (m : mM) (r : Nat)   : gD (X11_word_l1x_m g m r  ) = gD m := kD_X11_word_l1 g r  _ _  m
theorem kA_X11_word_l1x (g : mG) (m : mM) (r : Nat)   (c9 i9 : Nat) (h0 : c9 ≠ r + 8) : gA (X11_word_l1x_m g m r  ) c9 i9 = gA m c9 i9 := kA_X11_word_l1 g r  c9 i9 h0 _ _  m
def X11_word_r (g : mG) (m : mM) (r : Nat)  : Int32 := (X11_word_l4 g r  8 0 ((-1)) ((X11_word_l1x_m g m r  ))).1
def X11_word_m (g : mG) (m : mM) (r : Nat)  : mM := (X11_word_l4 g r  8 0 ((-1)) ((X11_word_l1x_m g m r  ))).2
theorem kK_X11_word (g : mG) (m : mM) (r : Nat)  : gK (X11_word_m g m r ) = gK m := by
  unfold X11_word_m
  repeat' split
  all_goals simp only [mm, kK_X11_word_l1x, kK_X11_word_l4]
theorem kN_X11_word (g : mG) (m : mM) (r : Nat)  : gN (X11_word_m g m r ) = gN m := by
  unfold X11_word_m
  repeat' split
  all_goals simp only [mm, kN_X11_word_l1x, kN_X11_word_l4]
theorem kI_X11_word (g : mG) (m : mM) (r : Nat)  (k a9 : Nat) (h0 : k ≠ 401) (h1 : k ≠ 404) : gI (X11_word_m g m r ) k a9 = gI m k a9 := by
  unfold X11_word_m
  repeat' split
  all_goals simp [mm, kI_X11_word_l1x, kI_X11_word_l4, h0, h1]
theorem kJ_X11_word (g : mG) (m : mM) (r : Nat)  : gJ (X11_word_m g m r ) = gJ m := by
  unfold X11_word_m
  repeat' split
  all_goals simp only [mm, kJ_X11_word_l1x, kJ_X11_word_l4]
theorem kR_X11_word (g : mG) (m : mM) (r : Nat)  : gR (X11_word_m g m r ) = gR m := by
  unfold X11_word_m
  repeat' split
  all_goals simp only [mm, kR_X11_word_l1x, kR_X11_word_l4]
theorem kQ_X11_word (g : mG) (m : mM) (r : Nat)  : gQ (X11_word_m g m r ) = gQ m := by
  unfold X11_word_m
  repeat' split
  all_goals simp only [mm, kQ_X11_word_l1x, kQ_X11_word_l4]
theorem kL_X11_word (g : mG) (m : mM) (r : Nat)  : gL (X11_word_m g m r ) = gL m := by
  unfold X11_word_m
  repeat' split
  all_goals simp only [mm, kL_X11_word_l1x, kL_X11_word_l4]
theorem kD_X11_word (g : mG) (m : mM) (r : Nat)  : gD (X11_word_m g m r ) = gD m := by
  unfold X11_word_m
  repeat' split
  all_goals simp only [mm, kD_X11_word_l1x, kD_X11_word_l4]
theorem kA_X11_word (g : mG) (m : mM) (r : Nat)  (c9 i9 : Nat) (h0 : c9 ≠ r + 8) : gA (X11_word_m g m r ) c9 i9 = gA m c9 i9 := by
  unfold X11_word_m
  repeat' split
  all_goals simp [mm, kA_X11_word_l1x, kA_X11_word_l4, h0]
set_option maxHeartbeats 4000000 in
set_option maxRecDepth 100000 in
theorem c_X11_word {l : Launch} {g : mG} (hO : mO l g) (m : mM) (r : Nat)  (hs : SR m r) (hHe : okI (gI m 401 r) 60) (hEn : okI (gI m 402 r) 60) (hW0 : gI m 404 r = 0) (hwd : WD m r) : mT l g yX11_word (.code yX11_word cX11_word 5 (Option.some FieldType.int)) 2 40 0 0 [.ref r] m (fun u m' => u = some (.int (X11_word_r g m r )) ∧ m' = X11_word_m g m r ) nX := by
  refine mT_of hO (by decide) (Nat.le_of_ble_eq_true rfl) (fun x hX hZ => ?_)
  show mV g x m 0 0 0 [(0, .ref r)] []
  refine v_iconst (v := 0) (pc := 0) hX dX11_word_0 (by decide) ?_
  refine v_istore_n (pc := 1) hX dX11_word_1 (by decide) rfl ?_
  refine mV_sub (lv' := [(0, .ref r), (1, .int (nI 0))]) ⟨rfl, rfl, trivial⟩ ?_
  refine lpc_X11_word_l1 hO r   hX hZ 12 0  m hs hHe hEn hW0 hwd (by omega) ?_
  show mV g x ((X11_word_l1x_m g m r  )) _ _ _ [(0, .ref r)] []
  refine v_iconst (v := 0) (pc := 21) hX dX11_word_21 (by decide) ?_
  refine v_istore_n (pc := 22) hX dX11_word_22 (by decide) rfl ?_
  refine v_iconst (v := (-1)) (pc := 23) hX dX11_word_23 (by decide) ?_
  refine v_istore_n (pc := 24) hX dX11_word_24 (by decide) rfl ?_
  refine mV_sub (lv' := [(0, .ref r), (1, .int (nI 0)), (2, .int ((-1)))]) ⟨rfl, rfl, rfl, trivial⟩ ?_
  exact lp_X11_word_l4 hO r   hX hZ 8 0 ((-1)) ((X11_word_l1x_m g m r  )) (hs.to (by simp only [mm, kK_X11_word_l1x]) (by simp only [mm, kR_X11_word_l1x])) (by simp [mm, kI_X11_word_l1x]; exact hHe) (by simp [mm, kI_X11_word_l1x]; exact hEn) ⟨fun j h => by simp [mm, kA_X11_word_l1x]; exact hwd.1 j h, fun j h => by simp [mm, kA_X11_word_l1x]; exact hwd.2 j h⟩ (fun _ _ => WL_0) (by omega) ⟨(by rw [X11_word_r]), (by rw [X11_word_m])⟩
