theorem num_kf {m m1 : mM} {f N : Nat} (hs : SF m f) (hN8 : N ≤ 8) (k : KF m m1) (h : ∀ i, i < N → okI (gI m 288 (pa m f i)) 9999) : ∀ i, i < N → okI (gI m1 288 (pa m1 f i)) 9999 := by
  intro i hi
  have e : pa m1 f i = pa m f i := by unfold pa; rw [k.Q hs.k2 (by decide)]
  rw [e, k.I (hs.kp (i := i) (by omega)) (by decide)]
  exact h i hi
def X3_writeFurnaceTo_l1 (g : mG) (f : Nat) (sb : Nat) (N : Nat) (tt : Nat) (vv : Nat) (oo : Nat) : Nat → Nat → mM → mM
  | 0, j, m => m
  | n + 1, j, m => if (gI m 293 (pa m f j)) = 0 then (X3_writeFurnaceTo_l1 g f sb N tt vv oo n (j + 1)  m) else (X3_writeFurnaceTo_l1 g f sb N tt vv oo n (j + 1)  ((apI g ((apC g m sb 32)) sb ((gI m 288 (pa m f j)).toNatClampNeg))))
set_option maxHeartbeats 4000000 in
set_option maxRecDepth 100000 in
theorem lp_X3_writeFurnaceTo_l1 {l : Launch} {g : mG} {x : mCx} (hO : mO l g) (f : Nat) (sb : Nat) (N : Nat) (tt : Nat) (vv : Nat) (oo : Nat) (hN8 : N ≤ 8) (h_tt : tt < 10000) (h_vv : vv < 10000) (h_oo : oo < 10000) {pst : Option Value → mM → Prop} {XX : String → mM → Prop} (hX : mX l g x cX3_writeFurnaceTo yX3_writeFurnaceTo { frames := 6, cells := 21, slots := 5502, locals := 135 } 3) (hZ : mZ g x (Option.none : Option FieldType) [] pst XX 21 5502) : ∀ (n j : Nat)  (m : mM) (hs : SF m f) (hN : gI m 163 f = nI N) (hnum : ∀ i, i < N → okI (gI m 288 (pa m f i)) 9999) (s0 : SLo m sb) (hcb : cnO m sb ≤ 14 + 5 * j) (hj : j + n = N) (hp : pst none (X3_writeFurnaceTo_l1 g f sb N tt vv oo n j  m)), mV g x m (5 + 2 * j) (1310 + 524 * j) 44 [(0, .ref f), (1, .ref sb), (2, .int (nI j))] [] := by
  intro n
  induction n with
  | zero =>
    intro j  m hs hN hnum s0 hcb hj hp
    refine v_iload_n (pc := 44) hX dX3_writeFurnaceTo_44 rfl ?_
    refine v_aload_n (pc := 45) hX dX3_writeFurnaceTo_45 rfl ?_
    refine v_get (v := .int (nI N)) (pc := 46) hX dX3_writeFurnaceTo_46 hs.k (ci := 5) (r := vwC5) rfl 3 (by decide) wd_155 (congrArg Value.int hN) ?_
    refine v_icmp_ge (tgt := 89) (pc := 49) hX dX3_writeFurnaceTo_49 (by decide) (fun c1 => ?_) (fun c1 => ?_)
    ·
      exact v_vret (pc := 89) hX hZ dX3_writeFurnaceTo_89 (by omega) (by omega) (by rw [X3_writeFurnaceTo_l1] at hp; exact hp)
    · exact absurd (nI_le (by omega) (by omega)) c1
  | succ n ih =>
    intro j  m hs hN hnum s0 hcb hj hp
    refine v_iload_n (pc := 44) hX dX3_writeFurnaceTo_44 rfl ?_
    refine v_aload_n (pc := 45) hX dX3_writeFurnaceTo_45 rfl ?_
    refine v_get (v := .int (nI N)) (pc := 46) hX dX3_writeFurnaceTo_46 hs.k (ci := 5) (r := vwC5) rfl 3 (by decide) wd_155 (congrArg Value.int hN) ?_
    refine v_icmp_ge (tgt := 89) (pc := 49) hX dX3_writeFurnaceTo_49 (by decide) (fun c1 => ?_) (fun c1 => ?_)
    · exact absurd c1 (nI_ge (by omega) (by omega))
    ·
      refine v_aload_n (pc := 52) hX dX3_writeFurnaceTo_52 rfl ?_
      refine v_get (v := .ref (f + 2)) (pc := 53) hX dX3_writeFurnaceTo_53 hs.k (ci := 5) (r := vwC5) rfl 1 (by decide) wd_152 (fvR hs.r1) ?_
      refine v_iload_n (pc := 56) hX dX3_writeFurnaceTo_56 rfl ?_
      refine v_aaldR (q := pa m f j) (pc := 57) hX dX3_writeFurnaceTo_57 hs.k2 (by decide) (by decide) rfl (by omega) (by decide) (hs.qp (i := j) (by omega)) ?_
      refine v_getN (v := .int (gI m 293 (pa m f j))) (pc := 58) hX dX3_writeFurnaceTo_58 (hs.kp (i := j) (by omega)) (ci := 9) (r := vwC9) rfl 5 (by decide) wd_108 rfl ?_
      refine v_if_eq (tgt := 83) (pc := 61) hX dX3_writeFurnaceTo_61 (by decide) (fun c2 => ?_) (fun c2 => ?_)
      ·
        refine v_iinc (w := nI (j + 1)) (pc := 83) hX dX3_writeFurnaceTo_83 rfl (nI_1 _) (by decide) rfl ?_
        refine v_goto (tgt := 44) (pc := 86) hX dX3_writeFurnaceTo_86 (by decide) ?_
        refine mV_sub (lv' := [(0, .ref f), (1, .ref sb), (2, .int (nI (j + 1)))]) ⟨rfl, rfl, rfl, trivial⟩ ?_
        refine mV_widen (ce' := 5 + 2 * (j + 1)) (sl' := 1310 + 524 * (j + 1)) (by omega) (by omega) ?_
        exact ih (j + 1)  m hs hN hnum s0 (by omega) (by omega) (by rw [X3_writeFurnaceTo_l1, if_pos c2] at hp; exact hp)
      ·
        refine v_aload_n (pc := 64) hX dX3_writeFurnaceTo_64 rfl ?_
        refine v_bipush (v := 32) (pc := 65) hX dX3_writeFurnaceTo_65 (by decide) ?_
        refine mV_fresh (fun hF1 => ?_)
        have ap1 := apC_ok (g := g) (a := 32) s0 hF1 (by omega)
        refine v_callV (z := yJ4_append_cf468) (pc := 67) hX dX3_writeFurnaceTo_67 (c_apC hO m sb 32 s0 (by omega) (by decide)) s0.k rfl wd_818 wd_819 wd_820 wd_13 wd_821 ⟨by decide, by decide, (by decide +kernel : (parseMethodDescriptor yJ4_append_cf468.desc).map (fun d => d.parameters.length) = some 1)⟩ rfl (Nat.le_of_ble_eq_true rfl) ⟨⟨by decide, by decide⟩, (by show 5 + 2 * j + 1 ≤ 21; omega), (by show 1310 + 524 * j + 262 ≤ 5502; omega)⟩ (fun E m9 h9 => h9.elim) (fun r9 m9 h9 => ?_)
        obtain ⟨rfl, h8⟩ := h9
        replace h8 := h8.symm
        subst h8
        have an1 := ap1.2.1
        have ak1 : KF m (apC g m sb 32) := (KF.rf).tr ap1.2.2.1
        show mV g x _ _ _ _ _ [.ref sb]
        refine v_aload_n (pc := 70) hX dX3_writeFurnaceTo_70 rfl ?_
        refine v_get (v := .ref (f + 2)) (pc := 71) hX dX3_writeFurnaceTo_71 (ak1.k hs.k (by decide)) (ci := 5) (r := vwC5) rfl 1 (by decide) wd_152 (fvR (((ak1.R hs.k (by decide)).trans hs.r1))) ?_
        refine v_iload_n (pc := 74) hX dX3_writeFurnaceTo_74 rfl ?_
        refine v_aaldR (q := pa m f j) (pc := 75) hX dX3_writeFurnaceTo_75 (ak1.ka hs.k2 (by decide)) (by decide) (by decide) rfl (by omega) (by decide) (by rw [ak1.Q hs.k2 (by decide)]; exact hs.qp (i := j) (by omega)) ?_
        refine v_getN (v := .int (nI ((gI m 288 (pa m f j)).toNatClampNeg))) (pc := 76) hX dX3_writeFurnaceTo_76 (ak1.k (hs.kp (i := j) (by omega)) (by decide)) (ci := 9) (r := vwC9) rfl 0 (by decide) wd_91 (congrArg Value.int ((ak1.I (hs.kp (i := j) (by omega)) (by decide)).trans (hnum j (by omega)).1)) ?_
        refine mV_fresh (fun hF2 => ?_)
        have ap2 := apI_ok (g := g) (n := (gI m 288 (pa m f j)).toNatClampNeg) ap1.1 hF2 (by omega) (by have := (hnum j (by omega)).2; omega)
        refine v_callV (z := yJ4_append_bf812) (pc := 79) hX dX3_writeFurnaceTo_79 (c_apI hO ((apC g m sb 32)) sb ((gI m 288 (pa m f j)).toNatClampNeg) ap1.1 (by omega) (by have := (hnum j (by omega)).2; omega)) ap1.1.k rfl wd_817 wd_602 wd_603 wd_13 wd_604 ⟨by decide, by decide, (by decide +kernel : (parseMethodDescriptor yJ4_append_bf812.desc).map (fun d => d.parameters.length) = some 1)⟩ rfl (Nat.le_of_ble_eq_true rfl) ⟨⟨by decide, by decide⟩, (by show 5 + 2 * j + 1 + 1 ≤ 21; omega), (by show 1310 + 524 * j + 262 + 262 ≤ 5502; omega)⟩ (fun E m9 h9 => h9.elim) (fun r9 m9 h9 => ?_)
        obtain ⟨rfl, h8⟩ := h9
        replace h8 := h8.symm
        subst h8
        have an2 := ap2.2.1
        have ad2 := digs_le ((gI m 288 (pa m f j)).toNatClampNeg)
        have ak2 : KF m (apI g ((apC g m sb 32)) sb ((gI m 288 (pa m f j)).toNatClampNeg)) := (ak1).tr ap2.2.2.1
        show mV g x _ _ _ _ _ [.ref sb]
        refine v_pop (pc := 82) hX dX3_writeFurnaceTo_82 rfl ?_
        refine v_iinc (w := nI (j + 1)) (pc := 83) hX dX3_writeFurnaceTo_83 rfl (nI_1 _) (by decide) rfl ?_
        refine v_goto (tgt := 44) (pc := 86) hX dX3_writeFurnaceTo_86 (by decide) ?_
        refine mV_sub (lv' := [(0, .ref f), (1, .ref sb), (2, .int (nI (j + 1)))]) ⟨rfl, rfl, rfl, trivial⟩ ?_
        refine mV_widen (ce' := 5 + 2 * (j + 1)) (sl' := 1310 + 524 * (j + 1)) (by omega) (by omega) ?_
        exact ih (j + 1)  ((apI g ((apC g m sb 32)) sb ((gI m 288 (pa m f j)).toNatClampNeg))) (hs.kf ak2) ((ak2.I hs.k (by decide)).trans hN) (num_kf hs hN8 ak2 hnum) ap2.1 (by omega) (by omega) (by rw [X3_writeFurnaceTo_l1, if_neg c2] at hp; exact hp)

def X3_writeFurnaceTo_m (g : mG) (m : mM) (f : Nat) (sb : Nat) (N : Nat) (tt : Nat) (vv : Nat) (oo : Nat) : mM := X3_writeFurnaceTo_l1 g f sb N tt vv oo N 0  ((apI g ((apC g ((apI g ((apC g ((apI g m sb tt)) sb 64)) sb vv)) sb 35)) sb oo))

set_option maxHeartbeats 4000000 in
set_option maxRecDepth 100000 in
theorem c_X3_writeFurnaceTo {l : Launch} {g : mG} (hO : mO l g) (m : mM) (f : Nat) (sb : Nat) (N : Nat) (tt : Nat) (vv : Nat) (oo : Nat) (hs : SF m f) (hN : gI m 163 f = nI N) (hN8 : N ≤ 8) (hnum : ∀ i, i < N → okI (gI m 288 (pa m f i)) 9999) (s0 : SLo m sb) (n0 : cnO m sb = 0) (hi_tt : gI m 192 (f + 1) = nI tt) (hi_vv : gI m 193 (f + 1) = nI vv) (hi_oo : gI m 194 (f + 1) = nI oo) (h_tt : tt < 10000) (h_vv : vv < 10000) (h_oo : oo < 10000) : mT l g yX3_writeFurnaceTo (.code yX3_writeFurnaceTo cX3_writeFurnaceTo 3 (Option.none : Option FieldType)) 6 135 21 5502 [.ref f, .ref sb] m (fun r m' => r = none ∧ m' = X3_writeFurnaceTo_m g m f sb N tt vv oo) nX := by
  refine mT_of hO (by decide) (Nat.le_of_ble_eq_true rfl) (fun x hX hZ => ?_)
  show mV g x m 0 0 0 [(0, .ref f), (1, .ref sb)] []
  refine v_aload_n (pc := 0) hX dX3_writeFurnaceTo_0 rfl ?_
  refine v_aload_n (pc := 1) hX dX3_writeFurnaceTo_1 rfl ?_
  refine v_get (v := .ref (f + 1)) (pc := 2) hX dX3_writeFurnaceTo_2 hs.k (ci := 5) (r := vwC5) rfl 0 (by decide) wd_149 (fvR hs.r0) ?_
  refine v_getN (v := .int (nI tt)) (pc := 5) hX dX3_writeFurnaceTo_5 hs.k1 (ci := 6) (r := vwC6) rfl 0 (by decide) wd_59 (congrArg Value.int hi_tt) ?_
  refine mV_fresh (fun hF3 => ?_)
  have ap3 := apI_ok (g := g) (n := tt) s0 hF3 (by omega) h_tt
  refine v_callV (z := yJ4_append_bf812) (pc := 8) hX dX3_writeFurnaceTo_8 (c_apI hO m sb tt s0 (by omega) h_tt) s0.k rfl wd_817 wd_602 wd_603 wd_13 wd_604 ⟨by decide, by decide, (by decide +kernel : (parseMethodDescriptor yJ4_append_bf812.desc).map (fun d => d.parameters.length) = some 1)⟩ rfl (Nat.le_of_ble_eq_true rfl) ⟨⟨by decide, by decide⟩, by decide, by decide⟩ (fun E m9 h9 => h9.elim) (fun r9 m9 h9 => ?_)
  obtain ⟨rfl, h8⟩ := h9
  replace h8 := h8.symm
  subst h8
  have an3 := ap3.2.1
  have ad3 := digs_le tt
  have ak3 : KF m (apI g m sb tt) := (KF.rf).tr ap3.2.2.1
  show mV g x _ _ _ _ _ [.ref sb]
  refine v_bipush (v := 64) (pc := 11) hX dX3_writeFurnaceTo_11 (by decide) ?_
  refine mV_fresh (fun hF4 => ?_)
  have ap4 := apC_ok (g := g) (a := 64) ap3.1 hF4 (by omega)
  refine v_callV (z := yJ4_append_cf468) (pc := 13) hX dX3_writeFurnaceTo_13 (c_apC hO ((apI g m sb tt)) sb 64 ap3.1 (by omega) (by decide)) ap3.1.k rfl wd_818 wd_819 wd_820 wd_13 wd_821 ⟨by decide, by decide, (by decide +kernel : (parseMethodDescriptor yJ4_append_cf468.desc).map (fun d => d.parameters.length) = some 1)⟩ rfl (Nat.le_of_ble_eq_true rfl) ⟨⟨by decide, by decide⟩, by decide, by decide⟩ (fun E m9 h9 => h9.elim) (fun r9 m9 h9 => ?_)
  obtain ⟨rfl, h8⟩ := h9
  replace h8 := h8.symm
  subst h8
  have an4 := ap4.2.1
  have ak4 : KF m (apC g ((apI g m sb tt)) sb 64) := (ak3).tr ap4.2.2.1
  show mV g x _ _ _ _ _ [.ref sb]
  refine v_aload_n (pc := 16) hX dX3_writeFurnaceTo_16 rfl ?_
  refine v_get (v := .ref (f + 1)) (pc := 17) hX dX3_writeFurnaceTo_17 (ak4.k hs.k (by decide)) (ci := 5) (r := vwC5) rfl 0 (by decide) wd_149 (fvR (((ak4.R hs.k (by decide)).trans hs.r0))) ?_
  refine v_getN (v := .int (nI vv)) (pc := 20) hX dX3_writeFurnaceTo_20 (ak4.k hs.k1 (by decide)) (ci := 6) (r := vwC6) rfl 1 (by decide) wd_62 (congrArg Value.int ((ak4.I hs.k1 (by decide)).trans hi_vv)) ?_
  refine mV_fresh (fun hF5 => ?_)
  have ap5 := apI_ok (g := g) (n := vv) ap4.1 hF5 (by omega) h_vv
  refine v_callV (z := yJ4_append_bf812) (pc := 23) hX dX3_writeFurnaceTo_23 (c_apI hO ((apC g ((apI g m sb tt)) sb 64)) sb vv ap4.1 (by omega) h_vv) ap4.1.k rfl wd_817 wd_602 wd_603 wd_13 wd_604 ⟨by decide, by decide, (by decide +kernel : (parseMethodDescriptor yJ4_append_bf812.desc).map (fun d => d.parameters.length) = some 1)⟩ rfl (Nat.le_of_ble_eq_true rfl) ⟨⟨by decide, by decide⟩, by decide, by decide⟩ (fun E m9 h9 => h9.elim) (fun r9 m9 h9 => ?_)
  obtain ⟨rfl, h8⟩ := h9
  replace h8 := h8.symm
  subst h8
  have an5 := ap5.2.1
  have ad5 := digs_le vv
  have ak5 : KF m (apI g ((apC g ((apI g m sb tt)) sb 64)) sb vv) := (ak4).tr ap5.2.2.1
  show mV g x _ _ _ _ _ [.ref sb]
  refine v_bipush (v := 35) (pc := 26) hX dX3_writeFurnaceTo_26 (by decide) ?_
  refine mV_fresh (fun hF6 => ?_)
  have ap6 := apC_ok (g := g) (a := 35) ap5.1 hF6 (by omega)
  refine v_callV (z := yJ4_append_cf468) (pc := 28) hX dX3_writeFurnaceTo_28 (c_apC hO ((apI g ((apC g ((apI g m sb tt)) sb 64)) sb vv)) sb 35 ap5.1 (by omega) (by decide)) ap5.1.k rfl wd_818 wd_819 wd_820 wd_13 wd_821 ⟨by decide, by decide, (by decide +kernel : (parseMethodDescriptor yJ4_append_cf468.desc).map (fun d => d.parameters.length) = some 1)⟩ rfl (Nat.le_of_ble_eq_true rfl) ⟨⟨by decide, by decide⟩, by decide, by decide⟩ (fun E m9 h9 => h9.elim) (fun r9 m9 h9 => ?_)
  obtain ⟨rfl, h8⟩ := h9
  replace h8 := h8.symm
  subst h8
  have an6 := ap6.2.1
  have ak6 : KF m (apC g ((apI g ((apC g ((apI g m sb tt)) sb 64)) sb vv)) sb 35) := (ak5).tr ap6.2.2.1
  show mV g x _ _ _ _ _ [.ref sb]
  refine v_aload_n (pc := 31) hX dX3_writeFurnaceTo_31 rfl ?_
  refine v_get (v := .ref (f + 1)) (pc := 32) hX dX3_writeFurnaceTo_32 (ak6.k hs.k (by decide)) (ci := 5) (r := vwC5) rfl 0 (by decide) wd_149 (fvR (((ak6.R hs.k (by decide)).trans hs.r0))) ?_
  refine v_getN (v := .int (nI oo)) (pc := 35) hX dX3_writeFurnaceTo_35 (ak6.k hs.k1 (by decide)) (ci := 6) (r := vwC6) rfl 2 (by decide) wd_65 (congrArg Value.int ((ak6.I hs.k1 (by decide)).trans hi_oo)) ?_
  refine mV_fresh (fun hF7 => ?_)
  have ap7 := apI_ok (g := g) (n := oo) ap6.1 hF7 (by omega) h_oo
  refine v_callV (z := yJ4_append_bf812) (pc := 38) hX dX3_writeFurnaceTo_38 (c_apI hO ((apC g ((apI g ((apC g ((apI g m sb tt)) sb 64)) sb vv)) sb 35)) sb oo ap6.1 (by omega) h_oo) ap6.1.k rfl wd_817 wd_602 wd_603 wd_13 wd_604 ⟨by decide, by decide, (by decide +kernel : (parseMethodDescriptor yJ4_append_bf812.desc).map (fun d => d.parameters.length) = some 1)⟩ rfl (Nat.le_of_ble_eq_true rfl) ⟨⟨by decide, by decide⟩, by decide, by decide⟩ (fun E m9 h9 => h9.elim) (fun r9 m9 h9 => ?_)
  obtain ⟨rfl, h8⟩ := h9
  replace h8 := h8.symm
  subst h8
  have an7 := ap7.2.1
  have ad7 := digs_le oo
  have ak7 : KF m (apI g ((apC g ((apI g ((apC g ((apI g m sb tt)) sb 64)) sb vv)) sb 35)) sb oo) := (ak6).tr ap7.2.2.1
  show mV g x _ _ _ _ _ [.ref sb]
  refine v_pop (pc := 41) hX dX3_writeFurnaceTo_41 rfl ?_
  refine v_iconst (v := 0) (pc := 42) hX dX3_writeFurnaceTo_42 (by decide) ?_
  refine v_istore_n (pc := 43) hX dX3_writeFurnaceTo_43 (by decide) rfl ?_
  refine mV_sub (lv' := [(0, .ref f), (1, .ref sb), (2, .int (nI 0))]) ⟨rfl, rfl, rfl, trivial⟩ ?_
  refine mV_widen (ce' := 5 + 2 * 0) (sl' := 1310 + 524 * 0) (by omega) (by omega) ?_
  exact lp_X3_writeFurnaceTo_l1 hO f sb N tt vv oo hN8 h_tt h_vv h_oo hX hZ N 0  ((apI g ((apC g ((apI g ((apC g ((apI g m sb tt)) sb 64)) sb vv)) sb 35)) sb oo)) (hs.kf ak7) ((ak7.I hs.k (by decide)).trans hN) (num_kf hs hN8 ak7 hnum) ap7.1 (by omega) (by omega) ⟨rfl, (by rw [X3_writeFurnaceTo_m])⟩
