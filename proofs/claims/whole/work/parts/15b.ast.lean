/-- a start's object is stored into an array of the memory -/
theorem v_aastO {l : Launch} {g : mG} {x : mCx} {m : mM} {cc : ByteArray} {y : MethodName} {rm : Room} {nL : Nat} {ce sl pc : Nat} {lv : List (Nat × Value)} {st : List Value} {a t n j b : Nat} {i : Int32} {C : String} (hX : mX l g x cc y rm nL) (hdg : decode cc pc = .ok (.aastore, 1)) (hκ : gK m a = some (.inr (t, n))) (ht : t < 10) (ht6 : 6 ≤ t) (hty : aty t = .object C) (hB : oO g C b) (hi : i = nI j) (hj : j < n) (hn : n < 2 ^ 31) (kk : mV g x (sQ m a j (some b)) ce sl (pc + 1) lv st) : mV g x m ce sl pc lv (.ref b :: .int i :: .ref a :: st) := by
  obtain ⟨p, l', e, R, s, md, args, below, meth, c, Q⟩ := x
  obtain ⟨rfl, hx, hb, hml, ⟨hown, hnm⟩, hts, hvm, rfl, hO, hH9⟩ := hX
  subst hi
  intro H locs ls hP hz hL hl
  have hin : ¬ (nI j < 0 ∨ n ≤ (nI j).toNatClampNeg) := vp_in_nI hj hn
  have ha : ∀ m' : mM, arrOf t m' a = .inr (.inr (.inr (.inr (gQ m' a)))) := by
    match t, ht6 with
    | n + 6, _ => exact fun _ => rfl
  have hK := mO_K hO hvm
  obtain ⟨cellV, g1, g2, g3, -⟩ := (va_O.moved hvm.alike hB).kept (fun a q1 _ => hP.2.1 a q1)
  have hRA := (hK.2 t _ (tysL_at _ (by omega))).2
  dsimp only at hRA
  rw [hty] at hRA
  obtain ⟨kA, comp, k1, k2, k3, -⟩ := hRA
  have hcomp : comp = cellV.cls := Option.some.inj (k3.symm.trans g3)
  subst hcomp
  obtain ⟨kC, hkC, -⟩ := Vm.findClass_spec k3
  have hc0 : H[a]? = some (vp_cell (g.2.1 t) (n, .inr (.inr (.inr (.inr (gQ m a)))))) := by rw [← ha]; exact (hP.2.2 a _ hκ).2
  refine W.aast hx hb hc0 (fun q h => by cases h) (fun h => by cases h) k1 k2 rfl hkC ⟨fun q => hin (Or.inl q), by show _ < (arrV _ _ _).slots.size; rw [arrV_size, nI_clamp (Nat.lt_trans hj hn)]; exact hj⟩ g1 (fun q h => by rw [h] at g2; cases g2) hkC (by first | exact Vm.assignable_self _ _ | exact assignable_self _ _) rfl rfl hdg fun H1 e z oq => ?_
  refine kk H1 _ ls (mP_arr hP hκ rfl rfl (fun b hb => mS_Q hb) z oq ?_) hz (t_lc hL (hP.2.2 a _ hκ).1) hl
  rw [nI_clamp (Nat.lt_trans hj hn)] at e
  rw [e, ha]
  refine congrArg some ((cell_q _ _ _ j (some b)).trans ?_)
  rw [← gQ_s]
