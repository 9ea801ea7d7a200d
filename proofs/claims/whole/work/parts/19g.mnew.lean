theorem ao_mv {u U : State} {A B : Array Value} (hvm : u.vm.Alike U.vm) (h : (Cond.arrayOver (.array .int)).before A u = true) : (Cond.arrayOver (.array .int)).before B U = true := by
  obtain ⟨comp, c, k, h1, h2, h3, h4, h5⟩ := arrayOverA_spec h
  obtain ⟨k', hk', he⟩ := hvm.2.2 _ _ h3
  have hi : (U.vm.classes.findIdx? fun (x : Class) => match x.kind with | .array component _ => component == comp | _ => false) = some c := by
    have e1 := va_idx_bare U.vm comp
    have e2 := va_idx_bare u.vm comp
    have hb : U.vm.bare = u.vm.bare := by first | exact hvm.bare_eq | exact hvm.bare_eq.symm
    rw [hb] at e1
    exact e1.symm.trans (e2.trans h2)
  have hkind : k'.kind = .array comp (.array .int) := by rw [he]; exact h4
  have f1 : U.vm.findClass (FieldType.array .int).toString = some comp := by rw [hvm.findClass]; exact h1
  have f2 : U.vm.findClass ("[" ++ (FieldType.array .int).toString) = some c := by rw [hvm.findClass]; exact h5
  unfold Cond.before Cond.holds
  simp only [Cond.value]
  rw [f1, Option.bind_some]
  generalize hz : Array.findIdx? _ U.vm.classes = z
  have hz2 : z = some c := hz.symm.trans hi
  subst hz2
  simp [hk', hkind, f2]
section
variable {g : mG} {x : mCx} {m : mM} {ce sl pc nL : Nat} {lv : List (Nat × Value)} {st : List Value} {l : Launch} {cc : ByteArray} {y : MethodName} {rm : Room}
theorem v_mnew {index n k : Nat} {i j : Int32} (hX : mX l g x cc y rm nL) (hdg : decode cc pc = .ok (.multianewarray index 2, 4)) (h1 : Cond.classLink y.cls index "[[I" ∈ gw) (h2 : Cond.arrayOver (.array .int) ∈ lw_tbl) (h3 : Cond.arrayClass .int ∈ gw) (hi : i = nI n) (hj : j = nI k) (hn : n ≤ 1000) (hk : k ≤ 1000) (hc : ce + (1 + n) ≤ rm.cells) (hs : sl + (n + n * k) ≤ rm.slots) (kk : mV g x (mnM m n k n) (ce + 1 + n) (sl + n + n * k) (pc + 4) lv (.ref (gN m) :: st)) : mV g x m ce sl pc lv (.int j :: .int i :: st) := by
  obtain ⟨p, l', e, R, s, md, args, below, meth, c, Q⟩ := x
  have hX0 := hX
  obtain ⟨rfl, hx, hb, hml, ⟨hown, hnm⟩, hts, hvm, rfl, hO, hH9⟩ := hX
  subst hi hj
  intro H locs ls hP hz hL hl
  have hN := hP.1.1
  intro T hT X
  subst hT
  subst hb
  have hK := mO_K hO hvm
  have hAO : (Cond.arrayOver (.array .int)).before args s = true := by
    obtain ⟨-, -, b, -, hb9⟩ := hO
    exact ao_mv hvm.alike (hb9 _ h2)
  have c1 : (nI n).toNatClampNeg = n := nI_clamp (by omega)
  have c2 : (nI k).toNatClampNeg = k := nI_clamp (by omega)
  have q := X.multianewarray2F (index := index) (n := nI n) (k := nI k) (ty := .int) hx hown (hts _ h1) hAO (hts _ h3) (g := F0 md pc ls (.int (nI k) :: .int (nI n) :: st)) (rest := st) rfl hdg rfl (nI_pos (by omega)) (nI_pos (by omega))
  rw [c1, c2] at q
  obtain ⟨vm₁, cA, comp, hW, hfA, hfC, -, -, X1, step⟩ := q (by omega) (show k * 4 ≤ 536870912 by omega) (by omega) rfl rfl hc hs
  have hA : g.2.1 10 = cA := by
    have hRA : s.vm.findClass ("[" ++ (FieldType.array .int).toString) = some (g.2.1 10) := (hK.2 10 _ (tysL_at _ (by decide))).2
    exact Option.some.inj (hRA.symm.trans hfA)
  have hC : g.2.1 0 = comp := by
    have hRA : s.vm.findClass ("[" ++ FieldType.int.toString) = some (g.2.1 0) := (hK.2 0 _ (tysL_at _ (by decide))).2
    exact Option.some.inj (hRA.symm.trans hfC)
  rw [hN] at step
  have hP2 : mP g (mnM m n k n) (Jvm.Free.Multi.fill (T.setVm vm₁) cA comp n k (defaultValue .int) n).heap := mn_P (n := n) (k := k) (T := T.setVm vm₁) hP hA hC n
  obtain ⟨t, a1, b1⟩ := kk _ locs ls hP2 (by rw [mn_N]; omega) hL hl _ rfl X1
  exact ⟨t, step t a1, b1⟩
end
