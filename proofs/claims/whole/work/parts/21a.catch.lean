/-! WHAT THE LAW CATCHES -/
section
variable {l : Launch} {g : mG} {x : mCx} {m m1 : mM} {cc : ByteArray} {y z : MethodName} {rm : Room} {nL : Nat} {ce sl pc : Nat} {lv : List (Nat × Value)} {st : List Value}
/-- an exception of the class E, caught by the n-th row of this method's table -/
theorem v_catch {E nm : String} {rt : Option FieldType} {hh : List (Nat × Nat × Nat × Nat)} {pst : Option Value → mM → Prop} {XX : String → mM → Prop} {mc' ms' f t hp ty : Nat} (n : Nat) (hX : mX l g x cc y rm nL) (hZ : mZ g x rt hh pst XX mc' ms') (hs : hh = hh.take n ++ (f, t, hp, ty) :: hh.drop (n + 1)) (hpre : ∀ z ∈ hh.take n, z.2.2.2 ≠ 0 ∧ ∃ nm' : String, Cond.classLink y.cls z.2.2.2 nm' ∈ gw ∧ va_Nc E nm' g.2.2) (hcov : covers ⟨f, t, hp, ty⟩ pc = true) (h0 : ty ≠ 0) (hl : Cond.classLink y.cls ty nm ∈ gw) (hca : Cond.castable E nm ∈ lw_tbl) (k : ∀ q : Nat, mV g x m ce sl hp lv [.ref q]) : mVX g x m ce sl pc lv E := by
  obtain ⟨p, l', e, R, s, md, args, below, meth, c, Q⟩ := x
  obtain ⟨rfl, hx, hb, hml, ⟨hown, hnm⟩, hts, hvm, rfl, hO, hH9⟩ := hX
  obtain ⟨hr, hlk, htb, hQ⟩ := hZ
  obtain ⟨-, -, b9, hb9, hw9⟩ := hO
  intro H locs ls rest q cell hP hz hL hl9 hcell hv hcl
  have hsplit : c.exceptionTable.toList = tableOf (hh.take n) ++ ⟨f, t, hp, ty⟩ :: tableOf (hh.drop (n + 1)) := by
    rw [htb]
    have e : tableOf hh = tableOf (hh.take n ++ (f, t, hp, ty) :: hh.drop (n + 1)) := congrArg tableOf hs
    rw [e]
    unfold tableOf
    rw [List.map_append, List.map_cons]
  refine vx_catch hown (tableOf (hh.take n)) ⟨f, t, hp, ty⟩ (tableOf (hh.drop (n + 1))) hsplit (fun z hz => Or.inr ?_) hcov h0 (hts _ hl) ?_ hcell hv hcl (k q H locs ls hP hz hL hl9)
  · unfold tableOf at hz
    obtain ⟨w, hw, rfl⟩ := List.mem_map.mp hz
    obtain ⟨h1, nm', h2, h3⟩ := hpre w hw
    exact ⟨h1, nm', hts _ h2, va_Nc.moved hvm.alike h3⟩
  · have h := hw9 _ hca
    obtain ⟨c3, c4, h3, h4, h5⟩ := Cond.castable_spec h
    have e3 : s.vm.findClass E = some c3 := by rw [hvm.alike.findClass]; exact h3
    have e4 : s.vm.findClass nm = some c4 := by rw [hvm.alike.findClass]; exact h4
    have e5 : s.vm.assignable c3 c4 = true := by rw [hvm.alike.assignable]; exact h5
    simp [Cond.before, Cond.holds, Cond.value, e3, e4, e5]
end
theorem n64_f2d {a : UInt32} (h : vf_n32 a) : vf_n64 (FP.f2d a) := by
  have hA : FP.Core.fIsNaN a = false := by
    cases hd : FP.Core.fIsNaN a with
    | false => rfl
    | true =>
      have h1 := (FP.Core.isNaN_bits32 _).mp hd
      unfold vf_n32 at h
      rw [UInt32.le_iff_toNat_le, mk_32] at h
      have e : (0x7f800000 : UInt32).toNat = 2139095040 := rfl
      omega
  have h1 : FP.Core.dIsNaN (FP.Core.f2d a) = false := FP.Core.f2d_out hA
  have h2 : ¬ 9218868437227405312 < (FP.Core.f2d a).toNat % 2 ^ 63 := fun q => by
    rw [(FP.Core.isNaN_bits _).mpr q] at h1
    cases h1
  have e9 : FP.f2d a = FP.Core.f2d a := by
    unfold FP.f2d
    rw [if_neg (by rw [hA]; decide)]
  unfold vf_n64
  rw [e9]
  rw [UInt64.le_iff_toNat_le, mk_64]
  exact Nat.le_of_not_lt h2
theorem ps_n (g : mG) (m : mM) (b : Nat) : vf_n32 (X10_passShare_r g m b) := by
  unfold X10_passShare_r
  by_cases c : gI m 169 (b + 1) = 0
  · rw [if_pos c]
    show (0 : UInt32) &&& 0x7fffffff ≤ 0x7f800000
    decide
  · rw [if_neg c]
    exact n32_div c
theorem nc_AN {l : Launch} {g : mG} (hO : mO l g) : va_Nc "java/lang/IllegalArgumentException" "java/util/NoSuchElementException" g.2.2 := by
  obtain ⟨b, hb, -⟩ := hO.2.2
  exact va_Nc.of (flat_of_before _ hb _ (List.mem_of_getElem? (i := 461) (by decide +kernel)))
theorem nc_SA {l : Launch} {g : mG} (hO : mO l g) : va_Nc "java/lang/IllegalStateException" "java/lang/IllegalArgumentException" g.2.2 := by
  obtain ⟨b, hb, -⟩ := hO.2.2
  exact va_Nc.of (flat_of_before _ hb _ (List.mem_of_getElem? (i := 422) (by decide +kernel)))
theorem nc_SI {l : Launch} {g : mG} (hO : mO l g) : va_Nc "java/lang/IllegalStateException" "java/lang/IndexOutOfBoundsException" g.2.2 := by
  obtain ⟨b, hb, -⟩ := hO.2.2
  exact va_Nc.of (flat_of_before _ hb _ (List.mem_of_getElem? (i := 482) (by decide +kernel)))
theorem nc_SN {l : Launch} {g : mG} (hO : mO l g) : va_Nc "java/lang/IllegalStateException" "java/util/NoSuchElementException" g.2.2 := by
  obtain ⟨b, hb, -⟩ := hO.2.2
  exact va_Nc.of (flat_of_before _ hb _ (List.mem_of_getElem? (i := 462) (by decide +kernel)))
theorem nc_IN {l : Launch} {g : mG} (hO : mO l g) : va_Nc "java/lang/IndexOutOfBoundsException" "java/util/NoSuchElementException" g.2.2 := by
  obtain ⟨b, hb, -⟩ := hO.2.2
  exact va_Nc.of (flat_of_before _ hb _ (List.mem_of_getElem? (i := 460) (by decide +kernel)))
theorem nc_UA {l : Launch} {g : mG} (hO : mO l g) : va_Nc "java/lang/UnsupportedOperationException" "java/lang/IllegalArgumentException" g.2.2 := by
  obtain ⟨b, hb, -⟩ := hO.2.2
  exact va_Nc.of (flat_of_before _ hb _ (List.mem_of_getElem? (i := 423) (by decide +kernel)))
theorem nc_US {l : Launch} {g : mG} (hO : mO l g) : va_Nc "java/lang/UnsupportedOperationException" "java/lang/IllegalStateException" g.2.2 := by
  obtain ⟨b, hb, -⟩ := hO.2.2
  exact va_Nc.of (flat_of_before _ hb _ (List.mem_of_getElem? (i := 443) (by decide +kernel)))
theorem nc_UI {l : Launch} {g : mG} (hO : mO l g) : va_Nc "java/lang/UnsupportedOperationException" "java/lang/IndexOutOfBoundsException" g.2.2 := by
  obtain ⟨b, hb, -⟩ := hO.2.2
  exact va_Nc.of (flat_of_before _ hb _ (List.mem_of_getElem? (i := 483) (by decide +kernel)))
theorem nc_UN {l : Launch} {g : mG} (hO : mO l g) : va_Nc "java/lang/UnsupportedOperationException" "java/util/NoSuchElementException" g.2.2 := by
  obtain ⟨b, hb, -⟩ := hO.2.2
  exact va_Nc.of (flat_of_before _ hb _ (List.mem_of_getElem? (i := 463) (by decide +kernel)))
