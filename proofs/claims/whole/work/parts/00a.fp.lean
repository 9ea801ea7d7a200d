theorem mk_64 (a : UInt64) : (a &&& 0x7fffffffffffffff).toNat = a.toNat % 2 ^ 63 := by
  rw [UInt64.toNat_and]
  exact Nat.and_two_pow_sub_one_eq_mod a.toNat 63
theorem n64_div {x y : Int32} (h : ¬ y = 0) : vf_n64 (FP.ddiv (FP.i2d x) (FP.i2d y)) := by
  have hA : FP.Core.dIsNaN (FP.Core.i2d x) = false := by
    cases hd : FP.Core.dIsNaN (FP.Core.i2d x) with
    | false => rfl
    | true =>
      have h1 := (FP.Core.isNaN_bits _).mp hd
      have h2 := (FP.Core.fin_bits _).mp (FP.Core.i2d_fin x)
      omega
  have h1 : FP.Core.dIsNaN (FP.Core.ddiv (FP.Core.i2d x) (FP.Core.i2d y)) = false := FP.Core.ddiv_out hA (FP.Core.i2d_fin y) (fun q => FP.Core.i2d_ne_zero h ((FP.Core.zero_bits2 _).mp q))
  have h2 : ¬ 9218868437227405312 < (FP.Core.ddiv (FP.Core.i2d x) (FP.Core.i2d y)).toNat % 2 ^ 63 := fun q => by
    rw [(FP.Core.isNaN_bits _).mpr q] at h1
    cases h1
  show FP.Core.ddiv (FP.Core.i2d x) (FP.Core.i2d y) &&& 0x7fffffffffffffff ≤ 0x7ff0000000000000
  rw [UInt64.le_iff_toNat_le, mk_64]
  exact Nat.le_of_not_lt h2
theorem mk_32 (a : UInt32) : (a &&& 0x7fffffff).toNat = a.toNat % 2 ^ 31 := by
  rw [UInt32.toNat_and]
  exact Nat.and_two_pow_sub_one_eq_mod a.toNat 31
theorem n32_div {x y : Int32} (h : ¬ y = 0) : vf_n32 (FP.fdiv (FP.i2f x) (FP.i2f y)) := by
  have hA : FP.Core.fIsNaN (FP.Core.i2f x) = false := by
    cases hd : FP.Core.fIsNaN (FP.Core.i2f x) with
    | false => rfl
    | true =>
      have h1 := (FP.Core.isNaN_bits32 _).mp hd
      have h2 := (FP.Core.fin_bits32 _).mp (FP.Core.i2f_fin x)
      omega
  have h1 : FP.Core.fIsNaN (FP.Core.fdiv (FP.Core.i2f x) (FP.Core.i2f y)) = false := FP.Core.fdiv_out hA (FP.Core.i2f_fin y) (fun q => FP.Core.i2f_ne_zero h ((FP.Core.zero_bits232 _).mp q))
  have h2 : ¬ 2139095040 < (FP.Core.fdiv (FP.Core.i2f x) (FP.Core.i2f y)).toNat % 2 ^ 31 := fun q => by
    rw [(FP.Core.isNaN_bits32 _).mpr q] at h1
    cases h1
  show FP.Core.fdiv (FP.Core.i2f x) (FP.Core.i2f y) &&& 0x7fffffff ≤ 0x7f800000
  rw [UInt32.le_iff_toNat_le, mk_32]
  exact Nat.le_of_not_lt h2
