/-! A SIGN OF THE LINE -/
section
variable {g : mG} {mc mr m m1 M R : mM} {b r T L : Nat}
theorem ch_b : ∀ n : Fin 128, ((((nI n.1) &&& 255).toUInt32 % 65536).toInt32) = ((nI n.1).toUInt32 % 65536).toInt32 := by decide +kernel
theorem ch_x {x : Int32} (h : 0 ≤ x.toInt) (h2 : x.toInt < 128) : (((x &&& 255).toUInt32 % 65536).toInt32) = (x.toUInt32 % 65536).toInt32 := by
  have e : x = nI x.toInt.toNat := by
    refine Int32.toInt_inj.mp ?_
    rw [nI_toInt (by omega)]
    omega
  rw [e]
  exact ch_b ⟨x.toInt.toNat, by omega⟩
theorem q_outputAt (h : OBJ g mc mr b r T) (a : Int32) : CALL g b r T mc mr mc (X11_outputAt_m g mr r a) [("java/lang/IndexOutOfBoundsException", 1)] (X10_outputAt_x g mc b a) (X10_outputAt_r g mc b a = X11_outputAt_r g mr r a) := by
  have hh := h
  obtain ⟨h1, h2, h3, h4, h5, h6, h7, h8, h9, h10, L, hL, k1, k2, k3, k4, k5⟩ := h
  unfold X10_outputAt_x X10_outputAt_r X11_outputAt_m X11_outputAt_r
  rw [k3, k4]
  have e1 : (nI L - 1).toInt = (L : Int) - 1 := by
    have : (nI L - 1).toInt = (nI L).toInt - (1 : Int32).toInt := Kit.i32_sub (by rw [nI_toInt (by omega)]; simp only [tl]; omega) (by rw [nI_toInt (by omega)]; simp only [tl]; omega)
    rw [this, nI_toInt (by omega)]
    simp only [tl]
  have e := isI_b a 0 (nI L - 1)
  rw [e1] at e
  simp only [tl] at e
  by_cases c1 : a < 0
  · have q := c1
    rw [ti.1] at q
    simp only [tl] at q
    have z : isI a 0 (nI L - 1) = 0 := e.mpr (by omega)
    simp only [if_pos c1, if_pos z]
    exact CALL.qx hh rfl
  · have q := c1
    rw [ti.1] at q
    simp only [tl] at q
    by_cases c2 : a < nI L
    · have q2 := c2
      rw [ti.1, nI_toInt (by omega)] at q2
      have z : ¬ isI a 0 (nI L - 1) = 0 := fun z => e.mp z (by omega)
      simp only [if_neg c1, if_pos c2, if_neg z]
      refine CALL.q0 hh ?_
      have ea : a.toNatClampNeg < L := by
        have : (a.toNatClampNeg : Int) = a.toInt := by
          rw [← Int32.toNat_toInt]
          omega
        omega
      obtain ⟨y1, y2, y3⟩ := k5 _ ea
      unfold chO
      rw [y1]
      exact ch_x y2 y3
    · have q2 := c2
      rw [ti.1, nI_toInt (by omega)] at q2
      have z : isI a 0 (nI L - 1) = 0 := e.mpr (by omega)
      simp only [if_neg c1, if_neg c2, if_pos z]
      exact CALL.qx hh rfl
end
