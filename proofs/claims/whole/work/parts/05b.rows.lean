theorem v_iconst {l : Launch} {g : mG} {x : mCx} {m : mM} {cc : ByteArray} {y : MethodName} {rm : Room} {nL : Nat} {ce sl pc : Nat} {lv : List (Nat × Value)} {st : List Value} {n : Int} {v : Int32} (hX : mX l g x cc y rm nL) (hdg : decode cc pc = .ok (.iconst n, 1)) (hv : Int32.ofInt n = v) (k : mV g x m ce sl (pc + 1) lv (.int v :: st)) : mV g x m ce sl pc lv (st) := by
  obtain ⟨p, l', e, R, s, md, args, below, meth, c, Q⟩ := x
  obtain ⟨rfl, hx, hb, hml, ⟨hown, hnm⟩, hts, hvm, hR, hO, hh⟩ := hX
  exact fun H locs ls hP hz hL hl => lv_iconst hx hb hdg hv (k H locs ls hP hz hL hl)
theorem v_bipush {l : Launch} {g : mG} {x : mCx} {m : mM} {cc : ByteArray} {y : MethodName} {rm : Room} {nL : Nat} {ce sl pc : Nat} {lv : List (Nat × Value)} {st : List Value} {n : Int} {v : Int32} (hX : mX l g x cc y rm nL) (hdg : decode cc pc = .ok (.bipush n, 2)) (hv : (Int8.ofInt n).toInt32 = v) (k : mV g x m ce sl (pc + 2) lv (.int v :: st)) : mV g x m ce sl pc lv (st) := by
  obtain ⟨p, l', e, R, s, md, args, below, meth, c, Q⟩ := x
  obtain ⟨rfl, hx, hb, hml, ⟨hown, hnm⟩, hts, hvm, hR, hO, hh⟩ := hX
  exact fun H locs ls hP hz hL hl => lv_bipush hx hb hdg hv (k H locs ls hP hz hL hl)
theorem v_sipush {l : Launch} {g : mG} {x : mCx} {m : mM} {cc : ByteArray} {y : MethodName} {rm : Room} {nL : Nat} {ce sl pc : Nat} {lv : List (Nat × Value)} {st : List Value} {n : Int} {v : Int32} (hX : mX l g x cc y rm nL) (hdg : decode cc pc = .ok (.sipush n, 3)) (hv : (Int16.ofInt n).toInt32 = v) (k : mV g x m ce sl (pc + 3) lv (.int v :: st)) : mV g x m ce sl pc lv (st) := by
  obtain ⟨p, l', e, R, s, md, args, below, meth, c, Q⟩ := x
  obtain ⟨rfl, hx, hb, hml, ⟨hown, hnm⟩, hts, hvm, hR, hO, hh⟩ := hX
  exact fun H locs ls hP hz hL hl => lv_sipush hx hb hdg hv (k H locs ls hP hz hL hl)
theorem v_lconst {l : Launch} {g : mG} {x : mCx} {m : mM} {cc : ByteArray} {y : MethodName} {rm : Room} {nL : Nat} {ce sl pc : Nat} {lv : List (Nat × Value)} {st : List Value} {n : Fin 2} {v : Int64} (hX : mX l g x cc y rm nL) (hdg : decode cc pc = .ok (.lconst n, 1)) (hv : Int64.ofNat (n : Nat) = v) (k : mV g x m ce sl (pc + 1) lv (.long v :: st)) : mV g x m ce sl pc lv (st) := by
  obtain ⟨p, l', e, R, s, md, args, below, meth, c, Q⟩ := x
  obtain ⟨rfl, hx, hb, hml, ⟨hown, hnm⟩, hts, hvm, hR, hO, hh⟩ := hX
  exact fun H locs ls hP hz hL hl => lv_lconst hx hb hdg hv (k H locs ls hP hz hL hl)
theorem v_ldc {l : Launch} {g : mG} {x : mCx} {m : mM} {cc : ByteArray} {y : MethodName} {rm : Room} {nL : Nat} {ce sl pc : Nat} {lv : List (Nat × Value)} {st : List Value} {index : Nat} {v : Int32} (hX : mX l g x cc y rm nL) (hdg : decode cc pc = .ok (.ldc index, 2)) (hc : Cond.constant y.cls index v ∈ gw) (k : mV g x m ce sl (pc + 2) lv (.int v :: st)) : mV g x m ce sl pc lv (st) := by
  obtain ⟨p, l', e, R, s, md, args, below, meth, c, Q⟩ := x
  obtain ⟨rfl, hx, hb, hml, ⟨hown, hnm⟩, hts, hvm, hR, hO, hh⟩ := hX
  exact fun H locs ls hP hz hL hl => lv_ldc hx hb hown (hts _ hc) hdg (k H locs ls hP hz hL hl)
theorem v_ldc2 {l : Launch} {g : mG} {x : mCx} {m : mM} {cc : ByteArray} {y : MethodName} {rm : Room} {nL : Nat} {ce sl pc : Nat} {lv : List (Nat × Value)} {st : List Value} {index : Nat} {v : Int64} (hX : mX l g x cc y rm nL) (hdg : decode cc pc = .ok (.ldc2_w index, 3)) (hc : Cond.constantLong y.cls index v ∈ gw) (k : mV g x m ce sl (pc + 3) lv (.long v :: st)) : mV g x m ce sl pc lv (st) := by
  obtain ⟨p, l', e, R, s, md, args, below, meth, c, Q⟩ := x
  obtain ⟨rfl, hx, hb, hml, ⟨hown, hnm⟩, hts, hvm, hR, hO, hh⟩ := hX
  exact fun H locs ls hP hz hL hl => lv_ldc2 hx hb hown (hts _ hc) hdg (k H locs ls hP hz hL hl)
theorem v_aconst_null {l : Launch} {g : mG} {x : mCx} {m : mM} {cc : ByteArray} {y : MethodName} {rm : Room} {nL : Nat} {ce sl pc : Nat} {lv : List (Nat × Value)} {st : List Value}  (hX : mX l g x cc y rm nL) (hdg : decode cc pc = .ok (.aconst_null, 1))  (k : mV g x m ce sl (pc + 1) lv (.null :: st)) : mV g x m ce sl pc lv (st) := by
  obtain ⟨p, l', e, R, s, md, args, below, meth, c, Q⟩ := x
  obtain ⟨rfl, hx, hb, hml, ⟨hown, hnm⟩, hts, hvm, hR, hO, hh⟩ := hX
  exact fun H locs ls hP hz hL hl => lv_null hx hb hdg (k H locs ls hP hz hL hl)
theorem v_iload_n {l : Launch} {g : mG} {x : mCx} {m : mM} {cc : ByteArray} {y : MethodName} {rm : Room} {nL : Nat} {ce sl pc : Nat} {lv : List (Nat × Value)} {st : List Value} {k4 : Fin 4} {v : Int32} (hX : mX l g x cc y rm nL) (hdg : decode cc pc = .ok (.iload_n k4, 1)) (hk : lv.lookup (k4 : Nat) = some (.int v)) (k : mV g x m ce sl (pc + 1) lv (.int v :: st)) : mV g x m ce sl pc lv (st) := by
  obtain ⟨p, l', e, R, s, md, args, below, meth, c, Q⟩ := x
  obtain ⟨rfl, hx, hb, hml, ⟨hown, hnm⟩, hts, hvm, hR, hO, hh⟩ := hX
  exact fun H locs ls hP hz hL hl => lv_iload_n hx hb hdg rfl (hl.2.2 _ _ hk) (k H locs ls hP hz hL hl)
theorem v_iload {l : Launch} {g : mG} {x : mCx} {m : mM} {cc : ByteArray} {y : MethodName} {rm : Room} {nL : Nat} {ce sl pc : Nat} {lv : List (Nat × Value)} {st : List Value} {i : Nat} {v : Int32} (hX : mX l g x cc y rm nL) (hdg : decode cc pc = .ok (.iload i, 2)) (hk : lv.lookup i = some (.int v)) (k : mV g x m ce sl (pc + 2) lv (.int v :: st)) : mV g x m ce sl pc lv (st) := by
  obtain ⟨p, l', e, R, s, md, args, below, meth, c, Q⟩ := x
  obtain ⟨rfl, hx, hb, hml, ⟨hown, hnm⟩, hts, hvm, hR, hO, hh⟩ := hX
  exact fun H locs ls hP hz hL hl => lv_iload hx hb hdg (hl.2.2 _ _ hk) (k H locs ls hP hz hL hl)
theorem v_aload_n {l : Launch} {g : mG} {x : mCx} {m : mM} {cc : ByteArray} {y : MethodName} {rm : Room} {nL : Nat} {ce sl pc : Nat} {lv : List (Nat × Value)} {st : List Value} {k4 : Fin 4} {v : Nat} (hX : mX l g x cc y rm nL) (hdg : decode cc pc = .ok (.aload_n k4, 1)) (hk : lv.lookup (k4 : Nat) = some (.ref v)) (k : mV g x m ce sl (pc + 1) lv (.ref v :: st)) : mV g x m ce sl pc lv (st) := by
  obtain ⟨p, l', e, R, s, md, args, below, meth, c, Q⟩ := x
  obtain ⟨rfl, hx, hb, hml, ⟨hown, hnm⟩, hts, hvm, hR, hO, hh⟩ := hX
  exact fun H locs ls hP hz hL hl => lv_aload_n hx hb hdg rfl (hl.2.2 _ _ hk) (k H locs ls hP hz hL hl)
theorem v_aload {l : Launch} {g : mG} {x : mCx} {m : mM} {cc : ByteArray} {y : MethodName} {rm : Room} {nL : Nat} {ce sl pc : Nat} {lv : List (Nat × Value)} {st : List Value} {i : Nat} {v : Nat} (hX : mX l g x cc y rm nL) (hdg : decode cc pc = .ok (.aload i, 2)) (hk : lv.lookup i = some (.ref v)) (k : mV g x m ce sl (pc + 2) lv (.ref v :: st)) : mV g x m ce sl pc lv (st) := by
  obtain ⟨p, l', e, R, s, md, args, below, meth, c, Q⟩ := x
  obtain ⟨rfl, hx, hb, hml, ⟨hown, hnm⟩, hts, hvm, hR, hO, hh⟩ := hX
  exact fun H locs ls hP hz hL hl => lv_aload hx hb hdg (hl.2.2 _ _ hk) (k H locs ls hP hz hL hl)
theorem v_fload {l : Launch} {g : mG} {x : mCx} {m : mM} {cc : ByteArray} {y : MethodName} {rm : Room} {nL : Nat} {ce sl pc : Nat} {lv : List (Nat × Value)} {st : List Value} {i : Nat} {v : UInt32} (hX : mX l g x cc y rm nL) (hdg : decode cc pc = .ok (.fload i, 2)) (hk : lv.lookup i = some (.float v)) (k : mV g x m ce sl (pc + 2) lv (.float v :: st)) : mV g x m ce sl pc lv (st) := by
  obtain ⟨p, l', e, R, s, md, args, below, meth, c, Q⟩ := x
  obtain ⟨rfl, hx, hb, hml, ⟨hown, hnm⟩, hts, hvm, hR, hO, hh⟩ := hX
  exact fun H locs ls hP hz hL hl => lv_fload hx hb hdg (hl.2.2 _ _ hk) (k H locs ls hP hz hL hl)
theorem v_dload {l : Launch} {g : mG} {x : mCx} {m : mM} {cc : ByteArray} {y : MethodName} {rm : Room} {nL : Nat} {ce sl pc : Nat} {lv : List (Nat × Value)} {st : List Value} {i : Nat} {v : UInt64} (hX : mX l g x cc y rm nL) (hdg : decode cc pc = .ok (.dload i, 2)) (hk : lv.lookup i = some (.double v)) (k : mV g x m ce sl (pc + 2) lv (.double v :: st)) : mV g x m ce sl pc lv (st) := by
  obtain ⟨p, l', e, R, s, md, args, below, meth, c, Q⟩ := x
  obtain ⟨rfl, hx, hb, hml, ⟨hown, hnm⟩, hts, hvm, hR, hO, hh⟩ := hX
  exact fun H locs ls hP hz hL hl => lv_dload hx hb hdg (hl.2.2 _ _ hk) (k H locs ls hP hz hL hl)
theorem v_iadd {l : Launch} {g : mG} {x : mCx} {m : mM} {cc : ByteArray} {y : MethodName} {rm : Room} {nL : Nat} {ce sl pc : Nat} {lv : List (Nat × Value)} {st : List Value} {a b : Int32} (hX : mX l g x cc y rm nL) (hdg : decode cc pc = .ok (.iadd, 1))  (k : mV g x m ce sl (pc + 1) lv (.int (a + b) :: st)) : mV g x m ce sl pc lv (.int b :: .int a :: st) := by
  obtain ⟨p, l', e, R, s, md, args, below, meth, c, Q⟩ := x
  obtain ⟨rfl, hx, hb, hml, ⟨hown, hnm⟩, hts, hvm, hR, hO, hh⟩ := hX
  exact fun H locs ls hP hz hL hl => lv_iadd hx hb hdg (k H locs ls hP hz hL hl)
theorem v_isub {l : Launch} {g : mG} {x : mCx} {m : mM} {cc : ByteArray} {y : MethodName} {rm : Room} {nL : Nat} {ce sl pc : Nat} {lv : List (Nat × Value)} {st : List Value} {a b : Int32} (hX : mX l g x cc y rm nL) (hdg : decode cc pc = .ok (.isub, 1))  (k : mV g x m ce sl (pc + 1) lv (.int (a - b) :: st)) : mV g x m ce sl pc lv (.int b :: .int a :: st) := by
  obtain ⟨p, l', e, R, s, md, args, below, meth, c, Q⟩ := x
  obtain ⟨rfl, hx, hb, hml, ⟨hown, hnm⟩, hts, hvm, hR, hO, hh⟩ := hX
  exact fun H locs ls hP hz hL hl => lv_isub hx hb hdg (k H locs ls hP hz hL hl)
theorem v_imul {l : Launch} {g : mG} {x : mCx} {m : mM} {cc : ByteArray} {y : MethodName} {rm : Room} {nL : Nat} {ce sl pc : Nat} {lv : List (Nat × Value)} {st : List Value} {a b : Int32} (hX : mX l g x cc y rm nL) (hdg : decode cc pc = .ok (.imul, 1))  (k : mV g x m ce sl (pc + 1) lv (.int (a * b) :: st)) : mV g x m ce sl pc lv (.int b :: .int a :: st) := by
  obtain ⟨p, l', e, R, s, md, args, below, meth, c, Q⟩ := x
  obtain ⟨rfl, hx, hb, hml, ⟨hown, hnm⟩, hts, hvm, hR, hO, hh⟩ := hX
  exact fun H locs ls hP hz hL hl => lv_imul hx hb hdg (k H locs ls hP hz hL hl)
theorem v_iand {l : Launch} {g : mG} {x : mCx} {m : mM} {cc : ByteArray} {y : MethodName} {rm : Room} {nL : Nat} {ce sl pc : Nat} {lv : List (Nat × Value)} {st : List Value} {a b : Int32} (hX : mX l g x cc y rm nL) (hdg : decode cc pc = .ok (.iand, 1))  (k : mV g x m ce sl (pc + 1) lv (.int (a &&& b) :: st)) : mV g x m ce sl pc lv (.int b :: .int a :: st) := by
  obtain ⟨p, l', e, R, s, md, args, below, meth, c, Q⟩ := x
  obtain ⟨rfl, hx, hb, hml, ⟨hown, hnm⟩, hts, hvm, hR, hO, hh⟩ := hX
  exact fun H locs ls hP hz hL hl => lv_iand hx hb hdg (k H locs ls hP hz hL hl)
theorem v_ior {l : Launch} {g : mG} {x : mCx} {m : mM} {cc : ByteArray} {y : MethodName} {rm : Room} {nL : Nat} {ce sl pc : Nat} {lv : List (Nat × Value)} {st : List Value} {a b : Int32} (hX : mX l g x cc y rm nL) (hdg : decode cc pc = .ok (.ior, 1))  (k : mV g x m ce sl (pc + 1) lv (.int (a ||| b) :: st)) : mV g x m ce sl pc lv (.int b :: .int a :: st) := by
  obtain ⟨p, l', e, R, s, md, args, below, meth, c, Q⟩ := x
  obtain ⟨rfl, hx, hb, hml, ⟨hown, hnm⟩, hts, hvm, hR, hO, hh⟩ := hX
  exact fun H locs ls hP hz hL hl => lv_ior hx hb hdg (k H locs ls hP hz hL hl)
theorem v_idiv {l : Launch} {g : mG} {x : mCx} {m : mM} {cc : ByteArray} {y : MethodName} {rm : Room} {nL : Nat} {ce sl pc : Nat} {lv : List (Nat × Value)} {st : List Value} {a b : Int32} (hX : mX l g x cc y rm nL) (hdg : decode cc pc = .ok (.idiv, 1)) (hne : ¬ b = 0) (k : mV g x m ce sl (pc + 1) lv (.int (a / b) :: st)) : mV g x m ce sl pc lv (.int b :: .int a :: st) := by
  obtain ⟨p, l', e, R, s, md, args, below, meth, c, Q⟩ := x
  obtain ⟨rfl, hx, hb, hml, ⟨hown, hnm⟩, hts, hvm, hR, hO, hh⟩ := hX
  exact fun H locs ls hP hz hL hl => lv_idiv hx hb hdg hne (k H locs ls hP hz hL hl)
theorem v_ineg {l : Launch} {g : mG} {x : mCx} {m : mM} {cc : ByteArray} {y : MethodName} {rm : Room} {nL : Nat} {ce sl pc : Nat} {lv : List (Nat × Value)} {st : List Value} {a : Int32} (hX : mX l g x cc y rm nL) (hdg : decode cc pc = .ok (.ineg, 1))  (k : mV g x m ce sl (pc + 1) lv (.int (-a) :: st)) : mV g x m ce sl pc lv (.int a :: st) := by
  obtain ⟨p, l', e, R, s, md, args, below, meth, c, Q⟩ := x
  obtain ⟨rfl, hx, hb, hml, ⟨hown, hnm⟩, hts, hvm, hR, hO, hh⟩ := hX
  exact fun H locs ls hP hz hL hl => lv_ineg hx hb hdg (k H locs ls hP hz hL hl)
theorem v_ladd {l : Launch} {g : mG} {x : mCx} {m : mM} {cc : ByteArray} {y : MethodName} {rm : Room} {nL : Nat} {ce sl pc : Nat} {lv : List (Nat × Value)} {st : List Value} {a b : Int64} (hX : mX l g x cc y rm nL) (hdg : decode cc pc = .ok (.ladd, 1))  (k : mV g x m ce sl (pc + 1) lv (.long (a + b) :: st)) : mV g x m ce sl pc lv (.long b :: .long a :: st) := by
  obtain ⟨p, l', e, R, s, md, args, below, meth, c, Q⟩ := x
  obtain ⟨rfl, hx, hb, hml, ⟨hown, hnm⟩, hts, hvm, hR, hO, hh⟩ := hX
  exact fun H locs ls hP hz hL hl => lv_ladd hx hb hdg (k H locs ls hP hz hL hl)
theorem v_i2l {l : Launch} {g : mG} {x : mCx} {m : mM} {cc : ByteArray} {y : MethodName} {rm : Room} {nL : Nat} {ce sl pc : Nat} {lv : List (Nat × Value)} {st : List Value} {a : Int32} (hX : mX l g x cc y rm nL) (hdg : decode cc pc = .ok (.i2l, 1))  (k : mV g x m ce sl (pc + 1) lv (.long a.toInt64 :: st)) : mV g x m ce sl pc lv (.int a :: st) := by
  obtain ⟨p, l', e, R, s, md, args, below, meth, c, Q⟩ := x
  obtain ⟨rfl, hx, hb, hml, ⟨hown, hnm⟩, hts, hvm, hR, hO, hh⟩ := hX
  exact fun H locs ls hP hz hL hl => lv_i2l hx hb hdg rfl (k H locs ls hP hz hL hl)
theorem v_i2c {l : Launch} {g : mG} {x : mCx} {m : mM} {cc : ByteArray} {y : MethodName} {rm : Room} {nL : Nat} {ce sl pc : Nat} {lv : List (Nat × Value)} {st : List Value} {a : Int32} {v : Int32} (hX : mX l g x cc y rm nL) (hdg : decode cc pc = .ok (.i2c, 1)) (hv : (a.toUInt32 % 65536).toInt32 = v) (k : mV g x m ce sl (pc + 1) lv (.int v :: st)) : mV g x m ce sl pc lv (.int a :: st) := by
  obtain ⟨p, l', e, R, s, md, args, below, meth, c, Q⟩ := x
  obtain ⟨rfl, hx, hb, hml, ⟨hown, hnm⟩, hts, hvm, hR, hO, hh⟩ := hX
  exact fun H locs ls hP hz hL hl => lv_i2c hx hb hdg hv (k H locs ls hP hz hL hl)
theorem v_lcmp {l : Launch} {g : mG} {x : mCx} {m : mM} {cc : ByteArray} {y : MethodName} {rm : Room} {nL : Nat} {ce sl pc : Nat} {lv : List (Nat × Value)} {st : List Value} {a b : Int64} (hX : mX l g x cc y rm nL) (hdg : decode cc pc = .ok (.lcmp, 1))  (k : mV g x m ce sl (pc + 1) lv (.int (lg_cmp a b) :: st)) : mV g x m ce sl pc lv (.long b :: .long a :: st) := by
  obtain ⟨p, l', e, R, s, md, args, below, meth, c, Q⟩ := x
  obtain ⟨rfl, hx, hb, hml, ⟨hown, hnm⟩, hts, hvm, hR, hO, hh⟩ := hX
  exact fun H locs ls hP hz hL hl => W.lcmp hx hb hdg (k H locs ls hP hz hL hl)
theorem v_i2f {l : Launch} {g : mG} {x : mCx} {m : mM} {cc : ByteArray} {y : MethodName} {rm : Room} {nL : Nat} {ce sl pc : Nat} {lv : List (Nat × Value)} {st : List Value} {a : Int32} (hX : mX l g x cc y rm nL) (hdg : decode cc pc = .ok (.i2f, 1))  (k : mV g x m ce sl (pc + 1) lv (.float (FP.i2f a) :: st)) : mV g x m ce sl pc lv (.int a :: st) := by
  obtain ⟨p, l', e, R, s, md, args, below, meth, c, Q⟩ := x
  obtain ⟨rfl, hx, hb, hml, ⟨hown, hnm⟩, hts, hvm, hR, hO, hh⟩ := hX
  exact fun H locs ls hP hz hL hl => lv_i2f hx hb hdg (k H locs ls hP hz hL hl)
theorem v_i2d {l : Launch} {g : mG} {x : mCx} {m : mM} {cc : ByteArray} {y : MethodName} {rm : Room} {nL : Nat} {ce sl pc : Nat} {lv : List (Nat × Value)} {st : List Value} {a : Int32} (hX : mX l g x cc y rm nL) (hdg : decode cc pc = .ok (.i2d, 1))  (k : mV g x m ce sl (pc + 1) lv (.double (FP.i2d a) :: st)) : mV g x m ce sl pc lv (.int a :: st) := by
  obtain ⟨p, l', e, R, s, md, args, below, meth, c, Q⟩ := x
  obtain ⟨rfl, hx, hb, hml, ⟨hown, hnm⟩, hts, hvm, hR, hO, hh⟩ := hX
  exact fun H locs ls hP hz hL hl => lv_i2d hx hb hdg (k H locs ls hP hz hL hl)
theorem v_fdiv {l : Launch} {g : mG} {x : mCx} {m : mM} {cc : ByteArray} {y : MethodName} {rm : Room} {nL : Nat} {ce sl pc : Nat} {lv : List (Nat × Value)} {st : List Value} {a b : UInt32} (hX : mX l g x cc y rm nL) (hdg : decode cc pc = .ok (.fdiv, 1)) (hne : vf_n32 (FP.fdiv a b)) (k : mV g x m ce sl (pc + 1) lv (.float (FP.fdiv a b) :: st)) : mV g x m ce sl pc lv (.float b :: .float a :: st) := by
  obtain ⟨p, l', e, R, s, md, args, below, meth, c, Q⟩ := x
  obtain ⟨rfl, hx, hb, hml, ⟨hown, hnm⟩, hts, hvm, hR, hO, hh⟩ := hX
  exact fun H locs ls hP hz hL hl => lv_fdiv hx hb hdg hne (k H locs ls hP hz hL hl)
theorem v_ddiv {l : Launch} {g : mG} {x : mCx} {m : mM} {cc : ByteArray} {y : MethodName} {rm : Room} {nL : Nat} {ce sl pc : Nat} {lv : List (Nat × Value)} {st : List Value} {a b : UInt64} (hX : mX l g x cc y rm nL) (hdg : decode cc pc = .ok (.ddiv, 1)) (hne : vf_n64 (FP.ddiv a b)) (k : mV g x m ce sl (pc + 1) lv (.double (FP.ddiv a b) :: st)) : mV g x m ce sl pc lv (.double b :: .double a :: st) := by
  obtain ⟨p, l', e, R, s, md, args, below, meth, c, Q⟩ := x
  obtain ⟨rfl, hx, hb, hml, ⟨hown, hnm⟩, hts, hvm, hR, hO, hh⟩ := hX
  exact fun H locs ls hP hz hL hl => lv_ddiv hx hb hdg hne (k H locs ls hP hz hL hl)
theorem v_f2d {l : Launch} {g : mG} {x : mCx} {m : mM} {cc : ByteArray} {y : MethodName} {rm : Room} {nL : Nat} {ce sl pc : Nat} {lv : List (Nat × Value)} {st : List Value} {a : UInt32} (hX : mX l g x cc y rm nL) (hdg : decode cc pc = .ok (.f2d, 1)) (hne : vf_n64 (FP.f2d a)) (k : mV g x m ce sl (pc + 1) lv (.double (FP.f2d a) :: st)) : mV g x m ce sl pc lv (.float a :: st) := by
  obtain ⟨p, l', e, R, s, md, args, below, meth, c, Q⟩ := x
  obtain ⟨rfl, hx, hb, hml, ⟨hown, hnm⟩, hts, hvm, hR, hO, hh⟩ := hX
  exact fun H locs ls hP hz hL hl => lv_f2d hx hb hdg hne (k H locs ls hP hz hL hl)
theorem v_dcmp {l : Launch} {g : mG} {x : mCx} {m : mM} {cc : ByteArray} {y : MethodName} {rm : Room} {nL : Nat} {ce sl pc : Nat} {lv : List (Nat × Value)} {st : List Value} {a b : UInt64} {op : CmpOp} (hX : mX l g x cc y rm nL) (hdg : decode cc pc = .ok (.dcmp op, 1))  (k : mV g x m ce sl (pc + 1) lv (.int (Op.cmpValue (FP.dcmp a b) op) :: st)) : mV g x m ce sl pc lv (.double b :: .double a :: st) := by
  obtain ⟨p, l', e, R, s, md, args, below, meth, c, Q⟩ := x
  obtain ⟨rfl, hx, hb, hml, ⟨hown, hnm⟩, hts, hvm, hR, hO, hh⟩ := hX
  exact fun H locs ls hP hz hL hl => lv_dcmp hx hb hdg (k H locs ls hP hz hL hl)
theorem v_irem {l : Launch} {g : mG} {x : mCx} {m : mM} {cc : ByteArray} {y : MethodName} {rm : Room} {nL : Nat} {ce sl pc : Nat} {lv : List (Nat × Value)} {st : List Value} {a b : Int32} (hX : mX l g x cc y rm nL) (hdg : decode cc pc = .ok (.irem, 1)) (hne : ¬ b = 0) (k : mV g x m ce sl (pc + 1) lv (.int (a - a / b * b) :: st)) : mV g x m ce sl pc lv (.int b :: .int a :: st) := by
  obtain ⟨p, l', e, R, s, md, args, below, meth, c, Q⟩ := x
  obtain ⟨rfl, hx, hb, hml, ⟨hown, hnm⟩, hts, hvm, hR, hO, hh⟩ := hX
  exact fun H locs ls hP hz hL hl => lv_irem hx hb hdg hne (k H locs ls hP hz hL hl)
theorem v_ishl {l : Launch} {g : mG} {x : mCx} {m : mM} {cc : ByteArray} {y : MethodName} {rm : Room} {nL : Nat} {ce sl pc : Nat} {lv : List (Nat × Value)} {st : List Value} {a b : Int32} (hX : mX l g x cc y rm nL) (hdg : decode cc pc = .ok (.ishl, 1))  (k : mV g x m ce sl (pc + 1) lv (.int (a <<< (b &&& 31)) :: st)) : mV g x m ce sl pc lv (.int b :: .int a :: st) := by
  obtain ⟨p, l', e, R, s, md, args, below, meth, c, Q⟩ := x
  obtain ⟨rfl, hx, hb, hml, ⟨hown, hnm⟩, hts, hvm, hR, hO, hh⟩ := hX
  exact fun H locs ls hP hz hL hl => lv_ishl hx hb hdg (k H locs ls hP hz hL hl)
theorem v_ishr {l : Launch} {g : mG} {x : mCx} {m : mM} {cc : ByteArray} {y : MethodName} {rm : Room} {nL : Nat} {ce sl pc : Nat} {lv : List (Nat × Value)} {st : List Value} {a b : Int32} (hX : mX l g x cc y rm nL) (hdg : decode cc pc = .ok (.ishr, 1))  (k : mV g x m ce sl (pc + 1) lv (.int (a >>> (b &&& 31)) :: st)) : mV g x m ce sl pc lv (.int b :: .int a :: st) := by
  obtain ⟨p, l', e, R, s, md, args, below, meth, c, Q⟩ := x
  obtain ⟨rfl, hx, hb, hml, ⟨hown, hnm⟩, hts, hvm, hR, hO, hh⟩ := hX
  exact fun H locs ls hP hz hL hl => lv_ishr hx hb hdg (k H locs ls hP hz hL hl)
theorem v_i2b {l : Launch} {g : mG} {x : mCx} {m : mM} {cc : ByteArray} {y : MethodName} {rm : Room} {nL : Nat} {ce sl pc : Nat} {lv : List (Nat × Value)} {st : List Value} {a v : Int32} (hX : mX l g x cc y rm nL) (hdg : decode cc pc = .ok (.i2b, 1)) (hv : a.toInt8.toInt32 = v) (k : mV g x m ce sl (pc + 1) lv (.int v :: st)) : mV g x m ce sl pc lv (.int a :: st) := by
  obtain ⟨p, l', e, R, s, md, args, below, meth, c, Q⟩ := x
  obtain ⟨rfl, hx, hb, hml, ⟨hown, hnm⟩, hts, hvm, hR, hO, hh⟩ := hX
  exact fun H locs ls hP hz hL hl => lv_i2b hx hb hdg hv (k H locs ls hP hz hL hl)
theorem v_dup {l : Launch} {g : mG} {x : mCx} {m : mM} {cc : ByteArray} {y : MethodName} {rm : Room} {nL : Nat} {ce sl pc : Nat} {lv : List (Nat × Value)} {st : List Value} {a : Value} (hX : mX l g x cc y rm nL) (hdg : decode cc pc = .ok (.dup, 1)) (ha : a.category = 1) (k : mV g x m ce sl (pc + 1) lv (a :: a :: st)) : mV g x m ce sl pc lv (a :: st) := by
  obtain ⟨p, l', e, R, s, md, args, below, meth, c, Q⟩ := x
  obtain ⟨rfl, hx, hb, hml, ⟨hown, hnm⟩, hts, hvm, hR, hO, hh⟩ := hX
  exact fun H locs ls hP hz hL hl => lv_dup hx hb hdg ha (k H locs ls hP hz hL hl)
theorem v_pop {l : Launch} {g : mG} {x : mCx} {m : mM} {cc : ByteArray} {y : MethodName} {rm : Room} {nL : Nat} {ce sl pc : Nat} {lv : List (Nat × Value)} {st : List Value} {a : Value} (hX : mX l g x cc y rm nL) (hdg : decode cc pc = .ok (.pop, 1)) (ha : a.category = 1) (k : mV g x m ce sl (pc + 1) lv (st)) : mV g x m ce sl pc lv (a :: st) := by
  obtain ⟨p, l', e, R, s, md, args, below, meth, c, Q⟩ := x
  obtain ⟨rfl, hx, hb, hml, ⟨hown, hnm⟩, hts, hvm, hR, hO, hh⟩ := hX
  exact fun H locs ls hP hz hL hl => lv_pop hx hb hdg ha (k H locs ls hP hz hL hl)
theorem v_dup_x1 {l : Launch} {g : mG} {x : mCx} {m : mM} {cc : ByteArray} {y : MethodName} {rm : Room} {nL : Nat} {ce sl pc : Nat} {lv : List (Nat × Value)} {st : List Value} {a b : Value} (hX : mX l g x cc y rm nL) (hdg : decode cc pc = .ok (.dup_x1, 1)) (ha : a.category = 1) (hb1 : b.category = 1) (k : mV g x m ce sl (pc + 1) lv (a :: b :: a :: st)) : mV g x m ce sl pc lv (a :: b :: st) := by
  obtain ⟨p, l', e, R, s, md, args, below, meth, c, Q⟩ := x
  obtain ⟨rfl, hx, hb, hml, ⟨hown, hnm⟩, hts, hvm, hR, hO, hh⟩ := hX
  exact fun H locs ls hP hz hL hl => lv_dup_x1 hx hb hdg ha hb1 (k H locs ls hP hz hL hl)
theorem v_dup2 {l : Launch} {g : mG} {x : mCx} {m : mM} {cc : ByteArray} {y : MethodName} {rm : Room} {nL : Nat} {ce sl pc : Nat} {lv : List (Nat × Value)} {st : List Value} {a b : Value} (hX : mX l g x cc y rm nL) (hdg : decode cc pc = .ok (.dup2, 1)) (ha : a.category = 1) (hb1 : b.category = 1) (k : mV g x m ce sl (pc + 1) lv (a :: b :: a :: b :: st)) : mV g x m ce sl pc lv (a :: b :: st) := by
  obtain ⟨p, l', e, R, s, md, args, below, meth, c, Q⟩ := x
  obtain ⟨rfl, hx, hb, hml, ⟨hown, hnm⟩, hts, hvm, hR, hO, hh⟩ := hX
  exact fun H locs ls hP hz hL hl => lv_dup2_11 hx hb hdg ha hb1 (k H locs ls hP hz hL hl)
theorem v_fconst0 {l : Launch} {g : mG} {x : mCx} {m : mM} {cc : ByteArray} {y : MethodName} {rm : Room} {nL : Nat} {ce sl pc : Nat} {lv : List (Nat × Value)} {st : List Value}  (hX : mX l g x cc y rm nL) (hdg : decode cc pc = .ok (.fconst 0, 1))  (k : mV g x m ce sl (pc + 1) lv (.float FP.fconst0 :: st)) : mV g x m ce sl pc lv (st) := by
  obtain ⟨p, l', e, R, s, md, args, below, meth, c, Q⟩ := x
  obtain ⟨rfl, hx, hb, hml, ⟨hown, hnm⟩, hts, hvm, hR, hO, hh⟩ := hX
  exact fun H locs ls hP hz hL hl => lv_fconst0 hx hb hdg (k H locs ls hP hz hL hl)
theorem v_dconst0 {l : Launch} {g : mG} {x : mCx} {m : mM} {cc : ByteArray} {y : MethodName} {rm : Room} {nL : Nat} {ce sl pc : Nat} {lv : List (Nat × Value)} {st : List Value}  (hX : mX l g x cc y rm nL) (hdg : decode cc pc = .ok (.dconst 0, 1))  (k : mV g x m ce sl (pc + 1) lv (.double FP.dconst0 :: st)) : mV g x m ce sl pc lv (st) := by
  obtain ⟨p, l', e, R, s, md, args, below, meth, c, Q⟩ := x
  obtain ⟨rfl, hx, hb, hml, ⟨hown, hnm⟩, hts, hvm, hR, hO, hh⟩ := hX
  exact fun H locs ls hP hz hL hl => lv_dconst0 hx hb hdg (k H locs ls hP hz hL hl)
theorem v_icmp_eq {l : Launch} {g : mG} {x : mCx} {m : mM} {cc : ByteArray} {y : MethodName} {rm : Room} {nL : Nat} {ce sl pc : Nat} {lv : List (Nat × Value)} {st : List Value} {a b : Int32} {off : Int} {tgt : Nat} (hX : mX l g x cc y rm nL) (hdg : decode cc pc = .ok (.if_icmp .eq off, 3)) (ht : (pc : Int) + off = (tgt : Int)) (kt : a = b → mV g x m ce sl tgt lv st) (kf : ¬ a = b → mV g x m ce sl (pc + 3) lv st) : mV g x m ce sl pc lv (.int b :: .int a :: st) := by
  obtain ⟨p, l', e, R, s, md, args, below, meth, c, Q⟩ := x
  obtain ⟨rfl, hx, hb, hml, ⟨hown, hnm⟩, hts, hvm, hR, hO, hh⟩ := hX
  exact fun H locs ls hP hz hL hl => lv_icmp_eq hx hb hdg ht (fun h => kt h H locs ls hP hz hL hl) (fun h => kf h H locs ls hP hz hL hl)
theorem v_icmp_ne {l : Launch} {g : mG} {x : mCx} {m : mM} {cc : ByteArray} {y : MethodName} {rm : Room} {nL : Nat} {ce sl pc : Nat} {lv : List (Nat × Value)} {st : List Value} {a b : Int32} {off : Int} {tgt : Nat} (hX : mX l g x cc y rm nL) (hdg : decode cc pc = .ok (.if_icmp .ne off, 3)) (ht : (pc : Int) + off = (tgt : Int)) (kt : ¬ a = b → mV g x m ce sl tgt lv st) (kf : a = b → mV g x m ce sl (pc + 3) lv st) : mV g x m ce sl pc lv (.int b :: .int a :: st) := by
  obtain ⟨p, l', e, R, s, md, args, below, meth, c, Q⟩ := x
  obtain ⟨rfl, hx, hb, hml, ⟨hown, hnm⟩, hts, hvm, hR, hO, hh⟩ := hX
  exact fun H locs ls hP hz hL hl => lv_icmp_ne hx hb hdg ht (fun h => kt h H locs ls hP hz hL hl) (fun h => kf h H locs ls hP hz hL hl)
theorem v_icmp_lt {l : Launch} {g : mG} {x : mCx} {m : mM} {cc : ByteArray} {y : MethodName} {rm : Room} {nL : Nat} {ce sl pc : Nat} {lv : List (Nat × Value)} {st : List Value} {a b : Int32} {off : Int} {tgt : Nat} (hX : mX l g x cc y rm nL) (hdg : decode cc pc = .ok (.if_icmp .lt off, 3)) (ht : (pc : Int) + off = (tgt : Int)) (kt : a < b → mV g x m ce sl tgt lv st) (kf : ¬ a < b → mV g x m ce sl (pc + 3) lv st) : mV g x m ce sl pc lv (.int b :: .int a :: st) := by
  obtain ⟨p, l', e, R, s, md, args, below, meth, c, Q⟩ := x
  obtain ⟨rfl, hx, hb, hml, ⟨hown, hnm⟩, hts, hvm, hR, hO, hh⟩ := hX
  exact fun H locs ls hP hz hL hl => lv_icmp_lt hx hb hdg ht (fun h => kt h H locs ls hP hz hL hl) (fun h => kf h H locs ls hP hz hL hl)
theorem v_icmp_ge {l : Launch} {g : mG} {x : mCx} {m : mM} {cc : ByteArray} {y : MethodName} {rm : Room} {nL : Nat} {ce sl pc : Nat} {lv : List (Nat × Value)} {st : List Value} {a b : Int32} {off : Int} {tgt : Nat} (hX : mX l g x cc y rm nL) (hdg : decode cc pc = .ok (.if_icmp .ge off, 3)) (ht : (pc : Int) + off = (tgt : Int)) (kt : b ≤ a → mV g x m ce sl tgt lv st) (kf : ¬ b ≤ a → mV g x m ce sl (pc + 3) lv st) : mV g x m ce sl pc lv (.int b :: .int a :: st) := by
  obtain ⟨p, l', e, R, s, md, args, below, meth, c, Q⟩ := x
  obtain ⟨rfl, hx, hb, hml, ⟨hown, hnm⟩, hts, hvm, hR, hO, hh⟩ := hX
  exact fun H locs ls hP hz hL hl => lv_icmp_ge hx hb hdg ht (fun h => kt h H locs ls hP hz hL hl) (fun h => kf h H locs ls hP hz hL hl)
theorem v_icmp_gt {l : Launch} {g : mG} {x : mCx} {m : mM} {cc : ByteArray} {y : MethodName} {rm : Room} {nL : Nat} {ce sl pc : Nat} {lv : List (Nat × Value)} {st : List Value} {a b : Int32} {off : Int} {tgt : Nat} (hX : mX l g x cc y rm nL) (hdg : decode cc pc = .ok (.if_icmp .gt off, 3)) (ht : (pc : Int) + off = (tgt : Int)) (kt : b < a → mV g x m ce sl tgt lv st) (kf : ¬ b < a → mV g x m ce sl (pc + 3) lv st) : mV g x m ce sl pc lv (.int b :: .int a :: st) := by
  obtain ⟨p, l', e, R, s, md, args, below, meth, c, Q⟩ := x
  obtain ⟨rfl, hx, hb, hml, ⟨hown, hnm⟩, hts, hvm, hR, hO, hh⟩ := hX
  exact fun H locs ls hP hz hL hl => lv_icmp_gt hx hb hdg ht (fun h => kt h H locs ls hP hz hL hl) (fun h => kf h H locs ls hP hz hL hl)
theorem v_icmp_le {l : Launch} {g : mG} {x : mCx} {m : mM} {cc : ByteArray} {y : MethodName} {rm : Room} {nL : Nat} {ce sl pc : Nat} {lv : List (Nat × Value)} {st : List Value} {a b : Int32} {off : Int} {tgt : Nat} (hX : mX l g x cc y rm nL) (hdg : decode cc pc = .ok (.if_icmp .le off, 3)) (ht : (pc : Int) + off = (tgt : Int)) (kt : a ≤ b → mV g x m ce sl tgt lv st) (kf : ¬ a ≤ b → mV g x m ce sl (pc + 3) lv st) : mV g x m ce sl pc lv (.int b :: .int a :: st) := by
  obtain ⟨p, l', e, R, s, md, args, below, meth, c, Q⟩ := x
  obtain ⟨rfl, hx, hb, hml, ⟨hown, hnm⟩, hts, hvm, hR, hO, hh⟩ := hX
  exact fun H locs ls hP hz hL hl => lv_icmp_le hx hb hdg ht (fun h => kt h H locs ls hP hz hL hl) (fun h => kf h H locs ls hP hz hL hl)
theorem v_if_eq {l : Launch} {g : mG} {x : mCx} {m : mM} {cc : ByteArray} {y : MethodName} {rm : Room} {nL : Nat} {ce sl pc : Nat} {lv : List (Nat × Value)} {st : List Value} {a : Int32} {off : Int} {tgt : Nat} (hX : mX l g x cc y rm nL) (hdg : decode cc pc = .ok (.ifCond .eq off, 3)) (ht : (pc : Int) + off = (tgt : Int)) (kt : a = 0 → mV g x m ce sl tgt lv st) (kf : ¬ a = 0 → mV g x m ce sl (pc + 3) lv st) : mV g x m ce sl pc lv (.int a :: st) := by
  obtain ⟨p, l', e, R, s, md, args, below, meth, c, Q⟩ := x
  obtain ⟨rfl, hx, hb, hml, ⟨hown, hnm⟩, hts, hvm, hR, hO, hh⟩ := hX
  exact fun H locs ls hP hz hL hl => lv_if_eq hx hb hdg ht (fun h => kt h H locs ls hP hz hL hl) (fun h => kf h H locs ls hP hz hL hl)
theorem v_if_ne {l : Launch} {g : mG} {x : mCx} {m : mM} {cc : ByteArray} {y : MethodName} {rm : Room} {nL : Nat} {ce sl pc : Nat} {lv : List (Nat × Value)} {st : List Value} {a : Int32} {off : Int} {tgt : Nat} (hX : mX l g x cc y rm nL) (hdg : decode cc pc = .ok (.ifCond .ne off, 3)) (ht : (pc : Int) + off = (tgt : Int)) (kt : ¬ a = 0 → mV g x m ce sl tgt lv st) (kf : a = 0 → mV g x m ce sl (pc + 3) lv st) : mV g x m ce sl pc lv (.int a :: st) := by
  obtain ⟨p, l', e, R, s, md, args, below, meth, c, Q⟩ := x
  obtain ⟨rfl, hx, hb, hml, ⟨hown, hnm⟩, hts, hvm, hR, hO, hh⟩ := hX
  exact fun H locs ls hP hz hL hl => lv_if_ne hx hb hdg ht (fun h => kt h H locs ls hP hz hL hl) (fun h => kf h H locs ls hP hz hL hl)
theorem v_if_lt {l : Launch} {g : mG} {x : mCx} {m : mM} {cc : ByteArray} {y : MethodName} {rm : Room} {nL : Nat} {ce sl pc : Nat} {lv : List (Nat × Value)} {st : List Value} {a : Int32} {off : Int} {tgt : Nat} (hX : mX l g x cc y rm nL) (hdg : decode cc pc = .ok (.ifCond .lt off, 3)) (ht : (pc : Int) + off = (tgt : Int)) (kt : a < 0 → mV g x m ce sl tgt lv st) (kf : ¬ a < 0 → mV g x m ce sl (pc + 3) lv st) : mV g x m ce sl pc lv (.int a :: st) := by
  obtain ⟨p, l', e, R, s, md, args, below, meth, c, Q⟩ := x
  obtain ⟨rfl, hx, hb, hml, ⟨hown, hnm⟩, hts, hvm, hR, hO, hh⟩ := hX
  exact fun H locs ls hP hz hL hl => lv_if_lt hx hb hdg ht (fun h => kt h H locs ls hP hz hL hl) (fun h => kf h H locs ls hP hz hL hl)
theorem v_if_ge {l : Launch} {g : mG} {x : mCx} {m : mM} {cc : ByteArray} {y : MethodName} {rm : Room} {nL : Nat} {ce sl pc : Nat} {lv : List (Nat × Value)} {st : List Value} {a : Int32} {off : Int} {tgt : Nat} (hX : mX l g x cc y rm nL) (hdg : decode cc pc = .ok (.ifCond .ge off, 3)) (ht : (pc : Int) + off = (tgt : Int)) (kt : 0 ≤ a → mV g x m ce sl tgt lv st) (kf : ¬ 0 ≤ a → mV g x m ce sl (pc + 3) lv st) : mV g x m ce sl pc lv (.int a :: st) := by
  obtain ⟨p, l', e, R, s, md, args, below, meth, c, Q⟩ := x
  obtain ⟨rfl, hx, hb, hml, ⟨hown, hnm⟩, hts, hvm, hR, hO, hh⟩ := hX
  exact fun H locs ls hP hz hL hl => lv_if_ge hx hb hdg ht (fun h => kt h H locs ls hP hz hL hl) (fun h => kf h H locs ls hP hz hL hl)
theorem v_if_gt {l : Launch} {g : mG} {x : mCx} {m : mM} {cc : ByteArray} {y : MethodName} {rm : Room} {nL : Nat} {ce sl pc : Nat} {lv : List (Nat × Value)} {st : List Value} {a : Int32} {off : Int} {tgt : Nat} (hX : mX l g x cc y rm nL) (hdg : decode cc pc = .ok (.ifCond .gt off, 3)) (ht : (pc : Int) + off = (tgt : Int)) (kt : 0 < a → mV g x m ce sl tgt lv st) (kf : ¬ 0 < a → mV g x m ce sl (pc + 3) lv st) : mV g x m ce sl pc lv (.int a :: st) := by
  obtain ⟨p, l', e, R, s, md, args, below, meth, c, Q⟩ := x
  obtain ⟨rfl, hx, hb, hml, ⟨hown, hnm⟩, hts, hvm, hR, hO, hh⟩ := hX
  exact fun H locs ls hP hz hL hl => lv_if_gt hx hb hdg ht (fun h => kt h H locs ls hP hz hL hl) (fun h => kf h H locs ls hP hz hL hl)
theorem v_if_le {l : Launch} {g : mG} {x : mCx} {m : mM} {cc : ByteArray} {y : MethodName} {rm : Room} {nL : Nat} {ce sl pc : Nat} {lv : List (Nat × Value)} {st : List Value} {a : Int32} {off : Int} {tgt : Nat} (hX : mX l g x cc y rm nL) (hdg : decode cc pc = .ok (.ifCond .le off, 3)) (ht : (pc : Int) + off = (tgt : Int)) (kt : a ≤ 0 → mV g x m ce sl tgt lv st) (kf : ¬ a ≤ 0 → mV g x m ce sl (pc + 3) lv st) : mV g x m ce sl pc lv (.int a :: st) := by
  obtain ⟨p, l', e, R, s, md, args, below, meth, c, Q⟩ := x
  obtain ⟨rfl, hx, hb, hml, ⟨hown, hnm⟩, hts, hvm, hR, hO, hh⟩ := hX
  exact fun H locs ls hP hz hL hl => lv_if_le hx hb hdg ht (fun h => kt h H locs ls hP hz hL hl) (fun h => kf h H locs ls hP hz hL hl)
theorem v_acmp_ne {l : Launch} {g : mG} {x : mCx} {m : mM} {cc : ByteArray} {y : MethodName} {rm : Room} {nL : Nat} {ce sl pc : Nat} {lv : List (Nat × Value)} {st : List Value} {a b : Option Nat} {off : Int} {tgt : Nat} (hX : mX l g x cc y rm nL) (hdg : decode cc pc = .ok (.if_acmp .ne off, 3)) (ht : (pc : Int) + off = (tgt : Int)) (kt : ¬ a = b → mV g x m ce sl tgt lv st) (kf : a = b → mV g x m ce sl (pc + 3) lv st) : mV g x m ce sl pc lv (va_rf b :: va_rf a :: st) := by
  obtain ⟨p, l', e, R, s, md, args, below, meth, c, Q⟩ := x
  obtain ⟨rfl, hx, hb, hml, ⟨hown, hnm⟩, hts, hvm, hR, hO, hh⟩ := hX
  exact fun H locs ls hP hz hL hl => lv_acmp_ne hx hb hdg ht (fun h => kt h H locs ls hP hz hL hl) (fun h => kf h H locs ls hP hz hL hl)
theorem v_acmp_eq {l : Launch} {g : mG} {x : mCx} {m : mM} {cc : ByteArray} {y : MethodName} {rm : Room} {nL : Nat} {ce sl pc : Nat} {lv : List (Nat × Value)} {st : List Value} {a b : Option Nat} {off : Int} {tgt : Nat} (hX : mX l g x cc y rm nL) (hdg : decode cc pc = .ok (.if_acmp .eq off, 3)) (ht : (pc : Int) + off = (tgt : Int)) (kt : a = b → mV g x m ce sl tgt lv st) (kf : ¬ a = b → mV g x m ce sl (pc + 3) lv st) : mV g x m ce sl pc lv (va_rf b :: va_rf a :: st) := by
  obtain ⟨p, l', e, R, s, md, args, below, meth, c, Q⟩ := x
  obtain ⟨rfl, hx, hb, hml, ⟨hown, hnm⟩, hts, hvm, hR, hO, hh⟩ := hX
  exact fun H locs ls hP hz hL hl => lv_acmp_eq hx hb hdg ht (fun h => kt h H locs ls hP hz hL hl) (fun h => kf h H locs ls hP hz hL hl)
theorem v_goto {l : Launch} {g : mG} {x : mCx} {m : mM} {cc : ByteArray} {y : MethodName} {rm : Room} {nL : Nat} {ce sl pc : Nat} {lv : List (Nat × Value)} {st : List Value} {off : Int} {tgt : Nat} (hX : mX l g x cc y rm nL) (hdg : decode cc pc = .ok (.goto off, 3)) (ht : (pc : Int) + off = (tgt : Int)) (k : mV g x m ce sl tgt lv st) : mV g x m ce sl pc lv st := by
  obtain ⟨p, l', e, R, s, md, args, below, meth, c, Q⟩ := x
  obtain ⟨rfl, hx, hb, hml, ⟨hown, hnm⟩, hts, hvm, hR, hO, hh⟩ := hX
  exact fun H locs ls hP hz hL hl => lv_goto hx hb hdg ht (k H locs ls hP hz hL hl)
theorem v_ifnull_s {l : Launch} {g : mG} {x : mCx} {m : mM} {cc : ByteArray} {y : MethodName} {rm : Room} {nL : Nat} {ce sl pc : Nat} {lv : List (Nat × Value)} {st : List Value} {a : Nat} {off : Int} (hX : mX l g x cc y rm nL) (hdg : decode cc pc = .ok (.ifnull off, 3)) (k : mV g x m ce sl (pc + 3) lv st) : mV g x m ce sl pc lv (.ref a :: st) := by
  obtain ⟨p, l', e, R, s, md, args, below, meth, c, Q⟩ := x
  obtain ⟨rfl, hx, hb, hml, ⟨hown, hnm⟩, hts, hvm, hR, hO, hh⟩ := hX
  exact fun H locs ls hP hz hL hl => lv_ifnull hx hb hdg (k H locs ls hP hz hL hl)
theorem v_ifnonnull_s {l : Launch} {g : mG} {x : mCx} {m : mM} {cc : ByteArray} {y : MethodName} {rm : Room} {nL : Nat} {ce sl pc : Nat} {lv : List (Nat × Value)} {st : List Value} {a : Nat} {off : Int} {tgt : Nat} (hX : mX l g x cc y rm nL) (hdg : decode cc pc = .ok (.ifnonnull off, 3)) (ht : (pc : Int) + off = (tgt : Int)) (k : mV g x m ce sl tgt lv st) : mV g x m ce sl pc lv (.ref a :: st) := by
  obtain ⟨p, l', e, R, s, md, args, below, meth, c, Q⟩ := x
  obtain ⟨rfl, hx, hb, hml, ⟨hown, hnm⟩, hts, hvm, hR, hO, hh⟩ := hX
  exact fun H locs ls hP hz hL hl => lv_ifnonnull hx hb hdg ht (k H locs ls hP hz hL hl)
theorem v_istore_n {l : Launch} {g : mG} {x : mCx} {m : mM} {cc : ByteArray} {y : MethodName} {rm : Room} {nL : Nat} {ce sl pc : Nat} {lv : List (Nat × Value)} {st : List Value} {k4 : Fin 4} {v : Int32} (hX : mX l g x cc y rm nL) (hdg : decode cc pc = .ok (.istore_n k4, 1)) (hi : (k4 : Nat) < nL) (hc : lc1 lv = true) (k : mV g x m ce sl (pc + 1) (((k4 : Nat), .int v) :: lv) st) : mV g x m ce sl pc lv (.int v :: st) := by
  obtain ⟨p, l', e, R, s, md, args, below, meth, c, Q⟩ := x
  obtain ⟨rfl, hx, hb, hml, ⟨hown, hnm⟩, hts, hvm, hR, hO, hh⟩ := hX
  exact fun H locs ls hP hz hL hl => lv_istore_n hx hb hdg rfl (lh_full hl) (by rw [hml]; exact hi) rfl (fun ls' h' => k H locs ls' hP hz hL (lh_back hl (lc1_of hc) h'))
theorem v_istore {l : Launch} {g : mG} {x : mCx} {m : mM} {cc : ByteArray} {y : MethodName} {rm : Room} {nL : Nat} {ce sl pc : Nat} {lv : List (Nat × Value)} {st : List Value} {i : Nat} {v : Int32} (hX : mX l g x cc y rm nL) (hdg : decode cc pc = .ok (.istore i, 2)) (hi : i < nL) (hc : lc1 lv = true) (k : mV g x m ce sl (pc + 2) ((i, .int v) :: lv) st) : mV g x m ce sl pc lv (.int v :: st) := by
  obtain ⟨p, l', e, R, s, md, args, below, meth, c, Q⟩ := x
  obtain ⟨rfl, hx, hb, hml, ⟨hown, hnm⟩, hts, hvm, hR, hO, hh⟩ := hX
  exact fun H locs ls hP hz hL hl => lv_istore hx hb hdg (lh_full hl) (by rw [hml]; exact hi) rfl (fun ls' h' => k H locs ls' hP hz hL (lh_back hl (lc1_of hc) h'))
theorem v_astore_n {l : Launch} {g : mG} {x : mCx} {m : mM} {cc : ByteArray} {y : MethodName} {rm : Room} {nL : Nat} {ce sl pc : Nat} {lv : List (Nat × Value)} {st : List Value} {k4 : Fin 4} {v : Nat} (hX : mX l g x cc y rm nL) (hdg : decode cc pc = .ok (.astore_n k4, 1)) (hi : (k4 : Nat) < nL) (hc : lc1 lv = true) (k : mV g x m ce sl (pc + 1) (((k4 : Nat), .ref v) :: lv) st) : mV g x m ce sl pc lv (.ref v :: st) := by
  obtain ⟨p, l', e, R, s, md, args, below, meth, c, Q⟩ := x
  obtain ⟨rfl, hx, hb, hml, ⟨hown, hnm⟩, hts, hvm, hR, hO, hh⟩ := hX
  exact fun H locs ls hP hz hL hl => lv_astore_n hx hb hdg rfl (lh_full hl) (by rw [hml]; exact hi) rfl (fun ls' h' => k H locs ls' hP hz hL (lh_back hl (lc1_of hc) h'))
theorem v_astore {l : Launch} {g : mG} {x : mCx} {m : mM} {cc : ByteArray} {y : MethodName} {rm : Room} {nL : Nat} {ce sl pc : Nat} {lv : List (Nat × Value)} {st : List Value} {i : Nat} {v : Nat} (hX : mX l g x cc y rm nL) (hdg : decode cc pc = .ok (.astore i, 2)) (hi : i < nL) (hc : lc1 lv = true) (k : mV g x m ce sl (pc + 2) ((i, .ref v) :: lv) st) : mV g x m ce sl pc lv (.ref v :: st) := by
  obtain ⟨p, l', e, R, s, md, args, below, meth, c, Q⟩ := x
  obtain ⟨rfl, hx, hb, hml, ⟨hown, hnm⟩, hts, hvm, hR, hO, hh⟩ := hX
  exact fun H locs ls hP hz hL hl => lv_astore hx hb hdg (lh_full hl) (by rw [hml]; exact hi) rfl (fun ls' h' => k H locs ls' hP hz hL (lh_back hl (lc1_of hc) h'))
theorem v_fstore {l : Launch} {g : mG} {x : mCx} {m : mM} {cc : ByteArray} {y : MethodName} {rm : Room} {nL : Nat} {ce sl pc : Nat} {lv : List (Nat × Value)} {st : List Value} {i : Nat} {v : UInt32} (hX : mX l g x cc y rm nL) (hdg : decode cc pc = .ok (.fstore i, 2)) (hi : i < nL) (hc : lc1 lv = true) (k : mV g x m ce sl (pc + 2) ((i, .float v) :: lv) st) : mV g x m ce sl pc lv (.float v :: st) := by
  obtain ⟨p, l', e, R, s, md, args, below, meth, c, Q⟩ := x
  obtain ⟨rfl, hx, hb, hml, ⟨hown, hnm⟩, hts, hvm, hR, hO, hh⟩ := hX
  exact fun H locs ls hP hz hL hl => lv_fstore hx hb hdg (lh_full hl) (by rw [hml]; exact hi) rfl (fun ls' h' => k H locs ls' hP hz hL (lh_back hl (lc1_of hc) h'))
theorem v_iinc {l : Launch} {g : mG} {x : mCx} {m : mM} {cc : ByteArray} {y : MethodName} {rm : Room} {nL : Nat} {ce sl pc : Nat} {lv : List (Nat × Value)} {st : List Value} {i : Nat} {n : Int} {v w : Int32} (hX : mX l g x cc y rm nL) (hdg : decode cc pc = .ok (.iinc i n, 3)) (hk : lv.lookup i = some (.int v)) (hv : v + Int32.ofInt n = w) (hi : i < nL) (hc : lc1 lv = true) (k : mV g x m ce sl (pc + 3) ((i, .int w) :: lv) st) : mV g x m ce sl pc lv st := by
  obtain ⟨p, l', e, R, s, md, args, below, meth, c, Q⟩ := x
  obtain ⟨rfl, hx, hb, hml, ⟨hown, hnm⟩, hts, hvm, hR, hO, hh⟩ := hX
  intro H locs ls hP hz hL hl
  obtain ⟨k9, hk9⟩ := List.mem_iff_getElem?.mp (lfull_in.mpr (hl.2.2 _ _ hk))
  exact lv_iinc hx hb hdg (lh_full hl) hk9 hv (by rw [hml]; exact hi) rfl (fun ls' h' => k H locs ls' hP hz hL (lh_back hl (lc1_of hc) h'))
theorem v_aload_nN {l : Launch} {g : mG} {x : mCx} {m : mM} {cc : ByteArray} {y : MethodName} {rm : Room} {nL : Nat} {ce sl pc : Nat} {lv : List (Nat × Value)} {st : List Value} {k4 : Fin 4} (hX : mX l g x cc y rm nL) (hdg : decode cc pc = .ok (.aload_n k4, 1)) (hk : lv.lookup (k4 : Nat) = some .null) (k : mV g x m ce sl (pc + 1) lv (.null :: st)) : mV g x m ce sl pc lv (st) := by
  obtain ⟨p, l', e, R, s, md, args, below, meth, c, Q⟩ := x
  obtain ⟨rfl, hx, hb, hml, ⟨hown, hnm⟩, hts, hvm, hR, hO, hh⟩ := hX
  exact fun H locs ls hP hz hL hl => lv_aload_nN hx hb hdg rfl (hl.2.2 _ _ hk) (k H locs ls hP hz hL hl)
theorem v_aloadN {l : Launch} {g : mG} {x : mCx} {m : mM} {cc : ByteArray} {y : MethodName} {rm : Room} {nL : Nat} {ce sl pc : Nat} {lv : List (Nat × Value)} {st : List Value} {i : Nat} (hX : mX l g x cc y rm nL) (hdg : decode cc pc = .ok (.aload i, 2)) (hk : lv.lookup i = some .null) (k : mV g x m ce sl (pc + 2) lv (.null :: st)) : mV g x m ce sl pc lv (st) := by
  obtain ⟨p, l', e, R, s, md, args, below, meth, c, Q⟩ := x
  obtain ⟨rfl, hx, hb, hml, ⟨hown, hnm⟩, hts, hvm, hR, hO, hh⟩ := hX
  exact fun H locs ls hP hz hL hl => lv_aloadN hx hb hdg (hl.2.2 _ _ hk) (k H locs ls hP hz hL hl)
theorem v_astore_nN {l : Launch} {g : mG} {x : mCx} {m : mM} {cc : ByteArray} {y : MethodName} {rm : Room} {nL : Nat} {ce sl pc : Nat} {lv : List (Nat × Value)} {st : List Value} {k4 : Fin 4} (hX : mX l g x cc y rm nL) (hdg : decode cc pc = .ok (.astore_n k4, 1)) (hi : (k4 : Nat) < nL) (hc : lc1 lv = true) (k : mV g x m ce sl (pc + 1) (((k4 : Nat), .null) :: lv) st) : mV g x m ce sl pc lv (.null :: st) := by
  obtain ⟨p, l', e, R, s, md, args, below, meth, c, Q⟩ := x
  obtain ⟨rfl, hx, hb, hml, ⟨hown, hnm⟩, hts, hvm, hR, hO, hh⟩ := hX
  exact fun H locs ls hP hz hL hl => lv_astore_nN hx hb hdg rfl (lh_full hl) (by rw [hml]; exact hi) rfl (fun ls' h' => k H locs ls' hP hz hL (lh_back hl (lc1_of hc) h'))
theorem v_astoreN {l : Launch} {g : mG} {x : mCx} {m : mM} {cc : ByteArray} {y : MethodName} {rm : Room} {nL : Nat} {ce sl pc : Nat} {lv : List (Nat × Value)} {st : List Value} {i : Nat} (hX : mX l g x cc y rm nL) (hdg : decode cc pc = .ok (.astore i, 2)) (hi : i < nL) (hc : lc1 lv = true) (k : mV g x m ce sl (pc + 2) ((i, .null) :: lv) st) : mV g x m ce sl pc lv (.null :: st) := by
  obtain ⟨p, l', e, R, s, md, args, below, meth, c, Q⟩ := x
  obtain ⟨rfl, hx, hb, hml, ⟨hown, hnm⟩, hts, hvm, hR, hO, hh⟩ := hX
  exact fun H locs ls hP hz hL hl => lv_astoreN hx hb hdg (lh_full hl) (by rw [hml]; exact hi) rfl (fun ls' h' => k H locs ls' hP hz hL (lh_back hl (lc1_of hc) h'))
theorem v_ifnull_n {l : Launch} {g : mG} {x : mCx} {m : mM} {cc : ByteArray} {y : MethodName} {rm : Room} {nL : Nat} {ce sl pc : Nat} {lv : List (Nat × Value)} {st : List Value} {off : Int} {tgt : Nat} (hX : mX l g x cc y rm nL) (hdg : decode cc pc = .ok (.ifnull off, 3)) (ht : (pc : Int) + off = (tgt : Int)) (k : mV g x m ce sl tgt lv st) : mV g x m ce sl pc lv (.null :: st) := by
  obtain ⟨p, l', e, R, s, md, args, below, meth, c, Q⟩ := x
  obtain ⟨rfl, hx, hb, hml, ⟨hown, hnm⟩, hts, hvm, hR, hO, hh⟩ := hX
  exact fun H locs ls hP hz hL hl => lv_ifnullN hx hb hdg ht (k H locs ls hP hz hL hl)
theorem v_ifnonnull_n {l : Launch} {g : mG} {x : mCx} {m : mM} {cc : ByteArray} {y : MethodName} {rm : Room} {nL : Nat} {ce sl pc : Nat} {lv : List (Nat × Value)} {st : List Value} {off : Int} (hX : mX l g x cc y rm nL) (hdg : decode cc pc = .ok (.ifnonnull off, 3)) (k : mV g x m ce sl (pc + 3) lv st) : mV g x m ce sl pc lv (.null :: st) := by
  obtain ⟨p, l', e, R, s, md, args, below, meth, c, Q⟩ := x
  obtain ⟨rfl, hx, hb, hml, ⟨hown, hnm⟩, hts, hvm, hR, hO, hh⟩ := hX
  exact fun H locs ls hP hz hL hl => lv_ifnonnullN hx hb hdg (k H locs ls hP hz hL hl)
