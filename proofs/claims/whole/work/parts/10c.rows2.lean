theorem v_tsO {l : Launch} {g : mG} {x : mCx} {m : mM} {cc : ByteArray} {y : MethodName} {rm : Room} {nL : Nat} {ce sl pc : Nat} {lv : List (Nat × Value)} {st : List Value} {dflt lo hi : Int} {offs : Array Int} {len : Nat} {a : Int32} {tgt : Nat} (hX : mX l g x cc y rm nL) (hdg : decode cc pc = .ok (.tableswitch dflt lo hi offs, len)) (h : a.toInt < lo ∨ hi < a.toInt) (ht : (pc : Int) + dflt = (tgt : Int)) (k : mV g x m ce sl tgt lv st) : mV g x m ce sl pc lv (.int a :: st) := by
  obtain ⟨p, l', e, R, s, md, args, below, meth, c, Q⟩ := x
  obtain ⟨rfl, hx, hb, hml, ⟨hown, hnm⟩, hts, hvm, hR, hO, hh⟩ := hX
  exact fun H locs ls hP hz hL hl => lv_tableOut hx hb hdg h ht (k H locs ls hP hz hL hl)
theorem v_tsI {l : Launch} {g : mG} {x : mCx} {m : mM} {cc : ByteArray} {y : MethodName} {rm : Room} {nL : Nat} {ce sl pc : Nat} {lv : List (Nat × Value)} {st : List Value} {dflt lo hi : Int} {offs : Array Int} {len : Nat} {a : Int32} {off : Int} {tgt : Nat} (hX : mX l g x cc y rm nL) (hdg : decode cc pc = .ok (.tableswitch dflt lo hi offs, len)) (h1 : ¬ a.toInt < lo) (h2 : ¬ hi < a.toInt) (ho : offs[(a.toInt - lo).toNat]? = some off) (ht : (pc : Int) + off = (tgt : Int)) (k : mV g x m ce sl tgt lv st) : mV g x m ce sl pc lv (.int a :: st) := by
  obtain ⟨p, l', e, R, s, md, args, below, meth, c, Q⟩ := x
  obtain ⟨rfl, hx, hb, hml, ⟨hown, hnm⟩, hts, hvm, hR, hO, hh⟩ := hX
  exact fun H locs ls hP hz hL hl => lv_tableIn hx hb hdg h1 h2 ho ht (k H locs ls hP hz hL hl)
theorem ts_ne {a k : Int32} {n : Int} (h : ¬ a = k) (hk : k.toInt = n) : a.toInt ≠ n := fun q => h (Int32.toInt_inj.mp (q.trans hk.symm))
theorem v_fret {l : Launch} {g : mG} {x : mCx} {m : mM} {cc : ByteArray} {y : MethodName} {rm : Room} {nL : Nat} {ce sl pc : Nat} {lv : List (Nat × Value)} {pst : Option Value → mM → Prop} {XX : String → mM → Prop} {hh : List (Nat × Nat × Nat × Nat)} {mc' ms' : Nat} {v : UInt32} (hX : mX l g x cc y rm nL) (hZ : mZ g x (some .float) hh pst XX mc' ms') (hdg : decode cc pc = .ok (.freturn, 1)) (hc : ce ≤ mc') (hs : sl ≤ ms') (hp : pst (some (.float v)) m) : mV g x m ce sl pc lv [.float v] := by
  obtain ⟨p, l', e, R, s, md, args, below, meth, c, Q⟩ := x
  obtain ⟨rfl, hx, hb, hml, ⟨hown, hnm⟩, hts, hvm, rfl, hO, hH9⟩ := hX
  obtain ⟨hr, hlk, htb, rfl⟩ := hZ
  refine fun H locs ls hP hz hL hl => W.widen hc hs (vx_ret (W.fret hx hb hr (fun t ht hW => ⟨_, m, rfl, hp, by rw [ht]; exact hP, by rw [ht, hP.1.1]; exact hz⟩) hL hdg hlk))
theorem v_dret {l : Launch} {g : mG} {x : mCx} {m : mM} {cc : ByteArray} {y : MethodName} {rm : Room} {nL : Nat} {ce sl pc : Nat} {lv : List (Nat × Value)} {pst : Option Value → mM → Prop} {XX : String → mM → Prop} {hh : List (Nat × Nat × Nat × Nat)} {mc' ms' : Nat} {v : UInt64} (hX : mX l g x cc y rm nL) (hZ : mZ g x (some .double) hh pst XX mc' ms') (hdg : decode cc pc = .ok (.dreturn, 1)) (hc : ce ≤ mc') (hs : sl ≤ ms') (hp : pst (some (.double v)) m) : mV g x m ce sl pc lv [.double v] := by
  obtain ⟨p, l', e, R, s, md, args, below, meth, c, Q⟩ := x
  obtain ⟨rfl, hx, hb, hml, ⟨hown, hnm⟩, hts, hvm, rfl, hO, hH9⟩ := hX
  obtain ⟨hr, hlk, htb, rfl⟩ := hZ
  refine fun H locs ls hP hz hL hl => W.widen hc hs (vx_ret (W.dret hx hb hr (fun t ht hW => ⟨_, m, rfl, hp, by rw [ht]; exact hP, by rw [ht, hP.1.1]; exact hz⟩) hL hdg hlk))
