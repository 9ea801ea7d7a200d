/-! THE JUDGEMENT mV: a method's walk over a memory, whatever the heap that holds it -/
theorem nmG : ∀ (ci : Nat) (r : vw_C), vwCl[ci]? = some r → (∀ k, k < r.2.2 → parseFieldDescriptor (r.2.1 k).2.2.1 = some (tyOf ci k)) ∧ (∀ a, a < r.2.2 → ∀ b, b < r.2.2 → a ≠ b → (r.2.1 a).2.1 ≠ (r.2.1 b).2.1) ∧ r.2.2 ≤ 32 ∧ (∀ k, k < r.2.2 → okTy (tyOf ci k) = true) := by
  intro ci r h
  match ci, h with
  | 0, h => cases h; exact ⟨tyJ0_ok, nmJ0, by decide, by decide⟩
  | 1, h => cases h; exact ⟨tyJ4_ok, nmJ4, by decide, by decide⟩
  | 2, h => cases h; exact ⟨tyJx00060_ok, nmJx00060, by decide, by decide⟩
  | 3, h => cases h; exact ⟨tyJx7c733_ok, nmJx7c733, by decide, by decide⟩
  | 4, h => cases h; exact ⟨tyX2_ok, nmX2, by decide, by decide⟩
  | 5, h => cases h; exact ⟨tyX3_ok, nmX3, by decide, by decide⟩
  | 6, h => cases h; exact ⟨tyX4_ok, nmX4, by decide, by decide⟩
  | 7, h => cases h; exact ⟨tyX5_ok, nmX5, by decide, by decide⟩
  | 8, h => cases h; exact ⟨tyX6_ok, nmX6, by decide, by decide⟩
  | 9, h => cases h; exact ⟨tyX7_ok, nmX7, by decide, by decide⟩
  | 10, h => cases h; exact ⟨tyX8_ok, nmX8, by decide, by decide⟩
  | 11, h => cases h; exact ⟨tyX10_ok, nmX10, by decide, by decide⟩
  | 12, h => cases h; exact ⟨tyX11_ok, nmX11, by decide, by decide⟩
  | n + 13, h => simp [vwCl] at h
theorem inGc {ci : Nat} {r : vw_C} (h : vwCl[ci]? = some r) : ∀ w ∈ u_ws r.1 r.2.1 r.2.2, w ∈ gw := inG ci r h
/-- the locals: a list, the newest value first -/
def lh (ls : Array Slot) (n : Nat) (lv : List (Nat × Value)) : Prop := ls.size = n ∧ lv_wf ls ∧ ∀ (i : Nat) (v : Value), lv.lookup i = some v → ls[i]? = some (.val v)
abbrev mCx : Type := Program × Launch × Env × Room × State × MethodId × Array Value × List Frame × Method × Code × (State → Prop)
def mV (g : mG) (x : mCx) (m : mM) (ce sl pc : Nat) (lv : List (Nat × Value)) (st : List Value) : Prop :=
  match x with
  | (p, l, e, R, s, md, args, below, meth, c, Q) => ∀ (H : Heap) (locs : List Loc) (ls : Array Slot), mP g m H → s.heap.size ≤ gN m → (∀ q ∈ locs, (gH g).size ≤ q.base) → lh ls c.maxLocals lv → W p l e R s md args below meth c H locs ce sl Q (F0 md pc ls st)
/-- the method's frame with q thrown over it: an exception of the class E, in the memory m -/
def mVX (g : mG) (x : mCx) (m : mM) (ce sl pc : Nat) (lv : List (Nat × Value)) (E : String) : Prop :=
  match x with
  | (p, l, e, R, s, md, args, below, meth, c, Q) => ∀ (H : Heap) (locs : List Loc) (ls : Array Slot) (rest : List Value) (q : Addr) (cell : Cell), mP g m H → s.heap.size ≤ gN m → (∀ z ∈ locs, (gH g).size ≤ z.base) → lh ls c.maxLocals lv → H[q]? = some cell → cell.vm = .none → s.vm.findClass E = some cell.cls → vx_W p l e R s md args below meth c H locs ce sl Q (F0 md pc ls rest) q
def tysL (cA : Nat → ClassId) : List (ClassId × FieldType) := (List.range 11).map (fun t => (cA t, aty t))
theorem tysL_at (cA : Nat → ClassId) {t : Nat} (h : t < 11) : (tysL cA)[t]? = some (cA t, aty t) := by
  unfold tysL
  rw [List.getElem?_map, List.getElem?_range h]
  rfl
/-- what is known of the start and of the launch -/
def mO (l : Launch) (g : mG) : Prop := l.stackTraces = false ∧ va_K g.1 vwCl (tysL g.2.1) g.2.2 ∧ (∃ b : Addr, (Jvm.Cond.and given_1 narrow_1).before #[Value.ref b] g.2.2 = true ∧ ∀ w ∈ lw_tbl, w.before #[Value.ref b] g.2.2 = true)
/-- what a method's frame has: the machine, its code, its words, its room -/
def mX (l : Launch) (g : mG) (x : mCx) (cc : ByteArray) (y : MethodName) (rm : Room) (nL : Nat) : Prop :=
  match x with
  | (p, l', e, R, s, md, args, below, meth, c, Q) => l' = l ∧ p.tables.exec = Jvm.exec ∧ c.code = cc ∧ c.maxLocals = nL ∧ (s.vm.findClass y.cls = some md.cls ∧ meth.name = y.name) ∧ (∀ w ∈ gw, w.before args s = true) ∧ g.2.2.WarmedH s.vm ∧ R = rm ∧ mO l g ∧ ((gH g).size ≤ s.heap.size ∧ ∀ q : Nat, q < (gH g).size → s.heap[q]? = (gH g)[q]?)
/-- how the method may end -/
def mQ (g : mG) (post : Option Value → mM → Prop) : Array Value → State → Outcome → State → Prop := fun _ st o t => ∃ (r : Option Value) (m' : mM), o = .returned r ∧ post r m' ∧ mP g m' t.heap ∧ st.heap.size ≤ t.heap.size
def mQX (g : mG) (XC : String → mM → Prop) : String → State → State → Prop := fun E st t => ∃ m' : mM, XC E m' ∧ mP g m' t.heap ∧ st.heap.size ≤ t.heap.size
def mZ (g : mG) (x : mCx) (ret : Option FieldType) (hh : List (Nat × Nat × Nat × Nat)) (post : Option Value → mM → Prop) (XC : String → mM → Prop) (mc ms : Nat) : Prop :=
  match x with
  | (p, l, e, R, s, md, args, below, meth, c, Q) => meth.sig.returnType = ret ∧ meth.locks = false ∧ c.exceptionTable.toList = tableOf hh ∧ Q = vx_MQ below (mQ g post) (mQX g XC) args s mc ms (fun q => (gH g).size ≤ q)
/-- no exception -/
def nX : String → mM → Prop := fun _ _ => False
/-- THE CONTRACT: the method y, at the memory m, with the arguments av, returns as post says, or throws as XC says; it makes at most mc cells of ms slots -/
def mT (l : Launch) (g : mG) (y : MethodName) (cw : Cond) (fr lo mc ms : Nat) (av : List Value) (m : mM) (post : Option Value → mM → Prop) (XC : String → mM → Prop) : Prop :=
  vx_Met l y (cw :: gw) { frames := fr, cells := mc, slots := ms, locals := lo } (fun a U => a = av.toArray ∧ g.2.2.WarmedH U.vm ∧ mP g m U.heap) (mQ g post) (mQX g XC) mc ms (fun q => (gH g).size ≤ q)
/-- a method without handlers, from its entry -/
theorem mT_of {l : Launch} {g : mG} {y : MethodName} {cc : ByteArray} {maxL : Nat} {ret : Option FieldType} {fr lo mc ms : Nat} {av : List Value} {m : mM} {post : Option Value → mM → Prop} {XC : String → mM → Prop} (hO : mO l g) (hy : plainName y.cls = true) (hn : (lg_sl av).length ≤ maxL)
    (body : ∀ x : mCx, mX l g x cc y { frames := fr, cells := mc, slots := ms, locals := lo } maxL → mZ g x ret [] post XC mc ms → mV g x m 0 0 0 (lv_args 0 av) []) : mT l g y (.code y cc maxL ret) fr lo mc ms av m post XC := by
  refine vx_ofW (cc := cc) (maxL := maxL) (ret := ret) hy rfl ?_
  intro p e s md args below meth c s₁ B hml hno hv
  obtain ⟨rfl, hvm, hP⟩ := hv
  have hts := atoms_spec (ws := Cond.code y cc maxL ret :: gw) B.pre
  have hown : s.vm.findClass y.cls = some md.cls := findClass_of_methodNamed B.named
  have h := body (p, l, e, { frames := fr, cells := mc, slots := ms, locals := lo }, s, md, av.toArray, below, meth, c, vx_MQ below (mQ g post) (mQX g XC) av.toArray s mc ms (fun q => (gH g).size ≤ q))
    ⟨rfl, B.exec, B.bytes, hml, ⟨hown, (name_of_methodNamed B.named B.method).1⟩, fun w hw => hts w (List.mem_cons_of_mem _ hw), hvm, rfl, hO, hP.1.2, hP.2.1⟩ ⟨B.returns, B.notSynchronized, by
      cases hc : c.exceptionTable.toList with
      | nil => rfl
      | cons a t => exact (hno a (by rw [hc]; exact List.mem_cons_self)).elim, rfl⟩
  have hl := lv_entry av hn
  rw [lg_entry_eq]
  exact h s.heap [] _ hP (Nat.le_of_eq hP.1.1) (fun q hq => by cases hq) ⟨hl.1.trans hml.symm, hl.2.1, fun i v hv => hl.2.2 (i, v) (by
    obtain ⟨l1, l2, h1, -⟩ := List.lookup_eq_some_iff.mp hv
    rw [h1]
    exact List.mem_append_right _ List.mem_cons_self)⟩
/-- a method with handlers, from its entry -/
theorem mT_ofH {l : Launch} {g : mG} {y : MethodName} {cc : ByteArray} {maxL : Nat} {ret : Option FieldType} {hh : List (Nat × Nat × Nat × Nat)} {fr lo mc ms : Nat} {av : List Value} {m : mM} {post : Option Value → mM → Prop} {XC : String → mM → Prop} (hO : mO l g) (hy : plainName y.cls = true) (hn : (lg_sl av).length ≤ maxL)
    (body : ∀ x : mCx, mX l g x cc y { frames := fr, cells := mc, slots := ms, locals := lo } maxL → mZ g x ret hh post XC mc ms → mV g x m 0 0 0 (lv_args 0 av) []) : mT l g y (.codeWith y cc maxL ret hh) fr lo mc ms av m post XC := by
  refine vx_ofWH (cc := cc) (maxL := maxL) (ret := ret) (hh := hh) hy rfl ?_
  intro p e s md args below meth c s₁ B hml hv
  obtain ⟨rfl, hvm, hP⟩ := hv
  have hts := atoms_spec (ws := Cond.codeWith y cc maxL ret hh :: gw) B.pre
  have hown : s.vm.findClass y.cls = some md.cls := findClass_of_methodNamed B.named
  have htab := vx_table (x := y) B (hts _ List.mem_cons_self)
  have h := body (p, l, e, { frames := fr, cells := mc, slots := ms, locals := lo }, s, md, av.toArray, below, meth, c, vx_MQ below (mQ g post) (mQX g XC) av.toArray s mc ms (fun q => (gH g).size ≤ q))
    ⟨rfl, B.exec, B.bytes, hml, ⟨hown, (name_of_methodNamed B.named B.method).1⟩, fun w hw => hts w (List.mem_cons_of_mem _ hw), hvm, rfl, hO, hP.1.2, hP.2.1⟩ ⟨B.returns, B.notSynchronized, htab, rfl⟩
  have hl := lv_entry av hn
  rw [lg_entry_eq]
  exact h s.heap [] _ hP (Nat.le_of_eq hP.1.1) (fun q hq => by cases hq) ⟨hl.1.trans hml.symm, hl.2.1, fun i v hv => hl.2.2 (i, v) (by
    obtain ⟨l1, l2, h1, -⟩ := List.lookup_eq_some_iff.mp hv
    rw [h1]
    exact List.mem_append_right _ List.mem_cons_self)⟩
/-- a weaker end -/
theorem mT_imp {l : Launch} {g : mG} {y : MethodName} {cw : Cond} {fr lo mc ms : Nat} {av : List Value} {m : mM} {post post' : Option Value → mM → Prop} {XC XC' : String → mM → Prop} (h : mT l g y cw fr lo mc ms av m post XC) (hp : ∀ r m', post r m' → post' r m') (hx : ∀ E m', XC E m' → XC' E m') : mT l g y cw fr lo mc ms av m post' XC' := by
  intro p e ha hc hk s mm args below hf happ hP hK
  obtain ⟨n, o, h1, h2, h3, h4⟩ := h p e ha hc hk s mm args below hf happ hP hK
  refine ⟨n, o, h1, h2, h3, ?_⟩
  rcases h4 with ⟨⟨r, m', e1, e2, e3⟩, h5⟩ | ⟨q, e1, E, ce, L, ⟨m', e2, e3⟩, h5⟩
  · exact Or.inl ⟨⟨r, m', e1, hp r m' e2, e3⟩, h5⟩
  · exact Or.inr ⟨q, e1, E, ce, L, ⟨m', hx E m' e2, e3⟩, h5⟩
theorem mV_widen {g : mG} {x : mCx} {m : mM} {ce sl ce' sl' pc : Nat} {lv : List (Nat × Value)} {st : List Value} (h1 : ce ≤ ce') (h2 : sl ≤ sl') (k : mV g x m ce' sl' pc lv st) : mV g x m ce sl pc lv st := by
  obtain ⟨p, l, e, R, s, md, args, below, meth, c, Q⟩ := x
  exact fun H locs ls hP hz hL hl => W.widen h1 h2 (k H locs ls hP hz hL hl)
/-- fewer locals -/
def lsub (lv : List (Nat × Value)) : List (Nat × Value) → Prop
  | [] => True
  | q :: t => lv.lookup q.1 = some q.2 ∧ lsub lv t
theorem lsub_lookup {lv : List (Nat × Value)} : ∀ {t : List (Nat × Value)}, lsub lv t → ∀ (i : Nat) (v : Value), t.lookup i = some v → lv.lookup i = some v
  | [], _, i, v, h => by cases h
  | q :: t, hs, i, v, h => by
    obtain ⟨j, w⟩ := q
    rw [List.lookup_cons] at h
    by_cases e : i = j
    · subst e
      simp at h
      rw [← h]; exact hs.1
    · have : (i == j) = false := by simp [e]
      rw [this] at h
      exact lsub_lookup hs.2 i v h
theorem mV_sub {g : mG} {x : mCx} {m : mM} {ce sl pc : Nat} {lv lv' : List (Nat × Value)} {st : List Value} (h : lsub lv lv') (k : mV g x m ce sl pc lv' st) : mV g x m ce sl pc lv st := by
  obtain ⟨p, l, e, R, s, md, args, below, meth, c, Q⟩ := x
  exact fun H locs ls hP hz hL hl => k H locs ls hP hz hL ⟨hl.1, hl.2.1, fun i v hv => hl.2.2 i v (lsub_lookup h i v hv)⟩
/-- another name of the memory -/
theorem mV_mem {g : mG} {x : mCx} {m m' : mM} {ce sl pc : Nat} {lv : List (Nat × Value)} {st : List Value} (h : m = m') (k : mV g x m' ce sl pc lv st) : mV g x m ce sl pc lv st := h ▸ k
/-- all the locals that hold a value -/
def lfull (ls : Array Slot) : List (Nat × Value) := ls.toList.zipIdx.filterMap (fun q => match q.1 with | .val w => some (q.2, w) | _ => none)
theorem lfull_in {ls : Array Slot} {j : Nat} {w : Value} : (j, w) ∈ lfull ls ↔ ls[j]? = some (.val w) := by
  unfold lfull
  rw [List.mem_filterMap]
  constructor
  · rintro ⟨y, hy, e⟩
    obtain ⟨k, hk⟩ := List.mem_iff_getElem?.mp hy
    rw [List.getElem?_zipIdx] at hk
    cases hz : ls.toList[k]? with
    | none => rw [hz] at hk; cases hk
    | some z =>
      rw [hz] at hk
      cases hk
      cases z with
      | val w =>
        cases e
        simpa using hz
      | unset => cases e
      | second => cases e
  · intro h
    refine ⟨(.val w, j), List.mem_iff_getElem?.mpr ⟨j, ?_⟩, rfl⟩
    rw [List.getElem?_zipIdx]
    simp [h]
theorem lh_full {ls : Array Slot} {n : Nat} {lv : List (Nat × Value)} (h : lh ls n lv) : lv_has ls n (lfull ls) := ⟨h.1, h.2.1, fun q hq => lfull_in.mp hq⟩
theorem lh_back {ls ls' : Array Slot} {n i : Nat} {v : Value} {lv : List (Nat × Value)} (h : lh ls n lv) (h2 : ∀ (j : Nat) (w : Value), lv.lookup j = some w → w.category = 1) (e2 : lv_has ls' n ((i, v) :: (lfull ls).filter (fun q => !(q.1 == i) && !(q.1 + 1 == i && q.2.category == 2)))) : lh ls' n ((i, v) :: lv) := by
  refine ⟨e2.1, e2.2.1, fun j w hj => ?_⟩
  rw [List.lookup_cons] at hj
  by_cases e : j = i
  · subst e
    simp at hj
    rw [← hj]
    exact e2.2.2 (j, v) List.mem_cons_self
  · have e' : (j == i) = false := by simp [e]
    rw [e'] at hj
    have hcw := h2 j w hj
    exact e2.2.2 (j, w) (List.mem_cons_of_mem _ (List.mem_filter.mpr ⟨lfull_in.mpr (h.2.2 j w hj), by simp [e, hcw]⟩))
/-- all listed locals are of one slot -/
def lc1 : List (Nat × Value) → Bool
  | [] => true
  | q :: t => decide (q.2.category = 1) && lc1 t
theorem lc1_of : ∀ {lv : List (Nat × Value)}, lc1 lv = true → ∀ (j : Nat) (w : Value), lv.lookup j = some w → w.category = 1
  | [], _, j, w, h => by cases h
  | q :: t, hc, j, w, h => by
    simp only [lc1, Bool.and_eq_true, decide_eq_true_eq] at hc
    obtain ⟨i, v⟩ := q
    rw [List.lookup_cons] at h
    by_cases e : j = i
    · subst e
      simp at h
      rw [← h]; exact hc.1
    · have e' : (j == i) = false := by simp [e]
      rw [e'] at h
      exact lc1_of hc.2 j w h
