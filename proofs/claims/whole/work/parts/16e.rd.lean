section
variable {g : mG} {m : mM} {p : Nat} {a c : Int32}
theorem fr_X8_accept : Fr p (p + 16) m (X8_accept_m g m p a) := by
  unfold X8_accept_m
  repeat' split
  all_goals first | exact Fr.rf | exact Fr.rf.I (by omega)
theorem fr_X8_readKind (hC : okI (gI m 324 p) 11) : Fr p (p + 16) m (X8_readKind_m g m p a) := by
  have h1 : Fr p (p + 16) m (X8_accept_m g m p 98) := fr_X8_accept
  have h2 : Fr p (p + 16) m (X8_accept_m g (X8_accept_m g m p 98) p 110) := h1.tr fr_X8_accept (Nat.le_refl _) (Nat.le_refl _)
  have h3 : Fr p (p + 16) m (X8_accept_m g (X8_accept_m g (X8_accept_m g m p 98) p 110) p 119) := h2.tr fr_X8_accept (Nat.le_refl _) (Nat.le_refl _)
  have hc := hC.2
  unfold X8_readKind_m
  repeat' split
  all_goals first
    | with_reducible exact h3
    | with_reducible exact h1.A (by omega)
    | with_reducible exact h2.A (by omega)
    | with_reducible exact h3.A (by omega)
theorem fr_X8_readArgument (hC : okI (gI m 324 p) 11) : Fr p (p + 16) m (X8_readArgument_m g m p c a) := by
  have hc := hC.2
  unfold X8_readArgument_m
  repeat' split
  all_goals first
    | with_reducible exact fr_X8_readKind hC
    | with_reducible exact Fr.rf
    | with_reducible exact (Fr.rf.I (by omega)).A (by omega)
    | with_reducible exact ((Fr.rf.I (by omega)).I (by omega)).A (by omega)
theorem fr_X8_readWord : Fr p (p + 16) m (X8_readWord_m g m p) := by
  have key : ∀ (n j : Nat) (s : Int32) (m : mM), Fr p (p + 16) m (X8_readWord_l1 g p n j s m).2 := by
    intro n
    induction n with
    | zero => intro j s m; rw [X8_readWord_l1]; exact Fr.rf.I (by omega)
    | succ n ih =>
      intro j s m
      rw [X8_readWord_l1]
      split
      · exact Fr.rf.I (by omega)
      · exact ih _ _ _
  exact key 12 0 0 m
theorem fr_X8_readCommand (hC : okI (gI m 324 p) 11) : Fr p (p + 16) m (X8_readCommand_m g m p) := by
  have key : ∀ (n j k : Nat) (m : mM), okI (gI m 324 p) 11 → Fr p (p + 16) m (X8_readCommand_l1 g p n j k m).2 := by
    intro n
    induction n with
    | zero => intro j k m hC; rw [X8_readCommand_l1]; exact Fr.rf
    | succ n ih =>
      intro j k m hC
      have hA : okI (gI (X8_accept_m g m p 32) 324 p) 11 := by simp [kI_X8_accept]; exact hC
      rw [X8_readCommand_l1]
      repeat' split
      all_goals (try dsimp only)
      all_goals first
        | with_reducible exact Fr.rf
        | with_reducible exact fr_X8_readArgument hC
        | with_reducible exact fr_X8_accept
        | with_reducible exact fr_X8_accept.tr (fr_X8_readArgument hA) (Nat.le_refl _) (Nat.le_refl _)
        | with_reducible exact (fr_X8_readArgument hC).tr (ih _ _ _ (by simp [kI_X8_readArgument]; exact hC)) (Nat.le_refl _) (Nat.le_refl _)
        | with_reducible exact (fr_X8_accept.tr (fr_X8_readArgument hA) (Nat.le_refl _) (Nat.le_refl _)).tr (ih _ _ _ (by simp [kI_X8_readArgument, kI_X8_accept]; exact hC)) (Nat.le_refl _) (Nat.le_refl _)
  have hw : Fr p (p + 16) m (X8_readWord_m g m p) := fr_X8_readWord
  unfold X8_readCommand_m
  split
  · exact hw
  · exact (hw.Q (by omega)).tr (key _ _ _ _ (by simp [mm, kI_X8_readWord]; exact hC)) (Nat.le_refl _) (Nat.le_refl _)
/-- the row of commands holds commands -/
def CQ (g : mG) (m : mM) (p : Nat) : Prop := ∀ i, i < 12 → ∃ k, k < 12 ∧ gQ m (p + 2) i = some (cmA g k)
theorem CQ.at {i : Nat} (h : CQ g m p) (hi : i < 12) : gQ m (p + 2) i = some (cmA g (cmI g ((gQ m (p + 2) i).getD 0))) ∧ cmI g ((gQ m (p + 2) i).getD 0) < 12 := by
  obtain ⟨k, hk, e⟩ := h i hi
  have h2 := cmI_at (g := g) hk
  rw [e]
  exact ⟨congrArg some h2.1.symm, h2.2⟩
theorem CQ.to {m1 : mM} (h : CQ g m p) (hq : ∀ i, gQ m1 (p + 2) i = gQ m (p + 2) i) : CQ g m1 p := fun i hi => by rw [hq]; exact h i hi
theorem CQ.fr {m1 : mM} {lo hi : Nat} (h : CQ g m p) (F : Fr lo hi m m1) (hd : p + 16 ≤ lo ∨ hi ≤ p) : CQ g m1 p := h.to (fun i => by rw [F.gQ (by omega)])
theorem SP.fr {m1 : mM} {lo hi : Nat} (s : SP m p) (F : Fr lo hi m m1) (hd : p + 16 ≤ lo ∨ hi ≤ p) : SP m1 p :=
  ⟨by rw [F.1]; exact s.k, by rw [F.gR (by omega)]; exact s.r0, by rw [F.gR (by omega)]; exact s.r1, by rw [F.gR (by omega)]; exact s.r2, by rw [F.1]; exact s.k1, by rw [F.1]; exact s.k2, by rw [F.1]; exact s.k3, fun i hi => by rw [F.1]; exact s.kr hi, fun i hi => by rw [F.gQ (by omega)]; exact s.qr hi⟩
theorem rc_CQ (h : CQ g m p) : CQ g (X8_readCommand_m g m p) p := by
  intro i hi
  unfold X8_readCommand_m
  split
  · simp only [kQ_X8_readWord]
    exact h i hi
  · rename_i q hq
    simp only [kQ_X8_readCommand_l1, mm, kQ_X8_readWord]
    split
    · exact ⟨cmI g q, (rw_some hq).2, congrArg some (rw_some hq).1.symm⟩
    · exact h i hi
theorem rd_all : ∀ (n j : Nat) (m : mM), j + n = 12 → SP m p → okI (gI m 323 p) 60 → okI (gI m 325 p) 60 → gI m 324 p = nI j → CQ g m p → Fr p (p + 16) m (X8_read_l1 g p n j m).2 ∧ SP (X8_read_l1 g p n j m).2 p ∧ CQ g (X8_read_l1 g p n j m).2 p ∧ okI (gI (X8_read_l1 g p n j m).2 324 p) 12 := by
  intro n
  induction n with
  | zero =>
    intro j m hj hs hL hP hcj hq
    rw [X8_read_l1]
    exact ⟨Fr.rf, hs, hq, okI_of hcj (by omega) (by decide)⟩
  | succ n ih =>
    intro j m hj hs hL hP hcj hq
    have hC : okI (gI m 324 p) 11 := okI_of hcj (by omega) (by decide)
    have f1 : Fr p (p + 16) m (X8_readCommand_m g m p) := fr_X8_readCommand hC
    have s1 := rc_SP (g := g) hs
    have q1 := rc_CQ hq
    have c1 : gI (X8_readCommand_m g m p) 324 p = nI j := by simp [kI_X8_readCommand, hcj]
    have f2 : Fr p (p + 16) m (sI (X8_readCommand_m g m p) 324 p (nI j + 1)) := f1.I (by omega)
    have s2 : SP (sI (X8_readCommand_m g m p) 324 p (nI j + 1)) p := s1.to rfl (fun _ _ _ => rfl) (fun _ => rfl)
    have q2 : CQ g (sI (X8_readCommand_m g m p) 324 p (nI j + 1)) p := q1.to (fun _ => rfl)
    have c2 : gI (sI (X8_readCommand_m g m p) 324 p (nI j + 1)) 324 p = nI (j + 1) := by simp [mm, nI_1]
    have f3 : Fr p (p + 16) m (X8_accept_m g (sI (X8_readCommand_m g m p) 324 p (nI j + 1)) p 59) := f2.tr fr_X8_accept (Nat.le_refl _) (Nat.le_refl _)
    have s3 : SP (X8_accept_m g (sI (X8_readCommand_m g m p) 324 p (nI j + 1)) p 59) p := s2.to (kK_X8_accept _ _ _ _) (fun _ _ _ => by rw [kR_X8_accept]) (fun _ => by rw [kQ_X8_accept])
    have q3 : CQ g (X8_accept_m g (sI (X8_readCommand_m g m p) 324 p (nI j + 1)) p 59) p := q2.to (fun _ => by rw [kQ_X8_accept])
    have c3 : gI (X8_accept_m g (sI (X8_readCommand_m g m p) 324 p (nI j + 1)) p 59) 324 p = nI (j + 1) := by rw [kI_X8_accept _ _ _ _ _ _ (by decide)]; exact c2
    rw [X8_read_l1]
    repeat' split
    all_goals (try dsimp only)
    all_goals first
      | with_reducible exact ⟨f1, s1, q1, okI_of c1 (by omega) (by decide)⟩
      | with_reducible exact ⟨f2, s2, q2, okI_of c2 (by omega) (by decide)⟩
      | with_reducible exact ⟨f3, s3, q3, okI_of c3 (by omega) (by decide)⟩
      | (obtain ⟨e1, e2, e3, e4⟩ := ih (j + 1) _ (by omega) s3 (by simp [mm, kI_X8_readCommand, kI_X8_accept]; exact hL) (acc_P (by simp [mm]; exact rc_P hP hL) (by simp [mm, kI_X8_readCommand]; exact hL)) c3 q3
         exact ⟨f3.tr e1 (Nat.le_refl _) (Nat.le_refl _), e2, e3, e4⟩)
theorem rd_out (hs : SP m p) (hL : okI (gI m 323 p) 60) (hq : CQ g m p) : Fr p (p + 16) m (X8_read_m g m p) ∧ SP (X8_read_m g m p) p ∧ CQ g (X8_read_m g m p) p ∧ okI (gI (X8_read_m g m p) 324 p) 12 := by
  have h0 : SP (sI (sI m 324 p 0) 325 p 0) p := hs.to rfl (fun _ _ _ => rfl) (fun _ => rfl)
  obtain ⟨e1, e2, e3, e4⟩ := rd_all (g := g) 12 0 (sI (sI m 324 p 0) 325 p 0) (by omega) h0 (by simp [mm]; exact hL) (by simp [mm]; exact (show okI (0 : Int32) 60 from okI_nI (n := 0) (by decide) (by decide))) (by simp [mm]; rfl) (hq.to (fun _ => rfl))
  exact ⟨((Fr.rf.I (by omega)).I (by omega)).tr e1 (Nat.le_refl _) (Nat.le_refl _), e2, e3, e4⟩
theorem SB.frp {m1 : mM} {b lo hi : Nat} (s : SB m b) (F : Fr lo hi m m1) (hd : b + 214 ≤ lo) : SB m1 b := by
  refine ⟨by rw [F.1]; exact s.k, by rw [F.gR (by omega)]; exact s.r0, by rw [F.gR (by omega)]; exact s.r1, by rw [F.gR (by omega)]; exact s.r2, by rw [F.gR (by omega)]; exact s.r3, by rw [F.gR (by omega)]; exact s.r4, by rw [F.gR (by omega)]; exact s.r5, by rw [F.gR (by omega)]; exact s.r6, s.f1.fr F (by omega), s.f2.fr F (by omega), s.f3.fr F (by omega), s.h.fr F (by omega), s.c.fr F (by omega)⟩
theorem SB.f3r {m1 : mM} {b : Nat} (s : SB m b) (F : Fr (b + 33) (b + 33 + 16) m m1) (h : SF m1 (b + 33)) : SB m1 b := by
  refine ⟨by rw [F.1]; exact s.k, by rw [F.gR (by omega)]; exact s.r0, by rw [F.gR (by omega)]; exact s.r1, by rw [F.gR (by omega)]; exact s.r2, by rw [F.gR (by omega)]; exact s.r3, by rw [F.gR (by omega)]; exact s.r4, by rw [F.gR (by omega)]; exact s.r5, by rw [F.gR (by omega)]; exact s.r6, s.f1.fr F (by omega), s.f2.fr F (by omega), h, s.h.fr F (by omega), s.c.fr F (by omega)⟩
end
theorem cp_H2 {g : mG} {f o : Nat} : ∀ (n j : Nat) (m : mM), gI (X3_copyFrom_l2 g f o n j m) 164 f = gI m 164 o := by
  intro n
  induction n with
  | zero => intro j m; rw [X3_copyFrom_l2]; simp [mm]
  | succ n ih => intro j m; rw [X3_copyFrom_l2, ih]; simp [kI_X5_copyFrom]
theorem cp_H1 {g : mG} {f o : Nat} : ∀ (n j : Nat) (m : mM), gI (X3_copyFrom_l1 g f o n j m) 164 f = gI m 164 o := by
  intro n
  induction n with
  | zero => intro j m; rw [X3_copyFrom_l1, cp_H2]
  | succ n ih => intro j m; rw [X3_copyFrom_l1, ih]; simp [kI_X7_copyFrom]
theorem cp_H {g : mG} {m : mM} {f o : Nat} : gI (X3_copyFrom_m g m f o) 164 f = gI m 164 o := by
  unfold X3_copyFrom_m
  rw [cp_H1]
  simp [kI_X4_copyFrom]
