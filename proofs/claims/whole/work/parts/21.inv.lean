/-! ===== what the class's cells and the model's cells have in common between calls ===== -/
def C1 (m : Mem) (X : Bm) : Prop := RepB m 1 X ∧ RepM m 0 X ∧ VX 9 30 X ∧ xt X ≤ 9999
def CI1 (m : Mem) (k : Nat) : Prop := (m 22 k = 0 ∧ m 48 k = 0) ∨ (m 22 k = 1 ∧ m 48 k = 1 ∧ ∃ Y : Bm, RepB m (11 + 5 * k) Y ∧ RepM m (23 * (k + 1)) Y ∧ VX 9 30 Y ∧ xt Y ≤ 9999)
def C2 (m : Mem) : Prop := ∀ k, k < 2 → CI1 m k
abbrev Tp : Type := Nat × (Nat → Nat)
def C3 (m : Mem) (T : Tp) : Prop := T.1 ≤ 160 ∧ m 23 1 = nI T.1 ∧ m 40 4 = nI T.1 ∧ ∀ i, i < T.1 → T.2 i ≤ 127 ∧ m 24 i = nI (T.2 i) ∧ m 43 i = nI (T.2 i)
def C4 (m : Mem) : Prop := m 0 9 = m 40 5 ∧ m 0 10 = m 40 25
abbrev Se : Type := Nat × (Nat → Nat) × (Nat → Nat) × (Nat → Nat)
def C5 (m : Mem) (S : Se) : Prop := S.1 ≤ 6 ∧ m 25 3 = nI S.1 ∧ m 40 19 = nI S.1 ∧ ∀ i, i < S.1 → S.2.1 i ≤ 60 ∧ S.2.2.1 i ≤ 4 ∧ S.2.2.2 i ≤ 1 ∧ m 26 i = nI (S.2.1 i) ∧ m 27 i = nI (S.2.2.1 i) ∧ m 28 i = nI (S.2.2.2 i) ∧ m 46 (3 * i) = nI (S.2.1 i) ∧ m 46 (3 * i + 1) = nI (S.2.2.1 i) ∧ m 46 (3 * i + 2) = nI (S.2.2.2 i)
def CS (m : Mem) (k : Nat) : Prop := (m (31 + 2 * k) 1 = -1 ∧ m 49 k = -4) ∨ ∃ ln cn : Nat, ln ≤ 2 ∧ cn ≤ 40 ∧ m (31 + 2 * k) 1 = nI ln ∧ m 49 k = nI ln ∧ m (31 + 2 * k) 2 = nI cn ∧ m 50 k = nI cn ∧ ∀ i, i < cn → m (32 + 2 * k) i = m 51 (40 * k + i)
def C6 (m : Mem) : Prop := ∀ k, k < 4 → CS m k
def endL : List Nat := [0, 5, 9, 14, 17, 21]
def letL : List Nat := [112, 108, 97, 105, 110, 115, 111, 102, 116, 104, 101, 97, 118, 121, 115, 104, 121, 112, 117, 115, 104]
def C7 (m : Mem) : Prop := m 40 14 = goI 9 ∧ (∀ i, i < 6 → m 44 i = nI (endL.getD i 0)) ∧ ∀ i, i < 21 → m 45 i = nI (letL.getD i 0)
def Inv (m : Mem) : Prop := ∃ (X : Bm) (T : Tp) (S : Se), C1 m X ∧ C2 m ∧ C3 m T ∧ C4 m ∧ C5 m S ∧ C6 m ∧ C7 m
theorem RepB.fr {m m2 : Mem} {b : Nat} {X : Bm} (h : RepB m b X) (e : ∀ k, b ≤ k → k ≤ b + 4 → m2 k = m k) : RepB m2 b X := by
  rw [RepB, e b (by omega) (by omega), e (b + 1) (by omega) (by omega), e (b + 2) (by omega) (by omega), e (b + 3) (by omega) (by omega), e (b + 4) (by omega) (by omega)]
  exact h
theorem RepM.fr {m m2 : Mem} {P : Nat} {X : Bm} (h : RepM m P X) (hn : xn X ≤ 5) (e : ∀ j, P ≤ j → j < P + 23 → m2 41 j = m 41 j) : RepM m2 P X :=
  ⟨by rw [e _ (by omega) (by omega)]; exact h.1, by rw [e _ (by omega) (by omega)]; exact h.2.1, by rw [e _ (by omega) (by omega)]; exact h.2.2.1, fun c hc => ⟨by rw [e _ (by omega) (by omega)]; exact (h.2.2.2 c hc).1, by rw [e _ (by omega) (by omega)]; exact (h.2.2.2 c hc).2.1, by rw [e _ (by omega) (by omega)]; exact (h.2.2.2 c hc).2.2.1, by rw [e _ (by omega) (by omega)]; exact (h.2.2.2 c hc).2.2.2⟩⟩
theorem C1.fr {m m2 : Mem} {X : Bm} (h : C1 m X) (e1 : ∀ k, 1 ≤ k → k ≤ 5 → m2 k = m k) (e2 : ∀ j, j < 23 → m2 41 j = m 41 j) : C1 m2 X := ⟨h.1.fr e1, h.2.1.fr h.2.2.1.1 (fun j _ hj => e2 j (by omega)), h.2.2⟩
theorem C2.fr {m m2 : Mem} (h : C2 m) (e1 : ∀ k, 11 ≤ k → k ≤ 20 → m2 k = m k) (e2 : m2 22 = m 22) (e3 : m2 48 = m 48) (e4 : ∀ j, 23 ≤ j → j < 69 → m2 41 j = m 41 j) : C2 m2 := by
  intro k hk
  rw [CI1, e2, e3]
  rcases h k hk with q | ⟨q1, q2, Y, q3, q4, q5⟩
  · exact Or.inl q
  · exact Or.inr ⟨q1, q2, Y, q3.fr (fun j h1 h2 => e1 j (by omega) (by omega)), q4.fr q5.1.1 (fun j h1 h2 => e4 j (by omega) (by omega)), q5⟩
theorem C3.fr {m m2 : Mem} {T : Tp} (h : C3 m T) (e1 : m2 23 1 = m 23 1) (e2 : m2 40 4 = m 40 4) (e3 : m2 24 = m 24) (e4 : m2 43 = m 43) : C3 m2 T := by
  rw [C3, e1, e2, e3, e4]; exact h
theorem C4.fr {m m2 : Mem} (h : C4 m) (e1 : m2 0 9 = m 0 9) (e2 : m2 0 10 = m 0 10) (e3 : m2 40 5 = m 40 5) (e4 : m2 40 25 = m 40 25) : C4 m2 := by
  rw [C4, e1, e2, e3, e4]; exact h
theorem C5.fr {m m2 : Mem} {S : Se} (h : C5 m S) (e1 : m2 25 3 = m 25 3) (e2 : m2 40 19 = m 40 19) (e3 : m2 26 = m 26) (e4 : m2 27 = m 27) (e5 : m2 28 = m 28) (e6 : m2 46 = m 46) : C5 m2 S := by
  rw [C5, e1, e2, e3, e4, e5, e6]; exact h
theorem CS.fr {m m2 : Mem} {k : Nat} (h : CS m k) (e1 : m2 (31 + 2 * k) = m (31 + 2 * k)) (e2 : m2 (32 + 2 * k) = m (32 + 2 * k)) (e3 : m2 49 k = m 49 k) (e4 : m2 50 k = m 50 k) (e5 : ∀ i, i < 40 → m2 51 (40 * k + i) = m 51 (40 * k + i)) : CS m2 k := by
  rw [CS, e1, e2, e3, e4]
  rcases h with h | ⟨ln, cn, h1, h2, h3, h4, h5, h6, h7⟩
  · exact Or.inl h
  · exact Or.inr ⟨ln, cn, h1, h2, h3, h4, h5, h6, fun i hi => by rw [e5 i (by omega)]; exact h7 i hi⟩
theorem C6.fr {m m2 : Mem} (h : C6 m) (e1 : ∀ k, 31 ≤ k → k ≤ 38 → m2 k = m k) (e3 : m2 49 = m 49) (e4 : m2 50 = m 50) (e5 : m2 51 = m 51) : C6 m2 := fun k hk => (h k hk).fr (e1 _ (by omega) (by omega)) (e1 _ (by omega) (by omega)) (by rw [e3]) (by rw [e4]) (fun i _ => by rw [e5])
theorem C7.fr {m m2 : Mem} (h : C7 m) (e1 : m2 40 14 = m 40 14) (e2 : m2 44 = m 44) (e3 : m2 45 = m 45) : C7 m2 := by
  rw [C7, e1, e2, e3]; exact h
/-- the class has changed no more than what it tries on -/
def QC (m m2 : Mem) : Prop := ∀ k, ¬ (6 ≤ k ∧ k ≤ 10) → k ≠ 30 → k ≠ 39 → m2 k = m k
/-- so has the model -/
def QM (m m2 : Mem) : Prop := (∀ k, k ≠ 40 → k ≠ 41 → k ≠ 47 → m2 k = m k) ∧ (∀ j, j < 69 → m2 41 j = m 41 j) ∧ ∀ j, j ≠ 15 → j ≠ 16 → j ≠ 17 → m2 40 j = m 40 j
theorem QC.rf {m : Mem} : QC m m := fun _ _ _ _ => rfl
theorem QM.rf {m : Mem} : QM m m := ⟨fun _ _ _ _ => rfl, fun _ _ => rfl, fun _ _ _ _ => rfl⟩
theorem QC.tr {a b c : Mem} (h : QC a b) (h2 : QC b c) : QC a c := fun k h3 h4 h5 => (h2 k h3 h4 h5).trans (h k h3 h4 h5)
theorem QM.tr {a b c : Mem} (h : QM a b) (h2 : QM b c) : QM a c := ⟨fun k h3 h4 h5 => (h2.1 k h3 h4 h5).trans (h.1 k h3 h4 h5), fun j hj => (h2.2.1 j hj).trans (h.2.1 j hj), fun j h3 h4 h5 => (h2.2.2 j h3 h4 h5).trans (h.2.2 j h3 h4 h5)⟩
theorem FrB.qc {a b : Mem} (h : FrB 6 a b) : QC a b := fun k h1 _ _ => h k (by omega)
theorem FrM.qm {P : Nat} {a b : Mem} (h : FrM P a b) (hP : 69 ≤ P) : QM a b := ⟨fun k _ h2 _ => h.1 k h2, fun j hj => h.2 j (by omega), fun j _ _ _ => by rw [h.1 40 (by decide)]⟩
theorem C1.qc {m m2 : Mem} {X : Bm} (h : C1 m X) (q : QC m m2) : C1 m2 X := h.fr (fun k h1 h2 => q k (by omega) (by omega) (by omega)) (fun j _ => by rw [q 41 (by omega) (by omega) (by omega)])
theorem C1.qm {m m2 : Mem} {X : Bm} (h : C1 m X) (q : QM m m2) : C1 m2 X := h.fr (fun k h1 h2 => q.1 k (by omega) (by omega) (by omega)) (fun j hj => q.2.1 j (by omega))
theorem C5.qc {m m2 : Mem} {S : Se} (h : C5 m S) (q : QC m m2) : C5 m2 S := h.fr (by rw [q 25 (by omega) (by omega) (by omega)]) (by rw [q 40 (by omega) (by omega) (by omega)]) (q 26 (by omega) (by omega) (by omega)) (q 27 (by omega) (by omega) (by omega)) (q 28 (by omega) (by omega) (by omega)) (q 46 (by omega) (by omega) (by omega))
theorem C5.qm {m m2 : Mem} {S : Se} (h : C5 m S) (q : QM m m2) : C5 m2 S := h.fr (by rw [q.1 25 (by omega) (by omega) (by omega)]) (q.2.2 19 (by omega) (by omega) (by omega)) (q.1 26 (by omega) (by omega) (by omega)) (q.1 27 (by omega) (by omega) (by omega)) (q.1 28 (by omega) (by omega) (by omega)) (q.1 46 (by omega) (by omega) (by omega))
theorem C7.qc {m m2 : Mem} (h : C7 m) (q : QC m m2) : C7 m2 := h.fr (by rw [q 40 (by omega) (by omega) (by omega)]) (q 44 (by omega) (by omega) (by omega)) (q 45 (by omega) (by omega) (by omega))
theorem C7.qm {m m2 : Mem} (h : C7 m) (q : QM m m2) : C7 m2 := h.fr (q.2.2 14 (by omega) (by omega) (by omega)) (q.1 44 (by omega) (by omega) (by omega)) (q.1 45 (by omega) (by omega) (by omega))
theorem Inv.qc {m m2 : Mem} (h : Inv m) (q : QC m m2) : Inv m2 := by
  obtain ⟨X, T, S, h1, h2, h3, h4, h5, h6, h7⟩ := h
  have e : ∀ k, ¬ (6 ≤ k ∧ k ≤ 10) → k ≠ 30 → k ≠ 39 → m2 k = m k := q
  exact ⟨X, T, S, h1.qc q, h2.fr (fun k _ _ => e k (by omega) (by omega) (by omega)) (e 22 (by omega) (by omega) (by omega)) (e 48 (by omega) (by omega) (by omega)) (fun j _ _ => by rw [e 41 (by omega) (by omega) (by omega)]), h3.fr (by rw [e 23 (by omega) (by omega) (by omega)]) (by rw [e 40 (by omega) (by omega) (by omega)]) (e 24 (by omega) (by omega) (by omega)) (e 43 (by omega) (by omega) (by omega)), h4.fr (by rw [e 0 (by omega) (by omega) (by omega)]) (by rw [e 0 (by omega) (by omega) (by omega)]) (by rw [e 40 (by omega) (by omega) (by omega)]) (by rw [e 40 (by omega) (by omega) (by omega)]), h5.qc q, h6.fr (fun k _ _ => e k (by omega) (by omega) (by omega)) (e 49 (by omega) (by omega) (by omega)) (e 50 (by omega) (by omega) (by omega)) (e 51 (by omega) (by omega) (by omega)), h7.qc q⟩
theorem Inv.qm {m m2 : Mem} (h : Inv m) (q : QM m m2) : Inv m2 := by
  obtain ⟨X, T, S, h1, h2, h3, h4, h5, h6, h7⟩ := h
  have e : ∀ k, k ≠ 40 → k ≠ 41 → k ≠ 47 → m2 k = m k := q.1
  exact ⟨X, T, S, h1.qm q, h2.fr (fun k _ _ => e k (by omega) (by omega) (by omega)) (e 22 (by omega) (by omega) (by omega)) (e 48 (by omega) (by omega) (by omega)) (fun j _ _ => q.2.1 j (by omega)), h3.fr (by rw [e 23 (by omega) (by omega) (by omega)]) (q.2.2 4 (by omega) (by omega) (by omega)) (e 24 (by omega) (by omega) (by omega)) (e 43 (by omega) (by omega) (by omega)), h4.fr (by rw [e 0 (by omega) (by omega) (by omega)]) (by rw [e 0 (by omega) (by omega) (by omega)]) (q.2.2 5 (by omega) (by omega) (by omega)) (q.2.2 25 (by omega) (by omega) (by omega)), h5.qm q, h6.fr (fun k _ _ => e k (by omega) (by omega) (by omega)) (e 49 (by omega) (by omega) (by omega)) (e 50 (by omega) (by omega) (by omega)) (e 51 (by omega) (by omega) (by omega)), h7.qm q⟩
/-- both answer alike and keep what they have in common -/
def Sm (G : GX) (M1 M2 : MI) (as : List Value) : Prop := ∀ mem : Mem, Inv mem → Cn G 9 M1 (.ref 0 :: as) mem (fun v m1 => Cn G 9 M2 (.ref 40 :: as) m1 (fun w m2 => w = v ∧ Inv m2))
theorem Sm_q {G : GX} {M1 M2 : MI} {as : List Value} (h : ∀ (mem : Mem) (X : Bm) (S : Se), C1 mem X → C5 mem S → C7 mem → ∃ F : Int32, Cn G 9 M1 (.ref 0 :: as) mem (Ri F (QC mem)) ∧ ∀ m1 : Mem, C1 m1 X → C5 m1 S → C7 m1 → Cn G 9 M2 (.ref 40 :: as) m1 (Ri F (QM m1))) : Sm G M1 M2 as := by
  intro mem hI
  obtain ⟨X, T, S, h1, h2, h3, h4, h5, h6, h7⟩ := id hI
  obtain ⟨F, k1, k2⟩ := h mem X S h1 h5 h7
  refine k1.imp (fun v m1 q => ?_)
  obtain ⟨rfl, q⟩ := q
  exact (k2 m1 (h1.qc q) (h5.qc q) (h7.qc q)).imp (fun w m2 q2 => ⟨q2.1, (hI.qc q).qm q2.2⟩)
theorem Sm_ql {G : GX} {M1 M2 : MI} {as : List Value} (h : ∀ (mem : Mem) (X : Bm) (S : Se), C1 mem X → C5 mem S → C7 mem → ∃ F : Int64, Cn G 9 M1 (.ref 0 :: as) mem (Rl F (QC mem)) ∧ ∀ m1 : Mem, C1 m1 X → C5 m1 S → C7 m1 → Cn G 9 M2 (.ref 40 :: as) m1 (Rl F (QM m1))) : Sm G M1 M2 as := by
  intro mem hI
  obtain ⟨X, T, S, h1, h2, h3, h4, h5, h6, h7⟩ := id hI
  obtain ⟨F, k1, k2⟩ := h mem X S h1 h5 h7
  refine k1.imp (fun v m1 q => ?_)
  obtain ⟨rfl, q⟩ := q
  exact (k2 m1 (h1.qc q) (h5.qc q) (h7.qc q)).imp (fun w m2 q2 => ⟨q2.1, (hI.qc q).qm q2.2⟩)
