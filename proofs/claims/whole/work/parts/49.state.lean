
/-! the reader's state in plain numbers: a FAULT, its place; without one, where the TOKEN begins -/
abbrev Rs : Type := Nat × Nat × Nat
def nx (T : Tp) (s : Rs) : Rs := if s.1 ≠ 0 then s else (if (tk0 T (rnT T 32 32 (tk0 T s.2.2).1)).2.2 = true then (1, rnT T 32 32 (tk0 T s.2.2).1, 0) else (0, 0, rnT T 32 32 (tk0 T s.2.2).1))
def rf (s : Rs) (w : Nat) : Rs := if s.1 ≠ 0 then s else (w, s.2.2, 0)
theorem tk0_bd {T : Tp} {q : Nat} (hq : q ≤ T.1) : q ≤ (tk0 T q).1 ∧ (tk0 T q).1 ≤ T.1 := by
  unfold tk0
  split
  · exact ⟨Nat.le_refl _, hq⟩
  · rename_i h
    split
    · exact ⟨Nat.le_succ _, by show q + 1 ≤ T.1; omega⟩
    · split
      · exact rnT_bd hq
      · exact rnT_bd hq
def RsC (T : Tp) (s : Rs) (m : Mem) : Prop := TpC m T ∧ s.1 ≤ 5 ∧ m 23 2 = nI s.1 ∧ (s.1 ≠ 0 → m 23 3 = nI s.2.1) ∧ (s.1 = 0 → m 23 7 = nI s.2.2 ∧ m 23 5 = nI (tk0 T s.2.2).1 ∧ m 23 6 = nI (tk0 T s.2.2).2.1 ∧ (tk0 T s.2.2).2.2 = false ∧ s.2.2 ≤ T.1)
def RsM (T : Tp) (s : Rs) (m : Mem) : Prop := TpM m T ∧ s.1 ≤ 5 ∧ m 40 6 = nI s.1 ∧ (s.1 ≠ 0 → m 40 7 = nI s.2.1) ∧ (s.1 = 0 → m 40 9 = nI s.2.2 ∧ m 40 8 = nI (tk0 T s.2.2).1 ∧ m 40 10 = nI (tk0 T s.2.2).2.1 ∧ ((tk0 T s.2.2).2.1 = 2 → m 40 11 = nI (nmF T.2 s.2.2 ((tk0 T s.2.2).1 - s.2.2))) ∧ (tk0 T s.2.2).2.2 = false ∧ s.2.2 ≤ T.1)
def FrC (m m2 : Mem) : Prop := (∀ k, k ≠ 23 → m2 k = m k) ∧ ∀ j, j ≠ 2 → j ≠ 3 → j ≠ 5 → j ≠ 6 → j ≠ 7 → m2 23 j = m 23 j
theorem FrC.rf {m : Mem} : FrC m m := ⟨fun _ _ => rfl, fun _ _ _ _ _ _ => rfl⟩
theorem FrC.tr {a b c : Mem} (h : FrC a b) (g : FrC b c) : FrC a c := ⟨fun k hk => (g.1 k hk).trans (h.1 k hk), fun j a b c d e => (g.2 j a b c d e).trans (h.2 j a b c d e)⟩
theorem FrK.tr {a b c : Mem} (h : FrK a b) (g : FrK b c) : FrK a c := ⟨fun k hk => (g.1 k hk).trans (h.1 k hk), fun j hj => (g.2 j hj).trans (h.2 j hj)⟩
theorem nI05 {n : Nat} (h : n ≤ 5) : (nI n = 0 ↔ n = 0) ∧ (nI n ≤ 0 ↔ n = 0) := by
  rcases (show n = 0 ∨ n = 1 ∨ n = 2 ∨ n = 3 ∨ n = 4 ∨ n = 5 by omega) with rfl | rfl | rfl | rfl | rfl | rfl <;> decide
theorem kX2_nx {G : GX} (d : Nat) {mem : Mem} (T : Tp) (s : Rs) (h : RsC T s mem) : Cn G (d + 1) mX2_nextToken [.ref 23] mem (Rv (fun m2 => RsC T (nx T s) m2 ∧ FrC mem m2)) := by
  obtain ⟨hT, h5, h2, h3, h4⟩ := id h
  by_cases q : s.1 = 0
  · obtain ⟨g7, g5, g6, gb, gq⟩ := h4 q
    have bd := tk0_bd gq
    have bd2 := rnT_bd (lo := 32) (hi := 32) bd.2
    refine (kX2_nextToken d T _ hT bd.2 ⟨by rw [h2, q]; rfl, g5⟩).imp (fun v m2 z => ⟨z.1, ?_, z.2.1, z.2.2.1⟩)
    obtain ⟨_, n1, n2, n7, n6, n5, nf, np⟩ := z
    unfold nx
    rw [if_neg (by omega)]
    by_cases b : (tk0 T (rnT T 32 32 (tk0 T s.2.2).1)).2.2 = true
    · rw [if_pos b] at nf ⊢
      exact ⟨hT.fr (n2 1 (by decide) (by decide) (by decide) (by decide) (by decide)) (n1 24 (by decide)), by omega, nf, fun _ => np b, fun z => absurd (show (1 : Nat) = 0 from z) (by decide)⟩
    · rw [if_neg b] at nf ⊢
      exact ⟨hT.fr (n2 1 (by decide) (by decide) (by decide) (by decide) (by decide)) (n1 24 (by decide)), by omega, nf, fun z => absurd rfl z, fun _ => ⟨n7, n5, n6, Bool.eq_false_iff.mpr b, bd2.2⟩⟩
  · refine (kX2_nextTokenF d (by rw [h2]; exact fun z => q ((nI05 h5).1.mp z))).imp (fun v m2 z => ⟨z.1, ?_, ?_⟩)
    · rw [z.2]
      unfold nx
      rw [if_pos q]
      exact h
    · rw [z.2]; exact FrC.rf
theorem kX6_nx {G : GX} (d : Nat) {mem : Mem} (T : Tp) (s : Rs) (h : RsM T s mem) : Cn G (d + 1) mX6_step [.ref 40] mem (Rv (fun m2 => RsM T (nx T s) m2 ∧ FrK mem m2)) := by
  obtain ⟨hT, h5, h2, h3, h4⟩ := id h
  by_cases q : s.1 = 0
  · obtain ⟨g9, g8, g10, g11, gb, gq⟩ := h4 q
    have bd := tk0_bd gq
    have bd2 := rnT_bd (lo := 32) (hi := 32) bd.2
    refine (kX6_step d T _ hT bd.2 ⟨by rw [h2, q]; rfl, g8⟩).imp (fun v m2 z => ⟨z.1, ?_, z.2.1, z.2.2.1⟩)
    obtain ⟨_, n1, n2, nok, nbad⟩ := z
    unfold nx
    rw [if_neg (by omega)]
    by_cases b : (tk0 T (rnT T 32 32 (tk0 T s.2.2).1)).2.2 = true
    · rw [if_pos b]
      exact ⟨hT.fk ⟨n1, n2⟩, by omega, (nbad b).1, fun _ => (nbad b).2, fun z => absurd (show (1 : Nat) = 0 from z) (by decide)⟩
    · rw [if_neg b]
      obtain ⟨u1, u2, u3, u4, u5⟩ := nok (Bool.eq_false_iff.mpr b)
      exact ⟨hT.fk ⟨n1, n2⟩, by omega, u1, fun z => absurd rfl z, fun _ => ⟨u2, u3, u4, u5, Bool.eq_false_iff.mpr b, bd2.2⟩⟩
  · refine (kX6_stepF d (by rw [h2]; exact fun z => q ((nI05 h5).2.mp z))).imp (fun v m2 z => ⟨z.1, ?_, ?_⟩)
    · rw [z.2]
      unfold nx
      rw [if_pos q]
      exact h
    · rw [z.2]; exact FrK.rf
