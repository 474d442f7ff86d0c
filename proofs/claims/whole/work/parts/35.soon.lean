
def lsI (N : Nat) : Int32 := if N = 301 then 1000 else nI N
def BsOk (s : Bs) : Prop := s.2 ≤ 301 ∧ ∀ v, s.1 = some v → v < 1000 ∧ s.2 < 301
theorem bst_ok {P : Nat → Bool} {v : Nat} {s : Bs} (h : BsOk s) (hv : v < 1000) : BsOk (bst P v s) := by
  unfold bst
  cases hf : ftF P s.2 with
  | none => exact h
  | some t =>
    have ht := ftF_lt hf
    have := h.1
    exact ⟨by show t ≤ 301; omega, fun w e => by
      cases e
      exact ⟨hv, by show t < 301; omega⟩⟩
theorem bs_step {P : Nat → Bool} {v : Nat} {s : Bs} {y : Int32} (h : BsOk s) (hy : y = oM (ftF P 301)) : (lsI s.2 ≤ y ∧ bst P v s = s) ∨ (¬ lsI s.2 ≤ y ∧ y = lsI (bst P v s).2 ∧ nI v = optI (bst P v s).1) := by
  have h1 := h.1
  unfold bst
  rcases ftF_spec (P := P) (N := s.2) with ⟨e, hno⟩ | ⟨t, ht, e, ht2, hmin⟩
  · rw [e]
    refine Or.inl ⟨?_, rfl⟩
    rcases ftF_spec (P := P) (N := 301) with ⟨e2, _⟩ | ⟨t, ht, e2, ht2, _⟩
    · rw [hy, e2]
      unfold lsI
      split
      · exact Int32.le_refl _
      · exact (nle (b := 1000) (by omega) (by omega)).mpr (by omega)
    · rw [hy, e2]
      have hst : s.2 ≤ t := Nat.le_of_not_lt (fun z => hno t z ht2)
      unfold lsI
      rw [if_neg (by omega)]
      exact (nle (by omega) (by omega)).mpr hst
  · have e2 : ftF P 301 = some t := ftF_some ht2 hmin (by omega)
    rw [e, hy, e2]
    refine Or.inr ⟨fun z => ?_, ?_, rfl⟩
    · unfold lsI at z
      split at z
      · have := (nle (a := 1000) (by omega) (by omega)).mp z
        omega
      · have := (nle (by omega) (by omega)).mp z
        omega
    · show nI t = lsI t
      unfold lsI
      rw [if_neg (by omega)]
theorem bs_fin {s : Bs} {w : Int32} (h : BsOk s) : (optI s.1 = -4 → optI s.1 = bsA s w) ∧ (¬ optI s.1 = -4 → ((¬ w = 0 → lsI s.2 = bsA s w) ∧ (w = 0 → optI s.1 = bsA s w))) := by
  unfold bsA bsT
  obtain ⟨o, N⟩ := s
  cases o with
  | none => exact ⟨fun _ => by split <;> rfl, fun z => absurd rfl z⟩
  | some v =>
    obtain ⟨hv, hN⟩ := h.2 v rfl
    refine ⟨fun z => ?_, fun _ => ⟨fun q => ?_, fun q => by rw [if_pos q]⟩⟩
    · have hz : (0 : Int32) ≤ nI v := nI_pos' (by omega)
      rw [show nI v = -4 from z] at hz
      exact absurd hz (by decide)
    · rw [if_neg q]
      show lsI N = nI N
      unfold lsI
      rw [if_neg (by have : N < 301 := hN; omega)]

set_option maxRecDepth 100000 in
theorem sX6_soonestAt_0 {G : GX} {d : Nat} {mem : Mem} {Φ : Option Value → Mem → Prop} (a1 a2 a3 a4 a5 : Int32) (h : (0 = nI 0 ∧ 115 = nI 115) ∧ (0 ≤ 115 ∧ 115 ≤ 115 ∧ (0 + 23 ≤ 115 ∨ 115 + 23 ≤ 0)) ∧ Go G (d + 4) mX6_soonestAt 19 [(0, .ref 40), (1, .int a1), (3, .int a3), (4, .int a4), (5, .int a5), (6, .int 1000), (7, .int (-4)), (8, .int a2)] [] (cpM mem 0 115) Φ) : Go G (d + 4) mX6_soonestAt 0 [(0, .ref 40), (1, .int a1), (2, .int a2), (3, .int a3), (4, .int a4), (5, .int a5)] [] mem Φ := by
  refine go_sipush (v := 1000) dX6_soonestAt_0 (by decide) ?_
  refine go_istore (L2 := [(6, .int 1000), (0, .ref 40), (1, .int a1), (2, .int a2), (3, .int a3), (4, .int a4), (5, .int a5)]) dX6_soonestAt_3 (by decide) rfl ?_
  refine go_bipush (v := (-4)) dX6_soonestAt_5 (by decide) ?_
  refine go_istore (L2 := [(7, .int (-4)), (6, .int 1000), (0, .ref 40), (1, .int a1), (2, .int a2), (3, .int a3), (4, .int a4), (5, .int a5)]) dX6_soonestAt_7 (by decide) rfl ?_
  refine go_aload_n dX6_soonestAt_9 2 rfl ?_
  refine go_iconst (v := 0) dX6_soonestAt_10 (by decide) ?_
  refine go_bipush (v := 115) dX6_soonestAt_11 (by decide) ?_
  obtain ⟨c1, h⟩ := h
  obtain ⟨c2, h⟩ := h
  refine go_callV (st := []) (kX6_copiesI (d + 3) 0 115 0 115 c1 c2) rfl rfl okX6_copies insX6_copies selX6_copies lkX6_161 rfl rfl (Nat.le_of_ble_eq_true rfl) dX6_soonestAt_13 (fun v_ m2_ q => ?_)
  rw [q.1, q.2]
  refine go_stk (st2 := []) rfl ?_
  refine go_iload_n dX6_soonestAt_16 4 rfl ?_
  refine go_istore (L2 := [(8, .int a2), (7, .int (-4)), (6, .int 1000), (0, .ref 40), (1, .int a1), (2, .int a2), (3, .int a3), (4, .int a4), (5, .int a5)]) dX6_soonestAt_17 (by decide) rfl ?_
  exact Go.pick [3, 4, 6, 7, 8, 2, 1, 0] rfl h

set_option maxRecDepth 100000 in
theorem sX6_soonestAt_19 {G : GX} {d : Nat} {mem : Mem} {Φ : Option Value → Mem → Prop} (a1 a3 a4 a5 ls wh : Int32) (v : Nat) (C : Nat → Bm) (h : ((a3 < (nI v) → ((wh = (-4) → Φ (some (.int wh)) mem) ∧ (¬ wh = (-4) → ((¬ a5 = 0 → Φ (some (.int ls)) mem) ∧ (a5 = 0 → Φ (some (.int wh)) mem))))) ∧ (¬ a3 < (nI v) → (vp_in (115 + a1) 138) ∧ ∀ m2 : Mem, m2 = (um mem 41 ((115 + a1) : Int32).toNatClampNeg ((nI v) - a4)) → (115 = nI 115) ∧ (115 ≤ 115 ∧ (115 + 23 ≤ 92 ∨ 115 = 115)) ∧ (9 < 10 ∧ (9 = 9 ∨ 9 < xn (C v))) ∧ (VX 9 30 (C v)) ∧ (RepM m2 115 (C v)) ∧ (m2 40 14 = goI 9) ∧ ∀ m9 : Mem, FrM 92 m2 m9 → ∀ y10 : Int32, y10 = (oM (ftF (fun t => togX 9 (itX 9 nof (C v) t)) 301)) → ((ls ≤ y10 → ((ls ≤ y10 → Go G (d + 4) mX6_soonestAt 19 [(0, .ref 40), (1, .int a1), (3, .int a3), (4, .int a4), (5, .int a5), (6, .int ls), (7, .int wh), (8, .int ((nI v) + 1))] [] m9 Φ) ∧ (¬ ls ≤ y10 → Go G (d + 4) mX6_soonestAt 19 [(0, .ref 40), (1, .int a1), (3, .int a3), (4, .int a4), (5, .int a5), (6, .int y10), (7, .int wh), (8, .int ((nI v) + 1))] [] m9 Φ))) ∧ (¬ ls ≤ y10 → ((ls ≤ y10 → Go G (d + 4) mX6_soonestAt 19 [(0, .ref 40), (1, .int a1), (3, .int a3), (4, .int a4), (5, .int a5), (6, .int ls), (7, .int (nI v)), (8, .int ((nI v) + 1))] [] m9 Φ) ∧ (¬ ls ≤ y10 → Go G (d + 4) mX6_soonestAt 19 [(0, .ref 40), (1, .int a1), (3, .int a3), (4, .int a4), (5, .int a5), (6, .int y10), (7, .int (nI v)), (8, .int ((nI v) + 1))] [] m9 Φ))))))) : Go G (d + 4) mX6_soonestAt 19 [(0, .ref 40), (1, .int a1), (3, .int a3), (4, .int a4), (5, .int a5), (6, .int ls), (7, .int wh), (8, .int (nI v))] [] mem Φ := by
  refine go_iload dX6_soonestAt_19 7 rfl ?_
  refine go_iload_n dX6_soonestAt_21 2 rfl ?_
  refine go_icmp_gt 85 dX6_soonestAt_22 (by decide) (fun q => ?_) (fun q => ?_)
  · have h := h.1 q
    refine go_iload dX6_soonestAt_85 6 rfl ?_
    refine go_bipush (v := (-4)) dX6_soonestAt_87 (by decide) ?_
    refine go_icmp_eq 97 dX6_soonestAt_89 (by decide) (fun q => ?_) (fun q => ?_)
    · have h := h.1 q
      refine go_iload dX6_soonestAt_97 6 rfl ?_
      refine go_goto 104 dX6_soonestAt_99 (by decide) ?_
      exact go_iret rfl dX6_soonestAt_104 h
    · have h := h.2 q
      refine go_iload dX6_soonestAt_92 4 rfl ?_
      refine go_if_ne 102 dX6_soonestAt_94 (by decide) (fun q => ?_) (fun q => ?_)
      · have h := h.1 q
        refine go_iload dX6_soonestAt_102 5 rfl ?_
        exact go_iret rfl dX6_soonestAt_104 h
      · have h := h.2 q
        refine go_iload dX6_soonestAt_97 6 rfl ?_
        refine go_goto 104 dX6_soonestAt_99 (by decide) ?_
        exact go_iret rfl dX6_soonestAt_104 h
  · have h := h.2 q
    refine go_aload_n dX6_soonestAt_25 0 rfl ?_
    refine go_getR (kf := 0) (t := 41) rfl rfl rfl uwX6 (by decide) flX6_7 dX6_soonestAt_26 ?_
    refine go_bipush (v := 115) dX6_soonestAt_29 (by decide) ?_
    refine go_iload_n dX6_soonestAt_31 1 rfl ?_
    refine go_iadd dX6_soonestAt_32 ?_
    refine go_iload dX6_soonestAt_33 7 rfl ?_
    refine go_iload dX6_soonestAt_35 3 rfl ?_
    refine go_isub dX6_soonestAt_37 ?_
    obtain ⟨c1, h⟩ := h
    refine go_iastore rfl c1 dX6_soonestAt_38 ?_
    refine go_mem (fun m2 qm2 => ?_)
    have h := h m2 qm2
    refine go_aload_n dX6_soonestAt_39 0 rfl ?_
    refine go_bipush (v := 115) dX6_soonestAt_40 (by decide) ?_
    obtain ⟨c3, h⟩ := h
    obtain ⟨c4, h⟩ := h
    obtain ⟨c5, h⟩ := h
    obtain ⟨c6, h⟩ := h
    obtain ⟨c7, h⟩ := h
    obtain ⟨c8, h⟩ := h
    refine go_callV (st := []) (kX6_meetOnI (d + 0) 115 115 (C v) 9 c3 c4 c5 c6 c7 c8) rfl rfl okX6_meetOn insX6_meetOn selX6_meetOn lkX6_182 rfl rfl (Nat.le_of_ble_eq_true rfl) dX6_soonestAt_42 (fun v_ m9 q => ?_)
    rw [q.1]
    have h := h m9 q.2
    refine go_stk (st2 := [.int (oM (ftF (fun t => togX 9 (itX 9 nof (C v) t)) 301))]) rfl ?_
    refine go_topi (fun y10 qy10 => ?_)
    have h := h y10 qy10
    refine go_istore (L2 := [(9, .int y10), (0, .ref 40), (1, .int a1), (3, .int a3), (4, .int a4), (5, .int a5), (6, .int ls), (7, .int wh), (8, .int (nI v))]) dX6_soonestAt_45 (by decide) rfl ?_
    refine go_iload dX6_soonestAt_47 0 rfl ?_
    refine go_iload dX6_soonestAt_49 6 rfl ?_
    refine go_icmp_ge 59 dX6_soonestAt_51 (by decide) (fun q => ?_) (fun q => ?_)
    · have h := h.1 q
      refine go_iload dX6_soonestAt_59 7 rfl ?_
      refine go_istore (L2 := [(7, .int wh), (9, .int y10), (0, .ref 40), (1, .int a1), (3, .int a3), (4, .int a4), (5, .int a5), (6, .int ls), (8, .int (nI v))]) dX6_soonestAt_61 (by decide) rfl ?_
      refine go_iload dX6_soonestAt_63 1 rfl ?_
      refine go_iload dX6_soonestAt_65 7 rfl ?_
      refine go_icmp_ge 75 dX6_soonestAt_67 (by decide) (fun q => ?_) (fun q => ?_)
      · have h := h.1 q
        refine go_iload dX6_soonestAt_75 7 rfl ?_
        refine go_istore (L2 := [(6, .int ls), (7, .int wh), (9, .int y10), (0, .ref 40), (1, .int a1), (3, .int a3), (4, .int a4), (5, .int a5), (8, .int (nI v))]) dX6_soonestAt_77 (by decide) rfl ?_
        refine go_iinc (v := ((nI v) + 1)) (L2 := [(8, .int ((nI v) + 1)), (6, .int ls), (7, .int wh), (9, .int y10), (0, .ref 40), (1, .int a1), (3, .int a3), (4, .int a4), (5, .int a5)]) dX6_soonestAt_79 8 rfl rfl (by decide) rfl ?_
        refine go_goto 19 dX6_soonestAt_82 (by decide) ?_
        exact Go.pick [4, 5, 6, 7, 8, 1, 2, 0] rfl h
      · have h := h.2 q
        refine go_iload dX6_soonestAt_70 1 rfl ?_
        refine go_goto 77 dX6_soonestAt_72 (by decide) ?_
        refine go_istore (L2 := [(6, .int y10), (7, .int wh), (9, .int y10), (0, .ref 40), (1, .int a1), (3, .int a3), (4, .int a4), (5, .int a5), (8, .int (nI v))]) dX6_soonestAt_77 (by decide) rfl ?_
        refine go_iinc (v := ((nI v) + 1)) (L2 := [(8, .int ((nI v) + 1)), (6, .int y10), (7, .int wh), (9, .int y10), (0, .ref 40), (1, .int a1), (3, .int a3), (4, .int a4), (5, .int a5)]) dX6_soonestAt_79 8 rfl rfl (by decide) rfl ?_
        refine go_goto 19 dX6_soonestAt_82 (by decide) ?_
        exact Go.pick [4, 5, 6, 7, 8, 1, 2, 0] rfl h
    · have h := h.2 q
      refine go_iload dX6_soonestAt_54 8 rfl ?_
      refine go_goto 61 dX6_soonestAt_56 (by decide) ?_
      refine go_istore (L2 := [(7, .int (nI v)), (9, .int y10), (0, .ref 40), (1, .int a1), (3, .int a3), (4, .int a4), (5, .int a5), (6, .int ls), (8, .int (nI v))]) dX6_soonestAt_61 (by decide) rfl ?_
      refine go_iload dX6_soonestAt_63 1 rfl ?_
      refine go_iload dX6_soonestAt_65 7 rfl ?_
      refine go_icmp_ge 75 dX6_soonestAt_67 (by decide) (fun q => ?_) (fun q => ?_)
      · have h := h.1 q
        refine go_iload dX6_soonestAt_75 7 rfl ?_
        refine go_istore (L2 := [(6, .int ls), (7, .int (nI v)), (9, .int y10), (0, .ref 40), (1, .int a1), (3, .int a3), (4, .int a4), (5, .int a5), (8, .int (nI v))]) dX6_soonestAt_77 (by decide) rfl ?_
        refine go_iinc (v := ((nI v) + 1)) (L2 := [(8, .int ((nI v) + 1)), (6, .int ls), (7, .int (nI v)), (9, .int y10), (0, .ref 40), (1, .int a1), (3, .int a3), (4, .int a4), (5, .int a5)]) dX6_soonestAt_79 8 rfl rfl (by decide) rfl ?_
        refine go_goto 19 dX6_soonestAt_82 (by decide) ?_
        exact Go.pick [4, 5, 6, 7, 8, 1, 2, 0] rfl h
      · have h := h.2 q
        refine go_iload dX6_soonestAt_70 1 rfl ?_
        refine go_goto 77 dX6_soonestAt_72 (by decide) ?_
        refine go_istore (L2 := [(6, .int y10), (7, .int (nI v)), (9, .int y10), (0, .ref 40), (1, .int a1), (3, .int a3), (4, .int a4), (5, .int a5), (8, .int (nI v))]) dX6_soonestAt_77 (by decide) rfl ?_
        refine go_iinc (v := ((nI v) + 1)) (L2 := [(8, .int ((nI v) + 1)), (6, .int y10), (7, .int (nI v)), (9, .int y10), (0, .ref 40), (1, .int a1), (3, .int a3), (4, .int a4), (5, .int a5)]) dX6_soonestAt_79 8 rfl rfl (by decide) rfl ?_
        refine go_goto 19 dX6_soonestAt_82 (by decide) ?_
        exact Go.pick [4, 5, 6, 7, 8, 1, 2, 0] rfl h


theorem q115 {pl : Nat} (h : pl < 23) : ((115 : Int32) + nI pl).toNatClampNeg = 115 + pl ∧ vp_in ((115 : Int32) + nI pl) 138 := by
  rw [show ((115 : Int32) + nI pl) = nI (115 + pl) from by rw [show (115 : Int32) = nI 115 from rfl, nI_add]]
  exact ⟨ncl (by omega), nin (by omega) (by omega)⟩
theorem lX6_soonestAt {G : GX} {d : Nat} {mem0 : Mem} (pl hi : Nat) (le w : Int32) (C : Nat → Bm) (lo : Nat) (hb : pl < 23 ∧ hi < 1000 ∧ lo < hi) (hV : ∀ v, lo ≤ v → v < hi → VX 9 30 (C v)) (hst : ∀ (m : Mem) (v : Nat), lo ≤ v → v < hi → (∀ j, j < 23 → j ≠ pl → m 41 (115 + j) = mem0 41 j) → m 41 (115 + pl) = nI v - le → RepM m 115 (C v)) (hG : mem0 40 14 = goI 9) : ∀ (r v : Nat) (m : Mem) (s : Bs), v + r = hi → lo ≤ v → QM mem0 m → (∀ j, j ≠ 15 → j ≠ 16 → j ≠ 17 → m 40 j = mem0 40 j) → (∀ j, j < 23 → j ≠ pl → m 41 (115 + j) = mem0 41 j) → BsOk s → Go G (d + 4) mX6_soonestAt 19 [(0, .ref 40), (1, .int (nI pl)), (3, .int (nI hi - 1)), (4, .int le), (5, .int w), (6, .int (lsI s.2)), (7, .int (optI s.1)), (8, .int (nI v))] [] m (Ri (bsA (bsF (fun v t => togX 9 (itX 9 nof (C v) t)) r v s) w) (QM mem0)) := by
  intro r
  have eh : (nI hi - 1 : Int32) = nI (hi - 1) := nI_sub1 (by omega)
  rw [eh]
  induction r with
  | zero =>
    intro v m s hv hl h1 h14 h2 h3
    have f := bs_fin (w := w) h3
    refine sX6_soonestAt_19 (nI pl) (nI (hi - 1)) le w _ _ v C ⟨fun _ => ⟨fun z => Ri.mk (f.1 z) h1, fun z => ⟨fun y => Ri.mk ((f.2 z).1 y) h1, fun y => Ri.mk ((f.2 z).2 y) h1⟩⟩, fun z => absurd ((nlt (by omega) (by omega)).mpr (by omega)) z⟩
  | succ r ih =>
    intro v m s hv hl h1 h14 h2 h3
    obtain ⟨qe, qv⟩ := q115 hb.1
    refine sX6_soonestAt_19 (nI pl) (nI (hi - 1)) le w _ _ v C ⟨fun z => absurd ((nlt (by omega) (by omega)).mp z) (by omega), fun _ => ⟨qv, ?_⟩⟩
    rw [qe, nI_1]
    intro m2 e2
    have k2 : ∀ j, j < 23 → j ≠ pl → m2 41 (115 + j) = mem0 41 j := fun j a b => by rw [e2, um_at, if_neg (by omega)]; exact h2 j a b
    have k40 : m2 40 = m 40 := by rw [e2, um_ne (by decide)]
    have Q2 : QM mem0 m2 := ⟨fun k a b c => by rw [e2, um_ne b, h1.1 k a b c], fun j hj => by rw [e2, um_at, if_neg (by omega)]; exact h1.2.1 j hj, fun j a b c => by rw [k40]; exact h1.2.2 j a b c⟩
    refine ⟨rfl, ⟨by omega, Or.inr rfl⟩, ⟨by omega, Or.inl rfl⟩, hV v hl (by omega), hst m2 v hl (by omega) k2 (by rw [e2, um_same]), by rw [k40, h14 14 (by omega) (by omega) (by omega)]; exact hG, fun m9 h9 y ey => ?_⟩
    have Q9 : QM mem0 m9 := Q2.tr (h9.qm (by omega))
    have i9 := ih (v + 1) m9 (bst (fun t => togX 9 (itX 9 nof (C v) t)) v s) (by omega) (by omega) Q9 (fun j a b c => by rw [h9.1 40 (by decide), k40, h14 j a b c]) (fun j a b => by rw [h9.2 (115 + j) (by omega)]; exact k2 j a b) (bst_ok h3 (by omega))
    rcases bs_step (v := v) h3 ey with ⟨q, e⟩ | ⟨q, e, e'⟩
    · rw [show bsF (fun v t => togX 9 (itX 9 nof (C v) t)) (r + 1) v s = bsF (fun v t => togX 9 (itX 9 nof (C v) t)) r (v + 1) (bst (fun t => togX 9 (itX 9 nof (C v) t)) v s) from rfl]
      rw [e] at i9 ⊢
      exact ⟨fun _ => ⟨fun _ => i9, fun z => absurd q z⟩, fun z => absurd q z⟩
    · rw [← e, ← e'] at i9
      exact ⟨fun z => absurd z q, fun _ => ⟨fun z => absurd z q, fun _ => i9⟩⟩
theorem cpM_at {m : Mem} {j : Nat} (hj : j < 23) : cpM m 0 115 41 (115 + j) = m 41 j := by
  unfold cpM
  rw [um0_self, pk_cpy_in (by omega) (by omega)]
  congr 1
  omega
theorem kX6_soonestAt {G : GX} (d : Nat) {mem : Mem} (a1 a2 a3 le w : Int32) (pl lo hi : Nat) (C : Nat → Bm) (e : a1 = nI pl ∧ a2 = nI lo ∧ a3 = nI hi - 1) (hb : pl < 23 ∧ hi < 1000 ∧ lo < hi) (hV : ∀ v, lo ≤ v → v < hi → VX 9 30 (C v)) (hst : ∀ (m : Mem) (v : Nat), lo ≤ v → v < hi → (∀ j, j < 23 → j ≠ pl → m 41 (115 + j) = mem 41 j) → m 41 (115 + pl) = nI v - le → RepM m 115 (C v)) (hG : mem 40 14 = goI 9) : Cn G (d + 4) mX6_soonestAt [.ref 40, .int a1, .int a2, .int a3, .int le, .int w] mem (Ri (bsA (bsF (fun v t => togX 9 (itX 9 nof (C v) t)) (hi - lo) lo (none, 301)) w) (QM mem)) := by
  rw [e.1, e.2.1, e.2.2]
  refine cn_of (by decide +kernel) (Nat.le_of_ble_eq_true rfl) (sX6_soonestAt_0 _ _ _ _ _ ⟨⟨rfl, rfl⟩, ⟨by omega, by omega, by omega⟩, ?_⟩)
  refine lX6_soonestAt pl hi le w C lo hb hV hst hG (hi - lo) lo _ (none, 301) (by omega) (by omega) (cpM_fr.qm (by omega)) (fun j _ _ _ => by rw [cpM_fr.1 40 (by decide)]) (fun j hj _ => ?_) ⟨Nat.le_refl _, fun v z => by cases z⟩
  exact cpM_at hj

set_option maxRecDepth 100000 in
theorem sX6_periodOn_0 {G : GX} {d : Nat} {mem : Mem} {Φ : Option Value → Mem → Prop} (a1 : Int32) (a2 : Int32) (a3 : Int32) (h : (vp_in ((a1 + 5) + a2) 138) ∧ ∀ m2 : Mem, m2 = (um mem 41 (((a1 + 5) + a2) : Int32).toNatClampNeg a3) → (vp_in ((a1 + 10) + a2) 138) ∧ (((m2 41 (((a1 + 10) + a2) : Int32).toNatClampNeg) < a3 → ∀ m4 : Mem, m4 = (um m2 41 (((a1 + 10) + a2) : Int32).toNatClampNeg (m2 41 (((a1 + 10) + a2) : Int32).toNatClampNeg)) → Φ none m4) ∧ (¬ (m2 41 (((a1 + 10) + a2) : Int32).toNatClampNeg) < a3 → ∀ m5 : Mem, m5 = (um m2 41 (((a1 + 10) + a2) : Int32).toNatClampNeg (a3 - 1)) → Φ none m5))) : Go G (d + 0) mX6_periodOn 0 [(0, .ref 40), (1, .int a1), (2, .int a2), (3, .int a3)] [] mem Φ := by
  refine go_aload_n dX6_periodOn_0 0 rfl ?_
  refine go_getR (kf := 0) (t := 41) rfl rfl rfl uwX6 (by decide) flX6_7 dX6_periodOn_1 ?_
  refine go_iload_n dX6_periodOn_4 1 rfl ?_
  refine go_iconst (v := 5) dX6_periodOn_5 (by decide) ?_
  refine go_iadd dX6_periodOn_6 ?_
  refine go_iload_n dX6_periodOn_7 2 rfl ?_
  refine go_iadd dX6_periodOn_8 ?_
  refine go_iload_n dX6_periodOn_9 3 rfl ?_
  obtain ⟨c1, h⟩ := h
  refine go_iastore rfl c1 dX6_periodOn_10 ?_
  refine go_mem (fun m2 qm2 => ?_)
  have h := h m2 qm2
  refine go_aload_n dX6_periodOn_11 0 rfl ?_
  refine go_getR (kf := 0) (t := 41) rfl rfl rfl uwX6 (by decide) flX6_7 dX6_periodOn_12 ?_
  refine go_iload_n dX6_periodOn_15 1 rfl ?_
  refine go_bipush (v := 10) dX6_periodOn_16 (by decide) ?_
  refine go_iadd dX6_periodOn_18 ?_
  refine go_iload_n dX6_periodOn_19 2 rfl ?_
  refine go_iadd dX6_periodOn_20 ?_
  refine go_aload_n dX6_periodOn_21 0 rfl ?_
  refine go_getR (kf := 0) (t := 41) rfl rfl rfl uwX6 (by decide) flX6_7 dX6_periodOn_22 ?_
  refine go_iload_n dX6_periodOn_25 1 rfl ?_
  refine go_bipush (v := 10) dX6_periodOn_26 (by decide) ?_
  refine go_iadd dX6_periodOn_28 ?_
  refine go_iload_n dX6_periodOn_29 2 rfl ?_
  refine go_iadd dX6_periodOn_30 ?_
  obtain ⟨c3, h⟩ := h
  refine go_iaload rfl c3 dX6_periodOn_31 ?_
  refine go_iload_n dX6_periodOn_32 3 rfl ?_
  refine go_icmp_lt 42 dX6_periodOn_33 (by decide) (fun q => ?_) (fun q => ?_)
  · have h := h.1 q
    refine go_aload_n dX6_periodOn_42 0 rfl ?_
    refine go_getR (kf := 0) (t := 41) rfl rfl rfl uwX6 (by decide) flX6_7 dX6_periodOn_43 ?_
    refine go_iload_n dX6_periodOn_46 1 rfl ?_
    refine go_bipush (v := 10) dX6_periodOn_47 (by decide) ?_
    refine go_iadd dX6_periodOn_49 ?_
    refine go_iload_n dX6_periodOn_50 2 rfl ?_
    refine go_iadd dX6_periodOn_51 ?_
    refine go_iaload rfl c3 dX6_periodOn_52 ?_
    refine go_iastore rfl c3 dX6_periodOn_53 ?_
    refine go_mem (fun m4 qm4 => ?_)
    have h := h m4 qm4
    exact go_vret rfl dX6_periodOn_54 h
  · have h := h.2 q
    refine go_iload_n dX6_periodOn_36 3 rfl ?_
    refine go_iconst (v := 1) dX6_periodOn_37 (by decide) ?_
    refine go_isub dX6_periodOn_38 ?_
    refine go_goto 53 dX6_periodOn_39 (by decide) ?_
    refine go_iastore rfl c3 dX6_periodOn_53 ?_
    refine go_mem (fun m5 qm5 => ?_)
    have h := h m5 qm5
    exact go_vret rfl dX6_periodOn_54 h


theorem kX6_periodOnI {G : GX} (d : Nat) {mem : Mem} (a1 a2 a3 : Int32) (P c v : Nat) (X : Bm) (e : a1 = nI P ∧ a2 = nI c ∧ a3 = nI v) (hP : P ≤ 115) (hh : VX 9 30 X ∧ c < xn X ∧ 2 ≤ v ∧ v ≤ 30) (hR : RepM mem P X) : Cn G (d + 0) mX6_periodOn [.ref 40, .int a1, .int a2, .int a3] mem (Rv (fun m2 => RepM m2 P (tpX X c v) ∧ FrM P mem m2)) := by
  obtain ⟨hV, hc, h2, h3⟩ := hh
  have hn := hV.1
  obtain ⟨q1, q2, q3, q4, _⟩ := hV.2.2 c hc
  have q4 := q4 (by omega)
  rw [e.1, e.2.1, e.2.2]
  obtain ⟨r1, r2, r3, r4⟩ := hR
  have e5 : ((nI P + 5 : Int32) + nI c) = nI (P + 5 + c) := by rw [show (5 : Int32) = nI 5 from rfl, nI_add, nI_add]
  have e10 : ((nI P + 10 : Int32) + nI c) = nI (P + 10 + c) := by rw [show (10 : Int32) = nI 10 from rfl, nI_add, nI_add]
  refine cn_of (by decide +kernel) (Nat.le_of_ble_eq_true rfl) (sX6_periodOn_0 _ _ _ ?_)
  rw [e5, e10, ncl (show P + 5 + c < 2000000000 by omega), ncl (show P + 10 + c < 2000000000 by omega)]
  refine ⟨nin (by omega) (by omega), fun m2 e2 => ⟨nin (by omega) (by omega), ?_⟩⟩
  have eh : m2 41 (P + 10 + c) = nI (xh X c) := by rw [e2, um_at, if_neg (by omega)]; exact (r4 c hc).2.2.1
  rw [eh, nI_sub1 (by omega)]
  have fin : ∀ m4 : Mem, m4 = um m2 41 (P + 10 + c) (nI (if v - 1 < xh X c then v - 1 else xh X c)) → RepM m4 P (tpX X c v) ∧ FrM P mem m4 := fun m4 e4 => by
    have at4 : ∀ j, m4 41 j = if j = P + 10 + c then nI (if v - 1 < xh X c then v - 1 else xh X c) else if j = P + 5 + c then nI v else mem 41 j := fun j => by rw [e4, um_at, e2, um_at]
    refine ⟨⟨?_, ?_, ?_, fun x hx => ⟨?_, ?_, ?_, ?_⟩⟩, fun k hk => by rw [e4, um_ne hk, e2, um_ne hk], fun j hj => by rw [at4, if_neg (by omega), if_neg (by omega)]⟩
    · rw [at4, if_neg (by omega), if_neg (by omega)]; exact r1
    · rw [at4, if_neg (by omega), if_neg (by omega)]; exact r2
    · rw [at4, if_neg (by omega), if_neg (by omega)]; exact r3
    · have hx' : x < xn X := hx
      rw [at4, if_neg (by omega), if_neg (by omega)]; exact (r4 x hx').1
    · have hx' : x < xn X := hx
      show _ = nI (upN (xp X) c v x)
      unfold upN
      rw [at4, if_neg (by omega)]
      by_cases z : x = c
      · rw [if_pos (by omega), if_pos z]
      · rw [if_neg (by omega), if_neg z]; exact (r4 x hx').2.1
    · have hx' : x < xn X := hx
      show _ = nI (upN (xh X) c _ x)
      unfold upN
      rw [at4]
      by_cases z : x = c
      · rw [if_pos (by omega), if_pos z]
      · rw [if_neg (by omega), if_neg (by omega), if_neg z]; exact (r4 x hx').2.2.1
    · have hx' : x < xn X := hx
      rw [at4, if_neg (by omega), if_neg (by omega)]; exact (r4 x hx').2.2.2
  refine ⟨fun q m4 e4 => ⟨rfl, fin m4 ?_⟩, fun q m4 e4 => ⟨rfl, fin m4 ?_⟩⟩
  · have := (nlt (by omega) (by omega)).mp q
    rw [e4, if_neg (by omega)]
  · have : ¬ xh X c < v := fun z => q ((nlt (by omega) (by omega)).mpr z)
    rw [e4]
    by_cases z : v - 1 < xh X c
    · rw [if_pos z]
    · omega

set_option maxRecDepth 100000 in
theorem sX6_period_0 {G : GX} {d : Nat} {mem : Mem} {Φ : Option Value → Mem → Prop} (a1 a2 : Int32) (h : ((¬ (0 ≤ a1 ∧ a1 ≤ ((mem 41 20) - 1)) → Φ (some (.int (-1))) mem) ∧ ((0 ≤ a1 ∧ a1 ≤ ((mem 41 20) - 1)) → (((0 ≤ a2 ∧ a2 ≤ 1) → Go G (d + 4) mX6_period 31 [(0, .ref 40), (1, .int a1), (2, .int a2), (3, .int 1000), (4, .int (-4)), (5, .int 2)] [] mem Φ) ∧ (¬ (0 ≤ a2 ∧ a2 ≤ 1) → Φ (some (.int (-1))) mem))))) : Go G (d + 4) mX6_period 0 [(0, .ref 40), (1, .int a1), (2, .int a2)] [] mem Φ := by
  refine go_aload_n dX6_period_0 0 rfl ?_
  refine go_iload_n dX6_period_1 1 rfl ?_
  refine go_callV (st := []) (kX6_isClock (d + 2) a1) rfl rfl okX6_isClock insX6_isClock selX6_isClock lkX6_137 rfl rfl (Nat.le_of_ble_eq_true rfl) dX6_period_2 (fun v_ m2_ q => ?_)
  rw [q.1, q.2]
  refine go_stk (st2 := [.int (bI (0 ≤ a1 ∧ a1 ≤ ((mem 41 20) - 1)))]) rfl ?_
  refine go_if_eq 18 dX6_period_5 (by decide) (fun q => ?_) (fun q => ?_)
  · have h := h.1 (bI0.mp q)
    refine go_iconst (v := (-1)) dX6_period_18 (by decide) ?_
    exact go_iret rfl dX6_period_19 h
  · have h := h.2 (bI1.mp q)
    refine go_iload_n dX6_period_8 2 rfl ?_
    refine go_i2l dX6_period_9 ?_
    refine go_lconst (v := 0) dX6_period_10 (by decide) ?_
    refine go_lconst (v := 1) dX6_period_11 (by decide) ?_
    refine go_callS (st := []) (kX6_in (d + 3) a2 0 1 0 1 (by decide) (by decide)) okX6_in staX6_in lkX6_50 rfl rfl (Nat.le_of_ble_eq_true rfl) dX6_period_12 (fun v_ m2_ q => ?_)
    rw [q.1, q.2]
    refine go_stk (st2 := [.int (bI (0 ≤ a2 ∧ a2 ≤ 1))]) rfl ?_
    refine go_if_ne 20 dX6_period_15 (by decide) (fun q => ?_) (fun q => ?_)
    · have h := h.1 (bI1.mp q)
      refine go_sipush (v := 1000) dX6_period_20 (by decide) ?_
      refine go_istore_n (L2 := [(3, .int 1000), (0, .ref 40), (1, .int a1), (2, .int a2)]) dX6_period_23 (by decide) rfl ?_
      refine go_bipush (v := (-4)) dX6_period_24 (by decide) ?_
      refine go_istore (L2 := [(4, .int (-4)), (3, .int 1000), (0, .ref 40), (1, .int a1), (2, .int a2)]) dX6_period_26 (by decide) rfl ?_
      refine go_iconst (v := 2) dX6_period_28 (by decide) ?_
      refine go_istore (L2 := [(5, .int 2), (4, .int (-4)), (3, .int 1000), (0, .ref 40), (1, .int a1), (2, .int a2)]) dX6_period_29 (by decide) rfl ?_
      exact Go.pick [3, 4, 5, 2, 1, 0] rfl h
    · have h := h.2 (bI0.mp q)
      refine go_iconst (v := (-1)) dX6_period_18 (by decide) ?_
      exact go_iret rfl dX6_period_19 h

set_option maxRecDepth 100000 in
theorem sX6_period_31 {G : GX} {d : Nat} {mem : Mem} {Φ : Option Value → Mem → Prop} (a1 a2 ls wh : Int32) (v c : Nat) (X : Bm) (h : ((30 < (nI v) → ((wh = (-4) → Φ (some (.int wh)) mem) ∧ (¬ wh = (-4) → ((¬ a2 = 0 → Φ (some (.int ls)) mem) ∧ (a2 = 0 → Φ (some (.int wh)) mem))))) ∧ (¬ 30 < (nI v) → (0 = nI 0 ∧ 115 = nI 115) ∧ (0 ≤ 115 ∧ 115 ≤ 115 ∧ (0 + 23 ≤ 115 ∨ 115 + 23 ≤ 0)) ∧ (115 = nI 115 ∧ a1 = nI c ∧ (nI v) = nI v) ∧ (115 ≤ 115) ∧ (VX 9 30 X ∧ c < xn X ∧ 2 ≤ v ∧ v ≤ 30) ∧ (RepM (cpM mem 0 115) 115 X) ∧ ∀ m7 : Mem, (RepM m7 115 (tpX X c v) ∧ FrM 115 (cpM mem 0 115) m7) → (115 = nI 115) ∧ (115 ≤ 115 ∧ (115 + 23 ≤ 92 ∨ 115 = 115)) ∧ (9 < 10 ∧ (9 = 9 ∨ 9 < xn (tpX X c v))) ∧ (VX 9 30 (tpX X c v)) ∧ (RepM m7 115 (tpX X c v)) ∧ (m7 40 14 = goI 9) ∧ ∀ m14 : Mem, FrM 92 m7 m14 → ∀ y15 : Int32, y15 = (oM (ftF (fun t => togX 9 (itX 9 nof (tpX X c v) t)) 301)) → ((ls ≤ y15 → ((ls ≤ y15 → Go G (d + 4) mX6_period 31 [(0, .ref 40), (1, .int a1), (2, .int a2), (3, .int ls), (4, .int wh), (5, .int ((nI v) + 1))] [] m14 Φ) ∧ (¬ ls ≤ y15 → Go G (d + 4) mX6_period 31 [(0, .ref 40), (1, .int a1), (2, .int a2), (3, .int y15), (4, .int wh), (5, .int ((nI v) + 1))] [] m14 Φ))) ∧ (¬ ls ≤ y15 → ((ls ≤ y15 → Go G (d + 4) mX6_period 31 [(0, .ref 40), (1, .int a1), (2, .int a2), (3, .int ls), (4, .int (nI v)), (5, .int ((nI v) + 1))] [] m14 Φ) ∧ (¬ ls ≤ y15 → Go G (d + 4) mX6_period 31 [(0, .ref 40), (1, .int a1), (2, .int a2), (3, .int y15), (4, .int (nI v)), (5, .int ((nI v) + 1))] [] m14 Φ))))))) : Go G (d + 4) mX6_period 31 [(0, .ref 40), (1, .int a1), (2, .int a2), (3, .int ls), (4, .int wh), (5, .int (nI v))] [] mem Φ := by
  refine go_iload dX6_period_31 5 rfl ?_
  refine go_bipush (v := 30) dX6_period_33 (by decide) ?_
  refine go_icmp_gt 96 dX6_period_35 (by decide) (fun q => ?_) (fun q => ?_)
  · have h := h.1 q
    refine go_iload dX6_period_96 4 rfl ?_
    refine go_bipush (v := (-4)) dX6_period_98 (by decide) ?_
    refine go_icmp_eq 107 dX6_period_100 (by decide) (fun q => ?_) (fun q => ?_)
    · have h := h.1 q
      refine go_iload dX6_period_107 4 rfl ?_
      refine go_goto 113 dX6_period_109 (by decide) ?_
      exact go_iret rfl dX6_period_113 h
    · have h := h.2 q
      refine go_iload_n dX6_period_103 2 rfl ?_
      refine go_if_ne 112 dX6_period_104 (by decide) (fun q => ?_) (fun q => ?_)
      · have h := h.1 q
        refine go_iload_n dX6_period_112 3 rfl ?_
        exact go_iret rfl dX6_period_113 h
      · have h := h.2 q
        refine go_iload dX6_period_107 4 rfl ?_
        refine go_goto 113 dX6_period_109 (by decide) ?_
        exact go_iret rfl dX6_period_113 h
  · have h := h.2 q
    refine go_aload_n dX6_period_38 0 rfl ?_
    refine go_iconst (v := 0) dX6_period_39 (by decide) ?_
    refine go_bipush (v := 115) dX6_period_40 (by decide) ?_
    obtain ⟨c1, h⟩ := h
    obtain ⟨c2, h⟩ := h
    refine go_callV (st := []) (kX6_copiesI (d + 3) 0 115 0 115 c1 c2) rfl rfl okX6_copies insX6_copies selX6_copies lkX6_161 rfl rfl (Nat.le_of_ble_eq_true rfl) dX6_period_42 (fun v_ m2_ q => ?_)
    rw [q.1, q.2]
    refine go_stk (st2 := []) rfl ?_
    refine go_aload_n dX6_period_45 0 rfl ?_
    refine go_bipush (v := 115) dX6_period_46 (by decide) ?_
    refine go_iload_n dX6_period_48 1 rfl ?_
    refine go_iload dX6_period_49 5 rfl ?_
    obtain ⟨c3, h⟩ := h
    obtain ⟨c4, h⟩ := h
    obtain ⟨c5, h⟩ := h
    obtain ⟨c6, h⟩ := h
    refine go_callV (st := []) (kX6_periodOnI (d + 3) 115 a1 (nI v) 115 c v X c3 c4 c5 c6) rfl rfl okX6_periodOn insX6_periodOn selX6_periodOn lkX6_185 rfl rfl (Nat.le_of_ble_eq_true rfl) dX6_period_51 (fun v_ m7 q => ?_)
    rw [q.1]
    have h := h m7 q.2
    refine go_stk (st2 := []) rfl ?_
    refine go_aload_n dX6_period_54 0 rfl ?_
    refine go_bipush (v := 115) dX6_period_55 (by decide) ?_
    obtain ⟨c8, h⟩ := h
    obtain ⟨c9, h⟩ := h
    obtain ⟨c10, h⟩ := h
    obtain ⟨c11, h⟩ := h
    obtain ⟨c12, h⟩ := h
    obtain ⟨c13, h⟩ := h
    refine go_callV (st := []) (kX6_meetOnI (d + 0) 115 115 (tpX X c v) 9 c8 c9 c10 c11 c12 c13) rfl rfl okX6_meetOn insX6_meetOn selX6_meetOn lkX6_182 rfl rfl (Nat.le_of_ble_eq_true rfl) dX6_period_57 (fun v_ m14 q => ?_)
    rw [q.1]
    have h := h m14 q.2
    refine go_stk (st2 := [.int (oM (ftF (fun t => togX 9 (itX 9 nof (tpX X c v) t)) 301))]) rfl ?_
    refine go_topi (fun y15 qy15 => ?_)
    have h := h y15 qy15
    refine go_istore (L2 := [(6, .int y15), (0, .ref 40), (1, .int a1), (2, .int a2), (3, .int ls), (4, .int wh), (5, .int (nI v))]) dX6_period_60 (by decide) rfl ?_
    refine go_iload dX6_period_62 0 rfl ?_
    refine go_iload_n dX6_period_64 4 rfl ?_
    refine go_icmp_ge 73 dX6_period_65 (by decide) (fun q => ?_) (fun q => ?_)
    · have h := h.1 q
      refine go_iload dX6_period_73 5 rfl ?_
      refine go_istore (L2 := [(4, .int wh), (6, .int y15), (0, .ref 40), (1, .int a1), (2, .int a2), (3, .int ls), (5, .int (nI v))]) dX6_period_75 (by decide) rfl ?_
      refine go_iload dX6_period_77 1 rfl ?_
      refine go_iload_n dX6_period_79 5 rfl ?_
      refine go_icmp_ge 88 dX6_period_80 (by decide) (fun q => ?_) (fun q => ?_)
      · have h := h.1 q
        refine go_iload_n dX6_period_88 5 rfl ?_
        refine go_istore_n (L2 := [(3, .int ls), (4, .int wh), (6, .int y15), (0, .ref 40), (1, .int a1), (2, .int a2), (5, .int (nI v))]) dX6_period_89 (by decide) rfl ?_
        refine go_iinc (v := ((nI v) + 1)) (L2 := [(5, .int ((nI v) + 1)), (3, .int ls), (4, .int wh), (6, .int y15), (0, .ref 40), (1, .int a1), (2, .int a2)]) dX6_period_90 6 rfl rfl (by decide) rfl ?_
        refine go_goto 31 dX6_period_93 (by decide) ?_
        exact Go.pick [4, 5, 6, 1, 2, 0] rfl h
      · have h := h.2 q
        refine go_iload dX6_period_83 1 rfl ?_
        refine go_goto 89 dX6_period_85 (by decide) ?_
        refine go_istore_n (L2 := [(3, .int y15), (4, .int wh), (6, .int y15), (0, .ref 40), (1, .int a1), (2, .int a2), (5, .int (nI v))]) dX6_period_89 (by decide) rfl ?_
        refine go_iinc (v := ((nI v) + 1)) (L2 := [(5, .int ((nI v) + 1)), (3, .int y15), (4, .int wh), (6, .int y15), (0, .ref 40), (1, .int a1), (2, .int a2)]) dX6_period_90 6 rfl rfl (by decide) rfl ?_
        refine go_goto 31 dX6_period_93 (by decide) ?_
        exact Go.pick [4, 5, 6, 1, 2, 0] rfl h
    · have h := h.2 q
      refine go_iload dX6_period_68 6 rfl ?_
      refine go_goto 75 dX6_period_70 (by decide) ?_
      refine go_istore (L2 := [(4, .int (nI v)), (6, .int y15), (0, .ref 40), (1, .int a1), (2, .int a2), (3, .int ls), (5, .int (nI v))]) dX6_period_75 (by decide) rfl ?_
      refine go_iload dX6_period_77 1 rfl ?_
      refine go_iload_n dX6_period_79 5 rfl ?_
      refine go_icmp_ge 88 dX6_period_80 (by decide) (fun q => ?_) (fun q => ?_)
      · have h := h.1 q
        refine go_iload_n dX6_period_88 5 rfl ?_
        refine go_istore_n (L2 := [(3, .int ls), (4, .int (nI v)), (6, .int y15), (0, .ref 40), (1, .int a1), (2, .int a2), (5, .int (nI v))]) dX6_period_89 (by decide) rfl ?_
        refine go_iinc (v := ((nI v) + 1)) (L2 := [(5, .int ((nI v) + 1)), (3, .int ls), (4, .int (nI v)), (6, .int y15), (0, .ref 40), (1, .int a1), (2, .int a2)]) dX6_period_90 6 rfl rfl (by decide) rfl ?_
        refine go_goto 31 dX6_period_93 (by decide) ?_
        exact Go.pick [4, 5, 6, 1, 2, 0] rfl h
      · have h := h.2 q
        refine go_iload dX6_period_83 1 rfl ?_
        refine go_goto 89 dX6_period_85 (by decide) ?_
        refine go_istore_n (L2 := [(3, .int y15), (4, .int (nI v)), (6, .int y15), (0, .ref 40), (1, .int a1), (2, .int a2), (5, .int (nI v))]) dX6_period_89 (by decide) rfl ?_
        refine go_iinc (v := ((nI v) + 1)) (L2 := [(5, .int ((nI v) + 1)), (3, .int y15), (4, .int (nI v)), (6, .int y15), (0, .ref 40), (1, .int a1), (2, .int a2)]) dX6_period_90 6 rfl rfl (by decide) rfl ?_
        refine go_goto 31 dX6_period_93 (by decide) ?_
        exact Go.pick [4, 5, 6, 1, 2, 0] rfl h

set_option maxRecDepth 100000 in
theorem sX6_hand_0 {G : GX} {d : Nat} {mem : Mem} {Φ : Option Value → Mem → Prop} (a1 a2 : Int32) (c : Nat) (X : Bm) (h : ((¬ (0 ≤ a1 ∧ a1 ≤ ((mem 41 20) - 1)) → Φ (some (.int (-1))) mem) ∧ ((0 ≤ a1 ∧ a1 ≤ ((mem 41 20) - 1)) → ((¬ (0 ≤ a2 ∧ a2 ≤ 1) → Φ (some (.int (-1))) mem) ∧ ((0 ≤ a2 ∧ a2 ≤ 1) → (vp_in (5 + a1) 138) ∧ ((10 + a1) = nI (10 + c) ∧ 0 = nI 0 ∧ ((mem 41 ((5 + a1) : Int32).toNatClampNeg) - 1) = nI (xp X c) - 1) ∧ ((10 + c) < 23 ∧ (xp X c) < 1000 ∧ 0 < (xp X c)) ∧ (∀ v, 0 ≤ v → v < (xp X c) → VX 9 30 ((stH X c) v)) ∧ (∀ (m : Mem) (v : Nat), 0 ≤ v → v < (xp X c) → (∀ j, j < 23 → j ≠ (10 + c) → m 41 (115 + j) = mem 41 j) → m 41 (115 + (10 + c)) = nI v - 0 → RepM m 115 ((stH X c) v)) ∧ (mem 40 14 = goI 9) ∧ ∀ m7 : Mem, QM mem m7 → Φ (some (.int (bsA (bsF (fun v t => togX 9 (itX 9 nof ((stH X c) v) t)) ((xp X c) - 0) 0 (none, 301)) a2))) m7))))) : Go G (d + 5) mX6_hand 0 [(0, .ref 40), (1, .int a1), (2, .int a2)] [] mem Φ := by
  refine go_aload_n dX6_hand_0 0 rfl ?_
  refine go_iload_n dX6_hand_1 1 rfl ?_
  refine go_callV (st := []) (kX6_isClock (d + 3) a1) rfl rfl okX6_isClock insX6_isClock selX6_isClock lkX6_137 rfl rfl (Nat.le_of_ble_eq_true rfl) dX6_hand_2 (fun v_ m2_ q => ?_)
  rw [q.1, q.2]
  refine go_stk (st2 := [.int (bI (0 ≤ a1 ∧ a1 ≤ ((mem 41 20) - 1)))]) rfl ?_
  refine go_if_eq 42 dX6_hand_5 (by decide) (fun q => ?_) (fun q => ?_)
  · have h := h.1 (bI0.mp q)
    refine go_iconst (v := (-1)) dX6_hand_42 (by decide) ?_
    exact go_iret rfl dX6_hand_43 h
  · have h := h.2 (bI1.mp q)
    refine go_iload_n dX6_hand_8 2 rfl ?_
    refine go_i2l dX6_hand_9 ?_
    refine go_lconst (v := 0) dX6_hand_10 (by decide) ?_
    refine go_lconst (v := 1) dX6_hand_11 (by decide) ?_
    refine go_callS (st := []) (kX6_in (d + 4) a2 0 1 0 1 (by decide) (by decide)) okX6_in staX6_in lkX6_50 rfl rfl (Nat.le_of_ble_eq_true rfl) dX6_hand_12 (fun v_ m2_ q => ?_)
    rw [q.1, q.2]
    refine go_stk (st2 := [.int (bI (0 ≤ a2 ∧ a2 ≤ 1))]) rfl ?_
    refine go_if_eq 42 dX6_hand_15 (by decide) (fun q => ?_) (fun q => ?_)
    · have h := h.1 (bI0.mp q)
      refine go_iconst (v := (-1)) dX6_hand_42 (by decide) ?_
      exact go_iret rfl dX6_hand_43 h
    · have h := h.2 (bI1.mp q)
      refine go_aload_n dX6_hand_18 0 rfl ?_
      refine go_bipush (v := 10) dX6_hand_19 (by decide) ?_
      refine go_iload_n dX6_hand_21 1 rfl ?_
      refine go_iadd dX6_hand_22 ?_
      refine go_iconst (v := 0) dX6_hand_23 (by decide) ?_
      refine go_aload_n dX6_hand_24 0 rfl ?_
      refine go_getR (kf := 0) (t := 41) rfl rfl rfl uwX6 (by decide) flX6_7 dX6_hand_25 ?_
      refine go_iconst (v := 5) dX6_hand_28 (by decide) ?_
      refine go_iload_n dX6_hand_29 1 rfl ?_
      refine go_iadd dX6_hand_30 ?_
      obtain ⟨c1, h⟩ := h
      refine go_iaload rfl c1 dX6_hand_31 ?_
      refine go_iconst (v := 1) dX6_hand_32 (by decide) ?_
      refine go_isub dX6_hand_33 ?_
      refine go_iconst (v := 0) dX6_hand_34 (by decide) ?_
      refine go_iload_n dX6_hand_35 2 rfl ?_
      obtain ⟨c2, h⟩ := h
      obtain ⟨c3, h⟩ := h
      obtain ⟨c4, h⟩ := h
      obtain ⟨c5, h⟩ := h
      obtain ⟨c6, h⟩ := h
      refine go_callV (st := []) (kX6_soonestAt (d + 0) (10 + a1) 0 ((mem 41 ((5 + a1) : Int32).toNatClampNeg) - 1) 0 a2 (10 + c) 0 (xp X c) (stH X c) c2 c3 c4 c5 c6) rfl rfl okX6_soonestAt insX6_soonestAt selX6_soonestAt lkX6_188 rfl rfl (Nat.le_of_ble_eq_true rfl) dX6_hand_36 (fun v_ m7 q => ?_)
      rw [q.1]
      have h := h m7 q.2
      refine go_stk (st2 := [.int (bsA (bsF (fun v t => togX 9 (itX 9 nof ((stH X c) v) t)) ((xp X c) - 0) 0 (none, 301)) a2)]) rfl ?_
      refine go_goto 43 dX6_hand_39 (by decide) ?_
      exact go_iret rfl dX6_hand_43 h

set_option maxRecDepth 100000 in
theorem sX6_kind_0 {G : GX} {d : Nat} {mem : Mem} {Φ : Option Value → Mem → Prop} (a1 a2 : Int32) (c : Nat) (X : Bm) (h : ((¬ (0 ≤ a1 ∧ a1 ≤ ((mem 41 20) - 1)) → Φ (some (.int (-1))) mem) ∧ ((0 ≤ a1 ∧ a1 ≤ ((mem 41 20) - 1)) → ((¬ (0 ≤ a2 ∧ a2 ≤ 1) → Φ (some (.int (-1))) mem) ∧ ((0 ≤ a2 ∧ a2 ≤ 1) → (a1 = nI c ∧ 0 = nI 0 ∧ 3 = nI 4 - 1) ∧ (c < 23 ∧ 4 < 1000 ∧ 0 < 4) ∧ (∀ v, 0 ≤ v → v < 4 → VX 9 30 ((stK X c) v)) ∧ (∀ (m : Mem) (v : Nat), 0 ≤ v → v < 4 → (∀ j, j < 23 → j ≠ c → m 41 (115 + j) = mem 41 j) → m 41 (115 + c) = nI v - 0 → RepM m 115 ((stK X c) v)) ∧ (mem 40 14 = goI 9) ∧ ∀ m6 : Mem, QM mem m6 → Φ (some (.int (bsA (bsF (fun v t => togX 9 (itX 9 nof ((stK X c) v) t)) (4 - 0) 0 (none, 301)) a2))) m6))))) : Go G (d + 5) mX6_kind 0 [(0, .ref 40), (1, .int a1), (2, .int a2)] [] mem Φ := by
  refine go_aload_n dX6_kind_0 0 rfl ?_
  refine go_iload_n dX6_kind_1 1 rfl ?_
  refine go_callV (st := []) (kX6_isClock (d + 3) a1) rfl rfl okX6_isClock insX6_isClock selX6_isClock lkX6_137 rfl rfl (Nat.le_of_ble_eq_true rfl) dX6_kind_2 (fun v_ m2_ q => ?_)
  rw [q.1, q.2]
  refine go_stk (st2 := [.int (bI (0 ≤ a1 ∧ a1 ≤ ((mem 41 20) - 1)))]) rfl ?_
  refine go_if_eq 30 dX6_kind_5 (by decide) (fun q => ?_) (fun q => ?_)
  · have h := h.1 (bI0.mp q)
    refine go_iconst (v := (-1)) dX6_kind_30 (by decide) ?_
    exact go_iret rfl dX6_kind_31 h
  · have h := h.2 (bI1.mp q)
    refine go_iload_n dX6_kind_8 2 rfl ?_
    refine go_i2l dX6_kind_9 ?_
    refine go_lconst (v := 0) dX6_kind_10 (by decide) ?_
    refine go_lconst (v := 1) dX6_kind_11 (by decide) ?_
    refine go_callS (st := []) (kX6_in (d + 4) a2 0 1 0 1 (by decide) (by decide)) okX6_in staX6_in lkX6_50 rfl rfl (Nat.le_of_ble_eq_true rfl) dX6_kind_12 (fun v_ m2_ q => ?_)
    rw [q.1, q.2]
    refine go_stk (st2 := [.int (bI (0 ≤ a2 ∧ a2 ≤ 1))]) rfl ?_
    refine go_if_eq 30 dX6_kind_15 (by decide) (fun q => ?_) (fun q => ?_)
    · have h := h.1 (bI0.mp q)
      refine go_iconst (v := (-1)) dX6_kind_30 (by decide) ?_
      exact go_iret rfl dX6_kind_31 h
    · have h := h.2 (bI1.mp q)
      refine go_aload_n dX6_kind_18 0 rfl ?_
      refine go_iload_n dX6_kind_19 1 rfl ?_
      refine go_iconst (v := 0) dX6_kind_20 (by decide) ?_
      refine go_iconst (v := 3) dX6_kind_21 (by decide) ?_
      refine go_iconst (v := 0) dX6_kind_22 (by decide) ?_
      refine go_iload_n dX6_kind_23 2 rfl ?_
      obtain ⟨c1, h⟩ := h
      obtain ⟨c2, h⟩ := h
      obtain ⟨c3, h⟩ := h
      obtain ⟨c4, h⟩ := h
      obtain ⟨c5, h⟩ := h
      refine go_callV (st := []) (kX6_soonestAt (d + 0) a1 0 3 0 a2 c 0 4 (stK X c) c1 c2 c3 c4 c5) rfl rfl okX6_soonestAt insX6_soonestAt selX6_soonestAt lkX6_188 rfl rfl (Nat.le_of_ble_eq_true rfl) dX6_kind_24 (fun v_ m6 q => ?_)
      rw [q.1]
      have h := h m6 q.2
      refine go_stk (st2 := [.int (bsA (bsF (fun v t => togX 9 (itX 9 nof ((stK X c) v) t)) (4 - 0) 0 (none, 301)) a2)]) rfl ?_
      refine go_goto 31 dX6_kind_27 (by decide) ?_
      exact go_iret rfl dX6_kind_31 h

set_option maxRecDepth 100000 in
theorem sX6_force_0 {G : GX} {d : Nat} {mem : Mem} {Φ : Option Value → Mem → Prop} (a1 : Int32) (X : Bm) (h : ((¬ (0 ≤ a1 ∧ a1 ≤ 1) → Φ (some (.int (-1))) mem) ∧ ((0 ≤ a1 ∧ a1 ≤ 1) → (21 = nI 21 ∧ 0 = nI 0 ∧ 5 = nI 6 - 1) ∧ (21 < 23 ∧ 6 < 1000 ∧ 0 < 6) ∧ (∀ v, 0 ≤ v → v < 6 → VX 9 30 ((stU X) v)) ∧ (∀ (m : Mem) (v : Nat), 0 ≤ v → v < 6 → (∀ j, j < 23 → j ≠ 21 → m 41 (115 + j) = mem 41 j) → m 41 (115 + 21) = nI v - 1 → RepM m 115 ((stU X) v)) ∧ (mem 40 14 = goI 9) ∧ ∀ m6 : Mem, QM mem m6 → Φ (some (.int (bsA (bsF (fun v t => togX 9 (itX 9 nof ((stU X) v) t)) (6 - 0) 0 (none, 301)) a1))) m6))) : Go G (d + 5) mX6_force 0 [(0, .ref 40), (1, .int a1)] [] mem Φ := by
  refine go_iload_n dX6_force_0 1 rfl ?_
  refine go_i2l dX6_force_1 ?_
  refine go_lconst (v := 0) dX6_force_2 (by decide) ?_
  refine go_lconst (v := 1) dX6_force_3 (by decide) ?_
  refine go_callS (st := []) (kX6_in (d + 4) a1 0 1 0 1 (by decide) (by decide)) okX6_in staX6_in lkX6_50 rfl rfl (Nat.le_of_ble_eq_true rfl) dX6_force_4 (fun v_ m2_ q => ?_)
  rw [q.1, q.2]
  refine go_stk (st2 := [.int (bI (0 ≤ a1 ∧ a1 ≤ 1))]) rfl ?_
  refine go_if_eq 23 dX6_force_7 (by decide) (fun q => ?_) (fun q => ?_)
  · have h := h.1 (bI0.mp q)
    refine go_iconst (v := (-1)) dX6_force_23 (by decide) ?_
    exact go_iret rfl dX6_force_24 h
  · have h := h.2 (bI1.mp q)
    refine go_aload_n dX6_force_10 0 rfl ?_
    refine go_bipush (v := 21) dX6_force_11 (by decide) ?_
    refine go_iconst (v := 0) dX6_force_13 (by decide) ?_
    refine go_iconst (v := 5) dX6_force_14 (by decide) ?_
    refine go_iconst (v := 1) dX6_force_15 (by decide) ?_
    refine go_iload_n dX6_force_16 1 rfl ?_
    obtain ⟨c1, h⟩ := h
    obtain ⟨c2, h⟩ := h
    obtain ⟨c3, h⟩ := h
    obtain ⟨c4, h⟩ := h
    obtain ⟨c5, h⟩ := h
    refine go_callV (st := []) (kX6_soonestAt (d + 0) 21 0 5 1 a1 21 0 6 (stU X) c1 c2 c3 c4 c5) rfl rfl okX6_soonestAt insX6_soonestAt selX6_soonestAt lkX6_188 rfl rfl (Nat.le_of_ble_eq_true rfl) dX6_force_17 (fun v_ m6 q => ?_)
    rw [q.1]
    have h := h m6 q.2
    refine go_stk (st2 := [.int (bsA (bsF (fun v t => togX 9 (itX 9 nof ((stU X) v) t)) (6 - 0) 0 (none, 301)) a1)]) rfl ?_
    refine go_goto 24 dX6_force_20 (by decide) ?_
    exact go_iret rfl dX6_force_24 h


theorem lX6_period {G : GX} {d : Nat} {mem0 : Mem} (w : Int32) (c : Nat) (X : Bm) (hV : VX 9 30 X) (hc : c < xn X) (hR : RepM mem0 0 X) (hG : mem0 40 14 = goI 9) : ∀ (r v : Nat) (m : Mem) (s : Bs), v + r = 31 → 2 ≤ v → QM mem0 m → BsOk s → Go G (d + 4) mX6_period 31 [(0, .ref 40), (1, .int (nI c)), (2, .int w), (3, .int (lsI s.2)), (4, .int (optI s.1)), (5, .int (nI v))] [] m (Ri (bsA (bsF (fun v t => togX 9 (itX 9 nof (tpX X c v) t)) r v s) w) (QM mem0)) := by
  intro r
  have hn := hV.1
  induction r with
  | zero =>
    intro v m s hv hl h1 h3
    have f := bs_fin (w := w) h3
    exact sX6_period_31 (nI c) w _ _ v c X ⟨fun _ => ⟨fun z => Ri.mk (f.1 z) h1, fun z => ⟨fun y => Ri.mk ((f.2 z).1 y) h1, fun y => Ri.mk ((f.2 z).2 y) h1⟩⟩, fun z => absurd ((nlt (a := 30) (by omega) (by omega)).mpr (by omega)) z⟩
  | succ r ih =>
    intro v m s hv hl h1 h3
    refine sX6_period_31 (nI c) w _ _ v c X ⟨fun z => absurd ((nlt (a := 30) (by omega) (by omega)).mp z) (by omega), fun _ => ⟨⟨rfl, rfl⟩, ⟨by omega, by omega, by omega⟩, ⟨rfl, rfl, rfl⟩, by omega, ⟨hV, hc, by omega, by omega⟩, cpM_rep hn (hR.fr hn (fun j _ _ => h1.2.1 j (by omega))), fun m7 h7 => ⟨rfl, ⟨by omega, Or.inr rfl⟩, ⟨by omega, Or.inl rfl⟩, VX_tp hV (by omega) (by omega) hc, h7.1, ?_, fun m14 h14 y ey => ?_⟩⟩⟩
    · rw [h7.2.1 40 (by decide), cpM_fr.1 40 (by decide), h1.2.2 14 (by omega) (by omega) (by omega)]; exact hG
    · rw [nI_1]
      have Q9 : QM mem0 m14 := ((h1.tr (cpM_fr.qm (by omega))).tr (h7.2.qm (by omega))).tr (h14.qm (by omega))
      have i9 := ih (v + 1) m14 (bst (fun t => togX 9 (itX 9 nof (tpX X c v) t)) v s) (by omega) (by omega) Q9 (bst_ok h3 (by omega))
      rcases bs_step (v := v) h3 ey with ⟨q, e⟩ | ⟨q, e, e'⟩
      · rw [show bsF (fun v t => togX 9 (itX 9 nof (tpX X c v) t)) (r + 1) v s = bsF (fun v t => togX 9 (itX 9 nof (tpX X c v) t)) r (v + 1) (bst (fun t => togX 9 (itX 9 nof (tpX X c v) t)) v s) from rfl]
        rw [e] at i9 ⊢
        exact ⟨fun _ => ⟨fun _ => i9, fun z => absurd q z⟩, fun z => absurd q z⟩
      · rw [← e, ← e'] at i9
        exact ⟨fun z => absurd z q, fun _ => ⟨fun z => absurd z q, fun _ => i9⟩⟩
theorem P17 {G : GX} (a w : Int32) : Sm G mX5_period mX6_period [.int a, .int w] := Sm_q (fun mem X S h1 h5 h7 => by
  have hn := h1.2.2.1.1
  by_cases q : isC X a ∧ (0 ≤ w ∧ w ≤ 1)
  · obtain ⟨c, hc, rfl⟩ := isC_n q.1 hn
    refine ⟨_, kX5_period 3 c w X h1 hc q.2, fun m1 g1 g5 g7 => ?_⟩
    refine cn_of (by decide +kernel) (Nat.le_of_ble_eq_true rfl) (sX6_period_0 (d := 5) (nI c) w ?_)
    rw [(RepM0 g1.2.1).1, isC_M hn]
    exact ⟨fun z => absurd q.1 z, fun _ => ⟨fun _ => lX6_period w c X g1.2.2.1 hc g1.2.1 g7.1 29 2 m1 (none, 301) (by omega) (by omega) QM.rf ⟨Nat.le_refl _, fun v z => by cases z⟩, fun z => absurd q.2 z⟩⟩
  · have q' : ¬ isC X a ∨ ¬ (0 ≤ w ∧ w ≤ 1) := Decidable.not_and_iff_or_not.mp q
    refine ⟨_, kX5_periodN 3 a w X h1 q', fun m1 g1 g5 g7 => ?_⟩
    refine cn_of (by decide +kernel) (Nat.le_of_ble_eq_true rfl) (sX6_period_0 (d := 5) a w ?_)
    rw [(RepM0 g1.2.1).1, isC_M hn]
    exact ⟨fun z => Ri.mk rfl QM.rf, fun z => ⟨fun z2 => absurd ⟨z, z2⟩ q, fun _ => Ri.mk rfl QM.rf⟩⟩)
theorem P18 {G : GX} (a w : Int32) : Sm G mX5_hand mX6_hand [.int a, .int w] := Sm_q (fun mem X S h1 h5 h7 => by
  have hn := h1.2.2.1.1
  by_cases q : isC X a ∧ (0 ≤ w ∧ w ≤ 1)
  · obtain ⟨c, hc, rfl⟩ := isC_n q.1 hn
    obtain ⟨b1, b2, b3, b4, _⟩ := h1.2.2.1.2.2 c hc
    refine ⟨_, kX5_hand 3 c w X h1 hc q.2, fun m1 g1 g5 g7 => ?_⟩
    obtain ⟨r1, r2, r3, r4⟩ := RepM0 g1.2.1
    refine cn_of (by decide +kernel) (Nat.le_of_ble_eq_true rfl) (sX6_hand_0 (d := 4) (nI c) w c X ?_)
    rw [r1, isC_M hn, show (5 + nI c : Int32) = nI (5 + c) from by rw [show (5 : Int32) = nI 5 from rfl, nI_add], show (10 + nI c : Int32) = nI (10 + c) from by rw [show (10 : Int32) = nI 10 from rfl, nI_add], ncl (show 5 + c < 2000000000 by omega), (r4 c hc).2.1]
    refine ⟨fun z => absurd q.1 z, fun _ => ⟨fun z => absurd q.2 z, fun _ => ⟨nin (by omega) (by omega), ⟨rfl, rfl, rfl⟩, ⟨by omega, by omega, by omega⟩, fun v _ hv => VX_h g1.2.2.1 (fun _ => hv), fun m v _ hv hj he => ?_, g7.1, fun m7 h7 => Ri.mk (by rw [Nat.sub_zero]) h7⟩⟩⟩
    refine ⟨?_, ?_, ?_, fun x hx => ⟨?_, ?_, ?_, ?_⟩⟩
    · rw [hj 20 (by omega) (by omega)]; exact r1
    · rw [hj 21 (by omega) (by omega)]; exact r2
    · rw [hj 22 (by omega) (by omega)]; exact r3
    · have hx' : x < xn X := hx
      rw [hj x (by omega) (by omega)]; exact (r4 x hx').1
    · have hx' : x < xn X := hx
      rw [show 115 + 5 + x = 115 + (5 + x) by omega, hj (5 + x) (by omega) (by omega)]; exact (r4 x hx').2.1
    · have hx' : x < xn X := hx
      show _ = nI (upN (xh X) c v x)
      unfold upN
      rw [show 115 + 10 + x = 115 + (10 + x) by omega]
      by_cases z : x = c
      · rw [if_pos z, z, he, Int32.sub_zero]
      · rw [if_neg z, hj (10 + x) (by omega) (by omega)]; exact (r4 x hx').2.2.1
    · have hx' : x < xn X := hx
      rw [show 115 + 15 + x = 115 + (15 + x) by omega, hj (15 + x) (by omega) (by omega)]; exact (r4 x hx').2.2.2
  · have q' : ¬ isC X a ∨ ¬ (0 ≤ w ∧ w ≤ 1) := Decidable.not_and_iff_or_not.mp q
    refine ⟨_, kX5_handN 3 a w X h1 q', fun m1 g1 g5 g7 => ?_⟩
    refine cn_of (by decide +kernel) (Nat.le_of_ble_eq_true rfl) (sX6_hand_0 (d := 4) a w 0 X ?_)
    rw [(RepM0 g1.2.1).1, isC_M hn]
    exact ⟨fun z => Ri.mk rfl QM.rf, fun z => ⟨fun _ => Ri.mk rfl QM.rf, fun z2 => absurd ⟨z, z2⟩ q⟩⟩)
theorem P19 {G : GX} (a w : Int32) : Sm G mX5_kind mX6_kind [.int a, .int w] := Sm_q (fun mem X S h1 h5 h7 => by
  have hn := h1.2.2.1.1
  by_cases q : isC X a ∧ (0 ≤ w ∧ w ≤ 1)
  · obtain ⟨c, hc, rfl⟩ := isC_n q.1 hn
    refine ⟨_, kX5_kind 3 c w X h1 hc q.2, fun m1 g1 g5 g7 => ?_⟩
    obtain ⟨r1, r2, r3, r4⟩ := RepM0 g1.2.1
    refine cn_of (by decide +kernel) (Nat.le_of_ble_eq_true rfl) (sX6_kind_0 (d := 4) (nI c) w c X ?_)
    rw [r1, isC_M hn]
    refine ⟨fun z => absurd q.1 z, fun _ => ⟨fun z => absurd q.2 z, fun _ => ⟨⟨rfl, rfl, rfl⟩, ⟨by omega, by omega, by omega⟩, fun v _ hv => VX_k g1.2.2.1 (by omega), fun m v _ hv hj he => ?_, g7.1, fun m7 h7 => Ri.mk rfl h7⟩⟩⟩
    refine ⟨?_, ?_, ?_, fun x hx => ⟨?_, ?_, ?_, ?_⟩⟩
    · rw [hj 20 (by omega) (by omega)]; exact r1
    · rw [hj 21 (by omega) (by omega)]; exact r2
    · rw [hj 22 (by omega) (by omega)]; exact r3
    · have hx' : x < xn X := hx
      show _ = nI (upN (xk X) c v x)
      unfold upN
      by_cases z : x = c
      · rw [if_pos z, z, he, Int32.sub_zero]
      · rw [if_neg z, hj x (by omega) (by omega)]; exact (r4 x hx').1
    · have hx' : x < xn X := hx
      rw [show 115 + 5 + x = 115 + (5 + x) by omega, hj (5 + x) (by omega) (by omega)]; exact (r4 x hx').2.1
    · have hx' : x < xn X := hx
      rw [show 115 + 10 + x = 115 + (10 + x) by omega, hj (10 + x) (by omega) (by omega)]; exact (r4 x hx').2.2.1
    · have hx' : x < xn X := hx
      rw [show 115 + 15 + x = 115 + (15 + x) by omega, hj (15 + x) (by omega) (by omega)]; exact (r4 x hx').2.2.2
  · have q' : ¬ isC X a ∨ ¬ (0 ≤ w ∧ w ≤ 1) := Decidable.not_and_iff_or_not.mp q
    refine ⟨_, kX5_kindN 3 a w X h1 q', fun m1 g1 g5 g7 => ?_⟩
    refine cn_of (by decide +kernel) (Nat.le_of_ble_eq_true rfl) (sX6_kind_0 (d := 4) a w 0 X ?_)
    rw [(RepM0 g1.2.1).1, isC_M hn]
    exact ⟨fun z => Ri.mk rfl QM.rf, fun z => ⟨fun _ => Ri.mk rfl QM.rf, fun z2 => absurd ⟨z, z2⟩ q⟩⟩)
theorem P20 {G : GX} (w : Int32) : Sm G mX5_force mX6_force [.int w] := Sm_q (fun mem X S h1 h5 h7 => by
  have hn := h1.2.2.1.1
  by_cases q : 0 ≤ w ∧ w ≤ 1
  · refine ⟨_, kX5_force 3 w X h1 q, fun m1 g1 g5 g7 => ?_⟩
    obtain ⟨r1, r2, r3, r4⟩ := RepM0 g1.2.1
    refine cn_of (by decide +kernel) (Nat.le_of_ble_eq_true rfl) (sX6_force_0 (d := 4) w X ⟨fun z => absurd q z, fun _ => ⟨⟨rfl, rfl, rfl⟩, ⟨by omega, by omega, by omega⟩, fun v _ hv => VX_stU g1.2.2.1 (by omega), fun m v _ hv hj he => ?_, g7.1, fun m7 h7 => Ri.mk rfl h7⟩⟩)
    refine ⟨?_, he, ?_, fun x hx => ⟨?_, ?_, ?_, ?_⟩⟩
    · rw [hj 20 (by omega) (by omega)]; exact r1
    · rw [hj 22 (by omega) (by omega)]; exact r3
    · have hx' : x < xn X := hx
      rw [hj x (by omega) (by omega)]; exact (r4 x hx').1
    · have hx' : x < xn X := hx
      rw [show 115 + 5 + x = 115 + (5 + x) by omega, hj (5 + x) (by omega) (by omega)]; exact (r4 x hx').2.1
    · have hx' : x < xn X := hx
      rw [show 115 + 10 + x = 115 + (10 + x) by omega, hj (10 + x) (by omega) (by omega)]; exact (r4 x hx').2.2.1
    · have hx' : x < xn X := hx
      rw [show 115 + 15 + x = 115 + (15 + x) by omega, hj (15 + x) (by omega) (by omega)]; exact (r4 x hx').2.2.2
  · refine ⟨_, kX5_forceN 3 w q, fun m1 g1 g5 g7 => ?_⟩
    exact cn_of (by decide +kernel) (Nat.le_of_ble_eq_true rfl) (sX6_force_0 (d := 4) w X ⟨fun _ => Ri.mk rfl QM.rf, fun z => absurd z q⟩))
