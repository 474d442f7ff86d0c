
def SeM (m : Mem) (S : Se) : Prop := S.1 ≤ 6 ∧ m 40 19 = nI S.1 ∧ ∀ i, i < S.1 → S.2.1 i ≤ 60 ∧ S.2.2.1 i ≤ 4 ∧ S.2.2.2 i ≤ 1 ∧ m 46 (3 * i) = nI (S.2.1 i) ∧ m 46 (3 * i + 1) = nI (S.2.2.1 i) ∧ m 46 (3 * i + 2) = nI (S.2.2.2 i)
theorem SeM.of {m : Mem} {S : Se} (h : C5 m S) : SeM m S := ⟨h.1, h.2.2.1, fun i hi => by
  obtain ⟨a, b, c, _, _, _, d, e, f⟩ := h.2.2.2 i hi
  exact ⟨a, b, c, d, e, f⟩⟩
theorem SeM.fr {m m2 : Mem} {S : Se} (h : SeM m S) (e1 : m2 40 19 = m 40 19) (e2 : m2 46 = m 46) : SeM m2 S := by
  unfold SeM
  rw [e1, e2]
  exact h
def FrS (r : Nat) (X : Bm) (m m2 : Mem) : Prop := (∀ k, k ≠ 41 → k ≠ 47 → m2 k = m k) ∧ (∀ j, (j < 92 ∨ 115 ≤ j) → m2 41 j = m 41 j) ∧ (∀ j, (j < 61 * r ∨ 61 * r + 61 ≤ j) → m2 47 j = m 47 j) ∧ ∀ t, t < 61 → m2 47 (61 * r + t) = nI (who 9 (itX 9 nof X t))
theorem FrS.qm {r : Nat} {X : Bm} {m m2 : Mem} (h : FrS r X m m2) : QM m m2 := ⟨fun k _ a b => h.1 k a b, fun j hj => h.2.1 j (by omega), fun j _ _ _ => by rw [h.1 40 (by decide) (by decide)]⟩
def okB (S : Se) (X : Bm) (t i : Nat) : Bool := decide (∀ j, j < S.1 → (S.2.1 j < t ∨ (S.2.1 j = t ∧ j < i)) → who 9 (itX 9 nof X (S.2.1 j)) / 2 ^ (S.2.2.1 j) % 2 = S.2.2.2 j)
theorem okB_s {S : Se} {X : Bm} {t i : Nat} (hi : i < S.1) : okB S X t (i + 1) = true ↔ okB S X t i = true ∧ (S.2.1 i = t → who 9 (itX 9 nof X t) / 2 ^ (S.2.2.1 i) % 2 = S.2.2.2 i) := by
  unfold okB
  rw [decide_eq_true_iff, decide_eq_true_iff]
  refine ⟨fun h => ⟨fun j hj hh => h j hj (by omega), fun e => ?_⟩, fun h j hj hh => ?_⟩
  · have := h i hi (Or.inr ⟨e, by omega⟩)
    rw [e] at this
    exact this
  · by_cases z : j = i
    · subst z
      rcases hh with hh | hh
      · exact h.1 j hj (Or.inl hh)
      · rw [hh.1]; exact h.2 hh.1
    · exact h.1 j hj (by omega)
theorem okB_n {S : Se} {X : Bm} {t : Nat} : okB S X t S.1 = okB S X (t + 1) 0 := by
  unfold okB
  congr 1
  refine propext ⟨fun h j hj hh => h j hj (by omega), fun h j hj hh => h j hj (by omega)⟩
theorem okB_0 {S : Se} {X : Bm} : okB S X 0 0 = true := by
  unfold okB
  exact decide_eq_true (fun j _ hh => by omega)
theorem okB_61 {S : Se} {X : Bm} (h : ∀ i, i < S.1 → S.2.1 i ≤ 60) : okB S X 61 0 = sF S X := by
  unfold okB sF
  congr 1
  refine propext ⟨fun z j hj => z j hj (Or.inl (by have := h j hj; omega)), fun z j hj _ => z j hj⟩

set_option maxRecDepth 100000 in
theorem sX6_isAsSeen_0 {G : GX} {d : Nat} {mem : Mem} {Φ : Option Value → Mem → Prop} (a1 a2 : Int32) (P : Nat) (h : (a1 = nI P ∧ 92 = nI 92) ∧ (P ≤ 115 ∧ 92 ≤ 115 ∧ (P + 23 ≤ 92 ∨ 92 + 23 ≤ P)) ∧ Go G (d + 3) mX6_isAsSeen 12 [(0, .ref 40), (2, .int a2), (3, .int 1), (4, .int 0)] [] (cpM mem P 92) Φ) : Go G (d + 3) mX6_isAsSeen 0 [(0, .ref 40), (1, .int a1), (2, .int a2)] [] mem Φ := by
  refine go_aload_n dX6_isAsSeen_0 0 rfl ?_
  refine go_iload_n dX6_isAsSeen_1 1 rfl ?_
  refine go_bipush (v := 92) dX6_isAsSeen_2 (by decide) ?_
  obtain ⟨c1, h⟩ := h
  obtain ⟨c2, h⟩ := h
  refine go_callV (st := []) (kX6_copiesI (d + 2) a1 92 P 92 c1 c2) rfl rfl okX6_copies insX6_copies selX6_copies lkX6_161 rfl rfl (Nat.le_of_ble_eq_true rfl) dX6_isAsSeen_4 (fun v_ m2_ q => ?_)
  rw [q.1, q.2]
  refine go_stk (st2 := []) rfl ?_
  refine go_iconst (v := 1) dX6_isAsSeen_7 (by decide) ?_
  refine go_istore_n (L2 := [(3, .int 1), (0, .ref 40), (1, .int a1), (2, .int a2)]) dX6_isAsSeen_8 (by decide) rfl ?_
  refine go_iconst (v := 0) dX6_isAsSeen_9 (by decide) ?_
  refine go_istore (L2 := [(4, .int 0), (3, .int 1), (0, .ref 40), (1, .int a1), (2, .int a2)]) dX6_isAsSeen_10 (by decide) rfl ?_
  exact Go.pick [2, 4, 1, 0] rfl h

set_option maxRecDepth 100000 in
theorem sX6_isAsSeen_12 {G : GX} {d : Nat} {mem : Mem} {Φ : Option Value → Mem → Prop} (a2 ok : Int32) (t : Nat) (X : Bm) (h : ((60 < (nI t) → (narrow .boolean (.int ok) = .int ok) ∧ Φ (some (.int ok)) mem) ∧ (¬ 60 < (nI t) → (92 = nI 92) ∧ (92 ≤ 115) ∧ (9 < 10 ∧ 30 ≤ 30 ∧ 30 < 900000) ∧ (VX 9 30 (itX 9 nof X t)) ∧ (RepM mem 92 (itX 9 nof X t)) ∧ (mem 40 14 = goI 9) ∧ ∀ m8 : Mem, (RepM m8 92 (tkX 9 false (itX 9 nof X t)) ∧ FrM 92 mem m8) → (vp_in ((61 * a2) + (nI t)) 1830) ∧ ∀ m10 : Mem, m10 = (um m8 47 (((61 * a2) + (nI t)) : Int32).toNatClampNeg (nI (who 9 (itX 9 nof X t)))) → Go G (d + 3) mX6_isAsSeen 45 [(0, .ref 40), (2, .int a2), (3, .int ok), (4, .int (nI t)), (5, .int (nI (who 9 (itX 9 nof X t)))), (6, .int 0)] [] m10 Φ))) : Go G (d + 3) mX6_isAsSeen 12 [(0, .ref 40), (2, .int a2), (3, .int ok), (4, .int (nI t))] [] mem Φ := by
  refine go_iload dX6_isAsSeen_12 3 rfl ?_
  refine go_bipush (v := 60) dX6_isAsSeen_14 (by decide) ?_
  refine go_icmp_gt 120 dX6_isAsSeen_16 (by decide) (fun q => ?_) (fun q => ?_)
  · have h := h.1 q
    refine go_iload_n dX6_isAsSeen_120 2 rfl ?_
    obtain ⟨c1, h⟩ := h
    exact go_zret (ty := .boolean) rfl c1 dX6_isAsSeen_121 h
  · have h := h.2 q
    refine go_aload_n dX6_isAsSeen_19 0 rfl ?_
    refine go_bipush (v := 92) dX6_isAsSeen_20 (by decide) ?_
    refine go_iconst (v := 0) dX6_isAsSeen_22 (by decide) ?_
    obtain ⟨c2, h⟩ := h
    obtain ⟨c3, h⟩ := h
    obtain ⟨c4, h⟩ := h
    obtain ⟨c5, h⟩ := h
    obtain ⟨c6, h⟩ := h
    obtain ⟨c7, h⟩ := h
    refine go_callV (st := []) (kX6_tickOnI (d + 0) 92 92 false (itX 9 nof X t) 9 30 c2 c3 c4 c5 c6 c7) rfl rfl okX6_tickOn insX6_tickOn selX6_tickOn lkX6_157 rfl rfl (Nat.le_of_ble_eq_true rfl) dX6_isAsSeen_23 (fun v_ m8 q => ?_)
    rw [q.1]
    have h := h m8 q.2
    refine go_stk (st2 := [.int (nI (who 9 (itX 9 nof X t)))]) rfl ?_
    refine go_istore (L2 := [(5, .int (nI (who 9 (itX 9 nof X t)))), (0, .ref 40), (2, .int a2), (3, .int ok), (4, .int (nI t))]) dX6_isAsSeen_26 (by decide) rfl ?_
    refine go_aload_n dX6_isAsSeen_28 1 rfl ?_
    refine go_getR (kf := 20) (t := 47) rfl rfl rfl uwX6 (by decide) flX6_32 dX6_isAsSeen_29 ?_
    refine go_bipush (v := 61) dX6_isAsSeen_32 (by decide) ?_
    refine go_iload_n dX6_isAsSeen_34 2 rfl ?_
    refine go_imul dX6_isAsSeen_35 ?_
    refine go_iload dX6_isAsSeen_36 4 rfl ?_
    refine go_iadd dX6_isAsSeen_38 ?_
    refine go_iload dX6_isAsSeen_39 0 rfl ?_
    obtain ⟨c9, h⟩ := h
    refine go_iastore rfl c9 dX6_isAsSeen_41 ?_
    refine go_mem (fun m10 qm10 => ?_)
    have h := h m10 qm10
    refine go_iconst (v := 0) dX6_isAsSeen_42 (by decide) ?_
    refine go_istore (L2 := [(6, .int 0), (5, .int (nI (who 9 (itX 9 nof X t)))), (0, .ref 40), (2, .int a2), (3, .int ok), (4, .int (nI t))]) dX6_isAsSeen_43 (by decide) rfl ?_
    exact Go.pick [2, 3, 4, 5, 1, 0] rfl h

set_option maxRecDepth 100000 in
theorem sX6_isAsSeen_45 {G : GX} {d : Nat} {mem : Mem} {Φ : Option Value → Mem → Prop} (a2 ok : Int32) (t : Nat) (w : Int32) (i : Nat) (h : (((mem 40 19) ≤ (nI i) → Go G (d + 3) mX6_isAsSeen 12 [(0, .ref 40), (2, .int a2), (3, .int ok), (4, .int ((nI t) + 1))] [] mem Φ) ∧ (¬ (mem 40 19) ≤ (nI i) → ((ok = 0 → Go G (d + 3) mX6_isAsSeen 45 [(0, .ref 40), (2, .int a2), (3, .int 0), (4, .int (nI t)), (5, .int w), (6, .int ((nI i) + 1))] [] mem Φ) ∧ (¬ ok = 0 → (vp_in (3 * (nI i)) 18) ∧ ((¬ (mem 46 ((3 * (nI i)) : Int32).toNatClampNeg) = (nI t) → Go G (d + 3) mX6_isAsSeen 45 [(0, .ref 40), (2, .int a2), (3, .int 1), (4, .int (nI t)), (5, .int w), (6, .int ((nI i) + 1))] [] mem Φ) ∧ ((mem 46 ((3 * (nI i)) : Int32).toNatClampNeg) = (nI t) → (vp_in ((3 * (nI i)) + 1) 18) ∧ (vp_in ((3 * (nI i)) + 2) 18) ∧ ((¬ ((w >>> ((mem 46 (((3 * (nI i)) + 1) : Int32).toNatClampNeg) &&& 31)) &&& 1) = (mem 46 (((3 * (nI i)) + 2) : Int32).toNatClampNeg) → Go G (d + 3) mX6_isAsSeen 45 [(0, .ref 40), (2, .int a2), (3, .int 0), (4, .int (nI t)), (5, .int w), (6, .int ((nI i) + 1))] [] mem Φ) ∧ (((w >>> ((mem 46 (((3 * (nI i)) + 1) : Int32).toNatClampNeg) &&& 31)) &&& 1) = (mem 46 (((3 * (nI i)) + 2) : Int32).toNatClampNeg) → Go G (d + 3) mX6_isAsSeen 45 [(0, .ref 40), (2, .int a2), (3, .int 1), (4, .int (nI t)), (5, .int w), (6, .int ((nI i) + 1))] [] mem Φ))))))))) : Go G (d + 3) mX6_isAsSeen 45 [(0, .ref 40), (2, .int a2), (3, .int ok), (4, .int (nI t)), (5, .int w), (6, .int (nI i))] [] mem Φ := by
  refine go_iload dX6_isAsSeen_45 5 rfl ?_
  refine go_aload_n dX6_isAsSeen_47 0 rfl ?_
  refine go_getI (kf := 19) rfl rfl rfl uwX6 (by decide) flX6_117 dX6_isAsSeen_48 ?_
  refine go_icmp_ge 114 dX6_isAsSeen_51 (by decide) (fun q => ?_) (fun q => ?_)
  · have h := h.1 q
    refine go_iinc (v := ((nI t) + 1)) (L2 := [(4, .int ((nI t) + 1)), (0, .ref 40), (2, .int a2), (3, .int ok), (5, .int w), (6, .int (nI i))]) dX6_isAsSeen_114 3 rfl rfl (by decide) rfl ?_
    refine go_goto 12 dX6_isAsSeen_117 (by decide) ?_
    exact Go.pick [1, 2, 3, 0] rfl h
  · have h := h.2 q
    refine go_iload_n dX6_isAsSeen_54 2 rfl ?_
    refine go_if_eq 106 dX6_isAsSeen_55 (by decide) (fun q => ?_) (fun q => ?_)
    · have h := h.1 q
      refine go_iconst (v := 0) dX6_isAsSeen_106 (by decide) ?_
      refine go_istore_n (L2 := [(3, .int 0), (0, .ref 40), (2, .int a2), (4, .int (nI t)), (5, .int w), (6, .int (nI i))]) dX6_isAsSeen_107 (by decide) rfl ?_
      refine go_iinc (v := ((nI i) + 1)) (L2 := [(6, .int ((nI i) + 1)), (3, .int 0), (0, .ref 40), (2, .int a2), (4, .int (nI t)), (5, .int w)]) dX6_isAsSeen_108 5 rfl rfl (by decide) rfl ?_
      refine go_goto 45 dX6_isAsSeen_111 (by decide) ?_
      exact Go.pick [2, 3, 1, 4, 5, 0] rfl h
    · have h := h.2 q
      refine go_aload_n dX6_isAsSeen_58 0 rfl ?_
      refine go_getR (kf := 18) (t := 46) rfl rfl rfl uwX6 (by decide) flX6_29 dX6_isAsSeen_59 ?_
      refine go_iconst (v := 3) dX6_isAsSeen_62 (by decide) ?_
      refine go_iload dX6_isAsSeen_63 5 rfl ?_
      refine go_imul dX6_isAsSeen_65 ?_
      obtain ⟨c1, h⟩ := h
      refine go_iaload rfl c1 dX6_isAsSeen_66 ?_
      refine go_iload dX6_isAsSeen_67 3 rfl ?_
      refine go_icmp_ne 102 dX6_isAsSeen_69 (by decide) (fun q => ?_) (fun q => ?_)
      · have h := h.1 q
        refine go_iconst (v := 1) dX6_isAsSeen_102 (by decide) ?_
        refine go_goto 107 dX6_isAsSeen_103 (by decide) ?_
        refine go_istore_n (L2 := [(3, .int 1), (0, .ref 40), (2, .int a2), (4, .int (nI t)), (5, .int w), (6, .int (nI i))]) dX6_isAsSeen_107 (by decide) rfl ?_
        refine go_iinc (v := ((nI i) + 1)) (L2 := [(6, .int ((nI i) + 1)), (3, .int 1), (0, .ref 40), (2, .int a2), (4, .int (nI t)), (5, .int w)]) dX6_isAsSeen_108 5 rfl rfl (by decide) rfl ?_
        refine go_goto 45 dX6_isAsSeen_111 (by decide) ?_
        exact Go.pick [2, 3, 1, 4, 5, 0] rfl h
      · have h := h.2 q
        refine go_iload dX6_isAsSeen_72 4 rfl ?_
        refine go_aload_n dX6_isAsSeen_74 0 rfl ?_
        refine go_getR (kf := 18) (t := 46) rfl rfl rfl uwX6 (by decide) flX6_29 dX6_isAsSeen_75 ?_
        refine go_iconst (v := 3) dX6_isAsSeen_78 (by decide) ?_
        refine go_iload dX6_isAsSeen_79 5 rfl ?_
        refine go_imul dX6_isAsSeen_81 ?_
        refine go_iconst (v := 1) dX6_isAsSeen_82 (by decide) ?_
        refine go_iadd dX6_isAsSeen_83 ?_
        obtain ⟨c2, h⟩ := h
        refine go_iaload rfl c2 dX6_isAsSeen_84 ?_
        refine go_ishr dX6_isAsSeen_85 ?_
        refine go_iconst (v := 1) dX6_isAsSeen_86 (by decide) ?_
        refine go_iand dX6_isAsSeen_87 ?_
        refine go_aload_n dX6_isAsSeen_88 0 rfl ?_
        refine go_getR (kf := 18) (t := 46) rfl rfl rfl uwX6 (by decide) flX6_29 dX6_isAsSeen_89 ?_
        refine go_iconst (v := 3) dX6_isAsSeen_92 (by decide) ?_
        refine go_iload dX6_isAsSeen_93 5 rfl ?_
        refine go_imul dX6_isAsSeen_95 ?_
        refine go_iconst (v := 2) dX6_isAsSeen_96 (by decide) ?_
        refine go_iadd dX6_isAsSeen_97 ?_
        obtain ⟨c3, h⟩ := h
        refine go_iaload rfl c3 dX6_isAsSeen_98 ?_
        refine go_icmp_ne 106 dX6_isAsSeen_99 (by decide) (fun q => ?_) (fun q => ?_)
        · have h := h.1 q
          refine go_iconst (v := 0) dX6_isAsSeen_106 (by decide) ?_
          refine go_istore_n (L2 := [(3, .int 0), (0, .ref 40), (2, .int a2), (4, .int (nI t)), (5, .int w), (6, .int (nI i))]) dX6_isAsSeen_107 (by decide) rfl ?_
          refine go_iinc (v := ((nI i) + 1)) (L2 := [(6, .int ((nI i) + 1)), (3, .int 0), (0, .ref 40), (2, .int a2), (4, .int (nI t)), (5, .int w)]) dX6_isAsSeen_108 5 rfl rfl (by decide) rfl ?_
          refine go_goto 45 dX6_isAsSeen_111 (by decide) ?_
          exact Go.pick [2, 3, 1, 4, 5, 0] rfl h
        · have h := h.2 q
          refine go_iconst (v := 1) dX6_isAsSeen_102 (by decide) ?_
          refine go_goto 107 dX6_isAsSeen_103 (by decide) ?_
          refine go_istore_n (L2 := [(3, .int 1), (0, .ref 40), (2, .int a2), (4, .int (nI t)), (5, .int w), (6, .int (nI i))]) dX6_isAsSeen_107 (by decide) rfl ?_
          refine go_iinc (v := ((nI i) + 1)) (L2 := [(6, .int ((nI i) + 1)), (3, .int 1), (0, .ref 40), (2, .int a2), (4, .int (nI t)), (5, .int w)]) dX6_isAsSeen_108 5 rfl rfl (by decide) rfl ?_
          refine go_goto 45 dX6_isAsSeen_111 (by decide) ?_
          exact Go.pick [2, 3, 1, 4, 5, 0] rfl h


theorem q3 {i : Nat} (hi : i < 6) : ((3 : Int32) * nI i = nI (3 * i)) ∧ ((3 : Int32) * nI i + 1 = nI (3 * i + 1)) ∧ ((3 : Int32) * nI i + 2 = nI (3 * i + 2)) := by
  have e : ((3 : Int32) * nI i = nI (3 * i)) := by rw [show (3 : Int32) = nI 3 from rfl, pk_mul]
  rw [e]
  exact ⟨rfl, nI_1 _, by rw [show (2 : Int32) = nI 2 from rfl, nI_add]⟩
theorem lX6_seenIn {G : GX} {d : Nat} {mem : Mem} {Φ : Option Value → Mem → Prop} (a2 : Int32) (t : Nat) (ht : t ≤ 60) (X : Bm) (S : Se) (hw : who 9 (itX 9 nof X t) < 32) (h : SeM mem S) (k : Go G (d + 3) mX6_isAsSeen 12 [(0, .ref 40), (2, .int a2), (3, .int (bI (okB S X (t + 1) 0 = true))), (4, .int (nI (t + 1)))] [] mem Φ) : ∀ (r i : Nat), i + r = S.1 → Go G (d + 3) mX6_isAsSeen 45 [(0, .ref 40), (2, .int a2), (3, .int (bI (okB S X t i = true))), (4, .int (nI t)), (5, .int (nI (who 9 (itX 9 nof X t)))), (6, .int (nI i))] [] mem Φ := by
  intro r
  have h6 := h.1
  induction r with
  | zero =>
    intro i hi
    have hi2 : i = S.1 := by omega
    subst hi2
    rw [okB_n]
    refine sX6_isAsSeen_45 a2 _ t _ S.1 ⟨fun _ => ?_, fun z => absurd ?_ z⟩
    · rw [nI_1]; exact k
    · rw [h.2.1]; exact Int32.le_refl _
  | succ r ih =>
    intro i hi
    obtain ⟨b1, b2, b3, e1, e2, e3⟩ := h.2.2 i (by omega)
    obtain ⟨u1, u2, u3⟩ := q3 (show i < 6 by omega)
    have i9 := ih (i + 1) (by omega)
    refine sX6_isAsSeen_45 a2 _ t _ i ⟨fun z => ?_, fun _ => ?_⟩
    · rw [h.2.1] at z
      exact absurd ((nle (by omega) (by omega)).mp z) (by omega)
    · rw [u2, u3, u1, ncl (show 3 * i < 2000000000 by omega), ncl (show 3 * i + 1 < 2000000000 by omega), ncl (show 3 * i + 2 < 2000000000 by omega), e1, e2, e3, nI_1, bit_at _ hw _ (by omega), neq (by omega) (by omega), neq (by omega) (by omega)]
      have s := okB_s (X := X) (t := t) (show i < S.1 by omega)
      by_cases q : okB S X t i = true
      · rw [bIt q]
        refine ⟨fun z => absurd z (by decide), fun _ => ⟨nin (by omega) (by omega), fun y => ?_, fun y => ⟨nin (by omega) (by omega), nin (by omega) (by omega), fun y2 => ?_, fun y2 => ?_⟩⟩⟩
        · rw [bIt (s.mpr ⟨q, fun z => absurd z y⟩)] at i9; exact i9
        · rw [bIf (fun z => y2 ((s.mp z).2 y))] at i9; exact i9
        · rw [bIt (s.mpr ⟨q, fun _ => y2⟩)] at i9; exact i9
      · rw [bIf q]
        refine ⟨fun _ => ?_, fun z => absurd rfl z⟩
        rw [bIf (fun z => q (s.mp z).1)] at i9; exact i9
theorem q61 {r t : Nat} (hr : r < 30) (ht : t < 61) : ((61 : Int32) * nI r + nI t).toNatClampNeg = 61 * r + t ∧ vp_in ((61 : Int32) * nI r + nI t) 1830 := by
  rw [show ((61 : Int32) * nI r + nI t) = nI (61 * r + t) from by rw [show (61 : Int32) = nI 61 from rfl, pk_mul, nI_add]]
  exact ⟨ncl (by omega), nin (by omega) (by omega)⟩
theorem lX6_isAsSeen {G : GX} {d : Nat} {mem0 : Mem} (r0 : Nat) (hr : r0 < 30) (X : Bm) (S : Se) (hV : VX 9 30 X) (h : SeM mem0 S) (hG : mem0 40 14 = goI 9) : ∀ (r t : Nat) (m : Mem), t + r = 61 → (∀ k, k ≠ 41 → k ≠ 47 → m k = mem0 k) → (∀ j, (j < 92 ∨ 115 ≤ j) → m 41 j = mem0 41 j) → (∀ j, (j < 61 * r0 ∨ 61 * r0 + 61 ≤ j) → m 47 j = mem0 47 j) → (∀ s, s < t → m 47 (61 * r0 + s) = nI (who 9 (itX 9 nof X s))) → RepM m 92 (itX 9 nof X t) → Go G (d + 3) mX6_isAsSeen 12 [(0, .ref 40), (2, .int (nI r0)), (3, .int (bI (okB S X t 0 = true))), (4, .int (nI t))] [] m (Ri (bI (sF S X = true)) (FrS r0 X mem0)) := by
  intro r
  induction r with
  | zero =>
    intro t m ht g1 g2 g3 g4 hR
    have ht2 : t = 61 := by omega
    subst ht2
    rw [okB_61 (fun i hi => (h.2.2 i hi).1)]
    exact sX6_isAsSeen_12 _ _ 61 X ⟨fun _ => ⟨nbI _, Ri.mk rfl ⟨g1, g2, g3, g4⟩⟩, fun z => absurd (by decide) z⟩
  | succ r ih =>
    intro t m ht g1 g2 g3 g4 hR
    obtain ⟨qe, qv⟩ := q61 hr (show t < 61 by omega)
    refine sX6_isAsSeen_12 _ _ t X ⟨fun z => absurd ((nlt (a := 60) (by omega) (by omega)).mp z) (by omega), fun _ => ⟨rfl, by omega, ⟨by omega, by omega, by omega⟩, VX_it hV t, hR, by rw [g1 40 (by decide) (by decide)]; exact hG, fun m8 h8 => ⟨qv, ?_⟩⟩⟩
    rw [qe]
    intro m10 e10
    have f1 : ∀ k, k ≠ 41 → k ≠ 47 → m10 k = mem0 k := fun k a b => by rw [e10, um_ne b, h8.2.1 k a, g1 k a b]
    have f41 : m10 41 = m8 41 := by rw [e10, um_ne (by decide)]
    have f47 : ∀ j, m10 47 j = if j = 61 * r0 + t then nI (who 9 (itX 9 nof X t)) else m 47 j := fun j => by rw [e10, um_at, h8.2.1 47 (by decide)]
    have hS : SeM m10 S := h.fr (by rw [f1 40 (by decide) (by decide)]) (f1 46 (by decide) (by decide))
    refine lX6_seenIn (nI r0) t (by omega) X S (who_lt (VX_it hV t)) hS ?_ S.1 0 (by omega)
    refine ih (t + 1) m10 (by omega) f1 (fun j hj => by rw [f41, h8.2.2 j (by omega), g2 j hj]) (fun j hj => by rw [f47, if_neg (by omega)]; exact g3 j hj) (fun s hs => ?_) ?_
    · rw [f47]
      by_cases z : s = t
      · rw [if_pos (by omega), z]
      · rw [if_neg (by omega)]; exact g4 s (by omega)
    · exact h8.1.fr (by rw [show xn (tkX 9 false (itX 9 nof X t)) = xn (itX 9 nof X t) from rfl, it_n]; exact hV.1) (fun j _ _ => by rw [f41])
theorem kX6_isAsSeenI {G : GX} (d : Nat) {mem : Mem} (a1 a2 : Int32) (P r : Nat) (X : Bm) (S : Se) (e : a1 = nI P ∧ a2 = nI r) (hb : (P = 0 ∨ P = 115) ∧ r < 30) (hV : VX 9 30 X) (hR : RepM mem P X) (h : SeM mem S) (hG : mem 40 14 = goI 9) : Cn G (d + 3) mX6_isAsSeen [.ref 40, .int a1, .int a2] mem (Ri (bI (sF S X = true)) (FrS r X mem)) := by
  rw [e.1, e.2]
  have k := @lX6_isAsSeen G d mem r hb.2 X S hV h hG 61 0 (cpM mem P 92) (by omega) (fun k a _ => cpM_fr.1 k a) (fun j hj => cpM_fr.2 j (by omega)) (fun j _ => by rw [cpM_fr.1 47 (by decide)]) (fun s hs => by omega) (cpM_rep hV.1 hR)
  rw [bIt okB_0] at k
  exact cn_of (by decide +kernel) (Nat.le_of_ble_eq_true rfl) (sX6_isAsSeen_0 _ _ P ⟨⟨rfl, rfl⟩, ⟨by omega, by omega, by omega⟩, k⟩)
theorem orz (b : Int32) : b ||| 0 = b := Int32.or_zero

set_option maxRecDepth 100000 in
theorem sX6_kinds_0 {G : GX} {d : Nat} {mem : Mem} {Φ : Option Value → Mem → Prop} (a1 : Int32) (h : (((0 ≤ a1 ∧ a1 ≤ ((mem 41 20) - 1)) → (0 = nI 0 ∧ 115 = nI 115) ∧ (0 ≤ 115 ∧ 115 ≤ 115 ∧ (0 + 23 ≤ 115 ∨ 115 + 23 ≤ 0)) ∧ Go G (d + 4) mX6_kinds 21 [(0, .ref 40), (1, .int a1), (2, .int 0), (3, .int 0)] [] (cpM mem 0 115) Φ) ∧ (¬ (0 ≤ a1 ∧ a1 ≤ ((mem 41 20) - 1)) → Φ (some (.int (-1))) mem))) : Go G (d + 4) mX6_kinds 0 [(0, .ref 40), (1, .int a1)] [] mem Φ := by
  refine go_aload_n dX6_kinds_0 0 rfl ?_
  refine go_iload_n dX6_kinds_1 1 rfl ?_
  refine go_callV (st := []) (kX6_isClock (d + 2) a1) rfl rfl okX6_isClock insX6_isClock selX6_isClock lkX6_137 rfl rfl (Nat.le_of_ble_eq_true rfl) dX6_kinds_2 (fun v_ m2_ q => ?_)
  rw [q.1, q.2]
  refine go_stk (st2 := [.int (bI (0 ≤ a1 ∧ a1 ≤ ((mem 41 20) - 1)))]) rfl ?_
  refine go_if_ne 10 dX6_kinds_5 (by decide) (fun q => ?_) (fun q => ?_)
  · have h := h.1 (bI1.mp q)
    refine go_iconst (v := 0) dX6_kinds_10 (by decide) ?_
    refine go_istore_n (L2 := [(2, .int 0), (0, .ref 40), (1, .int a1)]) dX6_kinds_11 (by decide) rfl ?_
    refine go_aload_n dX6_kinds_12 1 rfl ?_
    refine go_iconst (v := 0) dX6_kinds_13 (by decide) ?_
    refine go_bipush (v := 115) dX6_kinds_14 (by decide) ?_
    obtain ⟨c1, h⟩ := h
    obtain ⟨c2, h⟩ := h
    refine go_callV (st := []) (kX6_copiesI (d + 3) 0 115 0 115 c1 c2) rfl rfl okX6_copies insX6_copies selX6_copies lkX6_161 rfl rfl (Nat.le_of_ble_eq_true rfl) dX6_kinds_16 (fun v_ m2_ q => ?_)
    rw [q.1, q.2]
    refine go_stk (st2 := []) rfl ?_
    refine go_iconst (v := 0) dX6_kinds_19 (by decide) ?_
    refine go_istore_n (L2 := [(3, .int 0), (2, .int 0), (0, .ref 40), (1, .int a1)]) dX6_kinds_20 (by decide) rfl ?_
    exact Go.pick [2, 3, 1, 0] rfl h
  · have h := h.2 (bI0.mp q)
    refine go_iconst (v := (-1)) dX6_kinds_8 (by decide) ?_
    exact go_iret rfl dX6_kinds_9 h

set_option maxRecDepth 100000 in
theorem sX6_kinds_21 {G : GX} {d : Nat} {mem : Mem} {Φ : Option Value → Mem → Prop} (a1 b : Int32) (c v : Nat) (X : Bm) (S : Se) (h : ((4 ≤ (nI v) → Φ (some (.int b)) mem) ∧ (¬ 4 ≤ (nI v) → (vp_in (115 + a1) 138) ∧ ∀ m2 : Mem, m2 = (um mem 41 ((115 + a1) : Int32).toNatClampNeg (nI v)) → (115 = nI 115 ∧ 0 = nI 0) ∧ ((115 = 0 ∨ 115 = 115) ∧ 0 < 30) ∧ (VX 9 30 (stK X c v)) ∧ (RepM m2 115 (stK X c v)) ∧ (SeM m2 S) ∧ (m2 40 14 = goI 9) ∧ ∀ m9 : Mem, FrS 0 (stK X c v) m2 m9 → ((¬ (sF S (stK X c v) = true) → ∀ y10 : Int32, y10 = (b ||| 0) → Go G (d + 4) mX6_kinds 21 [(0, .ref 40), (1, .int a1), (2, .int y10), (3, .int ((nI v) + 1))] [] m9 Φ) ∧ ((sF S (stK X c v) = true) → ∀ y11 : Int32, y11 = (b ||| (1 <<< ((nI v) &&& 31))) → Go G (d + 4) mX6_kinds 21 [(0, .ref 40), (1, .int a1), (2, .int y11), (3, .int ((nI v) + 1))] [] m9 Φ))))) : Go G (d + 4) mX6_kinds 21 [(0, .ref 40), (1, .int a1), (2, .int b), (3, .int (nI v))] [] mem Φ := by
  refine go_iload_n dX6_kinds_21 3 rfl ?_
  refine go_iconst (v := 4) dX6_kinds_22 (by decide) ?_
  refine go_icmp_ge 62 dX6_kinds_23 (by decide) (fun q => ?_) (fun q => ?_)
  · have h := h.1 q
    refine go_iload_n dX6_kinds_62 2 rfl ?_
    exact go_iret rfl dX6_kinds_63 h
  · have h := h.2 q
    refine go_aload_n dX6_kinds_26 0 rfl ?_
    refine go_getR (kf := 0) (t := 41) rfl rfl rfl uwX6 (by decide) flX6_7 dX6_kinds_27 ?_
    refine go_bipush (v := 115) dX6_kinds_30 (by decide) ?_
    refine go_iload_n dX6_kinds_32 1 rfl ?_
    refine go_iadd dX6_kinds_33 ?_
    refine go_iload_n dX6_kinds_34 3 rfl ?_
    obtain ⟨c1, h⟩ := h
    refine go_iastore rfl c1 dX6_kinds_35 ?_
    refine go_mem (fun m2 qm2 => ?_)
    have h := h m2 qm2
    refine go_iload_n dX6_kinds_36 2 rfl ?_
    refine go_aload_n dX6_kinds_37 0 rfl ?_
    refine go_bipush (v := 115) dX6_kinds_38 (by decide) ?_
    refine go_iconst (v := 0) dX6_kinds_40 (by decide) ?_
    obtain ⟨c3, h⟩ := h
    obtain ⟨c4, h⟩ := h
    obtain ⟨c5, h⟩ := h
    obtain ⟨c6, h⟩ := h
    obtain ⟨c7, h⟩ := h
    obtain ⟨c8, h⟩ := h
    refine go_callV (st := [.int b]) (kX6_isAsSeenI (d + 0) 115 0 115 0 (stK X c v) S c3 c4 c5 c6 c7 c8) rfl rfl okX6_isAsSeen insX6_isAsSeen selX6_isAsSeen lkX6_208 rfl rfl (Nat.le_of_ble_eq_true rfl) dX6_kinds_41 (fun v_ m9 q => ?_)
    rw [q.1]
    have h := h m9 q.2
    refine go_stk (st2 := [.int (bI (sF S (stK X c v) = true)), .int b]) rfl ?_
    refine go_if_eq 53 dX6_kinds_44 (by decide) (fun q => ?_) (fun q => ?_)
    · have h := h.1 (bI0.mp q)
      refine go_iconst (v := 0) dX6_kinds_53 (by decide) ?_
      refine go_ior dX6_kinds_54 ?_
      refine go_topi (fun y10 qy10 => ?_)
      have h := h y10 qy10
      refine go_istore_n (L2 := [(2, .int y10), (0, .ref 40), (1, .int a1), (3, .int (nI v))]) dX6_kinds_55 (by decide) rfl ?_
      refine go_iinc (v := ((nI v) + 1)) (L2 := [(3, .int ((nI v) + 1)), (2, .int y10), (0, .ref 40), (1, .int a1)]) dX6_kinds_56 3 rfl rfl (by decide) rfl ?_
      refine go_goto 21 dX6_kinds_59 (by decide) ?_
      exact Go.pick [2, 3, 1, 0] rfl h
    · have h := h.2 (bI1.mp q)
      refine go_iconst (v := 1) dX6_kinds_47 (by decide) ?_
      refine go_iload_n dX6_kinds_48 3 rfl ?_
      refine go_ishl dX6_kinds_49 ?_
      refine go_goto 54 dX6_kinds_50 (by decide) ?_
      refine go_ior dX6_kinds_54 ?_
      refine go_topi (fun y11 qy11 => ?_)
      have h := h y11 qy11
      refine go_istore_n (L2 := [(2, .int y11), (0, .ref 40), (1, .int a1), (3, .int (nI v))]) dX6_kinds_55 (by decide) rfl ?_
      refine go_iinc (v := ((nI v) + 1)) (L2 := [(3, .int ((nI v) + 1)), (2, .int y11), (0, .ref 40), (1, .int a1)]) dX6_kinds_56 3 rfl rfl (by decide) rfl ?_
      refine go_goto 21 dX6_kinds_59 (by decide) ?_
      exact Go.pick [2, 3, 1, 0] rfl h

set_option maxRecDepth 100000 in
theorem sX6_periods_0 {G : GX} {d : Nat} {mem : Mem} {Φ : Option Value → Mem → Prop} (a1 : Int32) (h : (((0 ≤ a1 ∧ a1 ≤ ((mem 41 20) - 1)) → Go G (d + 4) mX6_periods 14 [(0, .ref 40), (1, .int a1), (2, .int 0), (3, .int 2)] [] mem Φ) ∧ (¬ (0 ≤ a1 ∧ a1 ≤ ((mem 41 20) - 1)) → Φ (some (.int (-1))) mem))) : Go G (d + 4) mX6_periods 0 [(0, .ref 40), (1, .int a1)] [] mem Φ := by
  refine go_aload_n dX6_periods_0 0 rfl ?_
  refine go_iload_n dX6_periods_1 1 rfl ?_
  refine go_callV (st := []) (kX6_isClock (d + 2) a1) rfl rfl okX6_isClock insX6_isClock selX6_isClock lkX6_137 rfl rfl (Nat.le_of_ble_eq_true rfl) dX6_periods_2 (fun v_ m2_ q => ?_)
  rw [q.1, q.2]
  refine go_stk (st2 := [.int (bI (0 ≤ a1 ∧ a1 ≤ ((mem 41 20) - 1)))]) rfl ?_
  refine go_if_ne 10 dX6_periods_5 (by decide) (fun q => ?_) (fun q => ?_)
  · have h := h.1 (bI1.mp q)
    refine go_iconst (v := 0) dX6_periods_10 (by decide) ?_
    refine go_istore_n (L2 := [(2, .int 0), (0, .ref 40), (1, .int a1)]) dX6_periods_11 (by decide) rfl ?_
    refine go_iconst (v := 2) dX6_periods_12 (by decide) ?_
    refine go_istore_n (L2 := [(3, .int 2), (2, .int 0), (0, .ref 40), (1, .int a1)]) dX6_periods_13 (by decide) rfl ?_
    exact Go.pick [2, 3, 1, 0] rfl h
  · have h := h.2 (bI0.mp q)
    refine go_iconst (v := (-1)) dX6_periods_8 (by decide) ?_
    exact go_iret rfl dX6_periods_9 h

set_option maxRecDepth 100000 in
theorem sX6_periods_14 {G : GX} {d : Nat} {mem : Mem} {Φ : Option Value → Mem → Prop} (a1 b : Int32) (c v : Nat) (X : Bm) (S : Se) (h : ((30 < (nI v) → Φ (some (.int b)) mem) ∧ (¬ 30 < (nI v) → (0 = nI 0 ∧ 115 = nI 115) ∧ (0 ≤ 115 ∧ 115 ≤ 115 ∧ (0 + 23 ≤ 115 ∨ 115 + 23 ≤ 0)) ∧ (115 = nI 115 ∧ a1 = nI c ∧ (nI v) = nI v) ∧ (115 ≤ 115) ∧ (VX 9 30 X ∧ c < xn X ∧ 2 ≤ v ∧ v ≤ 30) ∧ (RepM (cpM mem 0 115) 115 X) ∧ ∀ m7 : Mem, (RepM m7 115 (tpX X c v) ∧ FrM 115 (cpM mem 0 115) m7) → (115 = nI 115 ∧ 0 = nI 0) ∧ ((115 = 0 ∨ 115 = 115) ∧ 0 < 30) ∧ (VX 9 30 (tpX X c v)) ∧ (RepM m7 115 (tpX X c v)) ∧ (SeM m7 S) ∧ (m7 40 14 = goI 9) ∧ ∀ m14 : Mem, FrS 0 (tpX X c v) m7 m14 → ((¬ (sF S (tpX X c v) = true) → ∀ y15 : Int32, y15 = (b ||| 0) → Go G (d + 4) mX6_periods 14 [(0, .ref 40), (1, .int a1), (2, .int y15), (3, .int ((nI v) + 1))] [] m14 Φ) ∧ ((sF S (tpX X c v) = true) → ∀ y16 : Int32, y16 = (b ||| (1 <<< ((nI v) &&& 31))) → Go G (d + 4) mX6_periods 14 [(0, .ref 40), (1, .int a1), (2, .int y16), (3, .int ((nI v) + 1))] [] m14 Φ))))) : Go G (d + 4) mX6_periods 14 [(0, .ref 40), (1, .int a1), (2, .int b), (3, .int (nI v))] [] mem Φ := by
  refine go_iload_n dX6_periods_14 3 rfl ?_
  refine go_bipush (v := 30) dX6_periods_15 (by decide) ?_
  refine go_icmp_gt 61 dX6_periods_17 (by decide) (fun q => ?_) (fun q => ?_)
  · have h := h.1 q
    refine go_iload_n dX6_periods_61 2 rfl ?_
    exact go_iret rfl dX6_periods_62 h
  · have h := h.2 q
    refine go_aload_n dX6_periods_20 0 rfl ?_
    refine go_iconst (v := 0) dX6_periods_21 (by decide) ?_
    refine go_bipush (v := 115) dX6_periods_22 (by decide) ?_
    obtain ⟨c1, h⟩ := h
    obtain ⟨c2, h⟩ := h
    refine go_callV (st := []) (kX6_copiesI (d + 3) 0 115 0 115 c1 c2) rfl rfl okX6_copies insX6_copies selX6_copies lkX6_161 rfl rfl (Nat.le_of_ble_eq_true rfl) dX6_periods_24 (fun v_ m2_ q => ?_)
    rw [q.1, q.2]
    refine go_stk (st2 := []) rfl ?_
    refine go_aload_n dX6_periods_27 0 rfl ?_
    refine go_bipush (v := 115) dX6_periods_28 (by decide) ?_
    refine go_iload_n dX6_periods_30 1 rfl ?_
    refine go_iload_n dX6_periods_31 3 rfl ?_
    obtain ⟨c3, h⟩ := h
    obtain ⟨c4, h⟩ := h
    obtain ⟨c5, h⟩ := h
    obtain ⟨c6, h⟩ := h
    refine go_callV (st := []) (kX6_periodOnI (d + 3) 115 a1 (nI v) 115 c v X c3 c4 c5 c6) rfl rfl okX6_periodOn insX6_periodOn selX6_periodOn lkX6_185 rfl rfl (Nat.le_of_ble_eq_true rfl) dX6_periods_32 (fun v_ m7 q => ?_)
    rw [q.1]
    have h := h m7 q.2
    refine go_stk (st2 := []) rfl ?_
    refine go_iload_n dX6_periods_35 2 rfl ?_
    refine go_aload_n dX6_periods_36 0 rfl ?_
    refine go_bipush (v := 115) dX6_periods_37 (by decide) ?_
    refine go_iconst (v := 0) dX6_periods_39 (by decide) ?_
    obtain ⟨c8, h⟩ := h
    obtain ⟨c9, h⟩ := h
    obtain ⟨c10, h⟩ := h
    obtain ⟨c11, h⟩ := h
    obtain ⟨c12, h⟩ := h
    obtain ⟨c13, h⟩ := h
    refine go_callV (st := [.int b]) (kX6_isAsSeenI (d + 0) 115 0 115 0 (tpX X c v) S c8 c9 c10 c11 c12 c13) rfl rfl okX6_isAsSeen insX6_isAsSeen selX6_isAsSeen lkX6_208 rfl rfl (Nat.le_of_ble_eq_true rfl) dX6_periods_40 (fun v_ m14 q => ?_)
    rw [q.1]
    have h := h m14 q.2
    refine go_stk (st2 := [.int (bI (sF S (tpX X c v) = true)), .int b]) rfl ?_
    refine go_if_eq 52 dX6_periods_43 (by decide) (fun q => ?_) (fun q => ?_)
    · have h := h.1 (bI0.mp q)
      refine go_iconst (v := 0) dX6_periods_52 (by decide) ?_
      refine go_ior dX6_periods_53 ?_
      refine go_topi (fun y15 qy15 => ?_)
      have h := h y15 qy15
      refine go_istore_n (L2 := [(2, .int y15), (0, .ref 40), (1, .int a1), (3, .int (nI v))]) dX6_periods_54 (by decide) rfl ?_
      refine go_iinc (v := ((nI v) + 1)) (L2 := [(3, .int ((nI v) + 1)), (2, .int y15), (0, .ref 40), (1, .int a1)]) dX6_periods_55 3 rfl rfl (by decide) rfl ?_
      refine go_goto 14 dX6_periods_58 (by decide) ?_
      exact Go.pick [2, 3, 1, 0] rfl h
    · have h := h.2 (bI1.mp q)
      refine go_iconst (v := 1) dX6_periods_46 (by decide) ?_
      refine go_iload_n dX6_periods_47 3 rfl ?_
      refine go_ishl dX6_periods_48 ?_
      refine go_goto 53 dX6_periods_49 (by decide) ?_
      refine go_ior dX6_periods_53 ?_
      refine go_topi (fun y16 qy16 => ?_)
      have h := h y16 qy16
      refine go_istore_n (L2 := [(2, .int y16), (0, .ref 40), (1, .int a1), (3, .int (nI v))]) dX6_periods_54 (by decide) rfl ?_
      refine go_iinc (v := ((nI v) + 1)) (L2 := [(3, .int ((nI v) + 1)), (2, .int y16), (0, .ref 40), (1, .int a1)]) dX6_periods_55 3 rfl rfl (by decide) rfl ?_
      refine go_goto 14 dX6_periods_58 (by decide) ?_
      exact Go.pick [2, 3, 1, 0] rfl h

set_option maxRecDepth 100000 in
theorem sX6_handsOf_0 {G : GX} {d : Nat} {mem : Mem} {Φ : Option Value → Mem → Prop} (a1 : Int32) (h : (0 = nI 0 ∧ 115 = nI 115) ∧ (0 ≤ 115 ∧ 115 ≤ 115 ∧ (0 + 23 ≤ 115 ∨ 115 + 23 ≤ 0)) ∧ Go G (d + 4) mX6_handsOf 11 [(0, .ref 40), (1, .int a1), (2, .int 0), (3, .int 0)] [] (cpM mem 0 115) Φ) : Go G (d + 4) mX6_handsOf 0 [(0, .ref 40), (1, .int a1)] [] mem Φ := by
  refine go_iconst (v := 0) dX6_handsOf_0 (by decide) ?_
  refine go_istore_n (L2 := [(2, .int 0), (0, .ref 40), (1, .int a1)]) dX6_handsOf_1 (by decide) rfl ?_
  refine go_aload_n dX6_handsOf_2 1 rfl ?_
  refine go_iconst (v := 0) dX6_handsOf_3 (by decide) ?_
  refine go_bipush (v := 115) dX6_handsOf_4 (by decide) ?_
  obtain ⟨c1, h⟩ := h
  obtain ⟨c2, h⟩ := h
  refine go_callV (st := []) (kX6_copiesI (d + 3) 0 115 0 115 c1 c2) rfl rfl okX6_copies insX6_copies selX6_copies lkX6_161 rfl rfl (Nat.le_of_ble_eq_true rfl) dX6_handsOf_6 (fun v_ m2_ q => ?_)
  rw [q.1, q.2]
  refine go_stk (st2 := []) rfl ?_
  refine go_iconst (v := 0) dX6_handsOf_9 (by decide) ?_
  refine go_istore_n (L2 := [(3, .int 0), (2, .int 0), (0, .ref 40), (1, .int a1)]) dX6_handsOf_10 (by decide) rfl ?_
  exact Go.pick [2, 3, 1, 0] rfl h

set_option maxRecDepth 100000 in
theorem sX6_handsOf_11 {G : GX} {d : Nat} {mem : Mem} {Φ : Option Value → Mem → Prop} (a1 b : Int32) (c v : Nat) (X : Bm) (S : Se) (h : (vp_in (5 + a1) 138) ∧ (((mem 41 ((5 + a1) : Int32).toNatClampNeg) ≤ (nI v) → Φ (some (.int b)) mem) ∧ (¬ (mem 41 ((5 + a1) : Int32).toNatClampNeg) ≤ (nI v) → (vp_in (125 + a1) 138) ∧ ∀ m3 : Mem, m3 = (um mem 41 ((125 + a1) : Int32).toNatClampNeg (nI v)) → (115 = nI 115 ∧ (nI v) = nI v) ∧ ((115 = 0 ∨ 115 = 115) ∧ v < 30) ∧ (VX 9 30 (stH X c v)) ∧ (RepM m3 115 (stH X c v)) ∧ (SeM m3 S) ∧ (m3 40 14 = goI 9) ∧ ∀ m10 : Mem, FrS v (stH X c v) m3 m10 → ((¬ (sF S (stH X c v) = true) → ∀ y11 : Int32, y11 = (b ||| 0) → Go G (d + 4) mX6_handsOf 11 [(0, .ref 40), (1, .int a1), (2, .int y11), (3, .int ((nI v) + 1))] [] m10 Φ) ∧ ((sF S (stH X c v) = true) → ∀ y12 : Int32, y12 = (b ||| (1 <<< ((nI v) &&& 31))) → Go G (d + 4) mX6_handsOf 11 [(0, .ref 40), (1, .int a1), (2, .int y12), (3, .int ((nI v) + 1))] [] m10 Φ))))) : Go G (d + 4) mX6_handsOf 11 [(0, .ref 40), (1, .int a1), (2, .int b), (3, .int (nI v))] [] mem Φ := by
  refine go_iload_n dX6_handsOf_11 3 rfl ?_
  refine go_aload_n dX6_handsOf_12 0 rfl ?_
  refine go_getR (kf := 0) (t := 41) rfl rfl rfl uwX6 (by decide) flX6_7 dX6_handsOf_13 ?_
  refine go_iconst (v := 5) dX6_handsOf_16 (by decide) ?_
  refine go_iload_n dX6_handsOf_17 1 rfl ?_
  refine go_iadd dX6_handsOf_18 ?_
  obtain ⟨c1, h⟩ := h
  refine go_iaload rfl c1 dX6_handsOf_19 ?_
  refine go_icmp_ge 59 dX6_handsOf_20 (by decide) (fun q => ?_) (fun q => ?_)
  · have h := h.1 q
    refine go_iload_n dX6_handsOf_59 2 rfl ?_
    exact go_iret rfl dX6_handsOf_60 h
  · have h := h.2 q
    refine go_aload_n dX6_handsOf_23 0 rfl ?_
    refine go_getR (kf := 0) (t := 41) rfl rfl rfl uwX6 (by decide) flX6_7 dX6_handsOf_24 ?_
    refine go_bipush (v := 125) dX6_handsOf_27 (by decide) ?_
    refine go_iload_n dX6_handsOf_29 1 rfl ?_
    refine go_iadd dX6_handsOf_30 ?_
    refine go_iload_n dX6_handsOf_31 3 rfl ?_
    obtain ⟨c2, h⟩ := h
    refine go_iastore rfl c2 dX6_handsOf_32 ?_
    refine go_mem (fun m3 qm3 => ?_)
    have h := h m3 qm3
    refine go_iload_n dX6_handsOf_33 2 rfl ?_
    refine go_aload_n dX6_handsOf_34 0 rfl ?_
    refine go_bipush (v := 115) dX6_handsOf_35 (by decide) ?_
    refine go_iload_n dX6_handsOf_37 3 rfl ?_
    obtain ⟨c4, h⟩ := h
    obtain ⟨c5, h⟩ := h
    obtain ⟨c6, h⟩ := h
    obtain ⟨c7, h⟩ := h
    obtain ⟨c8, h⟩ := h
    obtain ⟨c9, h⟩ := h
    refine go_callV (st := [.int b]) (kX6_isAsSeenI (d + 0) 115 (nI v) 115 v (stH X c v) S c4 c5 c6 c7 c8 c9) rfl rfl okX6_isAsSeen insX6_isAsSeen selX6_isAsSeen lkX6_208 rfl rfl (Nat.le_of_ble_eq_true rfl) dX6_handsOf_38 (fun v_ m10 q => ?_)
    rw [q.1]
    have h := h m10 q.2
    refine go_stk (st2 := [.int (bI (sF S (stH X c v) = true)), .int b]) rfl ?_
    refine go_if_eq 50 dX6_handsOf_41 (by decide) (fun q => ?_) (fun q => ?_)
    · have h := h.1 (bI0.mp q)
      refine go_iconst (v := 0) dX6_handsOf_50 (by decide) ?_
      refine go_ior dX6_handsOf_51 ?_
      refine go_topi (fun y11 qy11 => ?_)
      have h := h y11 qy11
      refine go_istore_n (L2 := [(2, .int y11), (0, .ref 40), (1, .int a1), (3, .int (nI v))]) dX6_handsOf_52 (by decide) rfl ?_
      refine go_iinc (v := ((nI v) + 1)) (L2 := [(3, .int ((nI v) + 1)), (2, .int y11), (0, .ref 40), (1, .int a1)]) dX6_handsOf_53 3 rfl rfl (by decide) rfl ?_
      refine go_goto 11 dX6_handsOf_56 (by decide) ?_
      exact Go.pick [2, 3, 1, 0] rfl h
    · have h := h.2 (bI1.mp q)
      refine go_iconst (v := 1) dX6_handsOf_44 (by decide) ?_
      refine go_iload_n dX6_handsOf_45 3 rfl ?_
      refine go_ishl dX6_handsOf_46 ?_
      refine go_goto 51 dX6_handsOf_47 (by decide) ?_
      refine go_ior dX6_handsOf_51 ?_
      refine go_topi (fun y12 qy12 => ?_)
      have h := h y12 qy12
      refine go_istore_n (L2 := [(2, .int y12), (0, .ref 40), (1, .int a1), (3, .int (nI v))]) dX6_handsOf_52 (by decide) rfl ?_
      refine go_iinc (v := ((nI v) + 1)) (L2 := [(3, .int ((nI v) + 1)), (2, .int y12), (0, .ref 40), (1, .int a1)]) dX6_handsOf_53 3 rfl rfl (by decide) rfl ?_
      refine go_goto 11 dX6_handsOf_56 (by decide) ?_
      exact Go.pick [2, 3, 1, 0] rfl h


theorem Rep_k115 {m0 m : Mem} {X : Bm} {c v : Nat} (hn : xn X ≤ 5) (hc : c < xn X) (hR : RepM m0 0 X) (hj : ∀ j, j < 23 → j ≠ c → m 41 (115 + j) = m0 41 j) (he : m 41 (115 + c) = nI v) : RepM m 115 (stK X c v) := by
  obtain ⟨r1, r2, r3, r4⟩ := RepM0 hR
  refine ⟨?_, ?_, ?_, fun x hx => ⟨?_, ?_, ?_, ?_⟩⟩
  · rw [hj 20 (by omega) (by omega)]; exact r1
  · rw [hj 21 (by omega) (by omega)]; exact r2
  · rw [hj 22 (by omega) (by omega)]; exact r3
  · have hx' : x < xn X := hx
    show _ = nI (upN (xk X) c v x)
    unfold upN
    by_cases z : x = c
    · rw [if_pos z, z, he]
    · rw [if_neg z, hj x (by omega) (by omega)]; exact (r4 x hx').1
  · have hx' : x < xn X := hx
    rw [show 115 + 5 + x = 115 + (5 + x) by omega, hj (5 + x) (by omega) (by omega)]; exact (r4 x hx').2.1
  · have hx' : x < xn X := hx
    rw [show 115 + 10 + x = 115 + (10 + x) by omega, hj (10 + x) (by omega) (by omega)]; exact (r4 x hx').2.2.1
  · have hx' : x < xn X := hx
    rw [show 115 + 15 + x = 115 + (15 + x) by omega, hj (15 + x) (by omega) (by omega)]; exact (r4 x hx').2.2.2
theorem Rep_h115 {m0 m : Mem} {X : Bm} {c v : Nat} (hn : xn X ≤ 5) (hc : c < xn X) (hR : RepM m0 0 X) (hj : ∀ j, j < 23 → j ≠ 10 + c → m 41 (115 + j) = m0 41 j) (he : m 41 (115 + (10 + c)) = nI v) : RepM m 115 (stH X c v) := by
  obtain ⟨r1, r2, r3, r4⟩ := RepM0 hR
  refine ⟨?_, ?_, ?_, fun x hx => ⟨?_, ?_, ?_, ?_⟩⟩
  · rw [hj 20 (by omega) (by omega)]; exact r1
  · rw [hj 21 (by omega) (by omega)]; exact r2
  · rw [hj 22 (by omega) (by omega)]; exact r3
  · have hx' : x < xn X := hx
    rw [hj x (by omega) (by omega)]; exact (r4 x hx').1
  · have hx' : x < xn X := hx
    rw [show 115 + 5 + x = 115 + (5 + x) by omega, hj (5 + x) (by omega) (by omega)]; exact (r4 x hx').2.1
  · have hx' : x < xn X := hx
    show _ = nI (upN (xh X) c v x)
    unfold upN
    rw [show 115 + 10 + x = 115 + (10 + x) by omega]
    by_cases z : x = c
    · rw [if_pos z, z, he]
    · rw [if_neg z, hj (10 + x) (by omega) (by omega)]; exact (r4 x hx').2.2.1
  · have hx' : x < xn X := hx
    rw [show 115 + 15 + x = 115 + (15 + x) by omega, hj (15 + x) (by omega) (by omega)]; exact (r4 x hx').2.2.2
theorem lX6_kinds {G : GX} {d : Nat} {mem0 : Mem} (c : Nat) (X : Bm) (S : Se) (hV : VX 9 30 X) (hc : c < xn X) (hR : RepM mem0 0 X) (hS : SeM mem0 S) (hG : mem0 40 14 = goI 9) : ∀ (r v : Nat) (m : Mem), v + r = 4 → QM mem0 m → (∀ j, m 40 j = mem0 40 j) → (∀ j, j < 23 → j ≠ c → m 41 (115 + j) = mem0 41 j) → Go G (d + 4) mX6_kinds 21 [(0, .ref 40), (1, .int (nI c)), (2, .int (nI (whF (fun v => sF S (stK X c v)) v))), (3, .int (nI v))] [] m (Ri (nI (whF (fun v => sF S (stK X c v)) 4)) (QM mem0)) := by
  intro r
  have hn := hV.1
  induction r with
  | zero =>
    intro v m hv h1 h40 h2
    have hv2 : v = 4 := by omega
    subst hv2
    exact sX6_kinds_21 _ _ c 4 X S ⟨fun _ => Ri.mk rfl h1, fun z => absurd (by decide) z⟩
  | succ r ih =>
    intro v m hv h1 h40 h2
    obtain ⟨qe, qv⟩ := q115 (show c < 23 by omega)
    refine sX6_kinds_21 _ _ c v X S ⟨fun z => absurd ((nle (a := 4) (by omega) (by omega)).mp z) (by omega), fun _ => ⟨qv, ?_⟩⟩
    rw [qe]
    intro m2 e2
    have k2 : ∀ j, j < 23 → j ≠ c → m2 41 (115 + j) = mem0 41 j := fun j a b => by rw [e2, um_at, if_neg (by omega)]; exact h2 j a b
    have k40 : ∀ j, m2 40 j = mem0 40 j := fun j => by rw [e2, um_ne (by decide)]; exact h40 j
    have Q2 : QM mem0 m2 := ⟨fun k a b c => by rw [e2, um_ne b, h1.1 k a b c], fun j hj => by rw [e2, um_at, if_neg (by omega)]; exact h1.2.1 j hj, fun j a b c => k40 j⟩
    refine ⟨⟨rfl, rfl⟩, ⟨Or.inr rfl, by omega⟩, VX_k hV (by omega), Rep_k115 hn hc hR k2 (by rw [e2, um_same]), hS.fr (k40 19) (Q2.1 46 (by omega) (by omega) (by omega)), by rw [k40]; exact hG, fun m9 h9 => ?_⟩
    have i9 := ih (v + 1) m9 (by omega) (Q2.tr h9.qm) (fun j => by rw [h9.1 40 (by decide) (by decide)]; exact k40 j) (fun j a b => by rw [h9.2.1 (115 + j) (by omega)]; exact k2 j a b)
    refine ⟨fun q y ey => ?_, fun q y ey => ?_⟩
    · rw [whF_f q] at i9
      rw [nI_1, ey, orz]; exact i9
    · rw [whF_t q] at i9
      rw [nI_1, ey, or_bit (by omega) (whF_lt _ _)]; exact i9
theorem P26 {G : GX} (a : Int32) : Sm G mX5_kinds mX6_kinds [.int a] := Sm_q (fun mem X S h1 h5 h7 => by
  have hn := h1.2.2.1.1
  by_cases q : isC X a
  · obtain ⟨c, hc, rfl⟩ := isC_n q hn
    refine ⟨nI (whF (fun v => sF S (stK X c v)) 4), ?_, fun m1 g1 g5 g7 => ?_⟩
    · refine cn_of (by decide +kernel) (Nat.le_of_ble_eq_true rfl) (sX5_kinds_0 (d := 4) (nI c) ?_)
      rw [h1.1.1]
      exact ⟨fun _ => lX5_kinds c X S h1.2.2.1 hc h1.1 (SeC.of h5) 4 0 mem (by omega) (by omega) QC.rf, fun z => absurd q z⟩
    · refine cn_of (by decide +kernel) (Nat.le_of_ble_eq_true rfl) (sX6_kinds_0 (d := 5) (nI c) ?_)
      rw [(RepM0 g1.2.1).1, isC_M hn]
      exact ⟨fun _ => ⟨⟨rfl, rfl⟩, ⟨by omega, by omega, by omega⟩, lX6_kinds c X S g1.2.2.1 hc g1.2.1 (SeM.of g5) g7.1 4 0 _ (by omega) (cpM_fr.qm (by omega)) (fun j => by rw [cpM_fr.1 40 (by decide)]) (fun j a _ => cpM_at a)⟩, fun z => absurd q z⟩
  · refine ⟨-1, ?_, fun m1 g1 g5 g7 => ?_⟩
    · refine cn_of (by decide +kernel) (Nat.le_of_ble_eq_true rfl) (sX5_kinds_0 (d := 4) a ?_)
      rw [h1.1.1]
      exact ⟨fun z => absurd z q, fun _ => Ri.mk rfl QC.rf⟩
    · refine cn_of (by decide +kernel) (Nat.le_of_ble_eq_true rfl) (sX6_kinds_0 (d := 5) a ?_)
      rw [(RepM0 g1.2.1).1, isC_M hn]
      exact ⟨fun z => absurd z q, fun _ => Ri.mk rfl QM.rf⟩)
theorem lX6_periods {G : GX} {d : Nat} {mem0 : Mem} (c : Nat) (X : Bm) (S : Se) (hV : VX 9 30 X) (hc : c < xn X) (hR : RepM mem0 0 X) (hS : SeM mem0 S) (hG : mem0 40 14 = goI 9) : ∀ (r v : Nat) (m : Mem), v + r = 31 → 2 ≤ v → QM mem0 m → (∀ j, m 40 j = mem0 40 j) → Go G (d + 4) mX6_periods 14 [(0, .ref 40), (1, .int (nI c)), (2, .int (nI (whF (prQ S X c) v))), (3, .int (nI v))] [] m (Ri (nI (whF (prQ S X c) 31)) (QM mem0)) := by
  intro r
  have hn := hV.1
  induction r with
  | zero =>
    intro v m hv hl h1 h40
    have hv2 : v = 31 := by omega
    subst hv2
    exact sX6_periods_14 _ _ c 31 X S ⟨fun _ => Ri.mk rfl h1, fun z => absurd (by decide) z⟩
  | succ r ih =>
    intro v m hv hl h1 h40
    have eQ : prQ S X c v = sF S (tpX X c v) := by unfold prQ; rw [decide_eq_true (show 2 ≤ v by omega), Bool.true_and]
    refine sX6_periods_14 _ _ c v X S ⟨fun z => absurd ((nlt (a := 30) (by omega) (by omega)).mp z) (by omega), fun _ => ⟨⟨rfl, rfl⟩, ⟨by omega, by omega, by omega⟩, ⟨rfl, rfl, rfl⟩, by omega, ⟨hV, hc, by omega, by omega⟩, cpM_rep hn (hR.fr hn (fun j _ _ => h1.2.1 j (by omega))), fun m7 h7 => ?_⟩⟩
    have k40 : ∀ j, m7 40 j = mem0 40 j := fun j => by rw [h7.2.1 40 (by decide), cpM_fr.1 40 (by decide)]; exact h40 j
    have Q7 : QM mem0 m7 := (h1.tr (cpM_fr.qm (by omega))).tr (h7.2.qm (by omega))
    refine ⟨⟨rfl, rfl⟩, ⟨Or.inr rfl, by omega⟩, VX_tp hV (by omega) (by omega) hc, h7.1, hS.fr (k40 19) (Q7.1 46 (by omega) (by omega) (by omega)), by rw [k40]; exact hG, fun m9 h9 => ?_⟩
    have i9 := ih (v + 1) m9 (by omega) (by omega) (Q7.tr h9.qm) (fun j => by rw [h9.1 40 (by decide) (by decide)]; exact k40 j)
    refine ⟨fun q y ey => ?_, fun q y ey => ?_⟩
    · rw [whF_f (fun z => q (eQ.symm.trans z))] at i9
      rw [nI_1, ey, orz]; exact i9
    · rw [whF_t (eQ.trans q)] at i9
      rw [nI_1, ey, or_bit (by omega) (whF_lt _ _)]; exact i9
theorem prQ2 {S : Se} {X : Bm} {c : Nat} : whF (prQ S X c) 2 = 0 := by
  show 0 + (if prQ S X c 0 = true then 2 ^ 0 else 0) + (if prQ S X c 1 = true then 2 ^ 1 else 0) = 0
  rw [if_neg (by unfold prQ; simp), if_neg (by unfold prQ; simp)]
theorem P27 {G : GX} (a : Int32) : Sm G mX5_periods mX6_periods [.int a] := Sm_q (fun mem X S h1 h5 h7 => by
  have hn := h1.2.2.1.1
  by_cases q : isC X a
  · obtain ⟨c, hc, rfl⟩ := isC_n q hn
    refine ⟨nI (whF (prQ S X c) 31), ?_, fun m1 g1 g5 g7 => ?_⟩
    · refine cn_of (by decide +kernel) (Nat.le_of_ble_eq_true rfl) (sX5_periods_0 (d := 4) (nI c) ?_)
      rw [h1.1.1]
      have k := @lX5_periods G 4 mem c X S h1.2.2.1 hc h1.1 (SeC.of h5) 29 2 mem (by omega) (by omega) QC.rf
      rw [prQ2] at k
      exact ⟨fun _ => k, fun z => absurd q z⟩
    · refine cn_of (by decide +kernel) (Nat.le_of_ble_eq_true rfl) (sX6_periods_0 (d := 5) (nI c) ?_)
      rw [(RepM0 g1.2.1).1, isC_M hn]
      have k := @lX6_periods G 5 m1 c X S g1.2.2.1 hc g1.2.1 (SeM.of g5) g7.1 29 2 m1 (by omega) (by omega) QM.rf (fun _ => rfl)
      rw [prQ2] at k
      exact ⟨fun _ => k, fun z => absurd q z⟩
  · refine ⟨-1, ?_, fun m1 g1 g5 g7 => ?_⟩
    · refine cn_of (by decide +kernel) (Nat.le_of_ble_eq_true rfl) (sX5_periods_0 (d := 4) a ?_)
      rw [h1.1.1]
      exact ⟨fun z => absurd z q, fun _ => Ri.mk rfl QC.rf⟩
    · refine cn_of (by decide +kernel) (Nat.le_of_ble_eq_true rfl) (sX6_periods_0 (d := 5) a ?_)
      rw [(RepM0 g1.2.1).1, isC_M hn]
      exact ⟨fun z => absurd z q, fun _ => Ri.mk rfl QM.rf⟩)
theorem lX6_handsOf {G : GX} {d : Nat} {mem0 : Mem} (c : Nat) (X : Bm) (S : Se) (hV : VX 9 30 X) (hc : c < xn X) (hR : RepM mem0 0 X) (hS : SeM mem0 S) (hG : mem0 40 14 = goI 9) : ∀ (r v : Nat) (m : Mem), v + r = xp X c → QM mem0 m → (∀ j, m 40 j = mem0 40 j) → (∀ j, j < 23 → j ≠ 10 + c → m 41 (115 + j) = mem0 41 j) → (∀ h, h < v → ∀ t, t < 61 → m 47 (61 * h + t) = nI (who 9 (itX 9 nof (stH X c h) t))) → Go G (d + 4) mX6_handsOf 11 [(0, .ref 40), (1, .int (nI c)), (2, .int (nI (whF (fun v => sF S (stH X c v)) v))), (3, .int (nI v))] [] m (Ri (nI (whF (fun v => sF S (stH X c v)) (xp X c))) (fun m2 => QM mem0 m2 ∧ (∀ j, m2 40 j = mem0 40 j) ∧ ∀ h, h < xp X c → ∀ t, t < 61 → m2 47 (61 * h + t) = nI (who 9 (itX 9 nof (stH X c h) t)))) := by
  intro r
  have hn := hV.1
  obtain ⟨b1, b2, b3, b4, _⟩ := hV.2.2 c hc
  have e5 : (5 + nI c : Int32) = nI (5 + c) := by rw [show (5 : Int32) = nI 5 from rfl, nI_add]
  have e125 : (125 + nI c : Int32) = nI (125 + c) := by rw [show (125 : Int32) = nI 125 from rfl, nI_add]
  have ep : ∀ m : Mem, QM mem0 m → m 41 (5 + c) = nI (xp X c) := fun m h => by rw [h.2.1 (5 + c) (by omega)]; exact ((RepM0 hR).2.2.2 c hc).2.1
  induction r with
  | zero =>
    intro v m hv h1 h40 h2 h47
    have hv2 : v = xp X c := by omega
    refine sX6_handsOf_11 _ _ c v X S ?_
    rw [e5, ncl (show 5 + c < 2000000000 by omega), ep m h1]
    exact ⟨nin (by omega) (by omega), fun _ => Ri.mk (by rw [hv2]) ⟨h1, h40, by rw [← hv2]; exact h47⟩, fun z => absurd ((nle (by omega) (by omega)).mpr (by omega)) z⟩
  | succ r ih =>
    intro v m hv h1 h40 h2 h47
    refine sX6_handsOf_11 _ _ c v X S ?_
    rw [e5, e125, ncl (show 5 + c < 2000000000 by omega), ncl (show 125 + c < 2000000000 by omega), ep m h1]
    refine ⟨nin (by omega) (by omega), fun z => absurd ((nle (by omega) (by omega)).mp z) (by omega), fun _ => ⟨nin (by omega) (by omega), fun m2 e2 => ?_⟩⟩
    have k2 : ∀ j, j < 23 → j ≠ 10 + c → m2 41 (115 + j) = mem0 41 j := fun j a b => by rw [e2, um_at, if_neg (by omega)]; exact h2 j a b
    have k40 : ∀ j, m2 40 j = mem0 40 j := fun j => by rw [e2, um_ne (by decide)]; exact h40 j
    have Q2 : QM mem0 m2 := ⟨fun k a b c => by rw [e2, um_ne b, h1.1 k a b c], fun j hj => by rw [e2, um_at, if_neg (by omega)]; exact h1.2.1 j hj, fun j a b c => k40 j⟩
    refine ⟨⟨rfl, rfl⟩, ⟨Or.inr rfl, by omega⟩, VX_h hV (fun _ => by omega), Rep_h115 hn hc hR k2 (by rw [e2, show 125 + c = 115 + (10 + c) by omega, um_same]), hS.fr (k40 19) (Q2.1 46 (by omega) (by omega) (by omega)), by rw [k40]; exact hG, fun m9 h9 => ?_⟩
    have i9 := ih (v + 1) m9 (by omega) (Q2.tr h9.qm) (fun j => by rw [h9.1 40 (by decide) (by decide)]; exact k40 j) (fun j a b => by rw [h9.2.1 (115 + j) (by omega)]; exact k2 j a b) (fun h hh t ht => by
      by_cases z : h = v
      · subst z; exact h9.2.2.2 t ht
      · rw [h9.2.2.1 _ (by omega), e2, um_ne (by decide)]; exact h47 h (by omega) t ht)
    refine ⟨fun q y ey => ?_, fun q y ey => ?_⟩
    · rw [whF_f q] at i9
      rw [nI_1, ey, orz]; exact i9
    · rw [whF_t q] at i9
      rw [nI_1, ey, or_bit (by omega) (whF_lt _ _)]; exact i9
theorem kX6_handsOf {G : GX} (d : Nat) {mem : Mem} (a : Int32) (c : Nat) (X : Bm) (S : Se) (e : a = nI c) (hV : VX 9 30 X) (hc : c < xn X) (hR : RepM mem 0 X) (hS : SeM mem S) (hG : mem 40 14 = goI 9) : Cn G (d + 4) mX6_handsOf [.ref 40, .int a] mem (Ri (nI (whF (fun v => sF S (stH X c v)) (xp X c))) (fun m2 => QM mem m2 ∧ (∀ j, m2 40 j = mem 40 j) ∧ ∀ h, h < xp X c → ∀ t, t < 61 → m2 47 (61 * h + t) = nI (who 9 (itX 9 nof (stH X c h) t)))) := by
  rw [e]
  exact cn_of (by decide +kernel) (Nat.le_of_ble_eq_true rfl) (sX6_handsOf_0 _ ⟨⟨rfl, rfl⟩, ⟨by omega, by omega, by omega⟩, lX6_handsOf c X S hV hc hR hS hG (xp X c) 0 _ (by omega) (cpM_fr.qm (by omega)) (fun j => by rw [cpM_fr.1 40 (by decide)]) (fun j a _ => cpM_at a) (fun h hh => by omega)⟩)
theorem kX5_handsAsSeen {G : GX} (d : Nat) {mem : Mem} (a : Int32) (c : Nat) (X : Bm) (S : Se) (e : a = nI c) (hV : VX 9 30 X) (hc : c < xn X) (hR : RepB mem 1 X) (hS : SeC mem S) : Cn G (d + 5) mX5_handsAsSeen [.ref 0, .int a] mem (Ri (nI (whF (fun v => sF S (stH X c v)) (xp X c))) (QC mem)) := by
  rw [e]
  exact cn_of (by decide +kernel) (Nat.le_of_ble_eq_true rfl) (sX5_handsAsSeen_0 _ (lX5_handsAsSeen c X S hV hc hR hS (xp X c) 0 mem (by omega) (by omega) QC.rf))
