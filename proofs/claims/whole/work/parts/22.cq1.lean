set_option maxRecDepth 100000 in
theorem sX5_tryNow_0 {G : GX} {d : Nat} {mem : Mem} {Φ : Option Value → Mem → Prop} (X : Bm) (h : (6 + 4 < 1 ∨ 1 + 4 < 6) ∧ (xn X ≤ 5) ∧ (RepB mem 1 X) ∧ ∀ m4 : Mem, (RepB m4 6 X ∧ FrB 6 mem m4) → Φ (some (.ref 6)) m4) : Go G (d + 2) mX5_tryNow 0 [(0, .ref 0)] [] mem Φ := by
  refine go_aload_n dX5_tryNow_0 0 rfl ?_
  refine go_getR (kf := 1) (t := 6) rfl rfl rfl uwX5 (by decide) flX5_16 dX5_tryNow_1 ?_
  refine go_aload_n dX5_tryNow_4 0 rfl ?_
  refine go_getR (kf := 0) (t := 1) rfl rfl rfl uwX5 (by decide) flX5_12 dX5_tryNow_5 ?_
  obtain ⟨c1, h⟩ := h
  obtain ⟨c2, h⟩ := h
  obtain ⟨c3, h⟩ := h
  refine go_callV (st := []) (kX0_takeFrom (d + 0) 6 bA6 1 bA1 X c1 c2 c3) rfl rfl okX0_takeFrom insX0_takeFrom selX0_takeFrom lkX5_87 rfl rfl (Nat.le_of_ble_eq_true rfl) dX5_tryNow_8 (fun v_ m4 q => ?_)
  rw [q.1]
  have h := h m4 q.2
  refine go_stk (st2 := []) rfl ?_
  refine go_aload_n dX5_tryNow_11 0 rfl ?_
  refine go_getR (kf := 1) (t := 6) rfl rfl rfl uwX5 (by decide) flX5_16 dX5_tryNow_12 ?_
  exact go_aret rfl dX5_tryNow_15 h


theorem kX5_tryNow {G : GX} (d : Nat) {mem : Mem} (X : Bm) (hn : xn X ≤ 5) (hR : RepB mem 1 X) : Cn G (d + 2) mX5_tryNow [.ref 0] mem (Rr 6 (fun m2 => RepB m2 6 X ∧ FrB 6 mem m2)) :=
  cn_of (by decide +kernel) (Nat.le_of_ble_eq_true rfl) (sX5_tryNow_0 X ⟨by omega, hn, hR, fun m4 h4 => ⟨rfl, h4⟩⟩)

set_option maxRecDepth 100000 in
theorem sX5_sumOf_0 {G : GX} {d : Nat} {mem : Mem} {Φ : Option Value → Mem → Prop} (a : Nat) (hA : Sh[a]? = some (.inl (.int, 5, none))) (h : Go G (d + 0) mX5_sumOf 4 [(0, .ref 0), (1, .ref a), (2, .int 0), (3, .int 0)] [] mem Φ) : Go G (d + 0) mX5_sumOf 0 [(0, .ref 0), (1, .ref a)] [] mem Φ := by
  refine go_iconst (v := 0) dX5_sumOf_0 (by decide) ?_
  refine go_istore_n (L2 := [(2, .int 0), (0, .ref 0), (1, .ref a)]) dX5_sumOf_1 (by decide) rfl ?_
  refine go_iconst (v := 0) dX5_sumOf_2 (by decide) ?_
  refine go_istore_n (L2 := [(3, .int 0), (2, .int 0), (0, .ref 0), (1, .ref a)]) dX5_sumOf_3 (by decide) rfl ?_
  exact Go.pick [2, 3, 1, 0] rfl h

set_option maxRecDepth 100000 in
theorem sX5_sumOf_4 {G : GX} {d : Nat} {mem : Mem} {Φ : Option Value → Mem → Prop} (a : Nat) (hA : Sh[a]? = some (.inl (.int, 5, none))) (s i : Nat) (h : (((mem 1 4) ≤ (nI i) → Φ (some (.int (nI s))) mem) ∧ (¬ (mem 1 4) ≤ (nI i) → (vp_in (nI i) 5) ∧ ∀ y2 : Int32, y2 = ((nI s) + (mem a ((nI i) : Int32).toNatClampNeg)) → Go G (d + 0) mX5_sumOf 4 [(0, .ref 0), (1, .ref a), (2, .int y2), (3, .int ((nI i) + 1))] [] mem Φ))) : Go G (d + 0) mX5_sumOf 4 [(0, .ref 0), (1, .ref a), (2, .int (nI s)), (3, .int (nI i))] [] mem Φ := by
  refine go_iload_n dX5_sumOf_4 3 rfl ?_
  refine go_aload_n dX5_sumOf_5 0 rfl ?_
  refine go_getR (kf := 0) (t := 1) rfl rfl rfl uwX5 (by decide) flX5_12 dX5_sumOf_6 ?_
  refine go_getI (kf := 4) rfl rfl rfl uwX0 (by decide) flX5_96 dX5_sumOf_9 ?_
  refine go_icmp_ge 27 dX5_sumOf_12 (by decide) (fun q => ?_) (fun q => ?_)
  · have h := h.1 q
    refine go_iload_n dX5_sumOf_27 2 rfl ?_
    exact go_iret rfl dX5_sumOf_28 h
  · have h := h.2 q
    refine go_iload_n dX5_sumOf_15 2 rfl ?_
    refine go_aload_n dX5_sumOf_16 1 rfl ?_
    refine go_iload_n dX5_sumOf_17 3 rfl ?_
    obtain ⟨c1, h⟩ := h
    refine go_iaload hA c1 dX5_sumOf_18 ?_
    refine go_iadd dX5_sumOf_19 ?_
    refine go_topi (fun y2 qy2 => ?_)
    have h := h y2 qy2
    refine go_istore_n (L2 := [(2, .int y2), (0, .ref 0), (1, .ref a), (3, .int (nI i))]) dX5_sumOf_20 (by decide) rfl ?_
    refine go_iinc (v := ((nI i) + 1)) (L2 := [(3, .int ((nI i) + 1)), (2, .int y2), (0, .ref 0), (1, .ref a)]) dX5_sumOf_21 3 rfl rfl (by decide) rfl ?_
    refine go_goto 4 dX5_sumOf_24 (by decide) ?_
    exact Go.pick [2, 3, 1, 0] rfl h


theorem lX5_sumOf {G : GX} {d : Nat} {mem : Mem} (a : Nat) (hA : Sh[a]? = some (.inl (.int, 5, none))) {f : Nat → Nat} {n : Nat} (hn : n ≤ 5) (h1 : mem 1 4 = nI n) (h2 : ∀ c, c < n → mem a c = nI (f c)) : ∀ r i, i + r = n → Go G (d + 0) mX5_sumOf 4 [(0, .ref 0), (1, .ref a), (2, .int (nI (smF f i))), (3, .int (nI i))] [] mem (Ri (nI (smF f n)) (fun m2 => m2 = mem)) := by
  intro r
  induction r with
  | zero =>
    intro i hi
    refine sX5_sumOf_4 a hA _ i ?_
    rw [h1, show i = n by omega]
    exact ⟨fun _ => ⟨rfl, rfl⟩, fun q => absurd (Int32.le_refl _) q⟩
  | succ r ih =>
    intro i hi
    refine sX5_sumOf_4 a hA _ i ?_
    rw [h1, ncl (show i < 2000000000 by omega), h2 i (by omega), nI_add, nI_1]
    exact ⟨fun q => absurd ((nle (by omega) (by omega)).mp q) (by omega), fun _ => ⟨nin (by omega) (by omega), fun y hy => by rw [hy]; exact ih (i + 1) (by omega)⟩⟩
theorem kX5_sumOf {G : GX} (d : Nat) {mem : Mem} (a : Nat) (hA : Sh[a]? = some (.inl (.int, 5, none))) (f : Nat → Nat) (n : Nat) (hn : n ≤ 5) (h1 : mem 1 4 = nI n) (h2 : ∀ c, c < n → mem a c = nI (f c)) : Cn G (d + 0) mX5_sumOf [.ref 0, .ref a] mem (Ri (nI (smF f n)) (fun m2 => m2 = mem)) :=
  cn_of (by decide +kernel) (Nat.le_of_ble_eq_true rfl) (sX5_sumOf_0 a hA (lX5_sumOf a hA hn h1 h2 n 0 (by omega)))
-- rule
def ruleA (X : Bm) (w : Int32) : Int32 := if w = 0 then nI (xn X) else if w = 1 then nI (xu X) else if w = 2 then nI (xt X) else if w = 3 then nI (smF (xe X) (xn X)) else if w = 4 then nI (who 9 X) else if w = 5 then nI (smF (xh X) (xn X)) else -1

set_option maxRecDepth 100000 in
theorem sX5_rule_0 {G : GX} {d : Nat} {mem : Mem} {Φ : Option Value → Mem → Prop} (a1 : Int32) (X : Bm) (h : ((a1 = 0 → Φ (some (.int (mem 1 4))) mem) ∧ (¬ a1 = 0 → ((a1 = 1 → Φ (some (.int (mem 1 5))) mem) ∧ (¬ a1 = 1 → ((a1 = 2 → Φ (some (.int (mem 1 6))) mem) ∧ (¬ a1 = 2 → ((a1 = 3 → (xn X ≤ 5) ∧ (mem 1 4 = nI (xn X)) ∧ (∀ c, c < xn X → mem 5 c = nI ((xe X) c)) ∧ Φ (some (.int (nI (smF (xe X) (xn X))))) mem) ∧ (¬ a1 = 3 → ((a1 = 4 → (xn X ≤ 5) ∧ (RepB mem 1 X) ∧ ∀ m6 : Mem, (RepB m6 6 X ∧ FrB 6 mem m6) → (VX 9 30 X) ∧ (RepB m6 6 X) ∧ ∀ m9 : Mem, (RepB m9 6 (tkX 9 false X) ∧ FrB 6 m6 m9) → Φ (some (.int (nI (who 9 X)))) m9) ∧ (¬ a1 = 4 → ((a1 = 5 → (xn X ≤ 5) ∧ (mem 1 4 = nI (xn X)) ∧ (∀ c, c < xn X → mem 4 c = nI ((xh X) c)) ∧ Φ (some (.int (nI (smF (xh X) (xn X))))) mem) ∧ (¬ a1 = 5 → Φ (some (.int (-1))) mem))))))))))))) : Go G (d + 4) mX5_rule 0 [(0, .ref 0), (1, .int a1)] [] mem Φ := by
  refine go_iload_n dX5_rule_0 1 rfl ?_
  by_cases q0 : a1 = 0
  · have h := h.1 q0
    refine go_tabEq q0 40 dX5_rule_1 (by decide) (by decide) rfl (by decide) ?_
    refine go_aload_n dX5_rule_40 0 rfl ?_
    refine go_getR (kf := 0) (t := 1) rfl rfl rfl uwX5 (by decide) flX5_12 dX5_rule_41 ?_
    refine go_getI (kf := 4) rfl rfl rfl uwX0 (by decide) flX5_96 dX5_rule_44 ?_
    exact go_iret rfl dX5_rule_47 h
  have h := h.2 q0
  by_cases q1 : a1 = 1
  · have h := h.1 q1
    refine go_tabEq q1 48 dX5_rule_1 (by decide) (by decide) rfl (by decide) ?_
    refine go_aload_n dX5_rule_48 0 rfl ?_
    refine go_getR (kf := 0) (t := 1) rfl rfl rfl uwX5 (by decide) flX5_12 dX5_rule_49 ?_
    refine go_getI (kf := 5) rfl rfl rfl uwX0 (by decide) flX5_99 dX5_rule_52 ?_
    exact go_iret rfl dX5_rule_55 h
  have h := h.2 q1
  by_cases q2 : a1 = 2
  · have h := h.1 q2
    refine go_tabEq q2 56 dX5_rule_1 (by decide) (by decide) rfl (by decide) ?_
    refine go_aload_n dX5_rule_56 0 rfl ?_
    refine go_getR (kf := 0) (t := 1) rfl rfl rfl uwX5 (by decide) flX5_12 dX5_rule_57 ?_
    refine go_getI (kf := 6) rfl rfl rfl uwX0 (by decide) flX5_102 dX5_rule_60 ?_
    exact go_iret rfl dX5_rule_63 h
  have h := h.2 q2
  by_cases q3 : a1 = 3
  · have h := h.1 q3
    refine go_tabEq q3 64 dX5_rule_1 (by decide) (by decide) rfl (by decide) ?_
    refine go_aload_n dX5_rule_64 0 rfl ?_
    refine go_aload_n dX5_rule_65 0 rfl ?_
    refine go_getR (kf := 0) (t := 1) rfl rfl rfl uwX5 (by decide) flX5_12 dX5_rule_66 ?_
    refine go_getR (kf := 3) (t := 5) rfl rfl rfl uwX0 (by decide) flX5_105 dX5_rule_69 ?_
    obtain ⟨c1, h⟩ := h
    obtain ⟨c2, h⟩ := h
    obtain ⟨c3, h⟩ := h
    refine go_callV (st := []) (kX5_sumOf (d + 3) 5 rfl (xe X) (xn X) c1 c2 c3) rfl rfl okX5_sumOf insX5_sumOf selX5_sumOf lkX5_108 rfl rfl (Nat.le_of_ble_eq_true rfl) dX5_rule_72 (fun v_ m2_ q => ?_)
    rw [q.1, q.2]
    refine go_stk (st2 := [.int (nI (smF (xe X) (xn X)))]) rfl ?_
    exact go_iret rfl dX5_rule_75 h
  have h := h.2 q3
  by_cases q4 : a1 = 4
  · have h := h.1 q4
    refine go_tabEq q4 76 dX5_rule_1 (by decide) (by decide) rfl (by decide) ?_
    refine go_aload_n dX5_rule_76 0 rfl ?_
    obtain ⟨c4, h⟩ := h
    obtain ⟨c5, h⟩ := h
    refine go_callV (st := []) (kX5_tryNow (d + 1) X c4 c5) rfl rfl okX5_tryNow insX5_tryNow selX5_tryNow lkX5_112 rfl rfl (Nat.le_of_ble_eq_true rfl) dX5_rule_77 (fun v_ m6 q => ?_)
    rw [q.1]
    have h := h m6 q.2
    refine go_stk (st2 := [.ref 6]) rfl ?_
    refine go_iconst (v := 0) dX5_rule_80 (by decide) ?_
    obtain ⟨c7, h⟩ := h
    obtain ⟨c8, h⟩ := h
    refine go_callV (st := []) (kX0_step (d + 0) 6 bA6 X false 30 c7 c8) rfl rfl okX0_step insX0_step selX0_step lkX5_116 rfl rfl (Nat.le_of_ble_eq_true rfl) dX5_rule_81 (fun v_ m9 q => ?_)
    rw [q.1]
    have h := h m9 q.2
    refine go_stk (st2 := [.int (nI (who 9 X))]) rfl ?_
    exact go_iret rfl dX5_rule_84 h
  have h := h.2 q4
  by_cases q5 : a1 = 5
  · have h := h.1 q5
    refine go_tabEq q5 85 dX5_rule_1 (by decide) (by decide) rfl (by decide) ?_
    refine go_aload_n dX5_rule_85 0 rfl ?_
    refine go_aload_n dX5_rule_86 0 rfl ?_
    refine go_getR (kf := 0) (t := 1) rfl rfl rfl uwX5 (by decide) flX5_12 dX5_rule_87 ?_
    refine go_getR (kf := 2) (t := 4) rfl rfl rfl uwX0 (by decide) flX5_120 dX5_rule_90 ?_
    obtain ⟨c10, h⟩ := h
    obtain ⟨c11, h⟩ := h
    obtain ⟨c12, h⟩ := h
    refine go_callV (st := []) (kX5_sumOf (d + 3) 4 rfl (xh X) (xn X) c10 c11 c12) rfl rfl okX5_sumOf insX5_sumOf selX5_sumOf lkX5_108 rfl rfl (Nat.le_of_ble_eq_true rfl) dX5_rule_93 (fun v_ m2_ q => ?_)
    rw [q.1, q.2]
    refine go_stk (st2 := [.int (nI (smF (xh X) (xn X)))]) rfl ?_
    exact go_iret rfl dX5_rule_96 h
  have h := h.2 q5
  have e0 := neI q0 (z := 0) (by decide)
  have e1 := neI q1 (z := 1) (by decide)
  have e2 := neI q2 (z := 2) (by decide)
  have e3 := neI q3 (z := 3) (by decide)
  have e4 := neI q4 (z := 4) (by decide)
  have e5 := neI q5 (z := 5) (by decide)
  refine go_tabOut 97 dX5_rule_1 (by omega) (by decide) ?_
  refine go_iconst (v := (-1)) dX5_rule_97 (by decide) ?_
  exact go_iret rfl dX5_rule_98 h


theorem kX5_rule {G : GX} (d : Nat) {mem : Mem} (w : Int32) (X : Bm) (h : C1 mem X) : Cn G (d + 4) mX5_rule [.ref 0, .int w] mem (Ri (ruleA X w) (QC mem)) := by
  obtain ⟨hB, hM, hV, ht⟩ := h
  refine cn_of (by decide +kernel) (Nat.le_of_ble_eq_true rfl) (sX5_rule_0 w X ?_)
  rw [hB.1, hB.2.1, hB.2.2.1]
  unfold ruleA
  refine ⟨fun q0 => ?_, fun q0 => ⟨fun q1 => ?_, fun q1 => ⟨fun q2 => ?_, fun q2 => ⟨fun q3 => ?_, fun q3 => ⟨fun q4 => ?_, fun q4 => ⟨fun q5 => ?_, fun q5 => ?_⟩⟩⟩⟩⟩⟩
  · rw [if_pos q0]; exact ⟨rfl, QC.rf⟩
  · rw [if_neg q0, if_pos q1]; exact ⟨rfl, QC.rf⟩
  · rw [if_neg q0, if_neg q1, if_pos q2]; exact ⟨rfl, QC.rf⟩
  · rw [if_neg q0, if_neg q1, if_neg q2, if_pos q3]; exact ⟨hV.1, rfl, fun c hc => (hB.2.2.2 c hc).2.2.2, rfl, QC.rf⟩
  · rw [if_neg q0, if_neg q1, if_neg q2, if_neg q3, if_pos q4]
    exact ⟨hV.1, hB, fun m6 h6 => ⟨hV, h6.1, fun m9 h9 => ⟨rfl, (h6.2.tr h9.2).qc⟩⟩⟩
  · rw [if_neg q0, if_neg q1, if_neg q2, if_neg q3, if_neg q4, if_pos q5]; exact ⟨hV.1, rfl, fun c hc => (hB.2.2.2 c hc).2.2.1, rfl, QC.rf⟩
  · rw [if_neg q0, if_neg q1, if_neg q2, if_neg q3, if_neg q4, if_neg q5]; exact ⟨rfl, QC.rf⟩
-- clock
abbrev isC (X : Bm) (c : Int32) : Prop := 0 ≤ c ∧ c < nI (xn X)
theorem isC_n {X : Bm} {c : Int32} (h : isC X c) (hn : xn X ≤ 5) : ∃ i : Nat, i < xn X ∧ c = nI i := by
  obtain ⟨j, hj, rfl⟩ := nI_of (Int32.not_lt.mpr h.1)
  exact ⟨j, (nI_ltI hj (by omega)).mp h.2, rfl⟩
def clockA (X : Bm) (i : Nat) (w : Int32) : Int32 := if w = 0 then nI (xk X i) else if w = 1 then nI (xp X i) else if w = 2 then nI (xh X i) else if w = 3 then nI (xe X i) else if w = 4 then bI (¬ nI (xk X i) = 3 ∧ nI (xp X i) ≤ 2 * nI (xh X i)) else -1

set_option maxRecDepth 100000 in
theorem sX5_clock_0 {G : GX} {d : Nat} {mem : Mem} {Φ : Option Value → Mem → Prop} (a1 a2 : Int32) (h : (((0 ≤ a1 ∧ a1 < mem 1 4) → ((a2 = 0 → (vp_in a1 5) ∧ Φ (some (.int (mem 2 (a1 : Int32).toNatClampNeg))) mem) ∧ (¬ a2 = 0 → ((a2 = 1 → (vp_in a1 5) ∧ Φ (some (.int (mem 3 (a1 : Int32).toNatClampNeg))) mem) ∧ (¬ a2 = 1 → ((a2 = 2 → (vp_in a1 5) ∧ Φ (some (.int (mem 4 (a1 : Int32).toNatClampNeg))) mem) ∧ (¬ a2 = 2 → ((a2 = 3 → (vp_in a1 5) ∧ Φ (some (.int (mem 5 (a1 : Int32).toNatClampNeg))) mem) ∧ (¬ a2 = 3 → ((a2 = 4 → (vp_in a1 5) ∧ ((¬ (¬ mem (1 + 1) (a1 : Int32).toNatClampNeg = 3 ∧ mem (1 + 2) (a1 : Int32).toNatClampNeg ≤ 2 * mem (1 + 3) (a1 : Int32).toNatClampNeg) → Φ (some (.int 0)) mem) ∧ ((¬ mem (1 + 1) (a1 : Int32).toNatClampNeg = 3 ∧ mem (1 + 2) (a1 : Int32).toNatClampNeg ≤ 2 * mem (1 + 3) (a1 : Int32).toNatClampNeg) → Φ (some (.int 1)) mem))) ∧ (¬ a2 = 4 → Φ (some (.int (-1))) mem))))))))))) ∧ (¬ (0 ≤ a1 ∧ a1 < mem 1 4) → Φ (some (.int (-1))) mem))) : Go G (d + 1) mX5_clock 0 [(0, .ref 0), (1, .int a1), (2, .int a2)] [] mem Φ := by
  refine go_aload_n dX5_clock_0 0 rfl ?_
  refine go_iload_n dX5_clock_1 1 rfl ?_
  refine go_callV (st := []) (kX5_isClock (d + 0) a1) rfl rfl okX5_isClock insX5_isClock selX5_isClock lkX5_123 rfl rfl (Nat.le_of_ble_eq_true rfl) dX5_clock_2 (fun v_ m2_ q => ?_)
  rw [q.1, q.2]
  refine go_stk (st2 := [.int (bI (0 ≤ a1 ∧ a1 < mem 1 4))]) rfl ?_
  refine go_if_ne 10 dX5_clock_5 (by decide) (fun q => ?_) (fun q => ?_)
  · have h := h.1 (bI1.mp q)
    refine go_iload_n dX5_clock_10 2 rfl ?_
    by_cases q0 : a2 = 0
    · have h := h.1 q0
      refine go_tabEq q0 44 dX5_clock_11 (by decide) (by decide) rfl (by decide) ?_
      refine go_aload_n dX5_clock_44 0 rfl ?_
      refine go_getR (kf := 0) (t := 1) rfl rfl rfl uwX5 (by decide) flX5_12 dX5_clock_45 ?_
      refine go_getR (kf := 0) (t := 2) rfl rfl rfl uwX0 (by decide) flX5_127 dX5_clock_48 ?_
      refine go_iload_n dX5_clock_51 1 rfl ?_
      obtain ⟨c1, h⟩ := h
      refine go_iaload rfl c1 dX5_clock_52 ?_
      exact go_iret rfl dX5_clock_53 h
    have h := h.2 q0
    by_cases q1 : a2 = 1
    · have h := h.1 q1
      refine go_tabEq q1 54 dX5_clock_11 (by decide) (by decide) rfl (by decide) ?_
      refine go_aload_n dX5_clock_54 0 rfl ?_
      refine go_getR (kf := 0) (t := 1) rfl rfl rfl uwX5 (by decide) flX5_12 dX5_clock_55 ?_
      refine go_getR (kf := 1) (t := 3) rfl rfl rfl uwX0 (by decide) flX5_130 dX5_clock_58 ?_
      refine go_iload_n dX5_clock_61 1 rfl ?_
      obtain ⟨c2, h⟩ := h
      refine go_iaload rfl c2 dX5_clock_62 ?_
      exact go_iret rfl dX5_clock_63 h
    have h := h.2 q1
    by_cases q2 : a2 = 2
    · have h := h.1 q2
      refine go_tabEq q2 64 dX5_clock_11 (by decide) (by decide) rfl (by decide) ?_
      refine go_aload_n dX5_clock_64 0 rfl ?_
      refine go_getR (kf := 0) (t := 1) rfl rfl rfl uwX5 (by decide) flX5_12 dX5_clock_65 ?_
      refine go_getR (kf := 2) (t := 4) rfl rfl rfl uwX0 (by decide) flX5_120 dX5_clock_68 ?_
      refine go_iload_n dX5_clock_71 1 rfl ?_
      obtain ⟨c3, h⟩ := h
      refine go_iaload rfl c3 dX5_clock_72 ?_
      exact go_iret rfl dX5_clock_73 h
    have h := h.2 q2
    by_cases q3 : a2 = 3
    · have h := h.1 q3
      refine go_tabEq q3 74 dX5_clock_11 (by decide) (by decide) rfl (by decide) ?_
      refine go_aload_n dX5_clock_74 0 rfl ?_
      refine go_getR (kf := 0) (t := 1) rfl rfl rfl uwX5 (by decide) flX5_12 dX5_clock_75 ?_
      refine go_getR (kf := 3) (t := 5) rfl rfl rfl uwX0 (by decide) flX5_105 dX5_clock_78 ?_
      refine go_iload_n dX5_clock_81 1 rfl ?_
      obtain ⟨c4, h⟩ := h
      refine go_iaload rfl c4 dX5_clock_82 ?_
      exact go_iret rfl dX5_clock_83 h
    have h := h.2 q3
    by_cases q4 : a2 = 4
    · have h := h.1 q4
      refine go_tabEq q4 84 dX5_clock_11 (by decide) (by decide) rfl (by decide) ?_
      refine go_aload_n dX5_clock_84 0 rfl ?_
      refine go_getR (kf := 0) (t := 1) rfl rfl rfl uwX5 (by decide) flX5_12 dX5_clock_85 ?_
      refine go_iload_n dX5_clock_88 1 rfl ?_
      obtain ⟨c5, h⟩ := h
      refine go_callV (st := []) (kX0_goesOn (d + 0) 1 bA1 a1 c5) rfl rfl okX0_goesOn insX0_goesOn selX0_goesOn lkX5_133 rfl rfl (Nat.le_of_ble_eq_true rfl) dX5_clock_89 (fun v_ m2_ q => ?_)
      rw [q.1, q.2]
      refine go_stk (st2 := [.int (bI (¬ mem (1 + 1) (a1 : Int32).toNatClampNeg = 3 ∧ mem (1 + 2) (a1 : Int32).toNatClampNeg ≤ 2 * mem (1 + 3) (a1 : Int32).toNatClampNeg))]) rfl ?_
      refine go_if_eq 99 dX5_clock_92 (by decide) (fun q => ?_) (fun q => ?_)
      · have h := h.1 (bI0.mp q)
        refine go_iconst (v := 0) dX5_clock_99 (by decide) ?_
        exact go_iret rfl dX5_clock_100 h
      · have h := h.2 (bI1.mp q)
        refine go_iconst (v := 1) dX5_clock_95 (by decide) ?_
        refine go_goto 100 dX5_clock_96 (by decide) ?_
        exact go_iret rfl dX5_clock_100 h
    have h := h.2 q4
    have e0 := neI q0 (z := 0) (by decide)
    have e1 := neI q1 (z := 1) (by decide)
    have e2 := neI q2 (z := 2) (by decide)
    have e3 := neI q3 (z := 3) (by decide)
    have e4 := neI q4 (z := 4) (by decide)
    refine go_tabOut 101 dX5_clock_11 (by omega) (by decide) ?_
    refine go_iconst (v := (-1)) dX5_clock_101 (by decide) ?_
    exact go_iret rfl dX5_clock_102 h
  · have h := h.2 (bI0.mp q)
    refine go_iconst (v := (-1)) dX5_clock_8 (by decide) ?_
    exact go_iret rfl dX5_clock_9 h


theorem kX5_clockN {G : GX} (d : Nat) {mem : Mem} (c w : Int32) (X : Bm) (h : C1 mem X) (hc : ¬ isC X c) : Cn G (d + 1) mX5_clock [.ref 0, .int c, .int w] mem (Ri (-1) (QC mem)) := by
  refine cn_of (by decide +kernel) (Nat.le_of_ble_eq_true rfl) (sX5_clock_0 c w ?_)
  rw [h.1.1]
  exact ⟨fun q => absurd q hc, fun _ => ⟨rfl, QC.rf⟩⟩
theorem kX5_clock {G : GX} (d : Nat) {mem : Mem} (i : Nat) (w : Int32) (X : Bm) (h : C1 mem X) (hi : i < xn X) : Cn G (d + 1) mX5_clock [.ref 0, .int (nI i), .int w] mem (Ri (clockA X i w) (QC mem)) := by
  have hn := h.2.2.1.1
  have hB := h.1
  obtain ⟨b1, b2, b3, b4⟩ := hB.2.2.2 i hi
  refine cn_of (by decide +kernel) (Nat.le_of_ble_eq_true rfl) (sX5_clock_0 (nI i) w ?_)
  rw [hB.1, ncl (show i < 2000000000 by omega), b1, b2, b3, b4]
  have hin : vp_in (nI i) 5 := nin (by omega) (by omega)
  unfold clockA
  refine ⟨fun _ => ⟨fun q0 => ?_, fun q0 => ⟨fun q1 => ?_, fun q1 => ⟨fun q2 => ?_, fun q2 => ⟨fun q3 => ?_, fun q3 => ⟨fun q4 => ?_, fun q4 => ?_⟩⟩⟩⟩⟩, fun q => absurd ⟨nI_pos' (by omega), (nlt (by omega) (by omega)).mpr hi⟩ q⟩
  · rw [if_pos q0]; exact ⟨hin, rfl, QC.rf⟩
  · rw [if_neg q0, if_pos q1]; exact ⟨hin, rfl, QC.rf⟩
  · rw [if_neg q0, if_neg q1, if_pos q2]; exact ⟨hin, rfl, QC.rf⟩
  · rw [if_neg q0, if_neg q1, if_neg q2, if_pos q3]; exact ⟨hin, rfl, QC.rf⟩
  · rw [if_neg q0, if_neg q1, if_neg q2, if_neg q3, if_pos q4]
    exact ⟨hin, fun q => Ri.mk (bIf q).symm QC.rf, fun q => Ri.mk (bIt q).symm QC.rf⟩
  · rw [if_neg q0, if_neg q1, if_neg q2, if_neg q3, if_neg q4]; exact ⟨rfl, QC.rf⟩
-- runs
def ldX (X : Bm) : Nat → Nat
  | 0 => 0
  | t + 1 => ldX X t + (if many 9 (itX 9 nof X t) = 0 then 0 else 1)
def msX (X : Bm) : Nat → Nat
  | 0 => 0
  | t + 1 => if msX X t < many 9 (itX 9 nof X t) then many 9 (itX 9 nof X t) else msX X t
def flX (X : Bm) : Nat → Nat
  | 0 => 0
  | t + 1 => flX X t + (if togX 9 (itX 9 nof X t) = true then 1 else 0)
def runsA (X : Bm) (n : Nat) (w : Int32) : Int32 := if w = 0 then nI (smX 9 nof X n) else if w = 1 then nI (ldX X n) else if w = 2 then nI (msX X n) else if w = 3 then nI (flX X n) else nI (smF (xh (itX 9 nof X n)) (xn X))
theorem ms_le {X : Bm} {B : Nat} (h : VX 9 B X) : ∀ t, msX X t ≤ 5
  | 0 => Nat.zero_le _
  | t + 1 => by
    have := ms_le h t
    have := many_le (VX_it (hf := nof) h t)
    unfold msX
    split <;> omega
theorem i300 {a M : Int32} {n : Nat} (hM : M = nI n) (hn : n < 2000000000) (h : 0 ≤ a ∧ a ≤ M) : ∃ k : Nat, k ≤ n ∧ a = nI k := by
  obtain ⟨e, hl⟩ := nat_of h.1
  have h2 := h.2
  rw [e, hM] at h2
  have h3 := (fa_le _ _).mp h2
  rw [nI_toInt (by omega), nI_toInt (by omega)] at h3
  exact ⟨a.toNatClampNeg, by omega, e⟩

set_option maxRecDepth 100000 in
theorem sX5_runs_0 {G : GX} {d : Nat} {mem : Mem} {Φ : Option Value → Mem → Prop} (a1 wh : Int32) (X : Bm) (h : ((¬ (0 ≤ a1 ∧ a1 ≤ 300) → Φ (some (.int (-1))) mem) ∧ ((0 ≤ a1 ∧ a1 ≤ 300) → (((0 ≤ wh ∧ wh ≤ 4) → (xn X ≤ 5) ∧ (RepB mem 1 X) ∧ ∀ m3 : Mem, (RepB m3 6 X ∧ FrB 6 mem m3) → ∀ y4 : Int32, y4 = ((1 <<< ((m3 6 4) &&& 31)) - 1) → Go G (d + 4) mX5_runs 50 [(0, .ref 0), (1, .int a1), (2, .int wh), (3, .int y4), (4, .int 0), (5, .int 0), (6, .int 0), (7, .int 0), (8, .int 0)] [] m3 Φ) ∧ (¬ (0 ≤ wh ∧ wh ≤ 4) → Φ (some (.int (-1))) mem))))) : Go G (d + 4) mX5_runs 0 [(0, .ref 0), (1, .int a1), (2, .int wh)] [] mem Φ := by
  refine go_iload_n dX5_runs_0 1 rfl ?_
  refine go_iconst (v := 0) dX5_runs_1 (by decide) ?_
  refine go_sipush (v := 300) dX5_runs_2 (by decide) ?_
  refine go_callS (st := []) (kX5_isWithin (d + 3) a1 0 300) okX5_isWithin staX5_isWithin lkX5_59 rfl rfl (Nat.le_of_ble_eq_true rfl) dX5_runs_5 (fun v_ m2_ q => ?_)
  rw [q.1, q.2]
  refine go_stk (st2 := [.int (bI (0 ≤ a1 ∧ a1 ≤ 300))]) rfl ?_
  refine go_if_eq 20 dX5_runs_8 (by decide) (fun q => ?_) (fun q => ?_)
  · have h := h.1 (bI0.mp q)
    refine go_iconst (v := (-1)) dX5_runs_20 (by decide) ?_
    exact go_iret rfl dX5_runs_21 h
  · have h := h.2 (bI1.mp q)
    refine go_iload_n dX5_runs_11 2 rfl ?_
    refine go_iconst (v := 0) dX5_runs_12 (by decide) ?_
    refine go_iconst (v := 4) dX5_runs_13 (by decide) ?_
    refine go_callS (st := []) (kX5_isWithin (d + 3) wh 0 4) okX5_isWithin staX5_isWithin lkX5_59 rfl rfl (Nat.le_of_ble_eq_true rfl) dX5_runs_14 (fun v_ m2_ q => ?_)
    rw [q.1, q.2]
    refine go_stk (st2 := [.int (bI (0 ≤ wh ∧ wh ≤ 4))]) rfl ?_
    refine go_if_ne 22 dX5_runs_17 (by decide) (fun q => ?_) (fun q => ?_)
    · have h := h.1 (bI1.mp q)
      refine go_aload_n dX5_runs_22 0 rfl ?_
      obtain ⟨c1, h⟩ := h
      obtain ⟨c2, h⟩ := h
      refine go_callV (st := []) (kX5_tryNow (d + 1) X c1 c2) rfl rfl okX5_tryNow insX5_tryNow selX5_tryNow lkX5_112 rfl rfl (Nat.le_of_ble_eq_true rfl) dX5_runs_23 (fun v_ m3 q => ?_)
      rw [q.1]
      have h := h m3 q.2
      refine go_stk (st2 := [.ref 6]) rfl ?_
      refine go_pop dX5_runs_26 rfl ?_
      refine go_aload_n dX5_runs_27 0 rfl ?_
      refine go_getR (kf := 1) (t := 6) rfl rfl rfl uwX5 (by decide) flX5_16 dX5_runs_28 ?_
      refine go_callV (st := []) (kX0_everyClock (d + 3) 6 bA6) rfl rfl okX0_everyClock insX0_everyClock selX0_everyClock lkX5_158 rfl rfl (Nat.le_of_ble_eq_true rfl) dX5_runs_31 (fun v_ m2_ q => ?_)
      rw [q.1, q.2]
      refine go_stk (st2 := [.int ((1 <<< ((m3 6 4) &&& 31)) - 1)]) rfl ?_
      refine go_topi (fun y4 qy4 => ?_)
      have h := h y4 qy4
      refine go_istore_n (L2 := [(3, .int y4), (0, .ref 0), (1, .int a1), (2, .int wh)]) dX5_runs_34 (by decide) rfl ?_
      refine go_iconst (v := 0) dX5_runs_35 (by decide) ?_
      refine go_istore (L2 := [(4, .int 0), (3, .int y4), (0, .ref 0), (1, .int a1), (2, .int wh)]) dX5_runs_36 (by decide) rfl ?_
      refine go_iconst (v := 0) dX5_runs_38 (by decide) ?_
      refine go_istore (L2 := [(5, .int 0), (4, .int 0), (3, .int y4), (0, .ref 0), (1, .int a1), (2, .int wh)]) dX5_runs_39 (by decide) rfl ?_
      refine go_iconst (v := 0) dX5_runs_41 (by decide) ?_
      refine go_istore (L2 := [(6, .int 0), (5, .int 0), (4, .int 0), (3, .int y4), (0, .ref 0), (1, .int a1), (2, .int wh)]) dX5_runs_42 (by decide) rfl ?_
      refine go_iconst (v := 0) dX5_runs_44 (by decide) ?_
      refine go_istore (L2 := [(7, .int 0), (6, .int 0), (5, .int 0), (4, .int 0), (3, .int y4), (0, .ref 0), (1, .int a1), (2, .int wh)]) dX5_runs_45 (by decide) rfl ?_
      refine go_iconst (v := 0) dX5_runs_47 (by decide) ?_
      refine go_istore (L2 := [(8, .int 0), (7, .int 0), (6, .int 0), (5, .int 0), (4, .int 0), (3, .int y4), (0, .ref 0), (1, .int a1), (2, .int wh)]) dX5_runs_48 (by decide) rfl ?_
      exact Go.pick [6, 7, 8, 5, 4, 3, 2, 1, 0] rfl h
    · have h := h.2 (bI0.mp q)
      refine go_iconst (v := (-1)) dX5_runs_20 (by decide) ?_
      exact go_iret rfl dX5_runs_21 h

set_option maxRecDepth 100000 in
theorem sX5_runs_50 {G : GX} {d : Nat} {mem : Mem} {Φ : Option Value → Mem → Prop} (n : Nat) (wh : Int32) (al s an mo fu i : Nat) (X : Bm) (h : (((nI n) ≤ (nI i) → ((wh = 0 → Φ (some (.int (nI s))) mem) ∧ (¬ wh = 0 → ((wh = 1 → Φ (some (.int (nI an))) mem) ∧ (¬ wh = 1 → ((wh = 2 → Φ (some (.int (nI mo))) mem) ∧ (¬ wh = 2 → ((wh = 3 → Φ (some (.int (nI fu))) mem) ∧ (¬ wh = 3 → (xn X ≤ 5) ∧ (RepB mem 6 X) ∧ Φ (some (.int (nI (smF (xh X) (xn X))))) mem))))))))) ∧ (¬ (nI n) ≤ (nI i) → (VX 9 30 X) ∧ (RepB mem 6 X) ∧ ∀ m5 : Mem, (RepB m5 6 (tkX 9 false X) ∧ FrB 6 mem m5) → ∀ y6 : Int32, y6 = (bcI (nI (who 9 X))) → ∀ y7 : Int32, y7 = ((nI s) + y6) → ∀ y8 : Int32, y8 = (if (nI mo) < y6 then y6 else (nI mo)) → (((nI (who 9 X)) = 0 → Go G (d + 4) mX5_runs 50 [(0, .ref 0), (1, .int (nI n)), (2, .int wh), (3, .int (nI al)), (4, .int y7), (5, .int (nI an)), (6, .int y8), (7, .int (nI fu)), (8, .int ((nI i) + 1))] [] m5 Φ) ∧ (¬ (nI (who 9 X)) = 0 → ((¬ (nI (who 9 X)) = (nI al) → ∀ y9 : Int32, y9 = ((nI fu) + 0) → Go G (d + 4) mX5_runs 50 [(0, .ref 0), (1, .int (nI n)), (2, .int wh), (3, .int (nI al)), (4, .int y7), (5, .int ((nI an) + 1)), (6, .int y8), (7, .int y9), (8, .int ((nI i) + 1))] [] m5 Φ) ∧ ((nI (who 9 X)) = (nI al) → ∀ y10 : Int32, y10 = ((nI fu) + 1) → Go G (d + 4) mX5_runs 50 [(0, .ref 0), (1, .int (nI n)), (2, .int wh), (3, .int (nI al)), (4, .int y7), (5, .int ((nI an) + 1)), (6, .int y8), (7, .int y10), (8, .int ((nI i) + 1))] [] m5 Φ))))))) : Go G (d + 4) mX5_runs 50 [(0, .ref 0), (1, .int (nI n)), (2, .int wh), (3, .int (nI al)), (4, .int (nI s)), (5, .int (nI an)), (6, .int (nI mo)), (7, .int (nI fu)), (8, .int (nI i))] [] mem Φ := by
  refine go_iload dX5_runs_50 8 rfl ?_
  refine go_iload_n dX5_runs_52 1 rfl ?_
  refine go_icmp_ge 119 dX5_runs_53 (by decide) (fun q => ?_) (fun q => ?_)
  · have h := h.1 q
    refine go_iload_n dX5_runs_119 2 rfl ?_
    by_cases q0 : wh = 0
    · have h := h.1 q0
      refine go_tabEq q0 152 dX5_runs_120 (by decide) (by decide) rfl (by decide) ?_
      refine go_iload dX5_runs_152 4 rfl ?_
      exact go_iret rfl dX5_runs_154 h
    have h := h.2 q0
    by_cases q1 : wh = 1
    · have h := h.1 q1
      refine go_tabEq q1 155 dX5_runs_120 (by decide) (by decide) rfl (by decide) ?_
      refine go_iload dX5_runs_155 5 rfl ?_
      exact go_iret rfl dX5_runs_157 h
    have h := h.2 q1
    by_cases q2 : wh = 2
    · have h := h.1 q2
      refine go_tabEq q2 158 dX5_runs_120 (by decide) (by decide) rfl (by decide) ?_
      refine go_iload dX5_runs_158 6 rfl ?_
      exact go_iret rfl dX5_runs_160 h
    have h := h.2 q2
    by_cases q3 : wh = 3
    · have h := h.1 q3
      refine go_tabEq q3 161 dX5_runs_120 (by decide) (by decide) rfl (by decide) ?_
      refine go_iload dX5_runs_161 7 rfl ?_
      exact go_iret rfl dX5_runs_163 h
    have h := h.2 q3
    have e0 := neI q0 (z := 0) (by decide)
    have e1 := neI q1 (z := 1) (by decide)
    have e2 := neI q2 (z := 2) (by decide)
    have e3 := neI q3 (z := 3) (by decide)
    refine go_tabOut 164 dX5_runs_120 (by omega) (by decide) ?_
    refine go_aload_n dX5_runs_164 0 rfl ?_
    refine go_getR (kf := 1) (t := 6) rfl rfl rfl uwX5 (by decide) flX5_16 dX5_runs_165 ?_
    obtain ⟨c1, h⟩ := h
    obtain ⟨c2, h⟩ := h
    refine go_callV (st := []) (kX0_sumOfHands (d + 3) 6 bA6 X c1 c2) rfl rfl okX0_sumOfHands insX0_sumOfHands selX0_sumOfHands lkX5_172 rfl rfl (Nat.le_of_ble_eq_true rfl) dX5_runs_168 (fun v_ m2_ q => ?_)
    rw [q.1, q.2]
    refine go_stk (st2 := [.int (nI (smF (xh X) (xn X)))]) rfl ?_
    exact go_iret rfl dX5_runs_171 h
  · have h := h.2 q
    refine go_aload_n dX5_runs_56 0 rfl ?_
    refine go_getR (kf := 1) (t := 6) rfl rfl rfl uwX5 (by decide) flX5_16 dX5_runs_57 ?_
    refine go_iconst (v := 0) dX5_runs_60 (by decide) ?_
    obtain ⟨c3, h⟩ := h
    obtain ⟨c4, h⟩ := h
    refine go_callV (st := []) (kX0_step (d + 0) 6 bA6 X false 30 c3 c4) rfl rfl okX0_step insX0_step selX0_step lkX5_116 rfl rfl (Nat.le_of_ble_eq_true rfl) dX5_runs_61 (fun v_ m5 q => ?_)
    rw [q.1]
    have h := h m5 q.2
    refine go_stk (st2 := [.int (nI (who 9 X))]) rfl ?_
    refine go_istore (L2 := [(9, .int (nI (who 9 X))), (0, .ref 0), (1, .int (nI n)), (2, .int wh), (3, .int (nI al)), (4, .int (nI s)), (5, .int (nI an)), (6, .int (nI mo)), (7, .int (nI fu)), (8, .int (nI i))]) dX5_runs_64 (by decide) rfl ?_
    refine go_iload dX5_runs_66 0 rfl ?_
    refine go_callS (st := []) (kJ6_bitCount_0f7a4 (d + 3) (nI (who 9 X))) okJ6_bitCount_0f7a4 staJ6_bitCount_0f7a4 lkX5_162 rfl rfl (Nat.le_of_ble_eq_true rfl) dX5_runs_68 (fun v_ m2_ q => ?_)
    rw [q.1, q.2]
    refine go_stk (st2 := [.int (bcI (nI (who 9 X)))]) rfl ?_
    refine go_topi (fun y6 qy6 => ?_)
    have h := h y6 qy6
    refine go_istore (L2 := [(10, .int y6), (9, .int (nI (who 9 X))), (0, .ref 0), (1, .int (nI n)), (2, .int wh), (3, .int (nI al)), (4, .int (nI s)), (5, .int (nI an)), (6, .int (nI mo)), (7, .int (nI fu)), (8, .int (nI i))]) dX5_runs_71 (by decide) rfl ?_
    refine go_iload dX5_runs_73 6 rfl ?_
    refine go_iload dX5_runs_75 0 rfl ?_
    refine go_iadd dX5_runs_77 ?_
    refine go_topi (fun y7 qy7 => ?_)
    have h := h y7 qy7
    refine go_istore (L2 := [(4, .int y7), (10, .int y6), (9, .int (nI (who 9 X))), (0, .ref 0), (1, .int (nI n)), (2, .int wh), (3, .int (nI al)), (5, .int (nI an)), (6, .int (nI mo)), (7, .int (nI fu)), (8, .int (nI i))]) dX5_runs_78 (by decide) rfl ?_
    refine go_iload dX5_runs_80 8 rfl ?_
    refine go_iload dX5_runs_82 1 rfl ?_
    refine go_mmax lkX5_167 (Nat.le_of_ble_eq_true rfl) dX5_runs_84 ?_
    refine go_topi (fun y8 qy8 => ?_)
    have h := h y8 qy8
    refine go_istore (L2 := [(6, .int y8), (4, .int y7), (10, .int y6), (9, .int (nI (who 9 X))), (0, .ref 0), (1, .int (nI n)), (2, .int wh), (3, .int (nI al)), (5, .int (nI an)), (7, .int (nI fu)), (8, .int (nI i))]) dX5_runs_87 (by decide) rfl ?_
    refine go_iload dX5_runs_89 3 rfl ?_
    refine go_if_eq 113 dX5_runs_91 (by decide) (fun q => ?_) (fun q => ?_)
    · have h := h.1 q
      refine go_iinc (v := ((nI i) + 1)) (L2 := [(8, .int ((nI i) + 1)), (6, .int y8), (4, .int y7), (10, .int y6), (9, .int (nI (who 9 X))), (0, .ref 0), (1, .int (nI n)), (2, .int wh), (3, .int (nI al)), (5, .int (nI an)), (7, .int (nI fu))]) dX5_runs_113 10 rfl rfl (by decide) rfl ?_
      refine go_goto 50 dX5_runs_116 (by decide) ?_
      exact Go.pick [5, 6, 7, 8, 2, 9, 1, 10, 0] rfl h
    · have h := h.2 q
      refine go_iinc (v := ((nI an) + 1)) (L2 := [(5, .int ((nI an) + 1)), (6, .int y8), (4, .int y7), (10, .int y6), (9, .int (nI (who 9 X))), (0, .ref 0), (1, .int (nI n)), (2, .int wh), (3, .int (nI al)), (7, .int (nI fu)), (8, .int (nI i))]) dX5_runs_94 8 rfl rfl (by decide) rfl ?_
      refine go_iload dX5_runs_97 9 rfl ?_
      refine go_iload dX5_runs_99 4 rfl ?_
      refine go_iload_n dX5_runs_101 8 rfl ?_
      refine go_icmp_ne 109 dX5_runs_102 (by decide) (fun q => ?_) (fun q => ?_)
      · have h := h.1 q
        refine go_iconst (v := 0) dX5_runs_109 (by decide) ?_
        refine go_iadd dX5_runs_110 ?_
        refine go_topi (fun y9 qy9 => ?_)
        have h := h y9 qy9
        refine go_istore (L2 := [(7, .int y9), (5, .int ((nI an) + 1)), (6, .int y8), (4, .int y7), (10, .int y6), (9, .int (nI (who 9 X))), (0, .ref 0), (1, .int (nI n)), (2, .int wh), (3, .int (nI al)), (8, .int (nI i))]) dX5_runs_111 (by decide) rfl ?_
        refine go_iinc (v := ((nI i) + 1)) (L2 := [(8, .int ((nI i) + 1)), (7, .int y9), (5, .int ((nI an) + 1)), (6, .int y8), (4, .int y7), (10, .int y6), (9, .int (nI (who 9 X))), (0, .ref 0), (1, .int (nI n)), (2, .int wh), (3, .int (nI al))]) dX5_runs_113 10 rfl rfl (by decide) rfl ?_
        refine go_goto 50 dX5_runs_116 (by decide) ?_
        exact Go.pick [7, 8, 9, 10, 4, 2, 3, 1, 0] rfl h
      · have h := h.2 q
        refine go_iconst (v := 1) dX5_runs_105 (by decide) ?_
        refine go_goto 110 dX5_runs_106 (by decide) ?_
        refine go_iadd dX5_runs_110 ?_
        refine go_topi (fun y10 qy10 => ?_)
        have h := h y10 qy10
        refine go_istore (L2 := [(7, .int y10), (5, .int ((nI an) + 1)), (6, .int y8), (4, .int y7), (10, .int y6), (9, .int (nI (who 9 X))), (0, .ref 0), (1, .int (nI n)), (2, .int wh), (3, .int (nI al)), (8, .int (nI i))]) dX5_runs_111 (by decide) rfl ?_
        refine go_iinc (v := ((nI i) + 1)) (L2 := [(8, .int ((nI i) + 1)), (7, .int y10), (5, .int ((nI an) + 1)), (6, .int y8), (4, .int y7), (10, .int y6), (9, .int (nI (who 9 X))), (0, .ref 0), (1, .int (nI n)), (2, .int wh), (3, .int (nI al))]) dX5_runs_113 10 rfl rfl (by decide) rfl ?_
        refine go_goto 50 dX5_runs_116 (by decide) ?_
        exact Go.pick [7, 8, 9, 10, 4, 2, 3, 1, 0] rfl h


set_option maxHeartbeats 4000000 in
theorem lX5_runs {G : GX} {d : Nat} {mem0 : Mem} {X : Bm} (hV : VX 9 30 X) {n : Nat} (hn : n < 1000000) (w : Int32) : ∀ (r i : Nat) (m : Mem), i + r = n → RepB m 6 (itX 9 nof X i) → FrB 6 mem0 m → Go G (d + 4) mX5_runs 50 [(0, .ref 0), (1, .int (nI n)), (2, .int w), (3, .int (nI (2 ^ xn X - 1))), (4, .int (nI (smX 9 nof X i))), (5, .int (nI (ldX X i))), (6, .int (nI (msX X i))), (7, .int (nI (flX X i))), (8, .int (nI i))] [] m (Ri (runsA X n w) (QC mem0)) := by
  intro r
  induction r with
  | zero =>
    intro i m hi hR hF
    have hi2 : i = n := by omega
    subst hi2
    refine sX5_runs_50 i w _ _ _ _ _ i (itX 9 nof X i) ⟨fun _ => ?_, fun q => absurd (Int32.le_refl _) q⟩
    unfold runsA
    refine ⟨fun q0 => ?_, fun q0 => ⟨fun q1 => ?_, fun q1 => ⟨fun q2 => ?_, fun q2 => ⟨fun q3 => ?_, fun q3 => ?_⟩⟩⟩⟩
    · rw [if_pos q0]; exact ⟨rfl, hF.qc⟩
    · rw [if_neg q0, if_pos q1]; exact ⟨rfl, hF.qc⟩
    · rw [if_neg q0, if_neg q1, if_pos q2]; exact ⟨rfl, hF.qc⟩
    · rw [if_neg q0, if_neg q1, if_neg q2, if_pos q3]; exact ⟨rfl, hF.qc⟩
    · rw [if_neg q0, if_neg q1, if_neg q2, if_neg q3]
      exact ⟨(VX_it hV i).1, hR, Ri.mk (by rw [it_n]) hF.qc⟩
  | succ r ih =>
    intro i m hi hR hF
    have hVi := VX_it (hf := nof) hV i
    have hw := who_lt hVi
    have hml := many_le hVi
    have hms := ms_le hV i
    refine sX5_runs_50 n w _ _ _ _ _ i (itX 9 nof X i) ⟨fun q => absurd ((nle (by omega) (by omega)).mp q) (by omega), fun _ => ⟨hVi, hR, fun m5 h5 => ?_⟩⟩
    rw [who_bc hVi]
    intro y6 e6 y7 e7 y8 e8
    subst e6
    have hk := ih (i + 1) m5 (by omega) h5.1 (hF.tr h5.2)
    have e7b : nI (smX 9 nof X (i + 1)) = y7 := by rw [e7, nI_add]; rfl
    have e8b : nI (msX X (i + 1)) = y8 := by
      rw [e8, show msX X (i + 1) = if msX X i < many 9 (itX 9 nof X i) then many 9 (itX 9 nof X i) else msX X i from rfl]
      by_cases z : msX X i < many 9 (itX 9 nof X i)
      · rw [if_pos z, if_pos ((nlt (by omega) (by omega)).mpr z)]
      · rw [if_neg z, if_neg (fun q => z ((nlt (by omega) (by omega)).mp q))]
    rw [e7b, e8b, ← nI_1] at hk
    have ht := tog9 hVi
    have hp : 2 ^ xn X - 1 < 32 := by
      have : 2 ^ xn X ≤ 2 ^ 5 := Nat.pow_le_pow_right (by decide) hV.1
      have : 0 < 2 ^ xn X := Nat.two_pow_pos _
      omega
    rw [it_n] at ht
    refine ⟨fun q => ?_, fun q => ?_⟩
    · have w0 : who 9 (itX 9 nof X i) = 0 := (neq (by omega) (by omega)).mp (q.trans nI_0.symm)
      have m0 := who0.mp w0
      have e1 : ldX X (i + 1) = ldX X i := by
        show ldX X i + _ = _
        rw [if_pos m0, Nat.add_zero]
      have e2 : flX X (i + 1) = flX X i := by
        show flX X i + _ = _
        rw [if_neg (fun z => by
          have := of_decide_eq_true z
          exact this.1 m0), Nat.add_zero]
      rw [e1, e2] at hk
      exact hk
    · have m0 : ¬ many 9 (itX 9 nof X i) = 0 := fun z => q (by rw [who0.mpr z]; exact nI_0)
      have n0 : xn X ≠ 0 := fun z => m0 (by unfold many; rw [it_n, z]; rfl)
      have e1 : nI (ldX X (i + 1)) = nI (ldX X i) + 1 := by
        rw [nI_1]
        congr 1
        show ldX X i + _ = _
        rw [if_neg m0]
      rw [e1] at hk
      refine ⟨fun q2 y9 h9 => ?_, fun q2 y9 h9 => ?_⟩
      · have e2 : nI (flX X (i + 1)) = nI (flX X i) + 0 := by
          rw [Int32.add_zero]
          congr 1
          show flX X i + _ = _
          rw [if_neg (fun z => q2 (ht.mp z).2), Nat.add_zero]
        rw [e2] at hk
        rw [h9]
        exact hk
      · have e2 : nI (flX X (i + 1)) = nI (flX X i) + 1 := by
          rw [nI_1]
          congr 1
          show flX X i + _ = _
          rw [if_pos (ht.mpr ⟨n0, q2⟩)]
        rw [e2] at hk
        rw [h9]
        exact hk
theorem kX5_runsN {G : GX} (d : Nat) {mem : Mem} (a w : Int32) (X : Bm) (hb : ¬ (0 ≤ a ∧ a ≤ 300) ∨ ¬ (0 ≤ w ∧ w ≤ 4)) : Cn G (d + 4) mX5_runs [.ref 0, .int a, .int w] mem (Ri (-1) (QC mem)) :=
  cn_of (by decide +kernel) (Nat.le_of_ble_eq_true rfl) (sX5_runs_0 a w X ⟨fun _ => ⟨rfl, QC.rf⟩, fun q => ⟨fun q2 => hb.elim (fun z => absurd q z) (fun z => absurd q2 z), fun _ => ⟨rfl, QC.rf⟩⟩⟩)
theorem kX5_runs {G : GX} (d : Nat) {mem : Mem} (n : Nat) (w : Int32) (X : Bm) (h : C1 mem X) (hn : n ≤ 300) (hw : 0 ≤ w ∧ w ≤ 4) : Cn G (d + 4) mX5_runs [.ref 0, .int (nI n), .int w] mem (Ri (runsA X n w) (QC mem)) := by
  have hb : 0 ≤ nI n ∧ nI n ≤ 300 := ⟨nI_pos' (by omega), (nle (b := 300) (by omega) (by omega)).mpr hn⟩
  refine cn_of (by decide +kernel) (Nat.le_of_ble_eq_true rfl) (sX5_runs_0 (nI n) w X ⟨fun q => absurd hb q, fun _ => ⟨fun _ => ⟨h.2.2.1.1, h.1, fun m3 h3 => ?_⟩, fun q => absurd hw q⟩⟩)
  have hn5 := h.2.2.1.1
  rw [h3.1.1, ev_n _ (by omega)]
  intro y4 h4
  rw [h4]
  exact lX5_runs h.2.2.1 (by omega) w n 0 m3 (by omega) h3.1 h3.2
