
theorem kX6_beatsOnI {G : GX} (d : Nat) {mem : Mem} (a : Int32) (P : Nat) (X : Bm) (g B : Nat) (e : a = nI P) (hP : P ≤ 115) (hg : g < 10 ∧ B < 900000) (hV : VX g B X) (hR : RepM mem P X) (hG : mem 40 14 = goI g) : Cn G (d + 0) mX6_beatsOn [.ref 40, .int a] mem (Ri (nI (who g X)) (fun m2 => m2 = mem)) := by
  rw [e]; exact kX6_beatsOn d P X g B hP hg hV hR hG
theorem kX6_sumOnI {G : GX} (d : Nat) {mem : Mem} (a b : Int32) (P off : Nat) (f : Nat → Nat) (n : Nat) (e : a = nI P ∧ b = nI off) (hP : P ≤ 115 ∧ off ≤ 15 ∧ n ≤ 5) (h1 : mem 41 (P + 20) = nI n) (h2 : ∀ c, c < n → mem 41 (P + off + c) = nI (f c)) : Cn G (d + 0) mX6_sumOn [.ref 40, .int a, .int b] mem (Ri (nI (smF f n)) (fun m2 => m2 = mem)) := by
  rw [e.1, e.2]; exact kX6_sumOn d P off f n hP h1 h2
theorem kX6_isOnwardI {G : GX} (d : Nat) {mem : Mem} (a b : Int32) (P c : Nat) (e : a = nI P ∧ b = nI c) (h : P + c < 128) : Cn G (d + 0) mX6_isOnward [.ref 40, .int a, .int b] mem (Ri (bI (¬ 3 ≤ mem 41 (P + c) ∧ mem 41 (P + 5 + c) ≤ 2 * mem 41 (P + 10 + c))) (fun m2 => m2 = mem)) := by
  rw [e.1, e.2]; exact kX6_isOnward d P c h
theorem z21 : (21 : Int32).toNatClampNeg = 21 := by decide
theorem z22 : (22 : Int32).toNatClampNeg = 22 := by decide
theorem pls (P j : Nat) : 0 + P + j = P + j := by omega
theorem isC_M {X : Bm} {c : Int32} (hn : xn X ≤ 5) : (0 ≤ c ∧ c ≤ nI (xn X) - 1) ↔ isC X c := by
  refine and_congr_right (fun h => ?_)
  obtain ⟨j, hj, rfl⟩ := nI_of (Int32.not_lt.mpr h)
  rw [fa_le, fa_lt, show (1 : Int32) = nI 1 from rfl, pk_sub_toInt (by omega) (by omega), nI_toInt hj, nI_toInt (by omega)]
  omega
theorem RepM0 {m : Mem} {X : Bm} (h : RepM m 0 X) : m 41 20 = nI (xn X) ∧ m 41 21 = nI (xu X) - 1 ∧ m 41 22 = nI (xt X) ∧ ∀ c, c < xn X → m 41 c = nI (xk X c) ∧ m 41 (5 + c) = nI (xp X c) ∧ m 41 (10 + c) = nI (xh X c) ∧ m 41 (15 + c) = nI (xe X c) := by
  refine ⟨h.1, h.2.1, h.2.2.1, fun c hc => ?_⟩
  obtain ⟨a1, a2, a3, a4⟩ := h.2.2.2 c hc
  rw [Nat.zero_add] at a1
  rw [pls] at a2 a3 a4
  exact ⟨a1, a2, a3, a4⟩

set_option maxRecDepth 100000 in
theorem sX6_rule_0 {G : GX} {d : Nat} {mem : Mem} {Φ : Option Value → Mem → Prop} (a1 : Int32) (X : Bm) (h : ((a1 = 0 → Φ (some (.int (mem 41 (20 : Int32).toNatClampNeg))) mem) ∧ (¬ a1 = 0 → ((a1 = 1 → Φ (some (.int ((mem 41 (21 : Int32).toNatClampNeg) + 1))) mem) ∧ (¬ a1 = 1 → ((a1 = 2 → Φ (some (.int (mem 41 (22 : Int32).toNatClampNeg))) mem) ∧ (¬ a1 = 2 → ((a1 = 3 → (0 = nI 0 ∧ 15 = nI 15) ∧ (0 ≤ 115 ∧ 15 ≤ 15 ∧ xn X ≤ 5) ∧ (mem 41 (0 + 20) = nI (xn X)) ∧ (∀ c, c < xn X → mem 41 (0 + 15 + c) = nI ((xe X) c)) ∧ Φ (some (.int (nI (smF (xe X) (xn X))))) mem) ∧ (¬ a1 = 3 → ((a1 = 4 → (0 = nI 0) ∧ (0 ≤ 115) ∧ (9 < 10 ∧ 30 < 900000) ∧ (VX 9 30 X) ∧ (RepM mem 0 X) ∧ (mem 40 14 = goI 9) ∧ Φ (some (.int (nI (who 9 X)))) mem) ∧ (¬ a1 = 4 → ((a1 = 5 → (0 = nI 0 ∧ 10 = nI 10) ∧ (0 ≤ 115 ∧ 10 ≤ 15 ∧ xn X ≤ 5) ∧ (mem 41 (0 + 20) = nI (xn X)) ∧ (∀ c, c < xn X → mem 41 (0 + 10 + c) = nI ((xh X) c)) ∧ Φ (some (.int (nI (smF (xh X) (xn X))))) mem) ∧ (¬ a1 = 5 → Φ (some (.int (-1))) mem))))))))))))) : Go G (d + 1) mX6_rule 0 [(0, .ref 40), (1, .int a1)] [] mem Φ := by
  refine go_iload_n dX6_rule_0 1 rfl ?_
  by_cases q0 : a1 = 0
  · have h := h.1 q0
    refine go_tabEq q0 40 dX6_rule_1 (by decide) (by decide) rfl (by decide) ?_
    refine go_aload_n dX6_rule_40 0 rfl ?_
    refine go_getR (kf := 0) (t := 41) rfl rfl rfl uwX6 (by decide) flX6_7 dX6_rule_41 ?_
    refine go_bipush (v := 20) dX6_rule_44 (by decide) ?_
    refine go_iaload rfl (nin (a := 20) (by decide) (by decide)) dX6_rule_46 ?_
    exact go_iret rfl dX6_rule_47 h
  have h := h.2 q0
  by_cases q1 : a1 = 1
  · have h := h.1 q1
    refine go_tabEq q1 48 dX6_rule_1 (by decide) (by decide) rfl (by decide) ?_
    refine go_aload_n dX6_rule_48 0 rfl ?_
    refine go_getR (kf := 0) (t := 41) rfl rfl rfl uwX6 (by decide) flX6_7 dX6_rule_49 ?_
    refine go_bipush (v := 21) dX6_rule_52 (by decide) ?_
    refine go_iaload rfl (nin (a := 21) (by decide) (by decide)) dX6_rule_54 ?_
    refine go_iconst (v := 1) dX6_rule_55 (by decide) ?_
    refine go_iadd dX6_rule_56 ?_
    exact go_iret rfl dX6_rule_57 h
  have h := h.2 q1
  by_cases q2 : a1 = 2
  · have h := h.1 q2
    refine go_tabEq q2 58 dX6_rule_1 (by decide) (by decide) rfl (by decide) ?_
    refine go_aload_n dX6_rule_58 0 rfl ?_
    refine go_getR (kf := 0) (t := 41) rfl rfl rfl uwX6 (by decide) flX6_7 dX6_rule_59 ?_
    refine go_bipush (v := 22) dX6_rule_62 (by decide) ?_
    refine go_iaload rfl (nin (a := 22) (by decide) (by decide)) dX6_rule_64 ?_
    exact go_iret rfl dX6_rule_65 h
  have h := h.2 q2
  by_cases q3 : a1 = 3
  · have h := h.1 q3
    refine go_tabEq q3 66 dX6_rule_1 (by decide) (by decide) rfl (by decide) ?_
    refine go_aload_n dX6_rule_66 0 rfl ?_
    refine go_iconst (v := 0) dX6_rule_67 (by decide) ?_
    refine go_bipush (v := 15) dX6_rule_68 (by decide) ?_
    obtain ⟨c1, h⟩ := h
    obtain ⟨c2, h⟩ := h
    obtain ⟨c3, h⟩ := h
    obtain ⟨c4, h⟩ := h
    refine go_callV (st := []) (kX6_sumOnI (d + 0) 0 15 0 15 (xe X) (xn X) c1 c2 c3 c4) rfl rfl okX6_sumOn insX6_sumOn selX6_sumOn lkX6_134 rfl rfl (Nat.le_of_ble_eq_true rfl) dX6_rule_70 (fun v_ m2_ q => ?_)
    rw [q.1, q.2]
    refine go_stk (st2 := [.int (nI (smF (xe X) (xn X)))]) rfl ?_
    exact go_iret rfl dX6_rule_73 h
  have h := h.2 q3
  by_cases q4 : a1 = 4
  · have h := h.1 q4
    refine go_tabEq q4 74 dX6_rule_1 (by decide) (by decide) rfl (by decide) ?_
    refine go_aload_n dX6_rule_74 0 rfl ?_
    refine go_iconst (v := 0) dX6_rule_75 (by decide) ?_
    obtain ⟨c5, h⟩ := h
    obtain ⟨c6, h⟩ := h
    obtain ⟨c7, h⟩ := h
    obtain ⟨c8, h⟩ := h
    obtain ⟨c9, h⟩ := h
    obtain ⟨c10, h⟩ := h
    refine go_callV (st := []) (kX6_beatsOnI (d + 0) 0 0 X 9 30 c5 c6 c7 c8 c9 c10) rfl rfl okX6_beatsOn insX6_beatsOn selX6_beatsOn lkX6_124 rfl rfl (Nat.le_of_ble_eq_true rfl) dX6_rule_76 (fun v_ m2_ q => ?_)
    rw [q.1, q.2]
    refine go_stk (st2 := [.int (nI (who 9 X))]) rfl ?_
    exact go_iret rfl dX6_rule_79 h
  have h := h.2 q4
  by_cases q5 : a1 = 5
  · have h := h.1 q5
    refine go_tabEq q5 80 dX6_rule_1 (by decide) (by decide) rfl (by decide) ?_
    refine go_aload_n dX6_rule_80 0 rfl ?_
    refine go_iconst (v := 0) dX6_rule_81 (by decide) ?_
    refine go_bipush (v := 10) dX6_rule_82 (by decide) ?_
    obtain ⟨c11, h⟩ := h
    obtain ⟨c12, h⟩ := h
    obtain ⟨c13, h⟩ := h
    obtain ⟨c14, h⟩ := h
    refine go_callV (st := []) (kX6_sumOnI (d + 0) 0 10 0 10 (xh X) (xn X) c11 c12 c13 c14) rfl rfl okX6_sumOn insX6_sumOn selX6_sumOn lkX6_134 rfl rfl (Nat.le_of_ble_eq_true rfl) dX6_rule_84 (fun v_ m2_ q => ?_)
    rw [q.1, q.2]
    refine go_stk (st2 := [.int (nI (smF (xh X) (xn X)))]) rfl ?_
    exact go_iret rfl dX6_rule_87 h
  have h := h.2 q5
  have e0 := neI q0 (z := 0) (by decide)
  have e1 := neI q1 (z := 1) (by decide)
  have e2 := neI q2 (z := 2) (by decide)
  have e3 := neI q3 (z := 3) (by decide)
  have e4 := neI q4 (z := 4) (by decide)
  have e5 := neI q5 (z := 5) (by decide)
  refine go_tabOut 88 dX6_rule_1 (by omega) (by decide) ?_
  refine go_iconst (v := (-1)) dX6_rule_88 (by decide) ?_
  exact go_iret rfl dX6_rule_89 h

set_option maxRecDepth 100000 in
theorem sX6_clock_0 {G : GX} {d : Nat} {mem : Mem} {Φ : Option Value → Mem → Prop} (a1 a2 : Int32) (c : Nat) (h : ((¬ (0 ≤ a1 ∧ a1 ≤ ((mem 41 20) - 1)) → Φ (some (.int (-1))) mem) ∧ ((0 ≤ a1 ∧ a1 ≤ ((mem 41 20) - 1)) → (((0 ≤ a2 ∧ a2 ≤ 4) → ((4 ≤ a2 → (0 = nI 0 ∧ a1 = nI c) ∧ (0 + c < 128) ∧ ((¬ (¬ 3 ≤ mem 41 (0 + c) ∧ mem 41 (0 + 5 + c) ≤ 2 * mem 41 (0 + 10 + c)) → Φ (some (.int 0)) mem) ∧ ((¬ 3 ≤ mem 41 (0 + c) ∧ mem 41 (0 + 5 + c) ≤ 2 * mem 41 (0 + 10 + c)) → Φ (some (.int 1)) mem))) ∧ (¬ 4 ≤ a2 → (vp_in ((5 * a2) + a1) 138) ∧ Φ (some (.int (mem 41 (((5 * a2) + a1) : Int32).toNatClampNeg))) mem))) ∧ (¬ (0 ≤ a2 ∧ a2 ≤ 4) → Φ (some (.int (-1))) mem))))) : Go G (d + 2) mX6_clock 0 [(0, .ref 40), (1, .int a1), (2, .int a2)] [] mem Φ := by
  refine go_aload_n dX6_clock_0 0 rfl ?_
  refine go_iload_n dX6_clock_1 1 rfl ?_
  refine go_callV (st := []) (kX6_isClock (d + 0) a1) rfl rfl okX6_isClock insX6_isClock selX6_isClock lkX6_137 rfl rfl (Nat.le_of_ble_eq_true rfl) dX6_clock_2 (fun v_ m2_ q => ?_)
  rw [q.1, q.2]
  refine go_stk (st2 := [.int (bI (0 ≤ a1 ∧ a1 ≤ ((mem 41 20) - 1)))]) rfl ?_
  refine go_if_eq 20 dX6_clock_5 (by decide) (fun q => ?_) (fun q => ?_)
  · have h := h.1 (bI0.mp q)
    refine go_iconst (v := (-1)) dX6_clock_20 (by decide) ?_
    exact go_iret rfl dX6_clock_21 h
  · have h := h.2 (bI1.mp q)
    refine go_iload_n dX6_clock_8 2 rfl ?_
    refine go_i2l dX6_clock_9 ?_
    refine go_lconst (v := 0) dX6_clock_10 (by decide) ?_
    refine go_ldc2 klX6_102 dX6_clock_11 ?_
    refine go_callS (st := []) (kX6_in (d + 1) a2 0 4 0 4 (by decide) (by decide)) okX6_in staX6_in lkX6_50 rfl rfl (Nat.le_of_ble_eq_true rfl) dX6_clock_14 (fun v_ m2_ q => ?_)
    rw [q.1, q.2]
    refine go_stk (st2 := [.int (bI (0 ≤ a2 ∧ a2 ≤ 4))]) rfl ?_
    refine go_if_ne 22 dX6_clock_17 (by decide) (fun q => ?_) (fun q => ?_)
    · have h := h.1 (bI1.mp q)
      refine go_iload_n dX6_clock_22 2 rfl ?_
      refine go_iconst (v := 4) dX6_clock_23 (by decide) ?_
      refine go_icmp_ge 40 dX6_clock_24 (by decide) (fun q => ?_) (fun q => ?_)
      · have h := h.1 q
        refine go_aload_n dX6_clock_40 0 rfl ?_
        refine go_iconst (v := 0) dX6_clock_41 (by decide) ?_
        refine go_iload_n dX6_clock_42 1 rfl ?_
        obtain ⟨c1, h⟩ := h
        obtain ⟨c2, h⟩ := h
        refine go_callV (st := []) (kX6_isOnwardI (d + 1) 0 a1 0 c c1 c2) rfl rfl okX6_isOnward insX6_isOnward selX6_isOnward lkX6_120 rfl rfl (Nat.le_of_ble_eq_true rfl) dX6_clock_43 (fun v_ m2_ q => ?_)
        rw [q.1, q.2]
        refine go_stk (st2 := [.int (bI (¬ 3 ≤ mem 41 (0 + c) ∧ mem 41 (0 + 5 + c) ≤ 2 * mem 41 (0 + 10 + c)))]) rfl ?_
        refine go_if_eq 53 dX6_clock_46 (by decide) (fun q => ?_) (fun q => ?_)
        · have h := h.1 (bI0.mp q)
          refine go_iconst (v := 0) dX6_clock_53 (by decide) ?_
          exact go_iret rfl dX6_clock_54 h
        · have h := h.2 (bI1.mp q)
          refine go_iconst (v := 1) dX6_clock_49 (by decide) ?_
          refine go_goto 54 dX6_clock_50 (by decide) ?_
          exact go_iret rfl dX6_clock_54 h
      · have h := h.2 q
        refine go_aload_n dX6_clock_27 0 rfl ?_
        refine go_getR (kf := 0) (t := 41) rfl rfl rfl uwX6 (by decide) flX6_7 dX6_clock_28 ?_
        refine go_iconst (v := 5) dX6_clock_31 (by decide) ?_
        refine go_iload_n dX6_clock_32 2 rfl ?_
        refine go_imul dX6_clock_33 ?_
        refine go_iload_n dX6_clock_34 1 rfl ?_
        refine go_iadd dX6_clock_35 ?_
        obtain ⟨c3, h⟩ := h
        refine go_iaload rfl c3 dX6_clock_36 ?_
        refine go_goto 54 dX6_clock_37 (by decide) ?_
        exact go_iret rfl dX6_clock_54 h
    · have h := h.2 (bI0.mp q)
      refine go_iconst (v := (-1)) dX6_clock_20 (by decide) ?_
      exact go_iret rfl dX6_clock_21 h


theorem kX6_rule {G : GX} (d : Nat) {mem : Mem} (w : Int32) (X : Bm) (h : C1 mem X) (h7 : C7 mem) : Cn G (d + 1) mX6_rule [.ref 40, .int w] mem (Ri (ruleA X w) (QM mem)) := by
  obtain ⟨hB, hM, hV, ht⟩ := h
  obtain ⟨r1, r2, r3, r4⟩ := RepM0 hM
  refine cn_of (by decide +kernel) (Nat.le_of_ble_eq_true rfl) (sX6_rule_0 w X ?_)
  rw [z20, z21, z22, r1, r2, r3, Int32.sub_add_cancel]
  unfold ruleA
  refine ⟨fun q0 => ?_, fun q0 => ⟨fun q1 => ?_, fun q1 => ⟨fun q2 => ?_, fun q2 => ⟨fun q3 => ?_, fun q3 => ⟨fun q4 => ?_, fun q4 => ⟨fun q5 => ?_, fun q5 => ?_⟩⟩⟩⟩⟩⟩
  · rw [if_pos q0]; exact ⟨rfl, QM.rf⟩
  · rw [if_neg q0, if_pos q1]; exact ⟨rfl, QM.rf⟩
  · rw [if_neg q0, if_neg q1, if_pos q2]; exact ⟨rfl, QM.rf⟩
  · rw [if_neg q0, if_neg q1, if_neg q2, if_pos q3]; exact ⟨⟨rfl, rfl⟩, ⟨by omega, by omega, hV.1⟩, rfl, fun c hc => (hM.2.2.2 c hc).2.2.2, rfl, QM.rf⟩
  · rw [if_neg q0, if_neg q1, if_neg q2, if_neg q3, if_pos q4]
    exact ⟨rfl, by omega, ⟨by omega, by omega⟩, hV, hM, h7.1, rfl, QM.rf⟩
  · rw [if_neg q0, if_neg q1, if_neg q2, if_neg q3, if_neg q4, if_pos q5]; exact ⟨⟨rfl, rfl⟩, ⟨by omega, by omega, hV.1⟩, rfl, fun c hc => (hM.2.2.2 c hc).2.2.1, rfl, QM.rf⟩
  · rw [if_neg q0, if_neg q1, if_neg q2, if_neg q3, if_neg q4, if_neg q5]; exact ⟨rfl, QM.rf⟩
theorem kX6_clockN {G : GX} (d : Nat) {mem : Mem} (c w : Int32) (X : Bm) (h : C1 mem X) (hc : ¬ isC X c) : Cn G (d + 2) mX6_clock [.ref 40, .int c, .int w] mem (Ri (-1) (QM mem)) := by
  refine cn_of (by decide +kernel) (Nat.le_of_ble_eq_true rfl) (sX6_clock_0 c w 0 ?_)
  rw [(RepM0 h.2.1).1, isC_M h.2.2.1.1]
  exact ⟨fun _ => ⟨rfl, QM.rf⟩, fun q => absurd q hc⟩
theorem w04 {w : Int32} (h : 0 ≤ w ∧ w ≤ 4) : w = 0 ∨ w = 1 ∨ w = 2 ∨ w = 3 ∨ w = 4 := by
  obtain ⟨k, hk, rfl⟩ := i300 (n := 4) rfl (by omega) h
  rcases (show k = 0 ∨ k = 1 ∨ k = 2 ∨ k = 3 ∨ k = 4 by omega) with rfl | rfl | rfl | rfl | rfl
  · exact Or.inl rfl
  · exact Or.inr (Or.inl rfl)
  · exact Or.inr (Or.inr (Or.inl rfl))
  · exact Or.inr (Or.inr (Or.inr (Or.inl rfl)))
  · exact Or.inr (Or.inr (Or.inr (Or.inr rfl)))
theorem kX6_clock {G : GX} (d : Nat) {mem : Mem} (i : Nat) (w : Int32) (X : Bm) (h : C1 mem X) (hi : i < xn X) : Cn G (d + 2) mX6_clock [.ref 40, .int (nI i), .int w] mem (Ri (clockA X i w) (QM mem)) := by
  obtain ⟨hB, hM, hV, ht⟩ := h
  have hn := hV.1
  obtain ⟨r1, r2, r3, r4⟩ := RepM0 hM
  obtain ⟨b1, b2, b3, b4⟩ := r4 i hi
  obtain ⟨a1, a2, a3, a4, a5⟩ := hV.2.2 i hi
  have hc : isC X (nI i) := ⟨nI_pos' (by omega), (nlt (by omega) (by omega)).mpr hi⟩
  refine cn_of (by decide +kernel) (Nat.le_of_ble_eq_true rfl) (sX6_clock_0 (nI i) w i ?_)
  rw [r1, isC_M hn, Nat.zero_add, pls, pls, b1, b2, b3]
  refine ⟨fun q => absurd hc q, fun _ => ⟨fun q => ?_, fun q => ?_⟩⟩
  · rcases w04 q with rfl | rfl | rfl | rfl | rfl
    · exact ⟨fun z => absurd z (by decide), fun _ => ⟨by show vp_in (5 * 0 + nI i) 138; rw [show (5 * 0 + nI i : Int32) = nI i from by rw [show (5 * 0 : Int32) = 0 from rfl]; exact Int32.zero_add _]; exact nin (by omega) (by omega), Ri.mk (by rw [show (5 * 0 + nI i : Int32) = nI i from by rw [show (5 * 0 : Int32) = 0 from rfl]; exact Int32.zero_add _, ncl (by omega), b1]; rfl) QM.rf⟩⟩
    · exact ⟨fun z => absurd z (by decide), fun _ => ⟨qi (P := 5) (by omega) (by omega), Ri.mk (by rw [show (5 * 1 + nI i : Int32).toNatClampNeg = 5 + i from qa (P := 5) (by omega), b2]; rfl) QM.rf⟩⟩
    · exact ⟨fun z => absurd z (by decide), fun _ => ⟨qi (P := 10) (by omega) (by omega), Ri.mk (by rw [show (5 * 2 + nI i : Int32).toNatClampNeg = 10 + i from qa (P := 10) (by omega), b3]; rfl) QM.rf⟩⟩
    · exact ⟨fun z => absurd z (by decide), fun _ => ⟨qi (P := 15) (by omega) (by omega), Ri.mk (by rw [show (5 * 3 + nI i : Int32).toNatClampNeg = 15 + i from qa (P := 15) (by omega), b4]; rfl) QM.rf⟩⟩
    · have e : (¬ (3 : Int32) ≤ nI (xk X i) ∧ nI (xp X i) ≤ 2 * nI (xh X i)) ↔ (¬ nI (xk X i) = 3 ∧ nI (xp X i) ≤ 2 * nI (xh X i)) := by
        rw [show (3 : Int32) = nI 3 from rfl, nle (by omega) (by omega), neq (by omega) (by omega)]
        exact and_congr_left (fun _ => by omega)
      rw [e]
      exact ⟨fun _ => ⟨⟨rfl, rfl⟩, by omega, fun z => Ri.mk (bIf z).symm QM.rf, fun z => Ri.mk (bIt z).symm QM.rf⟩, fun z => absurd (by decide) z⟩
  · refine ⟨?_, QM.rf⟩
    unfold clockA
    have n0 : ¬ w = 0 := fun z => q (by rw [z]; decide)
    have n1 : ¬ w = 1 := fun z => q (by rw [z]; decide)
    have n2 : ¬ w = 2 := fun z => q (by rw [z]; decide)
    have n3 : ¬ w = 3 := fun z => q (by rw [z]; decide)
    have n4 : ¬ w = 4 := fun z => q (by rw [z]; decide)
    rw [if_neg n0, if_neg n1, if_neg n2, if_neg n3, if_neg n4]
/-- but for the tried page and three numbers nothing changed -/
def FrT (m m2 : Mem) : Prop := (∀ k, k ≠ 40 → k ≠ 41 → m2 k = m k) ∧ (∀ j, (j < 92 ∨ 115 ≤ j) → m2 41 j = m 41 j) ∧ ∀ j, j ≠ 15 → j ≠ 16 → j ≠ 17 → m2 40 j = m 40 j
theorem FrT.qm {m m2 : Mem} (h : FrT m m2) : QM m m2 := ⟨fun k h1 h2 _ => h.1 k h1 h2, fun j hj => h.2.1 j (by omega), h.2.2⟩
theorem FrT.trM {a b c : Mem} (h : FrT a b) (h2 : FrM 92 b c) : FrT a c := ⟨fun k h3 h4 => (h2.1 k h4).trans (h.1 k h3 h4), fun j hj => (h2.2 j (by omega)).trans (h.2.1 j hj), fun j h3 h4 h5 => by rw [h2.1 40 (by decide)]; exact h.2.2 j h3 h4 h5⟩
theorem FrT.put {a b : Mem} (h : FrT a b) {j : Nat} {x : Int32} (hj : j = 15 ∨ j = 16 ∨ j = 17) : FrT a (um b 40 j x) := ⟨fun k h3 h4 => by rw [um_ne h3]; exact h.1 k h3 h4, fun i hi => by rw [um_ne (by decide)]; exact h.2.1 i hi, fun i h3 h4 h5 => by rw [um_at, if_neg (by omega)]; exact h.2.2 i h3 h4 h5⟩
theorem RepM.put {m : Mem} {P : Nat} {X : Bm} {j : Nat} {x : Int32} (h : RepM m P X) : RepM (um m 40 j x) P X := by
  rw [RepM, um_ne (by decide)]; exact h

set_option maxRecDepth 100000 in
theorem sX6_ticksGo_0 {G : GX} {d : Nat} {mem : Mem} {Φ : Option Value → Mem → Prop} (P n : Nat) (h : (P ≤ 115 ∧ 92 ≤ 115 ∧ (P + 23 ≤ 92 ∨ 92 + 23 ≤ P)) ∧ ∀ m2 : Mem, m2 = (um (um (um (cpM mem P 92) 40 15 0) 40 16 0) 40 17 0) → Go G (d + 3) mX6_ticksGo 27 [(0, .ref 40), (1, .int (nI P)), (2, .int (nI n)), (3, .int 0), (4, .int 0)] [] m2 Φ) : Go G (d + 3) mX6_ticksGo 0 [(0, .ref 40), (1, .int (nI P)), (2, .int (nI n))] [] mem Φ := by
  refine go_aload_n dX6_ticksGo_0 0 rfl ?_
  refine go_iload_n dX6_ticksGo_1 1 rfl ?_
  refine go_bipush (v := 92) dX6_ticksGo_2 (by decide) ?_
  obtain ⟨c1, h⟩ := h
  refine go_callV (st := []) (kX6_copies (d + 2) P 92 c1) rfl rfl okX6_copies insX6_copies selX6_copies lkX6_161 rfl rfl (Nat.le_of_ble_eq_true rfl) dX6_ticksGo_4 (fun v_ m2_ q => ?_)
  rw [q.1, q.2]
  refine go_stk (st2 := []) rfl ?_
  refine go_iconst (v := 0) dX6_ticksGo_7 (by decide) ?_
  refine go_istore_n (L2 := [(3, .int 0), (0, .ref 40), (1, .int (nI P)), (2, .int (nI n))]) dX6_ticksGo_8 (by decide) rfl ?_
  refine go_aload_n dX6_ticksGo_9 1 rfl ?_
  refine go_iconst (v := 0) dX6_ticksGo_10 (by decide) ?_
  refine go_putI (kf := 15) rfl rfl rfl uwX6 tyX6_ok nmX6 (by decide) rfl flX6_165 rfl rfl dX6_ticksGo_11 ?_
  refine go_aload_n dX6_ticksGo_14 1 rfl ?_
  refine go_iconst (v := 0) dX6_ticksGo_15 (by decide) ?_
  refine go_putI (kf := 16) rfl rfl rfl uwX6 tyX6_ok nmX6 (by decide) rfl flX6_168 rfl rfl dX6_ticksGo_16 ?_
  refine go_aload_n dX6_ticksGo_19 1 rfl ?_
  refine go_iconst (v := 0) dX6_ticksGo_20 (by decide) ?_
  refine go_putI (kf := 17) rfl rfl rfl uwX6 tyX6_ok nmX6 (by decide) rfl flX6_171 rfl rfl dX6_ticksGo_21 ?_
  refine go_mem (fun m2 qm2 => ?_)
  have h := h m2 qm2
  refine go_iconst (v := 0) dX6_ticksGo_24 (by decide) ?_
  refine go_istore (L2 := [(4, .int 0), (3, .int 0), (0, .ref 40), (1, .int (nI P)), (2, .int (nI n))]) dX6_ticksGo_25 (by decide) rfl ?_
  exact Go.pick [2, 3, 4, 1, 0] rfl h

set_option maxRecDepth 100000 in
theorem sX6_ticksGo_27 {G : GX} {d : Nat} {mem : Mem} {Φ : Option Value → Mem → Prop} (P n a i : Nat) (X : Bm) (h : (((nI n) ≤ (nI i) → Φ (some (.int (nI a))) mem) ∧ (¬ (nI n) ≤ (nI i) → (92 ≤ 115) ∧ (9 < 10 ∧ 30 ≤ 30 ∧ 30 < 900000) ∧ (VX 9 30 X) ∧ (RepM mem 92 X) ∧ (mem 40 14 = goI 9) ∧ ∀ m6 : Mem, (RepM m6 92 (tkX 9 false X) ∧ FrM 92 mem m6) → (who 9 X < 1073741824) ∧ ∀ y8 : Int32, y8 = ((nI a) + (nI (pcF 32 (who 9 X)))) → (((nI (pcF 32 (who 9 X))) ≤ 0 → Go G (d + 3) mX6_ticksGo 73 [(0, .ref 40), (1, .int (nI P)), (2, .int (nI n)), (3, .int y8), (4, .int (nI i)), (5, .int (nI (who 9 X))), (6, .int (nI (pcF 32 (who 9 X))))] [] (um m6 40 15 ((m6 40 15) + 0)) Φ) ∧ (¬ (nI (pcF 32 (who 9 X))) ≤ 0 → Go G (d + 3) mX6_ticksGo 73 [(0, .ref 40), (1, .int (nI P)), (2, .int (nI n)), (3, .int y8), (4, .int (nI i)), (5, .int (nI (who 9 X))), (6, .int (nI (pcF 32 (who 9 X))))] [] (um m6 40 15 ((m6 40 15) + 1)) Φ))))) : Go G (d + 3) mX6_ticksGo 27 [(0, .ref 40), (1, .int (nI P)), (2, .int (nI n)), (3, .int (nI a)), (4, .int (nI i))] [] mem Φ := by
  refine go_iload dX6_ticksGo_27 4 rfl ?_
  refine go_iload_n dX6_ticksGo_29 2 rfl ?_
  refine go_icmp_ge 131 dX6_ticksGo_30 (by decide) (fun q => ?_) (fun q => ?_)
  · have h := h.1 q
    refine go_iload_n dX6_ticksGo_131 3 rfl ?_
    exact go_iret rfl dX6_ticksGo_132 h
  · have h := h.2 q
    refine go_aload_n dX6_ticksGo_33 0 rfl ?_
    refine go_bipush (v := 92) dX6_ticksGo_34 (by decide) ?_
    refine go_iconst (v := 0) dX6_ticksGo_36 (by decide) ?_
    obtain ⟨c1, h⟩ := h
    obtain ⟨c2, h⟩ := h
    obtain ⟨c3, h⟩ := h
    obtain ⟨c4, h⟩ := h
    obtain ⟨c5, h⟩ := h
    refine go_callV (st := []) (kX6_tickOn (d + 0) 92 false X 9 30 c1 c2 c3 c4 c5) rfl rfl okX6_tickOn insX6_tickOn selX6_tickOn lkX6_157 rfl rfl (Nat.le_of_ble_eq_true rfl) dX6_ticksGo_37 (fun v_ m6 q => ?_)
    rw [q.1]
    have h := h m6 q.2
    refine go_stk (st2 := [.int (nI (who 9 X))]) rfl ?_
    refine go_istore (L2 := [(5, .int (nI (who 9 X))), (0, .ref 40), (1, .int (nI P)), (2, .int (nI n)), (3, .int (nI a)), (4, .int (nI i))]) dX6_ticksGo_40 (by decide) rfl ?_
    refine go_iload dX6_ticksGo_42 0 rfl ?_
    obtain ⟨c7, h⟩ := h
    refine go_callS (st := []) (kX6_bitsOf (d + 2) (who 9 X) c7) okX6_bitsOf staX6_bitsOf lkX6_127 rfl rfl (Nat.le_of_ble_eq_true rfl) dX6_ticksGo_44 (fun v_ m2_ q => ?_)
    rw [q.1, q.2]
    refine go_stk (st2 := [.int (nI (pcF 32 (who 9 X)))]) rfl ?_
    refine go_istore (L2 := [(6, .int (nI (pcF 32 (who 9 X)))), (5, .int (nI (who 9 X))), (0, .ref 40), (1, .int (nI P)), (2, .int (nI n)), (3, .int (nI a)), (4, .int (nI i))]) dX6_ticksGo_47 (by decide) rfl ?_
    refine go_iload_n dX6_ticksGo_49 5 rfl ?_
    refine go_iload dX6_ticksGo_50 0 rfl ?_
    refine go_iadd dX6_ticksGo_52 ?_
    refine go_topi (fun y8 qy8 => ?_)
    have h := h y8 qy8
    refine go_istore_n (L2 := [(3, .int y8), (6, .int (nI (pcF 32 (who 9 X)))), (5, .int (nI (who 9 X))), (0, .ref 40), (1, .int (nI P)), (2, .int (nI n)), (4, .int (nI i))]) dX6_ticksGo_53 (by decide) rfl ?_
    refine go_aload_n dX6_ticksGo_54 3 rfl ?_
    refine go_dup dX6_ticksGo_55 rfl ?_
    refine go_getI (kf := 15) rfl rfl rfl uwX6 (by decide) flX6_165 dX6_ticksGo_56 ?_
    refine go_iload dX6_ticksGo_59 1 rfl ?_
    refine go_if_le 68 dX6_ticksGo_61 (by decide) (fun q => ?_) (fun q => ?_)
    · have h := h.1 q
      refine go_iconst (v := 0) dX6_ticksGo_68 (by decide) ?_
      refine go_iadd dX6_ticksGo_69 ?_
      refine go_putI (kf := 15) rfl rfl rfl uwX6 tyX6_ok nmX6 (by decide) rfl flX6_165 rfl rfl dX6_ticksGo_70 ?_
      exact Go.pick [3, 4, 5, 0, 6, 2, 1] rfl h
    · have h := h.2 q
      refine go_iconst (v := 1) dX6_ticksGo_64 (by decide) ?_
      refine go_goto 69 dX6_ticksGo_65 (by decide) ?_
      refine go_iadd dX6_ticksGo_69 ?_
      refine go_putI (kf := 15) rfl rfl rfl uwX6 tyX6_ok nmX6 (by decide) rfl flX6_165 rfl rfl dX6_ticksGo_70 ?_
      exact Go.pick [3, 4, 5, 0, 6, 2, 1] rfl h

set_option maxRecDepth 100000 in
theorem sX6_ticksGo_73 {G : GX} {d : Nat} {mem : Mem} {Φ : Option Value → Mem → Prop} (P n a i w mm : Nat) (h : (((nI mm) ≤ (mem 40 16) → Go G (d + 3) mX6_ticksGo 95 [(0, .ref 40), (1, .int (nI P)), (2, .int (nI n)), (3, .int (nI a)), (4, .int (nI i)), (5, .int (nI w)), (6, .int (nI mm))] [] (um mem 40 16 (mem 40 16)) Φ) ∧ (¬ (nI mm) ≤ (mem 40 16) → Go G (d + 3) mX6_ticksGo 95 [(0, .ref 40), (1, .int (nI P)), (2, .int (nI n)), (3, .int (nI a)), (4, .int (nI i)), (5, .int (nI w)), (6, .int (nI mm))] [] (um mem 40 16 (nI mm)) Φ))) : Go G (d + 3) mX6_ticksGo 73 [(0, .ref 40), (1, .int (nI P)), (2, .int (nI n)), (3, .int (nI a)), (4, .int (nI i)), (5, .int (nI w)), (6, .int (nI mm))] [] mem Φ := by
  refine go_aload_n dX6_ticksGo_73 0 rfl ?_
  refine go_iload dX6_ticksGo_74 6 rfl ?_
  refine go_aload_n dX6_ticksGo_76 0 rfl ?_
  refine go_getI (kf := 16) rfl rfl rfl uwX6 (by decide) flX6_168 dX6_ticksGo_77 ?_
  refine go_icmp_le 88 dX6_ticksGo_80 (by decide) (fun q => ?_) (fun q => ?_)
  · have h := h.1 q
    refine go_aload_n dX6_ticksGo_88 0 rfl ?_
    refine go_getI (kf := 16) rfl rfl rfl uwX6 (by decide) flX6_168 dX6_ticksGo_89 ?_
    refine go_putI (kf := 16) rfl rfl rfl uwX6 tyX6_ok nmX6 (by decide) rfl flX6_168 rfl rfl dX6_ticksGo_92 ?_
    exact Go.pick [0, 1, 2, 3, 4, 5, 6] rfl h
  · have h := h.2 q
    refine go_iload dX6_ticksGo_83 6 rfl ?_
    refine go_goto 92 dX6_ticksGo_85 (by decide) ?_
    refine go_putI (kf := 16) rfl rfl rfl uwX6 tyX6_ok nmX6 (by decide) rfl flX6_168 rfl rfl dX6_ticksGo_92 ?_
    exact Go.pick [0, 1, 2, 3, 4, 5, 6] rfl h

set_option maxRecDepth 100000 in
theorem sX6_ticksGo_95 {G : GX} {d : Nat} {mem : Mem} {Φ : Option Value → Mem → Prop} (P n a i w mm : Nat) (h : (((nI mm) ≤ 0 → Go G (d + 3) mX6_ticksGo 27 [(0, .ref 40), (1, .int (nI P)), (2, .int (nI n)), (3, .int (nI a)), (4, .int ((nI i) + 1))] [] (um mem 40 17 ((mem 40 17) + 0)) Φ) ∧ (¬ (nI mm) ≤ 0 → (92 ≤ 115) ∧ ((¬ (nI w) = (alI mem 92) → Go G (d + 3) mX6_ticksGo 27 [(0, .ref 40), (1, .int (nI P)), (2, .int (nI n)), (3, .int (nI a)), (4, .int ((nI i) + 1))] [] (um mem 40 17 ((mem 40 17) + 0)) Φ) ∧ ((nI w) = (alI mem 92) → Go G (d + 3) mX6_ticksGo 27 [(0, .ref 40), (1, .int (nI P)), (2, .int (nI n)), (3, .int (nI a)), (4, .int ((nI i) + 1))] [] (um mem 40 17 ((mem 40 17) + 1)) Φ))))) : Go G (d + 3) mX6_ticksGo 95 [(0, .ref 40), (1, .int (nI P)), (2, .int (nI n)), (3, .int (nI a)), (4, .int (nI i)), (5, .int (nI w)), (6, .int (nI mm))] [] mem Φ := by
  refine go_aload_n dX6_ticksGo_95 0 rfl ?_
  refine go_dup dX6_ticksGo_96 rfl ?_
  refine go_getI (kf := 17) rfl rfl rfl uwX6 (by decide) flX6_171 dX6_ticksGo_97 ?_
  refine go_iload dX6_ticksGo_100 6 rfl ?_
  refine go_if_le 120 dX6_ticksGo_102 (by decide) (fun q => ?_) (fun q => ?_)
  · have h := h.1 q
    refine go_iconst (v := 0) dX6_ticksGo_120 (by decide) ?_
    refine go_iadd dX6_ticksGo_121 ?_
    refine go_putI (kf := 17) rfl rfl rfl uwX6 tyX6_ok nmX6 (by decide) rfl flX6_171 rfl rfl dX6_ticksGo_122 ?_
    refine go_iinc (v := ((nI i) + 1)) (L2 := [(4, .int ((nI i) + 1)), (0, .ref 40), (1, .int (nI P)), (2, .int (nI n)), (3, .int (nI a)), (5, .int (nI w)), (6, .int (nI mm))]) dX6_ticksGo_125 4 rfl rfl (by decide) rfl ?_
    refine go_goto 27 dX6_ticksGo_128 (by decide) ?_
    exact Go.pick [1, 2, 3, 4, 0] rfl h
  · have h := h.2 q
    refine go_iload dX6_ticksGo_105 5 rfl ?_
    refine go_aload_n dX6_ticksGo_107 0 rfl ?_
    refine go_bipush (v := 92) dX6_ticksGo_108 (by decide) ?_
    obtain ⟨c1, h⟩ := h
    refine go_callV (st := [.int (nI w), .int (mem 40 17), .ref 40]) (kX6_allOn (d + 2) 92 c1) rfl rfl okX6_allOn insX6_allOn selX6_allOn lkX6_174 rfl rfl (Nat.le_of_ble_eq_true rfl) dX6_ticksGo_110 (fun v_ m2_ q => ?_)
    rw [q.1, q.2]
    refine go_stk (st2 := [.int (alI mem 92), .int (nI w), .int (mem 40 17), .ref 40]) rfl ?_
    refine go_icmp_ne 120 dX6_ticksGo_113 (by decide) (fun q => ?_) (fun q => ?_)
    · have h := h.1 q
      refine go_iconst (v := 0) dX6_ticksGo_120 (by decide) ?_
      refine go_iadd dX6_ticksGo_121 ?_
      refine go_putI (kf := 17) rfl rfl rfl uwX6 tyX6_ok nmX6 (by decide) rfl flX6_171 rfl rfl dX6_ticksGo_122 ?_
      refine go_iinc (v := ((nI i) + 1)) (L2 := [(4, .int ((nI i) + 1)), (0, .ref 40), (1, .int (nI P)), (2, .int (nI n)), (3, .int (nI a)), (5, .int (nI w)), (6, .int (nI mm))]) dX6_ticksGo_125 4 rfl rfl (by decide) rfl ?_
      refine go_goto 27 dX6_ticksGo_128 (by decide) ?_
      exact Go.pick [1, 2, 3, 4, 0] rfl h
    · have h := h.2 q
      refine go_iconst (v := 1) dX6_ticksGo_116 (by decide) ?_
      refine go_goto 121 dX6_ticksGo_117 (by decide) ?_
      refine go_iadd dX6_ticksGo_121 ?_
      refine go_putI (kf := 17) rfl rfl rfl uwX6 tyX6_ok nmX6 (by decide) rfl flX6_171 rfl rfl dX6_ticksGo_122 ?_
      refine go_iinc (v := ((nI i) + 1)) (L2 := [(4, .int ((nI i) + 1)), (0, .ref 40), (1, .int (nI P)), (2, .int (nI n)), (3, .int (nI a)), (5, .int (nI w)), (6, .int (nI mm))]) dX6_ticksGo_125 4 rfl rfl (by decide) rfl ?_
      refine go_goto 27 dX6_ticksGo_128 (by decide) ?_
      exact Go.pick [1, 2, 3, 4, 0] rfl h


set_option maxHeartbeats 4000000 in
theorem lX6_ticksGo {G : GX} {d : Nat} (P : Nat) {mem0 : Mem} {X : Bm} (hV : VX 9 30 X) {n : Nat} (hn : n ≤ 300) (hG : mem0 40 14 = goI 9) : ∀ (r i : Nat) (m : Mem), i + r = n → RepM m 92 (itX 9 nof X i) → m 40 15 = nI (ldX X i) → m 40 16 = nI (msX X i) → m 40 17 = nI (flX X i) → FrT mem0 m → Go G (d + 3) mX6_ticksGo 27 [(0, .ref 40), (1, .int (nI P)), (2, .int (nI n)), (3, .int (nI (smX 9 nof X i))), (4, .int (nI i))] [] m (Ri (nI (smX 9 nof X n)) (fun m2 => RepM m2 92 (itX 9 nof X n) ∧ m2 40 15 = nI (ldX X n) ∧ m2 40 16 = nI (msX X n) ∧ m2 40 17 = nI (flX X n) ∧ FrT mem0 m2)) := by
  intro r
  induction r with
  | zero =>
    intro i m hi hR e15 e16 e17 hF
    have hi2 : i = n := by omega
    subst hi2
    exact sX6_ticksGo_27 P i _ i (itX 9 nof X i) ⟨fun _ => ⟨rfl, hR, e15, e16, e17, hF⟩, fun q => absurd (Int32.le_refl _) q⟩
  | succ r ih =>
    intro i m hi hR e15 e16 e17 hF
    have hVi := VX_it (hf := nof) hV i
    have hw := who_lt hVi
    have hml := many_le hVi
    have hms := ms_le hV i
    have hGm : m 40 14 = goI 9 := by rw [hF.2.2 14 (by omega) (by omega) (by omega)]; exact hG
    refine sX6_ticksGo_27 P n _ i (itX 9 nof X i) ⟨fun q => absurd ((nle (by omega) (by omega)).mp q) (by omega), fun _ => ⟨by omega, ⟨by omega, by omega, by omega⟩, hVi, hR, hGm, fun m6 h6 => ⟨by omega, ?_⟩⟩⟩
    rw [who_pc hVi]
    have F6 := hF.trM h6.2
    have g15 : m6 40 15 = nI (ldX X i) := by rw [h6.2.1 40 (by decide)]; exact e15
    have g16 : m6 40 16 = nI (msX X i) := by rw [h6.2.1 40 (by decide)]; exact e16
    have g17 : m6 40 17 = nI (flX X i) := by rw [h6.2.1 40 (by decide)]; exact e17
    have g14 : m6 40 14 = goI 9 := by rw [h6.2.1 40 (by decide)]; exact hGm
    have eal : ∀ m7 : Mem, RepM m7 92 (itX 9 nof X (i + 1)) → m7 40 14 = goI 9 → alI m7 92 = nI (2 ^ xn X - 1) := fun m7 h7 h8 => alI_n (P := 92) (g := 9) (n := xn X) (by have := h7.1; rw [it_n] at this; exact this) h8 hV.1 (by omega) (Or.inl rfl)
    have ht := tog9 hVi
    rw [it_n] at ht
    have hp : 2 ^ xn X - 1 < 32 := by
      have : 2 ^ xn X ≤ 2 ^ 5 := Nat.pow_le_pow_right (by decide) hV.1
      have : 0 < 2 ^ xn X := Nat.two_pow_pos _
      omega
    have m0iff : nI (many 9 (itX 9 nof X i)) ≤ 0 ↔ many 9 (itX 9 nof X i) = 0 := by
      rw [show (0 : Int32) = nI 0 from rfl, nle (by omega) (by omega)]; omega
    -- the last stretch
    have s95 : ∀ m9 : Mem, RepM m9 92 (itX 9 nof X (i + 1)) → m9 40 14 = goI 9 → m9 40 15 = nI (ldX X (i + 1)) → m9 40 16 = nI (msX X (i + 1)) → m9 40 17 = nI (flX X i) → FrT mem0 m9 → Go G (d + 3) mX6_ticksGo 95 [(0, .ref 40), (1, .int (nI P)), (2, .int (nI n)), (3, .int (nI (smX 9 nof X (i + 1)))), (4, .int (nI i)), (5, .int (nI (who 9 (itX 9 nof X i)))), (6, .int (nI (many 9 (itX 9 nof X i))))] [] m9 (Ri (nI (smX 9 nof X n)) (fun m2 => RepM m2 92 (itX 9 nof X n) ∧ m2 40 15 = nI (ldX X n) ∧ m2 40 16 = nI (msX X n) ∧ m2 40 17 = nI (flX X n) ∧ FrT mem0 m2)) := fun m9 k1 k2 k3 k4 k5 k6 => by
      have fin : ∀ x : Int32, x = nI (flX X (i + 1)) → Go G (d + 3) mX6_ticksGo 27 [(0, .ref 40), (1, .int (nI P)), (2, .int (nI n)), (3, .int (nI (smX 9 nof X (i + 1)))), (4, .int (nI (i + 1)))] [] (um m9 40 17 x) (Ri (nI (smX 9 nof X n)) (fun m2 => RepM m2 92 (itX 9 nof X n) ∧ m2 40 15 = nI (ldX X n) ∧ m2 40 16 = nI (msX X n) ∧ m2 40 17 = nI (flX X n) ∧ FrT mem0 m2)) := fun x hx => ih (i + 1) _ (by omega) k1.put (by rw [um_at, if_neg (by decide)]; exact k3) (by rw [um_at, if_neg (by decide)]; exact k4) (by rw [um_at, if_pos rfl]; exact hx) (k6.put (Or.inr (Or.inr rfl)))
      have flN : ¬ togX 9 (itX 9 nof X i) = true → nI (flX X i) + 0 = nI (flX X (i + 1)) := fun z => by
        rw [Int32.add_zero]
        congr 1
        show _ = flX X i + _
        rw [if_neg z, Nat.add_zero]
      refine sX6_ticksGo_95 P n _ i _ _ ?_
      rw [eal m9 k1 k2, k5, nI_1, nI_1, m0iff]
      refine ⟨fun z => fin _ (flN (fun w => (of_decide_eq_true w).1 z)), fun z => ⟨by omega, fun z2 => fin _ (flN (fun w => z2 (ht.mp w).2)), fun z2 => fin _ ?_⟩⟩
      congr 1
      show _ = flX X i + _
      rw [if_pos (ht.mpr ⟨fun e => z (by unfold many; rw [it_n, e]; rfl), z2⟩)]
    have s73 : ∀ m7 : Mem, RepM m7 92 (itX 9 nof X (i + 1)) → m7 40 14 = goI 9 → m7 40 15 = nI (ldX X (i + 1)) → m7 40 16 = nI (msX X i) → m7 40 17 = nI (flX X i) → FrT mem0 m7 → Go G (d + 3) mX6_ticksGo 73 [(0, .ref 40), (1, .int (nI P)), (2, .int (nI n)), (3, .int (nI (smX 9 nof X (i + 1)))), (4, .int (nI i)), (5, .int (nI (who 9 (itX 9 nof X i)))), (6, .int (nI (many 9 (itX 9 nof X i))))] [] m7 (Ri (nI (smX 9 nof X n)) (fun m2 => RepM m2 92 (itX 9 nof X n) ∧ m2 40 15 = nI (ldX X n) ∧ m2 40 16 = nI (msX X n) ∧ m2 40 17 = nI (flX X n) ∧ FrT mem0 m2)) := fun m7 k1 k2 k3 k4 k5 k6 => by
      have fin : ∀ x : Int32, x = nI (msX X (i + 1)) → Go G (d + 3) mX6_ticksGo 95 [(0, .ref 40), (1, .int (nI P)), (2, .int (nI n)), (3, .int (nI (smX 9 nof X (i + 1)))), (4, .int (nI i)), (5, .int (nI (who 9 (itX 9 nof X i)))), (6, .int (nI (many 9 (itX 9 nof X i))))] [] (um m7 40 16 x) (Ri (nI (smX 9 nof X n)) (fun m2 => RepM m2 92 (itX 9 nof X n) ∧ m2 40 15 = nI (ldX X n) ∧ m2 40 16 = nI (msX X n) ∧ m2 40 17 = nI (flX X n) ∧ FrT mem0 m2)) := fun x hx => s95 _ k1.put (by rw [um_at, if_neg (by decide)]; exact k2) (by rw [um_at, if_neg (by decide)]; exact k3) (by rw [um_at, if_pos rfl]; exact hx) (by rw [um_at, if_neg (by decide)]; exact k5) (k6.put (Or.inr (Or.inl rfl)))
      refine sX6_ticksGo_73 P n _ i _ _ ?_
      rw [k4]
      refine ⟨fun z => fin _ ?_, fun z => fin _ ?_⟩
      · rw [show msX X (i + 1) = if msX X i < many 9 (itX 9 nof X i) then many 9 (itX 9 nof X i) else msX X i from rfl, if_neg (by have := (nle (by omega) (by omega)).mp z; omega)]
      · rw [show msX X (i + 1) = if msX X i < many 9 (itX 9 nof X i) then many 9 (itX 9 nof X i) else msX X i from rfl, if_pos (by have : ¬ many 9 (itX 9 nof X i) ≤ msX X i := fun q => z ((nle (by omega) (by omega)).mpr q); omega)]
    intro y8 h8
    have e8 : y8 = nI (smX 9 nof X (i + 1)) := by rw [h8, nI_add]; rfl
    rw [e8, m0iff, g15, nI_1]
    refine ⟨fun z => s73 _ h6.1.put (by rw [um_at, if_neg (by decide)]; exact g14) (by rw [um_at, if_pos rfl, Int32.add_zero]; congr 1; show _ = ldX X i + _; rw [if_pos z, Nat.add_zero]) (by rw [um_at, if_neg (by decide)]; exact g16) (by rw [um_at, if_neg (by decide)]; exact g17) (F6.put (Or.inl rfl)), fun z => s73 _ h6.1.put (by rw [um_at, if_neg (by decide)]; exact g14) (by rw [um_at, if_pos rfl]; congr 1; show _ = ldX X i + _; rw [if_neg z]) (by rw [um_at, if_neg (by decide)]; exact g16) (by rw [um_at, if_neg (by decide)]; exact g17) (F6.put (Or.inl rfl))⟩
theorem kX6_ticksGoI {G : GX} (d : Nat) {mem : Mem} (a b : Int32) (P n : Nat) (X : Bm) (e : a = nI P ∧ b = nI n) (hn : n ≤ 300) (hP : P ≤ 115 ∧ P + 23 ≤ 92) (hV : VX 9 30 X) (hR : RepM mem P X) (hG : mem 40 14 = goI 9) : Cn G (d + 3) mX6_ticksGo [.ref 40, .int a, .int b] mem (Ri (nI (smX 9 nof X n)) (fun m2 => RepM m2 92 (itX 9 nof X n) ∧ m2 40 15 = nI (ldX X n) ∧ m2 40 16 = nI (msX X n) ∧ m2 40 17 = nI (flX X n) ∧ FrT mem m2)) := by
  rw [e.1, e.2]
  refine cn_of (by decide +kernel) (Nat.le_of_ble_eq_true rfl) (sX6_ticksGo_0 P n ⟨⟨by omega, by omega, by omega⟩, fun m2 h2 => ?_⟩)
  have FC : FrT mem (cpM mem P 92) := ⟨fun k _ h => cpM_fr.1 k h, fun j hj => cpM_fr.2 j (by omega), fun j _ _ _ => by rw [cpM_fr.1 40 (by decide)]⟩
  have F2 : FrT mem m2 := by rw [h2]; exact ((FC.put (Or.inl rfl)).put (Or.inr (Or.inl rfl))).put (Or.inr (Or.inr rfl))
  refine lX6_ticksGo P hV hn hG n 0 m2 (by omega) ?_ ?_ ?_ ?_ F2
  · rw [h2]; exact (cpM_rep hV.1 hR).put.put.put
  · rw [h2, um_at, if_neg (by decide), um_at, if_neg (by decide), um_at, if_pos rfl]; rfl
  · rw [h2, um_at, if_neg (by decide), um_at, if_pos rfl]; rfl
  · rw [h2, um_at, if_pos rfl]; rfl
