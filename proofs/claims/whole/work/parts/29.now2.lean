
-- knock
def knockA (X : Bm) (c m : Int32) : Int32 × Bm := if isC X c ∧ (1 ≤ m ∧ m ≤ 5) then (nI (shN (xk X c.toNatClampNeg) (xp X c.toNatClampNeg) (xh X c.toNatClampNeg) m.toNatClampNeg (xu X)), shX X c.toNatClampNeg m.toNatClampNeg) else (-1, X)

set_option maxRecDepth 100000 in
theorem sX5_knock_0 {G : GX} {d : Nat} {mem : Mem} {Φ : Option Value → Mem → Prop} (a1 a2 : Int32) (c m k p hh u : Nat) (h : ((¬ (0 ≤ a1 ∧ a1 < mem 1 4) → Φ (some (.int (-1))) mem) ∧ ((0 ≤ a1 ∧ a1 < mem 1 4) → (((1 ≤ a2 ∧ a2 ≤ 5) → (a1 = nI c ∧ a2 = nI m) ∧ (c < 5) ∧ (k ≤ 3 ∧ 2 ≤ p ∧ p ≤ 30 ∧ hh < 1000000 ∧ 1 ≤ m ∧ m ≤ 5 ∧ u ≤ 5) ∧ (mem (1 + 1) c = nI k) ∧ (mem (1 + 2) c = nI p) ∧ (mem (1 + 3) c = nI hh) ∧ (mem 1 5 = nI u) ∧ (vp_in a1 5) ∧ Φ (some (.int ((um mem (1 + 3) c (nI (shN k p hh m u))) 4 (a1 : Int32).toNatClampNeg))) (um mem (1 + 3) c (nI (shN k p hh m u)))) ∧ (¬ (1 ≤ a2 ∧ a2 ≤ 5) → Φ (some (.int (-1))) mem))))) : Go G (d + 2) mX5_knock 0 [(0, .ref 0), (1, .int a1), (2, .int a2)] [] mem Φ := by
  refine go_aload_n dX5_knock_0 0 rfl ?_
  refine go_iload_n dX5_knock_1 1 rfl ?_
  refine go_callV (st := []) (kX5_isClock (d + 1) a1) rfl rfl okX5_isClock insX5_isClock selX5_isClock lkX5_123 rfl rfl (Nat.le_of_ble_eq_true rfl) dX5_knock_2 (fun v_ m2_ q => ?_)
  rw [q.1, q.2]
  refine go_stk (st2 := [.int (bI (0 ≤ a1 ∧ a1 < mem 1 4))]) rfl ?_
  refine go_if_eq 17 dX5_knock_5 (by decide) (fun q => ?_) (fun q => ?_)
  · have h := h.1 (bI0.mp q)
    refine go_iconst (v := (-1)) dX5_knock_17 (by decide) ?_
    exact go_iret rfl dX5_knock_18 h
  · have h := h.2 (bI1.mp q)
    refine go_iload_n dX5_knock_8 2 rfl ?_
    refine go_iconst (v := 1) dX5_knock_9 (by decide) ?_
    refine go_iconst (v := 5) dX5_knock_10 (by decide) ?_
    refine go_callS (st := []) (kX5_isWithin (d + 1) a2 1 5) okX5_isWithin staX5_isWithin lkX5_59 rfl rfl (Nat.le_of_ble_eq_true rfl) dX5_knock_11 (fun v_ m2_ q => ?_)
    rw [q.1, q.2]
    refine go_stk (st2 := [.int (bI (1 ≤ a2 ∧ a2 ≤ 5))]) rfl ?_
    refine go_if_ne 19 dX5_knock_14 (by decide) (fun q => ?_) (fun q => ?_)
    · have h := h.1 (bI1.mp q)
      refine go_aload_n dX5_knock_19 0 rfl ?_
      refine go_getR (kf := 0) (t := 1) rfl rfl rfl uwX5 (by decide) flX5_12 dX5_knock_20 ?_
      refine go_iload_n dX5_knock_23 1 rfl ?_
      refine go_iload_n dX5_knock_24 2 rfl ?_
      obtain ⟨c1, h⟩ := h
      obtain ⟨c2, h⟩ := h
      obtain ⟨c3, h⟩ := h
      obtain ⟨c4, h⟩ := h
      obtain ⟨c5, h⟩ := h
      obtain ⟨c6, h⟩ := h
      obtain ⟨c7, h⟩ := h
      refine go_callV (st := []) (kX0_shiftI (d + 0) 1 bA1 a1 a2 c m k p hh u c1 c2 c3 c4 c5 c6 c7) rfl rfl okX0_shift insX0_shift selX0_shift lkX5_150 rfl rfl (Nat.le_of_ble_eq_true rfl) dX5_knock_25 (fun v_ m2_ q => ?_)
      rw [q.1, q.2]
      refine go_stk (st2 := []) rfl ?_
      refine go_aload_n dX5_knock_28 0 rfl ?_
      refine go_getR (kf := 0) (t := 1) rfl rfl rfl uwX5 (by decide) flX5_12 dX5_knock_29 ?_
      refine go_getR (kf := 2) (t := 4) rfl rfl rfl uwX0 (by decide) flX5_120 dX5_knock_32 ?_
      refine go_iload_n dX5_knock_35 1 rfl ?_
      obtain ⟨c8, h⟩ := h
      refine go_iaload rfl c8 dX5_knock_36 ?_
      exact go_iret rfl dX5_knock_37 h
    · have h := h.2 (bI0.mp q)
      refine go_iconst (v := (-1)) dX5_knock_17 (by decide) ?_
      exact go_iret rfl dX5_knock_18 h

set_option maxRecDepth 100000 in
theorem sX6_knock_0 {G : GX} {d : Nat} {mem : Mem} {Φ : Option Value → Mem → Prop} (a1 a2 : Int32) (c m k p hh u : Nat) (h : ((¬ (0 ≤ a1 ∧ a1 ≤ ((mem 41 20) - 1)) → Φ (some (.int (-1))) mem) ∧ ((0 ≤ a1 ∧ a1 ≤ ((mem 41 20) - 1)) → (((1 ≤ a2 ∧ a2 ≤ 5) → (0 = nI 0 ∧ a1 = nI c ∧ a2 = nI (m)) ∧ (0 ≤ 115 ∧ c < 5) ∧ (k ≤ 3 ∧ 2 ≤ p ∧ p ≤ 30 ∧ hh < 1000000 ∧ 1 ≤ (m) ∧ (m) ≤ 5 ∧ u ≤ 5) ∧ (mem 41 (0 + c) = nI k) ∧ (mem 41 (0 + 5 + c) = nI p) ∧ (mem 41 (0 + 10 + c) = nI hh) ∧ (mem 41 (0 + 21) = nI u - 1) ∧ ∀ m8 : Mem, m8 = (um mem 41 (0 + 10 + c) (nI (shN k p hh (m) u))) → (vp_in (10 + a1) 138) ∧ Φ (some (.int (m8 41 ((10 + a1) : Int32).toNatClampNeg))) m8) ∧ (¬ (1 ≤ a2 ∧ a2 ≤ 5) → Φ (some (.int (-1))) mem))))) : Go G (d + 2) mX6_knock 0 [(0, .ref 40), (1, .int a1), (2, .int a2)] [] mem Φ := by
  refine go_aload_n dX6_knock_0 0 rfl ?_
  refine go_iload_n dX6_knock_1 1 rfl ?_
  refine go_callV (st := []) (kX6_isClock (d + 0) a1) rfl rfl okX6_isClock insX6_isClock selX6_isClock lkX6_137 rfl rfl (Nat.le_of_ble_eq_true rfl) dX6_knock_2 (fun v_ m2_ q => ?_)
  rw [q.1, q.2]
  refine go_stk (st2 := [.int (bI (0 ≤ a1 ∧ a1 ≤ ((mem 41 20) - 1)))]) rfl ?_
  refine go_if_eq 20 dX6_knock_5 (by decide) (fun q => ?_) (fun q => ?_)
  · have h := h.1 (bI0.mp q)
    refine go_iconst (v := (-1)) dX6_knock_20 (by decide) ?_
    exact go_iret rfl dX6_knock_21 h
  · have h := h.2 (bI1.mp q)
    refine go_iload_n dX6_knock_8 2 rfl ?_
    refine go_i2l dX6_knock_9 ?_
    refine go_lconst (v := 1) dX6_knock_10 (by decide) ?_
    refine go_ldc2 klX6_153 dX6_knock_11 ?_
    refine go_callS (st := []) (kX6_in (d + 1) a2 1 5 1 5 (by decide) (by decide)) okX6_in staX6_in lkX6_50 rfl rfl (Nat.le_of_ble_eq_true rfl) dX6_knock_14 (fun v_ m2_ q => ?_)
    rw [q.1, q.2]
    refine go_stk (st2 := [.int (bI (1 ≤ a2 ∧ a2 ≤ 5))]) rfl ?_
    refine go_if_ne 22 dX6_knock_17 (by decide) (fun q => ?_) (fun q => ?_)
    · have h := h.1 (bI1.mp q)
      refine go_aload_n dX6_knock_22 0 rfl ?_
      refine go_iconst (v := 0) dX6_knock_23 (by decide) ?_
      refine go_iload_n dX6_knock_24 1 rfl ?_
      refine go_iload_n dX6_knock_25 2 rfl ?_
      obtain ⟨c1, h⟩ := h
      obtain ⟨c2, h⟩ := h
      obtain ⟨c3, h⟩ := h
      obtain ⟨c4, h⟩ := h
      obtain ⟨c5, h⟩ := h
      obtain ⟨c6, h⟩ := h
      obtain ⟨c7, h⟩ := h
      refine go_callV (st := []) (kX6_pushedOnI (d + 0) 0 a1 a2 0 c (m) k p hh u c1 c2 c3 c4 c5 c6 c7) rfl rfl okX6_pushedOn insX6_pushedOn selX6_pushedOn lkX6_130 rfl rfl (Nat.le_of_ble_eq_true rfl) dX6_knock_26 (fun v_ m2_ q => ?_)
      rw [q.1, q.2]
      refine go_stk (st2 := []) rfl ?_
      refine go_mem (fun m8 qm8 => ?_)
      have h := h m8 qm8
      refine go_aload_n dX6_knock_29 0 rfl ?_
      refine go_getR (kf := 0) (t := 41) rfl rfl rfl uwX6 (by decide) flX6_7 dX6_knock_30 ?_
      refine go_bipush (v := 10) dX6_knock_33 (by decide) ?_
      refine go_iload_n dX6_knock_35 1 rfl ?_
      refine go_iadd dX6_knock_36 ?_
      obtain ⟨c9, h⟩ := h
      refine go_iaload rfl c9 dX6_knock_37 ?_
      exact go_iret rfl dX6_knock_38 h
    · have h := h.2 (bI0.mp q)
      refine go_iconst (v := (-1)) dX6_knock_20 (by decide) ?_
      exact go_iret rfl dX6_knock_21 h


set_option maxHeartbeats 4000000 in
theorem P10 {G : GX} (c m : Int32) : Sm G mX5_knock mX6_knock [.int c, .int m] := Sm_now (fun mem X h => by
  obtain ⟨hB, hM, hV, ht⟩ := h
  have hn := hV.1
  refine ⟨(knockA X c m).1, (knockA X c m).2, ?_, ?_, ?_, fun m1 hM1 _ => ?_⟩
  · unfold knockA
    split
    · exact VX_sh hV _ _
    · exact hV
  · unfold knockA
    split <;> exact ht
  · refine cn_of (by decide +kernel) (Nat.le_of_ble_eq_true rfl) (sX5_knock_0 (d := 7) c m c.toNatClampNeg m.toNatClampNeg (xk X c.toNatClampNeg) (xp X c.toNatClampNeg) (xh X c.toNatClampNeg) (xu X) ?_)
    rw [hB.1]
    unfold knockA
    refine ⟨fun q => ?_, fun q => ⟨fun q2 => ?_, fun q2 => ?_⟩⟩
    · rw [if_neg (fun z => q z.1)]; exact Ri.mk rfl ⟨hB, FrB.rf⟩
    · rw [if_pos ⟨q, q2⟩]
      obtain ⟨i, hi, rfl⟩ := isC_n q hn
      obtain ⟨k, hk, rfl⟩ := i300 (n := 5) rfl (by omega) ⟨Int32.le_trans (by decide) q2.1, q2.2⟩
      have hk1 : 1 ≤ k := (nle (a := 1) (by omega) (by omega)).mp q2.1
      rw [ncl (show i < 2000000000 by omega), ncl (show k < 2000000000 by omega)]
      obtain ⟨a1, a2, a3, a4, a5⟩ := hV.2.2 i hi
      obtain ⟨r1, r2, r3, r4⟩ := hB.2.2.2 i hi
      refine ⟨⟨rfl, rfl⟩, by omega, ⟨a1, a2, a3, VX9_h hV hi, hk1, hk, hV.2.1⟩, r1, r2, r3, hB.2.1, nin (by omega) (by omega), Ri.mk ?_ (RepB_h hB rfl)⟩
      show um mem 4 i _ 4 i = _
      rw [um_same]
    · rw [if_neg (fun z => q2 z.2)]; exact Ri.mk rfl ⟨hB, FrB.rf⟩
  · refine cn_of (by decide +kernel) (Nat.le_of_ble_eq_true rfl) (sX6_knock_0 (d := 7) c m c.toNatClampNeg m.toNatClampNeg (xk X c.toNatClampNeg) (xp X c.toNatClampNeg) (xh X c.toNatClampNeg) (xu X) ?_)
    rw [(RepM0 hM1).1, isC_M hn]
    unfold knockA
    refine ⟨fun q => ?_, fun q => ⟨fun q2 => ?_, fun q2 => ?_⟩⟩
    · rw [if_neg (fun z => q z.1)]; exact Ri.mk rfl ⟨hM1, FrM.rf⟩
    · rw [if_pos ⟨q, q2⟩]
      obtain ⟨i, hi, rfl⟩ := isC_n q hn
      obtain ⟨k, hk, rfl⟩ := i300 (n := 5) rfl (by omega) ⟨Int32.le_trans (by decide) q2.1, q2.2⟩
      have hk1 : 1 ≤ k := (nle (a := 1) (by omega) (by omega)).mp q2.1
      rw [ncl (show i < 2000000000 by omega), ncl (show k < 2000000000 by omega), show ((10 : Int32) + nI i).toNatClampNeg = 10 + i from qa (P := 10) (by omega)]
      obtain ⟨a1, a2, a3, a4, a5⟩ := hV.2.2 i hi
      obtain ⟨r1, r2, r3, r4⟩ := hM1.2.2.2 i hi
      refine ⟨⟨rfl, rfl, rfl⟩, ⟨by omega, by omega⟩, ⟨a1, a2, a3, VX9_h hV hi, hk1, hk, hV.2.1⟩, r1, r2, r3, hM1.2.1, fun m8 h8 => ⟨qL (P := 10) (by omega), Ri.mk ?_ (RepM_h hn (by omega) hM1 h8)⟩⟩
      rw [h8, pls, um_same]
    · rw [if_neg (fun z => q2 z.2)]; exact Ri.mk rfl ⟨hM1, FrM.rf⟩)
-- ticks
def ticksA (X : Bm) (a : Int32) : Int32 × Bm := if 0 ≤ a ∧ a ≤ 100 then (if nI (xt X) + a < 10000 then (nI (smX 9 nof X a.toNatClampNeg), itX 9 nof X a.toNatClampNeg) else (-3, X)) else (-1, X)
theorem it_t {g : Nat} {hf : Nat → Bool} {X : Bm} : ∀ t, xt (itX g hf X t) = xt X + t
  | 0 => rfl
  | t + 1 => by
    show xt (itX g hf X t) + 1 = _
    rw [it_t t]
    omega

set_option maxRecDepth 100000 in
theorem sX5_ticks_0 {G : GX} {d : Nat} {mem : Mem} {Φ : Option Value → Mem → Prop} (a1 : Int32) (n : Nat) (X : Bm) (h : (((0 ≤ a1 ∧ a1 ≤ 100) → ((((mem 1 6) + a1) < 10000 → (a1 = nI n) ∧ (n < 1000000) ∧ (VX 9 30 X) ∧ (RepB mem 1 X) ∧ ∀ m5 : Mem, (RepB m5 1 (itX 9 nof X n) ∧ FrB 1 mem m5) → Φ (some (.int (nI (smX 9 nof X n)))) m5) ∧ (¬ ((mem 1 6) + a1) < 10000 → Φ (some (.int (-3))) mem))) ∧ (¬ (0 ≤ a1 ∧ a1 ≤ 100) → Φ (some (.int (-1))) mem))) : Go G (d + 6) mX5_ticks 0 [(0, .ref 0), (1, .int a1)] [] mem Φ := by
  refine go_iload_n dX5_ticks_0 1 rfl ?_
  refine go_iconst (v := 0) dX5_ticks_1 (by decide) ?_
  refine go_bipush (v := 100) dX5_ticks_2 (by decide) ?_
  refine go_callS (st := []) (kX5_isWithin (d + 5) a1 0 100) okX5_isWithin staX5_isWithin lkX5_59 rfl rfl (Nat.le_of_ble_eq_true rfl) dX5_ticks_4 (fun v_ m2_ q => ?_)
  rw [q.1, q.2]
  refine go_stk (st2 := [.int (bI (0 ≤ a1 ∧ a1 ≤ 100))]) rfl ?_
  refine go_if_ne 12 dX5_ticks_7 (by decide) (fun q => ?_) (fun q => ?_)
  · have h := h.1 (bI1.mp q)
    refine go_aload_n dX5_ticks_12 0 rfl ?_
    refine go_getR (kf := 0) (t := 1) rfl rfl rfl uwX5 (by decide) flX5_12 dX5_ticks_13 ?_
    refine go_getI (kf := 6) rfl rfl rfl uwX0 (by decide) flX5_102 dX5_ticks_16 ?_
    refine go_iload_n dX5_ticks_19 1 rfl ?_
    refine go_iadd dX5_ticks_20 ?_
    refine go_sipush (v := 10000) dX5_ticks_21 (by decide) ?_
    refine go_icmp_lt 30 dX5_ticks_24 (by decide) (fun q => ?_) (fun q => ?_)
    · have h := h.1 q
      refine go_aload_n dX5_ticks_30 0 rfl ?_
      refine go_getR (kf := 0) (t := 1) rfl rfl rfl uwX5 (by decide) flX5_12 dX5_ticks_31 ?_
      refine go_iload_n dX5_ticks_34 1 rfl ?_
      obtain ⟨c1, h⟩ := h
      obtain ⟨c2, h⟩ := h
      obtain ⟨c3, h⟩ := h
      obtain ⟨c4, h⟩ := h
      refine go_callV (st := []) (kX0_stepManyI (d + 0) 1 bA1 a1 n X 30 c1 c2 c3 c4) rfl rfl okX0_stepMany insX0_stepMany selX0_stepMany lkX5_154 rfl rfl (Nat.le_of_ble_eq_true rfl) dX5_ticks_35 (fun v_ m5 q => ?_)
      rw [q.1]
      have h := h m5 q.2
      refine go_stk (st2 := [.int (nI (smX 9 nof X n))]) rfl ?_
      exact go_iret rfl dX5_ticks_38 h
    · have h := h.2 q
      refine go_bipush (v := (-3)) dX5_ticks_27 (by decide) ?_
      exact go_iret rfl dX5_ticks_29 h
  · have h := h.2 (bI0.mp q)
    refine go_iconst (v := (-1)) dX5_ticks_10 (by decide) ?_
    exact go_iret rfl dX5_ticks_11 h

set_option maxRecDepth 100000 in
theorem sX6_ticks_0 {G : GX} {d : Nat} {mem : Mem} {Φ : Option Value → Mem → Prop} (a1 : Int32) (h : (((0 ≤ a1 ∧ a1 ≤ 100) → ((((mem 41 (22 : Int32).toNatClampNeg) + a1) ≤ 9999 → Go G (d + 3) mX6_ticks 36 [(0, .ref 40), (1, .int a1), (2, .int 0), (3, .int 0)] [] mem Φ) ∧ (¬ ((mem 41 (22 : Int32).toNatClampNeg) + a1) ≤ 9999 → Φ (some (.int (-3))) mem))) ∧ (¬ (0 ≤ a1 ∧ a1 ≤ 100) → Φ (some (.int (-1))) mem))) : Go G (d + 3) mX6_ticks 0 [(0, .ref 40), (1, .int a1)] [] mem Φ := by
  refine go_iload_n dX6_ticks_0 1 rfl ?_
  refine go_i2l dX6_ticks_1 ?_
  refine go_lconst (v := 0) dX6_ticks_2 (by decide) ?_
  refine go_ldc2 klX6_155 dX6_ticks_3 ?_
  refine go_callS (st := []) (kX6_in (d + 2) a1 0 100 0 100 (by decide) (by decide)) okX6_in staX6_in lkX6_50 rfl rfl (Nat.le_of_ble_eq_true rfl) dX6_ticks_6 (fun v_ m2_ q => ?_)
  rw [q.1, q.2]
  refine go_stk (st2 := [.int (bI (0 ≤ a1 ∧ a1 ≤ 100))]) rfl ?_
  refine go_if_ne 14 dX6_ticks_9 (by decide) (fun q => ?_) (fun q => ?_)
  · have h := h.1 (bI1.mp q)
    refine go_aload_n dX6_ticks_14 0 rfl ?_
    refine go_getR (kf := 0) (t := 41) rfl rfl rfl uwX6 (by decide) flX6_7 dX6_ticks_15 ?_
    refine go_bipush (v := 22) dX6_ticks_18 (by decide) ?_
    refine go_iaload rfl (nin (a := 22) (by decide) (by decide)) dX6_ticks_20 ?_
    refine go_iload_n dX6_ticks_21 1 rfl ?_
    refine go_iadd dX6_ticks_22 ?_
    refine go_sipush (v := 9999) dX6_ticks_23 (by decide) ?_
    refine go_icmp_le 32 dX6_ticks_26 (by decide) (fun q => ?_) (fun q => ?_)
    · have h := h.1 q
      refine go_iconst (v := 0) dX6_ticks_32 (by decide) ?_
      refine go_istore_n (L2 := [(2, .int 0), (0, .ref 40), (1, .int a1)]) dX6_ticks_33 (by decide) rfl ?_
      refine go_iconst (v := 0) dX6_ticks_34 (by decide) ?_
      refine go_istore_n (L2 := [(3, .int 0), (2, .int 0), (0, .ref 40), (1, .int a1)]) dX6_ticks_35 (by decide) rfl ?_
      exact Go.pick [2, 3, 1, 0] rfl h
    · have h := h.2 q
      refine go_bipush (v := (-3)) dX6_ticks_29 (by decide) ?_
      exact go_iret rfl dX6_ticks_31 h
  · have h := h.2 (bI0.mp q)
    refine go_iconst (v := (-1)) dX6_ticks_12 (by decide) ?_
    exact go_iret rfl dX6_ticks_13 h

set_option maxRecDepth 100000 in
theorem sX6_ticks_36 {G : GX} {d : Nat} {mem : Mem} {Φ : Option Value → Mem → Prop} (n s i : Nat) (X : Bm) (h : (((nI n) ≤ (nI i) → Φ (some (.int (nI s))) mem) ∧ (¬ (nI n) ≤ (nI i) → (0 = nI 0) ∧ (0 ≤ 115) ∧ (9 < 10 ∧ 30 ≤ 30 ∧ 30 < 900000) ∧ (VX 9 30 X) ∧ (RepM mem 0 X) ∧ (mem 40 14 = goI 9) ∧ ∀ m7 : Mem, (RepM m7 0 (tkX 9 false X) ∧ FrM 0 mem m7) → (who 9 X < 1073741824) ∧ ∀ y9 : Int32, y9 = ((nI s) + (nI (pcF 32 (who 9 X)))) → Go G (d + 3) mX6_ticks 36 [(0, .ref 40), (1, .int (nI n)), (2, .int y9), (3, .int ((nI i) + 1))] [] m7 Φ))) : Go G (d + 3) mX6_ticks 36 [(0, .ref 40), (1, .int (nI n)), (2, .int (nI s)), (3, .int (nI i))] [] mem Φ := by
  refine go_iload_n dX6_ticks_36 3 rfl ?_
  refine go_iload_n dX6_ticks_37 1 rfl ?_
  refine go_icmp_ge 59 dX6_ticks_38 (by decide) (fun q => ?_) (fun q => ?_)
  · have h := h.1 q
    refine go_iload_n dX6_ticks_59 2 rfl ?_
    exact go_iret rfl dX6_ticks_60 h
  · have h := h.2 q
    refine go_iload_n dX6_ticks_41 2 rfl ?_
    refine go_aload_n dX6_ticks_42 0 rfl ?_
    refine go_iconst (v := 0) dX6_ticks_43 (by decide) ?_
    refine go_iconst (v := 0) dX6_ticks_44 (by decide) ?_
    obtain ⟨c1, h⟩ := h
    obtain ⟨c2, h⟩ := h
    obtain ⟨c3, h⟩ := h
    obtain ⟨c4, h⟩ := h
    obtain ⟨c5, h⟩ := h
    obtain ⟨c6, h⟩ := h
    refine go_callV (st := [.int (nI s)]) (kX6_tickOnI (d + 0) 0 0 false X 9 30 c1 c2 c3 c4 c5 c6) rfl rfl okX6_tickOn insX6_tickOn selX6_tickOn lkX6_157 rfl rfl (Nat.le_of_ble_eq_true rfl) dX6_ticks_45 (fun v_ m7 q => ?_)
    rw [q.1]
    have h := h m7 q.2
    refine go_stk (st2 := [.int (nI (who 9 X)), .int (nI s)]) rfl ?_
    obtain ⟨c8, h⟩ := h
    refine go_callS (st := [.int (nI s)]) (kX6_bitsOf (d + 2) (who 9 X) c8) okX6_bitsOf staX6_bitsOf lkX6_127 rfl rfl (Nat.le_of_ble_eq_true rfl) dX6_ticks_48 (fun v_ m2_ q => ?_)
    rw [q.1, q.2]
    refine go_stk (st2 := [.int (nI (pcF 32 (who 9 X))), .int (nI s)]) rfl ?_
    refine go_iadd dX6_ticks_51 ?_
    refine go_topi (fun y9 qy9 => ?_)
    have h := h y9 qy9
    refine go_istore_n (L2 := [(2, .int y9), (0, .ref 40), (1, .int (nI n)), (3, .int (nI i))]) dX6_ticks_52 (by decide) rfl ?_
    refine go_iinc (v := ((nI i) + 1)) (L2 := [(3, .int ((nI i) + 1)), (2, .int y9), (0, .ref 40), (1, .int (nI n))]) dX6_ticks_53 3 rfl rfl (by decide) rfl ?_
    refine go_goto 36 dX6_ticks_56 (by decide) ?_
    exact Go.pick [2, 3, 1, 0] rfl h


theorem lX6_ticks {G : GX} {d : Nat} {mem0 : Mem} {X : Bm} (hV : VX 9 30 X) (hG : mem0 40 14 = goI 9) {n : Nat} (hn : n ≤ 300) : ∀ (r i : Nat) (m : Mem), i + r = n → RepM m 0 (itX 9 nof X i) → FrM 0 mem0 m → Go G (d + 3) mX6_ticks 36 [(0, .ref 40), (1, .int (nI n)), (2, .int (nI (smX 9 nof X i))), (3, .int (nI i))] [] m (Ri (nI (smX 9 nof X n)) (fun m2 => RepM m2 0 (itX 9 nof X n) ∧ FrM 0 mem0 m2)) := by
  intro r
  induction r with
  | zero =>
    intro i m hi hR hF
    have hi2 : i = n := by omega
    subst hi2
    exact sX6_ticks_36 i _ i (itX 9 nof X i) ⟨fun _ => ⟨rfl, hR, hF⟩, fun q => absurd (Int32.le_refl _) q⟩
  | succ r ih =>
    intro i m hi hR hF
    have hVi := VX_it (hf := nof) hV i
    have hw := who_lt hVi
    refine sX6_ticks_36 n _ i (itX 9 nof X i) ⟨fun q => absurd ((nle (by omega) (by omega)).mp q) (by omega), fun _ => ⟨rfl, by omega, ⟨by omega, by omega, by omega⟩, hVi, hR, by rw [hF.1 40 (by decide)]; exact hG, fun m7 h7 => ⟨by omega, ?_⟩⟩⟩
    rw [who_pc hVi, nI_add, nI_1]
    intro y hy
    rw [hy]
    exact ih (i + 1) m7 (by omega) h7.1 (hF.tr h7.2)
theorem P11 {G : GX} (a : Int32) : Sm G mX5_ticks mX6_ticks [.int a] := Sm_now (fun mem X h => by
  obtain ⟨hB, hM, hV, ht⟩ := h
  have hn := hV.1
  have lt : ∀ k, k ≤ 100 → (nI (xt X) + nI k < 10000 ↔ xt X + k ≤ 9999) := fun k hk => by
    rw [nI_add, show (10000 : Int32) = nI 10000 from rfl, nlt (by omega) (by omega)]
    omega
  refine ⟨(ticksA X a).1, (ticksA X a).2, ?_, ?_, ?_, fun m1 hM1 hG => ?_⟩
  · unfold ticksA
    split
    · split
      · exact VX_it hV _
      · exact hV
    · exact hV
  · unfold ticksA
    by_cases q : 0 ≤ a ∧ a ≤ 100
    · rw [if_pos q]
      obtain ⟨k, hk, rfl⟩ := i300 (n := 100) rfl (by omega) q
      by_cases q2 : nI (xt X) + nI k < 10000
      · rw [if_pos q2, ncl (by omega)]
        show xt (itX 9 nof X k) ≤ 9999
        rw [it_t]
        exact (lt k hk).mp q2
      · rw [if_neg q2]; exact ht
    · rw [if_neg q]; exact ht
  · refine cn_of (by decide +kernel) (Nat.le_of_ble_eq_true rfl) (sX5_ticks_0 (d := 3) a a.toNatClampNeg X ?_)
    rw [hB.2.2.1]
    unfold ticksA
    refine ⟨fun q => ?_, fun q => ?_⟩
    · rw [if_pos q]
      obtain ⟨e1, e2⟩ := i_of (n := 100) rfl (by omega) q
      refine ⟨fun q2 => ?_, fun q2 => ?_⟩
      · rw [if_pos q2]
        exact ⟨e2, by omega, hV, hB, fun m5 h5 => ⟨rfl, h5⟩⟩
      · rw [if_neg q2]; exact Ri.mk rfl ⟨hB, FrB.rf⟩
    · rw [if_neg q]; exact Ri.mk rfl ⟨hB, FrB.rf⟩
  · refine cn_of (by decide +kernel) (Nat.le_of_ble_eq_true rfl) (sX6_ticks_0 (d := 6) a ?_)
    rw [z22, (RepM0 hM1).2.2.1]
    unfold ticksA
    refine ⟨fun q => ?_, fun q => ?_⟩
    · rw [if_pos q]
      obtain ⟨k, hk, rfl⟩ := i300 (n := 100) rfl (by omega) q
      have e : nI (xt X) + nI k ≤ 9999 ↔ nI (xt X) + nI k < 10000 := by
        rw [lt k hk, nI_add, show (9999 : Int32) = nI 9999 from rfl, nle (by omega) (by omega)]
      rw [e]
      refine ⟨fun q2 => ?_, fun q2 => ?_⟩
      · rw [if_pos q2, ncl (by omega)]
        exact lX6_ticks hV hG (by omega) k 0 m1 (by omega) hM1 FrM.rf
      · rw [if_neg q2]; exact Ri.mk rfl ⟨hM1, FrM.rf⟩
    · rw [if_neg q]; exact Ri.mk rfl ⟨hM1, FrM.rf⟩)
-- alter
def alA (X : Bm) (c w v : Int32) : Int32 × Bm := if isC X c then (if w = 0 then alK X c.toNatClampNeg v else if w = 1 then alP X c.toNatClampNeg v else if w = 2 then alH X c.toNatClampNeg v else (-1, X)) else (-1, X)
theorem kX0_alterKindI {G : GX} (d : Nat) {mem : Mem} (b : Nat) (hB : BeamAt b) (a : Int32) (c : Nat) (v : Int32) (X : Bm) (e : a = nI c) (hn : xn X ≤ 5) (hc : c < xn X) (hR : RepB mem b X) : Cn G (d + 1) mX0_alterKind [.ref b, .int a, .int v] mem (Ri (alK X c v).1 (fun m2 => RepB m2 b (alK X c v).2 ∧ FrB b mem m2)) := by
  rw [e]; exact kX0_alterKind d b hB c v X hn hc hR
theorem kX0_alterPeriodI {G : GX} (d : Nat) {mem : Mem} (b : Nat) (hB : BeamAt b) (a : Int32) (c : Nat) (v : Int32) (X : Bm) (e : a = nI c) (hn : xn X ≤ 5) (hc : c < xn X) (hR : RepB mem b X) : Cn G (d + 1) mX0_alterPeriod [.ref b, .int a, .int v] mem (Ri (alP X c v).1 (fun m2 => RepB m2 b (alP X c v).2 ∧ FrB b mem m2)) := by
  rw [e]; exact kX0_alterPeriod d b hB c v X hn hc hR
theorem kX0_alterHandI {G : GX} (d : Nat) {mem : Mem} (b : Nat) (hB : BeamAt b) (a : Int32) (c : Nat) (v : Int32) (X : Bm) (e : a = nI c) (hn : xn X ≤ 5) (hc : c < xn X) (hR : RepB mem b X) : Cn G (d + 1) mX0_alterHand [.ref b, .int a, .int v] mem (Ri (alH X c v).1 (fun m2 => RepB m2 b (alH X c v).2 ∧ FrB b mem m2)) := by
  rw [e]; exact kX0_alterHand d b hB c v X hn hc hR
theorem VX_k {X : Bm} {c v : Nat} (h : VX 9 30 X) (hv : v ≤ 3) : VX 9 30 (stK X c v) := by
  refine ⟨h.1, h.2.1, fun j hj => ?_⟩
  obtain ⟨a1, a2⟩ := h.2.2 j hj
  refine ⟨?_, a2⟩
  show upN (xk X) c v j ≤ 3
  unfold upN
  split
  · exact hv
  · exact a1
theorem VX_p {X : Bm} {c v : Nat} (h : VX 9 30 X) (hv : 2 ≤ v) (hv2 : v ≤ 30) (hh : c < xn X → xh X c < v) : VX 9 30 (stP X c v) := by
  refine ⟨h.1, h.2.1, fun j hj => ?_⟩
  obtain ⟨a1, a2, a3, a4, a5⟩ := h.2.2 j hj
  refine ⟨a1, ?_⟩
  show 2 ≤ upN (xp X) c v j ∧ upN (xp X) c v j ≤ 30 ∧ (j ≠ 9 → xh X j < upN (xp X) c v j) ∧ (j = 9 → xh X j ≤ 30)
  unfold upN
  by_cases q : j = c
  · rw [if_pos q]
    exact ⟨hv, hv2, fun _ => by rw [q]; exact hh (by rw [← q]; exact hj), a5⟩
  · rw [if_neg q]
    exact ⟨a2, a3, a4, a5⟩
theorem VX_h {X : Bm} {c v : Nat} (h : VX 9 30 X) (hh : c < xn X → v < xp X c) : VX 9 30 (stH X c v) := by
  refine ⟨h.1, h.2.1, fun j hj => ?_⟩
  obtain ⟨a1, a2, a3, a4, a5⟩ := h.2.2 j hj
  have hn := h.1
  have hj2 : j < xn X := hj
  refine ⟨a1, a2, a3, fun q9 => ?_, fun q9 => by omega⟩
  show upN (xh X) c v j < xp X j
  unfold upN
  by_cases q : j = c
  · rw [if_pos q, q]
    exact hh (by rw [← q]; exact hj)
  · rw [if_neg q]
    exact a4 q9
theorem VX_alA {X : Bm} (h : VX 9 30 X) (c w v : Int32) : VX 9 30 (alA X c w v).2 ∧ xt (alA X c w v).2 = xt X := by
  unfold alA
  by_cases q : isC X c
  · rw [if_pos q]
    obtain ⟨i, hi, rfl⟩ := isC_n q h.1
    have hn := h.1
    rw [ncl (show i < 2000000000 by omega)]
    by_cases q0 : w = 0
    · rw [if_pos q0]
      unfold alK
      by_cases z : 0 ≤ v ∧ v ≤ 3
      · rw [if_pos z]; exact ⟨VX_k h (i_of (n := 3) rfl (by omega) z).1, rfl⟩
      · rw [if_neg z]; exact ⟨h, rfl⟩
    · rw [if_neg q0]
      by_cases q1 : w = 1
      · rw [if_pos q1]
        unfold alP
        by_cases z : 2 ≤ v ∧ v ≤ 30
        · rw [if_pos z]
          obtain ⟨k, hk, rfl⟩ := i300 (n := 30) rfl (by omega) ⟨Int32.le_trans (by decide) z.1, z.2⟩
          have b1 := VX9_h h hi
          by_cases z2 : nI (xh X i) < nI k
          · rw [if_pos z2, ncl (by omega)]
            exact ⟨VX_p h ((nle (a := 2) (by omega) (by omega)).mp z.1) hk (fun _ => (nlt (by omega) (by omega)).mp z2), rfl⟩
          · rw [if_neg z2]; exact ⟨h, rfl⟩
        · rw [if_neg z]; exact ⟨h, rfl⟩
      · rw [if_neg q1]
        by_cases q2 : w = 2
        · rw [if_pos q2]
          unfold alH
          by_cases z : 0 ≤ v ∧ v ≤ 29
          · rw [if_pos z]
            obtain ⟨k, hk, rfl⟩ := i300 (n := 29) rfl (by omega) z
            have b1 := (h.2.2 i hi).2.2.1
            by_cases z2 : nI k < nI (xp X i)
            · rw [if_pos z2, ncl (by omega)]
              exact ⟨VX_h h (fun _ => (nlt (by omega) (by omega)).mp z2), rfl⟩
            · rw [if_neg z2]; exact ⟨h, rfl⟩
          · rw [if_neg z]; exact ⟨h, rfl⟩
        · rw [if_neg q2]; exact ⟨h, rfl⟩
  · rw [if_neg q]; exact ⟨h, rfl⟩
theorem RepM_k {m m2 : Mem} {X : Bm} {c v : Nat} (hn : xn X ≤ 5) (hc : c < 5) (hR : RepM m 0 X) (e : m2 = um m 41 c (nI v)) : RepM m2 0 (stK X c v) ∧ FrM 0 m m2 := by
  have f : ∀ j, j ≠ c → m2 41 j = m 41 j := fun j hj => by rw [e, um41 hj]
  refine ⟨⟨by rw [f _ (by omega)]; exact hR.1, by rw [f _ (by omega)]; exact hR.2.1, by rw [f _ (by omega)]; exact hR.2.2.1, fun j hj => ?_⟩, fun k hk => by rw [e, um_ne hk], fun j hj => f j (by omega)⟩
  have hj2 : j < xn X := hj
  obtain ⟨a1, a2, a3, a4⟩ := hR.2.2.2 j hj2
  refine ⟨?_, by rw [f _ (by omega)]; exact a2, by rw [f _ (by omega)]; exact a3, by rw [f _ (by omega)]; exact a4⟩
  rw [e, um_at]
  show _ = nI (upN (xk X) c v j)
  unfold upN
  by_cases q : j = c
  · rw [if_pos q, if_pos (by omega)]
  · rw [if_neg q, if_neg (by omega)]; exact a1
theorem RepM_p {m m2 : Mem} {X : Bm} {c v : Nat} (hn : xn X ≤ 5) (hc : c < 5) (hR : RepM m 0 X) (e : m2 = um m 41 (5 + c) (nI v)) : RepM m2 0 (stP X c v) ∧ FrM 0 m m2 := by
  have f : ∀ j, j ≠ 5 + c → m2 41 j = m 41 j := fun j hj => by rw [e, um41 hj]
  refine ⟨⟨by rw [f _ (by omega)]; exact hR.1, by rw [f _ (by omega)]; exact hR.2.1, by rw [f _ (by omega)]; exact hR.2.2.1, fun j hj => ?_⟩, fun k hk => by rw [e, um_ne hk], fun j hj => f j (by omega)⟩
  have hj2 : j < xn X := hj
  obtain ⟨a1, a2, a3, a4⟩ := hR.2.2.2 j hj2
  refine ⟨by rw [f _ (by omega)]; exact a1, ?_, by rw [f _ (by omega)]; exact a3, by rw [f _ (by omega)]; exact a4⟩
  rw [e, um_at]
  show _ = nI (upN (xp X) c v j)
  unfold upN
  by_cases q : j = c
  · rw [if_pos q, if_pos (by omega)]
  · rw [if_neg q, if_neg (by omega)]; exact a2

set_option maxRecDepth 100000 in
theorem sX5_alter_0 {G : GX} {d : Nat} {mem : Mem} {Φ : Option Value → Mem → Prop} (a1 a2 a3 : Int32) (c : Nat) (X : Bm) (h : (((0 ≤ a1 ∧ a1 < mem 1 4) → ((a2 = 0 → (a1 = nI c) ∧ (xn X ≤ 5) ∧ (c < xn X) ∧ (RepB mem 1 X) ∧ ∀ m5 : Mem, (RepB m5 1 (alK X c a3).2 ∧ FrB 1 mem m5) → Φ (some (.int (alK X c a3).1)) m5) ∧ (¬ a2 = 0 → ((a2 = 1 → (a1 = nI c) ∧ (xn X ≤ 5) ∧ (c < xn X) ∧ (RepB mem 1 X) ∧ ∀ m10 : Mem, (RepB m10 1 (alP X c a3).2 ∧ FrB 1 mem m10) → Φ (some (.int (alP X c a3).1)) m10) ∧ (¬ a2 = 1 → ((a2 = 2 → (a1 = nI c) ∧ (xn X ≤ 5) ∧ (c < xn X) ∧ (RepB mem 1 X) ∧ ∀ m15 : Mem, (RepB m15 1 (alH X c a3).2 ∧ FrB 1 mem m15) → Φ (some (.int (alH X c a3).1)) m15) ∧ (¬ a2 = 2 → Φ (some (.int (-1))) mem))))))) ∧ (¬ (0 ≤ a1 ∧ a1 < mem 1 4) → Φ (some (.int (-1))) mem))) : Go G (d + 2) mX5_alter 0 [(0, .ref 0), (1, .int a1), (2, .int a2), (3, .int a3)] [] mem Φ := by
  refine go_aload_n dX5_alter_0 0 rfl ?_
  refine go_iload_n dX5_alter_1 1 rfl ?_
  refine go_callV (st := []) (kX5_isClock (d + 1) a1) rfl rfl okX5_isClock insX5_isClock selX5_isClock lkX5_123 rfl rfl (Nat.le_of_ble_eq_true rfl) dX5_alter_2 (fun v_ m2_ q => ?_)
  rw [q.1, q.2]
  refine go_stk (st2 := [.int (bI (0 ≤ a1 ∧ a1 < mem 1 4))]) rfl ?_
  refine go_if_ne 10 dX5_alter_5 (by decide) (fun q => ?_) (fun q => ?_)
  · have h := h.1 (bI1.mp q)
    refine go_iload_n dX5_alter_10 2 rfl ?_
    by_cases q0 : a2 = 0
    · have h := h.1 q0
      refine go_tabEq q0 36 dX5_alter_11 (by decide) (by decide) rfl (by decide) ?_
      refine go_aload_n dX5_alter_36 0 rfl ?_
      refine go_getR (kf := 0) (t := 1) rfl rfl rfl uwX5 (by decide) flX5_12 dX5_alter_37 ?_
      refine go_iload_n dX5_alter_40 1 rfl ?_
      refine go_iload_n dX5_alter_41 3 rfl ?_
      obtain ⟨c1, h⟩ := h
      obtain ⟨c2, h⟩ := h
      obtain ⟨c3, h⟩ := h
      obtain ⟨c4, h⟩ := h
      refine go_callV (st := []) (kX0_alterKindI (d + 0) 1 bA1 a1 c a3 X c1 c2 c3 c4) rfl rfl okX0_alterKind insX0_alterKind selX0_alterKind lkX5_136 rfl rfl (Nat.le_of_ble_eq_true rfl) dX5_alter_42 (fun v_ m5 q => ?_)
      rw [q.1]
      have h := h m5 q.2
      refine go_stk (st2 := [.int (alK X c a3).1]) rfl ?_
      exact go_iret rfl dX5_alter_45 h
    have h := h.2 q0
    by_cases q1 : a2 = 1
    · have h := h.1 q1
      refine go_tabEq q1 46 dX5_alter_11 (by decide) (by decide) rfl (by decide) ?_
      refine go_aload_n dX5_alter_46 0 rfl ?_
      refine go_getR (kf := 0) (t := 1) rfl rfl rfl uwX5 (by decide) flX5_12 dX5_alter_47 ?_
      refine go_iload_n dX5_alter_50 1 rfl ?_
      refine go_iload_n dX5_alter_51 3 rfl ?_
      obtain ⟨c6, h⟩ := h
      obtain ⟨c7, h⟩ := h
      obtain ⟨c8, h⟩ := h
      obtain ⟨c9, h⟩ := h
      refine go_callV (st := []) (kX0_alterPeriodI (d + 0) 1 bA1 a1 c a3 X c6 c7 c8 c9) rfl rfl okX0_alterPeriod insX0_alterPeriod selX0_alterPeriod lkX5_140 rfl rfl (Nat.le_of_ble_eq_true rfl) dX5_alter_52 (fun v_ m10 q => ?_)
      rw [q.1]
      have h := h m10 q.2
      refine go_stk (st2 := [.int (alP X c a3).1]) rfl ?_
      exact go_iret rfl dX5_alter_55 h
    have h := h.2 q1
    by_cases q2 : a2 = 2
    · have h := h.1 q2
      refine go_tabEq q2 56 dX5_alter_11 (by decide) (by decide) rfl (by decide) ?_
      refine go_aload_n dX5_alter_56 0 rfl ?_
      refine go_getR (kf := 0) (t := 1) rfl rfl rfl uwX5 (by decide) flX5_12 dX5_alter_57 ?_
      refine go_iload_n dX5_alter_60 1 rfl ?_
      refine go_iload_n dX5_alter_61 3 rfl ?_
      obtain ⟨c11, h⟩ := h
      obtain ⟨c12, h⟩ := h
      obtain ⟨c13, h⟩ := h
      obtain ⟨c14, h⟩ := h
      refine go_callV (st := []) (kX0_alterHandI (d + 0) 1 bA1 a1 c a3 X c11 c12 c13 c14) rfl rfl okX0_alterHand insX0_alterHand selX0_alterHand lkX5_143 rfl rfl (Nat.le_of_ble_eq_true rfl) dX5_alter_62 (fun v_ m15 q => ?_)
      rw [q.1]
      have h := h m15 q.2
      refine go_stk (st2 := [.int (alH X c a3).1]) rfl ?_
      exact go_iret rfl dX5_alter_65 h
    have h := h.2 q2
    have e0 := neI q0 (z := 0) (by decide)
    have e1 := neI q1 (z := 1) (by decide)
    have e2 := neI q2 (z := 2) (by decide)
    refine go_tabOut 66 dX5_alter_11 (by omega) (by decide) ?_
    refine go_iconst (v := (-1)) dX5_alter_66 (by decide) ?_
    exact go_iret rfl dX5_alter_67 h
  · have h := h.2 (bI0.mp q)
    refine go_iconst (v := (-1)) dX5_alter_8 (by decide) ?_
    exact go_iret rfl dX5_alter_9 h

set_option maxRecDepth 100000 in
theorem sX6_alters_0w0 {G : GX} {d : Nat} {mem : Mem} {Φ : Option Value → Mem → Prop} (a1 a3 : Int32) (h : ((¬ (0 ≤ a1 ∧ a1 ≤ ((mem 41 20) - 1)) → Φ (some (.int (-1))) mem) ∧ ((0 ≤ a1 ∧ a1 ≤ ((mem 41 20) - 1)) → (((0 ≤ a3 ∧ a3 ≤ 3) → (vp_in ((5 * 0) + a1) 138) ∧ ∀ y2 : Int32, y2 = (mem 41 (((5 * 0) + a1) : Int32).toNatClampNeg) → ∀ m3 : Mem, m3 = (um mem 41 (((5 * 0) + a1) : Int32).toNatClampNeg a3) → Φ (some (.int y2)) m3) ∧ (¬ (0 ≤ a3 ∧ a3 ≤ 3) → Φ (some (.int (-1))) mem))))) : Go G (d + 2) mX6_alters 0 [(0, .ref 40), (1, .int a1), (2, .int 0), (3, .int a3)] [] mem Φ := by
  refine go_iload_n dX6_alters_0 2 rfl ?_
  refine go_if_ne 16 dX6_alters_1 (by decide) (fun q => absurd q (by decide)) (fun _ => ?_)
  refine go_iload_n dX6_alters_4 3 rfl ?_
  refine go_i2l dX6_alters_5 ?_
  refine go_lconst (v := 0) dX6_alters_6 (by decide) ?_
  refine go_ldc2 klX6_141 dX6_alters_7 ?_
  refine go_callS (st := []) (kX6_in (d + 1) a3 0 3 0 3 (by decide) (by decide)) okX6_in staX6_in lkX6_50 rfl rfl (Nat.le_of_ble_eq_true rfl) dX6_alters_10 (fun v_ m2_ q => ?_)
  rw [q.1, q.2]
  refine go_stk (st2 := [.int (bI (0 ≤ a3 ∧ a3 ≤ 3))]) rfl ?_
  refine go_goto 57 dX6_alters_13 (by decide) ?_
  refine go_istore (L2 := [(4, .int (bI (0 ≤ a3 ∧ a3 ≤ 3))), (0, .ref 40), (1, .int a1), (2, .int 0), (3, .int a3)]) dX6_alters_57 (by decide) rfl ?_
  refine go_aload_n dX6_alters_59 1 rfl ?_
  refine go_iload_n dX6_alters_60 2 rfl ?_
  refine go_callV (st := []) (kX6_isClock (d + 0) a1) rfl rfl okX6_isClock insX6_isClock selX6_isClock lkX6_137 rfl rfl (Nat.le_of_ble_eq_true rfl) dX6_alters_61 (fun v_ m2_ q => ?_)
  rw [q.1, q.2]
  refine go_stk (st2 := [.int (bI (0 ≤ a1 ∧ a1 ≤ ((mem 41 20) - 1)))]) rfl ?_
  refine go_if_eq 72 dX6_alters_64 (by decide) (fun q => ?_) (fun q => ?_)
  · have h := h.1 (bI0.mp q)
    refine go_iconst (v := (-1)) dX6_alters_72 (by decide) ?_
    exact go_iret rfl dX6_alters_73 h
  · have h := h.2 (bI1.mp q)
    refine go_iload dX6_alters_67 0 rfl ?_
    refine go_if_ne 74 dX6_alters_69 (by decide) (fun q => ?_) (fun q => ?_)
    · have h := h.1 (bI1.mp q)
      refine go_iload_n dX6_alters_74 3 rfl ?_
      refine go_iconst (v := 1) dX6_alters_75 (by decide) ?_
      refine go_icmp_ne 92 dX6_alters_76 (by decide) (fun _ => ?_) (fun q => absurd q (by decide))
      refine go_iload_n dX6_alters_92 3 rfl ?_
      refine go_iconst (v := 2) dX6_alters_93 (by decide) ?_
      refine go_icmp_ne 112 dX6_alters_94 (by decide) (fun _ => ?_) (fun q => absurd q (by decide))
      refine go_aload_n dX6_alters_112 1 rfl ?_
      refine go_getR (kf := 0) (t := 41) rfl rfl rfl uwX6 (by decide) flX6_7 dX6_alters_113 ?_
      refine go_iconst (v := 5) dX6_alters_116 (by decide) ?_
      refine go_iload_n dX6_alters_117 3 rfl ?_
      refine go_imul dX6_alters_118 ?_
      refine go_iload_n dX6_alters_119 2 rfl ?_
      refine go_iadd dX6_alters_120 ?_
      obtain ⟨c1, h⟩ := h
      refine go_iaload rfl c1 dX6_alters_121 ?_
      refine go_topi (fun y2 qy2 => ?_)
      have h := h y2 qy2
      refine go_istore (L2 := [(5, .int y2), (4, .int (bI (0 ≤ a3 ∧ a3 ≤ 3))), (0, .ref 40), (1, .int a1), (2, .int 0), (3, .int a3)]) dX6_alters_122 (by decide) rfl ?_
      refine go_aload_n dX6_alters_124 2 rfl ?_
      refine go_getR (kf := 0) (t := 41) rfl rfl rfl uwX6 (by decide) flX6_7 dX6_alters_125 ?_
      refine go_iconst (v := 5) dX6_alters_128 (by decide) ?_
      refine go_iload_n dX6_alters_129 4 rfl ?_
      refine go_imul dX6_alters_130 ?_
      refine go_iload_n dX6_alters_131 3 rfl ?_
      refine go_iadd dX6_alters_132 ?_
      refine go_iload_n dX6_alters_133 5 rfl ?_
      refine go_iastore rfl c1 dX6_alters_134 ?_
      refine go_mem (fun m3 qm3 => ?_)
      have h := h m3 qm3
      refine go_iload dX6_alters_135 0 rfl ?_
      exact go_iret rfl dX6_alters_137 h
    · have h := h.2 (bI0.mp q)
      refine go_iconst (v := (-1)) dX6_alters_72 (by decide) ?_
      exact go_iret rfl dX6_alters_73 h

set_option maxRecDepth 100000 in
theorem sX6_alters_0w1 {G : GX} {d : Nat} {mem : Mem} {Φ : Option Value → Mem → Prop} (a1 a3 : Int32) (h : ((¬ (0 ≤ a1 ∧ a1 ≤ ((mem 41 20) - 1)) → Φ (some (.int (-1))) mem) ∧ ((0 ≤ a1 ∧ a1 ≤ ((mem 41 20) - 1)) → (((2 ≤ a3 ∧ a3 ≤ 30) → (vp_in (10 + a1) 138) ∧ ((a3 ≤ (mem 41 ((10 + a1) : Int32).toNatClampNeg) → Φ (some (.int (-2))) mem) ∧ (¬ a3 ≤ (mem 41 ((10 + a1) : Int32).toNatClampNeg) → (vp_in ((5 * 1) + a1) 138) ∧ ∀ y3 : Int32, y3 = (mem 41 (((5 * 1) + a1) : Int32).toNatClampNeg) → ∀ m4 : Mem, m4 = (um mem 41 (((5 * 1) + a1) : Int32).toNatClampNeg a3) → Φ (some (.int y3)) m4))) ∧ (¬ (2 ≤ a3 ∧ a3 ≤ 30) → Φ (some (.int (-1))) mem))))) : Go G (d + 2) mX6_alters 0 [(0, .ref 40), (1, .int a1), (2, .int 1), (3, .int a3)] [] mem Φ := by
  refine go_iload_n dX6_alters_0 2 rfl ?_
  refine go_if_ne 16 dX6_alters_1 (by decide) (fun _ => ?_) (fun q => absurd q (by decide))
  refine go_iload_n dX6_alters_16 2 rfl ?_
  refine go_iconst (v := 1) dX6_alters_17 (by decide) ?_
  refine go_icmp_ne 35 dX6_alters_18 (by decide) (fun q => absurd q (by decide)) (fun _ => ?_)
  refine go_iload_n dX6_alters_21 3 rfl ?_
  refine go_i2l dX6_alters_22 ?_
  refine go_ldc2 klX6_143 dX6_alters_23 ?_
  refine go_ldc2 klX6_145 dX6_alters_26 ?_
  refine go_callS (st := []) (kX6_in (d + 1) a3 2 30 2 30 (by decide) (by decide)) okX6_in staX6_in lkX6_50 rfl rfl (Nat.le_of_ble_eq_true rfl) dX6_alters_29 (fun v_ m2_ q => ?_)
  rw [q.1, q.2]
  refine go_stk (st2 := [.int (bI (2 ≤ a3 ∧ a3 ≤ 30))]) rfl ?_
  refine go_goto 57 dX6_alters_32 (by decide) ?_
  refine go_istore (L2 := [(4, .int (bI (2 ≤ a3 ∧ a3 ≤ 30))), (0, .ref 40), (1, .int a1), (2, .int 1), (3, .int a3)]) dX6_alters_57 (by decide) rfl ?_
  refine go_aload_n dX6_alters_59 1 rfl ?_
  refine go_iload_n dX6_alters_60 2 rfl ?_
  refine go_callV (st := []) (kX6_isClock (d + 0) a1) rfl rfl okX6_isClock insX6_isClock selX6_isClock lkX6_137 rfl rfl (Nat.le_of_ble_eq_true rfl) dX6_alters_61 (fun v_ m2_ q => ?_)
  rw [q.1, q.2]
  refine go_stk (st2 := [.int (bI (0 ≤ a1 ∧ a1 ≤ ((mem 41 20) - 1)))]) rfl ?_
  refine go_if_eq 72 dX6_alters_64 (by decide) (fun q => ?_) (fun q => ?_)
  · have h := h.1 (bI0.mp q)
    refine go_iconst (v := (-1)) dX6_alters_72 (by decide) ?_
    exact go_iret rfl dX6_alters_73 h
  · have h := h.2 (bI1.mp q)
    refine go_iload dX6_alters_67 0 rfl ?_
    refine go_if_ne 74 dX6_alters_69 (by decide) (fun q => ?_) (fun q => ?_)
    · have h := h.1 (bI1.mp q)
      refine go_iload_n dX6_alters_74 3 rfl ?_
      refine go_iconst (v := 1) dX6_alters_75 (by decide) ?_
      refine go_icmp_ne 92 dX6_alters_76 (by decide) (fun q => absurd q (by decide)) (fun _ => ?_)
      refine go_aload_n dX6_alters_79 1 rfl ?_
      refine go_getR (kf := 0) (t := 41) rfl rfl rfl uwX6 (by decide) flX6_7 dX6_alters_80 ?_
      refine go_bipush (v := 10) dX6_alters_83 (by decide) ?_
      refine go_iload_n dX6_alters_85 2 rfl ?_
      refine go_iadd dX6_alters_86 ?_
      obtain ⟨c1, h⟩ := h
      refine go_iaload rfl c1 dX6_alters_87 ?_
      refine go_iload_n dX6_alters_88 4 rfl ?_
      refine go_icmp_ge 109 dX6_alters_89 (by decide) (fun q => ?_) (fun q => ?_)
      · have h := h.1 q
        refine go_bipush (v := (-2)) dX6_alters_109 (by decide) ?_
        exact go_iret rfl dX6_alters_111 h
      · have h := h.2 q
        refine go_iload_n dX6_alters_92 3 rfl ?_
        refine go_iconst (v := 2) dX6_alters_93 (by decide) ?_
        refine go_icmp_ne 112 dX6_alters_94 (by decide) (fun _ => ?_) (fun q => absurd q (by decide))
        refine go_aload_n dX6_alters_112 1 rfl ?_
        refine go_getR (kf := 0) (t := 41) rfl rfl rfl uwX6 (by decide) flX6_7 dX6_alters_113 ?_
        refine go_iconst (v := 5) dX6_alters_116 (by decide) ?_
        refine go_iload_n dX6_alters_117 3 rfl ?_
        refine go_imul dX6_alters_118 ?_
        refine go_iload_n dX6_alters_119 2 rfl ?_
        refine go_iadd dX6_alters_120 ?_
        obtain ⟨c2, h⟩ := h
        refine go_iaload rfl c2 dX6_alters_121 ?_
        refine go_topi (fun y3 qy3 => ?_)
        have h := h y3 qy3
        refine go_istore (L2 := [(5, .int y3), (4, .int (bI (2 ≤ a3 ∧ a3 ≤ 30))), (0, .ref 40), (1, .int a1), (2, .int 1), (3, .int a3)]) dX6_alters_122 (by decide) rfl ?_
        refine go_aload_n dX6_alters_124 2 rfl ?_
        refine go_getR (kf := 0) (t := 41) rfl rfl rfl uwX6 (by decide) flX6_7 dX6_alters_125 ?_
        refine go_iconst (v := 5) dX6_alters_128 (by decide) ?_
        refine go_iload_n dX6_alters_129 4 rfl ?_
        refine go_imul dX6_alters_130 ?_
        refine go_iload_n dX6_alters_131 3 rfl ?_
        refine go_iadd dX6_alters_132 ?_
        refine go_iload_n dX6_alters_133 5 rfl ?_
        refine go_iastore rfl c2 dX6_alters_134 ?_
        refine go_mem (fun m4 qm4 => ?_)
        have h := h m4 qm4
        refine go_iload dX6_alters_135 0 rfl ?_
        exact go_iret rfl dX6_alters_137 h
    · have h := h.2 (bI0.mp q)
      refine go_iconst (v := (-1)) dX6_alters_72 (by decide) ?_
      exact go_iret rfl dX6_alters_73 h

set_option maxRecDepth 100000 in
theorem sX6_alters_0w2 {G : GX} {d : Nat} {mem : Mem} {Φ : Option Value → Mem → Prop} (a1 a3 : Int32) (h : ((¬ (0 ≤ a3 ∧ a3 ≤ 29) → ((¬ (0 ≤ a1 ∧ a1 ≤ ((mem 41 20) - 1)) → Φ (some (.int (-1))) mem) ∧ ((0 ≤ a1 ∧ a1 ≤ ((mem 41 20) - 1)) → Φ (some (.int (-1))) mem))) ∧ ((0 ≤ a3 ∧ a3 ≤ 29) → ((¬ (0 ≤ a1 ∧ a1 ≤ ((mem 41 20) - 1)) → Φ (some (.int (-1))) mem) ∧ ((0 ≤ a1 ∧ a1 ≤ ((mem 41 20) - 1)) → (vp_in (5 + a1) 138) ∧ ((a3 < (mem 41 ((5 + a1) : Int32).toNatClampNeg) → (vp_in ((5 * 2) + a1) 138) ∧ ∀ y3 : Int32, y3 = (mem 41 (((5 * 2) + a1) : Int32).toNatClampNeg) → ∀ m4 : Mem, m4 = (um mem 41 (((5 * 2) + a1) : Int32).toNatClampNeg a3) → Φ (some (.int y3)) m4) ∧ (¬ a3 < (mem 41 ((5 + a1) : Int32).toNatClampNeg) → Φ (some (.int (-2))) mem))))))) : Go G (d + 2) mX6_alters 0 [(0, .ref 40), (1, .int a1), (2, .int 2), (3, .int a3)] [] mem Φ := by
  refine go_iload_n dX6_alters_0 2 rfl ?_
  refine go_if_ne 16 dX6_alters_1 (by decide) (fun _ => ?_) (fun q => absurd q (by decide))
  refine go_iload_n dX6_alters_16 2 rfl ?_
  refine go_iconst (v := 1) dX6_alters_17 (by decide) ?_
  refine go_icmp_ne 35 dX6_alters_18 (by decide) (fun _ => ?_) (fun q => absurd q (by decide))
  refine go_iload_n dX6_alters_35 2 rfl ?_
  refine go_iconst (v := 2) dX6_alters_36 (by decide) ?_
  refine go_icmp_ne 56 dX6_alters_37 (by decide) (fun q => absurd q (by decide)) (fun _ => ?_)
  refine go_iload_n dX6_alters_40 3 rfl ?_
  refine go_i2l dX6_alters_41 ?_
  refine go_lconst (v := 0) dX6_alters_42 (by decide) ?_
  refine go_ldc2 klX6_147 dX6_alters_43 ?_
  refine go_callS (st := []) (kX6_in (d + 1) a3 0 29 0 29 (by decide) (by decide)) okX6_in staX6_in lkX6_50 rfl rfl (Nat.le_of_ble_eq_true rfl) dX6_alters_46 (fun v_ m2_ q => ?_)
  rw [q.1, q.2]
  refine go_stk (st2 := [.int (bI (0 ≤ a3 ∧ a3 ≤ 29))]) rfl ?_
  refine go_if_eq 56 dX6_alters_49 (by decide) (fun q => ?_) (fun q => ?_)
  · have h := h.1 (bI0.mp q)
    refine go_iconst (v := 0) dX6_alters_56 (by decide) ?_
    refine go_istore (L2 := [(4, .int 0), (0, .ref 40), (1, .int a1), (2, .int 2), (3, .int a3)]) dX6_alters_57 (by decide) rfl ?_
    refine go_aload_n dX6_alters_59 1 rfl ?_
    refine go_iload_n dX6_alters_60 2 rfl ?_
    refine go_callV (st := []) (kX6_isClock (d + 0) a1) rfl rfl okX6_isClock insX6_isClock selX6_isClock lkX6_137 rfl rfl (Nat.le_of_ble_eq_true rfl) dX6_alters_61 (fun v_ m2_ q => ?_)
    rw [q.1, q.2]
    refine go_stk (st2 := [.int (bI (0 ≤ a1 ∧ a1 ≤ ((mem 41 20) - 1)))]) rfl ?_
    refine go_if_eq 72 dX6_alters_64 (by decide) (fun q => ?_) (fun q => ?_)
    · have h := h.1 (bI0.mp q)
      refine go_iconst (v := (-1)) dX6_alters_72 (by decide) ?_
      exact go_iret rfl dX6_alters_73 h
    · have h := h.2 (bI1.mp q)
      refine go_iload dX6_alters_67 0 rfl ?_
      refine go_if_ne 74 dX6_alters_69 (by decide) (fun q => absurd q (by decide)) (fun _ => ?_)
      refine go_iconst (v := (-1)) dX6_alters_72 (by decide) ?_
      exact go_iret rfl dX6_alters_73 h
  · have h := h.2 (bI1.mp q)
    refine go_iconst (v := 1) dX6_alters_52 (by decide) ?_
    refine go_goto 57 dX6_alters_53 (by decide) ?_
    refine go_istore (L2 := [(4, .int 1), (0, .ref 40), (1, .int a1), (2, .int 2), (3, .int a3)]) dX6_alters_57 (by decide) rfl ?_
    refine go_aload_n dX6_alters_59 1 rfl ?_
    refine go_iload_n dX6_alters_60 2 rfl ?_
    refine go_callV (st := []) (kX6_isClock (d + 0) a1) rfl rfl okX6_isClock insX6_isClock selX6_isClock lkX6_137 rfl rfl (Nat.le_of_ble_eq_true rfl) dX6_alters_61 (fun v_ m2_ q => ?_)
    rw [q.1, q.2]
    refine go_stk (st2 := [.int (bI (0 ≤ a1 ∧ a1 ≤ ((mem 41 20) - 1)))]) rfl ?_
    refine go_if_eq 72 dX6_alters_64 (by decide) (fun q => ?_) (fun q => ?_)
    · have h := h.1 (bI0.mp q)
      refine go_iconst (v := (-1)) dX6_alters_72 (by decide) ?_
      exact go_iret rfl dX6_alters_73 h
    · have h := h.2 (bI1.mp q)
      refine go_iload dX6_alters_67 0 rfl ?_
      refine go_if_ne 74 dX6_alters_69 (by decide) (fun _ => ?_) (fun q => absurd q (by decide))
      refine go_iload_n dX6_alters_74 3 rfl ?_
      refine go_iconst (v := 1) dX6_alters_75 (by decide) ?_
      refine go_icmp_ne 92 dX6_alters_76 (by decide) (fun _ => ?_) (fun q => absurd q (by decide))
      refine go_iload_n dX6_alters_92 3 rfl ?_
      refine go_iconst (v := 2) dX6_alters_93 (by decide) ?_
      refine go_icmp_ne 112 dX6_alters_94 (by decide) (fun q => absurd q (by decide)) (fun _ => ?_)
      refine go_iload_n dX6_alters_97 4 rfl ?_
      refine go_aload_n dX6_alters_98 1 rfl ?_
      refine go_getR (kf := 0) (t := 41) rfl rfl rfl uwX6 (by decide) flX6_7 dX6_alters_99 ?_
      refine go_iconst (v := 5) dX6_alters_102 (by decide) ?_
      refine go_iload_n dX6_alters_103 2 rfl ?_
      refine go_iadd dX6_alters_104 ?_
      obtain ⟨c1, h⟩ := h
      refine go_iaload rfl c1 dX6_alters_105 ?_
      refine go_icmp_lt 112 dX6_alters_106 (by decide) (fun q => ?_) (fun q => ?_)
      · have h := h.1 q
        refine go_aload_n dX6_alters_112 1 rfl ?_
        refine go_getR (kf := 0) (t := 41) rfl rfl rfl uwX6 (by decide) flX6_7 dX6_alters_113 ?_
        refine go_iconst (v := 5) dX6_alters_116 (by decide) ?_
        refine go_iload_n dX6_alters_117 3 rfl ?_
        refine go_imul dX6_alters_118 ?_
        refine go_iload_n dX6_alters_119 2 rfl ?_
        refine go_iadd dX6_alters_120 ?_
        obtain ⟨c2, h⟩ := h
        refine go_iaload rfl c2 dX6_alters_121 ?_
        refine go_topi (fun y3 qy3 => ?_)
        have h := h y3 qy3
        refine go_istore (L2 := [(5, .int y3), (4, .int 1), (0, .ref 40), (1, .int a1), (2, .int 2), (3, .int a3)]) dX6_alters_122 (by decide) rfl ?_
        refine go_aload_n dX6_alters_124 2 rfl ?_
        refine go_getR (kf := 0) (t := 41) rfl rfl rfl uwX6 (by decide) flX6_7 dX6_alters_125 ?_
        refine go_iconst (v := 5) dX6_alters_128 (by decide) ?_
        refine go_iload_n dX6_alters_129 4 rfl ?_
        refine go_imul dX6_alters_130 ?_
        refine go_iload_n dX6_alters_131 3 rfl ?_
        refine go_iadd dX6_alters_132 ?_
        refine go_iload_n dX6_alters_133 5 rfl ?_
        refine go_iastore rfl c2 dX6_alters_134 ?_
        refine go_mem (fun m4 qm4 => ?_)
        have h := h m4 qm4
        refine go_iload dX6_alters_135 0 rfl ?_
        exact go_iret rfl dX6_alters_137 h
      · have h := h.2 q
        refine go_bipush (v := (-2)) dX6_alters_109 (by decide) ?_
        exact go_iret rfl dX6_alters_111 h

set_option maxRecDepth 100000 in
theorem sX6_alters_0 {G : GX} {d : Nat} {mem : Mem} {Φ : Option Value → Mem → Prop} (a1 : Int32) (a2 : Int32) (a3 : Int32) (h : ((¬ a2 = 0 → ((¬ a2 = 1 → ((¬ a2 = 2 → ((¬ (0 ≤ a1 ∧ a1 ≤ ((mem 41 20) - 1)) → Φ (some (.int (-1))) mem) ∧ ((0 ≤ a1 ∧ a1 ≤ ((mem 41 20) - 1)) → Φ (some (.int (-1))) mem))) ∧ (a2 = 2 → ((¬ (0 ≤ a3 ∧ a3 ≤ 29) → ((¬ (0 ≤ a1 ∧ a1 ≤ ((mem 41 20) - 1)) → Φ (some (.int (-1))) mem) ∧ ((0 ≤ a1 ∧ a1 ≤ ((mem 41 20) - 1)) → Φ (some (.int (-1))) mem))) ∧ ((0 ≤ a3 ∧ a3 ≤ 29) → ((¬ (0 ≤ a1 ∧ a1 ≤ ((mem 41 20) - 1)) → Φ (some (.int (-1))) mem) ∧ ((0 ≤ a1 ∧ a1 ≤ ((mem 41 20) - 1)) → ((¬ a2 = 1 → ((¬ a2 = 2 → (vp_in ((5 * a2) + a1) 138) ∧ ∀ y2 : Int32, y2 = (mem 41 (((5 * a2) + a1) : Int32).toNatClampNeg) → ∀ m3 : Mem, m3 = (um mem 41 (((5 * a2) + a1) : Int32).toNatClampNeg a3) → Φ (some (.int y2)) m3) ∧ (a2 = 2 → (vp_in (5 + a1) 138) ∧ ((a3 < (mem 41 ((5 + a1) : Int32).toNatClampNeg) → (vp_in ((5 * a2) + a1) 138) ∧ ∀ y6 : Int32, y6 = (mem 41 (((5 * a2) + a1) : Int32).toNatClampNeg) → ∀ m7 : Mem, m7 = (um mem 41 (((5 * a2) + a1) : Int32).toNatClampNeg a3) → Φ (some (.int y6)) m7) ∧ (¬ a3 < (mem 41 ((5 + a1) : Int32).toNatClampNeg) → Φ (some (.int (-2))) mem))))) ∧ (a2 = 1 → (vp_in (10 + a1) 138) ∧ ((a3 ≤ (mem 41 ((10 + a1) : Int32).toNatClampNeg) → Φ (some (.int (-2))) mem) ∧ (¬ a3 ≤ (mem 41 ((10 + a1) : Int32).toNatClampNeg) → ((¬ a2 = 2 → (vp_in ((5 * a2) + a1) 138) ∧ ∀ y10 : Int32, y10 = (mem 41 (((5 * a2) + a1) : Int32).toNatClampNeg) → ∀ m11 : Mem, m11 = (um mem 41 (((5 * a2) + a1) : Int32).toNatClampNeg a3) → Φ (some (.int y10)) m11) ∧ (a2 = 2 → (vp_in (5 + a1) 138) ∧ ((a3 < (mem 41 ((5 + a1) : Int32).toNatClampNeg) → (vp_in ((5 * a2) + a1) 138) ∧ ∀ y14 : Int32, y14 = (mem 41 (((5 * a2) + a1) : Int32).toNatClampNeg) → ∀ m15 : Mem, m15 = (um mem 41 (((5 * a2) + a1) : Int32).toNatClampNeg a3) → Φ (some (.int y14)) m15) ∧ (¬ a3 < (mem 41 ((5 + a1) : Int32).toNatClampNeg) → Φ (some (.int (-2))) mem))))))))))))))) ∧ (a2 = 1 → ((¬ (0 ≤ a1 ∧ a1 ≤ ((mem 41 20) - 1)) → Φ (some (.int (-1))) mem) ∧ ((0 ≤ a1 ∧ a1 ≤ ((mem 41 20) - 1)) → (((2 ≤ a3 ∧ a3 ≤ 30) → ((¬ a2 = 1 → ((¬ a2 = 2 → (vp_in ((5 * a2) + a1) 138) ∧ ∀ y17 : Int32, y17 = (mem 41 (((5 * a2) + a1) : Int32).toNatClampNeg) → ∀ m18 : Mem, m18 = (um mem 41 (((5 * a2) + a1) : Int32).toNatClampNeg a3) → Φ (some (.int y17)) m18) ∧ (a2 = 2 → (vp_in (5 + a1) 138) ∧ ((a3 < (mem 41 ((5 + a1) : Int32).toNatClampNeg) → (vp_in ((5 * a2) + a1) 138) ∧ ∀ y21 : Int32, y21 = (mem 41 (((5 * a2) + a1) : Int32).toNatClampNeg) → ∀ m22 : Mem, m22 = (um mem 41 (((5 * a2) + a1) : Int32).toNatClampNeg a3) → Φ (some (.int y21)) m22) ∧ (¬ a3 < (mem 41 ((5 + a1) : Int32).toNatClampNeg) → Φ (some (.int (-2))) mem))))) ∧ (a2 = 1 → (vp_in (10 + a1) 138) ∧ ((a3 ≤ (mem 41 ((10 + a1) : Int32).toNatClampNeg) → Φ (some (.int (-2))) mem) ∧ (¬ a3 ≤ (mem 41 ((10 + a1) : Int32).toNatClampNeg) → ((¬ a2 = 2 → (vp_in ((5 * a2) + a1) 138) ∧ ∀ y25 : Int32, y25 = (mem 41 (((5 * a2) + a1) : Int32).toNatClampNeg) → ∀ m26 : Mem, m26 = (um mem 41 (((5 * a2) + a1) : Int32).toNatClampNeg a3) → Φ (some (.int y25)) m26) ∧ (a2 = 2 → (vp_in (5 + a1) 138) ∧ ((a3 < (mem 41 ((5 + a1) : Int32).toNatClampNeg) → (vp_in ((5 * a2) + a1) 138) ∧ ∀ y29 : Int32, y29 = (mem 41 (((5 * a2) + a1) : Int32).toNatClampNeg) → ∀ m30 : Mem, m30 = (um mem 41 (((5 * a2) + a1) : Int32).toNatClampNeg a3) → Φ (some (.int y29)) m30) ∧ (¬ a3 < (mem 41 ((5 + a1) : Int32).toNatClampNeg) → Φ (some (.int (-2))) mem))))))))) ∧ (¬ (2 ≤ a3 ∧ a3 ≤ 30) → Φ (some (.int (-1))) mem))))))) ∧ (a2 = 0 → ((¬ (0 ≤ a1 ∧ a1 ≤ ((mem 41 20) - 1)) → Φ (some (.int (-1))) mem) ∧ ((0 ≤ a1 ∧ a1 ≤ ((mem 41 20) - 1)) → (((0 ≤ a3 ∧ a3 ≤ 3) → ((¬ a2 = 1 → ((¬ a2 = 2 → (vp_in ((5 * a2) + a1) 138) ∧ ∀ y32 : Int32, y32 = (mem 41 (((5 * a2) + a1) : Int32).toNatClampNeg) → ∀ m33 : Mem, m33 = (um mem 41 (((5 * a2) + a1) : Int32).toNatClampNeg a3) → Φ (some (.int y32)) m33) ∧ (a2 = 2 → (vp_in (5 + a1) 138) ∧ ((a3 < (mem 41 ((5 + a1) : Int32).toNatClampNeg) → (vp_in ((5 * a2) + a1) 138) ∧ ∀ y36 : Int32, y36 = (mem 41 (((5 * a2) + a1) : Int32).toNatClampNeg) → ∀ m37 : Mem, m37 = (um mem 41 (((5 * a2) + a1) : Int32).toNatClampNeg a3) → Φ (some (.int y36)) m37) ∧ (¬ a3 < (mem 41 ((5 + a1) : Int32).toNatClampNeg) → Φ (some (.int (-2))) mem))))) ∧ (a2 = 1 → (vp_in (10 + a1) 138) ∧ ((a3 ≤ (mem 41 ((10 + a1) : Int32).toNatClampNeg) → Φ (some (.int (-2))) mem) ∧ (¬ a3 ≤ (mem 41 ((10 + a1) : Int32).toNatClampNeg) → ((¬ a2 = 2 → (vp_in ((5 * a2) + a1) 138) ∧ ∀ y40 : Int32, y40 = (mem 41 (((5 * a2) + a1) : Int32).toNatClampNeg) → ∀ m41 : Mem, m41 = (um mem 41 (((5 * a2) + a1) : Int32).toNatClampNeg a3) → Φ (some (.int y40)) m41) ∧ (a2 = 2 → (vp_in (5 + a1) 138) ∧ ((a3 < (mem 41 ((5 + a1) : Int32).toNatClampNeg) → (vp_in ((5 * a2) + a1) 138) ∧ ∀ y44 : Int32, y44 = (mem 41 (((5 * a2) + a1) : Int32).toNatClampNeg) → ∀ m45 : Mem, m45 = (um mem 41 (((5 * a2) + a1) : Int32).toNatClampNeg a3) → Φ (some (.int y44)) m45) ∧ (¬ a3 < (mem 41 ((5 + a1) : Int32).toNatClampNeg) → Φ (some (.int (-2))) mem))))))))) ∧ (¬ (0 ≤ a3 ∧ a3 ≤ 3) → Φ (some (.int (-1))) mem))))))) : Go G (d + 2) mX6_alters 0 [(0, .ref 40), (1, .int a1), (2, .int a2), (3, .int a3)] [] mem Φ := by
  refine go_iload_n dX6_alters_0 2 rfl ?_
  refine go_if_ne 16 dX6_alters_1 (by decide) (fun q => ?_) (fun q => ?_)
  · have h := h.1 q
    refine go_iload_n dX6_alters_16 2 rfl ?_
    refine go_iconst (v := 1) dX6_alters_17 (by decide) ?_
    refine go_icmp_ne 35 dX6_alters_18 (by decide) (fun q => ?_) (fun q => ?_)
    · have h := h.1 q
      refine go_iload_n dX6_alters_35 2 rfl ?_
      refine go_iconst (v := 2) dX6_alters_36 (by decide) ?_
      refine go_icmp_ne 56 dX6_alters_37 (by decide) (fun q => ?_) (fun q => ?_)
      · have h := h.1 q
        refine go_iconst (v := 0) dX6_alters_56 (by decide) ?_
        refine go_istore (L2 := [(4, .int 0), (0, .ref 40), (1, .int a1), (2, .int a2), (3, .int a3)]) dX6_alters_57 (by decide) rfl ?_
        refine go_aload_n dX6_alters_59 1 rfl ?_
        refine go_iload_n dX6_alters_60 2 rfl ?_
        refine go_callV (st := []) (kX6_isClock (d + 0) a1) rfl rfl okX6_isClock insX6_isClock selX6_isClock lkX6_137 rfl rfl (Nat.le_of_ble_eq_true rfl) dX6_alters_61 (fun v_ m2_ q => ?_)
        rw [q.1, q.2]
        refine go_stk (st2 := [.int (bI (0 ≤ a1 ∧ a1 ≤ ((mem 41 20) - 1)))]) rfl ?_
        refine go_if_eq 72 dX6_alters_64 (by decide) (fun q => ?_) (fun q => ?_)
        · have h := h.1 (bI0.mp q)
          refine go_iconst (v := (-1)) dX6_alters_72 (by decide) ?_
          exact go_iret rfl dX6_alters_73 h
        · have h := h.2 (bI1.mp q)
          refine go_iload dX6_alters_67 0 rfl ?_
          refine go_if_ne 74 dX6_alters_69 (by decide) (fun q => absurd q (by decide)) (fun _ => ?_)
          refine go_iconst (v := (-1)) dX6_alters_72 (by decide) ?_
          exact go_iret rfl dX6_alters_73 h
      · have h := h.2 q
        refine go_iload_n dX6_alters_40 3 rfl ?_
        refine go_i2l dX6_alters_41 ?_
        refine go_lconst (v := 0) dX6_alters_42 (by decide) ?_
        refine go_ldc2 klX6_147 dX6_alters_43 ?_
        refine go_callS (st := []) (kX6_in (d + 1) a3 0 29 0 29 (by decide) (by decide)) okX6_in staX6_in lkX6_50 rfl rfl (Nat.le_of_ble_eq_true rfl) dX6_alters_46 (fun v_ m2_ q => ?_)
        rw [q.1, q.2]
        refine go_stk (st2 := [.int (bI (0 ≤ a3 ∧ a3 ≤ 29))]) rfl ?_
        refine go_if_eq 56 dX6_alters_49 (by decide) (fun q => ?_) (fun q => ?_)
        · have h := h.1 (bI0.mp q)
          refine go_iconst (v := 0) dX6_alters_56 (by decide) ?_
          refine go_istore (L2 := [(4, .int 0), (0, .ref 40), (1, .int a1), (2, .int a2), (3, .int a3)]) dX6_alters_57 (by decide) rfl ?_
          refine go_aload_n dX6_alters_59 1 rfl ?_
          refine go_iload_n dX6_alters_60 2 rfl ?_
          refine go_callV (st := []) (kX6_isClock (d + 0) a1) rfl rfl okX6_isClock insX6_isClock selX6_isClock lkX6_137 rfl rfl (Nat.le_of_ble_eq_true rfl) dX6_alters_61 (fun v_ m2_ q => ?_)
          rw [q.1, q.2]
          refine go_stk (st2 := [.int (bI (0 ≤ a1 ∧ a1 ≤ ((mem 41 20) - 1)))]) rfl ?_
          refine go_if_eq 72 dX6_alters_64 (by decide) (fun q => ?_) (fun q => ?_)
          · have h := h.1 (bI0.mp q)
            refine go_iconst (v := (-1)) dX6_alters_72 (by decide) ?_
            exact go_iret rfl dX6_alters_73 h
          · have h := h.2 (bI1.mp q)
            refine go_iload dX6_alters_67 0 rfl ?_
            refine go_if_ne 74 dX6_alters_69 (by decide) (fun q => absurd q (by decide)) (fun _ => ?_)
            refine go_iconst (v := (-1)) dX6_alters_72 (by decide) ?_
            exact go_iret rfl dX6_alters_73 h
        · have h := h.2 (bI1.mp q)
          refine go_iconst (v := 1) dX6_alters_52 (by decide) ?_
          refine go_goto 57 dX6_alters_53 (by decide) ?_
          refine go_istore (L2 := [(4, .int 1), (0, .ref 40), (1, .int a1), (2, .int a2), (3, .int a3)]) dX6_alters_57 (by decide) rfl ?_
          refine go_aload_n dX6_alters_59 1 rfl ?_
          refine go_iload_n dX6_alters_60 2 rfl ?_
          refine go_callV (st := []) (kX6_isClock (d + 0) a1) rfl rfl okX6_isClock insX6_isClock selX6_isClock lkX6_137 rfl rfl (Nat.le_of_ble_eq_true rfl) dX6_alters_61 (fun v_ m2_ q => ?_)
          rw [q.1, q.2]
          refine go_stk (st2 := [.int (bI (0 ≤ a1 ∧ a1 ≤ ((mem 41 20) - 1)))]) rfl ?_
          refine go_if_eq 72 dX6_alters_64 (by decide) (fun q => ?_) (fun q => ?_)
          · have h := h.1 (bI0.mp q)
            refine go_iconst (v := (-1)) dX6_alters_72 (by decide) ?_
            exact go_iret rfl dX6_alters_73 h
          · have h := h.2 (bI1.mp q)
            refine go_iload dX6_alters_67 0 rfl ?_
            refine go_if_ne 74 dX6_alters_69 (by decide) (fun _ => ?_) (fun q => absurd q (by decide))
            refine go_iload_n dX6_alters_74 3 rfl ?_
            refine go_iconst (v := 1) dX6_alters_75 (by decide) ?_
            refine go_icmp_ne 92 dX6_alters_76 (by decide) (fun q => ?_) (fun q => ?_)
            · have h := h.1 q
              refine go_iload_n dX6_alters_92 3 rfl ?_
              refine go_iconst (v := 2) dX6_alters_93 (by decide) ?_
              refine go_icmp_ne 112 dX6_alters_94 (by decide) (fun q => ?_) (fun q => ?_)
              · have h := h.1 q
                refine go_aload_n dX6_alters_112 1 rfl ?_
                refine go_getR (kf := 0) (t := 41) rfl rfl rfl uwX6 (by decide) flX6_7 dX6_alters_113 ?_
                refine go_iconst (v := 5) dX6_alters_116 (by decide) ?_
                refine go_iload_n dX6_alters_117 3 rfl ?_
                refine go_imul dX6_alters_118 ?_
                refine go_iload_n dX6_alters_119 2 rfl ?_
                refine go_iadd dX6_alters_120 ?_
                obtain ⟨c1, h⟩ := h
                refine go_iaload rfl c1 dX6_alters_121 ?_
                refine go_topi (fun y2 qy2 => ?_)
                have h := h y2 qy2
                refine go_istore (L2 := [(5, .int y2), (4, .int 1), (0, .ref 40), (1, .int a1), (2, .int a2), (3, .int a3)]) dX6_alters_122 (by decide) rfl ?_
                refine go_aload_n dX6_alters_124 2 rfl ?_
                refine go_getR (kf := 0) (t := 41) rfl rfl rfl uwX6 (by decide) flX6_7 dX6_alters_125 ?_
                refine go_iconst (v := 5) dX6_alters_128 (by decide) ?_
                refine go_iload_n dX6_alters_129 4 rfl ?_
                refine go_imul dX6_alters_130 ?_
                refine go_iload_n dX6_alters_131 3 rfl ?_
                refine go_iadd dX6_alters_132 ?_
                refine go_iload_n dX6_alters_133 5 rfl ?_
                refine go_iastore rfl c1 dX6_alters_134 ?_
                refine go_mem (fun m3 qm3 => ?_)
                have h := h m3 qm3
                refine go_iload dX6_alters_135 0 rfl ?_
                exact go_iret rfl dX6_alters_137 h
              · have h := h.2 q
                refine go_iload_n dX6_alters_97 4 rfl ?_
                refine go_aload_n dX6_alters_98 1 rfl ?_
                refine go_getR (kf := 0) (t := 41) rfl rfl rfl uwX6 (by decide) flX6_7 dX6_alters_99 ?_
                refine go_iconst (v := 5) dX6_alters_102 (by decide) ?_
                refine go_iload_n dX6_alters_103 2 rfl ?_
                refine go_iadd dX6_alters_104 ?_
                obtain ⟨c4, h⟩ := h
                refine go_iaload rfl c4 dX6_alters_105 ?_
                refine go_icmp_lt 112 dX6_alters_106 (by decide) (fun q => ?_) (fun q => ?_)
                · have h := h.1 q
                  refine go_aload_n dX6_alters_112 1 rfl ?_
                  refine go_getR (kf := 0) (t := 41) rfl rfl rfl uwX6 (by decide) flX6_7 dX6_alters_113 ?_
                  refine go_iconst (v := 5) dX6_alters_116 (by decide) ?_
                  refine go_iload_n dX6_alters_117 3 rfl ?_
                  refine go_imul dX6_alters_118 ?_
                  refine go_iload_n dX6_alters_119 2 rfl ?_
                  refine go_iadd dX6_alters_120 ?_
                  obtain ⟨c5, h⟩ := h
                  refine go_iaload rfl c5 dX6_alters_121 ?_
                  refine go_topi (fun y6 qy6 => ?_)
                  have h := h y6 qy6
                  refine go_istore (L2 := [(5, .int y6), (4, .int 1), (0, .ref 40), (1, .int a1), (2, .int a2), (3, .int a3)]) dX6_alters_122 (by decide) rfl ?_
                  refine go_aload_n dX6_alters_124 2 rfl ?_
                  refine go_getR (kf := 0) (t := 41) rfl rfl rfl uwX6 (by decide) flX6_7 dX6_alters_125 ?_
                  refine go_iconst (v := 5) dX6_alters_128 (by decide) ?_
                  refine go_iload_n dX6_alters_129 4 rfl ?_
                  refine go_imul dX6_alters_130 ?_
                  refine go_iload_n dX6_alters_131 3 rfl ?_
                  refine go_iadd dX6_alters_132 ?_
                  refine go_iload_n dX6_alters_133 5 rfl ?_
                  refine go_iastore rfl c5 dX6_alters_134 ?_
                  refine go_mem (fun m7 qm7 => ?_)
                  have h := h m7 qm7
                  refine go_iload dX6_alters_135 0 rfl ?_
                  exact go_iret rfl dX6_alters_137 h
                · have h := h.2 q
                  refine go_bipush (v := (-2)) dX6_alters_109 (by decide) ?_
                  exact go_iret rfl dX6_alters_111 h
            · have h := h.2 q
              refine go_aload_n dX6_alters_79 1 rfl ?_
              refine go_getR (kf := 0) (t := 41) rfl rfl rfl uwX6 (by decide) flX6_7 dX6_alters_80 ?_
              refine go_bipush (v := 10) dX6_alters_83 (by decide) ?_
              refine go_iload_n dX6_alters_85 2 rfl ?_
              refine go_iadd dX6_alters_86 ?_
              obtain ⟨c8, h⟩ := h
              refine go_iaload rfl c8 dX6_alters_87 ?_
              refine go_iload_n dX6_alters_88 4 rfl ?_
              refine go_icmp_ge 109 dX6_alters_89 (by decide) (fun q => ?_) (fun q => ?_)
              · have h := h.1 q
                refine go_bipush (v := (-2)) dX6_alters_109 (by decide) ?_
                exact go_iret rfl dX6_alters_111 h
              · have h := h.2 q
                refine go_iload_n dX6_alters_92 3 rfl ?_
                refine go_iconst (v := 2) dX6_alters_93 (by decide) ?_
                refine go_icmp_ne 112 dX6_alters_94 (by decide) (fun q => ?_) (fun q => ?_)
                · have h := h.1 q
                  refine go_aload_n dX6_alters_112 1 rfl ?_
                  refine go_getR (kf := 0) (t := 41) rfl rfl rfl uwX6 (by decide) flX6_7 dX6_alters_113 ?_
                  refine go_iconst (v := 5) dX6_alters_116 (by decide) ?_
                  refine go_iload_n dX6_alters_117 3 rfl ?_
                  refine go_imul dX6_alters_118 ?_
                  refine go_iload_n dX6_alters_119 2 rfl ?_
                  refine go_iadd dX6_alters_120 ?_
                  obtain ⟨c9, h⟩ := h
                  refine go_iaload rfl c9 dX6_alters_121 ?_
                  refine go_topi (fun y10 qy10 => ?_)
                  have h := h y10 qy10
                  refine go_istore (L2 := [(5, .int y10), (4, .int 1), (0, .ref 40), (1, .int a1), (2, .int a2), (3, .int a3)]) dX6_alters_122 (by decide) rfl ?_
                  refine go_aload_n dX6_alters_124 2 rfl ?_
                  refine go_getR (kf := 0) (t := 41) rfl rfl rfl uwX6 (by decide) flX6_7 dX6_alters_125 ?_
                  refine go_iconst (v := 5) dX6_alters_128 (by decide) ?_
                  refine go_iload_n dX6_alters_129 4 rfl ?_
                  refine go_imul dX6_alters_130 ?_
                  refine go_iload_n dX6_alters_131 3 rfl ?_
                  refine go_iadd dX6_alters_132 ?_
                  refine go_iload_n dX6_alters_133 5 rfl ?_
                  refine go_iastore rfl c9 dX6_alters_134 ?_
                  refine go_mem (fun m11 qm11 => ?_)
                  have h := h m11 qm11
                  refine go_iload dX6_alters_135 0 rfl ?_
                  exact go_iret rfl dX6_alters_137 h
                · have h := h.2 q
                  refine go_iload_n dX6_alters_97 4 rfl ?_
                  refine go_aload_n dX6_alters_98 1 rfl ?_
                  refine go_getR (kf := 0) (t := 41) rfl rfl rfl uwX6 (by decide) flX6_7 dX6_alters_99 ?_
                  refine go_iconst (v := 5) dX6_alters_102 (by decide) ?_
                  refine go_iload_n dX6_alters_103 2 rfl ?_
                  refine go_iadd dX6_alters_104 ?_
                  obtain ⟨c12, h⟩ := h
                  refine go_iaload rfl c12 dX6_alters_105 ?_
                  refine go_icmp_lt 112 dX6_alters_106 (by decide) (fun q => ?_) (fun q => ?_)
                  · have h := h.1 q
                    refine go_aload_n dX6_alters_112 1 rfl ?_
                    refine go_getR (kf := 0) (t := 41) rfl rfl rfl uwX6 (by decide) flX6_7 dX6_alters_113 ?_
                    refine go_iconst (v := 5) dX6_alters_116 (by decide) ?_
                    refine go_iload_n dX6_alters_117 3 rfl ?_
                    refine go_imul dX6_alters_118 ?_
                    refine go_iload_n dX6_alters_119 2 rfl ?_
                    refine go_iadd dX6_alters_120 ?_
                    obtain ⟨c13, h⟩ := h
                    refine go_iaload rfl c13 dX6_alters_121 ?_
                    refine go_topi (fun y14 qy14 => ?_)
                    have h := h y14 qy14
                    refine go_istore (L2 := [(5, .int y14), (4, .int 1), (0, .ref 40), (1, .int a1), (2, .int a2), (3, .int a3)]) dX6_alters_122 (by decide) rfl ?_
                    refine go_aload_n dX6_alters_124 2 rfl ?_
                    refine go_getR (kf := 0) (t := 41) rfl rfl rfl uwX6 (by decide) flX6_7 dX6_alters_125 ?_
                    refine go_iconst (v := 5) dX6_alters_128 (by decide) ?_
                    refine go_iload_n dX6_alters_129 4 rfl ?_
                    refine go_imul dX6_alters_130 ?_
                    refine go_iload_n dX6_alters_131 3 rfl ?_
                    refine go_iadd dX6_alters_132 ?_
                    refine go_iload_n dX6_alters_133 5 rfl ?_
                    refine go_iastore rfl c13 dX6_alters_134 ?_
                    refine go_mem (fun m15 qm15 => ?_)
                    have h := h m15 qm15
                    refine go_iload dX6_alters_135 0 rfl ?_
                    exact go_iret rfl dX6_alters_137 h
                  · have h := h.2 q
                    refine go_bipush (v := (-2)) dX6_alters_109 (by decide) ?_
                    exact go_iret rfl dX6_alters_111 h
    · have h := h.2 q
      refine go_iload_n dX6_alters_21 3 rfl ?_
      refine go_i2l dX6_alters_22 ?_
      refine go_ldc2 klX6_143 dX6_alters_23 ?_
      refine go_ldc2 klX6_145 dX6_alters_26 ?_
      refine go_callS (st := []) (kX6_in (d + 1) a3 2 30 2 30 (by decide) (by decide)) okX6_in staX6_in lkX6_50 rfl rfl (Nat.le_of_ble_eq_true rfl) dX6_alters_29 (fun v_ m2_ q => ?_)
      rw [q.1, q.2]
      refine go_stk (st2 := [.int (bI (2 ≤ a3 ∧ a3 ≤ 30))]) rfl ?_
      refine go_goto 57 dX6_alters_32 (by decide) ?_
      refine go_istore (L2 := [(4, .int (bI (2 ≤ a3 ∧ a3 ≤ 30))), (0, .ref 40), (1, .int a1), (2, .int a2), (3, .int a3)]) dX6_alters_57 (by decide) rfl ?_
      refine go_aload_n dX6_alters_59 1 rfl ?_
      refine go_iload_n dX6_alters_60 2 rfl ?_
      refine go_callV (st := []) (kX6_isClock (d + 0) a1) rfl rfl okX6_isClock insX6_isClock selX6_isClock lkX6_137 rfl rfl (Nat.le_of_ble_eq_true rfl) dX6_alters_61 (fun v_ m2_ q => ?_)
      rw [q.1, q.2]
      refine go_stk (st2 := [.int (bI (0 ≤ a1 ∧ a1 ≤ ((mem 41 20) - 1)))]) rfl ?_
      refine go_if_eq 72 dX6_alters_64 (by decide) (fun q => ?_) (fun q => ?_)
      · have h := h.1 (bI0.mp q)
        refine go_iconst (v := (-1)) dX6_alters_72 (by decide) ?_
        exact go_iret rfl dX6_alters_73 h
      · have h := h.2 (bI1.mp q)
        refine go_iload dX6_alters_67 0 rfl ?_
        refine go_if_ne 74 dX6_alters_69 (by decide) (fun q => ?_) (fun q => ?_)
        · have h := h.1 (bI1.mp q)
          refine go_iload_n dX6_alters_74 3 rfl ?_
          refine go_iconst (v := 1) dX6_alters_75 (by decide) ?_
          refine go_icmp_ne 92 dX6_alters_76 (by decide) (fun q => ?_) (fun q => ?_)
          · have h := h.1 q
            refine go_iload_n dX6_alters_92 3 rfl ?_
            refine go_iconst (v := 2) dX6_alters_93 (by decide) ?_
            refine go_icmp_ne 112 dX6_alters_94 (by decide) (fun q => ?_) (fun q => ?_)
            · have h := h.1 q
              refine go_aload_n dX6_alters_112 1 rfl ?_
              refine go_getR (kf := 0) (t := 41) rfl rfl rfl uwX6 (by decide) flX6_7 dX6_alters_113 ?_
              refine go_iconst (v := 5) dX6_alters_116 (by decide) ?_
              refine go_iload_n dX6_alters_117 3 rfl ?_
              refine go_imul dX6_alters_118 ?_
              refine go_iload_n dX6_alters_119 2 rfl ?_
              refine go_iadd dX6_alters_120 ?_
              obtain ⟨c16, h⟩ := h
              refine go_iaload rfl c16 dX6_alters_121 ?_
              refine go_topi (fun y17 qy17 => ?_)
              have h := h y17 qy17
              refine go_istore (L2 := [(5, .int y17), (4, .int (bI (2 ≤ a3 ∧ a3 ≤ 30))), (0, .ref 40), (1, .int a1), (2, .int a2), (3, .int a3)]) dX6_alters_122 (by decide) rfl ?_
              refine go_aload_n dX6_alters_124 2 rfl ?_
              refine go_getR (kf := 0) (t := 41) rfl rfl rfl uwX6 (by decide) flX6_7 dX6_alters_125 ?_
              refine go_iconst (v := 5) dX6_alters_128 (by decide) ?_
              refine go_iload_n dX6_alters_129 4 rfl ?_
              refine go_imul dX6_alters_130 ?_
              refine go_iload_n dX6_alters_131 3 rfl ?_
              refine go_iadd dX6_alters_132 ?_
              refine go_iload_n dX6_alters_133 5 rfl ?_
              refine go_iastore rfl c16 dX6_alters_134 ?_
              refine go_mem (fun m18 qm18 => ?_)
              have h := h m18 qm18
              refine go_iload dX6_alters_135 0 rfl ?_
              exact go_iret rfl dX6_alters_137 h
            · have h := h.2 q
              refine go_iload_n dX6_alters_97 4 rfl ?_
              refine go_aload_n dX6_alters_98 1 rfl ?_
              refine go_getR (kf := 0) (t := 41) rfl rfl rfl uwX6 (by decide) flX6_7 dX6_alters_99 ?_
              refine go_iconst (v := 5) dX6_alters_102 (by decide) ?_
              refine go_iload_n dX6_alters_103 2 rfl ?_
              refine go_iadd dX6_alters_104 ?_
              obtain ⟨c19, h⟩ := h
              refine go_iaload rfl c19 dX6_alters_105 ?_
              refine go_icmp_lt 112 dX6_alters_106 (by decide) (fun q => ?_) (fun q => ?_)
              · have h := h.1 q
                refine go_aload_n dX6_alters_112 1 rfl ?_
                refine go_getR (kf := 0) (t := 41) rfl rfl rfl uwX6 (by decide) flX6_7 dX6_alters_113 ?_
                refine go_iconst (v := 5) dX6_alters_116 (by decide) ?_
                refine go_iload_n dX6_alters_117 3 rfl ?_
                refine go_imul dX6_alters_118 ?_
                refine go_iload_n dX6_alters_119 2 rfl ?_
                refine go_iadd dX6_alters_120 ?_
                obtain ⟨c20, h⟩ := h
                refine go_iaload rfl c20 dX6_alters_121 ?_
                refine go_topi (fun y21 qy21 => ?_)
                have h := h y21 qy21
                refine go_istore (L2 := [(5, .int y21), (4, .int (bI (2 ≤ a3 ∧ a3 ≤ 30))), (0, .ref 40), (1, .int a1), (2, .int a2), (3, .int a3)]) dX6_alters_122 (by decide) rfl ?_
                refine go_aload_n dX6_alters_124 2 rfl ?_
                refine go_getR (kf := 0) (t := 41) rfl rfl rfl uwX6 (by decide) flX6_7 dX6_alters_125 ?_
                refine go_iconst (v := 5) dX6_alters_128 (by decide) ?_
                refine go_iload_n dX6_alters_129 4 rfl ?_
                refine go_imul dX6_alters_130 ?_
                refine go_iload_n dX6_alters_131 3 rfl ?_
                refine go_iadd dX6_alters_132 ?_
                refine go_iload_n dX6_alters_133 5 rfl ?_
                refine go_iastore rfl c20 dX6_alters_134 ?_
                refine go_mem (fun m22 qm22 => ?_)
                have h := h m22 qm22
                refine go_iload dX6_alters_135 0 rfl ?_
                exact go_iret rfl dX6_alters_137 h
              · have h := h.2 q
                refine go_bipush (v := (-2)) dX6_alters_109 (by decide) ?_
                exact go_iret rfl dX6_alters_111 h
          · have h := h.2 q
            refine go_aload_n dX6_alters_79 1 rfl ?_
            refine go_getR (kf := 0) (t := 41) rfl rfl rfl uwX6 (by decide) flX6_7 dX6_alters_80 ?_
            refine go_bipush (v := 10) dX6_alters_83 (by decide) ?_
            refine go_iload_n dX6_alters_85 2 rfl ?_
            refine go_iadd dX6_alters_86 ?_
            obtain ⟨c23, h⟩ := h
            refine go_iaload rfl c23 dX6_alters_87 ?_
            refine go_iload_n dX6_alters_88 4 rfl ?_
            refine go_icmp_ge 109 dX6_alters_89 (by decide) (fun q => ?_) (fun q => ?_)
            · have h := h.1 q
              refine go_bipush (v := (-2)) dX6_alters_109 (by decide) ?_
              exact go_iret rfl dX6_alters_111 h
            · have h := h.2 q
              refine go_iload_n dX6_alters_92 3 rfl ?_
              refine go_iconst (v := 2) dX6_alters_93 (by decide) ?_
              refine go_icmp_ne 112 dX6_alters_94 (by decide) (fun q => ?_) (fun q => ?_)
              · have h := h.1 q
                refine go_aload_n dX6_alters_112 1 rfl ?_
                refine go_getR (kf := 0) (t := 41) rfl rfl rfl uwX6 (by decide) flX6_7 dX6_alters_113 ?_
                refine go_iconst (v := 5) dX6_alters_116 (by decide) ?_
                refine go_iload_n dX6_alters_117 3 rfl ?_
                refine go_imul dX6_alters_118 ?_
                refine go_iload_n dX6_alters_119 2 rfl ?_
                refine go_iadd dX6_alters_120 ?_
                obtain ⟨c24, h⟩ := h
                refine go_iaload rfl c24 dX6_alters_121 ?_
                refine go_topi (fun y25 qy25 => ?_)
                have h := h y25 qy25
                refine go_istore (L2 := [(5, .int y25), (4, .int (bI (2 ≤ a3 ∧ a3 ≤ 30))), (0, .ref 40), (1, .int a1), (2, .int a2), (3, .int a3)]) dX6_alters_122 (by decide) rfl ?_
                refine go_aload_n dX6_alters_124 2 rfl ?_
                refine go_getR (kf := 0) (t := 41) rfl rfl rfl uwX6 (by decide) flX6_7 dX6_alters_125 ?_
                refine go_iconst (v := 5) dX6_alters_128 (by decide) ?_
                refine go_iload_n dX6_alters_129 4 rfl ?_
                refine go_imul dX6_alters_130 ?_
                refine go_iload_n dX6_alters_131 3 rfl ?_
                refine go_iadd dX6_alters_132 ?_
                refine go_iload_n dX6_alters_133 5 rfl ?_
                refine go_iastore rfl c24 dX6_alters_134 ?_
                refine go_mem (fun m26 qm26 => ?_)
                have h := h m26 qm26
                refine go_iload dX6_alters_135 0 rfl ?_
                exact go_iret rfl dX6_alters_137 h
              · have h := h.2 q
                refine go_iload_n dX6_alters_97 4 rfl ?_
                refine go_aload_n dX6_alters_98 1 rfl ?_
                refine go_getR (kf := 0) (t := 41) rfl rfl rfl uwX6 (by decide) flX6_7 dX6_alters_99 ?_
                refine go_iconst (v := 5) dX6_alters_102 (by decide) ?_
                refine go_iload_n dX6_alters_103 2 rfl ?_
                refine go_iadd dX6_alters_104 ?_
                obtain ⟨c27, h⟩ := h
                refine go_iaload rfl c27 dX6_alters_105 ?_
                refine go_icmp_lt 112 dX6_alters_106 (by decide) (fun q => ?_) (fun q => ?_)
                · have h := h.1 q
                  refine go_aload_n dX6_alters_112 1 rfl ?_
                  refine go_getR (kf := 0) (t := 41) rfl rfl rfl uwX6 (by decide) flX6_7 dX6_alters_113 ?_
                  refine go_iconst (v := 5) dX6_alters_116 (by decide) ?_
                  refine go_iload_n dX6_alters_117 3 rfl ?_
                  refine go_imul dX6_alters_118 ?_
                  refine go_iload_n dX6_alters_119 2 rfl ?_
                  refine go_iadd dX6_alters_120 ?_
                  obtain ⟨c28, h⟩ := h
                  refine go_iaload rfl c28 dX6_alters_121 ?_
                  refine go_topi (fun y29 qy29 => ?_)
                  have h := h y29 qy29
                  refine go_istore (L2 := [(5, .int y29), (4, .int (bI (2 ≤ a3 ∧ a3 ≤ 30))), (0, .ref 40), (1, .int a1), (2, .int a2), (3, .int a3)]) dX6_alters_122 (by decide) rfl ?_
                  refine go_aload_n dX6_alters_124 2 rfl ?_
                  refine go_getR (kf := 0) (t := 41) rfl rfl rfl uwX6 (by decide) flX6_7 dX6_alters_125 ?_
                  refine go_iconst (v := 5) dX6_alters_128 (by decide) ?_
                  refine go_iload_n dX6_alters_129 4 rfl ?_
                  refine go_imul dX6_alters_130 ?_
                  refine go_iload_n dX6_alters_131 3 rfl ?_
                  refine go_iadd dX6_alters_132 ?_
                  refine go_iload_n dX6_alters_133 5 rfl ?_
                  refine go_iastore rfl c28 dX6_alters_134 ?_
                  refine go_mem (fun m30 qm30 => ?_)
                  have h := h m30 qm30
                  refine go_iload dX6_alters_135 0 rfl ?_
                  exact go_iret rfl dX6_alters_137 h
                · have h := h.2 q
                  refine go_bipush (v := (-2)) dX6_alters_109 (by decide) ?_
                  exact go_iret rfl dX6_alters_111 h
        · have h := h.2 (bI0.mp q)
          refine go_iconst (v := (-1)) dX6_alters_72 (by decide) ?_
          exact go_iret rfl dX6_alters_73 h
  · have h := h.2 q
    refine go_iload_n dX6_alters_4 3 rfl ?_
    refine go_i2l dX6_alters_5 ?_
    refine go_lconst (v := 0) dX6_alters_6 (by decide) ?_
    refine go_ldc2 klX6_141 dX6_alters_7 ?_
    refine go_callS (st := []) (kX6_in (d + 1) a3 0 3 0 3 (by decide) (by decide)) okX6_in staX6_in lkX6_50 rfl rfl (Nat.le_of_ble_eq_true rfl) dX6_alters_10 (fun v_ m2_ q => ?_)
    rw [q.1, q.2]
    refine go_stk (st2 := [.int (bI (0 ≤ a3 ∧ a3 ≤ 3))]) rfl ?_
    refine go_goto 57 dX6_alters_13 (by decide) ?_
    refine go_istore (L2 := [(4, .int (bI (0 ≤ a3 ∧ a3 ≤ 3))), (0, .ref 40), (1, .int a1), (2, .int a2), (3, .int a3)]) dX6_alters_57 (by decide) rfl ?_
    refine go_aload_n dX6_alters_59 1 rfl ?_
    refine go_iload_n dX6_alters_60 2 rfl ?_
    refine go_callV (st := []) (kX6_isClock (d + 0) a1) rfl rfl okX6_isClock insX6_isClock selX6_isClock lkX6_137 rfl rfl (Nat.le_of_ble_eq_true rfl) dX6_alters_61 (fun v_ m2_ q => ?_)
    rw [q.1, q.2]
    refine go_stk (st2 := [.int (bI (0 ≤ a1 ∧ a1 ≤ ((mem 41 20) - 1)))]) rfl ?_
    refine go_if_eq 72 dX6_alters_64 (by decide) (fun q => ?_) (fun q => ?_)
    · have h := h.1 (bI0.mp q)
      refine go_iconst (v := (-1)) dX6_alters_72 (by decide) ?_
      exact go_iret rfl dX6_alters_73 h
    · have h := h.2 (bI1.mp q)
      refine go_iload dX6_alters_67 0 rfl ?_
      refine go_if_ne 74 dX6_alters_69 (by decide) (fun q => ?_) (fun q => ?_)
      · have h := h.1 (bI1.mp q)
        refine go_iload_n dX6_alters_74 3 rfl ?_
        refine go_iconst (v := 1) dX6_alters_75 (by decide) ?_
        refine go_icmp_ne 92 dX6_alters_76 (by decide) (fun q => ?_) (fun q => ?_)
        · have h := h.1 q
          refine go_iload_n dX6_alters_92 3 rfl ?_
          refine go_iconst (v := 2) dX6_alters_93 (by decide) ?_
          refine go_icmp_ne 112 dX6_alters_94 (by decide) (fun q => ?_) (fun q => ?_)
          · have h := h.1 q
            refine go_aload_n dX6_alters_112 1 rfl ?_
            refine go_getR (kf := 0) (t := 41) rfl rfl rfl uwX6 (by decide) flX6_7 dX6_alters_113 ?_
            refine go_iconst (v := 5) dX6_alters_116 (by decide) ?_
            refine go_iload_n dX6_alters_117 3 rfl ?_
            refine go_imul dX6_alters_118 ?_
            refine go_iload_n dX6_alters_119 2 rfl ?_
            refine go_iadd dX6_alters_120 ?_
            obtain ⟨c31, h⟩ := h
            refine go_iaload rfl c31 dX6_alters_121 ?_
            refine go_topi (fun y32 qy32 => ?_)
            have h := h y32 qy32
            refine go_istore (L2 := [(5, .int y32), (4, .int (bI (0 ≤ a3 ∧ a3 ≤ 3))), (0, .ref 40), (1, .int a1), (2, .int a2), (3, .int a3)]) dX6_alters_122 (by decide) rfl ?_
            refine go_aload_n dX6_alters_124 2 rfl ?_
            refine go_getR (kf := 0) (t := 41) rfl rfl rfl uwX6 (by decide) flX6_7 dX6_alters_125 ?_
            refine go_iconst (v := 5) dX6_alters_128 (by decide) ?_
            refine go_iload_n dX6_alters_129 4 rfl ?_
            refine go_imul dX6_alters_130 ?_
            refine go_iload_n dX6_alters_131 3 rfl ?_
            refine go_iadd dX6_alters_132 ?_
            refine go_iload_n dX6_alters_133 5 rfl ?_
            refine go_iastore rfl c31 dX6_alters_134 ?_
            refine go_mem (fun m33 qm33 => ?_)
            have h := h m33 qm33
            refine go_iload dX6_alters_135 0 rfl ?_
            exact go_iret rfl dX6_alters_137 h
          · have h := h.2 q
            refine go_iload_n dX6_alters_97 4 rfl ?_
            refine go_aload_n dX6_alters_98 1 rfl ?_
            refine go_getR (kf := 0) (t := 41) rfl rfl rfl uwX6 (by decide) flX6_7 dX6_alters_99 ?_
            refine go_iconst (v := 5) dX6_alters_102 (by decide) ?_
            refine go_iload_n dX6_alters_103 2 rfl ?_
            refine go_iadd dX6_alters_104 ?_
            obtain ⟨c34, h⟩ := h
            refine go_iaload rfl c34 dX6_alters_105 ?_
            refine go_icmp_lt 112 dX6_alters_106 (by decide) (fun q => ?_) (fun q => ?_)
            · have h := h.1 q
              refine go_aload_n dX6_alters_112 1 rfl ?_
              refine go_getR (kf := 0) (t := 41) rfl rfl rfl uwX6 (by decide) flX6_7 dX6_alters_113 ?_
              refine go_iconst (v := 5) dX6_alters_116 (by decide) ?_
              refine go_iload_n dX6_alters_117 3 rfl ?_
              refine go_imul dX6_alters_118 ?_
              refine go_iload_n dX6_alters_119 2 rfl ?_
              refine go_iadd dX6_alters_120 ?_
              obtain ⟨c35, h⟩ := h
              refine go_iaload rfl c35 dX6_alters_121 ?_
              refine go_topi (fun y36 qy36 => ?_)
              have h := h y36 qy36
              refine go_istore (L2 := [(5, .int y36), (4, .int (bI (0 ≤ a3 ∧ a3 ≤ 3))), (0, .ref 40), (1, .int a1), (2, .int a2), (3, .int a3)]) dX6_alters_122 (by decide) rfl ?_
              refine go_aload_n dX6_alters_124 2 rfl ?_
              refine go_getR (kf := 0) (t := 41) rfl rfl rfl uwX6 (by decide) flX6_7 dX6_alters_125 ?_
              refine go_iconst (v := 5) dX6_alters_128 (by decide) ?_
              refine go_iload_n dX6_alters_129 4 rfl ?_
              refine go_imul dX6_alters_130 ?_
              refine go_iload_n dX6_alters_131 3 rfl ?_
              refine go_iadd dX6_alters_132 ?_
              refine go_iload_n dX6_alters_133 5 rfl ?_
              refine go_iastore rfl c35 dX6_alters_134 ?_
              refine go_mem (fun m37 qm37 => ?_)
              have h := h m37 qm37
              refine go_iload dX6_alters_135 0 rfl ?_
              exact go_iret rfl dX6_alters_137 h
            · have h := h.2 q
              refine go_bipush (v := (-2)) dX6_alters_109 (by decide) ?_
              exact go_iret rfl dX6_alters_111 h
        · have h := h.2 q
          refine go_aload_n dX6_alters_79 1 rfl ?_
          refine go_getR (kf := 0) (t := 41) rfl rfl rfl uwX6 (by decide) flX6_7 dX6_alters_80 ?_
          refine go_bipush (v := 10) dX6_alters_83 (by decide) ?_
          refine go_iload_n dX6_alters_85 2 rfl ?_
          refine go_iadd dX6_alters_86 ?_
          obtain ⟨c38, h⟩ := h
          refine go_iaload rfl c38 dX6_alters_87 ?_
          refine go_iload_n dX6_alters_88 4 rfl ?_
          refine go_icmp_ge 109 dX6_alters_89 (by decide) (fun q => ?_) (fun q => ?_)
          · have h := h.1 q
            refine go_bipush (v := (-2)) dX6_alters_109 (by decide) ?_
            exact go_iret rfl dX6_alters_111 h
          · have h := h.2 q
            refine go_iload_n dX6_alters_92 3 rfl ?_
            refine go_iconst (v := 2) dX6_alters_93 (by decide) ?_
            refine go_icmp_ne 112 dX6_alters_94 (by decide) (fun q => ?_) (fun q => ?_)
            · have h := h.1 q
              refine go_aload_n dX6_alters_112 1 rfl ?_
              refine go_getR (kf := 0) (t := 41) rfl rfl rfl uwX6 (by decide) flX6_7 dX6_alters_113 ?_
              refine go_iconst (v := 5) dX6_alters_116 (by decide) ?_
              refine go_iload_n dX6_alters_117 3 rfl ?_
              refine go_imul dX6_alters_118 ?_
              refine go_iload_n dX6_alters_119 2 rfl ?_
              refine go_iadd dX6_alters_120 ?_
              obtain ⟨c39, h⟩ := h
              refine go_iaload rfl c39 dX6_alters_121 ?_
              refine go_topi (fun y40 qy40 => ?_)
              have h := h y40 qy40
              refine go_istore (L2 := [(5, .int y40), (4, .int (bI (0 ≤ a3 ∧ a3 ≤ 3))), (0, .ref 40), (1, .int a1), (2, .int a2), (3, .int a3)]) dX6_alters_122 (by decide) rfl ?_
              refine go_aload_n dX6_alters_124 2 rfl ?_
              refine go_getR (kf := 0) (t := 41) rfl rfl rfl uwX6 (by decide) flX6_7 dX6_alters_125 ?_
              refine go_iconst (v := 5) dX6_alters_128 (by decide) ?_
              refine go_iload_n dX6_alters_129 4 rfl ?_
              refine go_imul dX6_alters_130 ?_
              refine go_iload_n dX6_alters_131 3 rfl ?_
              refine go_iadd dX6_alters_132 ?_
              refine go_iload_n dX6_alters_133 5 rfl ?_
              refine go_iastore rfl c39 dX6_alters_134 ?_
              refine go_mem (fun m41 qm41 => ?_)
              have h := h m41 qm41
              refine go_iload dX6_alters_135 0 rfl ?_
              exact go_iret rfl dX6_alters_137 h
            · have h := h.2 q
              refine go_iload_n dX6_alters_97 4 rfl ?_
              refine go_aload_n dX6_alters_98 1 rfl ?_
              refine go_getR (kf := 0) (t := 41) rfl rfl rfl uwX6 (by decide) flX6_7 dX6_alters_99 ?_
              refine go_iconst (v := 5) dX6_alters_102 (by decide) ?_
              refine go_iload_n dX6_alters_103 2 rfl ?_
              refine go_iadd dX6_alters_104 ?_
              obtain ⟨c42, h⟩ := h
              refine go_iaload rfl c42 dX6_alters_105 ?_
              refine go_icmp_lt 112 dX6_alters_106 (by decide) (fun q => ?_) (fun q => ?_)
              · have h := h.1 q
                refine go_aload_n dX6_alters_112 1 rfl ?_
                refine go_getR (kf := 0) (t := 41) rfl rfl rfl uwX6 (by decide) flX6_7 dX6_alters_113 ?_
                refine go_iconst (v := 5) dX6_alters_116 (by decide) ?_
                refine go_iload_n dX6_alters_117 3 rfl ?_
                refine go_imul dX6_alters_118 ?_
                refine go_iload_n dX6_alters_119 2 rfl ?_
                refine go_iadd dX6_alters_120 ?_
                obtain ⟨c43, h⟩ := h
                refine go_iaload rfl c43 dX6_alters_121 ?_
                refine go_topi (fun y44 qy44 => ?_)
                have h := h y44 qy44
                refine go_istore (L2 := [(5, .int y44), (4, .int (bI (0 ≤ a3 ∧ a3 ≤ 3))), (0, .ref 40), (1, .int a1), (2, .int a2), (3, .int a3)]) dX6_alters_122 (by decide) rfl ?_
                refine go_aload_n dX6_alters_124 2 rfl ?_
                refine go_getR (kf := 0) (t := 41) rfl rfl rfl uwX6 (by decide) flX6_7 dX6_alters_125 ?_
                refine go_iconst (v := 5) dX6_alters_128 (by decide) ?_
                refine go_iload_n dX6_alters_129 4 rfl ?_
                refine go_imul dX6_alters_130 ?_
                refine go_iload_n dX6_alters_131 3 rfl ?_
                refine go_iadd dX6_alters_132 ?_
                refine go_iload_n dX6_alters_133 5 rfl ?_
                refine go_iastore rfl c43 dX6_alters_134 ?_
                refine go_mem (fun m45 qm45 => ?_)
                have h := h m45 qm45
                refine go_iload dX6_alters_135 0 rfl ?_
                exact go_iret rfl dX6_alters_137 h
              · have h := h.2 q
                refine go_bipush (v := (-2)) dX6_alters_109 (by decide) ?_
                exact go_iret rfl dX6_alters_111 h
      · have h := h.2 (bI0.mp q)
        refine go_iconst (v := (-1)) dX6_alters_72 (by decide) ?_
        exact go_iret rfl dX6_alters_73 h


theorem five0 (x : Int32) : (5 * 0 + x : Int32) = x := by rw [show (5 * 0 : Int32) = 0 from rfl]; exact Int32.zero_add _
set_option maxHeartbeats 4000000 in
theorem kX6_alters {G : GX} (d : Nat) {mem : Mem} (c w v : Int32) (X : Bm) (hV : VX 9 30 X) (hM : RepM mem 0 X) : Cn G (d + 2) mX6_alters [.ref 40, .int c, .int w, .int v] mem (Ri (alA X c w v).1 (fun m2 => RepM m2 0 (alA X c w v).2 ∧ FrM 0 mem m2)) := by
  have hn := hV.1
  obtain ⟨r1, r2, r3, r4⟩ := RepM0 hM
  have bad : (alA X c w v) = (-1, X) → Ri (alA X c w v).1 (fun m2 => RepM m2 0 (alA X c w v).2 ∧ FrM 0 mem m2) (some (.int (-1))) mem := fun e => by rw [e]; exact ⟨rfl, hM, FrM.rf⟩
  have noC : ¬ isC X c → alA X c w v = (-1, X) := fun q => by unfold alA; rw [if_neg q]
  by_cases q0 : w = 0
  · subst q0
    refine cn_of (by decide +kernel) (Nat.le_of_ble_eq_true rfl) (sX6_alters_0w0 c v ?_)
    rw [r1, isC_M hn]
    refine ⟨fun q => bad (noC q), fun q => ?_⟩
    obtain ⟨i, hi, rfl⟩ := isC_n q hn
    have ea : alA X (nI i) 0 v = alK X i v := by unfold alA; rw [if_pos q, if_pos rfl, ncl (by omega)]
    rw [five0, ncl (show i < 2000000000 by omega), (r4 i hi).1]
    refine ⟨fun z => ⟨nin (by omega) (by omega), fun y hy m3 h3 => ?_⟩, fun z => bad (by rw [ea]; unfold alK; rw [if_neg z])⟩
    rw [ea]
    unfold alK
    rw [if_pos z]
    rw [(i_of (n := 3) rfl (by omega) z).2] at h3
    exact Ri.mk hy (RepM_k hn (by omega) hM h3)
  · by_cases q1 : w = 1
    · subst q1
      refine cn_of (by decide +kernel) (Nat.le_of_ble_eq_true rfl) (sX6_alters_0w1 c v ?_)
      rw [r1, isC_M hn]
      refine ⟨fun q => bad (noC q), fun q => ?_⟩
      obtain ⟨i, hi, rfl⟩ := isC_n q hn
      have ea : alA X (nI i) 1 v = alP X i v := by unfold alA; rw [if_pos q, if_neg (by decide), if_pos rfl, ncl (by omega)]
      rw [show ((10 : Int32) + nI i).toNatClampNeg = 10 + i from qa (P := 10) (by omega), show ((5 * 1 : Int32) + nI i).toNatClampNeg = 5 + i from qa (P := 5) (by omega), (r4 i hi).2.2.1, (r4 i hi).2.1]
      refine ⟨fun z => ⟨qL (P := 10) (by omega), fun z2 => ?_, fun z2 => ⟨qL (P := 5) (by omega), fun y hy m3 h3 => ?_⟩⟩, fun z => bad (by rw [ea]; unfold alP; rw [if_neg z])⟩
      · rw [ea]
        unfold alP
        rw [if_pos z, if_neg (Int32.not_lt.mpr z2)]
        exact Ri.mk rfl ⟨hM, FrM.rf⟩
      · rw [ea]
        unfold alP
        rw [if_pos z, if_pos (Int32.not_le.mp z2)]
        rw [(i_of (n := 30) rfl (by omega) ⟨Int32.le_trans (by decide) z.1, z.2⟩).2] at h3
        exact Ri.mk hy (RepM_p hn (by omega) hM h3)
    · by_cases q2 : w = 2
      · subst q2
        refine cn_of (by decide +kernel) (Nat.le_of_ble_eq_true rfl) (sX6_alters_0w2 c v ?_)
        rw [r1, isC_M hn]
        have badH : ¬ (0 ≤ v ∧ v ≤ 29) → alA X c 2 v = (-1, X) := fun z => by
          have e1 : alH X c.toNatClampNeg v = (-1, X) := by unfold alH; rw [if_neg z]
          unfold alA
          rw [if_neg q0, if_neg q1, if_pos rfl, e1, ite_self]
        refine ⟨fun z => ⟨fun _ => bad (badH z), fun _ => bad (badH z)⟩, fun z => ⟨fun q => bad (noC q), fun q => ?_⟩⟩
        obtain ⟨i, hi, rfl⟩ := isC_n q hn
        have ea : alA X (nI i) 2 v = alH X i v := by unfold alA; rw [if_pos q, if_neg (by decide), if_neg (by decide), if_pos rfl, ncl (by omega)]
        rw [show ((5 : Int32) + nI i).toNatClampNeg = 5 + i from qa (P := 5) (by omega), show ((5 * 2 : Int32) + nI i).toNatClampNeg = 10 + i from qa (P := 10) (by omega), (r4 i hi).2.2.1, (r4 i hi).2.1, ea]
        unfold alH
        rw [if_pos z]
        refine ⟨qL (P := 5) (by omega), fun z2 => ⟨qL (P := 10) (by omega), fun y hy m3 h3 => ?_⟩, fun z2 => ?_⟩
        · rw [if_pos z2]
          rw [(i_of (n := 29) rfl (by omega) z).2] at h3
          exact Ri.mk hy (RepM_h (P := 0) hn (by omega) hM (by rw [pls]; exact h3))
        · rw [if_neg z2]
          exact Ri.mk rfl ⟨hM, FrM.rf⟩
      · have ea : alA X c w v = (-1, X) := by
          unfold alA
          rw [if_neg q0, if_neg q1, if_neg q2]
          split <;> rfl
        exact cn_of (by decide +kernel) (Nat.le_of_ble_eq_true rfl) (sX6_alters_0 c w v ⟨fun _ => ⟨fun _ => ⟨fun _ => ⟨fun _ => bad ea, fun _ => bad ea⟩, fun z => absurd z q2⟩, fun z => absurd z q1⟩, fun z => absurd z q0⟩)

set_option maxRecDepth 100000 in
theorem sX6_alter_0 {G : GX} {d : Nat} {mem : Mem} {Φ : Option Value → Mem → Prop} (a1 a2 a3 : Int32) (X : Bm) (h : (VX 9 30 X) ∧ (RepM mem 0 X) ∧ ∀ m3 : Mem, (RepM m3 0 (alA X a1 a2 a3).2 ∧ FrM 0 mem m3) → Φ (some (.int (alA X a1 a2 a3).1)) m3) : Go G (d + 3) mX6_alter 0 [(0, .ref 40), (1, .int a1), (2, .int a2), (3, .int a3)] [] mem Φ := by
  refine go_aload_n dX6_alter_0 0 rfl ?_
  refine go_iload_n dX6_alter_1 1 rfl ?_
  refine go_iload_n dX6_alter_2 2 rfl ?_
  refine go_iload_n dX6_alter_3 3 rfl ?_
  obtain ⟨c1, h⟩ := h
  obtain ⟨c2, h⟩ := h
  refine go_callV (st := []) (kX6_alters (d + 0) a1 a2 a3 X c1 c2) rfl rfl okX6_alters insX6_alters selX6_alters lkX6_149 rfl rfl (Nat.le_of_ble_eq_true rfl) dX6_alter_4 (fun v_ m3 q => ?_)
  rw [q.1]
  have h := h m3 q.2
  refine go_stk (st2 := [.int (alA X a1 a2 a3).1]) rfl ?_
  exact go_iret rfl dX6_alter_7 h


theorem P6 {G : GX} (c w v : Int32) : Sm G mX5_alter mX6_alter [.int c, .int w, .int v] := Sm_now (fun mem X h => by
  obtain ⟨hB, hM, hV, ht⟩ := h
  have hn := hV.1
  obtain ⟨hV2, ht2⟩ := VX_alA hV c w v
  refine ⟨(alA X c w v).1, (alA X c w v).2, hV2, by rw [ht2]; exact ht, ?_, fun m1 hM1 _ => ?_⟩
  · refine cn_of (by decide +kernel) (Nat.le_of_ble_eq_true rfl) (sX5_alter_0 (d := 7) c w v c.toNatClampNeg X ?_)
    rw [hB.1]
    unfold alA
    refine ⟨fun q => ?_, fun q => ?_⟩
    · rw [if_pos q]
      obtain ⟨i, hi, rfl⟩ := isC_n q hn
      rw [ncl (show i < 2000000000 by omega)]
      refine ⟨fun q0 => ?_, fun q0 => ⟨fun q1 => ?_, fun q1 => ⟨fun q2 => ?_, fun q2 => ?_⟩⟩⟩
      · rw [if_pos q0]; exact ⟨rfl, hn, hi, hB, fun m5 h5 => ⟨rfl, h5⟩⟩
      · rw [if_neg q0, if_pos q1]; exact ⟨rfl, hn, hi, hB, fun m5 h5 => ⟨rfl, h5⟩⟩
      · rw [if_neg q0, if_neg q1, if_pos q2]; exact ⟨rfl, hn, hi, hB, fun m5 h5 => ⟨rfl, h5⟩⟩
      · rw [if_neg q0, if_neg q1, if_neg q2]; exact ⟨rfl, hB, FrB.rf⟩
    · rw [if_neg q]; exact ⟨rfl, hB, FrB.rf⟩
  · exact cn_of (by decide +kernel) (Nat.le_of_ble_eq_true rfl) (sX6_alter_0 (d := 6) c w v X ⟨hV, hM1, fun m5 h5 => ⟨rfl, h5⟩⟩))
