set_option maxRecDepth 100000 in
theorem sX5_isWithin_0 {G : GX} {d : Nat} {mem : Mem} {Φ : Option Value → Mem → Prop} (a0 : Int32) (a1 : Int32) (a2 : Int32) (h : ((a0 < a1 → Φ (some (.int 0)) mem) ∧ (¬ a0 < a1 → ((a2 < a0 → Φ (some (.int 0)) mem) ∧ (¬ a2 < a0 → Φ (some (.int 1)) mem))))) : Go G (d + 0) mX5_isWithin 0 [(0, .int a0), (1, .int a1), (2, .int a2)] [] mem Φ := by
  refine go_iload_n dX5_isWithin_0 0 rfl ?_
  refine go_iload_n dX5_isWithin_1 1 rfl ?_
  refine go_icmp_lt 14 dX5_isWithin_2 (by decide) (fun q => ?_) (fun q => ?_)
  · have h := h.1 q
    refine go_iconst (v := 0) dX5_isWithin_14 (by decide) ?_
    exact go_zret (ty := .boolean) rfl rfl dX5_isWithin_15 h
  · have h := h.2 q
    refine go_iload_n dX5_isWithin_5 0 rfl ?_
    refine go_iload_n dX5_isWithin_6 2 rfl ?_
    refine go_icmp_gt 14 dX5_isWithin_7 (by decide) (fun q => ?_) (fun q => ?_)
    · have h := h.1 q
      refine go_iconst (v := 0) dX5_isWithin_14 (by decide) ?_
      exact go_zret (ty := .boolean) rfl rfl dX5_isWithin_15 h
    · have h := h.2 q
      refine go_iconst (v := 1) dX5_isWithin_10 (by decide) ?_
      refine go_goto 15 dX5_isWithin_11 (by decide) ?_
      exact go_zret (ty := .boolean) rfl rfl dX5_isWithin_15 h

set_option maxRecDepth 100000 in
theorem sX5_isBitSet_0 {G : GX} {d : Nat} {mem : Mem} {Φ : Option Value → Mem → Prop} (a0 : Int32) (a1 : Int32) (h : ((((a0 >>> (a1 &&& 31)) &&& 1) = 0 → Φ (some (.int 0)) mem) ∧ (¬ ((a0 >>> (a1 &&& 31)) &&& 1) = 0 → Φ (some (.int 1)) mem))) : Go G (d + 0) mX5_isBitSet 0 [(0, .int a0), (1, .int a1)] [] mem Φ := by
  refine go_iload_n dX5_isBitSet_0 0 rfl ?_
  refine go_iload_n dX5_isBitSet_1 1 rfl ?_
  refine go_ishr dX5_isBitSet_2 ?_
  refine go_iconst (v := 1) dX5_isBitSet_3 (by decide) ?_
  refine go_iand dX5_isBitSet_4 ?_
  refine go_if_eq 12 dX5_isBitSet_5 (by decide) (fun q => ?_) (fun q => ?_)
  · have h := h.1 q
    refine go_iconst (v := 0) dX5_isBitSet_12 (by decide) ?_
    exact go_zret (ty := .boolean) rfl rfl dX5_isBitSet_13 h
  · have h := h.2 q
    refine go_iconst (v := 1) dX5_isBitSet_8 (by decide) ?_
    refine go_goto 13 dX5_isBitSet_9 (by decide) ?_
    exact go_zret (ty := .boolean) rfl rfl dX5_isBitSet_13 h

set_option maxRecDepth 100000 in
theorem sX5_isSheet_0 {G : GX} {d : Nat} {mem : Mem} {Φ : Option Value → Mem → Prop} (a0 : Int32) (h : ((a0 < 0 → Φ (some (.int 0)) mem) ∧ (¬ a0 < 0 → ((4 ≤ a0 → Φ (some (.int 0)) mem) ∧ (¬ 4 ≤ a0 → Φ (some (.int 1)) mem))))) : Go G (d + 0) mX5_isSheet 0 [(0, .int a0)] [] mem Φ := by
  refine go_iload_n dX5_isSheet_0 0 rfl ?_
  refine go_if_lt 13 dX5_isSheet_1 (by decide) (fun q => ?_) (fun q => ?_)
  · have h := h.1 q
    refine go_iconst (v := 0) dX5_isSheet_13 (by decide) ?_
    exact go_zret (ty := .boolean) rfl rfl dX5_isSheet_14 h
  · have h := h.2 q
    refine go_iload_n dX5_isSheet_4 0 rfl ?_
    refine go_iconst (v := 4) dX5_isSheet_5 (by decide) ?_
    refine go_icmp_ge 13 dX5_isSheet_6 (by decide) (fun q => ?_) (fun q => ?_)
    · have h := h.1 q
      refine go_iconst (v := 0) dX5_isSheet_13 (by decide) ?_
      exact go_zret (ty := .boolean) rfl rfl dX5_isSheet_14 h
    · have h := h.2 q
      refine go_iconst (v := 1) dX5_isSheet_9 (by decide) ?_
      refine go_goto 14 dX5_isSheet_10 (by decide) ?_
      exact go_zret (ty := .boolean) rfl rfl dX5_isSheet_14 h

set_option maxRecDepth 100000 in
theorem sX5_isClock_0 {G : GX} {d : Nat} {mem : Mem} {Φ : Option Value → Mem → Prop} (a1 : Int32) (h : ((a1 < 0 → Φ (some (.int 0)) mem) ∧ (¬ a1 < 0 → (((mem 1 4) ≤ a1 → Φ (some (.int 0)) mem) ∧ (¬ (mem 1 4) ≤ a1 → Φ (some (.int 1)) mem))))) : Go G (d + 0) mX5_isClock 0 [(0, .ref 0), (1, .int a1)] [] mem Φ := by
  refine go_iload_n dX5_isClock_0 1 rfl ?_
  refine go_if_lt 19 dX5_isClock_1 (by decide) (fun q => ?_) (fun q => ?_)
  · have h := h.1 q
    refine go_iconst (v := 0) dX5_isClock_19 (by decide) ?_
    exact go_zret (ty := .boolean) rfl rfl dX5_isClock_20 h
  · have h := h.2 q
    refine go_iload_n dX5_isClock_4 1 rfl ?_
    refine go_aload_n dX5_isClock_5 0 rfl ?_
    refine go_getR (kf := 0) (t := 1) rfl rfl rfl uwX5 (by decide) flX5_12 dX5_isClock_6 ?_
    refine go_getI (kf := 4) rfl rfl rfl uwX0 (by decide) flX5_96 dX5_isClock_9 ?_
    refine go_icmp_ge 19 dX5_isClock_12 (by decide) (fun q => ?_) (fun q => ?_)
    · have h := h.1 q
      refine go_iconst (v := 0) dX5_isClock_19 (by decide) ?_
      exact go_zret (ty := .boolean) rfl rfl dX5_isClock_20 h
    · have h := h.2 q
      refine go_iconst (v := 1) dX5_isClock_15 (by decide) ?_
      refine go_goto 20 dX5_isClock_16 (by decide) ?_
      exact go_zret (ty := .boolean) rfl rfl dX5_isClock_20 h

set_option maxRecDepth 100000 in
theorem sJ6_bitCount_0f7a4_0 {G : GX} {d : Nat} {mem : Mem} {Φ : Option Value → Mem → Prop} (a0 : Int32) (h : ∀ y1 : Int32, y1 = (a0 - ((((a0).toUInt32 >>> ((1 : Int32).toUInt32 &&& Int32.toUInt32 31)).toInt32) &&& 1431655765)) → ∀ y2 : Int32, y2 = ((y1 &&& 858993459) + ((((y1).toUInt32 >>> ((2 : Int32).toUInt32 &&& Int32.toUInt32 31)).toInt32) &&& 858993459)) → ∀ y3 : Int32, y3 = ((y2 + (((y2).toUInt32 >>> ((4 : Int32).toUInt32 &&& Int32.toUInt32 31)).toInt32)) &&& 252645135) → ∀ y4 : Int32, y4 = (y3 + (((y3).toUInt32 >>> ((8 : Int32).toUInt32 &&& Int32.toUInt32 31)).toInt32)) → ∀ y5 : Int32, y5 = (y4 + (((y4).toUInt32 >>> ((16 : Int32).toUInt32 &&& Int32.toUInt32 31)).toInt32)) → Φ (some (.int (y5 &&& 63))) mem) : Go G (d + 0) mJ6_bitCount_0f7a4 0 [(0, .int a0)] [] mem Φ := by
  refine go_iload_n dJ6_bitCount_0f7a4_0 0 rfl ?_
  refine go_iload_n dJ6_bitCount_0f7a4_1 0 rfl ?_
  refine go_iconst (v := 1) dJ6_bitCount_0f7a4_2 (by decide) ?_
  refine go_iushr dJ6_bitCount_0f7a4_3 ?_
  refine go_ldcw kcJ6_265 dJ6_bitCount_0f7a4_4 ?_
  refine go_iand dJ6_bitCount_0f7a4_7 ?_
  refine go_isub dJ6_bitCount_0f7a4_8 ?_
  refine go_topi (fun y1 qy1 => ?_)
  have h := h y1 qy1
  refine go_istore_n (L2 := [(0, .int y1)]) dJ6_bitCount_0f7a4_9 (by decide) rfl ?_
  refine go_iload_n dJ6_bitCount_0f7a4_10 0 rfl ?_
  refine go_ldcw kcJ6_266 dJ6_bitCount_0f7a4_11 ?_
  refine go_iand dJ6_bitCount_0f7a4_14 ?_
  refine go_iload_n dJ6_bitCount_0f7a4_15 0 rfl ?_
  refine go_iconst (v := 2) dJ6_bitCount_0f7a4_16 (by decide) ?_
  refine go_iushr dJ6_bitCount_0f7a4_17 ?_
  refine go_ldcw kcJ6_266 dJ6_bitCount_0f7a4_18 ?_
  refine go_iand dJ6_bitCount_0f7a4_21 ?_
  refine go_iadd dJ6_bitCount_0f7a4_22 ?_
  refine go_topi (fun y2 qy2 => ?_)
  have h := h y2 qy2
  refine go_istore_n (L2 := [(0, .int y2)]) dJ6_bitCount_0f7a4_23 (by decide) rfl ?_
  refine go_iload_n dJ6_bitCount_0f7a4_24 0 rfl ?_
  refine go_iload_n dJ6_bitCount_0f7a4_25 0 rfl ?_
  refine go_iconst (v := 4) dJ6_bitCount_0f7a4_26 (by decide) ?_
  refine go_iushr dJ6_bitCount_0f7a4_27 ?_
  refine go_iadd dJ6_bitCount_0f7a4_28 ?_
  refine go_ldcw kcJ6_267 dJ6_bitCount_0f7a4_29 ?_
  refine go_iand dJ6_bitCount_0f7a4_32 ?_
  refine go_topi (fun y3 qy3 => ?_)
  have h := h y3 qy3
  refine go_istore_n (L2 := [(0, .int y3)]) dJ6_bitCount_0f7a4_33 (by decide) rfl ?_
  refine go_iload_n dJ6_bitCount_0f7a4_34 0 rfl ?_
  refine go_iload_n dJ6_bitCount_0f7a4_35 0 rfl ?_
  refine go_bipush (v := 8) dJ6_bitCount_0f7a4_36 (by decide) ?_
  refine go_iushr dJ6_bitCount_0f7a4_38 ?_
  refine go_iadd dJ6_bitCount_0f7a4_39 ?_
  refine go_topi (fun y4 qy4 => ?_)
  have h := h y4 qy4
  refine go_istore_n (L2 := [(0, .int y4)]) dJ6_bitCount_0f7a4_40 (by decide) rfl ?_
  refine go_iload_n dJ6_bitCount_0f7a4_41 0 rfl ?_
  refine go_iload_n dJ6_bitCount_0f7a4_42 0 rfl ?_
  refine go_bipush (v := 16) dJ6_bitCount_0f7a4_43 (by decide) ?_
  refine go_iushr dJ6_bitCount_0f7a4_45 ?_
  refine go_iadd dJ6_bitCount_0f7a4_46 ?_
  refine go_topi (fun y5 qy5 => ?_)
  have h := h y5 qy5
  refine go_istore_n (L2 := [(0, .int y5)]) dJ6_bitCount_0f7a4_47 (by decide) rfl ?_
  refine go_iload_n dJ6_bitCount_0f7a4_48 0 rfl ?_
  refine go_bipush (v := 63) dJ6_bitCount_0f7a4_49 (by decide) ?_
  refine go_iand dJ6_bitCount_0f7a4_51 ?_
  exact go_iret rfl dJ6_bitCount_0f7a4_52 h

set_option maxRecDepth 100000 in
theorem sX0_goesOn_0 {G : GX} {d : Nat} {mem : Mem} {Φ : Option Value → Mem → Prop} (b : Nat) (hB : BeamAt b) (a1 : Int32) (h : (vp_in a1 5) ∧ (((mem (b + 1) (a1 : Int32).toNatClampNeg) = 3 → Φ (some (.int 0)) mem) ∧ (¬ (mem (b + 1) (a1 : Int32).toNatClampNeg) = 3 → (((2 * (mem (b + 3) (a1 : Int32).toNatClampNeg)) < (mem (b + 2) (a1 : Int32).toNatClampNeg) → Φ (some (.int 0)) mem) ∧ (¬ (2 * (mem (b + 3) (a1 : Int32).toNatClampNeg)) < (mem (b + 2) (a1 : Int32).toNatClampNeg) → Φ (some (.int 1)) mem))))) : Go G (d + 0) mX0_goesOn 0 [(0, .ref b), (1, .int a1)] [] mem Φ := by
  refine go_aload_n dX0_goesOn_0 0 rfl ?_
  refine go_getR (kf := 0) (t := (b + 1)) hB.1 rfl rfl uwX0 (by decide) flX0_9 dX0_goesOn_1 ?_
  refine go_iload_n dX0_goesOn_4 1 rfl ?_
  obtain ⟨c1, h⟩ := h
  refine go_iaload hB.2.1 c1 dX0_goesOn_5 ?_
  refine go_iconst (v := 3) dX0_goesOn_6 (by decide) ?_
  refine go_icmp_eq 31 dX0_goesOn_7 (by decide) (fun q => ?_) (fun q => ?_)
  · have h := h.1 q
    refine go_iconst (v := 0) dX0_goesOn_31 (by decide) ?_
    exact go_zret (ty := .boolean) rfl rfl dX0_goesOn_32 h
  · have h := h.2 q
    refine go_iconst (v := 2) dX0_goesOn_10 (by decide) ?_
    refine go_aload_n dX0_goesOn_11 0 rfl ?_
    refine go_getR (kf := 2) (t := (b + 3)) hB.1 rfl rfl uwX0 (by decide) flX0_18 dX0_goesOn_12 ?_
    refine go_iload_n dX0_goesOn_15 1 rfl ?_
    refine go_iaload hB.2.2.2.1 c1 dX0_goesOn_16 ?_
    refine go_imul dX0_goesOn_17 ?_
    refine go_aload_n dX0_goesOn_18 0 rfl ?_
    refine go_getR (kf := 1) (t := (b + 2)) hB.1 rfl rfl uwX0 (by decide) flX0_15 dX0_goesOn_19 ?_
    refine go_iload_n dX0_goesOn_22 1 rfl ?_
    refine go_iaload hB.2.2.1 c1 dX0_goesOn_23 ?_
    refine go_icmp_lt 31 dX0_goesOn_24 (by decide) (fun q => ?_) (fun q => ?_)
    · have h := h.1 q
      refine go_iconst (v := 0) dX0_goesOn_31 (by decide) ?_
      exact go_zret (ty := .boolean) rfl rfl dX0_goesOn_32 h
    · have h := h.2 q
      refine go_iconst (v := 1) dX0_goesOn_27 (by decide) ?_
      refine go_goto 32 dX0_goesOn_28 (by decide) ?_
      exact go_zret (ty := .boolean) rfl rfl dX0_goesOn_32 h

set_option maxRecDepth 100000 in
theorem sX0_shove_0 {G : GX} {d : Nat} {mem : Mem} {Φ : Option Value → Mem → Prop} (b : Nat) (hB : BeamAt b) (a1 : Int32) (a2 : Int32) (h : (vp_in a1 5) ∧ (((mem (b + 1) (a1 : Int32).toNatClampNeg) = 0 → Φ (some (.int (a2 * (mem b 5)))) mem) ∧ (¬ (mem (b + 1) (a1 : Int32).toNatClampNeg) = 0 → (((mem (b + 1) (a1 : Int32).toNatClampNeg) = 2 → Φ (some (.int ((a2 - 1) * (mem b 5)))) mem) ∧ (¬ (mem (b + 1) (a1 : Int32).toNatClampNeg) = 2 → Φ (some (.int ((a2 * (mem b 5)) / 2))) mem))))) : Go G (d + 0) mX0_shove 0 [(0, .ref b), (1, .int a1), (2, .int a2)] [] mem Φ := by
  refine go_aload_n dX0_shove_0 0 rfl ?_
  refine go_getR (kf := 0) (t := (b + 1)) hB.1 rfl rfl uwX0 (by decide) flX0_9 dX0_shove_1 ?_
  refine go_iload_n dX0_shove_4 1 rfl ?_
  obtain ⟨c1, h⟩ := h
  refine go_iaload hB.2.1 c1 dX0_shove_5 ?_
  by_cases q0 : (mem (b + 1) (a1 : Int32).toNatClampNeg) = 0
  · have h := h.1 q0
    refine go_lookEq q0 32 dX0_shove_6 (by decide) rfl (by decide) ?_
    refine go_iload_n dX0_shove_32 2 rfl ?_
    refine go_aload_n dX0_shove_33 0 rfl ?_
    refine go_getI (kf := 5) hB.1 rfl rfl uwX0 (by decide) flX0_24 dX0_shove_34 ?_
    refine go_imul dX0_shove_37 ?_
    exact go_iret rfl dX0_shove_38 h
  have h := h.2 q0
  by_cases q2 : (mem (b + 1) (a1 : Int32).toNatClampNeg) = 2
  · have h := h.1 q2
    refine go_lookEq q2 39 dX0_shove_6 (by decide) rfl (by decide) ?_
    refine go_iload_n dX0_shove_39 2 rfl ?_
    refine go_iconst (v := 1) dX0_shove_40 (by decide) ?_
    refine go_isub dX0_shove_41 ?_
    refine go_aload_n dX0_shove_42 0 rfl ?_
    refine go_getI (kf := 5) hB.1 rfl rfl uwX0 (by decide) flX0_24 dX0_shove_43 ?_
    refine go_imul dX0_shove_46 ?_
    exact go_iret rfl dX0_shove_47 h
  have h := h.2 q2
  refine go_lookup (off := 42) 48 dX0_shove_6 (by decide) (by show Op.lookupswitch.offset [(0, 26), (2, 33)] _ _ = _; rw [lv_osw q0 (by decide), lv_osw q2 (by decide)]; rfl) (by decide) ?_
  refine go_iload_n dX0_shove_48 2 rfl ?_
  refine go_aload_n dX0_shove_49 0 rfl ?_
  refine go_getI (kf := 5) hB.1 rfl rfl uwX0 (by decide) flX0_24 dX0_shove_50 ?_
  refine go_imul dX0_shove_53 ?_
  refine go_iconst (v := 2) dX0_shove_54 (by decide) ?_
  refine go_idiv dX0_shove_55 (by decide) ?_
  exact go_iret rfl dX0_shove_56 h


theorem nlt32 {a b : Int32} (h : ¬ a < b) : b ≤ a := Int32.not_lt.mp h
theorem nle32 {a b : Int32} (h : ¬ a ≤ b) : b < a := Int32.not_le.mp h
theorem ltn {a b : Int32} (h : a < b) : ¬ b ≤ a := Int32.not_le.mpr h
theorem len_ (b a c : Int32) (h : a ≤ b) : ¬ b < a := Int32.not_lt.mpr h
theorem kX5_isWithin {G : GX} (d : Nat) {mem : Mem} (v lo hi : Int32) : Cn G (d + 0) mX5_isWithin [.int v, .int lo, .int hi] mem (Ri (bI (lo ≤ v ∧ v ≤ hi)) (fun m2 => m2 = mem)) := by
  refine cn_of (by decide +kernel) (Nat.le_of_ble_eq_true rfl) (sX5_isWithin_0 v lo hi ⟨fun q => Ri.mk (bIf (fun z => ltn q z.1)).symm rfl, fun q => ⟨fun r => Ri.mk (bIf (fun z => ltn r z.2)).symm rfl, fun r => Ri.mk (bIt ⟨nlt32 q, nlt32 r⟩).symm rfl⟩⟩)
theorem kX5_isBitSet {G : GX} (d : Nat) {mem : Mem} (v i : Int32) : Cn G (d + 0) mX5_isBitSet [.int v, .int i] mem (Ri (bI (¬ ((v >>> (i &&& 31)) &&& 1) = 0)) (fun m2 => m2 = mem)) := by
  refine cn_of (by decide +kernel) (Nat.le_of_ble_eq_true rfl) (sX5_isBitSet_0 v i ⟨fun q => Ri.mk (bIf (fun z => z q)).symm rfl, fun q => Ri.mk (bIt q).symm rfl⟩)
theorem kX5_isSheet {G : GX} (d : Nat) {mem : Mem} (k : Int32) : Cn G (d + 0) mX5_isSheet [.int k] mem (Ri (bI (0 ≤ k ∧ k < 4)) (fun m2 => m2 = mem)) := by
  refine cn_of (by decide +kernel) (Nat.le_of_ble_eq_true rfl) (sX5_isSheet_0 k ⟨fun q => Ri.mk (bIf (fun z => ltn q z.1)).symm rfl, fun q => ⟨fun r => Ri.mk (bIf (fun z => absurd z.2 (Int32.not_lt.mpr r))).symm rfl, fun r => Ri.mk (bIt ⟨nlt32 q, nle32 r⟩).symm rfl⟩⟩)
theorem kX5_isClock {G : GX} (d : Nat) {mem : Mem} (c : Int32) : Cn G (d + 0) mX5_isClock [.ref 0, .int c] mem (Ri (bI (0 ≤ c ∧ c < mem 1 4)) (fun m2 => m2 = mem)) := by
  refine cn_of (by decide +kernel) (Nat.le_of_ble_eq_true rfl) (sX5_isClock_0 c ⟨fun q => Ri.mk (bIf (fun z => ltn q z.1)).symm rfl, fun q => ⟨fun r => Ri.mk (bIf (fun z => absurd z.2 (Int32.not_lt.mpr r))).symm rfl, fun r => Ri.mk (bIt ⟨nlt32 q, nle32 r⟩).symm rfl⟩⟩)
theorem kJ6_bitCount_0f7a4 {G : GX} (d : Nat) {mem : Mem} (x : Int32) : Cn G (d + 0) mJ6_bitCount_0f7a4 [.int x] mem (Ri (bcI x) (fun m2 => m2 = mem)) := by
  refine cn_of (by decide +kernel) (Nat.le_of_ble_eq_true rfl) (sJ6_bitCount_0f7a4_0 x ?_)
  intro y1 h1 y2 h2 y3 h3 y4 h4 y5 h5
  subst h1; subst h2; subst h3; subst h4; subst h5
  exact Ri.mk rfl rfl
theorem kX0_goesOn {G : GX} (d : Nat) {mem : Mem} (b : Nat) (hB : BeamAt b) (c : Int32) (hc : vp_in c 5) : Cn G (d + 0) mX0_goesOn [.ref b, .int c] mem (Ri (bI (¬ mem (b + 1) c.toNatClampNeg = 3 ∧ mem (b + 2) c.toNatClampNeg ≤ 2 * mem (b + 3) c.toNatClampNeg)) (fun m2 => m2 = mem)) := by
  refine cn_of (by decide +kernel) (Nat.le_of_ble_eq_true rfl) (sX0_goesOn_0 b hB c ⟨hc, fun q => Ri.mk (bIf (fun z => z.1 q)).symm rfl, fun q => ⟨fun r => Ri.mk (bIf (fun z => ltn r z.2)).symm rfl, fun r => Ri.mk (bIt ⟨q, nlt32 r⟩).symm rfl⟩⟩)
def shv (k m u : Int32) : Int32 := if k = 0 then m * u else if k = 2 then (m - 1) * u else m * u / 2
theorem kX0_shove {G : GX} (d : Nat) {mem : Mem} (b : Nat) (hB : BeamAt b) (c m : Int32) (hc : vp_in c 5) : Cn G (d + 0) mX0_shove [.ref b, .int c, .int m] mem (Ri (shv (mem (b + 1) c.toNatClampNeg) m (mem b 5)) (fun m2 => m2 = mem)) := by
  refine cn_of (by decide +kernel) (Nat.le_of_ble_eq_true rfl) (sX0_shove_0 b hB c m ⟨hc, fun q => Ri.mk ?_ rfl, fun q => ⟨fun r => Ri.mk ?_ rfl, fun r => Ri.mk ?_ rfl⟩⟩)
  · unfold shv; rw [if_pos q]
  · unfold shv; rw [if_neg q, if_pos r]
  · unfold shv; rw [if_neg q, if_neg r]
theorem shv_n : ∀ k, k < 4 → ∀ m, m < 6 → ∀ u, u < 6 → 1 ≤ m → shv (nI k) (nI m) (nI u) = nI (shvN k m u) := by decide +kernel
theorem shvN_le : ∀ k, k < 4 → ∀ m, m < 6 → ∀ u, u < 6 → shvN k m u ≤ 25 := by decide +kernel
theorem sub_max {h y : Nat} (hh : h < 1000000) (hy : y < 1000000) : (if nI h - nI y < 0 then (0 : Int32) else nI h - nI y) = nI (h - y) := by
  by_cases q : h < y
  · rw [if_pos (pk_sneg (by omega) q), show h - y = 0 by omega, nI_0]
  · rw [pk_sub (by omega), if_neg (nI_pos (by omega))]
theorem shN_if {k p h m u : Nat} (hk : k ≤ 3) (hp : 2 ≤ p) (hp2 : p ≤ 30) (hh : h < 1000000) (hm : 1 ≤ m) (hm2 : m ≤ 5) (hu : u ≤ 5) :
    ((¬ (¬ nI k = 3 ∧ nI p ≤ 2 * nI h)) → (if nI h - shv (nI k) (nI m) (nI u) < 0 then (0 : Int32) else nI h - shv (nI k) (nI m) (nI u)) = nI (shN k p h m u)) ∧ ((¬ nI k = 3 ∧ nI p ≤ 2 * nI h) → (if nI p - 1 < nI h + shv (nI k) (nI m) (nI u) then nI p - 1 else nI h + shv (nI k) (nI m) (nI u)) = nI (shN k p h m u)) := by
  have hs := shvN_le k (by omega) m (by omega) u (by omega)
  rw [shv_n k (by omega) m (by omega) u (by omega) hm]
  generalize hy : shvN k m u = y at hs ⊢
  have e3 : nI k = 3 ↔ k = 3 := by rw [show (3 : Int32) = nI 3 from rfl]; exact neq (by omega) (by omega)
  have e2 : nI p ≤ 2 * nI h ↔ p ≤ 2 * h := by rw [show (2 : Int32) = nI 2 from rfl, pk_mul]; exact nle (by omega) (by omega)
  rw [e3, e2]
  have hq : ∀ z : Nat, shvN k m u = z → shN k p h m u = if k ≠ 3 ∧ p ≤ 2 * h then (if p - 1 < h + z then p - 1 else h + z) else h - z := fun z hz => by subst hz; rfl
  rw [hq y hy]
  refine ⟨fun q => ?_, fun q => ?_⟩
  · rw [if_neg q]
    exact sub_max hh (by omega)
  · rw [if_pos q, show nI p - 1 = nI (p - 1) from by rw [show (1 : Int32) = nI 1 from rfl, pk_sub (by omega)], nI_add]
    by_cases z : p - 1 < h + y
    · rw [if_pos z, if_pos ((nlt (by omega) (by omega)).mpr z)]
    · rw [if_neg z, if_neg (fun w => z ((nlt (by omega) (by omega)).mp w))]

set_option maxRecDepth 100000 in
theorem sX0_shift_0 {G : GX} {d : Nat} {mem : Mem} {Φ : Option Value → Mem → Prop} (b : Nat) (hB : BeamAt b) (a1 : Int32) (a2 : Int32) (h : (vp_in a1 5) ∧ ∀ y2 : Int32, y2 = (shv (mem (b + 1) (a1 : Int32).toNatClampNeg) a2 (mem b 5)) → ((¬ (¬ mem (b + 1) (a1 : Int32).toNatClampNeg = 3 ∧ mem (b + 2) (a1 : Int32).toNatClampNeg ≤ 2 * mem (b + 3) (a1 : Int32).toNatClampNeg) → ∀ m3 : Mem, m3 = (um mem (b + 3) (a1 : Int32).toNatClampNeg (if ((mem (b + 3) (a1 : Int32).toNatClampNeg) - y2) < 0 then 0 else ((mem (b + 3) (a1 : Int32).toNatClampNeg) - y2))) → Φ none m3) ∧ (¬ mem (b + 1) (a1 : Int32).toNatClampNeg = 3 ∧ mem (b + 2) (a1 : Int32).toNatClampNeg ≤ 2 * mem (b + 3) (a1 : Int32).toNatClampNeg → ∀ m4 : Mem, m4 = (um mem (b + 3) (a1 : Int32).toNatClampNeg (if ((mem (b + 2) (a1 : Int32).toNatClampNeg) - 1) < ((mem (b + 3) (a1 : Int32).toNatClampNeg) + y2) then ((mem (b + 2) (a1 : Int32).toNatClampNeg) - 1) else ((mem (b + 3) (a1 : Int32).toNatClampNeg) + y2))) → Φ none m4))) : Go G (d + 1) mX0_shift 0 [(0, .ref b), (1, .int a1), (2, .int a2)] [] mem Φ := by
  refine go_aload_n dX0_shift_0 0 rfl ?_
  refine go_iload_n dX0_shift_1 1 rfl ?_
  refine go_iload_n dX0_shift_2 2 rfl ?_
  obtain ⟨c1, h⟩ := h
  refine go_callV (st := []) (kX0_shove (d + 0) b hB a1 a2 c1) hB.1 rfl okX0_shove insX0_shove selX0_shove lkX0_48 rfl rfl (Nat.le_of_ble_eq_true rfl) dX0_shift_3 (fun v m2 q => ?_)
  rw [q.1, q.2]
  refine go_stk (st2 := [.int (shv (mem (b + 1) (a1 : Int32).toNatClampNeg) a2 (mem b 5))]) rfl ?_
  refine go_topi (fun y2 qy2 => ?_)
  have h := h y2 qy2
  refine go_istore_n (L2 := [(3, .int y2), (0, .ref b), (1, .int a1), (2, .int a2)]) dX0_shift_6 (by decide) rfl ?_
  refine go_aload_n dX0_shift_7 1 rfl ?_
  refine go_getR (kf := 2) (t := (b + 3)) hB.1 rfl rfl uwX0 (by decide) flX0_18 dX0_shift_8 ?_
  refine go_iload_n dX0_shift_11 2 rfl ?_
  refine go_aload_n dX0_shift_12 1 rfl ?_
  refine go_iload_n dX0_shift_13 2 rfl ?_
  refine go_callV (st := [.int a1, .ref (b + 3)]) (kX0_goesOn (d + 0) b hB a1 c1) hB.1 rfl okX0_goesOn insX0_goesOn selX0_goesOn lkX0_51 rfl rfl (Nat.le_of_ble_eq_true rfl) dX0_shift_14 (fun v m2 q => ?_)
  rw [q.1, q.2]
  refine go_stk (st2 := [.int (bI (¬ mem (b + 1) (a1 : Int32).toNatClampNeg = 3 ∧ mem (b + 2) (a1 : Int32).toNatClampNeg ≤ 2 * mem (b + 3) (a1 : Int32).toNatClampNeg)), .int a1, .ref (b + 3)]) rfl ?_
  refine go_if_eq 42 dX0_shift_17 (by decide) (fun q => ?_) (fun q => ?_)
  · have h := h.1 (bI0.mp q)
    refine go_aload_n dX0_shift_42 1 rfl ?_
    refine go_getR (kf := 2) (t := (b + 3)) hB.1 rfl rfl uwX0 (by decide) flX0_18 dX0_shift_43 ?_
    refine go_iload_n dX0_shift_46 2 rfl ?_
    refine go_iaload hB.2.2.2.1 c1 dX0_shift_47 ?_
    refine go_iload_n dX0_shift_48 0 rfl ?_
    refine go_isub dX0_shift_49 ?_
    refine go_iconst (v := 0) dX0_shift_50 (by decide) ?_
    refine go_mmax lkX0_60 (Nat.le_of_ble_eq_true rfl) dX0_shift_51 ?_
    refine go_iastore hB.2.2.2.1 c1 dX0_shift_54 ?_
    refine go_mem (fun m3 qm3 => ?_)
    have h := h m3 qm3
    exact go_vret rfl dX0_shift_55 h
  · have h := h.2 (bI1.mp q)
    refine go_aload_n dX0_shift_20 1 rfl ?_
    refine go_getR (kf := 2) (t := (b + 3)) hB.1 rfl rfl uwX0 (by decide) flX0_18 dX0_shift_21 ?_
    refine go_iload_n dX0_shift_24 2 rfl ?_
    refine go_iaload hB.2.2.2.1 c1 dX0_shift_25 ?_
    refine go_iload_n dX0_shift_26 0 rfl ?_
    refine go_iadd dX0_shift_27 ?_
    refine go_aload_n dX0_shift_28 1 rfl ?_
    refine go_getR (kf := 1) (t := (b + 2)) hB.1 rfl rfl uwX0 (by decide) flX0_15 dX0_shift_29 ?_
    refine go_iload_n dX0_shift_32 2 rfl ?_
    refine go_iaload hB.2.2.1 c1 dX0_shift_33 ?_
    refine go_iconst (v := 1) dX0_shift_34 (by decide) ?_
    refine go_isub dX0_shift_35 ?_
    refine go_mmin lkX0_55 (Nat.le_of_ble_eq_true rfl) dX0_shift_36 ?_
    refine go_goto 54 dX0_shift_39 (by decide) ?_
    refine go_iastore hB.2.2.2.1 c1 dX0_shift_54 ?_
    refine go_mem (fun m4 qm4 => ?_)
    have h := h m4 qm4
    exact go_vret rfl dX0_shift_55 h


theorem kX0_shift {G : GX} (d : Nat) {mem : Mem} (b : Nat) (hB : BeamAt b) (c m k p h u : Nat) (hc : c < 5) (hv : k ≤ 3 ∧ 2 ≤ p ∧ p ≤ 30 ∧ h < 1000000 ∧ 1 ≤ m ∧ m ≤ 5 ∧ u ≤ 5) (e1 : mem (b + 1) c = nI k) (e2 : mem (b + 2) c = nI p) (e3 : mem (b + 3) c = nI h) (e4 : mem b 5 = nI u) : Cn G (d + 1) mX0_shift [.ref b, .int (nI c), .int (nI m)] mem (Rv (fun m2 => m2 = um mem (b + 3) c (nI (shN k p h m u)))) := by
  refine cn_of (by decide +kernel) (Nat.le_of_ble_eq_true rfl) (sX0_shift_0 b hB (nI c) (nI m) ?_)
  rw [ncl (show c < 2000000000 by omega), e1, e2, e3, e4]
  refine ⟨nin hc (by omega), fun y2 hy => ?_⟩
  obtain ⟨h1, h2, h3, h4, h5, h6, h7⟩ := hv
  have hs := shN_if (k := k) (p := p) (h := h) (m := m) (u := u) h1 h2 h3 h4 h5 h6 h7
  subst hy
  refine ⟨fun q m3 hm3 => ⟨rfl, ?_⟩, fun q m3 hm3 => ⟨rfl, ?_⟩⟩
  · rw [hm3, hs.1 q]
  · rw [hm3, hs.2 q]

set_option maxRecDepth 100000 in
theorem sX0_moveHands_0 {G : GX} {d : Nat} {mem : Mem} {Φ : Option Value → Mem → Prop} (b : Nat) (hB : BeamAt b) (h : Go G (d + 0) mX0_moveHands 4 [(0, .ref b), (1, .int 0), (2, .int 0)] [] mem Φ) : Go G (d + 0) mX0_moveHands 0 [(0, .ref b)] [] mem Φ := by
  refine go_iconst (v := 0) dX0_moveHands_0 (by decide) ?_
  refine go_istore_n (L2 := [(1, .int 0), (0, .ref b)]) dX0_moveHands_1 (by decide) rfl ?_
  refine go_iconst (v := 0) dX0_moveHands_2 (by decide) ?_
  refine go_istore_n (L2 := [(2, .int 0), (1, .int 0), (0, .ref b)]) dX0_moveHands_3 (by decide) rfl ?_
  exact Go.pick [2, 1, 0] rfl h

set_option maxRecDepth 100000 in
theorem sX0_moveHands_4 {G : GX} {d : Nat} {mem : Mem} {Φ : Option Value → Mem → Prop} (b : Nat) (hB : BeamAt b) (w i : Nat) (h : (((mem b 4) ≤ (nI i) → Φ (some (.int (nI w))) mem) ∧ (¬ (mem b 4) ≤ (nI i) → (vp_in (nI i) 5) ∧ ∀ m2 : Mem, m2 = (um mem (b + 3) ((nI i) : Int32).toNatClampNeg ((mem (b + 3) ((nI i) : Int32).toNatClampNeg) + 1)) → (((m2 (b + 3) ((nI i) : Int32).toNatClampNeg) < (m2 (b + 2) ((nI i) : Int32).toNatClampNeg) → Go G (d + 0) mX0_moveHands 4 [(0, .ref b), (1, .int (nI w)), (2, .int ((nI i) + 1))] [] m2 Φ) ∧ (¬ (m2 (b + 3) ((nI i) : Int32).toNatClampNeg) < (m2 (b + 2) ((nI i) : Int32).toNatClampNeg) → ∀ m3 : Mem, m3 = (um m2 (b + 3) ((nI i) : Int32).toNatClampNeg 0) → ∀ m4 : Mem, m4 = (um m3 (b + 4) ((nI i) : Int32).toNatClampNeg ((m3 (b + 4) ((nI i) : Int32).toNatClampNeg) + 1)) → ∀ y5 : Int32, y5 = ((nI w) ||| (1 <<< ((nI i) &&& 31))) → Go G (d + 0) mX0_moveHands 4 [(0, .ref b), (1, .int y5), (2, .int ((nI i) + 1))] [] m4 Φ))))) : Go G (d + 0) mX0_moveHands 4 [(0, .ref b), (1, .int (nI w)), (2, .int (nI i))] [] mem Φ := by
  refine go_iload_n dX0_moveHands_4 2 rfl ?_
  refine go_aload_n dX0_moveHands_5 0 rfl ?_
  refine go_getI (kf := 4) hB.1 rfl rfl uwX0 (by decide) flX0_28 dX0_moveHands_6 ?_
  refine go_icmp_ge 66 dX0_moveHands_9 (by decide) (fun q => ?_) (fun q => ?_)
  · have h := h.1 q
    refine go_iload_n dX0_moveHands_66 1 rfl ?_
    exact go_iret rfl dX0_moveHands_67 h
  · have h := h.2 q
    refine go_aload_n dX0_moveHands_12 0 rfl ?_
    refine go_getR (kf := 2) (t := (b + 3)) hB.1 rfl rfl uwX0 (by decide) flX0_18 dX0_moveHands_13 ?_
    refine go_iload_n dX0_moveHands_16 2 rfl ?_
    refine go_dup2 dX0_moveHands_17 rfl rfl ?_
    obtain ⟨c1, h⟩ := h
    refine go_iaload hB.2.2.2.1 c1 dX0_moveHands_18 ?_
    refine go_iconst (v := 1) dX0_moveHands_19 (by decide) ?_
    refine go_iadd dX0_moveHands_20 ?_
    refine go_iastore hB.2.2.2.1 c1 dX0_moveHands_21 ?_
    refine go_mem (fun m2 qm2 => ?_)
    have h := h m2 qm2
    refine go_aload_n dX0_moveHands_22 0 rfl ?_
    refine go_getR (kf := 2) (t := (b + 3)) hB.1 rfl rfl uwX0 (by decide) flX0_18 dX0_moveHands_23 ?_
    refine go_iload_n dX0_moveHands_26 2 rfl ?_
    refine go_iaload hB.2.2.2.1 c1 dX0_moveHands_27 ?_
    refine go_aload_n dX0_moveHands_28 0 rfl ?_
    refine go_getR (kf := 1) (t := (b + 2)) hB.1 rfl rfl uwX0 (by decide) flX0_15 dX0_moveHands_29 ?_
    refine go_iload_n dX0_moveHands_32 2 rfl ?_
    refine go_iaload hB.2.2.1 c1 dX0_moveHands_33 ?_
    refine go_icmp_lt 60 dX0_moveHands_34 (by decide) (fun q => ?_) (fun q => ?_)
    · have h := h.1 q
      refine go_iinc (v := ((nI i) + 1)) (L2 := [(2, .int ((nI i) + 1)), (0, .ref b), (1, .int (nI w))]) dX0_moveHands_60 2 rfl rfl (by decide) rfl ?_
      refine go_goto 4 dX0_moveHands_63 (by decide) ?_
      exact Go.pick [1, 2, 0] rfl h
    · have h := h.2 q
      refine go_aload_n dX0_moveHands_37 0 rfl ?_
      refine go_getR (kf := 2) (t := (b + 3)) hB.1 rfl rfl uwX0 (by decide) flX0_18 dX0_moveHands_38 ?_
      refine go_iload_n dX0_moveHands_41 2 rfl ?_
      refine go_iconst (v := 0) dX0_moveHands_42 (by decide) ?_
      refine go_iastore hB.2.2.2.1 c1 dX0_moveHands_43 ?_
      refine go_mem (fun m3 qm3 => ?_)
      have h := h m3 qm3
      refine go_aload_n dX0_moveHands_44 0 rfl ?_
      refine go_getR (kf := 3) (t := (b + 4)) hB.1 rfl rfl uwX0 (by decide) flX0_21 dX0_moveHands_45 ?_
      refine go_iload_n dX0_moveHands_48 2 rfl ?_
      refine go_dup2 dX0_moveHands_49 rfl rfl ?_
      refine go_iaload hB.2.2.2.2 c1 dX0_moveHands_50 ?_
      refine go_iconst (v := 1) dX0_moveHands_51 (by decide) ?_
      refine go_iadd dX0_moveHands_52 ?_
      refine go_iastore hB.2.2.2.2 c1 dX0_moveHands_53 ?_
      refine go_mem (fun m4 qm4 => ?_)
      have h := h m4 qm4
      refine go_iload_n dX0_moveHands_54 1 rfl ?_
      refine go_iconst (v := 1) dX0_moveHands_55 (by decide) ?_
      refine go_iload_n dX0_moveHands_56 2 rfl ?_
      refine go_ishl dX0_moveHands_57 ?_
      refine go_ior dX0_moveHands_58 ?_
      refine go_topi (fun y5 qy5 => ?_)
      have h := h y5 qy5
      refine go_istore_n (L2 := [(1, .int y5), (0, .ref b), (2, .int (nI i))]) dX0_moveHands_59 (by decide) rfl ?_
      refine go_iinc (v := ((nI i) + 1)) (L2 := [(2, .int ((nI i) + 1)), (1, .int y5), (0, .ref b)]) dX0_moveHands_60 2 rfl rfl (by decide) rfl ?_
      refine go_goto 4 dX0_moveHands_63 (by decide) ?_
      exact Go.pick [2, 1, 0] rfl h

set_option maxRecDepth 100000 in
theorem sX0_shake_0 {G : GX} {d : Nat} {mem : Mem} {Φ : Option Value → Mem → Prop} (b : Nat) (hB : BeamAt b) (w : Nat) (h : ∀ y1 : Int32, y1 = (bcI (nI w)) → Go G (d + 2) mX0_shake 7 [(0, .ref b), (1, .int (nI w)), (2, .int y1), (3, .int 0)] [] mem Φ) : Go G (d + 2) mX0_shake 0 [(0, .ref b), (1, .int (nI w))] [] mem Φ := by
  refine go_iload_n dX0_shake_0 1 rfl ?_
  refine go_callS (st := []) (kJ6_bitCount_0f7a4 (d + 1) (nI w)) okJ6_bitCount_0f7a4 staJ6_bitCount_0f7a4 lkX0_71 rfl rfl (Nat.le_of_ble_eq_true rfl) dX0_shake_1 (fun v m2 q => ?_)
  rw [q.1, q.2]
  refine go_stk (st2 := [.int (bcI (nI w))]) rfl ?_
  refine go_topi (fun y1 qy1 => ?_)
  have h := h y1 qy1
  refine go_istore_n (L2 := [(2, .int y1), (0, .ref b), (1, .int (nI w))]) dX0_shake_4 (by decide) rfl ?_
  refine go_iconst (v := 0) dX0_shake_5 (by decide) ?_
  refine go_istore_n (L2 := [(3, .int 0), (2, .int y1), (0, .ref b), (1, .int (nI w))]) dX0_shake_6 (by decide) rfl ?_
  exact Go.pick [2, 3, 1, 0] rfl h

set_option maxRecDepth 100000 in
theorem sX0_shake_7 {G : GX} {d : Nat} {mem : Mem} {Φ : Option Value → Mem → Prop} (b : Nat) (hB : BeamAt b) (w m i kk pp hh uu : Nat) (h : (((mem b 4) ≤ (nI i) → Φ none mem) ∧ (¬ (mem b 4) ≤ (nI i) → ((¬ (((nI w) >>> ((nI i) &&& 31)) &&& 1) = 0 → Go G (d + 2) mX0_shake 7 [(0, .ref b), (1, .int (nI w)), (2, .int (nI m)), (3, .int ((nI i) + 1))] [] mem Φ) ∧ (¬ (¬ (((nI w) >>> ((nI i) &&& 31)) &&& 1) = 0) → (i < 5) ∧ (kk ≤ 3 ∧ 2 ≤ pp ∧ pp ≤ 30 ∧ hh < 1000000 ∧ 1 ≤ m ∧ m ≤ 5 ∧ uu ≤ 5) ∧ (mem (b + 1) i = nI kk) ∧ (mem (b + 2) i = nI pp) ∧ (mem (b + 3) i = nI hh) ∧ (mem b 5 = nI uu) ∧ Go G (d + 2) mX0_shake 7 [(0, .ref b), (1, .int (nI w)), (2, .int (nI m)), (3, .int ((nI i) + 1))] [] (um mem (b + 3) i (nI (shN kk pp hh m uu))) Φ))))) : Go G (d + 2) mX0_shake 7 [(0, .ref b), (1, .int (nI w)), (2, .int (nI m)), (3, .int (nI i))] [] mem Φ := by
  refine go_iload_n dX0_shake_7 3 rfl ?_
  refine go_aload_n dX0_shake_8 0 rfl ?_
  refine go_getI (kf := 4) hB.1 rfl rfl uwX0 (by decide) flX0_28 dX0_shake_9 ?_
  refine go_icmp_ge 35 dX0_shake_12 (by decide) (fun q => ?_) (fun q => ?_)
  · have h := h.1 q
    exact go_vret rfl dX0_shake_35 h
  · have h := h.2 q
    refine go_iload_n dX0_shake_15 1 rfl ?_
    refine go_iload_n dX0_shake_16 3 rfl ?_
    refine go_callSN (st := []) (kX5_isBitSet (d + 1) (nI w) (nI i)) okX5_isBitSet staX5_isBitSet (fun U h => h.2.1) rfl rfl (Nat.le_of_ble_eq_true rfl) dX0_shake_17 (fun v m2 q => ?_)
    rw [q.1, q.2]
    refine go_stk (st2 := [.int (bI (¬ (((nI w) >>> ((nI i) &&& 31)) &&& 1) = 0))]) rfl ?_
    refine go_if_ne 29 dX0_shake_20 (by decide) (fun q => ?_) (fun q => ?_)
    · have h := h.1 (bI1.mp q)
      refine go_iinc (v := ((nI i) + 1)) (L2 := [(3, .int ((nI i) + 1)), (0, .ref b), (1, .int (nI w)), (2, .int (nI m))]) dX0_shake_29 3 rfl rfl (by decide) rfl ?_
      refine go_goto 7 dX0_shake_32 (by decide) ?_
      exact Go.pick [1, 2, 3, 0] rfl h
    · have h := h.2 (bI0.mp q)
      refine go_aload_n dX0_shake_23 0 rfl ?_
      refine go_iload_n dX0_shake_24 3 rfl ?_
      refine go_iload_n dX0_shake_25 2 rfl ?_
      obtain ⟨c1, h⟩ := h
      obtain ⟨c2, h⟩ := h
      obtain ⟨c3, h⟩ := h
      obtain ⟨c4, h⟩ := h
      obtain ⟨c5, h⟩ := h
      obtain ⟨c6, h⟩ := h
      refine go_callV (st := []) (kX0_shift (d + 0) b hB i m kk pp hh uu c1 c2 c3 c4 c5 c6) hB.1 rfl okX0_shift insX0_shift selX0_shift lkX0_81 rfl rfl (Nat.le_of_ble_eq_true rfl) dX0_shake_26 (fun v m2 q => ?_)
      rw [q.1, q.2]
      refine go_stk (st2 := []) rfl ?_
      refine go_iinc (v := ((nI i) + 1)) (L2 := [(3, .int ((nI i) + 1)), (0, .ref b), (1, .int (nI w)), (2, .int (nI m))]) dX0_shake_29 3 rfl rfl (by decide) rfl ?_
      refine go_goto 7 dX0_shake_32 (by decide) ?_
      exact Go.pick [1, 2, 3, 0] rfl h
