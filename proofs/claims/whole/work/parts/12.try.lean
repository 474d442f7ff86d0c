set_option maxRecDepth 100000 in
theorem sX5_isWithin_0 {G : GX} {d : Nat} {mem : Mem} {Φ : Option Value → Mem → Prop} (a0 : Int32) (a1 : Int32) (a2 : Int32) (h : ((a0 < a1 → Φ (some (.int 0)) mem) ∧ (¬ a0 < a1 → ((a2 < a0 → Φ (some (.int 0)) mem) ∧ (¬ a2 < a0 → Φ (some (.int 1)) mem))))) : Go G (d + 0) mX5_isWithin 0 [(0, .int a0), (1, .int a1), (2, .int a2)] [] mem Φ := by
  refine go_iload_n dX5_isWithin_0 0 rfl ?_
  refine go_iload_n dX5_isWithin_1 1 rfl ?_
  refine go_icmp_lt 14 dX5_isWithin_2 (by decide) (fun q => ?_) (fun q => ?_)
  · have h := h.1 q
    refine go_iconst (v := 0) dX5_isWithin_14 (by decide) ?_
    exact go_zret (ty := .boolean) rfl rfl dX5_isWithin_15 h
  · have h := h.2 q
    refine go_iload_n dX5_isWithin_5 0 rfl ?_
    refine go_iload_n dX5_isWithin_6 2 rfl ?_
    refine go_icmp_gt 14 dX5_isWithin_7 (by decide) (fun q => ?_) (fun q => ?_)
    · have h := h.1 q
      refine go_iconst (v := 0) dX5_isWithin_14 (by decide) ?_
      exact go_zret (ty := .boolean) rfl rfl dX5_isWithin_15 h
    · have h := h.2 q
      refine go_iconst (v := 1) dX5_isWithin_10 (by decide) ?_
      refine go_goto 15 dX5_isWithin_11 (by decide) ?_
      exact go_zret (ty := .boolean) rfl rfl dX5_isWithin_15 h

set_option maxRecDepth 100000 in
theorem sJ9_max_7cf53_0 {G : GX} {d : Nat} {mem : Mem} {Φ : Option Value → Mem → Prop} (a0 : Int32) (a1 : Int32) (h : ((a0 < a1 → Φ (some (.int a1)) mem) ∧ (¬ a0 < a1 → Φ (some (.int a0)) mem))) : Go G (d + 0) mJ9_max_7cf53 0 [(0, .int a0), (1, .int a1)] [] mem Φ := by
  refine go_iload_n dJ9_max_7cf53_0 0 rfl ?_
  refine go_iload_n dJ9_max_7cf53_1 1 rfl ?_
  refine go_icmp_lt 9 dJ9_max_7cf53_2 (by decide) (fun q => ?_) (fun q => ?_)
  · have h := h.1 q
    refine go_iload_n dJ9_max_7cf53_9 1 rfl ?_
    exact go_iret rfl dJ9_max_7cf53_10 h
  · have h := h.2 q
    refine go_iload_n dJ9_max_7cf53_5 0 rfl ?_
    refine go_goto 10 dJ9_max_7cf53_6 (by decide) ?_
    exact go_iret rfl dJ9_max_7cf53_10 h

set_option maxRecDepth 100000 in
theorem sJ9_min_7cf53_0 {G : GX} {d : Nat} {mem : Mem} {Φ : Option Value → Mem → Prop} (a0 : Int32) (a1 : Int32) (h : ((a1 < a0 → Φ (some (.int a1)) mem) ∧ (¬ a1 < a0 → Φ (some (.int a0)) mem))) : Go G (d + 0) mJ9_min_7cf53 0 [(0, .int a0), (1, .int a1)] [] mem Φ := by
  refine go_iload_n dJ9_min_7cf53_0 0 rfl ?_
  refine go_iload_n dJ9_min_7cf53_1 1 rfl ?_
  refine go_icmp_gt 9 dJ9_min_7cf53_2 (by decide) (fun q => ?_) (fun q => ?_)
  · have h := h.1 q
    refine go_iload_n dJ9_min_7cf53_9 1 rfl ?_
    exact go_iret rfl dJ9_min_7cf53_10 h
  · have h := h.2 q
    refine go_iload_n dJ9_min_7cf53_5 0 rfl ?_
    refine go_goto 10 dJ9_min_7cf53_6 (by decide) ?_
    exact go_iret rfl dJ9_min_7cf53_10 h

set_option maxRecDepth 100000 in
theorem sX0_goesOn_0 {G : GX} {d : Nat} {mem : Mem} {Φ : Option Value → Mem → Prop} (b : Nat) (hB : BeamAt b) (a1 : Int32) (h : (vp_in a1 5) ∧ (((mem (b + 1) (a1 : Int32).toNatClampNeg) = 3 → Φ (some (.int 0)) mem) ∧ (¬ (mem (b + 1) (a1 : Int32).toNatClampNeg) = 3 → (((2 * (mem (b + 3) (a1 : Int32).toNatClampNeg)) < (mem (b + 2) (a1 : Int32).toNatClampNeg) → Φ (some (.int 0)) mem) ∧ (¬ (2 * (mem (b + 3) (a1 : Int32).toNatClampNeg)) < (mem (b + 2) (a1 : Int32).toNatClampNeg) → Φ (some (.int 1)) mem))))) : Go G (d + 0) mX0_goesOn 0 [(0, .ref b), (1, .int a1)] [] mem Φ := by
  refine go_aload_n dX0_goesOn_0 0 rfl ?_
  refine go_getR (kf := 0) (t := (b + 1)) hB.1 rfl rfl uwX0 (by decide) flX0_9 dX0_goesOn_1 ?_
  refine go_iload_n dX0_goesOn_4 1 rfl ?_
  obtain ⟨c1, h⟩ := h
  refine go_iaload hB.2.1 c1 dX0_goesOn_5 ?_
  refine go_iconst (v := 3) dX0_goesOn_6 (by decide) ?_
  refine go_icmp_eq 31 dX0_goesOn_7 (by decide) (fun q => ?_) (fun q => ?_)
  · have h := h.1 q
    refine go_iconst (v := 0) dX0_goesOn_31 (by decide) ?_
    exact go_zret (ty := .boolean) rfl rfl dX0_goesOn_32 h
  · have h := h.2 q
    refine go_iconst (v := 2) dX0_goesOn_10 (by decide) ?_
    refine go_aload_n dX0_goesOn_11 0 rfl ?_
    refine go_getR (kf := 2) (t := (b + 3)) hB.1 rfl rfl uwX0 (by decide) flX0_18 dX0_goesOn_12 ?_
    refine go_iload_n dX0_goesOn_15 1 rfl ?_
    refine go_iaload hB.2.2.2.1 c1 dX0_goesOn_16 ?_
    refine go_imul dX0_goesOn_17 ?_
    refine go_aload_n dX0_goesOn_18 0 rfl ?_
    refine go_getR (kf := 1) (t := (b + 2)) hB.1 rfl rfl uwX0 (by decide) flX0_15 dX0_goesOn_19 ?_
    refine go_iload_n dX0_goesOn_22 1 rfl ?_
    refine go_iaload hB.2.2.1 c1 dX0_goesOn_23 ?_
    refine go_icmp_lt 31 dX0_goesOn_24 (by decide) (fun q => ?_) (fun q => ?_)
    · have h := h.1 q
      refine go_iconst (v := 0) dX0_goesOn_31 (by decide) ?_
      exact go_zret (ty := .boolean) rfl rfl dX0_goesOn_32 h
    · have h := h.2 q
      refine go_iconst (v := 1) dX0_goesOn_27 (by decide) ?_
      refine go_goto 32 dX0_goesOn_28 (by decide) ?_
      exact go_zret (ty := .boolean) rfl rfl dX0_goesOn_32 h

set_option maxRecDepth 100000 in
theorem sX0_shove_0 {G : GX} {d : Nat} {mem : Mem} {Φ : Option Value → Mem → Prop} (b : Nat) (hB : BeamAt b) (a1 : Int32) (a2 : Int32) (h : (vp_in a1 5) ∧ (((mem (b + 1) (a1 : Int32).toNatClampNeg) = 0 → Φ (some (.int (a2 * (mem b 5)))) mem) ∧ (¬ (mem (b + 1) (a1 : Int32).toNatClampNeg) = 0 → (((mem (b + 1) (a1 : Int32).toNatClampNeg) = 2 → Φ (some (.int ((a2 - 1) * (mem b 5)))) mem) ∧ (¬ (mem (b + 1) (a1 : Int32).toNatClampNeg) = 2 → Φ (some (.int ((a2 * (mem b 5)) / 2))) mem))))) : Go G (d + 0) mX0_shove 0 [(0, .ref b), (1, .int a1), (2, .int a2)] [] mem Φ := by
  refine go_aload_n dX0_shove_0 0 rfl ?_
  refine go_getR (kf := 0) (t := (b + 1)) hB.1 rfl rfl uwX0 (by decide) flX0_9 dX0_shove_1 ?_
  refine go_iload_n dX0_shove_4 1 rfl ?_
  obtain ⟨c1, h⟩ := h
  refine go_iaload hB.2.1 c1 dX0_shove_5 ?_
  by_cases q0 : (mem (b + 1) (a1 : Int32).toNatClampNeg) = 0
  · have h := h.1 q0
    refine go_lookEq q0 32 dX0_shove_6 (by decide) rfl (by decide) ?_
    refine go_iload_n dX0_shove_32 2 rfl ?_
    refine go_aload_n dX0_shove_33 0 rfl ?_
    refine go_getI (kf := 5) hB.1 rfl rfl uwX0 (by decide) flX0_24 dX0_shove_34 ?_
    refine go_imul dX0_shove_37 ?_
    exact go_iret rfl dX0_shove_38 h
  have h := h.2 q0
  by_cases q2 : (mem (b + 1) (a1 : Int32).toNatClampNeg) = 2
  · have h := h.1 q2
    refine go_lookEq q2 39 dX0_shove_6 (by decide) rfl (by decide) ?_
    refine go_iload_n dX0_shove_39 2 rfl ?_
    refine go_iconst (v := 1) dX0_shove_40 (by decide) ?_
    refine go_isub dX0_shove_41 ?_
    refine go_aload_n dX0_shove_42 0 rfl ?_
    refine go_getI (kf := 5) hB.1 rfl rfl uwX0 (by decide) flX0_24 dX0_shove_43 ?_
    refine go_imul dX0_shove_46 ?_
    exact go_iret rfl dX0_shove_47 h
  have h := h.2 q2
  refine go_lookup (off := 42) 48 dX0_shove_6 (by decide) (by show Op.lookupswitch.offset [(0, 26), (2, 33)] _ _ = _; rw [lv_osw q0 (by decide), lv_osw q2 (by decide)]; rfl) (by decide) ?_
  refine go_iload_n dX0_shove_48 2 rfl ?_
  refine go_aload_n dX0_shove_49 0 rfl ?_
  refine go_getI (kf := 5) hB.1 rfl rfl uwX0 (by decide) flX0_24 dX0_shove_50 ?_
  refine go_imul dX0_shove_53 ?_
  refine go_iconst (v := 2) dX0_shove_54 (by decide) ?_
  refine go_idiv dX0_shove_55 (by decide) ?_
  exact go_iret rfl dX0_shove_56 h

set_option maxRecDepth 100000 in
theorem sJ6_bitCount_0f7a4_0 {G : GX} {d : Nat} {mem : Mem} {Φ : Option Value → Mem → Prop} (a0 : Int32) (h : ∀ y1 : Int32, y1 = (a0 - ((((a0).toUInt32 >>> ((1 : Int32).toUInt32 &&& Int32.toUInt32 31)).toInt32) &&& 1431655765)) → ∀ y2 : Int32, y2 = ((y1 &&& 858993459) + ((((y1).toUInt32 >>> ((2 : Int32).toUInt32 &&& Int32.toUInt32 31)).toInt32) &&& 858993459)) → ∀ y3 : Int32, y3 = ((y2 + (((y2).toUInt32 >>> ((4 : Int32).toUInt32 &&& Int32.toUInt32 31)).toInt32)) &&& 252645135) → ∀ y4 : Int32, y4 = (y3 + (((y3).toUInt32 >>> ((8 : Int32).toUInt32 &&& Int32.toUInt32 31)).toInt32)) → ∀ y5 : Int32, y5 = (y4 + (((y4).toUInt32 >>> ((16 : Int32).toUInt32 &&& Int32.toUInt32 31)).toInt32)) → Φ (some (.int (y5 &&& 63))) mem) : Go G (d + 0) mJ6_bitCount_0f7a4 0 [(0, .int a0)] [] mem Φ := by
  refine go_iload_n dJ6_bitCount_0f7a4_0 0 rfl ?_
  refine go_iload_n dJ6_bitCount_0f7a4_1 0 rfl ?_
  refine go_iconst (v := 1) dJ6_bitCount_0f7a4_2 (by decide) ?_
  refine go_iushr dJ6_bitCount_0f7a4_3 ?_
  refine go_ldcw kcJ6_265 dJ6_bitCount_0f7a4_4 ?_
  refine go_iand dJ6_bitCount_0f7a4_7 ?_
  refine go_isub dJ6_bitCount_0f7a4_8 ?_
  refine go_topi (fun y1 qy1 => ?_)
  have h := h y1 qy1
  refine go_istore_n (L2 := [(0, .int y1)]) dJ6_bitCount_0f7a4_9 (by decide) rfl ?_
  refine go_iload_n dJ6_bitCount_0f7a4_10 0 rfl ?_
  refine go_ldcw kcJ6_266 dJ6_bitCount_0f7a4_11 ?_
  refine go_iand dJ6_bitCount_0f7a4_14 ?_
  refine go_iload_n dJ6_bitCount_0f7a4_15 0 rfl ?_
  refine go_iconst (v := 2) dJ6_bitCount_0f7a4_16 (by decide) ?_
  refine go_iushr dJ6_bitCount_0f7a4_17 ?_
  refine go_ldcw kcJ6_266 dJ6_bitCount_0f7a4_18 ?_
  refine go_iand dJ6_bitCount_0f7a4_21 ?_
  refine go_iadd dJ6_bitCount_0f7a4_22 ?_
  refine go_topi (fun y2 qy2 => ?_)
  have h := h y2 qy2
  refine go_istore_n (L2 := [(0, .int y2)]) dJ6_bitCount_0f7a4_23 (by decide) rfl ?_
  refine go_iload_n dJ6_bitCount_0f7a4_24 0 rfl ?_
  refine go_iload_n dJ6_bitCount_0f7a4_25 0 rfl ?_
  refine go_iconst (v := 4) dJ6_bitCount_0f7a4_26 (by decide) ?_
  refine go_iushr dJ6_bitCount_0f7a4_27 ?_
  refine go_iadd dJ6_bitCount_0f7a4_28 ?_
  refine go_ldcw kcJ6_267 dJ6_bitCount_0f7a4_29 ?_
  refine go_iand dJ6_bitCount_0f7a4_32 ?_
  refine go_topi (fun y3 qy3 => ?_)
  have h := h y3 qy3
  refine go_istore_n (L2 := [(0, .int y3)]) dJ6_bitCount_0f7a4_33 (by decide) rfl ?_
  refine go_iload_n dJ6_bitCount_0f7a4_34 0 rfl ?_
  refine go_iload_n dJ6_bitCount_0f7a4_35 0 rfl ?_
  refine go_bipush (v := 8) dJ6_bitCount_0f7a4_36 (by decide) ?_
  refine go_iushr dJ6_bitCount_0f7a4_38 ?_
  refine go_iadd dJ6_bitCount_0f7a4_39 ?_
  refine go_topi (fun y4 qy4 => ?_)
  have h := h y4 qy4
  refine go_istore_n (L2 := [(0, .int y4)]) dJ6_bitCount_0f7a4_40 (by decide) rfl ?_
  refine go_iload_n dJ6_bitCount_0f7a4_41 0 rfl ?_
  refine go_iload_n dJ6_bitCount_0f7a4_42 0 rfl ?_
  refine go_bipush (v := 16) dJ6_bitCount_0f7a4_43 (by decide) ?_
  refine go_iushr dJ6_bitCount_0f7a4_45 ?_
  refine go_iadd dJ6_bitCount_0f7a4_46 ?_
  refine go_topi (fun y5 qy5 => ?_)
  have h := h y5 qy5
  refine go_istore_n (L2 := [(0, .int y5)]) dJ6_bitCount_0f7a4_47 (by decide) rfl ?_
  refine go_iload_n dJ6_bitCount_0f7a4_48 0 rfl ?_
  refine go_bipush (v := 63) dJ6_bitCount_0f7a4_49 (by decide) ?_
  refine go_iand dJ6_bitCount_0f7a4_51 ?_
  exact go_iret rfl dJ6_bitCount_0f7a4_52 h
