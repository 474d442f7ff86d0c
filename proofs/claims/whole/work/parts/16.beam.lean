set_option maxRecDepth 100000 in
theorem sX0_empty_0 {G : GX} {d : Nat} {mem : Mem} {Φ : Option Value → Mem → Prop} (b : Nat) (hB : BeamAt b) (h : Φ none (um (um (um mem b 4 0) b 5 1) b 6 0)) : Go G (d + 0) mX0_empty 0 [(0, .ref b)] [] mem Φ := by
  refine go_aload_n dX0_empty_0 0 rfl ?_
  refine go_iconst (v := 0) dX0_empty_1 (by decide) ?_
  refine go_putI (kf := 4) hB.1 rfl rfl uwX0 tyX0_ok nmX0 (by decide) rfl flX0_28 rfl rfl dX0_empty_2 ?_
  refine go_aload_n dX0_empty_5 0 rfl ?_
  refine go_iconst (v := 1) dX0_empty_6 (by decide) ?_
  refine go_putI (kf := 5) hB.1 rfl rfl uwX0 tyX0_ok nmX0 (by decide) rfl flX0_24 rfl rfl dX0_empty_7 ?_
  refine go_aload_n dX0_empty_10 0 rfl ?_
  refine go_iconst (v := 0) dX0_empty_11 (by decide) ?_
  refine go_putI (kf := 6) hB.1 rfl rfl uwX0 tyX0_ok nmX0 (by decide) rfl flX0_31 rfl rfl dX0_empty_12 ?_
  exact go_vret rfl dX0_empty_15 h

set_option maxRecDepth 100000 in
theorem sX0_takeFrom_0 {G : GX} {d : Nat} {mem : Mem} {Φ : Option Value → Mem → Prop} (b : Nat) (hB : BeamAt b) (o : Nat) (hO : BeamAt o) (h : ∀ m1 : Mem, m1 = (um (um mem b 4 (mem o 4)) b 5 ((um mem b 4 (mem o 4)) o 5)) → ∀ m2 : Mem, m2 = (um0 (um m1 b 6 (m1 o 6)) (b + 1) (va_cpy ((um m1 b 6 (m1 o 6)) (o + 1)) ((um m1 b 6 (m1 o 6)) (b + 1)) (0 : Int32).toNatClampNeg (0 : Int32).toNatClampNeg (5 : Int32).toNatClampNeg)) → ∀ m3 : Mem, m3 = (um0 m2 (b + 2) (va_cpy (m2 (o + 2)) (m2 (b + 2)) (0 : Int32).toNatClampNeg (0 : Int32).toNatClampNeg (5 : Int32).toNatClampNeg)) → ∀ m4 : Mem, m4 = (um0 m3 (b + 3) (va_cpy (m3 (o + 3)) (m3 (b + 3)) (0 : Int32).toNatClampNeg (0 : Int32).toNatClampNeg (5 : Int32).toNatClampNeg)) → ∀ m5 : Mem, m5 = (um0 m4 (b + 4) (va_cpy (m4 (o + 4)) (m4 (b + 4)) (0 : Int32).toNatClampNeg (0 : Int32).toNatClampNeg (5 : Int32).toNatClampNeg)) → Φ none m5) : Go G (d + 1) mX0_takeFrom 0 [(0, .ref b), (1, .ref o)] [] mem Φ := by
  refine go_aload_n dX0_takeFrom_0 0 rfl ?_
  refine go_aload_n dX0_takeFrom_1 1 rfl ?_
  refine go_getI (kf := 4) hO.1 rfl rfl uwX0 (by decide) flX0_28 dX0_takeFrom_2 ?_
  refine go_putI (kf := 4) hB.1 rfl rfl uwX0 tyX0_ok nmX0 (by decide) rfl flX0_28 rfl rfl dX0_takeFrom_5 ?_
  refine go_aload_n dX0_takeFrom_8 0 rfl ?_
  refine go_aload_n dX0_takeFrom_9 1 rfl ?_
  refine go_getI (kf := 5) hO.1 rfl rfl uwX0 (by decide) flX0_24 dX0_takeFrom_10 ?_
  refine go_putI (kf := 5) hB.1 rfl rfl uwX0 tyX0_ok nmX0 (by decide) rfl flX0_24 rfl rfl dX0_takeFrom_13 ?_
  refine go_mem (fun m1 qm1 => ?_)
  have h := h m1 qm1
  refine go_aload_n dX0_takeFrom_16 0 rfl ?_
  refine go_aload_n dX0_takeFrom_17 1 rfl ?_
  refine go_getI (kf := 6) hO.1 rfl rfl uwX0 (by decide) flX0_31 dX0_takeFrom_18 ?_
  refine go_putI (kf := 6) hB.1 rfl rfl uwX0 tyX0_ok nmX0 (by decide) rfl flX0_31 rfl rfl dX0_takeFrom_21 ?_
  refine go_aload_n dX0_takeFrom_24 1 rfl ?_
  refine go_getR (kf := 0) (t := (o + 1)) hO.1 rfl rfl uwX0 (by decide) flX0_9 dX0_takeFrom_25 ?_
  refine go_iconst (v := 0) dX0_takeFrom_28 (by decide) ?_
  refine go_aload_n dX0_takeFrom_29 0 rfl ?_
  refine go_getR (kf := 0) (t := (b + 1)) hB.1 rfl rfl uwX0 (by decide) flX0_9 dX0_takeFrom_30 ?_
  refine go_iconst (v := 0) dX0_takeFrom_33 (by decide) ?_
  refine go_iconst (v := 5) dX0_takeFrom_34 (by decide) ?_
  refine go_copyi lkX0_34 natCopy staCopy iniSys hO.2.1 hB.2.1 (by decide) (by decide) (by decide) (by decide) (by decide) rfl dX0_takeFrom_35 ?_
  refine go_mem (fun m2 qm2 => ?_)
  have h := h m2 qm2
  refine go_aload_n dX0_takeFrom_38 1 rfl ?_
  refine go_getR (kf := 1) (t := (o + 2)) hO.1 rfl rfl uwX0 (by decide) flX0_15 dX0_takeFrom_39 ?_
  refine go_iconst (v := 0) dX0_takeFrom_42 (by decide) ?_
  refine go_aload_n dX0_takeFrom_43 0 rfl ?_
  refine go_getR (kf := 1) (t := (b + 2)) hB.1 rfl rfl uwX0 (by decide) flX0_15 dX0_takeFrom_44 ?_
  refine go_iconst (v := 0) dX0_takeFrom_47 (by decide) ?_
  refine go_iconst (v := 5) dX0_takeFrom_48 (by decide) ?_
  refine go_copyi lkX0_34 natCopy staCopy iniSys hO.2.2.1 hB.2.2.1 (by decide) (by decide) (by decide) (by decide) (by decide) rfl dX0_takeFrom_49 ?_
  refine go_mem (fun m3 qm3 => ?_)
  have h := h m3 qm3
  refine go_aload_n dX0_takeFrom_52 1 rfl ?_
  refine go_getR (kf := 2) (t := (o + 3)) hO.1 rfl rfl uwX0 (by decide) flX0_18 dX0_takeFrom_53 ?_
  refine go_iconst (v := 0) dX0_takeFrom_56 (by decide) ?_
  refine go_aload_n dX0_takeFrom_57 0 rfl ?_
  refine go_getR (kf := 2) (t := (b + 3)) hB.1 rfl rfl uwX0 (by decide) flX0_18 dX0_takeFrom_58 ?_
  refine go_iconst (v := 0) dX0_takeFrom_61 (by decide) ?_
  refine go_iconst (v := 5) dX0_takeFrom_62 (by decide) ?_
  refine go_copyi lkX0_34 natCopy staCopy iniSys hO.2.2.2.1 hB.2.2.2.1 (by decide) (by decide) (by decide) (by decide) (by decide) rfl dX0_takeFrom_63 ?_
  refine go_mem (fun m4 qm4 => ?_)
  have h := h m4 qm4
  refine go_aload_n dX0_takeFrom_66 1 rfl ?_
  refine go_getR (kf := 3) (t := (o + 4)) hO.1 rfl rfl uwX0 (by decide) flX0_21 dX0_takeFrom_67 ?_
  refine go_iconst (v := 0) dX0_takeFrom_70 (by decide) ?_
  refine go_aload_n dX0_takeFrom_71 0 rfl ?_
  refine go_getR (kf := 3) (t := (b + 4)) hB.1 rfl rfl uwX0 (by decide) flX0_21 dX0_takeFrom_72 ?_
  refine go_iconst (v := 0) dX0_takeFrom_75 (by decide) ?_
  refine go_iconst (v := 5) dX0_takeFrom_76 (by decide) ?_
  refine go_copyi lkX0_34 natCopy staCopy iniSys hO.2.2.2.2 hB.2.2.2.2 (by decide) (by decide) (by decide) (by decide) (by decide) rfl dX0_takeFrom_77 ?_
  refine go_mem (fun m5 qm5 => ?_)
  have h := h m5 qm5
  exact go_vret rfl dX0_takeFrom_80 h

set_option maxRecDepth 100000 in
theorem sX0_addClock_0 {G : GX} {d : Nat} {mem : Mem} {Φ : Option Value → Mem → Prop} (b : Nat) (hB : BeamAt b) (a1 : Int32) (a2 : Int32) (a3 : Int32) (h : (((mem b 4) < 5 → (vp_in (mem b 4) 5) ∧ ∀ m2 : Mem, m2 = (um mem (b + 1) ((mem b 4) : Int32).toNatClampNeg a1) → (vp_in (m2 b 4) 5) ∧ ∀ m4 : Mem, m4 = (um m2 (b + 2) ((m2 b 4) : Int32).toNatClampNeg a2) → (vp_in (m4 b 4) 5) ∧ ∀ m6 : Mem, m6 = (um m4 (b + 3) ((m4 b 4) : Int32).toNatClampNeg a3) → (vp_in (m6 b 4) 5) ∧ ∀ m8 : Mem, m8 = (um m6 (b + 4) ((m6 b 4) : Int32).toNatClampNeg 0) → Φ none (um m8 b 4 ((m8 b 4) + 1))) ∧ (¬ (mem b 4) < 5 → Φ none mem))) : Go G (d + 0) mX0_addClock 0 [(0, .ref b), (1, .int a1), (2, .int a2), (3, .int a3)] [] mem Φ := by
  refine go_aload_n dX0_addClock_0 0 rfl ?_
  refine go_getI (kf := 4) hB.1 rfl rfl uwX0 (by decide) flX0_28 dX0_addClock_1 ?_
  refine go_iconst (v := 5) dX0_addClock_4 (by decide) ?_
  refine go_icmp_lt 9 dX0_addClock_5 (by decide) (fun q => ?_) (fun q => ?_)
  · have h := h.1 q
    refine go_aload_n dX0_addClock_9 0 rfl ?_
    refine go_getR (kf := 0) (t := (b + 1)) hB.1 rfl rfl uwX0 (by decide) flX0_9 dX0_addClock_10 ?_
    refine go_aload_n dX0_addClock_13 0 rfl ?_
    refine go_getI (kf := 4) hB.1 rfl rfl uwX0 (by decide) flX0_28 dX0_addClock_14 ?_
    refine go_iload_n dX0_addClock_17 1 rfl ?_
    obtain ⟨c1, h⟩ := h
    refine go_iastore hB.2.1 c1 dX0_addClock_18 ?_
    refine go_mem (fun m2 qm2 => ?_)
    have h := h m2 qm2
    refine go_aload_n dX0_addClock_19 0 rfl ?_
    refine go_getR (kf := 1) (t := (b + 2)) hB.1 rfl rfl uwX0 (by decide) flX0_15 dX0_addClock_20 ?_
    refine go_aload_n dX0_addClock_23 0 rfl ?_
    refine go_getI (kf := 4) hB.1 rfl rfl uwX0 (by decide) flX0_28 dX0_addClock_24 ?_
    refine go_iload_n dX0_addClock_27 2 rfl ?_
    obtain ⟨c3, h⟩ := h
    refine go_iastore hB.2.2.1 c3 dX0_addClock_28 ?_
    refine go_mem (fun m4 qm4 => ?_)
    have h := h m4 qm4
    refine go_aload_n dX0_addClock_29 0 rfl ?_
    refine go_getR (kf := 2) (t := (b + 3)) hB.1 rfl rfl uwX0 (by decide) flX0_18 dX0_addClock_30 ?_
    refine go_aload_n dX0_addClock_33 0 rfl ?_
    refine go_getI (kf := 4) hB.1 rfl rfl uwX0 (by decide) flX0_28 dX0_addClock_34 ?_
    refine go_iload_n dX0_addClock_37 3 rfl ?_
    obtain ⟨c5, h⟩ := h
    refine go_iastore hB.2.2.2.1 c5 dX0_addClock_38 ?_
    refine go_mem (fun m6 qm6 => ?_)
    have h := h m6 qm6
    refine go_aload_n dX0_addClock_39 0 rfl ?_
    refine go_getR (kf := 3) (t := (b + 4)) hB.1 rfl rfl uwX0 (by decide) flX0_21 dX0_addClock_40 ?_
    refine go_aload_n dX0_addClock_43 0 rfl ?_
    refine go_getI (kf := 4) hB.1 rfl rfl uwX0 (by decide) flX0_28 dX0_addClock_44 ?_
    refine go_iconst (v := 0) dX0_addClock_47 (by decide) ?_
    obtain ⟨c7, h⟩ := h
    refine go_iastore hB.2.2.2.2 c7 dX0_addClock_48 ?_
    refine go_mem (fun m8 qm8 => ?_)
    have h := h m8 qm8
    refine go_aload_n dX0_addClock_49 0 rfl ?_
    refine go_dup dX0_addClock_50 rfl ?_
    refine go_getI (kf := 4) hB.1 rfl rfl uwX0 (by decide) flX0_28 dX0_addClock_51 ?_
    refine go_iconst (v := 1) dX0_addClock_54 (by decide) ?_
    refine go_iadd dX0_addClock_55 ?_
    refine go_putI (kf := 4) hB.1 rfl rfl uwX0 tyX0_ok nmX0 (by decide) rfl flX0_28 rfl rfl dX0_addClock_56 ?_
    exact go_vret rfl dX0_addClock_59 h
  · have h := h.2 q
    exact go_vret rfl dX0_addClock_8 h

set_option maxRecDepth 100000 in
theorem sX0_takeAway_0 {G : GX} {d : Nat} {mem : Mem} {Φ : Option Value → Mem → Prop} (b : Nat) (hB : BeamAt b) (g : Nat) (h : Go G (d + 0) mX0_takeAway 2 [(0, .ref b), (1, .int (nI g)), (2, .int (nI g))] [] mem Φ) : Go G (d + 0) mX0_takeAway 0 [(0, .ref b), (1, .int (nI g))] [] mem Φ := by
  refine go_iload_n dX0_takeAway_0 1 rfl ?_
  refine go_istore_n (L2 := [(2, .int (nI g)), (0, .ref b), (1, .int (nI g))]) dX0_takeAway_1 (by decide) rfl ?_
  exact Go.pick [1, 2, 0] rfl h

set_option maxRecDepth 100000 in
theorem sX0_takeAway_2 {G : GX} {d : Nat} {mem : Mem} {Φ : Option Value → Mem → Prop} (b : Nat) (hB : BeamAt b) (g i : Nat) (h : (((mem b 4) ≤ ((nI i) + 1) → Φ none (um mem b 4 ((mem b 4) - 1))) ∧ (¬ (mem b 4) ≤ ((nI i) + 1) → (vp_in ((nI i) + 1) 5) ∧ (vp_in (nI i) 5) ∧ ∀ m3 : Mem, m3 = (um mem (b + 1) ((nI i) : Int32).toNatClampNeg (mem (b + 1) (((nI i) + 1) : Int32).toNatClampNeg)) → ∀ m4 : Mem, m4 = (um m3 (b + 2) ((nI i) : Int32).toNatClampNeg (m3 (b + 2) (((nI i) + 1) : Int32).toNatClampNeg)) → ∀ m5 : Mem, m5 = (um m4 (b + 3) ((nI i) : Int32).toNatClampNeg (m4 (b + 3) (((nI i) + 1) : Int32).toNatClampNeg)) → ∀ m6 : Mem, m6 = (um m5 (b + 4) ((nI i) : Int32).toNatClampNeg (m5 (b + 4) (((nI i) + 1) : Int32).toNatClampNeg)) → Go G (d + 0) mX0_takeAway 2 [(0, .ref b), (1, .int (nI g)), (2, .int ((nI i) + 1))] [] m6 Φ))) : Go G (d + 0) mX0_takeAway 2 [(0, .ref b), (1, .int (nI g)), (2, .int (nI i))] [] mem Φ := by
  refine go_iload_n dX0_takeAway_2 2 rfl ?_
  refine go_iconst (v := 1) dX0_takeAway_3 (by decide) ?_
  refine go_iadd dX0_takeAway_4 ?_
  refine go_aload_n dX0_takeAway_5 0 rfl ?_
  refine go_getI (kf := 4) hB.1 rfl rfl uwX0 (by decide) flX0_28 dX0_takeAway_6 ?_
  refine go_icmp_ge 74 dX0_takeAway_9 (by decide) (fun q => ?_) (fun q => ?_)
  · have h := h.1 q
    refine go_aload_n dX0_takeAway_74 0 rfl ?_
    refine go_dup dX0_takeAway_75 rfl ?_
    refine go_getI (kf := 4) hB.1 rfl rfl uwX0 (by decide) flX0_28 dX0_takeAway_76 ?_
    refine go_iconst (v := 1) dX0_takeAway_79 (by decide) ?_
    refine go_isub dX0_takeAway_80 ?_
    refine go_putI (kf := 4) hB.1 rfl rfl uwX0 tyX0_ok nmX0 (by decide) rfl flX0_28 rfl rfl dX0_takeAway_81 ?_
    exact go_vret rfl dX0_takeAway_84 h
  · have h := h.2 q
    refine go_aload_n dX0_takeAway_12 0 rfl ?_
    refine go_getR (kf := 0) (t := (b + 1)) hB.1 rfl rfl uwX0 (by decide) flX0_9 dX0_takeAway_13 ?_
    refine go_iload_n dX0_takeAway_16 2 rfl ?_
    refine go_aload_n dX0_takeAway_17 0 rfl ?_
    refine go_getR (kf := 0) (t := (b + 1)) hB.1 rfl rfl uwX0 (by decide) flX0_9 dX0_takeAway_18 ?_
    refine go_iload_n dX0_takeAway_21 2 rfl ?_
    refine go_iconst (v := 1) dX0_takeAway_22 (by decide) ?_
    refine go_iadd dX0_takeAway_23 ?_
    obtain ⟨c1, h⟩ := h
    refine go_iaload hB.2.1 c1 dX0_takeAway_24 ?_
    obtain ⟨c2, h⟩ := h
    refine go_iastore hB.2.1 c2 dX0_takeAway_25 ?_
    refine go_mem (fun m3 qm3 => ?_)
    have h := h m3 qm3
    refine go_aload_n dX0_takeAway_26 0 rfl ?_
    refine go_getR (kf := 1) (t := (b + 2)) hB.1 rfl rfl uwX0 (by decide) flX0_15 dX0_takeAway_27 ?_
    refine go_iload_n dX0_takeAway_30 2 rfl ?_
    refine go_aload_n dX0_takeAway_31 0 rfl ?_
    refine go_getR (kf := 1) (t := (b + 2)) hB.1 rfl rfl uwX0 (by decide) flX0_15 dX0_takeAway_32 ?_
    refine go_iload_n dX0_takeAway_35 2 rfl ?_
    refine go_iconst (v := 1) dX0_takeAway_36 (by decide) ?_
    refine go_iadd dX0_takeAway_37 ?_
    refine go_iaload hB.2.2.1 c1 dX0_takeAway_38 ?_
    refine go_iastore hB.2.2.1 c2 dX0_takeAway_39 ?_
    refine go_mem (fun m4 qm4 => ?_)
    have h := h m4 qm4
    refine go_aload_n dX0_takeAway_40 0 rfl ?_
    refine go_getR (kf := 2) (t := (b + 3)) hB.1 rfl rfl uwX0 (by decide) flX0_18 dX0_takeAway_41 ?_
    refine go_iload_n dX0_takeAway_44 2 rfl ?_
    refine go_aload_n dX0_takeAway_45 0 rfl ?_
    refine go_getR (kf := 2) (t := (b + 3)) hB.1 rfl rfl uwX0 (by decide) flX0_18 dX0_takeAway_46 ?_
    refine go_iload_n dX0_takeAway_49 2 rfl ?_
    refine go_iconst (v := 1) dX0_takeAway_50 (by decide) ?_
    refine go_iadd dX0_takeAway_51 ?_
    refine go_iaload hB.2.2.2.1 c1 dX0_takeAway_52 ?_
    refine go_iastore hB.2.2.2.1 c2 dX0_takeAway_53 ?_
    refine go_mem (fun m5 qm5 => ?_)
    have h := h m5 qm5
    refine go_aload_n dX0_takeAway_54 0 rfl ?_
    refine go_getR (kf := 3) (t := (b + 4)) hB.1 rfl rfl uwX0 (by decide) flX0_21 dX0_takeAway_55 ?_
    refine go_iload_n dX0_takeAway_58 2 rfl ?_
    refine go_aload_n dX0_takeAway_59 0 rfl ?_
    refine go_getR (kf := 3) (t := (b + 4)) hB.1 rfl rfl uwX0 (by decide) flX0_21 dX0_takeAway_60 ?_
    refine go_iload_n dX0_takeAway_63 2 rfl ?_
    refine go_iconst (v := 1) dX0_takeAway_64 (by decide) ?_
    refine go_iadd dX0_takeAway_65 ?_
    refine go_iaload hB.2.2.2.2 c1 dX0_takeAway_66 ?_
    refine go_iastore hB.2.2.2.2 c2 dX0_takeAway_67 ?_
    refine go_mem (fun m6 qm6 => ?_)
    have h := h m6 qm6
    refine go_iinc (v := ((nI i) + 1)) (L2 := [(2, .int ((nI i) + 1)), (0, .ref b), (1, .int (nI g))]) dX0_takeAway_68 2 rfl rfl (by decide) rfl ?_
    refine go_goto 2 dX0_takeAway_71 (by decide) ?_
    exact Go.pick [1, 2, 0] rfl h

set_option maxRecDepth 100000 in
theorem sX0_alterKind_0 {G : GX} {d : Nat} {mem : Mem} {Φ : Option Value → Mem → Prop} (b : Nat) (hB : BeamAt b) (c : Nat) (v : Int32) (h : ((0 ≤ v ∧ v ≤ 3 → (vp_in (nI c) 5) ∧ ∀ y2 : Int32, y2 = (mem (b + 1) ((nI c) : Int32).toNatClampNeg) → ∀ m3 : Mem, m3 = (um mem (b + 1) ((nI c) : Int32).toNatClampNeg v) → Φ (some (.int y2)) m3) ∧ (¬ (0 ≤ v ∧ v ≤ 3) → Φ (some (.int (-1))) mem))) : Go G (d + 1) mX0_alterKind 0 [(0, .ref b), (1, .int (nI c)), (2, .int v)] [] mem Φ := by
  refine go_iload_n dX0_alterKind_0 2 rfl ?_
  refine go_iconst (v := 0) dX0_alterKind_1 (by decide) ?_
  refine go_iconst (v := 3) dX0_alterKind_2 (by decide) ?_
  refine go_callSN (st := []) (kX5_isWithin (d + 0) v 0 3) okX5_isWithin staX5_isWithin (fun U h => h.2.2) rfl rfl (Nat.le_of_ble_eq_true rfl) dX0_alterKind_3 (fun v_ m2_ q => ?_)
  rw [q.1, q.2]
  refine go_stk (st2 := [.int (bI (0 ≤ v ∧ v ≤ 3))]) rfl ?_
  refine go_if_ne 11 dX0_alterKind_6 (by decide) (fun q => ?_) (fun q => ?_)
  · have h := h.1 (bI1.mp q)
    refine go_aload_n dX0_alterKind_11 0 rfl ?_
    refine go_getR (kf := 0) (t := (b + 1)) hB.1 rfl rfl uwX0 (by decide) flX0_9 dX0_alterKind_12 ?_
    refine go_iload_n dX0_alterKind_15 1 rfl ?_
    obtain ⟨c1, h⟩ := h
    refine go_iaload hB.2.1 c1 dX0_alterKind_16 ?_
    refine go_topi (fun y2 qy2 => ?_)
    have h := h y2 qy2
    refine go_istore_n (L2 := [(3, .int y2), (0, .ref b), (1, .int (nI c)), (2, .int v)]) dX0_alterKind_17 (by decide) rfl ?_
    refine go_aload_n dX0_alterKind_18 1 rfl ?_
    refine go_getR (kf := 0) (t := (b + 1)) hB.1 rfl rfl uwX0 (by decide) flX0_9 dX0_alterKind_19 ?_
    refine go_iload_n dX0_alterKind_22 2 rfl ?_
    refine go_iload_n dX0_alterKind_23 3 rfl ?_
    refine go_iastore hB.2.1 c1 dX0_alterKind_24 ?_
    refine go_mem (fun m3 qm3 => ?_)
    have h := h m3 qm3
    refine go_iload_n dX0_alterKind_25 0 rfl ?_
    exact go_iret rfl dX0_alterKind_26 h
  · have h := h.2 (bI0.mp q)
    refine go_iconst (v := (-1)) dX0_alterKind_9 (by decide) ?_
    exact go_iret rfl dX0_alterKind_10 h

set_option maxRecDepth 100000 in
theorem sX0_alterPeriod_0 {G : GX} {d : Nat} {mem : Mem} {Φ : Option Value → Mem → Prop} (b : Nat) (hB : BeamAt b) (c : Nat) (v : Int32) (h : ((2 ≤ v ∧ v ≤ 30 → (vp_in (nI c) 5) ∧ (((mem (b + 3) ((nI c) : Int32).toNatClampNeg) < v → ∀ y2 : Int32, y2 = (mem (b + 2) ((nI c) : Int32).toNatClampNeg) → ∀ m3 : Mem, m3 = (um mem (b + 2) ((nI c) : Int32).toNatClampNeg v) → Φ (some (.int y2)) m3) ∧ (¬ (mem (b + 3) ((nI c) : Int32).toNatClampNeg) < v → Φ (some (.int (-2))) mem))) ∧ (¬ (2 ≤ v ∧ v ≤ 30) → Φ (some (.int (-1))) mem))) : Go G (d + 1) mX0_alterPeriod 0 [(0, .ref b), (1, .int (nI c)), (2, .int v)] [] mem Φ := by
  refine go_iload_n dX0_alterPeriod_0 2 rfl ?_
  refine go_iconst (v := 2) dX0_alterPeriod_1 (by decide) ?_
  refine go_bipush (v := 30) dX0_alterPeriod_2 (by decide) ?_
  refine go_callSN (st := []) (kX5_isWithin (d + 0) v 2 30) okX5_isWithin staX5_isWithin (fun U h => h.2.2) rfl rfl (Nat.le_of_ble_eq_true rfl) dX0_alterPeriod_4 (fun v_ m2_ q => ?_)
  rw [q.1, q.2]
  refine go_stk (st2 := [.int (bI (2 ≤ v ∧ v ≤ 30))]) rfl ?_
  refine go_if_ne 12 dX0_alterPeriod_7 (by decide) (fun q => ?_) (fun q => ?_)
  · have h := h.1 (bI1.mp q)
    refine go_aload_n dX0_alterPeriod_12 0 rfl ?_
    refine go_getR (kf := 2) (t := (b + 3)) hB.1 rfl rfl uwX0 (by decide) flX0_18 dX0_alterPeriod_13 ?_
    refine go_iload_n dX0_alterPeriod_16 1 rfl ?_
    obtain ⟨c1, h⟩ := h
    refine go_iaload hB.2.2.2.1 c1 dX0_alterPeriod_17 ?_
    refine go_iload_n dX0_alterPeriod_18 2 rfl ?_
    refine go_icmp_lt 25 dX0_alterPeriod_19 (by decide) (fun q => ?_) (fun q => ?_)
    · have h := h.1 q
      refine go_aload_n dX0_alterPeriod_25 0 rfl ?_
      refine go_getR (kf := 1) (t := (b + 2)) hB.1 rfl rfl uwX0 (by decide) flX0_15 dX0_alterPeriod_26 ?_
      refine go_iload_n dX0_alterPeriod_29 1 rfl ?_
      refine go_iaload hB.2.2.1 c1 dX0_alterPeriod_30 ?_
      refine go_topi (fun y2 qy2 => ?_)
      have h := h y2 qy2
      refine go_istore_n (L2 := [(3, .int y2), (0, .ref b), (1, .int (nI c)), (2, .int v)]) dX0_alterPeriod_31 (by decide) rfl ?_
      refine go_aload_n dX0_alterPeriod_32 1 rfl ?_
      refine go_getR (kf := 1) (t := (b + 2)) hB.1 rfl rfl uwX0 (by decide) flX0_15 dX0_alterPeriod_33 ?_
      refine go_iload_n dX0_alterPeriod_36 2 rfl ?_
      refine go_iload_n dX0_alterPeriod_37 3 rfl ?_
      refine go_iastore hB.2.2.1 c1 dX0_alterPeriod_38 ?_
      refine go_mem (fun m3 qm3 => ?_)
      have h := h m3 qm3
      refine go_iload_n dX0_alterPeriod_39 0 rfl ?_
      exact go_iret rfl dX0_alterPeriod_40 h
    · have h := h.2 q
      refine go_bipush (v := (-2)) dX0_alterPeriod_22 (by decide) ?_
      exact go_iret rfl dX0_alterPeriod_24 h
  · have h := h.2 (bI0.mp q)
    refine go_iconst (v := (-1)) dX0_alterPeriod_10 (by decide) ?_
    exact go_iret rfl dX0_alterPeriod_11 h

set_option maxRecDepth 100000 in
theorem sX0_alterHand_0 {G : GX} {d : Nat} {mem : Mem} {Φ : Option Value → Mem → Prop} (b : Nat) (hB : BeamAt b) (c : Nat) (v : Int32) (h : ((0 ≤ v ∧ v ≤ 29 → (vp_in (nI c) 5) ∧ ((v < (mem (b + 2) ((nI c) : Int32).toNatClampNeg) → ∀ y2 : Int32, y2 = (mem (b + 3) ((nI c) : Int32).toNatClampNeg) → ∀ m3 : Mem, m3 = (um mem (b + 3) ((nI c) : Int32).toNatClampNeg v) → Φ (some (.int y2)) m3) ∧ (¬ v < (mem (b + 2) ((nI c) : Int32).toNatClampNeg) → Φ (some (.int (-2))) mem))) ∧ (¬ (0 ≤ v ∧ v ≤ 29) → Φ (some (.int (-1))) mem))) : Go G (d + 1) mX0_alterHand 0 [(0, .ref b), (1, .int (nI c)), (2, .int v)] [] mem Φ := by
  refine go_iload_n dX0_alterHand_0 2 rfl ?_
  refine go_iconst (v := 0) dX0_alterHand_1 (by decide) ?_
  refine go_bipush (v := 29) dX0_alterHand_2 (by decide) ?_
  refine go_callSN (st := []) (kX5_isWithin (d + 0) v 0 29) okX5_isWithin staX5_isWithin (fun U h => h.2.2) rfl rfl (Nat.le_of_ble_eq_true rfl) dX0_alterHand_4 (fun v_ m2_ q => ?_)
  rw [q.1, q.2]
  refine go_stk (st2 := [.int (bI (0 ≤ v ∧ v ≤ 29))]) rfl ?_
  refine go_if_ne 12 dX0_alterHand_7 (by decide) (fun q => ?_) (fun q => ?_)
  · have h := h.1 (bI1.mp q)
    refine go_iload_n dX0_alterHand_12 2 rfl ?_
    refine go_aload_n dX0_alterHand_13 0 rfl ?_
    refine go_getR (kf := 1) (t := (b + 2)) hB.1 rfl rfl uwX0 (by decide) flX0_15 dX0_alterHand_14 ?_
    refine go_iload_n dX0_alterHand_17 1 rfl ?_
    obtain ⟨c1, h⟩ := h
    refine go_iaload hB.2.2.1 c1 dX0_alterHand_18 ?_
    refine go_icmp_lt 25 dX0_alterHand_19 (by decide) (fun q => ?_) (fun q => ?_)
    · have h := h.1 q
      refine go_aload_n dX0_alterHand_25 0 rfl ?_
      refine go_getR (kf := 2) (t := (b + 3)) hB.1 rfl rfl uwX0 (by decide) flX0_18 dX0_alterHand_26 ?_
      refine go_iload_n dX0_alterHand_29 1 rfl ?_
      refine go_iaload hB.2.2.2.1 c1 dX0_alterHand_30 ?_
      refine go_topi (fun y2 qy2 => ?_)
      have h := h y2 qy2
      refine go_istore_n (L2 := [(3, .int y2), (0, .ref b), (1, .int (nI c)), (2, .int v)]) dX0_alterHand_31 (by decide) rfl ?_
      refine go_aload_n dX0_alterHand_32 1 rfl ?_
      refine go_getR (kf := 2) (t := (b + 3)) hB.1 rfl rfl uwX0 (by decide) flX0_18 dX0_alterHand_33 ?_
      refine go_iload_n dX0_alterHand_36 2 rfl ?_
      refine go_iload_n dX0_alterHand_37 3 rfl ?_
      refine go_iastore hB.2.2.2.1 c1 dX0_alterHand_38 ?_
      refine go_mem (fun m3 qm3 => ?_)
      have h := h m3 qm3
      refine go_iload_n dX0_alterHand_39 0 rfl ?_
      exact go_iret rfl dX0_alterHand_40 h
    · have h := h.2 q
      refine go_bipush (v := (-2)) dX0_alterHand_22 (by decide) ?_
      exact go_iret rfl dX0_alterHand_24 h
  · have h := h.2 (bI0.mp q)
    refine go_iconst (v := (-1)) dX0_alterHand_10 (by decide) ?_
    exact go_iret rfl dX0_alterHand_11 h

set_option maxRecDepth 100000 in
theorem sX0_everyClock_0 {G : GX} {d : Nat} {mem : Mem} {Φ : Option Value → Mem → Prop} (b : Nat) (hB : BeamAt b) (h : Φ (some (.int ((1 <<< ((mem b 4) &&& 31)) - 1))) mem) : Go G (d + 0) mX0_everyClock 0 [(0, .ref b)] [] mem Φ := by
  refine go_iconst (v := 1) dX0_everyClock_0 (by decide) ?_
  refine go_aload_n dX0_everyClock_1 0 rfl ?_
  refine go_getI (kf := 4) hB.1 rfl rfl uwX0 (by decide) flX0_28 dX0_everyClock_2 ?_
  refine go_ishl dX0_everyClock_5 ?_
  refine go_iconst (v := 1) dX0_everyClock_6 (by decide) ?_
  refine go_isub dX0_everyClock_7 ?_
  exact go_iret rfl dX0_everyClock_8 h

theorem kX0_everyClock {G : GX} (d : Nat) {mem : Mem} (b : Nat) (hB : BeamAt b) : Cn G (d + 0) mX0_everyClock [.ref b] mem (Ri ((1 <<< ((mem b 4) &&& 31)) - 1) (fun m2 => m2 = mem)) :=
  cn_of (by decide +kernel) (Nat.le_of_ble_eq_true rfl) (sX0_everyClock_0 b hB ⟨rfl, rfl⟩)

set_option maxRecDepth 100000 in
theorem sX0_sumOfHands_0 {G : GX} {d : Nat} {mem : Mem} {Φ : Option Value → Mem → Prop} (b : Nat) (hB : BeamAt b) (h : Go G (d + 0) mX0_sumOfHands 4 [(0, .ref b), (1, .int 0), (2, .int 0)] [] mem Φ) : Go G (d + 0) mX0_sumOfHands 0 [(0, .ref b)] [] mem Φ := by
  refine go_iconst (v := 0) dX0_sumOfHands_0 (by decide) ?_
  refine go_istore_n (L2 := [(1, .int 0), (0, .ref b)]) dX0_sumOfHands_1 (by decide) rfl ?_
  refine go_iconst (v := 0) dX0_sumOfHands_2 (by decide) ?_
  refine go_istore_n (L2 := [(2, .int 0), (1, .int 0), (0, .ref b)]) dX0_sumOfHands_3 (by decide) rfl ?_
  exact Go.pick [2, 1, 0] rfl h

set_option maxRecDepth 100000 in
theorem sX0_sumOfHands_4 {G : GX} {d : Nat} {mem : Mem} {Φ : Option Value → Mem → Prop} (b : Nat) (hB : BeamAt b) (a i : Nat) (h : (((mem b 4) ≤ (nI i) → Φ (some (.int (nI a))) mem) ∧ (¬ (mem b 4) ≤ (nI i) → (vp_in (nI i) 5) ∧ ∀ y2 : Int32, y2 = ((nI a) + (mem (b + 3) ((nI i) : Int32).toNatClampNeg)) → Go G (d + 0) mX0_sumOfHands 4 [(0, .ref b), (1, .int y2), (2, .int ((nI i) + 1))] [] mem Φ))) : Go G (d + 0) mX0_sumOfHands 4 [(0, .ref b), (1, .int (nI a)), (2, .int (nI i))] [] mem Φ := by
  refine go_iload_n dX0_sumOfHands_4 2 rfl ?_
  refine go_aload_n dX0_sumOfHands_5 0 rfl ?_
  refine go_getI (kf := 4) hB.1 rfl rfl uwX0 (by decide) flX0_28 dX0_sumOfHands_6 ?_
  refine go_icmp_ge 27 dX0_sumOfHands_9 (by decide) (fun q => ?_) (fun q => ?_)
  · have h := h.1 q
    refine go_iload_n dX0_sumOfHands_27 1 rfl ?_
    exact go_iret rfl dX0_sumOfHands_28 h
  · have h := h.2 q
    refine go_iload_n dX0_sumOfHands_12 1 rfl ?_
    refine go_aload_n dX0_sumOfHands_13 0 rfl ?_
    refine go_getR (kf := 2) (t := (b + 3)) hB.1 rfl rfl uwX0 (by decide) flX0_18 dX0_sumOfHands_14 ?_
    refine go_iload_n dX0_sumOfHands_17 2 rfl ?_
    obtain ⟨c1, h⟩ := h
    refine go_iaload hB.2.2.2.1 c1 dX0_sumOfHands_18 ?_
    refine go_iadd dX0_sumOfHands_19 ?_
    refine go_topi (fun y2 qy2 => ?_)
    have h := h y2 qy2
    refine go_istore_n (L2 := [(1, .int y2), (0, .ref b), (2, .int (nI i))]) dX0_sumOfHands_20 (by decide) rfl ?_
    refine go_iinc (v := ((nI i) + 1)) (L2 := [(2, .int ((nI i) + 1)), (1, .int y2), (0, .ref b)]) dX0_sumOfHands_21 2 rfl rfl (by decide) rfl ?_
    refine go_goto 4 dX0_sumOfHands_24 (by decide) ?_
    exact Go.pick [2, 1, 0] rfl h

set_option maxRecDepth 100000 in
theorem sX0_hasHandsOf_0 {G : GX} {d : Nat} {mem : Mem} {Φ : Option Value → Mem → Prop} (b : Nat) (hB : BeamAt b) (o : Nat) (hO : BeamAt o) (h : Go G (d + 0) mX0_hasHandsOf 2 [(0, .ref b), (1, .ref o), (2, .int 0)] [] mem Φ) : Go G (d + 0) mX0_hasHandsOf 0 [(0, .ref b), (1, .ref o)] [] mem Φ := by
  refine go_iconst (v := 0) dX0_hasHandsOf_0 (by decide) ?_
  refine go_istore_n (L2 := [(2, .int 0), (0, .ref b), (1, .ref o)]) dX0_hasHandsOf_1 (by decide) rfl ?_
  exact Go.pick [1, 2, 0] rfl h

set_option maxRecDepth 100000 in
theorem sX0_hasHandsOf_2 {G : GX} {d : Nat} {mem : Mem} {Φ : Option Value → Mem → Prop} (b : Nat) (hB : BeamAt b) (o : Nat) (hO : BeamAt o) (i : Nat) (h : (((mem b 4) ≤ (nI i) → Φ (some (.int 1)) mem) ∧ (¬ (mem b 4) ≤ (nI i) → (vp_in (nI i) 5) ∧ (((mem (b + 3) ((nI i) : Int32).toNatClampNeg) = (mem (o + 3) ((nI i) : Int32).toNatClampNeg) → Go G (d + 0) mX0_hasHandsOf 2 [(0, .ref b), (1, .ref o), (2, .int ((nI i) + 1))] [] mem Φ) ∧ (¬ (mem (b + 3) ((nI i) : Int32).toNatClampNeg) = (mem (o + 3) ((nI i) : Int32).toNatClampNeg) → Φ (some (.int 0)) mem))))) : Go G (d + 0) mX0_hasHandsOf 2 [(0, .ref b), (1, .ref o), (2, .int (nI i))] [] mem Φ := by
  refine go_iload_n dX0_hasHandsOf_2 2 rfl ?_
  refine go_aload_n dX0_hasHandsOf_3 0 rfl ?_
  refine go_getI (kf := 4) hB.1 rfl rfl uwX0 (by decide) flX0_28 dX0_hasHandsOf_4 ?_
  refine go_icmp_ge 33 dX0_hasHandsOf_7 (by decide) (fun q => ?_) (fun q => ?_)
  · have h := h.1 q
    refine go_iconst (v := 1) dX0_hasHandsOf_33 (by decide) ?_
    exact go_zret (ty := .boolean) rfl rfl dX0_hasHandsOf_34 h
  · have h := h.2 q
    refine go_aload_n dX0_hasHandsOf_10 0 rfl ?_
    refine go_getR (kf := 2) (t := (b + 3)) hB.1 rfl rfl uwX0 (by decide) flX0_18 dX0_hasHandsOf_11 ?_
    refine go_iload_n dX0_hasHandsOf_14 2 rfl ?_
    obtain ⟨c1, h⟩ := h
    refine go_iaload hB.2.2.2.1 c1 dX0_hasHandsOf_15 ?_
    refine go_aload_n dX0_hasHandsOf_16 1 rfl ?_
    refine go_getR (kf := 2) (t := (o + 3)) hO.1 rfl rfl uwX0 (by decide) flX0_18 dX0_hasHandsOf_17 ?_
    refine go_iload_n dX0_hasHandsOf_20 2 rfl ?_
    refine go_iaload hO.2.2.2.1 c1 dX0_hasHandsOf_21 ?_
    refine go_icmp_eq 27 dX0_hasHandsOf_22 (by decide) (fun q => ?_) (fun q => ?_)
    · have h := h.1 q
      refine go_iinc (v := ((nI i) + 1)) (L2 := [(2, .int ((nI i) + 1)), (0, .ref b), (1, .ref o)]) dX0_hasHandsOf_27 2 rfl rfl (by decide) rfl ?_
      refine go_goto 2 dX0_hasHandsOf_30 (by decide) ?_
      exact Go.pick [1, 2, 0] rfl h
    · have h := h.2 q
      refine go_iconst (v := 0) dX0_hasHandsOf_25 (by decide) ?_
      exact go_zret (ty := .boolean) rfl rfl dX0_hasHandsOf_26 h

set_option maxRecDepth 100000 in
theorem sX0_stepHeld_0 {G : GX} {d : Nat} {mem : Mem} {Φ : Option Value → Mem → Prop} (b : Nat) (hB : BeamAt b) (n : Nat) (hd : Int32) (h : Go G (d + 4) mX0_stepHeld 5 [(0, .ref b), (1, .int (nI n)), (2, .int hd), (3, .int 0), (4, .int 0)] [] mem Φ) : Go G (d + 4) mX0_stepHeld 0 [(0, .ref b), (1, .int (nI n)), (2, .int hd)] [] mem Φ := by
  refine go_iconst (v := 0) dX0_stepHeld_0 (by decide) ?_
  refine go_istore_n (L2 := [(3, .int 0), (0, .ref b), (1, .int (nI n)), (2, .int hd)]) dX0_stepHeld_1 (by decide) rfl ?_
  refine go_iconst (v := 0) dX0_stepHeld_2 (by decide) ?_
  refine go_istore (L2 := [(4, .int 0), (3, .int 0), (0, .ref b), (1, .int (nI n)), (2, .int hd)]) dX0_stepHeld_3 (by decide) rfl ?_
  exact Go.pick [2, 3, 4, 1, 0] rfl h

set_option maxRecDepth 100000 in
theorem sX0_stepHeld_5 {G : GX} {d : Nat} {mem : Mem} {Φ : Option Value → Mem → Prop} (b : Nat) (hB : BeamAt b) (n : Nat) (hd : Int32) (a i : Nat) (X : Bm) (B : Nat) (h : (((nI n) ≤ (nI i) → Φ (some (.int (nI a))) mem) ∧ (¬ (nI n) ≤ (nI i) → ((32 ≤ (nI i) → (VX 9 B X) ∧ (RepB mem b X) ∧ ∀ m3 : Mem, (RepB m3 b (tkX 9 false X) ∧ FrB b mem m3) → ∀ y4 : Int32, y4 = ((nI a) + (bcI (nI (who 9 X)))) → Go G (d + 4) mX0_stepHeld 5 [(0, .ref b), (1, .int (nI n)), (2, .int hd), (3, .int y4), (4, .int ((nI i) + 1))] [] m3 Φ) ∧ (¬ 32 ≤ (nI i) → ((¬ (¬ ((hd >>> ((nI i) &&& 31)) &&& 1) = 0) → (VX 9 B X) ∧ (RepB mem b X) ∧ ∀ m7 : Mem, (RepB m7 b (tkX 9 false X) ∧ FrB b mem m7) → ∀ y8 : Int32, y8 = ((nI a) + (bcI (nI (who 9 X)))) → Go G (d + 4) mX0_stepHeld 5 [(0, .ref b), (1, .int (nI n)), (2, .int hd), (3, .int y8), (4, .int ((nI i) + 1))] [] m7 Φ) ∧ (¬ ((hd >>> ((nI i) &&& 31)) &&& 1) = 0 → (VX 9 B X) ∧ (RepB mem b X) ∧ ∀ m11 : Mem, (RepB m11 b (tkX 9 true X) ∧ FrB b mem m11) → ∀ y12 : Int32, y12 = ((nI a) + (bcI (nI (who 9 X)))) → Go G (d + 4) mX0_stepHeld 5 [(0, .ref b), (1, .int (nI n)), (2, .int hd), (3, .int y12), (4, .int ((nI i) + 1))] [] m11 Φ))))))) : Go G (d + 4) mX0_stepHeld 5 [(0, .ref b), (1, .int (nI n)), (2, .int hd), (3, .int (nI a)), (4, .int (nI i))] [] mem Φ := by
  refine go_iload dX0_stepHeld_5 4 rfl ?_
  refine go_iload_n dX0_stepHeld_7 1 rfl ?_
  refine go_icmp_ge 48 dX0_stepHeld_8 (by decide) (fun q => ?_) (fun q => ?_)
  · have h := h.1 q
    refine go_iload_n dX0_stepHeld_48 3 rfl ?_
    exact go_iret rfl dX0_stepHeld_49 h
  · have h := h.2 q
    refine go_iload_n dX0_stepHeld_11 3 rfl ?_
    refine go_aload_n dX0_stepHeld_12 0 rfl ?_
    refine go_iload dX0_stepHeld_13 4 rfl ?_
    refine go_bipush (v := 32) dX0_stepHeld_15 (by decide) ?_
    refine go_icmp_ge 33 dX0_stepHeld_17 (by decide) (fun q => ?_) (fun q => ?_)
    · have h := h.1 q
      refine go_iconst (v := 0) dX0_stepHeld_33 (by decide) ?_
      obtain ⟨c1, h⟩ := h
      obtain ⟨c2, h⟩ := h
      refine go_callV (st := [.int (nI a)]) (kX0_step (d + 0) b hB X false B c1 c2) hB.1 rfl okX0_step insX0_step selX0_step lkX0_88 rfl rfl (Nat.le_of_ble_eq_true rfl) dX0_stepHeld_34 (fun v_ m3 q => ?_)
      rw [q.1]
      have h := h m3 q.2
      refine go_stk (st2 := [.int (nI (who 9 X)), .int (nI a)]) rfl ?_
      refine go_callS (st := [.int (nI a)]) (kJ6_bitCount_0f7a4 (d + 3) (nI (who 9 X))) okJ6_bitCount_0f7a4 staJ6_bitCount_0f7a4 lkX0_71 rfl rfl (Nat.le_of_ble_eq_true rfl) dX0_stepHeld_37 (fun v_ m2_ q => ?_)
      rw [q.1, q.2]
      refine go_stk (st2 := [.int (bcI (nI (who 9 X))), .int (nI a)]) rfl ?_
      refine go_iadd dX0_stepHeld_40 ?_
      refine go_topi (fun y4 qy4 => ?_)
      have h := h y4 qy4
      refine go_istore_n (L2 := [(3, .int y4), (0, .ref b), (1, .int (nI n)), (2, .int hd), (4, .int (nI i))]) dX0_stepHeld_41 (by decide) rfl ?_
      refine go_iinc (v := ((nI i) + 1)) (L2 := [(4, .int ((nI i) + 1)), (3, .int y4), (0, .ref b), (1, .int (nI n)), (2, .int hd)]) dX0_stepHeld_42 4 rfl rfl (by decide) rfl ?_
      refine go_goto 5 dX0_stepHeld_45 (by decide) ?_
      exact Go.pick [2, 3, 4, 1, 0] rfl h
    · have h := h.2 q
      refine go_iload_n dX0_stepHeld_20 2 rfl ?_
      refine go_iload dX0_stepHeld_21 4 rfl ?_
      refine go_callSN (st := [.ref b, .int (nI a)]) (kX5_isBitSet (d + 3) hd (nI i)) okX5_isBitSet staX5_isBitSet (fun U h => h.2.1) rfl rfl (Nat.le_of_ble_eq_true rfl) dX0_stepHeld_23 (fun v_ m2_ q => ?_)
      rw [q.1, q.2]
      refine go_stk (st2 := [.int (bI (¬ ((hd >>> ((nI i) &&& 31)) &&& 1) = 0)), .ref b, .int (nI a)]) rfl ?_
      refine go_if_eq 33 dX0_stepHeld_26 (by decide) (fun q => ?_) (fun q => ?_)
      · have h := h.1 (bI0.mp q)
        refine go_iconst (v := 0) dX0_stepHeld_33 (by decide) ?_
        obtain ⟨c5, h⟩ := h
        obtain ⟨c6, h⟩ := h
        refine go_callV (st := [.int (nI a)]) (kX0_step (d + 0) b hB X false B c5 c6) hB.1 rfl okX0_step insX0_step selX0_step lkX0_88 rfl rfl (Nat.le_of_ble_eq_true rfl) dX0_stepHeld_34 (fun v_ m7 q => ?_)
        rw [q.1]
        have h := h m7 q.2
        refine go_stk (st2 := [.int (nI (who 9 X)), .int (nI a)]) rfl ?_
        refine go_callS (st := [.int (nI a)]) (kJ6_bitCount_0f7a4 (d + 3) (nI (who 9 X))) okJ6_bitCount_0f7a4 staJ6_bitCount_0f7a4 lkX0_71 rfl rfl (Nat.le_of_ble_eq_true rfl) dX0_stepHeld_37 (fun v_ m2_ q => ?_)
        rw [q.1, q.2]
        refine go_stk (st2 := [.int (bcI (nI (who 9 X))), .int (nI a)]) rfl ?_
        refine go_iadd dX0_stepHeld_40 ?_
        refine go_topi (fun y8 qy8 => ?_)
        have h := h y8 qy8
        refine go_istore_n (L2 := [(3, .int y8), (0, .ref b), (1, .int (nI n)), (2, .int hd), (4, .int (nI i))]) dX0_stepHeld_41 (by decide) rfl ?_
        refine go_iinc (v := ((nI i) + 1)) (L2 := [(4, .int ((nI i) + 1)), (3, .int y8), (0, .ref b), (1, .int (nI n)), (2, .int hd)]) dX0_stepHeld_42 4 rfl rfl (by decide) rfl ?_
        refine go_goto 5 dX0_stepHeld_45 (by decide) ?_
        exact Go.pick [2, 3, 4, 1, 0] rfl h
      · have h := h.2 (bI1.mp q)
        refine go_iconst (v := 1) dX0_stepHeld_29 (by decide) ?_
        refine go_goto 34 dX0_stepHeld_30 (by decide) ?_
        obtain ⟨c9, h⟩ := h
        obtain ⟨c10, h⟩ := h
        refine go_callV (st := [.int (nI a)]) (kX0_step (d + 0) b hB X true B c9 c10) hB.1 rfl okX0_step insX0_step selX0_step lkX0_88 rfl rfl (Nat.le_of_ble_eq_true rfl) dX0_stepHeld_34 (fun v_ m11 q => ?_)
        rw [q.1]
        have h := h m11 q.2
        refine go_stk (st2 := [.int (nI (who 9 X)), .int (nI a)]) rfl ?_
        refine go_callS (st := [.int (nI a)]) (kJ6_bitCount_0f7a4 (d + 3) (nI (who 9 X))) okJ6_bitCount_0f7a4 staJ6_bitCount_0f7a4 lkX0_71 rfl rfl (Nat.le_of_ble_eq_true rfl) dX0_stepHeld_37 (fun v_ m2_ q => ?_)
        rw [q.1, q.2]
        refine go_stk (st2 := [.int (bcI (nI (who 9 X))), .int (nI a)]) rfl ?_
        refine go_iadd dX0_stepHeld_40 ?_
        refine go_topi (fun y12 qy12 => ?_)
        have h := h y12 qy12
        refine go_istore_n (L2 := [(3, .int y12), (0, .ref b), (1, .int (nI n)), (2, .int hd), (4, .int (nI i))]) dX0_stepHeld_41 (by decide) rfl ?_
        refine go_iinc (v := ((nI i) + 1)) (L2 := [(4, .int ((nI i) + 1)), (3, .int y12), (0, .ref b), (1, .int (nI n)), (2, .int hd)]) dX0_stepHeld_42 4 rfl rfl (by decide) rfl ?_
        refine go_goto 5 dX0_stepHeld_45 (by decide) ?_
        exact Go.pick [2, 3, 4, 1, 0] rfl h

set_option maxRecDepth 100000 in
theorem sX0_firstTogether_0 {G : GX} {d : Nat} {mem : Mem} {Φ : Option Value → Mem → Prop} (b : Nat) (hB : BeamAt b) (la : Int32) (h : ((¬ (mem b 4) = 0 → ∀ y1 : Int32, y1 = ((1 <<< ((mem b 4) &&& 31)) - 1) → Go G (d + 4) mX0_firstTogether 17 [(0, .ref b), (1, .int la), (2, .int y1), (3, .int 0)] [] mem Φ) ∧ ((mem b 4) = 0 → Φ (some (.int (-4))) mem))) : Go G (d + 4) mX0_firstTogether 0 [(0, .ref b), (1, .int la)] [] mem Φ := by
  refine go_aload_n dX0_firstTogether_0 0 rfl ?_
  refine go_getI (kf := 4) hB.1 rfl rfl uwX0 (by decide) flX0_28 dX0_firstTogether_1 ?_
  refine go_if_ne 10 dX0_firstTogether_4 (by decide) (fun q => ?_) (fun q => ?_)
  · have h := h.1 q
    refine go_aload_n dX0_firstTogether_10 0 rfl ?_
    refine go_callV (st := []) (kX0_everyClock (d + 3) b hB) hB.1 rfl okX0_everyClock insX0_everyClock selX0_everyClock lkX0_92 rfl rfl (Nat.le_of_ble_eq_true rfl) dX0_firstTogether_11 (fun v_ m2_ q => ?_)
    rw [q.1, q.2]
    refine go_stk (st2 := [.int ((1 <<< ((mem b 4) &&& 31)) - 1)]) rfl ?_
    refine go_topi (fun y1 qy1 => ?_)
    have h := h y1 qy1
    refine go_istore_n (L2 := [(2, .int y1), (0, .ref b), (1, .int la)]) dX0_firstTogether_14 (by decide) rfl ?_
    refine go_iconst (v := 0) dX0_firstTogether_15 (by decide) ?_
    refine go_istore_n (L2 := [(3, .int 0), (2, .int y1), (0, .ref b), (1, .int la)]) dX0_firstTogether_16 (by decide) rfl ?_
    exact Go.pick [2, 3, 1, 0] rfl h
  · have h := h.2 q
    refine go_bipush (v := (-4)) dX0_firstTogether_7 (by decide) ?_
    exact go_iret rfl dX0_firstTogether_9 h

set_option maxRecDepth 100000 in
theorem sX0_firstTogether_17 {G : GX} {d : Nat} {mem : Mem} {Φ : Option Value → Mem → Prop} (b : Nat) (hB : BeamAt b) (la al : Int32) (i : Nat) (X : Bm) (B : Nat) (h : ((la < (nI i) → Φ (some (.int (-4))) mem) ∧ (¬ la < (nI i) → (VX 9 B X) ∧ (RepB mem b X) ∧ ∀ m3 : Mem, (RepB m3 b (tkX 9 false X) ∧ FrB b mem m3) → ((¬ (nI (who 9 X)) = al → Go G (d + 4) mX0_firstTogether 17 [(0, .ref b), (1, .int la), (2, .int al), (3, .int ((nI i) + 1))] [] m3 Φ) ∧ ((nI (who 9 X)) = al → Φ (some (.int (nI i))) m3))))) : Go G (d + 4) mX0_firstTogether 17 [(0, .ref b), (1, .int la), (2, .int al), (3, .int (nI i))] [] mem Φ := by
  refine go_iload_n dX0_firstTogether_17 3 rfl ?_
  refine go_iload_n dX0_firstTogether_18 1 rfl ?_
  refine go_icmp_gt 39 dX0_firstTogether_19 (by decide) (fun q => ?_) (fun q => ?_)
  · have h := h.1 q
    refine go_bipush (v := (-4)) dX0_firstTogether_39 (by decide) ?_
    exact go_iret rfl dX0_firstTogether_41 h
  · have h := h.2 q
    refine go_aload_n dX0_firstTogether_22 0 rfl ?_
    refine go_iconst (v := 0) dX0_firstTogether_23 (by decide) ?_
    obtain ⟨c1, h⟩ := h
    obtain ⟨c2, h⟩ := h
    refine go_callV (st := []) (kX0_step (d + 0) b hB X false B c1 c2) hB.1 rfl okX0_step insX0_step selX0_step lkX0_88 rfl rfl (Nat.le_of_ble_eq_true rfl) dX0_firstTogether_24 (fun v_ m3 q => ?_)
    rw [q.1]
    have h := h m3 q.2
    refine go_stk (st2 := [.int (nI (who 9 X))]) rfl ?_
    refine go_iload_n dX0_firstTogether_27 2 rfl ?_
    refine go_icmp_ne 33 dX0_firstTogether_28 (by decide) (fun q => ?_) (fun q => ?_)
    · have h := h.1 q
      refine go_iinc (v := ((nI i) + 1)) (L2 := [(3, .int ((nI i) + 1)), (0, .ref b), (1, .int la), (2, .int al)]) dX0_firstTogether_33 3 rfl rfl (by decide) rfl ?_
      refine go_goto 17 dX0_firstTogether_36 (by decide) ?_
      exact Go.pick [1, 2, 3, 0] rfl h
    · have h := h.2 q
      refine go_iload_n dX0_firstTogether_31 3 rfl ?_
      exact go_iret rfl dX0_firstTogether_32 h


theorem z0 : (0 : Int32).toNatClampNeg = 0 := by decide
theorem z5 : (5 : Int32).toNatClampNeg = 5 := by decide
theorem kX0_empty {G : GX} (d : Nat) {mem : Mem} (b : Nat) (hB : BeamAt b) : Cn G (d + 0) mX0_empty [.ref b] mem (Rv (fun m2 => m2 = um (um (um mem b 4 0) b 5 1) b 6 0)) :=
  cn_of (by decide +kernel) (Nat.le_of_ble_eq_true rfl) (sX0_empty_0 b hB ⟨rfl, rfl⟩)
theorem cpy5 {f g : Nat → Int32} {c : Nat} (h : c < 5) : va_cpy f g 0 0 5 c = f c := by
  rw [pk_cpy_in (Nat.zero_le c) (by omega)]
  congr 1
  omega
set_option maxHeartbeats 4000000 in
theorem kX0_takeFrom {G : GX} (d : Nat) {mem : Mem} (b : Nat) (hB : BeamAt b) (o : Nat) (hO : BeamAt o) (X : Bm) (hd : b + 4 < o ∨ o + 4 < b) (hn : xn X ≤ 5) (hR : RepB mem o X) : Cn G (d + 1) mX0_takeFrom [.ref b, .ref o] mem (Rv (fun m2 => RepB m2 b X ∧ FrB b mem m2)) := by
  refine cn_of (by decide +kernel) (Nat.le_of_ble_eq_true rfl) (sX0_takeFrom_0 b hB o hO ?_)
  rw [z0, z5]
  intro m1 h1 m2 h2 m3 h3 m4 h4 m5 h5
  have fo : ∀ k, (k < b ∨ b + 4 < k) → m1 k = mem k ∧ m2 k = mem k ∧ m3 k = mem k ∧ m4 k = mem k ∧ m5 k = mem k := fun k hk => by
    have a1 : m1 k = mem k := by rw [h1, um_ne (by omega), um_ne (by omega)]
    have a2 : m2 k = mem k := by rw [h2, um0_ne (by omega), um_ne (by omega), a1]
    have a3 : m3 k = mem k := by rw [h3, um0_ne (by omega), a2]
    have a4 : m4 k = mem k := by rw [h4, um0_ne (by omega), a3]
    exact ⟨a1, a2, a3, a4, by rw [h5, um0_ne (by omega), a4]⟩
  have eb : m5 b = um m1 b 6 (m1 o 6) b := by rw [h5, um0_ne (by omega), h4, um0_ne (by omega), h3, um0_ne (by omega), h2, um0_ne (by omega)]
  refine ⟨rfl, ⟨?_, ?_, ?_, fun c hc => ⟨?_, ?_, ?_, ?_⟩⟩, fun k hk => (fo k hk).2.2.2.2⟩
  · rw [eb, um_at, if_neg (by decide), h1, um_at, if_neg (by decide), um_at, if_pos rfl]; exact hR.1
  · rw [eb, um_at, if_neg (by decide), h1, um_at, if_pos rfl, um_ne (by omega)]; exact hR.2.1
  · rw [eb, um_at, if_pos rfl, (fo o (by omega)).1]; exact hR.2.2.1
  · rw [h5, um0_ne (by omega), h4, um0_ne (by omega), h3, um0_ne (by omega), h2, um0_self, cpy5 (by omega), um_ne (by omega), (fo (o + 1) (by omega)).1]; exact (hR.2.2.2 c hc).1
  · rw [h5, um0_ne (by omega), h4, um0_ne (by omega), h3, um0_self, cpy5 (by omega), (fo (o + 2) (by omega)).2.1]; exact (hR.2.2.2 c hc).2.1
  · rw [h5, um0_ne (by omega), h4, um0_self, cpy5 (by omega), (fo (o + 3) (by omega)).2.2.1]; exact (hR.2.2.2 c hc).2.2.1
  · rw [h5, um0_self, cpy5 (by omega), (fo (o + 4) (by omega)).2.2.2.1]; exact (hR.2.2.2 c hc).2.2.2
def upN (f : Nat → Nat) (c v : Nat) : Nat → Nat := fun j => if j = c then v else f j
def addX (X : Bm) (k p h : Nat) : Bm := (xn X + 1, upN (xk X) (xn X) k, upN (xp X) (xn X) p, upN (xh X) (xn X) h, upN (xe X) (xn X) 0, xu X, xt X)
theorem upd_rep {m2 m : Mem} {k n c v : Nat} {f : Nat → Nat} (h : ∀ j, j < n → m k j = nI (f j)) (e : m2 k = um m k c (nI v) k) : ∀ j, (j < n ∨ j = c) → m2 k j = nI (upN f c v j) := by
  intro j hj
  rw [e, um_at]
  unfold upN
  by_cases q : j = c
  · rw [if_pos q, if_pos q]
  · rw [if_neg q, if_neg q, h j (by omega)]
set_option maxHeartbeats 4000000 in
theorem kX0_addClock {G : GX} (d : Nat) {mem : Mem} (b : Nat) (hB : BeamAt b) (k p h : Nat) (X : Bm) (hn : xn X < 5) (hR : RepB mem b X) : Cn G (d + 0) mX0_addClock [.ref b, .int (nI k), .int (nI p), .int (nI h)] mem (Rv (fun m2 => RepB m2 b (addX X k p h) ∧ FrB b mem m2)) := by
  refine cn_of (by decide +kernel) (Nat.le_of_ble_eq_true rfl) (sX0_addClock_0 b hB (nI k) (nI p) (nI h) ⟨fun _ => ?_, fun q => absurd (by rw [hR.1]; exact (nlt (b := 5) (by omega) (by omega)).mpr hn) q⟩)
  have ci : (nI (xn X)).toNatClampNeg = xn X := ncl (by omega)
  have hin : vp_in (nI (xn X)) 5 := nin hn (by omega)
  rw [hR.1, ci]
  refine ⟨hin, fun m2 h2 => ?_⟩
  have e2 : m2 b 4 = nI (xn X) := by rw [h2, um_ne (by omega)]; exact hR.1
  rw [e2, ci]
  refine ⟨hin, fun m4 h4 => ?_⟩
  have e4 : m4 b 4 = nI (xn X) := by rw [h4, um_ne (by omega)]; exact e2
  rw [e4, ci]
  refine ⟨hin, fun m6 h6 => ?_⟩
  have e6 : m6 b 4 = nI (xn X) := by rw [h6, um_ne (by omega)]; exact e4
  rw [e6, ci]
  refine ⟨hin, fun m8 h8 => ?_⟩
  have e8 : m8 b 4 = nI (xn X) := by rw [h8, um_ne (by omega)]; exact e6
  have f8 : ∀ q, (q < b + 1 ∨ b + 4 < q) → m8 q = mem q := fun q hq => by rw [h8, um_ne (by omega), h6, um_ne (by omega), h4, um_ne (by omega), h2, um_ne (by omega)]
  rw [e8, nI_1]
  refine ⟨rfl, ⟨?_, ?_, ?_, fun c hc => ?_⟩, fun q hq => by rw [um_ne (by omega)]; exact f8 q (by omega)⟩
  · rw [um_at, if_pos rfl]; rfl
  · rw [um_at, if_neg (by decide), f8 b (by omega)]; exact hR.2.1
  · rw [um_at, if_neg (by decide), f8 b (by omega)]; exact hR.2.2.1
  · rw [um_ne (by omega), um_ne (by omega), um_ne (by omega), um_ne (by omega)]
    have hc2 : c < xn X ∨ c = xn X := by have : c < xn X + 1 := hc; omega
    refine ⟨upd_rep (m := mem) (fun j hj => (hR.2.2.2 j hj).1) ?_ c hc2, upd_rep (m := m2) (f := xp X) (fun j hj => ?_) ?_ c hc2, upd_rep (m := m4) (f := xh X) (fun j hj => ?_) ?_ c hc2, upd_rep (m := m6) (f := xe X) (v := 0) (fun j hj => ?_) ?_ c hc2⟩
    · rw [h8, um_ne (by omega), h6, um_ne (by omega), h4, um_ne (by omega), h2]
    · rw [h2, um_ne (by omega)]; exact (hR.2.2.2 j hj).2.1
    · rw [h8, um_ne (by omega), h6, um_ne (by omega), h4]
    · rw [h4, um_ne (by omega), h2, um_ne (by omega)]; exact (hR.2.2.2 j hj).2.2.1
    · rw [h8, um_ne (by omega), h6]
    · rw [h6, um_ne (by omega), h4, um_ne (by omega), h2, um_ne (by omega)]; exact (hR.2.2.2 j hj).2.2.2
    · rw [h8]; rfl
theorem ev_n : ∀ n, n < 6 → ((1 : Int32) <<< (nI n &&& 31)) - 1 = nI (2 ^ n - 1) := by decide +kernel
def smF (f : Nat → Nat) : Nat → Nat
  | 0 => 0
  | i + 1 => smF f i + f i
theorem lX0_sumOfHands {G : GX} {d : Nat} (b : Nat) (hB : BeamAt b) {X : Bm} (hn : xn X ≤ 5) {mem : Mem} (hR : RepB mem b X) : ∀ r i, i + r = xn X → Go G (d + 0) mX0_sumOfHands 4 [(0, .ref b), (1, .int (nI (smF (xh X) i))), (2, .int (nI i))] [] mem (Ri (nI (smF (xh X) (xn X))) (fun m2 => m2 = mem)) := by
  intro r
  induction r with
  | zero =>
    intro i hi
    have hi2 : i = xn X := by omega
    rw [hi2]
    exact sX0_sumOfHands_4 b hB _ _ ⟨fun _ => ⟨rfl, rfl⟩, fun q => absurd (by rw [hR.1]; exact Int32.le_refl _) q⟩
  | succ r ih =>
    intro i hi
    refine sX0_sumOfHands_4 b hB _ _ ⟨fun q => absurd ((nle (by omega) (by omega)).mp (hR.1 ▸ q)) (by omega), fun _ => ⟨nin (by omega) (by omega), ?_⟩⟩
    rw [ncl (by omega), (hR.2.2.2 i (by omega)).2.2.1, nI_add, nI_1]
    intro y hy
    rw [hy]
    exact ih (i + 1) (by omega)
theorem kX0_sumOfHands {G : GX} (d : Nat) {mem : Mem} (b : Nat) (hB : BeamAt b) (X : Bm) (hn : xn X ≤ 5) (hR : RepB mem b X) : Cn G (d + 0) mX0_sumOfHands [.ref b] mem (Ri (nI (smF (xh X) (xn X))) (fun m2 => m2 = mem)) :=
  cn_of (by decide +kernel) (Nat.le_of_ble_eq_true rfl) (sX0_sumOfHands_0 b hB (lX0_sumOfHands b hB hn hR (xn X) 0 (by omega)))
/-- the first that is so, of the first N -/
def ftF (P : Nat → Bool) : Nat → Option Nat
  | 0 => none
  | N + 1 => match ftF P N with
    | some t => some t
    | none => if P N = true then some N else none
theorem ftF_none {P : Nat → Bool} : ∀ {N : Nat}, (∀ s, s < N → ¬ P s = true) → ftF P N = none
  | 0, _ => rfl
  | N + 1, h => by
    unfold ftF
    rw [ftF_none (fun s hs => h s (by omega))]
    exact if_neg (h N (by omega))
theorem ftF_some {P : Nat → Bool} {t : Nat} (ht : P t = true) (hs : ∀ s, s < t → ¬ P s = true) : ∀ {N : Nat}, t < N → ftF P N = some t
  | 0, h => by omega
  | N + 1, h => by
    unfold ftF
    rcases Nat.lt_or_ge t N with q | q
    · rw [ftF_some ht hs q]
    · have e : N = t := by omega
      rw [e, ftF_none hs]
      exact if_pos ht
theorem ftF_spec {P : Nat → Bool} : ∀ {N : Nat}, (ftF P N = none ∧ ∀ s, s < N → ¬ P s = true) ∨ ∃ t, t < N ∧ ftF P N = some t ∧ P t = true ∧ ∀ s, s < t → ¬ P s = true
  | 0 => Or.inl ⟨rfl, fun s hs => by omega⟩
  | N + 1 => by
    rcases ftF_spec (P := P) (N := N) with ⟨h1, h2⟩ | ⟨t, h1, h2, h3, h4⟩
    · by_cases q : P N = true
      · exact Or.inr ⟨N, by omega, ftF_some q h2 (by omega), q, h2⟩
      · have h3 : ∀ s, s < N + 1 → ¬ P s = true := fun s hs => by
          rcases Nat.lt_or_ge s N with z | z
          · exact h2 s z
          · have e : s = N := by omega
            rw [e]; exact q
        exact Or.inl ⟨ftF_none h3, h3⟩
    · exact Or.inr ⟨t, by omega, ftF_some h3 h4 (by omega), h3, h4⟩
def optI (o : Option Nat) : Int32 := match o with
  | none => -4
  | some t => nI t
/-- behind t ticks, held as hf says -/
def itX (g : Nat) (hf : Nat → Bool) (X : Bm) : Nat → Bm
  | 0 => X
  | t + 1 => tkX g (hf t) (itX g hf X t)
/-- how many beats are in t ticks -/
def smX (g : Nat) (hf : Nat → Bool) (X : Bm) : Nat → Nat
  | 0 => 0
  | t + 1 => smX g hf X t + many g (itX g hf X t)
def nof : Nat → Bool := fun _ => false
def togX (g : Nat) (X : Bm) : Bool := decide (many g X ≠ 0 ∧ ∀ c, c < xn X → c ≠ g → bt g X c = true)
theorem it_n {g : Nat} {hf : Nat → Bool} {X : Bm} : ∀ t, xn (itX g hf X t) = xn X
  | 0 => rfl
  | t + 1 => it_n (g := g) (hf := hf) (X := X) t
theorem VX_it {B : Nat} {hf : Nat → Bool} {X : Bm} (h : VX 9 B X) : ∀ t, VX 9 B (itX 9 hf X t)
  | 0 => h
  | t + 1 => VX9_tk (VX_it h t) _
theorem VXg_it {g B : Nat} {hf : Nat → Bool} {X : Bm} (h : VX g B X) (hB : 30 ≤ B) : ∀ t, VX g (B + t) (itX g hf X t)
  | 0 => h
  | t + 1 => VX_tk (VXg_it h hB t) (by omega) _
theorem tog9 {B : Nat} {X : Bm} (h : VX 9 B X) : togX 9 X = true ↔ (xn X ≠ 0 ∧ nI (who 9 X) = nI (2 ^ xn X - 1)) := by
  have hw := who_lt h
  have hp : 2 ^ xn X ≤ 2 ^ 5 := Nat.pow_le_pow_right (by decide) h.1
  have hp0 : 0 < 2 ^ xn X := Nat.two_pow_pos _
  unfold togX
  rw [decide_eq_true_iff, neq (by omega) (by omega)]
  have ha := whF_all (bt 9 X) (xn X)
  have hn := h.1
  constructor
  · intro ⟨h1, h2⟩
    have h3 : ∀ c, c < xn X → bt 9 X c = true := fun c hc => h2 c hc (by omega)
    have h4 := ha.mpr h3
    refine ⟨fun e => h1 ?_, ?_⟩
    · unfold many; rw [e]; rfl
    · unfold who; omega
  · intro ⟨h1, h2⟩
    have h3 := ha.mp (by unfold who at h2; omega)
    refine ⟨fun e => ?_, fun c hc _ => h3 c hc⟩
    have h4 := (ctF_zero (bt 9 X) (xn X)).mp e 0 (by omega)
    rw [h3 0 (by omega)] at h4
    cases h4
theorem nm1_lt {N t : Nat} (hN : N < 1000000) (ht : t < 1000000) : nI N - 1 < nI t ↔ N ≤ t := by
  rw [fa_lt, show (1 : Int32) = nI 1 from rfl, pk_sub_toInt (by omega) (by omega), nI_toInt (by omega)]
  omega
set_option maxHeartbeats 4000000 in
theorem lX0_firstTogether {G : GX} {d : Nat} (b : Nat) (hB : BeamAt b) {X : Bm} {B : Nat} (hV : VX 9 B X) (h0 : xn X ≠ 0) {mem0 : Mem} {N : Nat} (hN : N < 1000000) :
    ∀ (r i : Nat) (m : Mem), i + r = N → (∀ s, s < i → ¬ togX 9 (itX 9 nof X s) = true) → RepB m b (itX 9 nof X i) → FrB b mem0 m → Go G (d + 4) mX0_firstTogether 17 [(0, .ref b), (1, .int (nI N - 1)), (2, .int (nI (2 ^ xn X - 1))), (3, .int (nI i))] [] m (Ri (optI (ftF (fun t => togX 9 (itX 9 nof X t)) N)) (fun m2 => FrB b mem0 m2)) := by
  intro r
  induction r with
  | zero =>
    intro i m hi hs hR hF
    have hi2 : i = N := by omega
    refine sX0_firstTogether_17 b hB _ _ _ (itX 9 nof X i) B ⟨fun _ => ?_, fun q => absurd ((nm1_lt hN (by omega)).mpr (by omega)) q⟩
    rw [ftF_none (by rw [← hi2]; exact hs)]
    exact ⟨rfl, hF⟩
  | succ r ih =>
    intro i m hi hs hR hF
    have hVi := VX_it (hf := nof) hV i
    refine sX0_firstTogether_17 b hB _ _ _ (itX 9 nof X i) B ⟨fun q => absurd ((nm1_lt hN (by omega)).mp q) (by omega), fun _ => ⟨hVi, hR, fun m3 h3 => ?_⟩⟩
    have ht := tog9 hVi
    rw [it_n] at ht
    refine ⟨fun q => ?_, fun q => ?_⟩
    · rw [nI_1]
      exact ih (i + 1) m3 (by omega) (fun s hs2 => by
        rcases Nat.lt_or_ge s i with z | z
        · exact hs s z
        · have e : s = i := by omega
          rw [e]
          exact fun w => q (ht.mp w).2) h3.1 (hF.tr h3.2)
    · rw [ftF_some (t := i) (ht.mpr ⟨h0, q⟩) hs (by omega)]
      exact ⟨rfl, hF.tr h3.2⟩
theorem kX0_firstTogether {G : GX} (d : Nat) {mem : Mem} (b : Nat) (hB : BeamAt b) (N : Nat) (X : Bm) (B : Nat) (hN : N < 1000000) (hV : VX 9 B X) (hR : RepB mem b X) : Cn G (d + 4) mX0_firstTogether [.ref b, .int (nI N - 1)] mem (Ri (optI (ftF (fun t => togX 9 (itX 9 nof X t)) N)) (fun m2 => FrB b mem m2)) := by
  refine cn_of (by decide +kernel) (Nat.le_of_ble_eq_true rfl) (sX0_firstTogether_0 b hB (nI N - 1) ?_)
  rw [hR.1]
  have hn := hV.1
  refine ⟨fun q => ?_, fun q => ?_⟩
  · rw [ev_n _ (by omega)]
    intro y1 hy1
    rw [hy1]
    exact lX0_firstTogether b hB hV (fun e => q (by rw [e]; exact nI_0)) hN N 0 mem (by omega) (fun s hs => by omega) hR FrB.rf
  · have e : xn X = 0 := (neq (by omega) (by omega)).mp (q.trans nI_0.symm)
    rw [ftF_none (fun s _ z => by
      have h1 := (tog9 (VX_it (hf := nof) hV s)).mp z
      rw [it_n] at h1
      exact h1.1 e)]
    exact ⟨rfl, FrB.rf⟩
