set_option maxRecDepth 100000 in
theorem sX6_text_0 {G : GX} {d : Nat} {mem : Mem} {Φ : Option Value → Mem → Prop}  (h : Go G (d + 5) mX6_text 19 [(0, .ref 40), (1, .int 0), (2, .int 0)] [] (um (um (um mem 40 6 0) 40 8 0) 40 2 0) Φ) : Go G (d + 5) mX6_text 0 [(0, .ref 40)] [] mem Φ := by
  refine go_aload_n dX6_text_0 0 rfl ?_
  refine go_iconst (v := 0) dX6_text_1 (by decide) ?_
  refine go_putI (kf := 6) rfl rfl rfl uwX6 tyX6_ok nmX6 (by decide) rfl flX6_57 rfl rfl dX6_text_2 ?_
  refine go_aload_n dX6_text_5 0 rfl ?_
  refine go_iconst (v := 0) dX6_text_6 (by decide) ?_
  refine go_putI (kf := 8) rfl rfl rfl uwX6 tyX6_ok nmX6 (by decide) rfl flX6_69 rfl rfl dX6_text_7 ?_
  refine go_aload_n dX6_text_10 0 rfl ?_
  refine go_iconst (v := 0) dX6_text_11 (by decide) ?_
  refine go_putI (kf := 2) rfl rfl rfl uwX6 tyX6_ok nmX6 (by decide) rfl flX6_104 rfl rfl dX6_text_12 ?_
  refine go_iconst (v := 0) dX6_text_15 (by decide) ?_
  refine go_istore_n (L2 := [(1, .int 0), (0, .ref 40)]) dX6_text_16 (by decide) rfl ?_
  refine go_iconst (v := 0) dX6_text_17 (by decide) ?_
  refine go_istore_n (L2 := [(2, .int 0), (1, .int 0), (0, .ref 40)]) dX6_text_18 (by decide) rfl ?_
  exact Go.pick [2, 1, 0] rfl h

set_option maxRecDepth 100000 in
theorem sX6_text_19 {G : GX} {d : Nat} {mem : Mem} {Φ : Option Value → Mem → Prop} (n k : Nat) (h : ((23 ≤ (nI k) → Go G (d + 5) mX6_text 38 [(0, .ref 40), (1, .int (nI n))] [] mem Φ) ∧ (¬ 23 ≤ (nI k) → (vp_in (nI k) 23) ∧ Go G (d + 5) mX6_text 19 [(0, .ref 40), (1, .int (nI n)), (2, .int ((nI k) + 1))] [] (um mem 42 ((nI k) : Int32).toNatClampNeg 0) Φ))) : Go G (d + 5) mX6_text 19 [(0, .ref 40), (1, .int (nI n)), (2, .int (nI k))] [] mem Φ := by
  refine go_iload_n dX6_text_19 2 rfl ?_
  refine go_bipush (v := 23) dX6_text_20 (by decide) ?_
  refine go_icmp_ge 38 dX6_text_22 (by decide) (fun q => ?_) (fun q => ?_)
  · have h := h.1 q
    exact Go.pick [0, 1] rfl h
  · have h := h.2 q
    refine go_aload_n dX6_text_25 0 rfl ?_
    refine go_getR (kf := 1) (t := 42) rfl rfl rfl uwX6 (by decide) flX6_13 dX6_text_26 ?_
    refine go_iload_n dX6_text_29 2 rfl ?_
    refine go_iconst (v := 0) dX6_text_30 (by decide) ?_
    obtain ⟨c1, h⟩ := h
    refine go_iastore rfl c1 dX6_text_31 ?_
    refine go_iinc (v := ((nI k) + 1)) (L2 := [(2, .int ((nI k) + 1)), (0, .ref 40), (1, .int (nI n))]) dX6_text_32 2 rfl rfl (by decide) rfl ?_
    refine go_goto 19 dX6_text_35 (by decide) ?_
    exact Go.pick [1, 2, 0] rfl h

set_option maxRecDepth 100000 in
theorem sX6_text_38 {G : GX} {d : Nat} {mem : Mem} {Φ : Option Value → Mem → Prop} (n : Nat) (T : Tp) (h : (TpM mem T) ∧ (0 ≤ T.1) ∧ (mem 40 6 = 0 ∧ mem 40 8 = nI 0) ∧ ∀ m4 : Mem, NxM T (rnT T 32 32 0) mem m4 → Go G (d + 5) mX6_text 42 [(0, .ref 40), (1, .int (nI n))] [] m4 Φ) : Go G (d + 5) mX6_text 38 [(0, .ref 40), (1, .int (nI n))] [] mem Φ := by
  refine go_aload_n dX6_text_38 0 rfl ?_
  obtain ⟨c1, h⟩ := h
  obtain ⟨c2, h⟩ := h
  obtain ⟨c3, h⟩ := h
  refine go_callV (st := []) (kX6_step (d + 3) T 0 c1 c2 c3) rfl rfl okX6_step insX6_step selX6_step lkX6_91 rfl rfl (Nat.le_of_ble_eq_true rfl) dX6_text_39 (fun v_ m4 q => ?_)
  rw [q.1]
  have h := h m4 q.2
  refine go_stk (st2 := []) rfl ?_
  exact Go.pick [0, 1] rfl h

set_option maxRecDepth 100000 in
theorem sX6_text_42 {G : GX} {d : Nat} {mem : Mem} {Φ : Option Value → Mem → Prop} (n : Nat) (T : Tp) (s : Rs) (u : Nat) (X : Bm) (h : ((¬ (mem 40 6) = 0 → Go G (d + 5) mX6_text 66 [(0, .ref 40), (1, .int (nI n))] [] mem Φ) ∧ ((mem 40 6) = 0 → (((mem 40 10) = 0 → Go G (d + 5) mX6_text 66 [(0, .ref 40), (1, .int (nI n))] [] mem Φ) ∧ (¬ (mem 40 10) = 0 → (s.1 = 0) ∧ (u ≤ 1) ∧ (xn X ≤ 5) ∧ (C7 mem) ∧ (LsM T (s, u, X) mem) ∧ ∀ m6 : Mem, (LsM T (lx T (s, u, X)) m6 ∧ FrQ mem m6) → Go G (d + 5) mX6_text 42 [(0, .ref 40), (1, .int ((nI n) + 1))] [] m6 Φ))))) : Go G (d + 5) mX6_text 42 [(0, .ref 40), (1, .int (nI n))] [] mem Φ := by
  refine go_aload_n dX6_text_42 0 rfl ?_
  refine go_getI (kf := 6) rfl rfl rfl uwX6 (by decide) flX6_57 dX6_text_43 ?_
  refine go_if_ne 66 dX6_text_46 (by decide) (fun q => ?_) (fun q => ?_)
  · have h := h.1 q
    exact Go.pick [0, 1] rfl h
  · have h := h.2 q
    refine go_aload_n dX6_text_49 0 rfl ?_
    refine go_getI (kf := 10) rfl rfl rfl uwX6 (by decide) flX6_66 dX6_text_50 ?_
    refine go_if_eq 66 dX6_text_53 (by decide) (fun q => ?_) (fun q => ?_)
    · have h := h.1 q
      exact Go.pick [0, 1] rfl h
    · have h := h.2 q
      refine go_aload_n dX6_text_56 0 rfl ?_
      obtain ⟨c1, h⟩ := h
      obtain ⟨c2, h⟩ := h
      obtain ⟨c3, h⟩ := h
      obtain ⟨c4, h⟩ := h
      obtain ⟨c5, h⟩ := h
      refine go_callV (st := []) (kX6_readLine (d + 0) T s u X c1 c2 c3 c4 c5) rfl rfl okX6_readLine insX6_readLine selX6_readLine lkX6_111 rfl rfl (Nat.le_of_ble_eq_true rfl) dX6_text_57 (fun v_ m6 q => ?_)
      rw [q.1]
      have h := h m6 q.2
      refine go_stk (st2 := []) rfl ?_
      refine go_iinc (v := ((nI n) + 1)) (L2 := [(1, .int ((nI n) + 1)), (0, .ref 40)]) dX6_text_60 1 rfl rfl (by decide) rfl ?_
      refine go_goto 42 dX6_text_63 (by decide) ?_
      exact Go.pick [1, 0] rfl h

set_option maxRecDepth 100000 in
theorem sX6_text_66 {G : GX} {d : Nat} {mem : Mem} {Φ : Option Value → Mem → Prop} (n : Nat) (h : ∀ m1 : Mem, m1 = (um (um mem 40 4 0) 40 5 ((um mem 40 4 0) 40 6)) → (((m1 40 6) ≤ 0 → Go G (d + 5) mX6_text 96 [(0, .ref 40), (1, .int (nI n)), (2, .int 0)] [] m1 Φ) ∧ (¬ (m1 40 6) ≤ 0 → Φ (some (.int ((-10) - (m1 40 7)))) m1))) : Go G (d + 5) mX6_text 66 [(0, .ref 40), (1, .int (nI n))] [] mem Φ := by
  refine go_aload_n dX6_text_66 0 rfl ?_
  refine go_iconst (v := 0) dX6_text_67 (by decide) ?_
  refine go_putI (kf := 4) rfl rfl rfl uwX6 tyX6_ok nmX6 (by decide) rfl flX6_54 rfl rfl dX6_text_68 ?_
  refine go_aload_n dX6_text_71 0 rfl ?_
  refine go_aload_n dX6_text_72 0 rfl ?_
  refine go_getI (kf := 6) rfl rfl rfl uwX6 (by decide) flX6_57 dX6_text_73 ?_
  refine go_putI (kf := 5) rfl rfl rfl uwX6 tyX6_ok nmX6 (by decide) rfl flX6_114 rfl rfl dX6_text_76 ?_
  refine go_mem (fun m1 qm1 => ?_)
  have h := h m1 qm1
  refine go_aload_n dX6_text_79 0 rfl ?_
  refine go_getI (kf := 6) rfl rfl rfl uwX6 (by decide) flX6_57 dX6_text_80 ?_
  refine go_if_le 94 dX6_text_83 (by decide) (fun q => ?_) (fun q => ?_)
  · have h := h.1 q
    refine go_iconst (v := 0) dX6_text_94 (by decide) ?_
    refine go_istore_n (L2 := [(2, .int 0), (0, .ref 40), (1, .int (nI n))]) dX6_text_95 (by decide) rfl ?_
    exact Go.pick [1, 2, 0] rfl h
  · have h := h.2 q
    refine go_bipush (v := (-10)) dX6_text_86 (by decide) ?_
    refine go_aload_n dX6_text_88 0 rfl ?_
    refine go_getI (kf := 7) rfl rfl rfl uwX6 (by decide) flX6_63 dX6_text_89 ?_
    refine go_isub dX6_text_92 ?_
    exact go_iret rfl dX6_text_93 h

set_option maxRecDepth 100000 in
theorem sX6_text_96 {G : GX} {d : Nat} {mem : Mem} {Φ : Option Value → Mem → Prop} (n k : Nat) (h : ((23 ≤ (nI k) → ∀ m1 : Mem, m1 = (um (um mem 40 19 0) 48 (0 : Int32).toNatClampNeg (vp_nar .boolean 0)) → ∀ m2 : Mem, m2 = (um m1 48 (1 : Int32).toNatClampNeg (vp_nar .boolean 0)) → Φ (some (.int (nI n))) m2) ∧ (¬ 23 ≤ (nI k) → (vp_in (nI k) 23) ∧ (vp_in (nI k) 138) ∧ ∀ m5 : Mem, m5 = (um mem 41 ((nI k) : Int32).toNatClampNeg (mem 42 ((nI k) : Int32).toNatClampNeg)) → Go G (d + 5) mX6_text 96 [(0, .ref 40), (1, .int (nI n)), (2, .int ((nI k) + 1))] [] m5 Φ))) : Go G (d + 5) mX6_text 96 [(0, .ref 40), (1, .int (nI n)), (2, .int (nI k))] [] mem Φ := by
  refine go_iload_n dX6_text_96 2 rfl ?_
  refine go_bipush (v := 23) dX6_text_97 (by decide) ?_
  refine go_icmp_ge 120 dX6_text_99 (by decide) (fun q => ?_) (fun q => ?_)
  · have h := h.1 q
    refine go_aload_n dX6_text_120 0 rfl ?_
    refine go_iconst (v := 0) dX6_text_121 (by decide) ?_
    refine go_putI (kf := 19) rfl rfl rfl uwX6 tyX6_ok nmX6 (by decide) rfl flX6_117 rfl rfl dX6_text_122 ?_
    refine go_aload_n dX6_text_125 0 rfl ?_
    refine go_getR (kf := 21) (t := 48) rfl rfl rfl uwX6 (by decide) flX6_35 dX6_text_126 ?_
    refine go_iconst (v := 0) dX6_text_129 (by decide) ?_
    refine go_iconst (v := 0) dX6_text_130 (by decide) ?_
    refine go_zastore rfl (nin (a := 0) (by decide) (by decide)) dX6_text_131 ?_
    refine go_mem (fun m1 qm1 => ?_)
    have h := h m1 qm1
    refine go_aload_n dX6_text_132 0 rfl ?_
    refine go_getR (kf := 21) (t := 48) rfl rfl rfl uwX6 (by decide) flX6_35 dX6_text_133 ?_
    refine go_iconst (v := 1) dX6_text_136 (by decide) ?_
    refine go_iconst (v := 0) dX6_text_137 (by decide) ?_
    refine go_zastore rfl (nin (a := 1) (by decide) (by decide)) dX6_text_138 ?_
    refine go_mem (fun m2 qm2 => ?_)
    have h := h m2 qm2
    refine go_iload_n dX6_text_139 1 rfl ?_
    exact go_iret rfl dX6_text_140 h
  · have h := h.2 q
    refine go_aload_n dX6_text_102 0 rfl ?_
    refine go_getR (kf := 0) (t := 41) rfl rfl rfl uwX6 (by decide) flX6_7 dX6_text_103 ?_
    refine go_iload_n dX6_text_106 2 rfl ?_
    refine go_aload_n dX6_text_107 0 rfl ?_
    refine go_getR (kf := 1) (t := 42) rfl rfl rfl uwX6 (by decide) flX6_13 dX6_text_108 ?_
    refine go_iload_n dX6_text_111 2 rfl ?_
    obtain ⟨c3, h⟩ := h
    refine go_iaload rfl c3 dX6_text_112 ?_
    obtain ⟨c4, h⟩ := h
    refine go_iastore rfl c4 dX6_text_113 ?_
    refine go_mem (fun m5 qm5 => ?_)
    have h := h m5 qm5
    refine go_iinc (v := ((nI k) + 1)) (L2 := [(2, .int ((nI k) + 1)), (0, .ref 40), (1, .int (nI n))]) dX6_text_114 2 rfl rfl (by decide) rfl ?_
    refine go_goto 96 dX6_text_117 (by decide) ?_
    exact Go.pick [1, 2, 0] rfl h

set_option maxRecDepth 100000 in
theorem sX5_text_0 {G : GX} {d : Nat} {mem : Mem} {Φ : Option Value → Mem → Prop} (T : Tp) (X Y : Bm) (h : (TpC (um (um (um mem 6 4 0) 6 5 1) 6 6 0) T) ∧ (VX 9 30 X) ∧ (xt X = 0) ∧ (RepB (um (um (um mem 6 4 0) 6 5 1) 6 6 0) 6 X) ∧ ∀ m5 : Mem, (LzC T (rdF T 160 ((st0 T, 0, X), 0)) m5 ∧ ∀ k, k ≠ 23 → ¬ (6 ≤ k ∧ k ≤ 10) → m5 k = (um (um (um mem 6 4 0) 6 5 1) 6 6 0) k) → ((((um (um m5 23 1 0) 0 9 ((um m5 23 1 0) 23 2)) 0 9) = 0 → (1 + 4 < 6 ∨ 6 + 4 < 1) ∧ (xn Y ≤ 5) ∧ (RepB (um (um m5 23 1 0) 0 9 ((um m5 23 1 0) 23 2)) 6 Y) ∧ ∀ m9 : Mem, (RepB m9 1 Y ∧ FrB 1 (um (um m5 23 1 0) 0 9 ((um m5 23 1 0) 23 2)) m9) → Go G (d + 8) mX5_text 76 [(0, .ref 0), (1, .int 0)] [] (um m9 25 3 0) Φ) ∧ (¬ ((um (um m5 23 1 0) 0 9 ((um m5 23 1 0) 23 2)) 0 9) = 0 → Φ (some (.int ((-10) - ((um (um m5 23 1 0) 0 9 ((um m5 23 1 0) 23 2)) 23 3)))) (um (um m5 23 1 0) 0 9 ((um m5 23 1 0) 23 2))))) : Go G (d + 8) mX5_text 0 [(0, .ref 0)] [] mem Φ := by
  refine go_aload_n dX5_text_0 0 rfl ?_
  refine go_getR (kf := 1) (t := 6) rfl rfl rfl uwX5 (by decide) flX5_16 dX5_text_1 ?_
  refine go_callV (st := []) (kX0_empty (d + 7) 6 bA6) rfl rfl okX0_empty insX0_empty selX0_empty lkX5_71 rfl rfl (Nat.le_of_ble_eq_true rfl) dX5_text_4 (fun v_ m2_ q => ?_)
  rw [q.1, q.2]
  refine go_stk (st2 := []) rfl ?_
  refine go_aload_n dX5_text_7 0 rfl ?_
  refine go_getR (kf := 4) (t := 23) rfl rfl rfl uwX5 (by decide) flX5_30 dX5_text_8 ?_
  refine go_aload_n dX5_text_11 0 rfl ?_
  refine go_getR (kf := 1) (t := 6) rfl rfl rfl uwX5 (by decide) flX5_16 dX5_text_12 ?_
  obtain ⟨c1, h⟩ := h
  obtain ⟨c2, h⟩ := h
  obtain ⟨c3, h⟩ := h
  obtain ⟨c4, h⟩ := h
  refine go_callV (st := []) (kX2_readText (d + 0) T X c1 c2 c3 c4) rfl rfl okX2_readText insX2_readText selX2_readText lkX5_74 rfl rfl (Nat.le_of_ble_eq_true rfl) dX5_text_15 (fun v_ m5 q => ?_)
  rw [q.1]
  have h := h m5 q.2
  refine go_stk (st2 := []) rfl ?_
  refine go_aload_n dX5_text_18 0 rfl ?_
  refine go_getR (kf := 4) (t := 23) rfl rfl rfl uwX5 (by decide) flX5_30 dX5_text_19 ?_
  refine go_iconst (v := 0) dX5_text_22 (by decide) ?_
  refine go_putI (kf := 1) rfl rfl rfl uwX2 tyX2_ok nmX2 (by decide) rfl flX5_63 rfl rfl dX5_text_23 ?_
  refine go_aload_n dX5_text_26 0 rfl ?_
  refine go_aload_n dX5_text_27 0 rfl ?_
  refine go_getR (kf := 4) (t := 23) rfl rfl rfl uwX5 (by decide) flX5_30 dX5_text_28 ?_
  refine go_getI (kf := 2) rfl rfl rfl uwX2 (by decide) flX5_78 dX5_text_31 ?_
  refine go_putI (kf := 9) rfl rfl rfl uwX5 tyX5_ok nmX5 (by decide) rfl flX5_81 rfl rfl dX5_text_34 ?_
  refine go_aload_n dX5_text_37 0 rfl ?_
  refine go_getI (kf := 9) rfl rfl rfl uwX5 (by decide) flX5_81 dX5_text_38 ?_
  refine go_if_eq 55 dX5_text_41 (by decide) (fun q => ?_) (fun q => ?_)
  · have h := h.1 q
    refine go_aload_n dX5_text_55 0 rfl ?_
    refine go_getR (kf := 0) (t := 1) rfl rfl rfl uwX5 (by decide) flX5_12 dX5_text_56 ?_
    refine go_aload_n dX5_text_59 0 rfl ?_
    refine go_getR (kf := 1) (t := 6) rfl rfl rfl uwX5 (by decide) flX5_16 dX5_text_60 ?_
    obtain ⟨c6, h⟩ := h
    obtain ⟨c7, h⟩ := h
    obtain ⟨c8, h⟩ := h
    refine go_callV (st := []) (kX0_takeFrom (d + 6) 1 bA1 6 bA6 Y c6 c7 c8) rfl rfl okX0_takeFrom insX0_takeFrom selX0_takeFrom lkX5_87 rfl rfl (Nat.le_of_ble_eq_true rfl) dX5_text_63 (fun v_ m9 q => ?_)
    rw [q.1]
    have h := h m9 q.2
    refine go_stk (st2 := []) rfl ?_
    refine go_aload_n dX5_text_66 0 rfl ?_
    refine go_getR (kf := 5) (t := 25) rfl rfl rfl uwX5 (by decide) flX5_37 dX5_text_67 ?_
    refine go_iconst (v := 0) dX5_text_70 (by decide) ?_
    refine go_putI (kf := 3) rfl rfl rfl uwX3 tyX3_ok nmX3 (by decide) rfl flX5_90 rfl rfl dX5_text_71 ?_
    refine go_iconst (v := 0) dX5_text_74 (by decide) ?_
    refine go_istore_n (L2 := [(1, .int 0), (0, .ref 0)]) dX5_text_75 (by decide) rfl ?_
    exact Go.pick [1, 0] rfl h
  · have h := h.2 q
    refine go_bipush (v := (-10)) dX5_text_44 (by decide) ?_
    refine go_aload_n dX5_text_46 0 rfl ?_
    refine go_getR (kf := 4) (t := 23) rfl rfl rfl uwX5 (by decide) flX5_30 dX5_text_47 ?_
    refine go_getI (kf := 3) rfl rfl rfl uwX2 (by decide) flX5_84 dX5_text_50 ?_
    refine go_isub dX5_text_53 ?_
    exact go_iret rfl dX5_text_54 h

set_option maxRecDepth 100000 in
theorem sX5_text_76 {G : GX} {d : Nat} {mem : Mem} {Φ : Option Value → Mem → Prop} (k : Nat) (h : ((2 ≤ (nI k) → Φ (some (.int (mem 23 4))) mem) ∧ (¬ 2 ≤ (nI k) → (vp_in (nI k) 2) ∧ ∀ m2 : Mem, m2 = (um mem 22 ((nI k) : Int32).toNatClampNeg (vp_nar .boolean 0)) → Go G (d + 8) mX5_text 76 [(0, .ref 0), (1, .int ((nI k) + 1))] [] m2 Φ))) : Go G (d + 8) mX5_text 76 [(0, .ref 0), (1, .int (nI k))] [] mem Φ := by
  refine go_iload_n dX5_text_76 1 rfl ?_
  refine go_iconst (v := 2) dX5_text_77 (by decide) ?_
  refine go_icmp_ge 94 dX5_text_78 (by decide) (fun q => ?_) (fun q => ?_)
  · have h := h.1 q
    refine go_aload_n dX5_text_94 0 rfl ?_
    refine go_getR (kf := 4) (t := 23) rfl rfl rfl uwX5 (by decide) flX5_30 dX5_text_95 ?_
    refine go_getI (kf := 4) rfl rfl rfl uwX2 (by decide) flX5_93 dX5_text_98 ?_
    exact go_iret rfl dX5_text_101 h
  · have h := h.2 q
    refine go_aload_n dX5_text_81 0 rfl ?_
    refine go_getR (kf := 3) (t := 22) rfl rfl rfl uwX5 (by decide) flX5_23 dX5_text_82 ?_
    refine go_iload_n dX5_text_85 1 rfl ?_
    refine go_iconst (v := 0) dX5_text_86 (by decide) ?_
    obtain ⟨c1, h⟩ := h
    refine go_zastore rfl c1 dX5_text_87 ?_
    refine go_mem (fun m2 qm2 => ?_)
    have h := h m2 qm2
    refine go_iinc (v := ((nI k) + 1)) (L2 := [(1, .int ((nI k) + 1)), (0, .ref 0)]) dX5_text_88 1 rfl rfl (by decide) rfl ?_
    refine go_goto 76 dX5_text_91 (by decide) ?_
    exact Go.pick [1, 0] rfl h

/-! ===== text ===== -/
theorem ln_vs {T : Tp} {s : Rs} {u : Nat} {X : Bm} (hv : VS T s) : VS T (ln T s u X).1 := by
  have rfv : ∀ w, 1 ≤ w → VS T (rf s w) := fun w hw f => absurd f (rf_1 hw)
  unfold ln
  by_cases q5 : nmN T s.2.2 = 5
  · rw [if_pos q5]; exact rfv 2 (by omega)
  · rw [if_neg q5]
    by_cases q4 : nmN T s.2.2 = 4
    · rw [if_pos q4, lnP]
      by_cases hu : u = 0
      · rw [if_neg (show ¬ u ≠ 0 by omega)]; exact cks_vs (nx_vs (ck_vs (nx_vs hv)))
      · rw [if_pos hu]; exact rfv 4 (by omega)
    · rw [if_neg q4, lnK]
      by_cases h5 : 5 ≤ xn X
      · rw [if_pos h5]; exact rfv 5 (by omega)
      · rw [if_neg h5]; exact cks_vs (nx_vs (ck_vs (nx_vs (ck_vs (nx_vs hv)))))
theorem rdF_ok {T : Tp} (hB : ∀ i, i < T.1 → T.2 i ≤ 127) : ∀ (r : Nat) (z : Ls) (n : Nat), VS T z.1 → OKz z → OKz (rdF T r (z, n)).1
  | 0, z, n, _, h => h
  | r + 1, z, n, hv, h => by
    unfold rdF
    by_cases q : z.1.1 = 0
    · by_cases y : (tk0 T z.1.2.2).2.1 = 0
      · rw [if_pos (Or.inr y)]; exact h
      · rw [if_neg (fun t => t.elim (fun a => a q) y)]
        exact rdF_ok hB r (lx T z) (n + 1) (nx_vs (ln_vs hv)) (fun f => (lx_ok hB q hv h f (ln_vs hv)).1 f)
    · rw [if_pos (Or.inl q)]; exact h
theorem st0_vs (T : Tp) : VS T (st0 T) := by
  have bd2 := rnT_bd (T := T) (lo := 32) (hi := 32) (Nat.zero_le T.1)
  unfold st0
  by_cases b : (tk0 T (rnT T 32 32 0)).2.2 = true
  · rw [if_pos b]
    exact fun z => absurd (show (1 : Nat) = 0 from z) (by decide)
  · rw [if_neg b]
    exact fun _ => ⟨Bool.eq_false_iff.mpr b, bd2.2⟩
def bm0 : Bm := (0, fun _ => 0, fun _ => 0, fun _ => 0, fun _ => 0, 1, 0)
theorem bm0_v : VX 9 30 bm0 := ⟨Nat.zero_le _, by decide, fun c hc => absurd hc (Nat.not_lt_zero c)⟩
def zT (T : Tp) : Ls × Nat := rdF T 160 ((st0 T, 0, bm0), 0)
theorem zT_ok {T : Tp} (hB : ∀ i, i < T.1 → T.2 i ≤ 127) : OKz (zT T).1 := rdF_ok hB 160 (st0 T, 0, bm0) 0 (st0_vs T) (fun _ => ⟨Nat.zero_le _, bm0_v, rfl⟩)
def TxC (z : Ls × Nat) (mem : Mem) (v : Option Value) (m2 : Mem) : Prop := (∀ k, k ≠ 0 → ¬ (1 ≤ k ∧ k ≤ 10) → k ≠ 22 → k ≠ 23 → k ≠ 25 → m2 k = mem k) ∧ m2 0 10 = mem 0 10 ∧ m2 23 1 = 0 ∧ m2 0 9 = nI z.1.1.1 ∧ (z.1.1.1 ≠ 0 → v = some (.int (-10 - nI z.1.1.2.1)) ∧ (∀ k, 1 ≤ k → k ≤ 5 → m2 k = mem k) ∧ m2 22 = mem 22 ∧ m2 25 = mem 25) ∧ (z.1.1.1 = 0 → v = some (.int (nI z.2)) ∧ m2 25 3 = 0 ∧ m2 22 0 = 0 ∧ m2 22 1 = 0 ∧ RepB m2 1 z.1.2.2)
def TxM (z : Ls × Nat) (mem : Mem) (v : Option Value) (m2 : Mem) : Prop := (∀ k, k ≠ 40 → k ≠ 41 → k ≠ 42 → k ≠ 48 → m2 k = mem k) ∧ (∀ j, 23 ≤ j → m2 41 j = mem 41 j) ∧ (m2 40 14 = mem 40 14 ∧ m2 40 25 = mem 40 25) ∧ m2 40 4 = 0 ∧ m2 40 5 = nI z.1.1.1 ∧ (z.1.1.1 ≠ 0 → v = some (.int (-10 - nI z.1.1.2.1)) ∧ m2 41 = mem 41 ∧ m2 48 = mem 48 ∧ m2 40 19 = mem 40 19) ∧ (z.1.1.1 = 0 → v = some (.int (nI z.2)) ∧ m2 40 19 = 0 ∧ m2 48 0 = 0 ∧ m2 48 1 = 0 ∧ RepM m2 0 z.1.2.2)
theorem kX5_text {G : GX} (d : Nat) {mem : Mem} (T : Tp) (hT : TpC mem T) : Cn G (d + 8) mX5_text [.ref 0] mem (TxC (zT T) mem) := by
  have hB : ∀ i, i < T.1 → T.2 i ≤ 127 := fun i hi => (hT.2.2 i hi).1
  refine cn_of (by decide +kernel) (Nat.le_of_ble_eq_true rfl) (sX5_text_0 T bm0 (zT T).1.2.2 ?_)
  refine ⟨hT.fr (by rw [um_ne (by decide), um_ne (by decide), um_ne (by decide)]) (by rw [um_ne (by decide), um_ne (by decide), um_ne (by decide)]), bm0_v, rfl, ⟨?_, ?_, ?_, fun c hc => absurd hc (Nat.not_lt_zero c)⟩, fun m5 w => ?_⟩
  · rw [um_at, if_neg (by decide), um_at, if_neg (by decide), um_same]; rfl
  · rw [um_at, if_neg (by decide), um_same]; rfl
  · rw [um_same]; rfl
  · obtain ⟨w1, w2⟩ := w
    have w1 : LzC T (zT T) m5 := w1
    have fr : ∀ k, k ≠ 23 → ¬ (6 ≤ k ∧ k ≤ 10) → m5 k = mem k := fun k a b => by rw [w2 k a b, um_ne (by omega), um_ne (by omega), um_ne (by omega)]
    obtain ⟨⟨r1, r2⟩, r3⟩ := w1
    have e2 : (um m5 23 1 0) 23 2 = nI (zT T).1.1.1 := by rw [um_at, if_neg (by decide)]; exact r1.2.2.1
    rw [e2]
    generalize hA : um (um m5 23 1 0) 0 9 (nI (zT T).1.1.1) = mA
    have a09 : mA 0 9 = nI (zT T).1.1.1 := by rw [← hA, um_same]
    have a010 : mA 0 10 = mem 0 10 := by rw [← hA, um_at, if_neg (by decide), um_ne (by decide), fr 0 (by decide) (by decide)]
    have a23 : ∀ j, j ≠ 1 → mA 23 j = m5 23 j := fun j hj => by rw [← hA, um_ne (by decide), um_at, if_neg hj]
    have a231 : mA 23 1 = 0 := by rw [← hA, um_ne (by decide), um_same]
    have aK : ∀ k, k ≠ 0 → k ≠ 23 → mA k = m5 k := fun k a b => by rw [← hA, um_ne a, um_ne b]
    rw [a09, (nI05 r1.2.1).1]
    refine ⟨fun f => ⟨by decide, (zT_ok hB f).2.1.1, (r2 f).2.fr (fun k a b => aK k (by omega) (by omega)), fun m9 y => ?_⟩, fun f => ⟨fun k b0 b1 b2 b3 b4 => by rw [aK k b0 b3, fr k b3 (by omega)], a010, a231, a09, fun _ => ⟨?_, fun k b1 b2 => by rw [aK k (by omega) (by omega), fr k (by omega) (by omega)], by rw [aK 22 (by decide) (by decide), fr 22 (by decide) (by decide)], by rw [aK 25 (by decide) (by decide), fr 25 (by decide) (by decide)]⟩, fun g => absurd g f⟩⟩
    · have g76 : ∀ m : Mem, TxC (zT T) mem (some (.int (um (um m 22 0 0) 22 1 0 23 4))) (um (um m 22 0 0) 22 1 0) → Go G (d + 8) mX5_text 76 [(0, .ref 0), (1, .int (nI 0))] [] m (TxC (zT T) mem) := fun m hm => by
        refine sX5_text_76 0 ⟨fun z => absurd z (by decide), fun _ => ⟨nin (by decide) (by decide), fun m2 q2 => ?_⟩⟩
        have q2 : m2 = um m 22 0 0 := q2
        refine sX5_text_76 1 ⟨fun z => absurd z (by decide), fun _ => ⟨nin (by decide) (by decide), fun m3 q3 => ?_⟩⟩
        have q3 : m3 = um m2 22 1 0 := q3
        rw [q2] at q3
        rw [q3]
        exact sX5_text_76 2 ⟨fun _ => hm, fun z => absurd (Int32.le_refl _) z⟩
      refine g76 _ ⟨fun k b0 b1 b2 b3 b4 => ?_, ?_, ?_, ?_, fun g => absurd f g, fun _ => ⟨?_, ?_, ?_, ?_, ?_⟩⟩
      · rw [um_ne b2, um_ne b2, um_ne b4, y.2 k (by omega), aK k b0 b3, fr k b3 (by omega)]
      · rw [um_ne (by decide), um_ne (by decide), um_ne (by decide), y.2 0 (by omega), a010]
      · rw [um_ne (by decide), um_ne (by decide), um_ne (by decide), y.2 23 (by omega), a231]
      · rw [um_ne (by decide), um_ne (by decide), um_ne (by decide), y.2 0 (by omega), a09]
      · rw [um_ne (by decide), um_ne (by decide), um_ne (by decide), y.2 23 (by omega), a23 4 (by decide), r3 f]
      · rw [um_ne (by decide), um_ne (by decide), um_same]
      · rw [um_at, if_neg (by decide), um_same]
      · rw [um_same]
      · exact y.1.fr (fun k b1 b2 => by rw [um_ne (by omega), um_ne (by omega), um_ne (by omega)])
    · rw [a23 3 (by decide), r1.2.2.2.1 f]
theorem kX6_text {G : GX} (d : Nat) {mem : Mem} (T : Tp) (hT : TpM mem T) (h7 : C7 mem) : Cn G (d + 5) mX6_text [.ref 40] mem (TxM (zT T) mem) := by
  have hB : ∀ i, i < T.1 → T.2 i ≤ 127 := fun i hi => (hT.2.2 i hi).1
  -- the page goes over
  have g96 : ∀ (r k n : Nat) (m : Mem), k + r = 23 → (∀ j, j < k → m 41 j = m 42 j) → (∀ m2 : Mem, (∀ j, j < 23 → m2 41 j = m 42 j) → (∀ j, 23 ≤ j → m2 41 j = m 41 j) → (∀ c, c ≠ 41 → m2 c = m c) → TxM (zT T) mem (some (.int (nI n))) (um (um (um m2 40 19 0) 48 0 0) 48 1 0)) → Go G (d + 5) mX6_text 96 [(0, .ref 40), (1, .int (nI n)), (2, .int (nI k))] [] m (TxM (zT T) mem) := by
    intro r
    induction r with
    | zero =>
      intro k n m hk hj hf
      refine sX6_text_96 n k ⟨fun _ m1 e1 m2 e2 => ?_, fun z => absurd ((nle (a := 23) (by omega) (by omega)).mpr (by omega)) z⟩
      have e1 : m1 = um (um m 40 19 0) 48 0 0 := e1
      have e2 : m2 = um m1 48 1 0 := e2
      rw [e2, e1]
      exact hf m (fun j h23 => hj j (by omega)) (fun _ _ => rfl) (fun _ _ => rfl)
    | succ r ih =>
      intro k n m hk hj hf
      refine sX6_text_96 n k ⟨fun z => absurd ((nle (a := 23) (by omega) (by omega)).mp z) (by omega), fun _ => ⟨nin (by omega) (by omega), nin (by omega) (by omega), fun m5 e5 => ?_⟩⟩
      rw [ncl (by omega)] at e5
      rw [show (nI k + 1 : Int32) = nI (k + 1) from (nI_succ k).symm]
      have f42 : m5 42 = m 42 := by rw [e5, um_ne (by decide)]
      refine ih (k + 1) n m5 (by omega) (fun j h1 => ?_) (fun m2 a b c => hf m2 (fun j h1 => by rw [a j h1, f42]) (fun j h1 => by rw [b j h1, e5, um_at, if_neg (by omega)]) (fun c1 h1 => by rw [c c1 h1, e5, um_ne h1]))
      rw [f42, e5, um_at]
      by_cases q : j = k
      · rw [if_pos q, q]
      · rw [if_neg q]; exact hj j (by omega)
  -- behind the lines
  have g66 : ∀ (m : Mem) (n : Nat), (zT T).2 = n → LsM T (zT T).1 m → FrQ mem m → Go G (d + 5) mX6_text 66 [(0, .ref 40), (1, .int (nI n))] [] m (TxM (zT T) mem) := fun m n en hz fq => by
    refine sX6_text_66 n (fun m1 e1 => ?_)
    rw [show (um m 40 4 0) 40 6 = nI (zT T).1.1.1 by rw [um_at, if_neg (by decide)]; exact hz.1.2.2.1] at e1
    have b40 : ∀ j, j ≠ 4 → j ≠ 5 → m1 40 j = m 40 j := fun j a b => by rw [e1, um_at, if_neg b, um_at, if_neg a]
    have b4 : m1 40 4 = 0 := by rw [e1, um_at, if_neg (by decide), um_same]
    have b5 : m1 40 5 = nI (zT T).1.1.1 := by rw [e1, um_same]
    have bK : ∀ k, k ≠ 40 → m1 k = m k := fun k a => by rw [e1, um_ne a, um_ne a]
    rw [b40 6 (by decide) (by decide), hz.1.2.2.1, (nI05 hz.1.2.1).2]
    refine ⟨fun f => ?_, fun f => ⟨fun k k0 k1 k2 k3 => by rw [bK k k0, fq.1 k k0 k2], fun j _ => by rw [bK 41 (by decide), fq.1 41 (by decide) (by decide)], ⟨by rw [b40 14 (by decide) (by decide), fq.2 14 (by omega) (by decide)], by rw [b40 25 (by decide) (by decide), fq.2 25 (by omega) (by decide)]⟩, b4, b5, fun _ => ⟨?_, by rw [bK 41 (by decide), fq.1 41 (by decide) (by decide)], by rw [bK 48 (by decide), fq.1 48 (by decide) (by decide)], by rw [b40 19 (by decide) (by decide), fq.2 19 (by omega) (by decide)]⟩, fun g => absurd g f⟩⟩
    · obtain ⟨h2, hP⟩ := hz.2 f
      obtain ⟨p1, p2, p3, p4, p5⟩ := hP
      have ok := zT_ok hB f
      have hx5 := ok.2.1.1
      refine g96 23 0 n m1 rfl (fun j hj => absurd hj (by omega)) (fun m2 c1 c2 c3 => ?_)
      have c41 : ∀ j, j < 23 → um (um (um m2 40 19 0) 48 0 0) 48 1 0 41 j = m 42 j := fun j hj => by rw [um_ne (by decide), um_ne (by decide), um_ne (by decide), c1 j hj, bK 42 (by decide)]
      have c40 : ∀ j, j ≠ 19 → um (um (um m2 40 19 0) 48 0 0) 48 1 0 40 j = m1 40 j := fun j hj => by rw [um_ne (by decide), um_ne (by decide), um_at, if_neg hj, c3 40 (by decide)]
      refine ⟨fun k k0 k1 k2 k3 => ?_, fun j hj => ?_, ⟨?_, ?_⟩, ?_, ?_, fun g => absurd f g, fun _ => ⟨by rw [en], ?_, ?_, ?_, ?_⟩⟩
      · rw [um_ne k3, um_ne k3, um_ne k0, c3 k k1, bK k k0, fq.1 k k0 k2]
      · rw [um_ne (by decide), um_ne (by decide), um_ne (by decide), c2 j hj, bK 41 (by decide), fq.1 41 (by decide) (by decide)]
      · rw [c40 14 (by decide), b40 14 (by decide) (by decide), fq.2 14 (by omega) (by decide)]
      · rw [c40 25 (by decide), b40 25 (by decide) (by decide), fq.2 25 (by omega) (by decide)]
      · rw [c40 4 (by decide), b4]
      · rw [c40 5 (by decide), b5]
      · rw [um_ne (by decide), um_ne (by decide), um_same]
      · rw [um_at, if_neg (by decide), um_same]
      · rw [um_same]
      · refine ⟨?_, ?_, ?_, fun c hc => ?_⟩
        · rw [c41 (0 + 20) (by omega)]; exact p1
        · rw [c41 (0 + 21) (by omega)]; exact p2
        · rw [c41 (0 + 22) (by omega)]; exact p3
        · have q := p5 c hc
          rw [c41 (0 + c) (by omega), c41 (0 + 5 + c) (by omega), c41 (0 + 10 + c) (by omega), c41 (0 + 15 + c) (by omega), q.2.2.2, p4 (0 + 15 + c) (by omega) (by omega), Nat.zero_add, show 0 + 5 + c = 5 + c by omega, show 0 + 10 + c = 10 + c by omega]
          exact ⟨q.1, q.2.1, q.2.2.1, rfl⟩
    · rw [b40 7 (by decide) (by decide), hz.1.2.2.2.1 f]
  -- line by line
  have g42 : ∀ (r : Nat) (z : Ls) (n : Nat) (m : Mem), (z.1.1 = 0 → 160 ≤ z.1.2.2 + r) → rdF T r (z, n) = zT T → LsM T z m → OKz z → FrQ mem m → Go G (d + 5) mX6_text 42 [(0, .ref 40), (1, .int (nI n))] [] m (TxM (zT T) mem) := by
    intro r
    induction r with
    | zero =>
      intro z n m hr he hz ok fq
      have he : (z, n) = zT T := he
      refine sX6_text_42 n T z.1 z.2.1 z.2.2 ?_
      rw [hz.1.2.2.1, (nI05 hz.1.2.1).1]
      have k := g66 m n (by rw [← he]) (by rw [← he]; exact hz) fq
      refine ⟨fun _ => k, fun f => ?_⟩
      obtain ⟨g9, g8, g10, g11, gb, gq⟩ := hz.1.2.2.2.2 f
      have h160 := hT.1
      have e0 : (tk0 T z.1.2.2).2.1 = 0 := tk0_end (by have := hr f; omega)
      rw [g10, e0]
      exact ⟨fun _ => k, fun y => absurd rfl y⟩
    | succ r ih =>
      intro z n m hr he hz ok fq
      unfold rdF at he
      refine sX6_text_42 n T z.1 z.2.1 z.2.2 ?_
      rw [hz.1.2.2.1, (nI05 hz.1.2.1).1]
      refine ⟨fun f => ?_, fun f => ?_⟩
      · rw [if_pos (Or.inl f)] at he
        exact g66 m n (by rw [← he]) (by rw [← he]; exact hz) fq
      · obtain ⟨g9, g8, g10, g11, gb, gq⟩ := hz.1.2.2.2.2 f
        have hs := tk0_s (T := T) (q := z.1.2.2)
        have e6 : (nI (tk0 T z.1.2.2).2.1 = (0 : Int32)) ↔ (tk0 T z.1.2.2).2.1 = 0 := neq (b := 0) (by omega) (by omega)
        rw [g10, e6]
        refine ⟨fun y => ?_, fun y => ?_⟩
        · rw [if_pos (Or.inr y)] at he
          exact g66 m n (by rw [← he]) (by rw [← he]; exact hz) fq
        · rw [if_neg (fun t => t.elim (fun a => a f) y)] at he
          obtain ⟨k1, k2, k3⟩ := ok f
          have vs : VS T z.1 := hz.1.vs
          refine ⟨f, k1, k2.1, h7.fr (fq.2 14 (by omega) (by decide)) (fq.1 44 (by decide) (by decide)) (fq.1 45 (by decide) (by decide)), hz, fun m6 w => ?_⟩
          rw [show (nI n + 1 : Int32) = nI (n + 1) from (nI_succ n).symm]
          refine ih (lx T z) (n + 1) m6 (fun g => ?_) he w.1 (fun g => (lx_ok hB f vs ok g (ln_vs vs)).1 g) (fq.tr w.2)
          have p := (lx_ok hB f vs ok g (ln_vs vs)).2.2
          have p2 := hr f
          omega
  -- the page is emptied
  have g19 : ∀ (r k : Nat) (m : Mem), k + r = 23 → (∀ j, j < k → m 42 j = 0) → (∀ m2 : Mem, (∀ j, j < 23 → m2 42 j = 0) → (∀ c, c ≠ 42 → m2 c = m c) → Go G (d + 5) mX6_text 38 [(0, .ref 40), (1, .int (nI 0))] [] m2 (TxM (zT T) mem)) → Go G (d + 5) mX6_text 19 [(0, .ref 40), (1, .int (nI 0)), (2, .int (nI k))] [] m (TxM (zT T) mem) := by
    intro r
    induction r with
    | zero =>
      intro k m hk hj hf
      exact sX6_text_19 0 k ⟨fun _ => hf m (fun j h1 => hj j (by omega)) (fun _ _ => rfl), fun z => absurd ((nle (a := 23) (by omega) (by omega)).mpr (by omega)) z⟩
    | succ r ih =>
      intro k m hk hj hf
      refine sX6_text_19 0 k ⟨fun z => absurd ((nle (a := 23) (by omega) (by omega)).mp z) (by omega), fun _ => ⟨nin (by omega) (by omega), ?_⟩⟩
      rw [ncl (by omega), show (nI k + 1 : Int32) = nI (k + 1) from (nI_succ k).symm]
      refine ih (k + 1) _ (by omega) (fun j h1 => ?_) (fun m2 a b => hf m2 a (fun c h1 => by rw [b c h1, um_ne h1]))
      rw [um_at]
      by_cases q : j = k
      · rw [if_pos q]
      · rw [if_neg q]; exact hj j (by omega)
  refine cn_of (by decide +kernel) (Nat.le_of_ble_eq_true rfl) (sX6_text_0 ?_)
  refine g19 23 0 _ rfl (fun j hj => absurd hj (by omega)) (fun m2 c1 c2 => ?_)
  have d40 : ∀ j, j ≠ 6 → j ≠ 8 → j ≠ 2 → m2 40 j = mem 40 j := fun j j1 j2 j3 => by rw [c2 40 (by decide), um_at, if_neg j3, um_at, if_neg j2, um_at, if_neg j1]
  have dK : ∀ k, k ≠ 40 → k ≠ 42 → m2 k = mem k := fun k k1 k2 => by rw [c2 k k2, um_ne k1, um_ne k1, um_ne k1]
  have hT2 : TpM m2 T := hT.fr (d40 4 (by decide) (by decide) (by decide)) (dK 43 (by decide) (by decide))
  refine sX6_text_38 0 T ⟨hT2, Nat.zero_le _, ⟨?_, ?_⟩, fun m4 z => ?_⟩
  · rw [c2 40 (by decide), um_at, if_neg (by decide), um_at, if_neg (by decide), um_same]
  · rw [c2 40 (by decide), um_at, if_neg (by decide), um_same]; rfl
  · have e42 : m4 42 = m2 42 := z.1 42 (by decide)
    refine g42 160 (st0 T, 0, bm0) 0 m4 (fun _ => Nat.le_add_left _ _) rfl ⟨z.rs hT2, fun _ => ⟨?_, ?_⟩⟩ (fun _ => ⟨Nat.zero_le _, bm0_v, rfl⟩) ⟨fun k k1 k2 => by rw [z.1 k k1, dK k k1 k2], fun j j1 j2 => by rw [z.2.1 j j1, d40 j (by omega) (by omega) j2]⟩
    · rw [z.2.1 2 (by omega), c2 40 (by decide), um_same]; rfl
    · refine ⟨?_, ?_, ?_, fun j j1 j2 => ?_, fun c hc => absurd hc (Nat.not_lt_zero c)⟩
      · rw [e42, c1 20 (by omega)]; rfl
      · rw [e42, c1 21 (by omega)]
        show (0 : Int32) = nI 1 - 1
        decide
      · rw [e42, c1 22 (by omega)]; rfl
      · rw [e42, c1 j (by omega)]
/-- P2 -/
theorem P2 {G : GX} : Sm G mX5_text mX6_text [] := by
  intro mem hI
  obtain ⟨X, T, S, h1, h2, h3, h4, h5, h6, h7⟩ := hI
  refine (kX5_text 1 T (TpC.of h3)).imp (fun v m1 a => ?_)
  obtain ⟨a1, a2, a3, a4, a5, a6⟩ := a
  have e40 : m1 40 = mem 40 := a1 40 (by decide) (by decide) (by decide) (by decide) (by decide)
  have hTM : TpM m1 T := (TpM.of h3).fr (by rw [e40]) (a1 43 (by decide) (by decide) (by decide) (by decide) (by decide))
  have h71 : C7 m1 := h7.fr (by rw [e40]) (a1 44 (by decide) (by decide) (by decide) (by decide) (by decide)) (a1 45 (by decide) (by decide) (by decide) (by decide) (by decide))
  refine (kX6_text 4 T hTM h71).imp (fun w m2 b => ?_)
  obtain ⟨b1, b2, b3, b4, b5, b6, b7⟩ := b
  have hB : ∀ i, i < T.1 → T.2 i ≤ 127 := fun i hi => (h3.2.2.2 i hi).1
  have K : ∀ k, k ≠ 0 → ¬ (1 ≤ k ∧ k ≤ 10) → k ≠ 22 → k ≠ 23 → k ≠ 25 → k ≠ 40 → k ≠ 41 → k ≠ 42 → k ≠ 48 → m2 k = mem k := fun k q0 q1 q2 q3 q4 q5 q6 q7 q8 => by rw [b1 k q5 q6 q7 q8, a1 k q0 q1 q2 q3 q4]
  have c3 : C3 m2 (0, fun _ => 0) := ⟨Nat.zero_le _, by rw [b1 23 (by decide) (by decide) (by decide) (by decide), a3]; rfl, by rw [b4]; rfl, fun i hi => absurd hi (Nat.not_lt_zero i)⟩
  have c4 : C4 m2 := ⟨by rw [b1 0 (by decide) (by decide) (by decide) (by decide), a4, b5], by rw [b1 0 (by decide) (by decide) (by decide) (by decide), a2, b3.2, e40]; exact h4.2⟩
  have c6 : C6 m2 := h6.fr (fun k _ _ => K k (by omega) (by omega) (by omega) (by omega) (by omega) (by omega) (by omega) (by omega) (by omega)) (K 49 (by decide) (by decide) (by decide) (by decide) (by decide) (by decide) (by decide) (by decide) (by decide)) (K 50 (by decide) (by decide) (by decide) (by decide) (by decide) (by decide) (by decide) (by decide) (by decide)) (K 51 (by decide) (by decide) (by decide) (by decide) (by decide) (by decide) (by decide) (by decide) (by decide))
  have c7 : C7 m2 := h71.fr b3.1 (b1 44 (by decide) (by decide) (by decide) (by decide)) (b1 45 (by decide) (by decide) (by decide) (by decide))
  have e41 : m1 41 = mem 41 := a1 41 (by decide) (by decide) (by decide) (by decide) (by decide)
  by_cases f : (zT T).1.1.1 = 0
  · obtain ⟨u1, u2, u3, u4, u5⟩ := a6 f
    obtain ⟨v1, v2, v3, v4, v5⟩ := b7 f
    have ok := zT_ok hB f
    refine ⟨by rw [v1, u1], (zT T).1.2.2, (0, fun _ => 0), (0, fun _ => 0, fun _ => 0, fun _ => 0), ⟨u5.fr (fun k q1 q2 => b1 k (by omega) (by omega) (by omega) (by omega)), v5, ok.2.1, by have := ok.2.2; omega⟩, fun k hk => Or.inl ?_, c3, c4, ⟨Nat.zero_le _, ?_, ?_, fun i hi => absurd hi (Nat.not_lt_zero i)⟩, c6, c7⟩
    · rw [b1 22 (by decide) (by decide) (by decide) (by decide)]
      rcases (show k = 0 ∨ k = 1 by omega) with rfl | rfl
      · exact ⟨u3, v3⟩
      · exact ⟨u4, v4⟩
    · rw [b1 25 (by decide) (by decide) (by decide) (by decide), u2]; rfl
    · rw [v2]; rfl
  · obtain ⟨u1, u2, u3, u4⟩ := a5 f
    obtain ⟨v1, v2, v3, v4⟩ := b6 f
    refine ⟨by rw [v1, u1], X, (0, fun _ => 0), S, h1.fr (fun k q1 q2 => by rw [b1 k (by omega) (by omega) (by omega) (by omega), u2 k q1 q2]) (fun j _ => by rw [v2, e41]), h2.fr (fun k q1 q2 => K k (by omega) (by omega) (by omega) (by omega) (by omega) (by omega) (by omega) (by omega) (by omega)) (by rw [b1 22 (by decide) (by decide) (by decide) (by decide), u3]) (by rw [v3, a1 48 (by decide) (by decide) (by decide) (by decide) (by decide)]) (fun j _ _ => by rw [v2, e41]), c3, c4, h5.fr (by rw [b1 25 (by decide) (by decide) (by decide) (by decide), u4]) (by rw [v4, e40]) (K 26 (by decide) (by decide) (by decide) (by decide) (by decide) (by decide) (by decide) (by decide) (by decide)) (K 27 (by decide) (by decide) (by decide) (by decide) (by decide) (by decide) (by decide) (by decide) (by decide)) (K 28 (by decide) (by decide) (by decide) (by decide) (by decide) (by decide) (by decide) (by decide) (by decide)) (K 46 (by decide) (by decide) (by decide) (by decide) (by decide) (by decide) (by decide) (by decide) (by decide)), c6, c7⟩
