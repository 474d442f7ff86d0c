set_option maxRecDepth 100000 in
theorem sX5_away_0 {G : GX} {d : Nat} {mem : Mem} {Φ : Option Value → Mem → Prop} (a1 : Int32) (X : Bm) (h : (((0 ≤ a1 ∧ a1 ≤ 1) → (xn X ≤ 5) ∧ (RepB mem 1 X) ∧ ∀ m3 : Mem, (RepB m3 6 X ∧ FrB 6 mem m3) → (300 = nI 301 - 1) ∧ (301 < 1000000) ∧ (VX 9 30 X) ∧ (RepB m3 6 X) ∧ ∀ m8 : Mem, FrB 6 m3 m8 → ∀ y9 : Int32, y9 = (optI (ftF (fun t => togX 9 (itX 9 nof X t)) 301)) → ((¬ y9 = (-4) → Go G (d + 6) mX5_away 46 [(0, .ref 0), (1, .int a1), (3, .int 0)] [] (rsM m8 (y9 - 1)) Φ) ∧ (y9 = (-4) → Go G (d + 6) mX5_away 46 [(0, .ref 0), (1, .int a1), (3, .int 0)] [] (rsM m8 300) Φ))) ∧ (¬ (0 ≤ a1 ∧ a1 ≤ 1) → Φ (some (.int (-1))) mem))) : Go G (d + 6) mX5_away 0 [(0, .ref 0), (1, .int a1)] [] mem Φ := by
  refine go_iload_n dX5_away_0 1 rfl ?_
  refine go_iconst (v := 0) dX5_away_1 (by decide) ?_
  refine go_iconst (v := 1) dX5_away_2 (by decide) ?_
  refine go_callS (st := []) (kX5_isWithin (d + 5) a1 0 1) okX5_isWithin staX5_isWithin lkX5_59 rfl rfl (Nat.le_of_ble_eq_true rfl) dX5_away_3 (fun v_ m2_ q => ?_)
  rw [q.1, q.2]
  refine go_stk (st2 := [.int (bI (0 ≤ a1 ∧ a1 ≤ 1))]) rfl ?_
  refine go_if_ne 11 dX5_away_6 (by decide) (fun q => ?_) (fun q => ?_)
  · have h := h.1 (bI1.mp q)
    refine go_aload_n dX5_away_11 0 rfl ?_
    obtain ⟨c1, h⟩ := h
    obtain ⟨c2, h⟩ := h
    refine go_callV (st := []) (kX5_tryNow (d + 3) X c1 c2) rfl rfl okX5_tryNow insX5_tryNow selX5_tryNow lkX5_112 rfl rfl (Nat.le_of_ble_eq_true rfl) dX5_away_12 (fun v_ m3 q => ?_)
    rw [q.1]
    have h := h m3 q.2
    refine go_stk (st2 := [.ref 6]) rfl ?_
    refine go_sipush (v := 300) dX5_away_15 (by decide) ?_
    obtain ⟨c4, h⟩ := h
    obtain ⟨c5, h⟩ := h
    obtain ⟨c6, h⟩ := h
    obtain ⟨c7, h⟩ := h
    refine go_callV (st := []) (kX0_ftI (d + 1) 6 bA6 (300) 301 X 30 c4 c5 c6 c7) rfl rfl okX0_firstTogether insX0_firstTogether selX0_firstTogether lkX5_175 rfl rfl (Nat.le_of_ble_eq_true rfl) dX5_away_18 (fun v_ m8 q => ?_)
    rw [q.1]
    have h := h m8 q.2
    refine go_stk (st2 := [.int (optI (ftF (fun t => togX 9 (itX 9 nof X t)) 301))]) rfl ?_
    refine go_topi (fun y9 qy9 => ?_)
    have h := h y9 qy9
    refine go_istore_n (L2 := [(2, .int y9), (0, .ref 0), (1, .int a1)]) dX5_away_21 (by decide) rfl ?_
    refine go_aload_n dX5_away_22 1 rfl ?_
    refine go_getR (kf := 7) (t := 30) rfl rfl rfl uwX5 (by decide) flX5_50 dX5_away_23 ?_
    refine go_iload_n dX5_away_26 0 rfl ?_
    refine go_bipush (v := (-4)) dX5_away_27 (by decide) ?_
    refine go_icmp_ne 38 dX5_away_29 (by decide) (fun q => ?_) (fun q => ?_)
    · have h := h.1 q
      refine go_iload_n dX5_away_38 0 rfl ?_
      refine go_iconst (v := 1) dX5_away_39 (by decide) ?_
      refine go_isub dX5_away_40 ?_
      refine go_callV (st := []) (kX1_restart (d + 5) (y9 - 1)) rfl rfl okX1_restart insX1_restart selX1_restart lkX5_182 rfl rfl (Nat.le_of_ble_eq_true rfl) dX5_away_41 (fun v_ m2_ q => ?_)
      rw [q.1, q.2]
      refine go_stk (st2 := []) rfl ?_
      refine go_iconst (v := 0) dX5_away_44 (by decide) ?_
      refine go_istore_n (L2 := [(3, .int 0), (2, .int y9), (0, .ref 0), (1, .int a1)]) dX5_away_45 (by decide) rfl ?_
      exact Go.pick [2, 3, 0] rfl h
    · have h := h.2 q
      refine go_sipush (v := 300) dX5_away_32 (by decide) ?_
      refine go_goto 41 dX5_away_35 (by decide) ?_
      refine go_callV (st := []) (kX1_restart (d + 5) 300) rfl rfl okX1_restart insX1_restart selX1_restart lkX5_182 rfl rfl (Nat.le_of_ble_eq_true rfl) dX5_away_41 (fun v_ m2_ q => ?_)
      rw [q.1, q.2]
      refine go_stk (st2 := []) rfl ?_
      refine go_iconst (v := 0) dX5_away_44 (by decide) ?_
      refine go_istore_n (L2 := [(3, .int 0), (2, .int y9), (0, .ref 0), (1, .int a1)]) dX5_away_45 (by decide) rfl ?_
      exact Go.pick [2, 3, 0] rfl h
  · have h := h.2 (bI0.mp q)
    refine go_iconst (v := (-1)) dX5_away_9 (by decide) ?_
    exact go_iret rfl dX5_away_10 h

set_option maxRecDepth 100000 in
theorem sX5_away_46 {G : GX} {d : Nat} {mem : Mem} {Φ : Option Value → Mem → Prop} (a1 : Int32) (v : Nat) (X : Bm) (s : Option Nat × Nat) (h : (((mem 1 4) ≤ (nI v) → Φ (some (.int (if a1 = 0 then mem 30 0 else mem 30 1))) mem) ∧ (¬ (mem 1 4) ≤ (nI v) → (xn X ≤ 5) ∧ (RepB mem 1 X) ∧ ∀ m3 : Mem, (RepB m3 6 X ∧ FrB 6 mem m3) → ((nI v) = nI v) ∧ (v < xn X) ∧ (RepB m3 6 X) ∧ ∀ m7 : Mem, (RepB m7 6 (remX v X) ∧ FrB 6 m3 m7) → (s.2 < 1000000) ∧ (VX 9 30 (remX v X)) ∧ (RepB m7 6 (remX v X)) ∧ (RepBs m7 s) ∧ (6 ≤ 25) ∧ ∀ m13 : Mem, (RepBs m13 (bst (fun t => togX 9 (itX 9 nof (remX v X) t)) v s) ∧ ∀ k, (k < 6 ∨ 6 + 4 < k) → k ≠ 30 → m13 k = m7 k) → Go G (d + 6) mX5_away 46 [(0, .ref 0), (1, .int a1), (3, .int ((nI v) + 1))] [] m13 Φ))) : Go G (d + 6) mX5_away 46 [(0, .ref 0), (1, .int a1), (3, .int (nI v))] [] mem Φ := by
  refine go_iload_n dX5_away_46 2 rfl ?_
  refine go_aload_n dX5_away_47 0 rfl ?_
  refine go_getR (kf := 0) (t := 1) rfl rfl rfl uwX5 (by decide) flX5_12 dX5_away_48 ?_
  refine go_getI (kf := 4) rfl rfl rfl uwX0 (by decide) flX5_96 dX5_away_51 ?_
  refine go_icmp_ge 83 dX5_away_54 (by decide) (fun q => ?_) (fun q => ?_)
  · have h := h.1 q
    refine go_aload_n dX5_away_83 0 rfl ?_
    refine go_getR (kf := 7) (t := 30) rfl rfl rfl uwX5 (by decide) flX5_50 dX5_away_84 ?_
    refine go_iload_n dX5_away_87 1 rfl ?_
    refine go_callV (st := []) (kX1_answer (d + 5) a1) rfl rfl okX1_answer insX1_answer selX1_answer lkX5_194 rfl rfl (Nat.le_of_ble_eq_true rfl) dX5_away_88 (fun v_ m2_ q => ?_)
    rw [q.1, q.2]
    refine go_stk (st2 := [.int (if a1 = 0 then mem 30 0 else mem 30 1)]) rfl ?_
    exact go_iret rfl dX5_away_91 h
  · have h := h.2 q
    refine go_aload_n dX5_away_57 0 rfl ?_
    obtain ⟨c1, h⟩ := h
    obtain ⟨c2, h⟩ := h
    refine go_callV (st := []) (kX5_tryNow (d + 3) X c1 c2) rfl rfl okX5_tryNow insX5_tryNow selX5_tryNow lkX5_112 rfl rfl (Nat.le_of_ble_eq_true rfl) dX5_away_58 (fun v_ m3 q => ?_)
    rw [q.1]
    have h := h m3 q.2
    refine go_stk (st2 := [.ref 6]) rfl ?_
    refine go_iload_n dX5_away_61 2 rfl ?_
    obtain ⟨c4, h⟩ := h
    obtain ⟨c5, h⟩ := h
    obtain ⟨c6, h⟩ := h
    refine go_callV (st := []) (kX0_takeAwayI (d + 5) 6 bA6 (nI v) v X c4 c1 c5 c6) rfl rfl okX0_takeAway insX0_takeAway selX0_takeAway lkX5_203 rfl rfl (Nat.le_of_ble_eq_true rfl) dX5_away_62 (fun v_ m7 q => ?_)
    rw [q.1]
    have h := h m7 q.2
    refine go_stk (st2 := []) rfl ?_
    refine go_aload_n dX5_away_65 0 rfl ?_
    refine go_getR (kf := 7) (t := 30) rfl rfl rfl uwX5 (by decide) flX5_50 dX5_away_66 ?_
    refine go_iload_n dX5_away_69 2 rfl ?_
    refine go_aload_n dX5_away_70 0 rfl ?_
    refine go_getR (kf := 1) (t := 6) rfl rfl rfl uwX5 (by decide) flX5_16 dX5_away_71 ?_
    obtain ⟨c8, h⟩ := h
    obtain ⟨c9, h⟩ := h
    obtain ⟨c10, h⟩ := h
    obtain ⟨c11, h⟩ := h
    obtain ⟨c12, h⟩ := h
    refine go_callV (st := []) (kX1_offer (d + 0) (nI v) v 6 bA6 (remX v X) s c4 c8 c9 c10 c11 c12) rfl rfl okX1_offer insX1_offer selX1_offer lkX5_190 rfl rfl (Nat.le_of_ble_eq_true rfl) dX5_away_74 (fun v_ m13 q => ?_)
    rw [q.1]
    have h := h m13 q.2
    refine go_stk (st2 := []) rfl ?_
    refine go_iinc (v := ((nI v) + 1)) (L2 := [(3, .int ((nI v) + 1)), (0, .ref 0), (1, .int a1)]) dX5_away_77 2 rfl rfl (by decide) rfl ?_
    refine go_goto 46 dX5_away_80 (by decide) ?_
    exact Go.pick [1, 2, 0] rfl h

set_option maxRecDepth 100000 in
theorem sX6_away_0 {G : GX} {d : Nat} {mem : Mem} {Φ : Option Value → Mem → Prop} (a1 : Int32) (X : Bm) (h : (((0 ≤ a1 ∧ a1 ≤ 1) → (0 = nI 0) ∧ (0 ≤ 115 ∧ (0 + 23 ≤ 92 ∨ 0 = 115)) ∧ (9 < 10 ∧ (9 = 9 ∨ 9 < xn X)) ∧ (VX 9 30 X) ∧ (RepM mem 0 X) ∧ (mem 40 14 = goI 9) ∧ ∀ m7 : Mem, FrM 92 mem m7 → ∀ y8 : Int32, y8 = (oM (ftF (fun t => togX 9 (itX 9 nof X t)) 301)) → Go G (d + 4) mX6_away 24 [(0, .ref 40), (1, .int a1), (2, .int y8), (3, .int (-4)), (4, .int 0)] [] m7 Φ) ∧ (¬ (0 ≤ a1 ∧ a1 ≤ 1) → Φ (some (.int (-1))) mem))) : Go G (d + 4) mX6_away 0 [(0, .ref 40), (1, .int a1)] [] mem Φ := by
  refine go_iload_n dX6_away_0 1 rfl ?_
  refine go_i2l dX6_away_1 ?_
  refine go_lconst (v := 0) dX6_away_2 (by decide) ?_
  refine go_lconst (v := 1) dX6_away_3 (by decide) ?_
  refine go_callS (st := []) (kX6_in (d + 3) a1 0 1 0 1 (by decide) (by decide)) okX6_in staX6_in lkX6_50 rfl rfl (Nat.le_of_ble_eq_true rfl) dX6_away_4 (fun v_ m2_ q => ?_)
  rw [q.1, q.2]
  refine go_stk (st2 := [.int (bI (0 ≤ a1 ∧ a1 ≤ 1))]) rfl ?_
  refine go_if_ne 12 dX6_away_7 (by decide) (fun q => ?_) (fun q => ?_)
  · have h := h.1 (bI1.mp q)
    refine go_aload_n dX6_away_12 0 rfl ?_
    refine go_iconst (v := 0) dX6_away_13 (by decide) ?_
    obtain ⟨c1, h⟩ := h
    obtain ⟨c2, h⟩ := h
    obtain ⟨c3, h⟩ := h
    obtain ⟨c4, h⟩ := h
    obtain ⟨c5, h⟩ := h
    obtain ⟨c6, h⟩ := h
    refine go_callV (st := []) (kX6_meetOnI (d + 0) 0 0 X 9 c1 c2 c3 c4 c5 c6) rfl rfl okX6_meetOn insX6_meetOn selX6_meetOn lkX6_182 rfl rfl (Nat.le_of_ble_eq_true rfl) dX6_away_14 (fun v_ m7 q => ?_)
    rw [q.1]
    have h := h m7 q.2
    refine go_stk (st2 := [.int (oM (ftF (fun t => togX 9 (itX 9 nof X t)) 301))]) rfl ?_
    refine go_topi (fun y8 qy8 => ?_)
    have h := h y8 qy8
    refine go_istore_n (L2 := [(2, .int y8), (0, .ref 40), (1, .int a1)]) dX6_away_17 (by decide) rfl ?_
    refine go_bipush (v := (-4)) dX6_away_18 (by decide) ?_
    refine go_istore_n (L2 := [(3, .int (-4)), (2, .int y8), (0, .ref 40), (1, .int a1)]) dX6_away_20 (by decide) rfl ?_
    refine go_iconst (v := 0) dX6_away_21 (by decide) ?_
    refine go_istore (L2 := [(4, .int 0), (3, .int (-4)), (2, .int y8), (0, .ref 40), (1, .int a1)]) dX6_away_22 (by decide) rfl ?_
    exact Go.pick [3, 4, 2, 1, 0] rfl h
  · have h := h.2 (bI0.mp q)
    refine go_iconst (v := (-1)) dX6_away_10 (by decide) ?_
    exact go_iret rfl dX6_away_11 h

set_option maxRecDepth 100000 in
theorem sX6_away_24 {G : GX} {d : Nat} {mem : Mem} {Φ : Option Value → Mem → Prop} (a1 ls wh : Int32) (v : Nat) (X : Bm) (h : (((mem 41 (20 : Int32).toNatClampNeg) ≤ (nI v) → ((wh = (-4) → Φ (some (.int wh)) mem) ∧ (¬ wh = (-4) → ((¬ a1 = 0 → Φ (some (.int ls)) mem) ∧ (a1 = 0 → Φ (some (.int wh)) mem))))) ∧ (¬ (mem 41 (20 : Int32).toNatClampNeg) ≤ (nI v) → (0 = nI 0) ∧ (0 ≤ 115 ∧ (0 + 23 ≤ 92 ∨ 0 = 115)) ∧ (v < 10 ∧ (v = 9 ∨ v < xn X)) ∧ (VX v 30 X) ∧ (RepM (um mem 40 14 (nI v)) 0 X) ∧ ((um mem 40 14 (nI v)) 40 14 = goI v) ∧ ∀ m7 : Mem, FrM 92 (um mem 40 14 (nI v)) m7 → ∀ y8 : Int32, y8 = (oM (ftF (fun t => togX v (itX v nof X t)) 301)) → ((ls ≤ y8 → ((ls ≤ y8 → Go G (d + 4) mX6_away 24 [(0, .ref 40), (1, .int a1), (2, .int ls), (3, .int wh), (4, .int ((nI v) + 1))] [] (um m7 40 14 (-4)) Φ) ∧ (¬ ls ≤ y8 → Go G (d + 4) mX6_away 24 [(0, .ref 40), (1, .int a1), (2, .int y8), (3, .int wh), (4, .int ((nI v) + 1))] [] (um m7 40 14 (-4)) Φ))) ∧ (¬ ls ≤ y8 → ((ls ≤ y8 → Go G (d + 4) mX6_away 24 [(0, .ref 40), (1, .int a1), (2, .int ls), (3, .int (nI v)), (4, .int ((nI v) + 1))] [] (um m7 40 14 (-4)) Φ) ∧ (¬ ls ≤ y8 → Go G (d + 4) mX6_away 24 [(0, .ref 40), (1, .int a1), (2, .int y8), (3, .int (nI v)), (4, .int ((nI v) + 1))] [] (um m7 40 14 (-4)) Φ))))))) : Go G (d + 4) mX6_away 24 [(0, .ref 40), (1, .int a1), (2, .int ls), (3, .int wh), (4, .int (nI v))] [] mem Φ := by
  refine go_iload dX6_away_24 4 rfl ?_
  refine go_aload_n dX6_away_26 0 rfl ?_
  refine go_getR (kf := 0) (t := 41) rfl rfl rfl uwX6 (by decide) flX6_7 dX6_away_27 ?_
  refine go_bipush (v := 20) dX6_away_30 (by decide) ?_
  refine go_iaload rfl (nin (a := 20) (by decide) (by decide)) dX6_away_32 ?_
  refine go_icmp_ge 87 dX6_away_33 (by decide) (fun q => ?_) (fun q => ?_)
  · have h := h.1 q
    refine go_iload_n dX6_away_87 3 rfl ?_
    refine go_bipush (v := (-4)) dX6_away_88 (by decide) ?_
    refine go_icmp_eq 97 dX6_away_90 (by decide) (fun q => ?_) (fun q => ?_)
    · have h := h.1 q
      refine go_iload_n dX6_away_97 3 rfl ?_
      refine go_goto 102 dX6_away_98 (by decide) ?_
      exact go_iret rfl dX6_away_102 h
    · have h := h.2 q
      refine go_iload_n dX6_away_93 1 rfl ?_
      refine go_if_ne 101 dX6_away_94 (by decide) (fun q => ?_) (fun q => ?_)
      · have h := h.1 q
        refine go_iload_n dX6_away_101 2 rfl ?_
        exact go_iret rfl dX6_away_102 h
      · have h := h.2 q
        refine go_iload_n dX6_away_97 3 rfl ?_
        refine go_goto 102 dX6_away_98 (by decide) ?_
        exact go_iret rfl dX6_away_102 h
  · have h := h.2 q
    refine go_aload_n dX6_away_36 0 rfl ?_
    refine go_iload dX6_away_37 4 rfl ?_
    refine go_putI (kf := 14) rfl rfl rfl uwX6 tyX6_ok nmX6 (by decide) rfl flX6_25 rfl rfl dX6_away_39 ?_
    refine go_aload_n dX6_away_42 0 rfl ?_
    refine go_iconst (v := 0) dX6_away_43 (by decide) ?_
    obtain ⟨c1, h⟩ := h
    obtain ⟨c2, h⟩ := h
    obtain ⟨c3, h⟩ := h
    obtain ⟨c4, h⟩ := h
    obtain ⟨c5, h⟩ := h
    obtain ⟨c6, h⟩ := h
    refine go_callV (st := []) (kX6_meetOnI (d + 0) 0 0 X v c1 c2 c3 c4 c5 c6) rfl rfl okX6_meetOn insX6_meetOn selX6_meetOn lkX6_182 rfl rfl (Nat.le_of_ble_eq_true rfl) dX6_away_44 (fun v_ m7 q => ?_)
    rw [q.1]
    have h := h m7 q.2
    refine go_stk (st2 := [.int (oM (ftF (fun t => togX v (itX v nof X t)) 301))]) rfl ?_
    refine go_topi (fun y8 qy8 => ?_)
    have h := h y8 qy8
    refine go_istore (L2 := [(5, .int y8), (0, .ref 40), (1, .int a1), (2, .int ls), (3, .int wh), (4, .int (nI v))]) dX6_away_47 (by decide) rfl ?_
    refine go_aload_n dX6_away_49 1 rfl ?_
    refine go_bipush (v := (-4)) dX6_away_50 (by decide) ?_
    refine go_putI (kf := 14) rfl rfl rfl uwX6 tyX6_ok nmX6 (by decide) rfl flX6_25 rfl rfl dX6_away_52 ?_
    refine go_iload dX6_away_55 0 rfl ?_
    refine go_iload_n dX6_away_57 3 rfl ?_
    refine go_icmp_ge 66 dX6_away_58 (by decide) (fun q => ?_) (fun q => ?_)
    · have h := h.1 q
      refine go_iload_n dX6_away_66 4 rfl ?_
      refine go_istore_n (L2 := [(3, .int wh), (5, .int y8), (0, .ref 40), (1, .int a1), (2, .int ls), (4, .int (nI v))]) dX6_away_67 (by decide) rfl ?_
      refine go_iload dX6_away_68 1 rfl ?_
      refine go_iload_n dX6_away_70 4 rfl ?_
      refine go_icmp_ge 79 dX6_away_71 (by decide) (fun q => ?_) (fun q => ?_)
      · have h := h.1 q
        refine go_iload_n dX6_away_79 4 rfl ?_
        refine go_istore_n (L2 := [(2, .int ls), (3, .int wh), (5, .int y8), (0, .ref 40), (1, .int a1), (4, .int (nI v))]) dX6_away_80 (by decide) rfl ?_
        refine go_iinc (v := ((nI v) + 1)) (L2 := [(4, .int ((nI v) + 1)), (2, .int ls), (3, .int wh), (5, .int y8), (0, .ref 40), (1, .int a1)]) dX6_away_81 5 rfl rfl (by decide) rfl ?_
        refine go_goto 24 dX6_away_84 (by decide) ?_
        exact Go.pick [4, 5, 1, 2, 0] rfl h
      · have h := h.2 q
        refine go_iload dX6_away_74 1 rfl ?_
        refine go_goto 80 dX6_away_76 (by decide) ?_
        refine go_istore_n (L2 := [(2, .int y8), (3, .int wh), (5, .int y8), (0, .ref 40), (1, .int a1), (4, .int (nI v))]) dX6_away_80 (by decide) rfl ?_
        refine go_iinc (v := ((nI v) + 1)) (L2 := [(4, .int ((nI v) + 1)), (2, .int y8), (3, .int wh), (5, .int y8), (0, .ref 40), (1, .int a1)]) dX6_away_81 5 rfl rfl (by decide) rfl ?_
        refine go_goto 24 dX6_away_84 (by decide) ?_
        exact Go.pick [4, 5, 1, 2, 0] rfl h
    · have h := h.2 q
      refine go_iload dX6_away_61 5 rfl ?_
      refine go_goto 67 dX6_away_63 (by decide) ?_
      refine go_istore_n (L2 := [(3, .int (nI v)), (5, .int y8), (0, .ref 40), (1, .int a1), (2, .int ls), (4, .int (nI v))]) dX6_away_67 (by decide) rfl ?_
      refine go_iload dX6_away_68 1 rfl ?_
      refine go_iload_n dX6_away_70 4 rfl ?_
      refine go_icmp_ge 79 dX6_away_71 (by decide) (fun q => ?_) (fun q => ?_)
      · have h := h.1 q
        refine go_iload_n dX6_away_79 4 rfl ?_
        refine go_istore_n (L2 := [(2, .int ls), (3, .int (nI v)), (5, .int y8), (0, .ref 40), (1, .int a1), (4, .int (nI v))]) dX6_away_80 (by decide) rfl ?_
        refine go_iinc (v := ((nI v) + 1)) (L2 := [(4, .int ((nI v) + 1)), (2, .int ls), (3, .int (nI v)), (5, .int y8), (0, .ref 40), (1, .int a1)]) dX6_away_81 5 rfl rfl (by decide) rfl ?_
        refine go_goto 24 dX6_away_84 (by decide) ?_
        exact Go.pick [4, 5, 1, 2, 0] rfl h
      · have h := h.2 q
        refine go_iload dX6_away_74 1 rfl ?_
        refine go_goto 80 dX6_away_76 (by decide) ?_
        refine go_istore_n (L2 := [(2, .int y8), (3, .int (nI v)), (5, .int y8), (0, .ref 40), (1, .int a1), (4, .int (nI v))]) dX6_away_80 (by decide) rfl ?_
        refine go_iinc (v := ((nI v) + 1)) (L2 := [(4, .int ((nI v) + 1)), (2, .int y8), (3, .int (nI v)), (5, .int y8), (0, .ref 40), (1, .int a1)]) dX6_away_81 5 rfl rfl (by decide) rfl ?_
        refine go_goto 24 dX6_away_84 (by decide) ?_
        exact Go.pick [4, 5, 1, 2, 0] rfl h


/-! a beam without its clock g, and the beam where g is gone -/
def sk (g j : Nat) : Nat := if j < g then j else j + 1
def Rm (g : Nat) (X Y : Bm) : Prop := xn Y = xn X - 1 ∧ xu Y = xu X ∧ ∀ j, j < xn X - 1 → xk Y j = xk X (sk g j) ∧ xp Y j = xp X (sk g j) ∧ xh Y j = xh X (sk g j)
theorem ctF_rm {g : Nat} {f : Nat → Bool} (hf : f g = false) : ∀ n, (g < n → ctF f n = ctF (fun j => f (sk g j)) (n - 1)) ∧ (n ≤ g → ctF f n = ctF (fun j => f (sk g j)) n) := by
  intro n
  induction n with
  | zero => exact ⟨fun h => by omega, fun _ => rfl⟩
  | succ n ih =>
    refine ⟨fun h => ?_, fun h => ?_⟩
    · by_cases q : g = n
      · rw [ctF, ih.2 (by omega), ← q, hf]; simp
      · obtain ⟨k, rfl⟩ : ∃ k, n = k + 1 := ⟨n - 1, by omega⟩
        rw [ctF, ih.1 (by omega)]
        show ctF (fun j => f (sk g j)) k + _ = ctF (fun j => f (sk g j)) (k + 1)
        rw [ctF, show f (sk g k) = f (k + 1) by unfold sk; rw [if_neg (by omega)]]
    · rw [ctF, ih.2 (by omega), ctF, show f (sk g n) = f n by unfold sk; rw [if_pos (by omega)]]
theorem bt_rm {g : Nat} {X Y : Bm} (h : Rm g X Y) (hn : xn X ≤ 5) {j : Nat} (hj : j < xn X - 1) : bt 9 Y j = bt g X (sk g j) := by
  obtain ⟨a, b, c⟩ := h.2.2 j hj
  unfold bt
  rw [b, c]
  congr 1
  have h1 : sk g j ≠ g := by unfold sk; split <;> omega
  have h2 : j ≠ 9 := by omega
  exact propext ⟨fun z => ⟨h1, z.2⟩, fun z => ⟨h2, z.2⟩⟩
theorem many_rm {g : Nat} {X Y : Bm} (h : Rm g X Y) (hn : xn X ≤ 5) (hg : g < xn X) : many 9 Y = many g X := by
  unfold many
  rw [(ctF_rm (g := g) (f := bt g X) (by unfold bt; exact decide_eq_false (fun z => z.1 rfl)) (xn X)).1 hg, h.1]
  exact ctF_cong _ (fun j hj => bt_rm h hn hj)
theorem Rm_tk {g : Nat} {X Y : Bm} {held : Bool} (h : Rm g X Y) (hn : xn X ≤ 5) (hg : g < xn X) : Rm g (tkX g held X) (tkX 9 held Y) := by
  refine ⟨h.1, h.2.1, fun j hj => ?_⟩
  have hj' : j < xn X - 1 := hj
  obtain ⟨a, b, c⟩ := h.2.2 j hj'
  refine ⟨a, b, ?_⟩
  show tkh 9 held Y j = tkh g held X (sk g j)
  unfold tkh
  rw [bt_rm h hn hj', many_rm h hn hg, a, b, c, h.2.1]
theorem Rm_it {g : Nat} {X Y : Bm} (hn : xn X ≤ 5) (hg : g < xn X) (h : Rm g X Y) : ∀ t, Rm g (itX g nof X t) (itX 9 nof Y t)
  | 0 => h
  | t + 1 => Rm_tk (Rm_it hn hg h t) (by rw [it_n]; exact hn) (by rw [it_n]; exact hg)
theorem tog_rm {g : Nat} {X Y : Bm} (h : Rm g X Y) (hn : xn X ≤ 5) (hg : g < xn X) : togX 9 Y = togX g X := by
  unfold togX
  rw [many_rm h hn hg, h.1]
  congr 1
  refine propext (and_congr_right (fun _ => ⟨fun z c hc hcg => ?_, fun z j hj _ => ?_⟩))
  · rcases Nat.lt_or_ge c g with q | q
    · have e := bt_rm h hn (show c < xn X - 1 by omega)
      rw [z c (by omega) (by omega)] at e
      rw [show sk g c = c by unfold sk; rw [if_pos q]] at e
      exact e.symm
    · have e := bt_rm h hn (show c - 1 < xn X - 1 by omega)
      rw [z (c - 1) (by omega) (by omega)] at e
      rw [show sk g (c - 1) = c by unfold sk; rw [if_neg (by omega)]; omega] at e
      exact e.symm
  · rw [bt_rm h hn hj]
    exact z (sk g j) (by unfold sk; split <;> omega) (by unfold sk; split <;> omega)
theorem Rm_rem {g : Nat} {X : Bm} : Rm g X (remX g X) := by
  refine ⟨rfl, rfl, fun j _ => ⟨?_, ?_, ?_⟩⟩
  · show rmF g (xk X) j = xk X (sk g j)
    unfold rmF sk; split <;> rfl
  · show rmF g (xp X) j = xp X (sk g j)
    unfold rmF sk; split <;> rfl
  · show rmF g (xh X) j = xh X (sk g j)
    unfold rmF sk; split <;> rfl
theorem tog_away {g : Nat} {X : Bm} (hn : xn X ≤ 5) (hg : g < xn X) (t : Nat) : togX 9 (itX 9 nof (remX g X) t) = togX g (itX g nof X t) := tog_rm (Rm_it hn hg Rm_rem t) (by rw [it_n]; exact hn) (by rw [it_n]; exact hg)
theorem VX_rem {g : Nat} {X : Bm} (h : VX 9 30 X) (hg : g < xn X) : VX 9 30 (remX g X) := by
  have hn := h.1
  refine ⟨by show xn X - 1 ≤ 5; omega, h.2.1, fun j hj => ?_⟩
  have hj' : j < xn X - 1 := hj
  obtain ⟨a, b, c⟩ := (Rm_rem (g := g) (X := X)).2.2 j hj'
  have hs : sk g j < xn X := by unfold sk; split <;> omega
  obtain ⟨q1, q2, q3, q4, q5⟩ := h.2.2 (sk g j) hs
  rw [a, b, c]
  exact ⟨q1, q2, q3, fun _ => q4 (by omega), fun z => by omega⟩
theorem VX_go {g : Nat} {X : Bm} (h : VX 9 30 X) : VX g 30 X := by
  have hn := h.1
  refine ⟨hn, h.2.1, fun j hj => ?_⟩
  obtain ⟨q1, q2, q3, q4, q5⟩ := h.2.2 j hj
  have q4 := q4 (by omega)
  exact ⟨q1, q2, q3, fun _ => q4, fun _ => by omega⟩
theorem lX5_away {G : GX} {d : Nat} {mem0 : Mem} (w : Int32) (X : Bm) (hV : VX 9 30 X) (hR : RepB mem0 1 X) : ∀ (r v : Nat) (m : Mem) (s : Bs), v + r = xn X → QC mem0 m → RepBs m s → s.2 ≤ 301 → Go G (d + 6) mX5_away 46 [(0, .ref 0), (1, .int w), (3, .int (nI v))] [] m (Ri (bsA (bsF (fun v t => togX v (itX v nof X t)) r v s) w) (QC mem0)) := by
  intro r
  have hn := hV.1
  induction r with
  | zero =>
    intro v m s hv h1 h2 h3
    have hR1 : RepB m 1 X := hR.fr (fun j a b => h1 j (by omega) (by omega) (by omega))
    refine sX5_away_46 w v X s ⟨fun _ => Ri.mk ?_ h1, fun z => ?_⟩
    · show _ = bsA s w
      unfold bsA
      rw [h2.1, h2.2.1]
    · rw [hR1.1] at z
      exact absurd ((nle (by omega) (by omega)).mpr (by omega)) z
  | succ r ih =>
    intro v m s hv h1 h2 h3
    have hR1 : RepB m 1 X := hR.fr (fun j a b => h1 j (by omega) (by omega) (by omega))
    refine sX5_away_46 w v X s ⟨fun z => ?_, fun _ => ⟨hn, hR1, fun m3 h3' => ⟨rfl, by omega, h3'.1, fun m7 h7 => ⟨by omega, VX_rem hV (by omega), h7.1, ?_, by omega, fun m9 h9 => ?_⟩⟩⟩⟩
    · rw [hR1.1] at z
      exact absurd ((nle (by omega) (by omega)).mp z) (by omega)
    · exact h2.fr (by rw [h7.2 30 (by omega), h3'.2 30 (by omega)])
    · rw [nI_1]
      have e : bst (fun t => togX 9 (itX 9 nof (remX v X) t)) v s = bst (fun t => togX v (itX v nof X t)) v s := by
        rw [show (fun t => togX 9 (itX 9 nof (remX v X) t)) = (fun t => togX v (itX v nof X t)) from funext (fun t => tog_away hn (by omega) t)]
      rw [e] at h9
      exact ih (v + 1) m9 _ (by omega) (((h1.of6 h3'.2).of6 h7.2).bs h9.2) h9.1 (Nat.le_trans bst_le h3)
theorem lX6_away {G : GX} {d : Nat} {mem0 : Mem} (w : Int32) (X : Bm) (hV : VX 9 30 X) (hR : RepM mem0 0 X) (hG : mem0 40 14 = goI 9) : ∀ (r v : Nat) (m : Mem) (s : Bs), v + r = xn X → QM mem0 m → BsOk s → Go G (d + 4) mX6_away 24 [(0, .ref 40), (1, .int w), (2, .int (lsI s.2)), (3, .int (optI s.1)), (4, .int (nI v))] [] m (Ri (bsA (bsF (fun v t => togX v (itX v nof X t)) r v s) w) (QM mem0)) := by
  intro r
  have hn := hV.1
  induction r with
  | zero =>
    intro v m s hv h1 h3
    have f := bs_fin (w := w) h3
    have e20 : m 41 20 = nI (xn X) := by rw [h1.2.1 20 (by omega)]; exact hR.1
    refine sX6_away_24 w _ _ v X ⟨fun _ => ⟨fun z => Ri.mk (f.1 z) h1, fun z => ⟨fun y => Ri.mk ((f.2 z).1 y) h1, fun y => Ri.mk ((f.2 z).2 y) h1⟩⟩, fun z => ?_⟩
    rw [show (20 : Int32).toNatClampNeg = 20 from rfl, e20] at z
    exact absurd ((nle (by omega) (by omega)).mpr (by omega)) z
  | succ r ih =>
    intro v m s hv h1 h3
    have e20 : m 41 20 = nI (xn X) := by rw [h1.2.1 20 (by omega)]; exact hR.1
    refine sX6_away_24 w _ _ v X ⟨fun z => ?_, fun _ => ⟨rfl, ⟨by omega, by omega⟩, ⟨by omega, Or.inr (by omega)⟩, VX_go hV, ?_, ?_, fun m7 h7 y ey => ?_⟩⟩
    · rw [show (20 : Int32).toNatClampNeg = 20 from rfl, e20] at z
      exact absurd ((nle (by omega) (by omega)).mp z) (by omega)
    · exact hR.fr hn (fun j _ _ => by rw [um_ne (by decide)]; exact h1.2.1 j (by omega))
    · rw [um_same]
      unfold goI
      rw [if_neg (by omega)]
    · rw [nI_1]
      have e7 : ∀ k, k ≠ 41 → k ≠ 40 → (um m7 40 14 (-4)) k = m k := fun k a b => by rw [um_ne b, h7.1 k a, um_ne b]
      have Q9 : QM mem0 (um m7 40 14 (-4)) := by
        refine ⟨fun k a b c => by rw [e7 k b a, h1.1 k a b c], fun j hj => by rw [um_ne (by decide), h7.2 j (by omega), um_ne (by decide)]; exact h1.2.1 j hj, fun j a b c => ?_⟩
        rw [um_at, h7.1 40 (by decide), um_at]
        by_cases z : j = 14
        · rw [if_pos z, z, hG]; rfl
        · rw [if_neg z, if_neg z]; exact h1.2.2 j a b c
      have i9 := ih (v + 1) (um m7 40 14 (-4)) (bst (fun t => togX v (itX v nof X t)) v s) (by omega) Q9 (bst_ok h3 (by omega))
      rcases bs_step (v := v) h3 ey with ⟨q, e⟩ | ⟨q, e, e'⟩
      · rw [show bsF (fun v t => togX v (itX v nof X t)) (r + 1) v s = bsF (fun v t => togX v (itX v nof X t)) r (v + 1) (bst (fun t => togX v (itX v nof X t)) v s) from rfl]
        rw [e] at i9 ⊢
        exact ⟨fun _ => ⟨fun _ => i9, fun z => absurd q z⟩, fun z => absurd q z⟩
      · rw [← e, ← e'] at i9
        exact ⟨fun z => absurd z q, fun _ => ⟨fun z => absurd z q, fun _ => i9⟩⟩
theorem aw_ex (P : Nat → Bool) : ∃ N : Nat, N ≤ 301 ∧ oM (ftF P 301) = lsI N ∧ ((ftF P 301 = none ∧ N = 301) ∨ ∃ t, ftF P 301 = some t ∧ N = t) := by
  rcases ftF_spec (P := P) (N := 301) with ⟨e, _⟩ | ⟨t, ht, e, _, _⟩
  · exact ⟨301, Nat.le_refl _, by rw [e]; rfl, Or.inl ⟨e, rfl⟩⟩
  · refine ⟨t, by omega, ?_, Or.inr ⟨t, e, rfl⟩⟩
    rw [e]
    show nI t = lsI t
    unfold lsI
    rw [if_neg (by omega)]
theorem P21 {G : GX} (w : Int32) : Sm G mX5_away mX6_away [.int w] := Sm_q (fun mem X S h1 h5 h7 => by
  have hV := h1.2.2.1
  have hn := hV.1
  obtain ⟨N, hN, hM, hC⟩ := aw_ex (fun t => togX 9 (itX 9 nof X t))
  by_cases q : 0 ≤ w ∧ w ≤ 1
  · refine ⟨bsA (bsF (fun v t => togX v (itX v nof X t)) (xn X) 0 (none, N)) w, ?_, fun m1 g1 g5 g7 => ?_⟩
    · refine cn_of (by decide +kernel) (Nat.le_of_ble_eq_true rfl) (sX5_away_0 (d := 3) w X ⟨fun _ => ⟨hn, h1.1, fun m3 h3 => ⟨rfl, by omega, hV, h3.1, fun m8 h8 y ey => ?_⟩⟩, fun z => absurd q z⟩)
      have Q8 : QC mem m8 := (QC.rf.of6 h3.2).of6 h8
      have main : ∀ l : Int32, l = nI (N) - 1 → Go G (3 + 6) mX5_away 46 [(0, .ref 0), (1, .int w), (3, .int 0)] [] (rsM m8 l) (Ri (bsA (bsF (fun v t => togX v (itX v nof X t)) (xn X) 0 (none, N)) w) (QC mem)) := fun l el => by
        rw [el]
        exact lX5_away w X hV h1.1 (xn X) 0 _ _ (by omega) (Q8.tr QC.rs) RepBs.rs hN
      rcases hC with ⟨hf, eN⟩ | ⟨t, hf, eN⟩
      · rw [hf] at ey
        exact ⟨fun z => absurd ey z, fun _ => main 300 (by rw [eN]; rfl)⟩
      · rw [hf] at ey
        have ht := ftF_lt hf
        refine ⟨fun _ => main _ (by rw [eN, ey]; rfl), fun z => ?_⟩
        have hz : (0 : Int32) ≤ nI t := nI_pos' (by omega)
        rw [show nI t = -4 from ey.symm.trans z] at hz
        exact absurd hz (by decide)
    · refine cn_of (by decide +kernel) (Nat.le_of_ble_eq_true rfl) (sX6_away_0 (d := 5) w X ⟨fun _ => ⟨rfl, ⟨by omega, by omega⟩, ⟨by omega, Or.inl rfl⟩, hV, g1.2.1, g7.1, fun m7 h7' y ey => ?_⟩, fun z => absurd q z⟩)
      rw [ey, hM]
      exact lX6_away w X hV g1.2.1 g7.1 (xn X) 0 m7 (none, N) (by omega) (h7'.qm (by omega)) ⟨hN, fun v z => by cases z⟩
  · refine ⟨-1, cn_of (by decide +kernel) (Nat.le_of_ble_eq_true rfl) (sX5_away_0 (d := 3) w X ⟨fun z => absurd z q, fun _ => Ri.mk rfl QC.rf⟩), fun m1 g1 g5 g7 => ?_⟩
    exact cn_of (by decide +kernel) (Nat.le_of_ble_eq_true rfl) (sX6_away_0 (d := 5) w X ⟨fun z => absurd z q, fun _ => Ri.mk rfl QM.rf⟩))
