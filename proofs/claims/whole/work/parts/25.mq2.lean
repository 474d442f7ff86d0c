
theorem kX6_meetOnI {G : GX} (d : Nat) {mem : Mem} (a : Int32) (P : Nat) (X : Bm) (g : Nat) (e : a = nI P) (hP : P ≤ 115 ∧ (P + 23 ≤ 92 ∨ P = 115)) (hg : g < 10 ∧ (g = 9 ∨ g < xn X)) (hV : VX g 30 X) (hR : RepM mem P X) (hG : mem 40 14 = goI g) : Cn G (d + 3) mX6_meetOn [.ref 40, .int a] mem (Ri (oM (ftF (fun t => togX g (itX g nof X t)) 301)) (fun m2 => FrM 92 mem m2)) := by
  rw [e]; exact kX6_meetOn d P X g hP hg hV hR hG
theorem kX6_copiesI {G : GX} (d : Nat) {mem : Mem} (a b : Int32) (f t : Nat) (e : a = nI f ∧ b = nI t) (h : f ≤ 115 ∧ t ≤ 115 ∧ (f + 23 ≤ t ∨ t + 23 ≤ f)) : Cn G (d + 0) mX6_copies [.ref 40, .int a, .int b] mem (Rv (fun m2 => m2 = cpM mem f t)) := by
  rw [e.1, e.2]; exact kX6_copies d f t h
theorem kX6_pushedOnI {G : GX} (d : Nat) {mem : Mem} (a1 a2 a3 : Int32) (P c m k p h u : Nat) (e : a1 = nI P ∧ a2 = nI c ∧ a3 = nI m) (hP : P ≤ 115 ∧ c < 5) (hv : k ≤ 3 ∧ 2 ≤ p ∧ p ≤ 30 ∧ h < 1000000 ∧ 1 ≤ m ∧ m ≤ 5 ∧ u ≤ 5) (e1 : mem 41 (P + c) = nI k) (e2 : mem 41 (P + 5 + c) = nI p) (e3 : mem 41 (P + 10 + c) = nI h) (e4 : mem 41 (P + 21) = nI u - 1) : Cn G (d + 1) mX6_pushedOn [.ref 40, .int a1, .int a2, .int a3] mem (Rv (fun m2 => m2 = um mem 41 (P + 10 + c) (nI (shN k p h m u)))) := by
  rw [e.1, e.2.1, e.2.2]; exact kX6_pushedOn d P c m k p h u hP hv e1 e2 e3 e4
theorem kX6_tickOnI {G : GX} (d : Nat) {mem : Mem} (a : Int32) (P : Nat) (held : Bool) (X : Bm) (g B : Nat) (e : a = nI P) (hP : P ≤ 115) (hg : g < 10 ∧ 30 ≤ B ∧ B < 900000) (hV : VX g B X) (hR : RepM mem P X) (hG : mem 40 14 = goI g) : Cn G (d + 2) mX6_tickOn [.ref 40, .int a, .int (bI (held = true))] mem (Ri (nI (who g X)) (fun m2 => RepM m2 P (tkX g held X) ∧ FrM P mem m2)) := by
  rw [e]; exact kX6_tickOn d P held X g B hP hg hV hR hG

set_option maxRecDepth 100000 in
theorem sX6_runs_0 {G : GX} {d : Nat} {mem : Mem} {Φ : Option Value → Mem → Prop} (a1 a2 : Int32) (n : Nat) (X Y : Bm) (h : ((¬ (0 ≤ a1 ∧ a1 ≤ 300) → Φ (some (.int (-1))) mem) ∧ ((0 ≤ a1 ∧ a1 ≤ 300) → (((0 ≤ a2 ∧ a2 ≤ 4) → (0 = nI 0 ∧ a1 = nI n) ∧ (n ≤ 300) ∧ (0 ≤ 115 ∧ 0 + 23 ≤ 92) ∧ (VX 9 30 X) ∧ (RepM mem 0 X) ∧ (mem 40 14 = goI 9) ∧ ∀ m7 : Mem, (RepM m7 92 (itX 9 nof X n) ∧ m7 40 15 = nI (ldX X n) ∧ m7 40 16 = nI (msX X n) ∧ m7 40 17 = nI (flX X n) ∧ FrT mem m7) → ((a2 = 0 → Φ (some (.int (nI (smX 9 nof X n)))) m7) ∧ (¬ a2 = 0 → ((a2 = 1 → Φ (some (.int (m7 40 15))) m7) ∧ (¬ a2 = 1 → ((a2 = 2 → Φ (some (.int (m7 40 16))) m7) ∧ (¬ a2 = 2 → ((a2 = 3 → Φ (some (.int (m7 40 17))) m7) ∧ (¬ a2 = 3 → (92 = nI 92 ∧ 10 = nI 10) ∧ (92 ≤ 115 ∧ 10 ≤ 15 ∧ xn X ≤ 5) ∧ (m7 41 (92 + 20) = nI (xn X)) ∧ (∀ c, c < xn X → m7 41 (92 + 10 + c) = nI ((xh Y) c)) ∧ Φ (some (.int (nI (smF (xh Y) (xn X))))) m7))))))))) ∧ (¬ (0 ≤ a2 ∧ a2 ≤ 4) → Φ (some (.int (-1))) mem))))) : Go G (d + 4) mX6_runs 0 [(0, .ref 40), (1, .int a1), (2, .int a2)] [] mem Φ := by
  refine go_iload_n dX6_runs_0 1 rfl ?_
  refine go_i2l dX6_runs_1 ?_
  refine go_lconst (v := 0) dX6_runs_2 (by decide) ?_
  refine go_ldc2 klX6_177 dX6_runs_3 ?_
  refine go_callS (st := []) (kX6_in (d + 3) a1 0 300 0 300 (by decide) (by decide)) okX6_in staX6_in lkX6_50 rfl rfl (Nat.le_of_ble_eq_true rfl) dX6_runs_6 (fun v_ m2_ q => ?_)
  rw [q.1, q.2]
  refine go_stk (st2 := [.int (bI (0 ≤ a1 ∧ a1 ≤ 300))]) rfl ?_
  refine go_if_eq 24 dX6_runs_9 (by decide) (fun q => ?_) (fun q => ?_)
  · have h := h.1 (bI0.mp q)
    refine go_iconst (v := (-1)) dX6_runs_24 (by decide) ?_
    exact go_iret rfl dX6_runs_25 h
  · have h := h.2 (bI1.mp q)
    refine go_iload_n dX6_runs_12 2 rfl ?_
    refine go_i2l dX6_runs_13 ?_
    refine go_lconst (v := 0) dX6_runs_14 (by decide) ?_
    refine go_ldc2 klX6_102 dX6_runs_15 ?_
    refine go_callS (st := []) (kX6_in (d + 3) a2 0 4 0 4 (by decide) (by decide)) okX6_in staX6_in lkX6_50 rfl rfl (Nat.le_of_ble_eq_true rfl) dX6_runs_18 (fun v_ m2_ q => ?_)
    rw [q.1, q.2]
    refine go_stk (st2 := [.int (bI (0 ≤ a2 ∧ a2 ≤ 4))]) rfl ?_
    refine go_if_ne 26 dX6_runs_21 (by decide) (fun q => ?_) (fun q => ?_)
    · have h := h.1 (bI1.mp q)
      refine go_aload_n dX6_runs_26 0 rfl ?_
      refine go_iconst (v := 0) dX6_runs_27 (by decide) ?_
      refine go_iload_n dX6_runs_28 1 rfl ?_
      obtain ⟨c1, h⟩ := h
      obtain ⟨c2, h⟩ := h
      obtain ⟨c3, h⟩ := h
      obtain ⟨c4, h⟩ := h
      obtain ⟨c5, h⟩ := h
      obtain ⟨c6, h⟩ := h
      refine go_callV (st := []) (kX6_ticksGoI (d + 0) 0 a1 0 n X c1 c2 c3 c4 c5 c6) rfl rfl okX6_ticksGo insX6_ticksGo selX6_ticksGo lkX6_179 rfl rfl (Nat.le_of_ble_eq_true rfl) dX6_runs_29 (fun v_ m7 q => ?_)
      rw [q.1]
      have h := h m7 q.2
      refine go_stk (st2 := [.int (nI (smX 9 nof X n))]) rfl ?_
      refine go_istore_n (L2 := [(3, .int (nI (smX 9 nof X n))), (0, .ref 40), (1, .int a1), (2, .int a2)]) dX6_runs_32 (by decide) rfl ?_
      refine go_iload_n dX6_runs_33 3 rfl ?_
      by_cases q0 : a2 = 0
      · have h := h.1 q0
        refine go_tabEq q0 64 dX6_runs_34 (by decide) (by decide) rfl (by decide) ?_
        refine go_iload_n dX6_runs_64 0 rfl ?_
        exact go_iret rfl dX6_runs_65 h
      have h := h.2 q0
      by_cases q1 : a2 = 1
      · have h := h.1 q1
        refine go_tabEq q1 66 dX6_runs_34 (by decide) (by decide) rfl (by decide) ?_
        refine go_aload_n dX6_runs_66 1 rfl ?_
        refine go_getI (kf := 15) rfl rfl rfl uwX6 (by decide) flX6_165 dX6_runs_67 ?_
        exact go_iret rfl dX6_runs_70 h
      have h := h.2 q1
      by_cases q2 : a2 = 2
      · have h := h.1 q2
        refine go_tabEq q2 71 dX6_runs_34 (by decide) (by decide) rfl (by decide) ?_
        refine go_aload_n dX6_runs_71 1 rfl ?_
        refine go_getI (kf := 16) rfl rfl rfl uwX6 (by decide) flX6_168 dX6_runs_72 ?_
        exact go_iret rfl dX6_runs_75 h
      have h := h.2 q2
      by_cases q3 : a2 = 3
      · have h := h.1 q3
        refine go_tabEq q3 76 dX6_runs_34 (by decide) (by decide) rfl (by decide) ?_
        refine go_aload_n dX6_runs_76 1 rfl ?_
        refine go_getI (kf := 17) rfl rfl rfl uwX6 (by decide) flX6_171 dX6_runs_77 ?_
        exact go_iret rfl dX6_runs_80 h
      have h := h.2 q3
      have e0 := neI q0 (z := 0) (by decide)
      have e1 := neI q1 (z := 1) (by decide)
      have e2 := neI q2 (z := 2) (by decide)
      have e3 := neI q3 (z := 3) (by decide)
      refine go_tabOut 81 dX6_runs_34 (by omega) (by decide) ?_
      refine go_aload_n dX6_runs_81 1 rfl ?_
      refine go_bipush (v := 92) dX6_runs_82 (by decide) ?_
      refine go_bipush (v := 10) dX6_runs_84 (by decide) ?_
      obtain ⟨c8, h⟩ := h
      obtain ⟨c9, h⟩ := h
      obtain ⟨c10, h⟩ := h
      obtain ⟨c11, h⟩ := h
      refine go_callV (st := []) (kX6_sumOnI (d + 3) 92 10 92 10 (xh Y) (xn X) c8 c9 c10 c11) rfl rfl okX6_sumOn insX6_sumOn selX6_sumOn lkX6_134 rfl rfl (Nat.le_of_ble_eq_true rfl) dX6_runs_86 (fun v_ m2_ q => ?_)
      rw [q.1, q.2]
      refine go_stk (st2 := [.int (nI (smF (xh Y) (xn X)))]) rfl ?_
      exact go_iret rfl dX6_runs_89 h
    · have h := h.2 (bI0.mp q)
      refine go_iconst (v := (-1)) dX6_runs_24 (by decide) ?_
      exact go_iret rfl dX6_runs_25 h

set_option maxRecDepth 100000 in
theorem sX6_ahead_0 {G : GX} {d : Nat} {mem : Mem} {Φ : Option Value → Mem → Prop} (a1 a2 a3 : Int32) (n : Nat) (X : Bm) (h : ((¬ (0 ≤ a1 ∧ a1 ≤ ((mem 41 20) - 1)) → Φ (some (.int (-1))) mem) ∧ ((0 ≤ a1 ∧ a1 ≤ ((mem 41 20) - 1)) → ((¬ (0 ≤ a2 ∧ a2 ≤ 300) → Φ (some (.int (-1))) mem) ∧ ((0 ≤ a2 ∧ a2 ≤ 300) → (((0 ≤ a3 ∧ a3 ≤ 1) → (0 = nI 0 ∧ a2 = nI n) ∧ (n ≤ 300) ∧ (0 ≤ 115 ∧ 0 + 23 ≤ 92) ∧ (VX 9 30 X) ∧ (RepM mem 0 X) ∧ (mem 40 14 = goI 9) ∧ ∀ m7 : Mem, (RepM m7 92 (itX 9 nof X n) ∧ m7 40 15 = nI (ldX X n) ∧ m7 40 16 = nI (msX X n) ∧ m7 40 17 = nI (flX X n) ∧ FrT mem m7) → ((¬ a3 = 0 → (vp_in (107 + a1) 138) ∧ (vp_in (15 + a1) 138) ∧ Φ (some (.int ((m7 41 ((107 + a1) : Int32).toNatClampNeg) - (m7 41 ((15 + a1) : Int32).toNatClampNeg)))) m7) ∧ (a3 = 0 → (vp_in (102 + a1) 138) ∧ Φ (some (.int (m7 41 ((102 + a1) : Int32).toNatClampNeg))) m7))) ∧ (¬ (0 ≤ a3 ∧ a3 ≤ 1) → Φ (some (.int (-1))) mem))))))) : Go G (d + 4) mX6_ahead 0 [(0, .ref 40), (1, .int a1), (2, .int a2), (3, .int a3)] [] mem Φ := by
  refine go_aload_n dX6_ahead_0 0 rfl ?_
  refine go_iload_n dX6_ahead_1 1 rfl ?_
  refine go_callV (st := []) (kX6_isClock (d + 2) a1) rfl rfl okX6_isClock insX6_isClock selX6_isClock lkX6_137 rfl rfl (Nat.le_of_ble_eq_true rfl) dX6_ahead_2 (fun v_ m2_ q => ?_)
  rw [q.1, q.2]
  refine go_stk (st2 := [.int (bI (0 ≤ a1 ∧ a1 ≤ ((mem 41 20) - 1)))]) rfl ?_
  refine go_if_eq 30 dX6_ahead_5 (by decide) (fun q => ?_) (fun q => ?_)
  · have h := h.1 (bI0.mp q)
    refine go_iconst (v := (-1)) dX6_ahead_30 (by decide) ?_
    exact go_iret rfl dX6_ahead_31 h
  · have h := h.2 (bI1.mp q)
    refine go_iload_n dX6_ahead_8 2 rfl ?_
    refine go_i2l dX6_ahead_9 ?_
    refine go_lconst (v := 0) dX6_ahead_10 (by decide) ?_
    refine go_ldc2 klX6_177 dX6_ahead_11 ?_
    refine go_callS (st := []) (kX6_in (d + 3) a2 0 300 0 300 (by decide) (by decide)) okX6_in staX6_in lkX6_50 rfl rfl (Nat.le_of_ble_eq_true rfl) dX6_ahead_14 (fun v_ m2_ q => ?_)
    rw [q.1, q.2]
    refine go_stk (st2 := [.int (bI (0 ≤ a2 ∧ a2 ≤ 300))]) rfl ?_
    refine go_if_eq 30 dX6_ahead_17 (by decide) (fun q => ?_) (fun q => ?_)
    · have h := h.1 (bI0.mp q)
      refine go_iconst (v := (-1)) dX6_ahead_30 (by decide) ?_
      exact go_iret rfl dX6_ahead_31 h
    · have h := h.2 (bI1.mp q)
      refine go_iload_n dX6_ahead_20 3 rfl ?_
      refine go_i2l dX6_ahead_21 ?_
      refine go_lconst (v := 0) dX6_ahead_22 (by decide) ?_
      refine go_lconst (v := 1) dX6_ahead_23 (by decide) ?_
      refine go_callS (st := []) (kX6_in (d + 3) a3 0 1 0 1 (by decide) (by decide)) okX6_in staX6_in lkX6_50 rfl rfl (Nat.le_of_ble_eq_true rfl) dX6_ahead_24 (fun v_ m2_ q => ?_)
      rw [q.1, q.2]
      refine go_stk (st2 := [.int (bI (0 ≤ a3 ∧ a3 ≤ 1))]) rfl ?_
      refine go_if_ne 32 dX6_ahead_27 (by decide) (fun q => ?_) (fun q => ?_)
      · have h := h.1 (bI1.mp q)
        refine go_aload_n dX6_ahead_32 0 rfl ?_
        refine go_iconst (v := 0) dX6_ahead_33 (by decide) ?_
        refine go_iload_n dX6_ahead_34 2 rfl ?_
        obtain ⟨c1, h⟩ := h
        obtain ⟨c2, h⟩ := h
        obtain ⟨c3, h⟩ := h
        obtain ⟨c4, h⟩ := h
        obtain ⟨c5, h⟩ := h
        obtain ⟨c6, h⟩ := h
        refine go_callV (st := []) (kX6_ticksGoI (d + 0) 0 a2 0 n X c1 c2 c3 c4 c5 c6) rfl rfl okX6_ticksGo insX6_ticksGo selX6_ticksGo lkX6_179 rfl rfl (Nat.le_of_ble_eq_true rfl) dX6_ahead_35 (fun v_ m7 q => ?_)
        rw [q.1]
        have h := h m7 q.2
        refine go_stk (st2 := [.int (nI (smX 9 nof X n))]) rfl ?_
        refine go_pop dX6_ahead_38 rfl ?_
        refine go_iload_n dX6_ahead_39 3 rfl ?_
        refine go_if_ne 55 dX6_ahead_40 (by decide) (fun q => ?_) (fun q => ?_)
        · have h := h.1 q
          refine go_aload_n dX6_ahead_55 0 rfl ?_
          refine go_getR (kf := 0) (t := 41) rfl rfl rfl uwX6 (by decide) flX6_7 dX6_ahead_56 ?_
          refine go_bipush (v := 107) dX6_ahead_59 (by decide) ?_
          refine go_iload_n dX6_ahead_61 1 rfl ?_
          refine go_iadd dX6_ahead_62 ?_
          obtain ⟨c8, h⟩ := h
          refine go_iaload rfl c8 dX6_ahead_63 ?_
          refine go_aload_n dX6_ahead_64 0 rfl ?_
          refine go_getR (kf := 0) (t := 41) rfl rfl rfl uwX6 (by decide) flX6_7 dX6_ahead_65 ?_
          refine go_bipush (v := 15) dX6_ahead_68 (by decide) ?_
          refine go_iload_n dX6_ahead_70 1 rfl ?_
          refine go_iadd dX6_ahead_71 ?_
          obtain ⟨c9, h⟩ := h
          refine go_iaload rfl c9 dX6_ahead_72 ?_
          refine go_isub dX6_ahead_73 ?_
          exact go_iret rfl dX6_ahead_74 h
        · have h := h.2 q
          refine go_aload_n dX6_ahead_43 0 rfl ?_
          refine go_getR (kf := 0) (t := 41) rfl rfl rfl uwX6 (by decide) flX6_7 dX6_ahead_44 ?_
          refine go_bipush (v := 102) dX6_ahead_47 (by decide) ?_
          refine go_iload_n dX6_ahead_49 1 rfl ?_
          refine go_iadd dX6_ahead_50 ?_
          obtain ⟨c10, h⟩ := h
          refine go_iaload rfl c10 dX6_ahead_51 ?_
          refine go_goto 74 dX6_ahead_52 (by decide) ?_
          exact go_iret rfl dX6_ahead_74 h
      · have h := h.2 (bI0.mp q)
        refine go_iconst (v := (-1)) dX6_ahead_30 (by decide) ?_
        exact go_iret rfl dX6_ahead_31 h

set_option maxRecDepth 100000 in
theorem sX6_beats_0 {G : GX} {d : Nat} {mem : Mem} {Φ : Option Value → Mem → Prop} (a1 : Int32) (n : Nat) (X : Bm) (h : (((0 ≤ a1 ∧ a1 ≤ 300) → (0 = nI 0 ∧ a1 = nI n) ∧ (n ≤ 300) ∧ (0 ≤ 115 ∧ 0 + 23 ≤ 92) ∧ (VX 9 30 X) ∧ (RepM mem 0 X) ∧ (mem 40 14 = goI 9) ∧ ∀ m7 : Mem, (RepM m7 92 (itX 9 nof X n) ∧ m7 40 15 = nI (ldX X n) ∧ m7 40 16 = nI (msX X n) ∧ m7 40 17 = nI (flX X n) ∧ FrT mem m7) → (92 = nI 92) ∧ (92 ≤ 115) ∧ (9 < 10 ∧ 30 < 900000) ∧ (VX 9 30 (itX 9 nof X n)) ∧ (RepM m7 92 (itX 9 nof X n)) ∧ (m7 40 14 = goI 9) ∧ Φ (some (.int (nI (who 9 (itX 9 nof X n))))) m7) ∧ (¬ (0 ≤ a1 ∧ a1 ≤ 300) → Φ (some (.int (-1))) mem))) : Go G (d + 4) mX6_beats 0 [(0, .ref 40), (1, .int a1)] [] mem Φ := by
  refine go_iload_n dX6_beats_0 1 rfl ?_
  refine go_i2l dX6_beats_1 ?_
  refine go_lconst (v := 0) dX6_beats_2 (by decide) ?_
  refine go_ldc2 klX6_177 dX6_beats_3 ?_
  refine go_callS (st := []) (kX6_in (d + 3) a1 0 300 0 300 (by decide) (by decide)) okX6_in staX6_in lkX6_50 rfl rfl (Nat.le_of_ble_eq_true rfl) dX6_beats_6 (fun v_ m2_ q => ?_)
  rw [q.1, q.2]
  refine go_stk (st2 := [.int (bI (0 ≤ a1 ∧ a1 ≤ 300))]) rfl ?_
  refine go_if_ne 14 dX6_beats_9 (by decide) (fun q => ?_) (fun q => ?_)
  · have h := h.1 (bI1.mp q)
    refine go_aload_n dX6_beats_14 0 rfl ?_
    refine go_iconst (v := 0) dX6_beats_15 (by decide) ?_
    refine go_iload_n dX6_beats_16 1 rfl ?_
    obtain ⟨c1, h⟩ := h
    obtain ⟨c2, h⟩ := h
    obtain ⟨c3, h⟩ := h
    obtain ⟨c4, h⟩ := h
    obtain ⟨c5, h⟩ := h
    obtain ⟨c6, h⟩ := h
    refine go_callV (st := []) (kX6_ticksGoI (d + 0) 0 a1 0 n X c1 c2 c3 c4 c5 c6) rfl rfl okX6_ticksGo insX6_ticksGo selX6_ticksGo lkX6_179 rfl rfl (Nat.le_of_ble_eq_true rfl) dX6_beats_17 (fun v_ m7 q => ?_)
    rw [q.1]
    have h := h m7 q.2
    refine go_stk (st2 := [.int (nI (smX 9 nof X n))]) rfl ?_
    refine go_pop dX6_beats_20 rfl ?_
    refine go_aload_n dX6_beats_21 0 rfl ?_
    refine go_bipush (v := 92) dX6_beats_22 (by decide) ?_
    obtain ⟨c8, h⟩ := h
    obtain ⟨c9, h⟩ := h
    obtain ⟨c10, h⟩ := h
    obtain ⟨c11, h⟩ := h
    obtain ⟨c12, h⟩ := h
    obtain ⟨c13, h⟩ := h
    refine go_callV (st := []) (kX6_beatsOnI (d + 3) 92 92 (itX 9 nof X n) 9 30 c8 c9 c10 c11 c12 c13) rfl rfl okX6_beatsOn insX6_beatsOn selX6_beatsOn lkX6_124 rfl rfl (Nat.le_of_ble_eq_true rfl) dX6_beats_24 (fun v_ m2_ q => ?_)
    rw [q.1, q.2]
    refine go_stk (st2 := [.int (nI (who 9 (itX 9 nof X n)))]) rfl ?_
    exact go_iret rfl dX6_beats_27 h
  · have h := h.2 (bI0.mp q)
    refine go_iconst (v := (-1)) dX6_beats_12 (by decide) ?_
    exact go_iret rfl dX6_beats_13 h

set_option maxRecDepth 100000 in
theorem sX6_together_0 {G : GX} {d : Nat} {mem : Mem} {Φ : Option Value → Mem → Prop} (X : Bm) (h : (0 = nI 0) ∧ (0 ≤ 115 ∧ (0 + 23 ≤ 92 ∨ 0 = 115)) ∧ (9 < 10 ∧ (9 = 9 ∨ 9 < xn X)) ∧ (VX 9 30 X) ∧ (RepM mem 0 X) ∧ (mem 40 14 = goI 9) ∧ ∀ m7 : Mem, FrM 92 mem m7 → ∀ y8 : Int32, y8 = (oM (ftF (fun t => togX 9 (itX 9 nof X t)) 301)) → ((¬ y8 = 1000 → Φ (some (.int y8)) m7) ∧ (y8 = 1000 → Φ (some (.int (-4))) m7))) : Go G (d + 4) mX6_together 0 [(0, .ref 40)] [] mem Φ := by
  refine go_aload_n dX6_together_0 0 rfl ?_
  refine go_iconst (v := 0) dX6_together_1 (by decide) ?_
  obtain ⟨c1, h⟩ := h
  obtain ⟨c2, h⟩ := h
  obtain ⟨c3, h⟩ := h
  obtain ⟨c4, h⟩ := h
  obtain ⟨c5, h⟩ := h
  obtain ⟨c6, h⟩ := h
  refine go_callV (st := []) (kX6_meetOnI (d + 0) 0 0 X 9 c1 c2 c3 c4 c5 c6) rfl rfl okX6_meetOn insX6_meetOn selX6_meetOn lkX6_182 rfl rfl (Nat.le_of_ble_eq_true rfl) dX6_together_2 (fun v_ m7 q => ?_)
  rw [q.1]
  have h := h m7 q.2
  refine go_stk (st2 := [.int (oM (ftF (fun t => togX 9 (itX 9 nof X t)) 301))]) rfl ?_
  refine go_topi (fun y8 qy8 => ?_)
  have h := h y8 qy8
  refine go_istore_n (L2 := [(1, .int y8), (0, .ref 40)]) dX6_together_5 (by decide) rfl ?_
  refine go_iload_n dX6_together_6 0 rfl ?_
  refine go_sipush (v := 1000) dX6_together_7 (by decide) ?_
  refine go_icmp_ne 18 dX6_together_10 (by decide) (fun q => ?_) (fun q => ?_)
  · have h := h.1 q
    refine go_iload_n dX6_together_18 0 rfl ?_
    exact go_iret rfl dX6_together_19 h
  · have h := h.2 q
    refine go_bipush (v := (-4)) dX6_together_13 (by decide) ?_
    refine go_goto 19 dX6_together_15 (by decide) ?_
    exact go_iret rfl dX6_together_19 h


theorem qL {P : Nat} {i : Nat} (h : P + i < 138) : vp_in (nI P + nI i) 138 := qi h (by omega)
theorem kX6_runs {G : GX} (d : Nat) {mem : Mem} (a w : Int32) (X : Bm) (h : C1 mem X) (h7 : C7 mem) : Cn G (d + 4) mX6_runs [.ref 40, .int a, .int w] mem (Ri (if in300 a ∧ (0 ≤ w ∧ w ≤ 4) then runsA X a.toNatClampNeg w else -1) (QM mem)) := by
  obtain ⟨hB, hM, hV, ht⟩ := h
  refine cn_of (by decide +kernel) (Nat.le_of_ble_eq_true rfl) (sX6_runs_0 a w a.toNatClampNeg X (itX 9 nof X a.toNatClampNeg) ⟨fun q => Ri.mk (if_neg (fun z => q z.1)).symm QM.rf, fun q => ⟨fun q2 => ?_, fun q2 => Ri.mk (if_neg (fun z => q2 z.2)).symm QM.rf⟩⟩)
  rw [if_pos ⟨q, q2⟩]
  obtain ⟨k, hk, rfl⟩ := i300 (n := 300) rfl (by omega) q
  rw [ncl (show k < 2000000000 by omega)]
  refine ⟨⟨rfl, rfl⟩, hk, ⟨by omega, by omega⟩, hV, hM, h7.1, fun m7 ⟨r1, r2, r3, r4, r5⟩ => ?_⟩
  rw [r2, r3, r4]
  unfold runsA
  refine ⟨fun q0 => ?_, fun q0 => ⟨fun q1 => ?_, fun q1 => ⟨fun q2 => ?_, fun q2 => ⟨fun q3 => ?_, fun q3 => ?_⟩⟩⟩⟩
  · rw [if_pos q0]; exact ⟨rfl, r5.qm⟩
  · rw [if_neg q0, if_pos q1]; exact ⟨rfl, r5.qm⟩
  · rw [if_neg q0, if_neg q1, if_pos q2]; exact ⟨rfl, r5.qm⟩
  · rw [if_neg q0, if_neg q1, if_neg q2, if_pos q3]; exact ⟨rfl, r5.qm⟩
  · rw [if_neg q0, if_neg q1, if_neg q2, if_neg q3]
    exact ⟨⟨rfl, rfl⟩, ⟨by omega, by omega, hV.1⟩, by have := r1.1; rw [it_n] at this; exact this, fun c hc => (r1.2.2.2 c (by rw [it_n]; exact hc)).2.2.1, rfl, r5.qm⟩
theorem kX6_ahead {G : GX} (d : Nat) {mem : Mem} (c n w : Int32) (X : Bm) (h : C1 mem X) (h7 : C7 mem) : Cn G (d + 4) mX6_ahead [.ref 40, .int c, .int n, .int w] mem (Ri (aheadA X c n w) (QM mem)) := by
  obtain ⟨hB, hM, hV, ht⟩ := h
  refine cn_of (by decide +kernel) (Nat.le_of_ble_eq_true rfl) (sX6_ahead_0 c n w n.toNatClampNeg X ?_)
  rw [(RepM0 hM).1, isC_M hV.1]
  unfold aheadA
  refine ⟨fun q1 => Ri.mk (if_neg (fun z => q1 z.1)).symm QM.rf, fun q1 => ⟨fun q2 => Ri.mk (if_neg (fun z => q2 z.2.1)).symm QM.rf, fun q2 => ⟨fun q3 => ?_, fun q3 => Ri.mk (if_neg (fun z => q3 z.2.2)).symm QM.rf⟩⟩⟩
  rw [if_pos ⟨q1, q2, q3⟩]
  obtain ⟨i, hi, rfl⟩ := isC_n q1 hV.1
  obtain ⟨k, hk, rfl⟩ := i300 (n := 300) rfl (by omega) q2
  have hn := hV.1
  rw [ncl (show i < 2000000000 by omega), ncl (show k < 2000000000 by omega), show ((107 : Int32) + nI i).toNatClampNeg = 107 + i from qa (P := 107) (by omega), show ((102 : Int32) + nI i).toNatClampNeg = 102 + i from qa (P := 102) (by omega), show ((15 : Int32) + nI i).toNatClampNeg = 15 + i from qa (P := 15) (by omega)]
  refine ⟨⟨rfl, rfl⟩, hk, ⟨by omega, by omega⟩, hV, hM, h7.1, fun m7 ⟨r1, r2, r3, r4, r5⟩ => ?_⟩
  have r := r1.2.2.2 i (by rw [it_n]; exact hi)
  have e1 : m7 41 (107 + i) = nI (xe (itX 9 nof X k) i) := r.2.2.2
  have e2 : m7 41 (102 + i) = nI (xh (itX 9 nof X k) i) := r.2.2.1
  have e3 : m7 41 (15 + i) = nI (xe X i) := by rw [r5.2.1 _ (by omega)]; exact ((RepM0 hM).2.2.2 i hi).2.2.2
  rw [e1, e2, e3]
  exact ⟨fun z => ⟨qL (P := 107) (by omega), qL (P := 15) (by omega), by rw [if_neg z]; exact ⟨rfl, r5.qm⟩⟩, fun z => ⟨qL (P := 102) (by omega), by rw [if_pos z]; exact ⟨rfl, r5.qm⟩⟩⟩
theorem kX6_beats {G : GX} (d : Nat) {mem : Mem} (n : Int32) (X : Bm) (h : C1 mem X) (h7 : C7 mem) : Cn G (d + 4) mX6_beats [.ref 40, .int n] mem (Ri (beatsA X n) (QM mem)) := by
  obtain ⟨hB, hM, hV, ht⟩ := h
  refine cn_of (by decide +kernel) (Nat.le_of_ble_eq_true rfl) (sX6_beats_0 n n.toNatClampNeg X ⟨fun q => ?_, fun q => Ri.mk (if_neg q).symm QM.rf⟩)
  unfold beatsA
  rw [if_pos q]
  obtain ⟨k, hk, rfl⟩ := i300 (n := 300) rfl (by omega) q
  rw [ncl (show k < 2000000000 by omega)]
  exact ⟨⟨rfl, rfl⟩, hk, ⟨by omega, by omega⟩, hV, hM, h7.1, fun m7 ⟨r1, r2, r3, r4, r5⟩ => ⟨rfl, by omega, ⟨by omega, by omega⟩, VX_it hV k, r1, by rw [r5.2.2 14 (by omega) (by omega) (by omega)]; exact h7.1, rfl, r5.qm⟩⟩
theorem ftF_lt {P : Nat → Bool} {N t : Nat} (h : ftF P N = some t) : t < N := by
  rcases ftF_spec (P := P) (N := N) with ⟨h1, h2⟩ | ⟨s, h1, h2, h3, h4⟩
  · rw [h1] at h; cases h
  · rw [h2] at h; cases h; exact h1
theorem oM_1000 {P : Nat → Bool} : oM (ftF P 301) = 1000 ↔ ftF P 301 = none := by
  cases h : ftF P 301 with
  | none => exact ⟨fun _ => rfl, fun _ => rfl⟩
  | some t =>
    have ht := ftF_lt h
    refine ⟨fun e => ?_, fun e => by cases e⟩
    have : t = 1000 := (neq (b := 1000) (by omega) (by omega)).mp e
    omega
theorem kX6_together {G : GX} (d : Nat) {mem : Mem} (X : Bm) (h : C1 mem X) (h7 : C7 mem) : Cn G (d + 4) mX6_together [.ref 40] mem (Ri (optI (meetX X)) (QM mem)) := by
  refine cn_of (by decide +kernel) (Nat.le_of_ble_eq_true rfl) (sX6_together_0 X ⟨rfl, ⟨by omega, by omega⟩, ⟨by omega, Or.inl rfl⟩, h.2.2.1, h.2.1, h7.1, fun m7 r => ?_⟩)
  intro y hy
  unfold meetX
  rw [hy, oM_1000]
  cases he : ftF (fun t => togX 9 (itX 9 nof X t)) 301 with
  | none => exact ⟨fun q => absurd rfl q, fun _ => ⟨rfl, r.qm (by omega)⟩⟩
  | some t => exact ⟨fun _ => ⟨rfl, r.qm (by omega)⟩, fun q => by cases q⟩

set_option maxRecDepth 100000 in
theorem sX6_again_0 {G : GX} {d : Nat} {mem : Mem} {Φ : Option Value → Mem → Prop}  (h : (0 = nI 0 ∧ 92 = nI 92) ∧ (0 ≤ 115 ∧ 92 ≤ 115 ∧ (0 + 23 ≤ 92 ∨ 92 + 23 ≤ 0)) ∧ Go G (d + 3) mX6_again 9 [(0, .ref 40), (1, .int 1)] [] (cpM mem 0 92) Φ) : Go G (d + 3) mX6_again 0 [(0, .ref 40)] [] mem Φ := by
  refine go_aload_n dX6_again_0 0 rfl ?_
  refine go_iconst (v := 0) dX6_again_1 (by decide) ?_
  refine go_bipush (v := 92) dX6_again_2 (by decide) ?_
  obtain ⟨c1, h⟩ := h
  obtain ⟨c2, h⟩ := h
  refine go_callV (st := []) (kX6_copiesI (d + 2) 0 92 0 92 c1 c2) rfl rfl okX6_copies insX6_copies selX6_copies lkX6_161 rfl rfl (Nat.le_of_ble_eq_true rfl) dX6_again_4 (fun v_ m2_ q => ?_)
  rw [q.1, q.2]
  refine go_stk (st2 := []) rfl ?_
  refine go_iconst (v := 1) dX6_again_7 (by decide) ?_
  refine go_istore_n (L2 := [(1, .int 1), (0, .ref 40)]) dX6_again_8 (by decide) rfl ?_
  exact Go.pick [1, 0] rfl h

set_option maxRecDepth 100000 in
theorem sX6_again_9 {G : GX} {d : Nat} {mem : Mem} {Φ : Option Value → Mem → Prop} (k : Nat) (X : Bm) (h : ((300 < (nI k) → Φ (some (.int (-4))) mem) ∧ (¬ 300 < (nI k) → (92 = nI 92) ∧ (92 ≤ 115) ∧ (9 < 10 ∧ 30 ≤ 30 ∧ 30 < 900000) ∧ (VX 9 30 X) ∧ (RepM mem 92 X) ∧ (mem 40 14 = goI 9) ∧ ∀ m7 : Mem, (RepM m7 92 (tkX 9 false X) ∧ FrM 92 mem m7) → Go G (d + 3) mX6_again 28 [(0, .ref 40), (1, .int (nI k)), (2, .int 1), (3, .int 0)] [] m7 Φ))) : Go G (d + 3) mX6_again 9 [(0, .ref 40), (1, .int (nI k))] [] mem Φ := by
  refine go_iload_n dX6_again_9 1 rfl ?_
  refine go_sipush (v := 300) dX6_again_10 (by decide) ?_
  refine go_icmp_gt 88 dX6_again_13 (by decide) (fun q => ?_) (fun q => ?_)
  · have h := h.1 q
    refine go_bipush (v := (-4)) dX6_again_88 (by decide) ?_
    exact go_iret rfl dX6_again_90 h
  · have h := h.2 q
    refine go_aload_n dX6_again_16 0 rfl ?_
    refine go_bipush (v := 92) dX6_again_17 (by decide) ?_
    refine go_iconst (v := 0) dX6_again_19 (by decide) ?_
    obtain ⟨c1, h⟩ := h
    obtain ⟨c2, h⟩ := h
    obtain ⟨c3, h⟩ := h
    obtain ⟨c4, h⟩ := h
    obtain ⟨c5, h⟩ := h
    obtain ⟨c6, h⟩ := h
    refine go_callV (st := []) (kX6_tickOnI (d + 0) 92 92 false X 9 30 c1 c2 c3 c4 c5 c6) rfl rfl okX6_tickOn insX6_tickOn selX6_tickOn lkX6_157 rfl rfl (Nat.le_of_ble_eq_true rfl) dX6_again_20 (fun v_ m7 q => ?_)
    rw [q.1]
    have h := h m7 q.2
    refine go_stk (st2 := [.int (nI (who 9 X))]) rfl ?_
    refine go_pop dX6_again_23 rfl ?_
    refine go_iconst (v := 1) dX6_again_24 (by decide) ?_
    refine go_istore_n (L2 := [(2, .int 1), (0, .ref 40), (1, .int (nI k))]) dX6_again_25 (by decide) rfl ?_
    refine go_iconst (v := 0) dX6_again_26 (by decide) ?_
    refine go_istore_n (L2 := [(3, .int 0), (2, .int 1), (0, .ref 40), (1, .int (nI k))]) dX6_again_27 (by decide) rfl ?_
    exact Go.pick [2, 3, 1, 0] rfl h

set_option maxRecDepth 100000 in
theorem sX6_again_28 {G : GX} {d : Nat} {mem : Mem} {Φ : Option Value → Mem → Prop} (k : Nat) (sm : Bool) (i : Nat) (h : (((mem 41 (20 : Int32).toNatClampNeg) ≤ (nI i) → ((¬ (sm = true) → Go G (d + 3) mX6_again 9 [(0, .ref 40), (1, .int ((nI k) + 1))] [] mem Φ) ∧ ((sm = true) → Φ (some (.int (nI k))) mem))) ∧ (¬ (mem 41 (20 : Int32).toNatClampNeg) ≤ (nI i) → ((¬ (sm = true) → Go G (d + 3) mX6_again 28 [(0, .ref 40), (1, .int (nI k)), (2, .int 0), (3, .int ((nI i) + 1))] [] mem Φ) ∧ ((sm = true) → (vp_in (102 + (nI i)) 138) ∧ (vp_in (10 + (nI i)) 138) ∧ ((¬ (mem 41 ((102 + (nI i)) : Int32).toNatClampNeg) = (mem 41 ((10 + (nI i)) : Int32).toNatClampNeg) → Go G (d + 3) mX6_again 28 [(0, .ref 40), (1, .int (nI k)), (2, .int 0), (3, .int ((nI i) + 1))] [] mem Φ) ∧ ((mem 41 ((102 + (nI i)) : Int32).toNatClampNeg) = (mem 41 ((10 + (nI i)) : Int32).toNatClampNeg) → Go G (d + 3) mX6_again 28 [(0, .ref 40), (1, .int (nI k)), (2, .int 1), (3, .int ((nI i) + 1))] [] mem Φ))))))) : Go G (d + 3) mX6_again 28 [(0, .ref 40), (1, .int (nI k)), (2, .int (bI (sm = true))), (3, .int (nI i))] [] mem Φ := by
  refine go_iload_n dX6_again_28 3 rfl ?_
  refine go_aload_n dX6_again_29 0 rfl ?_
  refine go_getR (kf := 0) (t := 41) rfl rfl rfl uwX6 (by decide) flX6_7 dX6_again_30 ?_
  refine go_bipush (v := 20) dX6_again_33 (by decide) ?_
  refine go_iaload rfl (nin (a := 20) (by decide) (by decide)) dX6_again_35 ?_
  refine go_icmp_ge 76 dX6_again_36 (by decide) (fun q => ?_) (fun q => ?_)
  · have h := h.1 q
    refine go_iload_n dX6_again_76 2 rfl ?_
    refine go_if_eq 82 dX6_again_77 (by decide) (fun q => ?_) (fun q => ?_)
    · have h := h.1 (bI0.mp q)
      refine go_iinc (v := ((nI k) + 1)) (L2 := [(1, .int ((nI k) + 1)), (0, .ref 40), (2, .int (bI (sm = true))), (3, .int (nI i))]) dX6_again_82 1 rfl rfl (by decide) rfl ?_
      refine go_goto 9 dX6_again_85 (by decide) ?_
      exact Go.pick [1, 0] rfl h
    · have h := h.2 (bI1.mp q)
      refine go_iload_n dX6_again_80 1 rfl ?_
      exact go_iret rfl dX6_again_81 h
  · have h := h.2 q
    refine go_iload_n dX6_again_39 2 rfl ?_
    refine go_if_eq 68 dX6_again_40 (by decide) (fun q => ?_) (fun q => ?_)
    · have h := h.1 (bI0.mp q)
      refine go_iconst (v := 0) dX6_again_68 (by decide) ?_
      refine go_istore_n (L2 := [(2, .int 0), (0, .ref 40), (1, .int (nI k)), (3, .int (nI i))]) dX6_again_69 (by decide) rfl ?_
      refine go_iinc (v := ((nI i) + 1)) (L2 := [(3, .int ((nI i) + 1)), (2, .int 0), (0, .ref 40), (1, .int (nI k))]) dX6_again_70 3 rfl rfl (by decide) rfl ?_
      refine go_goto 28 dX6_again_73 (by decide) ?_
      exact Go.pick [2, 3, 1, 0] rfl h
    · have h := h.2 (bI1.mp q)
      refine go_aload_n dX6_again_43 0 rfl ?_
      refine go_getR (kf := 0) (t := 41) rfl rfl rfl uwX6 (by decide) flX6_7 dX6_again_44 ?_
      refine go_bipush (v := 102) dX6_again_47 (by decide) ?_
      refine go_iload_n dX6_again_49 3 rfl ?_
      refine go_iadd dX6_again_50 ?_
      obtain ⟨c1, h⟩ := h
      refine go_iaload rfl c1 dX6_again_51 ?_
      refine go_aload_n dX6_again_52 0 rfl ?_
      refine go_getR (kf := 0) (t := 41) rfl rfl rfl uwX6 (by decide) flX6_7 dX6_again_53 ?_
      refine go_bipush (v := 10) dX6_again_56 (by decide) ?_
      refine go_iload_n dX6_again_58 3 rfl ?_
      refine go_iadd dX6_again_59 ?_
      obtain ⟨c2, h⟩ := h
      refine go_iaload rfl c2 dX6_again_60 ?_
      refine go_icmp_ne 68 dX6_again_61 (by decide) (fun q => ?_) (fun q => ?_)
      · have h := h.1 q
        refine go_iconst (v := 0) dX6_again_68 (by decide) ?_
        refine go_istore_n (L2 := [(2, .int 0), (0, .ref 40), (1, .int (nI k)), (3, .int (nI i))]) dX6_again_69 (by decide) rfl ?_
        refine go_iinc (v := ((nI i) + 1)) (L2 := [(3, .int ((nI i) + 1)), (2, .int 0), (0, .ref 40), (1, .int (nI k))]) dX6_again_70 3 rfl rfl (by decide) rfl ?_
        refine go_goto 28 dX6_again_73 (by decide) ?_
        exact Go.pick [2, 3, 1, 0] rfl h
      · have h := h.2 q
        refine go_iconst (v := 1) dX6_again_64 (by decide) ?_
        refine go_goto 69 dX6_again_65 (by decide) ?_
        refine go_istore_n (L2 := [(2, .int 1), (0, .ref 40), (1, .int (nI k)), (3, .int (nI i))]) dX6_again_69 (by decide) rfl ?_
        refine go_iinc (v := ((nI i) + 1)) (L2 := [(3, .int ((nI i) + 1)), (2, .int 1), (0, .ref 40), (1, .int (nI k))]) dX6_again_70 3 rfl rfl (by decide) rfl ?_
        refine go_goto 28 dX6_again_73 (by decide) ?_
        exact Go.pick [2, 3, 1, 0] rfl h
