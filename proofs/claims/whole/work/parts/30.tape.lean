theorem Inv.tape {m m2 : Mem} {T2 : Tp} (hI : Inv m) (e : ∀ k, k ≠ 23 → k ≠ 24 → k ≠ 43 → k ≠ 40 → m2 k = m k) (e40 : ∀ j, j ≠ 4 → m2 40 j = m 40 j) (hn : C3 m2 T2) : Inv m2 := by
  obtain ⟨X, T, S, h1, h2, h3, h4, h5, h6, h7⟩ := hI
  exact ⟨X, T2, S, h1.fr (fun k _ _ => e k (by omega) (by omega) (by omega) (by omega)) (fun j _ => by rw [e 41 (by omega) (by omega) (by omega) (by omega)]), h2.fr (fun k _ _ => e k (by omega) (by omega) (by omega) (by omega)) (e 22 (by omega) (by omega) (by omega) (by omega)) (e 48 (by omega) (by omega) (by omega) (by omega)) (fun j _ _ => by rw [e 41 (by omega) (by omega) (by omega) (by omega)]), hn, h4.fr (by rw [e 0 (by omega) (by omega) (by omega) (by omega)]) (by rw [e 0 (by omega) (by omega) (by omega) (by omega)]) (e40 5 (by omega)) (e40 25 (by omega)), h5.fr (by rw [e 25 (by omega) (by omega) (by omega) (by omega)]) (e40 19 (by omega)) (e 26 (by omega) (by omega) (by omega) (by omega)) (e 27 (by omega) (by omega) (by omega) (by omega)) (e 28 (by omega) (by omega) (by omega) (by omega)) (e 46 (by omega) (by omega) (by omega) (by omega)), h6.fr (fun k _ _ => e k (by omega) (by omega) (by omega) (by omega)) (e 49 (by omega) (by omega) (by omega) (by omega)) (e 50 (by omega) (by omega) (by omega) (by omega)) (e 51 (by omega) (by omega) (by omega) (by omega)), h7.fr (e40 14 (by omega)) (e 44 (by omega) (by omega) (by omega) (by omega)) (e 45 (by omega) (by omega) (by omega) (by omega))⟩
theorem Inv.seen {m m2 : Mem} {S2 : Se} (hI : Inv m) (e : ∀ k, ¬ (25 ≤ k ∧ k ≤ 28) → k ≠ 46 → k ≠ 40 → m2 k = m k) (e40 : ∀ j, j ≠ 19 → m2 40 j = m 40 j) (hn : C5 m2 S2) : Inv m2 := by
  obtain ⟨X, T, S, h1, h2, h3, h4, h5, h6, h7⟩ := hI
  exact ⟨X, T, S2, h1.fr (fun k _ _ => e k (by omega) (by omega) (by omega)) (fun j _ => by rw [e 41 (by omega) (by omega) (by omega)]), h2.fr (fun k _ _ => e k (by omega) (by omega) (by omega)) (e 22 (by omega) (by omega) (by omega)) (e 48 (by omega) (by omega) (by omega)) (fun j _ _ => by rw [e 41 (by omega) (by omega) (by omega)]), h3.fr (by rw [e 23 (by omega) (by omega) (by omega)]) (e40 4 (by omega)) (e 24 (by omega) (by omega) (by omega)) (e 43 (by omega) (by omega) (by omega)), h4.fr (by rw [e 0 (by omega) (by omega) (by omega)]) (by rw [e 0 (by omega) (by omega) (by omega)]) (e40 5 (by omega)) (e40 25 (by omega)), hn, h6.fr (fun k _ _ => e k (by omega) (by omega) (by omega)) (e 49 (by omega) (by omega) (by omega)) (e 50 (by omega) (by omega) (by omega)) (e 51 (by omega) (by omega) (by omega)), h7.fr (e40 14 (by omega)) (e 44 (by omega) (by omega) (by omega)) (e 45 (by omega) (by omega) (by omega))⟩
theorem Inv.img {m m2 : Mem}  (hI : Inv m) (e : ∀ k, ¬ (11 ≤ k ∧ k ≤ 20) → k ≠ 22 → k ≠ 48 → k ≠ 41 → m2 k = m k) (e41 : ∀ j, 0 ≤ j → j < 23 → m2 41 j = m 41 j) (hn : C2 m2) : Inv m2 := by
  obtain ⟨X, T, S, h1, h2, h3, h4, h5, h6, h7⟩ := hI
  exact ⟨X, T, S, h1.fr (fun k _ _ => e k (by omega) (by omega) (by omega) (by omega)) (fun j hj => e41 j (by omega) (by omega)), hn, h3.fr (by rw [e 23 (by omega) (by omega) (by omega) (by omega)]) (by rw [e 40 (by omega) (by omega) (by omega) (by omega)]) (e 24 (by omega) (by omega) (by omega) (by omega)) (e 43 (by omega) (by omega) (by omega) (by omega)), h4.fr (by rw [e 0 (by omega) (by omega) (by omega) (by omega)]) (by rw [e 0 (by omega) (by omega) (by omega) (by omega)]) (by rw [e 40 (by omega) (by omega) (by omega) (by omega)]) (by rw [e 40 (by omega) (by omega) (by omega) (by omega)]), h5.fr (by rw [e 25 (by omega) (by omega) (by omega) (by omega)]) (by rw [e 40 (by omega) (by omega) (by omega) (by omega)]) (e 26 (by omega) (by omega) (by omega) (by omega)) (e 27 (by omega) (by omega) (by omega) (by omega)) (e 28 (by omega) (by omega) (by omega) (by omega)) (e 46 (by omega) (by omega) (by omega) (by omega)), h6.fr (fun k _ _ => e k (by omega) (by omega) (by omega) (by omega)) (e 49 (by omega) (by omega) (by omega) (by omega)) (e 50 (by omega) (by omega) (by omega) (by omega)) (e 51 (by omega) (by omega) (by omega) (by omega)), h7.fr (by rw [e 40 (by omega) (by omega) (by omega) (by omega)]) (e 44 (by omega) (by omega) (by omega) (by omega)) (e 45 (by omega) (by omega) (by omega) (by omega))⟩
theorem Inv.shts {m m2 : Mem}  (hI : Inv m) (e : ∀ k, ¬ (31 ≤ k ∧ k ≤ 38) → k ≠ 49 → k ≠ 50 → k ≠ 51 → m2 k = m k) (hn : C6 m2) : Inv m2 := by
  obtain ⟨X, T, S, h1, h2, h3, h4, h5, h6, h7⟩ := hI
  exact ⟨X, T, S, h1.fr (fun k _ _ => e k (by omega) (by omega) (by omega) (by omega)) (fun j _ => by rw [e 41 (by omega) (by omega) (by omega) (by omega)]), h2.fr (fun k _ _ => e k (by omega) (by omega) (by omega) (by omega)) (e 22 (by omega) (by omega) (by omega) (by omega)) (e 48 (by omega) (by omega) (by omega) (by omega)) (fun j _ _ => by rw [e 41 (by omega) (by omega) (by omega) (by omega)]), h3.fr (by rw [e 23 (by omega) (by omega) (by omega) (by omega)]) (by rw [e 40 (by omega) (by omega) (by omega) (by omega)]) (e 24 (by omega) (by omega) (by omega) (by omega)) (e 43 (by omega) (by omega) (by omega) (by omega)), h4.fr (by rw [e 0 (by omega) (by omega) (by omega) (by omega)]) (by rw [e 0 (by omega) (by omega) (by omega) (by omega)]) (by rw [e 40 (by omega) (by omega) (by omega) (by omega)]) (by rw [e 40 (by omega) (by omega) (by omega) (by omega)]), h5.fr (by rw [e 25 (by omega) (by omega) (by omega) (by omega)]) (by rw [e 40 (by omega) (by omega) (by omega) (by omega)]) (e 26 (by omega) (by omega) (by omega) (by omega)) (e 27 (by omega) (by omega) (by omega) (by omega)) (e 28 (by omega) (by omega) (by omega) (by omega)) (e 46 (by omega) (by omega) (by omega) (by omega)), hn, h7.fr (by rw [e 40 (by omega) (by omega) (by omega) (by omega)]) (e 44 (by omega) (by omega) (by omega) (by omega)) (e 45 (by omega) (by omega) (by omega) (by omega))⟩
set_option maxRecDepth 100000 in
theorem sX5_feed_0 {G : GX} {d : Nat} {mem : Mem} {Φ : Option Value → Mem → Prop} (a1 : Int32) (h : (((0 ≤ a1 ∧ a1 ≤ 127) → (((mem 23 1) < 160 → (vp_in (mem 23 1) 160) ∧ ∀ m2 : Mem, m2 = (um mem 24 ((mem 23 1) : Int32).toNatClampNeg (vp_nar .byte ((a1 : Int32).toInt8.toInt32))) → Φ (some (.int ((um m2 23 1 ((m2 23 1) + 1)) 23 1))) (um m2 23 1 ((m2 23 1) + 1))) ∧ (¬ (mem 23 1) < 160 → Φ (some (.int (-3))) mem))) ∧ (¬ (0 ≤ a1 ∧ a1 ≤ 127) → Φ (some (.int (-1))) mem))) : Go G (d + 1) mX5_feed 0 [(0, .ref 0), (1, .int a1)] [] mem Φ := by
  refine go_iload_n dX5_feed_0 1 rfl ?_
  refine go_iconst (v := 0) dX5_feed_1 (by decide) ?_
  refine go_bipush (v := 127) dX5_feed_2 (by decide) ?_
  refine go_callS (st := []) (kX5_isWithin (d + 0) a1 0 127) okX5_isWithin staX5_isWithin lkX5_59 rfl rfl (Nat.le_of_ble_eq_true rfl) dX5_feed_4 (fun v_ m2_ q => ?_)
  rw [q.1, q.2]
  refine go_stk (st2 := [.int (bI (0 ≤ a1 ∧ a1 ≤ 127))]) rfl ?_
  refine go_if_ne 12 dX5_feed_7 (by decide) (fun q => ?_) (fun q => ?_)
  · have h := h.1 (bI1.mp q)
    refine go_aload_n dX5_feed_12 0 rfl ?_
    refine go_getR (kf := 4) (t := 23) rfl rfl rfl uwX5 (by decide) flX5_30 dX5_feed_13 ?_
    refine go_getI (kf := 1) rfl rfl rfl uwX2 (by decide) flX5_63 dX5_feed_16 ?_
    refine go_sipush (v := 160) dX5_feed_19 (by decide) ?_
    refine go_icmp_lt 28 dX5_feed_22 (by decide) (fun q => ?_) (fun q => ?_)
    · have h := h.1 q
      refine go_aload_n dX5_feed_28 0 rfl ?_
      refine go_getR (kf := 4) (t := 23) rfl rfl rfl uwX5 (by decide) flX5_30 dX5_feed_29 ?_
      refine go_getR (kf := 0) (t := 24) rfl rfl rfl uwX2 (by decide) flX5_67 dX5_feed_32 ?_
      refine go_aload_n dX5_feed_35 0 rfl ?_
      refine go_getR (kf := 4) (t := 23) rfl rfl rfl uwX5 (by decide) flX5_30 dX5_feed_36 ?_
      refine go_getI (kf := 1) rfl rfl rfl uwX2 (by decide) flX5_63 dX5_feed_39 ?_
      refine go_iload_n dX5_feed_42 1 rfl ?_
      refine go_i2b dX5_feed_43 ?_
      obtain ⟨c1, h⟩ := h
      refine go_bastore rfl c1 dX5_feed_44 ?_
      refine go_mem (fun m2 qm2 => ?_)
      have h := h m2 qm2
      refine go_aload_n dX5_feed_45 0 rfl ?_
      refine go_getR (kf := 4) (t := 23) rfl rfl rfl uwX5 (by decide) flX5_30 dX5_feed_46 ?_
      refine go_dup dX5_feed_49 rfl ?_
      refine go_getI (kf := 1) rfl rfl rfl uwX2 (by decide) flX5_63 dX5_feed_50 ?_
      refine go_iconst (v := 1) dX5_feed_53 (by decide) ?_
      refine go_iadd dX5_feed_54 ?_
      refine go_putI (kf := 1) rfl rfl rfl uwX2 tyX2_ok nmX2 (by decide) rfl flX5_63 rfl rfl dX5_feed_55 ?_
      refine go_aload_n dX5_feed_58 0 rfl ?_
      refine go_getR (kf := 4) (t := 23) rfl rfl rfl uwX5 (by decide) flX5_30 dX5_feed_59 ?_
      refine go_getI (kf := 1) rfl rfl rfl uwX2 (by decide) flX5_63 dX5_feed_62 ?_
      exact go_iret rfl dX5_feed_65 h
    · have h := h.2 q
      refine go_bipush (v := (-3)) dX5_feed_25 (by decide) ?_
      exact go_iret rfl dX5_feed_27 h
  · have h := h.2 (bI0.mp q)
    refine go_iconst (v := (-1)) dX5_feed_10 (by decide) ?_
    exact go_iret rfl dX5_feed_11 h

set_option maxRecDepth 100000 in
theorem sX6_feed_0 {G : GX} {d : Nat} {mem : Mem} {Φ : Option Value → Mem → Prop} (a1 : Int32) (h : (((0 ≤ a1 ∧ a1 ≤ 127) → ((¬ (mem 40 4) = 160 → (vp_in (mem 40 4) 160) ∧ ∀ m2 : Mem, m2 = (um mem 43 ((mem 40 4) : Int32).toNatClampNeg a1) → Φ (some (.int ((um m2 40 4 ((m2 40 4) + 1)) 40 4))) (um m2 40 4 ((m2 40 4) + 1))) ∧ ((mem 40 4) = 160 → Φ (some (.int (-3))) mem))) ∧ (¬ (0 ≤ a1 ∧ a1 ≤ 127) → Φ (some (.int (-1))) mem))) : Go G (d + 1) mX6_feed 0 [(0, .ref 40), (1, .int a1)] [] mem Φ := by
  refine go_iload_n dX6_feed_0 1 rfl ?_
  refine go_i2l dX6_feed_1 ?_
  refine go_lconst (v := 0) dX6_feed_2 (by decide) ?_
  refine go_ldc2 klX6_48 dX6_feed_3 ?_
  refine go_callS (st := []) (kX6_in (d + 0) a1 0 127 0 127 (by decide) (by decide)) okX6_in staX6_in lkX6_50 rfl rfl (Nat.le_of_ble_eq_true rfl) dX6_feed_6 (fun v_ m2_ q => ?_)
  rw [q.1, q.2]
  refine go_stk (st2 := [.int (bI (0 ≤ a1 ∧ a1 ≤ 127))]) rfl ?_
  refine go_if_ne 14 dX6_feed_9 (by decide) (fun q => ?_) (fun q => ?_)
  · have h := h.1 (bI1.mp q)
    refine go_aload_n dX6_feed_14 0 rfl ?_
    refine go_getI (kf := 4) rfl rfl rfl uwX6 (by decide) flX6_54 dX6_feed_15 ?_
    refine go_sipush (v := 160) dX6_feed_18 (by decide) ?_
    refine go_icmp_ne 27 dX6_feed_21 (by decide) (fun q => ?_) (fun q => ?_)
    · have h := h.1 q
      refine go_aload_n dX6_feed_27 0 rfl ?_
      refine go_getR (kf := 3) (t := 43) rfl rfl rfl uwX6 (by decide) flX6_16 dX6_feed_28 ?_
      refine go_aload_n dX6_feed_31 0 rfl ?_
      refine go_getI (kf := 4) rfl rfl rfl uwX6 (by decide) flX6_54 dX6_feed_32 ?_
      refine go_iload_n dX6_feed_35 1 rfl ?_
      obtain ⟨c1, h⟩ := h
      refine go_iastore rfl c1 dX6_feed_36 ?_
      refine go_mem (fun m2 qm2 => ?_)
      have h := h m2 qm2
      refine go_aload_n dX6_feed_37 0 rfl ?_
      refine go_dup dX6_feed_38 rfl ?_
      refine go_getI (kf := 4) rfl rfl rfl uwX6 (by decide) flX6_54 dX6_feed_39 ?_
      refine go_iconst (v := 1) dX6_feed_42 (by decide) ?_
      refine go_iadd dX6_feed_43 ?_
      refine go_putI (kf := 4) rfl rfl rfl uwX6 tyX6_ok nmX6 (by decide) rfl flX6_54 rfl rfl dX6_feed_44 ?_
      refine go_aload_n dX6_feed_47 0 rfl ?_
      refine go_getI (kf := 4) rfl rfl rfl uwX6 (by decide) flX6_54 dX6_feed_48 ?_
      exact go_iret rfl dX6_feed_51 h
    · have h := h.2 q
      refine go_bipush (v := (-3)) dX6_feed_24 (by decide) ?_
      exact go_iret rfl dX6_feed_26 h
  · have h := h.2 (bI0.mp q)
    refine go_iconst (v := (-1)) dX6_feed_12 (by decide) ?_
    exact go_iret rfl dX6_feed_13 h

set_option maxRecDepth 100000 in
theorem sX5_end_0 {G : GX} {d : Nat} {mem : Mem} {Φ : Option Value → Mem → Prop} (a1 : Int32) (h : (((0 ≤ a1 ∧ a1 ≤ (mem 23 1)) → ∀ y1 : Int32, y1 = (mem 23 1) → Φ (some (.int y1)) (um mem 23 1 a1)) ∧ (¬ (0 ≤ a1 ∧ a1 ≤ (mem 23 1)) → Φ (some (.int (-1))) mem))) : Go G (d + 1) mX5_end 0 [(0, .ref 0), (1, .int a1)] [] mem Φ := by
  refine go_iload_n dX5_end_0 1 rfl ?_
  refine go_iconst (v := 0) dX5_end_1 (by decide) ?_
  refine go_aload_n dX5_end_2 0 rfl ?_
  refine go_getR (kf := 4) (t := 23) rfl rfl rfl uwX5 (by decide) flX5_30 dX5_end_3 ?_
  refine go_getI (kf := 1) rfl rfl rfl uwX2 (by decide) flX5_63 dX5_end_6 ?_
  refine go_callS (st := []) (kX5_isWithin (d + 0) a1 0 (mem 23 1)) okX5_isWithin staX5_isWithin lkX5_59 rfl rfl (Nat.le_of_ble_eq_true rfl) dX5_end_9 (fun v_ m2_ q => ?_)
  rw [q.1, q.2]
  refine go_stk (st2 := [.int (bI (0 ≤ a1 ∧ a1 ≤ (mem 23 1)))]) rfl ?_
  refine go_if_ne 17 dX5_end_12 (by decide) (fun q => ?_) (fun q => ?_)
  · have h := h.1 (bI1.mp q)
    refine go_aload_n dX5_end_17 0 rfl ?_
    refine go_getR (kf := 4) (t := 23) rfl rfl rfl uwX5 (by decide) flX5_30 dX5_end_18 ?_
    refine go_getI (kf := 1) rfl rfl rfl uwX2 (by decide) flX5_63 dX5_end_21 ?_
    refine go_topi (fun y1 qy1 => ?_)
    have h := h y1 qy1
    refine go_istore_n (L2 := [(2, .int y1), (0, .ref 0), (1, .int a1)]) dX5_end_24 (by decide) rfl ?_
    refine go_aload_n dX5_end_25 1 rfl ?_
    refine go_getR (kf := 4) (t := 23) rfl rfl rfl uwX5 (by decide) flX5_30 dX5_end_26 ?_
    refine go_iload_n dX5_end_29 2 rfl ?_
    refine go_putI (kf := 1) rfl rfl rfl uwX2 tyX2_ok nmX2 (by decide) rfl flX5_63 rfl rfl dX5_end_30 ?_
    refine go_iload_n dX5_end_33 0 rfl ?_
    exact go_iret rfl dX5_end_34 h
  · have h := h.2 (bI0.mp q)
    refine go_iconst (v := (-1)) dX5_end_15 (by decide) ?_
    exact go_iret rfl dX5_end_16 h

set_option maxRecDepth 100000 in
theorem sX6_end_0 {G : GX} {d : Nat} {mem : Mem} {Φ : Option Value → Mem → Prop} (a1 : Int32) (h : (((0 ≤ a1 ∧ a1 ≤ (mem 40 4)) → ∀ y1 : Int32, y1 = (mem 40 4) → Φ (some (.int y1)) (um mem 40 4 a1)) ∧ (¬ (0 ≤ a1 ∧ a1 ≤ (mem 40 4)) → Φ (some (.int (-1))) mem))) : Go G (d + 1) mX6_end 0 [(0, .ref 40), (1, .int a1)] [] mem Φ := by
  refine go_iload_n dX6_end_0 1 rfl ?_
  refine go_i2l dX6_end_1 ?_
  refine go_lconst (v := 0) dX6_end_2 (by decide) ?_
  refine go_aload_n dX6_end_3 0 rfl ?_
  refine go_getI (kf := 4) rfl rfl rfl uwX6 (by decide) flX6_54 dX6_end_4 ?_
  refine go_i2l dX6_end_7 ?_
  refine go_callS (st := []) (kX6_in (d + 0) a1 0 (mem 40 4) 0 (((mem 40 4) : Int32).toInt64) (by decide) rfl) okX6_in staX6_in lkX6_50 rfl rfl (Nat.le_of_ble_eq_true rfl) dX6_end_8 (fun v_ m2_ q => ?_)
  rw [q.1, q.2]
  refine go_stk (st2 := [.int (bI (0 ≤ a1 ∧ a1 ≤ (mem 40 4)))]) rfl ?_
  refine go_if_ne 16 dX6_end_11 (by decide) (fun q => ?_) (fun q => ?_)
  · have h := h.1 (bI1.mp q)
    refine go_aload_n dX6_end_16 0 rfl ?_
    refine go_getI (kf := 4) rfl rfl rfl uwX6 (by decide) flX6_54 dX6_end_17 ?_
    refine go_topi (fun y1 qy1 => ?_)
    have h := h y1 qy1
    refine go_istore_n (L2 := [(2, .int y1), (0, .ref 40), (1, .int a1)]) dX6_end_20 (by decide) rfl ?_
    refine go_aload_n dX6_end_21 1 rfl ?_
    refine go_iload_n dX6_end_22 2 rfl ?_
    refine go_putI (kf := 4) rfl rfl rfl uwX6 tyX6_ok nmX6 (by decide) rfl flX6_54 rfl rfl dX6_end_23 ?_
    refine go_iload_n dX6_end_26 0 rfl ?_
    exact go_iret rfl dX6_end_27 h
  · have h := h.2 (bI0.mp q)
    refine go_iconst (v := (-1)) dX6_end_14 (by decide) ?_
    exact go_iret rfl dX6_end_15 h

set_option maxRecDepth 100000 in
theorem sX5_fault_0 {G : GX} {d : Nat} {mem : Mem} {Φ : Option Value → Mem → Prop}  (h : Φ (some (.int (mem 0 9))) mem) : Go G (d + 0) mX5_fault 0 [(0, .ref 0)] [] mem Φ := by
  refine go_aload_n dX5_fault_0 0 rfl ?_
  refine go_getI (kf := 9) rfl rfl rfl uwX5 (by decide) flX5_81 dX5_fault_1 ?_
  exact go_iret rfl dX5_fault_4 h

set_option maxRecDepth 100000 in
theorem sX6_fault_0 {G : GX} {d : Nat} {mem : Mem} {Φ : Option Value → Mem → Prop}  (h : Φ (some (.int (mem 40 5))) mem) : Go G (d + 0) mX6_fault 0 [(0, .ref 40)] [] mem Φ := by
  refine go_aload_n dX6_fault_0 0 rfl ?_
  refine go_getI (kf := 5) rfl rfl rfl uwX6 (by decide) flX6_114 dX6_fault_1 ?_
  exact go_iret rfl dX6_fault_4 h

set_option maxRecDepth 100000 in
theorem sX5_torn_0 {G : GX} {d : Nat} {mem : Mem} {Φ : Option Value → Mem → Prop}  (h : Φ (some (.int (mem 0 10))) mem) : Go G (d + 0) mX5_torn 0 [(0, .ref 0)] [] mem Φ := by
  refine go_aload_n dX5_torn_0 0 rfl ?_
  refine go_getI (kf := 10) rfl rfl rfl uwX5 (by decide) flX5_261 dX5_torn_1 ?_
  exact go_iret rfl dX5_torn_4 h

set_option maxRecDepth 100000 in
theorem sX6_torn_0 {G : GX} {d : Nat} {mem : Mem} {Φ : Option Value → Mem → Prop}  (h : Φ (some (.int (mem 40 25))) mem) : Go G (d + 0) mX6_torn 0 [(0, .ref 40)] [] mem Φ := by
  refine go_aload_n dX6_torn_0 0 rfl ?_
  refine go_getI (kf := 25) rfl rfl rfl uwX6 (by decide) flX6_217 dX6_torn_1 ?_
  exact go_iret rfl dX6_torn_4 h

set_option maxRecDepth 100000 in
theorem sX5_forget_0 {G : GX} {d : Nat} {mem : Mem} {Φ : Option Value → Mem → Prop} (a1 : Int32) (h : (((0 ≤ a1 ∧ a1 ≤ (mem 25 3)) → ∀ y1 : Int32, y1 = (mem 25 3) → Φ (some (.int y1)) (um mem 25 3 a1)) ∧ (¬ (0 ≤ a1 ∧ a1 ≤ (mem 25 3)) → Φ (some (.int (-1))) mem))) : Go G (d + 1) mX5_forget 0 [(0, .ref 0), (1, .int a1)] [] mem Φ := by
  refine go_iload_n dX5_forget_0 1 rfl ?_
  refine go_iconst (v := 0) dX5_forget_1 (by decide) ?_
  refine go_aload_n dX5_forget_2 0 rfl ?_
  refine go_getR (kf := 5) (t := 25) rfl rfl rfl uwX5 (by decide) flX5_37 dX5_forget_3 ?_
  refine go_getI (kf := 3) rfl rfl rfl uwX3 (by decide) flX5_90 dX5_forget_6 ?_
  refine go_callS (st := []) (kX5_isWithin (d + 0) a1 0 (mem 25 3)) okX5_isWithin staX5_isWithin lkX5_59 rfl rfl (Nat.le_of_ble_eq_true rfl) dX5_forget_9 (fun v_ m2_ q => ?_)
  rw [q.1, q.2]
  refine go_stk (st2 := [.int (bI (0 ≤ a1 ∧ a1 ≤ (mem 25 3)))]) rfl ?_
  refine go_if_ne 17 dX5_forget_12 (by decide) (fun q => ?_) (fun q => ?_)
  · have h := h.1 (bI1.mp q)
    refine go_aload_n dX5_forget_17 0 rfl ?_
    refine go_getR (kf := 5) (t := 25) rfl rfl rfl uwX5 (by decide) flX5_37 dX5_forget_18 ?_
    refine go_getI (kf := 3) rfl rfl rfl uwX3 (by decide) flX5_90 dX5_forget_21 ?_
    refine go_topi (fun y1 qy1 => ?_)
    have h := h y1 qy1
    refine go_istore_n (L2 := [(2, .int y1), (0, .ref 0), (1, .int a1)]) dX5_forget_24 (by decide) rfl ?_
    refine go_aload_n dX5_forget_25 1 rfl ?_
    refine go_getR (kf := 5) (t := 25) rfl rfl rfl uwX5 (by decide) flX5_37 dX5_forget_26 ?_
    refine go_iload_n dX5_forget_29 2 rfl ?_
    refine go_putI (kf := 3) rfl rfl rfl uwX3 tyX3_ok nmX3 (by decide) rfl flX5_90 rfl rfl dX5_forget_30 ?_
    refine go_iload_n dX5_forget_33 0 rfl ?_
    exact go_iret rfl dX5_forget_34 h
  · have h := h.2 (bI0.mp q)
    refine go_iconst (v := (-1)) dX5_forget_15 (by decide) ?_
    exact go_iret rfl dX5_forget_16 h

set_option maxRecDepth 100000 in
theorem sX6_forget_0 {G : GX} {d : Nat} {mem : Mem} {Φ : Option Value → Mem → Prop} (a1 : Int32) (h : (((0 ≤ a1 ∧ a1 ≤ (mem 40 19)) → ∀ y1 : Int32, y1 = (mem 40 19) → Φ (some (.int y1)) (um mem 40 19 a1)) ∧ (¬ (0 ≤ a1 ∧ a1 ≤ (mem 40 19)) → Φ (some (.int (-1))) mem))) : Go G (d + 1) mX6_forget 0 [(0, .ref 40), (1, .int a1)] [] mem Φ := by
  refine go_iload_n dX6_forget_0 1 rfl ?_
  refine go_i2l dX6_forget_1 ?_
  refine go_lconst (v := 0) dX6_forget_2 (by decide) ?_
  refine go_aload_n dX6_forget_3 0 rfl ?_
  refine go_getI (kf := 19) rfl rfl rfl uwX6 (by decide) flX6_117 dX6_forget_4 ?_
  refine go_i2l dX6_forget_7 ?_
  refine go_callS (st := []) (kX6_in (d + 0) a1 0 (mem 40 19) 0 (((mem 40 19) : Int32).toInt64) (by decide) rfl) okX6_in staX6_in lkX6_50 rfl rfl (Nat.le_of_ble_eq_true rfl) dX6_forget_8 (fun v_ m2_ q => ?_)
  rw [q.1, q.2]
  refine go_stk (st2 := [.int (bI (0 ≤ a1 ∧ a1 ≤ (mem 40 19)))]) rfl ?_
  refine go_if_ne 16 dX6_forget_11 (by decide) (fun q => ?_) (fun q => ?_)
  · have h := h.1 (bI1.mp q)
    refine go_aload_n dX6_forget_16 0 rfl ?_
    refine go_getI (kf := 19) rfl rfl rfl uwX6 (by decide) flX6_117 dX6_forget_17 ?_
    refine go_topi (fun y1 qy1 => ?_)
    have h := h y1 qy1
    refine go_istore_n (L2 := [(2, .int y1), (0, .ref 40), (1, .int a1)]) dX6_forget_20 (by decide) rfl ?_
    refine go_aload_n dX6_forget_21 1 rfl ?_
    refine go_iload_n dX6_forget_22 2 rfl ?_
    refine go_putI (kf := 19) rfl rfl rfl uwX6 tyX6_ok nmX6 (by decide) rfl flX6_117 rfl rfl dX6_forget_23 ?_
    refine go_iload_n dX6_forget_26 0 rfl ?_
    exact go_iret rfl dX6_forget_27 h
  · have h := h.2 (bI0.mp q)
    refine go_iconst (v := (-1)) dX6_forget_14 (by decide) ?_
    exact go_iret rfl dX6_forget_15 h


theorem P3 {G : GX} : Sm G mX5_fault mX6_fault [] := fun mem hI => by
  obtain ⟨X, T, S, h1, h2, h3, h4, h5, h6, h7⟩ := id hI
  refine cn_of (by decide +kernel) (Nat.le_of_ble_eq_true rfl) (sX5_fault_0 (d := 9) ?_)
  exact cn_of (by decide +kernel) (Nat.le_of_ble_eq_true rfl) (sX6_fault_0 (d := 9) ⟨by rw [h4.1], hI⟩)
theorem P36 {G : GX} : Sm G mX5_torn mX6_torn [] := fun mem hI => by
  obtain ⟨X, T, S, h1, h2, h3, h4, h5, h6, h7⟩ := id hI
  refine cn_of (by decide +kernel) (Nat.le_of_ble_eq_true rfl) (sX5_torn_0 (d := 9) ?_)
  exact cn_of (by decide +kernel) (Nat.le_of_ble_eq_true rfl) (sX6_torn_0 (d := 9) ⟨by rw [h4.2], hI⟩)
theorem P1 {G : GX} (a : Int32) : Sm G mX5_end mX6_end [.int a] := fun mem hI => by
  obtain ⟨X, T, S, h1, h2, h3, h4, h5, h6, h7⟩ := id hI
  obtain ⟨t1, t2, t3, t4⟩ := h3
  refine cn_of (by decide +kernel) (Nat.le_of_ble_eq_true rfl) (sX5_end_0 (d := 8) a ?_)
  rw [t2]
  refine ⟨fun q y hy => ?_, fun q => ?_⟩
  · obtain ⟨e1, e2⟩ := i_of rfl (by omega) q
    refine cn_of (by decide +kernel) (Nat.le_of_ble_eq_true rfl) (sX6_end_0 (d := 8) a ?_)
    rw [um_ne (by decide), t3]
    refine ⟨fun _ y2 hy2 => ⟨by rw [hy, hy2], hI.tape (T2 := (a.toNatClampNeg, T.2)) (fun k h1 h2 h3 h4 => by rw [um_ne h4, um_ne h1]) (fun j hj => by rw [um_at, if_neg hj, um_ne (by decide)]) ⟨by omega, ?_, ?_, fun i hi => ?_⟩⟩, fun z => absurd q z⟩
    · rw [um_ne (by decide), um_same]; exact e2
    · rw [um_same]; exact e2
    · rw [um_ne (by decide), um_ne (by decide), um_ne (by decide), um_ne (by decide)]
      exact t4 i (Nat.lt_of_lt_of_le hi e1)
  · refine cn_of (by decide +kernel) (Nat.le_of_ble_eq_true rfl) (sX6_end_0 (d := 8) a ?_)
    rw [t3]
    exact ⟨fun z => absurd z q, fun _ => ⟨rfl, hI⟩⟩
theorem byte_id {k : Nat} (h : k ≤ 127) : vp_nar .byte (nI k).toInt8.toInt32 = nI k := by
  rw [pk_vb, fa_byte_small (by omega)]
set_option maxHeartbeats 4000000 in
theorem P0 {G : GX} (a : Int32) : Sm G mX5_feed mX6_feed [.int a] := fun mem hI => by
  obtain ⟨X, T, S, h1, h2, h3, h4, h5, h6, h7⟩ := id hI
  obtain ⟨t1, t2, t3, t4⟩ := h3
  have c160 : nI T.1 = 160 ↔ ¬ T.1 < 160 := by
    rw [show (160 : Int32) = nI 160 from rfl, neq (by omega) (by omega)]
    omega
  refine cn_of (by decide +kernel) (Nat.le_of_ble_eq_true rfl) (sX5_feed_0 (d := 8) a ?_)
  rw [t2, show (160 : Int32) = nI 160 from rfl, nlt (by omega) (by omega)]
  refine ⟨fun q => ⟨fun q2 => ⟨nin (by omega) (by omega), fun m2 hm2 => ?_⟩, fun q2 => ?_⟩, fun q => ?_⟩
  · obtain ⟨k, hk, rfl⟩ := i300 (n := 127) rfl (by omega) q
    rw [ncl (show T.1 < 2000000000 by omega), byte_id hk] at hm2
    have e23 : m2 23 1 = nI T.1 := by rw [hm2, um_ne (by decide)]; exact t2
    rw [um_same, e23, nI_1]
    refine cn_of (by decide +kernel) (Nat.le_of_ble_eq_true rfl) (sX6_feed_0 (d := 8) (nI k) ?_)
    have e40 : um m2 23 1 (nI (T.1 + 1)) 40 4 = nI T.1 := by rw [um_ne (by decide), hm2, um_ne (by decide)]; exact t3
    rw [e40, c160]
    refine ⟨fun _ => ⟨fun _ => ⟨nin (by omega) (by omega), fun m4 hm4 => ?_⟩, fun z => absurd q2 z⟩, fun z => absurd q z⟩
    rw [ncl (show T.1 < 2000000000 by omega)] at hm4
    have e4 : m4 40 4 = nI T.1 := by rw [hm4, um_ne (by decide)]; exact e40
    rw [um_same, e4, nI_1]
    refine ⟨rfl, hI.tape (T2 := (T.1 + 1, upN T.2 T.1 k)) (fun j h1 h2 h3 h4 => by rw [um_ne h4, hm4, um_ne h3, um_ne h1, hm2, um_ne h2]) (fun j hj => by rw [um_at, if_neg hj, hm4, um_ne (by decide), um_ne (by decide), hm2, um_ne (by decide)]) ⟨by omega, ?_, ?_, fun i hi => ?_⟩⟩
    · rw [um_ne (by decide), hm4, um_ne (by decide), um_same]
    · rw [um_same]
    · have hi2 : i < T.1 + 1 := hi
      show upN T.2 T.1 k i ≤ 127 ∧ um m4 40 4 (nI (T.1 + 1)) 24 i = nI (upN T.2 T.1 k i) ∧ um m4 40 4 (nI (T.1 + 1)) 43 i = nI (upN T.2 T.1 k i)
      rw [um_ne (by decide), um_ne (by decide), hm4, um_ne (by decide), um_at, um_ne (by decide), um_ne (by decide), hm2, um_at, um_ne (by decide)]
      unfold upN
      by_cases z : i = T.1
      · rw [if_pos z, if_pos z, if_pos z]
        exact ⟨hk, rfl, rfl⟩
      · rw [if_neg z, if_neg z, if_neg z]
        exact t4 i (by omega)
  · refine cn_of (by decide +kernel) (Nat.le_of_ble_eq_true rfl) (sX6_feed_0 (d := 8) a ?_)
    rw [t3, c160]
    exact ⟨fun _ => ⟨fun z => absurd q2 z, fun _ => ⟨rfl, hI⟩⟩, fun z => absurd q z⟩
  · refine cn_of (by decide +kernel) (Nat.le_of_ble_eq_true rfl) (sX6_feed_0 (d := 8) a ?_)
    exact ⟨fun z => absurd z q, fun _ => ⟨rfl, hI⟩⟩
theorem P25 {G : GX} (a : Int32) : Sm G mX5_forget mX6_forget [.int a] := fun mem hI => by
  obtain ⟨X, T, S, h1, h2, h3, h4, h5, h6, h7⟩ := id hI
  obtain ⟨t1, t2, t3, t4⟩ := h5
  refine cn_of (by decide +kernel) (Nat.le_of_ble_eq_true rfl) (sX5_forget_0 (d := 8) a ?_)
  rw [t2]
  refine ⟨fun q y hy => ?_, fun q => ?_⟩
  · obtain ⟨e1, e2⟩ := i_of rfl (by omega) q
    refine cn_of (by decide +kernel) (Nat.le_of_ble_eq_true rfl) (sX6_forget_0 (d := 8) a ?_)
    rw [um_ne (by decide), t3]
    refine ⟨fun _ y2 hy2 => ⟨by rw [hy, hy2], hI.seen (S2 := (a.toNatClampNeg, S.2)) (fun k h1 h2 h3 => by rw [um_ne h3, um_ne (by omega)]) (fun j hj => by rw [um_at, if_neg hj, um_ne (by decide)]) ⟨by omega, ?_, ?_, fun i hi => ?_⟩⟩, fun z => absurd q z⟩
    · rw [um_ne (by decide), um_same]; exact e2
    · rw [um_same]; exact e2
    · rw [um_ne (by decide), um_ne (by decide), um_ne (by decide), um_ne (by decide), um_ne (by decide), um_ne (by decide), um_ne (by decide), um_ne (by decide)]
      exact t4 i (Nat.lt_of_lt_of_le hi e1)
  · refine cn_of (by decide +kernel) (Nat.le_of_ble_eq_true rfl) (sX6_forget_0 (d := 8) a ?_)
    rw [t3]
    exact ⟨fun z => absurd z q, fun _ => ⟨rfl, hI⟩⟩

set_option maxRecDepth 100000 in
theorem sX3_add_0 {G : GX} {d : Nat} {mem : Mem} {Φ : Option Value → Mem → Prop} (a1 : Int32) (a2 : Int32) (a3 : Int32) (h : (((mem 25 3) < 6 → (vp_in (mem 25 3) 6) ∧ ∀ m2 : Mem, m2 = (um mem 26 ((mem 25 3) : Int32).toNatClampNeg a1) → (vp_in (m2 25 3) 6) ∧ ∀ m4 : Mem, m4 = (um m2 27 ((m2 25 3) : Int32).toNatClampNeg a2) → (vp_in (m4 25 3) 6) ∧ ∀ m6 : Mem, m6 = (um m4 28 ((m4 25 3) : Int32).toNatClampNeg a3) → Φ none (um m6 25 3 ((m6 25 3) + 1))) ∧ (¬ (mem 25 3) < 6 → Φ none mem))) : Go G (d + 0) mX3_add 0 [(0, .ref 25), (1, .int a1), (2, .int a2), (3, .int a3)] [] mem Φ := by
  refine go_aload_n dX3_add_0 0 rfl ?_
  refine go_getI (kf := 3) rfl rfl rfl uwX3 (by decide) flX3_21 dX3_add_1 ?_
  refine go_bipush (v := 6) dX3_add_4 (by decide) ?_
  refine go_icmp_lt 10 dX3_add_6 (by decide) (fun q => ?_) (fun q => ?_)
  · have h := h.1 q
    refine go_aload_n dX3_add_10 0 rfl ?_
    refine go_getR (kf := 0) (t := 26) rfl rfl rfl uwX3 (by decide) flX3_9 dX3_add_11 ?_
    refine go_aload_n dX3_add_14 0 rfl ?_
    refine go_getI (kf := 3) rfl rfl rfl uwX3 (by decide) flX3_21 dX3_add_15 ?_
    refine go_iload_n dX3_add_18 1 rfl ?_
    obtain ⟨c1, h⟩ := h
    refine go_iastore rfl c1 dX3_add_19 ?_
    refine go_mem (fun m2 qm2 => ?_)
    have h := h m2 qm2
    refine go_aload_n dX3_add_20 0 rfl ?_
    refine go_getR (kf := 1) (t := 27) rfl rfl rfl uwX3 (by decide) flX3_15 dX3_add_21 ?_
    refine go_aload_n dX3_add_24 0 rfl ?_
    refine go_getI (kf := 3) rfl rfl rfl uwX3 (by decide) flX3_21 dX3_add_25 ?_
    refine go_iload_n dX3_add_28 2 rfl ?_
    obtain ⟨c3, h⟩ := h
    refine go_iastore rfl c3 dX3_add_29 ?_
    refine go_mem (fun m4 qm4 => ?_)
    have h := h m4 qm4
    refine go_aload_n dX3_add_30 0 rfl ?_
    refine go_getR (kf := 2) (t := 28) rfl rfl rfl uwX3 (by decide) flX3_18 dX3_add_31 ?_
    refine go_aload_n dX3_add_34 0 rfl ?_
    refine go_getI (kf := 3) rfl rfl rfl uwX3 (by decide) flX3_21 dX3_add_35 ?_
    refine go_iload_n dX3_add_38 3 rfl ?_
    obtain ⟨c5, h⟩ := h
    refine go_iastore rfl c5 dX3_add_39 ?_
    refine go_mem (fun m6 qm6 => ?_)
    have h := h m6 qm6
    refine go_aload_n dX3_add_40 0 rfl ?_
    refine go_dup dX3_add_41 rfl ?_
    refine go_getI (kf := 3) rfl rfl rfl uwX3 (by decide) flX3_21 dX3_add_42 ?_
    refine go_iconst (v := 1) dX3_add_45 (by decide) ?_
    refine go_iadd dX3_add_46 ?_
    refine go_putI (kf := 3) rfl rfl rfl uwX3 tyX3_ok nmX3 (by decide) rfl flX3_21 rfl rfl dX3_add_47 ?_
    exact go_vret rfl dX3_add_50 h
  · have h := h.2 q
    exact go_vret rfl dX3_add_9 h


theorem kX3_add {G : GX} (d : Nat) {mem : Mem} (a1 a2 a3 : Int32) (n : Nat) (hn : n < 6) (e : mem 25 3 = nI n) : Cn G (d + 0) mX3_add [.ref 25, .int a1, .int a2, .int a3] mem (Rv (fun m2 => m2 = um (um (um (um mem 26 n a1) 27 n a2) 28 n a3) 25 3 (nI (n + 1)))) := by
  refine cn_of (by decide +kernel) (Nat.le_of_ble_eq_true rfl) (sX3_add_0 a1 a2 a3 ?_)
  have hin : vp_in (nI n) 6 := nin hn (by omega)
  have ci : (nI n).toNatClampNeg = n := ncl (by omega)
  rw [e, ci]
  refine ⟨fun _ => ⟨hin, fun m2 h2 => ?_⟩, fun q => absurd ((nlt (b := 6) (by omega) (by omega)).mpr hn) q⟩
  have e2 : m2 25 3 = nI n := by rw [h2, um_ne (by decide)]; exact e
  rw [e2, ci]
  refine ⟨hin, fun m4 h4 => ?_⟩
  have e4 : m4 25 3 = nI n := by rw [h4, um_ne (by decide)]; exact e2
  rw [e4, ci]
  refine ⟨hin, fun m6 h6 => ?_⟩
  have e6 : m6 25 3 = nI n := by rw [h6, um_ne (by decide)]; exact e4
  rw [e6, nI_1]
  exact ⟨rfl, by rw [h6, h4, h2]⟩

set_option maxRecDepth 100000 in
theorem sX5_see_0 {G : GX} {d : Nat} {mem : Mem} {Φ : Option Value → Mem → Prop} (a1 a2 a3 : Int32) (n : Nat) (h : ((¬ (0 ≤ a1 ∧ a1 ≤ 60) → Φ (some (.int (-1))) mem) ∧ ((0 ≤ a1 ∧ a1 ≤ 60) → ((¬ (0 ≤ a2 ∧ a2 < mem 1 4) → Φ (some (.int (-1))) mem) ∧ ((0 ≤ a2 ∧ a2 < mem 1 4) → (((0 ≤ a3 ∧ a3 ≤ 1) → (((mem 25 3) < 6 → (n < 6) ∧ (mem 25 3 = nI n) ∧ ∀ m3 : Mem, m3 = (um (um (um (um mem 26 n a1) 27 n a2) 28 n a3) 25 3 (nI (n + 1))) → Φ (some (.int (m3 25 3))) m3) ∧ (¬ (mem 25 3) < 6 → Φ (some (.int (-3))) mem))) ∧ (¬ (0 ≤ a3 ∧ a3 ≤ 1) → Φ (some (.int (-1))) mem))))))) : Go G (d + 1) mX5_see 0 [(0, .ref 0), (1, .int a1), (2, .int a2), (3, .int a3)] [] mem Φ := by
  refine go_iload_n dX5_see_0 1 rfl ?_
  refine go_iconst (v := 0) dX5_see_1 (by decide) ?_
  refine go_bipush (v := 60) dX5_see_2 (by decide) ?_
  refine go_callS (st := []) (kX5_isWithin (d + 0) a1 0 60) okX5_isWithin staX5_isWithin lkX5_59 rfl rfl (Nat.le_of_ble_eq_true rfl) dX5_see_4 (fun v_ m2_ q => ?_)
  rw [q.1, q.2]
  refine go_stk (st2 := [.int (bI (0 ≤ a1 ∧ a1 ≤ 60))]) rfl ?_
  refine go_if_eq 27 dX5_see_7 (by decide) (fun q => ?_) (fun q => ?_)
  · have h := h.1 (bI0.mp q)
    refine go_iconst (v := (-1)) dX5_see_27 (by decide) ?_
    exact go_iret rfl dX5_see_28 h
  · have h := h.2 (bI1.mp q)
    refine go_aload_n dX5_see_10 0 rfl ?_
    refine go_iload_n dX5_see_11 2 rfl ?_
    refine go_callV (st := []) (kX5_isClock (d + 0) a2) rfl rfl okX5_isClock insX5_isClock selX5_isClock lkX5_123 rfl rfl (Nat.le_of_ble_eq_true rfl) dX5_see_12 (fun v_ m2_ q => ?_)
    rw [q.1, q.2]
    refine go_stk (st2 := [.int (bI (0 ≤ a2 ∧ a2 < mem 1 4))]) rfl ?_
    refine go_if_eq 27 dX5_see_15 (by decide) (fun q => ?_) (fun q => ?_)
    · have h := h.1 (bI0.mp q)
      refine go_iconst (v := (-1)) dX5_see_27 (by decide) ?_
      exact go_iret rfl dX5_see_28 h
    · have h := h.2 (bI1.mp q)
      refine go_iload_n dX5_see_18 3 rfl ?_
      refine go_iconst (v := 0) dX5_see_19 (by decide) ?_
      refine go_iconst (v := 1) dX5_see_20 (by decide) ?_
      refine go_callS (st := []) (kX5_isWithin (d + 0) a3 0 1) okX5_isWithin staX5_isWithin lkX5_59 rfl rfl (Nat.le_of_ble_eq_true rfl) dX5_see_21 (fun v_ m2_ q => ?_)
      rw [q.1, q.2]
      refine go_stk (st2 := [.int (bI (0 ≤ a3 ∧ a3 ≤ 1))]) rfl ?_
      refine go_if_ne 29 dX5_see_24 (by decide) (fun q => ?_) (fun q => ?_)
      · have h := h.1 (bI1.mp q)
        refine go_aload_n dX5_see_29 0 rfl ?_
        refine go_getR (kf := 5) (t := 25) rfl rfl rfl uwX5 (by decide) flX5_37 dX5_see_30 ?_
        refine go_getI (kf := 3) rfl rfl rfl uwX3 (by decide) flX5_90 dX5_see_33 ?_
        refine go_bipush (v := 6) dX5_see_36 (by decide) ?_
        refine go_icmp_lt 44 dX5_see_38 (by decide) (fun q => ?_) (fun q => ?_)
        · have h := h.1 q
          refine go_aload_n dX5_see_44 0 rfl ?_
          refine go_getR (kf := 5) (t := 25) rfl rfl rfl uwX5 (by decide) flX5_37 dX5_see_45 ?_
          refine go_iload_n dX5_see_48 1 rfl ?_
          refine go_iload_n dX5_see_49 2 rfl ?_
          refine go_iload_n dX5_see_50 3 rfl ?_
          obtain ⟨c1, h⟩ := h
          obtain ⟨c2, h⟩ := h
          refine go_callV (st := []) (kX3_add (d + 0) a1 a2 a3 n c1 c2) rfl rfl okX3_add insX3_add selX3_add lkX5_227 rfl rfl (Nat.le_of_ble_eq_true rfl) dX5_see_51 (fun v_ m2_ q => ?_)
          rw [q.1, q.2]
          refine go_stk (st2 := []) rfl ?_
          refine go_mem (fun m3 qm3 => ?_)
          have h := h m3 qm3
          refine go_aload_n dX5_see_54 0 rfl ?_
          refine go_getR (kf := 5) (t := 25) rfl rfl rfl uwX5 (by decide) flX5_37 dX5_see_55 ?_
          refine go_getI (kf := 3) rfl rfl rfl uwX3 (by decide) flX5_90 dX5_see_58 ?_
          exact go_iret rfl dX5_see_61 h
        · have h := h.2 q
          refine go_bipush (v := (-3)) dX5_see_41 (by decide) ?_
          exact go_iret rfl dX5_see_43 h
      · have h := h.2 (bI0.mp q)
        refine go_iconst (v := (-1)) dX5_see_27 (by decide) ?_
        exact go_iret rfl dX5_see_28 h

set_option maxRecDepth 100000 in
theorem sX6_see_0 {G : GX} {d : Nat} {mem : Mem} {Φ : Option Value → Mem → Prop} (a1 : Int32) (a2 : Int32) (a3 : Int32) (h : ((¬ (0 ≤ a1 ∧ a1 ≤ 60) → Φ (some (.int (-1))) mem) ∧ ((0 ≤ a1 ∧ a1 ≤ 60) → ((¬ (0 ≤ a2 ∧ a2 ≤ ((mem 41 20) - 1)) → Φ (some (.int (-1))) mem) ∧ ((0 ≤ a2 ∧ a2 ≤ ((mem 41 20) - 1)) → (((0 ≤ a3 ∧ a3 ≤ 1) → ((¬ (mem 40 19) = 6 → (vp_in (3 * (mem 40 19)) 18) ∧ ∀ m2 : Mem, m2 = (um mem 46 ((3 * (mem 40 19)) : Int32).toNatClampNeg a1) → (vp_in ((3 * (m2 40 19)) + 1) 18) ∧ ∀ m4 : Mem, m4 = (um m2 46 (((3 * (m2 40 19)) + 1) : Int32).toNatClampNeg a2) → (vp_in ((3 * (m4 40 19)) + 2) 18) ∧ ∀ m6 : Mem, m6 = (um m4 46 (((3 * (m4 40 19)) + 2) : Int32).toNatClampNeg a3) → Φ (some (.int ((um m6 40 19 ((m6 40 19) + 1)) 40 19))) (um m6 40 19 ((m6 40 19) + 1))) ∧ ((mem 40 19) = 6 → Φ (some (.int (-3))) mem))) ∧ (¬ (0 ≤ a3 ∧ a3 ≤ 1) → Φ (some (.int (-1))) mem))))))) : Go G (d + 2) mX6_see 0 [(0, .ref 40), (1, .int a1), (2, .int a2), (3, .int a3)] [] mem Φ := by
  refine go_iload_n dX6_see_0 1 rfl ?_
  refine go_i2l dX6_see_1 ?_
  refine go_lconst (v := 0) dX6_see_2 (by decide) ?_
  refine go_ldc2 klX6_206 dX6_see_3 ?_
  refine go_callS (st := []) (kX6_in (d + 1) a1 0 60 0 60 (by decide) (by decide)) okX6_in staX6_in lkX6_50 rfl rfl (Nat.le_of_ble_eq_true rfl) dX6_see_6 (fun v_ m2_ q => ?_)
  rw [q.1, q.2]
  refine go_stk (st2 := [.int (bI (0 ≤ a1 ∧ a1 ≤ 60))]) rfl ?_
  refine go_if_eq 30 dX6_see_9 (by decide) (fun q => ?_) (fun q => ?_)
  · have h := h.1 (bI0.mp q)
    refine go_iconst (v := (-1)) dX6_see_30 (by decide) ?_
    exact go_iret rfl dX6_see_31 h
  · have h := h.2 (bI1.mp q)
    refine go_aload_n dX6_see_12 0 rfl ?_
    refine go_iload_n dX6_see_13 2 rfl ?_
    refine go_callV (st := []) (kX6_isClock (d + 0) a2) rfl rfl okX6_isClock insX6_isClock selX6_isClock lkX6_137 rfl rfl (Nat.le_of_ble_eq_true rfl) dX6_see_14 (fun v_ m2_ q => ?_)
    rw [q.1, q.2]
    refine go_stk (st2 := [.int (bI (0 ≤ a2 ∧ a2 ≤ ((mem 41 20) - 1)))]) rfl ?_
    refine go_if_eq 30 dX6_see_17 (by decide) (fun q => ?_) (fun q => ?_)
    · have h := h.1 (bI0.mp q)
      refine go_iconst (v := (-1)) dX6_see_30 (by decide) ?_
      exact go_iret rfl dX6_see_31 h
    · have h := h.2 (bI1.mp q)
      refine go_iload_n dX6_see_20 3 rfl ?_
      refine go_i2l dX6_see_21 ?_
      refine go_lconst (v := 0) dX6_see_22 (by decide) ?_
      refine go_lconst (v := 1) dX6_see_23 (by decide) ?_
      refine go_callS (st := []) (kX6_in (d + 1) a3 0 1 0 1 (by decide) (by decide)) okX6_in staX6_in lkX6_50 rfl rfl (Nat.le_of_ble_eq_true rfl) dX6_see_24 (fun v_ m2_ q => ?_)
      rw [q.1, q.2]
      refine go_stk (st2 := [.int (bI (0 ≤ a3 ∧ a3 ≤ 1))]) rfl ?_
      refine go_if_ne 32 dX6_see_27 (by decide) (fun q => ?_) (fun q => ?_)
      · have h := h.1 (bI1.mp q)
        refine go_aload_n dX6_see_32 0 rfl ?_
        refine go_getI (kf := 19) rfl rfl rfl uwX6 (by decide) flX6_117 dX6_see_33 ?_
        refine go_bipush (v := 6) dX6_see_36 (by decide) ?_
        refine go_icmp_ne 44 dX6_see_38 (by decide) (fun q => ?_) (fun q => ?_)
        · have h := h.1 q
          refine go_aload_n dX6_see_44 0 rfl ?_
          refine go_getR (kf := 18) (t := 46) rfl rfl rfl uwX6 (by decide) flX6_29 dX6_see_45 ?_
          refine go_iconst (v := 3) dX6_see_48 (by decide) ?_
          refine go_aload_n dX6_see_49 0 rfl ?_
          refine go_getI (kf := 19) rfl rfl rfl uwX6 (by decide) flX6_117 dX6_see_50 ?_
          refine go_imul dX6_see_53 ?_
          refine go_iload_n dX6_see_54 1 rfl ?_
          obtain ⟨c1, h⟩ := h
          refine go_iastore rfl c1 dX6_see_55 ?_
          refine go_mem (fun m2 qm2 => ?_)
          have h := h m2 qm2
          refine go_aload_n dX6_see_56 0 rfl ?_
          refine go_getR (kf := 18) (t := 46) rfl rfl rfl uwX6 (by decide) flX6_29 dX6_see_57 ?_
          refine go_iconst (v := 3) dX6_see_60 (by decide) ?_
          refine go_aload_n dX6_see_61 0 rfl ?_
          refine go_getI (kf := 19) rfl rfl rfl uwX6 (by decide) flX6_117 dX6_see_62 ?_
          refine go_imul dX6_see_65 ?_
          refine go_iconst (v := 1) dX6_see_66 (by decide) ?_
          refine go_iadd dX6_see_67 ?_
          refine go_iload_n dX6_see_68 2 rfl ?_
          obtain ⟨c3, h⟩ := h
          refine go_iastore rfl c3 dX6_see_69 ?_
          refine go_mem (fun m4 qm4 => ?_)
          have h := h m4 qm4
          refine go_aload_n dX6_see_70 0 rfl ?_
          refine go_getR (kf := 18) (t := 46) rfl rfl rfl uwX6 (by decide) flX6_29 dX6_see_71 ?_
          refine go_iconst (v := 3) dX6_see_74 (by decide) ?_
          refine go_aload_n dX6_see_75 0 rfl ?_
          refine go_getI (kf := 19) rfl rfl rfl uwX6 (by decide) flX6_117 dX6_see_76 ?_
          refine go_imul dX6_see_79 ?_
          refine go_iconst (v := 2) dX6_see_80 (by decide) ?_
          refine go_iadd dX6_see_81 ?_
          refine go_iload_n dX6_see_82 3 rfl ?_
          obtain ⟨c5, h⟩ := h
          refine go_iastore rfl c5 dX6_see_83 ?_
          refine go_mem (fun m6 qm6 => ?_)
          have h := h m6 qm6
          refine go_aload_n dX6_see_84 0 rfl ?_
          refine go_dup dX6_see_85 rfl ?_
          refine go_getI (kf := 19) rfl rfl rfl uwX6 (by decide) flX6_117 dX6_see_86 ?_
          refine go_iconst (v := 1) dX6_see_89 (by decide) ?_
          refine go_iadd dX6_see_90 ?_
          refine go_putI (kf := 19) rfl rfl rfl uwX6 tyX6_ok nmX6 (by decide) rfl flX6_117 rfl rfl dX6_see_91 ?_
          refine go_aload_n dX6_see_94 0 rfl ?_
          refine go_getI (kf := 19) rfl rfl rfl uwX6 (by decide) flX6_117 dX6_see_95 ?_
          exact go_iret rfl dX6_see_98 h
        · have h := h.2 q
          refine go_bipush (v := (-3)) dX6_see_41 (by decide) ?_
          exact go_iret rfl dX6_see_43 h
      · have h := h.2 (bI0.mp q)
        refine go_iconst (v := (-1)) dX6_see_30 (by decide) ?_
        exact go_iret rfl dX6_see_31 h


set_option maxHeartbeats 4000000 in
theorem P24 {G : GX} (a b c : Int32) : Sm G mX5_see mX6_see [.int a, .int b, .int c] := fun mem hI => by
  obtain ⟨X, T, S, h1, h2, h3, h4, h5, h6, h7⟩ := id hI
  obtain ⟨t1, t2, t3, t4⟩ := h5
  have hn := h1.2.2.1.1
  have c6 : nI S.1 = 6 ↔ ¬ S.1 < 6 := by
    rw [show (6 : Int32) = nI 6 from rfl, neq (by omega) (by omega)]
    omega
  have mod0 : ∀ v : Int32, (∀ X1 : Prop, X1 → X1) := fun _ _ h => h
  refine cn_of (by decide +kernel) (Nat.le_of_ble_eq_true rfl) (sX5_see_0 (d := 8) a b c S.1 ?_)
  rw [t2, h1.1.1, show (6 : Int32) = nI 6 from rfl, nlt (by omega) (by omega)]
  refine ⟨fun q => ?_, fun q => ⟨fun q2 => ?_, fun q2 => ⟨fun q3 => ⟨fun q4 => ⟨q4, rfl, fun m3 h3 => ?_⟩, fun q4 => ?_⟩, fun q3 => ?_⟩⟩⟩
  · exact cn_of (by decide +kernel) (Nat.le_of_ble_eq_true rfl) (sX6_see_0 (d := 7) a b c ⟨fun _ => ⟨rfl, hI⟩, fun z => absurd z q⟩)
  · refine cn_of (by decide +kernel) (Nat.le_of_ble_eq_true rfl) (sX6_see_0 (d := 7) a b c ?_)
    rw [(RepM0 h1.2.1).1, isC_M hn]
    exact ⟨fun z => absurd q z, fun _ => ⟨fun _ => ⟨rfl, hI⟩, fun z => absurd z q2⟩⟩
  · have e25 : m3 25 3 = nI (S.1 + 1) := by rw [h3, um_same]
    rw [e25]
    have g40 : m3 40 = mem 40 := by rw [h3, um_ne (by decide), um_ne (by decide), um_ne (by decide), um_ne (by decide)]
    have g46 : m3 46 = mem 46 := by rw [h3, um_ne (by decide), um_ne (by decide), um_ne (by decide), um_ne (by decide)]
    have g41 : m3 41 = mem 41 := by rw [h3, um_ne (by decide), um_ne (by decide), um_ne (by decide), um_ne (by decide)]
    refine cn_of (by decide +kernel) (Nat.le_of_ble_eq_true rfl) (sX6_see_0 (d := 7) a b c ?_)
    rw [g41, (RepM0 h1.2.1).1, isC_M hn, g40, t3, c6]
    refine ⟨fun z => absurd q z, fun _ => ⟨fun z => absurd q2 z, fun _ => ⟨fun _ => ⟨fun _ => ?_, fun z => absurd q4 z⟩, fun z => absurd q3 z⟩⟩⟩
    have i3 : (3 : Int32) * nI S.1 = nI (3 * S.1) := pk_mul 3 S.1
    rw [i3, ncl (show 3 * S.1 < 2000000000 by omega)]
    refine ⟨nin (by omega) (by omega), fun m5 h5 => ?_⟩
    have k5 : m5 40 19 = nI S.1 := by rw [h5, um_ne (by decide), g40]; exact t3
    rw [k5, i3, show (nI (3 * S.1) + 1 : Int32) = nI (3 * S.1 + 1) from nI_1 _, ncl (show 3 * S.1 + 1 < 2000000000 by omega)]
    refine ⟨nin (by omega) (by omega), fun m6 h6 => ?_⟩
    have k6 : m6 40 19 = nI S.1 := by rw [h6, um_ne (by decide)]; exact k5
    rw [k6, i3, show (nI (3 * S.1) + 2 : Int32) = nI (3 * S.1 + 2) from nI_add (3 * S.1) 2, ncl (show 3 * S.1 + 2 < 2000000000 by omega)]
    refine ⟨nin (by omega) (by omega), fun m7 h7 => ?_⟩
    have k7 : m7 40 19 = nI S.1 := by rw [h7, um_ne (by decide)]; exact k6
    rw [um_same, k7, nI_1]
    obtain ⟨e1, e2⟩ := i_of (n := 60) rfl (by omega) q
    obtain ⟨j, hj, rfl⟩ := isC_n q2 hn
    obtain ⟨e5, e6⟩ := i_of (n := 1) rfl (by omega) q3
    refine ⟨rfl, hI.seen (S2 := (S.1 + 1, upN S.2.1 S.1 a.toNatClampNeg, upN S.2.2.1 S.1 j, upN S.2.2.2 S.1 c.toNatClampNeg)) (fun k h1 h2 h8 => by rw [um_ne h8, h7, um_ne h2, h6, um_ne h2, h5, um_ne h2, h3, um_ne (by omega), um_ne (by omega), um_ne (by omega), um_ne (by omega)]) (fun i hi => by rw [um_at, if_neg hi, h7, um_ne (by decide), h6, um_ne (by decide), h5, um_ne (by decide), g40]) ⟨by omega, ?_, ?_, fun i hi => ?_⟩⟩
    · rw [um_ne (by decide), h7, um_ne (by decide), h6, um_ne (by decide), h5, um_ne (by decide)]; exact e25
    · rw [um_same]
    · have hi2 : i < S.1 + 1 := hi
      have f26 : um m7 40 19 (nI (S.1 + 1)) 26 = um mem 26 S.1 a 26 := by rw [um_ne (by decide), h7, um_ne (by decide), h6, um_ne (by decide), h5, um_ne (by decide), h3, um_ne (by decide), um_ne (by decide), um_ne (by decide)]
      have f27 : um m7 40 19 (nI (S.1 + 1)) 27 = um (um mem 26 S.1 a) 27 S.1 (nI j) 27 := by rw [um_ne (by decide), h7, um_ne (by decide), h6, um_ne (by decide), h5, um_ne (by decide), h3, um_ne (by decide), um_ne (by decide)]
      have f28 : um m7 40 19 (nI (S.1 + 1)) 28 = um (um (um mem 26 S.1 a) 27 S.1 (nI j)) 28 S.1 c 28 := by rw [um_ne (by decide), h7, um_ne (by decide), h6, um_ne (by decide), h5, um_ne (by decide), h3, um_ne (by decide)]
      have f46 : ∀ z, um m7 40 19 (nI (S.1 + 1)) 46 z = if z = 3 * S.1 + 2 then c else if z = 3 * S.1 + 1 then nI j else if z = 3 * S.1 then a else mem 46 z := fun z => by rw [um_ne (by decide), h7, um_at, h6, um_at, h5, um_at, g46]
      show upN S.2.1 S.1 a.toNatClampNeg i ≤ 60 ∧ upN S.2.2.1 S.1 j i ≤ 4 ∧ upN S.2.2.2 S.1 c.toNatClampNeg i ≤ 1 ∧ _ = nI (upN S.2.1 S.1 a.toNatClampNeg i) ∧ _ = nI (upN S.2.2.1 S.1 j i) ∧ _ = nI (upN S.2.2.2 S.1 c.toNatClampNeg i) ∧ _ = nI (upN S.2.1 S.1 a.toNatClampNeg i) ∧ _ = nI (upN S.2.2.1 S.1 j i) ∧ _ = nI (upN S.2.2.2 S.1 c.toNatClampNeg i)
      rw [f26, f27, f28, f46, f46, f46, um_at, um_at, um_at, um_ne (show 27 ≠ 26 by decide), um_ne (show 28 ≠ 27 by decide), um_ne (show 28 ≠ 26 by decide)]
      unfold upN
      by_cases z : i = S.1
      · rw [if_pos z, if_pos z, if_pos z, if_pos z, if_pos z, if_pos z, z, if_neg (by omega), if_neg (by omega), if_pos rfl, if_neg (by omega), if_pos rfl, if_pos rfl]
        exact ⟨e1, by omega, e5, e2, rfl, e6, e2, rfl, e6⟩
      · rw [if_neg z, if_neg z, if_neg z, if_neg z, if_neg z, if_neg z, if_neg (by omega), if_neg (by omega), if_neg (by omega), if_neg (by omega), if_neg (by omega), if_neg (by omega), if_neg (by omega), if_neg (by omega), if_neg (by omega)]
        exact t4 i (by omega)
  · refine cn_of (by decide +kernel) (Nat.le_of_ble_eq_true rfl) (sX6_see_0 (d := 7) a b c ?_)
    rw [(RepM0 h1.2.1).1, isC_M hn, t3, c6]
    exact ⟨fun z => absurd q z, fun _ => ⟨fun z => absurd q2 z, fun _ => ⟨fun _ => ⟨fun z => absurd q4 z, fun _ => ⟨rfl, hI⟩⟩, fun z => absurd q3 z⟩⟩⟩
  · refine cn_of (by decide +kernel) (Nat.le_of_ble_eq_true rfl) (sX6_see_0 (d := 7) a b c ?_)
    rw [(RepM0 h1.2.1).1, isC_M hn]
    exact ⟨fun z => absurd q z, fun _ => ⟨fun z => absurd q2 z, fun _ => ⟨fun z => absurd z q3, fun _ => ⟨rfl, hI⟩⟩⟩⟩
