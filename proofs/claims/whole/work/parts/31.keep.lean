set_option maxRecDepth 100000 in
theorem sX5_keep_0 {G : GX} {d : Nat} {mem : Mem} {Φ : Option Value → Mem → Prop} (a1 : Int32) (X : Bm) (h : (((0 ≤ a1 ∧ a1 ≤ 1) → (vp_in a1 2) ∧ (((mem 22 (a1 : Int32).toNatClampNeg) = 0 → ∃ t2 : Nat, (([11, 16] : List Nat)[(a1 : Int32).toNatClampNeg]? = some t2 ∧ BeamAt t2) ∧ (t2 + 4 < 1 ∨ 1 + 4 < t2) ∧ (xn X ≤ 5) ∧ (RepB mem 1 X) ∧ ∀ m8 : Mem, (RepB m8 t2 X ∧ FrB t2 mem m8) → ∀ m9 : Mem, m9 = (um m8 22 (a1 : Int32).toNatClampNeg (vp_nar .boolean 1)) → Φ (some (.int 0)) m9) ∧ (¬ (mem 22 (a1 : Int32).toNatClampNeg) = 0 → ∃ t10 : Nat, (([11, 16] : List Nat)[(a1 : Int32).toNatClampNeg]? = some t10 ∧ BeamAt t10) ∧ (t10 + 4 < 1 ∨ 1 + 4 < t10) ∧ (xn X ≤ 5) ∧ (RepB mem 1 X) ∧ ∀ m16 : Mem, (RepB m16 t10 X ∧ FrB t10 mem m16) → ∀ m17 : Mem, m17 = (um m16 22 (a1 : Int32).toNatClampNeg (vp_nar .boolean 1)) → Φ (some (.int 1)) m17))) ∧ (¬ (0 ≤ a1 ∧ a1 ≤ 1) → Φ (some (.int (-1))) mem))) : Go G (d + 2) mX5_keep 0 [(0, .ref 0), (1, .int a1)] [] mem Φ := by
  refine go_iload_n dX5_keep_0 1 rfl ?_
  refine go_iconst (v := 0) dX5_keep_1 (by decide) ?_
  refine go_iconst (v := 1) dX5_keep_2 (by decide) ?_
  refine go_callS (st := []) (kX5_isWithin (d + 1) a1 0 1) okX5_isWithin staX5_isWithin lkX5_59 rfl rfl (Nat.le_of_ble_eq_true rfl) dX5_keep_3 (fun v_ m2_ q => ?_)
  rw [q.1, q.2]
  refine go_stk (st2 := [.int (bI (0 ≤ a1 ∧ a1 ≤ 1))]) rfl ?_
  refine go_if_ne 11 dX5_keep_6 (by decide) (fun q => ?_) (fun q => ?_)
  · have h := h.1 (bI1.mp q)
    refine go_aload_n dX5_keep_11 0 rfl ?_
    refine go_getR (kf := 3) (t := 22) rfl rfl rfl uwX5 (by decide) flX5_23 dX5_keep_12 ?_
    refine go_iload_n dX5_keep_15 1 rfl ?_
    obtain ⟨c1, h⟩ := h
    refine go_zaload rfl c1 dX5_keep_16 ?_
    refine go_if_eq 24 dX5_keep_17 (by decide) (fun q => ?_) (fun q => ?_)
    · have h := h.1 q
      refine go_iconst (v := 0) dX5_keep_24 (by decide) ?_
      refine go_istore_n (L2 := [(2, .int 0), (0, .ref 0), (1, .int a1)]) dX5_keep_25 (by decide) rfl ?_
      refine go_aload_n dX5_keep_26 1 rfl ?_
      refine go_getR (kf := 2) (t := 21) rfl rfl rfl uwX5 (by decide) flX5_19 dX5_keep_27 ?_
      refine go_iload_n dX5_keep_30 2 rfl ?_
      obtain ⟨t2, ⟨e3, hb4⟩, h⟩ := h
      refine go_aaload rfl c1 e3 dX5_keep_31 ?_
      refine go_aload_n dX5_keep_32 1 rfl ?_
      refine go_getR (kf := 0) (t := 1) rfl rfl rfl uwX5 (by decide) flX5_12 dX5_keep_33 ?_
      obtain ⟨c5, h⟩ := h
      obtain ⟨c6, h⟩ := h
      obtain ⟨c7, h⟩ := h
      refine go_callV (st := []) (kX0_takeFrom (d + 0) t2 hb4 1 bA1 X c5 c6 c7) hb4.1 rfl okX0_takeFrom insX0_takeFrom selX0_takeFrom lkX5_87 rfl rfl (Nat.le_of_ble_eq_true rfl) dX5_keep_36 (fun v_ m8 q => ?_)
      rw [q.1]
      have h := h m8 q.2
      refine go_stk (st2 := []) rfl ?_
      refine go_aload_n dX5_keep_39 1 rfl ?_
      refine go_getR (kf := 3) (t := 22) rfl rfl rfl uwX5 (by decide) flX5_23 dX5_keep_40 ?_
      refine go_iload_n dX5_keep_43 2 rfl ?_
      refine go_iconst (v := 1) dX5_keep_44 (by decide) ?_
      refine go_zastore rfl c1 dX5_keep_45 ?_
      refine go_mem (fun m9 qm9 => ?_)
      have h := h m9 qm9
      refine go_iload_n dX5_keep_46 0 rfl ?_
      exact go_iret rfl dX5_keep_47 h
    · have h := h.2 q
      refine go_iconst (v := 1) dX5_keep_20 (by decide) ?_
      refine go_goto 25 dX5_keep_21 (by decide) ?_
      refine go_istore_n (L2 := [(2, .int 1), (0, .ref 0), (1, .int a1)]) dX5_keep_25 (by decide) rfl ?_
      refine go_aload_n dX5_keep_26 1 rfl ?_
      refine go_getR (kf := 2) (t := 21) rfl rfl rfl uwX5 (by decide) flX5_19 dX5_keep_27 ?_
      refine go_iload_n dX5_keep_30 2 rfl ?_
      obtain ⟨t10, ⟨e11, hb12⟩, h⟩ := h
      refine go_aaload rfl c1 e11 dX5_keep_31 ?_
      refine go_aload_n dX5_keep_32 1 rfl ?_
      refine go_getR (kf := 0) (t := 1) rfl rfl rfl uwX5 (by decide) flX5_12 dX5_keep_33 ?_
      obtain ⟨c13, h⟩ := h
      obtain ⟨c14, h⟩ := h
      obtain ⟨c15, h⟩ := h
      refine go_callV (st := []) (kX0_takeFrom (d + 0) t10 hb12 1 bA1 X c13 c14 c15) hb12.1 rfl okX0_takeFrom insX0_takeFrom selX0_takeFrom lkX5_87 rfl rfl (Nat.le_of_ble_eq_true rfl) dX5_keep_36 (fun v_ m16 q => ?_)
      rw [q.1]
      have h := h m16 q.2
      refine go_stk (st2 := []) rfl ?_
      refine go_aload_n dX5_keep_39 1 rfl ?_
      refine go_getR (kf := 3) (t := 22) rfl rfl rfl uwX5 (by decide) flX5_23 dX5_keep_40 ?_
      refine go_iload_n dX5_keep_43 2 rfl ?_
      refine go_iconst (v := 1) dX5_keep_44 (by decide) ?_
      refine go_zastore rfl c1 dX5_keep_45 ?_
      refine go_mem (fun m17 qm17 => ?_)
      have h := h m17 qm17
      refine go_iload_n dX5_keep_46 0 rfl ?_
      exact go_iret rfl dX5_keep_47 h
  · have h := h.2 (bI0.mp q)
    refine go_iconst (v := (-1)) dX5_keep_9 (by decide) ?_
    exact go_iret rfl dX5_keep_10 h

set_option maxRecDepth 100000 in
theorem sX6_keep_0 {G : GX} {d : Nat} {mem : Mem} {Φ : Option Value → Mem → Prop} (a1 : Int32) (t : Nat) (h : (((0 ≤ a1 ∧ a1 ≤ 1) → (0 = nI 0 ∧ (23 * (a1 + 1)) = nI t) ∧ (0 ≤ 115 ∧ t ≤ 115 ∧ (0 + 23 ≤ t ∨ t + 23 ≤ 0)) ∧ (vp_in a1 2) ∧ ((((cpM mem 0 t) 48 (a1 : Int32).toNatClampNeg) = 0 → ∀ m4 : Mem, m4 = (um (cpM mem 0 t) 48 (a1 : Int32).toNatClampNeg (vp_nar .boolean 1)) → Φ (some (.int 0)) m4) ∧ (¬ ((cpM mem 0 t) 48 (a1 : Int32).toNatClampNeg) = 0 → ∀ m5 : Mem, m5 = (um (cpM mem 0 t) 48 (a1 : Int32).toNatClampNeg (vp_nar .boolean 1)) → Φ (some (.int 1)) m5))) ∧ (¬ (0 ≤ a1 ∧ a1 ≤ 1) → Φ (some (.int (-1))) mem))) : Go G (d + 1) mX6_keep 0 [(0, .ref 40), (1, .int a1)] [] mem Φ := by
  refine go_iload_n dX6_keep_0 1 rfl ?_
  refine go_i2l dX6_keep_1 ?_
  refine go_lconst (v := 0) dX6_keep_2 (by decide) ?_
  refine go_lconst (v := 1) dX6_keep_3 (by decide) ?_
  refine go_callS (st := []) (kX6_in (d + 0) a1 0 1 0 1 (by decide) (by decide)) okX6_in staX6_in lkX6_50 rfl rfl (Nat.le_of_ble_eq_true rfl) dX6_keep_4 (fun v_ m2_ q => ?_)
  rw [q.1, q.2]
  refine go_stk (st2 := [.int (bI (0 ≤ a1 ∧ a1 ≤ 1))]) rfl ?_
  refine go_if_ne 12 dX6_keep_7 (by decide) (fun q => ?_) (fun q => ?_)
  · have h := h.1 (bI1.mp q)
    refine go_aload_n dX6_keep_12 0 rfl ?_
    refine go_iconst (v := 0) dX6_keep_13 (by decide) ?_
    refine go_bipush (v := 23) dX6_keep_14 (by decide) ?_
    refine go_iload_n dX6_keep_16 1 rfl ?_
    refine go_iconst (v := 1) dX6_keep_17 (by decide) ?_
    refine go_iadd dX6_keep_18 ?_
    refine go_imul dX6_keep_19 ?_
    obtain ⟨c1, h⟩ := h
    obtain ⟨c2, h⟩ := h
    refine go_callV (st := []) (kX6_copiesI (d + 0) 0 (23 * (a1 + 1)) 0 t c1 c2) rfl rfl okX6_copies insX6_copies selX6_copies lkX6_161 rfl rfl (Nat.le_of_ble_eq_true rfl) dX6_keep_20 (fun v_ m2_ q => ?_)
    rw [q.1, q.2]
    refine go_stk (st2 := []) rfl ?_
    refine go_aload_n dX6_keep_23 0 rfl ?_
    refine go_getR (kf := 21) (t := 48) rfl rfl rfl uwX6 (by decide) flX6_35 dX6_keep_24 ?_
    refine go_iload_n dX6_keep_27 1 rfl ?_
    obtain ⟨c3, h⟩ := h
    refine go_zaload rfl c3 dX6_keep_28 ?_
    refine go_if_eq 36 dX6_keep_29 (by decide) (fun q => ?_) (fun q => ?_)
    · have h := h.1 q
      refine go_iconst (v := 0) dX6_keep_36 (by decide) ?_
      refine go_istore_n (L2 := [(2, .int 0), (0, .ref 40), (1, .int a1)]) dX6_keep_37 (by decide) rfl ?_
      refine go_aload_n dX6_keep_38 1 rfl ?_
      refine go_getR (kf := 21) (t := 48) rfl rfl rfl uwX6 (by decide) flX6_35 dX6_keep_39 ?_
      refine go_iload_n dX6_keep_42 2 rfl ?_
      refine go_iconst (v := 1) dX6_keep_43 (by decide) ?_
      refine go_zastore rfl c3 dX6_keep_44 ?_
      refine go_mem (fun m4 qm4 => ?_)
      have h := h m4 qm4
      refine go_iload_n dX6_keep_45 0 rfl ?_
      exact go_iret rfl dX6_keep_46 h
    · have h := h.2 q
      refine go_iconst (v := 1) dX6_keep_32 (by decide) ?_
      refine go_goto 37 dX6_keep_33 (by decide) ?_
      refine go_istore_n (L2 := [(2, .int 1), (0, .ref 40), (1, .int a1)]) dX6_keep_37 (by decide) rfl ?_
      refine go_aload_n dX6_keep_38 1 rfl ?_
      refine go_getR (kf := 21) (t := 48) rfl rfl rfl uwX6 (by decide) flX6_35 dX6_keep_39 ?_
      refine go_iload_n dX6_keep_42 2 rfl ?_
      refine go_iconst (v := 1) dX6_keep_43 (by decide) ?_
      refine go_zastore rfl c3 dX6_keep_44 ?_
      refine go_mem (fun m5 qm5 => ?_)
      have h := h m5 qm5
      refine go_iload_n dX6_keep_45 0 rfl ?_
      exact go_iret rfl dX6_keep_46 h
  · have h := h.2 (bI0.mp q)
    refine go_iconst (v := (-1)) dX6_keep_10 (by decide) ?_
    exact go_iret rfl dX6_keep_11 h

set_option maxRecDepth 100000 in
theorem sX5_back_0 {G : GX} {d : Nat} {mem : Mem} {Φ : Option Value → Mem → Prop} (a1 : Int32) (X : Bm) (h : (((0 ≤ a1 ∧ a1 ≤ 1) → (vp_in a1 2) ∧ ((¬ (mem 22 (a1 : Int32).toNatClampNeg) = 0 → ∃ t2 : Nat, (([11, 16] : List Nat)[(a1 : Int32).toNatClampNeg]? = some t2 ∧ BeamAt t2) ∧ (1 + 4 < t2 ∨ t2 + 4 < 1) ∧ (xn X ≤ 5) ∧ (RepB mem t2 X) ∧ ∀ m8 : Mem, (RepB m8 1 X ∧ FrB 1 mem m8) → Φ (some (.int (m8 1 6))) m8) ∧ ((mem 22 (a1 : Int32).toNatClampNeg) = 0 → Φ (some (.int (-2))) mem))) ∧ (¬ (0 ≤ a1 ∧ a1 ≤ 1) → Φ (some (.int (-1))) mem))) : Go G (d + 2) mX5_back 0 [(0, .ref 0), (1, .int a1)] [] mem Φ := by
  refine go_iload_n dX5_back_0 1 rfl ?_
  refine go_iconst (v := 0) dX5_back_1 (by decide) ?_
  refine go_iconst (v := 1) dX5_back_2 (by decide) ?_
  refine go_callS (st := []) (kX5_isWithin (d + 1) a1 0 1) okX5_isWithin staX5_isWithin lkX5_59 rfl rfl (Nat.le_of_ble_eq_true rfl) dX5_back_3 (fun v_ m2_ q => ?_)
  rw [q.1, q.2]
  refine go_stk (st2 := [.int (bI (0 ≤ a1 ∧ a1 ≤ 1))]) rfl ?_
  refine go_if_ne 11 dX5_back_6 (by decide) (fun q => ?_) (fun q => ?_)
  · have h := h.1 (bI1.mp q)
    refine go_aload_n dX5_back_11 0 rfl ?_
    refine go_getR (kf := 3) (t := 22) rfl rfl rfl uwX5 (by decide) flX5_23 dX5_back_12 ?_
    refine go_iload_n dX5_back_15 1 rfl ?_
    obtain ⟨c1, h⟩ := h
    refine go_zaload rfl c1 dX5_back_16 ?_
    refine go_if_ne 23 dX5_back_17 (by decide) (fun q => ?_) (fun q => ?_)
    · have h := h.1 q
      refine go_aload_n dX5_back_23 0 rfl ?_
      refine go_getR (kf := 0) (t := 1) rfl rfl rfl uwX5 (by decide) flX5_12 dX5_back_24 ?_
      refine go_aload_n dX5_back_27 0 rfl ?_
      refine go_getR (kf := 2) (t := 21) rfl rfl rfl uwX5 (by decide) flX5_19 dX5_back_28 ?_
      refine go_iload_n dX5_back_31 1 rfl ?_
      obtain ⟨t2, ⟨e3, hb4⟩, h⟩ := h
      refine go_aaload rfl c1 e3 dX5_back_32 ?_
      obtain ⟨c5, h⟩ := h
      obtain ⟨c6, h⟩ := h
      obtain ⟨c7, h⟩ := h
      refine go_callV (st := []) (kX0_takeFrom (d + 0) 1 bA1 t2 hb4 X c5 c6 c7) rfl rfl okX0_takeFrom insX0_takeFrom selX0_takeFrom lkX5_87 rfl rfl (Nat.le_of_ble_eq_true rfl) dX5_back_33 (fun v_ m8 q => ?_)
      rw [q.1]
      have h := h m8 q.2
      refine go_stk (st2 := []) rfl ?_
      refine go_aload_n dX5_back_36 0 rfl ?_
      refine go_getR (kf := 0) (t := 1) rfl rfl rfl uwX5 (by decide) flX5_12 dX5_back_37 ?_
      refine go_getI (kf := 6) rfl rfl rfl uwX0 (by decide) flX5_102 dX5_back_40 ?_
      exact go_iret rfl dX5_back_43 h
    · have h := h.2 q
      refine go_bipush (v := (-2)) dX5_back_20 (by decide) ?_
      exact go_iret rfl dX5_back_22 h
  · have h := h.2 (bI0.mp q)
    refine go_iconst (v := (-1)) dX5_back_9 (by decide) ?_
    exact go_iret rfl dX5_back_10 h

set_option maxRecDepth 100000 in
theorem sX6_back_0 {G : GX} {d : Nat} {mem : Mem} {Φ : Option Value → Mem → Prop} (a1 : Int32) (t : Nat) (h : (((0 ≤ a1 ∧ a1 ≤ 1) → (vp_in a1 2) ∧ ((¬ (mem 48 (a1 : Int32).toNatClampNeg) = 0 → ((23 * (a1 + 1)) = nI t ∧ 0 = nI 0) ∧ (t ≤ 115 ∧ 0 ≤ 115 ∧ (t + 23 ≤ 0 ∨ 0 + 23 ≤ t)) ∧ Φ (some (.int ((cpM mem t 0) 41 (22 : Int32).toNatClampNeg))) (cpM mem t 0)) ∧ ((mem 48 (a1 : Int32).toNatClampNeg) = 0 → Φ (some (.int (-2))) mem))) ∧ (¬ (0 ≤ a1 ∧ a1 ≤ 1) → Φ (some (.int (-1))) mem))) : Go G (d + 1) mX6_back 0 [(0, .ref 40), (1, .int a1)] [] mem Φ := by
  refine go_iload_n dX6_back_0 1 rfl ?_
  refine go_i2l dX6_back_1 ?_
  refine go_lconst (v := 0) dX6_back_2 (by decide) ?_
  refine go_lconst (v := 1) dX6_back_3 (by decide) ?_
  refine go_callS (st := []) (kX6_in (d + 0) a1 0 1 0 1 (by decide) (by decide)) okX6_in staX6_in lkX6_50 rfl rfl (Nat.le_of_ble_eq_true rfl) dX6_back_4 (fun v_ m2_ q => ?_)
  rw [q.1, q.2]
  refine go_stk (st2 := [.int (bI (0 ≤ a1 ∧ a1 ≤ 1))]) rfl ?_
  refine go_if_ne 12 dX6_back_7 (by decide) (fun q => ?_) (fun q => ?_)
  · have h := h.1 (bI1.mp q)
    refine go_aload_n dX6_back_12 0 rfl ?_
    refine go_getR (kf := 21) (t := 48) rfl rfl rfl uwX6 (by decide) flX6_35 dX6_back_13 ?_
    refine go_iload_n dX6_back_16 1 rfl ?_
    obtain ⟨c1, h⟩ := h
    refine go_zaload rfl c1 dX6_back_17 ?_
    refine go_if_ne 24 dX6_back_18 (by decide) (fun q => ?_) (fun q => ?_)
    · have h := h.1 q
      refine go_aload_n dX6_back_24 0 rfl ?_
      refine go_bipush (v := 23) dX6_back_25 (by decide) ?_
      refine go_iload_n dX6_back_27 1 rfl ?_
      refine go_iconst (v := 1) dX6_back_28 (by decide) ?_
      refine go_iadd dX6_back_29 ?_
      refine go_imul dX6_back_30 ?_
      refine go_iconst (v := 0) dX6_back_31 (by decide) ?_
      obtain ⟨c2, h⟩ := h
      obtain ⟨c3, h⟩ := h
      refine go_callV (st := []) (kX6_copiesI (d + 0) (23 * (a1 + 1)) 0 t 0 c2 c3) rfl rfl okX6_copies insX6_copies selX6_copies lkX6_161 rfl rfl (Nat.le_of_ble_eq_true rfl) dX6_back_32 (fun v_ m2_ q => ?_)
      rw [q.1, q.2]
      refine go_stk (st2 := []) rfl ?_
      refine go_aload_n dX6_back_35 0 rfl ?_
      refine go_getR (kf := 0) (t := 41) rfl rfl rfl uwX6 (by decide) flX6_7 dX6_back_36 ?_
      refine go_bipush (v := 22) dX6_back_39 (by decide) ?_
      refine go_iaload rfl (nin (a := 22) (by decide) (by decide)) dX6_back_41 ?_
      exact go_iret rfl dX6_back_42 h
    · have h := h.2 q
      refine go_bipush (v := (-2)) dX6_back_21 (by decide) ?_
      exact go_iret rfl dX6_back_23 h
  · have h := h.2 (bI0.mp q)
    refine go_iconst (v := (-1)) dX6_back_10 (by decide) ?_
    exact go_iret rfl dX6_back_11 h


theorem img_at {k : Nat} (hk : k < 2) : ([11, 16] : List Nat)[k]? = some (11 + 5 * k) ∧ BeamAt (11 + 5 * k) := by
  rcases (show k = 0 ∨ k = 1 by omega) with rfl | rfl
  · exact ⟨rfl, bA11⟩
  · exact ⟨rfl, bA16⟩
theorem k23 {k : Nat} (hk : k < 2) : (23 * (nI k + 1) : Int32) = nI (23 * (k + 1)) := by rw [nI_1]; exact pk_mul 23 (k + 1)
theorem nar1 : vp_nar .boolean 1 = 1 := by decide
theorem nar0 : vp_nar .boolean 0 = 0 := by decide
set_option maxHeartbeats 4000000 in
theorem P31 {G : GX} (a : Int32) : Sm G mX5_keep mX6_keep [.int a] := fun mem hI => by
  obtain ⟨X, T, S, h1, h2, h3, h4, h5, h6, h7⟩ := id hI
  have hn := h1.2.2.1.1
  by_cases q : 0 ≤ a ∧ a ≤ 1
  · obtain ⟨k, hk, rfl⟩ := i300 (n := 1) rfl (by omega) q
    obtain ⟨ia, iB⟩ := img_at (show k < 2 by omega)
    have main : ∀ m9 : Mem, ∀ m8 : Mem, (RepB m8 (11 + 5 * k) X ∧ FrB (11 + 5 * k) mem m8) → m9 = um m8 22 k 1 → ∀ r : Int32, (mem 48 k = 0 → r = 0) → (¬ mem 48 k = 0 → r = 1) → Cn G 9 mX6_keep [.ref 40, .int (nI k)] m9 (fun w m2 => w = some (.int r) ∧ Inv m2) := fun m9 m8 h8 h9 r r0 r1 => by
      have g : ∀ j, ¬ (11 ≤ j ∧ j ≤ 20) → j ≠ 22 → m9 j = mem j := fun j h1 h2 => by rw [h9, um_ne h2]; exact h8.2 j (by omega)
      refine cn_of (by decide +kernel) (Nat.le_of_ble_eq_true rfl) (sX6_keep_0 (d := 8) (nI k) (23 * (k + 1)) ⟨fun _ => ⟨⟨rfl, k23 (by omega)⟩, ⟨by omega, by omega, by omega⟩, nin (by omega) (by omega), ?_⟩, fun z => absurd q z⟩)
      rw [ncl (show k < 2000000000 by omega), show cpM m9 0 (23 * (k + 1)) 48 = m9 48 from cpM_fr.1 48 (by decide), g 48 (by omega) (by omega), nar1]
      have fin : ∀ m4 : Mem, m4 = um (cpM m9 0 (23 * (k + 1))) 48 k 1 → Inv m4 := fun m4 h4 => by
        have g4 : ∀ j, ¬ (11 ≤ j ∧ j ≤ 20) → j ≠ 22 → j ≠ 48 → j ≠ 41 → m4 j = mem j := fun j a b c e => by rw [h4, um_ne c, cpM_fr.1 j e]; exact g j a b
        have g41 : m9 41 = mem 41 := g 41 (by omega) (by omega)
        refine hI.img g4 (fun j _ hj => by rw [h4, um_ne (by decide), cpM_fr.2 j (by omega), g41]) (fun i hi => ?_)
        by_cases z : i = k
        · subst z
          refine Or.inr ⟨?_, ?_, X, ?_, ?_, h1.2.2.1, h1.2.2.2⟩
          · rw [h4, um_ne (by decide), cpM_fr.1 22 (by decide), h9, um_same]
          · rw [h4, um_same]
          · refine h8.1.fr (fun j a b => ?_)
            rw [h4, um_ne (by omega), cpM_fr.1 j (by omega), h9, um_ne (by omega)]
          · refine RepM.fr (cpM_rep (m := m9) (f := 0) (t := 23 * (i + 1)) hn (h1.2.1.fr hn (fun j _ _ => by rw [g41]))) hn (fun j _ _ => by rw [h4, um_ne (by decide)])
        · have e22 : m4 22 i = mem 22 i := by rw [h4, um_ne (by decide), cpM_fr.1 22 (by decide), h9, um_at, if_neg z, h8.2 22 (by omega)]
          have e48 : m4 48 i = mem 48 i := by rw [h4, um_at, if_neg z, cpM_fr.1 48 (by decide), g 48 (by omega) (by omega)]
          rw [CI1, e22, e48]
          rcases h2 i hi with w | ⟨w1, w2, Y, w3, w4, w5⟩
          · exact Or.inl w
          · refine Or.inr ⟨w1, w2, Y, w3.fr (fun j a b => ?_), w4.fr w5.1.1 (fun j a b => ?_), w5⟩
            · rw [h4, um_ne (by omega), cpM_fr.1 j (by omega), h9, um_ne (by omega)]; exact h8.2 j (by omega)
            · rw [h4, um_ne (by decide), cpM_fr.2 j (by omega), g41]
      exact ⟨fun z m4 h4 => ⟨by rw [r0 z], fin m4 h4⟩, fun z m4 h4 => ⟨by rw [r1 z], fin m4 h4⟩⟩
    refine cn_of (by decide +kernel) (Nat.le_of_ble_eq_true rfl) (sX5_keep_0 (d := 7) (nI k) X ⟨fun _ => ⟨nin (by omega) (by omega), ?_⟩, fun z => absurd q z⟩)
    rw [ncl (show k < 2000000000 by omega), nar1]
    refine ⟨fun z => ⟨11 + 5 * k, ⟨ia, iB⟩, by omega, hn, h1.1, fun m8 h8 m9 h9 => main m9 m8 h8 h9 0 (fun _ => rfl) (fun w => ?_)⟩, fun z => ⟨11 + 5 * k, ⟨ia, iB⟩, by omega, hn, h1.1, fun m8 h8 m9 h9 => main m9 m8 h8 h9 1 (fun w => ?_) (fun _ => rfl)⟩⟩
    · rcases h2 k (by omega) with ⟨_, v⟩ | ⟨v, _⟩
      · exact absurd v w
      · rw [v] at z; exact absurd z (by decide)
    · rcases h2 k (by omega) with ⟨v, _⟩ | ⟨_, v, _⟩
      · exact absurd v z
      · rw [v] at w; exact absurd w (by decide)
  · refine cn_of (by decide +kernel) (Nat.le_of_ble_eq_true rfl) (sX5_keep_0 (d := 7) a X ⟨fun z => absurd z q, fun _ => ?_⟩)
    exact cn_of (by decide +kernel) (Nat.le_of_ble_eq_true rfl) (sX6_keep_0 (d := 8) a 0 ⟨fun z => absurd z q, fun _ => ⟨rfl, hI⟩⟩)
set_option maxHeartbeats 4000000 in
theorem P32 {G : GX} (a : Int32) : Sm G mX5_back mX6_back [.int a] := fun mem hI => by
  obtain ⟨X, T, S, h1, h2, h3, h4, h5, h6, h7⟩ := id hI
  by_cases q : 0 ≤ a ∧ a ≤ 1
  · obtain ⟨k, hk, rfl⟩ := i300 (n := 1) rfl (by omega) q
    obtain ⟨ia, iB⟩ := img_at (show k < 2 by omega)
    rcases h2 k (by omega) with ⟨v1, v2⟩ | ⟨v1, v2, Y, v3, v4, v5, v6⟩
    · refine cn_of (by decide +kernel) (Nat.le_of_ble_eq_true rfl) (sX5_back_0 (d := 7) (nI k) X ⟨fun _ => ⟨nin (by omega) (by omega), ?_⟩, fun z => absurd q z⟩)
      rw [ncl (show k < 2000000000 by omega), v1]
      refine ⟨fun z => absurd rfl z, fun _ => ?_⟩
      refine cn_of (by decide +kernel) (Nat.le_of_ble_eq_true rfl) (sX6_back_0 (d := 8) (nI k) 0 ⟨fun _ => ⟨nin (by omega) (by omega), ?_⟩, fun z => absurd q z⟩)
      rw [ncl (show k < 2000000000 by omega), v2]
      exact ⟨fun z => absurd rfl z, fun _ => ⟨rfl, hI⟩⟩
    · have hn := v5.1
      refine cn_of (by decide +kernel) (Nat.le_of_ble_eq_true rfl) (sX5_back_0 (d := 7) (nI k) Y ⟨fun _ => ⟨nin (by omega) (by omega), ?_⟩, fun z => absurd q z⟩)
      rw [ncl (show k < 2000000000 by omega), v1]
      refine ⟨fun _ => ⟨11 + 5 * k, ⟨ia, iB⟩, by omega, hn, v3, fun m8 h8 => ?_⟩, fun z => absurd z (by decide)⟩
      rw [h8.1.2.2.1]
      have g41 : m8 41 = mem 41 := h8.2 41 (by omega)
      refine cn_of (by decide +kernel) (Nat.le_of_ble_eq_true rfl) (sX6_back_0 (d := 8) (nI k) (23 * (k + 1)) ⟨fun _ => ⟨nin (by omega) (by omega), ?_⟩, fun z => absurd q z⟩)
      rw [ncl (show k < 2000000000 by omega), show m8 48 = mem 48 from h8.2 48 (by omega), v2]
      have r4 : RepM (cpM m8 (23 * (k + 1)) 0) 0 Y := cpM_rep hn (v4.fr hn (fun j _ _ => by rw [g41]))
      refine ⟨fun _ => ⟨⟨k23 (by omega), rfl⟩, ⟨by omega, by omega, by omega⟩, ?_, hI.now h8.2 cpM_fr h8.1 r4 v5 v6⟩, fun z => absurd z (by decide)⟩
      rw [z22, (RepM0 r4).2.2.1]
  · refine cn_of (by decide +kernel) (Nat.le_of_ble_eq_true rfl) (sX5_back_0 (d := 7) a X ⟨fun z => absurd z q, fun _ => ?_⟩)
    exact cn_of (by decide +kernel) (Nat.le_of_ble_eq_true rfl) (sX6_back_0 (d := 8) a 0 ⟨fun z => absurd z q, fun _ => ⟨rfl, hI⟩⟩)

set_option maxRecDepth 100000 in
theorem sJ7_fill_53178_0_40 {G : GX} {d : Nat} {mem : Mem} {Φ : Option Value → Mem → Prop} (a : Nat) (hA : Sh[a]? = some (.inl (.int, 40, none))) (v : Int32) (h : Go G (d + 0) mJ7_fill_53178 5 [(0, .ref a), (1, .int v), (2, .int 0), (3, .int 40)] [] mem Φ) : Go G (d + 0) mJ7_fill_53178 0 [(0, .ref a), (1, .int v)] [] mem Φ := by
  refine go_iconst (v := 0) dJ7_fill_53178_0 (by decide) ?_
  refine go_istore_n (L2 := [(2, .int 0), (0, .ref a), (1, .int v)]) dJ7_fill_53178_1 (by decide) rfl ?_
  refine go_aload_n dJ7_fill_53178_2 1 rfl ?_
  refine go_alen hA (v := 40) (by decide) dJ7_fill_53178_3 ?_
  refine go_istore_n (L2 := [(3, .int 40), (2, .int 0), (0, .ref a), (1, .int v)]) dJ7_fill_53178_4 (by decide) rfl ?_
  exact Go.pick [2, 3, 1, 0] rfl h

set_option maxRecDepth 100000 in
theorem sJ7_fill_53178_5_40 {G : GX} {d : Nat} {mem : Mem} {Φ : Option Value → Mem → Prop} (a : Nat) (hA : Sh[a]? = some (.inl (.int, 40, none))) (v : Int32) (i : Nat) (h : ((40 ≤ (nI i) → Φ none mem) ∧ (¬ 40 ≤ (nI i) → (vp_in (nI i) 40) ∧ Go G (d + 0) mJ7_fill_53178 5 [(0, .ref a), (1, .int v), (2, .int ((nI i) + 1)), (3, .int 40)] [] (um mem a ((nI i) : Int32).toNatClampNeg v) Φ))) : Go G (d + 0) mJ7_fill_53178 5 [(0, .ref a), (1, .int v), (2, .int (nI i)), (3, .int 40)] [] mem Φ := by
  refine go_iload_n dJ7_fill_53178_5 2 rfl ?_
  refine go_iload_n dJ7_fill_53178_6 3 rfl ?_
  refine go_icmp_ge 20 dJ7_fill_53178_7 (by decide) (fun q => ?_) (fun q => ?_)
  · have h := h.1 q
    exact go_vret rfl dJ7_fill_53178_20 h
  · have h := h.2 q
    refine go_aload_n dJ7_fill_53178_10 0 rfl ?_
    refine go_iload_n dJ7_fill_53178_11 2 rfl ?_
    refine go_iload_n dJ7_fill_53178_12 1 rfl ?_
    obtain ⟨c1, h⟩ := h
    refine go_iastore hA c1 dJ7_fill_53178_13 ?_
    refine go_iinc (v := ((nI i) + 1)) (L2 := [(2, .int ((nI i) + 1)), (0, .ref a), (1, .int v), (3, .int 40)]) dJ7_fill_53178_14 2 rfl rfl (by decide) rfl ?_
    refine go_goto 5 dJ7_fill_53178_17 (by decide) ?_
    exact Go.pick [1, 2, 0, 3] rfl h


theorem lJ7_fill_40 {G : GX} {d : Nat} {mem : Mem} (a : Nat) (hA : Sh[a]? = some (.inl (.int, 40, none))) (v : Int32) : ∀ (r i : Nat) (m : Mem), i + r = 40 → m = um0 mem a (fun j => if j < i then v else mem a j) → Go G (d + 0) mJ7_fill_53178 5 [(0, .ref a), (1, .int v), (2, .int (nI i)), (3, .int 40)] [] m (Rv (fun m2 => m2 = um0 mem a (fun j => if j < 40 then v else mem a j))) := by
  intro r
  induction r with
  | zero =>
    intro i m hi hm
    have hi2 : i = 40 := by omega
    subst hi2
    exact sJ7_fill_53178_5_40 a hA v 40 ⟨fun _ => ⟨rfl, hm⟩, fun q => absurd (by decide) q⟩
  | succ r ih =>
    intro i m hi hm
    refine sJ7_fill_53178_5_40 a hA v i ⟨fun q => absurd ((nle (a := 40) (by omega) (by omega)).mp q) (by omega), fun _ => ⟨nin (by omega) (by omega), ?_⟩⟩
    rw [ncl (by omega), nI_1]
    refine ih (i + 1) _ (by omega) ?_
    rw [hm]
    funext k j
    by_cases hk : k = a
    · subst hk
      rw [um_at, um0_self, um0_self]
      by_cases z : j = i
      · rw [if_pos z, if_pos (by omega)]
      · rw [if_neg z]
        by_cases w : j < i
        · rw [if_pos w, if_pos (by omega)]
        · rw [if_neg w, if_neg (by omega)]
    · rw [um_ne hk, um0_ne hk, um0_ne hk]
theorem kJ7_fill_40 {G : GX} (d : Nat) {mem : Mem} (a : Nat) (hA : Sh[a]? = some (.inl (.int, 40, none))) (v : Int32) : Cn G (d + 0) mJ7_fill_53178 [.ref a, .int v] mem (Rv (fun m2 => m2 = um0 mem a (fun j => if j < 40 then v else mem a j))) := by
  refine cn_of (by decide +kernel) (Nat.le_of_ble_eq_true rfl) (sJ7_fill_53178_0_40 a hA v (lJ7_fill_40 a hA v 40 0 mem (by omega) ?_))
  funext k j
  by_cases hk : k = a
  · subst hk
    rw [um0_self, if_neg (by omega)]
  · rw [um0_ne hk]

set_option maxRecDepth 100000 in
theorem sJ7_fill_53178_0_61 {G : GX} {d : Nat} {mem : Mem} {Φ : Option Value → Mem → Prop} (a : Nat) (hA : Sh[a]? = some (.inl (.int, 61, none))) (v : Int32) (h : Go G (d + 0) mJ7_fill_53178 5 [(0, .ref a), (1, .int v), (2, .int 0), (3, .int 61)] [] mem Φ) : Go G (d + 0) mJ7_fill_53178 0 [(0, .ref a), (1, .int v)] [] mem Φ := by
  refine go_iconst (v := 0) dJ7_fill_53178_0 (by decide) ?_
  refine go_istore_n (L2 := [(2, .int 0), (0, .ref a), (1, .int v)]) dJ7_fill_53178_1 (by decide) rfl ?_
  refine go_aload_n dJ7_fill_53178_2 1 rfl ?_
  refine go_alen hA (v := 61) (by decide) dJ7_fill_53178_3 ?_
  refine go_istore_n (L2 := [(3, .int 61), (2, .int 0), (0, .ref a), (1, .int v)]) dJ7_fill_53178_4 (by decide) rfl ?_
  exact Go.pick [2, 3, 1, 0] rfl h

set_option maxRecDepth 100000 in
theorem sJ7_fill_53178_5_61 {G : GX} {d : Nat} {mem : Mem} {Φ : Option Value → Mem → Prop} (a : Nat) (hA : Sh[a]? = some (.inl (.int, 61, none))) (v : Int32) (i : Nat) (h : ((61 ≤ (nI i) → Φ none mem) ∧ (¬ 61 ≤ (nI i) → (vp_in (nI i) 61) ∧ Go G (d + 0) mJ7_fill_53178 5 [(0, .ref a), (1, .int v), (2, .int ((nI i) + 1)), (3, .int 61)] [] (um mem a ((nI i) : Int32).toNatClampNeg v) Φ))) : Go G (d + 0) mJ7_fill_53178 5 [(0, .ref a), (1, .int v), (2, .int (nI i)), (3, .int 61)] [] mem Φ := by
  refine go_iload_n dJ7_fill_53178_5 2 rfl ?_
  refine go_iload_n dJ7_fill_53178_6 3 rfl ?_
  refine go_icmp_ge 20 dJ7_fill_53178_7 (by decide) (fun q => ?_) (fun q => ?_)
  · have h := h.1 q
    exact go_vret rfl dJ7_fill_53178_20 h
  · have h := h.2 q
    refine go_aload_n dJ7_fill_53178_10 0 rfl ?_
    refine go_iload_n dJ7_fill_53178_11 2 rfl ?_
    refine go_iload_n dJ7_fill_53178_12 1 rfl ?_
    obtain ⟨c1, h⟩ := h
    refine go_iastore hA c1 dJ7_fill_53178_13 ?_
    refine go_iinc (v := ((nI i) + 1)) (L2 := [(2, .int ((nI i) + 1)), (0, .ref a), (1, .int v), (3, .int 61)]) dJ7_fill_53178_14 2 rfl rfl (by decide) rfl ?_
    refine go_goto 5 dJ7_fill_53178_17 (by decide) ?_
    exact Go.pick [1, 2, 0, 3] rfl h


theorem lJ7_fill_61 {G : GX} {d : Nat} {mem : Mem} (a : Nat) (hA : Sh[a]? = some (.inl (.int, 61, none))) (v : Int32) : ∀ (r i : Nat) (m : Mem), i + r = 61 → m = um0 mem a (fun j => if j < i then v else mem a j) → Go G (d + 0) mJ7_fill_53178 5 [(0, .ref a), (1, .int v), (2, .int (nI i)), (3, .int 61)] [] m (Rv (fun m2 => m2 = um0 mem a (fun j => if j < 61 then v else mem a j))) := by
  intro r
  induction r with
  | zero =>
    intro i m hi hm
    have hi2 : i = 61 := by omega
    subst hi2
    exact sJ7_fill_53178_5_61 a hA v 61 ⟨fun _ => ⟨rfl, hm⟩, fun q => absurd (by decide) q⟩
  | succ r ih =>
    intro i m hi hm
    refine sJ7_fill_53178_5_61 a hA v i ⟨fun q => absurd ((nle (a := 61) (by omega) (by omega)).mp q) (by omega), fun _ => ⟨nin (by omega) (by omega), ?_⟩⟩
    rw [ncl (by omega), nI_1]
    refine ih (i + 1) _ (by omega) ?_
    rw [hm]
    funext k j
    by_cases hk : k = a
    · subst hk
      rw [um_at, um0_self, um0_self]
      by_cases z : j = i
      · rw [if_pos z, if_pos (by omega)]
      · rw [if_neg z]
        by_cases w : j < i
        · rw [if_pos w, if_pos (by omega)]
        · rw [if_neg w, if_neg (by omega)]
    · rw [um_ne hk, um0_ne hk, um0_ne hk]
theorem kJ7_fill_61 {G : GX} (d : Nat) {mem : Mem} (a : Nat) (hA : Sh[a]? = some (.inl (.int, 61, none))) (v : Int32) : Cn G (d + 0) mJ7_fill_53178 [.ref a, .int v] mem (Rv (fun m2 => m2 = um0 mem a (fun j => if j < 61 then v else mem a j))) := by
  refine cn_of (by decide +kernel) (Nat.le_of_ble_eq_true rfl) (sJ7_fill_53178_0_61 a hA v (lJ7_fill_61 a hA v 61 0 mem (by omega) ?_))
  funext k j
  by_cases hk : k = a
  · subst hk
    rw [um0_self, if_neg (by omega)]
  · rw [um0_ne hk]

set_option maxRecDepth 100000 in
theorem sX4_begin_0 {G : GX} {d : Nat} {mem : Mem} {Φ : Option Value → Mem → Prop} (s : Nat) (hS : SheetAt s) (a1 : Int32) (a2 : Int32) (h : ∀ m1 : Mem, m1 = (um0 (um (um mem s 1 a1) s 2 a2) (s + 1) (fun j => if j < 40 then 0 else (um (um mem s 1 a1) s 2 a2) (s + 1) j)) → Φ none m1) : Go G (d + 1) mX4_begin 0 [(0, .ref s), (1, .int a1), (2, .int a2)] [] mem Φ := by
  refine go_aload_n dX4_begin_0 0 rfl ?_
  refine go_iload_n dX4_begin_1 1 rfl ?_
  refine go_putI (kf := 1) hS.1 rfl rfl uwX4 tyX4_ok nmX4 (by decide) rfl flX4_15 rfl rfl dX4_begin_2 ?_
  refine go_aload_n dX4_begin_5 0 rfl ?_
  refine go_iload_n dX4_begin_6 2 rfl ?_
  refine go_putI (kf := 2) hS.1 rfl rfl uwX4 tyX4_ok nmX4 (by decide) rfl flX4_19 rfl rfl dX4_begin_7 ?_
  refine go_aload_n dX4_begin_10 0 rfl ?_
  refine go_getR (kf := 0) (t := (s + 1)) hS.1 rfl rfl uwX4 (by decide) flX4_9 dX4_begin_11 ?_
  refine go_iconst (v := 0) dX4_begin_14 (by decide) ?_
  refine go_callS (st := []) (kJ7_fill_40 (d + 0) (s + 1) hS.2 0) okJ7_fill_53178 staJ7_fill_53178 lkX4_22 rfl rfl (Nat.le_of_ble_eq_true rfl) dX4_begin_15 (fun v_ m2_ q => ?_)
  rw [q.1, q.2]
  refine go_stk (st2 := []) rfl ?_
  refine go_mem (fun m1 qm1 => ?_)
  have h := h m1 qm1
  exact go_vret rfl dX4_begin_18 h

set_option maxRecDepth 100000 in
theorem sX4_faultAt_0 {G : GX} {d : Nat} {mem : Mem} {Φ : Option Value → Mem → Prop} (s : Nat) (hS : SheetAt s) (a1 : Int32) (h : ((¬ (mem s 1) = (-1) → ((a1 < 0 → Φ (some (.int 2)) mem) ∧ (¬ a1 < 0 → ((a1 < (mem s 2) → Φ (some (.int 0)) mem) ∧ (¬ a1 < (mem s 2) → Φ (some (.int 2)) mem))))) ∧ ((mem s 1) = (-1) → Φ (some (.int 1)) mem))) : Go G (d + 0) mX4_faultAt 0 [(0, .ref s), (1, .int a1)] [] mem Φ := by
  refine go_aload_n dX4_faultAt_0 0 rfl ?_
  refine go_getI (kf := 1) hS.1 rfl rfl uwX4 (by decide) flX4_15 dX4_faultAt_1 ?_
  refine go_iconst (v := (-1)) dX4_faultAt_4 (by decide) ?_
  refine go_icmp_ne 10 dX4_faultAt_5 (by decide) (fun q => ?_) (fun q => ?_)
  · have h := h.1 q
    refine go_iload_n dX4_faultAt_10 1 rfl ?_
    refine go_if_lt 22 dX4_faultAt_11 (by decide) (fun q => ?_) (fun q => ?_)
    · have h := h.1 q
      refine go_iconst (v := 2) dX4_faultAt_22 (by decide) ?_
      refine go_goto 27 dX4_faultAt_23 (by decide) ?_
      exact go_iret rfl dX4_faultAt_27 h
    · have h := h.2 q
      refine go_iload_n dX4_faultAt_14 1 rfl ?_
      refine go_aload_n dX4_faultAt_15 0 rfl ?_
      refine go_getI (kf := 2) hS.1 rfl rfl uwX4 (by decide) flX4_19 dX4_faultAt_16 ?_
      refine go_icmp_lt 26 dX4_faultAt_19 (by decide) (fun q => ?_) (fun q => ?_)
      · have h := h.1 q
        refine go_iconst (v := 0) dX4_faultAt_26 (by decide) ?_
        exact go_iret rfl dX4_faultAt_27 h
      · have h := h.2 q
        refine go_iconst (v := 2) dX4_faultAt_22 (by decide) ?_
        refine go_goto 27 dX4_faultAt_23 (by decide) ?_
        exact go_iret rfl dX4_faultAt_27 h
  · have h := h.2 q
    refine go_iconst (v := 1) dX4_faultAt_8 (by decide) ?_
    exact go_iret rfl dX4_faultAt_9 h

set_option maxRecDepth 100000 in
theorem sX4_put_0 {G : GX} {d : Nat} {mem : Mem} {Φ : Option Value → Mem → Prop} (s : Nat) (hS : SheetAt s) (a1 : Int32) (a2 : Int32) (h : (((mem s 1) = 0 → (vp_in a1 40) ∧ ∀ m2 : Mem, m2 = (um mem (s + 1) (a1 : Int32).toNatClampNeg ((a2 : Int32).toInt8.toInt32)) → Φ none m2) ∧ (¬ (mem s 1) = 0 → (((mem s 1) = 1 → (vp_in a1 40) ∧ ∀ m4 : Mem, m4 = (um mem (s + 1) (a1 : Int32).toNatClampNeg ((a2 : Int32).toInt16.toInt32)) → Φ none m4) ∧ (¬ (mem s 1) = 1 → (vp_in a1 40) ∧ Φ none (um mem (s + 1) (a1 : Int32).toNatClampNeg a2)))))) : Go G (d + 0) mX4_put 0 [(0, .ref s), (1, .int a1), (2, .int a2)] [] mem Φ := by
  refine go_aload_n dX4_put_0 0 rfl ?_
  refine go_getI (kf := 1) hS.1 rfl rfl uwX4 (by decide) flX4_15 dX4_put_1 ?_
  by_cases q0 : (mem s 1) = 0
  · have h := h.1 q0
    refine go_lookEq q0 32 dX4_put_4 (by decide) rfl (by decide) ?_
    refine go_aload_n dX4_put_32 0 rfl ?_
    refine go_getR (kf := 0) (t := (s + 1)) hS.1 rfl rfl uwX4 (by decide) flX4_9 dX4_put_33 ?_
    refine go_iload_n dX4_put_36 1 rfl ?_
    refine go_iload_n dX4_put_37 2 rfl ?_
    refine go_i2b dX4_put_38 ?_
    obtain ⟨c1, h⟩ := h
    refine go_iastore hS.2 c1 dX4_put_39 ?_
    refine go_mem (fun m2 qm2 => ?_)
    have h := h m2 qm2
    refine go_goto 61 dX4_put_40 (by decide) ?_
    exact go_vret rfl dX4_put_61 h
  have h := h.2 q0
  by_cases q1 : (mem s 1) = 1
  · have h := h.1 q1
    refine go_lookEq q1 43 dX4_put_4 (by decide) rfl (by decide) ?_
    refine go_aload_n dX4_put_43 0 rfl ?_
    refine go_getR (kf := 0) (t := (s + 1)) hS.1 rfl rfl uwX4 (by decide) flX4_9 dX4_put_44 ?_
    refine go_iload_n dX4_put_47 1 rfl ?_
    refine go_iload_n dX4_put_48 2 rfl ?_
    refine go_i2s dX4_put_49 ?_
    obtain ⟨c3, h⟩ := h
    refine go_iastore hS.2 c3 dX4_put_50 ?_
    refine go_mem (fun m4 qm4 => ?_)
    have h := h m4 qm4
    refine go_goto 61 dX4_put_51 (by decide) ?_
    exact go_vret rfl dX4_put_61 h
  have h := h.2 q1
  refine go_lookup (off := 50) 54 dX4_put_4 (by decide) (by show Op.lookupswitch.offset [(0, 28), (1, 39)] _ _ = _; rw [lv_osw q0 (by decide), lv_osw q1 (by decide)]; rfl) (by decide) ?_
  refine go_aload_n dX4_put_54 0 rfl ?_
  refine go_getR (kf := 0) (t := (s + 1)) hS.1 rfl rfl uwX4 (by decide) flX4_9 dX4_put_55 ?_
  refine go_iload_n dX4_put_58 1 rfl ?_
  refine go_iload_n dX4_put_59 2 rfl ?_
  obtain ⟨c5, h⟩ := h
  refine go_iastore hS.2 c5 dX4_put_60 ?_
  exact go_vret rfl dX4_put_61 h


def bgM (m : Mem) (s : Nat) (l n : Int32) : Mem := um0 (um (um m s 1 l) s 2 n) (s + 1) (fun j => if j < 40 then 0 else m (s + 1) j)
theorem kX4_begin {G : GX} (d : Nat) {mem : Mem} (s : Nat) (hS : SheetAt s) (l n : Int32) : Cn G (d + 1) mX4_begin [.ref s, .int l, .int n] mem (Rv (fun m2 => m2 = bgM mem s l n)) := by
  refine cn_of (by decide +kernel) (Nat.le_of_ble_eq_true rfl) (sX4_begin_0 s hS l n (fun m1 h1 => ⟨rfl, ?_⟩))
  rw [h1, um_ne (by omega), um_ne (by omega)]
  rfl
def fltI (l n i : Int32) : Int32 := if l = -1 then 1 else if i < 0 then 2 else if i < n then 0 else 2
theorem kX4_faultAt {G : GX} (d : Nat) {mem : Mem} (s : Nat) (hS : SheetAt s) (i : Int32) : Cn G (d + 0) mX4_faultAt [.ref s, .int i] mem (Ri (fltI (mem s 1) (mem s 2) i) (fun m2 => m2 = mem)) := by
  refine cn_of (by decide +kernel) (Nat.le_of_ble_eq_true rfl) (sX4_faultAt_0 s hS i ⟨fun q => ⟨fun q2 => Ri.mk ?_ rfl, fun q2 => ⟨fun q3 => Ri.mk ?_ rfl, fun q3 => Ri.mk ?_ rfl⟩⟩, fun q => Ri.mk ?_ rfl⟩) <;> unfold fltI
  · rw [if_neg q, if_pos q2]
  · rw [if_neg q, if_neg q2, if_pos q3]
  · rw [if_neg q, if_neg q2, if_neg q3]
  · rw [if_pos q]
def laneI (l v : Int32) : Int32 := if l = 0 then v.toInt8.toInt32 else if l = 1 then v.toInt16.toInt32 else v
theorem kX4_put {G : GX} (d : Nat) {mem : Mem} (s : Nat) (hS : SheetAt s) (i v : Int32) (hi : vp_in i 40) : Cn G (d + 0) mX4_put [.ref s, .int i, .int v] mem (Rv (fun m2 => m2 = um mem (s + 1) i.toNatClampNeg (laneI (mem s 1) v))) := by
  refine cn_of (by decide +kernel) (Nat.le_of_ble_eq_true rfl) (sX4_put_0 s hS i v ⟨fun q => ⟨hi, fun m2 h2 => ⟨rfl, ?_⟩⟩, fun q => ⟨fun q2 => ⟨hi, fun m2 h2 => ⟨rfl, ?_⟩⟩, fun q2 => ⟨hi, ⟨rfl, ?_⟩⟩⟩⟩) <;> unfold laneI
  · rw [h2, if_pos q]
  · rw [h2, if_neg q, if_pos q2]
  · rw [if_neg q, if_neg q2]

set_option maxRecDepth 100000 in
theorem sX5_sheet_0 {G : GX} {d : Nat} {mem : Mem} {Φ : Option Value → Mem → Prop} (a1 : Int32) (a2 : Int32) (a3 : Int32) (h : ((¬ (0 ≤ a1 ∧ a1 < 4) → Φ (some (.int (-1))) mem) ∧ ((0 ≤ a1 ∧ a1 < 4) → ((¬ (0 ≤ a2 ∧ a2 ≤ 2) → Φ (some (.int (-1))) mem) ∧ ((0 ≤ a2 ∧ a2 ≤ 2) → ((a3 ≤ 40 → ((0 ≤ a3 → (vp_in a1 4) ∧ ∃ t2 : Nat, (([31, 33, 35, 37] : List Nat)[(a1 : Int32).toNatClampNeg]? = some t2 ∧ SheetAt t2) ∧ Φ (some (.int 1)) (bgM mem t2 a2 a3)) ∧ (¬ 0 ≤ a3 → Φ (some (.int (-14))) mem))) ∧ (¬ a3 ≤ 40 → Φ (some (.int (-1))) mem))))))) : Go G (d + 2) mX5_sheet 0 [(0, .ref 0), (1, .int a1), (2, .int a2), (3, .int a3)] [] mem Φ := by
  refine go_iload_n dX5_sheet_0 1 rfl ?_
  refine go_callS (st := []) (kX5_isSheet (d + 1) a1) okX5_isSheet staX5_isSheet lkX5_240 rfl rfl (Nat.le_of_ble_eq_true rfl) dX5_sheet_1 (fun v_ m2_ q => ?_)
  rw [q.1, q.2]
  refine go_stk (st2 := [.int (bI (0 ≤ a1 ∧ a1 < 4))]) rfl ?_
  refine go_if_eq 22 dX5_sheet_4 (by decide) (fun q => ?_) (fun q => ?_)
  · have h := h.1 (bI0.mp q)
    refine go_iconst (v := (-1)) dX5_sheet_22 (by decide) ?_
    exact go_iret rfl dX5_sheet_23 h
  · have h := h.2 (bI1.mp q)
    refine go_iload_n dX5_sheet_7 2 rfl ?_
    refine go_iconst (v := 0) dX5_sheet_8 (by decide) ?_
    refine go_iconst (v := 2) dX5_sheet_9 (by decide) ?_
    refine go_callS (st := []) (kX5_isWithin (d + 1) a2 0 2) okX5_isWithin staX5_isWithin lkX5_59 rfl rfl (Nat.le_of_ble_eq_true rfl) dX5_sheet_10 (fun v_ m2_ q => ?_)
    rw [q.1, q.2]
    refine go_stk (st2 := [.int (bI (0 ≤ a2 ∧ a2 ≤ 2))]) rfl ?_
    refine go_if_eq 22 dX5_sheet_13 (by decide) (fun q => ?_) (fun q => ?_)
    · have h := h.1 (bI0.mp q)
      refine go_iconst (v := (-1)) dX5_sheet_22 (by decide) ?_
      exact go_iret rfl dX5_sheet_23 h
    · have h := h.2 (bI1.mp q)
      refine go_iload_n dX5_sheet_16 3 rfl ?_
      refine go_bipush (v := 40) dX5_sheet_17 (by decide) ?_
      refine go_icmp_le 24 dX5_sheet_19 (by decide) (fun q => ?_) (fun q => ?_)
      · have h := h.1 q
        refine go_iload_n dX5_sheet_24 3 rfl ?_
        refine go_if_ge 31 dX5_sheet_25 (by decide) (fun q => ?_) (fun q => ?_)
        · have h := h.1 q
          refine go_aload_n dX5_sheet_31 0 rfl ?_
          refine go_getR (kf := 6) (t := 29) rfl rfl rfl uwX5 (by decide) flX5_43 dX5_sheet_32 ?_
          refine go_iload_n dX5_sheet_35 1 rfl ?_
          obtain ⟨c1, h⟩ := h
          obtain ⟨t2, ⟨e3, hb4⟩, h⟩ := h
          refine go_aaload rfl c1 e3 dX5_sheet_36 ?_
          refine go_iload_n dX5_sheet_37 2 rfl ?_
          refine go_iload_n dX5_sheet_38 3 rfl ?_
          refine go_callV (st := []) (kX4_begin (d + 0) t2 hb4 a2 a3) hb4.1 rfl okX4_begin insX4_begin selX4_begin lkX5_243 rfl rfl (Nat.le_of_ble_eq_true rfl) dX5_sheet_39 (fun v_ m2_ q => ?_)
          rw [q.1, q.2]
          refine go_stk (st2 := []) rfl ?_
          refine go_iconst (v := 1) dX5_sheet_42 (by decide) ?_
          exact go_iret rfl dX5_sheet_43 h
        · have h := h.2 q
          refine go_bipush (v := (-14)) dX5_sheet_28 (by decide) ?_
          exact go_iret rfl dX5_sheet_30 h
      · have h := h.2 q
        refine go_iconst (v := (-1)) dX5_sheet_22 (by decide) ?_
        exact go_iret rfl dX5_sheet_23 h

set_option maxRecDepth 100000 in
theorem sX6_sheet_0 {G : GX} {d : Nat} {mem : Mem} {Φ : Option Value → Mem → Prop} (a1 : Int32) (a2 : Int32) (a3 : Int32) (h : ((¬ (0 ≤ a1 ∧ a1 ≤ 3) → Φ (some (.int (-1))) mem) ∧ ((0 ≤ a1 ∧ a1 ≤ 3) → ((¬ (0 ≤ a2 ∧ a2 ≤ 2) → Φ (some (.int (-1))) mem) ∧ ((0 ≤ a2 ∧ a2 ≤ 2) → ((a3 ≤ 40 → ((0 ≤ a3 → (vp_in a1 4) ∧ ∀ m2 : Mem, m2 = (um (um mem 49 (a1 : Int32).toNatClampNeg a2) 50 (a1 : Int32).toNatClampNeg a3) → Go G (d + 1) mX6_sheet 56 [(0, .ref 40), (1, .int a1), (4, .int 0)] [] m2 Φ) ∧ (¬ 0 ≤ a3 → Φ (some (.int (-14))) mem))) ∧ (¬ a3 ≤ 40 → Φ (some (.int (-1))) mem))))))) : Go G (d + 1) mX6_sheet 0 [(0, .ref 40), (1, .int a1), (2, .int a2), (3, .int a3)] [] mem Φ := by
  refine go_iload_n dX6_sheet_0 1 rfl ?_
  refine go_i2l dX6_sheet_1 ?_
  refine go_lconst (v := 0) dX6_sheet_2 (by decide) ?_
  refine go_ldc2 klX6_141 dX6_sheet_3 ?_
  refine go_callS (st := []) (kX6_in (d + 0) a1 0 3 0 3 (by decide) (by decide)) okX6_in staX6_in lkX6_50 rfl rfl (Nat.le_of_ble_eq_true rfl) dX6_sheet_6 (fun v_ m2_ q => ?_)
  rw [q.1, q.2]
  refine go_stk (st2 := [.int (bI (0 ≤ a1 ∧ a1 ≤ 3))]) rfl ?_
  refine go_if_eq 30 dX6_sheet_9 (by decide) (fun q => ?_) (fun q => ?_)
  · have h := h.1 (bI0.mp q)
    refine go_iconst (v := (-1)) dX6_sheet_30 (by decide) ?_
    exact go_iret rfl dX6_sheet_31 h
  · have h := h.2 (bI1.mp q)
    refine go_iload_n dX6_sheet_12 2 rfl ?_
    refine go_i2l dX6_sheet_13 ?_
    refine go_lconst (v := 0) dX6_sheet_14 (by decide) ?_
    refine go_ldc2 klX6_143 dX6_sheet_15 ?_
    refine go_callS (st := []) (kX6_in (d + 0) a2 0 2 0 2 (by decide) (by decide)) okX6_in staX6_in lkX6_50 rfl rfl (Nat.le_of_ble_eq_true rfl) dX6_sheet_18 (fun v_ m2_ q => ?_)
    rw [q.1, q.2]
    refine go_stk (st2 := [.int (bI (0 ≤ a2 ∧ a2 ≤ 2))]) rfl ?_
    refine go_if_eq 30 dX6_sheet_21 (by decide) (fun q => ?_) (fun q => ?_)
    · have h := h.1 (bI0.mp q)
      refine go_iconst (v := (-1)) dX6_sheet_30 (by decide) ?_
      exact go_iret rfl dX6_sheet_31 h
    · have h := h.2 (bI1.mp q)
      refine go_iload_n dX6_sheet_24 3 rfl ?_
      refine go_bipush (v := 40) dX6_sheet_25 (by decide) ?_
      refine go_icmp_le 32 dX6_sheet_27 (by decide) (fun q => ?_) (fun q => ?_)
      · have h := h.1 q
        refine go_iload_n dX6_sheet_32 3 rfl ?_
        refine go_if_ge 39 dX6_sheet_33 (by decide) (fun q => ?_) (fun q => ?_)
        · have h := h.1 q
          refine go_aload_n dX6_sheet_39 0 rfl ?_
          refine go_getR (kf := 22) (t := 49) rfl rfl rfl uwX6 (by decide) flX6_39 dX6_sheet_40 ?_
          refine go_iload_n dX6_sheet_43 1 rfl ?_
          refine go_iload_n dX6_sheet_44 2 rfl ?_
          obtain ⟨c1, h⟩ := h
          refine go_iastore rfl c1 dX6_sheet_45 ?_
          refine go_aload_n dX6_sheet_46 0 rfl ?_
          refine go_getR (kf := 23) (t := 50) rfl rfl rfl uwX6 (by decide) flX6_42 dX6_sheet_47 ?_
          refine go_iload_n dX6_sheet_50 1 rfl ?_
          refine go_iload_n dX6_sheet_51 3 rfl ?_
          refine go_iastore rfl c1 dX6_sheet_52 ?_
          refine go_mem (fun m2 qm2 => ?_)
          have h := h m2 qm2
          refine go_iconst (v := 0) dX6_sheet_53 (by decide) ?_
          refine go_istore (L2 := [(4, .int 0), (0, .ref 40), (1, .int a1), (2, .int a2), (3, .int a3)]) dX6_sheet_54 (by decide) rfl ?_
          exact Go.pick [1, 2, 0] rfl h
        · have h := h.2 q
          refine go_bipush (v := (-14)) dX6_sheet_36 (by decide) ?_
          exact go_iret rfl dX6_sheet_38 h
      · have h := h.2 q
        refine go_iconst (v := (-1)) dX6_sheet_30 (by decide) ?_
        exact go_iret rfl dX6_sheet_31 h

set_option maxRecDepth 100000 in
theorem sX6_sheet_56 {G : GX} {d : Nat} {mem : Mem} {Φ : Option Value → Mem → Prop} (k i : Nat) (h : ((40 ≤ (nI i) → Φ (some (.int 1)) mem) ∧ (¬ 40 ≤ (nI i) → (vp_in ((40 * (nI k)) + (nI i)) 160) ∧ ∀ m2 : Mem, m2 = (um mem 51 (((40 * (nI k)) + (nI i)) : Int32).toNatClampNeg 0) → Go G (d + 1) mX6_sheet 56 [(0, .ref 40), (1, .int (nI k)), (4, .int ((nI i) + 1))] [] m2 Φ))) : Go G (d + 1) mX6_sheet 56 [(0, .ref 40), (1, .int (nI k)), (4, .int (nI i))] [] mem Φ := by
  refine go_iload dX6_sheet_56 2 rfl ?_
  refine go_bipush (v := 40) dX6_sheet_58 (by decide) ?_
  refine go_icmp_ge 82 dX6_sheet_60 (by decide) (fun q => ?_) (fun q => ?_)
  · have h := h.1 q
    refine go_iconst (v := 1) dX6_sheet_82 (by decide) ?_
    exact go_iret rfl dX6_sheet_83 h
  · have h := h.2 q
    refine go_aload_n dX6_sheet_63 0 rfl ?_
    refine go_getR (kf := 24) (t := 51) rfl rfl rfl uwX6 (by decide) flX6_45 dX6_sheet_64 ?_
    refine go_bipush (v := 40) dX6_sheet_67 (by decide) ?_
    refine go_iload_n dX6_sheet_69 1 rfl ?_
    refine go_imul dX6_sheet_70 ?_
    refine go_iload dX6_sheet_71 2 rfl ?_
    refine go_iadd dX6_sheet_73 ?_
    refine go_iconst (v := 0) dX6_sheet_74 (by decide) ?_
    obtain ⟨c1, h⟩ := h
    refine go_iastore rfl c1 dX6_sheet_75 ?_
    refine go_mem (fun m2 qm2 => ?_)
    have h := h m2 qm2
    refine go_iinc (v := ((nI i) + 1)) (L2 := [(4, .int ((nI i) + 1)), (0, .ref 40), (1, .int (nI k))]) dX6_sheet_76 2 rfl rfl (by decide) rfl ?_
    refine go_goto 56 dX6_sheet_79 (by decide) ?_
    exact Go.pick [1, 2, 0] rfl h

set_option maxRecDepth 100000 in
theorem sX5_lay_0 {G : GX} {d : Nat} {mem : Mem} {Φ : Option Value → Mem → Prop} (a1 : Int32) (a2 : Int32) (a3 : Int32) (h : (((0 ≤ a1 ∧ a1 < 4) → (vp_in a1 4) ∧ ∃ t2 : Nat, (([31, 33, 35, 37] : List Nat)[(a1 : Int32).toNatClampNeg]? = some t2 ∧ SheetAt t2) ∧ ∀ y5 : Int32, y5 = (fltI (mem t2 1) (mem t2 2) a2) → ((y5 = 0 → ∃ t6 : Nat, (([31, 33, 35, 37] : List Nat)[(a1 : Int32).toNatClampNeg]? = some t6 ∧ SheetAt t6) ∧ (vp_in a2 40) ∧ ∀ m10 : Mem, m10 = (um mem (t6 + 1) (a2 : Int32).toNatClampNeg (laneI (mem t6 1) a3)) → Φ (some (.int 1)) m10) ∧ (¬ y5 = 0 → Φ (some (.int ((-10) - y5))) mem))) ∧ (¬ (0 ≤ a1 ∧ a1 < 4) → Φ (some (.int (-1))) mem))) : Go G (d + 1) mX5_lay 0 [(0, .ref 0), (1, .int a1), (2, .int a2), (3, .int a3)] [] mem Φ := by
  refine go_iload_n dX5_lay_0 1 rfl ?_
  refine go_callS (st := []) (kX5_isSheet (d + 0) a1) okX5_isSheet staX5_isSheet lkX5_240 rfl rfl (Nat.le_of_ble_eq_true rfl) dX5_lay_1 (fun v_ m2_ q => ?_)
  rw [q.1, q.2]
  refine go_stk (st2 := [.int (bI (0 ≤ a1 ∧ a1 < 4))]) rfl ?_
  refine go_if_ne 9 dX5_lay_4 (by decide) (fun q => ?_) (fun q => ?_)
  · have h := h.1 (bI1.mp q)
    refine go_aload_n dX5_lay_9 0 rfl ?_
    refine go_getR (kf := 6) (t := 29) rfl rfl rfl uwX5 (by decide) flX5_43 dX5_lay_10 ?_
    refine go_iload_n dX5_lay_13 1 rfl ?_
    obtain ⟨c1, h⟩ := h
    obtain ⟨t2, ⟨e3, hb4⟩, h⟩ := h
    refine go_aaload rfl c1 e3 dX5_lay_14 ?_
    refine go_iload_n dX5_lay_15 2 rfl ?_
    refine go_callV (st := []) (kX4_faultAt (d + 0) t2 hb4 a2) hb4.1 rfl okX4_faultAt insX4_faultAt selX4_faultAt lkX5_246 rfl rfl (Nat.le_of_ble_eq_true rfl) dX5_lay_16 (fun v_ m2_ q => ?_)
    rw [q.1, q.2]
    refine go_stk (st2 := [.int (fltI (mem t2 1) (mem t2 2) a2)]) rfl ?_
    refine go_topi (fun y5 qy5 => ?_)
    have h := h y5 qy5
    refine go_istore (L2 := [(4, .int y5), (0, .ref 0), (1, .int a1), (2, .int a2), (3, .int a3)]) dX5_lay_19 (by decide) rfl ?_
    refine go_iload dX5_lay_21 0 rfl ?_
    refine go_if_eq 32 dX5_lay_23 (by decide) (fun q => ?_) (fun q => ?_)
    · have h := h.1 q
      refine go_aload_n dX5_lay_32 1 rfl ?_
      refine go_getR (kf := 6) (t := 29) rfl rfl rfl uwX5 (by decide) flX5_43 dX5_lay_33 ?_
      refine go_iload_n dX5_lay_36 2 rfl ?_
      obtain ⟨t6, ⟨e7, hb8⟩, h⟩ := h
      refine go_aaload rfl c1 e7 dX5_lay_37 ?_
      refine go_iload_n dX5_lay_38 3 rfl ?_
      refine go_iload_n dX5_lay_39 4 rfl ?_
      obtain ⟨c9, h⟩ := h
      refine go_callV (st := []) (kX4_put (d + 0) t6 hb8 a2 a3 c9) hb8.1 rfl okX4_put insX4_put selX4_put lkX5_249 rfl rfl (Nat.le_of_ble_eq_true rfl) dX5_lay_40 (fun v_ m2_ q => ?_)
      rw [q.1, q.2]
      refine go_stk (st2 := []) rfl ?_
      refine go_mem (fun m10 qm10 => ?_)
      have h := h m10 qm10
      refine go_iconst (v := 1) dX5_lay_43 (by decide) ?_
      exact go_iret rfl dX5_lay_44 h
    · have h := h.2 q
      refine go_bipush (v := (-10)) dX5_lay_26 (by decide) ?_
      refine go_iload dX5_lay_28 0 rfl ?_
      refine go_isub dX5_lay_30 ?_
      exact go_iret rfl dX5_lay_31 h
  · have h := h.2 (bI0.mp q)
    refine go_iconst (v := (-1)) dX5_lay_7 (by decide) ?_
    exact go_iret rfl dX5_lay_8 h

set_option maxRecDepth 100000 in
theorem sX6_lay_0 {G : GX} {d : Nat} {mem : Mem} {Φ : Option Value → Mem → Prop} (a1 : Int32) (a2 : Int32) (a3 : Int32) (h : (((0 ≤ a1 ∧ a1 ≤ 3) → (vp_in a1 4) ∧ ((¬ (mem 49 (a1 : Int32).toNatClampNeg) = (-4) → (((0 ≤ a2 ∧ a2 ≤ ((mem 50 (a1 : Int32).toNatClampNeg) - 1)) → ((¬ (mem 49 (a1 : Int32).toNatClampNeg) = 0 → ((¬ (mem 49 (a1 : Int32).toNatClampNeg) = 1 → (vp_in ((40 * a1) + a2) 160) ∧ ∀ m3 : Mem, m3 = (um mem 51 (((40 * a1) + a2) : Int32).toNatClampNeg a3) → Φ (some (.int 1)) m3) ∧ ((mem 49 (a1 : Int32).toNatClampNeg) = 1 → (vp_in ((40 * a1) + a2) 160) ∧ ∀ m5 : Mem, m5 = (um mem 51 (((40 * a1) + a2) : Int32).toNatClampNeg ((a3 <<< (16 &&& 31)) >>> (16 &&& 31))) → Φ (some (.int 1)) m5))) ∧ ((mem 49 (a1 : Int32).toNatClampNeg) = 0 → (vp_in ((40 * a1) + a2) 160) ∧ ∀ m7 : Mem, m7 = (um mem 51 (((40 * a1) + a2) : Int32).toNatClampNeg ((a3 <<< (24 &&& 31)) >>> (24 &&& 31))) → Φ (some (.int 1)) m7))) ∧ (¬ (0 ≤ a2 ∧ a2 ≤ ((mem 50 (a1 : Int32).toNatClampNeg) - 1)) → Φ (some (.int (-12))) mem))) ∧ ((mem 49 (a1 : Int32).toNatClampNeg) = (-4) → Φ (some (.int (-11))) mem))) ∧ (¬ (0 ≤ a1 ∧ a1 ≤ 3) → Φ (some (.int (-1))) mem))) : Go G (d + 1) mX6_lay 0 [(0, .ref 40), (1, .int a1), (2, .int a2), (3, .int a3)] [] mem Φ := by
  refine go_iload_n dX6_lay_0 1 rfl ?_
  refine go_i2l dX6_lay_1 ?_
  refine go_lconst (v := 0) dX6_lay_2 (by decide) ?_
  refine go_ldc2 klX6_141 dX6_lay_3 ?_
  refine go_callS (st := []) (kX6_in (d + 0) a1 0 3 0 3 (by decide) (by decide)) okX6_in staX6_in lkX6_50 rfl rfl (Nat.le_of_ble_eq_true rfl) dX6_lay_6 (fun v_ m2_ q => ?_)
  rw [q.1, q.2]
  refine go_stk (st2 := [.int (bI (0 ≤ a1 ∧ a1 ≤ 3))]) rfl ?_
  refine go_if_ne 14 dX6_lay_9 (by decide) (fun q => ?_) (fun q => ?_)
  · have h := h.1 (bI1.mp q)
    refine go_aload_n dX6_lay_14 0 rfl ?_
    refine go_getR (kf := 22) (t := 49) rfl rfl rfl uwX6 (by decide) flX6_39 dX6_lay_15 ?_
    refine go_iload_n dX6_lay_18 1 rfl ?_
    obtain ⟨c1, h⟩ := h
    refine go_iaload rfl c1 dX6_lay_19 ?_
    refine go_bipush (v := (-4)) dX6_lay_20 (by decide) ?_
    refine go_icmp_ne 28 dX6_lay_22 (by decide) (fun q => ?_) (fun q => ?_)
    · have h := h.1 q
      refine go_iload_n dX6_lay_28 2 rfl ?_
      refine go_i2l dX6_lay_29 ?_
      refine go_lconst (v := 0) dX6_lay_30 (by decide) ?_
      refine go_aload_n dX6_lay_31 0 rfl ?_
      refine go_getR (kf := 23) (t := 50) rfl rfl rfl uwX6 (by decide) flX6_42 dX6_lay_32 ?_
      refine go_iload_n dX6_lay_35 1 rfl ?_
      refine go_iaload rfl c1 dX6_lay_36 ?_
      refine go_iconst (v := 1) dX6_lay_37 (by decide) ?_
      refine go_isub dX6_lay_38 ?_
      refine go_i2l dX6_lay_39 ?_
      refine go_callS (st := []) (kX6_in (d + 0) a2 0 ((mem 50 (a1 : Int32).toNatClampNeg) - 1) 0 ((((mem 50 (a1 : Int32).toNatClampNeg) - 1) : Int32).toInt64) (by decide) rfl) okX6_in staX6_in lkX6_50 rfl rfl (Nat.le_of_ble_eq_true rfl) dX6_lay_40 (fun v_ m2_ q => ?_)
      rw [q.1, q.2]
      refine go_stk (st2 := [.int (bI (0 ≤ a2 ∧ a2 ≤ ((mem 50 (a1 : Int32).toNatClampNeg) - 1)))]) rfl ?_
      refine go_if_ne 49 dX6_lay_43 (by decide) (fun q => ?_) (fun q => ?_)
      · have h := h.1 (bI1.mp q)
        refine go_aload_n dX6_lay_49 0 rfl ?_
        refine go_getR (kf := 24) (t := 51) rfl rfl rfl uwX6 (by decide) flX6_45 dX6_lay_50 ?_
        refine go_bipush (v := 40) dX6_lay_53 (by decide) ?_
        refine go_iload_n dX6_lay_55 1 rfl ?_
        refine go_imul dX6_lay_56 ?_
        refine go_iload_n dX6_lay_57 2 rfl ?_
        refine go_iadd dX6_lay_58 ?_
        refine go_aload_n dX6_lay_59 0 rfl ?_
        refine go_getR (kf := 22) (t := 49) rfl rfl rfl uwX6 (by decide) flX6_39 dX6_lay_60 ?_
        refine go_iload_n dX6_lay_63 1 rfl ?_
        refine go_iaload rfl c1 dX6_lay_64 ?_
        refine go_if_ne 78 dX6_lay_65 (by decide) (fun q => ?_) (fun q => ?_)
        · have h := h.1 q
          refine go_aload_n dX6_lay_78 0 rfl ?_
          refine go_getR (kf := 22) (t := 49) rfl rfl rfl uwX6 (by decide) flX6_39 dX6_lay_79 ?_
          refine go_iload_n dX6_lay_82 1 rfl ?_
          refine go_iaload rfl c1 dX6_lay_83 ?_
          refine go_iconst (v := 1) dX6_lay_84 (by decide) ?_
          refine go_icmp_ne 98 dX6_lay_85 (by decide) (fun q => ?_) (fun q => ?_)
          · have h := h.1 q
            refine go_iload_n dX6_lay_98 3 rfl ?_
            obtain ⟨c2, h⟩ := h
            refine go_iastore rfl c2 dX6_lay_99 ?_
            refine go_mem (fun m3 qm3 => ?_)
            have h := h m3 qm3
            refine go_iconst (v := 1) dX6_lay_100 (by decide) ?_
            exact go_iret rfl dX6_lay_101 h
          · have h := h.2 q
            refine go_iload_n dX6_lay_88 3 rfl ?_
            refine go_bipush (v := 16) dX6_lay_89 (by decide) ?_
            refine go_ishl dX6_lay_91 ?_
            refine go_bipush (v := 16) dX6_lay_92 (by decide) ?_
            refine go_ishr dX6_lay_94 ?_
            refine go_goto 99 dX6_lay_95 (by decide) ?_
            obtain ⟨c4, h⟩ := h
            refine go_iastore rfl c4 dX6_lay_99 ?_
            refine go_mem (fun m5 qm5 => ?_)
            have h := h m5 qm5
            refine go_iconst (v := 1) dX6_lay_100 (by decide) ?_
            exact go_iret rfl dX6_lay_101 h
        · have h := h.2 q
          refine go_iload_n dX6_lay_68 3 rfl ?_
          refine go_bipush (v := 24) dX6_lay_69 (by decide) ?_
          refine go_ishl dX6_lay_71 ?_
          refine go_bipush (v := 24) dX6_lay_72 (by decide) ?_
          refine go_ishr dX6_lay_74 ?_
          refine go_goto 99 dX6_lay_75 (by decide) ?_
          obtain ⟨c6, h⟩ := h
          refine go_iastore rfl c6 dX6_lay_99 ?_
          refine go_mem (fun m7 qm7 => ?_)
          have h := h m7 qm7
          refine go_iconst (v := 1) dX6_lay_100 (by decide) ?_
          exact go_iret rfl dX6_lay_101 h
      · have h := h.2 (bI0.mp q)
        refine go_bipush (v := (-12)) dX6_lay_46 (by decide) ?_
        exact go_iret rfl dX6_lay_48 h
    · have h := h.2 q
      refine go_bipush (v := (-11)) dX6_lay_25 (by decide) ?_
      exact go_iret rfl dX6_lay_27 h
  · have h := h.2 (bI0.mp q)
    refine go_iconst (v := (-1)) dX6_lay_12 (by decide) ?_
    exact go_iret rfl dX6_lay_13 h


theorem sht_at {k : Nat} (hk : k < 4) : ([31, 33, 35, 37] : List Nat)[k]? = some (31 + 2 * k) ∧ SheetAt (31 + 2 * k) := by
  rcases (show k = 0 ∨ k = 1 ∨ k = 2 ∨ k = 3 by omega) with rfl | rfl | rfl | rfl
  · exact ⟨rfl, sA31⟩
  · exact ⟨rfl, sA33⟩
  · exact ⟨rfl, sA35⟩
  · exact ⟨rfl, sA37⟩
theorem lt4 {a : Int32} : (0 ≤ a ∧ a < 4) ↔ (0 ≤ a ∧ a ≤ 3) := by
  refine and_congr_right (fun h => ?_)
  obtain ⟨j, hj, rfl⟩ := nI_of (Int32.not_lt.mpr h)
  rw [show (4 : Int32) = nI 4 from rfl, show (3 : Int32) = nI 3 from rfl, nI_ltI hj (by omega), nI_leI hj (by omega)]
  omega
theorem q40 {k i : Nat} (hk : k < 4) (hi : i < 40) : ((40 : Int32) * nI k + nI i).toNatClampNeg = 40 * k + i ∧ vp_in ((40 : Int32) * nI k + nI i) 160 := by
  rw [show ((40 : Int32) * nI k + nI i) = nI (40 * k + i) from by rw [show (40 : Int32) = nI 40 from rfl, pk_mul, nI_add]]
  exact ⟨ncl (by omega), nin (by omega) (by omega)⟩
theorem lX6_sheet {G : GX} {d : Nat} {Φ : Option Value → Mem → Prop} {mem0 : Mem} (k : Nat) (hk : k < 4) (hend : ∀ m : Mem, (∀ j, j ≠ 51 → m j = mem0 j) → (∀ j, (j < 40 * k ∨ 40 * k + 40 ≤ j) → m 51 j = mem0 51 j) → (∀ i, i < 40 → m 51 (40 * k + i) = 0) → Φ (some (.int 1)) m) : ∀ (r i : Nat) (m : Mem), i + r = 40 → (∀ j, j ≠ 51 → m j = mem0 j) → (∀ j, (j < 40 * k ∨ 40 * k + 40 ≤ j) → m 51 j = mem0 51 j) → (∀ j, j < i → m 51 (40 * k + j) = 0) → Go G (d + 1) mX6_sheet 56 [(0, .ref 40), (1, .int (nI k)), (4, .int (nI i))] [] m Φ := by
  intro r
  induction r with
  | zero =>
    intro i m hi h1 h2 h3
    have hi2 : i = 40 := by omega
    subst hi2
    exact sX6_sheet_56 k 40 ⟨fun _ => hend m h1 h2 h3, fun q => absurd (by decide) q⟩
  | succ r ih =>
    intro i m hi h1 h2 h3
    obtain ⟨e, v⟩ := q40 hk (show i < 40 by omega)
    refine sX6_sheet_56 k i ⟨fun q => absurd ((nle (a := 40) (by omega) (by omega)).mp q) (by omega), fun _ => ⟨v, ?_⟩⟩
    rw [e, nI_1]
    intro m2 q2
    refine ih (i + 1) m2 (by omega) (fun j hj => by rw [q2, um_ne hj]; exact h1 j hj) (fun j hj => by rw [q2, um_at, if_neg (by omega)]; exact h2 j hj) (fun j hj => ?_)
    rw [q2, um_at]
    by_cases z : j = i
    · rw [if_pos (by omega)]
    · rw [if_neg (by omega)]; exact h3 j (by omega)
set_option maxHeartbeats 4000000 in
theorem P33 {G : GX} (a l n : Int32) : Sm G mX5_sheet mX6_sheet [.int a, .int l, .int n] := fun mem hI => by
  obtain ⟨X, T, S, h1, h2, h3, h4, h5, h6, h7⟩ := id hI
  refine cn_of (by decide +kernel) (Nat.le_of_ble_eq_true rfl) (sX5_sheet_0 (d := 7) a l n ?_)
  rw [lt4]
  refine ⟨fun q => ?_, fun q => ⟨fun q2 => ?_, fun q2 => ⟨fun q3 => ⟨fun q4 => ?_, fun q4 => ?_⟩, fun q3 => ?_⟩⟩⟩
  · exact cn_of (by decide +kernel) (Nat.le_of_ble_eq_true rfl) (sX6_sheet_0 (d := 8) a l n ⟨fun _ => ⟨rfl, hI⟩, fun z => absurd z q⟩)
  · exact cn_of (by decide +kernel) (Nat.le_of_ble_eq_true rfl) (sX6_sheet_0 (d := 8) a l n ⟨fun z => absurd q z, fun _ => ⟨fun _ => ⟨rfl, hI⟩, fun z => absurd z q2⟩⟩)
  · obtain ⟨k, hk, rfl⟩ := i300 (n := 3) rfl (by omega) q
    obtain ⟨ln, hln, rfl⟩ := i300 (n := 2) rfl (by omega) q2
    obtain ⟨cn, hcn, rfl⟩ := i300 (n := 40) rfl (by omega) ⟨q4, q3⟩
    obtain ⟨sa, sS⟩ := sht_at (show k < 4 by omega)
    rw [ncl (show k < 2000000000 by omega)]
    refine ⟨nin (by omega) (by omega), 31 + 2 * k, ⟨sa, sS⟩, ?_⟩
    have gB : ∀ j, j ≠ 31 + 2 * k → j ≠ 32 + 2 * k → bgM mem (31 + 2 * k) (nI ln) (nI cn) j = mem j := fun j a b => by
      unfold bgM
      rw [um0_ne (by omega), um_ne a, um_ne a]
    have gB1 : bgM mem (31 + 2 * k) (nI ln) (nI cn) (31 + 2 * k) 1 = nI ln := by
      unfold bgM
      rw [um0_ne (by omega), um_at, if_neg (by decide), um_same]
    have gB2 : bgM mem (31 + 2 * k) (nI ln) (nI cn) (31 + 2 * k) 2 = nI cn := by
      unfold bgM
      rw [um0_ne (by omega), um_same]
    have gB3 : ∀ i, i < 40 → bgM mem (31 + 2 * k) (nI ln) (nI cn) (32 + 2 * k) i = 0 := fun i hi => by
      unfold bgM
      rw [show 32 + 2 * k = 31 + 2 * k + 1 by omega, um0_self, if_pos hi]
    generalize bgM mem (31 + 2 * k) (nI ln) (nI cn) = mb at gB gB1 gB2 gB3 ⊢
    refine cn_of (by decide +kernel) (Nat.le_of_ble_eq_true rfl) (sX6_sheet_0 (d := 8) (nI k) (nI ln) (nI cn) ⟨fun z => absurd q z, fun _ => ⟨fun z => absurd q2 z, fun _ => ⟨fun _ => ⟨fun _ => ⟨nin (by omega) (by omega), ?_⟩, fun z => absurd q4 z⟩, fun z => absurd q3 z⟩⟩⟩)
    rw [ncl (show k < 2000000000 by omega)]
    intro m2 e2
    refine Go.pick (L2 := [(0, .ref 40), (1, .int (nI k)), (4, .int (nI 0))]) [0, 1, 2] rfl (lX6_sheet (mem0 := m2) k (by omega) (fun m c1 c2 c3 => ⟨rfl, ?_⟩) 40 0 m2 (by omega) (fun _ _ => rfl) (fun _ _ => rfl) (fun j hj => by omega))
    have g : ∀ j, j ≠ 51 → j ≠ 50 → j ≠ 49 → m j = mb j := fun j a b c => by rw [c1 j a, e2, um_ne b, um_ne c]
    have e50 : ∀ i, m 50 i = if i = k then nI cn else mem 50 i := fun i => by rw [c1 50 (by decide), e2, um_at, um_ne (by decide), gB 50 (by omega) (by omega)]
    have e49 : ∀ i, m 49 i = if i = k then nI ln else mem 49 i := fun i => by rw [c1 49 (by decide), e2, um_ne (by decide), um_at, gB 49 (by omega) (by omega)]
    refine hI.shts (fun j a b c e => by rw [g j e c b]; exact gB j (by omega) (by omega)) (fun i hi => ?_)
    by_cases z : i = k
    · subst z
      refine Or.inr ⟨ln, cn, hln, hcn, ?_, ?_, ?_, ?_, fun j hj => ?_⟩
      · rw [g _ (by omega) (by omega) (by omega)]; exact gB1
      · rw [e49, if_pos rfl]
      · rw [g _ (by omega) (by omega) (by omega)]; exact gB2
      · rw [e50, if_pos rfl]
      · rw [g _ (by omega) (by omega) (by omega), gB3 j (by omega), c3 j (by omega)]
    · refine (h6 i hi).fr ?_ ?_ (by rw [e49, if_neg z]) (by rw [e50, if_neg z]) (fun j hj => ?_)
      · rw [g _ (by omega) (by omega) (by omega), gB _ (by omega) (by omega)]
      · rw [g _ (by omega) (by omega) (by omega), gB _ (by omega) (by omega)]
      · rw [c2 _ (by omega), e2, um_ne (by decide), um_ne (by decide), gB 51 (by omega) (by omega)]
  · exact cn_of (by decide +kernel) (Nat.le_of_ble_eq_true rfl) (sX6_sheet_0 (d := 8) a l n ⟨fun z => absurd q z, fun _ => ⟨fun z => absurd q2 z, fun _ => ⟨fun _ => ⟨fun z => absurd z q4, fun _ => ⟨rfl, hI⟩⟩, fun z => absurd q3 z⟩⟩⟩)
  · exact cn_of (by decide +kernel) (Nat.le_of_ble_eq_true rfl) (sX6_sheet_0 (d := 8) a l n ⟨fun z => absurd q z, fun _ => ⟨fun z => absurd q2 z, fun _ => ⟨fun z => absurd z q3, fun _ => ⟨rfl, hI⟩⟩⟩⟩)
