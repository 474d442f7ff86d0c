set_option maxRecDepth 100000 in
theorem sX2_isName_0 {G : GX} {d : Nat} {mem : Mem} {Φ : Option Value → Mem → Prop} (i : Nat) (hi : i < 5) (h : ((¬ (mem 23 6) = 1 → Φ (some (.int 0)) mem) ∧ ((mem 23 6) = 1 → ((((mem 23 5) - (mem 23 7)) = (nI (sLen.getD i 0)) → Go G (d + 4) mX2_isName 28 [(0, .ref 23), (1, .ref (100 + i)), (2, .int 0)] [] mem Φ) ∧ (¬ ((mem 23 5) - (mem 23 7)) = (nI (sLen.getD i 0)) → Φ (some (.int 0)) mem))))) : Go G (d + 4) mX2_isName 0 [(0, .ref 23), (1, .ref (100 + i))] [] mem Φ := by
  refine go_aload_n dX2_isName_0 0 rfl ?_
  refine go_getI (kf := 6) rfl rfl rfl uwX2 (by decide) flX2_35 dX2_isName_1 ?_
  refine go_iconst (v := 1) dX2_isName_4 (by decide) ?_
  refine go_icmp_ne 24 dX2_isName_5 (by decide) (fun q => ?_) (fun q => ?_)
  · have h := h.1 q
    refine go_iconst (v := 0) dX2_isName_24 (by decide) ?_
    exact go_zret (ty := .boolean) rfl rfl dX2_isName_25 h
  · have h := h.2 q
    refine go_aload_n dX2_isName_8 0 rfl ?_
    refine go_getI (kf := 5) rfl rfl rfl uwX2 (by decide) flX2_25 dX2_isName_9 ?_
    refine go_aload_n dX2_isName_12 0 rfl ?_
    refine go_getI (kf := 7) rfl rfl rfl uwX2 (by decide) flX2_86 dX2_isName_13 ?_
    refine go_isub dX2_isName_16 ?_
    refine go_aload_n dX2_isName_17 1 rfl ?_
    refine go_callVS (st := [.int ((mem 23 5) - (mem 23 7))]) i hi (kJ0_length (d + 2) i hi) rfl okJ0_length_8abf5 insJ0_length_8abf5 selJ0_length_8abf5 lkX2_106 rfl rfl (Nat.le_of_ble_eq_true rfl) dX2_isName_18 (fun v_ m2_ q => ?_)
    rw [q.1, q.2]
    refine go_stk (st2 := [.int (nI (sLen.getD i 0)), .int ((mem 23 5) - (mem 23 7))]) rfl ?_
    refine go_icmp_eq 26 dX2_isName_21 (by decide) (fun q => ?_) (fun q => ?_)
    · have h := h.1 q
      refine go_iconst (v := 0) dX2_isName_26 (by decide) ?_
      refine go_istore_n (L2 := [(2, .int 0), (0, .ref 23), (1, .ref (100 + i))]) dX2_isName_27 (by decide) rfl ?_
      exact Go.pick [1, 2, 0] rfl h
    · have h := h.2 q
      refine go_iconst (v := 0) dX2_isName_24 (by decide) ?_
      exact go_zret (ty := .boolean) rfl rfl dX2_isName_25 h

set_option maxRecDepth 100000 in
theorem sX2_isName_28 {G : GX} {d : Nat} {mem : Mem} {Φ : Option Value → Mem → Prop} (i : Nat) (hi : i < 5) (j : Nat) (h : (((nI (sLen.getD i 0)) ≤ (nI j) → Φ (some (.int 1)) mem) ∧ (¬ (nI (sLen.getD i 0)) ≤ (nI j) → (vp_in ((mem 23 7) + (nI j)) 160) ∧ (j < sLen.getD i 0) ∧ (((mem 24 (((mem 23 7) + (nI j)) : Int32).toNatClampNeg) = (nI (sNm i j)) → Go G (d + 4) mX2_isName 28 [(0, .ref 23), (1, .ref (100 + i)), (2, .int ((nI j) + 1))] [] mem Φ) ∧ (¬ (mem 24 (((mem 23 7) + (nI j)) : Int32).toNatClampNeg) = (nI (sNm i j)) → Φ (some (.int 0)) mem))))) : Go G (d + 4) mX2_isName 28 [(0, .ref 23), (1, .ref (100 + i)), (2, .int (nI j))] [] mem Φ := by
  refine go_iload_n dX2_isName_28 2 rfl ?_
  refine go_aload_n dX2_isName_29 1 rfl ?_
  refine go_callVS (st := [.int (nI j)]) i hi (kJ0_length (d + 2) i hi) rfl okJ0_length_8abf5 insJ0_length_8abf5 selJ0_length_8abf5 lkX2_106 rfl rfl (Nat.le_of_ble_eq_true rfl) dX2_isName_30 (fun v_ m2_ q => ?_)
  rw [q.1, q.2]
  refine go_stk (st2 := [.int (nI (sLen.getD i 0)), .int (nI j)]) rfl ?_
  refine go_icmp_ge 63 dX2_isName_33 (by decide) (fun q => ?_) (fun q => ?_)
  · have h := h.1 q
    refine go_iconst (v := 1) dX2_isName_63 (by decide) ?_
    exact go_zret (ty := .boolean) rfl rfl dX2_isName_64 h
  · have h := h.2 q
    refine go_aload_n dX2_isName_36 0 rfl ?_
    refine go_getR (kf := 0) (t := 24) rfl rfl rfl uwX2 (by decide) flX2_9 dX2_isName_37 ?_
    refine go_aload_n dX2_isName_40 0 rfl ?_
    refine go_getI (kf := 7) rfl rfl rfl uwX2 (by decide) flX2_86 dX2_isName_41 ?_
    refine go_iload_n dX2_isName_44 2 rfl ?_
    refine go_iadd dX2_isName_45 ?_
    obtain ⟨c1, h⟩ := h
    refine go_baload rfl c1 dX2_isName_46 ?_
    refine go_aload_n dX2_isName_47 1 rfl ?_
    refine go_iload_n dX2_isName_48 2 rfl ?_
    obtain ⟨c2, h⟩ := h
    refine go_callVS (st := [.int (mem 24 (((mem 23 7) + (nI j)) : Int32).toNatClampNeg)]) i hi (kJ0_charAt (d + 0) i j hi c2) rfl okJ0_charAt_5068e insJ0_charAt_5068e selJ0_charAt_5068e lkX2_110 rfl rfl (Nat.le_of_ble_eq_true rfl) dX2_isName_49 (fun v_ m2_ q => ?_)
    rw [q.1, q.2]
    refine go_stk (st2 := [.int (nI (sNm i j)), .int (mem 24 (((mem 23 7) + (nI j)) : Int32).toNatClampNeg)]) rfl ?_
    refine go_icmp_eq 57 dX2_isName_52 (by decide) (fun q => ?_) (fun q => ?_)
    · have h := h.1 q
      refine go_iinc (v := ((nI j) + 1)) (L2 := [(2, .int ((nI j) + 1)), (0, .ref 23), (1, .ref (100 + i))]) dX2_isName_57 2 rfl rfl (by decide) rfl ?_
      refine go_goto 28 dX2_isName_60 (by decide) ?_
      exact Go.pick [1, 2, 0] rfl h
    · have h := h.2 q
      refine go_iconst (v := 0) dX2_isName_55 (by decide) ?_
      exact go_zret (ty := .boolean) rfl rfl dX2_isName_56 h


/-- the token that begins at q is the name i -/
def isN (T : Tp) (q i : Nat) : Bool := decide ((tk0 T q).2.1 = 1 ∧ (tk0 T q).1 - q = sLen.getD i 0 ∧ ∀ j, j < sLen.getD i 0 → T.2 (q + j) = sNm i j)
theorem isN_iff {T : Tp} {q i : Nat} : isN T q i = true ↔ ((tk0 T q).2.1 = 1 ∧ (tk0 T q).1 - q = sLen.getD i 0 ∧ ∀ j, j < sLen.getD i 0 → T.2 (q + j) = sNm i j) := decide_eq_true_iff
theorem kX2_isName {G : GX} (d : Nat) {mem : Mem} (i : Nat) (hi : i < 5) (T : Tp) (s : Rs) (h0 : s.1 = 0) (h : RsC T s mem) : Cn G (d + 4) mX2_isName [.ref 23, .ref (100 + i)] mem (Ri (bI (isN T s.2.2 i = true)) (fun m2 => m2 = mem)) := by
  obtain ⟨hT, h5, h2, h3, h4⟩ := id h
  obtain ⟨g7, g5, g6, gb, gq⟩ := h4 h0
  have bd := tk0_bd gq
  have hs := tk0_s (T := T) (q := s.2.2)
  have hb := sLen_b i hi
  have h160 := hT.1
  have e1 : (nI (tk0 T s.2.2).2.1 = (1 : Int32)) ↔ (tk0 T s.2.2).2.1 = 1 := neq (b := 1) (by omega) (by omega)
  have lp : (tk0 T s.2.2).2.1 = 1 → (tk0 T s.2.2).1 - s.2.2 = sLen.getD i 0 → ∀ (r j : Nat), j + r = sLen.getD i 0 → (∀ x, x < j → T.2 (s.2.2 + x) = sNm i x) → Go G (d + 4) mX2_isName 28 [(0, .ref 23), (1, .ref (100 + i)), (2, .int (nI j))] [] mem (Ri (bI (isN T s.2.2 i = true)) (fun m2 => m2 = mem)) := fun a1 a2 => by
    intro r
    induction r with
    | zero =>
      intro j hj hx
      refine sX2_isName_28 i hi j ⟨fun _ => ⟨?_, rfl⟩, fun z => absurd ((nle (by omega) (by omega)).mpr (by omega)) z⟩
      rw [bIt (isN_iff.mpr ⟨a1, a2, fun x hx2 => hx x (by omega)⟩)]
    | succ r ih =>
      intro j hj hx
      have hr := sNm_r i hi j (by omega)
      have hc := hT.2.2 (s.2.2 + j) (by omega)
      refine sX2_isName_28 i hi j ⟨fun z => absurd ((nle (by omega) (by omega)).mp z) (by omega), fun _ => ?_⟩
      rw [g7, nI_add, ncl (by omega), hc.2, neq (by omega) (by omega)]
      refine ⟨nin (by omega) (by omega), by omega, fun z => ?_, fun z => ⟨?_, rfl⟩⟩
      · have e : (nI j + 1 : Int32) = nI (j + 1) := (nI_succ j).symm
        rw [e]
        exact ih (j + 1) (by omega) (fun x hx2 => by
          by_cases y : x = j
          · rw [y]; exact z
          · exact hx x (by omega))
      · rw [bIf (fun y => z ((isN_iff.mp y).2.2 j (by omega)))]
  refine cn_of (by decide +kernel) (Nat.le_of_ble_eq_true rfl) (sX2_isName_0 i hi ?_)
  rw [g6, e1, g5, g7, pk_sub bd.1, neq (by omega) (by omega)]
  refine ⟨fun z => ⟨?_, rfl⟩, fun z => ⟨fun y => lp z y (sLen.getD i 0) 0 (by omega) (fun x hx => absurd hx (by omega)), fun y => ⟨?_, rfl⟩⟩⟩
  · rw [bIf (fun y => z (isN_iff.mp y).1)]
  · rw [bIf (fun w => y (isN_iff.mp w).2.1)]

set_option maxRecDepth 100000 in
theorem sX2_lineNamed_0 {G : GX} {d : Nat} {mem : Mem} {Φ : Option Value → Mem → Prop} (T : Tp) (s : Rs) (h : (s.1 = 0) ∧ (RsC T s mem) ∧ ((¬ (isN T s.2.2 0 = true) → ((¬ (isN T s.2.2 1 = true) → ((¬ (isN T s.2.2 2 = true) → ((¬ (isN T s.2.2 3 = true) → ((¬ (isN T s.2.2 4 = true) → Φ (some (.int 5)) mem) ∧ ((isN T s.2.2 4 = true) → Φ (some (.int 4)) mem))) ∧ ((isN T s.2.2 3 = true) → Φ (some (.int 3)) mem))) ∧ ((isN T s.2.2 2 = true) → Φ (some (.int 2)) mem))) ∧ ((isN T s.2.2 1 = true) → Φ (some (.int 1)) mem))) ∧ ((isN T s.2.2 0 = true) → Φ (some (.int 0)) mem))) : Go G (d + 5) mX2_lineNamed 0 [(0, .ref 23)] [] mem Φ := by
  refine go_aload_n dX2_lineNamed_0 0 rfl ?_
  refine go_ldcS 0 (by decide) rfl rfl dX2_lineNamed_1 ?_
  obtain ⟨c1, h⟩ := h
  obtain ⟨c2, h⟩ := h
  refine go_callV (st := []) (kX2_isName (d + 0) 0 (by decide) T s c1 c2) rfl rfl okX2_isName insX2_isName selX2_isName lkX2_95 rfl rfl (Nat.le_of_ble_eq_true rfl) dX2_lineNamed_3 (fun v_ m2_ q => ?_)
  rw [q.1, q.2]
  refine go_stk (st2 := [.int (bI (isN T s.2.2 0 = true))]) rfl ?_
  refine go_if_eq 11 dX2_lineNamed_6 (by decide) (fun q => ?_) (fun q => ?_)
  · have h := h.1 (bI0.mp q)
    refine go_aload_n dX2_lineNamed_11 0 rfl ?_
    refine go_ldcS 1 (by decide) rfl rfl dX2_lineNamed_12 ?_
    refine go_callV (st := []) (kX2_isName (d + 0) 1 (by decide) T s c1 c2) rfl rfl okX2_isName insX2_isName selX2_isName lkX2_95 rfl rfl (Nat.le_of_ble_eq_true rfl) dX2_lineNamed_14 (fun v_ m2_ q => ?_)
    rw [q.1, q.2]
    refine go_stk (st2 := [.int (bI (isN T s.2.2 1 = true))]) rfl ?_
    refine go_if_eq 22 dX2_lineNamed_17 (by decide) (fun q => ?_) (fun q => ?_)
    · have h := h.1 (bI0.mp q)
      refine go_aload_n dX2_lineNamed_22 0 rfl ?_
      refine go_ldcS 2 (by decide) rfl rfl dX2_lineNamed_23 ?_
      refine go_callV (st := []) (kX2_isName (d + 0) 2 (by decide) T s c1 c2) rfl rfl okX2_isName insX2_isName selX2_isName lkX2_95 rfl rfl (Nat.le_of_ble_eq_true rfl) dX2_lineNamed_25 (fun v_ m2_ q => ?_)
      rw [q.1, q.2]
      refine go_stk (st2 := [.int (bI (isN T s.2.2 2 = true))]) rfl ?_
      refine go_if_eq 33 dX2_lineNamed_28 (by decide) (fun q => ?_) (fun q => ?_)
      · have h := h.1 (bI0.mp q)
        refine go_aload_n dX2_lineNamed_33 0 rfl ?_
        refine go_ldcS 3 (by decide) rfl rfl dX2_lineNamed_34 ?_
        refine go_callV (st := []) (kX2_isName (d + 0) 3 (by decide) T s c1 c2) rfl rfl okX2_isName insX2_isName selX2_isName lkX2_95 rfl rfl (Nat.le_of_ble_eq_true rfl) dX2_lineNamed_36 (fun v_ m2_ q => ?_)
        rw [q.1, q.2]
        refine go_stk (st2 := [.int (bI (isN T s.2.2 3 = true))]) rfl ?_
        refine go_if_eq 44 dX2_lineNamed_39 (by decide) (fun q => ?_) (fun q => ?_)
        · have h := h.1 (bI0.mp q)
          refine go_aload_n dX2_lineNamed_44 0 rfl ?_
          refine go_ldcS 4 (by decide) rfl rfl dX2_lineNamed_45 ?_
          refine go_callV (st := []) (kX2_isName (d + 0) 4 (by decide) T s c1 c2) rfl rfl okX2_isName insX2_isName selX2_isName lkX2_95 rfl rfl (Nat.le_of_ble_eq_true rfl) dX2_lineNamed_47 (fun v_ m2_ q => ?_)
          rw [q.1, q.2]
          refine go_stk (st2 := [.int (bI (isN T s.2.2 4 = true))]) rfl ?_
          refine go_if_eq 57 dX2_lineNamed_50 (by decide) (fun q => ?_) (fun q => ?_)
          · have h := h.1 (bI0.mp q)
            refine go_iconst (v := 5) dX2_lineNamed_57 (by decide) ?_
            exact go_iret rfl dX2_lineNamed_58 h
          · have h := h.2 (bI1.mp q)
            refine go_iconst (v := 4) dX2_lineNamed_53 (by decide) ?_
            refine go_goto 58 dX2_lineNamed_54 (by decide) ?_
            exact go_iret rfl dX2_lineNamed_58 h
        · have h := h.2 (bI1.mp q)
          refine go_iconst (v := 3) dX2_lineNamed_42 (by decide) ?_
          exact go_iret rfl dX2_lineNamed_43 h
      · have h := h.2 (bI1.mp q)
        refine go_iconst (v := 2) dX2_lineNamed_31 (by decide) ?_
        exact go_iret rfl dX2_lineNamed_32 h
    · have h := h.2 (bI1.mp q)
      refine go_iconst (v := 1) dX2_lineNamed_20 (by decide) ?_
      exact go_iret rfl dX2_lineNamed_21 h
  · have h := h.2 (bI1.mp q)
    refine go_iconst (v := 0) dX2_lineNamed_9 (by decide) ?_
    exact go_iret rfl dX2_lineNamed_10 h


/-- which of the five names the token is; 5: none -/
def nmN (T : Tp) (q : Nat) : Nat := if isN T q 0 = true then 0 else if isN T q 1 = true then 1 else if isN T q 2 = true then 2 else if isN T q 3 = true then 3 else if isN T q 4 = true then 4 else 5
theorem nmN_le {T : Tp} {q : Nat} : nmN T q ≤ 5 := by
  unfold nmN
  repeat' split
  all_goals decide
theorem kX2_lineNamed {G : GX} (d : Nat) {mem : Mem} (T : Tp) (s : Rs) (h0 : s.1 = 0) (h : RsC T s mem) : Cn G (d + 5) mX2_lineNamed [.ref 23] mem (Ri (nI (nmN T s.2.2)) (fun m2 => m2 = mem)) := by
  refine cn_of (by decide +kernel) (Nat.le_of_ble_eq_true rfl) (sX2_lineNamed_0 T s ?_)
  exact ⟨h0, h, ⟨fun a0 => ⟨fun a1 => ⟨fun a2 => ⟨fun a3 => ⟨fun a4 => (Ri.mk (by unfold nmN; rw [if_neg a0, if_neg a1, if_neg a2, if_neg a3, if_neg a4]; rfl) rfl), fun a4 => (Ri.mk (by unfold nmN; rw [if_neg a0, if_neg a1, if_neg a2, if_neg a3, if_pos a4]; rfl) rfl)⟩, fun a3 => (Ri.mk (by unfold nmN; rw [if_neg a0, if_neg a1, if_neg a2, if_pos a3]; rfl) rfl)⟩, fun a2 => (Ri.mk (by unfold nmN; rw [if_neg a0, if_neg a1, if_pos a2]; rfl) rfl)⟩, fun a1 => (Ri.mk (by unfold nmN; rw [if_neg a0, if_pos a1]; rfl) rfl)⟩, fun a0 => (Ri.mk (by unfold nmN; rw [if_pos a0]; rfl) rfl)⟩⟩
