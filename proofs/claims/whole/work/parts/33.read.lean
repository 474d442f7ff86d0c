set_option maxRecDepth 100000 in
theorem sX4_faultOfPair_0 {G : GX} {d : Nat} {mem : Mem} {Φ : Option Value → Mem → Prop} (s : Nat) (hS : SheetAt s) (a1 : Int32) (a2 : Int32) (h : (((mem s 1) = (-1) → ∀ y1 : Int32, y1 = (fltI (mem s 1) (mem s 2) a2) → ((y1 = 0 → Φ (some (.int (fltI (mem s 1) (mem s 2) (a2 + 1)))) mem) ∧ (¬ y1 = 0 → Φ (some (.int y1)) mem))) ∧ (¬ (mem s 1) = (-1) → (((mem s 1) = a1 → ∀ y2 : Int32, y2 = (fltI (mem s 1) (mem s 2) a2) → ((y2 = 0 → Φ (some (.int (fltI (mem s 1) (mem s 2) (a2 + 1)))) mem) ∧ (¬ y2 = 0 → Φ (some (.int y2)) mem))) ∧ (¬ (mem s 1) = a1 → Φ (some (.int 3)) mem))))) : Go G (d + 1) mX4_faultOfPair 0 [(0, .ref s), (1, .int a1), (2, .int a2)] [] mem Φ := by
  refine go_aload_n dX4_faultOfPair_0 0 rfl ?_
  refine go_getI (kf := 1) hS.1 rfl rfl uwX4 (by decide) flX4_15 dX4_faultOfPair_1 ?_
  refine go_iconst (v := (-1)) dX4_faultOfPair_4 (by decide) ?_
  refine go_icmp_eq 18 dX4_faultOfPair_5 (by decide) (fun q => ?_) (fun q => ?_)
  · have h := h.1 q
    refine go_aload_n dX4_faultOfPair_18 0 rfl ?_
    refine go_iload_n dX4_faultOfPair_19 2 rfl ?_
    refine go_callV (st := []) (kX4_faultAt (d + 0) s hS a2) hS.1 rfl okX4_faultAt insX4_faultAt selX4_faultAt lkX4_28 rfl rfl (Nat.le_of_ble_eq_true rfl) dX4_faultOfPair_20 (fun v_ m2_ q => ?_)
    rw [q.1, q.2]
    refine go_stk (st2 := [.int (fltI (mem s 1) (mem s 2) a2)]) rfl ?_
    refine go_topi (fun y1 qy1 => ?_)
    have h := h y1 qy1
    refine go_istore_n (L2 := [(3, .int y1), (0, .ref s), (1, .int a1), (2, .int a2)]) dX4_faultOfPair_23 (by decide) rfl ?_
    refine go_iload_n dX4_faultOfPair_24 0 rfl ?_
    refine go_if_eq 32 dX4_faultOfPair_25 (by decide) (fun q => ?_) (fun q => ?_)
    · have h := h.1 q
      refine go_aload_n dX4_faultOfPair_32 1 rfl ?_
      refine go_iload_n dX4_faultOfPair_33 3 rfl ?_
      refine go_iconst (v := 1) dX4_faultOfPair_34 (by decide) ?_
      refine go_iadd dX4_faultOfPair_35 ?_
      refine go_callV (st := []) (kX4_faultAt (d + 0) s hS (a2 + 1)) hS.1 rfl okX4_faultAt insX4_faultAt selX4_faultAt lkX4_28 rfl rfl (Nat.le_of_ble_eq_true rfl) dX4_faultOfPair_36 (fun v_ m2_ q => ?_)
      rw [q.1, q.2]
      refine go_stk (st2 := [.int (fltI (mem s 1) (mem s 2) (a2 + 1))]) rfl ?_
      exact go_iret rfl dX4_faultOfPair_39 h
    · have h := h.2 q
      refine go_iload_n dX4_faultOfPair_28 0 rfl ?_
      refine go_goto 39 dX4_faultOfPair_29 (by decide) ?_
      exact go_iret rfl dX4_faultOfPair_39 h
  · have h := h.2 q
    refine go_aload_n dX4_faultOfPair_8 0 rfl ?_
    refine go_getI (kf := 1) hS.1 rfl rfl uwX4 (by decide) flX4_15 dX4_faultOfPair_9 ?_
    refine go_iload_n dX4_faultOfPair_12 1 rfl ?_
    refine go_icmp_eq 18 dX4_faultOfPair_13 (by decide) (fun q => ?_) (fun q => ?_)
    · have h := h.1 q
      refine go_aload_n dX4_faultOfPair_18 0 rfl ?_
      refine go_iload_n dX4_faultOfPair_19 2 rfl ?_
      refine go_callV (st := []) (kX4_faultAt (d + 0) s hS a2) hS.1 rfl okX4_faultAt insX4_faultAt selX4_faultAt lkX4_28 rfl rfl (Nat.le_of_ble_eq_true rfl) dX4_faultOfPair_20 (fun v_ m2_ q => ?_)
      rw [q.1, q.2]
      refine go_stk (st2 := [.int (fltI (mem s 1) (mem s 2) a2)]) rfl ?_
      refine go_topi (fun y2 qy2 => ?_)
      have h := h y2 qy2
      refine go_istore_n (L2 := [(3, .int y2), (0, .ref s), (1, .int a1), (2, .int a2)]) dX4_faultOfPair_23 (by decide) rfl ?_
      refine go_iload_n dX4_faultOfPair_24 0 rfl ?_
      refine go_if_eq 32 dX4_faultOfPair_25 (by decide) (fun q => ?_) (fun q => ?_)
      · have h := h.1 q
        refine go_aload_n dX4_faultOfPair_32 1 rfl ?_
        refine go_iload_n dX4_faultOfPair_33 3 rfl ?_
        refine go_iconst (v := 1) dX4_faultOfPair_34 (by decide) ?_
        refine go_iadd dX4_faultOfPair_35 ?_
        refine go_callV (st := []) (kX4_faultAt (d + 0) s hS (a2 + 1)) hS.1 rfl okX4_faultAt insX4_faultAt selX4_faultAt lkX4_28 rfl rfl (Nat.le_of_ble_eq_true rfl) dX4_faultOfPair_36 (fun v_ m2_ q => ?_)
        rw [q.1, q.2]
        refine go_stk (st2 := [.int (fltI (mem s 1) (mem s 2) (a2 + 1))]) rfl ?_
        exact go_iret rfl dX4_faultOfPair_39 h
      · have h := h.2 q
        refine go_iload_n dX4_faultOfPair_28 0 rfl ?_
        refine go_goto 39 dX4_faultOfPair_29 (by decide) ?_
        exact go_iret rfl dX4_faultOfPair_39 h
    · have h := h.2 q
      refine go_iconst (v := 3) dX4_faultOfPair_16 (by decide) ?_
      exact go_iret rfl dX4_faultOfPair_17 h

set_option maxRecDepth 100000 in
theorem sX0_takesHand_0 {G : GX} {d : Nat} {mem : Mem} {Φ : Option Value → Mem → Prop} (b : Nat) (hB : BeamAt b) (a1 a2 : Int32) (c : Nat) (X : Bm) (h : ((¬ (0 ≤ a1 ∧ a1 ≤ ((mem b 4) - 1)) → Φ (some (.int 0)) mem) ∧ ((0 ≤ a1 ∧ a1 ≤ ((mem b 4) - 1)) → (a1 = nI c) ∧ (xn X ≤ 5) ∧ (c < xn X) ∧ (RepB mem b X) ∧ ∀ m5 : Mem, (RepB m5 b (alH X c a2).2 ∧ FrB b mem m5) → (((alH X c a2).1 < 0 → Φ (some (.int 0)) m5) ∧ (¬ (alH X c a2).1 < 0 → Φ (some (.int 1)) m5))))) : Go G (d + 2) mX0_takesHand 0 [(0, .ref b), (1, .int a1), (2, .int a2)] [] mem Φ := by
  refine go_iload_n dX0_takesHand_0 1 rfl ?_
  refine go_iconst (v := 0) dX0_takesHand_1 (by decide) ?_
  refine go_aload_n dX0_takesHand_2 0 rfl ?_
  refine go_getI (kf := 4) hB.1 rfl rfl uwX0 (by decide) flX0_28 dX0_takesHand_3 ?_
  refine go_iconst (v := 1) dX0_takesHand_6 (by decide) ?_
  refine go_isub dX0_takesHand_7 ?_
  refine go_callSN (st := []) (kX5_isWithin (d + 1) a1 0 ((mem b 4) - 1)) okX5_isWithin staX5_isWithin (fun U h => h.2.2) rfl rfl (Nat.le_of_ble_eq_true rfl) dX0_takesHand_8 (fun v_ m2_ q => ?_)
  rw [q.1, q.2]
  refine go_stk (st2 := [.int (bI (0 ≤ a1 ∧ a1 ≤ ((mem b 4) - 1)))]) rfl ?_
  refine go_if_eq 27 dX0_takesHand_11 (by decide) (fun q => ?_) (fun q => ?_)
  · have h := h.1 (bI0.mp q)
    refine go_iconst (v := 0) dX0_takesHand_27 (by decide) ?_
    exact go_zret (ty := .boolean) rfl rfl dX0_takesHand_28 h
  · have h := h.2 (bI1.mp q)
    refine go_aload_n dX0_takesHand_14 0 rfl ?_
    refine go_iload_n dX0_takesHand_15 1 rfl ?_
    refine go_iload_n dX0_takesHand_16 2 rfl ?_
    obtain ⟨c1, h⟩ := h
    obtain ⟨c2, h⟩ := h
    obtain ⟨c3, h⟩ := h
    obtain ⟨c4, h⟩ := h
    refine go_callV (st := []) (kX0_alterHandI (d + 0) b hB a1 c a2 X c1 c2 c3 c4) hB.1 rfl okX0_alterHand insX0_alterHand selX0_alterHand lkX0_44 rfl rfl (Nat.le_of_ble_eq_true rfl) dX0_takesHand_17 (fun v_ m5 q => ?_)
    rw [q.1]
    have h := h m5 q.2
    refine go_stk (st2 := [.int (alH X c a2).1]) rfl ?_
    refine go_if_lt 27 dX0_takesHand_20 (by decide) (fun q => ?_) (fun q => ?_)
    · have h := h.1 q
      refine go_iconst (v := 0) dX0_takesHand_27 (by decide) ?_
      exact go_zret (ty := .boolean) rfl rfl dX0_takesHand_28 h
    · have h := h.2 q
      refine go_iconst (v := 1) dX0_takesHand_23 (by decide) ?_
      refine go_goto 28 dX0_takesHand_24 (by decide) ?_
      exact go_zret (ty := .boolean) rfl rfl dX0_takesHand_28 h


def fpI (l n a i : Int32) : Int32 := if ¬ l = -1 ∧ ¬ l = a then 3 else if fltI l n i = 0 then fltI l n (i + 1) else fltI l n i
theorem kX4_faultOfPair {G : GX} (d : Nat) {mem : Mem} (s : Nat) (hS : SheetAt s) (a i : Int32) : Cn G (d + 1) mX4_faultOfPair [.ref s, .int a, .int i] mem (Ri (fpI (mem s 1) (mem s 2) a i) (fun m2 => m2 = mem)) := by
  refine cn_of (by decide +kernel) (Nat.le_of_ble_eq_true rfl) (sX4_faultOfPair_0 s hS a i ⟨fun q => fun y1 e => ⟨fun z => Ri.mk ?_ rfl, fun z => Ri.mk ?_ rfl⟩, fun q => ⟨fun q2 => fun y1 e => ⟨fun z => Ri.mk ?_ rfl, fun z => Ri.mk ?_ rfl⟩, fun q2 => Ri.mk ?_ rfl⟩⟩) <;> unfold fpI
  · rw [e] at z; rw [if_neg (fun w => w.1 q), if_pos z]
  · rw [if_neg (fun w => w.1 q), if_neg (by rw [← e]; exact z), e]
  · rw [e] at z; rw [if_neg (fun w => w.2 q2), if_pos z]
  · rw [if_neg (fun w => w.2 q2), if_neg (by rw [← e]; exact z), e]
  · rw [if_pos ⟨q, q2⟩]
theorem kX0_takesHand {G : GX} (d : Nat) {mem : Mem} (b : Nat) (hB : BeamAt b) (c v : Int32) (X : Bm) (hV : VX 9 30 X) (hR : RepB mem b X) : Cn G (d + 2) mX0_takesHand [.ref b, .int c, .int v] mem (Ri (bI (0 ≤ (alA X c 2 v).1)) (fun m2 => RepB m2 b (alA X c 2 v).2 ∧ FrB b mem m2)) := by
  have hn := hV.1
  refine cn_of (by decide +kernel) (Nat.le_of_ble_eq_true rfl) (sX0_takesHand_0 b hB c v c.toNatClampNeg X ?_)
  rw [hR.1]
  have ei : (0 ≤ c ∧ c ≤ nI (xn X) - 1) ↔ isC X c := isC_M hn
  rw [ei]
  refine ⟨fun q => ?_, fun q => ?_⟩
  · have e : alA X c 2 v = (-1, X) := by unfold alA; rw [if_neg q]
    rw [e]
    exact Ri.mk (bIf (show ¬ (0 : Int32) ≤ -1 by decide)).symm ⟨hR, FrB.rf⟩
  · have e : alA X c 2 v = alH X c.toNatClampNeg v := by
      unfold alA; rw [if_pos q, if_neg (by decide), if_neg (by decide), if_pos rfl]
    rw [e]
    obtain ⟨i, hi, rfl⟩ := isC_n q hn
    rw [ncl (show i < 2000000000 by omega)]
    exact ⟨rfl, hn, hi, hR, fun m5 h5 => ⟨fun z => Ri.mk (bIf (fun w => (fa_of_lt z).2.1 w)).symm h5, fun z => Ri.mk (bIt (fa_of_nlt z)).symm h5⟩⟩
def rdX (ft c v : Nat → Int32) : Nat → Nat → Bm → Int32 × Int32 × Option Bm
  | 0, i, Y => (nI i, 0, some Y)
  | r + 1, i, Y => if ft i = 0 then (if 0 ≤ (alA Y (c i) 2 (v i)).1 then rdX ft c v r (i + 1) (alA Y (c i) 2 (v i)).2 else (-20 - nI i, 0, none)) else (nI i, ft i, some Y)

set_option maxRecDepth 100000 in
theorem sX5_read_0 {G : GX} {d : Nat} {mem : Mem} {Φ : Option Value → Mem → Prop} (a1 a2 a3 a4 : Int32) (X Y : Bm) (h : ((¬ (0 ≤ a1 ∧ a1 < 4) → Φ (some (.int (-1))) mem) ∧ ((0 ≤ a1 ∧ a1 < 4) → ((¬ (0 ≤ a2 ∧ a2 ≤ 2) → Φ (some (.int (-1))) mem) ∧ ((0 ≤ a2 ∧ a2 ≤ 2) → (((0 ≤ a4 ∧ a4 ≤ 20) → (xn X ≤ 5) ∧ (RepB mem 1 X) ∧ ∀ m3 : Mem, (RepB m3 6 X ∧ FrB 6 mem m3) → (vp_in a1 4) ∧ ∃ t5 : Nat, (([31, 33, 35, 37] : List Nat)[(a1 : Int32).toNatClampNeg]? = some t5 ∧ SheetAt t5) ∧ Go G (d + 3) mX5_read 48 [(0, .ref 0), (2, .int a2), (3, .int a3), (4, .int a4), (5, .ref t5), (6, .int 0), (7, .int 0)] [] m3 Φ) ∧ (¬ (0 ≤ a4 ∧ a4 ≤ 20) → Φ (some (.int (-1))) mem))))))) : Go G (d + 3) mX5_read 0 [(0, .ref 0), (1, .int a1), (2, .int a2), (3, .int a3), (4, .int a4)] [] mem Φ := by
  refine go_iload_n dX5_read_0 1 rfl ?_
  refine go_callS (st := []) (kX5_isSheet (d + 2) a1) okX5_isSheet staX5_isSheet lkX5_240 rfl rfl (Nat.le_of_ble_eq_true rfl) dX5_read_1 (fun v_ m2_ q => ?_)
  rw [q.1, q.2]
  refine go_stk (st2 := [.int (bI (0 ≤ a1 ∧ a1 < 4))]) rfl ?_
  refine go_if_eq 27 dX5_read_4 (by decide) (fun q => ?_) (fun q => ?_)
  · have h := h.1 (bI0.mp q)
    refine go_iconst (v := (-1)) dX5_read_27 (by decide) ?_
    exact go_iret rfl dX5_read_28 h
  · have h := h.2 (bI1.mp q)
    refine go_iload_n dX5_read_7 2 rfl ?_
    refine go_iconst (v := 0) dX5_read_8 (by decide) ?_
    refine go_iconst (v := 2) dX5_read_9 (by decide) ?_
    refine go_callS (st := []) (kX5_isWithin (d + 2) a2 0 2) okX5_isWithin staX5_isWithin lkX5_59 rfl rfl (Nat.le_of_ble_eq_true rfl) dX5_read_10 (fun v_ m2_ q => ?_)
    rw [q.1, q.2]
    refine go_stk (st2 := [.int (bI (0 ≤ a2 ∧ a2 ≤ 2))]) rfl ?_
    refine go_if_eq 27 dX5_read_13 (by decide) (fun q => ?_) (fun q => ?_)
    · have h := h.1 (bI0.mp q)
      refine go_iconst (v := (-1)) dX5_read_27 (by decide) ?_
      exact go_iret rfl dX5_read_28 h
    · have h := h.2 (bI1.mp q)
      refine go_iload dX5_read_16 4 rfl ?_
      refine go_iconst (v := 0) dX5_read_18 (by decide) ?_
      refine go_bipush (v := 20) dX5_read_19 (by decide) ?_
      refine go_callS (st := []) (kX5_isWithin (d + 2) a4 0 20) okX5_isWithin staX5_isWithin lkX5_59 rfl rfl (Nat.le_of_ble_eq_true rfl) dX5_read_21 (fun v_ m2_ q => ?_)
      rw [q.1, q.2]
      refine go_stk (st2 := [.int (bI (0 ≤ a4 ∧ a4 ≤ 20))]) rfl ?_
      refine go_if_ne 29 dX5_read_24 (by decide) (fun q => ?_) (fun q => ?_)
      · have h := h.1 (bI1.mp q)
        refine go_aload_n dX5_read_29 0 rfl ?_
        obtain ⟨c1, h⟩ := h
        obtain ⟨c2, h⟩ := h
        refine go_callV (st := []) (kX5_tryNow (d + 0) X c1 c2) rfl rfl okX5_tryNow insX5_tryNow selX5_tryNow lkX5_112 rfl rfl (Nat.le_of_ble_eq_true rfl) dX5_read_30 (fun v_ m3 q => ?_)
        rw [q.1]
        have h := h m3 q.2
        refine go_stk (st2 := [.ref 6]) rfl ?_
        refine go_pop dX5_read_33 rfl ?_
        refine go_aload_n dX5_read_34 0 rfl ?_
        refine go_getR (kf := 6) (t := 29) rfl rfl rfl uwX5 (by decide) flX5_43 dX5_read_35 ?_
        refine go_iload_n dX5_read_38 1 rfl ?_
        obtain ⟨c4, h⟩ := h
        obtain ⟨t5, ⟨e6, hb7⟩, h⟩ := h
        refine go_aaload rfl c4 e6 dX5_read_39 ?_
        refine go_astore (L2 := [(5, .ref t5), (0, .ref 0), (1, .int a1), (2, .int a2), (3, .int a3), (4, .int a4)]) dX5_read_40 (by decide) rfl ?_
        refine go_iconst (v := 0) dX5_read_42 (by decide) ?_
        refine go_istore (L2 := [(6, .int 0), (5, .ref t5), (0, .ref 0), (1, .int a1), (2, .int a2), (3, .int a3), (4, .int a4)]) dX5_read_43 (by decide) rfl ?_
        refine go_iconst (v := 0) dX5_read_45 (by decide) ?_
        refine go_istore (L2 := [(7, .int 0), (6, .int 0), (5, .ref t5), (0, .ref 0), (1, .int a1), (2, .int a2), (3, .int a3), (4, .int a4)]) dX5_read_46 (by decide) rfl ?_
        exact Go.pick [3, 5, 6, 7, 2, 1, 0] rfl h
      · have h := h.2 (bI0.mp q)
        refine go_iconst (v := (-1)) dX5_read_27 (by decide) ?_
        exact go_iret rfl dX5_read_28 h

set_option maxRecDepth 100000 in
theorem sX5_read_48 {G : GX} {d : Nat} {mem : Mem} {Φ : Option Value → Mem → Prop} (s : Nat) (hS : SheetAt s) (a2 a3 a4 : Int32) (i : Nat) (f : Int32) (X Y : Bm) (h : ((a4 ≤ (nI i) → (1 + 4 < 6 ∨ 6 + 4 < 1) ∧ (xn Y ≤ 5) ∧ (RepB mem 6 Y) ∧ ∀ m4 : Mem, (RepB m4 1 Y ∧ FrB 1 mem m4) → Φ (some (.int (nI i))) (um m4 0 10 f)) ∧ (¬ a4 ≤ (nI i) → ∀ y5 : Int32, y5 = (a3 + (2 * (nI i))) → ∀ y6 : Int32, y6 = (fpI (mem s 1) (mem s 2) a2 y5) → ((y6 = 0 → (vp_in y5 40) ∧ (vp_in (y5 + 1) 40) ∧ (VX 9 30 Y) ∧ (RepB mem 6 Y) ∧ ∀ m11 : Mem, (RepB m11 6 (alA Y (mem (s + 1) (y5 : Int32).toNatClampNeg) 2 (mem (s + 1) ((y5 + 1) : Int32).toNatClampNeg)).2 ∧ FrB 6 mem m11) → (((0 ≤ (alA Y (mem (s + 1) (y5 : Int32).toNatClampNeg) 2 (mem (s + 1) ((y5 + 1) : Int32).toNatClampNeg)).1) → Go G (d + 3) mX5_read 48 [(0, .ref 0), (2, .int a2), (3, .int a3), (4, .int a4), (5, .ref s), (6, .int ((nI i) + 1)), (7, .int y6)] [] m11 Φ) ∧ (¬ (0 ≤ (alA Y (mem (s + 1) (y5 : Int32).toNatClampNeg) 2 (mem (s + 1) ((y5 + 1) : Int32).toNatClampNeg)).1) → Φ (some (.int ((-20) - (nI i)))) m11))) ∧ (¬ y6 = 0 → (1 + 4 < 6 ∨ 6 + 4 < 1) ∧ (xn Y ≤ 5) ∧ (RepB mem 6 Y) ∧ ∀ m15 : Mem, (RepB m15 1 Y ∧ FrB 1 mem m15) → Φ (some (.int (nI i))) (um m15 0 10 y6)))))) : Go G (d + 3) mX5_read 48 [(0, .ref 0), (2, .int a2), (3, .int a3), (4, .int a4), (5, .ref s), (6, .int (nI i)), (7, .int f)] [] mem Φ := by
  refine go_iload dX5_read_48 5 rfl ?_
  refine go_iload dX5_read_50 3 rfl ?_
  refine go_icmp_ge 121 dX5_read_52 (by decide) (fun q => ?_) (fun q => ?_)
  · have h := h.1 q
    refine go_aload_n dX5_read_121 0 rfl ?_
    refine go_getR (kf := 0) (t := 1) rfl rfl rfl uwX5 (by decide) flX5_12 dX5_read_122 ?_
    refine go_aload_n dX5_read_125 0 rfl ?_
    refine go_getR (kf := 1) (t := 6) rfl rfl rfl uwX5 (by decide) flX5_16 dX5_read_126 ?_
    obtain ⟨c1, h⟩ := h
    obtain ⟨c2, h⟩ := h
    obtain ⟨c3, h⟩ := h
    refine go_callV (st := []) (kX0_takeFrom (d + 1) 1 bA1 6 bA6 Y c1 c2 c3) rfl rfl okX0_takeFrom insX0_takeFrom selX0_takeFrom lkX5_87 rfl rfl (Nat.le_of_ble_eq_true rfl) dX5_read_129 (fun v_ m4 q => ?_)
    rw [q.1]
    have h := h m4 q.2
    refine go_stk (st2 := []) rfl ?_
    refine go_aload_n dX5_read_132 0 rfl ?_
    refine go_iload dX5_read_133 6 rfl ?_
    refine go_putI (kf := 10) rfl rfl rfl uwX5 tyX5_ok nmX5 (by decide) rfl flX5_261 rfl rfl dX5_read_135 ?_
    refine go_iload dX5_read_138 5 rfl ?_
    exact go_iret rfl dX5_read_140 h
  · have h := h.2 q
    refine go_iload_n dX5_read_55 2 rfl ?_
    refine go_iconst (v := 2) dX5_read_56 (by decide) ?_
    refine go_iload dX5_read_57 5 rfl ?_
    refine go_imul dX5_read_59 ?_
    refine go_iadd dX5_read_60 ?_
    refine go_topi (fun y5 qy5 => ?_)
    have h := h y5 qy5
    refine go_istore (L2 := [(8, .int y5), (0, .ref 0), (2, .int a2), (3, .int a3), (4, .int a4), (5, .ref s), (6, .int (nI i)), (7, .int f)]) dX5_read_61 (by decide) rfl ?_
    refine go_aload dX5_read_63 5 rfl ?_
    refine go_iload_n dX5_read_65 2 rfl ?_
    refine go_iload dX5_read_66 0 rfl ?_
    refine go_callV (st := []) (kX4_faultOfPair (d + 1) s hS a2 y5) hS.1 rfl okX4_faultOfPair insX4_faultOfPair selX4_faultOfPair lkX5_252 rfl rfl (Nat.le_of_ble_eq_true rfl) dX5_read_68 (fun v_ m2_ q => ?_)
    rw [q.1, q.2]
    refine go_stk (st2 := [.int (fpI (mem s 1) (mem s 2) a2 y5)]) rfl ?_
    refine go_topi (fun y6 qy6 => ?_)
    have h := h y6 qy6
    refine go_istore (L2 := [(7, .int y6), (8, .int y5), (0, .ref 0), (2, .int a2), (3, .int a3), (4, .int a4), (5, .ref s), (6, .int (nI i))]) dX5_read_71 (by decide) rfl ?_
    refine go_iload dX5_read_73 0 rfl ?_
    refine go_if_eq 81 dX5_read_75 (by decide) (fun q => ?_) (fun q => ?_)
    · have h := h.1 q
      refine go_aload_n dX5_read_81 2 rfl ?_
      refine go_getR (kf := 1) (t := 6) rfl rfl rfl uwX5 (by decide) flX5_16 dX5_read_82 ?_
      refine go_aload dX5_read_85 6 rfl ?_
      refine go_getR (kf := 0) (t := (s + 1)) hS.1 rfl rfl uwX4 (by decide) flX5_255 dX5_read_87 ?_
      refine go_iload dX5_read_90 1 rfl ?_
      obtain ⟨c7, h⟩ := h
      refine go_iaload hS.2 c7 dX5_read_92 ?_
      refine go_aload dX5_read_93 6 rfl ?_
      refine go_getR (kf := 0) (t := (s + 1)) hS.1 rfl rfl uwX4 (by decide) flX5_255 dX5_read_95 ?_
      refine go_iload dX5_read_98 1 rfl ?_
      refine go_iconst (v := 1) dX5_read_100 (by decide) ?_
      refine go_iadd dX5_read_101 ?_
      obtain ⟨c8, h⟩ := h
      refine go_iaload hS.2 c8 dX5_read_102 ?_
      obtain ⟨c9, h⟩ := h
      obtain ⟨c10, h⟩ := h
      refine go_callV (st := []) (kX0_takesHand (d + 0) 6 bA6 (mem (s + 1) (y5 : Int32).toNatClampNeg) (mem (s + 1) ((y5 + 1) : Int32).toNatClampNeg) Y c9 c10) rfl rfl okX0_takesHand insX0_takesHand selX0_takesHand lkX5_258 rfl rfl (Nat.le_of_ble_eq_true rfl) dX5_read_103 (fun v_ m11 q => ?_)
      rw [q.1]
      have h := h m11 q.2
      refine go_stk (st2 := [.int (bI (0 ≤ (alA Y (mem (s + 1) (y5 : Int32).toNatClampNeg) 2 (mem (s + 1) ((y5 + 1) : Int32).toNatClampNeg)).1))]) rfl ?_
      refine go_if_ne 115 dX5_read_106 (by decide) (fun q => ?_) (fun q => ?_)
      · have h := h.1 (bI1.mp q)
        refine go_iinc (v := ((nI i) + 1)) (L2 := [(6, .int ((nI i) + 1)), (7, .int y6), (8, .int y5), (0, .ref 0), (2, .int a2), (3, .int a3), (4, .int a4), (5, .ref s)]) dX5_read_115 7 rfl rfl (by decide) rfl ?_
        refine go_goto 48 dX5_read_118 (by decide) ?_
        exact Go.pick [3, 4, 5, 6, 7, 0, 1] rfl h
      · have h := h.2 (bI0.mp q)
        refine go_bipush (v := (-20)) dX5_read_109 (by decide) ?_
        refine go_iload dX5_read_111 7 rfl ?_
        refine go_isub dX5_read_113 ?_
        exact go_iret rfl dX5_read_114 h
    · have h := h.2 q
      refine go_goto 121 dX5_read_78 (by decide) ?_
      refine go_aload_n dX5_read_121 2 rfl ?_
      refine go_getR (kf := 0) (t := 1) rfl rfl rfl uwX5 (by decide) flX5_12 dX5_read_122 ?_
      refine go_aload_n dX5_read_125 2 rfl ?_
      refine go_getR (kf := 1) (t := 6) rfl rfl rfl uwX5 (by decide) flX5_16 dX5_read_126 ?_
      obtain ⟨c12, h⟩ := h
      obtain ⟨c13, h⟩ := h
      obtain ⟨c14, h⟩ := h
      refine go_callV (st := []) (kX0_takeFrom (d + 1) 1 bA1 6 bA6 Y c12 c13 c14) rfl rfl okX0_takeFrom insX0_takeFrom selX0_takeFrom lkX5_87 rfl rfl (Nat.le_of_ble_eq_true rfl) dX5_read_129 (fun v_ m15 q => ?_)
      rw [q.1]
      have h := h m15 q.2
      refine go_stk (st2 := []) rfl ?_
      refine go_aload_n dX5_read_132 2 rfl ?_
      refine go_iload dX5_read_133 0 rfl ?_
      refine go_putI (kf := 10) rfl rfl rfl uwX5 tyX5_ok nmX5 (by decide) rfl flX5_261 rfl rfl dX5_read_135 ?_
      refine go_iload dX5_read_138 7 rfl ?_
      exact go_iret rfl dX5_read_140 h

set_option maxRecDepth 100000 in
theorem sX6_read_0 {G : GX} {d : Nat} {mem : Mem} {Φ : Option Value → Mem → Prop} (a1 a2 a3 a4 : Int32) (X Y : Bm) (h : ((¬ (0 ≤ a1 ∧ a1 ≤ 3) → Φ (some (.int (-1))) mem) ∧ ((0 ≤ a1 ∧ a1 ≤ 3) → ((¬ (0 ≤ a2 ∧ a2 ≤ 2) → Φ (some (.int (-1))) mem) ∧ ((0 ≤ a2 ∧ a2 ≤ 2) → (((0 ≤ a4 ∧ a4 ≤ 20) → (0 = nI 0 ∧ 69 = nI 69) ∧ (0 ≤ 115 ∧ 69 ≤ 115 ∧ (0 + 23 ≤ 69 ∨ 69 + 23 ≤ 0)) ∧ Go G (d + 3) mX6_read 55 [(0, .ref 40), (1, .int a1), (2, .int a2), (3, .int a3), (4, .int a4), (5, .int 0), (6, .int 0), (7, .int 0)] [] (cpM mem 0 69) Φ) ∧ (¬ (0 ≤ a4 ∧ a4 ≤ 20) → Φ (some (.int (-1))) mem))))))) : Go G (d + 3) mX6_read 0 [(0, .ref 40), (1, .int a1), (2, .int a2), (3, .int a3), (4, .int a4)] [] mem Φ := by
  refine go_iload_n dX6_read_0 1 rfl ?_
  refine go_i2l dX6_read_1 ?_
  refine go_lconst (v := 0) dX6_read_2 (by decide) ?_
  refine go_ldc2 klX6_141 dX6_read_3 ?_
  refine go_callS (st := []) (kX6_in (d + 2) a1 0 3 0 3 (by decide) (by decide)) okX6_in staX6_in lkX6_50 rfl rfl (Nat.le_of_ble_eq_true rfl) dX6_read_6 (fun v_ m2_ q => ?_)
  rw [q.1, q.2]
  refine go_stk (st2 := [.int (bI (0 ≤ a1 ∧ a1 ≤ 3))]) rfl ?_
  refine go_if_eq 37 dX6_read_9 (by decide) (fun q => ?_) (fun q => ?_)
  · have h := h.1 (bI0.mp q)
    refine go_iconst (v := (-1)) dX6_read_37 (by decide) ?_
    exact go_iret rfl dX6_read_38 h
  · have h := h.2 (bI1.mp q)
    refine go_iload_n dX6_read_12 2 rfl ?_
    refine go_i2l dX6_read_13 ?_
    refine go_lconst (v := 0) dX6_read_14 (by decide) ?_
    refine go_ldc2 klX6_143 dX6_read_15 ?_
    refine go_callS (st := []) (kX6_in (d + 2) a2 0 2 0 2 (by decide) (by decide)) okX6_in staX6_in lkX6_50 rfl rfl (Nat.le_of_ble_eq_true rfl) dX6_read_18 (fun v_ m2_ q => ?_)
    rw [q.1, q.2]
    refine go_stk (st2 := [.int (bI (0 ≤ a2 ∧ a2 ≤ 2))]) rfl ?_
    refine go_if_eq 37 dX6_read_21 (by decide) (fun q => ?_) (fun q => ?_)
    · have h := h.1 (bI0.mp q)
      refine go_iconst (v := (-1)) dX6_read_37 (by decide) ?_
      exact go_iret rfl dX6_read_38 h
    · have h := h.2 (bI1.mp q)
      refine go_iload dX6_read_24 4 rfl ?_
      refine go_i2l dX6_read_26 ?_
      refine go_lconst (v := 0) dX6_read_27 (by decide) ?_
      refine go_ldc2 klX6_215 dX6_read_28 ?_
      refine go_callS (st := []) (kX6_in (d + 2) a4 0 20 0 20 (by decide) (by decide)) okX6_in staX6_in lkX6_50 rfl rfl (Nat.le_of_ble_eq_true rfl) dX6_read_31 (fun v_ m2_ q => ?_)
      rw [q.1, q.2]
      refine go_stk (st2 := [.int (bI (0 ≤ a4 ∧ a4 ≤ 20))]) rfl ?_
      refine go_if_ne 39 dX6_read_34 (by decide) (fun q => ?_) (fun q => ?_)
      · have h := h.1 (bI1.mp q)
        refine go_aload_n dX6_read_39 0 rfl ?_
        refine go_iconst (v := 0) dX6_read_40 (by decide) ?_
        refine go_bipush (v := 69) dX6_read_41 (by decide) ?_
        obtain ⟨c1, h⟩ := h
        obtain ⟨c2, h⟩ := h
        refine go_callV (st := []) (kX6_copiesI (d + 2) 0 69 0 69 c1 c2) rfl rfl okX6_copies insX6_copies selX6_copies lkX6_161 rfl rfl (Nat.le_of_ble_eq_true rfl) dX6_read_43 (fun v_ m2_ q => ?_)
        rw [q.1, q.2]
        refine go_stk (st2 := []) rfl ?_
        refine go_iconst (v := 0) dX6_read_46 (by decide) ?_
        refine go_istore (L2 := [(5, .int 0), (0, .ref 40), (1, .int a1), (2, .int a2), (3, .int a3), (4, .int a4)]) dX6_read_47 (by decide) rfl ?_
        refine go_iconst (v := 0) dX6_read_49 (by decide) ?_
        refine go_istore (L2 := [(6, .int 0), (5, .int 0), (0, .ref 40), (1, .int a1), (2, .int a2), (3, .int a3), (4, .int a4)]) dX6_read_50 (by decide) rfl ?_
        refine go_iconst (v := 0) dX6_read_52 (by decide) ?_
        refine go_istore (L2 := [(7, .int 0), (6, .int 0), (5, .int 0), (0, .ref 40), (1, .int a1), (2, .int a2), (3, .int a3), (4, .int a4)]) dX6_read_53 (by decide) rfl ?_
        exact Go.pick [3, 4, 5, 6, 7, 2, 1, 0] rfl h
      · have h := h.2 (bI0.mp q)
        refine go_iconst (v := (-1)) dX6_read_37 (by decide) ?_
        exact go_iret rfl dX6_read_38 h

set_option maxRecDepth 100000 in
theorem sX6_read_55 {G : GX} {d : Nat} {mem : Mem} {Φ : Option Value → Mem → Prop} (a1 a2 a3 a4 w : Int32) (i : Nat) (f : Int32) (X Y : Bm) (h : (((2 * a4) ≤ f → Φ (some (.int (nI i))) (um mem 40 25 w)) ∧ (¬ (2 * a4) ≤ f → ((¬ w = 0 → Φ (some (.int (nI i))) (um mem 40 25 w)) ∧ (w = 0 → (vp_in a1 4) ∧ ((¬ (mem 49 (a1 : Int32).toNatClampNeg) = (-4) → (((mem 49 (a1 : Int32).toNatClampNeg) = a2 → (((0 ≤ (((a3 : Int32).toInt64) + ((f : Int32).toInt64)) ∧ (((a3 : Int32).toInt64) + ((f : Int32).toInt64)) ≤ ((((mem 50 (a1 : Int32).toNatClampNeg) - 1) : Int32).toInt64)) → ((¬ (f - f / 2 * 2) = 1 → Go G (d + 3) mX6_read 55 [(0, .ref 40), (1, .int a1), (2, .int a2), (3, .int a3), (4, .int a4), (5, .int 0), (6, .int (nI i)), (7, .int (f + 1))] [] mem Φ) ∧ ((f - f / 2 * 2) = 1 → ∀ y2 : Int32, y2 = (((40 * a1) + a3) + f) → (vp_in (y2 - 1) 160) ∧ (vp_in y2 160) ∧ (VX 9 30 Y) ∧ (RepM mem 0 Y) ∧ ∀ m7 : Mem, (RepM m7 0 (alA Y (mem 51 ((y2 - 1) : Int32).toNatClampNeg) 2 (mem 51 (y2 : Int32).toNatClampNeg)).2 ∧ FrM 0 mem m7) → ((0 ≤ (alA Y (mem 51 ((y2 - 1) : Int32).toNatClampNeg) 2 (mem 51 (y2 : Int32).toNatClampNeg)).1 → Go G (d + 3) mX6_read 55 [(0, .ref 40), (1, .int a1), (2, .int a2), (3, .int a3), (4, .int a4), (5, .int 0), (6, .int ((nI i) + 1)), (7, .int (f + 1))] [] m7 Φ) ∧ (¬ 0 ≤ (alA Y (mem 51 ((y2 - 1) : Int32).toNatClampNeg) 2 (mem 51 (y2 : Int32).toNatClampNeg)).1 → (69 = nI 69 ∧ 0 = nI 0) ∧ (69 ≤ 115 ∧ 0 ≤ 115 ∧ (69 + 23 ≤ 0 ∨ 0 + 23 ≤ 69)) ∧ Φ (some (.int ((-20) - (nI i)))) (cpM m7 69 0)))))) ∧ (¬ (0 ≤ (((a3 : Int32).toInt64) + ((f : Int32).toInt64)) ∧ (((a3 : Int32).toInt64) + ((f : Int32).toInt64)) ≤ ((((mem 50 (a1 : Int32).toNatClampNeg) - 1) : Int32).toInt64)) → Go G (d + 3) mX6_read 55 [(0, .ref 40), (1, .int a1), (2, .int a2), (3, .int a3), (4, .int a4), (5, .int 2), (6, .int (nI i)), (7, .int (f + 1))] [] mem Φ))) ∧ (¬ (mem 49 (a1 : Int32).toNatClampNeg) = a2 → Go G (d + 3) mX6_read 55 [(0, .ref 40), (1, .int a1), (2, .int a2), (3, .int a3), (4, .int a4), (5, .int 3), (6, .int (nI i)), (7, .int (f + 1))] [] mem Φ))) ∧ ((mem 49 (a1 : Int32).toNatClampNeg) = (-4) → Go G (d + 3) mX6_read 55 [(0, .ref 40), (1, .int a1), (2, .int a2), (3, .int a3), (4, .int a4), (5, .int 1), (6, .int (nI i)), (7, .int (f + 1))] [] mem Φ))))))) : Go G (d + 3) mX6_read 55 [(0, .ref 40), (1, .int a1), (2, .int a2), (3, .int a3), (4, .int a4), (5, .int w), (6, .int (nI i)), (7, .int f)] [] mem Φ := by
  refine go_iload dX6_read_55 7 rfl ?_
  refine go_iconst (v := 2) dX6_read_57 (by decide) ?_
  refine go_iload dX6_read_58 4 rfl ?_
  refine go_imul dX6_read_60 ?_
  refine go_icmp_ge 197 dX6_read_61 (by decide) (fun q => ?_) (fun q => ?_)
  · have h := h.1 q
    refine go_aload_n dX6_read_197 0 rfl ?_
    refine go_iload dX6_read_198 5 rfl ?_
    refine go_putI (kf := 25) rfl rfl rfl uwX6 tyX6_ok nmX6 (by decide) rfl flX6_217 rfl rfl dX6_read_200 ?_
    refine go_iload dX6_read_203 6 rfl ?_
    exact go_iret rfl dX6_read_205 h
  · have h := h.2 q
    refine go_iload dX6_read_64 5 rfl ?_
    refine go_if_ne 197 dX6_read_66 (by decide) (fun q => ?_) (fun q => ?_)
    · have h := h.1 q
      refine go_aload_n dX6_read_197 0 rfl ?_
      refine go_iload dX6_read_198 5 rfl ?_
      refine go_putI (kf := 25) rfl rfl rfl uwX6 tyX6_ok nmX6 (by decide) rfl flX6_217 rfl rfl dX6_read_200 ?_
      refine go_iload dX6_read_203 6 rfl ?_
      exact go_iret rfl dX6_read_205 h
    · have h := h.2 q
      refine go_aload_n dX6_read_69 0 rfl ?_
      refine go_getR (kf := 22) (t := 49) rfl rfl rfl uwX6 (by decide) flX6_39 dX6_read_70 ?_
      refine go_iload_n dX6_read_73 1 rfl ?_
      obtain ⟨c1, h⟩ := h
      refine go_iaload rfl c1 dX6_read_74 ?_
      refine go_bipush (v := (-4)) dX6_read_75 (by decide) ?_
      refine go_icmp_ne 84 dX6_read_77 (by decide) (fun q => ?_) (fun q => ?_)
      · have h := h.1 q
        refine go_aload_n dX6_read_84 0 rfl ?_
        refine go_getR (kf := 22) (t := 49) rfl rfl rfl uwX6 (by decide) flX6_39 dX6_read_85 ?_
        refine go_iload_n dX6_read_88 1 rfl ?_
        refine go_iaload rfl c1 dX6_read_89 ?_
        refine go_iload_n dX6_read_90 2 rfl ?_
        refine go_icmp_eq 98 dX6_read_91 (by decide) (fun q => ?_) (fun q => ?_)
        · have h := h.1 q
          refine go_iload_n dX6_read_98 3 rfl ?_
          refine go_i2l dX6_read_99 ?_
          refine go_iload dX6_read_100 7 rfl ?_
          refine go_i2l dX6_read_102 ?_
          refine go_ladd dX6_read_103 ?_
          refine go_lconst (v := 0) dX6_read_104 (by decide) ?_
          refine go_aload_n dX6_read_105 0 rfl ?_
          refine go_getR (kf := 23) (t := 50) rfl rfl rfl uwX6 (by decide) flX6_42 dX6_read_106 ?_
          refine go_iload_n dX6_read_109 1 rfl ?_
          refine go_iaload rfl c1 dX6_read_110 ?_
          refine go_iconst (v := 1) dX6_read_111 (by decide) ?_
          refine go_isub dX6_read_112 ?_
          refine go_i2l dX6_read_113 ?_
          refine go_callS (st := []) (kX6_inL (d + 2) (((a3 : Int32).toInt64) + ((f : Int32).toInt64)) 0 ((((mem 50 (a1 : Int32).toNatClampNeg) - 1) : Int32).toInt64)) okX6_in staX6_in lkX6_50 rfl rfl (Nat.le_of_ble_eq_true rfl) dX6_read_114 (fun v_ m2_ q => ?_)
          rw [q.1, q.2]
          refine go_stk (st2 := [.int (bI (0 ≤ (((a3 : Int32).toInt64) + ((f : Int32).toInt64)) ∧ (((a3 : Int32).toInt64) + ((f : Int32).toInt64)) ≤ ((((mem 50 (a1 : Int32).toNatClampNeg) - 1) : Int32).toInt64)))]) rfl ?_
          refine go_if_ne 124 dX6_read_117 (by decide) (fun q => ?_) (fun q => ?_)
          · have h := h.1 (bI1.mp q)
            refine go_iconst (v := 0) dX6_read_124 (by decide) ?_
            refine go_istore (L2 := [(5, .int 0), (0, .ref 40), (1, .int a1), (2, .int a2), (3, .int a3), (4, .int a4), (6, .int (nI i)), (7, .int f)]) dX6_read_125 (by decide) rfl ?_
            refine go_iload dX6_read_127 0 rfl ?_
            refine go_if_ne 191 dX6_read_129 (by decide) (fun q => absurd q (by decide)) (fun _ => ?_)
            refine go_iload dX6_read_132 7 rfl ?_
            refine go_iconst (v := 2) dX6_read_134 (by decide) ?_
            refine go_irem dX6_read_135 (by decide) ?_
            refine go_iconst (v := 1) dX6_read_136 (by decide) ?_
            refine go_icmp_ne 191 dX6_read_137 (by decide) (fun q => ?_) (fun q => ?_)
            · have h := h.1 q
              refine go_iinc (v := (f + 1)) (L2 := [(7, .int (f + 1)), (5, .int 0), (0, .ref 40), (1, .int a1), (2, .int a2), (3, .int a3), (4, .int a4), (6, .int (nI i))]) dX6_read_191 7 rfl rfl (by decide) rfl ?_
              refine go_goto 55 dX6_read_194 (by decide) ?_
              exact Go.pick [2, 3, 4, 5, 6, 1, 7, 0] rfl h
            · have h := h.2 q
              refine go_bipush (v := 40) dX6_read_140 (by decide) ?_
              refine go_iload_n dX6_read_142 2 rfl ?_
              refine go_imul dX6_read_143 ?_
              refine go_iload_n dX6_read_144 4 rfl ?_
              refine go_iadd dX6_read_145 ?_
              refine go_iload dX6_read_146 7 rfl ?_
              refine go_iadd dX6_read_148 ?_
              refine go_topi (fun y2 qy2 => ?_)
              have h := h y2 qy2
              refine go_istore (L2 := [(8, .int y2), (5, .int 0), (0, .ref 40), (1, .int a1), (2, .int a2), (3, .int a3), (4, .int a4), (6, .int (nI i)), (7, .int f)]) dX6_read_149 (by decide) rfl ?_
              refine go_aload_n dX6_read_151 2 rfl ?_
              refine go_aload_n dX6_read_152 2 rfl ?_
              refine go_getR (kf := 24) (t := 51) rfl rfl rfl uwX6 (by decide) flX6_45 dX6_read_153 ?_
              refine go_iload dX6_read_156 0 rfl ?_
              refine go_iconst (v := 1) dX6_read_158 (by decide) ?_
              refine go_isub dX6_read_159 ?_
              obtain ⟨c3, h⟩ := h
              refine go_iaload rfl c3 dX6_read_160 ?_
              refine go_iconst (v := 2) dX6_read_161 (by decide) ?_
              refine go_aload_n dX6_read_162 2 rfl ?_
              refine go_getR (kf := 24) (t := 51) rfl rfl rfl uwX6 (by decide) flX6_45 dX6_read_163 ?_
              refine go_iload dX6_read_166 0 rfl ?_
              obtain ⟨c4, h⟩ := h
              refine go_iaload rfl c4 dX6_read_168 ?_
              obtain ⟨c5, h⟩ := h
              obtain ⟨c6, h⟩ := h
              refine go_callV (st := []) (kX6_alters (d + 0) (mem 51 ((y2 - 1) : Int32).toNatClampNeg) 2 (mem 51 (y2 : Int32).toNatClampNeg) Y c5 c6) rfl rfl okX6_alters insX6_alters selX6_alters lkX6_149 rfl rfl (Nat.le_of_ble_eq_true rfl) dX6_read_169 (fun v_ m7 q => ?_)
              rw [q.1]
              have h := h m7 q.2
              refine go_stk (st2 := [.int (alA Y (mem 51 ((y2 - 1) : Int32).toNatClampNeg) 2 (mem 51 (y2 : Int32).toNatClampNeg)).1]) rfl ?_
              refine go_if_ge 188 dX6_read_172 (by decide) (fun q => ?_) (fun q => ?_)
              · have h := h.1 q
                refine go_iinc (v := ((nI i) + 1)) (L2 := [(6, .int ((nI i) + 1)), (8, .int y2), (5, .int 0), (0, .ref 40), (1, .int a1), (2, .int a2), (3, .int a3), (4, .int a4), (7, .int f)]) dX6_read_188 7 rfl rfl (by decide) rfl ?_
                refine go_iinc (v := (f + 1)) (L2 := [(7, .int (f + 1)), (6, .int ((nI i) + 1)), (8, .int y2), (5, .int 0), (0, .ref 40), (1, .int a1), (2, .int a2), (3, .int a3), (4, .int a4)]) dX6_read_191 8 rfl rfl (by decide) rfl ?_
                refine go_goto 55 dX6_read_194 (by decide) ?_
                exact Go.pick [4, 5, 6, 7, 8, 3, 1, 0] rfl h
              · have h := h.2 q
                refine go_aload_n dX6_read_175 2 rfl ?_
                refine go_bipush (v := 69) dX6_read_176 (by decide) ?_
                refine go_iconst (v := 0) dX6_read_178 (by decide) ?_
                obtain ⟨c8, h⟩ := h
                obtain ⟨c9, h⟩ := h
                refine go_callV (st := []) (kX6_copiesI (d + 2) 69 0 69 0 c8 c9) rfl rfl okX6_copies insX6_copies selX6_copies lkX6_161 rfl rfl (Nat.le_of_ble_eq_true rfl) dX6_read_179 (fun v_ m2_ q => ?_)
                rw [q.1, q.2]
                refine go_stk (st2 := []) rfl ?_
                refine go_bipush (v := (-20)) dX6_read_182 (by decide) ?_
                refine go_iload dX6_read_184 7 rfl ?_
                refine go_isub dX6_read_186 ?_
                exact go_iret rfl dX6_read_187 h
          · have h := h.2 (bI0.mp q)
            refine go_iconst (v := 2) dX6_read_120 (by decide) ?_
            refine go_goto 125 dX6_read_121 (by decide) ?_
            refine go_istore (L2 := [(5, .int 2), (0, .ref 40), (1, .int a1), (2, .int a2), (3, .int a3), (4, .int a4), (6, .int (nI i)), (7, .int f)]) dX6_read_125 (by decide) rfl ?_
            refine go_iload dX6_read_127 0 rfl ?_
            refine go_if_ne 191 dX6_read_129 (by decide) (fun _ => ?_) (fun q => absurd q (by decide))
            refine go_iinc (v := (f + 1)) (L2 := [(7, .int (f + 1)), (5, .int 2), (0, .ref 40), (1, .int a1), (2, .int a2), (3, .int a3), (4, .int a4), (6, .int (nI i))]) dX6_read_191 7 rfl rfl (by decide) rfl ?_
            refine go_goto 55 dX6_read_194 (by decide) ?_
            exact Go.pick [2, 3, 4, 5, 6, 1, 7, 0] rfl h
        · have h := h.2 q
          refine go_iconst (v := 3) dX6_read_94 (by decide) ?_
          refine go_goto 125 dX6_read_95 (by decide) ?_
          refine go_istore (L2 := [(5, .int 3), (0, .ref 40), (1, .int a1), (2, .int a2), (3, .int a3), (4, .int a4), (6, .int (nI i)), (7, .int f)]) dX6_read_125 (by decide) rfl ?_
          refine go_iload dX6_read_127 0 rfl ?_
          refine go_if_ne 191 dX6_read_129 (by decide) (fun _ => ?_) (fun q => absurd q (by decide))
          refine go_iinc (v := (f + 1)) (L2 := [(7, .int (f + 1)), (5, .int 3), (0, .ref 40), (1, .int a1), (2, .int a2), (3, .int a3), (4, .int a4), (6, .int (nI i))]) dX6_read_191 7 rfl rfl (by decide) rfl ?_
          refine go_goto 55 dX6_read_194 (by decide) ?_
          exact Go.pick [2, 3, 4, 5, 6, 1, 7, 0] rfl h
      · have h := h.2 q
        refine go_iconst (v := 1) dX6_read_80 (by decide) ?_
        refine go_goto 125 dX6_read_81 (by decide) ?_
        refine go_istore (L2 := [(5, .int 1), (0, .ref 40), (1, .int a1), (2, .int a2), (3, .int a3), (4, .int a4), (6, .int (nI i)), (7, .int f)]) dX6_read_125 (by decide) rfl ?_
        refine go_iload dX6_read_127 0 rfl ?_
        refine go_if_ne 191 dX6_read_129 (by decide) (fun _ => ?_) (fun q => absurd q (by decide))
        refine go_iinc (v := (f + 1)) (L2 := [(7, .int (f + 1)), (5, .int 1), (0, .ref 40), (1, .int a1), (2, .int a2), (3, .int a3), (4, .int a4), (6, .int (nI i))]) dX6_read_191 7 rfl rfl (by decide) rfl ?_
        refine go_goto 55 dX6_read_194 (by decide) ?_
        exact Go.pick [2, 3, 4, 5, 6, 1, 7, 0] rfl h


def rdC (m0 m2 : Mem) (X : Bm) (R : Int32 × Int32 × Option Bm) : Prop := match R.2.2 with
  | some Z => RepB m2 1 Z ∧ VX 9 30 Z ∧ xt Z = xt X ∧ (∀ k, 10 < k → m2 k = m0 k) ∧ m2 0 10 = R.2.1 ∧ ∀ j, j ≠ 10 → m2 0 j = m0 0 j
  | none => FrB 6 m0 m2
theorem lX5_read {G : GX} {d : Nat} (m0 : Mem) (X : Bm) (s : Nat) (hS : SheetAt s) (hs : 31 ≤ s) (a2 a3 : Int32) (n : Nat) (hn20 : n ≤ 20) (hin : ∀ i, i < n → fpI (m0 s 1) (m0 s 2) a2 (a3 + 2 * nI i) = 0 → vp_in (a3 + 2 * nI i) 40 ∧ vp_in (a3 + 2 * nI i + 1) 40) : ∀ (r i : Nat) (m : Mem) (Y : Bm), i + r = n → FrB 6 m0 m → RepB m 6 Y → VX 9 30 Y → xt Y = xt X → Go G (d + 3) mX5_read 48 [(0, .ref 0), (2, .int a2), (3, .int a3), (4, .int (nI n)), (5, .ref s), (6, .int (nI i)), (7, .int 0)] [] m (fun w m2 => w = some (.int (rdX (fun i => fpI (m0 s 1) (m0 s 2) a2 (a3 + 2 * nI i)) (fun i => m0 (s + 1) (a3 + 2 * nI i).toNatClampNeg) (fun i => m0 (s + 1) (a3 + 2 * nI i + 1).toNatClampNeg) r i Y).1) ∧ rdC m0 m2 X (rdX (fun i => fpI (m0 s 1) (m0 s 2) a2 (a3 + 2 * nI i)) (fun i => m0 (s + 1) (a3 + 2 * nI i).toNatClampNeg) (fun i => m0 (s + 1) (a3 + 2 * nI i + 1).toNatClampNeg) r i Y)) := by
  intro r
  have fin : ∀ (m m4 : Mem) (Y : Bm) (f : Int32), FrB 6 m0 m → RepB m4 1 Y ∧ FrB 1 m m4 → VX 9 30 Y → xt Y = xt X → ∀ w, rdC m0 (um m4 0 10 f) X (w, f, some Y) := fun m m4 Y f h1 h2 hV ht w => by
    refine ⟨h2.1.fr (fun j a b => um_ne (by omega)), hV, ht, fun k hk => ?_, um_same, fun j hj => ?_⟩
    · rw [um_ne (by omega), h2.2 k (by omega), h1 k (by omega)]
    · rw [um_at, if_neg hj, h2.2 0 (by omega), h1 0 (by omega)]
  induction r with
  | zero =>
    intro i m Y hi h1 h2 hV ht
    have hi2 : i = n := by omega
    subst hi2
    exact sX5_read_48 s hS a2 a3 (nI i) i 0 X Y ⟨fun _ => ⟨by omega, hV.1, h2, fun m4 h4 => ⟨rfl, fin m m4 Y 0 h1 h4 hV ht _⟩⟩, fun z => absurd (Int32.le_refl _) z⟩
  | succ r ih =>
    intro i m Y hi h1 h2 hV ht
    refine sX5_read_48 s hS a2 a3 (nI n) i 0 X Y ⟨fun z => absurd ((nI_leI (by omega) (by omega)).mp z) (by omega), fun _ y5 e5 y6 e6 => ?_⟩
    rw [h1 s (by omega)] at e6
    rw [h1 (s + 1) (by omega)]
    subst e5
    obtain ⟨hV2, ht2⟩ := VX_alA hV (m0 (s + 1) (a3 + 2 * nI i).toNatClampNeg) 2 (m0 (s + 1) (a3 + 2 * nI i + 1).toNatClampNeg)
    refine ⟨fun q => ?_, fun q => ?_⟩
    · rw [e6] at q
      obtain ⟨v1, v2⟩ := hin i (by omega) q
      refine ⟨v1, v2, hV, h2, fun m11 h11 => ⟨fun z => ?_, fun z => ?_⟩⟩
      · rw [rdX, if_pos q, if_pos z, nI_1, e6, q]
        exact ih (i + 1) m11 _ (by omega) (fun k hk => by rw [h11.2 k hk, h1 k hk]) h11.1 hV2 (ht2.trans ht)
      · rw [rdX, if_pos q, if_neg z]
        exact ⟨rfl, fun k hk => by rw [h11.2 k hk, h1 k hk]⟩
    · have q' := q
      rw [e6] at q'
      rw [rdX, if_neg q', ← e6]
      exact ⟨by omega, hV.1, h2, fun m4 h4 => ⟨rfl, fin m m4 Y y6 h1 h4 hV ht _⟩⟩
def rdM (m0 m2 : Mem) (X : Bm) (R : Int32 × Int32 × Option Bm) : Prop := (∀ k, k ≠ 40 → k ≠ 41 → m2 k = m0 k) ∧ (∀ j, 23 ≤ j → j < 69 → m2 41 j = m0 41 j) ∧ (∀ j, j ≠ 25 → m2 40 j = m0 40 j) ∧ match R.2.2 with
  | some Z => RepM m2 0 Z ∧ m2 40 25 = R.2.1
  | none => RepM m2 0 X ∧ m2 40 25 = m0 40 25
def inn (a : Int32) (f cn : Nat) : Prop := 0 ≤ a.toInt64 + (nI f).toInt64 ∧ a.toInt64 + (nI f).toInt64 ≤ (nI cn - 1 : Int32).toInt64
theorem inn_iff {a : Int32} {f cn : Nat} (hf : f ≤ 41) (hc : cn ≤ 40) : inn a f cn ↔ 0 ≤ a.toInt + f ∧ a.toInt + f < cn := by
  have ra := fb_rng a
  have ef : (nI f).toInt = f := nI_toInt (by omega)
  have e1 : (nI cn - 1 : Int32).toInt = cn - 1 := by
    have ec : (nI cn).toInt = cn := nI_toInt (by omega)
    rw [fb_subI (by rw [ec, show (1 : Int32).toInt = 1 from rfl]; omega) (by rw [ec, show (1 : Int32).toInt = 1 from rfl]; omega), ec]; rfl
  unfold inn
  rw [fa_le64, fa_le64, Int32.toInt_toInt64, e1, fb_addL (by rw [Int32.toInt_toInt64, Int32.toInt_toInt64, ef]; omega) (by rw [Int32.toInt_toInt64, Int32.toInt_toInt64, ef]; omega), Int32.toInt_toInt64, Int32.toInt_toInt64, ef, show (0 : Int64).toInt = 0 from rfl]
  omega
theorem flt_inn {l cn f : Nat} {a : Int32} (hl : l ≤ 2) (hc : cn ≤ 40) (hf : f ≤ 41) : (fltI (nI l) (nI cn) (a + nI f) = 0 ∧ inn a f cn ∧ ∃ t, t < cn ∧ a + nI f = nI t) ∨ (fltI (nI l) (nI cn) (a + nI f) = 2 ∧ ¬ inn a f cn) := by
  have ra := fb_rng a
  have ef : (nI f).toInt = f := nI_toInt (by omega)
  rw [inn_iff hf hc]
  rcases flt_nI (i := a + nI f) hl hc with ⟨u1, t, ht, e⟩ | ⟨u1, u2, _⟩
  · refine Or.inl ⟨u1, ?_, t, ht, e⟩
    have e2 : (a + nI f).toInt = t := by rw [e]; exact nI_toInt (by omega)
    rw [Int32.toInt_add, ef] at e2
    have e3 : (a.toInt + (f : Int)).bmod 4294967296 = t := e2
    have : a.toInt + (f : Int) = t := by
      rw [Int.bmod_def] at e3
      split at e3 <;> omega
    omega
  · refine Or.inr ⟨u1, fun w => u2 ?_⟩
    have e2 : (a + nI f).toInt = a.toInt + f := by rw [fb_addI (by rw [ef]; omega) (by rw [ef]; omega), ef]
    rw [fa_le, fa_le, e2, fb_subI (by rw [nI_toInt (show cn < 2147483648 by omega), show (1 : Int32).toInt = 1 from rfl]; omega) (by rw [nI_toInt (show cn < 2147483648 by omega), show (1 : Int32).toInt = 1 from rfl]; omega), nI_toInt (show cn < 2147483648 by omega), show (1 : Int32).toInt = 1 from rfl, show (0 : Int32).toInt = 0 from rfl]
    omega
theorem a_2i (a : Int32) (i : Nat) : a + 2 * nI i = a + nI (2 * i) := by rw [show (2 : Int32) = nI 2 from rfl, pk_mul]
theorem a_2i1 (a : Int32) (i : Nat) : a + 2 * nI i + 1 = a + nI (2 * i + 1) := by rw [a_2i, Int32.add_assoc, nI_1]
theorem par0 (i : Nat) (hi : i < 100) : ¬ (nI (2 * i) - nI (2 * i) / 2 * 2 : Int32) = 1 := by
  rw [show (2 : Int32) = nI (2 ^ 1) from rfl, fa_rem (by omega) (by omega), show 2 * i % 2 ^ 1 = 0 by omega]; decide
theorem par1 (i : Nat) (hi : i < 100) : (nI (2 * i + 1) - nI (2 * i + 1) / 2 * 2 : Int32) = 1 := by
  rw [show (2 : Int32) = nI (2 ^ 1) from rfl, fa_rem (by omega) (by omega), show (2 * i + 1) % 2 ^ 1 = 1 by omega]; rfl
theorem y2_eq {a : Int32} {k i t : Nat} (e : a + nI (2 * i) = nI t) : ((40 * nI k + a + nI (2 * i + 1) : Int32) = nI (40 * k + t + 1)) ∧ ((nI (40 * k + t + 1) - 1 : Int32) = nI (40 * k + t)) := by
  refine ⟨?_, nI_sub1 (by omega)⟩
  rw [Int32.add_assoc, ← nI_1, ← Int32.add_assoc a, e, show (40 : Int32) = nI 40 from rfl, pk_mul, nI_1, nI_add, show 40 * k + (t + 1) = 40 * k + t + 1 by omega]
set_option maxHeartbeats 4000000 in
theorem lX6_read {G : GX} {d : Nat} (m0 : Mem) (X : Bm) (hnX : xn X ≤ 5) (hX : RepM m0 69 X) (k : Nat) (hk : k < 4) (a2 a3 : Int32) (n : Nat) (hn20 : n ≤ 20) (ft c v : Nat → Int32) (cn : Nat) (hcn : cn ≤ 40) (h50 : ¬ m0 49 k = -4 → m0 50 k = nI cn)
    (hst : ∀ i, i < n → (m0 49 k = -4 ∧ ft i = 1) ∨ (¬ m0 49 k = -4 ∧ ¬ m0 49 k = a2 ∧ ft i = 3) ∨ (¬ m0 49 k = -4 ∧ m0 49 k = a2 ∧ ((ft i = 2 ∧ ¬ (inn a3 (2 * i) cn ∧ inn a3 (2 * i + 1) cn)) ∨ (ft i = 0 ∧ inn a3 (2 * i) cn ∧ inn a3 (2 * i + 1) cn ∧ ∃ t, t + 1 < cn ∧ a3 + nI (2 * i) = nI t ∧ m0 51 (40 * k + t) = c i ∧ m0 51 (40 * k + t + 1) = v i)))) : ∀ (r i : Nat) (m : Mem) (Y : Bm), i + r = n → FrM 0 m0 m → RepM m 0 Y → VX 9 30 Y → Go G (d + 3) mX6_read 55 [(0, .ref 40), (1, .int (nI k)), (2, .int a2), (3, .int a3), (4, .int (nI n)), (5, .int 0), (6, .int (nI i)), (7, .int (nI (2 * i)))] [] m (fun w m2 => w = some (.int (rdX ft c v r i Y).1) ∧ rdM m0 m2 X (rdX ft c v r i Y)) := by
  intro r
  have fin : ∀ (m : Mem) (Y : Bm) (f : Int32), FrM 0 m0 m → RepM m 0 Y → ∀ w, rdM m0 (um m 40 25 f) X (w, f, some Y) := fun m Y f h1 h2 w => by
    refine ⟨fun k a b => by rw [um_ne a, h1.1 k b], fun j a b => by rw [um_ne (by decide), h1.2 j (by omega)], fun j hj => by rw [um_at, if_neg hj, h1.1 40 (by decide)], ?_, um_same⟩
    exact ⟨by rw [um_ne (by decide)]; exact h2.1, by rw [um_ne (by decide)]; exact h2.2.1, by rw [um_ne (by decide)]; exact h2.2.2.1, fun c hc => by rw [um_ne (by decide)]; exact h2.2.2.2 c hc⟩
  induction r with
  | zero =>
    intro i m Y hi h1 h2 hV
    have hi2 : i = n := by omega
    subst hi2
    refine sX6_read_55 (nI k) a2 a3 (nI i) 0 i (nI (2 * i)) X Y ⟨fun _ => ⟨rfl, fin m Y 0 h1 h2 _⟩, fun z => absurd ?_ z⟩
    rw [show (2 : Int32) = nI 2 from rfl, pk_mul]; exact Int32.le_refl _
  | succ r ih =>
    intro i m Y hi h1 h2 hV
    have n2 : ∀ f, f < 2 * n → ¬ (2 * nI n : Int32) ≤ nI f := fun f hf => by
      rw [show (2 : Int32) = nI 2 from rfl, pk_mul, nI_leI (by omega) (by omega)]; omega
    have e49 : m 49 = m0 49 := h1.1 49 (by decide)
    have e50 : m 50 = m0 50 := h1.1 50 (by decide)
    have e51 : m 51 = m0 51 := h1.1 51 (by decide)
    have flt : ∀ (f w : Int32), ¬ w = 0 → ft i = w → Go G (d + 3) mX6_read 55 [(0, .ref 40), (1, .int (nI k)), (2, .int a2), (3, .int a3), (4, .int (nI n)), (5, .int w), (6, .int (nI i)), (7, .int f)] [] m (fun w m2 => w = some (.int (rdX ft c v (r + 1) i Y).1) ∧ rdM m0 m2 X (rdX ft c v (r + 1) i Y)) := fun f w hw e => by
      rw [rdX, if_neg (by rw [e]; exact hw), e]
      exact sX6_read_55 (nI k) a2 a3 (nI n) w i f X Y ⟨fun _ => ⟨rfl, fin m Y w h1 h2 _⟩, fun _ => ⟨fun _ => ⟨rfl, fin m Y w h1 h2 _⟩, fun z => absurd z hw⟩⟩
    refine sX6_read_55 (nI k) a2 a3 (nI n) 0 i (nI (2 * i)) X Y ⟨fun z => absurd z (n2 _ (by omega)), fun _ => ⟨fun z => absurd rfl z, fun _ => ?_⟩⟩
    rw [ncl (show k < 2000000000 by omega), e49, e50, e51]
    refine ⟨nin (by omega) (by omega), ?_⟩
    rcases hst i (by omega) with ⟨l0, f0⟩ | ⟨l0, l1, f0⟩ | ⟨l0, l1, hh⟩
    · exact ⟨fun z => absurd l0 z, fun _ => flt _ 1 (by decide) f0⟩
    · exact ⟨fun _ => ⟨fun z => absurd z l1, fun _ => flt _ 3 (by decide) f0⟩, fun z => absurd z l0⟩
    · rw [h50 l0, nI_1]
      refine ⟨fun _ => ⟨fun _ => ⟨fun i0 => ⟨fun _ => ?_, fun z => absurd z (par0 i (by omega))⟩, fun i0 => ?_⟩, fun z => absurd l1 z⟩, fun z => absurd z l0⟩
      · refine sX6_read_55 (nI k) a2 a3 (nI n) 0 i (nI (2 * i + 1)) X Y ⟨fun z => absurd z (n2 _ (by omega)), fun _ => ⟨fun z => absurd rfl z, fun _ => ?_⟩⟩
        rw [ncl (show k < 2000000000 by omega), e49, e50, e51]
        refine ⟨nin (by omega) (by omega), ⟨fun _ => ⟨fun _ => ?_, fun z => absurd l1 z⟩, fun z => absurd z l0⟩⟩
        rw [h50 l0, nI_1]
        refine ⟨fun i1 => ⟨fun z => absurd (par1 i (by omega)) z, fun _ y2 ey => ?_⟩, fun i1 => ?_⟩
        · rcases hh with ⟨_, z⟩ | ⟨f0, _, _, t, ht, et, c1, c2⟩
          · exact absurd ⟨i0, i1⟩ z
          · obtain ⟨u1, u2⟩ := y2_eq (k := k) et
            rw [u1] at ey
            subst ey
            rw [u2, ncl (show 40 * k + t + 1 < 2000000000 by omega), ncl (show 40 * k + t < 2000000000 by omega), c1, c2]
            obtain ⟨hV2, ht2⟩ := VX_alA hV (c i) 2 (v i)
            refine ⟨nin (by omega) (by omega), nin (by omega) (by omega), hV, h2, fun m7 h7 => ⟨fun z => ?_, fun z => ?_⟩⟩
            · rw [rdX, if_pos f0, if_pos z, nI_1]
              exact ih (i + 1) m7 _ (by omega) ⟨fun x hx => by rw [h7.2.1 x hx, h1.1 x hx], fun j hj => by rw [h7.2.2 j hj, h1.2 j hj]⟩ h7.1 hV2
            · rw [rdX, if_pos f0, if_neg z]
              refine ⟨⟨rfl, rfl⟩, ⟨by omega, by omega, by omega⟩, rfl, ?_⟩
              refine ⟨fun x a b => by rw [cpM_fr.1 x b, h7.2.1 x b, h1.1 x b], fun j a b => by rw [cpM_fr.2 j (by omega), h7.2.2 j (by omega), h1.2 j (by omega)], fun j hj => by rw [cpM_fr.1 40 (by decide), h7.2.1 40 (by decide), h1.1 40 (by decide)], ?_, by rw [cpM_fr.1 40 (by decide), h7.2.1 40 (by decide), h1.1 40 (by decide)]⟩
              exact cpM_rep hnX (hX.fr hnX (fun j a b => by rw [h7.2.2 j (by omega), h1.2 j (by omega)]))
        · rcases hh with ⟨f0, _⟩ | ⟨_, _, z, _⟩
          · exact flt _ 2 (by decide) f0
          · exact absurd z i1
      · rcases hh with ⟨f0, _⟩ | ⟨_, z, _⟩
        · exact flt _ 2 (by decide) f0
        · exact absurd z i0
theorem Inv.rd {mem m2 : Mem} {X : Bm} (hI : Inv mem) (e1 : ∀ k, 10 < k → k ≠ 40 → k ≠ 41 → m2 k = mem k) (e2 : ∀ j, 23 ≤ j → j < 69 → m2 41 j = mem 41 j) (e3 : ∀ j, j ≠ 25 → m2 40 j = mem 40 j) (e4 : ∀ j, j ≠ 10 → m2 0 j = mem 0 j) (e5 : m2 0 10 = m2 40 25) (RB : RepB m2 1 X) (RM : RepM m2 0 X) (V : VX 9 30 X) (ht : xt X ≤ 9999) : Inv m2 := by
  obtain ⟨_, T, S, h1, h2, h3, h4, h5, h6, h7⟩ := hI
  exact ⟨X, T, S, ⟨RB, RM, V, ht⟩, h2.fr (fun k _ _ => e1 k (by omega) (by omega) (by omega)) (e1 22 (by omega) (by omega) (by omega)) (e1 48 (by omega) (by omega) (by omega)) e2, h3.fr (by rw [e1 23 (by omega) (by omega) (by omega)]) (e3 4 (by omega)) (e1 24 (by omega) (by omega) (by omega)) (e1 43 (by omega) (by omega) (by omega)), ⟨by rw [e4 9 (by omega), e3 5 (by omega)]; exact h4.1, e5⟩, h5.fr (by rw [e1 25 (by omega) (by omega) (by omega)]) (e3 19 (by omega)) (e1 26 (by omega) (by omega) (by omega)) (e1 27 (by omega) (by omega) (by omega)) (e1 28 (by omega) (by omega) (by omega)) (e1 46 (by omega) (by omega) (by omega)), h6.fr (fun k _ _ => e1 k (by omega) (by omega) (by omega)) (e1 49 (by omega) (by omega) (by omega)) (e1 50 (by omega) (by omega) (by omega)) (e1 51 (by omega) (by omega) (by omega)), h7.fr (e3 14 (by omega)) (e1 44 (by omega) (by omega) (by omega)) (e1 45 (by omega) (by omega) (by omega))⟩
set_option maxHeartbeats 4000000 in
theorem P35 {G : GX} (a l f n : Int32) : Sm G mX5_read mX6_read [.int a, .int l, .int f, .int n] := fun mem hI => by
  obtain ⟨X, T, S, h1, h2, h3, h4, h5, h6, h7⟩ := id hI
  have hn := h1.2.2.1.1
  rcases Decidable.em (¬ (0 ≤ a ∧ a ≤ 3)) with q | qn
  · refine cn_of (by decide +kernel) (Nat.le_of_ble_eq_true rfl) (sX5_read_0 (d := 6) a l f n X X ?_)
    rw [lt4]
    refine ⟨fun _ => ?_, fun z => absurd z q⟩
    exact cn_of (by decide +kernel) (Nat.le_of_ble_eq_true rfl) (sX6_read_0 (d := 6) a l f n X X ⟨fun _ => ⟨rfl, hI⟩, fun z => absurd z q⟩)
  have q := Decidable.not_not.mp qn
  rcases Decidable.em (¬ (0 ≤ l ∧ l ≤ 2)) with q2 | q2n
  · refine cn_of (by decide +kernel) (Nat.le_of_ble_eq_true rfl) (sX5_read_0 (d := 6) a l f n X X ?_)
    rw [lt4]
    refine ⟨fun z => absurd q z, fun _ => ⟨fun _ => ?_, fun z => absurd z q2⟩⟩
    exact cn_of (by decide +kernel) (Nat.le_of_ble_eq_true rfl) (sX6_read_0 (d := 6) a l f n X X ⟨fun z => absurd q z, fun _ => ⟨fun _ => ⟨rfl, hI⟩, fun z => absurd z q2⟩⟩)
  have q2 := Decidable.not_not.mp q2n
  by_cases q3 : 0 ≤ n ∧ n ≤ 20
  · obtain ⟨k, hk, rfl⟩ := i300 (n := 3) rfl (by omega) q
    obtain ⟨N, hN, rfl⟩ := i300 (n := 20) rfl (by omega) q3
    obtain ⟨ln, hln, rfl⟩ := i300 (n := 2) rfl (by omega) q2
    obtain ⟨sa, sS⟩ := sht_at (show k < 4 by omega)
    -- what each pair of cells comes to
    obtain ⟨cn, hcn, h50, hst⟩ : ∃ cn : Nat, cn ≤ 40 ∧ (¬ mem 49 k = -4 → mem 50 k = nI cn) ∧ ∀ i, i < N → (mem 49 k = -4 ∧ fpI (mem (31 + 2 * k) 1) (mem (31 + 2 * k) 2) (nI ln) (f + 2 * nI i) = 1) ∨ (¬ mem 49 k = -4 ∧ ¬ mem 49 k = nI ln ∧ fpI (mem (31 + 2 * k) 1) (mem (31 + 2 * k) 2) (nI ln) (f + 2 * nI i) = 3) ∨ (¬ mem 49 k = -4 ∧ mem 49 k = nI ln ∧ ((fpI (mem (31 + 2 * k) 1) (mem (31 + 2 * k) 2) (nI ln) (f + 2 * nI i) = 2 ∧ ¬ (inn f (2 * i) cn ∧ inn f (2 * i + 1) cn)) ∨ (fpI (mem (31 + 2 * k) 1) (mem (31 + 2 * k) 2) (nI ln) (f + 2 * nI i) = 0 ∧ inn f (2 * i) cn ∧ inn f (2 * i + 1) cn ∧ ∃ t, t + 1 < cn ∧ f + nI (2 * i) = nI t ∧ mem 51 (40 * k + t) = mem (31 + 2 * k + 1) (f + 2 * nI i).toNatClampNeg ∧ mem 51 (40 * k + t + 1) = mem (31 + 2 * k + 1) (f + 2 * nI i + 1).toNatClampNeg))) := by
      rcases h6 k (by omega) with ⟨w1, w2⟩ | ⟨l2, cn, w1, w2, w3, w4, w5, w6, w7⟩
      · refine ⟨0, by omega, fun z => absurd w2 z, fun i hi => Or.inl ⟨w2, ?_⟩⟩
        rw [w1]
        unfold fpI
        rw [if_neg (fun z => z.1 rfl)]
        have e : ∀ n i, fltI (-1) n i = 1 := fun n i => by unfold fltI; rw [if_pos rfl]
        rw [e, if_neg (by decide)]
      · have l4 : ¬ (nI l2 = (-4 : Int32)) ∧ ¬ (nI l2 = (-1 : Int32)) := by
          rcases (show l2 = 0 ∨ l2 = 1 ∨ l2 = 2 by omega) with rfl | rfl | rfl <;> decide
        refine ⟨cn, w2, fun _ => w6, fun i hi => Or.inr ?_⟩
        rw [w3, w4, w5]
        unfold fpI
        by_cases q : nI l2 = nI ln
        · refine Or.inr ⟨l4.1, q, ?_⟩
          rw [if_neg (fun z => z.2 q), a_2i]
          rw [show f + nI (2 * i) + 1 = f + nI (2 * i + 1) by rw [Int32.add_assoc, nI_1]]
          rcases flt_inn (a := f) w1 w2 (show 2 * i ≤ 41 by omega) with ⟨u1, u2, t, ht, u3⟩ | ⟨u1, u2⟩
          · rw [if_pos u1]
            rcases flt_inn (a := f) w1 w2 (show 2 * i + 1 ≤ 41 by omega) with ⟨v1, v2, t2, ht2, v3⟩ | ⟨v1, v2⟩
            · have et : t2 = t + 1 := by
                have e : nI t2 = nI (t + 1) := by rw [← v3, ← nI_1, ← nI_1, ← Int32.add_assoc, u3]
                exact (neq (by omega) (by omega)).mp e
              refine Or.inr ⟨v1, u2, v2, t, by omega, u3, ?_, ?_⟩
              · rw [u3, ncl (by omega), show 31 + 2 * k + 1 = 32 + 2 * k by omega]; exact (w7 t (by omega)).symm
              · rw [v3, ncl (by omega), et, show 31 + 2 * k + 1 = 32 + 2 * k by omega]; exact (w7 (t + 1) (by omega)).symm
            · exact Or.inl ⟨v1, fun z => v2 z.2⟩
          · rw [if_neg (by rw [u1]; decide)]
            exact Or.inl ⟨u1, fun z => u2 z.1⟩
        · exact Or.inl ⟨l4.1, q, if_pos ⟨l4.2, q⟩⟩
    have kC : Cn G 9 mX5_read [.ref 0, .int (nI k), .int (nI ln), .int f, .int (nI N)] mem (fun w m1 => w = some (.int (rdX (fun i => fpI (mem (31 + 2 * k) 1) (mem (31 + 2 * k) 2) (nI ln) (f + 2 * nI i)) (fun i => mem (31 + 2 * k + 1) (f + 2 * nI i).toNatClampNeg) (fun i => mem (31 + 2 * k + 1) (f + 2 * nI i + 1).toNatClampNeg) N 0 X).1) ∧ rdC mem m1 X (rdX (fun i => fpI (mem (31 + 2 * k) 1) (mem (31 + 2 * k) 2) (nI ln) (f + 2 * nI i)) (fun i => mem (31 + 2 * k + 1) (f + 2 * nI i).toNatClampNeg) (fun i => mem (31 + 2 * k + 1) (f + 2 * nI i + 1).toNatClampNeg) N 0 X)) := by
      refine cn_of (by decide +kernel) (Nat.le_of_ble_eq_true rfl) (sX5_read_0 (d := 6) (nI k) (nI ln) f (nI N) X X ?_)
      rw [lt4, ncl (show k < 2000000000 by omega)]
      refine ⟨fun z => absurd q z, fun _ => ⟨fun z => absurd q2 z, fun _ => ⟨fun _ => ⟨hn, h1.1, fun m3 h3 => ⟨nin (by omega) (by omega), 31 + 2 * k, ⟨sa, sS⟩, ?_⟩⟩, fun z => absurd q3 z⟩⟩⟩
      exact lX5_read mem X (31 + 2 * k) sS (by omega) (nI ln) f N hN (fun i hi z => by
        rcases hst i hi with ⟨_, z2⟩ | ⟨_, _, z2⟩ | ⟨_, _, z2⟩
        · rw [z2] at z; exact absurd z (by decide)
        · rw [z2] at z; exact absurd z (by decide)
        · rcases z2 with ⟨z2, _⟩ | ⟨_, _, _, t, ht, et, _⟩
          · rw [z2] at z; exact absurd z (by decide)
          · rw [a_2i, et, nI_1]
            exact ⟨nin (by omega) (by omega), nin (by omega) (by omega)⟩) N 0 m3 X (by omega) h3.2 h3.1 h1.2.2.1 rfl
    refine kC.imp (fun w m1 hw => ?_)
    · obtain ⟨rfl, hw⟩ := hw
      generalize hR : rdX (fun i => fpI (mem (31 + 2 * k) 1) (mem (31 + 2 * k) 2) (nI ln) (f + 2 * nI i)) (fun i => mem (31 + 2 * k + 1) (f + 2 * nI i).toNatClampNeg) (fun i => mem (31 + 2 * k + 1) (f + 2 * nI i + 1).toNatClampNeg) N 0 X = R at hw ⊢
      have c1 : ∀ j, 10 < j → m1 j = mem j := fun j hj => by
        unfold rdC at hw
        split at hw
        · exact hw.2.2.2.1 j hj
        · exact hw j (by omega)
      have M0 : ∀ j, 10 < j → j ≠ 41 → cpM m1 0 69 j = mem j := fun j hj h41 => by rw [cpM_fr.1 j h41, c1 j hj]
      have hr : RepM m1 0 X := h1.2.1.fr hn (fun j _ _ => by rw [c1 41 (by omega)])
      have kM : Cn G 9 mX6_read [.ref 40, .int (nI k), .int (nI ln), .int f, .int (nI N)] m1 (fun w m2 => w = some (.int R.1) ∧ rdM (cpM m1 0 69) m2 X R) := by
        refine cn_of (by decide +kernel) (Nat.le_of_ble_eq_true rfl) (sX6_read_0 (d := 6) (nI k) (nI ln) f (nI N) X X ⟨fun z => absurd q z, fun _ => ⟨fun z => absurd q2 z, fun _ => ⟨fun _ => ⟨⟨rfl, rfl⟩, ⟨by omega, by omega, by omega⟩, ?_⟩, fun z => absurd q3 z⟩⟩⟩)
        rw [← hR]
        exact lX6_read (cpM m1 0 69) X hn (cpM_rep hn hr) k (by omega) (nI ln) f N hN _ _ _ cn hcn (by rw [M0 49 (by omega) (by omega), M0 50 (by omega) (by omega)]; exact h50) (by rw [M0 49 (by omega) (by omega), M0 51 (by omega) (by omega)]; exact hst) N 0 (cpM m1 0 69) X (by omega) FrM.rf (hr.fr hn (fun j a b => cpM_fr.2 j (by omega))) h1.2.2.1
      refine kM.imp (fun w m2 hm => ⟨hm.1, ?_⟩)
      replace hm := hm.2
      unfold rdM at hm
      obtain ⟨m_1, m_2, m_3, hm⟩ := hm
      have k1 : ∀ k, 10 < k → k ≠ 40 → k ≠ 41 → m2 k = mem k := fun k a b c => by rw [m_1 k b c, M0 k a c]
      have k0 : ∀ k, k ≤ 10 → m2 k = m1 k := fun k a => by rw [m_1 k (by omega) (by omega), cpM_fr.1 k (by omega)]
      have k2 : ∀ j, 23 ≤ j → j < 69 → m2 41 j = mem 41 j := fun j a b => by rw [m_2 j a b, cpM_fr.2 j (by omega), c1 41 (by omega)]
      have k3 : ∀ j, j ≠ 25 → m2 40 j = mem 40 j := fun j hj => by rw [m_3 j hj, M0 40 (by omega) (by omega)]
      unfold rdC at hw
      split at hw
      · rename_i Z eZ
        rw [eZ] at hm
        obtain ⟨w1, w2, w3, w4, w5, w6⟩ := hw
        refine hI.rd k1 k2 k3 (fun j hj => ?_) ?_ (w1.fr (fun j a b => k0 j (by omega))) hm.1 w2 (by rw [w3]; exact h1.2.2.2)
        · rw [k0 0 (by omega), w6 j hj]
        · rw [k0 0 (by omega), w5, hm.2]
      · rename_i eZ
        rw [eZ] at hm
        refine hI.rd k1 k2 k3 (fun j hj => ?_) ?_ (h1.1.fr (fun j a b => ?_)) hm.1 h1.2.2.1 h1.2.2.2
        · rw [k0 0 (by omega), hw 0 (by omega)]
        · rw [k0 0 (by omega), hw 0 (by omega), hm.2, M0 40 (by omega) (by omega)]; exact h4.2
        · rw [k0 j (by omega), hw j (by omega)]
  · refine cn_of (by decide +kernel) (Nat.le_of_ble_eq_true rfl) (sX5_read_0 (d := 6) a l f n X X ?_)
    rw [lt4]
    refine ⟨fun z => absurd q z, fun _ => ⟨fun z => absurd q2 z, fun _ => ⟨fun z => absurd z q3, fun _ => ?_⟩⟩⟩
    exact cn_of (by decide +kernel) (Nat.le_of_ble_eq_true rfl) (sX6_read_0 (d := 6) a l f n X X ⟨fun z => absurd q z, fun _ => ⟨fun z => absurd q2 z, fun _ => ⟨fun z => absurd z q3, fun _ => ⟨rfl, hI⟩⟩⟩⟩)
