def btI (x : Int32) (i : Nat) : Bool := x.toBitVec.getLsbD i
theorem b_ext {x y : Int32} (h : ∀ i, i < 32 → btI x i = btI y i) : x = y := Int32.toBitVec_inj.mp (BitVec.eq_of_getLsbD_eq (fun i hi => h i hi))
theorem b_or (x y : Int32) (i : Nat) : btI (x ||| y) i = (btI x i || btI y i) := by unfold btI; rw [Int32.toBitVec_or, BitVec.getLsbD_or]
theorem b_and (x y : Int32) (i : Nat) : btI (x &&& y) i = (btI x i && btI y i) := by unfold btI; rw [Int32.toBitVec_and, BitVec.getLsbD_and]
theorem b_xor (x y : Int32) (i : Nat) : btI (x ^^^ y) i = (btI x i ^^ btI y i) := by unfold btI; rw [Int32.toBitVec_xor, BitVec.getLsbD_xor]
theorem b_big {x : Int32} {i : Nat} (h : 32 ≤ i) : btI x i = false := BitVec.getLsbD_of_ge _ _ h
theorem b_255 (i : Nat) : btI 255 i = decide (i < 8) := by
  rcases Nat.lt_or_ge i 32 with h | h
  · exact (by decide +kernel : ∀ i, i < 32 → btI 255 i = decide (i < 8)) i h
  · rw [b_big h, decide_eq_false (by omega)]
theorem b_65535 (i : Nat) : btI 65535 i = decide (i < 16) := by
  rcases Nat.lt_or_ge i 32 with h | h
  · exact (by decide +kernel : ∀ i, i < 32 → btI 65535 i = decide (i < 16)) i h
  · rw [b_big h, decide_eq_false (by omega)]
theorem b_m1 : ∀ i, i < 32 → btI (-1) i = true := by decide +kernel
theorem b_0 (i : Nat) : btI 0 i = false := BitVec.getLsbD_zero
theorem s_l : ∀ n, n < 32 → ((nI n &&& 31).toBitVec.smod 32).toNat = n := by decide +kernel
theorem s_u : ∀ n, n < 32 → (((nI n).toUInt32 &&& Int32.toUInt32 31).toBitVec % 32).toNat = n := by decide +kernel
theorem b_shl (n : Nat) (hn : n < 32) (x : Int32) {i : Nat} (hi : i < 32) : btI (x <<< (nI n &&& 31)) i = (decide (n ≤ i) && btI x (i - n)) := by
  unfold btI
  rw [Int32.toBitVec_shiftLeft]
  show (x.toBitVec <<< ((nI n &&& 31).toBitVec.smod 32).toNat).getLsbD i = _
  rw [s_l n hn, BitVec.getLsbD_shiftLeft]
  rcases Nat.lt_or_ge i n with h | h
  · simp [h, Nat.not_le.mpr h]
  · simp [hi, h, Nat.not_lt.mpr h]
theorem b_ushr (n : Nat) (hn : n < 32) (x : Int32) (i : Nat) : btI ((x.toUInt32 >>> ((nI n).toUInt32 &&& Int32.toUInt32 31)).toInt32) i = btI x (n + i) := by
  show (x.toUInt32 >>> ((nI n).toUInt32 &&& Int32.toUInt32 31)).toBitVec.getLsbD i = x.toUInt32.toBitVec.getLsbD (n + i)
  rw [UInt32.toBitVec_shiftRight]
  show (x.toUInt32.toBitVec >>> (((nI n).toUInt32 &&& Int32.toUInt32 31).toBitVec % 32).toNat).getLsbD i = _
  rw [s_u n hn, BitVec.getLsbD_ushiftRight]
theorem b_sshr (n : Nat) (hn : n < 32) (x : Int32) {i : Nat} (hi : i < 32) : btI (x >>> (nI n &&& 31)) i = if n + i < 32 then btI x (n + i) else btI x 31 := by
  unfold btI
  rw [Int32.toBitVec_shiftRight]
  show (x.toBitVec.sshiftRight ((nI n &&& 31).toBitVec.smod 32).toNat).getLsbD i = _
  rw [s_l n hn, BitVec.getLsbD_sshiftRight, BitVec.msb_eq_getLsbD_last]
  simp [hi]

theorem kX0_stepManyI {G : GX} (d : Nat) {mem : Mem} (b : Nat) (hB : BeamAt b) (a : Int32) (n : Nat) (X : Bm) (B : Nat) (e : a = nI n) (hn : n < 1000000) (hV : VX 9 B X) (hR : RepB mem b X) : Cn G (d + 5) mX0_stepMany [.ref b, .int a] mem (Ri (nI (smX 9 nof X n)) (fun m2 => RepB m2 b (itX 9 nof X n) ∧ FrB b mem m2)) := by
  rw [e]; exact kX0_stepMany d b hB n X B hn hV hR
theorem kX0_ftI {G : GX} (d : Nat) {mem : Mem} (b : Nat) (hB : BeamAt b) (la : Int32) (N : Nat) (X : Bm) (B : Nat) (e : la = nI N - 1) (hN : N < 1000000) (hV : VX 9 B X) (hR : RepB mem b X) : Cn G (d + 4) mX0_firstTogether [.ref b, .int la] mem (Ri (optI (ftF (fun t => togX 9 (itX 9 nof X t)) N)) (fun m2 => FrB b mem m2)) := by
  rw [e]; exact kX0_firstTogether d b hB N X B hN hV hR
theorem kX0_shiftI {G : GX} (d : Nat) {mem : Mem} (b : Nat) (hB : BeamAt b) (a1 a2 : Int32) (c m k p h u : Nat) (e : a1 = nI c ∧ a2 = nI m) (hc : c < 5) (hv : k ≤ 3 ∧ 2 ≤ p ∧ p ≤ 30 ∧ h < 1000000 ∧ 1 ≤ m ∧ m ≤ 5 ∧ u ≤ 5) (e1 : mem (b + 1) c = nI k) (e2 : mem (b + 2) c = nI p) (e3 : mem (b + 3) c = nI h) (e4 : mem b 5 = nI u) : Cn G (d + 1) mX0_shift [.ref b, .int a1, .int a2] mem (Rv (fun m2 => m2 = um mem (b + 3) c (nI (shN k p h m u)))) := by
  rw [e.1, e.2]; exact kX0_shift d b hB c m k p h u hc hv e1 e2 e3 e4
-- ahead
abbrev in300 (a : Int32) : Prop := 0 ≤ a ∧ a ≤ 300
abbrev in01 (a : Int32) : Prop := 0 ≤ a ∧ a ≤ 1
def aheadA (X : Bm) (c n w : Int32) : Int32 := if isC X c ∧ in300 n ∧ in01 w then (if w = 0 then nI (xh (itX 9 nof X n.toNatClampNeg) c.toNatClampNeg) else nI (xe (itX 9 nof X n.toNatClampNeg) c.toNatClampNeg) - nI (xe X c.toNatClampNeg)) else -1

set_option maxRecDepth 100000 in
theorem sX5_ahead_0 {G : GX} {d : Nat} {mem : Mem} {Φ : Option Value → Mem → Prop} (a1 a2 a3 : Int32) (n : Nat) (X : Bm) (h : ((¬ (0 ≤ a1 ∧ a1 < mem 1 4) → Φ (some (.int (-1))) mem) ∧ ((0 ≤ a1 ∧ a1 < mem 1 4) → ((¬ (0 ≤ a2 ∧ a2 ≤ 300) → Φ (some (.int (-1))) mem) ∧ ((0 ≤ a2 ∧ a2 ≤ 300) → (((0 ≤ a3 ∧ a3 ≤ 1) → (xn X ≤ 5) ∧ (RepB mem 1 X) ∧ ∀ m3 : Mem, (RepB m3 6 X ∧ FrB 6 mem m3) → (a2 = nI n) ∧ (n < 1000000) ∧ (VX 9 30 X) ∧ (RepB m3 6 X) ∧ ∀ m8 : Mem, (RepB m8 6 (itX 9 nof X n) ∧ FrB 6 m3 m8) → ((¬ a3 = 0 → (vp_in a1 5) ∧ Φ (some (.int ((m8 10 (a1 : Int32).toNatClampNeg) - (m8 5 (a1 : Int32).toNatClampNeg)))) m8) ∧ (a3 = 0 → (vp_in a1 5) ∧ Φ (some (.int (m8 9 (a1 : Int32).toNatClampNeg))) m8))) ∧ (¬ (0 ≤ a3 ∧ a3 ≤ 1) → Φ (some (.int (-1))) mem))))))) : Go G (d + 6) mX5_ahead 0 [(0, .ref 0), (1, .int a1), (2, .int a2), (3, .int a3)] [] mem Φ := by
  refine go_aload_n dX5_ahead_0 0 rfl ?_
  refine go_iload_n dX5_ahead_1 1 rfl ?_
  refine go_callV (st := []) (kX5_isClock (d + 5) a1) rfl rfl okX5_isClock insX5_isClock selX5_isClock lkX5_123 rfl rfl (Nat.le_of_ble_eq_true rfl) dX5_ahead_2 (fun v_ m2_ q => ?_)
  rw [q.1, q.2]
  refine go_stk (st2 := [.int (bI (0 ≤ a1 ∧ a1 < mem 1 4))]) rfl ?_
  refine go_if_eq 28 dX5_ahead_5 (by decide) (fun q => ?_) (fun q => ?_)
  · have h := h.1 (bI0.mp q)
    refine go_iconst (v := (-1)) dX5_ahead_28 (by decide) ?_
    exact go_iret rfl dX5_ahead_29 h
  · have h := h.2 (bI1.mp q)
    refine go_iload_n dX5_ahead_8 2 rfl ?_
    refine go_iconst (v := 0) dX5_ahead_9 (by decide) ?_
    refine go_sipush (v := 300) dX5_ahead_10 (by decide) ?_
    refine go_callS (st := []) (kX5_isWithin (d + 5) a2 0 300) okX5_isWithin staX5_isWithin lkX5_59 rfl rfl (Nat.le_of_ble_eq_true rfl) dX5_ahead_13 (fun v_ m2_ q => ?_)
    rw [q.1, q.2]
    refine go_stk (st2 := [.int (bI (0 ≤ a2 ∧ a2 ≤ 300))]) rfl ?_
    refine go_if_eq 28 dX5_ahead_16 (by decide) (fun q => ?_) (fun q => ?_)
    · have h := h.1 (bI0.mp q)
      refine go_iconst (v := (-1)) dX5_ahead_28 (by decide) ?_
      exact go_iret rfl dX5_ahead_29 h
    · have h := h.2 (bI1.mp q)
      refine go_iload_n dX5_ahead_19 3 rfl ?_
      refine go_iconst (v := 0) dX5_ahead_20 (by decide) ?_
      refine go_iconst (v := 1) dX5_ahead_21 (by decide) ?_
      refine go_callS (st := []) (kX5_isWithin (d + 5) a3 0 1) okX5_isWithin staX5_isWithin lkX5_59 rfl rfl (Nat.le_of_ble_eq_true rfl) dX5_ahead_22 (fun v_ m2_ q => ?_)
      rw [q.1, q.2]
      refine go_stk (st2 := [.int (bI (0 ≤ a3 ∧ a3 ≤ 1))]) rfl ?_
      refine go_if_ne 30 dX5_ahead_25 (by decide) (fun q => ?_) (fun q => ?_)
      · have h := h.1 (bI1.mp q)
        refine go_aload_n dX5_ahead_30 0 rfl ?_
        obtain ⟨c1, h⟩ := h
        obtain ⟨c2, h⟩ := h
        refine go_callV (st := []) (kX5_tryNow (d + 3) X c1 c2) rfl rfl okX5_tryNow insX5_tryNow selX5_tryNow lkX5_112 rfl rfl (Nat.le_of_ble_eq_true rfl) dX5_ahead_31 (fun v_ m3 q => ?_)
        rw [q.1]
        have h := h m3 q.2
        refine go_stk (st2 := [.ref 6]) rfl ?_
        refine go_iload_n dX5_ahead_34 2 rfl ?_
        obtain ⟨c4, h⟩ := h
        obtain ⟨c5, h⟩ := h
        obtain ⟨c6, h⟩ := h
        obtain ⟨c7, h⟩ := h
        refine go_callV (st := []) (kX0_stepManyI (d + 0) 6 bA6 a2 n X 30 c4 c5 c6 c7) rfl rfl okX0_stepMany insX0_stepMany selX0_stepMany lkX5_154 rfl rfl (Nat.le_of_ble_eq_true rfl) dX5_ahead_35 (fun v_ m8 q => ?_)
        rw [q.1]
        have h := h m8 q.2
        refine go_stk (st2 := [.int (nI (smX 9 nof X n))]) rfl ?_
        refine go_pop dX5_ahead_38 rfl ?_
        refine go_iload_n dX5_ahead_39 3 rfl ?_
        refine go_if_ne 55 dX5_ahead_40 (by decide) (fun q => ?_) (fun q => ?_)
        · have h := h.1 q
          refine go_aload_n dX5_ahead_55 0 rfl ?_
          refine go_getR (kf := 1) (t := 6) rfl rfl rfl uwX5 (by decide) flX5_16 dX5_ahead_56 ?_
          refine go_getR (kf := 3) (t := 10) rfl rfl rfl uwX0 (by decide) flX5_105 dX5_ahead_59 ?_
          refine go_iload_n dX5_ahead_62 1 rfl ?_
          obtain ⟨c9, h⟩ := h
          refine go_iaload rfl c9 dX5_ahead_63 ?_
          refine go_aload_n dX5_ahead_64 0 rfl ?_
          refine go_getR (kf := 0) (t := 1) rfl rfl rfl uwX5 (by decide) flX5_12 dX5_ahead_65 ?_
          refine go_getR (kf := 3) (t := 5) rfl rfl rfl uwX0 (by decide) flX5_105 dX5_ahead_68 ?_
          refine go_iload_n dX5_ahead_71 1 rfl ?_
          refine go_iaload rfl c9 dX5_ahead_72 ?_
          refine go_isub dX5_ahead_73 ?_
          exact go_iret rfl dX5_ahead_74 h
        · have h := h.2 q
          refine go_aload_n dX5_ahead_43 0 rfl ?_
          refine go_getR (kf := 1) (t := 6) rfl rfl rfl uwX5 (by decide) flX5_16 dX5_ahead_44 ?_
          refine go_getR (kf := 2) (t := 9) rfl rfl rfl uwX0 (by decide) flX5_120 dX5_ahead_47 ?_
          refine go_iload_n dX5_ahead_50 1 rfl ?_
          obtain ⟨c10, h⟩ := h
          refine go_iaload rfl c10 dX5_ahead_51 ?_
          refine go_goto 74 dX5_ahead_52 (by decide) ?_
          exact go_iret rfl dX5_ahead_74 h
      · have h := h.2 (bI0.mp q)
        refine go_iconst (v := (-1)) dX5_ahead_28 (by decide) ?_
        exact go_iret rfl dX5_ahead_29 h


theorem kX5_ahead {G : GX} (d : Nat) {mem : Mem} (c n w : Int32) (X : Bm) (h : C1 mem X) : Cn G (d + 6) mX5_ahead [.ref 0, .int c, .int n, .int w] mem (Ri (aheadA X c n w) (QC mem)) := by
  obtain ⟨hB, hM, hV, ht⟩ := h
  refine cn_of (by decide +kernel) (Nat.le_of_ble_eq_true rfl) (sX5_ahead_0 c n w n.toNatClampNeg X ?_)
  rw [hB.1]
  unfold aheadA
  refine ⟨fun q1 => Ri.mk (if_neg (fun z => q1 z.1)).symm QC.rf, fun q1 => ⟨fun q2 => Ri.mk (if_neg (fun z => q2 z.2.1)).symm QC.rf, fun q2 => ⟨fun q3 => ?_, fun q3 => Ri.mk (if_neg (fun z => q3 z.2.2)).symm QC.rf⟩⟩⟩
  rw [if_pos ⟨q1, q2, q3⟩]
  obtain ⟨i, hi, rfl⟩ := isC_n q1 hV.1
  obtain ⟨k, hk, rfl⟩ := i300 (n := 300) rfl (by omega) q2
  have hn := hV.1
  rw [ncl (show i < 2000000000 by omega), ncl (show k < 2000000000 by omega)]
  refine ⟨hV.1, hB, fun m3 h3 => ⟨rfl, by omega, hV, h3.1, fun m7 h7 => ?_⟩⟩
  have r := h7.1.2.2.2 i (by rw [it_n]; exact hi)
  have e10 : m7 10 i = nI (xe (itX 9 nof X k) i) := r.2.2.2
  have e9 : m7 9 i = nI (xh (itX 9 nof X k) i) := r.2.2.1
  have e5 : m7 5 i = nI (xe X i) := by rw [h7.2 5 (by omega), h3.2 5 (by omega)]; exact (hB.2.2.2 i hi).2.2.2
  rw [e10, e9, e5]
  exact ⟨fun z => ⟨nin (by omega) (by omega), by rw [if_neg z]; exact ⟨rfl, (h3.2.tr h7.2).qc⟩⟩, fun z => ⟨nin (by omega) (by omega), by rw [if_pos z]; exact ⟨rfl, (h3.2.tr h7.2).qc⟩⟩⟩
-- beats
def beatsA (X : Bm) (n : Int32) : Int32 := if in300 n then nI (who 9 (itX 9 nof X n.toNatClampNeg)) else -1

set_option maxRecDepth 100000 in
theorem sX5_beats_0 {G : GX} {d : Nat} {mem : Mem} {Φ : Option Value → Mem → Prop} (a1 : Int32) (n : Nat) (X : Bm) (h : (((0 ≤ a1 ∧ a1 ≤ 300) → (xn X ≤ 5) ∧ (RepB mem 1 X) ∧ ∀ m3 : Mem, (RepB m3 6 X ∧ FrB 6 mem m3) → (a1 = nI n) ∧ (n < 1000000) ∧ (VX 9 30 X) ∧ (RepB m3 6 X) ∧ ∀ m8 : Mem, (RepB m8 6 (itX 9 nof X n) ∧ FrB 6 m3 m8) → (VX 9 30 (itX 9 nof X n)) ∧ (RepB m8 6 (itX 9 nof X n)) ∧ ∀ m11 : Mem, (RepB m11 6 (tkX 9 false (itX 9 nof X n)) ∧ FrB 6 m8 m11) → Φ (some (.int (nI (who 9 (itX 9 nof X n))))) m11) ∧ (¬ (0 ≤ a1 ∧ a1 ≤ 300) → Φ (some (.int (-1))) mem))) : Go G (d + 6) mX5_beats 0 [(0, .ref 0), (1, .int a1)] [] mem Φ := by
  refine go_iload_n dX5_beats_0 1 rfl ?_
  refine go_iconst (v := 0) dX5_beats_1 (by decide) ?_
  refine go_sipush (v := 300) dX5_beats_2 (by decide) ?_
  refine go_callS (st := []) (kX5_isWithin (d + 5) a1 0 300) okX5_isWithin staX5_isWithin lkX5_59 rfl rfl (Nat.le_of_ble_eq_true rfl) dX5_beats_5 (fun v_ m2_ q => ?_)
  rw [q.1, q.2]
  refine go_stk (st2 := [.int (bI (0 ≤ a1 ∧ a1 ≤ 300))]) rfl ?_
  refine go_if_ne 13 dX5_beats_8 (by decide) (fun q => ?_) (fun q => ?_)
  · have h := h.1 (bI1.mp q)
    refine go_aload_n dX5_beats_13 0 rfl ?_
    obtain ⟨c1, h⟩ := h
    obtain ⟨c2, h⟩ := h
    refine go_callV (st := []) (kX5_tryNow (d + 3) X c1 c2) rfl rfl okX5_tryNow insX5_tryNow selX5_tryNow lkX5_112 rfl rfl (Nat.le_of_ble_eq_true rfl) dX5_beats_14 (fun v_ m3 q => ?_)
    rw [q.1]
    have h := h m3 q.2
    refine go_stk (st2 := [.ref 6]) rfl ?_
    refine go_iload_n dX5_beats_17 1 rfl ?_
    obtain ⟨c4, h⟩ := h
    obtain ⟨c5, h⟩ := h
    obtain ⟨c6, h⟩ := h
    obtain ⟨c7, h⟩ := h
    refine go_callV (st := []) (kX0_stepManyI (d + 0) 6 bA6 a1 n X 30 c4 c5 c6 c7) rfl rfl okX0_stepMany insX0_stepMany selX0_stepMany lkX5_154 rfl rfl (Nat.le_of_ble_eq_true rfl) dX5_beats_18 (fun v_ m8 q => ?_)
    rw [q.1]
    have h := h m8 q.2
    refine go_stk (st2 := [.int (nI (smX 9 nof X n))]) rfl ?_
    refine go_pop dX5_beats_21 rfl ?_
    refine go_aload_n dX5_beats_22 0 rfl ?_
    refine go_getR (kf := 1) (t := 6) rfl rfl rfl uwX5 (by decide) flX5_16 dX5_beats_23 ?_
    refine go_iconst (v := 0) dX5_beats_26 (by decide) ?_
    obtain ⟨c9, h⟩ := h
    obtain ⟨c10, h⟩ := h
    refine go_callV (st := []) (kX0_step (d + 2) 6 bA6 (itX 9 nof X n) false 30 c9 c10) rfl rfl okX0_step insX0_step selX0_step lkX5_116 rfl rfl (Nat.le_of_ble_eq_true rfl) dX5_beats_27 (fun v_ m11 q => ?_)
    rw [q.1]
    have h := h m11 q.2
    refine go_stk (st2 := [.int (nI (who 9 (itX 9 nof X n)))]) rfl ?_
    exact go_iret rfl dX5_beats_30 h
  · have h := h.2 (bI0.mp q)
    refine go_iconst (v := (-1)) dX5_beats_11 (by decide) ?_
    exact go_iret rfl dX5_beats_12 h


theorem kX5_beats {G : GX} (d : Nat) {mem : Mem} (n : Int32) (X : Bm) (h : C1 mem X) : Cn G (d + 6) mX5_beats [.ref 0, .int n] mem (Ri (beatsA X n) (QC mem)) := by
  obtain ⟨hB, hM, hV, ht⟩ := h
  refine cn_of (by decide +kernel) (Nat.le_of_ble_eq_true rfl) (sX5_beats_0 n n.toNatClampNeg X ⟨fun q => ?_, fun q => Ri.mk (if_neg q).symm QC.rf⟩)
  unfold beatsA
  rw [if_pos q]
  obtain ⟨k, hk, rfl⟩ := i300 (n := 300) rfl (by omega) q
  rw [ncl (show k < 2000000000 by omega)]
  exact ⟨hV.1, hB, fun m3 h3 => ⟨rfl, by omega, hV, h3.1, fun m7 h7 => ⟨VX_it hV k, h7.1, fun m10 h10 => ⟨rfl, ((h3.2.tr h7.2).tr h10.2).qc⟩⟩⟩⟩

set_option maxRecDepth 100000 in
theorem sX5_together_0 {G : GX} {d : Nat} {mem : Mem} {Φ : Option Value → Mem → Prop} (X : Bm) (h : (xn X ≤ 5) ∧ (RepB mem 1 X) ∧ ∀ m3 : Mem, (RepB m3 6 X ∧ FrB 6 mem m3) → (300 = nI 301 - 1) ∧ (301 < 1000000) ∧ (VX 9 30 X) ∧ (RepB m3 6 X) ∧ ∀ m8 : Mem, FrB 6 m3 m8 → Φ (some (.int (optI (ftF (fun t => togX 9 (itX 9 nof X t)) 301)))) m8) : Go G (d + 5) mX5_together 0 [(0, .ref 0)] [] mem Φ := by
  refine go_aload_n dX5_together_0 0 rfl ?_
  obtain ⟨c1, h⟩ := h
  obtain ⟨c2, h⟩ := h
  refine go_callV (st := []) (kX5_tryNow (d + 2) X c1 c2) rfl rfl okX5_tryNow insX5_tryNow selX5_tryNow lkX5_112 rfl rfl (Nat.le_of_ble_eq_true rfl) dX5_together_1 (fun v_ m3 q => ?_)
  rw [q.1]
  have h := h m3 q.2
  refine go_stk (st2 := [.ref 6]) rfl ?_
  refine go_sipush (v := 300) dX5_together_4 (by decide) ?_
  obtain ⟨c4, h⟩ := h
  obtain ⟨c5, h⟩ := h
  obtain ⟨c6, h⟩ := h
  obtain ⟨c7, h⟩ := h
  refine go_callV (st := []) (kX0_ftI (d + 0) 6 bA6 (300) 301 X 30 c4 c5 c6 c7) rfl rfl okX0_firstTogether insX0_firstTogether selX0_firstTogether lkX5_175 rfl rfl (Nat.le_of_ble_eq_true rfl) dX5_together_7 (fun v_ m8 q => ?_)
  rw [q.1]
  have h := h m8 q.2
  refine go_stk (st2 := [.int (optI (ftF (fun t => togX 9 (itX 9 nof X t)) 301))]) rfl ?_
  exact go_iret rfl dX5_together_10 h


def meetX (X : Bm) : Option Nat := ftF (fun t => togX 9 (itX 9 nof X t)) 301
theorem kX5_together {G : GX} (d : Nat) {mem : Mem} (X : Bm) (h : C1 mem X) : Cn G (d + 5) mX5_together [.ref 0] mem (Ri (optI (meetX X)) (QC mem)) :=
  cn_of (by decide +kernel) (Nat.le_of_ble_eq_true rfl) (sX5_together_0 X ⟨h.2.2.1.1, h.1, fun m3 h3 => ⟨by decide, by omega, h.2.2.1, h3.1, fun m8 h8 => ⟨rfl, (h3.2.tr h8).qc⟩⟩⟩)
-- again
def hEq (X Y : Bm) : Bool := decide (∀ c, c < xn X → xh Y c = xh X c)
def againA (X : Bm) : Int32 := match ftF (fun t => hEq X (itX 9 nof X (t + 1))) 300 with
  | none => -4
  | some t => nI (t + 1)

set_option maxRecDepth 100000 in
theorem sX5_again_0 {G : GX} {d : Nat} {mem : Mem} {Φ : Option Value → Mem → Prop} (X : Bm) (h : (xn X ≤ 5) ∧ (RepB mem 1 X) ∧ ∀ m3 : Mem, (RepB m3 6 X ∧ FrB 6 mem m3) → Go G (d + 4) mX5_again 7 [(0, .ref 0), (1, .int 1)] [] m3 Φ) : Go G (d + 4) mX5_again 0 [(0, .ref 0)] [] mem Φ := by
  refine go_aload_n dX5_again_0 0 rfl ?_
  obtain ⟨c1, h⟩ := h
  obtain ⟨c2, h⟩ := h
  refine go_callV (st := []) (kX5_tryNow (d + 1) X c1 c2) rfl rfl okX5_tryNow insX5_tryNow selX5_tryNow lkX5_112 rfl rfl (Nat.le_of_ble_eq_true rfl) dX5_again_1 (fun v_ m3 q => ?_)
  rw [q.1]
  have h := h m3 q.2
  refine go_stk (st2 := [.ref 6]) rfl ?_
  refine go_pop dX5_again_4 rfl ?_
  refine go_iconst (v := 1) dX5_again_5 (by decide) ?_
  refine go_istore_n (L2 := [(1, .int 1), (0, .ref 0)]) dX5_again_6 (by decide) rfl ?_
  exact Go.pick [1, 0] rfl h

set_option maxRecDepth 100000 in
theorem sX5_again_7 {G : GX} {d : Nat} {mem : Mem} {Φ : Option Value → Mem → Prop} (i : Nat) (X Z : Bm) (h : ((300 < (nI i) → Φ (some (.int (-4))) mem) ∧ (¬ 300 < (nI i) → (VX 9 30 X) ∧ (RepB mem 6 X) ∧ ∀ m3 : Mem, (RepB m3 6 (tkX 9 false X) ∧ FrB 6 mem m3) → (xn (tkX 9 false X) ≤ 5) ∧ (∀ c, c < xn (tkX 9 false X) → xh (tkX 9 false X) c < 1000000) ∧ (∀ c, c < xn (tkX 9 false X) → (xh Z) c < 1000000) ∧ (RepB m3 6 (tkX 9 false X)) ∧ (∀ c, c < xn (tkX 9 false X) → m3 (1 + 3) c = nI ((xh Z) c)) ∧ ((¬ (∀ c, c < xn (tkX 9 false X) → xh (tkX 9 false X) c = (xh Z) c) → Go G (d + 4) mX5_again 7 [(0, .ref 0), (1, .int ((nI i) + 1))] [] m3 Φ) ∧ ((∀ c, c < xn (tkX 9 false X) → xh (tkX 9 false X) c = (xh Z) c) → Φ (some (.int (nI i))) m3))))) : Go G (d + 4) mX5_again 7 [(0, .ref 0), (1, .int (nI i))] [] mem Φ := by
  refine go_iload_n dX5_again_7 1 rfl ?_
  refine go_sipush (v := 300) dX5_again_8 (by decide) ?_
  refine go_icmp_gt 45 dX5_again_11 (by decide) (fun q => ?_) (fun q => ?_)
  · have h := h.1 q
    refine go_bipush (v := (-4)) dX5_again_45 (by decide) ?_
    exact go_iret rfl dX5_again_47 h
  · have h := h.2 q
    refine go_aload_n dX5_again_14 0 rfl ?_
    refine go_getR (kf := 1) (t := 6) rfl rfl rfl uwX5 (by decide) flX5_16 dX5_again_15 ?_
    refine go_iconst (v := 0) dX5_again_18 (by decide) ?_
    obtain ⟨c1, h⟩ := h
    obtain ⟨c2, h⟩ := h
    refine go_callV (st := []) (kX0_step (d + 0) 6 bA6 X false 30 c1 c2) rfl rfl okX0_step insX0_step selX0_step lkX5_116 rfl rfl (Nat.le_of_ble_eq_true rfl) dX5_again_19 (fun v_ m3 q => ?_)
    rw [q.1]
    have h := h m3 q.2
    refine go_stk (st2 := [.int (nI (who 9 X))]) rfl ?_
    refine go_pop dX5_again_22 rfl ?_
    refine go_aload_n dX5_again_23 0 rfl ?_
    refine go_getR (kf := 1) (t := 6) rfl rfl rfl uwX5 (by decide) flX5_16 dX5_again_24 ?_
    refine go_aload_n dX5_again_27 0 rfl ?_
    refine go_getR (kf := 0) (t := 1) rfl rfl rfl uwX5 (by decide) flX5_12 dX5_again_28 ?_
    obtain ⟨c4, h⟩ := h
    obtain ⟨c5, h⟩ := h
    obtain ⟨c6, h⟩ := h
    obtain ⟨c7, h⟩ := h
    obtain ⟨c8, h⟩ := h
    refine go_callV (st := []) (kX0_hasHandsOf (d + 3) 6 bA6 1 bA1 (tkX 9 false X) (xh Z) c4 c5 c6 c7 c8) rfl rfl okX0_hasHandsOf insX0_hasHandsOf selX0_hasHandsOf lkX5_178 rfl rfl (Nat.le_of_ble_eq_true rfl) dX5_again_31 (fun v_ m2_ q => ?_)
    rw [q.1, q.2]
    refine go_stk (st2 := [.int (bI (∀ c, c < xn (tkX 9 false X) → xh (tkX 9 false X) c = (xh Z) c))]) rfl ?_
    refine go_if_eq 39 dX5_again_34 (by decide) (fun q => ?_) (fun q => ?_)
    · have h := h.1 (bI0.mp q)
      refine go_iinc (v := ((nI i) + 1)) (L2 := [(1, .int ((nI i) + 1)), (0, .ref 0)]) dX5_again_39 1 rfl rfl (by decide) rfl ?_
      refine go_goto 7 dX5_again_42 (by decide) ?_
      exact Go.pick [1, 0] rfl h
    · have h := h.2 (bI1.mp q)
      refine go_iload_n dX5_again_37 1 rfl ?_
      exact go_iret rfl dX5_again_38 h


theorem VX9_h {B : Nat} {X : Bm} (h : VX 9 B X) {c : Nat} (hc : c < xn X) : xh X c < 1000000 := by
  have hn := h.1
  have := (h.2.2 c hc).2.2.2.1 (by omega)
  have := (h.2.2 c hc).2.2.1
  omega
set_option maxHeartbeats 4000000 in
theorem lX5_again {G : GX} {d : Nat} {mem0 : Mem} {X : Bm} (hV : VX 9 30 X) (hB : RepB mem0 1 X) : ∀ (r i : Nat) (m : Mem), i + r = 300 → (∀ s, s < i → ¬ hEq X (itX 9 nof X (s + 1)) = true) → RepB m 6 (itX 9 nof X i) → FrB 6 mem0 m → Go G (d + 4) mX5_again 7 [(0, .ref 0), (1, .int (nI (i + 1)))] [] m (Ri (againA X) (QC mem0)) := by
  intro r
  induction r with
  | zero =>
    intro i m hi hs hR hF
    have hi2 : i = 300 := by omega
    subst hi2
    refine sX5_again_7 301 (itX 9 nof X 300) X ⟨fun _ => ?_, fun q => absurd (by decide) q⟩
    unfold againA
    rw [ftF_none hs]
    exact ⟨rfl, hF.qc⟩
  | succ r ih =>
    intro i m hi hs hR hF
    have hVi := VX_it (hf := nof) hV i
    have hVj := VX_it (hf := nof) hV (i + 1)
    have en : xn (tkX 9 false (itX 9 nof X i)) = xn X := it_n (i + 1)
    refine sX5_again_7 (i + 1) (itX 9 nof X i) X ⟨fun q => absurd ((nlt (a := 300) (by omega) (by omega)).mp q) (by omega), fun _ => ⟨hVi, hR, fun m3 h3 => ⟨hVj.1, fun c hc => VX9_h hVj hc, fun c hc => VX9_h hV (by rw [en] at hc; exact hc), h3.1, fun c hc => ?_, fun q => ?_, fun q => ?_⟩⟩⟩
    · rw [en] at hc
      rw [h3.2 (1 + 3) (by omega), hF (1 + 3) (by omega)]
      exact (hB.2.2.2 c hc).2.2.1
    · rw [nI_1]
      exact ih (i + 1) m3 (by omega) (fun s hs2 => by
        rcases Nat.lt_or_ge s i with z | z
        · exact hs s z
        · have e : s = i := by omega
          rw [e]
          exact fun w => q (fun c hc => of_decide_eq_true w c (by rw [en] at hc; exact hc))) h3.1 (hF.tr h3.2)
    · unfold againA
      rw [ftF_some (t := i) (decide_eq_true (fun c hc => q c (by rw [en]; exact hc))) hs (by omega)]
      exact ⟨rfl, (hF.tr h3.2).qc⟩
theorem kX5_again {G : GX} (d : Nat) {mem : Mem} (X : Bm) (h : C1 mem X) : Cn G (d + 4) mX5_again [.ref 0] mem (Ri (againA X) (QC mem)) :=
  cn_of (by decide +kernel) (Nat.le_of_ble_eq_true rfl) (sX5_again_0 X ⟨h.2.2.1.1, h.1, fun m3 h3 => lX5_again h.2.2.1 h.1 300 0 m3 (by omega) (fun s hs => by omega) h3.1 h3.2⟩)

set_option maxRecDepth 100000 in
theorem sX5_drift_0 {G : GX} {d : Nat} {mem : Mem} {Φ : Option Value → Mem → Prop} (sd a2 wh : Int32) (X : Bm) (h : ((¬ (1 ≤ a2 ∧ a2 ≤ 300) → Φ (some (.int (-1))) mem) ∧ ((1 ≤ a2 ∧ a2 ≤ 300) → (((0 ≤ wh ∧ wh ≤ 1) → ((¬ (mem 1 4) = 0 → (xn X ≤ 5) ∧ (RepB mem 1 X) ∧ ∀ m3 : Mem, (RepB m3 6 X ∧ FrB 6 mem m3) → Go G (d + 4) mX5_drift 49 [(0, .ref 0), (2, .int a2), (3, .int wh), (4, .int sd), (5, .int 0), (6, .int 0)] [] m3 Φ) ∧ ((mem 1 4) = 0 → Φ (some (.int (-2))) mem))) ∧ (¬ (0 ≤ wh ∧ wh ≤ 1) → Φ (some (.int (-1))) mem))))) : Go G (d + 4) mX5_drift 0 [(0, .ref 0), (1, .int sd), (2, .int a2), (3, .int wh)] [] mem Φ := by
  refine go_iload_n dX5_drift_0 2 rfl ?_
  refine go_iconst (v := 1) dX5_drift_1 (by decide) ?_
  refine go_sipush (v := 300) dX5_drift_2 (by decide) ?_
  refine go_callS (st := []) (kX5_isWithin (d + 3) a2 1 300) okX5_isWithin staX5_isWithin lkX5_59 rfl rfl (Nat.le_of_ble_eq_true rfl) dX5_drift_5 (fun v_ m2_ q => ?_)
  rw [q.1, q.2]
  refine go_stk (st2 := [.int (bI (1 ≤ a2 ∧ a2 ≤ 300))]) rfl ?_
  refine go_if_eq 20 dX5_drift_8 (by decide) (fun q => ?_) (fun q => ?_)
  · have h := h.1 (bI0.mp q)
    refine go_iconst (v := (-1)) dX5_drift_20 (by decide) ?_
    exact go_iret rfl dX5_drift_21 h
  · have h := h.2 (bI1.mp q)
    refine go_iload_n dX5_drift_11 3 rfl ?_
    refine go_iconst (v := 0) dX5_drift_12 (by decide) ?_
    refine go_iconst (v := 1) dX5_drift_13 (by decide) ?_
    refine go_callS (st := []) (kX5_isWithin (d + 3) wh 0 1) okX5_isWithin staX5_isWithin lkX5_59 rfl rfl (Nat.le_of_ble_eq_true rfl) dX5_drift_14 (fun v_ m2_ q => ?_)
    rw [q.1, q.2]
    refine go_stk (st2 := [.int (bI (0 ≤ wh ∧ wh ≤ 1))]) rfl ?_
    refine go_if_ne 22 dX5_drift_17 (by decide) (fun q => ?_) (fun q => ?_)
    · have h := h.1 (bI1.mp q)
      refine go_aload_n dX5_drift_22 0 rfl ?_
      refine go_getR (kf := 0) (t := 1) rfl rfl rfl uwX5 (by decide) flX5_12 dX5_drift_23 ?_
      refine go_getI (kf := 4) rfl rfl rfl uwX0 (by decide) flX5_96 dX5_drift_26 ?_
      refine go_if_ne 35 dX5_drift_29 (by decide) (fun q => ?_) (fun q => ?_)
      · have h := h.1 q
        refine go_aload_n dX5_drift_35 0 rfl ?_
        obtain ⟨c1, h⟩ := h
        obtain ⟨c2, h⟩ := h
        refine go_callV (st := []) (kX5_tryNow (d + 1) X c1 c2) rfl rfl okX5_tryNow insX5_tryNow selX5_tryNow lkX5_112 rfl rfl (Nat.le_of_ble_eq_true rfl) dX5_drift_36 (fun v_ m3 q => ?_)
        rw [q.1]
        have h := h m3 q.2
        refine go_stk (st2 := [.ref 6]) rfl ?_
        refine go_pop dX5_drift_39 rfl ?_
        refine go_iload_n dX5_drift_40 1 rfl ?_
        refine go_istore (L2 := [(4, .int sd), (0, .ref 0), (1, .int sd), (2, .int a2), (3, .int wh)]) dX5_drift_41 (by decide) rfl ?_
        refine go_iconst (v := 0) dX5_drift_43 (by decide) ?_
        refine go_istore (L2 := [(5, .int 0), (4, .int sd), (0, .ref 0), (1, .int sd), (2, .int a2), (3, .int wh)]) dX5_drift_44 (by decide) rfl ?_
        refine go_iconst (v := 0) dX5_drift_46 (by decide) ?_
        refine go_istore (L2 := [(6, .int 0), (5, .int 0), (4, .int sd), (0, .ref 0), (1, .int sd), (2, .int a2), (3, .int wh)]) dX5_drift_47 (by decide) rfl ?_
        exact Go.pick [3, 5, 6, 2, 1, 0] rfl h
      · have h := h.2 q
        refine go_bipush (v := (-2)) dX5_drift_32 (by decide) ?_
        exact go_iret rfl dX5_drift_34 h
    · have h := h.2 (bI0.mp q)
      refine go_iconst (v := (-1)) dX5_drift_20 (by decide) ?_
      exact go_iret rfl dX5_drift_21 h

set_option maxRecDepth 100000 in
theorem sX5_drift_49 {G : GX} {d : Nat} {mem : Mem} {Φ : Option Value → Mem → Prop} (n : Nat) (wh sd : Int32) (s i cc mm kk pp hh uu : Nat) (X Y : Bm) (h : (((nI n) ≤ (nI i) → ((¬ wh = 0 → (xn X ≤ 5) ∧ (RepB mem 6 X) ∧ Φ (some (.int (nI (smF (xh X) (xn X))))) mem) ∧ (wh = 0 → Φ (some (.int (nI s))) mem))) ∧ (¬ (nI n) ≤ (nI i) → ∀ y3 : Int32, y3 = ((sd * 1103515245) + 12345) → ∀ y4 : Int32, y4 = ((((y3).toUInt32 >>> ((16 : Int32).toUInt32 &&& Int32.toUInt32 31)).toInt32) &&& 32767) → (¬ (mem 1 4) = 0) ∧ ((y4 - y4 / (mem 1 4) * (mem 1 4)) = nI cc ∧ (1 + ((y4 / 8) - (y4 / 8) / 5 * 5)) = nI mm) ∧ (cc < 5) ∧ (kk ≤ 3 ∧ 2 ≤ pp ∧ pp ≤ 30 ∧ hh < 1000000 ∧ 1 ≤ mm ∧ mm ≤ 5 ∧ uu ≤ 5) ∧ (mem (6 + 1) cc = nI kk) ∧ (mem (6 + 2) cc = nI pp) ∧ (mem (6 + 3) cc = nI hh) ∧ (mem 6 5 = nI uu) ∧ (VX 9 30 Y) ∧ (RepB (um mem (6 + 3) cc (nI (shN kk pp hh mm uu))) 6 Y) ∧ ∀ m15 : Mem, (RepB m15 6 (tkX 9 false Y) ∧ FrB 6 (um mem (6 + 3) cc (nI (shN kk pp hh mm uu))) m15) → ∀ y16 : Int32, y16 = ((nI s) + (bcI (nI (who 9 Y)))) → Go G (d + 4) mX5_drift 49 [(0, .ref 0), (2, .int (nI n)), (3, .int wh), (4, .int y3), (5, .int y16), (6, .int ((nI i) + 1))] [] m15 Φ))) : Go G (d + 4) mX5_drift 49 [(0, .ref 0), (2, .int (nI n)), (3, .int wh), (4, .int sd), (5, .int (nI s)), (6, .int (nI i))] [] mem Φ := by
  refine go_iload dX5_drift_49 5 rfl ?_
  refine go_iload_n dX5_drift_51 1 rfl ?_
  refine go_icmp_ge 125 dX5_drift_52 (by decide) (fun q => ?_) (fun q => ?_)
  · have h := h.1 q
    refine go_iload_n dX5_drift_125 2 rfl ?_
    refine go_if_ne 134 dX5_drift_126 (by decide) (fun q => ?_) (fun q => ?_)
    · have h := h.1 q
      refine go_aload_n dX5_drift_134 0 rfl ?_
      refine go_getR (kf := 1) (t := 6) rfl rfl rfl uwX5 (by decide) flX5_16 dX5_drift_135 ?_
      obtain ⟨c1, h⟩ := h
      obtain ⟨c2, h⟩ := h
      refine go_callV (st := []) (kX0_sumOfHands (d + 3) 6 bA6 X c1 c2) rfl rfl okX0_sumOfHands insX0_sumOfHands selX0_sumOfHands lkX5_172 rfl rfl (Nat.le_of_ble_eq_true rfl) dX5_drift_138 (fun v_ m2_ q => ?_)
      rw [q.1, q.2]
      refine go_stk (st2 := [.int (nI (smF (xh X) (xn X)))]) rfl ?_
      exact go_iret rfl dX5_drift_141 h
    · have h := h.2 q
      refine go_iload dX5_drift_129 4 rfl ?_
      refine go_goto 141 dX5_drift_131 (by decide) ?_
      exact go_iret rfl dX5_drift_141 h
  · have h := h.2 q
    refine go_iload dX5_drift_55 3 rfl ?_
    refine go_ldc kcX5_239 dX5_drift_57 ?_
    refine go_imul dX5_drift_59 ?_
    refine go_sipush (v := 12345) dX5_drift_60 (by decide) ?_
    refine go_iadd dX5_drift_63 ?_
    refine go_topi (fun y3 qy3 => ?_)
    have h := h y3 qy3
    refine go_istore (L2 := [(4, .int y3), (0, .ref 0), (2, .int (nI n)), (3, .int wh), (5, .int (nI s)), (6, .int (nI i))]) dX5_drift_64 (by decide) rfl ?_
    refine go_iload dX5_drift_66 0 rfl ?_
    refine go_bipush (v := 16) dX5_drift_68 (by decide) ?_
    refine go_iushr dX5_drift_70 ?_
    refine go_sipush (v := 32767) dX5_drift_71 (by decide) ?_
    refine go_iand dX5_drift_74 ?_
    refine go_topi (fun y4 qy4 => ?_)
    have h := h y4 qy4
    refine go_istore (L2 := [(7, .int y4), (4, .int y3), (0, .ref 0), (2, .int (nI n)), (3, .int wh), (5, .int (nI s)), (6, .int (nI i))]) dX5_drift_75 (by decide) rfl ?_
    refine go_aload_n dX5_drift_77 2 rfl ?_
    refine go_getR (kf := 1) (t := 6) rfl rfl rfl uwX5 (by decide) flX5_16 dX5_drift_78 ?_
    refine go_iload dX5_drift_81 0 rfl ?_
    refine go_aload_n dX5_drift_83 2 rfl ?_
    refine go_getR (kf := 0) (t := 1) rfl rfl rfl uwX5 (by decide) flX5_12 dX5_drift_84 ?_
    refine go_getI (kf := 4) rfl rfl rfl uwX0 (by decide) flX5_96 dX5_drift_87 ?_
    obtain ⟨c5, h⟩ := h
    refine go_irem dX5_drift_90 c5 ?_
    refine go_iconst (v := 1) dX5_drift_91 (by decide) ?_
    refine go_iload dX5_drift_92 0 rfl ?_
    refine go_bipush (v := 8) dX5_drift_94 (by decide) ?_
    refine go_idiv dX5_drift_96 (by decide) ?_
    refine go_iconst (v := 5) dX5_drift_97 (by decide) ?_
    refine go_irem dX5_drift_98 (by decide) ?_
    refine go_iadd dX5_drift_99 ?_
    obtain ⟨c6, h⟩ := h
    obtain ⟨c7, h⟩ := h
    obtain ⟨c8, h⟩ := h
    obtain ⟨c9, h⟩ := h
    obtain ⟨c10, h⟩ := h
    obtain ⟨c11, h⟩ := h
    obtain ⟨c12, h⟩ := h
    refine go_callV (st := []) (kX0_shiftI (d + 2) 6 bA6 (y4 - y4 / (mem 1 4) * (mem 1 4)) (1 + ((y4 / 8) - (y4 / 8) / 5 * 5)) cc mm kk pp hh uu c6 c7 c8 c9 c10 c11 c12) rfl rfl okX0_shift insX0_shift selX0_shift lkX5_150 rfl rfl (Nat.le_of_ble_eq_true rfl) dX5_drift_100 (fun v_ m2_ q => ?_)
    rw [q.1, q.2]
    refine go_stk (st2 := []) rfl ?_
    refine go_iload dX5_drift_103 5 rfl ?_
    refine go_aload_n dX5_drift_105 2 rfl ?_
    refine go_getR (kf := 1) (t := 6) rfl rfl rfl uwX5 (by decide) flX5_16 dX5_drift_106 ?_
    refine go_iconst (v := 0) dX5_drift_109 (by decide) ?_
    obtain ⟨c13, h⟩ := h
    obtain ⟨c14, h⟩ := h
    refine go_callV (st := [.int (nI s)]) (kX0_step (d + 0) 6 bA6 Y false 30 c13 c14) rfl rfl okX0_step insX0_step selX0_step lkX5_116 rfl rfl (Nat.le_of_ble_eq_true rfl) dX5_drift_110 (fun v_ m15 q => ?_)
    rw [q.1]
    have h := h m15 q.2
    refine go_stk (st2 := [.int (nI (who 9 Y)), .int (nI s)]) rfl ?_
    refine go_callS (st := [.int (nI s)]) (kJ6_bitCount_0f7a4 (d + 3) (nI (who 9 Y))) okJ6_bitCount_0f7a4 staJ6_bitCount_0f7a4 lkX5_162 rfl rfl (Nat.le_of_ble_eq_true rfl) dX5_drift_113 (fun v_ m2_ q => ?_)
    rw [q.1, q.2]
    refine go_stk (st2 := [.int (bcI (nI (who 9 Y))), .int (nI s)]) rfl ?_
    refine go_iadd dX5_drift_116 ?_
    refine go_topi (fun y16 qy16 => ?_)
    have h := h y16 qy16
    refine go_istore (L2 := [(5, .int y16), (7, .int y4), (4, .int y3), (0, .ref 0), (2, .int (nI n)), (3, .int wh), (6, .int (nI i))]) dX5_drift_117 (by decide) rfl ?_
    refine go_iinc (v := ((nI i) + 1)) (L2 := [(6, .int ((nI i) + 1)), (5, .int y16), (7, .int y4), (4, .int y3), (0, .ref 0), (2, .int (nI n)), (3, .int wh)]) dX5_drift_119 6 rfl rfl (by decide) rfl ?_
    refine go_goto 49 dX5_drift_122 (by decide) ?_
    exact Go.pick [4, 5, 6, 3, 1, 0] rfl h
