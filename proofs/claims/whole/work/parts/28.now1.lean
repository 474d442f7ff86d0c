
theorem Inv.now {mem m1 m2 : Mem} {X : Bm} (hI : Inv mem) (FB : FrB 1 mem m1) (FM : FrM 0 m1 m2) (RB : RepB m1 1 X) (RM : RepM m2 0 X) (V : VX 9 30 X) (ht : xt X ≤ 9999) : Inv m2 := by
  obtain ⟨X0, T, S, h1, h2, h3, h4, h5, h6, h7⟩ := hI
  have e : ∀ k, (k < 1 ∨ 5 < k) → k ≠ 41 → m2 k = mem k := fun k hk h41 => (FM.1 k h41).trans (FB k (by omega))
  have e41 : ∀ j, 23 ≤ j → m2 41 j = mem 41 j := fun j hj => (FM.2 j (by omega)).trans (by rw [FB 41 (by omega)])
  exact ⟨X, T, S, ⟨RB.fr (fun k _ _ => FM.1 k (by omega)), RM, V, ht⟩, h2.fr (fun k _ _ => e k (by omega) (by omega)) (e 22 (by omega) (by omega)) (e 48 (by omega) (by omega)) (fun j h _ => e41 j h), h3.fr (by rw [e 23 (by omega) (by omega)]) (by rw [e 40 (by omega) (by omega)]) (e 24 (by omega) (by omega)) (e 43 (by omega) (by omega)), h4.fr (by rw [e 0 (by omega) (by omega)]) (by rw [e 0 (by omega) (by omega)]) (by rw [e 40 (by omega) (by omega)]) (by rw [e 40 (by omega) (by omega)]), h5.fr (by rw [e 25 (by omega) (by omega)]) (by rw [e 40 (by omega) (by omega)]) (e 26 (by omega) (by omega)) (e 27 (by omega) (by omega)) (e 28 (by omega) (by omega)) (e 46 (by omega) (by omega)), h6.fr (fun k _ _ => e k (by omega) (by omega)) (e 49 (by omega) (by omega)) (e 50 (by omega) (by omega)) (e 51 (by omega) (by omega)), h7.fr (by rw [e 40 (by omega) (by omega)]) (e 44 (by omega) (by omega)) (e 45 (by omega) (by omega))⟩
theorem Sm_now {G : GX} {M1 M2 : MI} {as : List Value} (h : ∀ (mem : Mem) (X : Bm), C1 mem X → ∃ (F : Int32) (Y : Bm), VX 9 30 Y ∧ xt Y ≤ 9999 ∧ Cn G 9 M1 (.ref 0 :: as) mem (Ri F (fun m1 => RepB m1 1 Y ∧ FrB 1 mem m1)) ∧ ∀ m1 : Mem, RepM m1 0 X → m1 40 14 = goI 9 → Cn G 9 M2 (.ref 40 :: as) m1 (Ri F (fun m2 => RepM m2 0 Y ∧ FrM 0 m1 m2))) : Sm G M1 M2 as := by
  intro mem hI
  obtain ⟨X, T, S, h1, h2, h3, h4, h5, h6, h7⟩ := id hI
  obtain ⟨F, Y, hV, ht, k1, k2⟩ := h mem X h1
  refine k1.imp (fun v m1 q => ?_)
  obtain ⟨rfl, qR, qF⟩ := q
  exact (k2 m1 (h1.2.1.fr h1.2.2.1.1 (fun j _ _ => by rw [qF 41 (by omega)])) (by rw [qF 40 (by omega)]; exact h7.1)).imp (fun w m2 q2 => ⟨q2.1, hI.now qF q2.2.2 qR q2.2.1 hV ht⟩)
-- push
def stU (X : Bm) (v : Nat) : Bm := (xn X, xk X, xp X, xh X, xe X, v, xt X)
def stN (X : Bm) (v : Nat) : Bm := (v, xk X, xp X, xh X, xe X, xu X, xt X)
def pushA (X : Bm) (a : Int32) : Int32 × Bm := if 0 ≤ a ∧ a ≤ 5 then (nI (xu X), stU X a.toNatClampNeg) else (-1, X)
def cutA (X : Bm) (a : Int32) : Int32 × Bm := if 0 ≤ a ∧ a ≤ nI (xn X) then (nI (xn X), stN X a.toNatClampNeg) else (-1, X)
theorem i_of {a M : Int32} {n : Nat} (hM : M = nI n) (hn : n < 2000000000) (h : 0 ≤ a ∧ a ≤ M) : a.toNatClampNeg ≤ n ∧ a = nI a.toNatClampNeg := by
  obtain ⟨k, hk, rfl⟩ := i300 hM hn h
  rw [ncl (by omega)]
  exact ⟨hk, rfl⟩

set_option maxRecDepth 100000 in
theorem sX5_push_0 {G : GX} {d : Nat} {mem : Mem} {Φ : Option Value → Mem → Prop} (a1 : Int32) (h : (((0 ≤ a1 ∧ a1 ≤ 5) → ∀ y1 : Int32, y1 = (mem 1 5) → Φ (some (.int y1)) (um mem 1 5 a1)) ∧ (¬ (0 ≤ a1 ∧ a1 ≤ 5) → Φ (some (.int (-1))) mem))) : Go G (d + 1) mX5_push 0 [(0, .ref 0), (1, .int a1)] [] mem Φ := by
  refine go_iload_n dX5_push_0 1 rfl ?_
  refine go_iconst (v := 0) dX5_push_1 (by decide) ?_
  refine go_iconst (v := 5) dX5_push_2 (by decide) ?_
  refine go_callS (st := []) (kX5_isWithin (d + 0) a1 0 5) okX5_isWithin staX5_isWithin lkX5_59 rfl rfl (Nat.le_of_ble_eq_true rfl) dX5_push_3 (fun v_ m2_ q => ?_)
  rw [q.1, q.2]
  refine go_stk (st2 := [.int (bI (0 ≤ a1 ∧ a1 ≤ 5))]) rfl ?_
  refine go_if_ne 11 dX5_push_6 (by decide) (fun q => ?_) (fun q => ?_)
  · have h := h.1 (bI1.mp q)
    refine go_aload_n dX5_push_11 0 rfl ?_
    refine go_getR (kf := 0) (t := 1) rfl rfl rfl uwX5 (by decide) flX5_12 dX5_push_12 ?_
    refine go_getI (kf := 5) rfl rfl rfl uwX0 (by decide) flX5_99 dX5_push_15 ?_
    refine go_topi (fun y1 qy1 => ?_)
    have h := h y1 qy1
    refine go_istore_n (L2 := [(2, .int y1), (0, .ref 0), (1, .int a1)]) dX5_push_18 (by decide) rfl ?_
    refine go_aload_n dX5_push_19 1 rfl ?_
    refine go_getR (kf := 0) (t := 1) rfl rfl rfl uwX5 (by decide) flX5_12 dX5_push_20 ?_
    refine go_iload_n dX5_push_23 2 rfl ?_
    refine go_putI (kf := 5) rfl rfl rfl uwX0 tyX0_ok nmX0 (by decide) rfl flX5_99 rfl rfl dX5_push_24 ?_
    refine go_iload_n dX5_push_27 0 rfl ?_
    exact go_iret rfl dX5_push_28 h
  · have h := h.2 (bI0.mp q)
    refine go_iconst (v := (-1)) dX5_push_9 (by decide) ?_
    exact go_iret rfl dX5_push_10 h

set_option maxRecDepth 100000 in
theorem sX6_push_0 {G : GX} {d : Nat} {mem : Mem} {Φ : Option Value → Mem → Prop} (a1 : Int32) (h : (((0 ≤ a1 ∧ a1 ≤ 5) → ∀ y1 : Int32, y1 = ((mem 41 (21 : Int32).toNatClampNeg) + 1) → ∀ m2 : Mem, m2 = (um mem 41 (21 : Int32).toNatClampNeg (a1 - 1)) → Φ (some (.int y1)) m2) ∧ (¬ (0 ≤ a1 ∧ a1 ≤ 5) → Φ (some (.int (-1))) mem))) : Go G (d + 1) mX6_push 0 [(0, .ref 40), (1, .int a1)] [] mem Φ := by
  refine go_iload_n dX6_push_0 1 rfl ?_
  refine go_i2l dX6_push_1 ?_
  refine go_lconst (v := 0) dX6_push_2 (by decide) ?_
  refine go_ldc2 klX6_153 dX6_push_3 ?_
  refine go_callS (st := []) (kX6_in (d + 0) a1 0 5 0 5 (by decide) (by decide)) okX6_in staX6_in lkX6_50 rfl rfl (Nat.le_of_ble_eq_true rfl) dX6_push_6 (fun v_ m2_ q => ?_)
  rw [q.1, q.2]
  refine go_stk (st2 := [.int (bI (0 ≤ a1 ∧ a1 ≤ 5))]) rfl ?_
  refine go_if_ne 14 dX6_push_9 (by decide) (fun q => ?_) (fun q => ?_)
  · have h := h.1 (bI1.mp q)
    refine go_aload_n dX6_push_14 0 rfl ?_
    refine go_getR (kf := 0) (t := 41) rfl rfl rfl uwX6 (by decide) flX6_7 dX6_push_15 ?_
    refine go_bipush (v := 21) dX6_push_18 (by decide) ?_
    refine go_iaload rfl (nin (a := 21) (by decide) (by decide)) dX6_push_20 ?_
    refine go_iconst (v := 1) dX6_push_21 (by decide) ?_
    refine go_iadd dX6_push_22 ?_
    refine go_topi (fun y1 qy1 => ?_)
    have h := h y1 qy1
    refine go_istore_n (L2 := [(2, .int y1), (0, .ref 40), (1, .int a1)]) dX6_push_23 (by decide) rfl ?_
    refine go_aload_n dX6_push_24 1 rfl ?_
    refine go_getR (kf := 0) (t := 41) rfl rfl rfl uwX6 (by decide) flX6_7 dX6_push_25 ?_
    refine go_bipush (v := 21) dX6_push_28 (by decide) ?_
    refine go_iload_n dX6_push_30 2 rfl ?_
    refine go_iconst (v := 1) dX6_push_31 (by decide) ?_
    refine go_isub dX6_push_32 ?_
    refine go_iastore rfl (nin (a := 21) (by decide) (by decide)) dX6_push_33 ?_
    refine go_mem (fun m2 qm2 => ?_)
    have h := h m2 qm2
    refine go_iload_n dX6_push_34 0 rfl ?_
    exact go_iret rfl dX6_push_35 h
  · have h := h.2 (bI0.mp q)
    refine go_iconst (v := (-1)) dX6_push_12 (by decide) ?_
    exact go_iret rfl dX6_push_13 h

set_option maxRecDepth 100000 in
theorem sX5_cut_0 {G : GX} {d : Nat} {mem : Mem} {Φ : Option Value → Mem → Prop} (a1 : Int32) (h : (((0 ≤ a1 ∧ a1 ≤ (mem 1 4)) → ∀ y1 : Int32, y1 = (mem 1 4) → Φ (some (.int y1)) (um mem 1 4 a1)) ∧ (¬ (0 ≤ a1 ∧ a1 ≤ (mem 1 4)) → Φ (some (.int (-1))) mem))) : Go G (d + 1) mX5_cut 0 [(0, .ref 0), (1, .int a1)] [] mem Φ := by
  refine go_iload_n dX5_cut_0 1 rfl ?_
  refine go_iconst (v := 0) dX5_cut_1 (by decide) ?_
  refine go_aload_n dX5_cut_2 0 rfl ?_
  refine go_getR (kf := 0) (t := 1) rfl rfl rfl uwX5 (by decide) flX5_12 dX5_cut_3 ?_
  refine go_getI (kf := 4) rfl rfl rfl uwX0 (by decide) flX5_96 dX5_cut_6 ?_
  refine go_callS (st := []) (kX5_isWithin (d + 0) a1 0 (mem 1 4)) okX5_isWithin staX5_isWithin lkX5_59 rfl rfl (Nat.le_of_ble_eq_true rfl) dX5_cut_9 (fun v_ m2_ q => ?_)
  rw [q.1, q.2]
  refine go_stk (st2 := [.int (bI (0 ≤ a1 ∧ a1 ≤ (mem 1 4)))]) rfl ?_
  refine go_if_ne 17 dX5_cut_12 (by decide) (fun q => ?_) (fun q => ?_)
  · have h := h.1 (bI1.mp q)
    refine go_aload_n dX5_cut_17 0 rfl ?_
    refine go_getR (kf := 0) (t := 1) rfl rfl rfl uwX5 (by decide) flX5_12 dX5_cut_18 ?_
    refine go_getI (kf := 4) rfl rfl rfl uwX0 (by decide) flX5_96 dX5_cut_21 ?_
    refine go_topi (fun y1 qy1 => ?_)
    have h := h y1 qy1
    refine go_istore_n (L2 := [(2, .int y1), (0, .ref 0), (1, .int a1)]) dX5_cut_24 (by decide) rfl ?_
    refine go_aload_n dX5_cut_25 1 rfl ?_
    refine go_getR (kf := 0) (t := 1) rfl rfl rfl uwX5 (by decide) flX5_12 dX5_cut_26 ?_
    refine go_iload_n dX5_cut_29 2 rfl ?_
    refine go_putI (kf := 4) rfl rfl rfl uwX0 tyX0_ok nmX0 (by decide) rfl flX5_96 rfl rfl dX5_cut_30 ?_
    refine go_iload_n dX5_cut_33 0 rfl ?_
    exact go_iret rfl dX5_cut_34 h
  · have h := h.2 (bI0.mp q)
    refine go_iconst (v := (-1)) dX5_cut_15 (by decide) ?_
    exact go_iret rfl dX5_cut_16 h

set_option maxRecDepth 100000 in
theorem sX6_cut_0 {G : GX} {d : Nat} {mem : Mem} {Φ : Option Value → Mem → Prop} (a1 : Int32) (h : (((0 ≤ a1 ∧ a1 ≤ (mem 41 (20 : Int32).toNatClampNeg)) → ∀ y1 : Int32, y1 = (mem 41 (20 : Int32).toNatClampNeg) → Φ (some (.int y1)) (um mem 41 (20 : Int32).toNatClampNeg a1)) ∧ (¬ (0 ≤ a1 ∧ a1 ≤ (mem 41 (20 : Int32).toNatClampNeg)) → Φ (some (.int (-1))) mem))) : Go G (d + 1) mX6_cut 0 [(0, .ref 40), (1, .int a1)] [] mem Φ := by
  refine go_iload_n dX6_cut_0 1 rfl ?_
  refine go_i2l dX6_cut_1 ?_
  refine go_lconst (v := 0) dX6_cut_2 (by decide) ?_
  refine go_aload_n dX6_cut_3 0 rfl ?_
  refine go_getR (kf := 0) (t := 41) rfl rfl rfl uwX6 (by decide) flX6_7 dX6_cut_4 ?_
  refine go_bipush (v := 20) dX6_cut_7 (by decide) ?_
  refine go_iaload rfl (nin (a := 20) (by decide) (by decide)) dX6_cut_9 ?_
  refine go_i2l dX6_cut_10 ?_
  refine go_callS (st := []) (kX6_in (d + 0) a1 0 (mem 41 (20 : Int32).toNatClampNeg) 0 (((mem 41 (20 : Int32).toNatClampNeg) : Int32).toInt64) (by decide) rfl) okX6_in staX6_in lkX6_50 rfl rfl (Nat.le_of_ble_eq_true rfl) dX6_cut_11 (fun v_ m2_ q => ?_)
  rw [q.1, q.2]
  refine go_stk (st2 := [.int (bI (0 ≤ a1 ∧ a1 ≤ (mem 41 (20 : Int32).toNatClampNeg)))]) rfl ?_
  refine go_if_ne 19 dX6_cut_14 (by decide) (fun q => ?_) (fun q => ?_)
  · have h := h.1 (bI1.mp q)
    refine go_aload_n dX6_cut_19 0 rfl ?_
    refine go_getR (kf := 0) (t := 41) rfl rfl rfl uwX6 (by decide) flX6_7 dX6_cut_20 ?_
    refine go_bipush (v := 20) dX6_cut_23 (by decide) ?_
    refine go_iaload rfl (nin (a := 20) (by decide) (by decide)) dX6_cut_25 ?_
    refine go_topi (fun y1 qy1 => ?_)
    have h := h y1 qy1
    refine go_istore_n (L2 := [(2, .int y1), (0, .ref 40), (1, .int a1)]) dX6_cut_26 (by decide) rfl ?_
    refine go_aload_n dX6_cut_27 1 rfl ?_
    refine go_getR (kf := 0) (t := 41) rfl rfl rfl uwX6 (by decide) flX6_7 dX6_cut_28 ?_
    refine go_bipush (v := 20) dX6_cut_31 (by decide) ?_
    refine go_iload_n dX6_cut_33 2 rfl ?_
    refine go_iastore rfl (nin (a := 20) (by decide) (by decide)) dX6_cut_34 ?_
    refine go_iload_n dX6_cut_35 0 rfl ?_
    exact go_iret rfl dX6_cut_36 h
  · have h := h.2 (bI0.mp q)
    refine go_iconst (v := (-1)) dX6_cut_17 (by decide) ?_
    exact go_iret rfl dX6_cut_18 h


theorem VX_stU {X : Bm} {v : Nat} (h : VX 9 30 X) (hv : v ≤ 5) : VX 9 30 (stU X v) := ⟨h.1, hv, h.2.2⟩
theorem VX_stN {X : Bm} {v : Nat} (h : VX 9 30 X) (hv : v ≤ xn X) : VX 9 30 (stN X v) := ⟨Nat.le_trans hv h.1, h.2.1, fun c hc => h.2.2 c (Nat.lt_of_lt_of_le hc hv)⟩
theorem P7 {G : GX} (a : Int32) : Sm G mX5_push mX6_push [.int a] := Sm_now (fun mem X h => by
  obtain ⟨hB, hM, hV, ht⟩ := h
  refine ⟨(pushA X a).1, (pushA X a).2, ?_, ?_, ?_, fun m1 hM1 _ => ?_⟩
  · unfold pushA
    split
    · exact VX_stU hV (i_of (n := 5) rfl (by omega) (by assumption)).1
    · exact hV
  · unfold pushA
    split
    · exact ht
    · exact ht
  · refine cn_of (by decide +kernel) (Nat.le_of_ble_eq_true rfl) (sX5_push_0 (d := 8) a ⟨fun q y hy => ?_, fun q => ?_⟩)
    · unfold pushA
      rw [if_pos q]
      have e := (i_of (n := 5) rfl (by omega) q).2
      refine Ri.mk (by rw [hy]; exact hB.2.1) ⟨⟨?_, ?_, ?_, fun c hc => ?_⟩, fun k hk => um_ne (by omega)⟩
      · rw [um_at, if_neg (by decide)]; exact hB.1
      · rw [um_at, if_pos rfl]; exact e
      · rw [um_at, if_neg (by decide)]; exact hB.2.2.1
      · rw [um_ne (by omega), um_ne (by omega), um_ne (by omega), um_ne (by omega)]; exact hB.2.2.2 c hc
    · unfold pushA
      rw [if_neg q]
      exact Ri.mk rfl ⟨hB, FrB.rf⟩
  · refine cn_of (by decide +kernel) (Nat.le_of_ble_eq_true rfl) (sX6_push_0 (d := 8) a ?_)
    rw [z21, (RepM0 hM1).2.1, Int32.sub_add_cancel]
    refine ⟨fun q y hy m2 h2 => ?_, fun q => ?_⟩
    · unfold pushA
      rw [if_pos q]
      have e := (i_of (n := 5) rfl (by omega) q).2
      have f : ∀ j, j ≠ 21 → m2 41 j = m1 41 j := fun j hj => by rw [h2, um41 hj]
      have hn := hV.1
      refine Ri.mk hy ⟨⟨by rw [f _ (by omega)]; exact hM1.1, ?_, by rw [f _ (by omega)]; exact hM1.2.2.1, fun c hc => ?_⟩, fun k hk => by rw [h2, um_ne hk], fun j hj => f j (by omega)⟩
      · rw [h2]
        show um m1 41 21 (a - 1) 41 21 = nI a.toNatClampNeg - 1
        rw [um_same, ← e]
      · have hc2 : c < xn X := hc
        rw [f _ (by omega), f _ (by omega), f _ (by omega), f _ (by omega)]; exact hM1.2.2.2 c hc
    · unfold pushA
      rw [if_neg q]
      exact Ri.mk rfl ⟨hM1, FrM.rf⟩)
theorem P9 {G : GX} (a : Int32) : Sm G mX5_cut mX6_cut [.int a] := Sm_now (fun mem X h => by
  obtain ⟨hB, hM, hV, ht⟩ := h
  have hn := hV.1
  refine ⟨(cutA X a).1, (cutA X a).2, ?_, ?_, ?_, fun m1 hM1 _ => ?_⟩
  · unfold cutA
    split
    · exact VX_stN hV (i_of rfl (by omega) (by assumption)).1
    · exact hV
  · unfold cutA
    split
    · exact ht
    · exact ht
  · refine cn_of (by decide +kernel) (Nat.le_of_ble_eq_true rfl) (sX5_cut_0 (d := 8) a ?_)
    rw [hB.1]
    refine ⟨fun q y hy => ?_, fun q => ?_⟩
    · unfold cutA
      rw [if_pos q]
      obtain ⟨e1, e⟩ := i_of rfl (by omega) q
      refine Ri.mk hy ⟨⟨?_, ?_, ?_, fun c hc => ?_⟩, fun k hk => um_ne (by omega)⟩
      · rw [um_at, if_pos rfl]; exact e
      · rw [um_at, if_neg (by decide)]; exact hB.2.1
      · rw [um_at, if_neg (by decide)]; exact hB.2.2.1
      · rw [um_ne (by omega), um_ne (by omega), um_ne (by omega), um_ne (by omega)]; exact hB.2.2.2 c (Nat.lt_of_lt_of_le hc e1)
    · unfold cutA
      rw [if_neg q]
      exact Ri.mk rfl ⟨hB, FrB.rf⟩
  · refine cn_of (by decide +kernel) (Nat.le_of_ble_eq_true rfl) (sX6_cut_0 (d := 8) a ?_)
    rw [z20, (RepM0 hM1).1]
    refine ⟨fun q y hy => ?_, fun q => ?_⟩
    · unfold cutA
      rw [if_pos q]
      obtain ⟨e1, e⟩ := i_of rfl (by omega) q
      have f : ∀ j, j ≠ 20 → um m1 41 20 a 41 j = m1 41 j := fun j hj => um41 hj
      refine Ri.mk hy ⟨⟨?_, by rw [f _ (by omega)]; exact hM1.2.1, by rw [f _ (by omega)]; exact hM1.2.2.1, fun c hc => ?_⟩, fun k hk => um_ne hk, fun j hj => f j (by omega)⟩
      · show um m1 41 20 a 41 20 = nI a.toNatClampNeg
        rw [um_same, ← e]
      · have hc2 : c < xn X := Nat.lt_of_lt_of_le hc e1
        rw [f _ (by omega), f _ (by omega), f _ (by omega), f _ (by omega)]; exact hM1.2.2.2 c hc2
    · unfold cutA
      rw [if_neg q]
      exact Ri.mk rfl ⟨hM1, FrM.rf⟩)
-- hang
theorem kX0_addClockI {G : GX} (d : Nat) {mem : Mem} (b : Nat) (hB : BeamAt b) (a1 a2 a3 : Int32) (k p h : Nat) (X : Bm) (e : a1 = nI k ∧ a2 = nI p ∧ a3 = nI h) (hn : xn X < 5) (hR : RepB mem b X) : Cn G (d + 0) mX0_addClock [.ref b, .int a1, .int a2, .int a3] mem (Rv (fun m2 => RepB m2 b (addX X k p h) ∧ FrB b mem m2)) := by
  rw [e.1, e.2.1, e.2.2]; exact kX0_addClock d b hB k p h X hn hR
def hangA (X : Bm) (k p : Int32) : Int32 × Bm := if (0 ≤ k ∧ k ≤ 3) ∧ (2 ≤ p ∧ p ≤ 30) then (if nI (xn X) < 5 then (nI (xn X + 1), addX X k.toNatClampNeg p.toNatClampNeg 0) else (-3, X)) else (-1, X)

set_option maxRecDepth 100000 in
theorem sX5_hang_0 {G : GX} {d : Nat} {mem : Mem} {Φ : Option Value → Mem → Prop} (a1 a2 : Int32) (X : Bm) (h : ((¬ (0 ≤ a1 ∧ a1 ≤ 3) → Φ (some (.int (-1))) mem) ∧ ((0 ≤ a1 ∧ a1 ≤ 3) → (((2 ≤ a2 ∧ a2 ≤ 30) → (((mem 1 4) < 5 → (a1 = nI a1.toNatClampNeg ∧ a2 = nI a2.toNatClampNeg ∧ 0 = nI 0) ∧ (xn X < 5) ∧ (RepB mem 1 X) ∧ ∀ m4 : Mem, (RepB m4 1 (addX X a1.toNatClampNeg a2.toNatClampNeg 0) ∧ FrB 1 mem m4) → Φ (some (.int (m4 1 4))) m4) ∧ (¬ (mem 1 4) < 5 → Φ (some (.int (-3))) mem))) ∧ (¬ (2 ≤ a2 ∧ a2 ≤ 30) → Φ (some (.int (-1))) mem))))) : Go G (d + 1) mX5_hang 0 [(0, .ref 0), (1, .int a1), (2, .int a2)] [] mem Φ := by
  refine go_iload_n dX5_hang_0 1 rfl ?_
  refine go_iconst (v := 0) dX5_hang_1 (by decide) ?_
  refine go_iconst (v := 3) dX5_hang_2 (by decide) ?_
  refine go_callS (st := []) (kX5_isWithin (d + 0) a1 0 3) okX5_isWithin staX5_isWithin lkX5_59 rfl rfl (Nat.le_of_ble_eq_true rfl) dX5_hang_3 (fun v_ m2_ q => ?_)
  rw [q.1, q.2]
  refine go_stk (st2 := [.int (bI (0 ≤ a1 ∧ a1 ≤ 3))]) rfl ?_
  refine go_if_eq 19 dX5_hang_6 (by decide) (fun q => ?_) (fun q => ?_)
  · have h := h.1 (bI0.mp q)
    refine go_iconst (v := (-1)) dX5_hang_19 (by decide) ?_
    exact go_iret rfl dX5_hang_20 h
  · have h := h.2 (bI1.mp q)
    refine go_iload_n dX5_hang_9 2 rfl ?_
    refine go_iconst (v := 2) dX5_hang_10 (by decide) ?_
    refine go_bipush (v := 30) dX5_hang_11 (by decide) ?_
    refine go_callS (st := []) (kX5_isWithin (d + 0) a2 2 30) okX5_isWithin staX5_isWithin lkX5_59 rfl rfl (Nat.le_of_ble_eq_true rfl) dX5_hang_13 (fun v_ m2_ q => ?_)
    rw [q.1, q.2]
    refine go_stk (st2 := [.int (bI (2 ≤ a2 ∧ a2 ≤ 30))]) rfl ?_
    refine go_if_ne 21 dX5_hang_16 (by decide) (fun q => ?_) (fun q => ?_)
    · have h := h.1 (bI1.mp q)
      refine go_aload_n dX5_hang_21 0 rfl ?_
      refine go_getR (kf := 0) (t := 1) rfl rfl rfl uwX5 (by decide) flX5_12 dX5_hang_22 ?_
      refine go_getI (kf := 4) rfl rfl rfl uwX0 (by decide) flX5_96 dX5_hang_25 ?_
      refine go_iconst (v := 5) dX5_hang_28 (by decide) ?_
      refine go_icmp_lt 35 dX5_hang_29 (by decide) (fun q => ?_) (fun q => ?_)
      · have h := h.1 q
        refine go_aload_n dX5_hang_35 0 rfl ?_
        refine go_getR (kf := 0) (t := 1) rfl rfl rfl uwX5 (by decide) flX5_12 dX5_hang_36 ?_
        refine go_iload_n dX5_hang_39 1 rfl ?_
        refine go_iload_n dX5_hang_40 2 rfl ?_
        refine go_iconst (v := 0) dX5_hang_41 (by decide) ?_
        obtain ⟨c1, h⟩ := h
        obtain ⟨c2, h⟩ := h
        obtain ⟨c3, h⟩ := h
        refine go_callV (st := []) (kX0_addClockI (d + 0) 1 bA1 a1 a2 0 a1.toNatClampNeg a2.toNatClampNeg 0 X c1 c2 c3) rfl rfl okX0_addClock insX0_addClock selX0_addClock lkX5_146 rfl rfl (Nat.le_of_ble_eq_true rfl) dX5_hang_42 (fun v_ m4 q => ?_)
        rw [q.1]
        have h := h m4 q.2
        refine go_stk (st2 := []) rfl ?_
        refine go_aload_n dX5_hang_45 0 rfl ?_
        refine go_getR (kf := 0) (t := 1) rfl rfl rfl uwX5 (by decide) flX5_12 dX5_hang_46 ?_
        refine go_getI (kf := 4) rfl rfl rfl uwX0 (by decide) flX5_96 dX5_hang_49 ?_
        exact go_iret rfl dX5_hang_52 h
      · have h := h.2 q
        refine go_bipush (v := (-3)) dX5_hang_32 (by decide) ?_
        exact go_iret rfl dX5_hang_34 h
    · have h := h.2 (bI0.mp q)
      refine go_iconst (v := (-1)) dX5_hang_19 (by decide) ?_
      exact go_iret rfl dX5_hang_20 h

set_option maxRecDepth 100000 in
theorem sX6_hang_0 {G : GX} {d : Nat} {mem : Mem} {Φ : Option Value → Mem → Prop} (a1 : Int32) (a2 : Int32) (h : ((¬ (0 ≤ a1 ∧ a1 ≤ 3) → Φ (some (.int (-1))) mem) ∧ ((0 ≤ a1 ∧ a1 ≤ 3) → (((2 ≤ a2 ∧ a2 ≤ 30) → ∀ y1 : Int32, y1 = (mem 41 (20 : Int32).toNatClampNeg) → ((¬ y1 = 5 → (vp_in y1 138) ∧ (vp_in (5 + y1) 138) ∧ ∀ m4 : Mem, m4 = (um (um mem 41 (y1 : Int32).toNatClampNeg a1) 41 ((5 + y1) : Int32).toNatClampNeg a2) → (vp_in (10 + y1) 138) ∧ (vp_in (15 + y1) 138) ∧ ∀ m7 : Mem, m7 = (um (um m4 41 ((10 + y1) : Int32).toNatClampNeg 0) 41 ((15 + y1) : Int32).toNatClampNeg 0) → ∀ m8 : Mem, m8 = (um m7 41 (20 : Int32).toNatClampNeg ((m7 41 (20 : Int32).toNatClampNeg) + 1)) → Φ (some (.int (m8 41 (20 : Int32).toNatClampNeg))) m8) ∧ (y1 = 5 → Φ (some (.int (-3))) mem))) ∧ (¬ (2 ≤ a2 ∧ a2 ≤ 30) → Φ (some (.int (-1))) mem))))) : Go G (d + 1) mX6_hang 0 [(0, .ref 40), (1, .int a1), (2, .int a2)] [] mem Φ := by
  refine go_iload_n dX6_hang_0 1 rfl ?_
  refine go_i2l dX6_hang_1 ?_
  refine go_lconst (v := 0) dX6_hang_2 (by decide) ?_
  refine go_ldc2 klX6_141 dX6_hang_3 ?_
  refine go_callS (st := []) (kX6_in (d + 0) a1 0 3 0 3 (by decide) (by decide)) okX6_in staX6_in lkX6_50 rfl rfl (Nat.le_of_ble_eq_true rfl) dX6_hang_6 (fun v_ m2_ q => ?_)
  rw [q.1, q.2]
  refine go_stk (st2 := [.int (bI (0 ≤ a1 ∧ a1 ≤ 3))]) rfl ?_
  refine go_if_eq 26 dX6_hang_9 (by decide) (fun q => ?_) (fun q => ?_)
  · have h := h.1 (bI0.mp q)
    refine go_iconst (v := (-1)) dX6_hang_26 (by decide) ?_
    exact go_iret rfl dX6_hang_27 h
  · have h := h.2 (bI1.mp q)
    refine go_iload_n dX6_hang_12 2 rfl ?_
    refine go_i2l dX6_hang_13 ?_
    refine go_ldc2 klX6_143 dX6_hang_14 ?_
    refine go_ldc2 klX6_145 dX6_hang_17 ?_
    refine go_callS (st := []) (kX6_in (d + 0) a2 2 30 2 30 (by decide) (by decide)) okX6_in staX6_in lkX6_50 rfl rfl (Nat.le_of_ble_eq_true rfl) dX6_hang_20 (fun v_ m2_ q => ?_)
    rw [q.1, q.2]
    refine go_stk (st2 := [.int (bI (2 ≤ a2 ∧ a2 ≤ 30))]) rfl ?_
    refine go_if_ne 28 dX6_hang_23 (by decide) (fun q => ?_) (fun q => ?_)
    · have h := h.1 (bI1.mp q)
      refine go_aload_n dX6_hang_28 0 rfl ?_
      refine go_getR (kf := 0) (t := 41) rfl rfl rfl uwX6 (by decide) flX6_7 dX6_hang_29 ?_
      refine go_bipush (v := 20) dX6_hang_32 (by decide) ?_
      refine go_iaload rfl (nin (a := 20) (by decide) (by decide)) dX6_hang_34 ?_
      refine go_topi (fun y1 qy1 => ?_)
      have h := h y1 qy1
      refine go_istore_n (L2 := [(3, .int y1), (0, .ref 40), (1, .int a1), (2, .int a2)]) dX6_hang_35 (by decide) rfl ?_
      refine go_iload_n dX6_hang_36 0 rfl ?_
      refine go_iconst (v := 5) dX6_hang_37 (by decide) ?_
      refine go_icmp_ne 44 dX6_hang_38 (by decide) (fun q => ?_) (fun q => ?_)
      · have h := h.1 q
        refine go_aload_n dX6_hang_44 1 rfl ?_
        refine go_getR (kf := 0) (t := 41) rfl rfl rfl uwX6 (by decide) flX6_7 dX6_hang_45 ?_
        refine go_iload_n dX6_hang_48 0 rfl ?_
        refine go_iload_n dX6_hang_49 2 rfl ?_
        obtain ⟨c2, h⟩ := h
        refine go_iastore rfl c2 dX6_hang_50 ?_
        refine go_aload_n dX6_hang_51 1 rfl ?_
        refine go_getR (kf := 0) (t := 41) rfl rfl rfl uwX6 (by decide) flX6_7 dX6_hang_52 ?_
        refine go_iconst (v := 5) dX6_hang_55 (by decide) ?_
        refine go_iload_n dX6_hang_56 0 rfl ?_
        refine go_iadd dX6_hang_57 ?_
        refine go_iload_n dX6_hang_58 3 rfl ?_
        obtain ⟨c3, h⟩ := h
        refine go_iastore rfl c3 dX6_hang_59 ?_
        refine go_mem (fun m4 qm4 => ?_)
        have h := h m4 qm4
        refine go_aload_n dX6_hang_60 1 rfl ?_
        refine go_getR (kf := 0) (t := 41) rfl rfl rfl uwX6 (by decide) flX6_7 dX6_hang_61 ?_
        refine go_bipush (v := 10) dX6_hang_64 (by decide) ?_
        refine go_iload_n dX6_hang_66 0 rfl ?_
        refine go_iadd dX6_hang_67 ?_
        refine go_iconst (v := 0) dX6_hang_68 (by decide) ?_
        obtain ⟨c5, h⟩ := h
        refine go_iastore rfl c5 dX6_hang_69 ?_
        refine go_aload_n dX6_hang_70 1 rfl ?_
        refine go_getR (kf := 0) (t := 41) rfl rfl rfl uwX6 (by decide) flX6_7 dX6_hang_71 ?_
        refine go_bipush (v := 15) dX6_hang_74 (by decide) ?_
        refine go_iload_n dX6_hang_76 0 rfl ?_
        refine go_iadd dX6_hang_77 ?_
        refine go_iconst (v := 0) dX6_hang_78 (by decide) ?_
        obtain ⟨c6, h⟩ := h
        refine go_iastore rfl c6 dX6_hang_79 ?_
        refine go_mem (fun m7 qm7 => ?_)
        have h := h m7 qm7
        refine go_aload_n dX6_hang_80 1 rfl ?_
        refine go_getR (kf := 0) (t := 41) rfl rfl rfl uwX6 (by decide) flX6_7 dX6_hang_81 ?_
        refine go_bipush (v := 20) dX6_hang_84 (by decide) ?_
        refine go_dup2 dX6_hang_86 rfl rfl ?_
        refine go_iaload rfl (nin (a := 20) (by decide) (by decide)) dX6_hang_87 ?_
        refine go_iconst (v := 1) dX6_hang_88 (by decide) ?_
        refine go_iadd dX6_hang_89 ?_
        refine go_iastore rfl (nin (a := 20) (by decide) (by decide)) dX6_hang_90 ?_
        refine go_mem (fun m8 qm8 => ?_)
        have h := h m8 qm8
        refine go_aload_n dX6_hang_91 1 rfl ?_
        refine go_getR (kf := 0) (t := 41) rfl rfl rfl uwX6 (by decide) flX6_7 dX6_hang_92 ?_
        refine go_bipush (v := 20) dX6_hang_95 (by decide) ?_
        refine go_iaload rfl (nin (a := 20) (by decide) (by decide)) dX6_hang_97 ?_
        exact go_iret rfl dX6_hang_98 h
      · have h := h.2 q
        refine go_bipush (v := (-3)) dX6_hang_41 (by decide) ?_
        exact go_iret rfl dX6_hang_43 h
    · have h := h.2 (bI0.mp q)
      refine go_iconst (v := (-1)) dX6_hang_26 (by decide) ?_
      exact go_iret rfl dX6_hang_27 h


theorem VX_add {X : Bm} {k p : Nat} (h : VX 9 30 X) (hn : xn X < 5) (hk : k ≤ 3) (hp : 2 ≤ p) (hp2 : p ≤ 30) : VX 9 30 (addX X k p 0) := by
  refine ⟨hn, h.2.1, fun c hc => ?_⟩
  have hc2 : c < xn X + 1 := hc
  show upN (xk X) (xn X) k c ≤ 3 ∧ 2 ≤ upN (xp X) (xn X) p c ∧ upN (xp X) (xn X) p c ≤ 30 ∧ (c ≠ 9 → upN (xh X) (xn X) 0 c < upN (xp X) (xn X) p c) ∧ (c = 9 → upN (xh X) (xn X) 0 c ≤ 30)
  unfold upN
  by_cases q : c = xn X
  · rw [if_pos q, if_pos q, if_pos q]
    exact ⟨hk, hp, hp2, fun _ => by omega, fun _ => by omega⟩
  · rw [if_neg q, if_neg q, if_neg q]
    exact h.2.2 c (by omega)
set_option maxHeartbeats 4000000 in
theorem P8 {G : GX} (k p : Int32) : Sm G mX5_hang mX6_hang [.int k, .int p] := Sm_now (fun mem X h => by
  obtain ⟨hB, hM, hV, ht⟩ := h
  have hn := hV.1
  have c5 : nI (xn X) < 5 ↔ xn X < 5 := nlt (b := 5) (by omega) (by omega)
  refine ⟨(hangA X k p).1, (hangA X k p).2, ?_, ?_, ?_, fun m1 hM1 _ => ?_⟩
  · unfold hangA
    by_cases q : (0 ≤ k ∧ k ≤ 3) ∧ (2 ≤ p ∧ p ≤ 30)
    · rw [if_pos q]
      by_cases q2 : nI (xn X) < 5
      · rw [if_pos q2]
        obtain ⟨e1, e2⟩ := i_of (n := 3) rfl (by omega) q.1
        obtain ⟨e3, e4⟩ := i_of (n := 30) rfl (by omega) ⟨Int32.le_trans (by decide) q.2.1, q.2.2⟩
        have e5 : 2 ≤ p.toNatClampNeg := by
          have := q.2.1
          rw [e4] at this
          exact (nle (a := 2) (by omega) (by omega)).mp this
        exact VX_add hV (c5.mp q2) e1 e5 e3
      · rw [if_neg q2]; exact hV
    · rw [if_neg q]; exact hV
  · unfold hangA
    split
    · split <;> exact ht
    · exact ht
  · refine cn_of (by decide +kernel) (Nat.le_of_ble_eq_true rfl) (sX5_hang_0 (d := 8) k p X ?_)
    rw [hB.1]
    unfold hangA
    refine ⟨fun q => ?_, fun q => ⟨fun q2 => ⟨fun q3 => ?_, fun q3 => ?_⟩, fun q2 => ?_⟩⟩
    · rw [if_neg (fun z => q z.1)]; exact Ri.mk rfl ⟨hB, FrB.rf⟩
    · rw [if_pos ⟨q, q2⟩, if_pos q3]
      refine ⟨⟨(i_of (n := 3) rfl (by omega) q).2, (i_of (n := 30) rfl (by omega) ⟨Int32.le_trans (by decide) q2.1, q2.2⟩).2, rfl⟩, c5.mp q3, hB, fun m4 h4 => Ri.mk h4.1.1 h4⟩
    · rw [if_pos ⟨q, q2⟩, if_neg q3]; exact Ri.mk rfl ⟨hB, FrB.rf⟩
    · rw [if_neg (fun z => q2 z.2)]; exact Ri.mk rfl ⟨hB, FrB.rf⟩
  · refine cn_of (by decide +kernel) (Nat.le_of_ble_eq_true rfl) (sX6_hang_0 (d := 8) k p ?_)
    rw [z20, (RepM0 hM1).1]
    unfold hangA
    refine ⟨fun q => ?_, fun q => ⟨fun q2 y1 hy1 => ?_, fun q2 => ?_⟩⟩
    · rw [if_neg (fun z => q z.1)]; exact Ri.mk rfl ⟨hM1, FrM.rf⟩
    · rw [if_pos ⟨q, q2⟩]
      subst hy1
      have n5 : nI (xn X) = 5 ↔ ¬ xn X < 5 := by
        rw [show (5 : Int32) = nI 5 from rfl, neq (by omega) (by omega)]
        omega
      rw [n5]
      refine ⟨fun q3 => ?_, fun q3 => ?_⟩
      · have q4 : xn X < 5 := by omega
        rw [if_pos (c5.mpr q4), ncl (show xn X < 2000000000 by omega), show ((5 : Int32) + nI (xn X)).toNatClampNeg = 5 + xn X from qa (P := 5) (by omega), show ((10 : Int32) + nI (xn X)).toNatClampNeg = 10 + xn X from qa (P := 10) (by omega), show ((15 : Int32) + nI (xn X)).toNatClampNeg = 15 + xn X from qa (P := 15) (by omega)]
        refine ⟨nin (by omega) (by omega), qL (P := 5) (by omega), fun m4 h4 => ⟨qL (P := 10) (by omega), qL (P := 15) (by omega), fun m7 h7 m8 h8 => ?_⟩⟩
        obtain ⟨e1, e2⟩ := i_of (n := 3) rfl (by omega) q
        obtain ⟨e3, e4⟩ := i_of (n := 30) rfl (by omega) ⟨Int32.le_trans (by decide) q2.1, q2.2⟩
        obtain ⟨r1, r2, r3, r4⟩ := RepM0 hM1
        have f8 : ∀ j, j ≠ 20 → m8 41 j = m7 41 j := fun j hj => by rw [h8, um41 hj]
        have f7 : ∀ j, j ≠ 10 + xn X → j ≠ 15 + xn X → m7 41 j = m4 41 j := fun j a b => by rw [h7, um41 b, um41 a]
        have f4 : ∀ j, j ≠ xn X → j ≠ 5 + xn X → m4 41 j = m1 41 j := fun j a b => by rw [h4, um41 b, um41 a]
        have g20 : m8 41 20 = nI (xn X + 1) := by rw [h8, um_same, f7 20 (by omega) (by omega), f4 20 (by omega) (by omega), r1, nI_1]
        refine Ri.mk g20 ⟨⟨g20, ?_, ?_, fun c hc => ?_⟩, fun j hj => by rw [h8, um_ne hj, h7, um_ne hj, um_ne hj, h4, um_ne hj, um_ne hj], fun j hj => by rw [f8 j (by omega), f7 j (by omega) (by omega), f4 j (by omega) (by omega)]⟩
        · rw [f8 _ (by omega), f7 _ (by omega) (by omega), f4 _ (by omega) (by omega)]; exact r2
        · rw [f8 _ (by omega), f7 _ (by omega) (by omega), f4 _ (by omega) (by omega)]; exact r3
        · have hc2 : c < xn X + 1 := hc
          show m8 41 (0 + c) = nI (upN (xk X) (xn X) k.toNatClampNeg c) ∧ m8 41 (0 + 5 + c) = nI (upN (xp X) (xn X) p.toNatClampNeg c) ∧ m8 41 (0 + 10 + c) = nI (upN (xh X) (xn X) 0 c) ∧ m8 41 (0 + 15 + c) = nI (upN (xe X) (xn X) 0 c)
          rw [Nat.zero_add, pls, pls, pls, f8 _ (by omega), f8 _ (by omega), f8 _ (by omega), f8 _ (by omega)]
          unfold upN
          by_cases z : c = xn X
          · rw [if_pos z, if_pos z, if_pos z, if_pos z, z, f7 _ (by omega) (by omega), f7 _ (by omega) (by omega), h7, um_same, um41 (by omega), um_same, h4, um41 (by omega), um_same, um_same]
            exact ⟨e2, e4, rfl, rfl⟩
          · obtain ⟨b1, b2, b3, b4⟩ := r4 c (by omega)
            rw [if_neg z, if_neg z, if_neg z, if_neg z, f7 _ (by omega) (by omega), f7 _ (by omega) (by omega), f7 _ (by omega) (by omega), f7 _ (by omega) (by omega), f4 _ (by omega) (by omega), f4 _ (by omega) (by omega), f4 _ (by omega) (by omega), f4 _ (by omega) (by omega)]
            exact ⟨b1, b2, b3, b4⟩
      · rw [if_neg (fun z => q3 (c5.mp z))]; exact Ri.mk rfl ⟨hM1, FrM.rf⟩
    · rw [if_neg (fun z => q2 z.2)]; exact Ri.mk rfl ⟨hM1, FrM.rf⟩)
