set_option maxRecDepth 100000 in
theorem sX5_hands_0 {G : GX} {d : Nat} {mem : Mem} {Φ : Option Value → Mem → Prop} (a1 : Int32) (c : Nat) (X : Bm) (S : Se) (h : ((¬ (0 ≤ a1 ∧ a1 < mem 1 4) → Φ (some (.int (-1))) mem) ∧ ((0 ≤ a1 ∧ a1 < mem 1 4) → (a1 = nI c) ∧ (VX 9 30 X) ∧ (c < xn X) ∧ (RepB mem 1 X) ∧ (SeC mem S) ∧ ∀ m6 : Mem, QC mem m6 → Φ (some (.int (nI (whF (fun v => sF S (stH X c v)) (xp X c))))) m6))) : Go G (d + 6) mX5_hands 0 [(0, .ref 0), (1, .int a1)] [] mem Φ := by
  refine go_aload_n dX5_hands_0 0 rfl ?_
  refine go_iload_n dX5_hands_1 1 rfl ?_
  refine go_callV (st := []) (kX5_isClock (d + 5) a1) rfl rfl okX5_isClock insX5_isClock selX5_isClock lkX5_123 rfl rfl (Nat.le_of_ble_eq_true rfl) dX5_hands_2 (fun v_ m2_ q => ?_)
  rw [q.1, q.2]
  refine go_stk (st2 := [.int (bI (0 ≤ a1 ∧ a1 < mem 1 4))]) rfl ?_
  refine go_if_eq 16 dX5_hands_5 (by decide) (fun q => ?_) (fun q => ?_)
  · have h := h.1 (bI0.mp q)
    refine go_iconst (v := (-1)) dX5_hands_16 (by decide) ?_
    exact go_iret rfl dX5_hands_17 h
  · have h := h.2 (bI1.mp q)
    refine go_aload_n dX5_hands_8 0 rfl ?_
    refine go_iload_n dX5_hands_9 1 rfl ?_
    obtain ⟨c1, h⟩ := h
    obtain ⟨c2, h⟩ := h
    obtain ⟨c3, h⟩ := h
    obtain ⟨c4, h⟩ := h
    obtain ⟨c5, h⟩ := h
    refine go_callV (st := []) (kX5_handsAsSeen (d + 0) a1 c X S c1 c2 c3 c4 c5) rfl rfl okX5_handsAsSeen insX5_handsAsSeen selX5_handsAsSeen lkX5_233 rfl rfl (Nat.le_of_ble_eq_true rfl) dX5_hands_10 (fun v_ m6 q => ?_)
    rw [q.1]
    have h := h m6 q.2
    refine go_stk (st2 := [.int (nI (whF (fun v => sF S (stH X c v)) (xp X c)))]) rfl ?_
    refine go_goto 17 dX5_hands_13 (by decide) ?_
    exact go_iret rfl dX5_hands_17 h

set_option maxRecDepth 100000 in
theorem sX6_hands_0 {G : GX} {d : Nat} {mem : Mem} {Φ : Option Value → Mem → Prop} (a1 : Int32) (c : Nat) (X : Bm) (S : Se) (h : ((¬ (0 ≤ a1 ∧ a1 ≤ ((mem 41 20) - 1)) → Φ (some (.int (-1))) mem) ∧ ((0 ≤ a1 ∧ a1 ≤ ((mem 41 20) - 1)) → (a1 = nI c) ∧ (VX 9 30 X) ∧ (c < xn X) ∧ (RepM mem 0 X) ∧ (SeM mem S) ∧ (mem 40 14 = goI 9) ∧ ∀ m7 : Mem, (QM mem m7 ∧ (∀ j, m7 40 j = mem 40 j) ∧ ∀ h, h < xp X c → ∀ t, t < 61 → m7 47 (61 * h + t) = nI (who 9 (itX 9 nof (stH X c h) t))) → Φ (some (.int (nI (whF (fun v => sF S (stH X c v)) (xp X c))))) m7))) : Go G (d + 5) mX6_hands 0 [(0, .ref 40), (1, .int a1)] [] mem Φ := by
  refine go_aload_n dX6_hands_0 0 rfl ?_
  refine go_iload_n dX6_hands_1 1 rfl ?_
  refine go_callV (st := []) (kX6_isClock (d + 3) a1) rfl rfl okX6_isClock insX6_isClock selX6_isClock lkX6_137 rfl rfl (Nat.le_of_ble_eq_true rfl) dX6_hands_2 (fun v_ m2_ q => ?_)
  rw [q.1, q.2]
  refine go_stk (st2 := [.int (bI (0 ≤ a1 ∧ a1 ≤ ((mem 41 20) - 1)))]) rfl ?_
  refine go_if_eq 16 dX6_hands_5 (by decide) (fun q => ?_) (fun q => ?_)
  · have h := h.1 (bI0.mp q)
    refine go_iconst (v := (-1)) dX6_hands_16 (by decide) ?_
    exact go_iret rfl dX6_hands_17 h
  · have h := h.2 (bI1.mp q)
    refine go_aload_n dX6_hands_8 0 rfl ?_
    refine go_iload_n dX6_hands_9 1 rfl ?_
    obtain ⟨c1, h⟩ := h
    obtain ⟨c2, h⟩ := h
    obtain ⟨c3, h⟩ := h
    obtain ⟨c4, h⟩ := h
    obtain ⟨c5, h⟩ := h
    obtain ⟨c6, h⟩ := h
    refine go_callV (st := []) (kX6_handsOf (d + 0) a1 c X S c1 c2 c3 c4 c5 c6) rfl rfl okX6_handsOf insX6_handsOf selX6_handsOf lkX6_211 rfl rfl (Nat.le_of_ble_eq_true rfl) dX6_hands_10 (fun v_ m7 q => ?_)
    rw [q.1]
    have h := h m7 q.2
    refine go_stk (st2 := [.int (nI (whF (fun v => sF S (stH X c v)) (xp X c)))]) rfl ?_
    refine go_goto 17 dX6_hands_13 (by decide) ?_
    exact go_iret rfl dX6_hands_17 h


theorem P28 {G : GX} (a : Int32) : Sm G mX5_hands mX6_hands [.int a] := Sm_q (fun mem X S h1 h5 h7 => by
  have hn := h1.2.2.1.1
  by_cases q : isC X a
  · obtain ⟨c, hc, rfl⟩ := isC_n q hn
    refine ⟨nI (whF (fun v => sF S (stH X c v)) (xp X c)), ?_, fun m1 g1 g5 g7 => ?_⟩
    · refine cn_of (by decide +kernel) (Nat.le_of_ble_eq_true rfl) (sX5_hands_0 (d := 3) (nI c) c X S ?_)
      rw [h1.1.1]
      exact ⟨fun z => absurd q z, fun _ => ⟨rfl, h1.2.2.1, hc, h1.1, SeC.of h5, fun m6 h6 => Ri.mk rfl h6⟩⟩
    · refine cn_of (by decide +kernel) (Nat.le_of_ble_eq_true rfl) (sX6_hands_0 (d := 4) (nI c) c X S ?_)
      rw [(RepM0 g1.2.1).1, isC_M hn]
      exact ⟨fun z => absurd q z, fun _ => ⟨rfl, g1.2.2.1, hc, g1.2.1, SeM.of g5, g7.1, fun m6 h6 => Ri.mk rfl h6.1⟩⟩
  · refine ⟨-1, ?_, fun m1 g1 g5 g7 => ?_⟩
    · refine cn_of (by decide +kernel) (Nat.le_of_ble_eq_true rfl) (sX5_hands_0 (d := 3) a 0 X S ?_)
      rw [h1.1.1]
      exact ⟨fun _ => Ri.mk rfl QC.rf, fun z => absurd z q⟩
    · refine cn_of (by decide +kernel) (Nat.le_of_ble_eq_true rfl) (sX6_hands_0 (d := 4) a 0 X S ?_)
      rw [(RepM0 g1.2.1).1, isC_M hn]
      exact ⟨fun _ => Ri.mk rfl QM.rf, fun z => absurd z q⟩)
theorem sm32 : ∀ h, h < 31 → ((nI h &&& 31).toBitVec.smod 32).toNat = h := by decide +kernel
theorem bitN {w h : Nat} (hw : w < 2 ^ 31) (hh : h < 31) : ((nI w >>> (nI h &&& 31)) &&& 1 : Int32) = nI (w / 2 ^ h % 2) := by
  rw [pk_shrN hw _ h (sm32 h hh)]
  exact fa_mask (w / 2 ^ h) 1
/-- how many of the hands in w make clock c beat in tick t -/
def hdF (X : Bm) (c w : Nat) : Nat → Nat → Nat
  | 0, _ => 0
  | v + 1, t => hdF X c w v t + (if w / 2 ^ v % 2 = 1 then who 9 (itX 9 nof (stH X c v) t) / 2 ^ c % 2 else 0)

set_option maxRecDepth 100000 in
theorem sX5_listenForAll_0 {G : GX} {d : Nat} {mem : Mem} {Φ : Option Value → Mem → Prop} (a1 a2 : Int32) (h : ∀ m1 : Mem, m1 = (um0 mem 39 (fun j => if j < 61 then 0 else mem 39 j)) → Go G (d + 4) mX5_listenForAll 10 [(0, .ref 0), (1, .int a1), (2, .int a2), (3, .int 0)] [] m1 Φ) : Go G (d + 4) mX5_listenForAll 0 [(0, .ref 0), (1, .int a1), (2, .int a2)] [] mem Φ := by
  refine go_aload_n dX5_listenForAll_0 0 rfl ?_
  refine go_getR (kf := 8) (t := 39) rfl rfl rfl uwX5 (by decide) flX5_54 dX5_listenForAll_1 ?_
  refine go_iconst (v := 0) dX5_listenForAll_4 (by decide) ?_
  refine go_callS (st := []) (kJ7_fill_61 (d + 3) 39 rfl 0) okJ7_fill_53178 staJ7_fill_53178 lkX5_276 rfl rfl (Nat.le_of_ble_eq_true rfl) dX5_listenForAll_5 (fun v_ m2_ q => ?_)
  rw [q.1, q.2]
  refine go_stk (st2 := []) rfl ?_
  refine go_mem (fun m1 qm1 => ?_)
  have h := h m1 qm1
  refine go_iconst (v := 0) dX5_listenForAll_8 (by decide) ?_
  refine go_istore_n (L2 := [(3, .int 0), (0, .ref 0), (1, .int a1), (2, .int a2)]) dX5_listenForAll_9 (by decide) rfl ?_
  exact Go.pick [1, 2, 3, 0] rfl h

set_option maxRecDepth 100000 in
theorem sX5_listenForAll_10 {G : GX} {d : Nat} {mem : Mem} {Φ : Option Value → Mem → Prop} (a1 a2 : Int32) (hd c : Nat) (X : Bm) (h : (vp_in a1 5) ∧ (((mem 3 (a1 : Int32).toNatClampNeg) ≤ (nI hd) → Φ none mem) ∧ (¬ (mem 3 (a1 : Int32).toNatClampNeg) ≤ (nI hd) → (((¬ ((a2 >>> ((nI hd) &&& 31)) &&& 1) = 0) → (a1 = nI c ∧ (nI hd) = nI hd) ∧ (c < 5) ∧ (xn X ≤ 5) ∧ (RepB mem 1 X) ∧ ∀ m6 : Mem, (RepB m6 6 (stH X c hd) ∧ FrB 6 mem m6) → Go G (d + 4) mX5_listenForAll 44 [(0, .ref 0), (1, .int a1), (2, .int a2), (3, .int (nI hd)), (4, .int 0)] [] m6 Φ) ∧ (¬ (¬ ((a2 >>> ((nI hd) &&& 31)) &&& 1) = 0) → Go G (d + 4) mX5_listenForAll 10 [(0, .ref 0), (1, .int a1), (2, .int a2), (3, .int ((nI hd) + 1))] [] mem Φ))))) : Go G (d + 4) mX5_listenForAll 10 [(0, .ref 0), (1, .int a1), (2, .int a2), (3, .int (nI hd))] [] mem Φ := by
  refine go_iload_n dX5_listenForAll_10 3 rfl ?_
  refine go_aload_n dX5_listenForAll_11 0 rfl ?_
  refine go_getR (kf := 0) (t := 1) rfl rfl rfl uwX5 (by decide) flX5_12 dX5_listenForAll_12 ?_
  refine go_getR (kf := 1) (t := 3) rfl rfl rfl uwX0 (by decide) flX5_130 dX5_listenForAll_15 ?_
  refine go_iload_n dX5_listenForAll_18 1 rfl ?_
  obtain ⟨c1, h⟩ := h
  refine go_iaload rfl c1 dX5_listenForAll_19 ?_
  refine go_icmp_ge 85 dX5_listenForAll_20 (by decide) (fun q => ?_) (fun q => ?_)
  · have h := h.1 q
    exact go_vret rfl dX5_listenForAll_85 h
  · have h := h.2 q
    refine go_iload_n dX5_listenForAll_23 2 rfl ?_
    refine go_iload_n dX5_listenForAll_24 3 rfl ?_
    refine go_callS (st := []) (kX5_isBitSet (d + 3) a2 (nI hd)) okX5_isBitSet staX5_isBitSet lkX5_211 rfl rfl (Nat.le_of_ble_eq_true rfl) dX5_listenForAll_25 (fun v_ m2_ q => ?_)
    rw [q.1, q.2]
    refine go_stk (st2 := [.int (bI (¬ ((a2 >>> ((nI hd) &&& 31)) &&& 1) = 0))]) rfl ?_
    refine go_if_ne 34 dX5_listenForAll_28 (by decide) (fun q => ?_) (fun q => ?_)
    · have h := h.1 (bI1.mp q)
      refine go_aload_n dX5_listenForAll_34 0 rfl ?_
      refine go_iload_n dX5_listenForAll_35 1 rfl ?_
      refine go_iload_n dX5_listenForAll_36 3 rfl ?_
      obtain ⟨c2, h⟩ := h
      obtain ⟨c3, h⟩ := h
      obtain ⟨c4, h⟩ := h
      obtain ⟨c5, h⟩ := h
      refine go_callV (st := []) (kX5_tryHand (d + 0) a1 (nI hd) c hd X c2 c3 c4 c5) rfl rfl okX5_tryHand insX5_tryHand selX5_tryHand lkX5_197 rfl rfl (Nat.le_of_ble_eq_true rfl) dX5_listenForAll_37 (fun v_ m6 q => ?_)
      rw [q.1]
      have h := h m6 q.2
      refine go_stk (st2 := [.ref 6]) rfl ?_
      refine go_pop dX5_listenForAll_40 rfl ?_
      refine go_iconst (v := 0) dX5_listenForAll_41 (by decide) ?_
      refine go_istore (L2 := [(4, .int 0), (0, .ref 0), (1, .int a1), (2, .int a2), (3, .int (nI hd))]) dX5_listenForAll_42 (by decide) rfl ?_
      exact Go.pick [1, 2, 3, 4, 0] rfl h
    · have h := h.2 (bI0.mp q)
      refine go_goto 79 dX5_listenForAll_31 (by decide) ?_
      refine go_iinc (v := ((nI hd) + 1)) (L2 := [(3, .int ((nI hd) + 1)), (0, .ref 0), (1, .int a1), (2, .int a2)]) dX5_listenForAll_79 3 rfl rfl (by decide) rfl ?_
      refine go_goto 10 dX5_listenForAll_82 (by decide) ?_
      exact Go.pick [1, 2, 3, 0] rfl h

set_option maxRecDepth 100000 in
theorem sX5_listenForAll_44 {G : GX} {d : Nat} {mem : Mem} {Φ : Option Value → Mem → Prop} (a1 a2 : Int32) (hd t c : Nat) (X : Bm) (h : ((60 < (nI t) → Go G (d + 4) mX5_listenForAll 10 [(0, .ref 0), (1, .int a1), (2, .int a2), (3, .int ((nI hd) + 1))] [] mem Φ) ∧ (¬ 60 < (nI t) → (vp_in (nI t) 61) ∧ (VX 9 30 (itX 9 nof (stH X c hd) t)) ∧ (RepB mem 6 (itX 9 nof (stH X c hd) t)) ∧ ∀ m4 : Mem, (RepB m4 6 (tkX 9 false (itX 9 nof (stH X c hd) t)) ∧ FrB 6 mem m4) → ∀ m5 : Mem, m5 = (um m4 39 ((nI t) : Int32).toNatClampNeg ((mem 39 ((nI t) : Int32).toNatClampNeg) + (((nI (who 9 (itX 9 nof (stH X c hd) t))) >>> (a1 &&& 31)) &&& 1))) → Go G (d + 4) mX5_listenForAll 44 [(0, .ref 0), (1, .int a1), (2, .int a2), (3, .int (nI hd)), (4, .int ((nI t) + 1))] [] m5 Φ))) : Go G (d + 4) mX5_listenForAll 44 [(0, .ref 0), (1, .int a1), (2, .int a2), (3, .int (nI hd)), (4, .int (nI t))] [] mem Φ := by
  refine go_iload dX5_listenForAll_44 4 rfl ?_
  refine go_bipush (v := 60) dX5_listenForAll_46 (by decide) ?_
  refine go_icmp_gt 79 dX5_listenForAll_48 (by decide) (fun q => ?_) (fun q => ?_)
  · have h := h.1 q
    refine go_iinc (v := ((nI hd) + 1)) (L2 := [(3, .int ((nI hd) + 1)), (0, .ref 0), (1, .int a1), (2, .int a2), (4, .int (nI t))]) dX5_listenForAll_79 3 rfl rfl (by decide) rfl ?_
    refine go_goto 10 dX5_listenForAll_82 (by decide) ?_
    exact Go.pick [1, 2, 3, 0] rfl h
  · have h := h.2 q
    refine go_aload_n dX5_listenForAll_51 0 rfl ?_
    refine go_getR (kf := 8) (t := 39) rfl rfl rfl uwX5 (by decide) flX5_54 dX5_listenForAll_52 ?_
    refine go_iload dX5_listenForAll_55 4 rfl ?_
    refine go_dup2 dX5_listenForAll_57 rfl rfl ?_
    obtain ⟨c1, h⟩ := h
    refine go_iaload rfl c1 dX5_listenForAll_58 ?_
    refine go_aload_n dX5_listenForAll_59 0 rfl ?_
    refine go_getR (kf := 1) (t := 6) rfl rfl rfl uwX5 (by decide) flX5_16 dX5_listenForAll_60 ?_
    refine go_iconst (v := 0) dX5_listenForAll_63 (by decide) ?_
    obtain ⟨c2, h⟩ := h
    obtain ⟨c3, h⟩ := h
    refine go_callV (st := [.int (mem 39 ((nI t) : Int32).toNatClampNeg), .int (nI t), .ref 39]) (kX0_step (d + 0) 6 bA6 (itX 9 nof (stH X c hd) t) false 30 c2 c3) rfl rfl okX0_step insX0_step selX0_step lkX5_116 rfl rfl (Nat.le_of_ble_eq_true rfl) dX5_listenForAll_64 (fun v_ m4 q => ?_)
    rw [q.1]
    have h := h m4 q.2
    refine go_stk (st2 := [.int (nI (who 9 (itX 9 nof (stH X c hd) t))), .int (mem 39 ((nI t) : Int32).toNatClampNeg), .int (nI t), .ref 39]) rfl ?_
    refine go_iload_n dX5_listenForAll_67 1 rfl ?_
    refine go_ishr dX5_listenForAll_68 ?_
    refine go_iconst (v := 1) dX5_listenForAll_69 (by decide) ?_
    refine go_iand dX5_listenForAll_70 ?_
    refine go_iadd dX5_listenForAll_71 ?_
    refine go_iastore rfl c1 dX5_listenForAll_72 ?_
    refine go_mem (fun m5 qm5 => ?_)
    have h := h m5 qm5
    refine go_iinc (v := ((nI t) + 1)) (L2 := [(4, .int ((nI t) + 1)), (0, .ref 0), (1, .int a1), (2, .int a2), (3, .int (nI hd))]) dX5_listenForAll_73 4 rfl rfl (by decide) rfl ?_
    refine go_goto 44 dX5_listenForAll_76 (by decide) ?_
    exact Go.pick [1, 2, 3, 4, 0] rfl h


theorem lX5_lf44 {G : GX} {d : Nat} {Φ : Option Value → Mem → Prop} {mem0 : Mem} (c w h : Nat) (X : Bm) (hV : VX 9 30 (stH X c h)) (hc : c < 5) (hw : w / 2 ^ h % 2 = 1) (k : ∀ m : Mem, QC mem0 m → (∀ t, t < 61 → m 39 t = nI (hdF X c w (h + 1) t)) → Go G (d + 4) mX5_listenForAll 10 [(0, .ref 0), (1, .int (nI c)), (2, .int (nI w)), (3, .int (nI (h + 1)))] [] m Φ) : ∀ (r t : Nat) (m : Mem), t + r = 61 → QC mem0 m → (∀ s, s < 61 → m 39 s = nI (hdF X c w (if s < t then h + 1 else h) s)) → RepB m 6 (itX 9 nof (stH X c h) t) → Go G (d + 4) mX5_listenForAll 44 [(0, .ref 0), (1, .int (nI c)), (2, .int (nI w)), (3, .int (nI h)), (4, .int (nI t))] [] m Φ := by
  intro r
  induction r with
  | zero =>
    intro t m ht h1 h2 hR
    have ht2 : t = 61 := by omega
    subst ht2
    refine sX5_listenForAll_44 _ _ h 61 c X ⟨fun _ => ?_, fun z => absurd (by decide) z⟩
    rw [nI_1]
    exact k m h1 (fun s hs => by rw [h2 s hs, if_pos hs])
  | succ r ih =>
    intro t m ht h1 h2 hR
    refine sX5_listenForAll_44 _ _ h t c X ⟨fun z => absurd ((nlt (a := 60) (by omega) (by omega)).mp z) (by omega), fun _ => ⟨nin (by omega) (by omega), VX_it hV t, hR, fun m4 h4 => ?_⟩⟩
    rw [ncl (show t < 2000000000 by omega), nI_1, h2 t (by omega), if_neg (by omega), bit_at _ (who_lt (VX_it hV t)) c hc, nI_add]
    intro m5 e5
    refine ih (t + 1) m5 (by omega) (fun j a b e => by rw [e5, um_ne e, h4.2 j (by omega), h1 j a b e]) (fun s hs => ?_) ?_
    · rw [e5, um_at]
      by_cases z : s = t
      · rw [if_pos z, if_pos (by omega), z]
        show _ = nI (hdF X c w h t + (if w / 2 ^ h % 2 = 1 then _ else 0))
        rw [if_pos hw]
      · rw [if_neg z, h4.2 39 (by omega), h2 s hs]
        by_cases z2 : s < t
        · rw [if_pos z2, if_pos (by omega)]
        · rw [if_neg z2, if_neg (by omega)]
    · exact h4.1.fr (fun j a b => by rw [e5, um_ne (by omega)])
theorem lX5_lf10 {G : GX} {d : Nat} {mem0 : Mem} (c w : Nat) (X : Bm) (hV : VX 9 30 X) (hc : c < xn X) (hw : w < 2 ^ 30) (hR : RepB mem0 1 X) : ∀ (r h : Nat) (m : Mem), h + r = xp X c → QC mem0 m → (∀ t, t < 61 → m 39 t = nI (hdF X c w h t)) → Go G (d + 4) mX5_listenForAll 10 [(0, .ref 0), (1, .int (nI c)), (2, .int (nI w)), (3, .int (nI h))] [] m (Rv (fun m2 => QC mem0 m2 ∧ ∀ t, t < 61 → m2 39 t = nI (hdF X c w (xp X c) t))) := by
  intro r
  have hn := hV.1
  obtain ⟨b1, b2, b3, b4, _⟩ := hV.2.2 c hc
  induction r with
  | zero =>
    intro h m hh h1 h2
    have ep : m 3 c = nI (xp X c) := by rw [h1 3 (by omega) (by omega) (by omega)]; exact (hR.2.2.2 c hc).2.1
    have hh2 : h = xp X c := by omega
    refine sX5_listenForAll_10 _ _ h c X ⟨nin (by omega) (by omega), ?_⟩
    rw [ncl (show c < 2000000000 by omega), ep]
    exact ⟨fun _ => ⟨rfl, h1, by rw [← hh2]; exact h2⟩, fun z => absurd ((nle (by omega) (by omega)).mpr (by omega)) z⟩
  | succ r ih =>
    intro h m hh h1 h2
    have ep : m 3 c = nI (xp X c) := by rw [h1 3 (by omega) (by omega) (by omega)]; exact (hR.2.2.2 c hc).2.1
    have hR1 : RepB m 1 X := hR.fr (fun j a b => h1 j (by omega) (by omega) (by omega))
    refine sX5_listenForAll_10 _ _ h c X ⟨nin (by omega) (by omega), ?_⟩
    rw [ncl (show c < 2000000000 by omega), ep, bitN (by omega) (by omega), nI_1]
    refine ⟨fun z => absurd ((nle (by omega) (by omega)).mp z) (by omega), fun _ => ⟨fun q => ⟨⟨rfl, rfl⟩, by omega, hn, hR1, fun m6 h6 => ?_⟩, fun q => ih (h + 1) m (by omega) h1 (fun t ht => ?_)⟩⟩
    · have hw1 : w / 2 ^ h % 2 = 1 := by
        rcases Nat.mod_two_eq_zero_or_one (w / 2 ^ h) with z | z
        · rw [z] at q; exact absurd rfl q
        · exact z
      exact lX5_lf44 (mem0 := mem0) c w h X (VX_h hV (fun _ => by omega)) (by omega) hw1 (fun m' g1 g2 => ih (h + 1) m' (by omega) g1 g2) 61 0 m6 (by omega) (h1.of6 h6.2) (fun s hs => by rw [h6.2 39 (by omega), h2 s hs, if_neg (by omega)]) h6.1
    · have hw0 : ¬ w / 2 ^ h % 2 = 1 := fun z => q (by rw [z]; decide)
      rw [h2 t ht]
      show _ = nI (hdF X c w h t + (if w / 2 ^ h % 2 = 1 then _ else 0))
      rw [if_neg hw0, Nat.add_zero]
theorem kX5_listenForAll {G : GX} (d : Nat) {mem : Mem} (a1 a2 : Int32) (c w : Nat) (X : Bm) (e : a1 = nI c ∧ a2 = nI w) (hv : VX 9 30 X ∧ c < xn X ∧ w < 2 ^ 30) (hR : RepB mem 1 X) : Cn G (d + 4) mX5_listenForAll [.ref 0, .int a1, .int a2] mem (Rv (fun m2 => QC mem m2 ∧ ∀ t, t < 61 → m2 39 t = nI (hdF X c w (xp X c) t))) := by
  rw [e.1, e.2]
  refine cn_of (by decide +kernel) (Nat.le_of_ble_eq_true rfl) (sX5_listenForAll_0 _ _ (fun m1 e1 => lX5_lf10 c w X hv.1 hv.2.1 hv.2.2 hR (xp X c) 0 m1 (by omega) (fun k _ _ h39 => by rw [e1, um0_ne h39]) (fun t ht => ?_)))
  rw [e1, um0_self, if_pos ht]; rfl
/-! what to ask for -/
def wst (al s : Int32) : Int32 := if s < al - s then al - s else s
theorem wst_m {al s : Int32} : (s ≤ al - s → al - s = wst al s) ∧ (¬ s ≤ al - s → s = wst al s) := by
  unfold wst
  refine ⟨fun h => ?_, fun h => ?_⟩
  · by_cases q : s < al - s
    · rw [if_pos q]
    · rw [if_neg q]
      exact Int32.le_antisymm (fa_of_nlt q) h
  · rw [if_neg (fun q => h (fa_of_lt q).1)]
abbrev Ak : Type := Int32 × Int32
def akS (al s : Int32) (t : Nat) (p : Ak) : Ak := if p.1 ≤ wst al s then p else (wst al s, nI t)
def akF (f : Nat → Int32) (al : Int32) : Nat → Nat → Ak → Ak
  | 0, _, p => p
  | r + 1, t, p => akF f al r (t + 1) (akS al (f t) t p)
def akA (p : Ak) (w : Int32) : Int32 := if p.2 = -4 then p.2 else if w = 0 then p.2 else p.1
theorem ak_fin {p : Ak} {w : Int32} : (p.2 = -4 → p.2 = akA p w) ∧ (¬ p.2 = -4 → ((¬ w = 0 → p.1 = akA p w) ∧ (w = 0 → p.2 = akA p w))) := by
  unfold akA
  exact ⟨fun h => by rw [if_pos h], fun h => ⟨fun q => by rw [if_neg h, if_neg q], fun q => by rw [if_neg h, if_pos q]⟩⟩

set_option maxRecDepth 100000 in
theorem sX5_ask_0 {G : GX} {d : Nat} {mem : Mem} {Φ : Option Value → Mem → Prop} (a1 a2 : Int32) (c : Nat) (X : Bm) (S : Se) (h : ((¬ (0 ≤ a1 ∧ a1 < mem 1 4) → Φ (some (.int (-1))) mem) ∧ ((0 ≤ a1 ∧ a1 < mem 1 4) → (((0 ≤ a2 ∧ a2 ≤ 1) → (a1 = nI c) ∧ (VX 9 30 X) ∧ (c < xn X) ∧ (RepB mem 1 X) ∧ (SeC mem S) ∧ ∀ m6 : Mem, QC mem m6 → (a1 = nI c ∧ (nI (whF (fun v => sF S (stH X c v)) (xp X c))) = nI (whF (fun v => sF S (stH X c v)) (xp X c))) ∧ (VX 9 30 X ∧ c < xn X ∧ whF (fun v => sF S (stH X c v)) (xp X c) < 2 ^ 30) ∧ (RepB m6 1 X) ∧ ∀ m10 : Mem, (QC m6 m10 ∧ ∀ t, t < 61 → m10 39 t = nI (hdF X c (whF (fun v => sF S (stH X c v)) (xp X c)) (xp X c) t)) → ∀ y11 : Int32, y11 = (bcI (nI (whF (fun v => sF S (stH X c v)) (xp X c)))) → Go G (d + 6) mX5_ask 48 [(0, .ref 0), (2, .int a2), (4, .int y11), (5, .int y11), (6, .int (-4)), (7, .int 0)] [] m10 Φ) ∧ (¬ (0 ≤ a2 ∧ a2 ≤ 1) → Φ (some (.int (-1))) mem))))) : Go G (d + 6) mX5_ask 0 [(0, .ref 0), (1, .int a1), (2, .int a2)] [] mem Φ := by
  refine go_aload_n dX5_ask_0 0 rfl ?_
  refine go_iload_n dX5_ask_1 1 rfl ?_
  refine go_callV (st := []) (kX5_isClock (d + 5) a1) rfl rfl okX5_isClock insX5_isClock selX5_isClock lkX5_123 rfl rfl (Nat.le_of_ble_eq_true rfl) dX5_ask_2 (fun v_ m2_ q => ?_)
  rw [q.1, q.2]
  refine go_stk (st2 := [.int (bI (0 ≤ a1 ∧ a1 < mem 1 4))]) rfl ?_
  refine go_if_eq 17 dX5_ask_5 (by decide) (fun q => ?_) (fun q => ?_)
  · have h := h.1 (bI0.mp q)
    refine go_iconst (v := (-1)) dX5_ask_17 (by decide) ?_
    exact go_iret rfl dX5_ask_18 h
  · have h := h.2 (bI1.mp q)
    refine go_iload_n dX5_ask_8 2 rfl ?_
    refine go_iconst (v := 0) dX5_ask_9 (by decide) ?_
    refine go_iconst (v := 1) dX5_ask_10 (by decide) ?_
    refine go_callS (st := []) (kX5_isWithin (d + 5) a2 0 1) okX5_isWithin staX5_isWithin lkX5_59 rfl rfl (Nat.le_of_ble_eq_true rfl) dX5_ask_11 (fun v_ m2_ q => ?_)
    rw [q.1, q.2]
    refine go_stk (st2 := [.int (bI (0 ≤ a2 ∧ a2 ≤ 1))]) rfl ?_
    refine go_if_ne 19 dX5_ask_14 (by decide) (fun q => ?_) (fun q => ?_)
    · have h := h.1 (bI1.mp q)
      refine go_aload_n dX5_ask_19 0 rfl ?_
      refine go_iload_n dX5_ask_20 1 rfl ?_
      obtain ⟨c1, h⟩ := h
      obtain ⟨c2, h⟩ := h
      obtain ⟨c3, h⟩ := h
      obtain ⟨c4, h⟩ := h
      obtain ⟨c5, h⟩ := h
      refine go_callV (st := []) (kX5_handsAsSeen (d + 0) a1 c X S c1 c2 c3 c4 c5) rfl rfl okX5_handsAsSeen insX5_handsAsSeen selX5_handsAsSeen lkX5_233 rfl rfl (Nat.le_of_ble_eq_true rfl) dX5_ask_21 (fun v_ m6 q => ?_)
      rw [q.1]
      have h := h m6 q.2
      refine go_stk (st2 := [.int (nI (whF (fun v => sF S (stH X c v)) (xp X c)))]) rfl ?_
      refine go_istore_n (L2 := [(3, .int (nI (whF (fun v => sF S (stH X c v)) (xp X c)))), (0, .ref 0), (1, .int a1), (2, .int a2)]) dX5_ask_24 (by decide) rfl ?_
      refine go_aload_n dX5_ask_25 1 rfl ?_
      refine go_iload_n dX5_ask_26 2 rfl ?_
      refine go_iload_n dX5_ask_27 0 rfl ?_
      obtain ⟨c7, h⟩ := h
      obtain ⟨c8, h⟩ := h
      obtain ⟨c9, h⟩ := h
      refine go_callV (st := []) (kX5_listenForAll (d + 1) a1 (nI (whF (fun v => sF S (stH X c v)) (xp X c))) c (whF (fun v => sF S (stH X c v)) (xp X c)) X c7 c8 c9) rfl rfl okX5_listenForAll insX5_listenForAll selX5_listenForAll lkX5_236 rfl rfl (Nat.le_of_ble_eq_true rfl) dX5_ask_28 (fun v_ m10 q => ?_)
      rw [q.1]
      have h := h m10 q.2
      refine go_stk (st2 := []) rfl ?_
      refine go_iload_n dX5_ask_31 0 rfl ?_
      refine go_callS (st := []) (kJ6_bitCount_0f7a4 (d + 5) (nI (whF (fun v => sF S (stH X c v)) (xp X c)))) okJ6_bitCount_0f7a4 staJ6_bitCount_0f7a4 lkX5_162 rfl rfl (Nat.le_of_ble_eq_true rfl) dX5_ask_32 (fun v_ m2_ q => ?_)
      rw [q.1, q.2]
      refine go_stk (st2 := [.int (bcI (nI (whF (fun v => sF S (stH X c v)) (xp X c))))]) rfl ?_
      refine go_topi (fun y11 qy11 => ?_)
      have h := h y11 qy11
      refine go_istore (L2 := [(4, .int y11), (3, .int (nI (whF (fun v => sF S (stH X c v)) (xp X c)))), (0, .ref 0), (1, .int a1), (2, .int a2)]) dX5_ask_35 (by decide) rfl ?_
      refine go_iload dX5_ask_37 0 rfl ?_
      refine go_istore (L2 := [(5, .int y11), (4, .int y11), (3, .int (nI (whF (fun v => sF S (stH X c v)) (xp X c)))), (0, .ref 0), (1, .int a1), (2, .int a2)]) dX5_ask_39 (by decide) rfl ?_
      refine go_bipush (v := (-4)) dX5_ask_41 (by decide) ?_
      refine go_istore (L2 := [(6, .int (-4)), (5, .int y11), (4, .int y11), (3, .int (nI (whF (fun v => sF S (stH X c v)) (xp X c)))), (0, .ref 0), (1, .int a1), (2, .int a2)]) dX5_ask_43 (by decide) rfl ?_
      refine go_iconst (v := 0) dX5_ask_45 (by decide) ?_
      refine go_istore (L2 := [(7, .int 0), (6, .int (-4)), (5, .int y11), (4, .int y11), (3, .int (nI (whF (fun v => sF S (stH X c v)) (xp X c)))), (0, .ref 0), (1, .int a1), (2, .int a2)]) dX5_ask_46 (by decide) rfl ?_
      exact Go.pick [5, 7, 3, 2, 1, 0] rfl h
    · have h := h.2 (bI0.mp q)
      refine go_iconst (v := (-1)) dX5_ask_17 (by decide) ?_
      exact go_iret rfl dX5_ask_18 h

set_option maxRecDepth 100000 in
theorem sX5_ask_48 {G : GX} {d : Nat} {mem : Mem} {Φ : Option Value → Mem → Prop} (a2 al fw tk : Int32) (t : Nat) (h : ((60 < (nI t) → ((tk = (-4) → Φ (some (.int tk)) mem) ∧ (¬ tk = (-4) → ((¬ a2 = 0 → Φ (some (.int fw)) mem) ∧ (a2 = 0 → Φ (some (.int tk)) mem))))) ∧ (¬ 60 < (nI t) → (vp_in (nI t) 61) ∧ ∀ y2 : Int32, y2 = (if (mem 39 ((nI t) : Int32).toNatClampNeg) < (al - (mem 39 ((nI t) : Int32).toNatClampNeg)) then (al - (mem 39 ((nI t) : Int32).toNatClampNeg)) else (mem 39 ((nI t) : Int32).toNatClampNeg)) → ((fw ≤ y2 → Go G (d + 6) mX5_ask 48 [(0, .ref 0), (2, .int a2), (4, .int al), (5, .int fw), (6, .int tk), (7, .int ((nI t) + 1))] [] mem Φ) ∧ (¬ fw ≤ y2 → Go G (d + 6) mX5_ask 48 [(0, .ref 0), (2, .int a2), (4, .int al), (5, .int y2), (6, .int (nI t)), (7, .int ((nI t) + 1))] [] mem Φ))))) : Go G (d + 6) mX5_ask 48 [(0, .ref 0), (2, .int a2), (4, .int al), (5, .int fw), (6, .int tk), (7, .int (nI t))] [] mem Φ := by
  refine go_iload dX5_ask_48 5 rfl ?_
  refine go_bipush (v := 60) dX5_ask_50 (by decide) ?_
  refine go_icmp_gt 98 dX5_ask_52 (by decide) (fun q => ?_) (fun q => ?_)
  · have h := h.1 q
    refine go_iload dX5_ask_98 4 rfl ?_
    refine go_bipush (v := (-4)) dX5_ask_100 (by decide) ?_
    refine go_icmp_eq 109 dX5_ask_102 (by decide) (fun q => ?_) (fun q => ?_)
    · have h := h.1 q
      refine go_iload dX5_ask_109 4 rfl ?_
      refine go_goto 116 dX5_ask_111 (by decide) ?_
      exact go_iret rfl dX5_ask_116 h
    · have h := h.2 q
      refine go_iload_n dX5_ask_105 1 rfl ?_
      refine go_if_ne 114 dX5_ask_106 (by decide) (fun q => ?_) (fun q => ?_)
      · have h := h.1 q
        refine go_iload dX5_ask_114 3 rfl ?_
        exact go_iret rfl dX5_ask_116 h
      · have h := h.2 q
        refine go_iload dX5_ask_109 4 rfl ?_
        refine go_goto 116 dX5_ask_111 (by decide) ?_
        exact go_iret rfl dX5_ask_116 h
  · have h := h.2 q
    refine go_aload_n dX5_ask_55 0 rfl ?_
    refine go_getR (kf := 8) (t := 39) rfl rfl rfl uwX5 (by decide) flX5_54 dX5_ask_56 ?_
    refine go_iload dX5_ask_59 5 rfl ?_
    obtain ⟨c1, h⟩ := h
    refine go_iaload rfl c1 dX5_ask_61 ?_
    refine go_iload dX5_ask_62 2 rfl ?_
    refine go_aload_n dX5_ask_64 0 rfl ?_
    refine go_getR (kf := 8) (t := 39) rfl rfl rfl uwX5 (by decide) flX5_54 dX5_ask_65 ?_
    refine go_iload dX5_ask_68 5 rfl ?_
    refine go_iaload rfl c1 dX5_ask_70 ?_
    refine go_isub dX5_ask_71 ?_
    refine go_mmax lkX5_167 (Nat.le_of_ble_eq_true rfl) dX5_ask_72 ?_
    refine go_topi (fun y2 qy2 => ?_)
    have h := h y2 qy2
    refine go_istore (L2 := [(8, .int y2), (0, .ref 0), (2, .int a2), (4, .int al), (5, .int fw), (6, .int tk), (7, .int (nI t))]) dX5_ask_75 (by decide) rfl ?_
    refine go_iload dX5_ask_77 0 rfl ?_
    refine go_iload dX5_ask_79 4 rfl ?_
    refine go_icmp_ge 92 dX5_ask_81 (by decide) (fun q => ?_) (fun q => ?_)
    · have h := h.1 q
      refine go_iinc (v := ((nI t) + 1)) (L2 := [(7, .int ((nI t) + 1)), (8, .int y2), (0, .ref 0), (2, .int a2), (4, .int al), (5, .int fw), (6, .int tk)]) dX5_ask_92 6 rfl rfl (by decide) rfl ?_
      refine go_goto 48 dX5_ask_95 (by decide) ?_
      exact Go.pick [2, 3, 4, 5, 6, 0] rfl h
    · have h := h.2 q
      refine go_iload dX5_ask_84 0 rfl ?_
      refine go_istore (L2 := [(5, .int y2), (8, .int y2), (0, .ref 0), (2, .int a2), (4, .int al), (6, .int tk), (7, .int (nI t))]) dX5_ask_86 (by decide) rfl ?_
      refine go_iload dX5_ask_88 6 rfl ?_
      refine go_istore (L2 := [(6, .int (nI t)), (5, .int y2), (8, .int y2), (0, .ref 0), (2, .int a2), (4, .int al), (7, .int (nI t))]) dX5_ask_90 (by decide) rfl ?_
      refine go_iinc (v := ((nI t) + 1)) (L2 := [(7, .int ((nI t) + 1)), (6, .int (nI t)), (5, .int y2), (8, .int y2), (0, .ref 0), (2, .int a2), (4, .int al)]) dX5_ask_92 6 rfl rfl (by decide) rfl ?_
      refine go_goto 48 dX5_ask_95 (by decide) ?_
      exact Go.pick [4, 5, 6, 2, 1, 0] rfl h

set_option maxRecDepth 100000 in
theorem sX6_ask_0 {G : GX} {d : Nat} {mem : Mem} {Φ : Option Value → Mem → Prop} (a1 a2 : Int32) (c : Nat) (X : Bm) (S : Se) (h : ((¬ (0 ≤ a1 ∧ a1 ≤ ((mem 41 20) - 1)) → Φ (some (.int (-1))) mem) ∧ ((0 ≤ a1 ∧ a1 ≤ ((mem 41 20) - 1)) → (((0 ≤ a2 ∧ a2 ≤ 1) → (a1 = nI c) ∧ (VX 9 30 X) ∧ (c < xn X) ∧ (RepM mem 0 X) ∧ (SeM mem S) ∧ (mem 40 14 = goI 9) ∧ ∀ m7 : Mem, (QM mem m7 ∧ (∀ j, m7 40 j = mem 40 j) ∧ ∀ h, h < xp X c → ∀ t, t < 61 → m7 47 (61 * h + t) = nI (who 9 (itX 9 nof (stH X c h) t))) → (whF (fun v => sF S (stH X c v)) (xp X c) < 1073741824) ∧ Go G (d + 5) mX6_ask 43 [(0, .ref 40), (1, .int a1), (2, .int a2), (3, .int (nI (whF (fun v => sF S (stH X c v)) (xp X c)))), (4, .int (nI (pcF 32 (whF (fun v => sF S (stH X c v)) (xp X c))))), (5, .int (nI (pcF 32 (whF (fun v => sF S (stH X c v)) (xp X c))))), (6, .int (-4)), (7, .int 0)] [] m7 Φ) ∧ (¬ (0 ≤ a2 ∧ a2 ≤ 1) → Φ (some (.int (-1))) mem))))) : Go G (d + 5) mX6_ask 0 [(0, .ref 40), (1, .int a1), (2, .int a2)] [] mem Φ := by
  refine go_aload_n dX6_ask_0 0 rfl ?_
  refine go_iload_n dX6_ask_1 1 rfl ?_
  refine go_callV (st := []) (kX6_isClock (d + 3) a1) rfl rfl okX6_isClock insX6_isClock selX6_isClock lkX6_137 rfl rfl (Nat.le_of_ble_eq_true rfl) dX6_ask_2 (fun v_ m2_ q => ?_)
  rw [q.1, q.2]
  refine go_stk (st2 := [.int (bI (0 ≤ a1 ∧ a1 ≤ ((mem 41 20) - 1)))]) rfl ?_
  refine go_if_eq 18 dX6_ask_5 (by decide) (fun q => ?_) (fun q => ?_)
  · have h := h.1 (bI0.mp q)
    refine go_iconst (v := (-1)) dX6_ask_18 (by decide) ?_
    exact go_iret rfl dX6_ask_19 h
  · have h := h.2 (bI1.mp q)
    refine go_iload_n dX6_ask_8 2 rfl ?_
    refine go_i2l dX6_ask_9 ?_
    refine go_lconst (v := 0) dX6_ask_10 (by decide) ?_
    refine go_lconst (v := 1) dX6_ask_11 (by decide) ?_
    refine go_callS (st := []) (kX6_in (d + 4) a2 0 1 0 1 (by decide) (by decide)) okX6_in staX6_in lkX6_50 rfl rfl (Nat.le_of_ble_eq_true rfl) dX6_ask_12 (fun v_ m2_ q => ?_)
    rw [q.1, q.2]
    refine go_stk (st2 := [.int (bI (0 ≤ a2 ∧ a2 ≤ 1))]) rfl ?_
    refine go_if_ne 20 dX6_ask_15 (by decide) (fun q => ?_) (fun q => ?_)
    · have h := h.1 (bI1.mp q)
      refine go_aload_n dX6_ask_20 0 rfl ?_
      refine go_iload_n dX6_ask_21 1 rfl ?_
      obtain ⟨c1, h⟩ := h
      obtain ⟨c2, h⟩ := h
      obtain ⟨c3, h⟩ := h
      obtain ⟨c4, h⟩ := h
      obtain ⟨c5, h⟩ := h
      obtain ⟨c6, h⟩ := h
      refine go_callV (st := []) (kX6_handsOf (d + 0) a1 c X S c1 c2 c3 c4 c5 c6) rfl rfl okX6_handsOf insX6_handsOf selX6_handsOf lkX6_211 rfl rfl (Nat.le_of_ble_eq_true rfl) dX6_ask_22 (fun v_ m7 q => ?_)
      rw [q.1]
      have h := h m7 q.2
      refine go_stk (st2 := [.int (nI (whF (fun v => sF S (stH X c v)) (xp X c)))]) rfl ?_
      refine go_istore_n (L2 := [(3, .int (nI (whF (fun v => sF S (stH X c v)) (xp X c)))), (0, .ref 40), (1, .int a1), (2, .int a2)]) dX6_ask_25 (by decide) rfl ?_
      refine go_iload_n dX6_ask_26 0 rfl ?_
      obtain ⟨c8, h⟩ := h
      refine go_callS (st := []) (kX6_bitsOf (d + 4) (whF (fun v => sF S (stH X c v)) (xp X c)) c8) okX6_bitsOf staX6_bitsOf lkX6_127 rfl rfl (Nat.le_of_ble_eq_true rfl) dX6_ask_27 (fun v_ m2_ q => ?_)
      rw [q.1, q.2]
      refine go_stk (st2 := [.int (nI (pcF 32 (whF (fun v => sF S (stH X c v)) (xp X c))))]) rfl ?_
      refine go_istore (L2 := [(4, .int (nI (pcF 32 (whF (fun v => sF S (stH X c v)) (xp X c))))), (3, .int (nI (whF (fun v => sF S (stH X c v)) (xp X c)))), (0, .ref 40), (1, .int a1), (2, .int a2)]) dX6_ask_30 (by decide) rfl ?_
      refine go_iload dX6_ask_32 0 rfl ?_
      refine go_istore (L2 := [(5, .int (nI (pcF 32 (whF (fun v => sF S (stH X c v)) (xp X c))))), (4, .int (nI (pcF 32 (whF (fun v => sF S (stH X c v)) (xp X c))))), (3, .int (nI (whF (fun v => sF S (stH X c v)) (xp X c)))), (0, .ref 40), (1, .int a1), (2, .int a2)]) dX6_ask_34 (by decide) rfl ?_
      refine go_bipush (v := (-4)) dX6_ask_36 (by decide) ?_
      refine go_istore (L2 := [(6, .int (-4)), (5, .int (nI (pcF 32 (whF (fun v => sF S (stH X c v)) (xp X c))))), (4, .int (nI (pcF 32 (whF (fun v => sF S (stH X c v)) (xp X c))))), (3, .int (nI (whF (fun v => sF S (stH X c v)) (xp X c)))), (0, .ref 40), (1, .int a1), (2, .int a2)]) dX6_ask_38 (by decide) rfl ?_
      refine go_iconst (v := 0) dX6_ask_40 (by decide) ?_
      refine go_istore (L2 := [(7, .int 0), (6, .int (-4)), (5, .int (nI (pcF 32 (whF (fun v => sF S (stH X c v)) (xp X c))))), (4, .int (nI (pcF 32 (whF (fun v => sF S (stH X c v)) (xp X c))))), (3, .int (nI (whF (fun v => sF S (stH X c v)) (xp X c)))), (0, .ref 40), (1, .int a1), (2, .int a2)]) dX6_ask_41 (by decide) rfl ?_
      exact Go.pick [5, 6, 7, 4, 3, 2, 1, 0] rfl h
    · have h := h.2 (bI0.mp q)
      refine go_iconst (v := (-1)) dX6_ask_18 (by decide) ?_
      exact go_iret rfl dX6_ask_19 h

set_option maxRecDepth 100000 in
theorem sX6_ask_43 {G : GX} {d : Nat} {mem : Mem} {Φ : Option Value → Mem → Prop} (a1 a2 w al fw tk : Int32) (t : Nat) (h : ((60 < (nI t) → ((tk = (-4) → Φ (some (.int tk)) mem) ∧ (¬ tk = (-4) → ((¬ a2 = 0 → Φ (some (.int fw)) mem) ∧ (a2 = 0 → Φ (some (.int tk)) mem))))) ∧ (¬ 60 < (nI t) → Go G (d + 5) mX6_ask 56 [(0, .ref 40), (1, .int a1), (2, .int a2), (3, .int w), (4, .int al), (5, .int fw), (6, .int tk), (7, .int (nI t)), (8, .int 0), (9, .int 0)] [] mem Φ))) : Go G (d + 5) mX6_ask 43 [(0, .ref 40), (1, .int a1), (2, .int a2), (3, .int w), (4, .int al), (5, .int fw), (6, .int tk), (7, .int (nI t))] [] mem Φ := by
  refine go_iload dX6_ask_43 7 rfl ?_
  refine go_bipush (v := 60) dX6_ask_45 (by decide) ?_
  refine go_icmp_gt 171 dX6_ask_47 (by decide) (fun q => ?_) (fun q => ?_)
  · have h := h.1 q
    refine go_iload dX6_ask_171 6 rfl ?_
    refine go_bipush (v := (-4)) dX6_ask_173 (by decide) ?_
    refine go_icmp_eq 182 dX6_ask_175 (by decide) (fun q => ?_) (fun q => ?_)
    · have h := h.1 q
      refine go_iload dX6_ask_182 6 rfl ?_
      refine go_goto 189 dX6_ask_184 (by decide) ?_
      exact go_iret rfl dX6_ask_189 h
    · have h := h.2 q
      refine go_iload_n dX6_ask_178 2 rfl ?_
      refine go_if_ne 187 dX6_ask_179 (by decide) (fun q => ?_) (fun q => ?_)
      · have h := h.1 q
        refine go_iload dX6_ask_187 5 rfl ?_
        exact go_iret rfl dX6_ask_189 h
      · have h := h.2 q
        refine go_iload dX6_ask_182 6 rfl ?_
        refine go_goto 189 dX6_ask_184 (by decide) ?_
        exact go_iret rfl dX6_ask_189 h
  · have h := h.2 q
    refine go_iconst (v := 0) dX6_ask_50 (by decide) ?_
    refine go_istore (L2 := [(8, .int 0), (0, .ref 40), (1, .int a1), (2, .int a2), (3, .int w), (4, .int al), (5, .int fw), (6, .int tk), (7, .int (nI t))]) dX6_ask_51 (by decide) rfl ?_
    refine go_iconst (v := 0) dX6_ask_53 (by decide) ?_
    refine go_istore (L2 := [(9, .int 0), (8, .int 0), (0, .ref 40), (1, .int a1), (2, .int a2), (3, .int w), (4, .int al), (5, .int fw), (6, .int tk), (7, .int (nI t))]) dX6_ask_54 (by decide) rfl ?_
    exact Go.pick [2, 3, 4, 5, 6, 7, 8, 9, 1, 0] rfl h

set_option maxRecDepth 100000 in
theorem sX6_ask_56 {G : GX} {d : Nat} {mem : Mem} {Φ : Option Value → Mem → Prop} (a1 a2 w al fw tk : Int32) (t : Nat) (s : Int32) (hd : Nat) (h : (vp_in (5 + a1) 138) ∧ (((mem 41 ((5 + a1) : Int32).toNatClampNeg) ≤ (nI hd) → ((s ≤ (al - s) → ((fw ≤ (al - s) → ((fw ≤ (al - s) → Go G (d + 5) mX6_ask 43 [(0, .ref 40), (1, .int a1), (2, .int a2), (3, .int w), (4, .int al), (5, .int fw), (6, .int tk), (7, .int ((nI t) + 1))] [] mem Φ) ∧ (¬ fw ≤ (al - s) → Go G (d + 5) mX6_ask 43 [(0, .ref 40), (1, .int a1), (2, .int a2), (3, .int w), (4, .int al), (5, .int (al - s)), (6, .int tk), (7, .int ((nI t) + 1))] [] mem Φ))) ∧ (¬ fw ≤ (al - s) → ((fw ≤ (al - s) → Go G (d + 5) mX6_ask 43 [(0, .ref 40), (1, .int a1), (2, .int a2), (3, .int w), (4, .int al), (5, .int fw), (6, .int (nI t)), (7, .int ((nI t) + 1))] [] mem Φ) ∧ (¬ fw ≤ (al - s) → Go G (d + 5) mX6_ask 43 [(0, .ref 40), (1, .int a1), (2, .int a2), (3, .int w), (4, .int al), (5, .int (al - s)), (6, .int (nI t)), (7, .int ((nI t) + 1))] [] mem Φ))))) ∧ (¬ s ≤ (al - s) → ((fw ≤ s → ((fw ≤ s → Go G (d + 5) mX6_ask 43 [(0, .ref 40), (1, .int a1), (2, .int a2), (3, .int w), (4, .int al), (5, .int fw), (6, .int tk), (7, .int ((nI t) + 1))] [] mem Φ) ∧ (¬ fw ≤ s → Go G (d + 5) mX6_ask 43 [(0, .ref 40), (1, .int a1), (2, .int a2), (3, .int w), (4, .int al), (5, .int s), (6, .int tk), (7, .int ((nI t) + 1))] [] mem Φ))) ∧ (¬ fw ≤ s → ((fw ≤ s → Go G (d + 5) mX6_ask 43 [(0, .ref 40), (1, .int a1), (2, .int a2), (3, .int w), (4, .int al), (5, .int fw), (6, .int (nI t)), (7, .int ((nI t) + 1))] [] mem Φ) ∧ (¬ fw ≤ s → Go G (d + 5) mX6_ask 43 [(0, .ref 40), (1, .int a1), (2, .int a2), (3, .int w), (4, .int al), (5, .int s), (6, .int (nI t)), (7, .int ((nI t) + 1))] [] mem Φ))))))) ∧ (¬ (mem 41 ((5 + a1) : Int32).toNatClampNeg) ≤ (nI hd) → ((¬ ((w >>> ((nI hd) &&& 31)) &&& 1) = 1 → Go G (d + 5) mX6_ask 56 [(0, .ref 40), (1, .int a1), (2, .int a2), (3, .int w), (4, .int al), (5, .int fw), (6, .int tk), (7, .int (nI t)), (8, .int (s + 0)), (9, .int ((nI hd) + 1))] [] mem Φ) ∧ (((w >>> ((nI hd) &&& 31)) &&& 1) = 1 → (vp_in ((61 * (nI hd)) + (nI t)) 1830) ∧ ∀ y3 : Int32, y3 = (s + (((mem 47 (((61 * (nI hd)) + (nI t)) : Int32).toNatClampNeg) >>> (a1 &&& 31)) &&& 1)) → Go G (d + 5) mX6_ask 56 [(0, .ref 40), (1, .int a1), (2, .int a2), (3, .int w), (4, .int al), (5, .int fw), (6, .int tk), (7, .int (nI t)), (8, .int y3), (9, .int ((nI hd) + 1))] [] mem Φ))))) : Go G (d + 5) mX6_ask 56 [(0, .ref 40), (1, .int a1), (2, .int a2), (3, .int w), (4, .int al), (5, .int fw), (6, .int tk), (7, .int (nI t)), (8, .int s), (9, .int (nI hd))] [] mem Φ := by
  refine go_iload dX6_ask_56 9 rfl ?_
  refine go_aload_n dX6_ask_58 0 rfl ?_
  refine go_getR (kf := 0) (t := 41) rfl rfl rfl uwX6 (by decide) flX6_7 dX6_ask_59 ?_
  refine go_iconst (v := 5) dX6_ask_62 (by decide) ?_
  refine go_iload_n dX6_ask_63 1 rfl ?_
  refine go_iadd dX6_ask_64 ?_
  obtain ⟨c1, h⟩ := h
  refine go_iaload rfl c1 dX6_ask_65 ?_
  refine go_icmp_ge 111 dX6_ask_66 (by decide) (fun q => ?_) (fun q => ?_)
  · have h := h.1 q
    refine go_iload dX6_ask_111 8 rfl ?_
    refine go_iload dX6_ask_113 4 rfl ?_
    refine go_iload dX6_ask_115 8 rfl ?_
    refine go_isub dX6_ask_117 ?_
    refine go_icmp_le 126 dX6_ask_118 (by decide) (fun q => ?_) (fun q => ?_)
    · have h := h.1 q
      refine go_iload dX6_ask_126 4 rfl ?_
      refine go_iload dX6_ask_128 8 rfl ?_
      refine go_isub dX6_ask_130 ?_
      refine go_istore (L2 := [(9, .int (al - s)), (0, .ref 40), (1, .int a1), (2, .int a2), (3, .int w), (4, .int al), (5, .int fw), (6, .int tk), (7, .int (nI t)), (8, .int s)]) dX6_ask_131 (by decide) rfl ?_
      refine go_iload dX6_ask_133 0 rfl ?_
      refine go_iload dX6_ask_135 6 rfl ?_
      refine go_icmp_ge 145 dX6_ask_137 (by decide) (fun q => ?_) (fun q => ?_)
      · have h := h.1 q
        refine go_iload dX6_ask_145 7 rfl ?_
        refine go_istore (L2 := [(6, .int tk), (9, .int (al - s)), (0, .ref 40), (1, .int a1), (2, .int a2), (3, .int w), (4, .int al), (5, .int fw), (7, .int (nI t)), (8, .int s)]) dX6_ask_147 (by decide) rfl ?_
        refine go_iload dX6_ask_149 1 rfl ?_
        refine go_iload dX6_ask_151 7 rfl ?_
        refine go_icmp_ge 161 dX6_ask_153 (by decide) (fun q => ?_) (fun q => ?_)
        · have h := h.1 q
          refine go_iload dX6_ask_161 7 rfl ?_
          refine go_istore (L2 := [(5, .int fw), (6, .int tk), (9, .int (al - s)), (0, .ref 40), (1, .int a1), (2, .int a2), (3, .int w), (4, .int al), (7, .int (nI t)), (8, .int s)]) dX6_ask_163 (by decide) rfl ?_
          refine go_iinc (v := ((nI t) + 1)) (L2 := [(7, .int ((nI t) + 1)), (5, .int fw), (6, .int tk), (9, .int (al - s)), (0, .ref 40), (1, .int a1), (2, .int a2), (3, .int w), (4, .int al), (8, .int s)]) dX6_ask_165 8 rfl rfl (by decide) rfl ?_
          refine go_goto 43 dX6_ask_168 (by decide) ?_
          exact Go.pick [4, 5, 6, 7, 8, 1, 2, 0] rfl h
        · have h := h.2 q
          refine go_iload dX6_ask_156 1 rfl ?_
          refine go_goto 163 dX6_ask_158 (by decide) ?_
          refine go_istore (L2 := [(5, .int (al - s)), (6, .int tk), (9, .int (al - s)), (0, .ref 40), (1, .int a1), (2, .int a2), (3, .int w), (4, .int al), (7, .int (nI t)), (8, .int s)]) dX6_ask_163 (by decide) rfl ?_
          refine go_iinc (v := ((nI t) + 1)) (L2 := [(7, .int ((nI t) + 1)), (5, .int (al - s)), (6, .int tk), (9, .int (al - s)), (0, .ref 40), (1, .int a1), (2, .int a2), (3, .int w), (4, .int al), (8, .int s)]) dX6_ask_165 8 rfl rfl (by decide) rfl ?_
          refine go_goto 43 dX6_ask_168 (by decide) ?_
          exact Go.pick [4, 5, 6, 7, 8, 1, 2, 0] rfl h
      · have h := h.2 q
        refine go_iload dX6_ask_140 8 rfl ?_
        refine go_goto 147 dX6_ask_142 (by decide) ?_
        refine go_istore (L2 := [(6, .int (nI t)), (9, .int (al - s)), (0, .ref 40), (1, .int a1), (2, .int a2), (3, .int w), (4, .int al), (5, .int fw), (7, .int (nI t)), (8, .int s)]) dX6_ask_147 (by decide) rfl ?_
        refine go_iload dX6_ask_149 1 rfl ?_
        refine go_iload dX6_ask_151 7 rfl ?_
        refine go_icmp_ge 161 dX6_ask_153 (by decide) (fun q => ?_) (fun q => ?_)
        · have h := h.1 q
          refine go_iload dX6_ask_161 7 rfl ?_
          refine go_istore (L2 := [(5, .int fw), (6, .int (nI t)), (9, .int (al - s)), (0, .ref 40), (1, .int a1), (2, .int a2), (3, .int w), (4, .int al), (7, .int (nI t)), (8, .int s)]) dX6_ask_163 (by decide) rfl ?_
          refine go_iinc (v := ((nI t) + 1)) (L2 := [(7, .int ((nI t) + 1)), (5, .int fw), (6, .int (nI t)), (9, .int (al - s)), (0, .ref 40), (1, .int a1), (2, .int a2), (3, .int w), (4, .int al), (8, .int s)]) dX6_ask_165 8 rfl rfl (by decide) rfl ?_
          refine go_goto 43 dX6_ask_168 (by decide) ?_
          exact Go.pick [4, 5, 6, 7, 8, 1, 2, 0] rfl h
        · have h := h.2 q
          refine go_iload dX6_ask_156 1 rfl ?_
          refine go_goto 163 dX6_ask_158 (by decide) ?_
          refine go_istore (L2 := [(5, .int (al - s)), (6, .int (nI t)), (9, .int (al - s)), (0, .ref 40), (1, .int a1), (2, .int a2), (3, .int w), (4, .int al), (7, .int (nI t)), (8, .int s)]) dX6_ask_163 (by decide) rfl ?_
          refine go_iinc (v := ((nI t) + 1)) (L2 := [(7, .int ((nI t) + 1)), (5, .int (al - s)), (6, .int (nI t)), (9, .int (al - s)), (0, .ref 40), (1, .int a1), (2, .int a2), (3, .int w), (4, .int al), (8, .int s)]) dX6_ask_165 8 rfl rfl (by decide) rfl ?_
          refine go_goto 43 dX6_ask_168 (by decide) ?_
          exact Go.pick [4, 5, 6, 7, 8, 1, 2, 0] rfl h
    · have h := h.2 q
      refine go_iload dX6_ask_121 8 rfl ?_
      refine go_goto 131 dX6_ask_123 (by decide) ?_
      refine go_istore (L2 := [(9, .int s), (0, .ref 40), (1, .int a1), (2, .int a2), (3, .int w), (4, .int al), (5, .int fw), (6, .int tk), (7, .int (nI t)), (8, .int s)]) dX6_ask_131 (by decide) rfl ?_
      refine go_iload dX6_ask_133 0 rfl ?_
      refine go_iload dX6_ask_135 6 rfl ?_
      refine go_icmp_ge 145 dX6_ask_137 (by decide) (fun q => ?_) (fun q => ?_)
      · have h := h.1 q
        refine go_iload dX6_ask_145 7 rfl ?_
        refine go_istore (L2 := [(6, .int tk), (9, .int s), (0, .ref 40), (1, .int a1), (2, .int a2), (3, .int w), (4, .int al), (5, .int fw), (7, .int (nI t)), (8, .int s)]) dX6_ask_147 (by decide) rfl ?_
        refine go_iload dX6_ask_149 1 rfl ?_
        refine go_iload dX6_ask_151 7 rfl ?_
        refine go_icmp_ge 161 dX6_ask_153 (by decide) (fun q => ?_) (fun q => ?_)
        · have h := h.1 q
          refine go_iload dX6_ask_161 7 rfl ?_
          refine go_istore (L2 := [(5, .int fw), (6, .int tk), (9, .int s), (0, .ref 40), (1, .int a1), (2, .int a2), (3, .int w), (4, .int al), (7, .int (nI t)), (8, .int s)]) dX6_ask_163 (by decide) rfl ?_
          refine go_iinc (v := ((nI t) + 1)) (L2 := [(7, .int ((nI t) + 1)), (5, .int fw), (6, .int tk), (9, .int s), (0, .ref 40), (1, .int a1), (2, .int a2), (3, .int w), (4, .int al), (8, .int s)]) dX6_ask_165 8 rfl rfl (by decide) rfl ?_
          refine go_goto 43 dX6_ask_168 (by decide) ?_
          exact Go.pick [4, 5, 6, 7, 8, 1, 2, 0] rfl h
        · have h := h.2 q
          refine go_iload dX6_ask_156 1 rfl ?_
          refine go_goto 163 dX6_ask_158 (by decide) ?_
          refine go_istore (L2 := [(5, .int s), (6, .int tk), (9, .int s), (0, .ref 40), (1, .int a1), (2, .int a2), (3, .int w), (4, .int al), (7, .int (nI t)), (8, .int s)]) dX6_ask_163 (by decide) rfl ?_
          refine go_iinc (v := ((nI t) + 1)) (L2 := [(7, .int ((nI t) + 1)), (5, .int s), (6, .int tk), (9, .int s), (0, .ref 40), (1, .int a1), (2, .int a2), (3, .int w), (4, .int al), (8, .int s)]) dX6_ask_165 8 rfl rfl (by decide) rfl ?_
          refine go_goto 43 dX6_ask_168 (by decide) ?_
          exact Go.pick [4, 5, 6, 7, 8, 1, 2, 0] rfl h
      · have h := h.2 q
        refine go_iload dX6_ask_140 8 rfl ?_
        refine go_goto 147 dX6_ask_142 (by decide) ?_
        refine go_istore (L2 := [(6, .int (nI t)), (9, .int s), (0, .ref 40), (1, .int a1), (2, .int a2), (3, .int w), (4, .int al), (5, .int fw), (7, .int (nI t)), (8, .int s)]) dX6_ask_147 (by decide) rfl ?_
        refine go_iload dX6_ask_149 1 rfl ?_
        refine go_iload dX6_ask_151 7 rfl ?_
        refine go_icmp_ge 161 dX6_ask_153 (by decide) (fun q => ?_) (fun q => ?_)
        · have h := h.1 q
          refine go_iload dX6_ask_161 7 rfl ?_
          refine go_istore (L2 := [(5, .int fw), (6, .int (nI t)), (9, .int s), (0, .ref 40), (1, .int a1), (2, .int a2), (3, .int w), (4, .int al), (7, .int (nI t)), (8, .int s)]) dX6_ask_163 (by decide) rfl ?_
          refine go_iinc (v := ((nI t) + 1)) (L2 := [(7, .int ((nI t) + 1)), (5, .int fw), (6, .int (nI t)), (9, .int s), (0, .ref 40), (1, .int a1), (2, .int a2), (3, .int w), (4, .int al), (8, .int s)]) dX6_ask_165 8 rfl rfl (by decide) rfl ?_
          refine go_goto 43 dX6_ask_168 (by decide) ?_
          exact Go.pick [4, 5, 6, 7, 8, 1, 2, 0] rfl h
        · have h := h.2 q
          refine go_iload dX6_ask_156 1 rfl ?_
          refine go_goto 163 dX6_ask_158 (by decide) ?_
          refine go_istore (L2 := [(5, .int s), (6, .int (nI t)), (9, .int s), (0, .ref 40), (1, .int a1), (2, .int a2), (3, .int w), (4, .int al), (7, .int (nI t)), (8, .int s)]) dX6_ask_163 (by decide) rfl ?_
          refine go_iinc (v := ((nI t) + 1)) (L2 := [(7, .int ((nI t) + 1)), (5, .int s), (6, .int (nI t)), (9, .int s), (0, .ref 40), (1, .int a1), (2, .int a2), (3, .int w), (4, .int al), (8, .int s)]) dX6_ask_165 8 rfl rfl (by decide) rfl ?_
          refine go_goto 43 dX6_ask_168 (by decide) ?_
          exact Go.pick [4, 5, 6, 7, 8, 1, 2, 0] rfl h
  · have h := h.2 q
    refine go_iload dX6_ask_69 8 rfl ?_
    refine go_iload_n dX6_ask_71 3 rfl ?_
    refine go_iload dX6_ask_72 9 rfl ?_
    refine go_ishr dX6_ask_74 ?_
    refine go_iconst (v := 1) dX6_ask_75 (by decide) ?_
    refine go_iand dX6_ask_76 ?_
    refine go_iconst (v := 1) dX6_ask_77 (by decide) ?_
    refine go_icmp_ne 101 dX6_ask_78 (by decide) (fun q => ?_) (fun q => ?_)
    · have h := h.1 q
      refine go_iconst (v := 0) dX6_ask_101 (by decide) ?_
      refine go_iadd dX6_ask_102 ?_
      refine go_istore (L2 := [(8, .int (s + 0)), (0, .ref 40), (1, .int a1), (2, .int a2), (3, .int w), (4, .int al), (5, .int fw), (6, .int tk), (7, .int (nI t)), (9, .int (nI hd))]) dX6_ask_103 (by decide) rfl ?_
      refine go_iinc (v := ((nI hd) + 1)) (L2 := [(9, .int ((nI hd) + 1)), (8, .int (s + 0)), (0, .ref 40), (1, .int a1), (2, .int a2), (3, .int w), (4, .int al), (5, .int fw), (6, .int tk), (7, .int (nI t))]) dX6_ask_105 9 rfl rfl (by decide) rfl ?_
      refine go_goto 56 dX6_ask_108 (by decide) ?_
      exact Go.pick [2, 3, 4, 5, 6, 7, 8, 9, 1, 0] rfl h
    · have h := h.2 q
      refine go_aload_n dX6_ask_81 0 rfl ?_
      refine go_getR (kf := 20) (t := 47) rfl rfl rfl uwX6 (by decide) flX6_32 dX6_ask_82 ?_
      refine go_bipush (v := 61) dX6_ask_85 (by decide) ?_
      refine go_iload dX6_ask_87 9 rfl ?_
      refine go_imul dX6_ask_89 ?_
      refine go_iload dX6_ask_90 7 rfl ?_
      refine go_iadd dX6_ask_92 ?_
      obtain ⟨c2, h⟩ := h
      refine go_iaload rfl c2 dX6_ask_93 ?_
      refine go_iload_n dX6_ask_94 1 rfl ?_
      refine go_ishr dX6_ask_95 ?_
      refine go_iconst (v := 1) dX6_ask_96 (by decide) ?_
      refine go_iand dX6_ask_97 ?_
      refine go_goto 102 dX6_ask_98 (by decide) ?_
      refine go_iadd dX6_ask_102 ?_
      refine go_topi (fun y3 qy3 => ?_)
      have h := h y3 qy3
      refine go_istore (L2 := [(8, .int y3), (0, .ref 40), (1, .int a1), (2, .int a2), (3, .int w), (4, .int al), (5, .int fw), (6, .int tk), (7, .int (nI t)), (9, .int (nI hd))]) dX6_ask_103 (by decide) rfl ?_
      refine go_iinc (v := ((nI hd) + 1)) (L2 := [(9, .int ((nI hd) + 1)), (8, .int y3), (0, .ref 40), (1, .int a1), (2, .int a2), (3, .int w), (4, .int al), (5, .int fw), (6, .int tk), (7, .int (nI t))]) dX6_ask_105 9 rfl rfl (by decide) rfl ?_
      refine go_goto 56 dX6_ask_108 (by decide) ?_
      exact Go.pick [2, 3, 4, 5, 6, 7, 8, 9, 1, 0] rfl h


theorem lX5_ask {G : GX} {d : Nat} {R : Mem → Prop} {m : Mem} (w al : Int32) (f : Nat → Int32) (hf : ∀ t, t < 61 → m 39 t = f t) (hR : R m) : ∀ (r t : Nat) (p : Ak), t + r = 61 → Go G (d + 6) mX5_ask 48 [(0, .ref 0), (2, .int w), (4, .int al), (5, .int p.1), (6, .int p.2), (7, .int (nI t))] [] m (Ri (akA (akF f al r t p) w) R) := by
  intro r
  induction r with
  | zero =>
    intro t p ht
    have ht2 : t = 61 := by omega
    subst ht2
    have k := ak_fin (p := p) (w := w)
    exact sX5_ask_48 w al p.1 p.2 61 ⟨fun _ => ⟨fun z => Ri.mk (k.1 z) hR, fun z => ⟨fun y => Ri.mk ((k.2 z).1 y) hR, fun y => Ri.mk ((k.2 z).2 y) hR⟩⟩, fun z => absurd (by decide) z⟩
  | succ r ih =>
    intro t p ht
    have i9 := ih (t + 1) (akS al (f t) t p) (by omega)
    refine sX5_ask_48 w al p.1 p.2 t ⟨fun z => absurd ((nlt (a := 60) (by omega) (by omega)).mp z) (by omega), fun _ => ⟨nin (by omega) (by omega), ?_⟩⟩
    rw [ncl (show t < 2000000000 by omega), hf t (by omega), nI_1]
    intro y ey
    have ey : y = wst al (f t) := ey
    subst ey
    show (_ → Go G (d + 6) mX5_ask 48 _ [] m (Ri (akA (akF f al r (t + 1) (akS al (f t) t p)) w) R)) ∧ (_ → Go G (d + 6) mX5_ask 48 _ [] m (Ri (akA (akF f al r (t + 1) (akS al (f t) t p)) w) R))
    unfold akS at i9 ⊢
    refine ⟨fun q => ?_, fun q => ?_⟩
    · rw [if_pos q] at i9 ⊢; exact i9
    · rw [if_neg q] at i9 ⊢; exact i9
theorem lX6_ask56 {G : GX} {d : Nat} {m : Mem} {Φ : Option Value → Mem → Prop} (a2 al : Int32) (c w t : Nat) (X : Bm) (p : Ak) (hV : VX 9 30 X) (hc : c < xn X) (hw : w < 2 ^ 30) (ht : t < 61) (hp : m 41 (5 + c) = nI (xp X c)) (h47 : ∀ h, h < xp X c → ∀ t, t < 61 → m 47 (61 * h + t) = nI (who 9 (itX 9 nof (stH X c h) t))) (k : Go G (d + 5) mX6_ask 43 [(0, .ref 40), (1, .int (nI c)), (2, .int a2), (3, .int (nI w)), (4, .int al), (5, .int (akS al (nI (hdF X c w (xp X c) t)) t p).1), (6, .int (akS al (nI (hdF X c w (xp X c) t)) t p).2), (7, .int (nI (t + 1)))] [] m Φ) : ∀ (r h : Nat), h + r = xp X c → Go G (d + 5) mX6_ask 56 [(0, .ref 40), (1, .int (nI c)), (2, .int a2), (3, .int (nI w)), (4, .int al), (5, .int p.1), (6, .int p.2), (7, .int (nI t)), (8, .int (nI (hdF X c w h t))), (9, .int (nI h))] [] m Φ := by
  intro r
  have hn := hV.1
  obtain ⟨b1, b2, b3, b4, _⟩ := hV.2.2 c hc
  have e5 : (5 + nI c : Int32) = nI (5 + c) := by rw [show (5 : Int32) = nI 5 from rfl, nI_add]
  induction r with
  | zero =>
    intro h hh
    have hh2 : h = xp X c := by omega
    refine sX6_ask_56 _ a2 _ al p.1 p.2 t _ h ?_
    rw [e5, ncl (show 5 + c < 2000000000 by omega), hp, hh2, nI_1]
    generalize nI (hdF X c w (xp X c) t) = s at k ⊢
    have ws := wst_m (al := al) (s := s)
    unfold akS at k
    refine ⟨nin (by omega) (by omega), fun _ => ⟨fun q => ?_, fun q => ?_⟩, fun z => absurd (Int32.le_refl _) z⟩
    · rw [ws.1 q]
      refine ⟨fun y => ?_, fun y => ?_⟩
      · rw [if_pos y] at k; exact ⟨fun _ => k, fun z => absurd y z⟩
      · rw [if_neg y] at k; exact ⟨fun z => absurd z y, fun _ => k⟩
    · have e := ws.2 q
      rw [← e] at k
      refine ⟨fun y => ?_, fun y => ?_⟩
      · rw [if_pos y] at k; exact ⟨fun _ => k, fun z => absurd y z⟩
      · rw [if_neg y] at k; exact ⟨fun z => absurd z y, fun _ => k⟩
  | succ r ih =>
    intro h hh
    have i9 := ih (h + 1) (by omega)
    obtain ⟨qe, qv⟩ := q61 (show h < 30 by omega) ht
    refine sX6_ask_56 _ a2 _ al p.1 p.2 t _ h ?_
    rw [e5, ncl (show 5 + c < 2000000000 by omega), hp, bitN (by omega) (by omega), qe, h47 h (by omega) t ht, bit_at _ (who_lt (VX_it (VX_h hV (fun _ => by omega)) t)) c (by omega), nI_add, show (1 : Int32) = nI 1 from rfl, nI_add, neq (by omega) (by omega)]
    refine ⟨nin (by omega) (by omega), fun z => absurd ((nle (by omega) (by omega)).mp z) (by omega), fun _ => ⟨fun q => ?_, fun q => ⟨qv, fun y ey => ?_⟩⟩⟩
    · rw [show hdF X c w (h + 1) t = hdF X c w h t + (if w / 2 ^ h % 2 = 1 then who 9 (itX 9 nof (stH X c h) t) / 2 ^ c % 2 else 0) from rfl, if_neg q, Nat.add_zero, ← nI_1 h, show (1 : Int32) = nI 1 from rfl] at i9
      rw [Int32.add_zero]; exact i9
    · rw [show hdF X c w (h + 1) t = hdF X c w h t + (if w / 2 ^ h % 2 = 1 then who 9 (itX 9 nof (stH X c h) t) / 2 ^ c % 2 else 0) from rfl, if_pos q, ← nI_1 h, show (1 : Int32) = nI 1 from rfl] at i9
      rw [ey]; exact i9
theorem lX6_ask {G : GX} {d : Nat} {R : Mem → Prop} {m : Mem} (a2 al : Int32) (c w : Nat) (X : Bm) (hV : VX 9 30 X) (hc : c < xn X) (hw : w < 2 ^ 30) (hp : m 41 (5 + c) = nI (xp X c)) (h47 : ∀ h, h < xp X c → ∀ t, t < 61 → m 47 (61 * h + t) = nI (who 9 (itX 9 nof (stH X c h) t))) (hR : R m) : ∀ (r t : Nat) (p : Ak), t + r = 61 → Go G (d + 5) mX6_ask 43 [(0, .ref 40), (1, .int (nI c)), (2, .int a2), (3, .int (nI w)), (4, .int al), (5, .int p.1), (6, .int p.2), (7, .int (nI t))] [] m (Ri (akA (akF (fun t => nI (hdF X c w (xp X c) t)) al r t p) a2) R) := by
  intro r
  induction r with
  | zero =>
    intro t p ht
    have ht2 : t = 61 := by omega
    subst ht2
    have k := ak_fin (p := p) (w := a2)
    exact sX6_ask_43 _ a2 _ al p.1 p.2 61 ⟨fun _ => ⟨fun z => Ri.mk (k.1 z) hR, fun z => ⟨fun y => Ri.mk ((k.2 z).1 y) hR, fun y => Ri.mk ((k.2 z).2 y) hR⟩⟩, fun z => absurd (by decide) z⟩
  | succ r ih =>
    intro t p ht
    exact sX6_ask_43 _ a2 _ al p.1 p.2 t ⟨fun z => absurd ((nlt (a := 60) (by omega) (by omega)).mp z) (by omega), fun _ => lX6_ask56 a2 al c w t X p hV hc hw (by omega) hp h47 (ih (t + 1) _ (by omega)) (xp X c) 0 (by omega)⟩
theorem P29 {G : GX} (a w : Int32) : Sm G mX5_ask mX6_ask [.int a, .int w] := Sm_q (fun mem X S h1 h5 h7 => by
  have hn := h1.2.2.1.1
  by_cases q : isC X a ∧ (0 ≤ w ∧ w ≤ 1)
  · obtain ⟨c, hc, rfl⟩ := isC_n q.1 hn
    obtain ⟨b1, b2, b3, b4, _⟩ := h1.2.2.1.2.2 c hc
    have hW : whF (fun v => sF S (stH X c v)) (xp X c) < 2 ^ 30 := Nat.lt_of_lt_of_le (whF_lt _ _) (Nat.pow_le_pow_right (by omega) b3)
    refine ⟨akA (akF (fun t => nI (hdF X c (whF (fun v => sF S (stH X c v)) (xp X c)) (xp X c) t)) (nI (pcF 32 (whF (fun v => sF S (stH X c v)) (xp X c)))) 61 0 (nI (pcF 32 (whF (fun v => sF S (stH X c v)) (xp X c))), -4)) w, ?_, fun m1 g1 g5 g7 => ?_⟩
    · refine cn_of (by decide +kernel) (Nat.le_of_ble_eq_true rfl) (sX5_ask_0 (d := 3) (nI c) w c X S ?_)
      rw [h1.1.1]
      refine ⟨fun z => absurd q.1 z, fun _ => ⟨fun _ => ⟨rfl, h1.2.2.1, hc, h1.1, SeC.of h5, fun m6 h6 => ⟨⟨rfl, rfl⟩, ⟨h1.2.2.1, hc, hW⟩, h1.1.fr (fun j _ _ => h6 j (by omega) (by omega) (by omega)), fun m10 h10 y ey => ?_⟩⟩, fun z => absurd q.2 z⟩⟩
      rw [ey, bc_pc hW]
      exact lX5_ask w _ _ h10.2 (h6.tr h10.1) 61 0 (_, -4) (by omega)
    · refine cn_of (by decide +kernel) (Nat.le_of_ble_eq_true rfl) (sX6_ask_0 (d := 4) (nI c) w c X S ?_)
      rw [(RepM0 g1.2.1).1, isC_M hn]
      refine ⟨fun z => absurd q.1 z, fun _ => ⟨fun _ => ⟨rfl, g1.2.2.1, hc, g1.2.1, SeM.of g5, g7.1, fun m7 h7' => ⟨hW, ?_⟩⟩, fun z => absurd q.2 z⟩⟩
      exact lX6_ask w _ c _ X g1.2.2.1 hc hW (by rw [h7'.1.2.1 (5 + c) (by omega)]; exact ((RepM0 g1.2.1).2.2.2 c hc).2.1) h7'.2.2 h7'.1 61 0 (_, -4) (by omega)
  · refine ⟨-1, ?_, fun m1 g1 g5 g7 => ?_⟩
    · refine cn_of (by decide +kernel) (Nat.le_of_ble_eq_true rfl) (sX5_ask_0 (d := 3) a w 0 X S ?_)
      rw [h1.1.1]
      exact ⟨fun _ => Ri.mk rfl QC.rf, fun z => ⟨fun z2 => absurd ⟨z, z2⟩ q, fun _ => Ri.mk rfl QC.rf⟩⟩
    · refine cn_of (by decide +kernel) (Nat.le_of_ble_eq_true rfl) (sX6_ask_0 (d := 4) a w 0 X S ?_)
      rw [(RepM0 g1.2.1).1, isC_M hn]
      exact ⟨fun _ => Ri.mk rfl QM.rf, fun z => ⟨fun z2 => absurd ⟨z, z2⟩ q, fun _ => Ri.mk rfl QM.rf⟩⟩)
