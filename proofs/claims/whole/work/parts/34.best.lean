
def tpX (X : Bm) (c p : Nat) : Bm := stP (stH X c (if p - 1 < xh X c then p - 1 else xh X c)) c p
theorem VX_tp {X : Bm} {c p : Nat} (h : VX 9 30 X) (h2 : 2 ≤ p) (h3 : p ≤ 30) (hc : c < xn X) : VX 9 30 (tpX X c p) := by
  have hn := h.1
  have hh := (h.2.2 c hc).2.2.2.1 (by omega)
  refine VX_p (VX_h h (fun _ => ?_)) h2 h3 (fun _ => ?_)
  · split <;> omega
  · show upN (xh X) c _ c < p
    unfold upN
    rw [if_pos rfl]
    split <;> omega

set_option maxRecDepth 100000 in
theorem sX5_tryKind_0 {G : GX} {d : Nat} {mem : Mem} {Φ : Option Value → Mem → Prop} (a1 a2 : Int32) (X : Bm) (h : (xn X ≤ 5) ∧ (RepB mem 1 X) ∧ ∀ m3 : Mem, (RepB m3 6 X ∧ FrB 6 mem m3) → (vp_in a1 5) ∧ Φ (some (.ref 6)) (um m3 7 (a1 : Int32).toNatClampNeg a2)) : Go G (d + 3) mX5_tryKind 0 [(0, .ref 0), (1, .int a1), (2, .int a2)] [] mem Φ := by
  refine go_aload_n dX5_tryKind_0 0 rfl ?_
  obtain ⟨c1, h⟩ := h
  obtain ⟨c2, h⟩ := h
  refine go_callV (st := []) (kX5_tryNow (d + 0) X c1 c2) rfl rfl okX5_tryNow insX5_tryNow selX5_tryNow lkX5_112 rfl rfl (Nat.le_of_ble_eq_true rfl) dX5_tryKind_1 (fun v_ m3 q => ?_)
  rw [q.1]
  have h := h m3 q.2
  refine go_stk (st2 := [.ref 6]) rfl ?_
  refine go_getR (kf := 0) (t := 7) rfl rfl rfl uwX0 (by decide) flX5_127 dX5_tryKind_4 ?_
  refine go_iload_n dX5_tryKind_7 1 rfl ?_
  refine go_iload_n dX5_tryKind_8 2 rfl ?_
  obtain ⟨c4, h⟩ := h
  refine go_iastore rfl c4 dX5_tryKind_9 ?_
  refine go_aload_n dX5_tryKind_10 0 rfl ?_
  refine go_getR (kf := 1) (t := 6) rfl rfl rfl uwX5 (by decide) flX5_16 dX5_tryKind_11 ?_
  exact go_aret rfl dX5_tryKind_14 h

set_option maxRecDepth 100000 in
theorem sX5_tryPeriod_0 {G : GX} {d : Nat} {mem : Mem} {Φ : Option Value → Mem → Prop} (a1 a2 : Int32) (X : Bm) (h : (xn X ≤ 5) ∧ (RepB mem 1 X) ∧ ∀ m3 : Mem, (RepB m3 6 X ∧ FrB 6 mem m3) → (vp_in a1 5) ∧ ∀ m5 : Mem, m5 = (um (um m3 8 (a1 : Int32).toNatClampNeg a2) 9 (a1 : Int32).toNatClampNeg (if (a2 - 1) < ((um m3 8 (a1 : Int32).toNatClampNeg a2) 9 (a1 : Int32).toNatClampNeg) then (a2 - 1) else ((um m3 8 (a1 : Int32).toNatClampNeg a2) 9 (a1 : Int32).toNatClampNeg))) → Φ (some (.ref 6)) m5) : Go G (d + 3) mX5_tryPeriod 0 [(0, .ref 0), (1, .int a1), (2, .int a2)] [] mem Φ := by
  refine go_aload_n dX5_tryPeriod_0 0 rfl ?_
  obtain ⟨c1, h⟩ := h
  obtain ⟨c2, h⟩ := h
  refine go_callV (st := []) (kX5_tryNow (d + 0) X c1 c2) rfl rfl okX5_tryNow insX5_tryNow selX5_tryNow lkX5_112 rfl rfl (Nat.le_of_ble_eq_true rfl) dX5_tryPeriod_1 (fun v_ m3 q => ?_)
  rw [q.1]
  have h := h m3 q.2
  refine go_stk (st2 := [.ref 6]) rfl ?_
  refine go_getR (kf := 1) (t := 8) rfl rfl rfl uwX0 (by decide) flX5_130 dX5_tryPeriod_4 ?_
  refine go_iload_n dX5_tryPeriod_7 1 rfl ?_
  refine go_iload_n dX5_tryPeriod_8 2 rfl ?_
  obtain ⟨c4, h⟩ := h
  refine go_iastore rfl c4 dX5_tryPeriod_9 ?_
  refine go_aload_n dX5_tryPeriod_10 0 rfl ?_
  refine go_getR (kf := 1) (t := 6) rfl rfl rfl uwX5 (by decide) flX5_16 dX5_tryPeriod_11 ?_
  refine go_getR (kf := 2) (t := 9) rfl rfl rfl uwX0 (by decide) flX5_120 dX5_tryPeriod_14 ?_
  refine go_iload_n dX5_tryPeriod_17 1 rfl ?_
  refine go_aload_n dX5_tryPeriod_18 0 rfl ?_
  refine go_getR (kf := 1) (t := 6) rfl rfl rfl uwX5 (by decide) flX5_16 dX5_tryPeriod_19 ?_
  refine go_getR (kf := 2) (t := 9) rfl rfl rfl uwX0 (by decide) flX5_120 dX5_tryPeriod_22 ?_
  refine go_iload_n dX5_tryPeriod_25 1 rfl ?_
  refine go_iaload rfl c4 dX5_tryPeriod_26 ?_
  refine go_iload_n dX5_tryPeriod_27 2 rfl ?_
  refine go_iconst (v := 1) dX5_tryPeriod_28 (by decide) ?_
  refine go_isub dX5_tryPeriod_29 ?_
  refine go_mmin lkX5_273 (Nat.le_of_ble_eq_true rfl) dX5_tryPeriod_30 ?_
  refine go_iastore rfl c4 dX5_tryPeriod_33 ?_
  refine go_mem (fun m5 qm5 => ?_)
  have h := h m5 qm5
  refine go_aload_n dX5_tryPeriod_34 0 rfl ?_
  refine go_getR (kf := 1) (t := 6) rfl rfl rfl uwX5 (by decide) flX5_16 dX5_tryPeriod_35 ?_
  exact go_aret rfl dX5_tryPeriod_38 h

set_option maxRecDepth 100000 in
theorem sX5_tryHand_0 {G : GX} {d : Nat} {mem : Mem} {Φ : Option Value → Mem → Prop} (a1 a2 : Int32) (X : Bm) (h : (xn X ≤ 5) ∧ (RepB mem 1 X) ∧ ∀ m3 : Mem, (RepB m3 6 X ∧ FrB 6 mem m3) → (vp_in a1 5) ∧ Φ (some (.ref 6)) (um m3 9 (a1 : Int32).toNatClampNeg a2)) : Go G (d + 3) mX5_tryHand 0 [(0, .ref 0), (1, .int a1), (2, .int a2)] [] mem Φ := by
  refine go_aload_n dX5_tryHand_0 0 rfl ?_
  obtain ⟨c1, h⟩ := h
  obtain ⟨c2, h⟩ := h
  refine go_callV (st := []) (kX5_tryNow (d + 0) X c1 c2) rfl rfl okX5_tryNow insX5_tryNow selX5_tryNow lkX5_112 rfl rfl (Nat.le_of_ble_eq_true rfl) dX5_tryHand_1 (fun v_ m3 q => ?_)
  rw [q.1]
  have h := h m3 q.2
  refine go_stk (st2 := [.ref 6]) rfl ?_
  refine go_getR (kf := 2) (t := 9) rfl rfl rfl uwX0 (by decide) flX5_120 dX5_tryHand_4 ?_
  refine go_iload_n dX5_tryHand_7 1 rfl ?_
  refine go_iload_n dX5_tryHand_8 2 rfl ?_
  obtain ⟨c4, h⟩ := h
  refine go_iastore rfl c4 dX5_tryHand_9 ?_
  refine go_aload_n dX5_tryHand_10 0 rfl ?_
  refine go_getR (kf := 1) (t := 6) rfl rfl rfl uwX5 (by decide) flX5_16 dX5_tryHand_11 ?_
  exact go_aret rfl dX5_tryHand_14 h

set_option maxRecDepth 100000 in
theorem sX1_restart_0 {G : GX} {d : Nat} {mem : Mem} {Φ : Option Value → Mem → Prop} (a1 : Int32) (h : Φ none (um (um (um mem 30 0 (-4)) 30 1 (-4)) 30 2 a1)) : Go G (d + 0) mX1_restart 0 [(0, .ref 30), (1, .int a1)] [] mem Φ := by
  refine go_aload_n dX1_restart_0 0 rfl ?_
  refine go_bipush (v := (-4)) dX1_restart_1 (by decide) ?_
  refine go_putI (kf := 0) rfl rfl rfl uwX1 tyX1_ok nmX1 (by decide) rfl flX1_9 rfl rfl dX1_restart_3 ?_
  refine go_aload_n dX1_restart_6 0 rfl ?_
  refine go_bipush (v := (-4)) dX1_restart_7 (by decide) ?_
  refine go_putI (kf := 1) rfl rfl rfl uwX1 tyX1_ok nmX1 (by decide) rfl flX1_15 rfl rfl dX1_restart_9 ?_
  refine go_aload_n dX1_restart_12 0 rfl ?_
  refine go_iload_n dX1_restart_13 1 rfl ?_
  refine go_putI (kf := 2) rfl rfl rfl uwX1 tyX1_ok nmX1 (by decide) rfl flX1_18 rfl rfl dX1_restart_14 ?_
  exact go_vret rfl dX1_restart_17 h

set_option maxRecDepth 100000 in
theorem sX1_answer_0 {G : GX} {d : Nat} {mem : Mem} {Φ : Option Value → Mem → Prop} (a1 : Int32) (h : ((¬ a1 = 0 → Φ (some (.int (mem 30 1))) mem) ∧ (a1 = 0 → Φ (some (.int (mem 30 0))) mem))) : Go G (d + 0) mX1_answer 0 [(0, .ref 30), (1, .int a1)] [] mem Φ := by
  refine go_iload_n dX1_answer_0 1 rfl ?_
  refine go_if_ne 11 dX1_answer_1 (by decide) (fun q => ?_) (fun q => ?_)
  · have h := h.1 q
    refine go_aload_n dX1_answer_11 0 rfl ?_
    refine go_getI (kf := 1) rfl rfl rfl uwX1 (by decide) flX1_15 dX1_answer_12 ?_
    exact go_iret rfl dX1_answer_15 h
  · have h := h.2 q
    refine go_aload_n dX1_answer_4 0 rfl ?_
    refine go_getI (kf := 0) rfl rfl rfl uwX1 (by decide) flX1_9 dX1_answer_5 ?_
    refine go_goto 15 dX1_answer_8 (by decide) ?_
    exact go_iret rfl dX1_answer_15 h

set_option maxRecDepth 100000 in
theorem sX1_offer_0 {G : GX} {d : Nat} {mem : Mem} {Φ : Option Value → Mem → Prop} (b : Nat) (hB : BeamAt b) (a1 : Int32) (N : Nat) (X : Bm) (h : (mem 30 2 = nI N - 1) ∧ (N < 1000000) ∧ (VX 9 30 X) ∧ (RepB mem b X) ∧ ∀ m5 : Mem, FrB b mem m5 → ∀ y6 : Int32, y6 = (optI (ftF (fun t => togX 9 (itX 9 nof X t)) N)) → ((y6 = (-4) → Φ none m5) ∧ (¬ y6 = (-4) → ∀ m7 : Mem, m7 = (um (um (um m5 30 0 a1) 30 1 y6) 30 2 (y6 - 1)) → Φ none m7))) : Go G (d + 5) mX1_offer 0 [(0, .ref 30), (1, .int a1), (2, .ref b)] [] mem Φ := by
  refine go_aload_n dX1_offer_0 2 rfl ?_
  refine go_aload_n dX1_offer_1 0 rfl ?_
  refine go_getI (kf := 2) rfl rfl rfl uwX1 (by decide) flX1_18 dX1_offer_2 ?_
  obtain ⟨c1, h⟩ := h
  obtain ⟨c2, h⟩ := h
  obtain ⟨c3, h⟩ := h
  obtain ⟨c4, h⟩ := h
  refine go_callV (st := []) (kX0_ftI (d + 0) b hB (mem 30 2) N X 30 c1 c2 c3 c4) hB.1 rfl okX0_firstTogether insX0_firstTogether selX0_firstTogether lkX1_21 rfl rfl (Nat.le_of_ble_eq_true rfl) dX1_offer_5 (fun v_ m5 q => ?_)
  rw [q.1]
  have h := h m5 q.2
  refine go_stk (st2 := [.int (optI (ftF (fun t => togX 9 (itX 9 nof X t)) N))]) rfl ?_
  refine go_topi (fun y6 qy6 => ?_)
  have h := h y6 qy6
  refine go_istore_n (L2 := [(3, .int y6), (0, .ref 30), (1, .int a1), (2, .ref b)]) dX1_offer_8 (by decide) rfl ?_
  refine go_iload_n dX1_offer_9 0 rfl ?_
  refine go_bipush (v := (-4)) dX1_offer_10 (by decide) ?_
  refine go_icmp_eq 32 dX1_offer_12 (by decide) (fun q => ?_) (fun q => ?_)
  · have h := h.1 q
    exact go_vret rfl dX1_offer_32 h
  · have h := h.2 q
    refine go_aload_n dX1_offer_15 1 rfl ?_
    refine go_iload_n dX1_offer_16 2 rfl ?_
    refine go_putI (kf := 0) rfl rfl rfl uwX1 tyX1_ok nmX1 (by decide) rfl flX1_9 rfl rfl dX1_offer_17 ?_
    refine go_aload_n dX1_offer_20 1 rfl ?_
    refine go_iload_n dX1_offer_21 0 rfl ?_
    refine go_putI (kf := 1) rfl rfl rfl uwX1 tyX1_ok nmX1 (by decide) rfl flX1_15 rfl rfl dX1_offer_22 ?_
    refine go_aload_n dX1_offer_25 1 rfl ?_
    refine go_iload_n dX1_offer_26 0 rfl ?_
    refine go_iconst (v := 1) dX1_offer_27 (by decide) ?_
    refine go_isub dX1_offer_28 ?_
    refine go_putI (kf := 2) rfl rfl rfl uwX1 tyX1_ok nmX1 (by decide) rfl flX1_18 rfl rfl dX1_offer_29 ?_
    refine go_mem (fun m7 qm7 => ?_)
    have h := h m7 qm7
    exact go_vret rfl dX1_offer_32 h


theorem kX5_tryKind {G : GX} (d : Nat) {mem : Mem} (a1 a2 : Int32) (c v : Nat) (X : Bm) (e : a1 = nI c ∧ a2 = nI v) (hc : c < 5) (hn : xn X ≤ 5) (hR : RepB mem 1 X) : Cn G (d + 3) mX5_tryKind [.ref 0, .int a1, .int a2] mem (Rr 6 (fun m2 => RepB m2 6 (stK X c v) ∧ FrB 6 mem m2)) := by
  refine cn_of (by decide +kernel) (Nat.le_of_ble_eq_true rfl) (sX5_tryKind_0 a1 a2 X ⟨hn, hR, fun m3 h3 => ?_⟩)
  rw [e.1, e.2, ncl (show c < 2000000000 by omega)]
  have k := RepB_k (c := c) (v := v) h3.1 rfl
  exact ⟨nin (by omega) (by omega), rfl, k.1, fun j hj => by rw [k.2 j hj, h3.2 j hj]⟩
theorem kX5_tryHand {G : GX} (d : Nat) {mem : Mem} (a1 a2 : Int32) (c v : Nat) (X : Bm) (e : a1 = nI c ∧ a2 = nI v) (hc : c < 5) (hn : xn X ≤ 5) (hR : RepB mem 1 X) : Cn G (d + 3) mX5_tryHand [.ref 0, .int a1, .int a2] mem (Rr 6 (fun m2 => RepB m2 6 (stH X c v) ∧ FrB 6 mem m2)) := by
  refine cn_of (by decide +kernel) (Nat.le_of_ble_eq_true rfl) (sX5_tryHand_0 a1 a2 X ⟨hn, hR, fun m3 h3 => ?_⟩)
  rw [e.1, e.2, ncl (show c < 2000000000 by omega)]
  have k := RepB_h (c := c) (v := v) h3.1 rfl
  exact ⟨nin (by omega) (by omega), rfl, k.1, fun j hj => by rw [k.2 j hj, h3.2 j hj]⟩
theorem kX5_tryPeriod {G : GX} (d : Nat) {mem : Mem} (a1 a2 : Int32) (c v : Nat) (X : Bm) (e : a1 = nI c ∧ a2 = nI v) (hc : c < 5) (hn : xn X ≤ 5) (hR : RepB mem 1 X) (h1 : 1 ≤ v) (hb : xh X c < 1000000 ∧ v < 1000000 ∧ c < xn X) : Cn G (d + 3) mX5_tryPeriod [.ref 0, .int a1, .int a2] mem (Rr 6 (fun m2 => RepB m2 6 (tpX X c v) ∧ FrB 6 mem m2)) := by
  refine cn_of (by decide +kernel) (Nat.le_of_ble_eq_true rfl) (sX5_tryPeriod_0 a1 a2 X ⟨hn, hR, fun m3 h3 => ?_⟩)
  rw [e.1, e.2, ncl (show c < 2000000000 by omega), um_ne (show (9 : Nat) ≠ 8 by decide), (h3.1.2.2.2 c hb.2.2).2.2.1, nI_sub1 (by omega)]
  refine ⟨nin (by omega) (by omega), fun m5 h5 => ⟨rfl, ?_⟩⟩
  have ei : (if nI (v - 1) < nI (xh X c) then nI (v - 1) else nI (xh X c) : Int32) = nI (if v - 1 < xh X c then v - 1 else xh X c) := by
    by_cases q : v - 1 < xh X c
    · rw [if_pos ((nlt (by omega) (by omega)).mpr q), if_pos q]
    · rw [if_neg (fun z => q ((nlt (by omega) (by omega)).mp z)), if_neg q]
  rw [ei] at h5
  have k1 := RepB_h (m2 := um m3 9 c (nI (if v - 1 < xh X c then v - 1 else xh X c))) (c := c) h3.1 rfl
  have k2 := RepB_p (m2 := um (um m3 9 c (nI (if v - 1 < xh X c then v - 1 else xh X c))) 8 c (nI v)) (c := c) (v := v) k1.1 rfl
  have es : um (um m3 9 c (nI (if v - 1 < xh X c then v - 1 else xh X c))) 8 c (nI v) = m5 := by
    rw [h5]
    funext k j
    by_cases q8 : k = 8
    · subst q8; rw [um_at, um_ne (by decide), um_ne (by decide), um_at]
    · rw [um_ne q8]
      by_cases q9 : k = 9
      · subst q9; rw [um_at, um_at, um_ne (by decide)]
      · rw [um_ne q9, um_ne q9, um_ne q8]
  rw [es] at k2
  refine ⟨k2.1, fun j hj => ?_⟩
  rw [k2.2 j hj, k1.2 j hj, h3.2 j hj]
def rsM (m : Mem) (l : Int32) : Mem := um (um (um m 30 0 (-4)) 30 1 (-4)) 30 2 l
theorem kX1_restart {G : GX} (d : Nat) {mem : Mem} (l : Int32) : Cn G (d + 0) mX1_restart [.ref 30, .int l] mem (Rv (fun m2 => m2 = rsM mem l)) :=
  cn_of (by decide +kernel) (Nat.le_of_ble_eq_true rfl) (sX1_restart_0 l ⟨rfl, rfl⟩)
theorem kX1_answer {G : GX} (d : Nat) {mem : Mem} (w : Int32) : Cn G (d + 0) mX1_answer [.ref 30, .int w] mem (Ri (if w = 0 then mem 30 0 else mem 30 1) (fun m2 => m2 = mem)) :=
  cn_of (by decide +kernel) (Nat.le_of_ble_eq_true rfl) (sX1_answer_0 w ⟨fun q => Ri.mk (by rw [if_neg q]) rfl, fun q => Ri.mk (by rw [if_pos q]) rfl⟩)
abbrev Bs : Type := Option Nat × Nat
def bsT (s : Bs) : Int32 := match s.1 with
  | none => -4
  | some _ => nI s.2
def RepBs (m : Mem) (s : Bs) : Prop := m 30 0 = optI s.1 ∧ m 30 1 = bsT s ∧ m 30 2 = nI s.2 - 1
/-- one more is offered: P is when they beat together with it -/
def bst (P : Nat → Bool) (v : Nat) (s : Bs) : Bs := match ftF P s.2 with
  | none => s
  | some t => (some v, t)
theorem bst_le {P : Nat → Bool} {v : Nat} {s : Bs} : (bst P v s).2 ≤ s.2 := by
  unfold bst
  split
  · exact Nat.le_refl _
  · rename_i t h
    exact Nat.le_of_lt (ftF_lt h)
theorem kX1_offer {G : GX} (d : Nat) {mem : Mem} (a : Int32) (v b : Nat) (hB : BeamAt b) (X : Bm) (s : Bs) (e : a = nI v) (hs : s.2 < 1000000) (hV : VX 9 30 X) (hR : RepB mem b X) (hb : RepBs mem s) (hb5 : b ≤ 25) : Cn G (d + 5) mX1_offer [.ref 30, .int a, .ref b] mem (Rv (fun m2 => RepBs m2 (bst (fun t => togX 9 (itX 9 nof X t)) v s) ∧ ∀ k, (k < b ∨ b + 4 < k) → k ≠ 30 → m2 k = mem k)) := by
  refine cn_of (by decide +kernel) (Nat.le_of_ble_eq_true rfl) (sX1_offer_0 b hB a s.2 X ⟨hb.2.2, hs, hV, hR, fun m5 h5 y6 e6 => ?_⟩)
  have e30 : m5 30 = mem 30 := h5 30 (by omega)
  unfold bst
  cases hf : ftF (fun t => togX 9 (itX 9 nof X t)) s.2 with
  | none =>
    rw [hf] at e6
    refine ⟨fun _ => ⟨rfl, ?_, fun k hk _ => h5 k hk⟩, fun z => absurd e6 z⟩
    unfold RepBs
    rw [e30]; exact hb
  | some t =>
    rw [hf] at e6
    have ht := ftF_lt hf
    have ey : y6 = nI t := e6
    refine ⟨fun z => ?_, fun _ m7 h7 => ⟨rfl, ⟨?_, ?_, ?_⟩, fun k hk h30 => ?_⟩⟩
    · rw [ey] at z
      have hz : (0 : Int32) ≤ nI t := nI_pos' (by omega)
      rw [z] at hz
      exact absurd hz (by decide)
    · rw [h7, um_at, if_neg (by decide), um_at, if_neg (by decide), um_same, e]; rfl
    · rw [h7, um_at, if_neg (by decide), um_same, ey]; rfl
    · rw [h7, um_same, ey]
    · rw [h7, um_ne h30, um_ne h30, um_ne h30, h5 k hk]
def bsF (Q : Nat → Nat → Bool) : Nat → Nat → Bs → Bs
  | 0, _, s => s
  | r + 1, v, s => bsF Q r (v + 1) (bst (Q v) v s)
def bsA (s : Bs) (w : Int32) : Int32 := if w = 0 then optI s.1 else bsT s
theorem RepBs.rs {m : Mem} {N : Nat} : RepBs (rsM m (nI N - 1)) (none, N) := by
  unfold rsM
  refine ⟨?_, ?_, um_same⟩
  · rw [um_at, if_neg (by decide), um_at, if_neg (by decide), um_same]; rfl
  · rw [um_at, if_neg (by decide), um_same]; rfl
theorem rsM_ne {m : Mem} {l : Int32} {k : Nat} (h : k ≠ 30) : rsM m l k = m k := by unfold rsM; rw [um_ne h, um_ne h, um_ne h]
theorem QC.rs {m : Mem} {l : Int32} : QC m (rsM m l) := fun k _ h _ => rsM_ne h
theorem QC.of6 {m0 m m3 : Mem} (h : QC m0 m) (h2 : FrB 6 m m3) : QC m0 m3 := h.tr h2.qc
theorem QC.bs {m0 m m3 : Mem} (h : QC m0 m) (h2 : ∀ k, (k < 6 ∨ 6 + 4 < k) → k ≠ 30 → m3 k = m k) : QC m0 m3 := fun k a b c => by rw [h2 k (by omega) b, h k a b c]
theorem RepBs.fr {m m2 : Mem} {s : Bs} (h : RepBs m s) (e : m2 30 = m 30) : RepBs m2 s := by unfold RepBs; rw [e]; exact h
theorem kX0_takeAwayI {G : GX} (d : Nat) {mem : Mem} (b : Nat) (hB : BeamAt b) (a : Int32) (g : Nat) (X : Bm) (e : a = nI g) (hn : xn X ≤ 5) (hg : g < xn X) (hR : RepB mem b X) : Cn G (d + 0) mX0_takeAway [.ref b, .int a] mem (Rv (fun m2 => RepB m2 b (remX g X) ∧ FrB b mem m2)) := by
  rw [e]; exact kX0_takeAway d b hB g X hn hg hR

set_option maxRecDepth 100000 in
theorem sX5_period_0 {G : GX} {d : Nat} {mem : Mem} {Φ : Option Value → Mem → Prop} (a1 a2 : Int32) (h : ((¬ (0 ≤ a1 ∧ a1 < mem 1 4) → Φ (some (.int (-1))) mem) ∧ ((0 ≤ a1 ∧ a1 < mem 1 4) → (((0 ≤ a2 ∧ a2 ≤ 1) → Go G (d + 6) mX5_period 31 [(0, .ref 0), (1, .int a1), (2, .int a2), (3, .int 2)] [] (rsM mem 300) Φ) ∧ (¬ (0 ≤ a2 ∧ a2 ≤ 1) → Φ (some (.int (-1))) mem))))) : Go G (d + 6) mX5_period 0 [(0, .ref 0), (1, .int a1), (2, .int a2)] [] mem Φ := by
  refine go_aload_n dX5_period_0 0 rfl ?_
  refine go_iload_n dX5_period_1 1 rfl ?_
  refine go_callV (st := []) (kX5_isClock (d + 5) a1) rfl rfl okX5_isClock insX5_isClock selX5_isClock lkX5_123 rfl rfl (Nat.le_of_ble_eq_true rfl) dX5_period_2 (fun v_ m2_ q => ?_)
  rw [q.1, q.2]
  refine go_stk (st2 := [.int (bI (0 ≤ a1 ∧ a1 < mem 1 4))]) rfl ?_
  refine go_if_eq 17 dX5_period_5 (by decide) (fun q => ?_) (fun q => ?_)
  · have h := h.1 (bI0.mp q)
    refine go_iconst (v := (-1)) dX5_period_17 (by decide) ?_
    exact go_iret rfl dX5_period_18 h
  · have h := h.2 (bI1.mp q)
    refine go_iload_n dX5_period_8 2 rfl ?_
    refine go_iconst (v := 0) dX5_period_9 (by decide) ?_
    refine go_iconst (v := 1) dX5_period_10 (by decide) ?_
    refine go_callS (st := []) (kX5_isWithin (d + 5) a2 0 1) okX5_isWithin staX5_isWithin lkX5_59 rfl rfl (Nat.le_of_ble_eq_true rfl) dX5_period_11 (fun v_ m2_ q => ?_)
    rw [q.1, q.2]
    refine go_stk (st2 := [.int (bI (0 ≤ a2 ∧ a2 ≤ 1))]) rfl ?_
    refine go_if_ne 19 dX5_period_14 (by decide) (fun q => ?_) (fun q => ?_)
    · have h := h.1 (bI1.mp q)
      refine go_aload_n dX5_period_19 0 rfl ?_
      refine go_getR (kf := 7) (t := 30) rfl rfl rfl uwX5 (by decide) flX5_50 dX5_period_20 ?_
      refine go_sipush (v := 300) dX5_period_23 (by decide) ?_
      refine go_callV (st := []) (kX1_restart (d + 5) 300) rfl rfl okX1_restart insX1_restart selX1_restart lkX5_182 rfl rfl (Nat.le_of_ble_eq_true rfl) dX5_period_26 (fun v_ m2_ q => ?_)
      rw [q.1, q.2]
      refine go_stk (st2 := []) rfl ?_
      refine go_iconst (v := 2) dX5_period_29 (by decide) ?_
      refine go_istore_n (L2 := [(3, .int 2), (0, .ref 0), (1, .int a1), (2, .int a2)]) dX5_period_30 (by decide) rfl ?_
      exact Go.pick [1, 2, 3, 0] rfl h
    · have h := h.2 (bI0.mp q)
      refine go_iconst (v := (-1)) dX5_period_17 (by decide) ?_
      exact go_iret rfl dX5_period_18 h

set_option maxRecDepth 100000 in
theorem sX5_period_31 {G : GX} {d : Nat} {mem : Mem} {Φ : Option Value → Mem → Prop} (a1 a2 : Int32) (c v : Nat) (X : Bm) (s : Option Nat × Nat) (h : ((30 < (nI v) → Φ (some (.int (if a2 = 0 then mem 30 0 else mem 30 1))) mem) ∧ (¬ 30 < (nI v) → (a1 = nI c ∧ (nI v) = nI v) ∧ (c < 5) ∧ (xn X ≤ 5) ∧ (RepB mem 1 X) ∧ (1 ≤ v) ∧ (xh X c < 1000000 ∧ v < 1000000 ∧ c < xn X) ∧ ∀ m7 : Mem, (RepB m7 6 (tpX X c v) ∧ FrB 6 mem m7) → ((nI v) = nI v) ∧ (s.2 < 1000000) ∧ (VX 9 30 (tpX X c v)) ∧ (RepB m7 6 (tpX X c v)) ∧ (RepBs m7 s) ∧ (6 ≤ 25) ∧ ∀ m14 : Mem, (RepBs m14 (bst (fun t => togX 9 (itX 9 nof (tpX X c v) t)) v s) ∧ ∀ k, (k < 6 ∨ 6 + 4 < k) → k ≠ 30 → m14 k = m7 k) → Go G (d + 6) mX5_period 31 [(0, .ref 0), (1, .int a1), (2, .int a2), (3, .int ((nI v) + 1))] [] m14 Φ))) : Go G (d + 6) mX5_period 31 [(0, .ref 0), (1, .int a1), (2, .int a2), (3, .int (nI v))] [] mem Φ := by
  refine go_iload_n dX5_period_31 3 rfl ?_
  refine go_bipush (v := 30) dX5_period_32 (by decide) ?_
  refine go_icmp_gt 57 dX5_period_34 (by decide) (fun q => ?_) (fun q => ?_)
  · have h := h.1 q
    refine go_aload_n dX5_period_57 0 rfl ?_
    refine go_getR (kf := 7) (t := 30) rfl rfl rfl uwX5 (by decide) flX5_50 dX5_period_58 ?_
    refine go_iload_n dX5_period_61 2 rfl ?_
    refine go_callV (st := []) (kX1_answer (d + 5) a2) rfl rfl okX1_answer insX1_answer selX1_answer lkX5_194 rfl rfl (Nat.le_of_ble_eq_true rfl) dX5_period_62 (fun v_ m2_ q => ?_)
    rw [q.1, q.2]
    refine go_stk (st2 := [.int (if a2 = 0 then mem 30 0 else mem 30 1)]) rfl ?_
    exact go_iret rfl dX5_period_65 h
  · have h := h.2 q
    refine go_aload_n dX5_period_37 0 rfl ?_
    refine go_getR (kf := 7) (t := 30) rfl rfl rfl uwX5 (by decide) flX5_50 dX5_period_38 ?_
    refine go_iload_n dX5_period_41 3 rfl ?_
    refine go_aload_n dX5_period_42 0 rfl ?_
    refine go_iload_n dX5_period_43 1 rfl ?_
    refine go_iload_n dX5_period_44 3 rfl ?_
    obtain ⟨c1, h⟩ := h
    obtain ⟨c2, h⟩ := h
    obtain ⟨c3, h⟩ := h
    obtain ⟨c4, h⟩ := h
    obtain ⟨c5, h⟩ := h
    obtain ⟨c6, h⟩ := h
    refine go_callV (st := [.int (nI v), .ref 30]) (kX5_tryPeriod (d + 2) a1 (nI v) c v X c1 c2 c3 c4 c5 c6) rfl rfl okX5_tryPeriod insX5_tryPeriod selX5_tryPeriod lkX5_186 rfl rfl (Nat.le_of_ble_eq_true rfl) dX5_period_45 (fun v_ m7 q => ?_)
    rw [q.1]
    have h := h m7 q.2
    refine go_stk (st2 := [.ref 6, .int (nI v), .ref 30]) rfl ?_
    obtain ⟨c8, h⟩ := h
    obtain ⟨c9, h⟩ := h
    obtain ⟨c10, h⟩ := h
    obtain ⟨c11, h⟩ := h
    obtain ⟨c12, h⟩ := h
    obtain ⟨c13, h⟩ := h
    refine go_callV (st := []) (kX1_offer (d + 0) (nI v) v 6 bA6 (tpX X c v) s c8 c9 c10 c11 c12 c13) rfl rfl okX1_offer insX1_offer selX1_offer lkX5_190 rfl rfl (Nat.le_of_ble_eq_true rfl) dX5_period_48 (fun v_ m14 q => ?_)
    rw [q.1]
    have h := h m14 q.2
    refine go_stk (st2 := []) rfl ?_
    refine go_iinc (v := ((nI v) + 1)) (L2 := [(3, .int ((nI v) + 1)), (0, .ref 0), (1, .int a1), (2, .int a2)]) dX5_period_51 3 rfl rfl (by decide) rfl ?_
    refine go_goto 31 dX5_period_54 (by decide) ?_
    exact Go.pick [1, 2, 3, 0] rfl h


theorem lX5_period {G : GX} {d : Nat} {mem0 : Mem} (w : Int32) (c : Nat) (X : Bm) (hV : VX 9 30 X) (hc : c < xn X) (hR : RepB mem0 1 X) : ∀ (r v : Nat) (m : Mem) (s : Bs), v + r = 31 → 2 ≤ v → QC mem0 m → RepBs m s → s.2 ≤ 301 → Go G (d + 6) mX5_period 31 [(0, .ref 0), (1, .int (nI c)), (2, .int w), (3, .int (nI v))] [] m (Ri (bsA (bsF (fun v t => togX 9 (itX 9 nof (tpX X c v) t)) r v s) w) (QC mem0)) := by
  intro r
  have hn := hV.1
  obtain ⟨q1, q2, q3, q4, _⟩ := hV.2.2 c hc
  have q4 := q4 (by omega)
  induction r with
  | zero =>
    intro v m s hv hl h1 h2 h3
    have ep : m 3 c = nI (xp X c) := by rw [h1 3 (by omega) (by omega) (by omega)]; exact (hR.2.2.2 c hc).2.1
    refine sX5_period_31 (nI c) w c v X s ⟨fun _ => Ri.mk ?_ h1, fun z => ?_⟩
    · show _ = bsA s w
      unfold bsA
      rw [h2.1, h2.2.1]
    · exact absurd ((nlt (a := 30) (by omega) (by omega)).mpr (by omega)) z
  | succ r ih =>
    intro v m s hv hl h1 h2 h3
    have ep : m 3 c = nI (xp X c) := by rw [h1 3 (by omega) (by omega) (by omega)]; exact (hR.2.2.2 c hc).2.1
    have hR1 : RepB m 1 X := hR.fr (fun j a b => h1 j (by omega) (by omega) (by omega))
    refine sX5_period_31 (nI c) w c v X s ⟨fun z => ?_, fun _ => ⟨⟨rfl, rfl⟩, by omega, hn, hR1, by omega, ⟨by omega, by omega, hc⟩, fun m7 h7 => ⟨rfl, by omega, VX_tp hV (by omega) (by omega) hc, h7.1, h2.fr (h7.2 30 (by omega)), by omega, fun m13 h13 => ?_⟩⟩⟩
    · exact absurd ((nlt (a := 30) (by omega) (by omega)).mp z) (by omega)
    · rw [nI_1]
      exact ih (v + 1) m13 _ (by omega) (by omega) ((h1.of6 h7.2).bs h13.2) h13.1 (Nat.le_trans bst_le h3)


theorem kX5_periodN {G : GX} (d : Nat) {mem : Mem} (a w : Int32) (X : Bm) (h : C1 mem X) (hb : ¬ isC X a ∨ ¬ (0 ≤ w ∧ w ≤ 1)) : Cn G (d + 6) mX5_period [.ref 0, .int a, .int w] mem (Ri (-1) (QC mem)) := by
  refine cn_of (by decide +kernel) (Nat.le_of_ble_eq_true rfl) (sX5_period_0 a w ?_)
  rw [h.1.1]
  rcases hb with hb | hb
  · exact ⟨fun _ => Ri.mk rfl QC.rf, fun z => absurd z hb⟩
  · exact ⟨fun _ => Ri.mk rfl QC.rf, fun _ => ⟨fun z => absurd z hb, fun _ => Ri.mk rfl QC.rf⟩⟩
theorem kX5_period {G : GX} (d : Nat) {mem : Mem} (c : Nat) (w : Int32) (X : Bm) (h : C1 mem X) (hc : c < xn X) (hw : 0 ≤ w ∧ w ≤ 1) : Cn G (d + 6) mX5_period [.ref 0, .int (nI c), .int w] mem (Ri (bsA (bsF (fun v t => togX 9 (itX 9 nof (tpX X c v) t)) 29 2 (none, 301)) w) (QC mem)) := by
  have hn := h.2.2.1.1
  refine cn_of (by decide +kernel) (Nat.le_of_ble_eq_true rfl) (sX5_period_0 (nI c) w ?_)
  rw [h.1.1]
  have ci : 0 ≤ nI c ∧ nI c < nI (xn X) := ⟨nI_pos' (by omega), (nlt (by omega) (by omega)).mpr hc⟩
  exact ⟨fun z => absurd ci z, fun _ => ⟨fun _ => lX5_period w c X h.2.2.1 hc h.1 29 2 _ _ (by omega) (by omega) QC.rs (RepBs.rs (N := 301)) (Nat.le_refl _), fun z => absurd hw z⟩⟩

set_option maxRecDepth 100000 in
theorem sX5_kind_0 {G : GX} {d : Nat} {mem : Mem} {Φ : Option Value → Mem → Prop} (a1 a2 : Int32) (h : ((¬ (0 ≤ a1 ∧ a1 < mem 1 4) → Φ (some (.int (-1))) mem) ∧ ((0 ≤ a1 ∧ a1 < mem 1 4) → (((0 ≤ a2 ∧ a2 ≤ 1) → Go G (d + 6) mX5_kind 31 [(0, .ref 0), (1, .int a1), (2, .int a2), (3, .int 0)] [] (rsM mem 300) Φ) ∧ (¬ (0 ≤ a2 ∧ a2 ≤ 1) → Φ (some (.int (-1))) mem))))) : Go G (d + 6) mX5_kind 0 [(0, .ref 0), (1, .int a1), (2, .int a2)] [] mem Φ := by
  refine go_aload_n dX5_kind_0 0 rfl ?_
  refine go_iload_n dX5_kind_1 1 rfl ?_
  refine go_callV (st := []) (kX5_isClock (d + 5) a1) rfl rfl okX5_isClock insX5_isClock selX5_isClock lkX5_123 rfl rfl (Nat.le_of_ble_eq_true rfl) dX5_kind_2 (fun v_ m2_ q => ?_)
  rw [q.1, q.2]
  refine go_stk (st2 := [.int (bI (0 ≤ a1 ∧ a1 < mem 1 4))]) rfl ?_
  refine go_if_eq 17 dX5_kind_5 (by decide) (fun q => ?_) (fun q => ?_)
  · have h := h.1 (bI0.mp q)
    refine go_iconst (v := (-1)) dX5_kind_17 (by decide) ?_
    exact go_iret rfl dX5_kind_18 h
  · have h := h.2 (bI1.mp q)
    refine go_iload_n dX5_kind_8 2 rfl ?_
    refine go_iconst (v := 0) dX5_kind_9 (by decide) ?_
    refine go_iconst (v := 1) dX5_kind_10 (by decide) ?_
    refine go_callS (st := []) (kX5_isWithin (d + 5) a2 0 1) okX5_isWithin staX5_isWithin lkX5_59 rfl rfl (Nat.le_of_ble_eq_true rfl) dX5_kind_11 (fun v_ m2_ q => ?_)
    rw [q.1, q.2]
    refine go_stk (st2 := [.int (bI (0 ≤ a2 ∧ a2 ≤ 1))]) rfl ?_
    refine go_if_ne 19 dX5_kind_14 (by decide) (fun q => ?_) (fun q => ?_)
    · have h := h.1 (bI1.mp q)
      refine go_aload_n dX5_kind_19 0 rfl ?_
      refine go_getR (kf := 7) (t := 30) rfl rfl rfl uwX5 (by decide) flX5_50 dX5_kind_20 ?_
      refine go_sipush (v := 300) dX5_kind_23 (by decide) ?_
      refine go_callV (st := []) (kX1_restart (d + 5) 300) rfl rfl okX1_restart insX1_restart selX1_restart lkX5_182 rfl rfl (Nat.le_of_ble_eq_true rfl) dX5_kind_26 (fun v_ m2_ q => ?_)
      rw [q.1, q.2]
      refine go_stk (st2 := []) rfl ?_
      refine go_iconst (v := 0) dX5_kind_29 (by decide) ?_
      refine go_istore_n (L2 := [(3, .int 0), (0, .ref 0), (1, .int a1), (2, .int a2)]) dX5_kind_30 (by decide) rfl ?_
      exact Go.pick [1, 2, 3, 0] rfl h
    · have h := h.2 (bI0.mp q)
      refine go_iconst (v := (-1)) dX5_kind_17 (by decide) ?_
      exact go_iret rfl dX5_kind_18 h

set_option maxRecDepth 100000 in
theorem sX5_kind_31 {G : GX} {d : Nat} {mem : Mem} {Φ : Option Value → Mem → Prop} (a1 a2 : Int32) (c v : Nat) (X : Bm) (s : Option Nat × Nat) (h : ((3 < (nI v) → Φ (some (.int (if a2 = 0 then mem 30 0 else mem 30 1))) mem) ∧ (¬ 3 < (nI v) → (a1 = nI c ∧ (nI v) = nI v) ∧ (c < 5) ∧ (xn X ≤ 5) ∧ (RepB mem 1 X) ∧ ∀ m5 : Mem, (RepB m5 6 (stK X c v) ∧ FrB 6 mem m5) → ((nI v) = nI v) ∧ (s.2 < 1000000) ∧ (VX 9 30 (stK X c v)) ∧ (RepB m5 6 (stK X c v)) ∧ (RepBs m5 s) ∧ (6 ≤ 25) ∧ ∀ m12 : Mem, (RepBs m12 (bst (fun t => togX 9 (itX 9 nof (stK X c v) t)) v s) ∧ ∀ k, (k < 6 ∨ 6 + 4 < k) → k ≠ 30 → m12 k = m5 k) → Go G (d + 6) mX5_kind 31 [(0, .ref 0), (1, .int a1), (2, .int a2), (3, .int ((nI v) + 1))] [] m12 Φ))) : Go G (d + 6) mX5_kind 31 [(0, .ref 0), (1, .int a1), (2, .int a2), (3, .int (nI v))] [] mem Φ := by
  refine go_iload_n dX5_kind_31 3 rfl ?_
  refine go_iconst (v := 3) dX5_kind_32 (by decide) ?_
  refine go_icmp_gt 56 dX5_kind_33 (by decide) (fun q => ?_) (fun q => ?_)
  · have h := h.1 q
    refine go_aload_n dX5_kind_56 0 rfl ?_
    refine go_getR (kf := 7) (t := 30) rfl rfl rfl uwX5 (by decide) flX5_50 dX5_kind_57 ?_
    refine go_iload_n dX5_kind_60 2 rfl ?_
    refine go_callV (st := []) (kX1_answer (d + 5) a2) rfl rfl okX1_answer insX1_answer selX1_answer lkX5_194 rfl rfl (Nat.le_of_ble_eq_true rfl) dX5_kind_61 (fun v_ m2_ q => ?_)
    rw [q.1, q.2]
    refine go_stk (st2 := [.int (if a2 = 0 then mem 30 0 else mem 30 1)]) rfl ?_
    exact go_iret rfl dX5_kind_64 h
  · have h := h.2 q
    refine go_aload_n dX5_kind_36 0 rfl ?_
    refine go_getR (kf := 7) (t := 30) rfl rfl rfl uwX5 (by decide) flX5_50 dX5_kind_37 ?_
    refine go_iload_n dX5_kind_40 3 rfl ?_
    refine go_aload_n dX5_kind_41 0 rfl ?_
    refine go_iload_n dX5_kind_42 1 rfl ?_
    refine go_iload_n dX5_kind_43 3 rfl ?_
    obtain ⟨c1, h⟩ := h
    obtain ⟨c2, h⟩ := h
    obtain ⟨c3, h⟩ := h
    obtain ⟨c4, h⟩ := h
    refine go_callV (st := [.int (nI v), .ref 30]) (kX5_tryKind (d + 2) a1 (nI v) c v X c1 c2 c3 c4) rfl rfl okX5_tryKind insX5_tryKind selX5_tryKind lkX5_200 rfl rfl (Nat.le_of_ble_eq_true rfl) dX5_kind_44 (fun v_ m5 q => ?_)
    rw [q.1]
    have h := h m5 q.2
    refine go_stk (st2 := [.ref 6, .int (nI v), .ref 30]) rfl ?_
    obtain ⟨c6, h⟩ := h
    obtain ⟨c7, h⟩ := h
    obtain ⟨c8, h⟩ := h
    obtain ⟨c9, h⟩ := h
    obtain ⟨c10, h⟩ := h
    obtain ⟨c11, h⟩ := h
    refine go_callV (st := []) (kX1_offer (d + 0) (nI v) v 6 bA6 (stK X c v) s c6 c7 c8 c9 c10 c11) rfl rfl okX1_offer insX1_offer selX1_offer lkX5_190 rfl rfl (Nat.le_of_ble_eq_true rfl) dX5_kind_47 (fun v_ m12 q => ?_)
    rw [q.1]
    have h := h m12 q.2
    refine go_stk (st2 := []) rfl ?_
    refine go_iinc (v := ((nI v) + 1)) (L2 := [(3, .int ((nI v) + 1)), (0, .ref 0), (1, .int a1), (2, .int a2)]) dX5_kind_50 3 rfl rfl (by decide) rfl ?_
    refine go_goto 31 dX5_kind_53 (by decide) ?_
    exact Go.pick [1, 2, 3, 0] rfl h


theorem lX5_kind {G : GX} {d : Nat} {mem0 : Mem} (w : Int32) (c : Nat) (X : Bm) (hV : VX 9 30 X) (hc : c < xn X) (hR : RepB mem0 1 X) : ∀ (r v : Nat) (m : Mem) (s : Bs), v + r = 4 → 0 ≤ v → QC mem0 m → RepBs m s → s.2 ≤ 301 → Go G (d + 6) mX5_kind 31 [(0, .ref 0), (1, .int (nI c)), (2, .int w), (3, .int (nI v))] [] m (Ri (bsA (bsF (fun v t => togX 9 (itX 9 nof (stK X c v) t)) r v s) w) (QC mem0)) := by
  intro r
  have hn := hV.1
  obtain ⟨q1, q2, q3, q4, _⟩ := hV.2.2 c hc
  have q4 := q4 (by omega)
  induction r with
  | zero =>
    intro v m s hv hl h1 h2 h3
    have ep : m 3 c = nI (xp X c) := by rw [h1 3 (by omega) (by omega) (by omega)]; exact (hR.2.2.2 c hc).2.1
    refine sX5_kind_31 (nI c) w c v X s ⟨fun _ => Ri.mk ?_ h1, fun z => ?_⟩
    · show _ = bsA s w
      unfold bsA
      rw [h2.1, h2.2.1]
    · exact absurd ((nlt (a := 3) (by omega) (by omega)).mpr (by omega)) z
  | succ r ih =>
    intro v m s hv hl h1 h2 h3
    have ep : m 3 c = nI (xp X c) := by rw [h1 3 (by omega) (by omega) (by omega)]; exact (hR.2.2.2 c hc).2.1
    have hR1 : RepB m 1 X := hR.fr (fun j a b => h1 j (by omega) (by omega) (by omega))
    refine sX5_kind_31 (nI c) w c v X s ⟨fun z => ?_, fun _ => ⟨⟨rfl, rfl⟩, by omega, hn, hR1, fun m7 h7 => ⟨rfl, by omega, VX_k hV (by omega), h7.1, h2.fr (h7.2 30 (by omega)), by omega, fun m13 h13 => ?_⟩⟩⟩
    · exact absurd ((nlt (a := 3) (by omega) (by omega)).mp z) (by omega)
    · rw [nI_1]
      exact ih (v + 1) m13 _ (by omega) (by omega) ((h1.of6 h7.2).bs h13.2) h13.1 (Nat.le_trans bst_le h3)


theorem kX5_kindN {G : GX} (d : Nat) {mem : Mem} (a w : Int32) (X : Bm) (h : C1 mem X) (hb : ¬ isC X a ∨ ¬ (0 ≤ w ∧ w ≤ 1)) : Cn G (d + 6) mX5_kind [.ref 0, .int a, .int w] mem (Ri (-1) (QC mem)) := by
  refine cn_of (by decide +kernel) (Nat.le_of_ble_eq_true rfl) (sX5_kind_0 a w ?_)
  rw [h.1.1]
  rcases hb with hb | hb
  · exact ⟨fun _ => Ri.mk rfl QC.rf, fun z => absurd z hb⟩
  · exact ⟨fun _ => Ri.mk rfl QC.rf, fun _ => ⟨fun z => absurd z hb, fun _ => Ri.mk rfl QC.rf⟩⟩
theorem kX5_kind {G : GX} (d : Nat) {mem : Mem} (c : Nat) (w : Int32) (X : Bm) (h : C1 mem X) (hc : c < xn X) (hw : 0 ≤ w ∧ w ≤ 1) : Cn G (d + 6) mX5_kind [.ref 0, .int (nI c), .int w] mem (Ri (bsA (bsF (fun v t => togX 9 (itX 9 nof (stK X c v) t)) 4 0 (none, 301)) w) (QC mem)) := by
  have hn := h.2.2.1.1
  refine cn_of (by decide +kernel) (Nat.le_of_ble_eq_true rfl) (sX5_kind_0 (nI c) w ?_)
  rw [h.1.1]
  have ci : 0 ≤ nI c ∧ nI c < nI (xn X) := ⟨nI_pos' (by omega), (nlt (by omega) (by omega)).mpr hc⟩
  exact ⟨fun z => absurd ci z, fun _ => ⟨fun _ => lX5_kind w c X h.2.2.1 hc h.1 4 0 _ _ (by omega) (by omega) QC.rs (RepBs.rs (N := 301)) (Nat.le_refl _), fun z => absurd hw z⟩⟩

set_option maxRecDepth 100000 in
theorem sX5_hand_0 {G : GX} {d : Nat} {mem : Mem} {Φ : Option Value → Mem → Prop} (a1 a2 : Int32) (h : ((¬ (0 ≤ a1 ∧ a1 < mem 1 4) → Φ (some (.int (-1))) mem) ∧ ((0 ≤ a1 ∧ a1 < mem 1 4) → (((0 ≤ a2 ∧ a2 ≤ 1) → Go G (d + 6) mX5_hand 31 [(0, .ref 0), (1, .int a1), (2, .int a2), (3, .int 0)] [] (rsM mem 300) Φ) ∧ (¬ (0 ≤ a2 ∧ a2 ≤ 1) → Φ (some (.int (-1))) mem))))) : Go G (d + 6) mX5_hand 0 [(0, .ref 0), (1, .int a1), (2, .int a2)] [] mem Φ := by
  refine go_aload_n dX5_hand_0 0 rfl ?_
  refine go_iload_n dX5_hand_1 1 rfl ?_
  refine go_callV (st := []) (kX5_isClock (d + 5) a1) rfl rfl okX5_isClock insX5_isClock selX5_isClock lkX5_123 rfl rfl (Nat.le_of_ble_eq_true rfl) dX5_hand_2 (fun v_ m2_ q => ?_)
  rw [q.1, q.2]
  refine go_stk (st2 := [.int (bI (0 ≤ a1 ∧ a1 < mem 1 4))]) rfl ?_
  refine go_if_eq 17 dX5_hand_5 (by decide) (fun q => ?_) (fun q => ?_)
  · have h := h.1 (bI0.mp q)
    refine go_iconst (v := (-1)) dX5_hand_17 (by decide) ?_
    exact go_iret rfl dX5_hand_18 h
  · have h := h.2 (bI1.mp q)
    refine go_iload_n dX5_hand_8 2 rfl ?_
    refine go_iconst (v := 0) dX5_hand_9 (by decide) ?_
    refine go_iconst (v := 1) dX5_hand_10 (by decide) ?_
    refine go_callS (st := []) (kX5_isWithin (d + 5) a2 0 1) okX5_isWithin staX5_isWithin lkX5_59 rfl rfl (Nat.le_of_ble_eq_true rfl) dX5_hand_11 (fun v_ m2_ q => ?_)
    rw [q.1, q.2]
    refine go_stk (st2 := [.int (bI (0 ≤ a2 ∧ a2 ≤ 1))]) rfl ?_
    refine go_if_ne 19 dX5_hand_14 (by decide) (fun q => ?_) (fun q => ?_)
    · have h := h.1 (bI1.mp q)
      refine go_aload_n dX5_hand_19 0 rfl ?_
      refine go_getR (kf := 7) (t := 30) rfl rfl rfl uwX5 (by decide) flX5_50 dX5_hand_20 ?_
      refine go_sipush (v := 300) dX5_hand_23 (by decide) ?_
      refine go_callV (st := []) (kX1_restart (d + 5) 300) rfl rfl okX1_restart insX1_restart selX1_restart lkX5_182 rfl rfl (Nat.le_of_ble_eq_true rfl) dX5_hand_26 (fun v_ m2_ q => ?_)
      rw [q.1, q.2]
      refine go_stk (st2 := []) rfl ?_
      refine go_iconst (v := 0) dX5_hand_29 (by decide) ?_
      refine go_istore_n (L2 := [(3, .int 0), (0, .ref 0), (1, .int a1), (2, .int a2)]) dX5_hand_30 (by decide) rfl ?_
      exact Go.pick [1, 2, 3, 0] rfl h
    · have h := h.2 (bI0.mp q)
      refine go_iconst (v := (-1)) dX5_hand_17 (by decide) ?_
      exact go_iret rfl dX5_hand_18 h

set_option maxRecDepth 100000 in
theorem sX5_hand_31 {G : GX} {d : Nat} {mem : Mem} {Φ : Option Value → Mem → Prop} (a1 a2 : Int32) (c v : Nat) (X : Bm) (s : Option Nat × Nat) (h : (vp_in a1 5) ∧ (((mem 3 (a1 : Int32).toNatClampNeg) ≤ (nI v) → Φ (some (.int (if a2 = 0 then mem 30 0 else mem 30 1))) mem) ∧ (¬ (mem 3 (a1 : Int32).toNatClampNeg) ≤ (nI v) → (a1 = nI c ∧ (nI v) = nI v) ∧ (c < 5) ∧ (xn X ≤ 5) ∧ (RepB mem 1 X) ∧ ∀ m6 : Mem, (RepB m6 6 (stH X c v) ∧ FrB 6 mem m6) → ((nI v) = nI v) ∧ (s.2 < 1000000) ∧ (VX 9 30 (stH X c v)) ∧ (RepB m6 6 (stH X c v)) ∧ (RepBs m6 s) ∧ (6 ≤ 25) ∧ ∀ m13 : Mem, (RepBs m13 (bst (fun t => togX 9 (itX 9 nof (stH X c v) t)) v s) ∧ ∀ k, (k < 6 ∨ 6 + 4 < k) → k ≠ 30 → m13 k = m6 k) → Go G (d + 6) mX5_hand 31 [(0, .ref 0), (1, .int a1), (2, .int a2), (3, .int ((nI v) + 1))] [] m13 Φ))) : Go G (d + 6) mX5_hand 31 [(0, .ref 0), (1, .int a1), (2, .int a2), (3, .int (nI v))] [] mem Φ := by
  refine go_iload_n dX5_hand_31 3 rfl ?_
  refine go_aload_n dX5_hand_32 0 rfl ?_
  refine go_getR (kf := 0) (t := 1) rfl rfl rfl uwX5 (by decide) flX5_12 dX5_hand_33 ?_
  refine go_getR (kf := 1) (t := 3) rfl rfl rfl uwX0 (by decide) flX5_130 dX5_hand_36 ?_
  refine go_iload_n dX5_hand_39 1 rfl ?_
  obtain ⟨c1, h⟩ := h
  refine go_iaload rfl c1 dX5_hand_40 ?_
  refine go_icmp_ge 64 dX5_hand_41 (by decide) (fun q => ?_) (fun q => ?_)
  · have h := h.1 q
    refine go_aload_n dX5_hand_64 0 rfl ?_
    refine go_getR (kf := 7) (t := 30) rfl rfl rfl uwX5 (by decide) flX5_50 dX5_hand_65 ?_
    refine go_iload_n dX5_hand_68 2 rfl ?_
    refine go_callV (st := []) (kX1_answer (d + 5) a2) rfl rfl okX1_answer insX1_answer selX1_answer lkX5_194 rfl rfl (Nat.le_of_ble_eq_true rfl) dX5_hand_69 (fun v_ m2_ q => ?_)
    rw [q.1, q.2]
    refine go_stk (st2 := [.int (if a2 = 0 then mem 30 0 else mem 30 1)]) rfl ?_
    exact go_iret rfl dX5_hand_72 h
  · have h := h.2 q
    refine go_aload_n dX5_hand_44 0 rfl ?_
    refine go_getR (kf := 7) (t := 30) rfl rfl rfl uwX5 (by decide) flX5_50 dX5_hand_45 ?_
    refine go_iload_n dX5_hand_48 3 rfl ?_
    refine go_aload_n dX5_hand_49 0 rfl ?_
    refine go_iload_n dX5_hand_50 1 rfl ?_
    refine go_iload_n dX5_hand_51 3 rfl ?_
    obtain ⟨c2, h⟩ := h
    obtain ⟨c3, h⟩ := h
    obtain ⟨c4, h⟩ := h
    obtain ⟨c5, h⟩ := h
    refine go_callV (st := [.int (nI v), .ref 30]) (kX5_tryHand (d + 2) a1 (nI v) c v X c2 c3 c4 c5) rfl rfl okX5_tryHand insX5_tryHand selX5_tryHand lkX5_197 rfl rfl (Nat.le_of_ble_eq_true rfl) dX5_hand_52 (fun v_ m6 q => ?_)
    rw [q.1]
    have h := h m6 q.2
    refine go_stk (st2 := [.ref 6, .int (nI v), .ref 30]) rfl ?_
    obtain ⟨c7, h⟩ := h
    obtain ⟨c8, h⟩ := h
    obtain ⟨c9, h⟩ := h
    obtain ⟨c10, h⟩ := h
    obtain ⟨c11, h⟩ := h
    obtain ⟨c12, h⟩ := h
    refine go_callV (st := []) (kX1_offer (d + 0) (nI v) v 6 bA6 (stH X c v) s c7 c8 c9 c10 c11 c12) rfl rfl okX1_offer insX1_offer selX1_offer lkX5_190 rfl rfl (Nat.le_of_ble_eq_true rfl) dX5_hand_55 (fun v_ m13 q => ?_)
    rw [q.1]
    have h := h m13 q.2
    refine go_stk (st2 := []) rfl ?_
    refine go_iinc (v := ((nI v) + 1)) (L2 := [(3, .int ((nI v) + 1)), (0, .ref 0), (1, .int a1), (2, .int a2)]) dX5_hand_58 3 rfl rfl (by decide) rfl ?_
    refine go_goto 31 dX5_hand_61 (by decide) ?_
    exact Go.pick [1, 2, 3, 0] rfl h


theorem lX5_hand {G : GX} {d : Nat} {mem0 : Mem} (w : Int32) (c : Nat) (X : Bm) (hV : VX 9 30 X) (hc : c < xn X) (hR : RepB mem0 1 X) : ∀ (r v : Nat) (m : Mem) (s : Bs), v + r = xp X c → 0 ≤ v → QC mem0 m → RepBs m s → s.2 ≤ 301 → Go G (d + 6) mX5_hand 31 [(0, .ref 0), (1, .int (nI c)), (2, .int w), (3, .int (nI v))] [] m (Ri (bsA (bsF (fun v t => togX 9 (itX 9 nof (stH X c v) t)) r v s) w) (QC mem0)) := by
  intro r
  have hn := hV.1
  obtain ⟨q1, q2, q3, q4, _⟩ := hV.2.2 c hc
  have q4 := q4 (by omega)
  induction r with
  | zero =>
    intro v m s hv hl h1 h2 h3
    have ep : m 3 c = nI (xp X c) := by rw [h1 3 (by omega) (by omega) (by omega)]; exact (hR.2.2.2 c hc).2.1
    refine sX5_hand_31 (nI c) w c v X s ⟨nin (by omega) (by omega), ⟨fun _ => Ri.mk ?_ h1, fun z => ?_⟩⟩
    · show _ = bsA s w
      unfold bsA
      rw [h2.1, h2.2.1]
    · rw [ncl (show c < 2000000000 by omega), ep] at z; exact absurd ((nle (a := xp X c) (by omega) (by omega)).mpr (by omega)) z
  | succ r ih =>
    intro v m s hv hl h1 h2 h3
    have ep : m 3 c = nI (xp X c) := by rw [h1 3 (by omega) (by omega) (by omega)]; exact (hR.2.2.2 c hc).2.1
    have hR1 : RepB m 1 X := hR.fr (fun j a b => h1 j (by omega) (by omega) (by omega))
    refine sX5_hand_31 (nI c) w c v X s ⟨nin (by omega) (by omega), ⟨fun z => ?_, fun _ => ⟨⟨rfl, rfl⟩, by omega, hn, hR1, fun m7 h7 => ⟨rfl, by omega, VX_h hV (fun _ => by omega), h7.1, h2.fr (h7.2 30 (by omega)), by omega, fun m13 h13 => ?_⟩⟩⟩⟩
    · rw [ncl (show c < 2000000000 by omega), ep] at z; exact absurd ((nle (a := xp X c) (by omega) (by omega)).mp z) (by omega)
    · rw [nI_1]
      exact ih (v + 1) m13 _ (by omega) (by omega) ((h1.of6 h7.2).bs h13.2) h13.1 (Nat.le_trans bst_le h3)


theorem kX5_handN {G : GX} (d : Nat) {mem : Mem} (a w : Int32) (X : Bm) (h : C1 mem X) (hb : ¬ isC X a ∨ ¬ (0 ≤ w ∧ w ≤ 1)) : Cn G (d + 6) mX5_hand [.ref 0, .int a, .int w] mem (Ri (-1) (QC mem)) := by
  refine cn_of (by decide +kernel) (Nat.le_of_ble_eq_true rfl) (sX5_hand_0 a w ?_)
  rw [h.1.1]
  rcases hb with hb | hb
  · exact ⟨fun _ => Ri.mk rfl QC.rf, fun z => absurd z hb⟩
  · exact ⟨fun _ => Ri.mk rfl QC.rf, fun _ => ⟨fun z => absurd z hb, fun _ => Ri.mk rfl QC.rf⟩⟩
theorem kX5_hand {G : GX} (d : Nat) {mem : Mem} (c : Nat) (w : Int32) (X : Bm) (h : C1 mem X) (hc : c < xn X) (hw : 0 ≤ w ∧ w ≤ 1) : Cn G (d + 6) mX5_hand [.ref 0, .int (nI c), .int w] mem (Ri (bsA (bsF (fun v t => togX 9 (itX 9 nof (stH X c v) t)) (xp X c) 0 (none, 301)) w) (QC mem)) := by
  have hn := h.2.2.1.1
  refine cn_of (by decide +kernel) (Nat.le_of_ble_eq_true rfl) (sX5_hand_0 (nI c) w ?_)
  rw [h.1.1]
  have ci : 0 ≤ nI c ∧ nI c < nI (xn X) := ⟨nI_pos' (by omega), (nlt (by omega) (by omega)).mpr hc⟩
  exact ⟨fun z => absurd ci z, fun _ => ⟨fun _ => lX5_hand w c X h.2.2.1 hc h.1 (xp X c) 0 _ _ (by omega) (by omega) QC.rs (RepBs.rs (N := 301)) (Nat.le_refl _), fun z => absurd hw z⟩⟩

set_option maxRecDepth 100000 in
theorem sX5_force_0 {G : GX} {d : Nat} {mem : Mem} {Φ : Option Value → Mem → Prop} (a1 : Int32) (h : (((0 ≤ a1 ∧ a1 ≤ 1) → Go G (d + 6) mX5_force 23 [(0, .ref 0), (1, .int a1), (2, .int 0)] [] (rsM mem 300) Φ) ∧ (¬ (0 ≤ a1 ∧ a1 ≤ 1) → Φ (some (.int (-1))) mem))) : Go G (d + 6) mX5_force 0 [(0, .ref 0), (1, .int a1)] [] mem Φ := by
  refine go_iload_n dX5_force_0 1 rfl ?_
  refine go_iconst (v := 0) dX5_force_1 (by decide) ?_
  refine go_iconst (v := 1) dX5_force_2 (by decide) ?_
  refine go_callS (st := []) (kX5_isWithin (d + 5) a1 0 1) okX5_isWithin staX5_isWithin lkX5_59 rfl rfl (Nat.le_of_ble_eq_true rfl) dX5_force_3 (fun v_ m2_ q => ?_)
  rw [q.1, q.2]
  refine go_stk (st2 := [.int (bI (0 ≤ a1 ∧ a1 ≤ 1))]) rfl ?_
  refine go_if_ne 11 dX5_force_6 (by decide) (fun q => ?_) (fun q => ?_)
  · have h := h.1 (bI1.mp q)
    refine go_aload_n dX5_force_11 0 rfl ?_
    refine go_getR (kf := 7) (t := 30) rfl rfl rfl uwX5 (by decide) flX5_50 dX5_force_12 ?_
    refine go_sipush (v := 300) dX5_force_15 (by decide) ?_
    refine go_callV (st := []) (kX1_restart (d + 5) 300) rfl rfl okX1_restart insX1_restart selX1_restart lkX5_182 rfl rfl (Nat.le_of_ble_eq_true rfl) dX5_force_18 (fun v_ m2_ q => ?_)
    rw [q.1, q.2]
    refine go_stk (st2 := []) rfl ?_
    refine go_iconst (v := 0) dX5_force_21 (by decide) ?_
    refine go_istore_n (L2 := [(2, .int 0), (0, .ref 0), (1, .int a1)]) dX5_force_22 (by decide) rfl ?_
    exact Go.pick [1, 2, 0] rfl h
  · have h := h.2 (bI0.mp q)
    refine go_iconst (v := (-1)) dX5_force_9 (by decide) ?_
    exact go_iret rfl dX5_force_10 h

set_option maxRecDepth 100000 in
theorem sX5_force_23 {G : GX} {d : Nat} {mem : Mem} {Φ : Option Value → Mem → Prop} (a1 : Int32) (v : Nat) (X : Bm) (s : Option Nat × Nat) (h : ((5 < (nI v) → Φ (some (.int (if a1 = 0 then mem 30 0 else mem 30 1))) mem) ∧ (¬ 5 < (nI v) → (xn X ≤ 5) ∧ (RepB mem 1 X) ∧ ∀ m3 : Mem, (RepB m3 6 X ∧ FrB 6 mem m3) → ((nI v) = nI v) ∧ (s.2 < 1000000) ∧ (VX 9 30 (stU X v)) ∧ (RepB (um m3 6 5 (nI v)) 6 (stU X v)) ∧ (RepBs (um m3 6 5 (nI v)) s) ∧ (6 ≤ 25) ∧ ∀ m10 : Mem, (RepBs m10 (bst (fun t => togX 9 (itX 9 nof (stU X v) t)) v s) ∧ ∀ k, (k < 6 ∨ 6 + 4 < k) → k ≠ 30 → m10 k = (um m3 6 5 (nI v)) k) → Go G (d + 6) mX5_force 23 [(0, .ref 0), (1, .int a1), (2, .int ((nI v) + 1))] [] m10 Φ))) : Go G (d + 6) mX5_force 23 [(0, .ref 0), (1, .int a1), (2, .int (nI v))] [] mem Φ := by
  refine go_iload_n dX5_force_23 2 rfl ?_
  refine go_iconst (v := 5) dX5_force_24 (by decide) ?_
  refine go_icmp_gt 54 dX5_force_25 (by decide) (fun q => ?_) (fun q => ?_)
  · have h := h.1 q
    refine go_aload_n dX5_force_54 0 rfl ?_
    refine go_getR (kf := 7) (t := 30) rfl rfl rfl uwX5 (by decide) flX5_50 dX5_force_55 ?_
    refine go_iload_n dX5_force_58 1 rfl ?_
    refine go_callV (st := []) (kX1_answer (d + 5) a1) rfl rfl okX1_answer insX1_answer selX1_answer lkX5_194 rfl rfl (Nat.le_of_ble_eq_true rfl) dX5_force_59 (fun v_ m2_ q => ?_)
    rw [q.1, q.2]
    refine go_stk (st2 := [.int (if a1 = 0 then mem 30 0 else mem 30 1)]) rfl ?_
    exact go_iret rfl dX5_force_62 h
  · have h := h.2 q
    refine go_aload_n dX5_force_28 0 rfl ?_
    obtain ⟨c1, h⟩ := h
    obtain ⟨c2, h⟩ := h
    refine go_callV (st := []) (kX5_tryNow (d + 3) X c1 c2) rfl rfl okX5_tryNow insX5_tryNow selX5_tryNow lkX5_112 rfl rfl (Nat.le_of_ble_eq_true rfl) dX5_force_29 (fun v_ m3 q => ?_)
    rw [q.1]
    have h := h m3 q.2
    refine go_stk (st2 := [.ref 6]) rfl ?_
    refine go_iload_n dX5_force_32 2 rfl ?_
    refine go_putI (kf := 5) rfl rfl rfl uwX0 tyX0_ok nmX0 (by decide) rfl flX5_99 rfl rfl dX5_force_33 ?_
    refine go_aload_n dX5_force_36 0 rfl ?_
    refine go_getR (kf := 7) (t := 30) rfl rfl rfl uwX5 (by decide) flX5_50 dX5_force_37 ?_
    refine go_iload_n dX5_force_40 2 rfl ?_
    refine go_aload_n dX5_force_41 0 rfl ?_
    refine go_getR (kf := 1) (t := 6) rfl rfl rfl uwX5 (by decide) flX5_16 dX5_force_42 ?_
    obtain ⟨c4, h⟩ := h
    obtain ⟨c5, h⟩ := h
    obtain ⟨c6, h⟩ := h
    obtain ⟨c7, h⟩ := h
    obtain ⟨c8, h⟩ := h
    obtain ⟨c9, h⟩ := h
    refine go_callV (st := []) (kX1_offer (d + 0) (nI v) v 6 bA6 (stU X v) s c4 c5 c6 c7 c8 c9) rfl rfl okX1_offer insX1_offer selX1_offer lkX5_190 rfl rfl (Nat.le_of_ble_eq_true rfl) dX5_force_45 (fun v_ m10 q => ?_)
    rw [q.1]
    have h := h m10 q.2
    refine go_stk (st2 := []) rfl ?_
    refine go_iinc (v := ((nI v) + 1)) (L2 := [(2, .int ((nI v) + 1)), (0, .ref 0), (1, .int a1)]) dX5_force_48 2 rfl rfl (by decide) rfl ?_
    refine go_goto 23 dX5_force_51 (by decide) ?_
    exact Go.pick [1, 2, 0] rfl h


theorem lX5_force {G : GX} {d : Nat} {mem0 : Mem} (w : Int32) (X : Bm) (hV : VX 9 30 X) (hR : RepB mem0 1 X) : ∀ (r v : Nat) (m : Mem) (s : Bs), v + r = 6 → QC mem0 m → RepBs m s → s.2 ≤ 301 → Go G (d + 6) mX5_force 23 [(0, .ref 0), (1, .int w), (2, .int (nI v))] [] m (Ri (bsA (bsF (fun v t => togX 9 (itX 9 nof (stU X v) t)) r v s) w) (QC mem0)) := by
  intro r
  have hn := hV.1
  induction r with
  | zero =>
    intro v m s hv h1 h2 h3
    refine sX5_force_23 w v X s ⟨fun _ => Ri.mk ?_ h1, fun z => ?_⟩
    · show _ = bsA s w
      unfold bsA
      rw [h2.1, h2.2.1]
    · exact absurd ((nlt (a := 5) (by omega) (by omega)).mpr (by omega)) z
  | succ r ih =>
    intro v m s hv h1 h2 h3
    have hR1 : RepB m 1 X := hR.fr (fun j a b => h1 j (by omega) (by omega) (by omega))
    refine sX5_force_23 w v X s ⟨fun z => ?_, fun _ => ⟨hn, hR1, fun m3 h3' => ⟨rfl, by omega, ⟨hn, by show v ≤ 5; omega, hV.2.2⟩, ?_, ?_, by omega, fun m9 h9 => ?_⟩⟩⟩
    · exact absurd ((nlt (a := 5) (by omega) (by omega)).mp z) (by omega)
    · obtain ⟨a1, a2, a3, a4⟩ := h3'.1
      exact ⟨by rw [um_at, if_neg (by decide)]; exact a1, um_same, by rw [um_at, if_neg (by decide)]; exact a3, fun c hc => by
        rw [um_ne (by decide), um_ne (by decide), um_ne (by decide), um_ne (by decide)]; exact a4 c hc⟩
    · exact h2.fr (by rw [um_ne (by decide), h3'.2 30 (by omega)])
    · rw [nI_1]
      refine ih (v + 1) m9 _ (by omega) ?_ h9.1 (Nat.le_trans bst_le h3)
      exact (h1.of6 h3'.2).bs (fun k hk h30 => by rw [h9.2 k hk h30, um_ne (by omega)])
theorem kX5_force {G : GX} (d : Nat) {mem : Mem} (w : Int32) (X : Bm) (h : C1 mem X) (hw : 0 ≤ w ∧ w ≤ 1) : Cn G (d + 6) mX5_force [.ref 0, .int w] mem (Ri (bsA (bsF (fun v t => togX 9 (itX 9 nof (stU X v) t)) 6 0 (none, 301)) w) (QC mem)) :=
  cn_of (by decide +kernel) (Nat.le_of_ble_eq_true rfl) (sX5_force_0 w ⟨fun _ => lX5_force w X h.2.2.1 h.1 6 0 _ _ (by omega) QC.rs (RepBs.rs (N := 301)) (Nat.le_refl _), fun z => absurd hw z⟩)
theorem kX5_forceN {G : GX} (d : Nat) {mem : Mem} (w : Int32) (hw : ¬ (0 ≤ w ∧ w ≤ 1)) : Cn G (d + 6) mX5_force [.ref 0, .int w] mem (Ri (-1) (QC mem)) :=
  cn_of (by decide +kernel) (Nat.le_of_ble_eq_true rfl) (sX5_force_0 w ⟨fun z => absurd z hw, fun _ => Ri.mk rfl QC.rf⟩)
