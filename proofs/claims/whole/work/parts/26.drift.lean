
theorem lX6_again28 {G : GX} {d : Nat} {Φ : Option Value → Mem → Prop} (k : Nat) {m : Mem} {X Y : Bm} (hn : xn X ≤ 5) (hM : RepM m 0 X) (hY : RepM m 92 Y) (en : xn Y = xn X) (bx : ∀ c, c < xn X → xh X c < 1000000) (bY : ∀ c, c < xn X → xh Y c < 1000000) (h0 : ¬ (∀ c, c < xn X → xh Y c = xh X c) → Go G (d + 3) mX6_again 9 [(0, .ref 40), (1, .int (nI k + 1))] [] m Φ) (h1 : (∀ c, c < xn X → xh Y c = xh X c) → Φ (some (.int (nI k))) m) :
    ∀ (r i : Nat) (sm : Bool), i + r = xn X → (sm = true ↔ ∀ j, j < i → xh Y j = xh X j) → Go G (d + 3) mX6_again 28 [(0, .ref 40), (1, .int (nI k)), (2, .int (bI (sm = true))), (3, .int (nI i))] [] m Φ := by
  intro r
  obtain ⟨r1, r2, r3, r4⟩ := RepM0 hM
  induction r with
  | zero =>
    intro i sm hi hs
    have hi2 : i = xn X := by omega
    refine sX6_again_28 k sm i ?_
    rw [z20, r1, hi2]
    rw [hi2] at hs
    exact ⟨fun _ => ⟨fun q => h0 (fun z => q (hs.mpr z)), fun q => h1 (hs.mp q)⟩, fun q => absurd (Int32.le_refl _) q⟩
  | succ r ih =>
    intro i sm hi hs
    have hin : i < xn X := by omega
    have b1 := bx i hin
    have b2 := bY i hin
    refine sX6_again_28 k sm i ?_
    rw [z20, r1, show ((102 : Int32) + nI i).toNatClampNeg = 102 + i from qa (P := 102) (by omega), show ((10 : Int32) + nI i).toNatClampNeg = 10 + i from qa (P := 10) (by omega), show m 41 (102 + i) = nI (xh Y i) from (hY.2.2.2 i (by omega)).2.2.1, (r4 i hin).2.2.1, nI_1 i, neq (by omega) (by omega)]
    refine ⟨fun q => absurd ((nle (by omega) (by omega)).mp q) (by omega), fun _ => ⟨fun q => ih (i + 1) false (by omega) ⟨fun z => (by cases z), fun z => absurd (hs.mpr (fun j hj => z j (by omega))) q⟩, fun q => ⟨qL (P := 102) (by omega), qL (P := 10) (by omega), fun q2 => ih (i + 1) false (by omega) ⟨fun z => (by cases z), fun z => absurd (z i (by omega)) q2⟩, fun q2 => ih (i + 1) true (by omega) ⟨fun _ j hj => ?_, fun _ => rfl⟩⟩⟩⟩
    rcases Nat.lt_or_ge j i with z | z
    · exact hs.mp q j z
    · have e : j = i := by omega
      rw [e]; exact q2
set_option maxHeartbeats 4000000 in
theorem lX6_again {G : GX} {d : Nat} {mem0 : Mem} {X : Bm} (hV : VX 9 30 X) (hM : RepM mem0 0 X) (hG : mem0 40 14 = goI 9) : ∀ (r i : Nat) (m : Mem), i + r = 300 → (∀ s, s < i → ¬ hEq X (itX 9 nof X (s + 1)) = true) → RepM m 92 (itX 9 nof X i) → FrM 92 mem0 m → Go G (d + 3) mX6_again 9 [(0, .ref 40), (1, .int (nI (i + 1)))] [] m (Ri (againA X) (QM mem0)) := by
  intro r
  induction r with
  | zero =>
    intro i m hi hs hR hF
    have hi2 : i = 300 := by omega
    subst hi2
    refine sX6_again_9 301 (itX 9 nof X 300) ⟨fun _ => ?_, fun q => absurd (by decide) q⟩
    unfold againA
    rw [ftF_none hs]
    exact ⟨rfl, hF.qm (by omega)⟩
  | succ r ih =>
    intro i m hi hs hR hF
    have hVi := VX_it (hf := nof) hV i
    have hVj := VX_it (hf := nof) hV (i + 1)
    have en : xn (itX 9 nof X (i + 1)) = xn X := it_n (i + 1)
    refine sX6_again_9 (i + 1) (itX 9 nof X i) ⟨fun q => absurd ((nlt (a := 300) (by omega) (by omega)).mp q) (by omega), fun _ => ⟨rfl, by omega, ⟨by omega, by omega, by omega⟩, hVi, hR, by rw [hF.1 40 (by decide)]; exact hG, fun m3 h3 => ?_⟩⟩
    have F3 := hF.tr h3.2
    refine lX6_again28 (i + 1) (Y := itX 9 nof X (i + 1)) hV.1 (hM.fr hV.1 (fun j _ hj => F3.2 j (by omega))) h3.1 en (fun c hc => VX9_h hV hc) (fun c hc => VX9_h hVj (by rw [en]; exact hc)) (fun q => ?_) (fun q => ?_) (xn X) 0 true (by omega) ⟨fun _ j hj => by omega, fun _ => rfl⟩
    · rw [nI_1]
      exact ih (i + 1) m3 (by omega) (fun s hs2 => by
        rcases Nat.lt_or_ge s i with z | z
        · exact hs s z
        · have e : s = i := by omega
          rw [e]
          exact fun w => q (of_decide_eq_true w)) h3.1 F3
    · unfold againA
      rw [ftF_some (t := i) (decide_eq_true q) hs (by omega)]
      exact ⟨rfl, F3.qm (by omega)⟩
theorem kX6_again {G : GX} (d : Nat) {mem : Mem} (X : Bm) (h : C1 mem X) (h7 : C7 mem) : Cn G (d + 3) mX6_again [.ref 40] mem (Ri (againA X) (QM mem)) := by
  refine cn_of (by decide +kernel) (Nat.le_of_ble_eq_true rfl) (sX6_again_0 ⟨⟨rfl, rfl⟩, ⟨by omega, by omega, by omega⟩, ?_⟩)
  exact lX6_again h.2.2.1 h.2.1 h7.1 300 0 (cpM mem 0 92) (by omega) (fun s hs => by omega) (cpM_rep h.2.2.1.1 h.2.1) cpM_fr
-- drift
def gN (x : Int32) : Nat := x.toBitVec.toNat / 65536 % 32768
def sdI (x : Int32) : Int32 := x * 1103515245 + 12345
theorem got_c (x : Int32) : ((x.toUInt32 >>> ((16 : Int32).toUInt32 &&& Int32.toUInt32 31)).toInt32) &&& 32767 = nI (gN x) := by
  rw [pk_and _ (m := 32767) 15 (by decide), pk_ushr x 16 16 (by decide)]
  rfl
theorem got_m (x : Int32) : (x >>> ((16 : Int32) &&& 31)) &&& 32767 = nI (gN x) := by
  rw [← got_c]
  refine b_ext (fun i hi => ?_)
  rw [b_and, b_and, show btI (x >>> ((16 : Int32) &&& 31)) i = if 16 + i < 32 then btI x (16 + i) else btI x 31 from b_sshr 16 (by omega) x hi, show btI ((x.toUInt32 >>> ((16 : Int32).toUInt32 &&& Int32.toUInt32 31)).toInt32) i = btI x (16 + i) from b_ushr 16 (by omega) x i]
  by_cases q : 16 + i < 32
  · rw [if_pos q]
  · have e : btI 32767 i = false := (by decide +kernel : ∀ i, i < 32 → ¬ 16 + i < 32 → btI 32767 i = false) i hi q
    rw [e, Bool.and_false, Bool.and_false]
def shX (X : Bm) (c m : Nat) : Bm := stH X c (shN (xk X c) (xp X c) (xh X c) m (xu X))
/-- a tick by a seed: f is how the seed goes on -/
def stp (f : Int32 → Int32) (n : Nat) (p : Int32 × Bm) : Int32 × Bm := (f p.1, tkX 9 false (shX p.2 (gN (f p.1) % n) (1 + gN (f p.1) / 8 % 5)))
def drS (f : Int32 → Int32) (sd : Int32) (X : Bm) : Nat → Int32 × Bm
  | 0 => (sd, X)
  | t + 1 => stp f (xn X) (drS f sd X t)
/-- pushed by hand, ahead of the tick t -/
def drY (f : Int32 → Int32) (sd : Int32) (X : Bm) (t : Nat) : Bm := shX (drS f sd X t).2 (gN (f (drS f sd X t).1) % xn X) (1 + gN (f (drS f sd X t).1) / 8 % 5)
def drM (f : Int32 → Int32) (sd : Int32) (X : Bm) : Nat → Nat
  | 0 => 0
  | t + 1 => drM f sd X t + many 9 (drY f sd X t)
def driftA (f : Int32 → Int32) (X : Bm) (sd n w : Int32) : Int32 := if (1 ≤ n ∧ n ≤ 300) ∧ in01 w then (if nI (xn X) = 0 then -2 else if w = 0 then nI (drM f sd X n.toNatClampNeg) else nI (smF (xh (drS f sd X n.toNatClampNeg).2) (xn X))) else -1
theorem dr_n {f : Int32 → Int32} {sd : Int32} {X : Bm} : ∀ t, xn (drS f sd X t).2 = xn X
  | 0 => rfl
  | t + 1 => dr_n (f := f) (sd := sd) (X := X) t
theorem VX_sh {B : Nat} {X : Bm} (h : VX 9 B X) (c m : Nat) : VX 9 B (shX X c m) := by
  refine ⟨h.1, h.2.1, fun j hj => ?_⟩
  obtain ⟨a1, a2, a3, a4, a5⟩ := h.2.2 j hj
  refine ⟨a1, a2, a3, fun q => ?_, fun q => by have hn := h.1; have : j < xn X := hj; omega⟩
  show upN (xh X) c _ j < xp X j
  unfold upN
  by_cases z : j = c
  · rw [if_pos z, ← z]
    exact shN_lt a2 (a4 q)
  · rw [if_neg z]
    exact a4 q
theorem VX_dr {B : Nat} {f : Int32 → Int32} {sd : Int32} {X : Bm} (h : VX 9 B X) : ∀ t, VX 9 B (drS f sd X t).2
  | 0 => h
  | t + 1 => VX9_tk (VX_sh (VX_dr h t) _ _) _
theorem gN_lt (x : Int32) : gN x < 32768 := Nat.mod_lt _ (by decide)
theorem dr_c {g n : Nat} (hg : g < 32768) (h0 : 0 < n) (hn : n ≤ 5) : (nI g - nI g / nI n * nI n) = nI (g % n) := pk_rem (by omega) h0 (by omega)
theorem dr_m {g : Nat} (hg : g < 32768) : ((1 : Int32) + (nI g / 8 - nI g / 8 / 5 * 5)) = nI (1 + g / 8 % 5) := by
  rw [show (8 : Int32) = nI 8 from rfl, show (5 : Int32) = nI 5 from rfl, pk_div (by omega) (by omega) (by omega), pk_rem (by omega) (by omega) (by omega), show (1 : Int32) = nI 1 from rfl, nI_add]
set_option maxHeartbeats 4000000 in
theorem lX5_drift {f : Int32 → Int32} (hf : ∀ x, f x = x * 1103515245 + 12345) {G : GX} {d : Nat} {mem0 : Mem} {X : Bm} (hV : VX 9 30 X) (h0 : xn X ≠ 0) (hB : RepB mem0 1 X) {n : Nat} (hn : n ≤ 300) (sd w : Int32) : ∀ (r i : Nat) (m : Mem), i + r = n → RepB m 6 (drS f sd X i).2 → FrB 6 mem0 m → Go G (d + 4) mX5_drift 49 [(0, .ref 0), (2, .int (nI n)), (3, .int w), (4, .int (drS f sd X i).1), (5, .int (nI (drM f sd X i))), (6, .int (nI i))] [] m (Ri (if w = 0 then nI (drM f sd X n) else nI (smF (xh (drS f sd X n).2) (xn X))) (QC mem0)) := by
  intro r
  have hn5 := hV.1
  induction r with
  | zero =>
    intro i m hi hR hF
    have hi2 : i = n := by omega
    subst hi2
    refine sX5_drift_49 i w _ _ i 0 0 0 0 0 0 (drS f sd X i).2 X ⟨fun _ => ⟨fun q => ⟨(VX_dr hV i).1, hR, Ri.mk ?_ hF.qc⟩, fun q => Ri.mk ?_ hF.qc⟩, fun q => absurd (Int32.le_refl _) q⟩
    · rw [if_neg q, dr_n]
    · rw [if_pos q]
  | succ r ih =>
    intro i m hi hR hF
    have hVi := VX_dr (f := f) (sd := sd) hV i
    have hg := gN_lt (f (drS f sd X i).1)
    have hc : gN (f (drS f sd X i).1) % xn X < xn X := Nat.mod_lt _ (by omega)
    have hc2 : gN (f (drS f sd X i).1) % xn X < xn (drS f sd X i).2 := by rw [dr_n]; exact hc
    have hVY : VX 9 30 (drY f sd X i) := VX_sh hVi _ _
    obtain ⟨a1, a2, a3, a4, a5⟩ := hVi.2.2 _ hc2
    have hh := VX9_h hVi hc2
    have e14 : m 1 4 = nI (xn X) := by rw [hF 1 (by omega)]; exact hB.1
    obtain ⟨r1, r2, r3, r4⟩ := hR.2.2.2 _ hc2
    refine sX5_drift_49 n w _ _ i (gN (f (drS f sd X i).1) % xn X) (1 + gN (f (drS f sd X i).1) / 8 % 5) (xk (drS f sd X i).2 (gN (f (drS f sd X i).1) % xn X)) (xp (drS f sd X i).2 (gN (f (drS f sd X i).1) % xn X)) (xh (drS f sd X i).2 (gN (f (drS f sd X i).1) % xn X)) (xu (drS f sd X i).2) X (drY f sd X i) ⟨fun q => absurd ((nle (by omega) (by omega)).mp q) (by omega), fun _ y3 h3 y4 h4 => ?_⟩
    have e3 : y3 = f (drS f sd X i).1 := by rw [hf]; exact h3
    rw [e3, got_c] at h4
    rw [e14, h4]
    have hRY : RepB (um m (6 + 3) (gN (f (drS f sd X i).1) % xn X) (nI (shN (xk (drS f sd X i).2 (gN (f (drS f sd X i).1) % xn X)) (xp (drS f sd X i).2 (gN (f (drS f sd X i).1) % xn X)) (xh (drS f sd X i).2 (gN (f (drS f sd X i).1) % xn X)) (1 + gN (f (drS f sd X i).1) / 8 % 5) (xu (drS f sd X i).2)))) 6 (drY f sd X i) ∧ FrB 6 m _ := RepB_h hR rfl
    refine ⟨fun q => h0 ((neq (by omega) (by omega)).mp (q.trans nI_0.symm)), ⟨dr_c hg (by omega) hn5, dr_m hg⟩, by omega, ⟨a1, a2, a3, hh, by omega, by omega, hVi.2.1⟩, r1, r2, r3, hR.2.1, hVY, hRY.1, fun m15 h15 y16 h16 => ?_⟩
    rw [h16, who_bc hVY, nI_add, nI_1, e3]
    exact ih (i + 1) m15 (by omega) h15.1 ((hF.tr hRY.2).tr h15.2)
theorem kX5_drift {f : Int32 → Int32} (hf : ∀ x, f x = x * 1103515245 + 12345) {G : GX} (d : Nat) {mem : Mem} (sd n w : Int32) (X : Bm) (h : C1 mem X) : Cn G (d + 4) mX5_drift [.ref 0, .int sd, .int n, .int w] mem (Ri (driftA f X sd n w) (QC mem)) := by
  obtain ⟨hB, hM, hV, ht⟩ := h
  refine cn_of (by decide +kernel) (Nat.le_of_ble_eq_true rfl) (sX5_drift_0 sd n w X ?_)
  rw [hB.1]
  unfold driftA
  refine ⟨fun q => Ri.mk (if_neg (fun z => q z.1)).symm QC.rf, fun q => ⟨fun q2 => ⟨fun q3 => ⟨hV.1, hB, fun m3 h3 => ?_⟩, fun q3 => Ri.mk (by rw [if_pos ⟨q, q2⟩, if_pos q3]) QC.rf⟩, fun q2 => Ri.mk (if_neg (fun z => q2 z.2)).symm QC.rf⟩⟩
  rw [if_pos ⟨q, q2⟩, if_neg q3]
  obtain ⟨k, hk, rfl⟩ := i300 (n := 300) rfl (by omega) ⟨Int32.le_trans (by decide) q.1, q.2⟩
  rw [ncl (show k < 2000000000 by omega)]
  exact lX5_drift hf hV (fun e => q3 (by rw [e]; exact nI_0)) hB hk sd w k 0 m3 (by omega) h3.1 h3.2

set_option maxRecDepth 100000 in
theorem sX6_drift_0 {G : GX} {d : Nat} {mem : Mem} {Φ : Option Value → Mem → Prop} (sd a2 wh : Int32) (h : ((¬ (1 ≤ a2 ∧ a2 ≤ 300) → Φ (some (.int (-1))) mem) ∧ ((1 ≤ a2 ∧ a2 ≤ 300) → (((0 ≤ wh ∧ wh ≤ 1) → ((¬ (mem 41 (20 : Int32).toNatClampNeg) = 0 → (0 = nI 0 ∧ 92 = nI 92) ∧ (0 ≤ 115 ∧ 92 ≤ 115 ∧ (0 + 23 ≤ 92 ∨ 92 + 23 ≤ 0)) ∧ Go G (d + 3) mX6_drift 53 [(0, .ref 40), (2, .int a2), (3, .int wh), (4, .int 0), (5, .int sd), (6, .int 0)] [] (cpM mem 0 92) Φ) ∧ ((mem 41 (20 : Int32).toNatClampNeg) = 0 → Φ (some (.int (-2))) mem))) ∧ (¬ (0 ≤ wh ∧ wh ≤ 1) → Φ (some (.int (-1))) mem))))) : Go G (d + 3) mX6_drift 0 [(0, .ref 40), (1, .int sd), (2, .int a2), (3, .int wh)] [] mem Φ := by
  refine go_iload_n dX6_drift_0 2 rfl ?_
  refine go_i2l dX6_drift_1 ?_
  refine go_lconst (v := 1) dX6_drift_2 (by decide) ?_
  refine go_ldc2 klX6_177 dX6_drift_3 ?_
  refine go_callS (st := []) (kX6_in (d + 2) a2 1 300 1 300 (by decide) (by decide)) okX6_in staX6_in lkX6_50 rfl rfl (Nat.le_of_ble_eq_true rfl) dX6_drift_6 (fun v_ m2_ q => ?_)
  rw [q.1, q.2]
  refine go_stk (st2 := [.int (bI (1 ≤ a2 ∧ a2 ≤ 300))]) rfl ?_
  refine go_if_eq 22 dX6_drift_9 (by decide) (fun q => ?_) (fun q => ?_)
  · have h := h.1 (bI0.mp q)
    refine go_iconst (v := (-1)) dX6_drift_22 (by decide) ?_
    exact go_iret rfl dX6_drift_23 h
  · have h := h.2 (bI1.mp q)
    refine go_iload_n dX6_drift_12 3 rfl ?_
    refine go_i2l dX6_drift_13 ?_
    refine go_lconst (v := 0) dX6_drift_14 (by decide) ?_
    refine go_lconst (v := 1) dX6_drift_15 (by decide) ?_
    refine go_callS (st := []) (kX6_in (d + 2) wh 0 1 0 1 (by decide) (by decide)) okX6_in staX6_in lkX6_50 rfl rfl (Nat.le_of_ble_eq_true rfl) dX6_drift_16 (fun v_ m2_ q => ?_)
    rw [q.1, q.2]
    refine go_stk (st2 := [.int (bI (0 ≤ wh ∧ wh ≤ 1))]) rfl ?_
    refine go_if_ne 24 dX6_drift_19 (by decide) (fun q => ?_) (fun q => ?_)
    · have h := h.1 (bI1.mp q)
      refine go_aload_n dX6_drift_24 0 rfl ?_
      refine go_getR (kf := 0) (t := 41) rfl rfl rfl uwX6 (by decide) flX6_7 dX6_drift_25 ?_
      refine go_bipush (v := 20) dX6_drift_28 (by decide) ?_
      refine go_iaload rfl (nin (a := 20) (by decide) (by decide)) dX6_drift_30 ?_
      refine go_if_ne 37 dX6_drift_31 (by decide) (fun q => ?_) (fun q => ?_)
      · have h := h.1 q
        refine go_aload_n dX6_drift_37 0 rfl ?_
        refine go_iconst (v := 0) dX6_drift_38 (by decide) ?_
        refine go_bipush (v := 92) dX6_drift_39 (by decide) ?_
        obtain ⟨c1, h⟩ := h
        obtain ⟨c2, h⟩ := h
        refine go_callV (st := []) (kX6_copiesI (d + 2) 0 92 0 92 c1 c2) rfl rfl okX6_copies insX6_copies selX6_copies lkX6_161 rfl rfl (Nat.le_of_ble_eq_true rfl) dX6_drift_41 (fun v_ m2_ q => ?_)
        rw [q.1, q.2]
        refine go_stk (st2 := []) rfl ?_
        refine go_iconst (v := 0) dX6_drift_44 (by decide) ?_
        refine go_istore (L2 := [(4, .int 0), (0, .ref 40), (1, .int sd), (2, .int a2), (3, .int wh)]) dX6_drift_45 (by decide) rfl ?_
        refine go_iload_n dX6_drift_47 2 rfl ?_
        refine go_istore (L2 := [(5, .int sd), (4, .int 0), (0, .ref 40), (1, .int sd), (2, .int a2), (3, .int wh)]) dX6_drift_48 (by decide) rfl ?_
        refine go_iconst (v := 0) dX6_drift_50 (by decide) ?_
        refine go_istore (L2 := [(6, .int 0), (5, .int sd), (4, .int 0), (0, .ref 40), (1, .int sd), (2, .int a2), (3, .int wh)]) dX6_drift_51 (by decide) rfl ?_
        exact Go.pick [3, 5, 6, 2, 1, 0] rfl h
      · have h := h.2 q
        refine go_bipush (v := (-2)) dX6_drift_34 (by decide) ?_
        exact go_iret rfl dX6_drift_36 h
    · have h := h.2 (bI0.mp q)
      refine go_iconst (v := (-1)) dX6_drift_22 (by decide) ?_
      exact go_iret rfl dX6_drift_23 h

set_option maxRecDepth 100000 in
theorem sX6_drift_53 {G : GX} {d : Nat} {mem : Mem} {Φ : Option Value → Mem → Prop} (n : Nat) (wh sd : Int32) (s i cc mm kk pp hh uu nn : Nat) (X Y : Bm) (h : (((nI n) ≤ (nI i) → ((¬ wh = 0 → (92 = nI 92 ∧ 10 = nI 10) ∧ (92 ≤ 115 ∧ 10 ≤ 15 ∧ nn ≤ 5) ∧ (mem 41 (92 + 20) = nI nn) ∧ (∀ c, c < nn → mem 41 (92 + 10 + c) = nI ((xh X) c)) ∧ Φ (some (.int (nI (smF (xh X) nn)))) mem) ∧ (wh = 0 → Φ (some (.int (nI s))) mem))) ∧ (¬ (nI n) ≤ (nI i) → ∀ y5 : Int32, y5 = ((sd * 1103515245) + 12345) → ∀ y6 : Int32, y6 = ((y5 >>> (16 &&& 31)) &&& 32767) → (¬ (mem 41 (20 : Int32).toNatClampNeg) = 0) ∧ (92 = nI 92 ∧ (y6 - y6 / (mem 41 (20 : Int32).toNatClampNeg) * (mem 41 (20 : Int32).toNatClampNeg)) = nI cc ∧ (1 + ((y6 / 8) - (y6 / 8) / 5 * 5)) = nI (mm)) ∧ (92 ≤ 115 ∧ cc < 5) ∧ (kk ≤ 3 ∧ 2 ≤ pp ∧ pp ≤ 30 ∧ hh < 1000000 ∧ 1 ≤ (mm) ∧ (mm) ≤ 5 ∧ uu ≤ 5) ∧ (mem 41 (92 + cc) = nI kk) ∧ (mem 41 (92 + 5 + cc) = nI pp) ∧ (mem 41 (92 + 10 + cc) = nI hh) ∧ (mem 41 (92 + 21) = nI uu - 1) ∧ ∀ m15 : Mem, m15 = (um mem 41 (92 + 10 + cc) (nI (shN kk pp hh (mm) uu))) → (92 = nI 92) ∧ (92 ≤ 115) ∧ (9 < 10 ∧ 30 ≤ 30 ∧ 30 < 900000) ∧ (VX 9 30 Y) ∧ (RepM m15 92 Y) ∧ (m15 40 14 = goI 9) ∧ ∀ m22 : Mem, (RepM m22 92 (tkX 9 false Y) ∧ FrM 92 m15 m22) → (who 9 Y < 1073741824) ∧ ∀ y24 : Int32, y24 = ((nI s) + (nI (pcF 32 (who 9 Y)))) → Go G (d + 3) mX6_drift 53 [(0, .ref 40), (2, .int (nI n)), (3, .int wh), (4, .int y24), (5, .int y5), (6, .int ((nI i) + 1))] [] m22 Φ))) : Go G (d + 3) mX6_drift 53 [(0, .ref 40), (2, .int (nI n)), (3, .int wh), (4, .int (nI s)), (5, .int sd), (6, .int (nI i))] [] mem Φ := by
  refine go_iload dX6_drift_53 5 rfl ?_
  refine go_iload_n dX6_drift_55 1 rfl ?_
  refine go_icmp_ge 127 dX6_drift_56 (by decide) (fun q => ?_) (fun q => ?_)
  · have h := h.1 q
    refine go_iload_n dX6_drift_127 2 rfl ?_
    refine go_if_ne 136 dX6_drift_128 (by decide) (fun q => ?_) (fun q => ?_)
    · have h := h.1 q
      refine go_aload_n dX6_drift_136 0 rfl ?_
      refine go_bipush (v := 92) dX6_drift_137 (by decide) ?_
      refine go_bipush (v := 10) dX6_drift_139 (by decide) ?_
      obtain ⟨c1, h⟩ := h
      obtain ⟨c2, h⟩ := h
      obtain ⟨c3, h⟩ := h
      obtain ⟨c4, h⟩ := h
      refine go_callV (st := []) (kX6_sumOnI (d + 2) 92 10 92 10 (xh X) nn c1 c2 c3 c4) rfl rfl okX6_sumOn insX6_sumOn selX6_sumOn lkX6_134 rfl rfl (Nat.le_of_ble_eq_true rfl) dX6_drift_141 (fun v_ m2_ q => ?_)
      rw [q.1, q.2]
      refine go_stk (st2 := [.int (nI (smF (xh X) nn))]) rfl ?_
      exact go_iret rfl dX6_drift_144 h
    · have h := h.2 q
      refine go_iload dX6_drift_131 3 rfl ?_
      refine go_goto 144 dX6_drift_133 (by decide) ?_
      exact go_iret rfl dX6_drift_144 h
  · have h := h.2 q
    refine go_iload dX6_drift_59 4 rfl ?_
    refine go_ldc kcX6_214 dX6_drift_61 ?_
    refine go_imul dX6_drift_63 ?_
    refine go_sipush (v := 12345) dX6_drift_64 (by decide) ?_
    refine go_iadd dX6_drift_67 ?_
    refine go_topi (fun y5 qy5 => ?_)
    have h := h y5 qy5
    refine go_istore (L2 := [(5, .int y5), (0, .ref 40), (2, .int (nI n)), (3, .int wh), (4, .int (nI s)), (6, .int (nI i))]) dX6_drift_68 (by decide) rfl ?_
    refine go_iload dX6_drift_70 0 rfl ?_
    refine go_bipush (v := 16) dX6_drift_72 (by decide) ?_
    refine go_ishr dX6_drift_74 ?_
    refine go_sipush (v := 32767) dX6_drift_75 (by decide) ?_
    refine go_iand dX6_drift_78 ?_
    refine go_topi (fun y6 qy6 => ?_)
    have h := h y6 qy6
    refine go_istore (L2 := [(7, .int y6), (5, .int y5), (0, .ref 40), (2, .int (nI n)), (3, .int wh), (4, .int (nI s)), (6, .int (nI i))]) dX6_drift_79 (by decide) rfl ?_
    refine go_aload_n dX6_drift_81 2 rfl ?_
    refine go_bipush (v := 92) dX6_drift_82 (by decide) ?_
    refine go_iload dX6_drift_84 0 rfl ?_
    refine go_aload_n dX6_drift_86 2 rfl ?_
    refine go_getR (kf := 0) (t := 41) rfl rfl rfl uwX6 (by decide) flX6_7 dX6_drift_87 ?_
    refine go_bipush (v := 20) dX6_drift_90 (by decide) ?_
    refine go_iaload rfl (nin (a := 20) (by decide) (by decide)) dX6_drift_92 ?_
    obtain ⟨c7, h⟩ := h
    refine go_irem dX6_drift_93 c7 ?_
    refine go_iconst (v := 1) dX6_drift_94 (by decide) ?_
    refine go_iload dX6_drift_95 0 rfl ?_
    refine go_bipush (v := 8) dX6_drift_97 (by decide) ?_
    refine go_idiv dX6_drift_99 (by decide) ?_
    refine go_iconst (v := 5) dX6_drift_100 (by decide) ?_
    refine go_irem dX6_drift_101 (by decide) ?_
    refine go_iadd dX6_drift_102 ?_
    obtain ⟨c8, h⟩ := h
    obtain ⟨c9, h⟩ := h
    obtain ⟨c10, h⟩ := h
    obtain ⟨c11, h⟩ := h
    obtain ⟨c12, h⟩ := h
    obtain ⟨c13, h⟩ := h
    obtain ⟨c14, h⟩ := h
    refine go_callV (st := []) (kX6_pushedOnI (d + 1) 92 (y6 - y6 / (mem 41 (20 : Int32).toNatClampNeg) * (mem 41 (20 : Int32).toNatClampNeg)) (1 + ((y6 / 8) - (y6 / 8) / 5 * 5)) 92 cc (mm) kk pp hh uu c8 c9 c10 c11 c12 c13 c14) rfl rfl okX6_pushedOn insX6_pushedOn selX6_pushedOn lkX6_130 rfl rfl (Nat.le_of_ble_eq_true rfl) dX6_drift_103 (fun v_ m2_ q => ?_)
    rw [q.1, q.2]
    refine go_stk (st2 := []) rfl ?_
    refine go_mem (fun m15 qm15 => ?_)
    have h := h m15 qm15
    refine go_iload dX6_drift_106 5 rfl ?_
    refine go_aload_n dX6_drift_108 2 rfl ?_
    refine go_bipush (v := 92) dX6_drift_109 (by decide) ?_
    refine go_iconst (v := 0) dX6_drift_111 (by decide) ?_
    obtain ⟨c16, h⟩ := h
    obtain ⟨c17, h⟩ := h
    obtain ⟨c18, h⟩ := h
    obtain ⟨c19, h⟩ := h
    obtain ⟨c20, h⟩ := h
    obtain ⟨c21, h⟩ := h
    refine go_callV (st := [.int (nI s)]) (kX6_tickOnI (d + 0) 92 92 false Y 9 30 c16 c17 c18 c19 c20 c21) rfl rfl okX6_tickOn insX6_tickOn selX6_tickOn lkX6_157 rfl rfl (Nat.le_of_ble_eq_true rfl) dX6_drift_112 (fun v_ m22 q => ?_)
    rw [q.1]
    have h := h m22 q.2
    refine go_stk (st2 := [.int (nI (who 9 Y)), .int (nI s)]) rfl ?_
    obtain ⟨c23, h⟩ := h
    refine go_callS (st := [.int (nI s)]) (kX6_bitsOf (d + 2) (who 9 Y) c23) okX6_bitsOf staX6_bitsOf lkX6_127 rfl rfl (Nat.le_of_ble_eq_true rfl) dX6_drift_115 (fun v_ m2_ q => ?_)
    rw [q.1, q.2]
    refine go_stk (st2 := [.int (nI (pcF 32 (who 9 Y))), .int (nI s)]) rfl ?_
    refine go_iadd dX6_drift_118 ?_
    refine go_topi (fun y24 qy24 => ?_)
    have h := h y24 qy24
    refine go_istore (L2 := [(4, .int y24), (7, .int y6), (5, .int y5), (0, .ref 40), (2, .int (nI n)), (3, .int wh), (6, .int (nI i))]) dX6_drift_119 (by decide) rfl ?_
    refine go_iinc (v := ((nI i) + 1)) (L2 := [(6, .int ((nI i) + 1)), (4, .int y24), (7, .int y6), (5, .int y5), (0, .ref 40), (2, .int (nI n)), (3, .int wh)]) dX6_drift_121 6 rfl rfl (by decide) rfl ?_
    refine go_goto 53 dX6_drift_124 (by decide) ?_
    exact Go.pick [4, 5, 6, 1, 3, 0] rfl h
