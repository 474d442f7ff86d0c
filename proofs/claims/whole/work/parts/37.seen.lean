
/-! ===== what was SEEN ===== -/
def SeC (m : Mem) (S : Se) : Prop := S.1 ≤ 6 ∧ m 25 3 = nI S.1 ∧ ∀ i, i < S.1 → S.2.1 i ≤ 60 ∧ S.2.2.1 i ≤ 4 ∧ S.2.2.2 i ≤ 1 ∧ m 26 i = nI (S.2.1 i) ∧ m 27 i = nI (S.2.2.1 i) ∧ m 28 i = nI (S.2.2.2 i)
theorem SeC.of {m : Mem} {S : Se} (h : C5 m S) : SeC m S := ⟨h.1, h.2.1, fun i hi => by
  obtain ⟨a, b, c, d, e, f, _⟩ := h.2.2.2 i hi
  exact ⟨a, b, c, d, e, f⟩⟩
theorem SeC.fr {m m2 : Mem} {S : Se} (h : SeC m S) (e : ∀ k, 25 ≤ k → k ≤ 28 → m2 k = m k) : SeC m2 S := by
  unfold SeC
  rw [e 25 (by omega) (by omega), e 26 (by omega) (by omega), e 27 (by omega) (by omega), e 28 (by omega) (by omega)]
  exact h
def mxF (f : Nat → Nat) : Nat → Nat
  | 0 => 0
  | i + 1 => if mxF f i < f i + 1 then f i + 1 else mxF f i
theorem mxF_le {f : Nat → Nat} {B : Nat} : ∀ {n : Nat}, (∀ i, i < n → f i ≤ B) → mxF f n ≤ B + 1
  | 0, _ => Nat.zero_le _
  | n + 1, h => by
    have a := mxF_le (n := n) (fun i hi => h i (by omega))
    have b := h n (by omega)
    unfold mxF
    split <;> omega
theorem mxF_lt {f : Nat → Nat} : ∀ {n : Nat} {i : Nat}, i < n → f i < mxF f n
  | 0, i, h => by omega
  | n + 1, i, h => by
    unfold mxF
    by_cases q : i = n
    · subst q; split <;> omega
    · have a := mxF_lt (f := f) (show i < n by omega)
      split <;> omega
/-- all is as SEEN, if the beam goes on from X -/
def sF (S : Se) (X : Bm) : Bool := decide (∀ i, i < S.1 → who 9 (itX 9 nof X (S.2.1 i)) / 2 ^ (S.2.2.1 i) % 2 = S.2.2.2 i)

set_option maxRecDepth 100000 in
theorem sX3_lastTick_0 {G : GX} {d : Nat} {mem : Mem} {Φ : Option Value → Mem → Prop}  (h : Go G (d + 1) mX3_lastTick 4 [(0, .ref 25), (1, .int (-1)), (2, .int 0)] [] mem Φ) : Go G (d + 1) mX3_lastTick 0 [(0, .ref 25)] [] mem Φ := by
  refine go_iconst (v := (-1)) dX3_lastTick_0 (by decide) ?_
  refine go_istore_n (L2 := [(1, .int (-1)), (0, .ref 25)]) dX3_lastTick_1 (by decide) rfl ?_
  refine go_iconst (v := 0) dX3_lastTick_2 (by decide) ?_
  refine go_istore_n (L2 := [(2, .int 0), (1, .int (-1)), (0, .ref 25)]) dX3_lastTick_3 (by decide) rfl ?_
  exact Go.pick [2, 1, 0] rfl h

set_option maxRecDepth 100000 in
theorem sX3_lastTick_4 {G : GX} {d : Nat} {mem : Mem} {Φ : Option Value → Mem → Prop} (la : Int32) (i : Nat) (h : (((mem 25 3) ≤ (nI i) → Φ (some (.int la)) mem) ∧ (¬ (mem 25 3) ≤ (nI i) → (vp_in (nI i) 6) ∧ ∀ y2 : Int32, y2 = (if la < (mem 26 ((nI i) : Int32).toNatClampNeg) then (mem 26 ((nI i) : Int32).toNatClampNeg) else la) → Go G (d + 1) mX3_lastTick 4 [(0, .ref 25), (1, .int y2), (2, .int ((nI i) + 1))] [] mem Φ))) : Go G (d + 1) mX3_lastTick 4 [(0, .ref 25), (1, .int la), (2, .int (nI i))] [] mem Φ := by
  refine go_iload_n dX3_lastTick_4 2 rfl ?_
  refine go_aload_n dX3_lastTick_5 0 rfl ?_
  refine go_getI (kf := 3) rfl rfl rfl uwX3 (by decide) flX3_21 dX3_lastTick_6 ?_
  refine go_icmp_ge 29 dX3_lastTick_9 (by decide) (fun q => ?_) (fun q => ?_)
  · have h := h.1 q
    refine go_iload_n dX3_lastTick_29 1 rfl ?_
    exact go_iret rfl dX3_lastTick_30 h
  · have h := h.2 q
    refine go_iload_n dX3_lastTick_12 1 rfl ?_
    refine go_aload_n dX3_lastTick_13 0 rfl ?_
    refine go_getR (kf := 0) (t := 26) rfl rfl rfl uwX3 (by decide) flX3_9 dX3_lastTick_14 ?_
    refine go_iload_n dX3_lastTick_17 2 rfl ?_
    obtain ⟨c1, h⟩ := h
    refine go_iaload rfl c1 dX3_lastTick_18 ?_
    refine go_mmax lkX3_39 (Nat.le_of_ble_eq_true rfl) dX3_lastTick_19 ?_
    refine go_topi (fun y2 qy2 => ?_)
    have h := h y2 qy2
    refine go_istore_n (L2 := [(1, .int y2), (0, .ref 25), (2, .int (nI i))]) dX3_lastTick_22 (by decide) rfl ?_
    refine go_iinc (v := ((nI i) + 1)) (L2 := [(2, .int ((nI i) + 1)), (1, .int y2), (0, .ref 25)]) dX3_lastTick_23 2 rfl rfl (by decide) rfl ?_
    refine go_goto 4 dX3_lastTick_26 (by decide) ?_
    exact Go.pick [2, 1, 0] rfl h

set_option maxRecDepth 100000 in
theorem sX3_fitsIn_0 {G : GX} {d : Nat} {mem : Mem} {Φ : Option Value → Mem → Prop} (a1 a2 : Int32) (h : Go G (d + 0) mX3_fitsIn 2 [(0, .ref 25), (1, .int a1), (2, .int a2), (3, .int 0)] [] mem Φ) : Go G (d + 0) mX3_fitsIn 0 [(0, .ref 25), (1, .int a1), (2, .int a2)] [] mem Φ := by
  refine go_iconst (v := 0) dX3_fitsIn_0 (by decide) ?_
  refine go_istore_n (L2 := [(3, .int 0), (0, .ref 25), (1, .int a1), (2, .int a2)]) dX3_fitsIn_1 (by decide) rfl ?_
  exact Go.pick [1, 2, 3, 0] rfl h

set_option maxRecDepth 100000 in
theorem sX3_fitsIn_2 {G : GX} {d : Nat} {mem : Mem} {Φ : Option Value → Mem → Prop} (a1 a2 : Int32) (i : Nat) (h : (((mem 25 3) ≤ (nI i) → Φ (some (.int 1)) mem) ∧ (¬ (mem 25 3) ≤ (nI i) → (vp_in (nI i) 6) ∧ ((¬ (mem 26 ((nI i) : Int32).toNatClampNeg) = a1 → Go G (d + 0) mX3_fitsIn 2 [(0, .ref 25), (1, .int a1), (2, .int a2), (3, .int ((nI i) + 1))] [] mem Φ) ∧ ((mem 26 ((nI i) : Int32).toNatClampNeg) = a1 → ((((a2 >>> ((mem 27 ((nI i) : Int32).toNatClampNeg) &&& 31)) &&& 1) = (mem 28 ((nI i) : Int32).toNatClampNeg) → Go G (d + 0) mX3_fitsIn 2 [(0, .ref 25), (1, .int a1), (2, .int a2), (3, .int ((nI i) + 1))] [] mem Φ) ∧ (¬ ((a2 >>> ((mem 27 ((nI i) : Int32).toNatClampNeg) &&& 31)) &&& 1) = (mem 28 ((nI i) : Int32).toNatClampNeg) → Φ (some (.int 0)) mem))))))) : Go G (d + 0) mX3_fitsIn 2 [(0, .ref 25), (1, .int a1), (2, .int a2), (3, .int (nI i))] [] mem Φ := by
  refine go_iload_n dX3_fitsIn_2 3 rfl ?_
  refine go_aload_n dX3_fitsIn_3 0 rfl ?_
  refine go_getI (kf := 3) rfl rfl rfl uwX3 (by decide) flX3_21 dX3_fitsIn_4 ?_
  refine go_icmp_ge 47 dX3_fitsIn_7 (by decide) (fun q => ?_) (fun q => ?_)
  · have h := h.1 q
    refine go_iconst (v := 1) dX3_fitsIn_47 (by decide) ?_
    exact go_zret (ty := .boolean) rfl rfl dX3_fitsIn_48 h
  · have h := h.2 q
    refine go_aload_n dX3_fitsIn_10 0 rfl ?_
    refine go_getR (kf := 0) (t := 26) rfl rfl rfl uwX3 (by decide) flX3_9 dX3_fitsIn_11 ?_
    refine go_iload_n dX3_fitsIn_14 3 rfl ?_
    obtain ⟨c1, h⟩ := h
    refine go_iaload rfl c1 dX3_fitsIn_15 ?_
    refine go_iload_n dX3_fitsIn_16 1 rfl ?_
    refine go_icmp_ne 41 dX3_fitsIn_17 (by decide) (fun q => ?_) (fun q => ?_)
    · have h := h.1 q
      refine go_iinc (v := ((nI i) + 1)) (L2 := [(3, .int ((nI i) + 1)), (0, .ref 25), (1, .int a1), (2, .int a2)]) dX3_fitsIn_41 3 rfl rfl (by decide) rfl ?_
      refine go_goto 2 dX3_fitsIn_44 (by decide) ?_
      exact Go.pick [1, 2, 3, 0] rfl h
    · have h := h.2 q
      refine go_iload_n dX3_fitsIn_20 2 rfl ?_
      refine go_aload_n dX3_fitsIn_21 0 rfl ?_
      refine go_getR (kf := 1) (t := 27) rfl rfl rfl uwX3 (by decide) flX3_15 dX3_fitsIn_22 ?_
      refine go_iload_n dX3_fitsIn_25 3 rfl ?_
      refine go_iaload rfl c1 dX3_fitsIn_26 ?_
      refine go_ishr dX3_fitsIn_27 ?_
      refine go_iconst (v := 1) dX3_fitsIn_28 (by decide) ?_
      refine go_iand dX3_fitsIn_29 ?_
      refine go_aload_n dX3_fitsIn_30 0 rfl ?_
      refine go_getR (kf := 2) (t := 28) rfl rfl rfl uwX3 (by decide) flX3_18 dX3_fitsIn_31 ?_
      refine go_iload_n dX3_fitsIn_34 3 rfl ?_
      refine go_iaload rfl c1 dX3_fitsIn_35 ?_
      refine go_icmp_eq 41 dX3_fitsIn_36 (by decide) (fun q => ?_) (fun q => ?_)
      · have h := h.1 q
        refine go_iinc (v := ((nI i) + 1)) (L2 := [(3, .int ((nI i) + 1)), (0, .ref 25), (1, .int a1), (2, .int a2)]) dX3_fitsIn_41 3 rfl rfl (by decide) rfl ?_
        refine go_goto 2 dX3_fitsIn_44 (by decide) ?_
        exact Go.pick [1, 2, 3, 0] rfl h
      · have h := h.2 q
        refine go_iconst (v := 0) dX3_fitsIn_39 (by decide) ?_
        exact go_zret (ty := .boolean) rfl rfl dX3_fitsIn_40 h


theorem mxI {N t : Nat} (hN : N < 1000) (ht : t < 1000) : (if (nI N - 1 : Int32) < nI t then nI t else nI N - 1) = (nI (if N < t + 1 then t + 1 else N) - 1 : Int32) := by
  rcases Nat.eq_zero_or_pos N with rfl | h
  · rw [if_pos (show 0 < t + 1 by omega), nI_sub1 (show 0 < t + 1 by omega), if_pos (Int32.lt_of_lt_of_le (show (nI 0 - 1 : Int32) < 0 by decide) (nI_pos' (by omega)))]
    rfl
  · rw [nI_sub1 h]
    by_cases q : N < t + 1
    · rw [if_pos q, nI_sub1 (show 0 < t + 1 by omega), Nat.add_sub_cancel]
      by_cases z : nI (N - 1) < nI t
      · rw [if_pos z]
      · rw [if_neg z]
        have : ¬ (N - 1 < t) := fun y => z ((nlt (by omega) (by omega)).mpr y)
        rw [show N - 1 = t by omega]
    · rw [if_neg q, nI_sub1 h, if_neg (fun z => absurd ((nlt (by omega) (by omega)).mp z) (by omega))]
theorem lX3_lastTick {G : GX} {d : Nat} {mem : Mem} (S : Se) (h : SeC mem S) : ∀ (r i : Nat), i + r = S.1 → Go G (d + 1) mX3_lastTick 4 [(0, .ref 25), (1, .int (nI (mxF S.2.1 i) - 1)), (2, .int (nI i))] [] mem (Ri (nI (mxF S.2.1 S.1) - 1) (fun m2 => m2 = mem)) := by
  intro r
  have h6 := h.1
  induction r with
  | zero =>
    intro i hi
    have hi2 : i = S.1 := by omega
    subst hi2
    refine sX3_lastTick_4 _ S.1 ⟨fun _ => Ri.mk rfl rfl, fun z => absurd ?_ z⟩
    rw [h.2.1]; exact Int32.le_refl _
  | succ r ih =>
    intro i hi
    obtain ⟨a, b, c, e, _⟩ := h.2.2 i (by omega)
    refine sX3_lastTick_4 _ i ⟨fun z => ?_, fun _ => ⟨nin (by omega) (by omega), ?_⟩⟩
    · rw [h.2.1] at z
      exact absurd ((nle (by omega) (by omega)).mp z) (by omega)
    · rw [ncl (show i < 2000000000 by omega), e, nI_1]
      intro y ey
      have hm := mxF_le (f := S.2.1) (B := 60) (n := i) (fun j hj => (h.2.2 j (by omega)).1)
      rw [mxI (by omega) (by omega)] at ey
      rw [ey]
      exact ih (i + 1) (by omega)
theorem kX3_lastTick {G : GX} (d : Nat) {mem : Mem} (S : Se) (h : SeC mem S) : Cn G (d + 1) mX3_lastTick [.ref 25] mem (Ri (nI (mxF S.2.1 S.1) - 1) (fun m2 => m2 = mem)) :=
  cn_of (by decide +kernel) (Nat.le_of_ble_eq_true rfl) (sX3_lastTick_0 (lX3_lastTick S h S.1 0 (by omega)))
theorem lX3_fitsIn {G : GX} {d : Nat} {mem : Mem} (t w : Nat) (ht : t < 100) (hw : w < 32) (S : Se) (h : SeC mem S) : ∀ (r i : Nat), i + r = S.1 → (∀ j, j < i → S.2.1 j = t → w / 2 ^ (S.2.2.1 j) % 2 = S.2.2.2 j) → Go G (d + 0) mX3_fitsIn 2 [(0, .ref 25), (1, .int (nI t)), (2, .int (nI w)), (3, .int (nI i))] [] mem (Ri (bI (∀ i, i < S.1 → S.2.1 i = t → w / 2 ^ (S.2.2.1 i) % 2 = S.2.2.2 i)) (fun m2 => m2 = mem)) := by
  intro r
  have h6 := h.1
  induction r with
  | zero =>
    intro i hi hp
    have hi2 : i = S.1 := by omega
    subst hi2
    refine sX3_fitsIn_2 _ _ S.1 ⟨fun _ => Ri.mk (bIt hp).symm rfl, fun z => absurd ?_ z⟩
    rw [h.2.1]; exact Int32.le_refl _
  | succ r ih =>
    intro i hi hp
    obtain ⟨a, b, c, e1, e2, e3⟩ := h.2.2 i (by omega)
    refine sX3_fitsIn_2 _ _ i ⟨fun z => ?_, fun _ => ⟨nin (by omega) (by omega), ?_⟩⟩
    · rw [h.2.1] at z
      exact absurd ((nle (by omega) (by omega)).mp z) (by omega)
    · rw [ncl (show i < 2000000000 by omega), e1, e2, e3, nI_1, bit_at w hw _ (by omega), neq (by omega) (by omega), neq (by omega) (by omega)]
      refine ⟨fun q => ih (i + 1) (by omega) (fun j hj hjt => ?_), fun q => ⟨fun q2 => ih (i + 1) (by omega) (fun j hj hjt => ?_), fun q2 => Ri.mk (bIf (fun z => q2 (z i (by omega) q))).symm rfl⟩⟩
      · by_cases z : j = i
        · subst z; exact absurd hjt q
        · exact hp j (by omega) hjt
      · by_cases z : j = i
        · subst z; exact q2
        · exact hp j (by omega) hjt
theorem kX3_fitsInI {G : GX} (d : Nat) {mem : Mem} (a1 a2 : Int32) (t w : Nat) (S : Se) (e : a1 = nI t ∧ a2 = nI w) (hb : t < 100 ∧ w < 32) (h : SeC mem S) : Cn G (d + 0) mX3_fitsIn [.ref 25, .int a1, .int a2] mem (Ri (bI (∀ i, i < S.1 → S.2.1 i = t → w / 2 ^ (S.2.2.1 i) % 2 = S.2.2.2 i)) (fun m2 => m2 = mem)) := by
  rw [e.1, e.2]
  exact cn_of (by decide +kernel) (Nat.le_of_ble_eq_true rfl) (sX3_fitsIn_0 _ _ (lX3_fitsIn t w hb.1 hb.2 S h S.1 0 (by omega) (fun j hj => by omega)))

set_option maxRecDepth 100000 in
theorem sX3_fits_0 {G : GX} {d : Nat} {mem : Mem} {Φ : Option Value → Mem → Prop} (b : Nat) (hB : BeamAt b) (S : Se) (h : (SeC mem S) ∧ Go G (d + 4) mX3_fits 7 [(0, .ref 25), (1, .ref b), (2, .int (nI (mxF S.2.1 S.1) - 1)), (3, .int 0)] [] mem Φ) : Go G (d + 4) mX3_fits 0 [(0, .ref 25), (1, .ref b)] [] mem Φ := by
  refine go_aload_n dX3_fits_0 0 rfl ?_
  obtain ⟨c1, h⟩ := h
  refine go_callV (st := []) (kX3_lastTick (d + 2) S c1) rfl rfl okX3_lastTick insX3_lastTick selX3_lastTick lkX3_25 rfl rfl (Nat.le_of_ble_eq_true rfl) dX3_fits_1 (fun v_ m2_ q => ?_)
  rw [q.1, q.2]
  refine go_stk (st2 := [.int (nI (mxF S.2.1 S.1) - 1)]) rfl ?_
  refine go_istore_n (L2 := [(2, .int (nI (mxF S.2.1 S.1) - 1)), (0, .ref 25), (1, .ref b)]) dX3_fits_4 (by decide) rfl ?_
  refine go_iconst (v := 0) dX3_fits_5 (by decide) ?_
  refine go_istore_n (L2 := [(3, .int 0), (2, .int (nI (mxF S.2.1 S.1) - 1)), (0, .ref 25), (1, .ref b)]) dX3_fits_6 (by decide) rfl ?_
  exact Go.pick [2, 3, 1, 0] rfl h

set_option maxRecDepth 100000 in
theorem sX3_fits_7 {G : GX} {d : Nat} {mem : Mem} {Φ : Option Value → Mem → Prop} (b : Nat) (hB : BeamAt b) (la : Int32) (t : Nat) (X : Bm) (S : Se) (h : ((la < (nI t) → Φ (some (.int 1)) mem) ∧ (¬ la < (nI t) → (VX 9 30 (itX 9 nof X t)) ∧ (RepB mem b (itX 9 nof X t)) ∧ ∀ m3 : Mem, (RepB m3 b (tkX 9 false (itX 9 nof X t)) ∧ FrB b mem m3) → ((nI t) = nI t ∧ (nI (who 9 (itX 9 nof X t))) = nI (who 9 (itX 9 nof X t))) ∧ (t < 100 ∧ (who 9 (itX 9 nof X t)) < 32) ∧ (SeC m3 S) ∧ (((∀ i, i < S.1 → S.2.1 i = t → (who 9 (itX 9 nof X t)) / 2 ^ (S.2.2.1 i) % 2 = S.2.2.2 i) → Go G (d + 4) mX3_fits 7 [(0, .ref 25), (1, .ref b), (2, .int la), (3, .int ((nI t) + 1))] [] m3 Φ) ∧ (¬ (∀ i, i < S.1 → S.2.1 i = t → (who 9 (itX 9 nof X t)) / 2 ^ (S.2.2.1 i) % 2 = S.2.2.2 i) → Φ (some (.int 0)) m3))))) : Go G (d + 4) mX3_fits 7 [(0, .ref 25), (1, .ref b), (2, .int la), (3, .int (nI t))] [] mem Φ := by
  refine go_iload_n dX3_fits_7 3 rfl ?_
  refine go_iload_n dX3_fits_8 2 rfl ?_
  refine go_icmp_gt 33 dX3_fits_9 (by decide) (fun q => ?_) (fun q => ?_)
  · have h := h.1 q
    refine go_iconst (v := 1) dX3_fits_33 (by decide) ?_
    exact go_zret (ty := .boolean) rfl rfl dX3_fits_34 h
  · have h := h.2 q
    refine go_aload_n dX3_fits_12 0 rfl ?_
    refine go_iload_n dX3_fits_13 3 rfl ?_
    refine go_aload_n dX3_fits_14 1 rfl ?_
    refine go_iconst (v := 0) dX3_fits_15 (by decide) ?_
    obtain ⟨c1, h⟩ := h
    obtain ⟨c2, h⟩ := h
    refine go_callV (st := [.int (nI t), .ref 25]) (kX0_step (d + 0) b hB (itX 9 nof X t) false 30 c1 c2) hB.1 rfl okX0_step insX0_step selX0_step lkX3_29 rfl rfl (Nat.le_of_ble_eq_true rfl) dX3_fits_16 (fun v_ m3 q => ?_)
    rw [q.1]
    have h := h m3 q.2
    refine go_stk (st2 := [.int (nI (who 9 (itX 9 nof X t))), .int (nI t), .ref 25]) rfl ?_
    obtain ⟨c4, h⟩ := h
    obtain ⟨c5, h⟩ := h
    obtain ⟨c6, h⟩ := h
    refine go_callV (st := []) (kX3_fitsInI (d + 3) (nI t) (nI (who 9 (itX 9 nof X t))) t (who 9 (itX 9 nof X t)) S c4 c5 c6) rfl rfl okX3_fitsIn insX3_fitsIn selX3_fitsIn lkX3_35 rfl rfl (Nat.le_of_ble_eq_true rfl) dX3_fits_19 (fun v_ m2_ q => ?_)
    rw [q.1, q.2]
    refine go_stk (st2 := [.int (bI (∀ i, i < S.1 → S.2.1 i = t → (who 9 (itX 9 nof X t)) / 2 ^ (S.2.2.1 i) % 2 = S.2.2.2 i))]) rfl ?_
    refine go_if_ne 27 dX3_fits_22 (by decide) (fun q => ?_) (fun q => ?_)
    · have h := h.1 (bI1.mp q)
      refine go_iinc (v := ((nI t) + 1)) (L2 := [(3, .int ((nI t) + 1)), (0, .ref 25), (1, .ref b), (2, .int la)]) dX3_fits_27 3 rfl rfl (by decide) rfl ?_
      refine go_goto 7 dX3_fits_30 (by decide) ?_
      exact Go.pick [1, 2, 3, 0] rfl h
    · have h := h.2 (bI0.mp q)
      refine go_iconst (v := 0) dX3_fits_25 (by decide) ?_
      exact go_zret (ty := .boolean) rfl rfl dX3_fits_26 h


theorem lX3_fits {G : GX} {d : Nat} {mem0 : Mem} (b : Nat) (hB : BeamAt b) (hb : b ≤ 20) (X : Bm) (S : Se) (hV : VX 9 30 X) (h : SeC mem0 S) : ∀ (r t : Nat) (m : Mem), t + r = mxF S.2.1 S.1 → FrB b mem0 m → RepB m b (itX 9 nof X t) → (∀ i, i < S.1 → S.2.1 i < t → who 9 (itX 9 nof X (S.2.1 i)) / 2 ^ (S.2.2.1 i) % 2 = S.2.2.2 i) → Go G (d + 4) mX3_fits 7 [(0, .ref 25), (1, .ref b), (2, .int (nI (mxF S.2.1 S.1) - 1)), (3, .int (nI t))] [] m (Ri (bI (sF S X = true)) (FrB b mem0)) := by
  intro r
  have hm := mxF_le (f := S.2.1) (B := 60) (n := S.1) (fun j hj => (h.2.2 j hj).1)
  induction r with
  | zero =>
    intro t m ht hF hR hp
    have ht2 : t = mxF S.2.1 S.1 := by omega
    refine sX3_fits_7 b hB _ t X S ⟨fun _ => Ri.mk ?_ hF, fun z => absurd ?_ z⟩
    · refine (bIt ?_).symm
      exact decide_eq_true (fun i hi => hp i hi (by rw [ht2]; exact mxF_lt hi))
    · rw [← ht2]
      rcases Nat.eq_zero_or_pos t with z | z
      · rw [z]; decide
      · rw [nI_sub1 z]; exact (nlt (by omega) (by omega)).mpr (by omega)
  | succ r ih =>
    intro t m ht hF hR hp
    refine sX3_fits_7 b hB _ t X S ⟨fun z => ?_, fun _ => ⟨VX_it hV t, hR, fun m3 h3 => ⟨⟨rfl, rfl⟩, ⟨by omega, who_lt (VX_it hV t)⟩, h.fr (fun k a c => by rw [h3.2 k (by omega), hF k (by omega)]), fun q => ?_, fun q => Ri.mk ?_ (fun k hk => by rw [h3.2 k hk, hF k hk])⟩⟩⟩
    · rw [nI_sub1 (by omega)] at z
      exact absurd ((nlt (by omega) (by omega)).mp z) (by omega)
    · rw [nI_1]
      refine ih (t + 1) m3 (by omega) (fun k hk => by rw [h3.2 k hk, hF k hk]) h3.1 (fun i hi hlt => ?_)
      by_cases z : S.2.1 i = t
      · rw [z]; exact q i hi z
      · exact hp i hi (by omega)
    · refine (bIf (fun z => q (fun i hi e => ?_))).symm
      have := of_decide_eq_true z i hi
      rw [e] at this
      exact this
theorem kX3_fits {G : GX} (d : Nat) {mem : Mem} (b : Nat) (hB : BeamAt b) (X : Bm) (S : Se) (hb : b ≤ 20) (hV : VX 9 30 X) (hR : RepB mem b X) (h : SeC mem S) : Cn G (d + 4) mX3_fits [.ref 25, .ref b] mem (Ri (bI (sF S X = true)) (FrB b mem)) :=
  cn_of (by decide +kernel) (Nat.le_of_ble_eq_true rfl) (sX3_fits_0 b hB S ⟨h, lX3_fits b hB hb X S hV h (mxF S.2.1 S.1) 0 mem (by omega) FrB.rf hR (fun i hi z => by omega)⟩)
theorem shl1 : ∀ v, v < 31 → ((1 : Int32) <<< (nI v &&& 31)) = nI (2 ^ v) := by decide +kernel
theorem or_bit {w v : Nat} (hv : v < 31) (hw : w < 2 ^ v) : nI w ||| ((1 : Int32) <<< (nI v &&& 31)) = nI (w + 2 ^ v) := by
  rw [shl1 v hv, Int32.or_comm, show 2 ^ v = 2 ^ v * 1 from (Nat.mul_one _).symm, fa_or_sum 1 hw, Nat.mul_one, Nat.add_comm]
def prQ (S : Se) (X : Bm) (c : Nat) : Nat → Bool := fun v => decide (2 ≤ v) && sF S (tpX X c v)

set_option maxRecDepth 100000 in
theorem sX5_kinds_0 {G : GX} {d : Nat} {mem : Mem} {Φ : Option Value → Mem → Prop} (a1 : Int32) (h : (((0 ≤ a1 ∧ a1 < mem 1 4) → Go G (d + 5) mX5_kinds 14 [(0, .ref 0), (1, .int a1), (2, .int 0), (3, .int 0)] [] mem Φ) ∧ (¬ (0 ≤ a1 ∧ a1 < mem 1 4) → Φ (some (.int (-1))) mem))) : Go G (d + 5) mX5_kinds 0 [(0, .ref 0), (1, .int a1)] [] mem Φ := by
  refine go_aload_n dX5_kinds_0 0 rfl ?_
  refine go_iload_n dX5_kinds_1 1 rfl ?_
  refine go_callV (st := []) (kX5_isClock (d + 4) a1) rfl rfl okX5_isClock insX5_isClock selX5_isClock lkX5_123 rfl rfl (Nat.le_of_ble_eq_true rfl) dX5_kinds_2 (fun v_ m2_ q => ?_)
  rw [q.1, q.2]
  refine go_stk (st2 := [.int (bI (0 ≤ a1 ∧ a1 < mem 1 4))]) rfl ?_
  refine go_if_ne 10 dX5_kinds_5 (by decide) (fun q => ?_) (fun q => ?_)
  · have h := h.1 (bI1.mp q)
    refine go_iconst (v := 0) dX5_kinds_10 (by decide) ?_
    refine go_istore_n (L2 := [(2, .int 0), (0, .ref 0), (1, .int a1)]) dX5_kinds_11 (by decide) rfl ?_
    refine go_iconst (v := 0) dX5_kinds_12 (by decide) ?_
    refine go_istore_n (L2 := [(3, .int 0), (2, .int 0), (0, .ref 0), (1, .int a1)]) dX5_kinds_13 (by decide) rfl ?_
    exact Go.pick [2, 3, 1, 0] rfl h
  · have h := h.2 (bI0.mp q)
    refine go_iconst (v := (-1)) dX5_kinds_8 (by decide) ?_
    exact go_iret rfl dX5_kinds_9 h

set_option maxRecDepth 100000 in
theorem sX5_kinds_14 {G : GX} {d : Nat} {mem : Mem} {Φ : Option Value → Mem → Prop} (a1 b : Int32) (c v : Nat) (X : Bm) (S : Se) (h : ((3 < (nI v) → Φ (some (.int b)) mem) ∧ (¬ 3 < (nI v) → (a1 = nI c ∧ (nI v) = nI v) ∧ (c < 5) ∧ (xn X ≤ 5) ∧ (RepB mem 1 X) ∧ ∀ m5 : Mem, (RepB m5 6 (stK X c v) ∧ FrB 6 mem m5) → (6 ≤ 20) ∧ (VX 9 30 (stK X c v)) ∧ (RepB m5 6 (stK X c v)) ∧ (SeC m5 S) ∧ ∀ m10 : Mem, FrB 6 m5 m10 → ((¬ (sF S (stK X c v) = true) → Go G (d + 5) mX5_kinds 14 [(0, .ref 0), (1, .int a1), (2, .int b), (3, .int ((nI v) + 1))] [] m10 Φ) ∧ ((sF S (stK X c v) = true) → ∀ y11 : Int32, y11 = (b ||| (1 <<< ((nI v) &&& 31))) → Go G (d + 5) mX5_kinds 14 [(0, .ref 0), (1, .int a1), (2, .int y11), (3, .int ((nI v) + 1))] [] m10 Φ))))) : Go G (d + 5) mX5_kinds 14 [(0, .ref 0), (1, .int a1), (2, .int b), (3, .int (nI v))] [] mem Φ := by
  refine go_iload_n dX5_kinds_14 3 rfl ?_
  refine go_iconst (v := 3) dX5_kinds_15 (by decide) ?_
  refine go_icmp_gt 47 dX5_kinds_16 (by decide) (fun q => ?_) (fun q => ?_)
  · have h := h.1 q
    refine go_iload_n dX5_kinds_47 2 rfl ?_
    exact go_iret rfl dX5_kinds_48 h
  · have h := h.2 q
    refine go_aload_n dX5_kinds_19 0 rfl ?_
    refine go_getR (kf := 5) (t := 25) rfl rfl rfl uwX5 (by decide) flX5_37 dX5_kinds_20 ?_
    refine go_aload_n dX5_kinds_23 0 rfl ?_
    refine go_iload_n dX5_kinds_24 1 rfl ?_
    refine go_iload_n dX5_kinds_25 3 rfl ?_
    obtain ⟨c1, h⟩ := h
    obtain ⟨c2, h⟩ := h
    obtain ⟨c3, h⟩ := h
    obtain ⟨c4, h⟩ := h
    refine go_callV (st := [.ref 25]) (kX5_tryKind (d + 1) a1 (nI v) c v X c1 c2 c3 c4) rfl rfl okX5_tryKind insX5_tryKind selX5_tryKind lkX5_200 rfl rfl (Nat.le_of_ble_eq_true rfl) dX5_kinds_26 (fun v_ m5 q => ?_)
    rw [q.1]
    have h := h m5 q.2
    refine go_stk (st2 := [.ref 6, .ref 25]) rfl ?_
    obtain ⟨c6, h⟩ := h
    obtain ⟨c7, h⟩ := h
    obtain ⟨c8, h⟩ := h
    obtain ⟨c9, h⟩ := h
    refine go_callV (st := []) (kX3_fits (d + 0) 6 bA6 (stK X c v) S c6 c7 c8 c9) rfl rfl okX3_fits insX3_fits selX3_fits lkX5_230 rfl rfl (Nat.le_of_ble_eq_true rfl) dX5_kinds_29 (fun v_ m10 q => ?_)
    rw [q.1]
    have h := h m10 q.2
    refine go_stk (st2 := [.int (bI (sF S (stK X c v) = true))]) rfl ?_
    refine go_if_eq 41 dX5_kinds_32 (by decide) (fun q => ?_) (fun q => ?_)
    · have h := h.1 (bI0.mp q)
      refine go_iinc (v := ((nI v) + 1)) (L2 := [(3, .int ((nI v) + 1)), (0, .ref 0), (1, .int a1), (2, .int b)]) dX5_kinds_41 3 rfl rfl (by decide) rfl ?_
      refine go_goto 14 dX5_kinds_44 (by decide) ?_
      exact Go.pick [1, 2, 3, 0] rfl h
    · have h := h.2 (bI1.mp q)
      refine go_iload_n dX5_kinds_35 2 rfl ?_
      refine go_iconst (v := 1) dX5_kinds_36 (by decide) ?_
      refine go_iload_n dX5_kinds_37 3 rfl ?_
      refine go_ishl dX5_kinds_38 ?_
      refine go_ior dX5_kinds_39 ?_
      refine go_topi (fun y11 qy11 => ?_)
      have h := h y11 qy11
      refine go_istore_n (L2 := [(2, .int y11), (0, .ref 0), (1, .int a1), (3, .int (nI v))]) dX5_kinds_40 (by decide) rfl ?_
      refine go_iinc (v := ((nI v) + 1)) (L2 := [(3, .int ((nI v) + 1)), (2, .int y11), (0, .ref 0), (1, .int a1)]) dX5_kinds_41 3 rfl rfl (by decide) rfl ?_
      refine go_goto 14 dX5_kinds_44 (by decide) ?_
      exact Go.pick [2, 3, 1, 0] rfl h


theorem lX5_kinds {G : GX} {d : Nat} {mem0 : Mem} (c : Nat) (X : Bm) (S : Se) (hV : VX 9 30 X) (hc : c < xn X) (hR : RepB mem0 1 X) (hS : SeC mem0 S) : ∀ (r v : Nat) (m : Mem), v + r = 4 → 0 ≤ v → QC mem0 m → Go G (d + 5) mX5_kinds 14 [(0, .ref 0), (1, .int (nI c)), (2, .int (nI (whF (fun v => sF S (stK X c v)) v))), (3, .int (nI v))] [] m (Ri (nI (whF (fun v => sF S (stK X c v)) (4))) (QC mem0)) := by
  intro r
  have hn := hV.1
  obtain ⟨q1, q2, q3, q4, _⟩ := hV.2.2 c hc
  have q4 := q4 (by omega)
  induction r with
  | zero =>
    intro v m hv hl h1
    have ep : m 3 c = nI (xp X c) := by rw [h1 3 (by omega) (by omega) (by omega)]; exact (hR.2.2.2 c hc).2.1
    have hv2 : v = 4 := by omega
    refine sX5_kinds_14 (nI c) _ c v X S ⟨fun _ => Ri.mk (by rw [hv2]) h1, fun z => ?_⟩
    exact absurd ((nlt (a := 3) (by omega) (by omega)).mpr (by omega)) z
  | succ r ih =>
    intro v m hv hl h1
    have ep : m 3 c = nI (xp X c) := by rw [h1 3 (by omega) (by omega) (by omega)]; exact (hR.2.2.2 c hc).2.1
    have hR1 : RepB m 1 X := hR.fr (fun j a b => h1 j (by omega) (by omega) (by omega))
    have hS1 : SeC m S := hS.fr (fun k a b => h1 k (by omega) (by omega) (by omega))
    have eQ : (fun v => sF S (stK X c v)) v = sF S (stK X c v) := rfl
    refine sX5_kinds_14 (nI c) _ c v X S ⟨fun z => ?_, fun _ => ⟨⟨rfl, rfl⟩, by omega, hn, hR1, fun m7 h7 => ⟨by omega, VX_k hV (by omega), h7.1, hS1.fr (fun k a b => h7.2 k (by omega)), fun m13 h13 => ⟨fun q => ?_, fun q y ey => ?_⟩⟩⟩⟩
    · exact absurd ((nlt (a := 3) (by omega) (by omega)).mp z) (by omega)
    · have i9 := ih (v + 1) m13 (by omega) (by omega) ((h1.of6 h7.2).of6 h13)
      rw [whF_f (fun z => q (eQ.symm.trans z))] at i9
      rw [nI_1]; exact i9
    · have i9 := ih (v + 1) m13 (by omega) (by omega) ((h1.of6 h7.2).of6 h13)
      rw [whF_t (eQ.trans q)] at i9
      rw [nI_1, ey, or_bit (by omega) (whF_lt _ _)]; exact i9

set_option maxRecDepth 100000 in
theorem sX5_periods_0 {G : GX} {d : Nat} {mem : Mem} {Φ : Option Value → Mem → Prop} (a1 : Int32) (h : (((0 ≤ a1 ∧ a1 < mem 1 4) → Go G (d + 5) mX5_periods 14 [(0, .ref 0), (1, .int a1), (2, .int 0), (3, .int 2)] [] mem Φ) ∧ (¬ (0 ≤ a1 ∧ a1 < mem 1 4) → Φ (some (.int (-1))) mem))) : Go G (d + 5) mX5_periods 0 [(0, .ref 0), (1, .int a1)] [] mem Φ := by
  refine go_aload_n dX5_periods_0 0 rfl ?_
  refine go_iload_n dX5_periods_1 1 rfl ?_
  refine go_callV (st := []) (kX5_isClock (d + 4) a1) rfl rfl okX5_isClock insX5_isClock selX5_isClock lkX5_123 rfl rfl (Nat.le_of_ble_eq_true rfl) dX5_periods_2 (fun v_ m2_ q => ?_)
  rw [q.1, q.2]
  refine go_stk (st2 := [.int (bI (0 ≤ a1 ∧ a1 < mem 1 4))]) rfl ?_
  refine go_if_ne 10 dX5_periods_5 (by decide) (fun q => ?_) (fun q => ?_)
  · have h := h.1 (bI1.mp q)
    refine go_iconst (v := 0) dX5_periods_10 (by decide) ?_
    refine go_istore_n (L2 := [(2, .int 0), (0, .ref 0), (1, .int a1)]) dX5_periods_11 (by decide) rfl ?_
    refine go_iconst (v := 2) dX5_periods_12 (by decide) ?_
    refine go_istore_n (L2 := [(3, .int 2), (2, .int 0), (0, .ref 0), (1, .int a1)]) dX5_periods_13 (by decide) rfl ?_
    exact Go.pick [2, 3, 1, 0] rfl h
  · have h := h.2 (bI0.mp q)
    refine go_iconst (v := (-1)) dX5_periods_8 (by decide) ?_
    exact go_iret rfl dX5_periods_9 h

set_option maxRecDepth 100000 in
theorem sX5_periods_14 {G : GX} {d : Nat} {mem : Mem} {Φ : Option Value → Mem → Prop} (a1 b : Int32) (c v : Nat) (X : Bm) (S : Se) (h : ((30 < (nI v) → Φ (some (.int b)) mem) ∧ (¬ 30 < (nI v) → (a1 = nI c ∧ (nI v) = nI v) ∧ (c < 5) ∧ (xn X ≤ 5) ∧ (RepB mem 1 X) ∧ (1 ≤ v) ∧ (xh X c < 1000000 ∧ v < 1000000 ∧ c < xn X) ∧ ∀ m7 : Mem, (RepB m7 6 (tpX X c v) ∧ FrB 6 mem m7) → (6 ≤ 20) ∧ (VX 9 30 (tpX X c v)) ∧ (RepB m7 6 (tpX X c v)) ∧ (SeC m7 S) ∧ ∀ m12 : Mem, FrB 6 m7 m12 → ((¬ (sF S (tpX X c v) = true) → Go G (d + 5) mX5_periods 14 [(0, .ref 0), (1, .int a1), (2, .int b), (3, .int ((nI v) + 1))] [] m12 Φ) ∧ ((sF S (tpX X c v) = true) → ∀ y13 : Int32, y13 = (b ||| (1 <<< ((nI v) &&& 31))) → Go G (d + 5) mX5_periods 14 [(0, .ref 0), (1, .int a1), (2, .int y13), (3, .int ((nI v) + 1))] [] m12 Φ))))) : Go G (d + 5) mX5_periods 14 [(0, .ref 0), (1, .int a1), (2, .int b), (3, .int (nI v))] [] mem Φ := by
  refine go_iload_n dX5_periods_14 3 rfl ?_
  refine go_bipush (v := 30) dX5_periods_15 (by decide) ?_
  refine go_icmp_gt 48 dX5_periods_17 (by decide) (fun q => ?_) (fun q => ?_)
  · have h := h.1 q
    refine go_iload_n dX5_periods_48 2 rfl ?_
    exact go_iret rfl dX5_periods_49 h
  · have h := h.2 q
    refine go_aload_n dX5_periods_20 0 rfl ?_
    refine go_getR (kf := 5) (t := 25) rfl rfl rfl uwX5 (by decide) flX5_37 dX5_periods_21 ?_
    refine go_aload_n dX5_periods_24 0 rfl ?_
    refine go_iload_n dX5_periods_25 1 rfl ?_
    refine go_iload_n dX5_periods_26 3 rfl ?_
    obtain ⟨c1, h⟩ := h
    obtain ⟨c2, h⟩ := h
    obtain ⟨c3, h⟩ := h
    obtain ⟨c4, h⟩ := h
    obtain ⟨c5, h⟩ := h
    obtain ⟨c6, h⟩ := h
    refine go_callV (st := [.ref 25]) (kX5_tryPeriod (d + 1) a1 (nI v) c v X c1 c2 c3 c4 c5 c6) rfl rfl okX5_tryPeriod insX5_tryPeriod selX5_tryPeriod lkX5_186 rfl rfl (Nat.le_of_ble_eq_true rfl) dX5_periods_27 (fun v_ m7 q => ?_)
    rw [q.1]
    have h := h m7 q.2
    refine go_stk (st2 := [.ref 6, .ref 25]) rfl ?_
    obtain ⟨c8, h⟩ := h
    obtain ⟨c9, h⟩ := h
    obtain ⟨c10, h⟩ := h
    obtain ⟨c11, h⟩ := h
    refine go_callV (st := []) (kX3_fits (d + 0) 6 bA6 (tpX X c v) S c8 c9 c10 c11) rfl rfl okX3_fits insX3_fits selX3_fits lkX5_230 rfl rfl (Nat.le_of_ble_eq_true rfl) dX5_periods_30 (fun v_ m12 q => ?_)
    rw [q.1]
    have h := h m12 q.2
    refine go_stk (st2 := [.int (bI (sF S (tpX X c v) = true))]) rfl ?_
    refine go_if_eq 42 dX5_periods_33 (by decide) (fun q => ?_) (fun q => ?_)
    · have h := h.1 (bI0.mp q)
      refine go_iinc (v := ((nI v) + 1)) (L2 := [(3, .int ((nI v) + 1)), (0, .ref 0), (1, .int a1), (2, .int b)]) dX5_periods_42 3 rfl rfl (by decide) rfl ?_
      refine go_goto 14 dX5_periods_45 (by decide) ?_
      exact Go.pick [1, 2, 3, 0] rfl h
    · have h := h.2 (bI1.mp q)
      refine go_iload_n dX5_periods_36 2 rfl ?_
      refine go_iconst (v := 1) dX5_periods_37 (by decide) ?_
      refine go_iload_n dX5_periods_38 3 rfl ?_
      refine go_ishl dX5_periods_39 ?_
      refine go_ior dX5_periods_40 ?_
      refine go_topi (fun y13 qy13 => ?_)
      have h := h y13 qy13
      refine go_istore_n (L2 := [(2, .int y13), (0, .ref 0), (1, .int a1), (3, .int (nI v))]) dX5_periods_41 (by decide) rfl ?_
      refine go_iinc (v := ((nI v) + 1)) (L2 := [(3, .int ((nI v) + 1)), (2, .int y13), (0, .ref 0), (1, .int a1)]) dX5_periods_42 3 rfl rfl (by decide) rfl ?_
      refine go_goto 14 dX5_periods_45 (by decide) ?_
      exact Go.pick [2, 3, 1, 0] rfl h


theorem lX5_periods {G : GX} {d : Nat} {mem0 : Mem} (c : Nat) (X : Bm) (S : Se) (hV : VX 9 30 X) (hc : c < xn X) (hR : RepB mem0 1 X) (hS : SeC mem0 S) : ∀ (r v : Nat) (m : Mem), v + r = 31 → 2 ≤ v → QC mem0 m → Go G (d + 5) mX5_periods 14 [(0, .ref 0), (1, .int (nI c)), (2, .int (nI (whF (prQ S X c) v))), (3, .int (nI v))] [] m (Ri (nI (whF (prQ S X c) (31))) (QC mem0)) := by
  intro r
  have hn := hV.1
  obtain ⟨q1, q2, q3, q4, _⟩ := hV.2.2 c hc
  have q4 := q4 (by omega)
  induction r with
  | zero =>
    intro v m hv hl h1
    have ep : m 3 c = nI (xp X c) := by rw [h1 3 (by omega) (by omega) (by omega)]; exact (hR.2.2.2 c hc).2.1
    have hv2 : v = 31 := by omega
    refine sX5_periods_14 (nI c) _ c v X S ⟨fun _ => Ri.mk (by rw [hv2]) h1, fun z => ?_⟩
    exact absurd ((nlt (a := 30) (by omega) (by omega)).mpr (by omega)) z
  | succ r ih =>
    intro v m hv hl h1
    have ep : m 3 c = nI (xp X c) := by rw [h1 3 (by omega) (by omega) (by omega)]; exact (hR.2.2.2 c hc).2.1
    have hR1 : RepB m 1 X := hR.fr (fun j a b => h1 j (by omega) (by omega) (by omega))
    have hS1 : SeC m S := hS.fr (fun k a b => h1 k (by omega) (by omega) (by omega))
    have eQ : (prQ S X c) v = sF S (tpX X c v) := by unfold prQ; rw [decide_eq_true (show 2 ≤ v by omega), Bool.true_and]
    refine sX5_periods_14 (nI c) _ c v X S ⟨fun z => ?_, fun _ => ⟨⟨rfl, rfl⟩, by omega, hn, hR1, by omega, ⟨by omega, by omega, hc⟩, fun m7 h7 => ⟨by omega, VX_tp hV (by omega) (by omega) hc, h7.1, hS1.fr (fun k a b => h7.2 k (by omega)), fun m13 h13 => ⟨fun q => ?_, fun q y ey => ?_⟩⟩⟩⟩
    · exact absurd ((nlt (a := 30) (by omega) (by omega)).mp z) (by omega)
    · have i9 := ih (v + 1) m13 (by omega) (by omega) ((h1.of6 h7.2).of6 h13)
      rw [whF_f (fun z => q (eQ.symm.trans z))] at i9
      rw [nI_1]; exact i9
    · have i9 := ih (v + 1) m13 (by omega) (by omega) ((h1.of6 h7.2).of6 h13)
      rw [whF_t (eQ.trans q)] at i9
      rw [nI_1, ey, or_bit (by omega) (whF_lt _ _)]; exact i9

set_option maxRecDepth 100000 in
theorem sX5_handsAsSeen_0 {G : GX} {d : Nat} {mem : Mem} {Φ : Option Value → Mem → Prop} (a1 : Int32) (h : Go G (d + 5) mX5_handsAsSeen 4 [(0, .ref 0), (1, .int a1), (2, .int 0), (3, .int 0)] [] mem Φ) : Go G (d + 5) mX5_handsAsSeen 0 [(0, .ref 0), (1, .int a1)] [] mem Φ := by
  refine go_iconst (v := 0) dX5_handsAsSeen_0 (by decide) ?_
  refine go_istore_n (L2 := [(2, .int 0), (0, .ref 0), (1, .int a1)]) dX5_handsAsSeen_1 (by decide) rfl ?_
  refine go_iconst (v := 0) dX5_handsAsSeen_2 (by decide) ?_
  refine go_istore_n (L2 := [(3, .int 0), (2, .int 0), (0, .ref 0), (1, .int a1)]) dX5_handsAsSeen_3 (by decide) rfl ?_
  exact Go.pick [2, 3, 1, 0] rfl h

set_option maxRecDepth 100000 in
theorem sX5_handsAsSeen_4 {G : GX} {d : Nat} {mem : Mem} {Φ : Option Value → Mem → Prop} (a1 b : Int32) (c v : Nat) (X : Bm) (S : Se) (h : (vp_in a1 5) ∧ (((mem 3 (a1 : Int32).toNatClampNeg) ≤ (nI v) → Φ (some (.int b)) mem) ∧ (¬ (mem 3 (a1 : Int32).toNatClampNeg) ≤ (nI v) → (a1 = nI c ∧ (nI v) = nI v) ∧ (c < 5) ∧ (xn X ≤ 5) ∧ (RepB mem 1 X) ∧ ∀ m6 : Mem, (RepB m6 6 (stH X c v) ∧ FrB 6 mem m6) → (6 ≤ 20) ∧ (VX 9 30 (stH X c v)) ∧ (RepB m6 6 (stH X c v)) ∧ (SeC m6 S) ∧ ∀ m11 : Mem, FrB 6 m6 m11 → ((¬ (sF S (stH X c v) = true) → Go G (d + 5) mX5_handsAsSeen 4 [(0, .ref 0), (1, .int a1), (2, .int b), (3, .int ((nI v) + 1))] [] m11 Φ) ∧ ((sF S (stH X c v) = true) → ∀ y12 : Int32, y12 = (b ||| (1 <<< ((nI v) &&& 31))) → Go G (d + 5) mX5_handsAsSeen 4 [(0, .ref 0), (1, .int a1), (2, .int y12), (3, .int ((nI v) + 1))] [] m11 Φ))))) : Go G (d + 5) mX5_handsAsSeen 4 [(0, .ref 0), (1, .int a1), (2, .int b), (3, .int (nI v))] [] mem Φ := by
  refine go_iload_n dX5_handsAsSeen_4 3 rfl ?_
  refine go_aload_n dX5_handsAsSeen_5 0 rfl ?_
  refine go_getR (kf := 0) (t := 1) rfl rfl rfl uwX5 (by decide) flX5_12 dX5_handsAsSeen_6 ?_
  refine go_getR (kf := 1) (t := 3) rfl rfl rfl uwX0 (by decide) flX5_130 dX5_handsAsSeen_9 ?_
  refine go_iload_n dX5_handsAsSeen_12 1 rfl ?_
  obtain ⟨c1, h⟩ := h
  refine go_iaload rfl c1 dX5_handsAsSeen_13 ?_
  refine go_icmp_ge 45 dX5_handsAsSeen_14 (by decide) (fun q => ?_) (fun q => ?_)
  · have h := h.1 q
    refine go_iload_n dX5_handsAsSeen_45 2 rfl ?_
    exact go_iret rfl dX5_handsAsSeen_46 h
  · have h := h.2 q
    refine go_aload_n dX5_handsAsSeen_17 0 rfl ?_
    refine go_getR (kf := 5) (t := 25) rfl rfl rfl uwX5 (by decide) flX5_37 dX5_handsAsSeen_18 ?_
    refine go_aload_n dX5_handsAsSeen_21 0 rfl ?_
    refine go_iload_n dX5_handsAsSeen_22 1 rfl ?_
    refine go_iload_n dX5_handsAsSeen_23 3 rfl ?_
    obtain ⟨c2, h⟩ := h
    obtain ⟨c3, h⟩ := h
    obtain ⟨c4, h⟩ := h
    obtain ⟨c5, h⟩ := h
    refine go_callV (st := [.ref 25]) (kX5_tryHand (d + 1) a1 (nI v) c v X c2 c3 c4 c5) rfl rfl okX5_tryHand insX5_tryHand selX5_tryHand lkX5_197 rfl rfl (Nat.le_of_ble_eq_true rfl) dX5_handsAsSeen_24 (fun v_ m6 q => ?_)
    rw [q.1]
    have h := h m6 q.2
    refine go_stk (st2 := [.ref 6, .ref 25]) rfl ?_
    obtain ⟨c7, h⟩ := h
    obtain ⟨c8, h⟩ := h
    obtain ⟨c9, h⟩ := h
    obtain ⟨c10, h⟩ := h
    refine go_callV (st := []) (kX3_fits (d + 0) 6 bA6 (stH X c v) S c7 c8 c9 c10) rfl rfl okX3_fits insX3_fits selX3_fits lkX5_230 rfl rfl (Nat.le_of_ble_eq_true rfl) dX5_handsAsSeen_27 (fun v_ m11 q => ?_)
    rw [q.1]
    have h := h m11 q.2
    refine go_stk (st2 := [.int (bI (sF S (stH X c v) = true))]) rfl ?_
    refine go_if_eq 39 dX5_handsAsSeen_30 (by decide) (fun q => ?_) (fun q => ?_)
    · have h := h.1 (bI0.mp q)
      refine go_iinc (v := ((nI v) + 1)) (L2 := [(3, .int ((nI v) + 1)), (0, .ref 0), (1, .int a1), (2, .int b)]) dX5_handsAsSeen_39 3 rfl rfl (by decide) rfl ?_
      refine go_goto 4 dX5_handsAsSeen_42 (by decide) ?_
      exact Go.pick [1, 2, 3, 0] rfl h
    · have h := h.2 (bI1.mp q)
      refine go_iload_n dX5_handsAsSeen_33 2 rfl ?_
      refine go_iconst (v := 1) dX5_handsAsSeen_34 (by decide) ?_
      refine go_iload_n dX5_handsAsSeen_35 3 rfl ?_
      refine go_ishl dX5_handsAsSeen_36 ?_
      refine go_ior dX5_handsAsSeen_37 ?_
      refine go_topi (fun y12 qy12 => ?_)
      have h := h y12 qy12
      refine go_istore_n (L2 := [(2, .int y12), (0, .ref 0), (1, .int a1), (3, .int (nI v))]) dX5_handsAsSeen_38 (by decide) rfl ?_
      refine go_iinc (v := ((nI v) + 1)) (L2 := [(3, .int ((nI v) + 1)), (2, .int y12), (0, .ref 0), (1, .int a1)]) dX5_handsAsSeen_39 3 rfl rfl (by decide) rfl ?_
      refine go_goto 4 dX5_handsAsSeen_42 (by decide) ?_
      exact Go.pick [2, 3, 1, 0] rfl h


theorem lX5_handsAsSeen {G : GX} {d : Nat} {mem0 : Mem} (c : Nat) (X : Bm) (S : Se) (hV : VX 9 30 X) (hc : c < xn X) (hR : RepB mem0 1 X) (hS : SeC mem0 S) : ∀ (r v : Nat) (m : Mem), v + r = xp X c → 0 ≤ v → QC mem0 m → Go G (d + 5) mX5_handsAsSeen 4 [(0, .ref 0), (1, .int (nI c)), (2, .int (nI (whF (fun v => sF S (stH X c v)) v))), (3, .int (nI v))] [] m (Ri (nI (whF (fun v => sF S (stH X c v)) (xp X c))) (QC mem0)) := by
  intro r
  have hn := hV.1
  obtain ⟨q1, q2, q3, q4, _⟩ := hV.2.2 c hc
  have q4 := q4 (by omega)
  induction r with
  | zero =>
    intro v m hv hl h1
    have ep : m 3 c = nI (xp X c) := by rw [h1 3 (by omega) (by omega) (by omega)]; exact (hR.2.2.2 c hc).2.1
    have hv2 : v = xp X c := by omega
    refine sX5_handsAsSeen_4 (nI c) _ c v X S ⟨nin (by omega) (by omega), ⟨fun _ => Ri.mk (by rw [hv2]) h1, fun z => ?_⟩⟩
    rw [ncl (show c < 2000000000 by omega), ep] at z; exact absurd ((nle (a := xp X c) (by omega) (by omega)).mpr (by omega)) z
  | succ r ih =>
    intro v m hv hl h1
    have ep : m 3 c = nI (xp X c) := by rw [h1 3 (by omega) (by omega) (by omega)]; exact (hR.2.2.2 c hc).2.1
    have hR1 : RepB m 1 X := hR.fr (fun j a b => h1 j (by omega) (by omega) (by omega))
    have hS1 : SeC m S := hS.fr (fun k a b => h1 k (by omega) (by omega) (by omega))
    have eQ : (fun v => sF S (stH X c v)) v = sF S (stH X c v) := rfl
    refine sX5_handsAsSeen_4 (nI c) _ c v X S ⟨nin (by omega) (by omega), ⟨fun z => ?_, fun _ => ⟨⟨rfl, rfl⟩, by omega, hn, hR1, fun m7 h7 => ⟨by omega, VX_h hV (fun _ => by omega), h7.1, hS1.fr (fun k a b => h7.2 k (by omega)), fun m13 h13 => ⟨fun q => ?_, fun q y ey => ?_⟩⟩⟩⟩⟩
    · rw [ncl (show c < 2000000000 by omega), ep] at z; exact absurd ((nle (a := xp X c) (by omega) (by omega)).mp z) (by omega)
    · have i9 := ih (v + 1) m13 (by omega) (by omega) ((h1.of6 h7.2).of6 h13)
      rw [whF_f (fun z => q (eQ.symm.trans z))] at i9
      rw [nI_1]; exact i9
    · have i9 := ih (v + 1) m13 (by omega) (by omega) ((h1.of6 h7.2).of6 h13)
      rw [whF_t (eQ.trans q)] at i9
      rw [nI_1, ey, or_bit (by omega) (whF_lt _ _)]; exact i9
