set_option maxRecDepth 100000 in
theorem sX6_in_0 {G : GX} {d : Nat} {mem : Mem} {Φ : Option Value → Mem → Prop} (a0 : Int64) (a2 : Int64) (a4 : Int64) (h : (((lg_cmp a0 a2) < 0 → Φ (some (.int 0)) mem) ∧ (¬ (lg_cmp a0 a2) < 0 → ((0 < (lg_cmp a0 a4) → Φ (some (.int 0)) mem) ∧ (¬ 0 < (lg_cmp a0 a4) → Φ (some (.int 1)) mem))))) : Go G (d + 0) mX6_in 0 [(0, .long a0), (2, .long a2), (4, .long a4)] [] mem Φ := by
  refine go_lload_n dX6_in_0 0 rfl ?_
  refine go_lload_n dX6_in_1 1 rfl ?_
  refine go_lcmp dX6_in_2 ?_
  refine go_if_lt 17 dX6_in_3 (by decide) (fun q => ?_) (fun q => ?_)
  · have h := h.1 q
    refine go_iconst (v := 0) dX6_in_17 (by decide) ?_
    exact go_zret (ty := .boolean) rfl rfl dX6_in_18 h
  · have h := h.2 q
    refine go_lload_n dX6_in_6 0 rfl ?_
    refine go_lload dX6_in_7 2 rfl ?_
    refine go_lcmp dX6_in_9 ?_
    refine go_if_gt 17 dX6_in_10 (by decide) (fun q => ?_) (fun q => ?_)
    · have h := h.1 q
      refine go_iconst (v := 0) dX6_in_17 (by decide) ?_
      exact go_zret (ty := .boolean) rfl rfl dX6_in_18 h
    · have h := h.2 q
      refine go_iconst (v := 1) dX6_in_13 (by decide) ?_
      refine go_goto 18 dX6_in_14 (by decide) ?_
      exact go_zret (ty := .boolean) rfl rfl dX6_in_18 h


theorem lgc_lt (x y : Int64) : lg_cmp x y < 0 ↔ x < y := by
  rw [← Int32.not_le, lg_cmp_ge, Int64.not_le]
theorem lgc_gt (x y : Int64) : 0 < lg_cmp x y ↔ y < x := by
  unfold lg_cmp
  by_cases h : x > y
  · rw [if_pos h]; exact ⟨fun _ => h, fun _ => by decide⟩
  · rw [if_neg h]
    by_cases e : x = y
    · rw [if_pos e]; exact ⟨fun q => absurd q (by decide), fun q => absurd q h⟩
    · rw [if_neg e]; exact ⟨fun q => absurd q (by decide), fun q => absurd q h⟩
theorem kX6_inL {G : GX} (d : Nat) {mem : Mem} (v lo hi : Int64) : Cn G (d + 0) mX6_in [.long v, .long lo, .long hi] mem (Ri (bI (lo ≤ v ∧ v ≤ hi)) (fun m2 => m2 = mem)) := by
  refine cn_of (by decide +kernel) (Nat.le_of_ble_eq_true rfl) (sX6_in_0 v lo hi ?_)
  rw [lgc_lt, lgc_gt]
  exact ⟨fun q => Ri.mk (bIf (fun z => absurd z.1 (Int64.not_le.mpr q))).symm rfl, fun q => ⟨fun r => Ri.mk (bIf (fun z => absurd z.2 (Int64.not_le.mpr r))).symm rfl, fun r => Ri.mk (bIt ⟨Int64.not_lt.mp q, Int64.not_lt.mp r⟩).symm rfl⟩⟩
theorem kX6_in {G : GX} (d : Nat) {mem : Mem} (v lo hi : Int32) (L H : Int64) (eL : L = lo.toInt64) (eH : H = hi.toInt64) : Cn G (d + 0) mX6_in [.long v.toInt64, .long L, .long H] mem (Ri (bI (lo ≤ v ∧ v ≤ hi)) (fun m2 => m2 = mem)) := by
  have h := kX6_inL (G := G) d (mem := mem) v.toInt64 L H
  rw [bI_congr (e := lo ≤ v ∧ v ≤ hi) (by rw [eL, eH, fa_wide_le, fa_wide_le])] at h
  exact h
theorem z20 : (20 : Int32).toNatClampNeg = 20 := by decide

set_option maxRecDepth 100000 in
theorem sX6_isClock_0 {G : GX} {d : Nat} {mem : Mem} {Φ : Option Value → Mem → Prop} (a1 : Int32) (h : Φ (some (.int (bI (0 ≤ a1 ∧ a1 ≤ ((mem 41 (20 : Int32).toNatClampNeg) - 1))))) mem) : Go G (d + 1) mX6_isClock 0 [(0, .ref 40), (1, .int a1)] [] mem Φ := by
  refine go_iload_n dX6_isClock_0 1 rfl ?_
  refine go_i2l dX6_isClock_1 ?_
  refine go_lconst (v := 0) dX6_isClock_2 (by decide) ?_
  refine go_aload_n dX6_isClock_3 0 rfl ?_
  refine go_getR (kf := 0) (t := 41) rfl rfl rfl uwX6 (by decide) flX6_7 dX6_isClock_4 ?_
  refine go_bipush (v := 20) dX6_isClock_7 (by decide) ?_
  refine go_iaload rfl (nin (a := 20) (by decide) (by decide)) dX6_isClock_9 ?_
  refine go_iconst (v := 1) dX6_isClock_10 (by decide) ?_
  refine go_isub dX6_isClock_11 ?_
  refine go_i2l dX6_isClock_12 ?_
  refine go_callS (st := []) (kX6_in (d + 0) a1 0 ((mem 41 (20 : Int32).toNatClampNeg) - 1) 0 ((((mem 41 (20 : Int32).toNatClampNeg) - 1) : Int32).toInt64) (by decide) rfl) okX6_in staX6_in lkX6_50 rfl rfl (Nat.le_of_ble_eq_true rfl) dX6_isClock_13 (fun v_ m2_ q => ?_)
  rw [q.1, q.2]
  refine go_stk (st2 := [.int (bI (0 ≤ a1 ∧ a1 ≤ ((mem 41 (20 : Int32).toNatClampNeg) - 1)))]) rfl ?_
  exact go_zret (ty := .boolean) rfl (nbI _) dX6_isClock_16 h


theorem kX6_isClock {G : GX} (d : Nat) {mem : Mem} (c : Int32) : Cn G (d + 1) mX6_isClock [.ref 40, .int c] mem (Ri (bI (0 ≤ c ∧ c ≤ ((mem 41 20) - 1))) (fun m2 => m2 = mem)) :=
  cn_of (by decide +kernel) (Nat.le_of_ble_eq_true rfl) (sX6_isClock_0 c ⟨by rw [z20], rfl⟩)
theorem qa {P k : Nat} (h : P + k < 2000000000) : (nI P + nI k).toNatClampNeg = P + k := by rw [nI_add]; exact ncl h
theorem qi {P k n : Nat} (h : P + k < n) (hn : n < 2000000000) : vp_in (nI P + nI k) n := by rw [nI_add]; exact nin h hn
theorem qa2 {P k i : Nat} (h : P + k + i < 2000000000) : (nI P + nI k + nI i).toNatClampNeg = P + k + i := by rw [nI_add, nI_add]; exact ncl h
theorem qi2 {P k i n : Nat} (h : P + k + i < n) (hn : n < 2000000000) : vp_in (nI P + nI k + nI i) n := by rw [nI_add, nI_add]; exact nin h hn
theorem q20 {P : Nat} (h : P ≤ 115) : (nI P + 20).toNatClampNeg = P + 20 := qa (k := 20) (by omega)
theorem q21 {P : Nat} (h : P ≤ 115) : (nI P + 21).toNatClampNeg = P + 21 := qa (k := 21) (by omega)
theorem q22 {P : Nat} (h : P ≤ 115) : (nI P + 22).toNatClampNeg = P + 22 := qa (k := 22) (by omega)
theorem q5c {P c : Nat} (h : P + c < 128) : (nI P + 5 + nI c).toNatClampNeg = P + 5 + c := qa2 (k := 5) (by omega)
theorem q10c {P c : Nat} (h : P + c < 128) : (nI P + 10 + nI c).toNatClampNeg = P + 10 + c := qa2 (k := 10) (by omega)
theorem q15c {P c : Nat} (h : P + c < 128) : (nI P + 15 + nI c).toNatClampNeg = P + 15 + c := qa2 (k := 15) (by omega)
theorem v20 {P : Nat} (h : P ≤ 115) : vp_in (nI P + 20) 138 := qi (k := 20) (by omega) (by omega)
theorem v21 {P : Nat} (h : P ≤ 115) : vp_in (nI P + 21) 138 := qi (k := 21) (by omega) (by omega)
theorem v22 {P : Nat} (h : P ≤ 115) : vp_in (nI P + 22) 138 := qi (k := 22) (by omega) (by omega)
theorem v5c {P c : Nat} (h : P + c < 128) : vp_in (nI P + 5 + nI c) 138 := qi2 (k := 5) (by omega) (by omega)
theorem v10c {P c : Nat} (h : P + c < 128) : vp_in (nI P + 10 + nI c) 138 := qi2 (k := 10) (by omega) (by omega)
theorem v15c {P c : Nat} (h : P ≤ 115) (h2 : c < 5) : vp_in (nI P + 15 + nI c) 138 := qi2 (k := 15) (by omega) (by omega)
theorem qPc {P c : Nat} (h : P + c < 128) : (nI P + nI c).toNatClampNeg = P + c := qa (by omega)

set_option maxRecDepth 100000 in
theorem sX6_isOnward_0 {G : GX} {d : Nat} {mem : Mem} {Φ : Option Value → Mem → Prop} (P c : Nat) (h : (vp_in ((nI P) + (nI c)) 138) ∧ ((3 ≤ (mem 41 (((nI P) + (nI c)) : Int32).toNatClampNeg) → Φ (some (.int 0)) mem) ∧ (¬ 3 ≤ (mem 41 (((nI P) + (nI c)) : Int32).toNatClampNeg) → (vp_in (((nI P) + 10) + (nI c)) 138) ∧ (vp_in (((nI P) + 5) + (nI c)) 138) ∧ (((2 * (mem 41 ((((nI P) + 10) + (nI c)) : Int32).toNatClampNeg)) < (mem 41 ((((nI P) + 5) + (nI c)) : Int32).toNatClampNeg) → Φ (some (.int 0)) mem) ∧ (¬ (2 * (mem 41 ((((nI P) + 10) + (nI c)) : Int32).toNatClampNeg)) < (mem 41 ((((nI P) + 5) + (nI c)) : Int32).toNatClampNeg) → Φ (some (.int 1)) mem))))) : Go G (d + 0) mX6_isOnward 0 [(0, .ref 40), (1, .int (nI P)), (2, .int (nI c))] [] mem Φ := by
  refine go_aload_n dX6_isOnward_0 0 rfl ?_
  refine go_getR (kf := 0) (t := 41) rfl rfl rfl uwX6 (by decide) flX6_7 dX6_isOnward_1 ?_
  refine go_iload_n dX6_isOnward_4 1 rfl ?_
  refine go_iload_n dX6_isOnward_5 2 rfl ?_
  refine go_iadd dX6_isOnward_6 ?_
  obtain ⟨c1, h⟩ := h
  refine go_iaload rfl c1 dX6_isOnward_7 ?_
  refine go_iconst (v := 3) dX6_isOnward_8 (by decide) ?_
  refine go_icmp_ge 42 dX6_isOnward_9 (by decide) (fun q => ?_) (fun q => ?_)
  · have h := h.1 q
    refine go_iconst (v := 0) dX6_isOnward_42 (by decide) ?_
    exact go_zret (ty := .boolean) rfl rfl dX6_isOnward_43 h
  · have h := h.2 q
    refine go_iconst (v := 2) dX6_isOnward_12 (by decide) ?_
    refine go_aload_n dX6_isOnward_13 0 rfl ?_
    refine go_getR (kf := 0) (t := 41) rfl rfl rfl uwX6 (by decide) flX6_7 dX6_isOnward_14 ?_
    refine go_iload_n dX6_isOnward_17 1 rfl ?_
    refine go_bipush (v := 10) dX6_isOnward_18 (by decide) ?_
    refine go_iadd dX6_isOnward_20 ?_
    refine go_iload_n dX6_isOnward_21 2 rfl ?_
    refine go_iadd dX6_isOnward_22 ?_
    obtain ⟨c2, h⟩ := h
    refine go_iaload rfl c2 dX6_isOnward_23 ?_
    refine go_imul dX6_isOnward_24 ?_
    refine go_aload_n dX6_isOnward_25 0 rfl ?_
    refine go_getR (kf := 0) (t := 41) rfl rfl rfl uwX6 (by decide) flX6_7 dX6_isOnward_26 ?_
    refine go_iload_n dX6_isOnward_29 1 rfl ?_
    refine go_iconst (v := 5) dX6_isOnward_30 (by decide) ?_
    refine go_iadd dX6_isOnward_31 ?_
    refine go_iload_n dX6_isOnward_32 2 rfl ?_
    refine go_iadd dX6_isOnward_33 ?_
    obtain ⟨c3, h⟩ := h
    refine go_iaload rfl c3 dX6_isOnward_34 ?_
    refine go_icmp_lt 42 dX6_isOnward_35 (by decide) (fun q => ?_) (fun q => ?_)
    · have h := h.1 q
      refine go_iconst (v := 0) dX6_isOnward_42 (by decide) ?_
      exact go_zret (ty := .boolean) rfl rfl dX6_isOnward_43 h
    · have h := h.2 q
      refine go_iconst (v := 1) dX6_isOnward_38 (by decide) ?_
      refine go_goto 43 dX6_isOnward_39 (by decide) ?_
      exact go_zret (ty := .boolean) rfl rfl dX6_isOnward_43 h


theorem kX6_isOnward {G : GX} (d : Nat) {mem : Mem} (P c : Nat) (h : P + c < 128) : Cn G (d + 0) mX6_isOnward [.ref 40, .int (nI P), .int (nI c)] mem (Ri (bI (¬ 3 ≤ mem 41 (P + c) ∧ mem 41 (P + 5 + c) ≤ 2 * mem 41 (P + 10 + c))) (fun m2 => m2 = mem)) := by
  refine cn_of (by decide +kernel) (Nat.le_of_ble_eq_true rfl) (sX6_isOnward_0 P c ?_)
  rw [qPc (show P + c < 128 by omega), q5c (show P + c < 128 by omega), q10c (show P + c < 128 by omega)]
  exact ⟨qi (by omega) (by omega), fun q => Ri.mk (bIf (fun z => z.1 q)).symm rfl, fun q => ⟨v10c (by omega), v5c (by omega), fun r => Ri.mk (bIf (fun z => ltn r z.2)).symm rfl, fun r => Ri.mk (bIt ⟨q, nlt32 r⟩).symm rfl⟩⟩
/-- ones among the first so many bits -/
def pcF : Nat → Nat → Nat
  | 0, _ => 0
  | f + 1, w => w % 2 + pcF f (w / 2)
theorem pcF_small : ∀ w, w < 32 → pcF 32 w = popN w := by decide +kernel
theorem pcF_0 : ∀ f, pcF f 0 = 0
  | 0 => rfl
  | f + 1 => by
    unfold pcF
    rw [Nat.zero_mod, Nat.zero_div, pcF_0 f]
theorem who_pc {g B : Nat} {X : Bm} (h : VX g B X) : pcF 32 (who g X) = many g X := by
  rw [pcF_small _ (who_lt h)]
  unfold who many
  exact whF_pop _ h.1

set_option maxRecDepth 100000 in
theorem sX6_bitsOf_0 {G : GX} {d : Nat} {mem : Mem} {Φ : Option Value → Mem → Prop} (w0 : Nat) (h : Go G (d + 0) mX6_bitsOf 4 [(0, .int (nI w0)), (1, .int 0), (2, .int (nI w0))] [] mem Φ) : Go G (d + 0) mX6_bitsOf 0 [(0, .int (nI w0))] [] mem Φ := by
  refine go_iconst (v := 0) dX6_bitsOf_0 (by decide) ?_
  refine go_istore_n (L2 := [(1, .int 0), (0, .int (nI w0))]) dX6_bitsOf_1 (by decide) rfl ?_
  refine go_iload_n dX6_bitsOf_2 1 rfl ?_
  refine go_istore_n (L2 := [(2, .int (nI w0)), (1, .int 0), (0, .int (nI w0))]) dX6_bitsOf_3 (by decide) rfl ?_
  exact Go.pick [2, 1, 0] rfl h

set_option maxRecDepth 100000 in
theorem sX6_bitsOf_4 {G : GX} {d : Nat} {mem : Mem} {Φ : Option Value → Mem → Prop} (w0 a w : Nat) (h : (((nI w) ≤ 0 → Φ (some (.int (nI a))) mem) ∧ (¬ (nI w) ≤ 0 → ∀ y1 : Int32, y1 = ((nI a) + ((nI w) &&& 1)) → ∀ y2 : Int32, y2 = ((nI w) >>> (1 &&& 31)) → Go G (d + 0) mX6_bitsOf 4 [(0, .int (nI w0)), (1, .int y1), (2, .int y2)] [] mem Φ))) : Go G (d + 0) mX6_bitsOf 4 [(0, .int (nI w0)), (1, .int (nI a)), (2, .int (nI w))] [] mem Φ := by
  refine go_iload_n dX6_bitsOf_4 2 rfl ?_
  refine go_if_le 21 dX6_bitsOf_5 (by decide) (fun q => ?_) (fun q => ?_)
  · have h := h.1 q
    refine go_iload_n dX6_bitsOf_21 1 rfl ?_
    exact go_iret rfl dX6_bitsOf_22 h
  · have h := h.2 q
    refine go_iload_n dX6_bitsOf_8 1 rfl ?_
    refine go_iload_n dX6_bitsOf_9 2 rfl ?_
    refine go_iconst (v := 1) dX6_bitsOf_10 (by decide) ?_
    refine go_iand dX6_bitsOf_11 ?_
    refine go_iadd dX6_bitsOf_12 ?_
    refine go_topi (fun y1 qy1 => ?_)
    have h := h y1 qy1
    refine go_istore_n (L2 := [(1, .int y1), (0, .int (nI w0)), (2, .int (nI w))]) dX6_bitsOf_13 (by decide) rfl ?_
    refine go_iload_n dX6_bitsOf_14 2 rfl ?_
    refine go_iconst (v := 1) dX6_bitsOf_15 (by decide) ?_
    refine go_ishr dX6_bitsOf_16 ?_
    refine go_topi (fun y2 qy2 => ?_)
    have h := h y2 qy2
    refine go_istore_n (L2 := [(2, .int y2), (1, .int y1), (0, .int (nI w0))]) dX6_bitsOf_17 (by decide) rfl ?_
    refine go_goto 4 dX6_bitsOf_18 (by decide) ?_
    exact Go.pick [2, 1, 0] rfl h


theorem lX6_bitsOf {G : GX} {d : Nat} {mem : Mem} (w0 : Nat) : ∀ (f a w : Nat), w < 2 ^ f → f ≤ 30 → Go G (d + 0) mX6_bitsOf 4 [(0, .int (nI w0)), (1, .int (nI a)), (2, .int (nI w))] [] mem (Ri (nI (a + pcF f w)) (fun m2 => m2 = mem)) := by
  intro f
  induction f with
  | zero =>
    intro a w hw _
    have e : w = 0 := by
      have : 2 ^ 0 = 1 := rfl
      omega
    rw [e]
    exact sX6_bitsOf_4 w0 a 0 ⟨fun _ => Ri.mk rfl rfl, fun q => absurd (by decide) q⟩
  | succ f ih =>
    intro a w hw hf
    have hp : 2 ^ (f + 1) = 2 ^ f + 2 ^ f := by rw [Nat.pow_succ]; omega
    have hp2 : 2 ^ (f + 1) ≤ 2 ^ 30 := Nat.pow_le_pow_right (by decide) hf
    have hw2 : w < 2000000000 := by omega
    refine sX6_bitsOf_4 w0 a w ⟨fun q => ?_, fun q y1 h1 y2 h2 => ?_⟩
    · have e : w = 0 := by
        have := (nle (b := 0) hw2 (by omega)).mp q
        omega
      rw [e, pcF_0]
      exact Ri.mk rfl rfl
    · have e1 : nI w &&& 1 = nI (w % 2) := by
        rw [show (1 : Int32) = nI (2 ^ 1 - 1) from rfl, fa_mask]
      have e2 : nI w >>> ((1 : Int32) &&& 31) = nI (w / 2) := pk_shrN (by omega) _ 1 (by decide)
      rw [h1, h2, e1, e2, nI_add]
      have k := ih (a + w % 2) (w / 2) (by omega) (by omega)
      rw [show a + pcF (f + 1) w = a + w % 2 + pcF f (w / 2) from (Nat.add_assoc _ _ _).symm]
      exact k
theorem pcF_ext : ∀ (f w : Nat), w < 2 ^ f → ∀ k, pcF (f + k) w = pcF f w
  | 0, w, h, k => by
    have e : w = 0 := by
      have : 2 ^ 0 = 1 := rfl
      omega
    rw [e, pcF_0, pcF_0]
  | f + 1, w, h, k => by
    have hp : 2 ^ (f + 1) = 2 ^ f + 2 ^ f := by rw [Nat.pow_succ]; omega
    rw [show f + 1 + k = (f + k) + 1 by omega]
    unfold pcF
    rw [pcF_ext f (w / 2) (by omega) k]
theorem kX6_bitsOf {G : GX} (d : Nat) {mem : Mem} (w : Nat) (h : w < 1073741824) : Cn G (d + 0) mX6_bitsOf [.int (nI w)] mem (Ri (nI (pcF 32 w)) (fun m2 => m2 = mem)) := by
  have k := lX6_bitsOf (G := G) (d := d) (mem := mem) w 30 0 w h (Nat.le_refl _)
  rw [Nat.zero_add, ← pcF_ext 30 w h 2] at k
  exact cn_of (by decide +kernel) (Nat.le_of_ble_eq_true rfl) (sX6_bitsOf_0 w k)
def goI (g : Nat) : Int32 := if g = 9 then -4 else nI g
theorem go_eq : ∀ i, i < 5 → ∀ g, g < 10 → (nI i = goI g ↔ i = g) := by decide +kernel

set_option maxRecDepth 100000 in
theorem sX6_beatsOn_0 {G : GX} {d : Nat} {mem : Mem} {Φ : Option Value → Mem → Prop} (P : Nat) (h : Go G (d + 0) mX6_beatsOn 4 [(0, .ref 40), (1, .int (nI P)), (2, .int 0), (3, .int 0)] [] mem Φ) : Go G (d + 0) mX6_beatsOn 0 [(0, .ref 40), (1, .int (nI P))] [] mem Φ := by
  refine go_iconst (v := 0) dX6_beatsOn_0 (by decide) ?_
  refine go_istore_n (L2 := [(2, .int 0), (0, .ref 40), (1, .int (nI P))]) dX6_beatsOn_1 (by decide) rfl ?_
  refine go_iconst (v := 0) dX6_beatsOn_2 (by decide) ?_
  refine go_istore_n (L2 := [(3, .int 0), (2, .int 0), (0, .ref 40), (1, .int (nI P))]) dX6_beatsOn_3 (by decide) rfl ?_
  exact Go.pick [2, 3, 1, 0] rfl h

set_option maxRecDepth 100000 in
theorem sX6_beatsOn_4 {G : GX} {d : Nat} {mem : Mem} {Φ : Option Value → Mem → Prop} (P w i : Nat) (h : (vp_in ((nI P) + 20) 138) ∧ (((mem 41 (((nI P) + 20) : Int32).toNatClampNeg) ≤ (nI i) → Φ (some (.int (nI w))) mem) ∧ (¬ (mem 41 (((nI P) + 20) : Int32).toNatClampNeg) ≤ (nI i) → (((nI i) = (mem 40 14) → ∀ y2 : Int32, y2 = ((nI w) ||| 0) → Go G (d + 0) mX6_beatsOn 4 [(0, .ref 40), (1, .int (nI P)), (2, .int y2), (3, .int ((nI i) + 1))] [] mem Φ) ∧ (¬ (nI i) = (mem 40 14) → (vp_in (((nI P) + 10) + (nI i)) 138) ∧ (vp_in (((nI P) + 5) + (nI i)) 138) ∧ ((¬ ((mem 41 ((((nI P) + 10) + (nI i)) : Int32).toNatClampNeg) + 1) = (mem 41 ((((nI P) + 5) + (nI i)) : Int32).toNatClampNeg) → ∀ y5 : Int32, y5 = ((nI w) ||| 0) → Go G (d + 0) mX6_beatsOn 4 [(0, .ref 40), (1, .int (nI P)), (2, .int y5), (3, .int ((nI i) + 1))] [] mem Φ) ∧ (((mem 41 ((((nI P) + 10) + (nI i)) : Int32).toNatClampNeg) + 1) = (mem 41 ((((nI P) + 5) + (nI i)) : Int32).toNatClampNeg) → ∀ y6 : Int32, y6 = ((nI w) ||| (1 <<< ((nI i) &&& 31))) → Go G (d + 0) mX6_beatsOn 4 [(0, .ref 40), (1, .int (nI P)), (2, .int y6), (3, .int ((nI i) + 1))] [] mem Φ))))))) : Go G (d + 0) mX6_beatsOn 4 [(0, .ref 40), (1, .int (nI P)), (2, .int (nI w)), (3, .int (nI i))] [] mem Φ := by
  refine go_iload_n dX6_beatsOn_4 3 rfl ?_
  refine go_aload_n dX6_beatsOn_5 0 rfl ?_
  refine go_getR (kf := 0) (t := 41) rfl rfl rfl uwX6 (by decide) flX6_7 dX6_beatsOn_6 ?_
  refine go_iload_n dX6_beatsOn_9 1 rfl ?_
  refine go_bipush (v := 20) dX6_beatsOn_10 (by decide) ?_
  refine go_iadd dX6_beatsOn_12 ?_
  obtain ⟨c1, h⟩ := h
  refine go_iaload rfl c1 dX6_beatsOn_13 ?_
  refine go_icmp_ge 79 dX6_beatsOn_14 (by decide) (fun q => ?_) (fun q => ?_)
  · have h := h.1 q
    refine go_iload_n dX6_beatsOn_79 2 rfl ?_
    exact go_iret rfl dX6_beatsOn_80 h
  · have h := h.2 q
    refine go_iload_n dX6_beatsOn_17 3 rfl ?_
    refine go_aload_n dX6_beatsOn_18 0 rfl ?_
    refine go_getI (kf := 14) rfl rfl rfl uwX6 (by decide) flX6_25 dX6_beatsOn_19 ?_
    refine go_icmp_eq 55 dX6_beatsOn_22 (by decide) (fun q => ?_) (fun q => ?_)
    · have h := h.1 q
      refine go_iconst (v := 0) dX6_beatsOn_55 (by decide) ?_
      refine go_istore (L2 := [(4, .int 0), (0, .ref 40), (1, .int (nI P)), (2, .int (nI w)), (3, .int (nI i))]) dX6_beatsOn_56 (by decide) rfl ?_
      refine go_iload_n dX6_beatsOn_58 3 rfl ?_
      refine go_iload dX6_beatsOn_59 0 rfl ?_
      refine go_if_eq 70 dX6_beatsOn_61 (by decide) (fun _ => ?_) (fun q => absurd q (by decide))
      refine go_iconst (v := 0) dX6_beatsOn_70 (by decide) ?_
      refine go_ior dX6_beatsOn_71 ?_
      refine go_topi (fun y2 qy2 => ?_)
      have h := h y2 qy2
      refine go_istore_n (L2 := [(2, .int y2), (4, .int 0), (0, .ref 40), (1, .int (nI P)), (3, .int (nI i))]) dX6_beatsOn_72 (by decide) rfl ?_
      refine go_iinc (v := ((nI i) + 1)) (L2 := [(3, .int ((nI i) + 1)), (2, .int y2), (4, .int 0), (0, .ref 40), (1, .int (nI P))]) dX6_beatsOn_73 4 rfl rfl (by decide) rfl ?_
      refine go_goto 4 dX6_beatsOn_76 (by decide) ?_
      exact Go.pick [3, 4, 1, 0] rfl h
    · have h := h.2 q
      refine go_aload_n dX6_beatsOn_25 0 rfl ?_
      refine go_getR (kf := 0) (t := 41) rfl rfl rfl uwX6 (by decide) flX6_7 dX6_beatsOn_26 ?_
      refine go_iload_n dX6_beatsOn_29 1 rfl ?_
      refine go_bipush (v := 10) dX6_beatsOn_30 (by decide) ?_
      refine go_iadd dX6_beatsOn_32 ?_
      refine go_iload_n dX6_beatsOn_33 3 rfl ?_
      refine go_iadd dX6_beatsOn_34 ?_
      obtain ⟨c3, h⟩ := h
      refine go_iaload rfl c3 dX6_beatsOn_35 ?_
      refine go_iconst (v := 1) dX6_beatsOn_36 (by decide) ?_
      refine go_iadd dX6_beatsOn_37 ?_
      refine go_aload_n dX6_beatsOn_38 0 rfl ?_
      refine go_getR (kf := 0) (t := 41) rfl rfl rfl uwX6 (by decide) flX6_7 dX6_beatsOn_39 ?_
      refine go_iload_n dX6_beatsOn_42 1 rfl ?_
      refine go_iconst (v := 5) dX6_beatsOn_43 (by decide) ?_
      refine go_iadd dX6_beatsOn_44 ?_
      refine go_iload_n dX6_beatsOn_45 3 rfl ?_
      refine go_iadd dX6_beatsOn_46 ?_
      obtain ⟨c4, h⟩ := h
      refine go_iaload rfl c4 dX6_beatsOn_47 ?_
      refine go_icmp_ne 55 dX6_beatsOn_48 (by decide) (fun q => ?_) (fun q => ?_)
      · have h := h.1 q
        refine go_iconst (v := 0) dX6_beatsOn_55 (by decide) ?_
        refine go_istore (L2 := [(4, .int 0), (0, .ref 40), (1, .int (nI P)), (2, .int (nI w)), (3, .int (nI i))]) dX6_beatsOn_56 (by decide) rfl ?_
        refine go_iload_n dX6_beatsOn_58 3 rfl ?_
        refine go_iload dX6_beatsOn_59 0 rfl ?_
        refine go_if_eq 70 dX6_beatsOn_61 (by decide) (fun _ => ?_) (fun q => absurd q (by decide))
        refine go_iconst (v := 0) dX6_beatsOn_70 (by decide) ?_
        refine go_ior dX6_beatsOn_71 ?_
        refine go_topi (fun y5 qy5 => ?_)
        have h := h y5 qy5
        refine go_istore_n (L2 := [(2, .int y5), (4, .int 0), (0, .ref 40), (1, .int (nI P)), (3, .int (nI i))]) dX6_beatsOn_72 (by decide) rfl ?_
        refine go_iinc (v := ((nI i) + 1)) (L2 := [(3, .int ((nI i) + 1)), (2, .int y5), (4, .int 0), (0, .ref 40), (1, .int (nI P))]) dX6_beatsOn_73 4 rfl rfl (by decide) rfl ?_
        refine go_goto 4 dX6_beatsOn_76 (by decide) ?_
        exact Go.pick [3, 4, 1, 0] rfl h
      · have h := h.2 q
        refine go_iconst (v := 1) dX6_beatsOn_51 (by decide) ?_
        refine go_goto 56 dX6_beatsOn_52 (by decide) ?_
        refine go_istore (L2 := [(4, .int 1), (0, .ref 40), (1, .int (nI P)), (2, .int (nI w)), (3, .int (nI i))]) dX6_beatsOn_56 (by decide) rfl ?_
        refine go_iload_n dX6_beatsOn_58 3 rfl ?_
        refine go_iload dX6_beatsOn_59 0 rfl ?_
        refine go_if_eq 70 dX6_beatsOn_61 (by decide) (fun q => absurd q (by decide)) (fun _ => ?_)
        refine go_iconst (v := 1) dX6_beatsOn_64 (by decide) ?_
        refine go_iload_n dX6_beatsOn_65 4 rfl ?_
        refine go_ishl dX6_beatsOn_66 ?_
        refine go_goto 71 dX6_beatsOn_67 (by decide) ?_
        refine go_ior dX6_beatsOn_71 ?_
        refine go_topi (fun y6 qy6 => ?_)
        have h := h y6 qy6
        refine go_istore_n (L2 := [(2, .int y6), (4, .int 1), (0, .ref 40), (1, .int (nI P)), (3, .int (nI i))]) dX6_beatsOn_72 (by decide) rfl ?_
        refine go_iinc (v := ((nI i) + 1)) (L2 := [(3, .int ((nI i) + 1)), (2, .int y6), (4, .int 1), (0, .ref 40), (1, .int (nI P))]) dX6_beatsOn_73 4 rfl rfl (by decide) rfl ?_
        refine go_goto 4 dX6_beatsOn_76 (by decide) ?_
        exact Go.pick [3, 4, 1, 0] rfl h


theorem or0 (x : Int32) : x ||| 0 = x := Int32.or_zero
set_option maxHeartbeats 4000000 in
theorem lX6_beatsOn {G : GX} {d : Nat} {mem : Mem} {P : Nat} (hP : P ≤ 115) {X : Bm} {g B : Nat} (hg : g < 10) (hB : B < 900000) (hV : VX g B X) (hR : RepM mem P X) (hG : mem 40 14 = goI g) : ∀ (r i : Nat), i + r = xn X → Go G (d + 0) mX6_beatsOn 4 [(0, .ref 40), (1, .int (nI P)), (2, .int (nI (whF (bt g X) i))), (3, .int (nI i))] [] mem (Ri (nI (who g X)) (fun m2 => m2 = mem)) := by
  intro r
  have hn := hV.1
  induction r with
  | zero =>
    intro i hi
    have hi2 : i = xn X := by omega
    refine sX6_beatsOn_4 P _ i ⟨v20 (by omega), ?_⟩
    rw [q20 (show P ≤ 115 by omega), hR.1, hi2]
    exact ⟨fun _ => ⟨rfl, rfl⟩, fun q => absurd (Int32.le_refl _) q⟩
  | succ r ih =>
    intro i hi
    have hin : i < xn X := by omega
    obtain ⟨a1, a2, a3, a4, a5⟩ := hV.2.2 i hin
    have hh : xh X i < 1000000 := by
      by_cases q : i = g
      · have := a5 q; omega
      · have := a4 q; omega
    refine sX6_beatsOn_4 P _ i ⟨v20 (by omega), ?_⟩
    rw [q20 (show P ≤ 115 by omega), hR.1, q5c (show P + i < 128 by omega), q10c (show P + i < 128 by omega), (hR.2.2.2 i hin).2.1, (hR.2.2.2 i hin).2.2.1, hG, or0, nI_1, nI_1]
    have quiet : ¬ bt g X i = true → ∀ y : Int32, y = nI (whF (bt g X) i) → Go G (d + 0) mX6_beatsOn 4 [(0, .ref 40), (1, .int (nI P)), (2, .int y), (3, .int (nI (i + 1)))] [] mem (Ri (nI (who g X)) (fun m2 => m2 = mem)) := fun hb y hy => by
      have k := ih (i + 1) (by omega)
      rw [whF_f hb] at k
      rw [hy]
      exact k
    refine ⟨fun q => absurd ((nle (by omega) (by omega)).mp q) (by omega), fun _ => ⟨fun q => quiet (fun z => (bt_iff.mp z).1 ((go_eq i (by omega) g hg).mp q)), fun q => ⟨v10c (by omega), v5c (by omega), fun q2 => quiet (fun z => q2 (by rw [(bt_iff.mp z).2])), fun q2 y hy => ?_⟩⟩⟩
    have hb : bt g X i = true := bt_iff.mpr ⟨fun z => q ((go_eq i (by omega) g hg).mpr z), (neq (by omega) (by omega)).mp q2⟩
    have k := ih (i + 1) (by omega)
    rw [whF_t hb] at k
    rw [hy, bit_or i (by omega) (whF (bt g X) i) (by have := whF_lt (bt g X) i; have : 2 ^ i ≤ 2 ^ 5 := Nat.pow_le_pow_right (by decide) (by omega); omega) (whF_lt _ _)]
    exact k
theorem kX6_beatsOn {G : GX} (d : Nat) {mem : Mem} (P : Nat) (X : Bm) (g B : Nat) (hP : P ≤ 115) (hg : g < 10 ∧ B < 900000) (hV : VX g B X) (hR : RepM mem P X) (hG : mem 40 14 = goI g) : Cn G (d + 0) mX6_beatsOn [.ref 40, .int (nI P)] mem (Ri (nI (who g X)) (fun m2 => m2 = mem)) :=
  cn_of (by decide +kernel) (Nat.le_of_ble_eq_true rfl) (sX6_beatsOn_0 P (lX6_beatsOn hP hg.1 hg.2 hV hR hG (xn X) 0 (by omega)))

set_option maxRecDepth 100000 in
theorem sX6_pushedOn_0 {G : GX} {d : Nat} {mem : Mem} {Φ : Option Value → Mem → Prop} (P c m : Nat) (h : (vp_in ((nI P) + (nI c)) 138) ∧ ∀ y2 : Int32, y2 = (mem 41 (((nI P) + (nI c)) : Int32).toNatClampNeg) → (vp_in ((nI P) + 21) 138) ∧ ∀ y4 : Int32, y4 = ((mem 41 (((nI P) + 21) : Int32).toNatClampNeg) + 1) → ((¬ y2 = 0 → ((¬ y2 = 2 → ∀ y5 : Int32, y5 = (((nI m) * y4) / 2) → Go G (d + 1) mX6_pushedOn 58 [(0, .ref 40), (1, .int (nI P)), (2, .int (nI c)), (6, .int y5)] [] mem Φ) ∧ (y2 = 2 → ∀ y6 : Int32, y6 = (((nI m) - 1) * y4) → Go G (d + 1) mX6_pushedOn 58 [(0, .ref 40), (1, .int (nI P)), (2, .int (nI c)), (6, .int y6)] [] mem Φ))) ∧ (y2 = 0 → ∀ y7 : Int32, y7 = ((nI m) * y4) → Go G (d + 1) mX6_pushedOn 58 [(0, .ref 40), (1, .int (nI P)), (2, .int (nI c)), (6, .int y7)] [] mem Φ))) : Go G (d + 1) mX6_pushedOn 0 [(0, .ref 40), (1, .int (nI P)), (2, .int (nI c)), (3, .int (nI m))] [] mem Φ := by
  refine go_aload_n dX6_pushedOn_0 0 rfl ?_
  refine go_getR (kf := 0) (t := 41) rfl rfl rfl uwX6 (by decide) flX6_7 dX6_pushedOn_1 ?_
  refine go_iload_n dX6_pushedOn_4 1 rfl ?_
  refine go_iload_n dX6_pushedOn_5 2 rfl ?_
  refine go_iadd dX6_pushedOn_6 ?_
  obtain ⟨c1, h⟩ := h
  refine go_iaload rfl c1 dX6_pushedOn_7 ?_
  refine go_topi (fun y2 qy2 => ?_)
  have h := h y2 qy2
  refine go_istore (L2 := [(4, .int y2), (0, .ref 40), (1, .int (nI P)), (2, .int (nI c)), (3, .int (nI m))]) dX6_pushedOn_8 (by decide) rfl ?_
  refine go_aload_n dX6_pushedOn_10 1 rfl ?_
  refine go_getR (kf := 0) (t := 41) rfl rfl rfl uwX6 (by decide) flX6_7 dX6_pushedOn_11 ?_
  refine go_iload_n dX6_pushedOn_14 2 rfl ?_
  refine go_bipush (v := 21) dX6_pushedOn_15 (by decide) ?_
  refine go_iadd dX6_pushedOn_17 ?_
  obtain ⟨c3, h⟩ := h
  refine go_iaload rfl c3 dX6_pushedOn_18 ?_
  refine go_iconst (v := 1) dX6_pushedOn_19 (by decide) ?_
  refine go_iadd dX6_pushedOn_20 ?_
  refine go_topi (fun y4 qy4 => ?_)
  have h := h y4 qy4
  refine go_istore (L2 := [(5, .int y4), (4, .int y2), (0, .ref 40), (1, .int (nI P)), (2, .int (nI c)), (3, .int (nI m))]) dX6_pushedOn_21 (by decide) rfl ?_
  refine go_iload dX6_pushedOn_23 1 rfl ?_
  refine go_if_ne 35 dX6_pushedOn_25 (by decide) (fun q => ?_) (fun q => ?_)
  · have h := h.1 q
    refine go_iload dX6_pushedOn_35 1 rfl ?_
    refine go_iconst (v := 2) dX6_pushedOn_37 (by decide) ?_
    refine go_icmp_ne 50 dX6_pushedOn_38 (by decide) (fun q => ?_) (fun q => ?_)
    · have h := h.1 q
      refine go_iload_n dX6_pushedOn_50 5 rfl ?_
      refine go_iload dX6_pushedOn_51 0 rfl ?_
      refine go_imul dX6_pushedOn_53 ?_
      refine go_iconst (v := 2) dX6_pushedOn_54 (by decide) ?_
      refine go_idiv dX6_pushedOn_55 (by decide) ?_
      refine go_topi (fun y5 qy5 => ?_)
      have h := h y5 qy5
      refine go_istore (L2 := [(6, .int y5), (5, .int y4), (4, .int y2), (0, .ref 40), (1, .int (nI P)), (2, .int (nI c)), (3, .int (nI m))]) dX6_pushedOn_56 (by decide) rfl ?_
      exact Go.pick [3, 4, 5, 0] rfl h
    · have h := h.2 q
      refine go_iload_n dX6_pushedOn_41 5 rfl ?_
      refine go_iconst (v := 1) dX6_pushedOn_42 (by decide) ?_
      refine go_isub dX6_pushedOn_43 ?_
      refine go_iload dX6_pushedOn_44 0 rfl ?_
      refine go_imul dX6_pushedOn_46 ?_
      refine go_goto 56 dX6_pushedOn_47 (by decide) ?_
      refine go_topi (fun y6 qy6 => ?_)
      have h := h y6 qy6
      refine go_istore (L2 := [(6, .int y6), (5, .int y4), (4, .int y2), (0, .ref 40), (1, .int (nI P)), (2, .int (nI c)), (3, .int (nI m))]) dX6_pushedOn_56 (by decide) rfl ?_
      exact Go.pick [3, 4, 5, 0] rfl h
  · have h := h.2 q
    refine go_iload_n dX6_pushedOn_28 5 rfl ?_
    refine go_iload dX6_pushedOn_29 0 rfl ?_
    refine go_imul dX6_pushedOn_31 ?_
    refine go_goto 56 dX6_pushedOn_32 (by decide) ?_
    refine go_topi (fun y7 qy7 => ?_)
    have h := h y7 qy7
    refine go_istore (L2 := [(6, .int y7), (5, .int y4), (4, .int y2), (0, .ref 40), (1, .int (nI P)), (2, .int (nI c)), (3, .int (nI m))]) dX6_pushedOn_56 (by decide) rfl ?_
    exact Go.pick [3, 4, 5, 0] rfl h

set_option maxRecDepth 100000 in
theorem sX6_pushedOn_58 {G : GX} {d : Nat} {mem : Mem} {Φ : Option Value → Mem → Prop} (P c : Nat) (y : Int32) (h : (vp_in (((nI P) + 5) + (nI c)) 138) ∧ ∀ y2 : Int32, y2 = ((mem 41 ((((nI P) + 5) + (nI c)) : Int32).toNatClampNeg) - 1) → (vp_in (((nI P) + 10) + (nI c)) 138) ∧ ∀ y4 : Int32, y4 = (mem 41 ((((nI P) + 10) + (nI c)) : Int32).toNatClampNeg) → (P + c < 128) ∧ ((¬ (¬ 3 ≤ mem 41 (P + c) ∧ mem 41 (P + 5 + c) ≤ 2 * mem 41 (P + 10 + c)) → ((y4 ≤ y → ∀ m6 : Mem, m6 = (um mem 41 ((((nI P) + 10) + (nI c)) : Int32).toNatClampNeg 0) → Φ none m6) ∧ (¬ y4 ≤ y → ∀ m7 : Mem, m7 = (um mem 41 ((((nI P) + 10) + (nI c)) : Int32).toNatClampNeg (y4 - y)) → Φ none m7))) ∧ (¬ 3 ≤ mem 41 (P + c) ∧ mem 41 (P + 5 + c) ≤ 2 * mem 41 (P + 10 + c) → (((y4 + y) ≤ y2 → ∀ m8 : Mem, m8 = (um mem 41 ((((nI P) + 10) + (nI c)) : Int32).toNatClampNeg (y4 + y)) → Φ none m8) ∧ (¬ (y4 + y) ≤ y2 → ∀ m9 : Mem, m9 = (um mem 41 ((((nI P) + 10) + (nI c)) : Int32).toNatClampNeg y2) → Φ none m9))))) : Go G (d + 1) mX6_pushedOn 58 [(0, .ref 40), (1, .int (nI P)), (2, .int (nI c)), (6, .int y)] [] mem Φ := by
  refine go_aload_n dX6_pushedOn_58 0 rfl ?_
  refine go_getR (kf := 0) (t := 41) rfl rfl rfl uwX6 (by decide) flX6_7 dX6_pushedOn_59 ?_
  refine go_iload_n dX6_pushedOn_62 1 rfl ?_
  refine go_iconst (v := 5) dX6_pushedOn_63 (by decide) ?_
  refine go_iadd dX6_pushedOn_64 ?_
  refine go_iload_n dX6_pushedOn_65 2 rfl ?_
  refine go_iadd dX6_pushedOn_66 ?_
  obtain ⟨c1, h⟩ := h
  refine go_iaload rfl c1 dX6_pushedOn_67 ?_
  refine go_iconst (v := 1) dX6_pushedOn_68 (by decide) ?_
  refine go_isub dX6_pushedOn_69 ?_
  refine go_topi (fun y2 qy2 => ?_)
  have h := h y2 qy2
  refine go_istore (L2 := [(7, .int y2), (0, .ref 40), (1, .int (nI P)), (2, .int (nI c)), (6, .int y)]) dX6_pushedOn_70 (by decide) rfl ?_
  refine go_aload_n dX6_pushedOn_72 1 rfl ?_
  refine go_getR (kf := 0) (t := 41) rfl rfl rfl uwX6 (by decide) flX6_7 dX6_pushedOn_73 ?_
  refine go_iload_n dX6_pushedOn_76 2 rfl ?_
  refine go_bipush (v := 10) dX6_pushedOn_77 (by decide) ?_
  refine go_iadd dX6_pushedOn_79 ?_
  refine go_iload_n dX6_pushedOn_80 3 rfl ?_
  refine go_iadd dX6_pushedOn_81 ?_
  obtain ⟨c3, h⟩ := h
  refine go_iaload rfl c3 dX6_pushedOn_82 ?_
  refine go_topi (fun y4 qy4 => ?_)
  have h := h y4 qy4
  refine go_istore (L2 := [(8, .int y4), (7, .int y2), (0, .ref 40), (1, .int (nI P)), (2, .int (nI c)), (6, .int y)]) dX6_pushedOn_83 (by decide) rfl ?_
  refine go_aload_n dX6_pushedOn_85 2 rfl ?_
  refine go_iload_n dX6_pushedOn_86 3 rfl ?_
  refine go_iload_n dX6_pushedOn_87 4 rfl ?_
  obtain ⟨c5, h⟩ := h
  refine go_callV (st := []) (kX6_isOnward (d + 0) P c c5) rfl rfl okX6_isOnward insX6_isOnward selX6_isOnward lkX6_120 rfl rfl (Nat.le_of_ble_eq_true rfl) dX6_pushedOn_88 (fun v_ m2_ q => ?_)
  rw [q.1, q.2]
  refine go_stk (st2 := [.int (bI (¬ 3 ≤ mem 41 (P + c) ∧ mem 41 (P + 5 + c) ≤ 2 * mem 41 (P + 10 + c)))]) rfl ?_
  refine go_if_eq 119 dX6_pushedOn_91 (by decide) (fun q => ?_) (fun q => ?_)
  · have h := h.1 (bI0.mp q)
    refine go_iload dX6_pushedOn_119 0 rfl ?_
    refine go_iload dX6_pushedOn_121 5 rfl ?_
    refine go_icmp_le 134 dX6_pushedOn_123 (by decide) (fun q => ?_) (fun q => ?_)
    · have h := h.1 q
      refine go_iconst (v := 0) dX6_pushedOn_134 (by decide) ?_
      refine go_istore (L2 := [(8, .int 0), (7, .int y2), (0, .ref 40), (1, .int (nI P)), (2, .int (nI c)), (6, .int y)]) dX6_pushedOn_135 (by decide) rfl ?_
      refine go_aload_n dX6_pushedOn_137 2 rfl ?_
      refine go_getR (kf := 0) (t := 41) rfl rfl rfl uwX6 (by decide) flX6_7 dX6_pushedOn_138 ?_
      refine go_iload_n dX6_pushedOn_141 3 rfl ?_
      refine go_bipush (v := 10) dX6_pushedOn_142 (by decide) ?_
      refine go_iadd dX6_pushedOn_144 ?_
      refine go_iload_n dX6_pushedOn_145 4 rfl ?_
      refine go_iadd dX6_pushedOn_146 ?_
      refine go_iload dX6_pushedOn_147 0 rfl ?_
      refine go_iastore rfl c3 dX6_pushedOn_149 ?_
      refine go_mem (fun m6 qm6 => ?_)
      have h := h m6 qm6
      exact go_vret rfl dX6_pushedOn_150 h
    · have h := h.2 q
      refine go_iload dX6_pushedOn_126 0 rfl ?_
      refine go_iload dX6_pushedOn_128 5 rfl ?_
      refine go_isub dX6_pushedOn_130 ?_
      refine go_goto 135 dX6_pushedOn_131 (by decide) ?_
      refine go_istore (L2 := [(8, .int (y4 - y)), (7, .int y2), (0, .ref 40), (1, .int (nI P)), (2, .int (nI c)), (6, .int y)]) dX6_pushedOn_135 (by decide) rfl ?_
      refine go_aload_n dX6_pushedOn_137 2 rfl ?_
      refine go_getR (kf := 0) (t := 41) rfl rfl rfl uwX6 (by decide) flX6_7 dX6_pushedOn_138 ?_
      refine go_iload_n dX6_pushedOn_141 3 rfl ?_
      refine go_bipush (v := 10) dX6_pushedOn_142 (by decide) ?_
      refine go_iadd dX6_pushedOn_144 ?_
      refine go_iload_n dX6_pushedOn_145 4 rfl ?_
      refine go_iadd dX6_pushedOn_146 ?_
      refine go_iload dX6_pushedOn_147 0 rfl ?_
      refine go_iastore rfl c3 dX6_pushedOn_149 ?_
      refine go_mem (fun m7 qm7 => ?_)
      have h := h m7 qm7
      exact go_vret rfl dX6_pushedOn_150 h
  · have h := h.2 (bI1.mp q)
    refine go_iload dX6_pushedOn_94 0 rfl ?_
    refine go_iload dX6_pushedOn_96 5 rfl ?_
    refine go_iadd dX6_pushedOn_98 ?_
    refine go_iload dX6_pushedOn_99 1 rfl ?_
    refine go_icmp_le 109 dX6_pushedOn_101 (by decide) (fun q => ?_) (fun q => ?_)
    · have h := h.1 q
      refine go_iload dX6_pushedOn_109 0 rfl ?_
      refine go_iload dX6_pushedOn_111 5 rfl ?_
      refine go_iadd dX6_pushedOn_113 ?_
      refine go_istore (L2 := [(8, .int (y4 + y)), (7, .int y2), (0, .ref 40), (1, .int (nI P)), (2, .int (nI c)), (6, .int y)]) dX6_pushedOn_114 (by decide) rfl ?_
      refine go_goto 137 dX6_pushedOn_116 (by decide) ?_
      refine go_aload_n dX6_pushedOn_137 2 rfl ?_
      refine go_getR (kf := 0) (t := 41) rfl rfl rfl uwX6 (by decide) flX6_7 dX6_pushedOn_138 ?_
      refine go_iload_n dX6_pushedOn_141 3 rfl ?_
      refine go_bipush (v := 10) dX6_pushedOn_142 (by decide) ?_
      refine go_iadd dX6_pushedOn_144 ?_
      refine go_iload_n dX6_pushedOn_145 4 rfl ?_
      refine go_iadd dX6_pushedOn_146 ?_
      refine go_iload dX6_pushedOn_147 0 rfl ?_
      refine go_iastore rfl c3 dX6_pushedOn_149 ?_
      refine go_mem (fun m8 qm8 => ?_)
      have h := h m8 qm8
      exact go_vret rfl dX6_pushedOn_150 h
    · have h := h.2 q
      refine go_iload dX6_pushedOn_104 1 rfl ?_
      refine go_goto 114 dX6_pushedOn_106 (by decide) ?_
      refine go_istore (L2 := [(8, .int y2), (7, .int y2), (0, .ref 40), (1, .int (nI P)), (2, .int (nI c)), (6, .int y)]) dX6_pushedOn_114 (by decide) rfl ?_
      refine go_goto 137 dX6_pushedOn_116 (by decide) ?_
      refine go_aload_n dX6_pushedOn_137 2 rfl ?_
      refine go_getR (kf := 0) (t := 41) rfl rfl rfl uwX6 (by decide) flX6_7 dX6_pushedOn_138 ?_
      refine go_iload_n dX6_pushedOn_141 3 rfl ?_
      refine go_bipush (v := 10) dX6_pushedOn_142 (by decide) ?_
      refine go_iadd dX6_pushedOn_144 ?_
      refine go_iload_n dX6_pushedOn_145 4 rfl ?_
      refine go_iadd dX6_pushedOn_146 ?_
      refine go_iload dX6_pushedOn_147 0 rfl ?_
      refine go_iastore rfl c3 dX6_pushedOn_149 ?_
      refine go_mem (fun m9 qm9 => ?_)
      have h := h m9 qm9
      exact go_vret rfl dX6_pushedOn_150 h


theorem lX6_pushedOn {G : GX} {d : Nat} {mem : Mem} (P c m k p h u : Nat) (y : Int32) (hP : P ≤ 115 ∧ c < 5) (hv : k ≤ 3 ∧ 2 ≤ p ∧ p ≤ 30 ∧ h < 1000000 ∧ 1 ≤ m ∧ m ≤ 5 ∧ u ≤ 5) (e1 : mem 41 (P + c) = nI k) (e2 : mem 41 (P + 5 + c) = nI p) (e3 : mem 41 (P + 10 + c) = nI h) (hy : y = shv (nI k) (nI m) (nI u)) : Go G (d + 1) mX6_pushedOn 58 [(0, .ref 40), (1, .int (nI P)), (2, .int (nI c)), (6, .int y)] [] mem (Rv (fun m2 => m2 = um mem 41 (P + 10 + c) (nI (shN k p h m u)))) := by
  obtain ⟨h1, h2, h3, h4, h5, h6, h7⟩ := hv
  have hs := shN_if (k := k) (p := p) (h := h) (m := m) (u := u) h1 h2 h3 h4 h5 h6 h7
  have hsl := shvN_le k (by omega) m (by omega) u (by omega)
  rw [shv_n k (by omega) m (by omega) u (by omega) h5] at hs hy
  have e3k : (3 : Int32) ≤ nI k ↔ nI k = 3 := by
    rw [show (3 : Int32) = nI 3 from rfl, nle (by omega) (by omega), neq (by omega) (by omega)]
    omega
  refine sX6_pushedOn_58 P c y ⟨v5c (by omega), ?_⟩
  rw [q5c (show P + c < 128 by omega), q10c (show P + c < 128 by omega), e1, e2, e3, e3k]
  intro y1 hy1
  refine ⟨v10c (by omega), fun y2 hy2 => ⟨by omega, fun q => ⟨fun z m3 hm => ⟨rfl, ?_⟩, fun z m3 hm => ⟨rfl, ?_⟩⟩, fun q => ⟨fun z m3 hm => ⟨rfl, ?_⟩, fun z m3 hm => ⟨rfl, ?_⟩⟩⟩⟩
  all_goals subst hy hy1
  · rw [hm, ← hs.1 q]
    rw [hy2] at z
    have z2 := (nle (by omega) (by omega)).mp z
    rw [sub_max h4 (by omega), show h - shvN k m u = 0 by omega]
    rfl
  · rw [hm, ← hs.1 q]
    rw [hy2] at z ⊢
    have z2 : ¬ h ≤ shvN k m u := fun w => z ((nle (by omega) (by omega)).mpr w)
    rw [sub_max h4 (by omega), pk_sub (by omega)]
  · rw [hm, ← hs.2 q]
    rw [hy2] at z ⊢
    rw [if_neg (Int32.not_lt.mpr z)]
  · rw [hm, ← hs.2 q]
    rw [hy2] at z
    rw [if_pos (Int32.not_le.mp z)]
theorem kX6_pushedOn {G : GX} (d : Nat) {mem : Mem} (P c m k p h u : Nat) (hP : P ≤ 115 ∧ c < 5) (hv : k ≤ 3 ∧ 2 ≤ p ∧ p ≤ 30 ∧ h < 1000000 ∧ 1 ≤ m ∧ m ≤ 5 ∧ u ≤ 5) (e1 : mem 41 (P + c) = nI k) (e2 : mem 41 (P + 5 + c) = nI p) (e3 : mem 41 (P + 10 + c) = nI h) (e4 : mem 41 (P + 21) = nI u - 1) : Cn G (d + 1) mX6_pushedOn [.ref 40, .int (nI P), .int (nI c), .int (nI m)] mem (Rv (fun m2 => m2 = um mem 41 (P + 10 + c) (nI (shN k p h m u)))) := by
  refine cn_of (by decide +kernel) (Nat.le_of_ble_eq_true rfl) (sX6_pushedOn_0 P c m ⟨qi (by omega) (by omega), ?_⟩)
  rw [qPc (show P + c < 128 by omega), q21 (show P ≤ 115 by omega), e1, e4]
  intro y2 hy2
  refine ⟨v21 (by omega), fun y4 hy4 => ?_⟩
  have hu : y4 = nI u := by rw [hy4, Int32.sub_add_cancel]
  subst hy2 hu
  refine ⟨fun q => ⟨fun q2 y hy => ?_, fun q2 y hy => ?_⟩, fun q y hy => ?_⟩ <;> refine lX6_pushedOn P c m k p h u y hP hv e1 e2 e3 ?_ <;> rw [hy] <;> unfold shv
  · rw [if_neg q, if_neg q2]
  · rw [if_neg q, if_pos q2]
  · rw [if_pos q]
