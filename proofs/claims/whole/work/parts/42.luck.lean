set_option maxRecDepth 100000 in
theorem sX5_weightOf_0 {G : GX} {d : Nat} {mem : Mem} {Φ : Option Value → Mem → Prop} (a0 a1 a2 : Int32) (hd v n : Nat) (h : (a1 = nI v ∧ (bcI a0) = nI (pcF 32 hd)) ∧ (v < 1000 ∧ pcF 32 hd < 1000) ∧ ((10 - a1) = nI (10 - v) ∧ (a2 - (bcI a0)) = nI (n - pcF 32 hd)) ∧ ((10 - v) < 1000 ∧ (n - pcF 32 hd) < 1000) ∧ Φ (some (.long ((lN (pwN v (pcF 32 hd))) * (lN (pwN (10 - v) (n - pcF 32 hd)))))) mem) : Go G (d + 1) mX5_weightOf 0 [(0, .int a0), (1, .int a1), (2, .int a2)] [] mem Φ := by
  refine go_iload_n dX5_weightOf_0 0 rfl ?_
  refine go_callS (st := []) (kJ6_bitCount_0f7a4 (d + 0) a0) okJ6_bitCount_0f7a4 staJ6_bitCount_0f7a4 lkX5_162 rfl rfl (Nat.le_of_ble_eq_true rfl) dX5_weightOf_1 (fun v_ m2_ q => ?_)
  rw [q.1, q.2]
  refine go_stk (st2 := [.int (bcI a0)]) rfl ?_
  refine go_istore_n (L2 := [(3, .int (bcI a0)), (0, .int a0), (1, .int a1), (2, .int a2)]) dX5_weightOf_4 (by decide) rfl ?_
  refine go_iload_n dX5_weightOf_5 2 rfl ?_
  refine go_iload_n dX5_weightOf_6 0 rfl ?_
  obtain ⟨c1, h⟩ := h
  obtain ⟨c2, h⟩ := h
  refine go_callS (st := []) (kX5_powerOfI (d + 0) a1 (bcI a0) v (pcF 32 hd) c1 c2) okX5_powerOf staX5_powerOf lkX5_219 rfl rfl (Nat.le_of_ble_eq_true rfl) dX5_weightOf_7 (fun v_ m2_ q => ?_)
  rw [q.1, q.2]
  refine go_stk (st2 := [.long (lN (pwN v (pcF 32 hd)))]) rfl ?_
  refine go_bipush (v := 10) dX5_weightOf_10 (by decide) ?_
  refine go_iload_n dX5_weightOf_12 2 rfl ?_
  refine go_isub dX5_weightOf_13 ?_
  refine go_iload_n dX5_weightOf_14 3 rfl ?_
  refine go_iload_n dX5_weightOf_15 0 rfl ?_
  refine go_isub dX5_weightOf_16 ?_
  obtain ⟨c3, h⟩ := h
  obtain ⟨c4, h⟩ := h
  refine go_callS (st := [.long (lN (pwN v (pcF 32 hd)))]) (kX5_powerOfI (d + 0) (10 - a1) (a2 - (bcI a0)) (10 - v) (n - pcF 32 hd) c3 c4) okX5_powerOf staX5_powerOf lkX5_219 rfl rfl (Nat.le_of_ble_eq_true rfl) dX5_weightOf_17 (fun v_ m2_ q => ?_)
  rw [q.1, q.2]
  refine go_stk (st2 := [.long (lN (pwN (10 - v) (n - pcF 32 hd))), .long (lN (pwN v (pcF 32 hd)))]) rfl ?_
  refine go_lmul dX5_weightOf_20 ?_
  exact go_lret rfl dX5_weightOf_21 h

set_option maxRecDepth 100000 in
theorem sX5_fraction_0 {G : GX} {d : Nat} {mem : Mem} {Φ : Option Value → Mem → Prop} (a0 a2 : Int64) (a4 : Int32) (x y : Nat) (h : (a0 = lN x ∧ a2 = lN y) ∧ (x < 2 ^ 62 ∧ y < 2 ^ 60) ∧ ∀ y3 : Int64, y3 = (lN (Nat.gcd y x)) → ((¬ (lg_cmp y3 0) = 0 → ((¬ a4 = 0 → (¬ y3 = 0) ∧ Φ (some (.long (a2 / y3))) mem) ∧ (a4 = 0 → (¬ y3 = 0) ∧ Φ (some (.long (a0 / y3))) mem))) ∧ ((lg_cmp y3 0) = 0 → Φ (some (.long 0)) mem))) : Go G (d + 1) mX5_fraction 0 [(0, .long a0), (2, .long a2), (4, .int a4)] [] mem Φ := by
  refine go_lload_n dX5_fraction_0 0 rfl ?_
  refine go_lload_n dX5_fraction_1 1 rfl ?_
  obtain ⟨c1, h⟩ := h
  obtain ⟨c2, h⟩ := h
  refine go_callS (st := []) (kX5_commonDivisorI (d + 0) a0 a2 x y c1 c2) okX5_commonDivisor staX5_commonDivisor lkX5_282 rfl rfl (Nat.le_of_ble_eq_true rfl) dX5_fraction_2 (fun v_ m2_ q => ?_)
  rw [q.1, q.2]
  refine go_stk (st2 := [.long (lN (Nat.gcd y x))]) rfl ?_
  refine go_topl (fun y3 qy3 => ?_)
  have h := h y3 qy3
  refine go_lstore (L2 := [(5, .long y3), (0, .long a0), (2, .long a2), (4, .int a4)]) dX5_fraction_5 (by decide) rfl ?_
  refine go_lload dX5_fraction_7 0 rfl ?_
  refine go_lconst (v := 0) dX5_fraction_9 (by decide) ?_
  refine go_lcmp dX5_fraction_10 ?_
  refine go_if_ne 16 dX5_fraction_11 (by decide) (fun q => ?_) (fun q => ?_)
  · have h := h.1 q
    refine go_iload dX5_fraction_16 3 rfl ?_
    refine go_if_ne 25 dX5_fraction_18 (by decide) (fun q => ?_) (fun q => ?_)
    · have h := h.1 q
      refine go_lload_n dX5_fraction_25 2 rfl ?_
      refine go_lload dX5_fraction_26 0 rfl ?_
      obtain ⟨c4, h⟩ := h
      refine go_ldiv dX5_fraction_28 c4 ?_
      exact go_lret rfl dX5_fraction_29 h
    · have h := h.2 q
      refine go_lload_n dX5_fraction_21 1 rfl ?_
      refine go_goto 26 dX5_fraction_22 (by decide) ?_
      refine go_lload dX5_fraction_26 0 rfl ?_
      obtain ⟨c5, h⟩ := h
      refine go_ldiv dX5_fraction_28 c5 ?_
      exact go_lret rfl dX5_fraction_29 h
  · have h := h.2 q
    refine go_lconst (v := 0) dX5_fraction_14 (by decide) ?_
    exact go_lret rfl dX5_fraction_15 h


def wtN (hd v n : Nat) : Nat := pwN v (pcF 32 hd) * pwN (10 - v) (n - pcF 32 hd)
theorem kX5_weightOfI {G : GX} (d : Nat) {mem : Mem} (a0 a1 a2 : Int32) (hd v n : Nat) (e : a0 = nI hd ∧ a1 = nI v ∧ a2 = nI n) (h : hd < 256 ∧ v ≤ 10 ∧ n ≤ 8 ∧ pcF 32 hd ≤ n) : Cn G (d + 1) mX5_weightOf [.int a0, .int a1, .int a2] mem (Rl (lN (wtN hd v n)) (fun m2 => m2 = mem)) := by
  rw [e.1, e.2.1, e.2.2]
  have hb := bc_pc (show hd < 1073741824 by omega)
  refine cn_of (by decide +kernel) (Nat.le_of_ble_eq_true rfl) (sX5_weightOf_0 _ _ _ hd v n ?_)
  rw [hb, lN_mul, show (10 : Int32) = nI 10 from rfl, pk_sub h.2.1, pk_sub h.2.2.2]
  exact ⟨⟨rfl, rfl⟩, ⟨by omega, by omega⟩, ⟨rfl, rfl⟩, ⟨by omega, by omega⟩, rfl, rfl⟩
theorem kX5_fractionI {G : GX} (d : Nat) {mem : Mem} (A B : Int64) (w : Int32) (a b : Nat) (e : A = lN a ∧ B = lN b) (h : a < 2 ^ 62 ∧ b < 2 ^ 60 ∧ 0 < b) : Cn G (d + 1) mX5_fraction [.long A, .long B, .int w] mem (Rl (lN (frN a b w)) (fun m2 => m2 = mem)) := by
  rw [e.1, e.2]
  have hp : 0 < Nat.gcd b a := Nat.gcd_pos_of_pos_left _ h.2.2
  have hx : Nat.gcd b a ≤ b := Nat.gcd_le_left _ h.2.2
  have nx : ¬ lN (Nat.gcd b a) = 0 := fun z => by have := (lN_0 (by omega)).mp z; omega
  refine cn_of (by decide +kernel) (Nat.le_of_ble_eq_true rfl) (sX5_fraction_0 _ _ w a b ⟨⟨rfl, rfl⟩, ⟨h.1, h.2.1⟩, fun y ey => ?_⟩)
  subst ey
  refine ⟨fun _ => ⟨fun q => ⟨nx, ?_⟩, fun q => ⟨nx, ?_⟩⟩, fun z => absurd ((lgc_eq _ _).mp z) nx⟩
  · rw [pk_lDiv (by omega) hp (by omega)]
    unfold frN
    rw [if_neg q]
    exact ⟨rfl, rfl⟩
  · rw [pk_lDiv (by omega) hp (by omega)]
    unfold frN
    rw [if_pos q]
    exact ⟨rfl, rfl⟩
theorem kX0_stepHeldI {G : GX} (d : Nat) {mem : Mem} (b : Nat) (hB : BeamAt b) (a hd : Int32) (n : Nat) (X : Bm) (B : Nat) (e : a = nI n) (hn : n < 1000000) (hV : VX 9 B X) (hR : RepB mem b X) : Cn G (d + 4) mX0_stepHeld [.ref b, .int a, .int hd] mem (Ri (nI (smX 9 (hfI hd) X n)) (fun m2 => RepB m2 b (itX 9 (hfI hd) X n) ∧ FrB b mem m2)) := by
  rw [e]; exact kX0_stepHeld d b hB n hd X B hn hV hR
theorem pw_le {b : Nat} (hb : b ≤ 10) : ∀ k, pwN b k ≤ 10 ^ k
  | 0 => Nat.le_refl _
  | k + 1 => by
    show pwN b k * b ≤ 10 ^ (k + 1)
    rw [Nat.pow_succ]
    exact Nat.mul_le_mul (pw_le hb k) hb
theorem pw_pos {b : Nat} (hb : 0 < b) : ∀ k, 0 < pwN b k
  | 0 => Nat.one_pos
  | k + 1 => Nat.mul_pos (pw_pos hb k) hb
theorem wt_le {hd v n : Nat} (hv : v ≤ 10) (hn : n ≤ 8) (hp : pcF 32 hd ≤ n) : wtN hd v n ≤ 100000000 := by
  have h1 := Nat.mul_le_mul (pw_le hv (pcF 32 hd)) (pw_le (show 10 - v ≤ 10 by omega) (n - pcF 32 hd))
  rw [← Nat.pow_add, show pcF 32 hd + (n - pcF 32 hd) = n by omega] at h1
  have h2 : 10 ^ n ≤ 10 ^ 8 := Nat.pow_le_pow_right (by omega) hn
  exact Nat.le_trans h1 h2
theorem pw8 {n : Nat} (hn : n ≤ 8) : pwN 10 n < 2 ^ 60 ∧ 0 < pwN 10 n := by
  have h1 := pw_le (Nat.le_refl 10) n
  have h2 : 10 ^ n ≤ 10 ^ 8 := Nat.pow_le_pow_right (by omega) hn
  exact ⟨by omega, pw_pos (by omega) n⟩
theorem pc_le : ∀ n, n < 9 → ∀ h, h < 256 → h < 2 ^ n → pcF 32 h ≤ n := by decide +kernel
theorem smX_le5 {g : Nat} {hf : Nat → Bool} {X : Bm} (hn : xn X ≤ 5) : ∀ t, smX g hf X t ≤ 5 * t
  | 0 => Nat.le_refl _
  | t + 1 => by
    have h1 := smX_le5 (g := g) (hf := hf) hn t
    have h2 := ctF_le (bt g (itX g hf X t)) (xn (itX g hf X t))
    rw [it_n] at h2
    show smX g hf X t + many g (itX g hf X t) ≤ _
    unfold many
    rw [it_n]
    omega
theorem smF_bd {f : Nat → Nat} {B : Nat} : ∀ {n : Nat}, (∀ i, i < n → f i ≤ B) → smF f n ≤ n * B
  | 0, _ => by show 0 ≤ 0 * B; omega
  | n + 1, h => by
    have a := smF_bd (n := n) (fun i hi => h i (by omega))
    have b := h n (by omega)
    show smF f n + f n ≤ (n + 1) * B
    rw [Nat.succ_mul]
    omega
def lkc (X : Bm) (c v n : Nat) : Nat → Nat := fun h => who 9 (itX 9 (hfI (nI h)) X n) / 2 ^ c % 2 * wtN h v n
def mnc (X : Bm) (v n : Nat) : Nat → Nat := fun h => smX 9 (hfI (nI h)) X n * wtN h v n
theorem p256 {n : Nat} (hn : n ≤ 8) : 2 ^ n ≤ 256 := by
  have : 2 ^ n ≤ 2 ^ 8 := Nat.pow_le_pow_right (by omega) hn
  omega
theorem lk_bd {X : Bm} {c v n : Nat} (hv : v ≤ 10) (hn : n ≤ 8) : smF (lkc X c v n) (2 ^ n) < 2 ^ 62 := by
  have h2 := p256 hn
  have h := smF_bd (f := lkc X c v n) (B := 1 * 100000000) (n := 2 ^ n) (fun i hi => Nat.mul_le_mul (by omega) (wt_le hv hn (pc_le n (by omega) i (by omega) hi)))
  have h3 : 2 ^ n * (1 * 100000000) ≤ 256 * (1 * 100000000) := Nat.mul_le_mul_right _ h2
  omega
theorem mn_bd {X : Bm} {v n : Nat} (hx : xn X ≤ 5) (hv : v ≤ 10) (hn : n ≤ 8) : smF (mnc X v n) (2 ^ n) < 2 ^ 62 := by
  have h2 := p256 hn
  have h := smF_bd (f := mnc X v n) (B := 40 * 100000000) (n := 2 ^ n) (fun i hi => Nat.mul_le_mul (Nat.le_trans (smX_le5 hx n) (by omega)) (wt_le hv hn (pc_le n (by omega) i (by omega) hi)))
  have h3 : 2 ^ n * (40 * 100000000) ≤ 256 * (40 * 100000000) := Nat.mul_le_mul_right _ h2
  omega

set_option maxRecDepth 100000 in
theorem sX5_luck_0 {G : GX} {d : Nat} {mem : Mem} {Φ : Option Value → Mem → Prop} (a1 a2 a3 a4 : Int32) (h : ((¬ (0 ≤ a1 ∧ a1 ≤ 10) → Φ (some (.long (-1))) mem) ∧ ((0 ≤ a1 ∧ a1 ≤ 10) → ((¬ (0 ≤ a2 ∧ a2 < mem 1 4) → Φ (some (.long (-1))) mem) ∧ ((0 ≤ a2 ∧ a2 < mem 1 4) → ((¬ (0 ≤ a3 ∧ a3 ≤ 8) → Φ (some (.long (-1))) mem) ∧ ((0 ≤ a3 ∧ a3 ≤ 8) → (((0 ≤ a4 ∧ a4 ≤ 1) → Go G (d + 5) mX5_luck 48 [(0, .ref 0), (1, .int a1), (2, .int a2), (3, .int a3), (4, .int a4), (5, .long 0), (7, .int 0)] [] mem Φ) ∧ (¬ (0 ≤ a4 ∧ a4 ≤ 1) → Φ (some (.long (-1))) mem))))))))) : Go G (d + 5) mX5_luck 0 [(0, .ref 0), (1, .int a1), (2, .int a2), (3, .int a3), (4, .int a4)] [] mem Φ := by
  refine go_iload_n dX5_luck_0 1 rfl ?_
  refine go_iconst (v := 0) dX5_luck_1 (by decide) ?_
  refine go_bipush (v := 10) dX5_luck_2 (by decide) ?_
  refine go_callS (st := []) (kX5_isWithin (d + 4) a1 0 10) okX5_isWithin staX5_isWithin lkX5_59 rfl rfl (Nat.le_of_ble_eq_true rfl) dX5_luck_4 (fun v_ m2_ q => ?_)
  rw [q.1, q.2]
  refine go_stk (st2 := [.int (bI (0 ≤ a1 ∧ a1 ≤ 10))]) rfl ?_
  refine go_if_eq 38 dX5_luck_7 (by decide) (fun q => ?_) (fun q => ?_)
  · have h := h.1 (bI0.mp q)
    refine go_ldc2 klX5_206 dX5_luck_38 ?_
    exact go_lret rfl dX5_luck_41 h
  · have h := h.2 (bI1.mp q)
    refine go_aload_n dX5_luck_10 0 rfl ?_
    refine go_iload_n dX5_luck_11 2 rfl ?_
    refine go_callV (st := []) (kX5_isClock (d + 4) a2) rfl rfl okX5_isClock insX5_isClock selX5_isClock lkX5_123 rfl rfl (Nat.le_of_ble_eq_true rfl) dX5_luck_12 (fun v_ m2_ q => ?_)
    rw [q.1, q.2]
    refine go_stk (st2 := [.int (bI (0 ≤ a2 ∧ a2 < mem 1 4))]) rfl ?_
    refine go_if_eq 38 dX5_luck_15 (by decide) (fun q => ?_) (fun q => ?_)
    · have h := h.1 (bI0.mp q)
      refine go_ldc2 klX5_206 dX5_luck_38 ?_
      exact go_lret rfl dX5_luck_41 h
    · have h := h.2 (bI1.mp q)
      refine go_iload_n dX5_luck_18 3 rfl ?_
      refine go_iconst (v := 0) dX5_luck_19 (by decide) ?_
      refine go_bipush (v := 8) dX5_luck_20 (by decide) ?_
      refine go_callS (st := []) (kX5_isWithin (d + 4) a3 0 8) okX5_isWithin staX5_isWithin lkX5_59 rfl rfl (Nat.le_of_ble_eq_true rfl) dX5_luck_22 (fun v_ m2_ q => ?_)
      rw [q.1, q.2]
      refine go_stk (st2 := [.int (bI (0 ≤ a3 ∧ a3 ≤ 8))]) rfl ?_
      refine go_if_eq 38 dX5_luck_25 (by decide) (fun q => ?_) (fun q => ?_)
      · have h := h.1 (bI0.mp q)
        refine go_ldc2 klX5_206 dX5_luck_38 ?_
        exact go_lret rfl dX5_luck_41 h
      · have h := h.2 (bI1.mp q)
        refine go_iload dX5_luck_28 4 rfl ?_
        refine go_iconst (v := 0) dX5_luck_30 (by decide) ?_
        refine go_iconst (v := 1) dX5_luck_31 (by decide) ?_
        refine go_callS (st := []) (kX5_isWithin (d + 4) a4 0 1) okX5_isWithin staX5_isWithin lkX5_59 rfl rfl (Nat.le_of_ble_eq_true rfl) dX5_luck_32 (fun v_ m2_ q => ?_)
        rw [q.1, q.2]
        refine go_stk (st2 := [.int (bI (0 ≤ a4 ∧ a4 ≤ 1))]) rfl ?_
        refine go_if_ne 42 dX5_luck_35 (by decide) (fun q => ?_) (fun q => ?_)
        · have h := h.1 (bI1.mp q)
          refine go_lconst (v := 0) dX5_luck_42 (by decide) ?_
          refine go_lstore (L2 := [(5, .long 0), (0, .ref 0), (1, .int a1), (2, .int a2), (3, .int a3), (4, .int a4)]) dX5_luck_43 (by decide) rfl ?_
          refine go_iconst (v := 0) dX5_luck_45 (by decide) ?_
          refine go_istore (L2 := [(7, .int 0), (5, .long 0), (0, .ref 0), (1, .int a1), (2, .int a2), (3, .int a3), (4, .int a4)]) dX5_luck_46 (by decide) rfl ?_
          exact Go.pick [2, 3, 4, 5, 6, 1, 0] rfl h
        · have h := h.2 (bI0.mp q)
          refine go_ldc2 klX5_206 dX5_luck_38 ?_
          exact go_lret rfl dX5_luck_41 h

set_option maxRecDepth 100000 in
theorem sX5_luck_48 {G : GX} {d : Nat} {mem : Mem} {Φ : Option Value → Mem → Prop} (a1 a2 a3 a4 : Int32) (s : Int64) (hd sm v n : Nat) (X : Bm) (h : (((1 <<< (a3 &&& 31)) ≤ (nI hd) → (10 = nI 10 ∧ a3 = nI n) ∧ (10 < 1000 ∧ n < 1000) ∧ (s = lN sm ∧ (lN (pwN 10 n)) = lN (pwN 10 n)) ∧ (sm < 2 ^ 62 ∧ (pwN 10 n) < 2 ^ 60 ∧ 0 < (pwN 10 n)) ∧ Φ (some (.long (lN (frN sm (pwN 10 n) a4)))) mem) ∧ (¬ (1 <<< (a3 &&& 31)) ≤ (nI hd) → (xn X ≤ 5) ∧ (RepB mem 1 X) ∧ ∀ m7 : Mem, (RepB m7 6 X ∧ FrB 6 mem m7) → (a3 = nI n) ∧ (n < 1000000) ∧ (VX 9 30 X) ∧ (RepB m7 6 X) ∧ ∀ m12 : Mem, (RepB m12 6 (itX 9 (hfI (nI hd)) X n) ∧ FrB 6 m7 m12) → (VX 9 30 (itX 9 (hfI (nI hd)) X n)) ∧ (RepB m12 6 (itX 9 (hfI (nI hd)) X n)) ∧ ∀ m15 : Mem, (RepB m15 6 (tkX 9 false (itX 9 (hfI (nI hd)) X n)) ∧ FrB 6 m12 m15) → ((¬ (¬ (((nI (who 9 (itX 9 (hfI (nI hd)) X n))) >>> (a2 &&& 31)) &&& 1) = 0) → Go G (d + 5) mX5_luck 48 [(0, .ref 0), (1, .int a1), (2, .int a2), (3, .int a3), (4, .int a4), (5, .long s), (7, .int ((nI hd) + 1))] [] m15 Φ) ∧ ((¬ (((nI (who 9 (itX 9 (hfI (nI hd)) X n))) >>> (a2 &&& 31)) &&& 1) = 0) → ((nI hd) = nI hd ∧ a1 = nI v ∧ a3 = nI n) ∧ (hd < 256 ∧ v ≤ 10 ∧ n ≤ 8 ∧ pcF 32 hd ≤ n) ∧ ∀ y18 : Int64, y18 = (s + (lN (wtN hd v n))) → Go G (d + 5) mX5_luck 48 [(0, .ref 0), (1, .int a1), (2, .int a2), (3, .int a3), (4, .int a4), (5, .long y18), (7, .int ((nI hd) + 1))] [] m15 Φ))))) : Go G (d + 5) mX5_luck 48 [(0, .ref 0), (1, .int a1), (2, .int a2), (3, .int a3), (4, .int a4), (5, .long s), (7, .int (nI hd))] [] mem Φ := by
  refine go_iload dX5_luck_48 6 rfl ?_
  refine go_iconst (v := 1) dX5_luck_50 (by decide) ?_
  refine go_iload_n dX5_luck_51 3 rfl ?_
  refine go_ishl dX5_luck_52 ?_
  refine go_icmp_ge 100 dX5_luck_53 (by decide) (fun q => ?_) (fun q => ?_)
  · have h := h.1 q
    refine go_lload dX5_luck_100 5 rfl ?_
    refine go_bipush (v := 10) dX5_luck_102 (by decide) ?_
    refine go_iload_n dX5_luck_104 3 rfl ?_
    obtain ⟨c1, h⟩ := h
    obtain ⟨c2, h⟩ := h
    refine go_callS (st := [.long s]) (kX5_powerOfI (d + 4) 10 a3 10 n c1 c2) okX5_powerOf staX5_powerOf lkX5_219 rfl rfl (Nat.le_of_ble_eq_true rfl) dX5_luck_105 (fun v_ m2_ q => ?_)
    rw [q.1, q.2]
    refine go_stk (st2 := [.long (lN (pwN 10 n)), .long s]) rfl ?_
    refine go_iload dX5_luck_108 4 rfl ?_
    obtain ⟨c3, h⟩ := h
    obtain ⟨c4, h⟩ := h
    refine go_callS (st := []) (kX5_fractionI (d + 3) s (lN (pwN 10 n)) a4 sm (pwN 10 n) c3 c4) okX5_fraction staX5_fraction lkX5_223 rfl rfl (Nat.le_of_ble_eq_true rfl) dX5_luck_110 (fun v_ m2_ q => ?_)
    rw [q.1, q.2]
    refine go_stk (st2 := [.long (lN (frN sm (pwN 10 n) a4))]) rfl ?_
    exact go_lret rfl dX5_luck_113 h
  · have h := h.2 q
    refine go_aload_n dX5_luck_56 0 rfl ?_
    obtain ⟨c5, h⟩ := h
    obtain ⟨c6, h⟩ := h
    refine go_callV (st := []) (kX5_tryNow (d + 2) X c5 c6) rfl rfl okX5_tryNow insX5_tryNow selX5_tryNow lkX5_112 rfl rfl (Nat.le_of_ble_eq_true rfl) dX5_luck_57 (fun v_ m7 q => ?_)
    rw [q.1]
    have h := h m7 q.2
    refine go_stk (st2 := [.ref 6]) rfl ?_
    refine go_iload_n dX5_luck_60 3 rfl ?_
    refine go_iload dX5_luck_61 6 rfl ?_
    obtain ⟨c8, h⟩ := h
    obtain ⟨c9, h⟩ := h
    obtain ⟨c10, h⟩ := h
    obtain ⟨c11, h⟩ := h
    refine go_callV (st := []) (kX0_stepHeldI (d + 0) 6 bA6 a3 (nI hd) n X 30 c8 c9 c10 c11) rfl rfl okX0_stepHeld insX0_stepHeld selX0_stepHeld lkX5_208 rfl rfl (Nat.le_of_ble_eq_true rfl) dX5_luck_63 (fun v_ m12 q => ?_)
    rw [q.1]
    have h := h m12 q.2
    refine go_stk (st2 := [.int (nI (smX 9 (hfI (nI hd)) X n))]) rfl ?_
    refine go_pop dX5_luck_66 rfl ?_
    refine go_aload_n dX5_luck_67 0 rfl ?_
    refine go_getR (kf := 1) (t := 6) rfl rfl rfl uwX5 (by decide) flX5_16 dX5_luck_68 ?_
    refine go_iconst (v := 0) dX5_luck_71 (by decide) ?_
    obtain ⟨c13, h⟩ := h
    obtain ⟨c14, h⟩ := h
    refine go_callV (st := []) (kX0_step (d + 1) 6 bA6 (itX 9 (hfI (nI hd)) X n) false 30 c13 c14) rfl rfl okX0_step insX0_step selX0_step lkX5_116 rfl rfl (Nat.le_of_ble_eq_true rfl) dX5_luck_72 (fun v_ m15 q => ?_)
    rw [q.1]
    have h := h m15 q.2
    refine go_stk (st2 := [.int (nI (who 9 (itX 9 (hfI (nI hd)) X n)))]) rfl ?_
    refine go_iload_n dX5_luck_75 2 rfl ?_
    refine go_callS (st := []) (kX5_isBitSet (d + 4) (nI (who 9 (itX 9 (hfI (nI hd)) X n))) a2) okX5_isBitSet staX5_isBitSet lkX5_211 rfl rfl (Nat.le_of_ble_eq_true rfl) dX5_luck_76 (fun v_ m2_ q => ?_)
    rw [q.1, q.2]
    refine go_stk (st2 := [.int (bI (¬ (((nI (who 9 (itX 9 (hfI (nI hd)) X n))) >>> (a2 &&& 31)) &&& 1) = 0))]) rfl ?_
    refine go_if_eq 94 dX5_luck_79 (by decide) (fun q => ?_) (fun q => ?_)
    · have h := h.1 (bI0.mp q)
      refine go_iinc (v := ((nI hd) + 1)) (L2 := [(7, .int ((nI hd) + 1)), (0, .ref 0), (1, .int a1), (2, .int a2), (3, .int a3), (4, .int a4), (5, .long s)]) dX5_luck_94 6 rfl rfl (by decide) rfl ?_
      refine go_goto 48 dX5_luck_97 (by decide) ?_
      exact Go.pick [1, 2, 3, 4, 5, 6, 0] rfl h
    · have h := h.2 (bI1.mp q)
      refine go_lload dX5_luck_82 5 rfl ?_
      refine go_iload dX5_luck_84 6 rfl ?_
      refine go_iload_n dX5_luck_86 1 rfl ?_
      refine go_iload_n dX5_luck_87 3 rfl ?_
      obtain ⟨c16, h⟩ := h
      obtain ⟨c17, h⟩ := h
      refine go_callS (st := [.long s]) (kX5_weightOfI (d + 3) (nI hd) a1 a3 hd v n c16 c17) okX5_weightOf staX5_weightOf lkX5_215 rfl rfl (Nat.le_of_ble_eq_true rfl) dX5_luck_88 (fun v_ m2_ q => ?_)
      rw [q.1, q.2]
      refine go_stk (st2 := [.long (lN (wtN hd v n)), .long s]) rfl ?_
      refine go_ladd dX5_luck_91 ?_
      refine go_topl (fun y18 qy18 => ?_)
      have h := h y18 qy18
      refine go_lstore (L2 := [(5, .long y18), (0, .ref 0), (1, .int a1), (2, .int a2), (3, .int a3), (4, .int a4), (7, .int (nI hd))]) dX5_luck_92 (by decide) rfl ?_
      refine go_iinc (v := ((nI hd) + 1)) (L2 := [(7, .int ((nI hd) + 1)), (5, .long y18), (0, .ref 0), (1, .int a1), (2, .int a2), (3, .int a3), (4, .int a4)]) dX5_luck_94 6 rfl rfl (by decide) rfl ?_
      refine go_goto 48 dX5_luck_97 (by decide) ?_
      exact Go.pick [2, 3, 4, 5, 6, 1, 0] rfl h

set_option maxRecDepth 100000 in
theorem sX5_mean_0 {G : GX} {d : Nat} {mem : Mem} {Φ : Option Value → Mem → Prop} (a1 a2 a3 : Int32) (h : ((¬ (0 ≤ a1 ∧ a1 ≤ 10) → Φ (some (.long (-1))) mem) ∧ ((0 ≤ a1 ∧ a1 ≤ 10) → ((¬ (0 ≤ a2 ∧ a2 ≤ 8) → Φ (some (.long (-1))) mem) ∧ ((0 ≤ a2 ∧ a2 ≤ 8) → (((0 ≤ a3 ∧ a3 ≤ 1) → Go G (d + 5) mX5_mean 39 [(0, .ref 0), (1, .int a1), (2, .int a2), (3, .int a3), (4, .long 0), (6, .int 0)] [] mem Φ) ∧ (¬ (0 ≤ a3 ∧ a3 ≤ 1) → Φ (some (.long (-1))) mem))))))) : Go G (d + 5) mX5_mean 0 [(0, .ref 0), (1, .int a1), (2, .int a2), (3, .int a3)] [] mem Φ := by
  refine go_iload_n dX5_mean_0 1 rfl ?_
  refine go_iconst (v := 0) dX5_mean_1 (by decide) ?_
  refine go_bipush (v := 10) dX5_mean_2 (by decide) ?_
  refine go_callS (st := []) (kX5_isWithin (d + 4) a1 0 10) okX5_isWithin staX5_isWithin lkX5_59 rfl rfl (Nat.le_of_ble_eq_true rfl) dX5_mean_4 (fun v_ m2_ q => ?_)
  rw [q.1, q.2]
  refine go_stk (st2 := [.int (bI (0 ≤ a1 ∧ a1 ≤ 10))]) rfl ?_
  refine go_if_eq 29 dX5_mean_7 (by decide) (fun q => ?_) (fun q => ?_)
  · have h := h.1 (bI0.mp q)
    refine go_ldc2 klX5_206 dX5_mean_29 ?_
    exact go_lret rfl dX5_mean_32 h
  · have h := h.2 (bI1.mp q)
    refine go_iload_n dX5_mean_10 2 rfl ?_
    refine go_iconst (v := 0) dX5_mean_11 (by decide) ?_
    refine go_bipush (v := 8) dX5_mean_12 (by decide) ?_
    refine go_callS (st := []) (kX5_isWithin (d + 4) a2 0 8) okX5_isWithin staX5_isWithin lkX5_59 rfl rfl (Nat.le_of_ble_eq_true rfl) dX5_mean_14 (fun v_ m2_ q => ?_)
    rw [q.1, q.2]
    refine go_stk (st2 := [.int (bI (0 ≤ a2 ∧ a2 ≤ 8))]) rfl ?_
    refine go_if_eq 29 dX5_mean_17 (by decide) (fun q => ?_) (fun q => ?_)
    · have h := h.1 (bI0.mp q)
      refine go_ldc2 klX5_206 dX5_mean_29 ?_
      exact go_lret rfl dX5_mean_32 h
    · have h := h.2 (bI1.mp q)
      refine go_iload_n dX5_mean_20 3 rfl ?_
      refine go_iconst (v := 0) dX5_mean_21 (by decide) ?_
      refine go_iconst (v := 1) dX5_mean_22 (by decide) ?_
      refine go_callS (st := []) (kX5_isWithin (d + 4) a3 0 1) okX5_isWithin staX5_isWithin lkX5_59 rfl rfl (Nat.le_of_ble_eq_true rfl) dX5_mean_23 (fun v_ m2_ q => ?_)
      rw [q.1, q.2]
      refine go_stk (st2 := [.int (bI (0 ≤ a3 ∧ a3 ≤ 1))]) rfl ?_
      refine go_if_ne 33 dX5_mean_26 (by decide) (fun q => ?_) (fun q => ?_)
      · have h := h.1 (bI1.mp q)
        refine go_lconst (v := 0) dX5_mean_33 (by decide) ?_
        refine go_lstore (L2 := [(4, .long 0), (0, .ref 0), (1, .int a1), (2, .int a2), (3, .int a3)]) dX5_mean_34 (by decide) rfl ?_
        refine go_iconst (v := 0) dX5_mean_36 (by decide) ?_
        refine go_istore (L2 := [(6, .int 0), (4, .long 0), (0, .ref 0), (1, .int a1), (2, .int a2), (3, .int a3)]) dX5_mean_37 (by decide) rfl ?_
        exact Go.pick [2, 3, 4, 5, 1, 0] rfl h
      · have h := h.2 (bI0.mp q)
        refine go_ldc2 klX5_206 dX5_mean_29 ?_
        exact go_lret rfl dX5_mean_32 h

set_option maxRecDepth 100000 in
theorem sX5_mean_39 {G : GX} {d : Nat} {mem : Mem} {Φ : Option Value → Mem → Prop} (a1 a2 a3 : Int32) (s : Int64) (hd sm v n : Nat) (X : Bm) (h : (((1 <<< (a2 &&& 31)) ≤ (nI hd) → (10 = nI 10 ∧ a2 = nI n) ∧ (10 < 1000 ∧ n < 1000) ∧ (s = lN sm ∧ (lN (pwN 10 n)) = lN (pwN 10 n)) ∧ (sm < 2 ^ 62 ∧ (pwN 10 n) < 2 ^ 60 ∧ 0 < (pwN 10 n)) ∧ Φ (some (.long (lN (frN sm (pwN 10 n) a3)))) mem) ∧ (¬ (1 <<< (a2 &&& 31)) ≤ (nI hd) → (xn X ≤ 5) ∧ (RepB mem 1 X) ∧ ∀ m7 : Mem, (RepB m7 6 X ∧ FrB 6 mem m7) → (a2 = nI n) ∧ (n < 1000000) ∧ (VX 9 30 X) ∧ (RepB m7 6 X) ∧ ∀ m12 : Mem, (RepB m12 6 (itX 9 (hfI (nI hd)) X n) ∧ FrB 6 m7 m12) → ((nI hd) = nI hd ∧ a1 = nI v ∧ a2 = nI n) ∧ (hd < 256 ∧ v ≤ 10 ∧ n ≤ 8 ∧ pcF 32 hd ≤ n) ∧ ∀ y15 : Int64, y15 = (s + ((((nI (smX 9 (hfI (nI hd)) X n)) : Int32).toInt64) * (lN (wtN hd v n)))) → Go G (d + 5) mX5_mean 39 [(0, .ref 0), (1, .int a1), (2, .int a2), (3, .int a3), (4, .long y15), (6, .int ((nI hd) + 1))] [] m12 Φ))) : Go G (d + 5) mX5_mean 39 [(0, .ref 0), (1, .int a1), (2, .int a2), (3, .int a3), (4, .long s), (6, .int (nI hd))] [] mem Φ := by
  refine go_iload dX5_mean_39 5 rfl ?_
  refine go_iconst (v := 1) dX5_mean_41 (by decide) ?_
  refine go_iload_n dX5_mean_42 2 rfl ?_
  refine go_ishl dX5_mean_43 ?_
  refine go_icmp_ge 77 dX5_mean_44 (by decide) (fun q => ?_) (fun q => ?_)
  · have h := h.1 q
    refine go_lload dX5_mean_77 4 rfl ?_
    refine go_bipush (v := 10) dX5_mean_79 (by decide) ?_
    refine go_iload_n dX5_mean_81 2 rfl ?_
    obtain ⟨c1, h⟩ := h
    obtain ⟨c2, h⟩ := h
    refine go_callS (st := [.long s]) (kX5_powerOfI (d + 4) 10 a2 10 n c1 c2) okX5_powerOf staX5_powerOf lkX5_219 rfl rfl (Nat.le_of_ble_eq_true rfl) dX5_mean_82 (fun v_ m2_ q => ?_)
    rw [q.1, q.2]
    refine go_stk (st2 := [.long (lN (pwN 10 n)), .long s]) rfl ?_
    refine go_iload_n dX5_mean_85 3 rfl ?_
    obtain ⟨c3, h⟩ := h
    obtain ⟨c4, h⟩ := h
    refine go_callS (st := []) (kX5_fractionI (d + 3) s (lN (pwN 10 n)) a3 sm (pwN 10 n) c3 c4) okX5_fraction staX5_fraction lkX5_223 rfl rfl (Nat.le_of_ble_eq_true rfl) dX5_mean_86 (fun v_ m2_ q => ?_)
    rw [q.1, q.2]
    refine go_stk (st2 := [.long (lN (frN sm (pwN 10 n) a3))]) rfl ?_
    exact go_lret rfl dX5_mean_89 h
  · have h := h.2 q
    refine go_lload dX5_mean_47 4 rfl ?_
    refine go_aload_n dX5_mean_49 0 rfl ?_
    obtain ⟨c5, h⟩ := h
    obtain ⟨c6, h⟩ := h
    refine go_callV (st := [.long s]) (kX5_tryNow (d + 2) X c5 c6) rfl rfl okX5_tryNow insX5_tryNow selX5_tryNow lkX5_112 rfl rfl (Nat.le_of_ble_eq_true rfl) dX5_mean_50 (fun v_ m7 q => ?_)
    rw [q.1]
    have h := h m7 q.2
    refine go_stk (st2 := [.ref 6, .long s]) rfl ?_
    refine go_iload_n dX5_mean_53 2 rfl ?_
    refine go_iload dX5_mean_54 5 rfl ?_
    obtain ⟨c8, h⟩ := h
    obtain ⟨c9, h⟩ := h
    obtain ⟨c10, h⟩ := h
    obtain ⟨c11, h⟩ := h
    refine go_callV (st := [.long s]) (kX0_stepHeldI (d + 0) 6 bA6 a2 (nI hd) n X 30 c8 c9 c10 c11) rfl rfl okX0_stepHeld insX0_stepHeld selX0_stepHeld lkX5_208 rfl rfl (Nat.le_of_ble_eq_true rfl) dX5_mean_56 (fun v_ m12 q => ?_)
    rw [q.1]
    have h := h m12 q.2
    refine go_stk (st2 := [.int (nI (smX 9 (hfI (nI hd)) X n)), .long s]) rfl ?_
    refine go_i2l dX5_mean_59 ?_
    refine go_iload dX5_mean_60 5 rfl ?_
    refine go_iload_n dX5_mean_62 1 rfl ?_
    refine go_iload_n dX5_mean_63 2 rfl ?_
    obtain ⟨c13, h⟩ := h
    obtain ⟨c14, h⟩ := h
    refine go_callS (st := [.long (((nI (smX 9 (hfI (nI hd)) X n)) : Int32).toInt64), .long s]) (kX5_weightOfI (d + 3) (nI hd) a1 a2 hd v n c13 c14) okX5_weightOf staX5_weightOf lkX5_215 rfl rfl (Nat.le_of_ble_eq_true rfl) dX5_mean_64 (fun v_ m2_ q => ?_)
    rw [q.1, q.2]
    refine go_stk (st2 := [.long (lN (wtN hd v n)), .long (((nI (smX 9 (hfI (nI hd)) X n)) : Int32).toInt64), .long s]) rfl ?_
    refine go_lmul dX5_mean_67 ?_
    refine go_ladd dX5_mean_68 ?_
    refine go_topl (fun y15 qy15 => ?_)
    have h := h y15 qy15
    refine go_lstore (L2 := [(4, .long y15), (0, .ref 0), (1, .int a1), (2, .int a2), (3, .int a3), (6, .int (nI hd))]) dX5_mean_69 (by decide) rfl ?_
    refine go_iinc (v := ((nI hd) + 1)) (L2 := [(6, .int ((nI hd) + 1)), (4, .long y15), (0, .ref 0), (1, .int a1), (2, .int a2), (3, .int a3)]) dX5_mean_71 5 rfl rfl (by decide) rfl ?_
    refine go_goto 39 dX5_mean_74 (by decide) ?_
    exact Go.pick [2, 3, 4, 5, 1, 0] rfl h


theorem lX5_luck {G : GX} {d : Nat} {mem0 : Mem} (v c n : Nat) (w : Int32) (X : Bm) (hV : VX 9 30 X) (hc : c < xn X) (hv : v ≤ 10) (hn8 : n ≤ 8) (hR : RepB mem0 1 X) : ∀ (r h : Nat) (m : Mem), h + r = 2 ^ n → QC mem0 m → Go G (d + 5) mX5_luck 48 [(0, .ref 0), (1, .int (nI v)), (2, .int (nI c)), (3, .int (nI n)), (4, .int w), (5, .long (lN (smF (lkc X c v n) h))), (7, .int (nI h))] [] m (Rl (lN (frN (smF (lkc X c v n) (2 ^ n)) (pwN 10 n) w)) (QC mem0)) := by
  intro r
  have hn := hV.1
  have h256 := p256 hn8
  induction r with
  | zero =>
    intro h m hh h1
    have hh2 : h = 2 ^ n := by omega
    refine sX5_luck_48 _ _ _ w _ h (smF (lkc X c v n) h) v n X ?_
    rw [shl1 n (by omega), hh2]
    exact ⟨fun _ => ⟨⟨rfl, rfl⟩, ⟨by omega, by omega⟩, ⟨rfl, rfl⟩, ⟨lk_bd hv hn8, pw8 hn8⟩, rfl, h1⟩, fun z => absurd (Int32.le_refl _) z⟩
  | succ r ih =>
    intro h m hh h1
    have hR1 : RepB m 1 X := hR.fr (fun j a b => h1 j (by omega) (by omega) (by omega))
    have hVi : VX 9 30 (itX 9 (hfI (nI h)) X n) := VX_it hV n
    refine sX5_luck_48 _ _ _ w _ h (smF (lkc X c v n) h) v n X ?_
    rw [shl1 n (by omega), bit_at _ (who_lt hVi) c (by omega), nI_1]
    refine ⟨fun z => absurd ((nle (by omega) (by omega)).mp z) (by omega), fun _ => ⟨hn, hR1, fun m7 h7 => ⟨rfl, by omega, hV, h7.1, fun m12 h12 => ⟨hVi, h12.1, fun m15 h15 => ?_⟩⟩⟩⟩
    have i9 := ih (h + 1) m15 (by omega) (((h1.of6 h7.2).of6 h12.2).of6 h15.2)
    rw [show smF (lkc X c v n) (h + 1) = smF (lkc X c v n) h + who 9 (itX 9 (hfI (nI h)) X n) / 2 ^ c % 2 * wtN h v n from rfl] at i9
    rcases Nat.mod_two_eq_zero_or_one (who 9 (itX 9 (hfI (nI h)) X n) / 2 ^ c) with z | z
    · rw [z, Nat.zero_mul, Nat.add_zero] at i9
      rw [z]
      exact ⟨fun _ => i9, fun y => absurd rfl y⟩
    · rw [z, Nat.one_mul] at i9
      rw [z]
      refine ⟨fun y => absurd (show ¬ nI 1 = (0 : Int32) by decide) y, fun _ => ⟨⟨rfl, rfl, rfl⟩, ⟨by omega, hv, hn8, pc_le n (by omega) h (by omega) (by omega)⟩, fun y ey => ?_⟩⟩
      rw [lN_add] at ey
      rw [ey]; exact i9
theorem lX5_mean {G : GX} {d : Nat} {mem0 : Mem} (v n : Nat) (w : Int32) (X : Bm) (hV : VX 9 30 X) (hv : v ≤ 10) (hn8 : n ≤ 8) (hR : RepB mem0 1 X) : ∀ (r h : Nat) (m : Mem), h + r = 2 ^ n → QC mem0 m → Go G (d + 5) mX5_mean 39 [(0, .ref 0), (1, .int (nI v)), (2, .int (nI n)), (3, .int w), (4, .long (lN (smF (mnc X v n) h))), (6, .int (nI h))] [] m (Rl (lN (frN (smF (mnc X v n) (2 ^ n)) (pwN 10 n) w)) (QC mem0)) := by
  intro r
  have hn := hV.1
  have h256 := p256 hn8
  induction r with
  | zero =>
    intro h m hh h1
    have hh2 : h = 2 ^ n := by omega
    refine sX5_mean_39 _ _ w _ h (smF (mnc X v n) h) v n X ?_
    rw [shl1 n (by omega), hh2]
    exact ⟨fun _ => ⟨⟨rfl, rfl⟩, ⟨by omega, by omega⟩, ⟨rfl, rfl⟩, ⟨mn_bd hn hv hn8, pw8 hn8⟩, rfl, h1⟩, fun z => absurd (Int32.le_refl _) z⟩
  | succ r ih =>
    intro h m hh h1
    have hR1 : RepB m 1 X := hR.fr (fun j a b => h1 j (by omega) (by omega) (by omega))
    have hs := smX_le5 (g := 9) (hf := hfI (nI h)) hn n
    refine sX5_mean_39 _ _ w _ h (smF (mnc X v n) h) v n X ?_
    rw [shl1 n (by omega), nI_1, wid (show smX 9 (hfI (nI h)) X n < 2 ^ 31 by omega), lN_mul, lN_add]
    refine ⟨fun z => absurd ((nle (by omega) (by omega)).mp z) (by omega), fun _ => ⟨hn, hR1, fun m7 h7 => ⟨rfl, by omega, hV, h7.1, fun m12 h12 => ⟨⟨rfl, rfl, rfl⟩, ⟨by omega, hv, hn8, pc_le n (by omega) h (by omega) (by omega)⟩, fun y ey => ?_⟩⟩⟩⟩
    rw [ey]
    exact ih (h + 1) m12 (by omega) ((h1.of6 h7.2).of6 h12.2)
