
/-! fractions -/
theorem lgc_eq (x y : Int64) : lg_cmp x y = 0 ↔ x = y := by
  unfold lg_cmp
  by_cases h : x > y
  · rw [if_pos h]
    refine ⟨fun z => absurd z (by decide), fun z => ?_⟩
    rw [z] at h
    exact absurd h (fun q => absurd q (Int64.not_lt.mpr (Int64.le_refl _)))
  · rw [if_neg h]
    by_cases h2 : x = y
    · rw [if_pos h2]; exact ⟨fun _ => h2, fun _ => rfl⟩
    · rw [if_neg h2]; exact ⟨fun z => absurd z (by decide), fun z => absurd z h2⟩
theorem lN_0 {n : Nat} (h : n < 2 ^ 63) : lN n = 0 ↔ n = 0 := fb_lN_inj (b := 0) h (by omega)
theorem mod_half {b r : Nat} (h0 : 0 < r) (h : r < b) {k : Nat} (hb : b < 2 ^ (k + 1)) : b % r < 2 ^ k := by
  have h1 := Nat.mod_add_div b r
  have h2 := Nat.mod_lt b h0
  have h3 : 1 ≤ b / r := (Nat.one_le_div_iff h0).mpr (by omega)
  have h4 : r * 1 ≤ r * (b / r) := Nat.mul_le_mul_left _ h3
  rw [Nat.pow_succ] at hb
  omega
theorem gcd_st {a b : Nat} : Nat.gcd (a % b) b = Nat.gcd b a := (Nat.gcd_rec b a).symm

set_option maxRecDepth 100000 in
theorem sX5_commonDivisor_0 {G : GX} {d : Nat} {mem : Mem} {Φ : Option Value → Mem → Prop} (a0 : Int64) (a2 : Int64) (h : Go G (d + 0) mX5_commonDivisor 9 [(4, .long a0), (6, .long a2), (8, .int 0)] [] mem Φ) : Go G (d + 0) mX5_commonDivisor 0 [(0, .long a0), (2, .long a2)] [] mem Φ := by
  refine go_lload_n dX5_commonDivisor_0 0 rfl ?_
  refine go_lstore (L2 := [(4, .long a0), (0, .long a0), (2, .long a2)]) dX5_commonDivisor_1 (by decide) rfl ?_
  refine go_lload_n dX5_commonDivisor_3 2 rfl ?_
  refine go_lstore (L2 := [(6, .long a2), (4, .long a0), (0, .long a0), (2, .long a2)]) dX5_commonDivisor_4 (by decide) rfl ?_
  refine go_iconst (v := 0) dX5_commonDivisor_6 (by decide) ?_
  refine go_istore (L2 := [(8, .int 0), (6, .long a2), (4, .long a0), (0, .long a0), (2, .long a2)]) dX5_commonDivisor_7 (by decide) rfl ?_
  exact Go.pick [2, 1, 0] rfl h

set_option maxRecDepth 100000 in
theorem sX5_commonDivisor_9 {G : GX} {d : Nat} {mem : Mem} {Φ : Option Value → Mem → Prop} (x y : Int64) (i : Nat) (h : ((200 ≤ (nI i) → Φ (some (.long x)) mem) ∧ (¬ 200 ≤ (nI i) → (((lg_cmp y 0) = 0 → Φ (some (.long x)) mem) ∧ (¬ (lg_cmp y 0) = 0 → (¬ y = 0) ∧ ∀ y2 : Int64, y2 = (x - x / y * y) → Go G (d + 0) mX5_commonDivisor 9 [(4, .long y), (6, .long y2), (8, .int ((nI i) + 1))] [] mem Φ))))) : Go G (d + 0) mX5_commonDivisor 9 [(4, .long x), (6, .long y), (8, .int (nI i))] [] mem Φ := by
  refine go_iload dX5_commonDivisor_9 2 rfl ?_
  refine go_sipush (v := 200) dX5_commonDivisor_11 (by decide) ?_
  refine go_icmp_ge 45 dX5_commonDivisor_14 (by decide) (fun q => ?_) (fun q => ?_)
  · have h := h.1 q
    refine go_lload dX5_commonDivisor_45 0 rfl ?_
    exact go_lret rfl dX5_commonDivisor_47 h
  · have h := h.2 q
    refine go_lload dX5_commonDivisor_17 1 rfl ?_
    refine go_lconst (v := 0) dX5_commonDivisor_19 (by decide) ?_
    refine go_lcmp dX5_commonDivisor_20 ?_
    refine go_if_eq 45 dX5_commonDivisor_21 (by decide) (fun q => ?_) (fun q => ?_)
    · have h := h.1 q
      refine go_lload dX5_commonDivisor_45 0 rfl ?_
      exact go_lret rfl dX5_commonDivisor_47 h
    · have h := h.2 q
      refine go_lload dX5_commonDivisor_24 0 rfl ?_
      refine go_lload dX5_commonDivisor_26 1 rfl ?_
      obtain ⟨c1, h⟩ := h
      refine go_lrem dX5_commonDivisor_28 c1 ?_
      refine go_topl (fun y2 qy2 => ?_)
      have h := h y2 qy2
      refine go_lstore (L2 := [(9, .long y2), (4, .long x), (6, .long y), (8, .int (nI i))]) dX5_commonDivisor_29 (by decide) rfl ?_
      refine go_lload dX5_commonDivisor_31 2 rfl ?_
      refine go_lstore (L2 := [(4, .long y), (9, .long y2), (6, .long y), (8, .int (nI i))]) dX5_commonDivisor_33 (by decide) rfl ?_
      refine go_lload dX5_commonDivisor_35 1 rfl ?_
      refine go_lstore (L2 := [(6, .long y2), (4, .long y), (9, .long y2), (8, .int (nI i))]) dX5_commonDivisor_37 (by decide) rfl ?_
      refine go_iinc (v := ((nI i) + 1)) (L2 := [(8, .int ((nI i) + 1)), (6, .long y2), (4, .long y), (9, .long y2)]) dX5_commonDivisor_39 3 rfl rfl (by decide) rfl ?_
      refine go_goto 9 dX5_commonDivisor_42 (by decide) ?_
      exact Go.pick [2, 1, 0] rfl h

set_option maxRecDepth 100000 in
theorem sX6_lowest_0 {G : GX} {d : Nat} {mem : Mem} {Φ : Option Value → Mem → Prop} (a0 : Int64) (a2 : Int64) (a4 : Int32) (h : Go G (d + 0) mX6_lowest 6 [(0, .long a0), (2, .long a2), (4, .int a4), (5, .long a0), (7, .long a2)] [] mem Φ) : Go G (d + 0) mX6_lowest 0 [(0, .long a0), (2, .long a2), (4, .int a4)] [] mem Φ := by
  refine go_lload_n dX6_lowest_0 0 rfl ?_
  refine go_lstore (L2 := [(5, .long a0), (0, .long a0), (2, .long a2), (4, .int a4)]) dX6_lowest_1 (by decide) rfl ?_
  refine go_lload_n dX6_lowest_3 2 rfl ?_
  refine go_lstore (L2 := [(7, .long a2), (5, .long a0), (0, .long a0), (2, .long a2), (4, .int a4)]) dX6_lowest_4 (by decide) rfl ?_
  exact Go.pick [2, 3, 4, 1, 0] rfl h

set_option maxRecDepth 100000 in
theorem sX6_lowest_6 {G : GX} {d : Nat} {mem : Mem} {Φ : Option Value → Mem → Prop} (a b : Int64) (w : Int32) (x y : Int64) (h : (((lg_cmp y 0) = 0 → ((¬ w = 0 → (¬ x = 0) ∧ Φ (some (.long (b / x))) mem) ∧ (w = 0 → (¬ x = 0) ∧ Φ (some (.long (a / x))) mem))) ∧ (¬ (lg_cmp y 0) = 0 → (¬ y = 0) ∧ ∀ y4 : Int64, y4 = (x - x / y * y) → Go G (d + 0) mX6_lowest 6 [(0, .long a), (2, .long b), (4, .int w), (5, .long y), (7, .long y4)] [] mem Φ))) : Go G (d + 0) mX6_lowest 6 [(0, .long a), (2, .long b), (4, .int w), (5, .long x), (7, .long y)] [] mem Φ := by
  refine go_lload dX6_lowest_6 4 rfl ?_
  refine go_lconst (v := 0) dX6_lowest_8 (by decide) ?_
  refine go_lcmp dX6_lowest_9 ?_
  refine go_if_eq 31 dX6_lowest_10 (by decide) (fun q => ?_) (fun q => ?_)
  · have h := h.1 q
    refine go_iload dX6_lowest_31 2 rfl ?_
    refine go_if_ne 40 dX6_lowest_33 (by decide) (fun q => ?_) (fun q => ?_)
    · have h := h.1 q
      refine go_lload_n dX6_lowest_40 1 rfl ?_
      refine go_lload dX6_lowest_41 3 rfl ?_
      obtain ⟨c1, h⟩ := h
      refine go_ldiv dX6_lowest_43 c1 ?_
      exact go_lret rfl dX6_lowest_44 h
    · have h := h.2 q
      refine go_lload_n dX6_lowest_36 0 rfl ?_
      refine go_goto 41 dX6_lowest_37 (by decide) ?_
      refine go_lload dX6_lowest_41 3 rfl ?_
      obtain ⟨c2, h⟩ := h
      refine go_ldiv dX6_lowest_43 c2 ?_
      exact go_lret rfl dX6_lowest_44 h
  · have h := h.2 q
    refine go_lload dX6_lowest_13 3 rfl ?_
    refine go_lload dX6_lowest_15 4 rfl ?_
    obtain ⟨c3, h⟩ := h
    refine go_lrem dX6_lowest_17 c3 ?_
    refine go_topl (fun y4 qy4 => ?_)
    have h := h y4 qy4
    refine go_lstore (L2 := [(9, .long y4), (0, .long a), (2, .long b), (4, .int w), (5, .long x), (7, .long y)]) dX6_lowest_18 (by decide) rfl ?_
    refine go_lload dX6_lowest_20 5 rfl ?_
    refine go_lstore (L2 := [(5, .long y), (9, .long y4), (0, .long a), (2, .long b), (4, .int w), (7, .long y)]) dX6_lowest_22 (by decide) rfl ?_
    refine go_lload dX6_lowest_24 1 rfl ?_
    refine go_lstore (L2 := [(7, .long y4), (5, .long y), (9, .long y4), (0, .long a), (2, .long b), (4, .int w)]) dX6_lowest_26 (by decide) rfl ?_
    refine go_goto 6 dX6_lowest_28 (by decide) ?_
    exact Go.pick [3, 4, 5, 1, 0] rfl h

set_option maxRecDepth 100000 in
theorem sX5_powerOf_0 {G : GX} {d : Nat} {mem : Mem} {Φ : Option Value → Mem → Prop} (a0 : Int32) (a1 : Int32) (h : Go G (d + 0) mX5_powerOf 5 [(0, .int a0), (1, .int a1), (2, .long 1), (4, .int 0)] [] mem Φ) : Go G (d + 0) mX5_powerOf 0 [(0, .int a0), (1, .int a1)] [] mem Φ := by
  refine go_lconst (v := 1) dX5_powerOf_0 (by decide) ?_
  refine go_lstore_n (L2 := [(2, .long 1), (0, .int a0), (1, .int a1)]) dX5_powerOf_1 (by decide) rfl ?_
  refine go_iconst (v := 0) dX5_powerOf_2 (by decide) ?_
  refine go_istore (L2 := [(4, .int 0), (2, .long 1), (0, .int a0), (1, .int a1)]) dX5_powerOf_3 (by decide) rfl ?_
  exact Go.pick [2, 3, 1, 0] rfl h

set_option maxRecDepth 100000 in
theorem sX5_powerOf_5 {G : GX} {d : Nat} {mem : Mem} {Φ : Option Value → Mem → Prop} (a n : Int32) (p : Int64) (i : Nat) (h : ((n ≤ (nI i) → Φ (some (.long p)) mem) ∧ (¬ n ≤ (nI i) → ∀ y1 : Int64, y1 = (p * ((a : Int32).toInt64)) → Go G (d + 0) mX5_powerOf 5 [(0, .int a), (1, .int n), (2, .long y1), (4, .int ((nI i) + 1))] [] mem Φ))) : Go G (d + 0) mX5_powerOf 5 [(0, .int a), (1, .int n), (2, .long p), (4, .int (nI i))] [] mem Φ := by
  refine go_iload dX5_powerOf_5 3 rfl ?_
  refine go_iload_n dX5_powerOf_7 1 rfl ?_
  refine go_icmp_ge 22 dX5_powerOf_8 (by decide) (fun q => ?_) (fun q => ?_)
  · have h := h.1 q
    refine go_lload_n dX5_powerOf_22 2 rfl ?_
    exact go_lret rfl dX5_powerOf_23 h
  · have h := h.2 q
    refine go_lload_n dX5_powerOf_11 2 rfl ?_
    refine go_iload_n dX5_powerOf_12 0 rfl ?_
    refine go_i2l dX5_powerOf_13 ?_
    refine go_lmul dX5_powerOf_14 ?_
    refine go_topl (fun y1 qy1 => ?_)
    have h := h y1 qy1
    refine go_lstore_n (L2 := [(2, .long y1), (0, .int a), (1, .int n), (4, .int (nI i))]) dX5_powerOf_15 (by decide) rfl ?_
    refine go_iinc (v := ((nI i) + 1)) (L2 := [(4, .int ((nI i) + 1)), (2, .long y1), (0, .int a), (1, .int n)]) dX5_powerOf_16 3 rfl rfl (by decide) rfl ?_
    refine go_goto 5 dX5_powerOf_19 (by decide) ?_
    exact Go.pick [2, 3, 1, 0] rfl h


theorem eu0 {G : GX} {d : Nat} {mem : Mem} (x i : Nat) : Go G (d + 0) mX5_commonDivisor 9 [(4, .long (lN x)), (6, .long (lN 0)), (8, .int (nI i))] [] mem (Rl (lN (Nat.gcd 0 x)) (fun m2 => m2 = mem)) := by
  rw [Nat.gcd_zero_left]
  exact sX5_commonDivisor_9 (lN x) (lN 0) i ⟨fun _ => ⟨rfl, rfl⟩, fun _ => ⟨fun _ => ⟨rfl, rfl⟩, fun z => absurd ((lgc_eq _ _).mpr rfl) z⟩⟩
theorem eu1 {G : GX} {d : Nat} {mem : Mem} (x y i : Nat) (hx : x < 2 ^ 63) (hy : y < 2 ^ 63) (h0 : 0 < y) (hi : i < 200) (k : Go G (d + 0) mX5_commonDivisor 9 [(4, .long (lN y)), (6, .long (lN (x % y))), (8, .int (nI (i + 1)))] [] mem (Rl (lN (Nat.gcd (x % y) y)) (fun m2 => m2 = mem))) : Go G (d + 0) mX5_commonDivisor 9 [(4, .long (lN x)), (6, .long (lN y)), (8, .int (nI i))] [] mem (Rl (lN (Nat.gcd y x)) (fun m2 => m2 = mem)) := by
  have ny : ¬ lN y = 0 := fun z => by have := (lN_0 hy).mp z; omega
  refine sX5_commonDivisor_9 (lN x) (lN y) i ⟨fun z => absurd ((nle (a := 200) (by omega) (by omega)).mp z) (by omega), fun _ => ⟨fun z => absurd ((lgc_eq _ _).mp z) ny, fun _ => ⟨ny, fun y2 e => ?_⟩⟩⟩
  rw [pk_lRem hx h0 hy] at e
  rw [e, nI_1, ← gcd_st]
  exact k
theorem lX5_commonDivisor {G : GX} {d : Nat} {mem : Mem} : ∀ (k x y i : Nat), x < 2 ^ 62 → y < 2 ^ k → k ≤ 60 → i + 2 * k ≤ 199 → Go G (d + 0) mX5_commonDivisor 9 [(4, .long (lN x)), (6, .long (lN y)), (8, .int (nI i))] [] mem (Rl (lN (Nat.gcd y x)) (fun m2 => m2 = mem)) := by
  intro k
  induction k with
  | zero =>
    intro x y i hx hy _ hi
    have : y = 0 := by omega
    subst this
    exact eu0 x i
  | succ k ih =>
    intro x y i hx hy hk hi
    have p60 : 2 ^ (k + 1) ≤ 2 ^ 60 := Nat.pow_le_pow_right (by omega) hk
    rcases Nat.eq_zero_or_pos y with z | z
    · subst z; exact eu0 x i
    · have hr := Nat.mod_lt x z
      refine eu1 x y i (by omega) (by omega) z (by omega) ?_
      rcases Nat.eq_zero_or_pos (x % y) with q | q
      · rw [q]; exact eu0 y (i + 1)
      · refine eu1 y (x % y) (i + 1) (by omega) (by omega) q (by omega) ?_
        rw [show i + 1 + 1 = i + 2 by omega]
        exact ih (x % y) (y % (x % y)) (i + 2) (by omega) (mod_half q hr hy) (by omega) (by omega)
theorem kX5_commonDivisorI {G : GX} (d : Nat) {mem : Mem} (a b : Int64) (x y : Nat) (e : a = lN x ∧ b = lN y) (h : x < 2 ^ 62 ∧ y < 2 ^ 60) : Cn G (d + 0) mX5_commonDivisor [.long a, .long b] mem (Rl (lN (Nat.gcd y x)) (fun m2 => m2 = mem)) := by
  rw [e.1, e.2]
  exact cn_of (by decide +kernel) (Nat.le_of_ble_eq_true rfl) (sX5_commonDivisor_0 _ _ (lX5_commonDivisor 60 x y 0 h.1 h.2 (by omega) (by omega)))
/-- a fraction's above or below, in lowest terms -/
def frN (a b : Nat) (w : Int32) : Nat := (if w = 0 then a else b) / Nat.gcd b a
theorem lo0 {G : GX} {d : Nat} {mem : Mem} (a b : Nat) (w : Int32) (x : Nat) (ha : a < 2 ^ 62) (hb : b < 2 ^ 60) (h0 : 0 < b) (hg : x = Nat.gcd b a) : Go G (d + 0) mX6_lowest 6 [(0, .long (lN a)), (2, .long (lN b)), (4, .int w), (5, .long (lN x)), (7, .long (lN 0))] [] mem (Rl (lN (frN a b w)) (fun m2 => m2 = mem)) := by
  have hp : 0 < x := by rw [hg]; exact Nat.gcd_pos_of_pos_left _ h0
  have hx : x ≤ b := by rw [hg]; exact Nat.gcd_le_left _ h0
  have nx : ¬ lN x = 0 := fun z => by have := (lN_0 (by omega)).mp z; omega
  refine sX6_lowest_6 (lN a) (lN b) w (lN x) (lN 0) ⟨fun _ => ⟨fun q => ⟨nx, ?_⟩, fun q => ⟨nx, ?_⟩⟩, fun z => absurd ((lgc_eq _ _).mpr rfl) z⟩
  · rw [pk_lDiv (by omega) hp (by omega)]
    unfold frN
    rw [if_neg q, hg]
    exact ⟨rfl, rfl⟩
  · rw [pk_lDiv (by omega) hp (by omega)]
    unfold frN
    rw [if_pos q, hg]
    exact ⟨rfl, rfl⟩
theorem lo1 {G : GX} {d : Nat} {mem : Mem} {Φ : Option Value → Mem → Prop} (A B : Int64) (w : Int32) (x y : Nat) (hx : x < 2 ^ 63) (hy : y < 2 ^ 63) (h0 : 0 < y) (k : Go G (d + 0) mX6_lowest 6 [(0, .long A), (2, .long B), (4, .int w), (5, .long (lN y)), (7, .long (lN (x % y)))] [] mem Φ) : Go G (d + 0) mX6_lowest 6 [(0, .long A), (2, .long B), (4, .int w), (5, .long (lN x)), (7, .long (lN y))] [] mem Φ := by
  have ny : ¬ lN y = 0 := fun z => by have := (lN_0 hy).mp z; omega
  refine sX6_lowest_6 A B w (lN x) (lN y) ⟨fun z => absurd ((lgc_eq _ _).mp z) ny, fun _ => ⟨ny, fun y2 e => ?_⟩⟩
  rw [pk_lRem hx h0 hy] at e
  rw [e]
  exact k
theorem lX6_lowest {G : GX} {d : Nat} {mem : Mem} (a b : Nat) (w : Int32) (ha : a < 2 ^ 62) (hb : b < 2 ^ 60) (h0 : 0 < b) : ∀ (k x y : Nat), x < 2 ^ 62 → y < 2 ^ k → k ≤ 60 → Nat.gcd y x = Nat.gcd b a → Go G (d + 0) mX6_lowest 6 [(0, .long (lN a)), (2, .long (lN b)), (4, .int w), (5, .long (lN x)), (7, .long (lN y))] [] mem (Rl (lN (frN a b w)) (fun m2 => m2 = mem)) := by
  intro k
  induction k with
  | zero =>
    intro x y hx hy _ hg
    have : y = 0 := by omega
    subst this
    exact lo0 a b w x ha hb h0 (by rw [← hg, Nat.gcd_zero_left])
  | succ k ih =>
    intro x y hx hy hk hg
    have p60 : 2 ^ (k + 1) ≤ 2 ^ 60 := Nat.pow_le_pow_right (by omega) hk
    rcases Nat.eq_zero_or_pos y with z | z
    · subst z; exact lo0 a b w x ha hb h0 (by rw [← hg, Nat.gcd_zero_left])
    · have hr := Nat.mod_lt x z
      refine lo1 _ _ w x y (by omega) (by omega) z ?_
      rw [← gcd_st] at hg
      rcases Nat.eq_zero_or_pos (x % y) with q | q
      · rw [q]
        rw [q, Nat.gcd_zero_left] at hg
        exact lo0 a b w y ha hb h0 hg
      · refine lo1 _ _ w y (x % y) (by omega) (by omega) q ?_
        rw [← gcd_st] at hg
        exact ih (x % y) (y % (x % y)) (by omega) (mod_half q hr hy) (by omega) hg
theorem kX6_lowestI {G : GX} (d : Nat) {mem : Mem} (A B : Int64) (w : Int32) (a b : Nat) (e : A = lN a ∧ B = lN b) (h : a < 2 ^ 62 ∧ b < 2 ^ 60 ∧ 0 < b) : Cn G (d + 0) mX6_lowest [.long A, .long B, .int w] mem (Rl (lN (frN a b w)) (fun m2 => m2 = mem)) := by
  rw [e.1, e.2]
  exact cn_of (by decide +kernel) (Nat.le_of_ble_eq_true rfl) (sX6_lowest_0 _ _ w (lX6_lowest a b w h.1 h.2.1 h.2.2 60 a b h.1 h.2.1 (by omega) rfl))
def pwN (b : Nat) : Nat → Nat
  | 0 => 1
  | i + 1 => pwN b i * b
theorem wid {k : Nat} (h : k < 2 ^ 31) : (nI k).toInt64 = lN k := by
  rw [fa_eq64, Int32.toInt_toInt64, nI_toInt h]
  exact (lN_toInt (by omega)).symm
theorem lX5_powerOf {G : GX} {d : Nat} {mem : Mem} (b n : Nat) (hb : b < 1000) (hn : n < 1000) : ∀ (r i : Nat), i + r = n → Go G (d + 0) mX5_powerOf 5 [(0, .int (nI b)), (1, .int (nI n)), (2, .long (lN (pwN b i))), (4, .int (nI i))] [] mem (Rl (lN (pwN b n)) (fun m2 => m2 = mem)) := by
  intro r
  induction r with
  | zero =>
    intro i hi
    have : i = n := by omega
    subst this
    exact sX5_powerOf_5 _ _ _ i ⟨fun _ => ⟨rfl, rfl⟩, fun z => absurd (Int32.le_refl _) z⟩
  | succ r ih =>
    intro i hi
    refine sX5_powerOf_5 _ _ _ i ⟨fun z => absurd ((nle (by omega) (by omega)).mp z) (by omega), fun _ y e => ?_⟩
    rw [wid (by omega), lN_mul] at e
    rw [e, nI_1]
    exact ih (i + 1) (by omega)
theorem kX5_powerOfI {G : GX} (d : Nat) {mem : Mem} (a1 a2 : Int32) (b n : Nat) (e : a1 = nI b ∧ a2 = nI n) (h : b < 1000 ∧ n < 1000) : Cn G (d + 0) mX5_powerOf [.int a1, .int a2] mem (Rl (lN (pwN b n)) (fun m2 => m2 = mem)) := by
  rw [e.1, e.2]
  exact cn_of (by decide +kernel) (Nat.le_of_ble_eq_true rfl) (sX5_powerOf_0 _ _ (lX5_powerOf b n h.1 h.2 n 0 (by omega)))
