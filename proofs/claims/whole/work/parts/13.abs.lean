/-! ===== a beam in plain numbers: how many clocks, kind, period, hand, beaten by clock, push, tick ===== -/
abbrev Bm : Type := Nat × (Nat → Nat) × (Nat → Nat) × (Nat → Nat) × (Nat → Nat) × Nat × Nat
abbrev xn (X : Bm) : Nat := X.1
abbrev xk (X : Bm) : Nat → Nat := X.2.1
abbrev xp (X : Bm) : Nat → Nat := X.2.2.1
abbrev xh (X : Bm) : Nat → Nat := X.2.2.2.1
abbrev xe (X : Bm) : Nat → Nat := X.2.2.2.2.1
abbrev xu (X : Bm) : Nat := X.2.2.2.2.2.1
abbrev xt (X : Bm) : Nat := X.2.2.2.2.2.2
def whF (f : Nat → Bool) : Nat → Nat
  | 0 => 0
  | i + 1 => whF f i + (if f i = true then 2 ^ i else 0)
def ctF (f : Nat → Bool) : Nat → Nat
  | 0 => 0
  | i + 1 => ctF f i + (if f i = true then 1 else 0)
/-- a clock beats; g is the one that is gone (9: none) -/
def bt (g : Nat) (X : Bm) (c : Nat) : Bool := decide (c ≠ g ∧ xh X c + 1 = xp X c)
def who (g : Nat) (X : Bm) : Nat := whF (bt g X) (xn X)
def many (g : Nat) (X : Bm) : Nat := ctF (bt g X) (xn X)
def shvN (k m u : Nat) : Nat := if k = 0 then m * u else if k = 2 then (m - 1) * u else m * u / 2
/-- a pushed hand -/
def shN (k p h m u : Nat) : Nat := if k ≠ 3 ∧ p ≤ 2 * h then (if p - 1 < h + shvN k m u then p - 1 else h + shvN k m u) else h - shvN k m u
def mvh (g : Nat) (X : Bm) (c : Nat) : Nat := if bt g X c = true then 0 else xh X c + 1
def mve (g : Nat) (X : Bm) (c : Nat) : Nat := if bt g X c = true then xe X c + 1 else xe X c
/-- the hands moved on, nobody pushed yet, the tick not counted yet -/
def movX (g : Nat) (X : Bm) : Bm := (xn X, xk X, xp X, mvh g X, mve g X, xu X, xt X)
def tkh (g : Nat) (held : Bool) (X : Bm) (c : Nat) : Nat := if bt g X c = true then 0 else if held = true ∨ many g X = 0 then xh X c + 1 else shN (xk X c) (xp X c) (xh X c + 1) (many g X) (xu X)
/-- a tick -/
def tkX (g : Nat) (held : Bool) (X : Bm) : Bm := (xn X, xk X, xp X, tkh g held X, mve g X, xu X, xt X + 1)
/-- as it must be; the gone one's hand may be up to B -/
def VX (g B : Nat) (X : Bm) : Prop := xn X ≤ 5 ∧ xu X ≤ 5 ∧ ∀ c, c < xn X → xk X c ≤ 3 ∧ 2 ≤ xp X c ∧ xp X c ≤ 30 ∧ (c ≠ g → xh X c < xp X c) ∧ (c = g → xh X c ≤ B)
theorem five {P : Nat → Prop} (h0 : P 0) (h1 : P 1) (h2 : P 2) (h3 : P 3) (h4 : P 4) {i : Nat} (hi : i < 5) : P i := by
  rcases (show i = 0 ∨ i = 1 ∨ i = 2 ∨ i = 3 ∨ i = 4 by omega) with rfl | rfl | rfl | rfl | rfl
  · exact h0
  · exact h1
  · exact h2
  · exact h3
  · exact h4
theorem six {P : Nat → Prop} (h0 : P 0) (h1 : P 1) (h2 : P 2) (h3 : P 3) (h4 : P 4) (h5 : P 5) {i : Nat} (hi : i ≤ 5) : P i := by
  rcases (show i = 0 ∨ i = 1 ∨ i = 2 ∨ i = 3 ∨ i = 4 ∨ i = 5 by omega) with rfl | rfl | rfl | rfl | rfl | rfl
  · exact h0
  · exact h1
  · exact h2
  · exact h3
  · exact h4
  · exact h5
theorem whF_lt (f : Nat → Bool) : ∀ i, whF f i < 2 ^ i
  | 0 => Nat.lt_succ_self 0
  | i + 1 => by
    have ih := whF_lt f i
    have e : 2 ^ (i + 1) = 2 ^ i + 2 ^ i := by rw [Nat.pow_succ]; omega
    unfold whF
    split <;> omega
theorem ctF_le (f : Nat → Bool) : ∀ i, ctF f i ≤ i
  | 0 => Nat.le_refl _
  | i + 1 => by
    have ih := ctF_le f i
    unfold ctF
    split <;> omega
theorem whF_cong {f g : Nat → Bool} : ∀ i, (∀ j, j < i → f j = g j) → whF f i = whF g i
  | 0, _ => rfl
  | i + 1, h => by
    unfold whF
    rw [whF_cong i (fun j hj => h j (by omega)), h i (by omega)]
theorem ctF_cong {f g : Nat → Bool} : ∀ i, (∀ j, j < i → f j = g j) → ctF f i = ctF g i
  | 0, _ => rfl
  | i + 1, h => by
    unfold ctF
    rw [ctF_cong i (fun j hj => h j (by omega)), h i (by omega)]
theorem whF_bit (f : Nat → Bool) {i c : Nat} (hi : i ≤ 5) (hc : c < i) : whF f i / 2 ^ c % 2 = if f c = true then 1 else 0 := by
  refine six (P := fun i => ∀ c, c < i → whF f i / 2 ^ c % 2 = if f c = true then 1 else 0) ?_ ?_ ?_ ?_ ?_ ?_ hi c hc
  · intro c h; omega
  · intro c h
    obtain rfl : c = 0 := by omega
    cases h0 : f 0 <;> simp [whF, h0]
  · intro c h
    rcases (show c = 0 ∨ c = 1 by omega) with rfl | rfl <;> cases h0 : f 0 <;> cases h1 : f 1 <;> simp [whF, h0, h1]
  · intro c h
    rcases (show c = 0 ∨ c = 1 ∨ c = 2 by omega) with rfl | rfl | rfl <;> cases h0 : f 0 <;> cases h1 : f 1 <;> cases h2 : f 2 <;> simp [whF, h0, h1, h2]
  · intro c h
    rcases (show c = 0 ∨ c = 1 ∨ c = 2 ∨ c = 3 by omega) with rfl | rfl | rfl | rfl <;> cases h0 : f 0 <;> cases h1 : f 1 <;> cases h2 : f 2 <;> cases h3 : f 3 <;> simp [whF, h0, h1, h2, h3]
  · intro c h
    rcases (show c = 0 ∨ c = 1 ∨ c = 2 ∨ c = 3 ∨ c = 4 by omega) with rfl | rfl | rfl | rfl | rfl <;> cases h0 : f 0 <;> cases h1 : f 1 <;> cases h2 : f 2 <;> cases h3 : f 3 <;> cases h4 : f 4 <;> simp [whF, h0, h1, h2, h3, h4]
def popN (w : Nat) : Nat := w % 2 + w / 2 % 2 + w / 4 % 2 + w / 8 % 2 + w / 16 % 2
theorem whF_pop (f : Nat → Bool) {i : Nat} (hi : i ≤ 5) : popN (whF f i) = ctF f i := by
  refine six (P := fun i => popN (whF f i) = ctF f i) ?_ ?_ ?_ ?_ ?_ ?_ hi <;> cases h0 : f 0 <;> cases h1 : f 1 <;> cases h2 : f 2 <;> cases h3 : f 3 <;> cases h4 : f 4 <;> simp [whF, ctF, popN, h0, h1, h2, h3, h4]
theorem whF_zero (f : Nat → Bool) : ∀ i, whF f i = 0 ↔ ctF f i = 0
  | 0 => by simp [whF, ctF]
  | i + 1 => by
    have ih := whF_zero f i
    have hp : 0 < 2 ^ i := Nat.two_pow_pos i
    unfold whF ctF
    by_cases h : f i = true
    · rw [if_pos h, if_pos h]; omega
    · rw [if_neg h, if_neg h]; omega
theorem ctF_zero (f : Nat → Bool) : ∀ i, ctF f i = 0 ↔ ∀ c, c < i → f c = false
  | 0 => ⟨fun _ c h => by omega, fun _ => rfl⟩
  | i + 1 => by
    have ih := ctF_zero f i
    unfold ctF
    by_cases h : f i = true
    · rw [if_pos h]
      refine ⟨fun e => by omega, fun e => ?_⟩
      rw [e i (by omega)] at h
      cases h
    · rw [if_neg h, Nat.add_zero, ih]
      refine ⟨fun e c hc => ?_, fun e c hc => e c (by omega)⟩
      rcases Nat.lt_or_ge c i with q | q
      · exact e c q
      · obtain rfl : c = i := by omega
        cases hf : f c
        · rfl
        · exact absurd hf h
theorem whF_all (f : Nat → Bool) : ∀ i, whF f i + 1 = 2 ^ i ↔ ∀ c, c < i → f c = true
  | 0 => ⟨fun _ c h => by omega, fun _ => rfl⟩
  | i + 1 => by
    have ih := whF_all f i
    have hl := whF_lt f i
    have e : 2 ^ (i + 1) = 2 ^ i + 2 ^ i := by rw [Nat.pow_succ]; omega
    unfold whF
    by_cases h : f i = true
    · rw [if_pos h, e]
      refine ⟨fun q c hc => ?_, fun q => ?_⟩
      · rcases Nat.lt_or_ge c i with z | z
        · exact ih.mp (by omega) c z
        · obtain rfl : c = i := by omega
          exact h
      · have := ih.mpr (fun c hc => q c (by omega))
        omega
    · rw [if_neg h]
      refine ⟨fun q => by omega, fun q => absurd (q i (by omega)) h⟩
/-! bits of small numbers, by trying all -/
theorem bit_or : ∀ i, i < 5 → ∀ w, w < 32 → w < 2 ^ i → nI w ||| ((1 : Int32) <<< (nI i &&& 31)) = nI (w + 2 ^ i) := by decide +kernel
theorem bit_at : ∀ w, w < 32 → ∀ c, c < 5 → ((nI w >>> (nI c &&& 31)) &&& 1) = nI (w / 2 ^ c % 2) := by decide +kernel
def bcI (a0 : Int32) : Int32 :=
  let y1 := (a0 - ((((a0).toUInt32 >>> ((1 : Int32).toUInt32 &&& Int32.toUInt32 31)).toInt32) &&& 1431655765))
  let y2 := ((y1 &&& 858993459) + ((((y1).toUInt32 >>> ((2 : Int32).toUInt32 &&& Int32.toUInt32 31)).toInt32) &&& 858993459))
  let y3 := ((y2 + (((y2).toUInt32 >>> ((4 : Int32).toUInt32 &&& Int32.toUInt32 31)).toInt32)) &&& 252645135)
  let y4 := (y3 + (((y3).toUInt32 >>> ((8 : Int32).toUInt32 &&& Int32.toUInt32 31)).toInt32))
  let y5 := (y4 + (((y4).toUInt32 >>> ((16 : Int32).toUInt32 &&& Int32.toUInt32 31)).toInt32))
  y5 &&& 63
theorem bc_small : ∀ w, w < 32 → bcI (nI w) = nI (popN w) := by decide +kernel
theorem who_lt {g B : Nat} {X : Bm} (h : VX g B X) : who g X < 32 := by
  have h1 := whF_lt (bt g X) (xn X)
  have h2 : 2 ^ (xn X) ≤ 2 ^ 5 := Nat.pow_le_pow_right (by decide) h.1
  unfold who
  omega
theorem who_bc {g B : Nat} {X : Bm} (h : VX g B X) : bcI (nI (who g X)) = nI (many g X) := by
  rw [bc_small _ (who_lt h)]
  unfold who many
  rw [whF_pop _ h.1]
theorem who_bit {g B : Nat} {X : Bm} (h : VX g B X) {c : Nat} (hc : c < xn X) : ((nI (who g X) >>> (nI c &&& 31)) &&& 1) = if bt g X c = true then 1 else 0 := by
  rw [bit_at _ (who_lt h) c (by have := h.1; omega)]
  unfold who
  rw [whF_bit _ h.1 hc]
  split <;> decide
theorem who0 {g : Nat} {X : Bm} : who g X = 0 ↔ many g X = 0 := whF_zero _ _
theorem many_le {g B : Nat} {X : Bm} (h : VX g B X) : many g X ≤ 5 := Nat.le_trans (ctF_le _ _) h.1
theorem bt_iff {g : Nat} {X : Bm} {c : Nat} : bt g X c = true ↔ (c ≠ g ∧ xh X c + 1 = xp X c) := by
  unfold bt
  exact decide_eq_true_iff
theorem shN_lt {k p h m u : Nat} (hp : 2 ≤ p) (hh : h < p) : shN k p h m u < p := by
  unfold shN
  split
  · split <;> omega
  · omega
theorem shN_le {k p h m u : Nat} : shN k p h m u ≤ h + p ∧ (h < p → shN k p h m u ≤ p) ∧ shN k p h m u ≤ max h p := by
  unfold shN
  split
  · split <;> omega
  · omega
theorem VX_tk {g B : Nat} {X : Bm} (h : VX g B X) (hB : 30 ≤ B) (held : Bool) : VX g (B + 1) (tkX g held X) := by
  obtain ⟨h1, h2, h3⟩ := h
  refine ⟨h1, h2, fun c hc => ?_⟩
  obtain ⟨a1, a2, a3, a4, a5⟩ := h3 c hc
  refine ⟨a1, a2, a3, fun q => ?_, fun q => ?_⟩
  · have a4 := a4 q
    show tkh g held X c < xp X c
    unfold tkh
    by_cases hb : bt g X c = true
    · rw [if_pos hb]; omega
    · rw [if_neg hb]
      have hb2 : ¬ (xh X c + 1 = xp X c) := fun e => hb (bt_iff.mpr ⟨q, e⟩)
      split
      · omega
      · exact shN_lt a2 (by omega)
  · have a5 := a5 q
    show tkh g held X c ≤ B + 1
    unfold tkh
    by_cases hb : bt g X c = true
    · rw [if_pos hb]; omega
    · rw [if_neg hb]
      split
      · omega
      · have := (shN_le (k := xk X c) (p := xp X c) (h := xh X c + 1) (m := many g X) (u := xu X)).2.2
        omega
theorem VX_wk {g B B2 : Nat} {X : Bm} (h : VX g B X) (hB : B ≤ B2) : VX g B2 X := ⟨h.1, h.2.1, fun c hc => ⟨(h.2.2 c hc).1, (h.2.2 c hc).2.1, (h.2.2 c hc).2.2.1, (h.2.2 c hc).2.2.2.1, fun q => Nat.le_trans ((h.2.2 c hc).2.2.2.2 q) hB⟩⟩
/-- with none gone -/
theorem VX9 {B B2 : Nat} {X : Bm} (h : VX 9 B X) : VX 9 B2 X := ⟨h.1, h.2.1, fun c hc => ⟨(h.2.2 c hc).1, (h.2.2 c hc).2.1, (h.2.2 c hc).2.2.1, (h.2.2 c hc).2.2.2.1, fun q => by have := h.1; omega⟩⟩
theorem VX9_tk {B : Nat} {X : Bm} (h : VX 9 B X) (held : Bool) : VX 9 B (tkX 9 held X) := VX9 (VX_tk (VX9 (B2 := 30) h) (Nat.le_refl _) held)
/-! ===== what holds such a beam ===== -/
def RepB (mem : Mem) (b : Nat) (X : Bm) : Prop := mem b 4 = nI (xn X) ∧ mem b 5 = nI (xu X) ∧ mem b 6 = nI (xt X) ∧ ∀ c, c < xn X → mem (b + 1) c = nI (xk X c) ∧ mem (b + 2) c = nI (xp X c) ∧ mem (b + 3) c = nI (xh X c) ∧ mem (b + 4) c = nI (xe X c)
def RepM (mem : Mem) (P : Nat) (X : Bm) : Prop := mem 41 (P + 20) = nI (xn X) ∧ mem 41 (P + 21) = nI (xu X) - 1 ∧ mem 41 (P + 22) = nI (xt X) ∧ ∀ c, c < xn X → mem 41 (P + c) = nI (xk X c) ∧ mem 41 (P + 5 + c) = nI (xp X c) ∧ mem 41 (P + 10 + c) = nI (xh X c) ∧ mem 41 (P + 15 + c) = nI (xe X c)
/-- but for the beam's own cells nothing changed -/
def FrB (b : Nat) (mem m2 : Mem) : Prop := ∀ k, (k < b ∨ b + 4 < k) → m2 k = mem k
theorem FrB.rf {b : Nat} {mem : Mem} : FrB b mem mem := fun _ _ => rfl
theorem FrB.tr {b : Nat} {m1 m2 m3 : Mem} (h : FrB b m1 m2) (h2 : FrB b m2 m3) : FrB b m1 m3 := fun k hk => (h2 k hk).trans (h k hk)
/-- but for a page of the state nothing changed -/
def FrM (P : Nat) (mem m2 : Mem) : Prop := (∀ k, k ≠ 41 → m2 k = mem k) ∧ ∀ j, (j < P ∨ P + 23 ≤ j) → m2 41 j = mem 41 j
theorem FrM.rf {P : Nat} {mem : Mem} : FrM P mem mem := ⟨fun _ _ => rfl, fun _ _ => rfl⟩
theorem FrM.tr {P : Nat} {m1 m2 m3 : Mem} (h : FrM P m1 m2) (h2 : FrM P m2 m3) : FrM P m1 m3 := ⟨fun k hk => (h2.1 k hk).trans (h.1 k hk), fun j hj => (h2.2 j hj).trans (h.2 j hj)⟩
theorem nle {a b : Nat} (ha : a < 2000000000) (hb : b < 2000000000) : nI a ≤ nI b ↔ a ≤ b := nI_leI (by omega) (by omega)
theorem nlt {a b : Nat} (ha : a < 2000000000) (hb : b < 2000000000) : nI a < nI b ↔ a < b := nI_ltI (by omega) (by omega)
theorem neq {a b : Nat} (ha : a < 2000000000) (hb : b < 2000000000) : nI a = nI b ↔ a = b := nI_eq (by omega) (by omega)
theorem ncl {a : Nat} (ha : a < 2000000000) : (nI a).toNatClampNeg = a := nI_clamp (by omega)
theorem nin {a n : Nat} (h : a < n) (hn : n < 2000000000) : vp_in (nI a) n := vp_in_nI h (by omega)
