
theorem fillS {m m2 : Mem} {k i n : Nat} {f g : Nat → Nat} (h : ∀ j, j < n → m k j = nI (if j < i then f j else g j)) (e : ∀ j, m2 k j = if j = i then nI (f i) else m k j) : ∀ j, j < n → m2 k j = nI (if j < i + 1 then f j else g j) := by
  intro j hj
  rw [e j]
  by_cases q : j = i
  · subst q
    rw [if_pos rfl, if_pos (Nat.lt_succ_self j)]
  · rw [if_neg q, h j hj]
    by_cases z : j < i
    · rw [if_pos z, if_pos (by omega)]
    · rw [if_neg z, if_neg (by omega)]
theorem fillK {m m2 : Mem} {k i n : Nat} {f g : Nat → Nat} (h : ∀ j, j < n → m k j = nI (if j < i then f j else g j)) (e : ∀ j, m2 k j = m k j) (hfg : f i = g i) : ∀ j, j < n → m2 k j = nI (if j < i + 1 then f j else g j) := by
  intro j hj
  rw [e j, h j hj]
  by_cases q : j = i
  · subst q
    rw [if_neg (Nat.lt_irrefl j), if_pos (Nat.lt_succ_self j), hfg]
  · by_cases z : j < i
    · rw [if_pos z, if_pos (by omega)]
    · rw [if_neg z, if_neg (by omega)]
theorem whF_t {f : Nat → Bool} {i : Nat} (h : f i = true) : whF f (i + 1) = whF f i + 2 ^ i := by
  show whF f i + (if f i = true then 2 ^ i else 0) = _
  rw [if_pos h]
theorem whF_f {f : Nat → Bool} {i : Nat} (h : ¬ f i = true) : whF f (i + 1) = whF f i := by
  show whF f i + (if f i = true then 2 ^ i else 0) = _
  rw [if_neg h, Nat.add_zero]
set_option maxHeartbeats 4000000 in
theorem lX0_moveHands {G : GX} {d : Nat} {Φ : Option Value → Mem → Prop} (b : Nat) (hB : BeamAt b) {X : Bm} {B : Nat} (hV : VX 9 B X) {mem0 : Mem} (hR : RepB mem0 b X)
    (hend : ∀ m : Mem, (∀ k, k ≠ b + 3 → k ≠ b + 4 → m k = mem0 k) → (∀ j, j < xn X → m (b + 3) j = nI (mvh 9 X j)) → (∀ j, j < xn X → m (b + 4) j = nI (mve 9 X j)) → Φ (some (.int (nI (who 9 X)))) m) :
    ∀ (r i : Nat) (m : Mem), i + r = xn X → (∀ k, k ≠ b + 3 → k ≠ b + 4 → m k = mem0 k) → (∀ j, j < xn X → m (b + 3) j = nI (if j < i then mvh 9 X j else xh X j)) → (∀ j, j < xn X → m (b + 4) j = nI (if j < i then mve 9 X j else xe X j)) → Go G (d + 0) mX0_moveHands 4 [(0, .ref b), (1, .int (nI (whF (bt 9 X) i))), (2, .int (nI i))] [] m Φ := by
  intro r
  have hn := hV.1
  induction r with
  | zero =>
    intro i m hi hf hj3 hj4
    have e4 : m b 4 = nI (xn X) := by rw [hf b (by omega) (by omega)]; exact hR.1
    have hi2 : i = xn X := by omega
    rw [hi2] at hj3 hj4 ⊢
    refine sX0_moveHands_4 b hB _ _ ⟨fun _ => hend m hf (fun j h => by rw [hj3 j h, if_pos h]) (fun j h => by rw [hj4 j h, if_pos h]), fun q => absurd (by rw [e4]; exact Int32.le_refl _) q⟩
  | succ r ih =>
    intro i m hi hf hj3 hj4
    have hin : i < xn X := by omega
    have e4 : m b 4 = nI (xn X) := by rw [hf b (by omega) (by omega)]; exact hR.1
    have ci : (nI i).toNatClampNeg = i := ncl (by omega)
    obtain ⟨a1, a2, a3, a4, a5⟩ := hV.2.2 i hin
    have a4 := a4 (by omega)
    have h3 : m (b + 3) i = nI (xh X i) := by rw [hj3 i hin, if_neg (Nat.lt_irrefl i)]
    have h4 : m (b + 4) i = nI (xe X i) := by rw [hj4 i hin, if_neg (Nat.lt_irrefl i)]
    have hp : m (b + 2) i = nI (xp X i) := by rw [hf (b + 2) (by omega) (by omega)]; exact (hR.2.2.2 i hin).2.1
    refine sX0_moveHands_4 b hB _ _ ⟨fun q => absurd ((nle (by omega) (by omega)).mp (e4 ▸ q)) (by omega), fun _ => ⟨nin (by omega) (by omega), ?_⟩⟩
    rw [ci]
    intro m2 hm2
    have r3 : m2 (b + 3) i = nI (xh X i + 1) := by rw [hm2, um_same, h3, nI_1]
    have r2 : m2 (b + 2) i = nI (xp X i) := by rw [hm2, um_ne (by omega)]; exact hp
    have f2 : ∀ k, k ≠ b + 3 → k ≠ b + 4 → m2 k = mem0 k := fun k h1 h2 => by rw [hm2, um_ne h1]; exact hf k h1 h2
    rw [r3, r2]
    refine ⟨fun q => ?_, fun q m3 hm3 m4 hm4 y5 hy5 => ?_⟩
    · have q2 := (nlt (by omega) (by omega)).mp q
      have hb : ¬ bt 9 X i = true := fun z => by have := (bt_iff.mp z).2; omega
      have k := ih (i + 1) m2 (by omega) f2 (fillS hj3 (fun j => by rw [hm2, um_at, h3, nI_1]; unfold mvh; rw [if_neg hb])) (fillK hj4 (fun j => by rw [hm2, um_ne (by omega)]) (by unfold mve; rw [if_neg hb]))
      rw [whF_f hb, ← nI_1] at k
      exact k
    · have q2 : ¬ xh X i + 1 < xp X i := fun z => q ((nlt (by omega) (by omega)).mpr z)
      have hb : bt 9 X i = true := bt_iff.mpr ⟨by omega, by omega⟩
      have r4 : m3 (b + 4) i = nI (xe X i) := by rw [hm3, um_ne (by omega), hm2, um_ne (by omega)]; exact h4
      have k := ih (i + 1) m4 (by omega) (fun k h1 h2 => by rw [hm4, um_ne h2, hm3, um_ne h1]; exact f2 k h1 h2) (fillS hj3 (fun j => by
        rw [hm4, um_ne (by omega), hm3, um_at, hm2, um_at]
        unfold mvh
        rw [if_pos hb]
        by_cases z : j = i
        · rw [if_pos z, if_pos z]; rfl
        · rw [if_neg z, if_neg z, if_neg z])) (fillS hj4 (fun j => by
        rw [hm4, um_at, r4, nI_1, hm3, um_ne (by omega), hm2, um_ne (by omega)]
        unfold mve
        rw [if_pos hb]))
      rw [whF_t hb, ← nI_1] at k
      rw [hy5, bit_or i (by omega) (whF (bt 9 X) i) (by have := whF_lt (bt 9 X) i; have : 2 ^ i ≤ 2 ^ 5 := Nat.pow_le_pow_right (by decide) (by omega); omega) (whF_lt _ _)]
      exact k
theorem kX0_moveHands {G : GX} (d : Nat) {mem : Mem} (b : Nat) (hB : BeamAt b) (X : Bm) (B : Nat) (hV : VX 9 B X) (hR : RepB mem b X) : Cn G (d + 0) mX0_moveHands [.ref b] mem (Ri (nI (who 9 X)) (fun m2 => RepB m2 b (movX 9 X) ∧ FrB b mem m2)) := by
  refine cn_of (by decide +kernel) (Nat.le_of_ble_eq_true rfl) (sX0_moveHands_0 b hB ?_)
  refine lX0_moveHands b hB hV hR (fun m hf h3 h4 => ⟨rfl, ⟨?_, fun k hk => hf k (by omega) (by omega)⟩⟩) (xn X) 0 mem (by omega) (fun _ _ _ => rfl) (fun j hj => by rw [if_neg (by omega)]; exact (hR.2.2.2 j hj).2.2.1) (fun j hj => by rw [if_neg (by omega)]; exact (hR.2.2.2 j hj).2.2.2)
  rw [RepB, hf b (by omega) (by omega)]
  exact ⟨hR.1, hR.2.1, hR.2.2.1, fun c hc => ⟨by rw [hf (b + 1) (by omega) (by omega)]; exact (hR.2.2.2 c hc).1, by rw [hf (b + 2) (by omega) (by omega)]; exact (hR.2.2.2 c hc).2.1, h3 c hc, h4 c hc⟩⟩
/-- pushed, not counted -/
def pshX (X : Bm) : Bm := (xn X, xk X, xp X, tkh 9 false X, mve 9 X, xu X, xt X)
set_option maxHeartbeats 4000000 in
theorem lX0_shake {G : GX} {d : Nat} {Φ : Option Value → Mem → Prop} (b : Nat) (hB : BeamAt b) {X : Bm} {B : Nat} (hV : VX 9 B X) (hm : many 9 X ≠ 0) {mem0 : Mem} (hR : RepB mem0 b (movX 9 X))
    (hend : ∀ m : Mem, (∀ k, k ≠ b + 3 → m k = mem0 k) → (∀ j, j < xn X → m (b + 3) j = nI (tkh 9 false X j)) → Φ none m) :
    ∀ (r i : Nat) (m : Mem), i + r = xn X → (∀ k, k ≠ b + 3 → m k = mem0 k) → (∀ j, j < xn X → m (b + 3) j = nI (if j < i then tkh 9 false X j else mvh 9 X j)) → Go G (d + 2) mX0_shake 7 [(0, .ref b), (1, .int (nI (who 9 X))), (2, .int (nI (many 9 X))), (3, .int (nI i))] [] m Φ := by
  intro r
  have hn := hV.1
  induction r with
  | zero =>
    intro i m hi hf hj3
    have e4 : m b 4 = nI (xn X) := by rw [hf b (by omega)]; exact hR.1
    have hi2 : i = xn X := by omega
    rw [hi2] at hj3 ⊢
    refine sX0_shake_7 b hB _ _ _ 0 0 0 0 ⟨fun _ => hend m hf (fun j h => by rw [hj3 j h, if_pos h]), fun q => absurd (by rw [e4]; exact Int32.le_refl _) q⟩
  | succ r ih =>
    intro i m hi hf hj3
    have hin : i < xn X := by omega
    have e4 : m b 4 = nI (xn X) := by rw [hf b (by omega)]; exact hR.1
    obtain ⟨a1, a2, a3, a4, a5⟩ := hV.2.2 i hin
    have a4 := a4 (by omega)
    have hml := many_le hV
    have h3 : m (b + 3) i = nI (mvh 9 X i) := by rw [hj3 i hin, if_neg (Nat.lt_irrefl i)]
    refine sX0_shake_7 b hB _ _ _ (xk X i) (xp X i) (xh X i + 1) (xu X) ⟨fun q => absurd ((nle (by omega) (by omega)).mp (e4 ▸ q)) (by omega), fun _ => ?_⟩
    rw [who_bit hV hin, nI_1]
    by_cases hb : bt 9 X i = true
    · rw [if_pos hb]
      refine ⟨fun _ => ?_, fun q => absurd (by decide) q⟩
      exact ih (i + 1) m (by omega) hf (fillK hj3 (fun _ => rfl) (by unfold tkh mvh; rw [if_pos hb, if_pos hb]))
    · rw [if_neg hb]
      refine ⟨fun q => absurd rfl q, fun _ => ⟨by omega, ⟨a1, a2, a3, by omega, by omega, hml, hV.2.1⟩, ?_, ?_, ?_, ?_, ?_⟩⟩
      · rw [hf (b + 1) (by omega)]; exact (hR.2.2.2 i hin).1
      · rw [hf (b + 2) (by omega)]; exact (hR.2.2.2 i hin).2.1
      · rw [h3]; unfold mvh; rw [if_neg hb]
      · rw [hf b (by omega)]; exact hR.2.1
      · refine ih (i + 1) _ (by omega) (fun k hk => by rw [um_ne hk]; exact hf k hk) (fillS hj3 (fun j => ?_))
        have e : tkh 9 false X i = shN (xk X i) (xp X i) (xh X i + 1) (many 9 X) (xu X) := by
          unfold tkh
          rw [if_neg hb, if_neg (fun z => z.elim (fun z => by cases z) hm)]
        rw [um_at, e]
theorem kX0_shake {G : GX} (d : Nat) {mem : Mem} (b : Nat) (hB : BeamAt b) (X : Bm) (B : Nat) (hV : VX 9 B X) (hm : many 9 X ≠ 0) (hR : RepB mem b (movX 9 X)) : Cn G (d + 2) mX0_shake [.ref b, .int (nI (who 9 X))] mem (Rv (fun m2 => RepB m2 b (pshX X) ∧ FrB b mem m2)) := by
  refine cn_of (by decide +kernel) (Nat.le_of_ble_eq_true rfl) (sX0_shake_0 b hB (who 9 X) ?_)
  intro y1 hy1
  rw [hy1, who_bc hV]
  refine lX0_shake b hB hV hm hR (fun m hf h3 => ⟨rfl, ⟨?_, fun k hk => hf k (by omega)⟩⟩) (xn X) 0 mem (by omega) (fun _ _ => rfl) (fun j hj => by rw [if_neg (by omega)]; exact (hR.2.2.2 j hj).2.2.1)
  rw [RepB, hf b (by omega)]
  exact ⟨hR.1, hR.2.1, hR.2.2.1, fun c hc => ⟨by rw [hf (b + 1) (by omega)]; exact (hR.2.2.2 c hc).1, by rw [hf (b + 2) (by omega)]; exact (hR.2.2.2 c hc).2.1, h3 c hc, by rw [hf (b + 4) (by omega)]; exact (hR.2.2.2 c hc).2.2.2⟩⟩

set_option maxRecDepth 100000 in
theorem sX0_step_0 {G : GX} {d : Nat} {mem : Mem} {Φ : Option Value → Mem → Prop} (b : Nat) (hB : BeamAt b) (X : Bm) (B : Nat) (held : Bool) (h : (VX 9 B X) ∧ (RepB mem b X) ∧ ∀ m3 : Mem, (RepB m3 b (movX 9 X) ∧ FrB b mem m3) → (((nI (who 9 X)) = 0 → Φ (some (.int (nI (who 9 X)))) (um m3 b 6 ((m3 b 6) + 1))) ∧ (¬ (nI (who 9 X)) = 0 → ((held = true → Φ (some (.int (nI (who 9 X)))) (um m3 b 6 ((m3 b 6) + 1))) ∧ (¬ (held = true) → (many 9 X ≠ 0) ∧ (RepB m3 b (movX 9 X)) ∧ ∀ m6 : Mem, (RepB m6 b (pshX X) ∧ FrB b m3 m6) → Φ (some (.int (nI (who 9 X)))) (um m6 b 6 ((m6 b 6) + 1))))))) : Go G (d + 3) mX0_step 0 [(0, .ref b), (1, .int (bI (held = true)))] [] mem Φ := by
  refine go_aload_n dX0_step_0 0 rfl ?_
  obtain ⟨c1, h⟩ := h
  obtain ⟨c2, h⟩ := h
  refine go_callV (st := []) (kX0_moveHands (d + 2) b hB X B c1 c2) hB.1 rfl okX0_moveHands insX0_moveHands selX0_moveHands lkX0_63 rfl rfl (Nat.le_of_ble_eq_true rfl) dX0_step_1 (fun v m3 q => ?_)
  rw [q.1]
  have h := h m3 q.2
  refine go_stk (st2 := [.int (nI (who 9 X))]) rfl ?_
  refine go_istore_n (L2 := [(2, .int (nI (who 9 X))), (0, .ref b), (1, .int (bI (held = true)))]) dX0_step_4 (by decide) rfl ?_
  refine go_iload_n dX0_step_5 0 rfl ?_
  refine go_if_eq 18 dX0_step_6 (by decide) (fun q => ?_) (fun q => ?_)
  · have h := h.1 q
    refine go_aload_n dX0_step_18 1 rfl ?_
    refine go_dup dX0_step_19 rfl ?_
    refine go_getI (kf := 6) hB.1 rfl rfl uwX0 (by decide) flX0_31 dX0_step_20 ?_
    refine go_iconst (v := 1) dX0_step_23 (by decide) ?_
    refine go_iadd dX0_step_24 ?_
    refine go_putI (kf := 6) hB.1 rfl rfl uwX0 tyX0_ok nmX0 (by decide) rfl flX0_31 rfl rfl dX0_step_25 ?_
    refine go_iload_n dX0_step_28 0 rfl ?_
    exact go_iret rfl dX0_step_29 h
  · have h := h.2 q
    refine go_iload_n dX0_step_9 2 rfl ?_
    refine go_if_ne 18 dX0_step_10 (by decide) (fun q => ?_) (fun q => ?_)
    · have h := h.1 (bI1.mp q)
      refine go_aload_n dX0_step_18 1 rfl ?_
      refine go_dup dX0_step_19 rfl ?_
      refine go_getI (kf := 6) hB.1 rfl rfl uwX0 (by decide) flX0_31 dX0_step_20 ?_
      refine go_iconst (v := 1) dX0_step_23 (by decide) ?_
      refine go_iadd dX0_step_24 ?_
      refine go_putI (kf := 6) hB.1 rfl rfl uwX0 tyX0_ok nmX0 (by decide) rfl flX0_31 rfl rfl dX0_step_25 ?_
      refine go_iload_n dX0_step_28 0 rfl ?_
      exact go_iret rfl dX0_step_29 h
    · have h := h.2 (bI0.mp q)
      refine go_aload_n dX0_step_13 1 rfl ?_
      refine go_iload_n dX0_step_14 0 rfl ?_
      obtain ⟨c4, h⟩ := h
      obtain ⟨c5, h⟩ := h
      refine go_callV (st := []) (kX0_shake (d + 0) b hB X B c1 c4 c5) hB.1 rfl okX0_shake insX0_shake selX0_shake lkX0_67 rfl rfl (Nat.le_of_ble_eq_true rfl) dX0_step_15 (fun v m6 q => ?_)
      rw [q.1]
      have h := h m6 q.2
      refine go_stk (st2 := []) rfl ?_
      refine go_aload_n dX0_step_18 1 rfl ?_
      refine go_dup dX0_step_19 rfl ?_
      refine go_getI (kf := 6) hB.1 rfl rfl uwX0 (by decide) flX0_31 dX0_step_20 ?_
      refine go_iconst (v := 1) dX0_step_23 (by decide) ?_
      refine go_iadd dX0_step_24 ?_
      refine go_putI (kf := 6) hB.1 rfl rfl uwX0 tyX0_ok nmX0 (by decide) rfl flX0_31 rfl rfl dX0_step_25 ?_
      refine go_iload_n dX0_step_28 0 rfl ?_
      exact go_iret rfl dX0_step_29 h


theorem tick_on {m m2 : Mem} {b : Nat} {X : Bm} (hR : RepB m b X) (e : m2 = um m b 6 (m b 6 + 1)) : RepB m2 b (xn X, xk X, xp X, xh X, xe X, xu X, xt X + 1) ∧ FrB b m m2 := by
  refine ⟨⟨?_, ?_, ?_, fun c hc => ?_⟩, fun k hk => by rw [e, um_ne (by omega)]⟩
  · rw [e, um_at, if_neg (by decide)]; exact hR.1
  · rw [e, um_at, if_neg (by decide)]; exact hR.2.1
  · rw [e, um_at, if_pos rfl, hR.2.2.1]; exact nI_1 _
  · rw [e, um_ne (by omega), um_ne (by omega), um_ne (by omega), um_ne (by omega)]
    exact hR.2.2.2 c hc
theorem tkh_quiet {g : Nat} {held : Bool} {X : Bm} (h : held = true ∨ many g X = 0) : tkh g held X = mvh g X := by
  funext c
  unfold tkh mvh
  rw [if_pos h]
theorem tkh_loud {g : Nat} {held : Bool} {X : Bm} (h : ¬ held = true) : tkh g held X = tkh g false X := by
  cases held
  · rfl
  · exact absurd rfl h
theorem kX0_step {G : GX} (d : Nat) {mem : Mem} (b : Nat) (hB : BeamAt b) (X : Bm) (held : Bool) (B : Nat) (hV : VX 9 B X) (hR : RepB mem b X) : Cn G (d + 3) mX0_step [.ref b, .int (bI (held = true))] mem (Ri (nI (who 9 X)) (fun m2 => RepB m2 b (tkX 9 held X) ∧ FrB b mem m2)) := by
  refine cn_of (by decide +kernel) (Nat.le_of_ble_eq_true rfl) (sX0_step_0 b hB X B held ⟨hV, hR, ?_⟩)
  intro m3 h3
  have hw := who_lt hV
  have quiet : ∀ m : Mem, (held = true ∨ many 9 X = 0) → m = um m3 b 6 (m3 b 6 + 1) → Ri (nI (who 9 X)) (fun m2 => RepB m2 b (tkX 9 held X) ∧ FrB b mem m2) (some (.int (nI (who 9 X)))) m := fun m hq e => by
    have t := tick_on h3.1 e
    refine ⟨rfl, ?_, h3.2.tr t.2⟩
    have e2 : tkX 9 held X = (xn X, xk X, xp X, mvh 9 X, mve 9 X, xu X, xt X + 1) := by unfold tkX; rw [tkh_quiet hq]
    rw [e2]
    exact t.1
  refine ⟨fun q => quiet _ (Or.inr (who0.mp ((neq (by omega) (by omega)).mp (q.trans nI_0.symm)))) rfl, fun q => ⟨fun z => quiet _ (Or.inl z) rfl, fun z => ?_⟩⟩
  have hm : many 9 X ≠ 0 := fun e => q (by rw [who0.mpr e]; exact nI_0)
  refine ⟨hm, h3.1, fun m7 h7 => ?_⟩
  have t := tick_on h7.1 rfl
  refine ⟨rfl, ?_, (h3.2.tr h7.2).tr t.2⟩
  have e2 : tkX 9 held X = (xn X, xk X, xp X, tkh 9 false X, mve 9 X, xu X, xt X + 1) := by unfold tkX; rw [tkh_loud z]
  rw [e2]
  exact t.1
