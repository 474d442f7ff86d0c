set_option maxRecDepth 100000 in
theorem sX6_allOn_0 {G : GX} {d : Nat} {mem : Mem} {Φ : Option Value → Mem → Prop} (P : Nat) (h : (vp_in ((nI P) + 20) 138) ∧ ∀ y2 : Int32, y2 = ((1 <<< ((mem 41 (((nI P) + 20) : Int32).toNatClampNeg) &&& 31)) - 1) → ((¬ (mem 40 14) = (-4) → Φ (some (.int (y2 &&& ((1 <<< ((mem 40 14) &&& 31)) ^^^ (-1))))) mem) ∧ ((mem 40 14) = (-4) → Φ (some (.int y2)) mem))) : Go G (d + 0) mX6_allOn 0 [(0, .ref 40), (1, .int (nI P))] [] mem Φ := by
  refine go_iconst (v := 1) dX6_allOn_0 (by decide) ?_
  refine go_aload_n dX6_allOn_1 0 rfl ?_
  refine go_getR (kf := 0) (t := 41) rfl rfl rfl uwX6 (by decide) flX6_7 dX6_allOn_2 ?_
  refine go_iload_n dX6_allOn_5 1 rfl ?_
  refine go_bipush (v := 20) dX6_allOn_6 (by decide) ?_
  refine go_iadd dX6_allOn_8 ?_
  obtain ⟨c1, h⟩ := h
  refine go_iaload rfl c1 dX6_allOn_9 ?_
  refine go_ishl dX6_allOn_10 ?_
  refine go_iconst (v := 1) dX6_allOn_11 (by decide) ?_
  refine go_isub dX6_allOn_12 ?_
  refine go_topi (fun y2 qy2 => ?_)
  have h := h y2 qy2
  refine go_istore_n (L2 := [(2, .int y2), (0, .ref 40), (1, .int (nI P))]) dX6_allOn_13 (by decide) rfl ?_
  refine go_aload_n dX6_allOn_14 1 rfl ?_
  refine go_getI (kf := 14) rfl rfl rfl uwX6 (by decide) flX6_25 dX6_allOn_15 ?_
  refine go_bipush (v := (-4)) dX6_allOn_18 (by decide) ?_
  refine go_icmp_ne 27 dX6_allOn_20 (by decide) (fun q => ?_) (fun q => ?_)
  · have h := h.1 q
    refine go_iload_n dX6_allOn_27 0 rfl ?_
    refine go_iconst (v := 1) dX6_allOn_28 (by decide) ?_
    refine go_aload_n dX6_allOn_29 1 rfl ?_
    refine go_getI (kf := 14) rfl rfl rfl uwX6 (by decide) flX6_25 dX6_allOn_30 ?_
    refine go_ishl dX6_allOn_33 ?_
    refine go_iconst (v := (-1)) dX6_allOn_34 (by decide) ?_
    refine go_ixor dX6_allOn_35 ?_
    refine go_iand dX6_allOn_36 ?_
    exact go_iret rfl dX6_allOn_37 h
  · have h := h.2 q
    refine go_iload_n dX6_allOn_23 0 rfl ?_
    refine go_goto 37 dX6_allOn_24 (by decide) ?_
    exact go_iret rfl dX6_allOn_37 h

set_option maxRecDepth 100000 in
theorem sX6_sumOn_0 {G : GX} {d : Nat} {mem : Mem} {Φ : Option Value → Mem → Prop} (P f : Nat) (h : Go G (d + 0) mX6_sumOn 5 [(0, .ref 40), (1, .int (nI P)), (2, .int (nI f)), (3, .int 0), (4, .int 0)] [] mem Φ) : Go G (d + 0) mX6_sumOn 0 [(0, .ref 40), (1, .int (nI P)), (2, .int (nI f))] [] mem Φ := by
  refine go_iconst (v := 0) dX6_sumOn_0 (by decide) ?_
  refine go_istore_n (L2 := [(3, .int 0), (0, .ref 40), (1, .int (nI P)), (2, .int (nI f))]) dX6_sumOn_1 (by decide) rfl ?_
  refine go_iconst (v := 0) dX6_sumOn_2 (by decide) ?_
  refine go_istore (L2 := [(4, .int 0), (3, .int 0), (0, .ref 40), (1, .int (nI P)), (2, .int (nI f))]) dX6_sumOn_3 (by decide) rfl ?_
  exact Go.pick [2, 3, 4, 1, 0] rfl h

set_option maxRecDepth 100000 in
theorem sX6_sumOn_5 {G : GX} {d : Nat} {mem : Mem} {Φ : Option Value → Mem → Prop} (P f a i : Nat) (h : (vp_in ((nI P) + 20) 138) ∧ (((mem 41 (((nI P) + 20) : Int32).toNatClampNeg) ≤ (nI i) → Φ (some (.int (nI a))) mem) ∧ (¬ (mem 41 (((nI P) + 20) : Int32).toNatClampNeg) ≤ (nI i) → (vp_in (((nI P) + (nI f)) + (nI i)) 138) ∧ ∀ y3 : Int32, y3 = ((nI a) + (mem 41 ((((nI P) + (nI f)) + (nI i)) : Int32).toNatClampNeg)) → Go G (d + 0) mX6_sumOn 5 [(0, .ref 40), (1, .int (nI P)), (2, .int (nI f)), (3, .int y3), (4, .int ((nI i) + 1))] [] mem Φ))) : Go G (d + 0) mX6_sumOn 5 [(0, .ref 40), (1, .int (nI P)), (2, .int (nI f)), (3, .int (nI a)), (4, .int (nI i))] [] mem Φ := by
  refine go_iload dX6_sumOn_5 4 rfl ?_
  refine go_aload_n dX6_sumOn_7 0 rfl ?_
  refine go_getR (kf := 0) (t := 41) rfl rfl rfl uwX6 (by decide) flX6_7 dX6_sumOn_8 ?_
  refine go_iload_n dX6_sumOn_11 1 rfl ?_
  refine go_bipush (v := 20) dX6_sumOn_12 (by decide) ?_
  refine go_iadd dX6_sumOn_14 ?_
  obtain ⟨c1, h⟩ := h
  refine go_iaload rfl c1 dX6_sumOn_15 ?_
  refine go_icmp_ge 39 dX6_sumOn_16 (by decide) (fun q => ?_) (fun q => ?_)
  · have h := h.1 q
    refine go_iload_n dX6_sumOn_39 3 rfl ?_
    exact go_iret rfl dX6_sumOn_40 h
  · have h := h.2 q
    refine go_iload_n dX6_sumOn_19 3 rfl ?_
    refine go_aload_n dX6_sumOn_20 0 rfl ?_
    refine go_getR (kf := 0) (t := 41) rfl rfl rfl uwX6 (by decide) flX6_7 dX6_sumOn_21 ?_
    refine go_iload_n dX6_sumOn_24 1 rfl ?_
    refine go_iload_n dX6_sumOn_25 2 rfl ?_
    refine go_iadd dX6_sumOn_26 ?_
    refine go_iload dX6_sumOn_27 4 rfl ?_
    refine go_iadd dX6_sumOn_29 ?_
    obtain ⟨c2, h⟩ := h
    refine go_iaload rfl c2 dX6_sumOn_30 ?_
    refine go_iadd dX6_sumOn_31 ?_
    refine go_topi (fun y3 qy3 => ?_)
    have h := h y3 qy3
    refine go_istore_n (L2 := [(3, .int y3), (0, .ref 40), (1, .int (nI P)), (2, .int (nI f)), (4, .int (nI i))]) dX6_sumOn_32 (by decide) rfl ?_
    refine go_iinc (v := ((nI i) + 1)) (L2 := [(4, .int ((nI i) + 1)), (3, .int y3), (0, .ref 40), (1, .int (nI P)), (2, .int (nI f))]) dX6_sumOn_33 4 rfl rfl (by decide) rfl ?_
    refine go_goto 5 dX6_sumOn_36 (by decide) ?_
    exact Go.pick [2, 3, 4, 1, 0] rfl h

set_option maxRecDepth 100000 in
theorem sX6_copies_0 {G : GX} {d : Nat} {mem : Mem} {Φ : Option Value → Mem → Prop} (f t : Nat) (h : Go G (d + 0) mX6_copies 2 [(0, .ref 40), (1, .int (nI f)), (2, .int (nI t)), (3, .int 0)] [] mem Φ) : Go G (d + 0) mX6_copies 0 [(0, .ref 40), (1, .int (nI f)), (2, .int (nI t))] [] mem Φ := by
  refine go_iconst (v := 0) dX6_copies_0 (by decide) ?_
  refine go_istore_n (L2 := [(3, .int 0), (0, .ref 40), (1, .int (nI f)), (2, .int (nI t))]) dX6_copies_1 (by decide) rfl ?_
  exact Go.pick [1, 2, 3, 0] rfl h

set_option maxRecDepth 100000 in
theorem sX6_copies_2 {G : GX} {d : Nat} {mem : Mem} {Φ : Option Value → Mem → Prop} (f t i : Nat) (h : ((23 ≤ (nI i) → Φ none mem) ∧ (¬ 23 ≤ (nI i) → (vp_in ((nI f) + (nI i)) 138) ∧ (vp_in ((nI t) + (nI i)) 138) ∧ ∀ m3 : Mem, m3 = (um mem 41 (((nI t) + (nI i)) : Int32).toNatClampNeg (mem 41 (((nI f) + (nI i)) : Int32).toNatClampNeg)) → Go G (d + 0) mX6_copies 2 [(0, .ref 40), (1, .int (nI f)), (2, .int (nI t)), (3, .int ((nI i) + 1))] [] m3 Φ))) : Go G (d + 0) mX6_copies 2 [(0, .ref 40), (1, .int (nI f)), (2, .int (nI t)), (3, .int (nI i))] [] mem Φ := by
  refine go_iload_n dX6_copies_2 3 rfl ?_
  refine go_bipush (v := 23) dX6_copies_3 (by decide) ?_
  refine go_icmp_ge 30 dX6_copies_5 (by decide) (fun q => ?_) (fun q => ?_)
  · have h := h.1 q
    exact go_vret rfl dX6_copies_30 h
  · have h := h.2 q
    refine go_aload_n dX6_copies_8 0 rfl ?_
    refine go_getR (kf := 0) (t := 41) rfl rfl rfl uwX6 (by decide) flX6_7 dX6_copies_9 ?_
    refine go_iload_n dX6_copies_12 2 rfl ?_
    refine go_iload_n dX6_copies_13 3 rfl ?_
    refine go_iadd dX6_copies_14 ?_
    refine go_aload_n dX6_copies_15 0 rfl ?_
    refine go_getR (kf := 0) (t := 41) rfl rfl rfl uwX6 (by decide) flX6_7 dX6_copies_16 ?_
    refine go_iload_n dX6_copies_19 1 rfl ?_
    refine go_iload_n dX6_copies_20 3 rfl ?_
    refine go_iadd dX6_copies_21 ?_
    obtain ⟨c1, h⟩ := h
    refine go_iaload rfl c1 dX6_copies_22 ?_
    obtain ⟨c2, h⟩ := h
    refine go_iastore rfl c2 dX6_copies_23 ?_
    refine go_mem (fun m3 qm3 => ?_)
    have h := h m3 qm3
    refine go_iinc (v := ((nI i) + 1)) (L2 := [(3, .int ((nI i) + 1)), (0, .ref 40), (1, .int (nI f)), (2, .int (nI t))]) dX6_copies_24 3 rfl rfl (by decide) rfl ?_
    refine go_goto 2 dX6_copies_27 (by decide) ?_
    exact Go.pick [1, 2, 3, 0] rfl h


def alI (m : Mem) (P : Nat) : Int32 := if m 40 14 = -4 then (((1 : Int32) <<< (m 41 (P + 20) &&& 31)) - 1) else (((1 : Int32) <<< (m 41 (P + 20) &&& 31)) - 1) &&& (((1 : Int32) <<< (m 40 14 &&& 31)) ^^^ (-1))
def alN (g n : Nat) : Nat := if g = 9 then 2 ^ n - 1 else 2 ^ n - 1 - 2 ^ g
theorem al_n : ∀ n, n < 6 → ∀ g, g < 10 → (g = 9 ∨ g < n) → (if goI g = -4 then (((1 : Int32) <<< (nI n &&& 31)) - 1) else (((1 : Int32) <<< (nI n &&& 31)) - 1) &&& (((1 : Int32) <<< (goI g &&& 31)) ^^^ (-1))) = nI (alN g n) := by decide +kernel
theorem alI_n {m : Mem} {P n g : Nat} (h1 : m 41 (P + 20) = nI n) (h2 : m 40 14 = goI g) (hn : n ≤ 5) (hg : g < 10) (hgn : g = 9 ∨ g < n) : alI m P = nI (alN g n) := by
  unfold alI
  rw [h1, h2]
  exact al_n n (by omega) g hg hgn
theorem kX6_allOn {G : GX} (d : Nat) {mem : Mem} (P : Nat) (hP : P ≤ 115) : Cn G (d + 0) mX6_allOn [.ref 40, .int (nI P)] mem (Ri (alI mem P) (fun m2 => m2 = mem)) := by
  refine cn_of (by decide +kernel) (Nat.le_of_ble_eq_true rfl) (sX6_allOn_0 P ⟨v20 hP, ?_⟩)
  rw [q20 hP]
  intro y hy
  unfold alI
  exact ⟨fun q => Ri.mk (by rw [hy, if_neg q]) rfl, fun q => Ri.mk (by rw [hy, if_pos q]) rfl⟩
theorem whF_gone {f : Nat → Bool} {g : Nat} (hg : f g = false) : ∀ n, whF (fun c => f c || decide (c = g)) n = whF f n + (if g < n then 2 ^ g else 0)
  | 0 => rfl
  | n + 1 => by
    have ih := whF_gone hg n
    show whF (fun c => f c || decide (c = g)) n + (if (f n || decide (n = g)) = true then 2 ^ n else 0) = whF f n + (if f n = true then 2 ^ n else 0) + _
    rw [ih]
    by_cases e : n = g
    · subst e
      have h1 : (f n || decide (n = n)) = true := by simp
      have h2 : ¬ f n = true := by rw [hg]; decide
      rw [if_pos h1, if_neg h2, if_neg (Nat.lt_irrefl n), if_pos (Nat.lt_succ_self n)]
    · have e2 : (f n || decide (n = g)) = f n := by rw [decide_eq_false e, Bool.or_false]
      rw [e2]
      by_cases q : g < n
      · have q2 : g < n + 1 := by omega
        rw [if_pos q, if_pos q2, Nat.add_right_comm]
      · have q2 : ¬ g < n + 1 := by omega
        rw [if_neg q, if_neg q2, Nat.add_zero, Nat.add_zero]
theorem tog_g {g B : Nat} {X : Bm} (h : VX g B X) (hg : g = 9 ∨ g < xn X) : togX g X = true ↔ (who g X ≠ 0 ∧ who g X = alN g (xn X)) := by
  have hn := h.1
  unfold togX alN
  rw [decide_eq_true_iff, Ne, Ne, who0]
  have ha := whF_all (bt g X) (xn X)
  have hp0 : 0 < 2 ^ xn X := Nat.two_pow_pos _
  rcases hg with rfl | hg
  · rw [if_pos rfl]
    unfold who
    constructor
    · intro ⟨h1, h2⟩
      have := ha.mpr (fun c hc => h2 c hc (by omega))
      exact ⟨h1, by omega⟩
    · intro ⟨h1, h2⟩
      have h3 := ha.mp (by omega)
      exact ⟨h1, fun c hc _ => h3 c hc⟩
  · rw [if_neg (by omega)]
    have hf : bt g X g = false := by
      cases hb : bt g X g
      · rfl
      · exact absurd rfl (bt_iff.mp hb).1
    have h2 := whF_gone hf (xn X)
    rw [if_pos hg] at h2
    have ha2 := whF_all (fun c => bt g X c || decide (c = g)) (xn X)
    have hp1 : 2 ^ g < 2 ^ xn X := Nat.pow_lt_pow_right (by decide) hg
    unfold who
    have e : (whF (bt g X) (xn X) = 2 ^ xn X - 1 - 2 ^ g) ↔ (whF (fun c => bt g X c || decide (c = g)) (xn X) + 1 = 2 ^ xn X) := by rw [h2]; omega
    rw [e, ha2]
    refine and_congr_right (fun _ => ⟨fun z c hc => ?_, fun z c hc hcg => ?_⟩)
    · by_cases q : c = g
      · rw [q]; simp
      · rw [z c hc q]; rfl
    · have := z c hc
      rw [decide_eq_false hcg, Bool.or_false] at this
      exact this
theorem lX6_sumOn {G : GX} {d : Nat} {mem : Mem} {P off n : Nat} {f : Nat → Nat} (hP : P ≤ 115 ∧ off ≤ 15 ∧ n ≤ 5) (h1 : mem 41 (P + 20) = nI n) (h2 : ∀ c, c < n → mem 41 (P + off + c) = nI (f c)) : ∀ (r i : Nat), i + r = n → Go G (d + 0) mX6_sumOn 5 [(0, .ref 40), (1, .int (nI P)), (2, .int (nI off)), (3, .int (nI (smF f i))), (4, .int (nI i))] [] mem (Ri (nI (smF f n)) (fun m2 => m2 = mem)) := by
  intro r
  induction r with
  | zero =>
    intro i hi
    refine sX6_sumOn_5 P off _ i ⟨v20 hP.1, ?_⟩
    rw [q20 hP.1, h1, show i = n by omega]
    exact ⟨fun _ => ⟨rfl, rfl⟩, fun q => absurd (Int32.le_refl _) q⟩
  | succ r ih =>
    intro i hi
    refine sX6_sumOn_5 P off _ i ⟨v20 hP.1, ?_⟩
    rw [q20 hP.1, h1, qa2 (show P + off + i < 2000000000 by omega), h2 i (by omega), nI_add (smF f i), nI_1]
    exact ⟨fun q => absurd ((nle (by omega) (by omega)).mp q) (by omega), fun _ => ⟨qi2 (by omega) (by omega), fun y hy => by rw [hy]; exact ih (i + 1) (by omega)⟩⟩
theorem kX6_sumOn {G : GX} (d : Nat) {mem : Mem} (P off : Nat) (f : Nat → Nat) (n : Nat) (hP : P ≤ 115 ∧ off ≤ 15 ∧ n ≤ 5) (h1 : mem 41 (P + 20) = nI n) (h2 : ∀ c, c < n → mem 41 (P + off + c) = nI (f c)) : Cn G (d + 0) mX6_sumOn [.ref 40, .int (nI P), .int (nI off)] mem (Ri (nI (smF f n)) (fun m2 => m2 = mem)) :=
  cn_of (by decide +kernel) (Nat.le_of_ble_eq_true rfl) (sX6_sumOn_0 P off (lX6_sumOn hP h1 h2 n 0 (by omega)))
/-- a page copied -/
def cpM (m : Mem) (f t : Nat) : Mem := um0 m 41 (va_cpy (m 41) (m 41) f t 23)
theorem lX6_copies {G : GX} {d : Nat} {mem : Mem} {f t : Nat} (h : f ≤ 115 ∧ t ≤ 115 ∧ (f + 23 ≤ t ∨ t + 23 ≤ f)) : ∀ (r i : Nat), i + r = 23 → ∀ m : Mem, m = um0 mem 41 (va_cpy (mem 41) (mem 41) f t i) → Go G (d + 0) mX6_copies 2 [(0, .ref 40), (1, .int (nI f)), (2, .int (nI t)), (3, .int (nI i))] [] m (Rv (fun m2 => m2 = cpM mem f t)) := by
  intro r
  induction r with
  | zero =>
    intro i hi m hm
    have hi2 : i = 23 := by omega
    subst hi2
    exact sX6_copies_2 f t 23 ⟨fun _ => ⟨rfl, hm⟩, fun q => absurd (by decide) q⟩
  | succ r ih =>
    intro i hi m hm
    refine sX6_copies_2 f t i ⟨fun q => absurd ((nle (a := 23) (by omega) (by omega)).mp q) (by omega), fun _ => ⟨qi (by omega) (by omega), qi (by omega) (by omega), ?_⟩⟩
    rw [qa (show f + i < 2000000000 by omega), qa (show t + i < 2000000000 by omega), nI_1]
    intro m3 h3
    refine ih (i + 1) (by omega) m3 ?_
    rw [h3, hm]
    funext k j
    by_cases hk : k = 41
    · subst hk
      rw [um_at, um0_self, um0_self]
      unfold va_cpy
      by_cases q : j = t + i
      · rw [if_pos q, if_neg (by omega), if_pos (by omega)]
        congr 1
        omega
      · rw [if_neg q]
        by_cases z : t ≤ j ∧ j < t + i
        · rw [if_pos z, if_pos (by omega)]
        · rw [if_neg z, if_neg (by omega)]
    · rw [um_ne hk, um0_ne hk, um0_ne hk]
theorem kX6_copies {G : GX} (d : Nat) {mem : Mem} (f t : Nat) (h : f ≤ 115 ∧ t ≤ 115 ∧ (f + 23 ≤ t ∨ t + 23 ≤ f)) : Cn G (d + 0) mX6_copies [.ref 40, .int (nI f), .int (nI t)] mem (Rv (fun m2 => m2 = cpM mem f t)) := by
  refine cn_of (by decide +kernel) (Nat.le_of_ble_eq_true rfl) (sX6_copies_0 f t (lX6_copies h 23 0 (by omega) mem ?_))
  funext k j
  by_cases hk : k = 41
  · subst hk
    rw [um0_self]
    unfold va_cpy
    rw [if_neg (by omega)]
  · rw [um0_ne hk]
theorem cpM_in {m : Mem} {f t j : Nat} (h : j < 23) : cpM m f t 41 (t + j) = m 41 (f + j) := by
  unfold cpM
  rw [um0_self, pk_cpy_in (by omega) (by omega)]
  congr 1
  omega
theorem cpM_rep {m : Mem} {f t : Nat} {X : Bm} (hn : xn X ≤ 5) (h : RepM m f X) : RepM (cpM m f t) t X := by
  refine ⟨?_, ?_, ?_, fun c hc => ⟨?_, ?_, ?_, ?_⟩⟩
  · rw [cpM_in (by omega)]; exact h.1
  · rw [cpM_in (by omega)]; exact h.2.1
  · rw [cpM_in (by omega)]; exact h.2.2.1
  · rw [cpM_in (by omega)]; exact (h.2.2.2 c hc).1
  · rw [Nat.add_assoc, cpM_in (by omega), ← Nat.add_assoc]; exact (h.2.2.2 c hc).2.1
  · rw [Nat.add_assoc, cpM_in (by omega), ← Nat.add_assoc]; exact (h.2.2.2 c hc).2.2.1
  · rw [Nat.add_assoc, cpM_in (by omega), ← Nat.add_assoc]; exact (h.2.2.2 c hc).2.2.2
theorem cpM_fr {m : Mem} {f t : Nat} : FrM t m (cpM m f t) := ⟨fun k hk => um0_ne hk, fun j hj => by unfold cpM; rw [um0_self, pk_cpy_out (by omega)]⟩
def oM (o : Option Nat) : Int32 := match o with
  | none => 1000
  | some t => nI t

set_option maxRecDepth 100000 in
theorem sX6_meetOn_0 {G : GX} {d : Nat} {mem : Mem} {Φ : Option Value → Mem → Prop} (P : Nat) (h : (P ≤ 115 ∧ 92 ≤ 115 ∧ (P + 23 ≤ 92 ∨ 92 + 23 ≤ P)) ∧ Go G (d + 3) mX6_meetOn 9 [(0, .ref 40), (1, .int (nI P)), (2, .int 0)] [] (cpM mem P 92) Φ) : Go G (d + 3) mX6_meetOn 0 [(0, .ref 40), (1, .int (nI P))] [] mem Φ := by
  refine go_aload_n dX6_meetOn_0 0 rfl ?_
  refine go_iload_n dX6_meetOn_1 1 rfl ?_
  refine go_bipush (v := 92) dX6_meetOn_2 (by decide) ?_
  obtain ⟨c1, h⟩ := h
  refine go_callV (st := []) (kX6_copies (d + 2) P 92 c1) rfl rfl okX6_copies insX6_copies selX6_copies lkX6_161 rfl rfl (Nat.le_of_ble_eq_true rfl) dX6_meetOn_4 (fun v_ m2_ q => ?_)
  rw [q.1, q.2]
  refine go_stk (st2 := []) rfl ?_
  refine go_iconst (v := 0) dX6_meetOn_7 (by decide) ?_
  refine go_istore_n (L2 := [(2, .int 0), (0, .ref 40), (1, .int (nI P))]) dX6_meetOn_8 (by decide) rfl ?_
  exact Go.pick [1, 2, 0] rfl h

set_option maxRecDepth 100000 in
theorem sX6_meetOn_9 {G : GX} {d : Nat} {mem : Mem} {Φ : Option Value → Mem → Prop} (P i : Nat) (X : Bm) (g B : Nat) (h : ((300 < (nI i) → Φ (some (.int 1000)) mem) ∧ (¬ 300 < (nI i) → (92 ≤ 115) ∧ (g < 10 ∧ 30 ≤ B ∧ B < 900000) ∧ (VX g B X) ∧ (RepM mem 92 X) ∧ (mem 40 14 = goI g) ∧ ∀ m6 : Mem, (RepM m6 92 (tkX g false X) ∧ FrM 92 mem m6) → (((nI (who g X)) ≤ 0 → Go G (d + 3) mX6_meetOn 9 [(0, .ref 40), (1, .int (nI P)), (2, .int ((nI i) + 1))] [] m6 Φ) ∧ (¬ (nI (who g X)) ≤ 0 → ((¬ (nI (who g X)) = (alI m6 92) → Go G (d + 3) mX6_meetOn 9 [(0, .ref 40), (1, .int (nI P)), (2, .int ((nI i) + 1))] [] m6 Φ) ∧ ((nI (who g X)) = (alI m6 92) → Φ (some (.int (nI i))) m6))))))) : Go G (d + 3) mX6_meetOn 9 [(0, .ref 40), (1, .int (nI P)), (2, .int (nI i))] [] mem Φ := by
  refine go_iload_n dX6_meetOn_9 2 rfl ?_
  refine go_sipush (v := 300) dX6_meetOn_10 (by decide) ?_
  refine go_icmp_gt 46 dX6_meetOn_13 (by decide) (fun q => ?_) (fun q => ?_)
  · have h := h.1 q
    refine go_sipush (v := 1000) dX6_meetOn_46 (by decide) ?_
    exact go_iret rfl dX6_meetOn_49 h
  · have h := h.2 q
    refine go_aload_n dX6_meetOn_16 0 rfl ?_
    refine go_bipush (v := 92) dX6_meetOn_17 (by decide) ?_
    refine go_iconst (v := 0) dX6_meetOn_19 (by decide) ?_
    obtain ⟨c1, h⟩ := h
    obtain ⟨c2, h⟩ := h
    obtain ⟨c3, h⟩ := h
    obtain ⟨c4, h⟩ := h
    obtain ⟨c5, h⟩ := h
    refine go_callV (st := []) (kX6_tickOn (d + 0) 92 false X g B c1 c2 c3 c4 c5) rfl rfl okX6_tickOn insX6_tickOn selX6_tickOn lkX6_157 rfl rfl (Nat.le_of_ble_eq_true rfl) dX6_meetOn_20 (fun v_ m6 q => ?_)
    rw [q.1]
    have h := h m6 q.2
    refine go_stk (st2 := [.int (nI (who g X))]) rfl ?_
    refine go_istore_n (L2 := [(3, .int (nI (who g X))), (0, .ref 40), (1, .int (nI P)), (2, .int (nI i))]) dX6_meetOn_23 (by decide) rfl ?_
    refine go_iload_n dX6_meetOn_24 0 rfl ?_
    refine go_if_le 40 dX6_meetOn_25 (by decide) (fun q => ?_) (fun q => ?_)
    · have h := h.1 q
      refine go_iinc (v := ((nI i) + 1)) (L2 := [(2, .int ((nI i) + 1)), (3, .int (nI (who g X))), (0, .ref 40), (1, .int (nI P))]) dX6_meetOn_40 3 rfl rfl (by decide) rfl ?_
      refine go_goto 9 dX6_meetOn_43 (by decide) ?_
      exact Go.pick [2, 3, 0] rfl h
    · have h := h.2 q
      refine go_iload_n dX6_meetOn_28 0 rfl ?_
      refine go_aload_n dX6_meetOn_29 1 rfl ?_
      refine go_bipush (v := 92) dX6_meetOn_30 (by decide) ?_
      refine go_callV (st := [.int (nI (who g X))]) (kX6_allOn (d + 2) 92 c1) rfl rfl okX6_allOn insX6_allOn selX6_allOn lkX6_174 rfl rfl (Nat.le_of_ble_eq_true rfl) dX6_meetOn_32 (fun v_ m2_ q => ?_)
      rw [q.1, q.2]
      refine go_stk (st2 := [.int (alI m6 92), .int (nI (who g X))]) rfl ?_
      refine go_icmp_ne 40 dX6_meetOn_35 (by decide) (fun q => ?_) (fun q => ?_)
      · have h := h.1 q
        refine go_iinc (v := ((nI i) + 1)) (L2 := [(2, .int ((nI i) + 1)), (3, .int (nI (who g X))), (0, .ref 40), (1, .int (nI P))]) dX6_meetOn_40 3 rfl rfl (by decide) rfl ?_
        refine go_goto 9 dX6_meetOn_43 (by decide) ?_
        exact Go.pick [2, 3, 0] rfl h
      · have h := h.2 q
        refine go_iload_n dX6_meetOn_38 3 rfl ?_
        exact go_iret rfl dX6_meetOn_39 h


set_option maxHeartbeats 4000000 in
theorem lX6_meetOn {G : GX} {d : Nat} (P : Nat) {X : Bm} {g : Nat} (hV : VX g 30 X) (hg : g < 10) (hgn : g = 9 ∨ g < xn X) {mem0 : Mem} (hG : mem0 40 14 = goI g) :
    ∀ (r i : Nat) (m : Mem), i + r = 301 → (∀ s, s < i → ¬ togX g (itX g nof X s) = true) → RepM m 92 (itX g nof X i) → FrM 92 mem0 m → Go G (d + 3) mX6_meetOn 9 [(0, .ref 40), (1, .int (nI P)), (2, .int (nI i))] [] m (Ri (oM (ftF (fun t => togX g (itX g nof X t)) 301)) (fun m2 => FrM 92 mem0 m2)) := by
  intro r
  induction r with
  | zero =>
    intro i m hi hs hR hF
    have hi2 : i = 301 := by omega
    subst hi2
    refine sX6_meetOn_9 P 301 (itX g nof X 301) g 30 ⟨fun _ => ?_, fun q => absurd (by decide) q⟩
    rw [ftF_none hs]
    exact ⟨rfl, hF⟩
  | succ r ih =>
    intro i m hi hs hR hF
    have hVi := VXg_it (hf := nof) hV (Nat.le_refl 30) i
    have hn := hVi.1
    have hw := who_lt hVi
    have hGm : m 40 14 = goI g := by rw [hF.1 40 (by decide)]; exact hG
    refine sX6_meetOn_9 P i (itX g nof X i) g (30 + i) ⟨fun q => absurd ((nlt (a := 300) (by omega) (by omega)).mp q) (by omega), fun _ => ⟨by decide, ⟨hg, by omega, by omega⟩, hVi, hR, hGm, fun m6 h6 => ?_⟩⟩
    have ht := tog_g hVi (by rw [it_n]; exact hgn)
    rw [it_n] at ht
    have eal : alI m6 92 = nI (alN g (xn X)) := alI_n (P := 92) (n := xn X) (by have := h6.1.1; rw [show xn (tkX g false (itX g nof X i)) = xn X from it_n i] at this; exact this) (by rw [h6.2.1 40 (by decide)]; exact hGm) (by rw [it_n] at hn; exact hn) hg hgn
    have hal : alN g (xn X) < 32 := by
      rw [it_n] at hn
      have : 2 ^ xn X ≤ 2 ^ 5 := Nat.pow_le_pow_right (by decide) hn
      have hp0 : 0 < 2 ^ xn X := Nat.two_pow_pos _
      have h31 : 2 ^ xn X - 1 < 32 := by omega
      unfold alN
      split
      · exact h31
      · exact Nat.lt_of_le_of_lt (Nat.sub_le _ _) h31
    have next : ¬ togX g (itX g nof X i) = true → Go G (d + 3) mX6_meetOn 9 [(0, .ref 40), (1, .int (nI P)), (2, .int (nI i + 1))] [] m6 (Ri (oM (ftF (fun t => togX g (itX g nof X t)) 301)) (fun m2 => FrM 92 mem0 m2)) := fun hno => by
      rw [nI_1]
      exact ih (i + 1) m6 (by omega) (fun s hs2 => by
        rcases Nat.lt_or_ge s i with z | z
        · exact hs s z
        · have e : s = i := by omega
          rw [e]; exact hno) h6.1 (hF.tr h6.2)
    rw [eal]
    refine ⟨fun q => next (fun w => (ht.mp w).1 (by have := (nle (b := 0) (by omega) (by omega)).mp q; omega)), fun q => ⟨fun q2 => next (fun w => q2 (by rw [(ht.mp w).2])), fun q2 => ?_⟩⟩
    have htog := ht.mpr ⟨fun z => q (by rw [z]; decide), (neq (by omega) (by omega)).mp q2⟩
    rw [ftF_some (t := i) htog hs (by omega)]
    exact ⟨rfl, hF.tr h6.2⟩
theorem kX6_meetOn {G : GX} (d : Nat) {mem : Mem} (P : Nat) (X : Bm) (g : Nat) (hP : P ≤ 115 ∧ (P + 23 ≤ 92 ∨ P = 115)) (hg : g < 10 ∧ (g = 9 ∨ g < xn X)) (hV : VX g 30 X) (hR : RepM mem P X) (hG : mem 40 14 = goI g) : Cn G (d + 3) mX6_meetOn [.ref 40, .int (nI P)] mem (Ri (oM (ftF (fun t => togX g (itX g nof X t)) 301)) (fun m2 => FrM 92 mem m2)) := by
  refine cn_of (by decide +kernel) (Nat.le_of_ble_eq_true rfl) (sX6_meetOn_0 P ⟨⟨by omega, by omega, by omega⟩, ?_⟩)
  exact lX6_meetOn P hV hg.1 hg.2 hG 301 0 (cpM mem P 92) (by omega) (fun s hs => by omega) (cpM_rep hV.1 hR) cpM_fr
