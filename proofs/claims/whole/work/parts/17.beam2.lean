
def hfI (hd : Int32) (t : Nat) : Bool := decide (t < 32 ∧ ¬ ((hd >>> (nI t &&& 31)) &&& 1) = 0)
set_option maxHeartbeats 4000000 in
theorem lX0_stepHeld {G : GX} {d : Nat} (b : Nat) (hB : BeamAt b) {X : Bm} {B : Nat} (hV : VX 9 B X) {mem0 : Mem} {n : Nat} (hn : n < 1000000) (hd : Int32) :
    ∀ (r i : Nat) (m : Mem), i + r = n → RepB m b (itX 9 (hfI hd) X i) → FrB b mem0 m → Go G (d + 4) mX0_stepHeld 5 [(0, .ref b), (1, .int (nI n)), (2, .int hd), (3, .int (nI (smX 9 (hfI hd) X i))), (4, .int (nI i))] [] m (Ri (nI (smX 9 (hfI hd) X n)) (fun m2 => RepB m2 b (itX 9 (hfI hd) X n) ∧ FrB b mem0 m2)) := by
  intro r
  induction r with
  | zero =>
    intro i m hi hR hF
    have hi2 : i = n := by omega
    subst hi2
    exact sX0_stepHeld_5 b hB _ _ _ _ (itX 9 (hfI hd) X i) B ⟨fun _ => ⟨rfl, hR, hF⟩, fun q => absurd (Int32.le_refl _) q⟩
  | succ r ih =>
    intro i m hi hR hF
    have hVi := VX_it (hf := hfI hd) hV i
    have next : ∀ (hl : Bool), hfI hd i = hl → ∀ m3 : Mem, (RepB m3 b (tkX 9 hl (itX 9 (hfI hd) X i)) ∧ FrB b m m3) → ∀ y4 : Int32, y4 = nI (smX 9 (hfI hd) X i) + bcI (nI (who 9 (itX 9 (hfI hd) X i))) → Go G (d + 4) mX0_stepHeld 5 [(0, .ref b), (1, .int (nI n)), (2, .int hd), (3, .int y4), (4, .int (nI i + 1))] [] m3 (Ri (nI (smX 9 (hfI hd) X n)) (fun m2 => RepB m2 b (itX 9 (hfI hd) X n) ∧ FrB b mem0 m2)) := fun hl e m3 h3 y4 hy4 => by
      rw [hy4, who_bc hVi, nI_add, nI_1]
      refine ih (i + 1) m3 (by omega) ?_ (hF.tr h3.2)
      show RepB m3 b (tkX 9 (hfI hd i) (itX 9 (hfI hd) X i))
      rw [e]
      exact h3.1
    have e32 : (32 : Int32) ≤ nI i ↔ 32 ≤ i := nle (a := 32) (by omega) (by omega)
    refine sX0_stepHeld_5 b hB _ _ _ _ (itX 9 (hfI hd) X i) B ⟨fun q => absurd ((nle (by omega) (by omega)).mp q) (by omega), fun _ => ⟨fun q => ⟨hVi, hR, next false (decide_eq_false_iff_not.mpr (fun z => by have := e32.mp q; omega))⟩, fun q => ⟨fun q2 => ⟨hVi, hR, next false (decide_eq_false_iff_not.mpr (fun z => q2 z.2))⟩, fun q2 => ⟨hVi, hR, next true (decide_eq_true_iff.mpr ⟨by have : ¬ 32 ≤ i := fun z => q (e32.mpr z); omega, q2⟩)⟩⟩⟩⟩
theorem kX0_stepHeld {G : GX} (d : Nat) {mem : Mem} (b : Nat) (hB : BeamAt b) (n : Nat) (hd : Int32) (X : Bm) (B : Nat) (hn : n < 1000000) (hV : VX 9 B X) (hR : RepB mem b X) : Cn G (d + 4) mX0_stepHeld [.ref b, .int (nI n), .int hd] mem (Ri (nI (smX 9 (hfI hd) X n)) (fun m2 => RepB m2 b (itX 9 (hfI hd) X n) ∧ FrB b mem m2)) :=
  cn_of (by decide +kernel) (Nat.le_of_ble_eq_true rfl) (sX0_stepHeld_0 b hB n hd (lX0_stepHeld b hB hV hn hd n 0 mem (by omega) hR FrB.rf))
theorem hf0_ : ∀ t, t < 32 → (((0 : Int32) >>> (nI t &&& 31)) &&& 1) = 0 := by decide +kernel
theorem hf0 : hfI 0 = nof := funext fun t => decide_eq_false_iff_not.mpr (fun z => z.2 (hf0_ t z.1))

set_option maxRecDepth 100000 in
theorem sX0_stepMany_0 {G : GX} {d : Nat} {mem : Mem} {Φ : Option Value → Mem → Prop} (b : Nat) (hB : BeamAt b) (n : Nat) (X : Bm) (B : Nat) (h : (n < 1000000) ∧ (VX 9 B X) ∧ (RepB mem b X) ∧ ∀ m4 : Mem, (RepB m4 b (itX 9 (hfI 0) X n) ∧ FrB b mem m4) → Φ (some (.int (nI (smX 9 (hfI 0) X n)))) m4) : Go G (d + 5) mX0_stepMany 0 [(0, .ref b), (1, .int (nI n))] [] mem Φ := by
  refine go_aload_n dX0_stepMany_0 0 rfl ?_
  refine go_iload_n dX0_stepMany_1 1 rfl ?_
  refine go_iconst (v := 0) dX0_stepMany_2 (by decide) ?_
  obtain ⟨c1, h⟩ := h
  obtain ⟨c2, h⟩ := h
  obtain ⟨c3, h⟩ := h
  refine go_callV (st := []) (kX0_stepHeld (d + 0) b hB n 0 X B c1 c2 c3) hB.1 rfl okX0_stepHeld insX0_stepHeld selX0_stepHeld lkX0_85 rfl rfl (Nat.le_of_ble_eq_true rfl) dX0_stepMany_3 (fun v_ m4 q => ?_)
  rw [q.1]
  have h := h m4 q.2
  refine go_stk (st2 := [.int (nI (smX 9 (hfI 0) X n))]) rfl ?_
  exact go_iret rfl dX0_stepMany_6 h


theorem kX0_stepMany {G : GX} (d : Nat) {mem : Mem} (b : Nat) (hB : BeamAt b) (n : Nat) (X : Bm) (B : Nat) (hn : n < 1000000) (hV : VX 9 B X) (hR : RepB mem b X) : Cn G (d + 5) mX0_stepMany [.ref b, .int (nI n)] mem (Ri (nI (smX 9 nof X n)) (fun m2 => RepB m2 b (itX 9 nof X n) ∧ FrB b mem m2)) := by
  refine cn_of (by decide +kernel) (Nat.le_of_ble_eq_true rfl) (sX0_stepMany_0 b hB n X B ⟨hn, hV, hR, ?_⟩)
  rw [hf0]
  exact fun m4 h4 => ⟨rfl, h4⟩
theorem lX0_hasHandsOf {G : GX} {d : Nat} (b : Nat) (hB : BeamAt b) (o : Nat) (hO : BeamAt o) {X : Bm} {y : Nat → Nat} {mem : Mem} (hn : xn X ≤ 5) (hx : ∀ c, c < xn X → xh X c < 1000000) (hy : ∀ c, c < xn X → y c < 1000000) (hR : RepB mem b X) (hR2 : ∀ c, c < xn X → mem (o + 3) c = nI (y c)) :
    ∀ (r i : Nat), i + r = xn X → (∀ c, c < i → xh X c = y c) → Go G (d + 0) mX0_hasHandsOf 2 [(0, .ref b), (1, .ref o), (2, .int (nI i))] [] mem (Ri (bI (∀ c, c < xn X → xh X c = y c)) (fun m2 => m2 = mem)) := by
  intro r
  induction r with
  | zero =>
    intro i hi hs
    have hi2 : i = xn X := by omega
    refine sX0_hasHandsOf_2 b hB o hO _ ⟨fun _ => Ri.mk (bIt (by rw [← hi2]; exact hs)).symm rfl, fun q => absurd (by rw [hR.1, hi2]; exact Int32.le_refl _) q⟩
  | succ r ih =>
    intro i hi hs
    have hin : i < xn X := by omega
    refine sX0_hasHandsOf_2 b hB o hO _ ⟨fun q => absurd ((nle (by omega) (by omega)).mp (hR.1 ▸ q)) (by omega), fun _ => ⟨nin (by omega) (by omega), ?_⟩⟩
    have b1 := hx i hin
    have b2 := hy i hin
    rw [ncl (by omega), (hR.2.2.2 i hin).2.2.1, hR2 i hin, nI_1, neq (by omega) (by omega)]
    refine ⟨fun q => ih (i + 1) (by omega) (fun c hc => ?_), fun q => Ri.mk (bIf (fun z => q (z i hin))).symm rfl⟩
    rcases Nat.lt_or_ge c i with z | z
    · exact hs c z
    · have e : c = i := by omega
      rw [e]; exact q
theorem kX0_hasHandsOf {G : GX} (d : Nat) {mem : Mem} (b : Nat) (hB : BeamAt b) (o : Nat) (hO : BeamAt o) (X : Bm) (y : Nat → Nat) (hn : xn X ≤ 5) (hx : ∀ c, c < xn X → xh X c < 1000000) (hy : ∀ c, c < xn X → y c < 1000000) (hR : RepB mem b X) (hR2 : ∀ c, c < xn X → mem (o + 3) c = nI (y c)) : Cn G (d + 0) mX0_hasHandsOf [.ref b, .ref o] mem (Ri (bI (∀ c, c < xn X → xh X c = y c)) (fun m2 => m2 = mem)) :=
  cn_of (by decide +kernel) (Nat.le_of_ble_eq_true rfl) (sX0_hasHandsOf_0 b hB o hO (lX0_hasHandsOf b hB o hO hn hx hy hR hR2 (xn X) 0 (by omega) (fun c hc => by omega)))
def rmF (g : Nat) (f : Nat → Nat) : Nat → Nat := fun j => if j < g then f j else f (j + 1)
def remX (g : Nat) (X : Bm) : Bm := (xn X - 1, rmF g (xk X), rmF g (xp X), rmF g (xh X), rmF g (xe X), xu X, xt X)
set_option maxHeartbeats 4000000 in
theorem lX0_takeAway {G : GX} {d : Nat} (b : Nat) (hB : BeamAt b) {X : Bm} {g : Nat} (hn : xn X ≤ 5) (hg : g < xn X) {mem0 : Mem} (hR : RepB mem0 b X) :
    ∀ (r i : Nat) (m : Mem), i + r + 1 = xn X → g ≤ i → (∀ k, (k < b + 1 ∨ b + 4 < k) → m k = mem0 k) → (∀ j, j < xn X → m (b + 1) j = nI (if j < i then rmF g (xk X) j else xk X j)) → (∀ j, j < xn X → m (b + 2) j = nI (if j < i then rmF g (xp X) j else xp X j)) → (∀ j, j < xn X → m (b + 3) j = nI (if j < i then rmF g (xh X) j else xh X j)) → (∀ j, j < xn X → m (b + 4) j = nI (if j < i then rmF g (xe X) j else xe X j)) →
      Go G (d + 0) mX0_takeAway 2 [(0, .ref b), (1, .int (nI g)), (2, .int (nI i))] [] m (Rv (fun m2 => RepB m2 b (remX g X) ∧ FrB b mem0 m2)) := by
  intro r
  induction r with
  | zero =>
    intro i m hi hgi hf h1 h2 h3 h4
    have e4 : m b 4 = nI (xn X) := by rw [hf b (by omega)]; exact hR.1
    refine sX0_takeAway_2 b hB _ _ ⟨fun _ => ⟨rfl, ⟨?_, ?_, ?_, fun c hc => ?_⟩, fun k hk => by rw [um_ne (by omega)]; exact hf k (by omega)⟩, fun q => absurd (by rw [e4, nI_1]; exact (nle (by omega) (by omega)).mpr (by omega)) q⟩
    · rw [um_at, if_pos rfl, e4, show (1 : Int32) = nI 1 from rfl, pk_sub (by omega)]; rfl
    · rw [um_at, if_neg (by decide), hf b (by omega)]; exact hR.2.1
    · rw [um_at, if_neg (by decide), hf b (by omega)]; exact hR.2.2.1
    · have hc2 : c < xn X - 1 := hc
      rw [um_ne (by omega), um_ne (by omega), um_ne (by omega), um_ne (by omega), h1 c (by omega), h2 c (by omega), h3 c (by omega), h4 c (by omega), if_pos (by omega), if_pos (by omega), if_pos (by omega), if_pos (by omega)]
      exact ⟨rfl, rfl, rfl, rfl⟩
  | succ r ih =>
    intro i m hi hgi hf h1 h2 h3 h4
    have e4 : m b 4 = nI (xn X) := by rw [hf b (by omega)]; exact hR.1
    refine sX0_takeAway_2 b hB _ _ ⟨fun q => absurd ((nle (by omega) (by omega)).mp (show nI (xn X) ≤ nI (i + 1) by rw [← nI_1]; exact e4 ▸ q)) (by omega), fun _ => ?_⟩
    rw [nI_1, ncl (show i < 2000000000 by omega), ncl (show i + 1 < 2000000000 by omega)]
    refine ⟨nin (by omega) (by omega), nin (by omega) (by omega), fun m3 q3 m4 q4 m5 q5 m6 q6 => ?_⟩
    have at1 : ∀ (f : Nat → Nat), nI (if i + 1 < i then rmF g f (i + 1) else f (i + 1)) = nI (rmF g f i) := fun f => by
      rw [if_neg (by omega)]
      unfold rmF
      rw [if_neg (by omega)]
    refine ih (i + 1) m6 (by omega) (by omega) (fun k hk => by rw [q6, um_ne (by omega), q5, um_ne (by omega), q4, um_ne (by omega), q3, um_ne (by omega)]; exact hf k hk) (fillS h1 (fun j => ?_)) (fillS h2 (fun j => ?_)) (fillS h3 (fun j => ?_)) (fillS h4 (fun j => ?_))
    · rw [q6, um_ne (by omega), q5, um_ne (by omega), q4, um_ne (by omega), q3, um_at, h1 (i + 1) (by omega), at1]
    · rw [q6, um_ne (by omega), q5, um_ne (by omega), q4, um_at, q3, um_ne (by omega), h2 (i + 1) (by omega), at1]
    · rw [q6, um_ne (by omega), q5, um_at, q4, um_ne (by omega), q3, um_ne (by omega), h3 (i + 1) (by omega), at1]
    · rw [q6, um_at, q5, um_ne (by omega), q4, um_ne (by omega), q3, um_ne (by omega), h4 (i + 1) (by omega), at1]
theorem kX0_takeAway {G : GX} (d : Nat) {mem : Mem} (b : Nat) (hB : BeamAt b) (g : Nat) (X : Bm) (hn : xn X ≤ 5) (hg : g < xn X) (hR : RepB mem b X) : Cn G (d + 0) mX0_takeAway [.ref b, .int (nI g)] mem (Rv (fun m2 => RepB m2 b (remX g X) ∧ FrB b mem m2)) := by
  refine cn_of (by decide +kernel) (Nat.le_of_ble_eq_true rfl) (sX0_takeAway_0 b hB g (lX0_takeAway b hB hn hg hR (xn X - 1 - g) g mem (by omega) (Nat.le_refl _) (fun _ _ => rfl) ?_ ?_ ?_ ?_))
  all_goals
    intro j hj
    unfold rmF
    obtain ⟨a1, a2, a3, a4⟩ := hR.2.2.2 j hj
    by_cases q : j < g
    · rw [if_pos q, if_pos q]; assumption
    · rw [if_neg q]; assumption
def stK (X : Bm) (c v : Nat) : Bm := (xn X, upN (xk X) c v, xp X, xh X, xe X, xu X, xt X)
def stP (X : Bm) (c v : Nat) : Bm := (xn X, xk X, upN (xp X) c v, xh X, xe X, xu X, xt X)
def stH (X : Bm) (c v : Nat) : Bm := (xn X, xk X, xp X, upN (xh X) c v, xe X, xu X, xt X)
def alK (X : Bm) (c : Nat) (v : Int32) : Int32 × Bm := if 0 ≤ v ∧ v ≤ 3 then (nI (xk X c), stK X c v.toNatClampNeg) else (-1, X)
def alP (X : Bm) (c : Nat) (v : Int32) : Int32 × Bm := if 2 ≤ v ∧ v ≤ 30 then (if nI (xh X c) < v then (nI (xp X c), stP X c v.toNatClampNeg) else (-2, X)) else (-1, X)
def alH (X : Bm) (c : Nat) (v : Int32) : Int32 × Bm := if 0 ≤ v ∧ v ≤ 29 then (if v < nI (xp X c) then (nI (xh X c), stH X c v.toNatClampNeg) else (-2, X)) else (-1, X)
theorem nat_of {v : Int32} (h : 0 ≤ v) : v = nI v.toNatClampNeg ∧ v.toNatClampNeg < 2147483648 := by
  obtain ⟨j, hj, e⟩ := nI_of (x := v) (Int32.not_lt.mpr h)
  rw [e, nI_clamp hj]
  exact ⟨rfl, by omega⟩
theorem RepB_k {mem m2 : Mem} {b : Nat} {X : Bm} {c v : Nat} (hR : RepB mem b X) (e : m2 = um mem (b + 1) c (nI v)) : RepB m2 b (stK X c v) ∧ FrB b mem m2 := by
  have f : ∀ k, k ≠ b + 1 → m2 k = mem k := fun k hk => by rw [e, um_ne hk]
  exact ⟨⟨by rw [f b (by omega)]; exact hR.1, by rw [f b (by omega)]; exact hR.2.1, by rw [f b (by omega)]; exact hR.2.2.1, fun j hj => ⟨upd_rep (m := mem) (fun j hj => (hR.2.2.2 j hj).1) (by rw [e]) j (Or.inl hj), by rw [f (b + 2) (by omega)]; exact (hR.2.2.2 j hj).2.1, by rw [f (b + 3) (by omega)]; exact (hR.2.2.2 j hj).2.2.1, by rw [f (b + 4) (by omega)]; exact (hR.2.2.2 j hj).2.2.2⟩⟩, fun k hk => f k (by omega)⟩
theorem RepB_p {mem m2 : Mem} {b : Nat} {X : Bm} {c v : Nat} (hR : RepB mem b X) (e : m2 = um mem (b + 2) c (nI v)) : RepB m2 b (stP X c v) ∧ FrB b mem m2 := by
  have f : ∀ k, k ≠ b + 2 → m2 k = mem k := fun k hk => by rw [e, um_ne hk]
  exact ⟨⟨by rw [f b (by omega)]; exact hR.1, by rw [f b (by omega)]; exact hR.2.1, by rw [f b (by omega)]; exact hR.2.2.1, fun j hj => ⟨by rw [f (b + 1) (by omega)]; exact (hR.2.2.2 j hj).1, upd_rep (m := mem) (fun j hj => (hR.2.2.2 j hj).2.1) (by rw [e]) j (Or.inl hj), by rw [f (b + 3) (by omega)]; exact (hR.2.2.2 j hj).2.2.1, by rw [f (b + 4) (by omega)]; exact (hR.2.2.2 j hj).2.2.2⟩⟩, fun k hk => f k (by omega)⟩
theorem RepB_h {mem m2 : Mem} {b : Nat} {X : Bm} {c v : Nat} (hR : RepB mem b X) (e : m2 = um mem (b + 3) c (nI v)) : RepB m2 b (stH X c v) ∧ FrB b mem m2 := by
  have f : ∀ k, k ≠ b + 3 → m2 k = mem k := fun k hk => by rw [e, um_ne hk]
  exact ⟨⟨by rw [f b (by omega)]; exact hR.1, by rw [f b (by omega)]; exact hR.2.1, by rw [f b (by omega)]; exact hR.2.2.1, fun j hj => ⟨by rw [f (b + 1) (by omega)]; exact (hR.2.2.2 j hj).1, by rw [f (b + 2) (by omega)]; exact (hR.2.2.2 j hj).2.1, upd_rep (m := mem) (fun j hj => (hR.2.2.2 j hj).2.2.1) (by rw [e]) j (Or.inl hj), by rw [f (b + 4) (by omega)]; exact (hR.2.2.2 j hj).2.2.2⟩⟩, fun k hk => f k (by omega)⟩
theorem kX0_alterKind {G : GX} (d : Nat) {mem : Mem} (b : Nat) (hB : BeamAt b) (c : Nat) (v : Int32) (X : Bm) (hn : xn X ≤ 5) (hc : c < xn X) (hR : RepB mem b X) : Cn G (d + 1) mX0_alterKind [.ref b, .int (nI c), .int v] mem (Ri (alK X c v).1 (fun m2 => RepB m2 b (alK X c v).2 ∧ FrB b mem m2)) := by
  refine cn_of (by decide +kernel) (Nat.le_of_ble_eq_true rfl) (sX0_alterKind_0 b hB c v ⟨fun q => ⟨nin (by omega) (by omega), ?_⟩, fun q => ?_⟩)
  · rw [ncl (by omega), (hR.2.2.2 c hc).1]
    intro y2 hy m3 h3
    unfold alK
    rw [if_pos q]
    rw [(nat_of q.1).1] at h3
    exact Ri.mk hy (RepB_k hR h3)
  · unfold alK
    rw [if_neg q]
    exact Ri.mk rfl ⟨hR, FrB.rf⟩
theorem kX0_alterPeriod {G : GX} (d : Nat) {mem : Mem} (b : Nat) (hB : BeamAt b) (c : Nat) (v : Int32) (X : Bm) (hn : xn X ≤ 5) (hc : c < xn X) (hR : RepB mem b X) : Cn G (d + 1) mX0_alterPeriod [.ref b, .int (nI c), .int v] mem (Ri (alP X c v).1 (fun m2 => RepB m2 b (alP X c v).2 ∧ FrB b mem m2)) := by
  refine cn_of (by decide +kernel) (Nat.le_of_ble_eq_true rfl) (sX0_alterPeriod_0 b hB c v ⟨fun q => ⟨nin (by omega) (by omega), ?_⟩, fun q => ?_⟩)
  · rw [ncl (by omega), (hR.2.2.2 c hc).2.1, (hR.2.2.2 c hc).2.2.1]
    unfold alP
    rw [if_pos q]
    refine ⟨fun z y2 hy m3 h3 => ?_, fun z => ?_⟩
    · rw [if_pos z]
      rw [(nat_of (Int32.le_trans (by decide) q.1)).1] at h3
      exact Ri.mk hy (RepB_p hR h3)
    · rw [if_neg z]
      exact Ri.mk rfl ⟨hR, FrB.rf⟩
  · unfold alP
    rw [if_neg q]
    exact Ri.mk rfl ⟨hR, FrB.rf⟩
theorem kX0_alterHand {G : GX} (d : Nat) {mem : Mem} (b : Nat) (hB : BeamAt b) (c : Nat) (v : Int32) (X : Bm) (hn : xn X ≤ 5) (hc : c < xn X) (hR : RepB mem b X) : Cn G (d + 1) mX0_alterHand [.ref b, .int (nI c), .int v] mem (Ri (alH X c v).1 (fun m2 => RepB m2 b (alH X c v).2 ∧ FrB b mem m2)) := by
  refine cn_of (by decide +kernel) (Nat.le_of_ble_eq_true rfl) (sX0_alterHand_0 b hB c v ⟨fun q => ⟨nin (by omega) (by omega), ?_⟩, fun q => ?_⟩)
  · rw [ncl (by omega), (hR.2.2.2 c hc).2.1, (hR.2.2.2 c hc).2.2.1]
    unfold alH
    rw [if_pos q]
    refine ⟨fun z y2 hy m3 h3 => ?_, fun z => ?_⟩
    · rw [if_pos z]
      rw [(nat_of q.1).1] at h3
      exact Ri.mk hy (RepB_h hR h3)
    · rw [if_neg z]
      exact Ri.mk rfl ⟨hR, FrB.rf⟩
  · unfold alH
    rw [if_neg q]
    exact Ri.mk rfl ⟨hR, FrB.rf⟩
