
theorem RepM_h {m m2 : Mem} {P : Nat} {X : Bm} {c v : Nat} (hn : xn X ≤ 5) (hc : c < 5) (hR : RepM m P X) (e : m2 = um m 41 (P + 10 + c) (nI v)) : RepM m2 P (stH X c v) ∧ FrM P m m2 := by
  have f : ∀ j, j ≠ P + 10 + c → m2 41 j = m 41 j := fun j hj => by rw [e, um41 hj]
  refine ⟨⟨by rw [f _ (by omega)]; exact hR.1, by rw [f _ (by omega)]; exact hR.2.1, by rw [f _ (by omega)]; exact hR.2.2.1, fun j hj => ?_⟩, fun k hk => by rw [e, um_ne hk], fun j hj => f j (by omega)⟩
  have hj2 : j < xn X := hj
  obtain ⟨a1, a2, a3, a4⟩ := hR.2.2.2 j hj2
  refine ⟨by rw [f _ (by omega)]; exact a1, by rw [f _ (by omega)]; exact a2, ?_, by rw [f _ (by omega)]; exact a4⟩
  rw [e, um_at]
  show _ = nI (upN (xh X) c v j)
  unfold upN
  by_cases q : j = c
  · rw [if_pos q, if_pos (by omega)]
  · rw [if_neg q, if_neg (by omega)]; exact a3


set_option maxHeartbeats 4000000 in
theorem lX6_drift {f : Int32 → Int32} (hf : ∀ x, f x = x * 1103515245 + 12345) {G : GX} {d : Nat} {mem0 : Mem} {X : Bm} (hV : VX 9 30 X) (h0 : xn X ≠ 0) (hM : RepM mem0 0 X) (hG : mem0 40 14 = goI 9) {n : Nat} (hn : n ≤ 300) (sd w : Int32) : ∀ (r i : Nat) (m : Mem), i + r = n → RepM m 92 (drS f sd X i).2 → FrM 92 mem0 m → Go G (d + 3) mX6_drift 53 [(0, .ref 40), (2, .int (nI n)), (3, .int w), (4, .int (nI (drM f sd X i))), (5, .int (drS f sd X i).1), (6, .int (nI i))] [] m (Ri (if w = 0 then nI (drM f sd X n) else nI (smF (xh (drS f sd X n).2) (xn X))) (QM mem0)) := by
  intro r
  have hn5 := hV.1
  induction r with
  | zero =>
    intro i m hi hR hF
    have hi2 : i = n := by omega
    subst hi2
    refine sX6_drift_53 i w _ _ i 0 0 0 0 0 0 (xn X) (drS f sd X i).2 X ⟨fun _ => ⟨fun q => ⟨⟨rfl, rfl⟩, ⟨by omega, by omega, hn5⟩, by have := hR.1; rw [dr_n] at this; exact this, fun c hc => (hR.2.2.2 c (by rw [dr_n]; exact hc)).2.2.1, Ri.mk ?_ (hF.qm (by omega))⟩, fun q => Ri.mk ?_ (hF.qm (by omega))⟩, fun q => absurd (Int32.le_refl _) q⟩
    · rw [if_neg q]
    · rw [if_pos q]
  | succ r ih =>
    intro i m hi hR hF
    have hVi := VX_dr (f := f) (sd := sd) hV i
    have hg := gN_lt (f (drS f sd X i).1)
    have hc : gN (f (drS f sd X i).1) % xn X < xn X := Nat.mod_lt _ (by omega)
    have hc2 : gN (f (drS f sd X i).1) % xn X < xn (drS f sd X i).2 := by rw [dr_n]; exact hc
    have hVY : VX 9 30 (drY f sd X i) := VX_sh hVi _ _
    obtain ⟨a1, a2, a3, a4, a5⟩ := hVi.2.2 _ hc2
    have hh := VX9_h hVi hc2
    have hw := who_lt hVY
    have e14 : m 41 20 = nI (xn X) := by rw [hF.2 20 (by omega)]; exact (RepM0 hM).1
    obtain ⟨r1, r2, r3, r4⟩ := hR.2.2.2 _ hc2
    refine sX6_drift_53 n w _ _ i (gN (f (drS f sd X i).1) % xn X) (1 + gN (f (drS f sd X i).1) / 8 % 5) (xk (drS f sd X i).2 (gN (f (drS f sd X i).1) % xn X)) (xp (drS f sd X i).2 (gN (f (drS f sd X i).1) % xn X)) (xh (drS f sd X i).2 (gN (f (drS f sd X i).1) % xn X)) (xu (drS f sd X i).2) 0 X (drY f sd X i) ⟨fun q => absurd ((nle (by omega) (by omega)).mp q) (by omega), fun _ y3 h3 y4 h4 => ?_⟩
    have e3 : y3 = f (drS f sd X i).1 := by rw [hf]; exact h3
    rw [e3, got_m] at h4
    rw [z20, e14, h4]
    refine ⟨fun q => h0 ((neq (by omega) (by omega)).mp (q.trans nI_0.symm)), ⟨rfl, dr_c hg (by omega) hn5, dr_m hg⟩, ⟨by omega, by omega⟩, ⟨a1, a2, a3, hh, by omega, by omega, hVi.2.1⟩, r1, r2, r3, hR.2.1, fun m15 q15 => ?_⟩
    have hRY : RepM m15 92 (drY f sd X i) ∧ FrM 92 m m15 := RepM_h (by rw [dr_n]; exact hn5) (by omega) hR q15
    refine ⟨rfl, by omega, ⟨by omega, by omega, by omega⟩, hVY, hRY.1, by rw [hRY.2.1 40 (by decide), hF.1 40 (by decide)]; exact hG, fun m22 h22 => ⟨by omega, fun y16 h16 => ?_⟩⟩
    rw [h16, who_pc hVY, nI_add, nI_1, e3]
    exact ih (i + 1) m22 (by omega) h22.1 ((hF.tr hRY.2).tr h22.2)
theorem kX6_drift {f : Int32 → Int32} (hf : ∀ x, f x = x * 1103515245 + 12345) {G : GX} (d : Nat) {mem : Mem} (sd n w : Int32) (X : Bm) (h : C1 mem X) (h7 : C7 mem) : Cn G (d + 3) mX6_drift [.ref 40, .int sd, .int n, .int w] mem (Ri (driftA f X sd n w) (QM mem)) := by
  obtain ⟨hB, hM, hV, ht⟩ := h
  refine cn_of (by decide +kernel) (Nat.le_of_ble_eq_true rfl) (sX6_drift_0 sd n w ?_)
  rw [z20, (RepM0 hM).1]
  unfold driftA
  refine ⟨fun q => Ri.mk (if_neg (fun z => q z.1)).symm QM.rf, fun q => ⟨fun q2 => ⟨fun q3 => ⟨⟨rfl, rfl⟩, ⟨by omega, by omega, by omega⟩, ?_⟩, fun q3 => Ri.mk (by rw [if_pos ⟨q, q2⟩, if_pos q3]) QM.rf⟩, fun q2 => Ri.mk (if_neg (fun z => q2 z.2)).symm QM.rf⟩⟩
  rw [if_pos ⟨q, q2⟩, if_neg q3]
  obtain ⟨k, hk, rfl⟩ := i300 (n := 300) rfl (by omega) ⟨Int32.le_trans (by decide) q.1, q.2⟩
  rw [ncl (show k < 2000000000 by omega)]
  exact lX6_drift hf hV (fun e => q3 (by rw [e]; exact nI_0)) hM h7.1 hk sd w k 0 (cpM mem 0 92) (by omega) (cpM_rep hV.1 hM) cpM_fr
-- so far, pairs
theorem P4 {G : GX} (w : Int32) : Sm G mX5_rule mX6_rule [.int w] := Sm_q (fun mem X S h1 h5 h7 => ⟨_, kX5_rule 5 w X h1, fun m1 h1 h5 h7 => kX6_rule 8 w X h1 h7⟩)
theorem P5 {G : GX} (c w : Int32) : Sm G mX5_clock mX6_clock [.int c, .int w] := Sm_q (fun mem X S h1 h5 h7 => by
  by_cases hc : isC X c
  · obtain ⟨i, hi, rfl⟩ := isC_n hc h1.2.2.1.1
    exact ⟨_, kX5_clock 8 i w X h1 hi, fun m1 h1 h5 h7 => kX6_clock 7 i w X h1 hi⟩
  · exact ⟨_, kX5_clockN 8 c w X h1 hc, fun m1 h1 h5 h7 => kX6_clockN 7 c w X h1 hc⟩)
theorem P12 {G : GX} (a w : Int32) : Sm G mX5_runs mX6_runs [.int a, .int w] := Sm_q (fun mem X S h1 h5 h7 => by
  refine ⟨_, ?_, fun m1 h1 h5 h7 => kX6_runs 5 a w X h1 h7⟩
  by_cases q : in300 a ∧ (0 ≤ w ∧ w ≤ 4)
  · rw [if_pos q]
    obtain ⟨k, hk, rfl⟩ := i300 (n := 300) rfl (by omega) q.1
    rw [ncl (show k < 2000000000 by omega)]
    exact kX5_runs 5 k w X h1 hk q.2
  · rw [if_neg q]
    refine kX5_runsN 5 a w X ?_
    by_cases z : in300 a
    · exact Or.inr (fun y => q ⟨z, y⟩)
    · exact Or.inl z)
theorem P13 {G : GX} (c n w : Int32) : Sm G mX5_ahead mX6_ahead [.int c, .int n, .int w] := Sm_q (fun mem X S h1 h5 h7 => ⟨_, kX5_ahead 3 c n w X h1, fun m1 h1 h5 h7 => kX6_ahead 5 c n w X h1 h7⟩)
theorem P14 {G : GX} (n : Int32) : Sm G mX5_beats mX6_beats [.int n] := Sm_q (fun mem X S h1 h5 h7 => ⟨_, kX5_beats 3 n X h1, fun m1 h1 h5 h7 => kX6_beats 5 n X h1 h7⟩)
theorem P15 {G : GX} : Sm G mX5_together mX6_together [] := Sm_q (fun mem X S h1 h5 h7 => ⟨_, kX5_together 4 X h1, fun m1 h1 h5 h7 => kX6_together 5 X h1 h7⟩)
theorem P16 {G : GX} : Sm G mX5_again mX6_again [] := Sm_q (fun mem X S h1 h5 h7 => ⟨_, kX5_again 5 X h1, fun m1 h1 h5 h7 => kX6_again 6 X h1 h7⟩)
theorem P30 {G : GX} (sd n w : Int32) : Sm G mX5_drift mX6_drift [.int sd, .int n, .int w] := Sm_q (fun mem X S h1 h5 h7 => ⟨_, kX5_drift (f := sdI) (fun _ => rfl) 5 sd n w X h1, fun m1 h1 h5 h7 => kX6_drift (f := sdI) (fun _ => rfl) 6 sd n w X h1 h7⟩)
