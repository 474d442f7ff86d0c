set_option maxRecDepth 100000 in
theorem sX2_readLine_0 {G : GX} {d : Nat} {mem : Mem} {Φ : Option Value → Mem → Prop} (T : Tp) (s : Rs) (u : Nat) (X : Bm) (h : (s.1 = 0) ∧ (RsC T s mem) ∧ ((¬ (nI (nmN T s.2.2)) = 5 → ((¬ (nI (nmN T s.2.2)) = 4 → ((nI (nmN T s.2.2)) = nI (nmN T s.2.2)) ∧ (xn X ≤ 5) ∧ (LsC T (s, u, X) mem) ∧ ∀ m6 : Mem, (LsC T (lnK T s u X (nmN T s.2.2)) m6 ∧ FrL mem m6) → Φ none (um m6 23 4 ((m6 23 4) + 1))) ∧ ((nI (nmN T s.2.2)) = 4 → (u ≤ 1) ∧ (LsC T (s, u, X) mem) ∧ ∀ m9 : Mem, (LsC T (lnP T s u X) m9 ∧ FrL mem m9) → Φ none (um m9 23 4 ((m9 23 4) + 1))))) ∧ ((nI (nmN T s.2.2)) = 5 → ∀ m10 : Mem, m10 = (um (um (um mem 23 2 2) 23 3 (mem 23 7)) 23 4 (((um (um mem 23 2 2) 23 3 (mem 23 7)) 23 4) + 1)) → Φ none m10))) : Go G (d + 6) mX2_readLine 0 [(0, .ref 23), (1, .ref 6)] [] mem Φ := by
  refine go_aload_n dX2_readLine_0 0 rfl ?_
  obtain ⟨c1, h⟩ := h
  obtain ⟨c2, h⟩ := h
  refine go_callV (st := []) (kX2_lineNamed (d + 0) T s c1 c2) rfl rfl okX2_lineNamed insX2_lineNamed selX2_lineNamed lkX2_42 rfl rfl (Nat.le_of_ble_eq_true rfl) dX2_readLine_1 (fun v_ m2_ q => ?_)
  rw [q.1, q.2]
  refine go_stk (st2 := [.int (nI (nmN T s.2.2))]) rfl ?_
  refine go_istore_n (L2 := [(2, .int (nI (nmN T s.2.2))), (0, .ref 23), (1, .ref 6)]) dX2_readLine_4 (by decide) rfl ?_
  refine go_iload_n dX2_readLine_5 0 rfl ?_
  refine go_iconst (v := 5) dX2_readLine_6 (by decide) ?_
  refine go_icmp_ne 18 dX2_readLine_7 (by decide) (fun q => ?_) (fun q => ?_)
  · have h := h.1 q
    refine go_iload_n dX2_readLine_18 0 rfl ?_
    refine go_iconst (v := 4) dX2_readLine_19 (by decide) ?_
    refine go_icmp_ne 31 dX2_readLine_20 (by decide) (fun q => ?_) (fun q => ?_)
    · have h := h.1 q
      refine go_aload_n dX2_readLine_31 1 rfl ?_
      refine go_aload_n dX2_readLine_32 2 rfl ?_
      refine go_iload_n dX2_readLine_33 0 rfl ?_
      obtain ⟨c3, h⟩ := h
      obtain ⟨c4, h⟩ := h
      obtain ⟨c5, h⟩ := h
      refine go_callV (st := []) (kX2_readClock (d + 2) (nI (nmN T s.2.2)) (nmN T s.2.2) T s u X c3 c1 c4 c5) rfl rfl okX2_readClock insX2_readClock selX2_readClock lkX2_53 rfl rfl (Nat.le_of_ble_eq_true rfl) dX2_readLine_34 (fun v_ m6 q => ?_)
      rw [q.1]
      have h := h m6 q.2
      refine go_stk (st2 := []) rfl ?_
      refine go_aload_n dX2_readLine_37 1 rfl ?_
      refine go_dup dX2_readLine_38 rfl ?_
      refine go_getI (kf := 4) rfl rfl rfl uwX2 (by decide) flX2_22 dX2_readLine_39 ?_
      refine go_iconst (v := 1) dX2_readLine_42 (by decide) ?_
      refine go_iadd dX2_readLine_43 ?_
      refine go_putI (kf := 4) rfl rfl rfl uwX2 tyX2_ok nmX2 (by decide) rfl flX2_22 rfl rfl dX2_readLine_44 ?_
      exact go_vret rfl dX2_readLine_47 h
    · have h := h.2 q
      refine go_aload_n dX2_readLine_23 1 rfl ?_
      refine go_aload_n dX2_readLine_24 2 rfl ?_
      obtain ⟨c7, h⟩ := h
      obtain ⟨c8, h⟩ := h
      refine go_callV (st := []) (kX2_readPush (d + 2) T s u X c1 c7 c8) rfl rfl okX2_readPush insX2_readPush selX2_readPush lkX2_50 rfl rfl (Nat.le_of_ble_eq_true rfl) dX2_readLine_25 (fun v_ m9 q => ?_)
      rw [q.1]
      have h := h m9 q.2
      refine go_stk (st2 := []) rfl ?_
      refine go_goto 37 dX2_readLine_28 (by decide) ?_
      refine go_aload_n dX2_readLine_37 1 rfl ?_
      refine go_dup dX2_readLine_38 rfl ?_
      refine go_getI (kf := 4) rfl rfl rfl uwX2 (by decide) flX2_22 dX2_readLine_39 ?_
      refine go_iconst (v := 1) dX2_readLine_42 (by decide) ?_
      refine go_iadd dX2_readLine_43 ?_
      refine go_putI (kf := 4) rfl rfl rfl uwX2 tyX2_ok nmX2 (by decide) rfl flX2_22 rfl rfl dX2_readLine_44 ?_
      exact go_vret rfl dX2_readLine_47 h
  · have h := h.2 q
    refine go_aload_n dX2_readLine_10 1 rfl ?_
    refine go_iconst (v := 2) dX2_readLine_11 (by decide) ?_
    refine go_callV (st := []) (kX2_refuse (d + 5) 2) rfl rfl okX2_refuse insX2_refuse selX2_refuse lkX2_46 rfl rfl (Nat.le_of_ble_eq_true rfl) dX2_readLine_12 (fun v_ m2_ q => ?_)
    rw [q.1, q.2]
    refine go_stk (st2 := []) rfl ?_
    refine go_goto 37 dX2_readLine_15 (by decide) ?_
    refine go_aload_n dX2_readLine_37 1 rfl ?_
    refine go_dup dX2_readLine_38 rfl ?_
    refine go_getI (kf := 4) rfl rfl rfl uwX2 (by decide) flX2_22 dX2_readLine_39 ?_
    refine go_iconst (v := 1) dX2_readLine_42 (by decide) ?_
    refine go_iadd dX2_readLine_43 ?_
    refine go_putI (kf := 4) rfl rfl rfl uwX2 tyX2_ok nmX2 (by decide) rfl flX2_22 rfl rfl dX2_readLine_44 ?_
    refine go_mem (fun m10 qm10 => ?_)
    have h := h m10 qm10
    exact go_vret rfl dX2_readLine_47 h


theorem kX2_readLine {G : GX} (d : Nat) {mem : Mem} (T : Tp) (s : Rs) (u : Nat) (X : Bm) (h0 : s.1 = 0) (hu : u ≤ 1) (hn : xn X ≤ 5) (h : LsC T (s, u, X) mem) : Cn G (d + 6) mX2_readLine [.ref 23, .ref 6] mem (Rv (fun m2 => LsC T (ln T s u X) m2 ∧ (∀ k, k ≠ 23 → ¬ (6 ≤ k ∧ k ≤ 10) → m2 k = mem k) ∧ m2 23 4 = mem 23 4 + 1)) := by
  have hb := nmN_le (T := T) (q := s.2.2)
  have e5 : (nI (nmN T s.2.2) = (5 : Int32)) ↔ nmN T s.2.2 = 5 := neq (b := 5) (by omega) (by omega)
  have e4 : (nI (nmN T s.2.2) = (4 : Int32)) ↔ nmN T s.2.2 = 4 := neq (b := 4) (by omega) (by omega)
  have fin : ∀ (z : Ls) (m : Mem), LsC T z m → FrL mem m → LsC T z (um m 23 4 (m 23 4 + 1)) ∧ (∀ k, k ≠ 23 → ¬ (6 ≤ k ∧ k ≤ 10) → um m 23 4 (m 23 4 + 1) k = mem k) ∧ um m 23 4 (m 23 4 + 1) 23 4 = mem 23 4 + 1 := fun z m a b => by
    refine ⟨⟨a.1.fr (um_ne (by decide)) (fun j _ q => by rw [um_at, if_neg q]), fun f => ⟨?_, ?_⟩⟩, fun k q1 q2 => by rw [um_ne q1]; exact b.1 k q1 q2, by rw [um_same, b.2]⟩
    · rw [um_at, if_neg (by decide)]; exact (a.2 f).1
    · exact (a.2 f).2.fr (fun k _ _ => um_ne (by omega))
  refine cn_of (by decide +kernel) (Nat.le_of_ble_eq_true rfl) (sX2_readLine_0 T s u X ⟨h0, h.1, ?_⟩)
  rw [e5, e4]
  unfold ln
  refine ⟨fun q5 => ⟨fun q4 => ⟨rfl, hn, h, fun m z => ⟨rfl, ?_⟩⟩, fun q4 => ⟨hu, h, fun m z => ⟨rfl, ?_⟩⟩⟩, fun q5 m z => ⟨rfl, ?_⟩⟩
  · rw [if_neg q5, if_neg q4]; exact fin _ _ z.1 z.2
  · rw [if_neg q5, if_pos q4]; exact fin _ _ z.1 z.2
  · rw [if_pos q5, z]
    have k := h.1.rf h0 (w := 2) (by omega)
    exact fin _ _ ⟨k.1, fun f => absurd f (rf_1 (by omega))⟩ k.2.fl
/-! the text, line by line -/
def lx (T : Tp) (z : Ls) : Ls := (nx T (ln T z.1 z.2.1 z.2.2).1, (ln T z.1 z.2.1 z.2.2).2)
def rdF (T : Tp) : Nat → Ls × Nat → Ls × Nat
  | 0, z => z
  | r + 1, z => if z.1.1.1 ≠ 0 ∨ (tk0 T z.1.1.2.2).2.1 = 0 then z else rdF T r (lx T z.1, z.2 + 1)
def LzC (T : Tp) (z : Ls × Nat) (m : Mem) : Prop := LsC T z.1 m ∧ (z.1.1.1 = 0 → m 23 4 = nI z.2)
def OKz (z : Ls) : Prop := z.1.1 = 0 → z.2.1 ≤ 1 ∧ VX 9 30 z.2.2 ∧ xt z.2.2 = 0
theorem nx_vs {T : Tp} {s : Rs} (h : VS T s) : VS T (nx T s) := fun f => (nx_v f h).2.1 f
theorem ck_vs {T : Tp} {lo hi : Nat} {s : Rs} (h : VS T s) : VS T (ck T lo hi s) := fun f => by
  have c := ck_v f
  rw [c.2.1]; exact h c.1
theorem cks_vs {T : Tp} {s : Rs} (h : VS T s) : VS T (cks T s) := fun f => by
  have c := cks_v f
  rw [c.2]; exact h c.1
theorem nmN_s {T : Tp} {q : Nat} (h : nmN T q ≠ 5) : (tk0 T q).2.1 = 1 := by
  by_cases z : (tk0 T q).2.1 = 1
  · exact z
  · exact absurd (nmN_5 (fun i _ => Bool.eq_false_iff.mpr (fun w => z (isN_iff.mp w).1))) h
theorem ln_ok {T : Tp} {s : Rs} {u : Nat} {X : Bm} (hB : ∀ i, i < T.1 → T.2 i ≤ 127) (h0 : s.1 = 0) (hv : VS T s) (h : OKz (s, u, X)) (f : (ln T s u X).1.1 = 0) : OKz (ln T s u X) ∧ VS T (ln T s u X).1 ∧ s.2.2 + 1 ≤ (ln T s u X).1.2.2 := by
  obtain ⟨k1, k2, k3⟩ := h h0
  have k1 : u ≤ 1 := k1
  have k2 : VX 9 30 X := k2
  have k3 : xt X = 0 := k3
  unfold ln at f ⊢
  by_cases q5 : nmN T s.2.2 = 5
  · rw [if_pos q5] at f
    exact absurd f (rf_1 (by omega))
  · rw [if_neg q5] at f ⊢
    have e1 := tk0_n1 (nmN_s q5)
    have hb := nmN_le (T := T) (q := s.2.2)
    have va := nx_vs hv
    by_cases q4 : nmN T s.2.2 = 4
    · rw [if_pos q4] at f ⊢
      unfold lnP at f ⊢
      by_cases hu : u = 0
      · rw [if_neg (show ¬ u ≠ 0 by omega)] at f ⊢
        have vb := nx_vs (ck_vs (lo := 0) (hi := 5) va)
        have c1 := cks_v f
        have c2 := nx_v c1.1 (ck_vs va)
        have c3 := ck_v c2.1
        have c4 := nx_v c3.1 hv
        have r := ck_r hB va (by omega) c2.1
        have w := (tk0_bd (va c3.1).2).1
        refine ⟨fun _ => ⟨by show 1 ≤ 1; omega, ⟨k2.1, r.2, k2.2.2⟩, k3⟩, cks_vs vb, ?_⟩
        show s.2.2 + 1 ≤ (cks T (nx T (ck T 0 5 (nx T s)))).2.2
        rw [c1.2]
        have c5 := c2.2.2
        rw [c3.2.1] at c5 ⊢
        omega
      · rw [if_pos hu] at f
        exact absurd f (rf_1 (by omega))
    · rw [if_neg q4] at f ⊢
      unfold lnK at f ⊢
      by_cases h5 : 5 ≤ xn X
      · rw [if_pos h5] at f
        exact absurd f (rf_1 (by omega))
      · rw [if_neg h5] at f ⊢
        have vb := nx_vs (ck_vs (lo := 2) (hi := 30) va)
        have vc := nx_vs (ck_vs (lo := 0) (hi := vlN T (nx T s) - 1) vb)
        have c1 := cks_v f
        have c2 := nx_v c1.1 (ck_vs vb)
        have c3 := ck_v c2.1
        have c4 := nx_v c3.1 (ck_vs va)
        have c5 := ck_v c4.1
        have c6 := nx_v c5.1 hv
        have r := ck_r hB va (by omega) c4.1
        have r2 := ck_r hB vb (by omega) c2.1
        have w := (tk0_bd (va c5.1).2).1
        have w2 := (tk0_bd (vb c3.1).2).1
        refine ⟨fun _ => ⟨k1, ⟨?_, k2.2.1, ?_⟩, k3⟩, cks_vs vc, ?_⟩
        · show xn X + 1 ≤ 5
          omega
        · intro c hc
          have hc : c < xn X + 1 := hc
          show upN (xk X) (xn X) _ c ≤ 3 ∧ 2 ≤ upN (xp X) (xn X) _ c ∧ upN (xp X) (xn X) _ c ≤ 30 ∧ (c ≠ 9 → upN (xh X) (xn X) _ c < upN (xp X) (xn X) _ c) ∧ (c = 9 → upN (xh X) (xn X) _ c ≤ 30)
          unfold upN
          by_cases e : c = xn X
          · rw [if_pos e, if_pos e, if_pos e]
            exact ⟨by omega, by omega, by omega, fun _ => by omega, fun _ => by omega⟩
          · rw [if_neg e, if_neg e, if_neg e]
            exact k2.2.2 c (by omega)
        · show s.2.2 + 1 ≤ (cks T (nx T (ck T 0 (vlN T (nx T s) - 1) (nx T (ck T 2 30 (nx T s)))))).2.2
          rw [c1.2]
          have c7 := c2.2.2
          rw [c3.2.1] at c7
          have c8 := c4.2.2
          rw [c5.2.1] at c8
          rw [c3.2.1]
          rw [c5.2.1] at c7 w2 ⊢
          omega
theorem lx_ok {T : Tp} {z : Ls} (hB : ∀ i, i < T.1 → T.2 i ≤ 127) (h0 : z.1.1 = 0) (hv : VS T z.1) (h : OKz z) (f : (lx T z).1.1 = 0) (hw : VS T (ln T z.1 z.2.1 z.2.2).1) : OKz (lx T z) ∧ VS T (lx T z).1 ∧ z.1.2.2 + 1 ≤ (lx T z).1.2.2 := by
  obtain ⟨s, u, X⟩ := z
  have f1 := nx_v f hw
  obtain ⟨a, b, c⟩ := ln_ok hB h0 hv h f1.1
  have w := (tk0_bd (hw f1.1).2).1
  have c : s.2.2 + 1 ≤ (ln T s u X).1.2.2 := c
  exact ⟨fun _ => a f1.1, nx_vs hw, by
    have c2 := f1.2.2
    show s.2.2 + 1 ≤ (nx T (ln T s u X).1).2.2
    have c2 : (tk0 T (ln T s u X).1.2.2).1 ≤ (nx T (ln T s u X).1).2.2 := c2
    have w : (ln T s u X).1.2.2 ≤ (tk0 T (ln T s u X).1.2.2).1 := w
    omega⟩
def st0 (T : Tp) : Rs := if (tk0 T (rnT T 32 32 0)).2.2 = true then (1, rnT T 32 32 0, 0) else (0, 0, rnT T 32 32 0)
theorem NxC.rs {T : Tp} {m m2 : Mem} (hT : TpC m T) (h : NxC T (rnT T 32 32 0) m m2) : RsC T (st0 T) m2 := by
  obtain ⟨n1, n2, n7, n6, n5, nf, np⟩ := h
  have bd2 := rnT_bd (T := T) (lo := 32) (hi := 32) (Nat.zero_le T.1)
  unfold st0
  by_cases b : (tk0 T (rnT T 32 32 0)).2.2 = true
  · rw [if_pos b] at nf ⊢
    exact ⟨hT.fr (n2 1 (by decide) (by decide) (by decide) (by decide) (by decide)) (n1 24 (by decide)), by omega, nf, fun _ => np b, fun z => absurd (show (1 : Nat) = 0 from z) (by decide)⟩
  · rw [if_neg b] at nf ⊢
    exact ⟨hT.fr (n2 1 (by decide) (by decide) (by decide) (by decide) (by decide)) (n1 24 (by decide)), by omega, nf, fun z => absurd rfl z, fun _ => ⟨n7, n5, n6, Bool.eq_false_iff.mpr b, bd2.2⟩⟩
theorem NxM.rs {T : Tp} {m m2 : Mem} (hT : TpM m T) (h : NxM T (rnT T 32 32 0) m m2) : RsM T (st0 T) m2 := by
  obtain ⟨n1, n2, nok, nbad⟩ := h
  have bd2 := rnT_bd (T := T) (lo := 32) (hi := 32) (Nat.zero_le T.1)
  unfold st0
  by_cases b : (tk0 T (rnT T 32 32 0)).2.2 = true
  · rw [if_pos b]
    exact ⟨hT.fk ⟨n1, n2⟩, by omega, (nbad b).1, fun _ => (nbad b).2, fun z => absurd (show (1 : Nat) = 0 from z) (by decide)⟩
  · rw [if_neg b]
    obtain ⟨u1, u2, u3, u4, u5⟩ := nok (Bool.eq_false_iff.mpr b)
    exact ⟨hT.fk ⟨n1, n2⟩, by omega, u1, fun z => absurd rfl z, fun _ => ⟨u2, u3, u4, u5, Bool.eq_false_iff.mpr b, bd2.2⟩⟩

set_option maxRecDepth 100000 in
theorem sX2_readText_0 {G : GX} {d : Nat} {mem : Mem} {Φ : Option Value → Mem → Prop} (T : Tp) (h : ∀ m1 : Mem, m1 = (um (um (um (um mem 23 2 0) 23 3 0) 23 4 0) 23 5 0) → (TpC (um m1 23 8 0) T) ∧ (0 ≤ T.1) ∧ ((um m1 23 8 0) 23 2 = 0 ∧ (um m1 23 8 0) 23 5 = nI 0) ∧ ∀ m5 : Mem, NxC T (rnT T 32 32 0) (um m1 23 8 0) m5 → Go G (d + 7) mX2_readText 31 [(0, .ref 23), (1, .ref 6), (2, .int 0)] [] m5 Φ) : Go G (d + 7) mX2_readText 0 [(0, .ref 23), (1, .ref 6)] [] mem Φ := by
  refine go_aload_n dX2_readText_0 0 rfl ?_
  refine go_iconst (v := 0) dX2_readText_1 (by decide) ?_
  refine go_putI (kf := 2) rfl rfl rfl uwX2 tyX2_ok nmX2 (by decide) rfl flX2_15 rfl rfl dX2_readText_2 ?_
  refine go_aload_n dX2_readText_5 0 rfl ?_
  refine go_iconst (v := 0) dX2_readText_6 (by decide) ?_
  refine go_putI (kf := 3) rfl rfl rfl uwX2 tyX2_ok nmX2 (by decide) rfl flX2_19 rfl rfl dX2_readText_7 ?_
  refine go_aload_n dX2_readText_10 0 rfl ?_
  refine go_iconst (v := 0) dX2_readText_11 (by decide) ?_
  refine go_putI (kf := 4) rfl rfl rfl uwX2 tyX2_ok nmX2 (by decide) rfl flX2_22 rfl rfl dX2_readText_12 ?_
  refine go_aload_n dX2_readText_15 0 rfl ?_
  refine go_iconst (v := 0) dX2_readText_16 (by decide) ?_
  refine go_putI (kf := 5) rfl rfl rfl uwX2 tyX2_ok nmX2 (by decide) rfl flX2_25 rfl rfl dX2_readText_17 ?_
  refine go_mem (fun m1 qm1 => ?_)
  have h := h m1 qm1
  refine go_aload_n dX2_readText_20 0 rfl ?_
  refine go_iconst (v := 0) dX2_readText_21 (by decide) ?_
  refine go_putI (kf := 8) rfl rfl rfl uwX2 tyX2_ok nmX2 (by decide) rfl flX2_28 rfl rfl dX2_readText_22 ?_
  refine go_aload_n dX2_readText_25 0 rfl ?_
  obtain ⟨c2, h⟩ := h
  obtain ⟨c3, h⟩ := h
  obtain ⟨c4, h⟩ := h
  refine go_callV (st := []) (kX2_nextToken (d + 5) T 0 c2 c3 c4) rfl rfl okX2_nextToken insX2_nextToken selX2_nextToken lkX2_32 rfl rfl (Nat.le_of_ble_eq_true rfl) dX2_readText_26 (fun v_ m5 q => ?_)
  rw [q.1]
  have h := h m5 q.2
  refine go_stk (st2 := []) rfl ?_
  refine go_iconst (v := 0) dX2_readText_29 (by decide) ?_
  refine go_istore_n (L2 := [(2, .int 0), (0, .ref 23), (1, .ref 6)]) dX2_readText_30 (by decide) rfl ?_
  exact Go.pick [1, 2, 0] rfl h

set_option maxRecDepth 100000 in
theorem sX2_readText_31 {G : GX} {d : Nat} {mem : Mem} {Φ : Option Value → Mem → Prop} (T : Tp) (s : Rs) (u : Nat) (X : Bm) (i : Nat) (h : ((160 ≤ (nI i) → Φ none mem) ∧ (¬ 160 ≤ (nI i) → ((¬ (mem 23 2) = 0 → Φ none mem) ∧ ((mem 23 2) = 0 → (((mem 23 6) = 0 → Φ none mem) ∧ (¬ (mem 23 6) = 0 → (s.1 = 0) ∧ (u ≤ 1) ∧ (xn X ≤ 5) ∧ (LsC T (s, u, X) mem) ∧ ∀ m5 : Mem, (LsC T (ln T s u X) m5 ∧ (∀ k, k ≠ 23 → ¬ (6 ≤ k ∧ k ≤ 10) → m5 k = mem k) ∧ m5 23 4 = mem 23 4 + 1) → (RsC T ((ln T s u X).1) m5) ∧ ∀ m7 : Mem, (RsC T (nx T ((ln T s u X).1)) m7 ∧ FrC m5 m7) → Go G (d + 7) mX2_readText 31 [(0, .ref 23), (1, .ref 6), (2, .int ((nI i) + 1))] [] m7 Φ))))))) : Go G (d + 7) mX2_readText 31 [(0, .ref 23), (1, .ref 6), (2, .int (nI i))] [] mem Φ := by
  refine go_iload_n dX2_readText_31 2 rfl ?_
  refine go_sipush (v := 160) dX2_readText_32 (by decide) ?_
  refine go_icmp_ge 67 dX2_readText_35 (by decide) (fun q => ?_) (fun q => ?_)
  · have h := h.1 q
    exact go_vret rfl dX2_readText_67 h
  · have h := h.2 q
    refine go_aload_n dX2_readText_38 0 rfl ?_
    refine go_getI (kf := 2) rfl rfl rfl uwX2 (by decide) flX2_15 dX2_readText_39 ?_
    refine go_if_ne 67 dX2_readText_42 (by decide) (fun q => ?_) (fun q => ?_)
    · have h := h.1 q
      exact go_vret rfl dX2_readText_67 h
    · have h := h.2 q
      refine go_aload_n dX2_readText_45 0 rfl ?_
      refine go_getI (kf := 6) rfl rfl rfl uwX2 (by decide) flX2_35 dX2_readText_46 ?_
      refine go_if_eq 67 dX2_readText_49 (by decide) (fun q => ?_) (fun q => ?_)
      · have h := h.1 q
        exact go_vret rfl dX2_readText_67 h
      · have h := h.2 q
        refine go_aload_n dX2_readText_52 0 rfl ?_
        refine go_aload_n dX2_readText_53 1 rfl ?_
        obtain ⟨c1, h⟩ := h
        obtain ⟨c2, h⟩ := h
        obtain ⟨c3, h⟩ := h
        obtain ⟨c4, h⟩ := h
        refine go_callV (st := []) (kX2_readLine (d + 0) T s u X c1 c2 c3 c4) rfl rfl okX2_readLine insX2_readLine selX2_readLine lkX2_38 rfl rfl (Nat.le_of_ble_eq_true rfl) dX2_readText_54 (fun v_ m5 q => ?_)
        rw [q.1]
        have h := h m5 q.2
        refine go_stk (st2 := []) rfl ?_
        refine go_aload_n dX2_readText_57 0 rfl ?_
        obtain ⟨c6, h⟩ := h
        refine go_callV (st := []) (kX2_nx (d + 5) T ((ln T s u X).1) c6) rfl rfl okX2_nextToken insX2_nextToken selX2_nextToken lkX2_32 rfl rfl (Nat.le_of_ble_eq_true rfl) dX2_readText_58 (fun v_ m7 q => ?_)
        rw [q.1]
        have h := h m7 q.2
        refine go_stk (st2 := []) rfl ?_
        refine go_iinc (v := ((nI i) + 1)) (L2 := [(2, .int ((nI i) + 1)), (0, .ref 23), (1, .ref 6)]) dX2_readText_61 2 rfl rfl (by decide) rfl ?_
        refine go_goto 31 dX2_readText_64 (by decide) ?_
        exact Go.pick [1, 2, 0] rfl h


theorem kX2_readText {G : GX} (d : Nat) {mem : Mem} (T : Tp) (X : Bm) (hT : TpC mem T) (hX : VX 9 30 X) (hx : xt X = 0) (hR : RepB mem 6 X) : Cn G (d + 7) mX2_readText [.ref 23, .ref 6] mem (Rv (fun m2 => LzC T (rdF T 160 ((st0 T, 0, X), 0)) m2 ∧ ∀ k, k ≠ 23 → ¬ (6 ≤ k ∧ k ≤ 10) → m2 k = mem k)) := by
  have hB : ∀ i, i < T.1 → T.2 i ≤ 127 := fun i hi => (hT.2.2 i hi).1
  have lp : ∀ (r i : Nat) (z : Ls) (n : Nat) (m : Mem), i + r = 160 → LzC T (z, n) m → OKz z → (∀ k, k ≠ 23 → ¬ (6 ≤ k ∧ k ≤ 10) → m k = mem k) → Go G (d + 7) mX2_readText 31 [(0, .ref 23), (1, .ref 6), (2, .int (nI i))] [] m (Rv (fun m2 => LzC T (rdF T r (z, n)) m2 ∧ ∀ k, k ≠ 23 → ¬ (6 ≤ k ∧ k ≤ 10) → m2 k = mem k)) := by
    intro r
    induction r with
    | zero =>
      intro i z n m hi hz ok fr
      exact sX2_readText_31 T z.1 0 X i ⟨fun _ => ⟨rfl, hz, fr⟩, fun y => absurd ((nle (a := 160) (by omega) (by omega)).mpr (by omega)) y⟩
    | succ r ih =>
      intro i z n m hi hz ok fr
      obtain ⟨s, u, X1⟩ := z
      have ei : (nI i + 1 : Int32) = nI (i + 1) := (nI_succ i).symm
      have h5 := hz.1.1.2.1
      refine sX2_readText_31 T s u X1 i ⟨fun y => absurd ((nle (a := 160) (by omega) (by omega)).mp y) (by omega), fun _ => ?_⟩
      rw [hz.1.1.2.2.1, (nI05 h5).1, ei]
      refine ⟨fun q => ⟨rfl, ?_, fr⟩, fun q => ?_⟩
      · unfold rdF
        rw [if_pos (Or.inl q)]
        exact hz
      · obtain ⟨g7, g5, g6, gb, gq⟩ := hz.1.1.2.2.2.2 q
        have hs := tk0_s (T := T) (q := s.2.2)
        have e6 : (nI (tk0 T s.2.2).2.1 = (0 : Int32)) ↔ (tk0 T s.2.2).2.1 = 0 := neq (b := 0) (by omega) (by omega)
        have g6 : m 23 6 = nI (tk0 T s.2.2).2.1 := g6
        rw [g6, e6]
        refine ⟨fun y => ⟨rfl, ?_, fr⟩, fun y => ?_⟩
        · unfold rdF
          rw [if_pos (Or.inr y)]
          exact hz
        · obtain ⟨k1, k2, k3⟩ := ok q
          refine ⟨q, k1, k2.1, hz.1, fun m5 w => ⟨w.1.1, fun m7 v => ?_⟩⟩
          unfold rdF
          rw [if_neg (fun t => t.elim (fun a => a q) y)]
          have vs : VS T s := hz.1.1.vs
          refine ih (i + 1) (lx T (s, u, X1)) (n + 1) m7 (by omega) ⟨⟨v.1, fun f => ?_⟩, fun f => ?_⟩ (fun f => (lx_ok hB q vs ok f w.1.1.vs).1 f) (fun k a b => ?_)
          · have f1 := (nx_v f w.1.1.vs).1
            have l := w.1.2 f1
            refine ⟨?_, l.2.fr (fun k a b => v.2.1 k (by omega))⟩
            rw [v.2.2 8 (by decide) (by decide) (by decide) (by decide) (by decide)]
            exact l.1
          · have hl : m 23 4 = nI n := hz.2 q
            rw [v.2.2 4 (by decide) (by decide) (by decide) (by decide) (by decide), w.2.2, hl]
            exact (nI_succ n).symm
          · rw [v.2.1 k a, w.2.1 k a b, fr k a b]
  refine cn_of (by decide +kernel) (Nat.le_of_ble_eq_true rfl) (sX2_readText_0 T (fun m1 e1 => ?_))
  subst e1
  have hT2 : TpC (um (um (um (um (um mem 23 2 0) 23 3 0) 23 4 0) 23 5 0) 23 8 0) T := hT.fr (by simp only [um_at, reduceIte, Nat.reduceEqDiff]) (by rw [um_ne (by decide), um_ne (by decide), um_ne (by decide), um_ne (by decide), um_ne (by decide)])
  refine ⟨hT2, Nat.zero_le _, ⟨by simp only [um_at, reduceIte, Nat.reduceEqDiff], by simp only [um_at, reduceIte, Nat.reduceEqDiff]; rfl⟩, fun m5 z => ?_⟩
  have fr : ∀ k, k ≠ 23 → m5 k = mem k := fun k a => by rw [z.1 k a, um_ne a, um_ne a, um_ne a, um_ne a, um_ne a]
  refine lp 160 0 (st0 T, 0, X) 0 m5 rfl ⟨⟨z.rs hT2, fun _ => ⟨?_, hR.fr (fun k a b => fr k (by omega))⟩⟩, fun _ => ?_⟩ (fun _ => ⟨Nat.zero_le _, hX, hx⟩) (fun k a _ => fr k a)
  · rw [z.2.1 8 (by decide) (by decide) (by decide) (by decide) (by decide), um_same]
    rfl
  · rw [z.2.1 4 (by decide) (by decide) (by decide) (by decide) (by decide)]
    simp only [um_at, reduceIte, Nat.reduceEqDiff]
    rfl
