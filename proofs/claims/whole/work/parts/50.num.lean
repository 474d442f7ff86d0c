
theorem rn_all {P : Nat → Bool} : ∀ (r p i : Nat), p ≤ i → i < rn P r p → P i = true
  | 0, p, i, h1, h2 => by
    have h2 : i < p := h2
    omega
  | r + 1, p, i, h1, h2 => by
    unfold rn at h2
    by_cases q : P p = true
    · rw [if_pos q] at h2
      by_cases z : i = p
      · rw [z]; exact q
      · exact rn_all r (p + 1) i (by omega) h2
    · rw [if_neg q] at h2
      omega
theorem tk0_2 {T : Tp} {q : Nat} (h : (tk0 T q).2.1 = 2) : ∀ i, q ≤ i → i < (tk0 T q).1 → 48 ≤ T.2 i := by
  unfold tk0 at h ⊢
  split at h
  · exact absurd (show (0 : Nat) = 2 from h) (by decide)
  · rename_i h1
    rw [if_neg h1]
    split at h
    · exact absurd (show (3 : Nat) = 2 from h) (by decide)
    · rename_i h2
      rw [if_neg h2]
      split at h
      · exact absurd (show (1 : Nat) = 2 from h) (by decide)
      · rename_i h3
        rw [if_neg h3]
        intro i a b
        have k := of_decide_eq_true (rn_all _ _ _ a b)
        exact k.1
/-- the number that the token says -/
def vlN (T : Tp) (s : Rs) : Nat := nmF T.2 s.2.2 ((tk0 T s.2.2).1 - s.2.2)
def ck (T : Tp) (lo hi : Nat) (s : Rs) : Rs := if s.1 ≠ 0 then s else if (tk0 T s.2.2).2.1 ≠ 2 then rf s 2 else if nI lo ≤ nI (vlN T s) ∧ nI (vlN T s) ≤ nI hi then s else rf s 3
def cks (T : Tp) (s : Rs) : Rs := if s.1 ≠ 0 then s else if (tk0 T s.2.2).2.1 ≠ 3 then rf s 2 else s
theorem tk0_s {T : Tp} {q : Nat} : (tk0 T q).2.1 ≤ 3 := by
  unfold tk0
  split
  · exact Nat.zero_le _
  · split
    · exact Nat.le_refl _
    · split
      · exact (by decide : (1 : Nat) ≤ 3)
      · exact (by decide : (2 : Nat) ≤ 3)
theorem RsC.rf {T : Tp} {s : Rs} {m : Mem} (h : RsC T s m) (h0 : s.1 = 0) {w : Nat} (hw : 1 ≤ w ∧ w ≤ 5) : RsC T (rf s w) (um (um m 23 2 (nI w)) 23 3 (m 23 7)) ∧ FrC m (um (um m 23 2 (nI w)) 23 3 (m 23 7)) := by
  obtain ⟨hT, h5, h2, h3, h4⟩ := h
  obtain ⟨g7, _⟩ := h4 h0
  have f : FrC m (um (um m 23 2 (nI w)) 23 3 (m 23 7)) := ⟨fun k hk => by rw [um_ne hk, um_ne hk], fun j a b _ _ _ => by rw [um_at, if_neg b, um_at, if_neg a]⟩
  refine ⟨?_, f⟩
  unfold _root_.Jvm.Pilot.CBeamClocksLaw_law_r3607_f1c867.rf
  rw [if_neg (by omega)]
  refine ⟨hT.fr (f.2 1 (by decide) (by decide) (by decide) (by decide) (by decide)) (f.1 24 (by decide)), hw.2, ?_, fun _ => ?_, fun z => ?_⟩
  · rw [um_at, if_neg (by decide), um_same]
  · rw [um_same]; exact g7
  · have z : w = 0 := z
    omega

set_option maxRecDepth 100000 in
theorem sX2_readNumber_0 {G : GX} {d : Nat} {mem : Mem} {Φ : Option Value → Mem → Prop} (a1 a2 : Int32) (T : Tp) (s : Rs) (q0 : Nat) (h : (RsC T s mem) ∧ ∀ m2 : Mem, (RsC T (nx T s) m2 ∧ FrC mem m2) → (((m2 23 2) = 0 → (((m2 23 6) = 2 → (TpC m2 T) ∧ (q0 ≤ (tk0 T q0).1 ∧ (tk0 T q0).1 ≤ T.1) ∧ (∀ i, q0 ≤ i → i < (tk0 T q0).1 → 48 ≤ T.2 i) ∧ (m2 23 7 = nI q0 ∧ m2 23 5 = nI (tk0 T q0).1) ∧ (((a1 ≤ (nI (nmF T.2 q0 ((tk0 T q0).1 - q0))) ∧ (nI (nmF T.2 q0 ((tk0 T q0).1 - q0))) ≤ a2) → Φ (some (.int (nI (nmF T.2 q0 ((tk0 T q0).1 - q0))))) m2) ∧ (¬ (a1 ≤ (nI (nmF T.2 q0 ((tk0 T q0).1 - q0))) ∧ (nI (nmF T.2 q0 ((tk0 T q0).1 - q0))) ≤ a2) → Φ (some (.int (nI (nmF T.2 q0 ((tk0 T q0).1 - q0))))) (um (um m2 23 2 3) 23 3 (m2 23 7))))) ∧ (¬ (m2 23 6) = 2 → Φ (some (.int a1)) (um (um m2 23 2 2) 23 3 (m2 23 7))))) ∧ (¬ (m2 23 2) = 0 → Φ (some (.int a1)) m2))) : Go G (d + 2) mX2_readNumber 0 [(0, .ref 23), (1, .int a1), (2, .int a2)] [] mem Φ := by
  refine go_aload_n dX2_readNumber_0 0 rfl ?_
  obtain ⟨c1, h⟩ := h
  refine go_callV (st := []) (kX2_nx (d + 0) T s c1) rfl rfl okX2_nextToken insX2_nextToken selX2_nextToken lkX2_32 rfl rfl (Nat.le_of_ble_eq_true rfl) dX2_readNumber_1 (fun v_ m2 q => ?_)
  rw [q.1]
  have h := h m2 q.2
  refine go_stk (st2 := []) rfl ?_
  refine go_aload_n dX2_readNumber_4 0 rfl ?_
  refine go_getI (kf := 2) rfl rfl rfl uwX2 (by decide) flX2_15 dX2_readNumber_5 ?_
  refine go_if_eq 13 dX2_readNumber_8 (by decide) (fun q => ?_) (fun q => ?_)
  · have h := h.1 q
    refine go_aload_n dX2_readNumber_13 0 rfl ?_
    refine go_getI (kf := 6) rfl rfl rfl uwX2 (by decide) flX2_35 dX2_readNumber_14 ?_
    refine go_iconst (v := 2) dX2_readNumber_17 (by decide) ?_
    refine go_icmp_eq 28 dX2_readNumber_18 (by decide) (fun q => ?_) (fun q => ?_)
    · have h := h.1 q
      refine go_aload_n dX2_readNumber_28 0 rfl ?_
      obtain ⟨c3, h⟩ := h
      obtain ⟨c4, h⟩ := h
      obtain ⟨c5, h⟩ := h
      obtain ⟨c6, h⟩ := h
      refine go_callV (st := []) (kX2_numberRead (d + 1) T q0 (tk0 T q0).1 c3 c4 c5 c6) rfl rfl okX2_numberRead insX2_numberRead selX2_numberRead lkX2_76 rfl rfl (Nat.le_of_ble_eq_true rfl) dX2_readNumber_29 (fun v_ m2_ q => ?_)
      rw [q.1, q.2]
      refine go_stk (st2 := [.int (nI (nmF T.2 q0 ((tk0 T q0).1 - q0)))]) rfl ?_
      refine go_istore_n (L2 := [(3, .int (nI (nmF T.2 q0 ((tk0 T q0).1 - q0)))), (0, .ref 23), (1, .int a1), (2, .int a2)]) dX2_readNumber_32 (by decide) rfl ?_
      refine go_iload_n dX2_readNumber_33 0 rfl ?_
      refine go_iload_n dX2_readNumber_34 2 rfl ?_
      refine go_iload_n dX2_readNumber_35 3 rfl ?_
      refine go_callSN (st := []) (kX5_isWithin (d + 1) (nI (nmF T.2 q0 ((tk0 T q0).1 - q0))) a1 a2) okX5_isWithin staX5_isWithin (fun U h => h.1) rfl rfl (Nat.le_of_ble_eq_true rfl) dX2_readNumber_36 (fun v_ m2_ q => ?_)
      rw [q.1, q.2]
      refine go_stk (st2 := [.int (bI (a1 ≤ (nI (nmF T.2 q0 ((tk0 T q0).1 - q0))) ∧ (nI (nmF T.2 q0 ((tk0 T q0).1 - q0))) ≤ a2))]) rfl ?_
      refine go_if_ne 47 dX2_readNumber_39 (by decide) (fun q => ?_) (fun q => ?_)
      · have h := h.1 (bI1.mp q)
        refine go_iload_n dX2_readNumber_47 0 rfl ?_
        exact go_iret rfl dX2_readNumber_48 h
      · have h := h.2 (bI0.mp q)
        refine go_aload_n dX2_readNumber_42 1 rfl ?_
        refine go_iconst (v := 3) dX2_readNumber_43 (by decide) ?_
        refine go_callV (st := []) (kX2_refuse (d + 1) 3) rfl rfl okX2_refuse insX2_refuse selX2_refuse lkX2_46 rfl rfl (Nat.le_of_ble_eq_true rfl) dX2_readNumber_44 (fun v_ m2_ q => ?_)
        rw [q.1, q.2]
        refine go_stk (st2 := []) rfl ?_
        refine go_iload_n dX2_readNumber_47 0 rfl ?_
        exact go_iret rfl dX2_readNumber_48 h
    · have h := h.2 q
      refine go_aload_n dX2_readNumber_21 0 rfl ?_
      refine go_iconst (v := 2) dX2_readNumber_22 (by decide) ?_
      refine go_callV (st := []) (kX2_refuse (d + 1) 2) rfl rfl okX2_refuse insX2_refuse selX2_refuse lkX2_46 rfl rfl (Nat.le_of_ble_eq_true rfl) dX2_readNumber_23 (fun v_ m2_ q => ?_)
      rw [q.1, q.2]
      refine go_stk (st2 := []) rfl ?_
      refine go_iload_n dX2_readNumber_26 1 rfl ?_
      exact go_iret rfl dX2_readNumber_27 h
  · have h := h.2 q
    refine go_iload_n dX2_readNumber_11 1 rfl ?_
    exact go_iret rfl dX2_readNumber_12 h

set_option maxRecDepth 100000 in
theorem sX2_readSemicolon_0 {G : GX} {d : Nat} {mem : Mem} {Φ : Option Value → Mem → Prop} (T : Tp) (s : Rs) (h : (RsC T s mem) ∧ ∀ m2 : Mem, (RsC T (nx T s) m2 ∧ FrC mem m2) → ((¬ (m2 23 2) = 0 → Φ none m2) ∧ ((m2 23 2) = 0 → (((m2 23 6) = 3 → Φ none m2) ∧ (¬ (m2 23 6) = 3 → Φ none (um (um m2 23 2 2) 23 3 (m2 23 7))))))) : Go G (d + 2) mX2_readSemicolon 0 [(0, .ref 23)] [] mem Φ := by
  refine go_aload_n dX2_readSemicolon_0 0 rfl ?_
  obtain ⟨c1, h⟩ := h
  refine go_callV (st := []) (kX2_nx (d + 0) T s c1) rfl rfl okX2_nextToken insX2_nextToken selX2_nextToken lkX2_32 rfl rfl (Nat.le_of_ble_eq_true rfl) dX2_readSemicolon_1 (fun v_ m2 q => ?_)
  rw [q.1]
  have h := h m2 q.2
  refine go_stk (st2 := []) rfl ?_
  refine go_aload_n dX2_readSemicolon_4 0 rfl ?_
  refine go_getI (kf := 2) rfl rfl rfl uwX2 (by decide) flX2_15 dX2_readSemicolon_5 ?_
  refine go_if_ne 24 dX2_readSemicolon_8 (by decide) (fun q => ?_) (fun q => ?_)
  · have h := h.1 q
    exact go_vret rfl dX2_readSemicolon_24 h
  · have h := h.2 q
    refine go_aload_n dX2_readSemicolon_11 0 rfl ?_
    refine go_getI (kf := 6) rfl rfl rfl uwX2 (by decide) flX2_35 dX2_readSemicolon_12 ?_
    refine go_iconst (v := 3) dX2_readSemicolon_15 (by decide) ?_
    refine go_icmp_eq 24 dX2_readSemicolon_16 (by decide) (fun q => ?_) (fun q => ?_)
    · have h := h.1 q
      exact go_vret rfl dX2_readSemicolon_24 h
    · have h := h.2 q
      refine go_aload_n dX2_readSemicolon_19 0 rfl ?_
      refine go_iconst (v := 2) dX2_readSemicolon_20 (by decide) ?_
      refine go_callV (st := []) (kX2_refuse (d + 1) 2) rfl rfl okX2_refuse insX2_refuse selX2_refuse lkX2_46 rfl rfl (Nat.le_of_ble_eq_true rfl) dX2_readSemicolon_21 (fun v_ m2_ q => ?_)
      rw [q.1, q.2]
      refine go_stk (st2 := []) rfl ?_
      exact go_vret rfl dX2_readSemicolon_24 h


theorem kX2_readSemicolon {G : GX} (d : Nat) {mem : Mem} (T : Tp) (s : Rs) (h : RsC T s mem) : Cn G (d + 2) mX2_readSemicolon [.ref 23] mem (Rv (fun m2 => RsC T (cks T (nx T s)) m2 ∧ FrC mem m2)) := by
  refine cn_of (by decide +kernel) (Nat.le_of_ble_eq_true rfl) (sX2_readSemicolon_0 T s ⟨h, fun m2 z => ?_⟩)
  obtain ⟨z1, zf⟩ := z
  obtain ⟨hT, h5, h2, h3, h4⟩ := id z1
  rw [h2, (nI05 h5).1]
  unfold cks
  refine ⟨fun q => ⟨rfl, by rw [if_pos q]; exact z1, zf⟩, fun q => ?_⟩
  obtain ⟨g7, g5, g6, gb, gq⟩ := h4 q
  have hs := tk0_s (T := T) (q := (nx T s).2.2)
  have e3 : (nI (tk0 T (nx T s).2.2).2.1 = (3 : Int32)) ↔ (tk0 T (nx T s).2.2).2.1 = 3 := neq (b := 3) (by omega) (by omega)
  rw [g6, e3, if_neg (show ¬ (nx T s).1 ≠ 0 by omega)]
  refine ⟨fun y => ⟨rfl, by rw [if_neg (by omega)]; exact z1, zf⟩, fun y => ⟨rfl, ?_⟩⟩
  rw [if_pos y]
  have k := z1.rf q (w := 2) (by omega)
  exact ⟨k.1, zf.tr k.2⟩
theorem kX2_readNumber {G : GX} (d : Nat) {mem : Mem} (a1 a2 : Int32) (lo hi : Nat) (T : Tp) (s : Rs) (e : a1 = nI lo ∧ a2 = nI hi) (h : RsC T s mem) : Cn G (d + 2) mX2_readNumber [.ref 23, .int a1, .int a2] mem (fun v m2 => ∃ w, v = some (.int w) ∧ ((ck T lo hi (nx T s)).1 = 0 → w = nI (vlN T (nx T s))) ∧ RsC T (ck T lo hi (nx T s)) m2 ∧ FrC mem m2) := by
  rw [e.1, e.2]
  refine cn_of (by decide +kernel) (Nat.le_of_ble_eq_true rfl) (sX2_readNumber_0 _ _ T s (nx T s).2.2 ⟨h, fun m2 z => ?_⟩)
  obtain ⟨z1, zf⟩ := z
  obtain ⟨hT, h5, h2, h3, h4⟩ := id z1
  rw [h2, (nI05 h5).1]
  unfold ck
  refine ⟨fun q => ?_, fun q => ⟨_, rfl, fun y => absurd y (by rw [if_pos q]; exact q), by rw [if_pos q]; exact z1, zf⟩⟩
  obtain ⟨g7, g5, g6, gb, gq⟩ := h4 q
  have hs := tk0_s (T := T) (q := (nx T s).2.2)
  have e2 : (nI (tk0 T (nx T s).2.2).2.1 = (2 : Int32)) ↔ (tk0 T (nx T s).2.2).2.1 = 2 := neq (b := 2) (by omega) (by omega)
  rw [if_neg (show ¬ (nx T s).1 ≠ 0 by omega), g6, e2]
  refine ⟨fun y => ⟨hT, tk0_bd gq, tk0_2 y, ⟨g7, g5⟩, fun y2 => ?_, fun y2 => ?_⟩, fun y => ?_⟩
  · rw [if_neg (show ¬ (tk0 T (nx T s).2.2).2.1 ≠ 2 by omega), if_pos (show nI lo ≤ nI (vlN T (nx T s)) ∧ nI (vlN T (nx T s)) ≤ nI hi from y2)]
    exact ⟨_, rfl, fun _ => rfl, z1, zf⟩
  · rw [if_neg (show ¬ (tk0 T (nx T s).2.2).2.1 ≠ 2 by omega), if_neg (show ¬ (nI lo ≤ nI (vlN T (nx T s)) ∧ nI (vlN T (nx T s)) ≤ nI hi) from y2)]
    have k := z1.rf q (w := 3) (by omega)
    exact ⟨_, rfl, fun _ => rfl, k.1, zf.tr k.2⟩
  · rw [if_pos y]
    have k := z1.rf q (w := 2) (by omega)
    refine ⟨_, rfl, fun w => ?_, k.1, zf.tr k.2⟩
    unfold rf at w
    rw [if_neg (show ¬ (nx T s).1 ≠ 0 by omega)] at w
    exact absurd (show (2 : Nat) = 0 from w) (by decide)
