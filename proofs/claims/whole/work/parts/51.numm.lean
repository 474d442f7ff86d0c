set_option maxRecDepth 100000 in
theorem sX6_number_0 {G : GX} {d : Nat} {mem : Mem} {Φ : Option Value → Mem → Prop} (a1 a2 : Int32) (T : Tp) (s : Rs) (h : ((¬ (mem 40 6) = 0 → Go G (d + 2) mX6_number 20 [(0, .ref 40), (1, .int a1), (2, .int a2)] [] mem Φ) ∧ ((mem 40 6) = 0 → (((mem 40 10) = 2 → Go G (d + 2) mX6_number 20 [(0, .ref 40), (1, .int a1), (2, .int a2)] [] mem Φ) ∧ (¬ (mem 40 10) = 2 → (mem 40 6 = 0) ∧ Go G (d + 2) mX6_number 20 [(0, .ref 40), (1, .int a1), (2, .int a2)] [] (um (um mem 40 6 2) 40 7 (mem 40 9)) Φ))))) : Go G (d + 2) mX6_number 0 [(0, .ref 40), (1, .int a1), (2, .int a2)] [] mem Φ := by
  refine go_aload_n dX6_number_0 0 rfl ?_
  refine go_getI (kf := 6) rfl rfl rfl uwX6 (by decide) flX6_57 dX6_number_1 ?_
  refine go_if_ne 20 dX6_number_4 (by decide) (fun q => ?_) (fun q => ?_)
  · have h := h.1 q
    exact Go.pick [0, 1, 2] rfl h
  · have h := h.2 q
    refine go_aload_n dX6_number_7 0 rfl ?_
    refine go_getI (kf := 10) rfl rfl rfl uwX6 (by decide) flX6_66 dX6_number_8 ?_
    refine go_iconst (v := 2) dX6_number_11 (by decide) ?_
    refine go_icmp_eq 20 dX6_number_12 (by decide) (fun q => ?_) (fun q => ?_)
    · have h := h.1 q
      exact Go.pick [0, 1, 2] rfl h
    · have h := h.2 q
      refine go_aload_n dX6_number_15 0 rfl ?_
      refine go_iconst (v := 2) dX6_number_16 (by decide) ?_
      obtain ⟨c1, h⟩ := h
      refine go_callV (st := []) (kX6_fails (d + 1) 2 c1) rfl rfl okX6_fails insX6_fails selX6_fails lkX6_87 rfl rfl (Nat.le_of_ble_eq_true rfl) dX6_number_17 (fun v_ m2_ q => ?_)
      rw [q.1, q.2]
      refine go_stk (st2 := []) rfl ?_
      exact Go.pick [0, 1, 2] rfl h

set_option maxRecDepth 100000 in
theorem sX6_number_20 {G : GX} {d : Nat} {mem : Mem} {Φ : Option Value → Mem → Prop} (a1 a2 : Int32) (T : Tp) (s : Rs) (h : ((¬ (mem 40 6) = 0 → Go G (d + 2) mX6_number 47 [(0, .ref 40), (1, .int a1), (2, .int a2)] [] mem Φ) ∧ ((mem 40 6) = 0 → (((a1 ≤ (mem 40 11) ∧ (mem 40 11) ≤ a2) → Go G (d + 2) mX6_number 47 [(0, .ref 40), (1, .int a1), (2, .int a2)] [] mem Φ) ∧ (¬ (a1 ≤ (mem 40 11) ∧ (mem 40 11) ≤ a2) → (mem 40 6 = 0) ∧ Go G (d + 2) mX6_number 47 [(0, .ref 40), (1, .int a1), (2, .int a2)] [] (um (um mem 40 6 3) 40 7 (mem 40 9)) Φ))))) : Go G (d + 2) mX6_number 20 [(0, .ref 40), (1, .int a1), (2, .int a2)] [] mem Φ := by
  refine go_aload_n dX6_number_20 0 rfl ?_
  refine go_getI (kf := 6) rfl rfl rfl uwX6 (by decide) flX6_57 dX6_number_21 ?_
  refine go_if_ne 47 dX6_number_24 (by decide) (fun q => ?_) (fun q => ?_)
  · have h := h.1 q
    exact Go.pick [0, 1, 2] rfl h
  · have h := h.2 q
    refine go_aload_n dX6_number_27 0 rfl ?_
    refine go_getI (kf := 11) rfl rfl rfl uwX6 (by decide) flX6_76 dX6_number_28 ?_
    refine go_i2l dX6_number_31 ?_
    refine go_iload_n dX6_number_32 1 rfl ?_
    refine go_i2l dX6_number_33 ?_
    refine go_iload_n dX6_number_34 2 rfl ?_
    refine go_i2l dX6_number_35 ?_
    refine go_callS (st := []) (kX6_in (d + 1) (mem 40 11) a1 a2 ((a1 : Int32).toInt64) ((a2 : Int32).toInt64) rfl rfl) okX6_in staX6_in lkX6_50 rfl rfl (Nat.le_of_ble_eq_true rfl) dX6_number_36 (fun v_ m2_ q => ?_)
    rw [q.1, q.2]
    refine go_stk (st2 := [.int (bI (a1 ≤ (mem 40 11) ∧ (mem 40 11) ≤ a2))]) rfl ?_
    refine go_if_ne 47 dX6_number_39 (by decide) (fun q => ?_) (fun q => ?_)
    · have h := h.1 (bI1.mp q)
      exact Go.pick [0, 1, 2] rfl h
    · have h := h.2 (bI0.mp q)
      refine go_aload_n dX6_number_42 0 rfl ?_
      refine go_iconst (v := 3) dX6_number_43 (by decide) ?_
      obtain ⟨c1, h⟩ := h
      refine go_callV (st := []) (kX6_fails (d + 1) 3 c1) rfl rfl okX6_fails insX6_fails selX6_fails lkX6_87 rfl rfl (Nat.le_of_ble_eq_true rfl) dX6_number_44 (fun v_ m2_ q => ?_)
      rw [q.1, q.2]
      refine go_stk (st2 := []) rfl ?_
      exact Go.pick [0, 1, 2] rfl h

set_option maxRecDepth 100000 in
theorem sX6_number_47 {G : GX} {d : Nat} {mem : Mem} {Φ : Option Value → Mem → Prop} (a1 a2 : Int32) (T : Tp) (s : Rs) (h : ((¬ (mem 40 6) = 0 → (RsM T s mem) ∧ ∀ m2 : Mem, (RsM T (nx T s) m2 ∧ FrK mem m2) → Φ (some (.int a1)) m2) ∧ ((mem 40 6) = 0 → ∀ y3 : Int32, y3 = (mem 40 11) → (RsM T s mem) ∧ ∀ m5 : Mem, (RsM T (nx T s) m5 ∧ FrK mem m5) → Φ (some (.int y3)) m5))) : Go G (d + 2) mX6_number 47 [(0, .ref 40), (1, .int a1), (2, .int a2)] [] mem Φ := by
  refine go_aload_n dX6_number_47 0 rfl ?_
  refine go_getI (kf := 6) rfl rfl rfl uwX6 (by decide) flX6_57 dX6_number_48 ?_
  refine go_if_ne 61 dX6_number_51 (by decide) (fun q => ?_) (fun q => ?_)
  · have h := h.1 q
    refine go_iload_n dX6_number_61 1 rfl ?_
    refine go_istore_n (L2 := [(3, .int a1), (0, .ref 40), (1, .int a1), (2, .int a2)]) dX6_number_62 (by decide) rfl ?_
    refine go_aload_n dX6_number_63 1 rfl ?_
    obtain ⟨c1, h⟩ := h
    refine go_callV (st := []) (kX6_nx (d + 0) T s c1) rfl rfl okX6_step insX6_step selX6_step lkX6_91 rfl rfl (Nat.le_of_ble_eq_true rfl) dX6_number_64 (fun v_ m2 q => ?_)
    rw [q.1]
    have h := h m2 q.2
    refine go_stk (st2 := []) rfl ?_
    refine go_iload_n dX6_number_67 0 rfl ?_
    exact go_iret rfl dX6_number_68 h
  · have h := h.2 q
    refine go_aload_n dX6_number_54 0 rfl ?_
    refine go_getI (kf := 11) rfl rfl rfl uwX6 (by decide) flX6_76 dX6_number_55 ?_
    refine go_goto 62 dX6_number_58 (by decide) ?_
    refine go_topi (fun y3 qy3 => ?_)
    have h := h y3 qy3
    refine go_istore_n (L2 := [(3, .int y3), (0, .ref 40), (1, .int a1), (2, .int a2)]) dX6_number_62 (by decide) rfl ?_
    refine go_aload_n dX6_number_63 1 rfl ?_
    obtain ⟨c4, h⟩ := h
    refine go_callV (st := []) (kX6_nx (d + 0) T s c4) rfl rfl okX6_step insX6_step selX6_step lkX6_91 rfl rfl (Nat.le_of_ble_eq_true rfl) dX6_number_64 (fun v_ m5 q => ?_)
    rw [q.1]
    have h := h m5 q.2
    refine go_stk (st2 := []) rfl ?_
    refine go_iload_n dX6_number_67 0 rfl ?_
    exact go_iret rfl dX6_number_68 h

theorem RsM.rf {T : Tp} {s : Rs} {m : Mem} (h : RsM T s m) (h0 : s.1 = 0) {w : Nat} (hw : 1 ≤ w ∧ w ≤ 5) : RsM T (rf s w) (um (um m 40 6 (nI w)) 40 7 (m 40 9)) ∧ FrK m (um (um m 40 6 (nI w)) 40 7 (m 40 9)) := by
  obtain ⟨hT, h5, h2, h3, h4⟩ := h
  obtain ⟨g9, _⟩ := h4 h0
  have f : FrK m (um (um m 40 6 (nI w)) 40 7 (m 40 9)) := (FrK.rf.um (by omega)).um (by omega)
  refine ⟨?_, f⟩
  unfold _root_.Jvm.Pilot.CBeamClocksLaw_law_r3607_f1c867.rf
  rw [if_neg (by omega)]
  refine ⟨hT.fk f, hw.2, ?_, fun _ => ?_, fun z => ?_⟩
  · rw [um_at, if_neg (by decide), um_same]
  · rw [um_same]; exact g9
  · have z : w = 0 := z
    omega
theorem kX6_number {G : GX} (d : Nat) {mem : Mem} (a1 a2 : Int32) (lo hi : Nat) (T : Tp) (s : Rs) (e : a1 = nI lo ∧ a2 = nI hi) (h : RsM T s mem) : Cn G (d + 2) mX6_number [.ref 40, .int a1, .int a2] mem (fun v m2 => ∃ w, v = some (.int w) ∧ ((ck T lo hi s).1 = 0 → w = nI (vlN T s)) ∧ RsM T (nx T (ck T lo hi s)) m2 ∧ FrK mem m2) := by
  rw [e.1, e.2]
  have k47 : ∀ (m : Mem) (t : Rs), t = ck T lo hi s → RsM T t m → FrK mem m → (t.1 = 0 → m 40 11 = nI (vlN T s)) → Go G (d + 2) mX6_number 47 [(0, .ref 40), (1, .int (nI lo)), (2, .int (nI hi))] [] m (fun v m2 => ∃ w, v = some (.int w) ∧ ((ck T lo hi s).1 = 0 → w = nI (vlN T s)) ∧ RsM T (nx T (ck T lo hi s)) m2 ∧ FrK mem m2) := fun m t et ht f hv => by
    subst et
    have h5 := ht.2.1
    refine sX6_number_47 _ _ T _ ⟨fun q => ⟨ht, fun m2 z => ⟨_, rfl, fun y => ?_, z.1, f.tr z.2⟩⟩, fun q y3 e3 => ⟨ht, fun m2 z => ⟨_, rfl, fun y => ?_, z.1, f.tr z.2⟩⟩⟩
    · rw [ht.2.2.1, (nI05 h5).1] at q
      exact absurd y q
    · rw [e3]; exact hv y
  have h5 := h.2.1
  have h6 := h.2.2.1
  refine cn_of (by decide +kernel) (Nat.le_of_ble_eq_true rfl) (sX6_number_0 _ _ T s ?_)
  rw [h6, (nI05 h5).1]
  refine ⟨fun q => ?_, fun q => ?_⟩
  · have ec : ck T lo hi s = s := by unfold ck; rw [if_pos q]
    refine sX6_number_20 _ _ T s ?_
    rw [h6, (nI05 h5).1]
    exact ⟨fun _ => k47 mem s ec.symm h FrK.rf (fun z => absurd z q), fun z => absurd z q⟩
  · obtain ⟨g9, g8, g10, g11, gb, gq⟩ := h.2.2.2.2 q
    have hs := tk0_s (T := T) (q := s.2.2)
    have e2 : (nI (tk0 T s.2.2).2.1 = (2 : Int32)) ↔ (tk0 T s.2.2).2.1 = 2 := neq (b := 2) (by omega) (by omega)
    rw [g10, e2]
    refine ⟨fun y => ?_, fun y => ⟨by first | exact h6.trans (by rw [q]; rfl) | (rw [q]; done) | (rw [q]), ?_⟩⟩
    · refine sX6_number_20 _ _ T s ?_
      rw [h6, (nI05 h5).1, g11 y]
      refine ⟨fun z => absurd q z, fun _ => ⟨fun y2 => ?_, fun y2 => ⟨by first | exact h6.trans (by rw [q]; rfl) | (rw [q]; done) | (rw [q]), ?_⟩⟩⟩
      · have ec : ck T lo hi s = s := by
          unfold ck; rw [if_neg (show ¬ s.1 ≠ 0 by omega), if_neg (show ¬ (tk0 T s.2.2).2.1 ≠ 2 by omega), if_pos (show nI lo ≤ nI (vlN T s) ∧ nI (vlN T s) ≤ nI hi from y2)]
        exact k47 mem s ec.symm h FrK.rf (fun _ => g11 y)
      · have ec : ck T lo hi s = rf s 3 := by
          unfold ck; rw [if_neg (show ¬ s.1 ≠ 0 by omega), if_neg (show ¬ (tk0 T s.2.2).2.1 ≠ 2 by omega), if_neg (show ¬ (nI lo ≤ nI (vlN T s) ∧ nI (vlN T s) ≤ nI hi) from y2)]
        have r := h.rf q (w := 3) (by omega)
        refine k47 _ (rf s 3) ec.symm r.1 r.2 (fun z => ?_)
        unfold rf at z
        rw [if_neg (show ¬ s.1 ≠ 0 by omega)] at z
        exact absurd (show (3 : Nat) = 0 from z) (by decide)
    · have ec : ck T lo hi s = rf s 2 := by
        unfold ck; rw [if_neg (show ¬ s.1 ≠ 0 by omega), if_pos y]
      have r := h.rf q (w := 2) (by omega)
      have n2 : ¬ (um (um mem 40 6 (nI 2)) 40 7 (mem 40 9)) 40 6 = 0 := by
        rw [um_at, if_neg (by decide), um_same]; decide
      refine sX6_number_20 _ _ T (rf s 2) ⟨fun _ => k47 _ (rf s 2) ec.symm r.1 r.2 (fun z => ?_), fun z => absurd z n2⟩
      unfold rf at z
      rw [if_neg (show ¬ s.1 ≠ 0 by omega)] at z
      exact absurd (show (2 : Nat) = 0 from z) (by decide)
