set_option maxRecDepth 100000 in
theorem sX6_byteAt_0 {G : GX} {d : Nat} {mem : Mem} {Φ : Option Value → Mem → Prop} (a1 : Int32) (h : (((mem 40 4) ≤ a1 → Φ (some (.int (-4))) mem) ∧ (¬ (mem 40 4) ≤ a1 → (vp_in a1 160) ∧ Φ (some (.int (mem 43 (a1 : Int32).toNatClampNeg))) mem))) : Go G (d + 0) mX6_byteAt 0 [(0, .ref 40), (1, .int a1)] [] mem Φ := by
  refine go_iload_n dX6_byteAt_0 1 rfl ?_
  refine go_aload_n dX6_byteAt_1 0 rfl ?_
  refine go_getI (kf := 4) rfl rfl rfl uwX6 (by decide) flX6_54 dX6_byteAt_2 ?_
  refine go_icmp_ge 17 dX6_byteAt_5 (by decide) (fun q => ?_) (fun q => ?_)
  · have h := h.1 q
    refine go_bipush (v := (-4)) dX6_byteAt_17 (by decide) ?_
    exact go_iret rfl dX6_byteAt_19 h
  · have h := h.2 q
    refine go_aload_n dX6_byteAt_8 0 rfl ?_
    refine go_getR (kf := 3) (t := 43) rfl rfl rfl uwX6 (by decide) flX6_16 dX6_byteAt_9 ?_
    refine go_iload_n dX6_byteAt_12 1 rfl ?_
    obtain ⟨c1, h⟩ := h
    refine go_iaload rfl c1 dX6_byteAt_13 ?_
    refine go_goto 19 dX6_byteAt_14 (by decide) ?_
    exact go_iret rfl dX6_byteAt_19 h

set_option maxRecDepth 100000 in
theorem sX6_fails_0 {G : GX} {d : Nat} {mem : Mem} {Φ : Option Value → Mem → Prop} (a1 : Int32) (h : ((¬ (mem 40 6) = 0 → Φ none mem) ∧ ((mem 40 6) = 0 → ∀ m1 : Mem, m1 = (um (um mem 40 6 a1) 40 7 ((um mem 40 6 a1) 40 9)) → Φ none m1))) : Go G (d + 0) mX6_fails 0 [(0, .ref 40), (1, .int a1)] [] mem Φ := by
  refine go_aload_n dX6_fails_0 0 rfl ?_
  refine go_getI (kf := 6) rfl rfl rfl uwX6 (by decide) flX6_57 dX6_fails_1 ?_
  refine go_if_ne 20 dX6_fails_4 (by decide) (fun q => ?_) (fun q => ?_)
  · have h := h.1 q
    exact go_vret rfl dX6_fails_20 h
  · have h := h.2 q
    refine go_aload_n dX6_fails_7 0 rfl ?_
    refine go_iload_n dX6_fails_8 1 rfl ?_
    refine go_putI (kf := 6) rfl rfl rfl uwX6 tyX6_ok nmX6 (by decide) rfl flX6_57 rfl rfl dX6_fails_9 ?_
    refine go_aload_n dX6_fails_12 0 rfl ?_
    refine go_aload_n dX6_fails_13 0 rfl ?_
    refine go_getI (kf := 9) rfl rfl rfl uwX6 (by decide) flX6_60 dX6_fails_14 ?_
    refine go_putI (kf := 7) rfl rfl rfl uwX6 tyX6_ok nmX6 (by decide) rfl flX6_63 rfl rfl dX6_fails_17 ?_
    refine go_mem (fun m1 qm1 => ?_)
    have h := h m1 qm1
    exact go_vret rfl dX6_fails_20 h


def byI (T : Tp) (p : Nat) : Int32 := if T.1 ≤ p then -4 else nI (T.2 p)
theorem kX6_byteAt {G : GX} (d : Nat) {mem : Mem} (a : Int32) (p : Nat) (T : Tp) (e : a = nI p) (hp : p ≤ 200) (hT : TpM mem T) : Cn G (d + 0) mX6_byteAt [.ref 40, .int a] mem (Ri (byI T p) (fun m2 => m2 = mem)) := by
  have h160 := hT.1
  rw [e]
  refine cn_of (by decide +kernel) (Nat.le_of_ble_eq_true rfl) (sX6_byteAt_0 _ ?_)
  rw [hT.2.1, nle (by omega) (by omega), ncl (show p < 2000000000 by omega)]
  unfold byI
  refine ⟨fun z => Ri.mk (by rw [if_pos z]) rfl, fun z => ⟨nin (by omega) (by omega), Ri.mk ?_ rfl⟩⟩
  rw [if_neg z]
  exact (hT.2.2 p (by omega)).2
theorem kX6_fails {G : GX} (d : Nat) {mem : Mem} (w : Int32) (h : mem 40 6 = 0) : Cn G (d + 0) mX6_fails [.ref 40, .int w] mem (Rv (fun m2 => m2 = um (um mem 40 6 w) 40 7 (mem 40 9))) :=
  cn_of (by decide +kernel) (Nat.le_of_ble_eq_true rfl) (sX6_fails_0 w ⟨fun z => absurd h z, fun _ m1 e => ⟨rfl, by rw [e, um_at, if_neg (by decide)]⟩⟩)
theorem kX6_failsF {G : GX} (d : Nat) {mem : Mem} (w : Int32) (h : ¬ mem 40 6 = 0) : Cn G (d + 0) mX6_fails [.ref 40, .int w] mem (Rv (fun m2 => m2 = mem)) :=
  cn_of (by decide +kernel) (Nat.le_of_ble_eq_true rfl) (sX6_fails_0 w ⟨fun _ => ⟨rfl, rfl⟩, fun z => absurd z h⟩)
theorem by_in {T : Tp} {p lo hi : Nat} (hT : ∀ i, i < T.1 → T.2 i ≤ 127) (hl : lo ≤ 200) (hh : hi ≤ 200) : (nI lo ≤ byI T p ∧ byI T p ≤ nI hi) ↔ (p < T.1 ∧ lo ≤ T.2 p ∧ T.2 p ≤ hi) := by
  unfold byI
  by_cases q : T.1 ≤ p
  · rw [if_pos q]
    refine ⟨fun z => ?_, fun z => by omega⟩
    have h0 : (0 : Int32) ≤ -4 := Int32.le_trans (nI_pos' (n := lo) (by omega)) z.1
    exact absurd h0 (by decide)
  · rw [if_neg q]
    have := hT p (by omega)
    rw [nle (by omega) (by omega), nle (by omega) (by omega)]
    exact ⟨fun z => ⟨by omega, z⟩, fun z => z.2⟩
theorem by_eq {T : Tp} {p c : Nat} (hT : ∀ i, i < T.1 → T.2 i ≤ 127) (hc : c ≤ 200) : byI T p = nI c ↔ (p < T.1 ∧ T.2 p = c) := by
  unfold byI
  by_cases q : T.1 ≤ p
  · rw [if_pos q]
    refine ⟨fun z => ?_, fun z => by omega⟩
    have h0 : (0 : Int32) ≤ nI c := nI_pos' (by omega)
    rw [← z] at h0
    exact absurd h0 (by decide)
  · rw [if_neg q]
    have := hT p (by omega)
    rw [neq (by omega) (by omega)]
    exact ⟨fun z => ⟨by omega, z⟩, fun z => z.2⟩
theorem by_no {T : Tp} {p : Nat} (hT : ∀ i, i < T.1 → T.2 i ≤ 127) : byI T p = -4 ↔ T.1 ≤ p := by
  unfold byI
  by_cases q : T.1 ≤ p
  · rw [if_pos q]; exact ⟨fun _ => q, fun _ => rfl⟩
  · rw [if_neg q]
    have := hT p (by omega)
    refine ⟨fun z => ?_, fun z => absurd z q⟩
    have h0 : (0 : Int32) ≤ nI (T.2 p) := nI_pos' (by omega)
    rw [z] at h0
    exact absurd h0 (by decide)

set_option maxRecDepth 100000 in
theorem sX6_step_0 {G : GX} {d : Nat} {mem : Mem} {Φ : Option Value → Mem → Prop}  (h : (((mem 40 6) ≤ 0 → Go G (d + 1) mX6_step 8 [(0, .ref 40)] [] mem Φ) ∧ (¬ (mem 40 6) ≤ 0 → Φ none mem))) : Go G (d + 1) mX6_step 0 [(0, .ref 40)] [] mem Φ := by
  refine go_aload_n dX6_step_0 0 rfl ?_
  refine go_getI (kf := 6) rfl rfl rfl uwX6 (by decide) flX6_57 dX6_step_1 ?_
  refine go_if_le 8 dX6_step_4 (by decide) (fun q => ?_) (fun q => ?_)
  · have h := h.1 q
    exact Go.pick [0] rfl h
  · have h := h.2 q
    exact go_vret rfl dX6_step_7 h

set_option maxRecDepth 100000 in
theorem sX6_step_8 {G : GX} {d : Nat} {mem : Mem} {Φ : Option Value → Mem → Prop} (p : Nat) (T : Tp) (h : ((mem 40 8) = nI p) ∧ (p ≤ 200) ∧ (TpM mem T) ∧ ((¬ (byI T p) = 32 → Go G (d + 1) mX6_step 34 [(0, .ref 40)] [] mem Φ) ∧ ((byI T p) = 32 → Go G (d + 1) mX6_step 8 [(0, .ref 40)] [] (um mem 40 8 ((mem 40 8) + 1)) Φ))) : Go G (d + 1) mX6_step 8 [(0, .ref 40)] [] mem Φ := by
  refine go_aload_n dX6_step_8 0 rfl ?_
  refine go_aload_n dX6_step_9 0 rfl ?_
  refine go_getI (kf := 8) rfl rfl rfl uwX6 (by decide) flX6_69 dX6_step_10 ?_
  obtain ⟨c1, h⟩ := h
  obtain ⟨c2, h⟩ := h
  obtain ⟨c3, h⟩ := h
  refine go_callV (st := []) (kX6_byteAt (d + 0) (mem 40 8) p T c1 c2 c3) rfl rfl okX6_byteAt insX6_byteAt selX6_byteAt lkX6_72 rfl rfl (Nat.le_of_ble_eq_true rfl) dX6_step_13 (fun v_ m2_ q => ?_)
  rw [q.1, q.2]
  refine go_stk (st2 := [.int (byI T p)]) rfl ?_
  refine go_bipush (v := 32) dX6_step_16 (by decide) ?_
  refine go_icmp_ne 34 dX6_step_18 (by decide) (fun q => ?_) (fun q => ?_)
  · have h := h.1 q
    exact Go.pick [0] rfl h
  · have h := h.2 q
    refine go_aload_n dX6_step_21 0 rfl ?_
    refine go_dup dX6_step_22 rfl ?_
    refine go_getI (kf := 8) rfl rfl rfl uwX6 (by decide) flX6_69 dX6_step_23 ?_
    refine go_iconst (v := 1) dX6_step_26 (by decide) ?_
    refine go_iadd dX6_step_27 ?_
    refine go_putI (kf := 8) rfl rfl rfl uwX6 tyX6_ok nmX6 (by decide) rfl flX6_69 rfl rfl dX6_step_28 ?_
    refine go_goto 8 dX6_step_31 (by decide) ?_
    exact Go.pick [0] rfl h

set_option maxRecDepth 100000 in
theorem sX6_step_34 {G : GX} {d : Nat} {mem : Mem} {Φ : Option Value → Mem → Prop} (p : Nat) (T : Tp) (h : (((um mem 40 9 (mem 40 8)) 40 8) = nI p) ∧ (p ≤ 200) ∧ (TpM (um mem 40 9 (mem 40 8)) T) ∧ ∀ y4 : Int32, y4 = (byI T p) → ((¬ y4 = (-4) → ((¬ (97 ≤ y4 ∧ y4 ≤ 122) → ((¬ (48 ≤ y4 ∧ y4 ≤ 57) → ∀ m5 : Mem, m5 = (um (um (um mem 40 9 (mem 40 8)) 40 11 0) 40 10 3) → ((y4 = 59 → Φ none (um m5 40 8 ((m5 40 8) + 1))) ∧ (¬ y4 = 59 → ((um m5 40 8 ((m5 40 8) + 1)) 40 6 = 0) ∧ ∀ m7 : Mem, m7 = (um (um (um m5 40 8 ((m5 40 8) + 1)) 40 6 1) 40 7 ((um m5 40 8 ((m5 40 8) + 1)) 40 9)) → Φ none m7))) ∧ ((48 ≤ y4 ∧ y4 ≤ 57) → Go G (d + 1) mX6_step 140 [(0, .ref 40)] [] (um (um mem 40 9 (mem 40 8)) 40 11 0) Φ))) ∧ ((97 ≤ y4 ∧ y4 ≤ 122) → Go G (d + 1) mX6_step 84 [(0, .ref 40)] [] (um (um mem 40 9 (mem 40 8)) 40 11 0) Φ))) ∧ (y4 = (-4) → ∀ m8 : Mem, m8 = (um (um (um mem 40 9 (mem 40 8)) 40 11 0) 40 10 0) → Φ none m8))) : Go G (d + 1) mX6_step 34 [(0, .ref 40)] [] mem Φ := by
  refine go_aload_n dX6_step_34 0 rfl ?_
  refine go_aload_n dX6_step_35 0 rfl ?_
  refine go_getI (kf := 8) rfl rfl rfl uwX6 (by decide) flX6_69 dX6_step_36 ?_
  refine go_putI (kf := 9) rfl rfl rfl uwX6 tyX6_ok nmX6 (by decide) rfl flX6_60 rfl rfl dX6_step_39 ?_
  refine go_aload_n dX6_step_42 0 rfl ?_
  refine go_aload_n dX6_step_43 0 rfl ?_
  refine go_getI (kf := 8) rfl rfl rfl uwX6 (by decide) flX6_69 dX6_step_44 ?_
  obtain ⟨c1, h⟩ := h
  obtain ⟨c2, h⟩ := h
  obtain ⟨c3, h⟩ := h
  refine go_callV (st := []) (kX6_byteAt (d + 0) ((um mem 40 9 (mem 40 8)) 40 8) p T c1 c2 c3) rfl rfl okX6_byteAt insX6_byteAt selX6_byteAt lkX6_72 rfl rfl (Nat.le_of_ble_eq_true rfl) dX6_step_47 (fun v_ m2_ q => ?_)
  rw [q.1, q.2]
  refine go_stk (st2 := [.int (byI T p)]) rfl ?_
  refine go_topi (fun y4 qy4 => ?_)
  have h := h y4 qy4
  refine go_istore_n (L2 := [(1, .int y4), (0, .ref 40)]) dX6_step_50 (by decide) rfl ?_
  refine go_aload_n dX6_step_51 1 rfl ?_
  refine go_iconst (v := 0) dX6_step_52 (by decide) ?_
  refine go_putI (kf := 11) rfl rfl rfl uwX6 tyX6_ok nmX6 (by decide) rfl flX6_76 rfl rfl dX6_step_53 ?_
  refine go_iload_n dX6_step_56 0 rfl ?_
  refine go_bipush (v := (-4)) dX6_step_57 (by decide) ?_
  refine go_icmp_ne 70 dX6_step_59 (by decide) (fun q => ?_) (fun q => ?_)
  · have h := h.1 q
    refine go_iload_n dX6_step_70 0 rfl ?_
    refine go_i2l dX6_step_71 ?_
    refine go_ldc2 klX6_79 dX6_step_72 ?_
    refine go_ldc2 klX6_81 dX6_step_75 ?_
    refine go_callS (st := []) (kX6_in (d + 0) y4 97 122 97 122 (by decide) (by decide)) okX6_in staX6_in lkX6_50 rfl rfl (Nat.le_of_ble_eq_true rfl) dX6_step_78 (fun v_ m2_ q => ?_)
    rw [q.1, q.2]
    refine go_stk (st2 := [.int (bI (97 ≤ y4 ∧ y4 ≤ 122))]) rfl ?_
    refine go_if_eq 126 dX6_step_81 (by decide) (fun q => ?_) (fun q => ?_)
    · have h := h.1 (bI0.mp q)
      refine go_iload_n dX6_step_126 0 rfl ?_
      refine go_i2l dX6_step_127 ?_
      refine go_ldc2 klX6_83 dX6_step_128 ?_
      refine go_ldc2 klX6_85 dX6_step_131 ?_
      refine go_callS (st := []) (kX6_in (d + 0) y4 48 57 48 57 (by decide) (by decide)) okX6_in staX6_in lkX6_50 rfl rfl (Nat.le_of_ble_eq_true rfl) dX6_step_134 (fun v_ m2_ q => ?_)
      rw [q.1, q.2]
      refine go_stk (st2 := [.int (bI (48 ≤ y4 ∧ y4 ≤ 57))]) rfl ?_
      refine go_if_eq 243 dX6_step_137 (by decide) (fun q => ?_) (fun q => ?_)
      · have h := h.1 (bI0.mp q)
        refine go_aload_n dX6_step_243 1 rfl ?_
        refine go_iconst (v := 3) dX6_step_244 (by decide) ?_
        refine go_putI (kf := 10) rfl rfl rfl uwX6 tyX6_ok nmX6 (by decide) rfl flX6_66 rfl rfl dX6_step_245 ?_
        refine go_mem (fun m5 qm5 => ?_)
        have h := h m5 qm5
        refine go_aload_n dX6_step_248 1 rfl ?_
        refine go_dup dX6_step_249 rfl ?_
        refine go_getI (kf := 8) rfl rfl rfl uwX6 (by decide) flX6_69 dX6_step_250 ?_
        refine go_iconst (v := 1) dX6_step_253 (by decide) ?_
        refine go_iadd dX6_step_254 ?_
        refine go_putI (kf := 8) rfl rfl rfl uwX6 tyX6_ok nmX6 (by decide) rfl flX6_69 rfl rfl dX6_step_255 ?_
        refine go_iload_n dX6_step_258 0 rfl ?_
        refine go_bipush (v := 59) dX6_step_259 (by decide) ?_
        refine go_icmp_eq 269 dX6_step_261 (by decide) (fun q => ?_) (fun q => ?_)
        · have h := h.1 q
          exact go_vret rfl dX6_step_269 h
        · have h := h.2 q
          refine go_aload_n dX6_step_264 1 rfl ?_
          refine go_iconst (v := 1) dX6_step_265 (by decide) ?_
          obtain ⟨c6, h⟩ := h
          refine go_callV (st := []) (kX6_fails (d + 0) 1 c6) rfl rfl okX6_fails insX6_fails selX6_fails lkX6_87 rfl rfl (Nat.le_of_ble_eq_true rfl) dX6_step_266 (fun v_ m2_ q => ?_)
          rw [q.1, q.2]
          refine go_stk (st2 := []) rfl ?_
          refine go_mem (fun m7 qm7 => ?_)
          have h := h m7 qm7
          exact go_vret rfl dX6_step_269 h
      · have h := h.2 (bI1.mp q)
        exact Go.pick [1] rfl h
    · have h := h.2 (bI1.mp q)
      exact Go.pick [1] rfl h
  · have h := h.2 q
    refine go_aload_n dX6_step_62 1 rfl ?_
    refine go_iconst (v := 0) dX6_step_63 (by decide) ?_
    refine go_putI (kf := 10) rfl rfl rfl uwX6 tyX6_ok nmX6 (by decide) rfl flX6_66 rfl rfl dX6_step_64 ?_
    refine go_mem (fun m8 qm8 => ?_)
    have h := h m8 qm8
    refine go_goto 269 dX6_step_67 (by decide) ?_
    exact go_vret rfl dX6_step_269 h

set_option maxRecDepth 100000 in
theorem sX6_step_84 {G : GX} {d : Nat} {mem : Mem} {Φ : Option Value → Mem → Prop} (p : Nat) (T : Tp) (h : ((mem 40 8) = nI p) ∧ (p ≤ 200) ∧ (TpM mem T) ∧ ((¬ (97 ≤ (byI T p) ∧ (byI T p) ≤ 122) → Go G (d + 1) mX6_step 118 [(0, .ref 40)] [] mem Φ) ∧ ((97 ≤ (byI T p) ∧ (byI T p) ≤ 122) → Go G (d + 1) mX6_step 84 [(0, .ref 40)] [] (um mem 40 8 ((mem 40 8) + 1)) Φ))) : Go G (d + 1) mX6_step 84 [(0, .ref 40)] [] mem Φ := by
  refine go_aload_n dX6_step_84 0 rfl ?_
  refine go_aload_n dX6_step_85 0 rfl ?_
  refine go_getI (kf := 8) rfl rfl rfl uwX6 (by decide) flX6_69 dX6_step_86 ?_
  obtain ⟨c1, h⟩ := h
  obtain ⟨c2, h⟩ := h
  obtain ⟨c3, h⟩ := h
  refine go_callV (st := []) (kX6_byteAt (d + 0) (mem 40 8) p T c1 c2 c3) rfl rfl okX6_byteAt insX6_byteAt selX6_byteAt lkX6_72 rfl rfl (Nat.le_of_ble_eq_true rfl) dX6_step_89 (fun v_ m2_ q => ?_)
  rw [q.1, q.2]
  refine go_stk (st2 := [.int (byI T p)]) rfl ?_
  refine go_i2l dX6_step_92 ?_
  refine go_ldc2 klX6_79 dX6_step_93 ?_
  refine go_ldc2 klX6_81 dX6_step_96 ?_
  refine go_callS (st := []) (kX6_in (d + 0) (byI T p) 97 122 97 122 (by decide) (by decide)) okX6_in staX6_in lkX6_50 rfl rfl (Nat.le_of_ble_eq_true rfl) dX6_step_99 (fun v_ m2_ q => ?_)
  rw [q.1, q.2]
  refine go_stk (st2 := [.int (bI (97 ≤ (byI T p) ∧ (byI T p) ≤ 122))]) rfl ?_
  refine go_if_eq 118 dX6_step_102 (by decide) (fun q => ?_) (fun q => ?_)
  · have h := h.1 (bI0.mp q)
    exact Go.pick [0] rfl h
  · have h := h.2 (bI1.mp q)
    refine go_aload_n dX6_step_105 0 rfl ?_
    refine go_dup dX6_step_106 rfl ?_
    refine go_getI (kf := 8) rfl rfl rfl uwX6 (by decide) flX6_69 dX6_step_107 ?_
    refine go_iconst (v := 1) dX6_step_110 (by decide) ?_
    refine go_iadd dX6_step_111 ?_
    refine go_putI (kf := 8) rfl rfl rfl uwX6 tyX6_ok nmX6 (by decide) rfl flX6_69 rfl rfl dX6_step_112 ?_
    refine go_goto 84 dX6_step_115 (by decide) ?_
    exact Go.pick [0] rfl h

set_option maxRecDepth 100000 in
theorem sX6_step_118 {G : GX} {d : Nat} {mem : Mem} {Φ : Option Value → Mem → Prop} (p : Nat) (T : Tp) (h : Φ none (um mem 40 10 1)) : Go G (d + 1) mX6_step 118 [(0, .ref 40)] [] mem Φ := by
  refine go_aload_n dX6_step_118 0 rfl ?_
  refine go_iconst (v := 1) dX6_step_119 (by decide) ?_
  refine go_putI (kf := 10) rfl rfl rfl uwX6 tyX6_ok nmX6 (by decide) rfl flX6_66 rfl rfl dX6_step_120 ?_
  refine go_goto 269 dX6_step_123 (by decide) ?_
  exact go_vret rfl dX6_step_269 h

set_option maxRecDepth 100000 in
theorem sX6_step_140 {G : GX} {d : Nat} {mem : Mem} {Φ : Option Value → Mem → Prop} (p : Nat) (T : Tp) (h : ((mem 40 8) = nI p) ∧ (p ≤ 200) ∧ (TpM mem T) ∧ ((¬ (48 ≤ (byI T p) ∧ (byI T p) ≤ 57) → Go G (d + 1) mX6_step 217 [(0, .ref 40)] [] mem Φ) ∧ ((48 ≤ (byI T p) ∧ (byI T p) ≤ 57) → ((2 ≤ ((mem 40 8) - (mem 40 9)) → ∀ m4 : Mem, m4 = (um (um mem 40 11 (mem 40 11)) 40 8 (((um mem 40 11 (mem 40 11)) 40 8) + 1)) → Go G (d + 1) mX6_step 140 [(0, .ref 40)] [] m4 Φ) ∧ (¬ 2 ≤ ((mem 40 8) - (mem 40 9)) → ∀ m5 : Mem, m5 = (um mem 40 11 (((10 * (mem 40 11)) + (byI T p)) - 48)) → Go G (d + 1) mX6_step 140 [(0, .ref 40)] [] (um m5 40 8 ((m5 40 8) + 1)) Φ))))) : Go G (d + 1) mX6_step 140 [(0, .ref 40)] [] mem Φ := by
  refine go_aload_n dX6_step_140 0 rfl ?_
  refine go_aload_n dX6_step_141 0 rfl ?_
  refine go_getI (kf := 8) rfl rfl rfl uwX6 (by decide) flX6_69 dX6_step_142 ?_
  obtain ⟨c1, h⟩ := h
  obtain ⟨c2, h⟩ := h
  obtain ⟨c3, h⟩ := h
  refine go_callV (st := []) (kX6_byteAt (d + 0) (mem 40 8) p T c1 c2 c3) rfl rfl okX6_byteAt insX6_byteAt selX6_byteAt lkX6_72 rfl rfl (Nat.le_of_ble_eq_true rfl) dX6_step_145 (fun v_ m2_ q => ?_)
  rw [q.1, q.2]
  refine go_stk (st2 := [.int (byI T p)]) rfl ?_
  refine go_i2l dX6_step_148 ?_
  refine go_ldc2 klX6_83 dX6_step_149 ?_
  refine go_ldc2 klX6_85 dX6_step_152 ?_
  refine go_callS (st := []) (kX6_in (d + 0) (byI T p) 48 57 48 57 (by decide) (by decide)) okX6_in staX6_in lkX6_50 rfl rfl (Nat.le_of_ble_eq_true rfl) dX6_step_155 (fun v_ m2_ q => ?_)
  rw [q.1, q.2]
  refine go_stk (st2 := [.int (bI (48 ≤ (byI T p) ∧ (byI T p) ≤ 57))]) rfl ?_
  refine go_if_eq 217 dX6_step_158 (by decide) (fun q => ?_) (fun q => ?_)
  · have h := h.1 (bI0.mp q)
    exact Go.pick [0] rfl h
  · have h := h.2 (bI1.mp q)
    refine go_aload_n dX6_step_161 0 rfl ?_
    refine go_aload_n dX6_step_162 0 rfl ?_
    refine go_getI (kf := 8) rfl rfl rfl uwX6 (by decide) flX6_69 dX6_step_163 ?_
    refine go_aload_n dX6_step_166 0 rfl ?_
    refine go_getI (kf := 9) rfl rfl rfl uwX6 (by decide) flX6_60 dX6_step_167 ?_
    refine go_isub dX6_step_170 ?_
    refine go_iconst (v := 2) dX6_step_171 (by decide) ?_
    refine go_icmp_ge 197 dX6_step_172 (by decide) (fun q => ?_) (fun q => ?_)
    · have h := h.1 q
      refine go_aload_n dX6_step_197 0 rfl ?_
      refine go_getI (kf := 11) rfl rfl rfl uwX6 (by decide) flX6_76 dX6_step_198 ?_
      refine go_putI (kf := 11) rfl rfl rfl uwX6 tyX6_ok nmX6 (by decide) rfl flX6_76 rfl rfl dX6_step_201 ?_
      refine go_aload_n dX6_step_204 0 rfl ?_
      refine go_dup dX6_step_205 rfl ?_
      refine go_getI (kf := 8) rfl rfl rfl uwX6 (by decide) flX6_69 dX6_step_206 ?_
      refine go_iconst (v := 1) dX6_step_209 (by decide) ?_
      refine go_iadd dX6_step_210 ?_
      refine go_putI (kf := 8) rfl rfl rfl uwX6 tyX6_ok nmX6 (by decide) rfl flX6_69 rfl rfl dX6_step_211 ?_
      refine go_mem (fun m4 qm4 => ?_)
      have h := h m4 qm4
      refine go_goto 140 dX6_step_214 (by decide) ?_
      exact Go.pick [0] rfl h
    · have h := h.2 q
      refine go_bipush (v := 10) dX6_step_175 (by decide) ?_
      refine go_aload_n dX6_step_177 0 rfl ?_
      refine go_getI (kf := 11) rfl rfl rfl uwX6 (by decide) flX6_76 dX6_step_178 ?_
      refine go_imul dX6_step_181 ?_
      refine go_aload_n dX6_step_182 0 rfl ?_
      refine go_aload_n dX6_step_183 0 rfl ?_
      refine go_getI (kf := 8) rfl rfl rfl uwX6 (by decide) flX6_69 dX6_step_184 ?_
      refine go_callV (st := [.int (10 * (mem 40 11)), .ref 40]) (kX6_byteAt (d + 0) (mem 40 8) p T c1 c2 c3) rfl rfl okX6_byteAt insX6_byteAt selX6_byteAt lkX6_72 rfl rfl (Nat.le_of_ble_eq_true rfl) dX6_step_187 (fun v_ m2_ q => ?_)
      rw [q.1, q.2]
      refine go_stk (st2 := [.int (byI T p), .int (10 * (mem 40 11)), .ref 40]) rfl ?_
      refine go_iadd dX6_step_190 ?_
      refine go_bipush (v := 48) dX6_step_191 (by decide) ?_
      refine go_isub dX6_step_193 ?_
      refine go_goto 201 dX6_step_194 (by decide) ?_
      refine go_putI (kf := 11) rfl rfl rfl uwX6 tyX6_ok nmX6 (by decide) rfl flX6_76 rfl rfl dX6_step_201 ?_
      refine go_mem (fun m5 qm5 => ?_)
      have h := h m5 qm5
      refine go_aload_n dX6_step_204 0 rfl ?_
      refine go_dup dX6_step_205 rfl ?_
      refine go_getI (kf := 8) rfl rfl rfl uwX6 (by decide) flX6_69 dX6_step_206 ?_
      refine go_iconst (v := 1) dX6_step_209 (by decide) ?_
      refine go_iadd dX6_step_210 ?_
      refine go_putI (kf := 8) rfl rfl rfl uwX6 tyX6_ok nmX6 (by decide) rfl flX6_69 rfl rfl dX6_step_211 ?_
      refine go_goto 140 dX6_step_214 (by decide) ?_
      exact Go.pick [0] rfl h

set_option maxRecDepth 100000 in
theorem sX6_step_217 {G : GX} {d : Nat} {mem : Mem} {Φ : Option Value → Mem → Prop} (p : Nat) (T : Tp) (h : (((((um mem 40 10 2) 40 8) - ((um mem 40 10 2) 40 9)) ≤ 2 → Φ none (um mem 40 10 2)) ∧ (¬ (((um mem 40 10 2) 40 8) - ((um mem 40 10 2) 40 9)) ≤ 2 → ((um mem 40 10 2) 40 6 = 0) ∧ ∀ m2 : Mem, m2 = (um (um (um mem 40 10 2) 40 6 1) 40 7 ((um mem 40 10 2) 40 9)) → Φ none m2))) : Go G (d + 1) mX6_step 217 [(0, .ref 40)] [] mem Φ := by
  refine go_aload_n dX6_step_217 0 rfl ?_
  refine go_iconst (v := 2) dX6_step_218 (by decide) ?_
  refine go_putI (kf := 10) rfl rfl rfl uwX6 tyX6_ok nmX6 (by decide) rfl flX6_66 rfl rfl dX6_step_219 ?_
  refine go_aload_n dX6_step_222 0 rfl ?_
  refine go_getI (kf := 8) rfl rfl rfl uwX6 (by decide) flX6_69 dX6_step_223 ?_
  refine go_aload_n dX6_step_226 0 rfl ?_
  refine go_getI (kf := 9) rfl rfl rfl uwX6 (by decide) flX6_60 dX6_step_227 ?_
  refine go_isub dX6_step_230 ?_
  refine go_iconst (v := 2) dX6_step_231 (by decide) ?_
  refine go_icmp_le 269 dX6_step_232 (by decide) (fun q => ?_) (fun q => ?_)
  · have h := h.1 q
    exact go_vret rfl dX6_step_269 h
  · have h := h.2 q
    refine go_aload_n dX6_step_235 0 rfl ?_
    refine go_iconst (v := 1) dX6_step_236 (by decide) ?_
    obtain ⟨c1, h⟩ := h
    refine go_callV (st := []) (kX6_fails (d + 0) 1 c1) rfl rfl okX6_fails insX6_fails selX6_fails lkX6_87 rfl rfl (Nat.le_of_ble_eq_true rfl) dX6_step_237 (fun v_ m2_ q => ?_)
    rw [q.1, q.2]
    refine go_stk (st2 := []) rfl ?_
    refine go_mem (fun m2 qm2 => ?_)
    have h := h m2 qm2
    refine go_goto 269 dX6_step_240 (by decide) ?_
    exact go_vret rfl dX6_step_269 h


def NxM (T : Tp) (q : Nat) (m m2 : Mem) : Prop := (∀ k, k ≠ 40 → m2 k = m k) ∧ (∀ j, (j < 6 ∨ 11 < j) → m2 40 j = m 40 j) ∧ ((tk0 T q).2.2 = false → m2 40 6 = 0 ∧ m2 40 9 = nI q ∧ m2 40 8 = nI (tk0 T q).1 ∧ m2 40 10 = nI (tk0 T q).2.1 ∧ ((tk0 T q).2.1 = 2 → m2 40 11 = nI (nmF T.2 q ((tk0 T q).1 - q)))) ∧ ((tk0 T q).2.2 = true → m2 40 6 = 1 ∧ m2 40 7 = nI q)
theorem TpM.by {m : Mem} {T : Tp} (h : TpM m T) : ∀ i, i < T.1 → T.2 i ≤ 127 := fun i hi => (h.2.2 i hi).1
theorem lX6_st84 {G : GX} {d : Nat} {Φ : Option Value → Mem → Prop} {mem0 : Mem} (T : Tp) (hT : TpM mem0 T) : ∀ (r p : Nat) (m : Mem), p + r = T.1 → m = um mem0 40 8 (nI p) → Φ none (um (um mem0 40 8 (nI (rnT T 97 122 p))) 40 10 1) → Go G (d + 1) mX6_step 84 [(0, .ref 40)] [] m Φ := by
  intro r
  have h160 := hT.1
  induction r with
  | zero =>
    intro p m hp e k
    have hT' : TpM m T := hT.fr (by rw [e, um_at, if_neg (by decide)]) (by rw [e, um_ne (by decide)])
    refine sX6_step_84 p T ⟨by rw [e, um_same], by omega, hT', fun _ => sX6_step_118 p T ?_, fun z => ?_⟩
    · rw [e]; rw [rnT_out (Or.inl (by omega))] at k; exact k
    · have := (by_in (lo := 97) (hi := 122) hT.by (by omega) (by omega)).mp z
      omega
  | succ r ih =>
    intro p m hp e k
    have hT' : TpM m T := hT.fr (by rw [e, um_at, if_neg (by decide)]) (by rw [e, um_ne (by decide)])
    have e8 : m 40 8 = nI p := by rw [e, um_same]
    refine sX6_step_84 p T ⟨e8, by omega, hT', fun z => sX6_step_118 p T ?_, fun z => ?_⟩
    · rw [e]
      rw [rnT_out (Or.inr (fun w => z ((by_in (lo := 97) (hi := 122) hT.by (by omega) (by omega)).mpr ⟨by omega, w⟩)))] at k
      exact k
    · have w := (by_in (lo := 97) (hi := 122) hT.by (by omega) (by omega)).mp z
      rw [rnT_in (by omega) w.2] at k
      rw [e8, nI_1]
      exact ih (p + 1) _ (by omega) (by rw [e, um_um]) k
