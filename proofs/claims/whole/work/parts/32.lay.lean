
theorem nI_sub1 {n : Nat} (h : 0 < n) : (nI n - 1 : Int32) = nI (n - 1) := by
  obtain ⟨k, rfl⟩ : ∃ k, n = k + 1 := ⟨n - 1, by omega⟩
  rw [← nI_1, Int32.add_sub_cancel]; rfl
theorem b_31 {x : Int32} : btI x 31 = x.toBitVec.msb := by unfold btI; rw [BitVec.msb_eq_getLsbD_last]
theorem byteI (x : Int32) : ((x <<< (24 &&& 31)) >>> (24 &&& 31) : Int32) = x.toInt8.toInt32 := by
  refine b_ext (fun i hi => ?_)
  rw [show (24 : Int32) = nI 24 from rfl, b_sshr 24 (by omega) _ hi]
  show _ = (BitVec.signExtend 32 (BitVec.signExtend 8 x.toBitVec)).getLsbD i
  simp only [BitVec.msb_eq_getLsbD_last, BitVec.getLsbD_signExtend]
  by_cases q : i < 8
  · rw [if_pos (by omega), b_shl 24 (by omega) _ (by omega)]
    simp [q, hi, btI, show i < 32 by omega]
  · rw [if_neg (by omega), b_shl 24 (by omega) _ (by omega)]
    simp [q, hi, btI]
theorem shortI (x : Int32) : ((x <<< (16 &&& 31)) >>> (16 &&& 31) : Int32) = x.toInt16.toInt32 := by
  refine b_ext (fun i hi => ?_)
  rw [show (16 : Int32) = nI 16 from rfl, b_sshr 16 (by omega) _ hi]
  show _ = (BitVec.signExtend 32 (BitVec.signExtend 16 x.toBitVec)).getLsbD i
  simp only [BitVec.msb_eq_getLsbD_last, BitVec.getLsbD_signExtend]
  by_cases q : i < 16
  · rw [if_pos (by omega), b_shl 16 (by omega) _ (by omega)]
    simp [q, hi, btI, show i < 32 by omega]
  · rw [if_neg (by omega), b_shl 16 (by omega) _ (by omega)]
    simp [q, hi, btI]
theorem flt_nI {l cn : Nat} {i : Int32} (hl : l ≤ 2) (hc : cn ≤ 40) : fltI (nI l) (nI cn) i = 0 ∧ (∃ j, j < cn ∧ i = nI j) ∨ fltI (nI l) (nI cn) i = 2 ∧ ¬ (0 ≤ i ∧ i ≤ nI cn - 1) ∧ (0 ≤ i → ∃ j, i = nI j ∧ j < 2147483648 ∧ cn ≤ j) := by
  have hl1 : ¬ (nI l = (-1 : Int32)) := fun e => by
    rcases (show l = 0 ∨ l = 1 ∨ l = 2 by omega) with rfl | rfl | rfl <;> exact absurd e (by decide)
  unfold fltI
  rw [if_neg hl1]
  by_cases q : i < 0
  · rw [if_pos q]
    exact Or.inr ⟨rfl, fun z => absurd (fa_of_lt q).2.1 (fun w => w z.1), fun z => absurd z (fa_of_lt q).2.1⟩
  · rw [if_neg q]
    obtain ⟨j, hj, rfl⟩ := nI_of q
    by_cases q2 : nI j < nI cn
    · rw [if_pos q2]
      exact Or.inl ⟨rfl, j, (nI_ltI hj (by omega)).mp q2, rfl⟩
    · rw [if_neg q2]
      rw [nI_ltI hj (by omega)] at q2
      refine Or.inr ⟨rfl, fun z => ?_, fun _ => ⟨j, rfl, hj, by omega⟩⟩
      rcases Nat.eq_zero_or_pos cn with e | e
      · subst e
        exact absurd (Int32.le_trans z.1 z.2) (by decide)
      · have e2 : (nI cn - 1 : Int32) = nI (cn - 1) := nI_sub1 e
        rw [e2, nI_leI hj (by omega)] at z
        omega
set_option maxHeartbeats 4000000 in
theorem P34 {G : GX} (a i v : Int32) : Sm G mX5_lay mX6_lay [.int a, .int i, .int v] := fun mem hI => by
  obtain ⟨X, T, S, h1, h2, h3, h4, h5, h6, h7⟩ := id hI
  refine cn_of (by decide +kernel) (Nat.le_of_ble_eq_true rfl) (sX5_lay_0 (d := 8) a i v ?_)
  rw [lt4]
  refine ⟨fun q => ?_, fun q => ?_⟩
  · obtain ⟨k, hk, rfl⟩ := i300 (n := 3) rfl (by omega) q
    obtain ⟨sa, sS⟩ := sht_at (show k < 4 by omega)
    rw [ncl (show k < 2000000000 by omega)]
    refine ⟨nin (by omega) (by omega), 31 + 2 * k, ⟨sa, sS⟩, fun y5 e5 => ?_⟩
    rcases h6 k (by omega) with ⟨w1, w2⟩ | ⟨ln, cn, w1, w2, w3, w4, w5, w6, w7⟩
    · have e : y5 = 1 := by rw [e5, w1]; unfold fltI; rw [if_pos rfl]
      subst e
      refine ⟨fun z => absurd z (by decide), fun _ => cn_of (by decide +kernel) (Nat.le_of_ble_eq_true rfl) (sX6_lay_0 (d := 8) (nI k) i v ⟨fun _ => ?_, fun z => absurd q z⟩)⟩
      rw [ncl (show k < 2000000000 by omega), w2]
      exact ⟨nin (by omega) (by omega), fun z => absurd rfl z, fun _ => ⟨by decide, hI⟩⟩
    · rw [w3, w5] at e5
      have lnn : ¬ (nI ln = (-4 : Int32)) := fun e => by
        rcases (show ln = 0 ∨ ln = 1 ∨ ln = 2 by omega) with rfl | rfl | rfl <;> exact absurd e (by decide)
      rcases flt_nI (i := i) w1 w2 with ⟨u1, j, hj, rfl⟩ | ⟨u1, u2, _⟩
      · rw [u1] at e5
        subst e5
        rw [ncl (show j < 2000000000 by omega)]
        refine ⟨fun _ => ⟨31 + 2 * k, ⟨sa, sS⟩, nin (by omega) (by omega), fun m1 e1 => ?_⟩, fun z => absurd rfl z⟩
        rw [show laneI (mem (31 + 2 * k) 1) v = laneI (nI ln) v by rw [w3]] at e1
        have e49 : m1 49 = mem 49 := by rw [e1, um_ne (by omega)]
        have e50 : m1 50 = mem 50 := by rw [e1, um_ne (by omega)]
        obtain ⟨qe, qv⟩ := q40 (show k < 4 by omega) (show j < 40 by omega)
        refine cn_of (by decide +kernel) (Nat.le_of_ble_eq_true rfl) (sX6_lay_0 (d := 8) (nI k) (nI j) v ⟨fun _ => ?_, fun z => absurd q z⟩)
        rw [ncl (show k < 2000000000 by omega), e49, e50, w4, w6, qe]
        have fin : ∀ m2 : Mem, m2 = um m1 51 (40 * k + j) (laneI (nI ln) v) → Inv m2 := fun m2 e2 => by
          refine hI.shts (fun x a b c e => by rw [e2, um_ne e, e1, um_ne (by omega)]) (fun x hx => ?_)
          by_cases z : x = k
          · subst z
            refine Or.inr ⟨ln, cn, w1, w2, ?_, ?_, ?_, ?_, fun y hy => ?_⟩
            · rw [e2, um_ne (by omega), e1, um_ne (by omega)]; exact w3
            · rw [e2, um_ne (by omega), e49]; exact w4
            · rw [e2, um_ne (by omega), e1, um_ne (by omega)]; exact w5
            · rw [e2, um_ne (by omega), e50]; exact w6
            · rw [e2, um_ne (by omega), um_at, e1, show 31 + 2 * x + 1 = 32 + 2 * x by omega, um_at, um_ne (by omega)]
              by_cases zz : y = j
              · rw [if_pos zz, if_pos (by omega)]
              · rw [if_neg zz, if_neg (by omega)]; exact w7 y hy
          · refine (h6 x hx).fr ?_ ?_ ?_ ?_ (fun y hy => ?_)
            · rw [e2, um_ne (by omega), e1, um_ne (by omega)]
            · rw [e2, um_ne (by omega), e1, um_ne (by omega)]
            · rw [e2, um_ne (by omega), e49]
            · rw [e2, um_ne (by omega), e50]
            · rw [e2, um_at, if_neg (by omega), e1, um_ne (by omega)]
        refine ⟨nin (by omega) (by omega), fun _ => ⟨fun _ => ⟨fun l0 => ⟨fun l1 => ⟨qv, fun m2 e2 => ⟨rfl, fin m2 ?_⟩⟩, fun l1 => ⟨qv, fun m2 e2 => ⟨rfl, fin m2 ?_⟩⟩⟩, fun l0 => ⟨qv, fun m2 e2 => ⟨rfl, fin m2 ?_⟩⟩⟩, fun z => ?_⟩, fun z => absurd z lnn⟩
        · rw [e2]; unfold laneI; rw [if_neg l0, if_neg l1]
        · rw [e2, shortI]; unfold laneI; rw [if_neg l0, if_pos l1]
        · rw [e2, byteI]; unfold laneI; rw [if_pos l0]
        · refine absurd ?_ z
          rw [nI_sub1 (show 0 < cn by omega)]
          exact ⟨nI_pos' (by omega), (nI_leI (by omega) (by omega)).mpr (by omega)⟩
      · rw [u1] at e5
        subst e5
        refine ⟨fun z => absurd z (by decide), fun _ => cn_of (by decide +kernel) (Nat.le_of_ble_eq_true rfl) (sX6_lay_0 (d := 8) (nI k) i v ⟨fun _ => ?_, fun z => absurd q z⟩)⟩
        rw [ncl (show k < 2000000000 by omega), w4, w6]
        exact ⟨nin (by omega) (by omega), fun _ => ⟨fun z => absurd z u2, fun _ => ⟨by decide, hI⟩⟩, fun z => absurd z lnn⟩
  · exact cn_of (by decide +kernel) (Nat.le_of_ble_eq_true rfl) (sX6_lay_0 (d := 8) a i v ⟨fun z => absurd z q, fun _ => ⟨rfl, hI⟩⟩)

set_option maxRecDepth 100000 in
theorem sX5_imagesKept_0 {G : GX} {d : Nat} {mem : Mem} {Φ : Option Value → Mem → Prop}  (h : Go G (d + 0) mX5_imagesKept 4 [(0, .ref 0), (1, .int 0), (2, .int 0)] [] mem Φ) : Go G (d + 0) mX5_imagesKept 0 [(0, .ref 0)] [] mem Φ := by
  refine go_iconst (v := 0) dX5_imagesKept_0 (by decide) ?_
  refine go_istore_n (L2 := [(1, .int 0), (0, .ref 0)]) dX5_imagesKept_1 (by decide) rfl ?_
  refine go_iconst (v := 0) dX5_imagesKept_2 (by decide) ?_
  refine go_istore_n (L2 := [(2, .int 0), (1, .int 0), (0, .ref 0)]) dX5_imagesKept_3 (by decide) rfl ?_
  exact Go.pick [2, 1, 0] rfl h

set_option maxRecDepth 100000 in
theorem sX5_imagesKept_4 {G : GX} {d : Nat} {mem : Mem} {Φ : Option Value → Mem → Prop} (s : Int32) (k : Nat) (h : ((2 ≤ (nI k) → Φ (some (.int s)) mem) ∧ (¬ 2 ≤ (nI k) → (vp_in (nI k) 2) ∧ (((mem 22 ((nI k) : Int32).toNatClampNeg) = 0 → Go G (d + 0) mX5_imagesKept 4 [(0, .ref 0), (1, .int (s + 0)), (2, .int ((nI k) + 1))] [] mem Φ) ∧ (¬ (mem 22 ((nI k) : Int32).toNatClampNeg) = 0 → Go G (d + 0) mX5_imagesKept 4 [(0, .ref 0), (1, .int (s + 1)), (2, .int ((nI k) + 1))] [] mem Φ))))) : Go G (d + 0) mX5_imagesKept 4 [(0, .ref 0), (1, .int s), (2, .int (nI k))] [] mem Φ := by
  refine go_iload_n dX5_imagesKept_4 2 rfl ?_
  refine go_iconst (v := 2) dX5_imagesKept_5 (by decide) ?_
  refine go_icmp_ge 32 dX5_imagesKept_6 (by decide) (fun q => ?_) (fun q => ?_)
  · have h := h.1 q
    refine go_iload_n dX5_imagesKept_32 1 rfl ?_
    exact go_iret rfl dX5_imagesKept_33 h
  · have h := h.2 q
    refine go_iload_n dX5_imagesKept_9 1 rfl ?_
    refine go_aload_n dX5_imagesKept_10 0 rfl ?_
    refine go_getR (kf := 3) (t := 22) rfl rfl rfl uwX5 (by decide) flX5_23 dX5_imagesKept_11 ?_
    refine go_iload_n dX5_imagesKept_14 2 rfl ?_
    obtain ⟨c1, h⟩ := h
    refine go_zaload rfl c1 dX5_imagesKept_15 ?_
    refine go_if_eq 23 dX5_imagesKept_16 (by decide) (fun q => ?_) (fun q => ?_)
    · have h := h.1 q
      refine go_iconst (v := 0) dX5_imagesKept_23 (by decide) ?_
      refine go_iadd dX5_imagesKept_24 ?_
      refine go_istore_n (L2 := [(1, .int (s + 0)), (0, .ref 0), (2, .int (nI k))]) dX5_imagesKept_25 (by decide) rfl ?_
      refine go_iinc (v := ((nI k) + 1)) (L2 := [(2, .int ((nI k) + 1)), (1, .int (s + 0)), (0, .ref 0)]) dX5_imagesKept_26 2 rfl rfl (by decide) rfl ?_
      refine go_goto 4 dX5_imagesKept_29 (by decide) ?_
      exact Go.pick [2, 1, 0] rfl h
    · have h := h.2 q
      refine go_iconst (v := 1) dX5_imagesKept_19 (by decide) ?_
      refine go_goto 24 dX5_imagesKept_20 (by decide) ?_
      refine go_iadd dX5_imagesKept_24 ?_
      refine go_istore_n (L2 := [(1, .int (s + 1)), (0, .ref 0), (2, .int (nI k))]) dX5_imagesKept_25 (by decide) rfl ?_
      refine go_iinc (v := ((nI k) + 1)) (L2 := [(2, .int ((nI k) + 1)), (1, .int (s + 1)), (0, .ref 0)]) dX5_imagesKept_26 2 rfl rfl (by decide) rfl ?_
      refine go_goto 4 dX5_imagesKept_29 (by decide) ?_
      exact Go.pick [2, 1, 0] rfl h


theorem kX5_imagesKept {G : GX} (d : Nat) {mem : Mem} : Cn G (d + 0) mX5_imagesKept [.ref 0] mem (Ri (bI (¬ mem 22 0 = 0) + bI (¬ mem 22 1 = 0)) (fun m2 => m2 = mem)) := by
  have s2 : ∀ s : Int32, s = bI (¬ mem 22 0 = 0) + bI (¬ mem 22 1 = 0) → Go G (d + 0) mX5_imagesKept 4 [(0, .ref 0), (1, .int s), (2, .int (nI 2))] [] mem (Ri (bI (¬ mem 22 0 = 0) + bI (¬ mem 22 1 = 0)) (fun m2 => m2 = mem)) := fun s e => sX5_imagesKept_4 s 2 ⟨fun _ => Ri.mk e rfl, fun z => absurd (by decide) z⟩
  have s1 : ∀ s : Int32, s = bI (¬ mem 22 0 = 0) → Go G (d + 0) mX5_imagesKept 4 [(0, .ref 0), (1, .int s), (2, .int (nI 1))] [] mem (Ri (bI (¬ mem 22 0 = 0) + bI (¬ mem 22 1 = 0)) (fun m2 => m2 = mem)) := fun s e => sX5_imagesKept_4 s 1 ⟨fun z => absurd z (by decide), fun _ => ⟨nin (by omega) (by omega), by
    rw [ncl (show 1 < 2000000000 by omega), nI_1]
    exact ⟨fun q => s2 _ (by rw [e, show bI (¬ mem 22 1 = 0) = 0 from bIf (fun z => z q)]), fun q => s2 _ (by rw [e, show bI (¬ mem 22 1 = 0) = 1 from bIt q])⟩⟩⟩
  refine cn_of (by decide +kernel) (Nat.le_of_ble_eq_true rfl) (sX5_imagesKept_0 (sX5_imagesKept_4 0 0 ⟨fun z => absurd z (by decide), fun _ => ⟨nin (by omega) (by omega), ?_⟩⟩))
  rw [ncl (show 0 < 2000000000 by omega), nI_1]
  exact ⟨fun q => s1 _ (by rw [bIf (fun z => z q)]; decide), fun q => s1 _ (by rw [bIt q]; decide)⟩

set_option maxRecDepth 100000 in
theorem sX5_count_0 {G : GX} {d : Nat} {mem : Mem} {Φ : Option Value → Mem → Prop} (a1 : Int32) (X : Bm) (h : ((a1 = 0 → Φ (some (.int (mem 25 3))) mem) ∧ (¬ a1 = 0 → ((a1 = 1 → Φ (some (.int (bI (¬ mem 22 0 = 0) + bI (¬ mem 22 1 = 0)))) mem) ∧ (¬ a1 = 1 → ((a1 = 2 → Φ (some (.int (mem 23 1))) mem) ∧ (¬ a1 = 2 → ((a1 = 3 → ∃ t1 : Nat, (([31, 33, 35, 37] : List Nat)[(0 : Int32).toNatClampNeg]? = some t1 ∧ SheetAt t1) ∧ ((¬ (mem t1 1) = (-1) → ∃ t4 : Nat, (([31, 33, 35, 37] : List Nat)[(0 : Int32).toNatClampNeg]? = some t4 ∧ SheetAt t4) ∧ Φ (some (.int (mem t4 2))) mem) ∧ ((mem t1 1) = (-1) → Φ (some (.int (-4))) mem))) ∧ (¬ a1 = 3 → ((a1 = 4 → (xn X ≤ 5) ∧ (mem 1 4 = nI (xn X)) ∧ (∀ c, c < xn X → mem 3 c = nI ((xp X) c)) ∧ Φ (some (.int (nI (smF (xp X) (xn X))))) mem) ∧ (¬ a1 = 4 → ((a1 = 5 → (xn X ≤ 5) ∧ (mem 1 4 = nI (xn X)) ∧ (∀ c, c < xn X → mem 2 c = nI ((xk X) c)) ∧ Φ (some (.int (nI (smF (xk X) (xn X))))) mem) ∧ (¬ a1 = 5 → Φ (some (.int (-1))) mem))))))))))))) : Go G (d + 1) mX5_count 0 [(0, .ref 0), (1, .int a1)] [] mem Φ := by
  refine go_iload_n dX5_count_0 1 rfl ?_
  by_cases q0 : a1 = 0
  · have h := h.1 q0
    refine go_tabEq q0 40 dX5_count_1 (by decide) (by decide) rfl (by decide) ?_
    refine go_aload_n dX5_count_40 0 rfl ?_
    refine go_getR (kf := 5) (t := 25) rfl rfl rfl uwX5 (by decide) flX5_37 dX5_count_41 ?_
    refine go_getI (kf := 3) rfl rfl rfl uwX3 (by decide) flX5_90 dX5_count_44 ?_
    exact go_iret rfl dX5_count_47 h
  have h := h.2 q0
  by_cases q1 : a1 = 1
  · have h := h.1 q1
    refine go_tabEq q1 48 dX5_count_1 (by decide) (by decide) rfl (by decide) ?_
    refine go_aload_n dX5_count_48 0 rfl ?_
    refine go_callV (st := []) (kX5_imagesKept (d + 0) ) rfl rfl okX5_imagesKept insX5_imagesKept selX5_imagesKept lkX5_264 rfl rfl (Nat.le_of_ble_eq_true rfl) dX5_count_49 (fun v_ m2_ q => ?_)
    rw [q.1, q.2]
    refine go_stk (st2 := [.int (bI (¬ mem 22 0 = 0) + bI (¬ mem 22 1 = 0))]) rfl ?_
    exact go_iret rfl dX5_count_52 h
  have h := h.2 q1
  by_cases q2 : a1 = 2
  · have h := h.1 q2
    refine go_tabEq q2 53 dX5_count_1 (by decide) (by decide) rfl (by decide) ?_
    refine go_aload_n dX5_count_53 0 rfl ?_
    refine go_getR (kf := 4) (t := 23) rfl rfl rfl uwX5 (by decide) flX5_30 dX5_count_54 ?_
    refine go_getI (kf := 1) rfl rfl rfl uwX2 (by decide) flX5_63 dX5_count_57 ?_
    exact go_iret rfl dX5_count_60 h
  have h := h.2 q2
  by_cases q3 : a1 = 3
  · have h := h.1 q3
    refine go_tabEq q3 61 dX5_count_1 (by decide) (by decide) rfl (by decide) ?_
    refine go_aload_n dX5_count_61 0 rfl ?_
    refine go_getR (kf := 6) (t := 29) rfl rfl rfl uwX5 (by decide) flX5_43 dX5_count_62 ?_
    refine go_iconst (v := 0) dX5_count_65 (by decide) ?_
    obtain ⟨t1, ⟨e2, hb3⟩, h⟩ := h
    refine go_aaload rfl (nin (a := 0) (by decide) (by decide)) e2 dX5_count_66 ?_
    refine go_getI (kf := 1) hb3.1 rfl rfl uwX4 (by decide) flX5_267 dX5_count_67 ?_
    refine go_iconst (v := (-1)) dX5_count_70 (by decide) ?_
    refine go_icmp_ne 79 dX5_count_71 (by decide) (fun q => ?_) (fun q => ?_)
    · have h := h.1 q
      refine go_aload_n dX5_count_79 0 rfl ?_
      refine go_getR (kf := 6) (t := 29) rfl rfl rfl uwX5 (by decide) flX5_43 dX5_count_80 ?_
      refine go_iconst (v := 0) dX5_count_83 (by decide) ?_
      obtain ⟨t4, ⟨e5, hb6⟩, h⟩ := h
      refine go_aaload rfl (nin (a := 0) (by decide) (by decide)) e5 dX5_count_84 ?_
      refine go_getI (kf := 2) hb6.1 rfl rfl uwX4 (by decide) flX5_270 dX5_count_85 ?_
      exact go_iret rfl dX5_count_88 h
    · have h := h.2 q
      refine go_bipush (v := (-4)) dX5_count_74 (by decide) ?_
      refine go_goto 88 dX5_count_76 (by decide) ?_
      exact go_iret rfl dX5_count_88 h
  have h := h.2 q3
  by_cases q4 : a1 = 4
  · have h := h.1 q4
    refine go_tabEq q4 89 dX5_count_1 (by decide) (by decide) rfl (by decide) ?_
    refine go_aload_n dX5_count_89 0 rfl ?_
    refine go_aload_n dX5_count_90 0 rfl ?_
    refine go_getR (kf := 0) (t := 1) rfl rfl rfl uwX5 (by decide) flX5_12 dX5_count_91 ?_
    refine go_getR (kf := 1) (t := 3) rfl rfl rfl uwX0 (by decide) flX5_130 dX5_count_94 ?_
    obtain ⟨c7, h⟩ := h
    obtain ⟨c8, h⟩ := h
    obtain ⟨c9, h⟩ := h
    refine go_callV (st := []) (kX5_sumOf (d + 0) 3 rfl (xp X) (xn X) c7 c8 c9) rfl rfl okX5_sumOf insX5_sumOf selX5_sumOf lkX5_108 rfl rfl (Nat.le_of_ble_eq_true rfl) dX5_count_97 (fun v_ m2_ q => ?_)
    rw [q.1, q.2]
    refine go_stk (st2 := [.int (nI (smF (xp X) (xn X)))]) rfl ?_
    exact go_iret rfl dX5_count_100 h
  have h := h.2 q4
  by_cases q5 : a1 = 5
  · have h := h.1 q5
    refine go_tabEq q5 101 dX5_count_1 (by decide) (by decide) rfl (by decide) ?_
    refine go_aload_n dX5_count_101 0 rfl ?_
    refine go_aload_n dX5_count_102 0 rfl ?_
    refine go_getR (kf := 0) (t := 1) rfl rfl rfl uwX5 (by decide) flX5_12 dX5_count_103 ?_
    refine go_getR (kf := 0) (t := 2) rfl rfl rfl uwX0 (by decide) flX5_127 dX5_count_106 ?_
    obtain ⟨c10, h⟩ := h
    obtain ⟨c11, h⟩ := h
    obtain ⟨c12, h⟩ := h
    refine go_callV (st := []) (kX5_sumOf (d + 0) 2 rfl (xk X) (xn X) c10 c11 c12) rfl rfl okX5_sumOf insX5_sumOf selX5_sumOf lkX5_108 rfl rfl (Nat.le_of_ble_eq_true rfl) dX5_count_109 (fun v_ m2_ q => ?_)
    rw [q.1, q.2]
    refine go_stk (st2 := [.int (nI (smF (xk X) (xn X)))]) rfl ?_
    exact go_iret rfl dX5_count_112 h
  have h := h.2 q5
  have e0 := neI q0 (z := 0) (by decide)
  have e1 := neI q1 (z := 1) (by decide)
  have e2 := neI q2 (z := 2) (by decide)
  have e3 := neI q3 (z := 3) (by decide)
  have e4 := neI q4 (z := 4) (by decide)
  have e5 := neI q5 (z := 5) (by decide)
  refine go_tabOut 113 dX5_count_1 (by omega) (by decide) ?_
  refine go_iconst (v := (-1)) dX5_count_113 (by decide) ?_
  exact go_iret rfl dX5_count_114 h

set_option maxRecDepth 100000 in
theorem sX6_count_0 {G : GX} {d : Nat} {mem : Mem} {Φ : Option Value → Mem → Prop} (a1 : Int32) (X : Bm) (h : ((a1 = 0 → Φ (some (.int (mem 40 19))) mem) ∧ (¬ a1 = 0 → ((a1 = 1 → (((mem 48 (0 : Int32).toNatClampNeg) = 0 → (((mem 48 (1 : Int32).toNatClampNeg) = 0 → Φ (some (.int (0 + 0))) mem) ∧ (¬ (mem 48 (1 : Int32).toNatClampNeg) = 0 → Φ (some (.int (0 + 1))) mem))) ∧ (¬ (mem 48 (0 : Int32).toNatClampNeg) = 0 → (((mem 48 (1 : Int32).toNatClampNeg) = 0 → Φ (some (.int (1 + 0))) mem) ∧ (¬ (mem 48 (1 : Int32).toNatClampNeg) = 0 → Φ (some (.int (1 + 1))) mem))))) ∧ (¬ a1 = 1 → ((a1 = 2 → Φ (some (.int (mem 40 4))) mem) ∧ (¬ a1 = 2 → ((a1 = 3 → ((¬ (mem 49 (0 : Int32).toNatClampNeg) = (-4) → Φ (some (.int (mem 50 (0 : Int32).toNatClampNeg))) mem) ∧ ((mem 49 (0 : Int32).toNatClampNeg) = (-4) → Φ (some (.int (-4))) mem))) ∧ (¬ a1 = 3 → ((a1 = 4 → (0 = nI 0 ∧ 5 = nI 5) ∧ (0 ≤ 115 ∧ 5 ≤ 15 ∧ xn X ≤ 5) ∧ (mem 41 (0 + 20) = nI (xn X)) ∧ (∀ c, c < xn X → mem 41 (0 + 5 + c) = nI ((xp X) c)) ∧ Φ (some (.int (nI (smF (xp X) (xn X))))) mem) ∧ (¬ a1 = 4 → ((a1 = 5 → (0 = nI 0 ∧ 0 = nI 0) ∧ (0 ≤ 115 ∧ 0 ≤ 15 ∧ xn X ≤ 5) ∧ (mem 41 (0 + 20) = nI (xn X)) ∧ (∀ c, c < xn X → mem 41 (0 + 0 + c) = nI ((xk X) c)) ∧ Φ (some (.int (nI (smF (xk X) (xn X))))) mem) ∧ (¬ a1 = 5 → Φ (some (.int (-1))) mem))))))))))))) : Go G (d + 1) mX6_count 0 [(0, .ref 40), (1, .int a1)] [] mem Φ := by
  refine go_iload_n dX6_count_0 1 rfl ?_
  by_cases q0 : a1 = 0
  · have h := h.1 q0
    refine go_tabEq q0 40 dX6_count_1 (by decide) (by decide) rfl (by decide) ?_
    refine go_aload_n dX6_count_40 0 rfl ?_
    refine go_getI (kf := 19) rfl rfl rfl uwX6 (by decide) flX6_117 dX6_count_41 ?_
    exact go_iret rfl dX6_count_44 h
  have h := h.2 q0
  by_cases q1 : a1 = 1
  · have h := h.1 q1
    refine go_tabEq q1 45 dX6_count_1 (by decide) (by decide) rfl (by decide) ?_
    refine go_aload_n dX6_count_45 0 rfl ?_
    refine go_getR (kf := 21) (t := 48) rfl rfl rfl uwX6 (by decide) flX6_35 dX6_count_46 ?_
    refine go_iconst (v := 0) dX6_count_49 (by decide) ?_
    refine go_zaload rfl (nin (a := 0) (by decide) (by decide)) dX6_count_50 ?_
    refine go_if_eq 58 dX6_count_51 (by decide) (fun q => ?_) (fun q => ?_)
    · have h := h.1 q
      refine go_iconst (v := 0) dX6_count_58 (by decide) ?_
      refine go_aload_n dX6_count_59 0 rfl ?_
      refine go_getR (kf := 21) (t := 48) rfl rfl rfl uwX6 (by decide) flX6_35 dX6_count_60 ?_
      refine go_iconst (v := 1) dX6_count_63 (by decide) ?_
      refine go_zaload rfl (nin (a := 1) (by decide) (by decide)) dX6_count_64 ?_
      refine go_if_eq 72 dX6_count_65 (by decide) (fun q => ?_) (fun q => ?_)
      · have h := h.1 q
        refine go_iconst (v := 0) dX6_count_72 (by decide) ?_
        refine go_iadd dX6_count_73 ?_
        exact go_iret rfl dX6_count_74 h
      · have h := h.2 q
        refine go_iconst (v := 1) dX6_count_68 (by decide) ?_
        refine go_goto 73 dX6_count_69 (by decide) ?_
        refine go_iadd dX6_count_73 ?_
        exact go_iret rfl dX6_count_74 h
    · have h := h.2 q
      refine go_iconst (v := 1) dX6_count_54 (by decide) ?_
      refine go_goto 59 dX6_count_55 (by decide) ?_
      refine go_aload_n dX6_count_59 0 rfl ?_
      refine go_getR (kf := 21) (t := 48) rfl rfl rfl uwX6 (by decide) flX6_35 dX6_count_60 ?_
      refine go_iconst (v := 1) dX6_count_63 (by decide) ?_
      refine go_zaload rfl (nin (a := 1) (by decide) (by decide)) dX6_count_64 ?_
      refine go_if_eq 72 dX6_count_65 (by decide) (fun q => ?_) (fun q => ?_)
      · have h := h.1 q
        refine go_iconst (v := 0) dX6_count_72 (by decide) ?_
        refine go_iadd dX6_count_73 ?_
        exact go_iret rfl dX6_count_74 h
      · have h := h.2 q
        refine go_iconst (v := 1) dX6_count_68 (by decide) ?_
        refine go_goto 73 dX6_count_69 (by decide) ?_
        refine go_iadd dX6_count_73 ?_
        exact go_iret rfl dX6_count_74 h
  have h := h.2 q1
  by_cases q2 : a1 = 2
  · have h := h.1 q2
    refine go_tabEq q2 75 dX6_count_1 (by decide) (by decide) rfl (by decide) ?_
    refine go_aload_n dX6_count_75 0 rfl ?_
    refine go_getI (kf := 4) rfl rfl rfl uwX6 (by decide) flX6_54 dX6_count_76 ?_
    exact go_iret rfl dX6_count_79 h
  have h := h.2 q2
  by_cases q3 : a1 = 3
  · have h := h.1 q3
    refine go_tabEq q3 80 dX6_count_1 (by decide) (by decide) rfl (by decide) ?_
    refine go_aload_n dX6_count_80 0 rfl ?_
    refine go_getR (kf := 22) (t := 49) rfl rfl rfl uwX6 (by decide) flX6_39 dX6_count_81 ?_
    refine go_iconst (v := 0) dX6_count_84 (by decide) ?_
    refine go_iaload rfl (nin (a := 0) (by decide) (by decide)) dX6_count_85 ?_
    refine go_bipush (v := (-4)) dX6_count_86 (by decide) ?_
    refine go_icmp_ne 96 dX6_count_88 (by decide) (fun q => ?_) (fun q => ?_)
    · have h := h.1 q
      refine go_aload_n dX6_count_96 0 rfl ?_
      refine go_getR (kf := 23) (t := 50) rfl rfl rfl uwX6 (by decide) flX6_42 dX6_count_97 ?_
      refine go_iconst (v := 0) dX6_count_100 (by decide) ?_
      refine go_iaload rfl (nin (a := 0) (by decide) (by decide)) dX6_count_101 ?_
      exact go_iret rfl dX6_count_102 h
    · have h := h.2 q
      refine go_bipush (v := (-4)) dX6_count_91 (by decide) ?_
      refine go_goto 102 dX6_count_93 (by decide) ?_
      exact go_iret rfl dX6_count_102 h
  have h := h.2 q3
  by_cases q4 : a1 = 4
  · have h := h.1 q4
    refine go_tabEq q4 103 dX6_count_1 (by decide) (by decide) rfl (by decide) ?_
    refine go_aload_n dX6_count_103 0 rfl ?_
    refine go_iconst (v := 0) dX6_count_104 (by decide) ?_
    refine go_iconst (v := 5) dX6_count_105 (by decide) ?_
    obtain ⟨c1, h⟩ := h
    obtain ⟨c2, h⟩ := h
    obtain ⟨c3, h⟩ := h
    obtain ⟨c4, h⟩ := h
    refine go_callV (st := []) (kX6_sumOnI (d + 0) 0 5 0 5 (xp X) (xn X) c1 c2 c3 c4) rfl rfl okX6_sumOn insX6_sumOn selX6_sumOn lkX6_134 rfl rfl (Nat.le_of_ble_eq_true rfl) dX6_count_106 (fun v_ m2_ q => ?_)
    rw [q.1, q.2]
    refine go_stk (st2 := [.int (nI (smF (xp X) (xn X)))]) rfl ?_
    exact go_iret rfl dX6_count_109 h
  have h := h.2 q4
  by_cases q5 : a1 = 5
  · have h := h.1 q5
    refine go_tabEq q5 110 dX6_count_1 (by decide) (by decide) rfl (by decide) ?_
    refine go_aload_n dX6_count_110 0 rfl ?_
    refine go_iconst (v := 0) dX6_count_111 (by decide) ?_
    refine go_iconst (v := 0) dX6_count_112 (by decide) ?_
    obtain ⟨c5, h⟩ := h
    obtain ⟨c6, h⟩ := h
    obtain ⟨c7, h⟩ := h
    obtain ⟨c8, h⟩ := h
    refine go_callV (st := []) (kX6_sumOnI (d + 0) 0 0 0 0 (xk X) (xn X) c5 c6 c7 c8) rfl rfl okX6_sumOn insX6_sumOn selX6_sumOn lkX6_134 rfl rfl (Nat.le_of_ble_eq_true rfl) dX6_count_113 (fun v_ m2_ q => ?_)
    rw [q.1, q.2]
    refine go_stk (st2 := [.int (nI (smF (xk X) (xn X)))]) rfl ?_
    exact go_iret rfl dX6_count_116 h
  have h := h.2 q5
  have e0 := neI q0 (z := 0) (by decide)
  have e1 := neI q1 (z := 1) (by decide)
  have e2 := neI q2 (z := 2) (by decide)
  have e3 := neI q3 (z := 3) (by decide)
  have e4 := neI q4 (z := 4) (by decide)
  have e5 := neI q5 (z := 5) (by decide)
  refine go_tabOut 117 dX6_count_1 (by omega) (by decide) ?_
  refine go_iconst (v := (-1)) dX6_count_117 (by decide) ?_
  exact go_iret rfl dX6_count_118 h


set_option maxHeartbeats 4000000 in
theorem P37 {G : GX} (a : Int32) : Sm G mX5_count mX6_count [.int a] := fun mem hI => by
  obtain ⟨X, T, S, h1, h2, h3, h4, h5, h6, h7⟩ := id hI
  have hn := h1.2.2.1.1
  obtain ⟨r1, r2, r3, r4⟩ := RepM0 h1.2.1
  have hs := h1.1
  refine cn_of (by decide +kernel) (Nat.le_of_ble_eq_true rfl) (sX5_count_0 (d := 8) a X ⟨fun q0 => ?_, fun q0 => ⟨fun q1 => ?_, fun q1 => ⟨fun q2 => ?_, fun q2 => ⟨fun q3 => ?_, fun q3 => ⟨fun q4 => ?_, fun q4 => ⟨fun q5 => ?_, fun q5 => ?_⟩⟩⟩⟩⟩⟩)
  · exact cn_of (by decide +kernel) (Nat.le_of_ble_eq_true rfl) (sX6_count_0 (d := 8) a X ⟨fun _ => ⟨by rw [h5.2.1, h5.2.2.1], hI⟩, fun z => absurd q0 z⟩)
  · refine cn_of (by decide +kernel) (Nat.le_of_ble_eq_true rfl) (sX6_count_0 (d := 8) a X ⟨fun z => absurd z q0, fun _ => ⟨fun _ => ?_, fun z => absurd q1 z⟩⟩)
    rw [show (0 : Int32).toNatClampNeg = 0 from rfl, show (1 : Int32).toNatClampNeg = 1 from rfl]
    rcases h2 0 (by omega) with ⟨u, v⟩ | ⟨u, v, _⟩ <;> rcases h2 1 (by omega) with ⟨u2, v2⟩ | ⟨u2, v2, _⟩ <;> rw [u, v, u2, v2]
    · exact ⟨fun _ => ⟨fun _ => ⟨by decide, hI⟩, fun z => absurd rfl z⟩, fun z => absurd rfl z⟩
    · exact ⟨fun _ => ⟨fun z => absurd z (by decide), fun _ => ⟨by decide, hI⟩⟩, fun z => absurd rfl z⟩
    · exact ⟨fun z => absurd z (by decide), fun _ => ⟨fun _ => ⟨by decide, hI⟩, fun z => absurd rfl z⟩⟩
    · exact ⟨fun z => absurd z (by decide), fun _ => ⟨fun z => absurd z (by decide), fun _ => ⟨by decide, hI⟩⟩⟩
  · exact cn_of (by decide +kernel) (Nat.le_of_ble_eq_true rfl) (sX6_count_0 (d := 8) a X ⟨fun z => absurd z q0, fun _ => ⟨fun z => absurd z q1, fun _ => ⟨fun _ => ⟨by rw [h3.2.1, h3.2.2.1], hI⟩, fun z => absurd q2 z⟩⟩⟩)
  · obtain ⟨sa, sS⟩ := sht_at (show 0 < 4 by omega)
    refine ⟨31, ⟨sa, sS⟩, ?_⟩
    rcases h6 0 (by omega) with ⟨w1, w2⟩ | ⟨ln, cn, w1, w2, w3, w4, w5, w6, w7⟩
    · rw [show mem 31 1 = -1 from w1]
      refine ⟨fun z => absurd rfl z, fun _ => cn_of (by decide +kernel) (Nat.le_of_ble_eq_true rfl) (sX6_count_0 (d := 8) a X ⟨fun z => absurd z q0, fun _ => ⟨fun z => absurd z q1, fun _ => ⟨fun z => absurd z q2, fun _ => ⟨fun _ => ?_, fun z => absurd q3 z⟩⟩⟩⟩)⟩
      rw [show (0 : Int32).toNatClampNeg = 0 from rfl, w2]
      exact ⟨fun z => absurd rfl z, fun _ => ⟨rfl, hI⟩⟩
    · have lnn : ¬ (nI ln = (-4 : Int32)) ∧ ¬ (nI ln = (-1 : Int32)) := by
        rcases (show ln = 0 ∨ ln = 1 ∨ ln = 2 by omega) with rfl | rfl | rfl <;> decide
      rw [show mem 31 1 = nI ln from w3]
      refine ⟨fun _ => ⟨31, ⟨sa, sS⟩, cn_of (by decide +kernel) (Nat.le_of_ble_eq_true rfl) (sX6_count_0 (d := 8) a X ⟨fun z => absurd z q0, fun _ => ⟨fun z => absurd z q1, fun _ => ⟨fun z => absurd z q2, fun _ => ⟨fun _ => ?_, fun z => absurd q3 z⟩⟩⟩⟩)⟩, fun z => absurd z lnn.2⟩
      rw [show (0 : Int32).toNatClampNeg = 0 from rfl, w4, w6, show mem 31 2 = nI cn from w5]
      exact ⟨fun _ => ⟨rfl, hI⟩, fun z => absurd z lnn.1⟩
  · refine ⟨hn, hs.1, fun c hc => (hs.2.2.2 c hc).2.1, cn_of (by decide +kernel) (Nat.le_of_ble_eq_true rfl) (sX6_count_0 (d := 8) a X ⟨fun z => absurd z q0, fun _ => ⟨fun z => absurd z q1, fun _ => ⟨fun z => absurd z q2, fun _ => ⟨fun z => absurd z q3, fun _ => ⟨fun _ => ⟨⟨rfl, rfl⟩, ⟨by omega, by omega, hn⟩, r1, fun c hc => ?_, rfl, hI⟩, fun z => absurd q4 z⟩⟩⟩⟩⟩)⟩
    exact (h1.2.1.2.2.2 c hc).2.1
  · refine ⟨hn, hs.1, fun c hc => (hs.2.2.2 c hc).1, cn_of (by decide +kernel) (Nat.le_of_ble_eq_true rfl) (sX6_count_0 (d := 8) a X ⟨fun z => absurd z q0, fun _ => ⟨fun z => absurd z q1, fun _ => ⟨fun z => absurd z q2, fun _ => ⟨fun z => absurd z q3, fun _ => ⟨fun z => absurd z q4, fun _ => ⟨fun _ => ⟨⟨rfl, rfl⟩, ⟨by omega, by omega, hn⟩, r1, fun c hc => ?_, rfl, hI⟩, fun z => absurd q5 z⟩⟩⟩⟩⟩⟩)⟩
    exact (h1.2.1.2.2.2 c hc).1
  · exact cn_of (by decide +kernel) (Nat.le_of_ble_eq_true rfl) (sX6_count_0 (d := 8) a X ⟨fun z => absurd z q0, fun _ => ⟨fun z => absurd z q1, fun _ => ⟨fun z => absurd z q2, fun _ => ⟨fun z => absurd z q3, fun _ => ⟨fun z => absurd z q4, fun _ => ⟨fun z => absurd z q5, fun _ => ⟨rfl, hI⟩⟩⟩⟩⟩⟩⟩)
