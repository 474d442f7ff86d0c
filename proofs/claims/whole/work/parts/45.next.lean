set_option maxRecDepth 100000 in
theorem sX2_nextToken_0 {G : GX} {d : Nat} {mem : Mem} {Φ : Option Value → Mem → Prop}  (h : (((mem 23 2) = 0 → Go G (d + 1) mX2_nextToken 8 [(0, .ref 23)] [] mem Φ) ∧ (¬ (mem 23 2) = 0 → Φ none mem))) : Go G (d + 1) mX2_nextToken 0 [(0, .ref 23)] [] mem Φ := by
  refine go_aload_n dX2_nextToken_0 0 rfl ?_
  refine go_getI (kf := 2) rfl rfl rfl uwX2 (by decide) flX2_15 dX2_nextToken_1 ?_
  refine go_if_eq 8 dX2_nextToken_4 (by decide) (fun q => ?_) (fun q => ?_)
  · have h := h.1 q
    exact Go.pick [0] rfl h
  · have h := h.2 q
    exact go_vret rfl dX2_nextToken_7 h

set_option maxRecDepth 100000 in
theorem sX2_nextToken_8 {G : GX} {d : Nat} {mem : Mem} {Φ : Option Value → Mem → Prop} (p : Nat) (T : Tp) (h : (((mem 23 1) ≤ (mem 23 5) → Go G (d + 1) mX2_nextToken 46 [(0, .ref 23)] [] mem Φ) ∧ (¬ (mem 23 1) ≤ (mem 23 5) → (vp_in (mem 23 5) 160) ∧ ((¬ (mem 24 ((mem 23 5) : Int32).toNatClampNeg) = 32 → Go G (d + 1) mX2_nextToken 46 [(0, .ref 23)] [] mem Φ) ∧ ((mem 24 ((mem 23 5) : Int32).toNatClampNeg) = 32 → Go G (d + 1) mX2_nextToken 8 [(0, .ref 23)] [] (um mem 23 5 ((mem 23 5) + 1)) Φ))))) : Go G (d + 1) mX2_nextToken 8 [(0, .ref 23)] [] mem Φ := by
  refine go_aload_n dX2_nextToken_8 0 rfl ?_
  refine go_getI (kf := 5) rfl rfl rfl uwX2 (by decide) flX2_25 dX2_nextToken_9 ?_
  refine go_aload_n dX2_nextToken_12 0 rfl ?_
  refine go_getI (kf := 1) rfl rfl rfl uwX2 (by decide) flX2_83 dX2_nextToken_13 ?_
  refine go_icmp_ge 46 dX2_nextToken_16 (by decide) (fun q => ?_) (fun q => ?_)
  · have h := h.1 q
    exact Go.pick [0] rfl h
  · have h := h.2 q
    refine go_aload_n dX2_nextToken_19 0 rfl ?_
    refine go_getR (kf := 0) (t := 24) rfl rfl rfl uwX2 (by decide) flX2_9 dX2_nextToken_20 ?_
    refine go_aload_n dX2_nextToken_23 0 rfl ?_
    refine go_getI (kf := 5) rfl rfl rfl uwX2 (by decide) flX2_25 dX2_nextToken_24 ?_
    obtain ⟨c1, h⟩ := h
    refine go_baload rfl c1 dX2_nextToken_27 ?_
    refine go_bipush (v := 32) dX2_nextToken_28 (by decide) ?_
    refine go_icmp_ne 46 dX2_nextToken_30 (by decide) (fun q => ?_) (fun q => ?_)
    · have h := h.1 q
      exact Go.pick [0] rfl h
    · have h := h.2 q
      refine go_aload_n dX2_nextToken_33 0 rfl ?_
      refine go_dup dX2_nextToken_34 rfl ?_
      refine go_getI (kf := 5) rfl rfl rfl uwX2 (by decide) flX2_25 dX2_nextToken_35 ?_
      refine go_iconst (v := 1) dX2_nextToken_38 (by decide) ?_
      refine go_iadd dX2_nextToken_39 ?_
      refine go_putI (kf := 5) rfl rfl rfl uwX2 tyX2_ok nmX2 (by decide) rfl flX2_25 rfl rfl dX2_nextToken_40 ?_
      refine go_goto 8 dX2_nextToken_43 (by decide) ?_
      exact Go.pick [0] rfl h

set_option maxRecDepth 100000 in
theorem sX2_nextToken_46 {G : GX} {d : Nat} {mem : Mem} {Φ : Option Value → Mem → Prop} (p : Nat) (T : Tp) (h : ((((um mem 23 7 (mem 23 5)) 23 5) < ((um mem 23 7 (mem 23 5)) 23 1) → (vp_in ((um mem 23 7 (mem 23 5)) 23 5) 160) ∧ ((¬ ((um mem 23 7 (mem 23 5)) 24 (((um mem 23 7 (mem 23 5)) 23 5) : Int32).toNatClampNeg) = 59 → ((¬ (97 ≤ ((um mem 23 7 (mem 23 5)) 24 (((um mem 23 7 (mem 23 5)) 23 5) : Int32).toNatClampNeg) ∧ ((um mem 23 7 (mem 23 5)) 24 (((um mem 23 7 (mem 23 5)) 23 5) : Int32).toNatClampNeg) ≤ 122) → (48 = nI 48 ∧ 57 = nI 57) ∧ (57 ≤ 200) ∧ ((um (um mem 23 7 (mem 23 5)) 23 6 2) 23 5 = nI p ∧ p ≤ T.1) ∧ (TpC (um (um mem 23 7 (mem 23 5)) 23 6 2) T) ∧ (48 ≤ 200) ∧ ∀ m7 : Mem, m7 = (um (um (um mem 23 7 (mem 23 5)) 23 6 2) 23 5 (nI (rnT T 48 57 p))) → (((m7 23 5) = (m7 23 7) → Φ none (um (um m7 23 2 1) 23 3 (m7 23 7))) ∧ (¬ (m7 23 5) = (m7 23 7) → ((((m7 23 5) - (m7 23 7)) ≤ 2 → Φ none m7) ∧ (¬ ((m7 23 5) - (m7 23 7)) ≤ 2 → Φ none (um (um m7 23 2 1) 23 3 (m7 23 7))))))) ∧ ((97 ≤ ((um mem 23 7 (mem 23 5)) 24 (((um mem 23 7 (mem 23 5)) 23 5) : Int32).toNatClampNeg) ∧ ((um mem 23 7 (mem 23 5)) 24 (((um mem 23 7 (mem 23 5)) 23 5) : Int32).toNatClampNeg) ≤ 122) → (97 = nI 97 ∧ 122 = nI 122) ∧ (122 ≤ 200) ∧ ((um (um mem 23 7 (mem 23 5)) 23 6 1) 23 5 = nI p ∧ p ≤ T.1) ∧ (TpC (um (um mem 23 7 (mem 23 5)) 23 6 1) T) ∧ (97 ≤ 200) ∧ ∀ m13 : Mem, m13 = (um (um (um mem 23 7 (mem 23 5)) 23 6 1) 23 5 (nI (rnT T 97 122 p))) → Φ none m13))) ∧ (((um mem 23 7 (mem 23 5)) 24 (((um mem 23 7 (mem 23 5)) 23 5) : Int32).toNatClampNeg) = 59 → ∀ m14 : Mem, m14 = (um (um (um mem 23 7 (mem 23 5)) 23 6 3) 23 5 (((um (um mem 23 7 (mem 23 5)) 23 6 3) 23 5) + 1)) → Φ none m14))) ∧ (¬ ((um mem 23 7 (mem 23 5)) 23 5) < ((um mem 23 7 (mem 23 5)) 23 1) → Φ none (um (um mem 23 7 (mem 23 5)) 23 6 0)))) : Go G (d + 1) mX2_nextToken 46 [(0, .ref 23)] [] mem Φ := by
  refine go_aload_n dX2_nextToken_46 0 rfl ?_
  refine go_aload_n dX2_nextToken_47 0 rfl ?_
  refine go_getI (kf := 5) rfl rfl rfl uwX2 (by decide) flX2_25 dX2_nextToken_48 ?_
  refine go_putI (kf := 7) rfl rfl rfl uwX2 tyX2_ok nmX2 (by decide) rfl flX2_86 rfl rfl dX2_nextToken_51 ?_
  refine go_aload_n dX2_nextToken_54 0 rfl ?_
  refine go_getI (kf := 5) rfl rfl rfl uwX2 (by decide) flX2_25 dX2_nextToken_55 ?_
  refine go_aload_n dX2_nextToken_58 0 rfl ?_
  refine go_getI (kf := 1) rfl rfl rfl uwX2 (by decide) flX2_83 dX2_nextToken_59 ?_
  refine go_icmp_lt 73 dX2_nextToken_62 (by decide) (fun q => ?_) (fun q => ?_)
  · have h := h.1 q
    refine go_aload_n dX2_nextToken_73 0 rfl ?_
    refine go_getR (kf := 0) (t := 24) rfl rfl rfl uwX2 (by decide) flX2_9 dX2_nextToken_74 ?_
    refine go_aload_n dX2_nextToken_77 0 rfl ?_
    refine go_getI (kf := 5) rfl rfl rfl uwX2 (by decide) flX2_25 dX2_nextToken_78 ?_
    obtain ⟨c1, h⟩ := h
    refine go_baload rfl c1 dX2_nextToken_81 ?_
    refine go_bipush (v := 59) dX2_nextToken_82 (by decide) ?_
    refine go_icmp_ne 105 dX2_nextToken_84 (by decide) (fun q => ?_) (fun q => ?_)
    · have h := h.1 q
      refine go_aload_n dX2_nextToken_105 0 rfl ?_
      refine go_getR (kf := 0) (t := 24) rfl rfl rfl uwX2 (by decide) flX2_9 dX2_nextToken_106 ?_
      refine go_aload_n dX2_nextToken_109 0 rfl ?_
      refine go_getI (kf := 5) rfl rfl rfl uwX2 (by decide) flX2_25 dX2_nextToken_110 ?_
      refine go_baload rfl c1 dX2_nextToken_113 ?_
      refine go_bipush (v := 97) dX2_nextToken_114 (by decide) ?_
      refine go_bipush (v := 122) dX2_nextToken_116 (by decide) ?_
      refine go_callSN (st := []) (kX5_isWithin (d + 0) ((um mem 23 7 (mem 23 5)) 24 (((um mem 23 7 (mem 23 5)) 23 5) : Int32).toNatClampNeg) 97 122) okX5_isWithin staX5_isWithin (fun U h => h.1) rfl rfl (Nat.le_of_ble_eq_true rfl) dX2_nextToken_118 (fun v_ m2_ q => ?_)
      rw [q.1, q.2]
      refine go_stk (st2 := [.int (bI (97 ≤ ((um mem 23 7 (mem 23 5)) 24 (((um mem 23 7 (mem 23 5)) 23 5) : Int32).toNatClampNeg) ∧ ((um mem 23 7 (mem 23 5)) 24 (((um mem 23 7 (mem 23 5)) 23 5) : Int32).toNatClampNeg) ≤ 122))]) rfl ?_
      refine go_if_eq 140 dX2_nextToken_121 (by decide) (fun q => ?_) (fun q => ?_)
      · have h := h.1 (bI0.mp q)
        refine go_aload_n dX2_nextToken_140 0 rfl ?_
        refine go_iconst (v := 2) dX2_nextToken_141 (by decide) ?_
        refine go_putI (kf := 6) rfl rfl rfl uwX2 tyX2_ok nmX2 (by decide) rfl flX2_35 rfl rfl dX2_nextToken_142 ?_
        refine go_aload_n dX2_nextToken_145 0 rfl ?_
        refine go_bipush (v := 48) dX2_nextToken_146 (by decide) ?_
        refine go_bipush (v := 57) dX2_nextToken_148 (by decide) ?_
        obtain ⟨c2, h⟩ := h
        obtain ⟨c3, h⟩ := h
        obtain ⟨c4, h⟩ := h
        obtain ⟨c5, h⟩ := h
        obtain ⟨c6, h⟩ := h
        refine go_callV (st := []) (kX2_passBytes (d + 0) 48 57 p 48 57 T c2 c3 c4 c5 c6) rfl rfl okX2_passBytes insX2_passBytes selX2_passBytes lkX2_89 rfl rfl (Nat.le_of_ble_eq_true rfl) dX2_nextToken_150 (fun v_ m2_ q => ?_)
        rw [q.1, q.2]
        refine go_stk (st2 := []) rfl ?_
        refine go_mem (fun m7 qm7 => ?_)
        have h := h m7 qm7
        refine go_aload_n dX2_nextToken_153 0 rfl ?_
        refine go_getI (kf := 5) rfl rfl rfl uwX2 (by decide) flX2_25 dX2_nextToken_154 ?_
        refine go_aload_n dX2_nextToken_157 0 rfl ?_
        refine go_getI (kf := 7) rfl rfl rfl uwX2 (by decide) flX2_86 dX2_nextToken_158 ?_
        refine go_icmp_eq 177 dX2_nextToken_161 (by decide) (fun q => ?_) (fun q => ?_)
        · have h := h.1 q
          refine go_aload_n dX2_nextToken_177 0 rfl ?_
          refine go_iconst (v := 1) dX2_nextToken_178 (by decide) ?_
          refine go_callV (st := []) (kX2_refuse (d + 0) 1) rfl rfl okX2_refuse insX2_refuse selX2_refuse lkX2_46 rfl rfl (Nat.le_of_ble_eq_true rfl) dX2_nextToken_179 (fun v_ m2_ q => ?_)
          rw [q.1, q.2]
          refine go_stk (st2 := []) rfl ?_
          exact go_vret rfl dX2_nextToken_182 h
        · have h := h.2 q
          refine go_aload_n dX2_nextToken_164 0 rfl ?_
          refine go_getI (kf := 5) rfl rfl rfl uwX2 (by decide) flX2_25 dX2_nextToken_165 ?_
          refine go_aload_n dX2_nextToken_168 0 rfl ?_
          refine go_getI (kf := 7) rfl rfl rfl uwX2 (by decide) flX2_86 dX2_nextToken_169 ?_
          refine go_isub dX2_nextToken_172 ?_
          refine go_iconst (v := 2) dX2_nextToken_173 (by decide) ?_
          refine go_icmp_le 182 dX2_nextToken_174 (by decide) (fun q => ?_) (fun q => ?_)
          · have h := h.1 q
            exact go_vret rfl dX2_nextToken_182 h
          · have h := h.2 q
            refine go_aload_n dX2_nextToken_177 0 rfl ?_
            refine go_iconst (v := 1) dX2_nextToken_178 (by decide) ?_
            refine go_callV (st := []) (kX2_refuse (d + 0) 1) rfl rfl okX2_refuse insX2_refuse selX2_refuse lkX2_46 rfl rfl (Nat.le_of_ble_eq_true rfl) dX2_nextToken_179 (fun v_ m2_ q => ?_)
            rw [q.1, q.2]
            refine go_stk (st2 := []) rfl ?_
            exact go_vret rfl dX2_nextToken_182 h
      · have h := h.2 (bI1.mp q)
        refine go_aload_n dX2_nextToken_124 0 rfl ?_
        refine go_iconst (v := 1) dX2_nextToken_125 (by decide) ?_
        refine go_putI (kf := 6) rfl rfl rfl uwX2 tyX2_ok nmX2 (by decide) rfl flX2_35 rfl rfl dX2_nextToken_126 ?_
        refine go_aload_n dX2_nextToken_129 0 rfl ?_
        refine go_bipush (v := 97) dX2_nextToken_130 (by decide) ?_
        refine go_bipush (v := 122) dX2_nextToken_132 (by decide) ?_
        obtain ⟨c8, h⟩ := h
        obtain ⟨c9, h⟩ := h
        obtain ⟨c10, h⟩ := h
        obtain ⟨c11, h⟩ := h
        obtain ⟨c12, h⟩ := h
        refine go_callV (st := []) (kX2_passBytes (d + 0) 97 122 p 97 122 T c8 c9 c10 c11 c12) rfl rfl okX2_passBytes insX2_passBytes selX2_passBytes lkX2_89 rfl rfl (Nat.le_of_ble_eq_true rfl) dX2_nextToken_134 (fun v_ m2_ q => ?_)
        rw [q.1, q.2]
        refine go_stk (st2 := []) rfl ?_
        refine go_mem (fun m13 qm13 => ?_)
        have h := h m13 qm13
        refine go_goto 182 dX2_nextToken_137 (by decide) ?_
        exact go_vret rfl dX2_nextToken_182 h
    · have h := h.2 q
      refine go_aload_n dX2_nextToken_87 0 rfl ?_
      refine go_iconst (v := 3) dX2_nextToken_88 (by decide) ?_
      refine go_putI (kf := 6) rfl rfl rfl uwX2 tyX2_ok nmX2 (by decide) rfl flX2_35 rfl rfl dX2_nextToken_89 ?_
      refine go_aload_n dX2_nextToken_92 0 rfl ?_
      refine go_dup dX2_nextToken_93 rfl ?_
      refine go_getI (kf := 5) rfl rfl rfl uwX2 (by decide) flX2_25 dX2_nextToken_94 ?_
      refine go_iconst (v := 1) dX2_nextToken_97 (by decide) ?_
      refine go_iadd dX2_nextToken_98 ?_
      refine go_putI (kf := 5) rfl rfl rfl uwX2 tyX2_ok nmX2 (by decide) rfl flX2_25 rfl rfl dX2_nextToken_99 ?_
      refine go_mem (fun m14 qm14 => ?_)
      have h := h m14 qm14
      refine go_goto 182 dX2_nextToken_102 (by decide) ?_
      exact go_vret rfl dX2_nextToken_182 h
  · have h := h.2 q
    refine go_aload_n dX2_nextToken_65 0 rfl ?_
    refine go_iconst (v := 0) dX2_nextToken_66 (by decide) ?_
    refine go_putI (kf := 6) rfl rfl rfl uwX2 tyX2_ok nmX2 (by decide) rfl flX2_35 rfl rfl dX2_nextToken_67 ?_
    refine go_goto 182 dX2_nextToken_70 (by decide) ?_
    exact go_vret rfl dX2_nextToken_182 h


/-- the token that begins at q: where it ends, its sort, whether it is none -/
def tk0 (T : Tp) (q : Nat) : Nat × Nat × Bool := if T.1 ≤ q then (q, 0, false) else if T.2 q = 59 then (q + 1, 3, false) else if 97 ≤ T.2 q ∧ T.2 q ≤ 122 then (rnT T 97 122 q, 1, false) else (rnT T 48 57 q, 2, decide (rnT T 48 57 q = q ∨ q + 2 < rnT T 48 57 q))
def NxC (T : Tp) (q : Nat) (m m2 : Mem) : Prop := (∀ k, k ≠ 23 → m2 k = m k) ∧ (∀ j, j ≠ 2 → j ≠ 3 → j ≠ 5 → j ≠ 6 → j ≠ 7 → m2 23 j = m 23 j) ∧ m2 23 7 = nI q ∧ m2 23 6 = nI (tk0 T q).2.1 ∧ m2 23 5 = nI (tk0 T q).1 ∧ m2 23 2 = (if (tk0 T q).2.2 = true then 1 else 0) ∧ ((tk0 T q).2.2 = true → m2 23 3 = nI q)
set_option maxHeartbeats 4000000 in
theorem lX2_nt46 {G : GX} {d : Nat} {m : Mem} (T : Tp) (hT : TpC m T) (q : Nat) (hq : q ≤ T.1) (h2 : m 23 2 = 0) (h5 : m 23 5 = nI q) : Go G (d + 1) mX2_nextToken 46 [(0, .ref 23)] [] m (Rv (NxC T q m)) := by
  have h160 := hT.1
  refine sX2_nextToken_46 q T ?_
  rw [h5]
  have a5 : (um m 23 7 (nI q)) 23 5 = nI q := by rw [um_at, if_neg (by decide)]; exact h5
  have a1 : (um m 23 7 (nI q)) 23 1 = nI T.1 := by rw [um_at, if_neg (by decide)]; exact hT.2.1
  have a24 : (um m 23 7 (nI q)) 24 = m 24 := um_ne (by decide)
  rw [a5, a1, a24, ncl (show q < 2000000000 by omega)]
  refine ⟨fun z => ?_, fun z => ⟨rfl, ?_⟩⟩
  · have hlt := (nlt (by omega) (by omega)).mp z
    obtain ⟨b1, b2⟩ := hT.2.2 q hlt
    rw [b2]
    have e59 : (nI (T.2 q) = (59 : Int32)) ↔ T.2 q = 59 := neq (b := 59) (by omega) (by omega)
    have e97 : ((97 : Int32) ≤ nI (T.2 q) ∧ nI (T.2 q) ≤ 122) ↔ (97 ≤ T.2 q ∧ T.2 q ≤ 122) := and_congr (nle (a := 97) (by omega) (by omega)) (nle (b := 122) (by omega) (by omega))
    rw [e59, e97]
    refine ⟨nin (by omega) (by omega), fun n59 => ⟨fun n97 => ⟨⟨rfl, rfl⟩, by omega, ⟨?_, hq⟩, ?_, by omega, fun m7 e7 => ?_⟩, fun y97 => ⟨⟨rfl, rfl⟩, by omega, ⟨?_, hq⟩, ?_, by omega, fun m7 e7 => ⟨rfl, ?_⟩⟩⟩, fun y59 m7 e7 => ⟨rfl, ?_⟩⟩
    · rw [um_at, if_neg (by decide)]; exact a5
    · exact hT.fr (by rw [um_at, if_neg (by decide), um_at, if_neg (by decide)]) (by rw [um_ne (by decide), um_ne (by decide)])
    · have et : tk0 T q = (rnT T 48 57 q, 2, decide (rnT T 48 57 q = q ∨ q + 2 < rnT T 48 57 q)) := by
        unfold tk0; rw [if_neg (by omega), if_neg n59, if_neg n97]
      have hb := rnT_bd (lo := 48) (hi := 57) hq
      have f5 : m7 23 5 = nI (rnT T 48 57 q) := by rw [e7, um_same]
      have f7 : m7 23 7 = nI q := by rw [e7, um_at, if_neg (by decide), um_at, if_neg (by decide), um_same]
      have f6 : m7 23 6 = nI 2 := by rw [e7, um_at, if_neg (by decide), um_same]; rfl
      have fk : ∀ k, k ≠ 23 → m7 k = m k := fun k hk => by rw [e7, um_ne hk, um_ne hk, um_ne hk]
      have fj : ∀ j, j ≠ 5 → j ≠ 6 → j ≠ 7 → m7 23 j = m 23 j := fun j a b c => by rw [e7, um_at, if_neg a, um_at, if_neg b, um_at, if_neg c]
      rw [f5, f7]
      have bad : (tk0 T q).2.2 = true → NxC T q m (um (um m7 23 2 1) 23 3 (nI q)) := fun hb => by
        refine ⟨fun k hk => by rw [um_ne hk, um_ne hk, fk k hk], fun j a b c e f => by rw [um_at, if_neg b, um_at, if_neg a, fj j c e f], ?_, ?_, ?_, ?_, fun _ => um_same⟩
        · rw [um_at, if_neg (by decide), um_at, if_neg (by decide)]; exact f7
        · rw [um_at, if_neg (by decide), um_at, if_neg (by decide), f6, et]
        · rw [um_at, if_neg (by decide), um_at, if_neg (by decide), f5, et]
        · rw [um_at, if_neg (by decide), um_same, if_pos hb]
      rw [neq (by omega) (by omega), pk_sub hb.1, show (2 : Int32) = nI 2 from rfl, nle (by omega) (by omega)]
      refine ⟨fun y => ⟨rfl, bad (by rw [et]; exact decide_eq_true (Or.inl y))⟩, fun y => ⟨fun y2 => ⟨rfl, ?_⟩, fun y2 => ⟨rfl, bad (by rw [et]; exact decide_eq_true (Or.inr (by omega)))⟩⟩⟩
      have nb : ¬ (tk0 T q).2.2 = true := by
        rw [et]
        intro w
        have w2 := of_decide_eq_true w
        omega
      exact ⟨fk, fun j a b c e f => fj j c e f, f7, by rw [f6, et], by rw [f5, et], by rw [if_neg nb, fj 2 (by decide) (by decide) (by decide)]; exact h2, fun w => absurd w nb⟩
    · rw [um_at, if_neg (by decide)]; exact a5
    · exact hT.fr (by rw [um_at, if_neg (by decide), um_at, if_neg (by decide)]) (by rw [um_ne (by decide), um_ne (by decide)])
    · have et : tk0 T q = (rnT T 97 122 q, 1, false) := by
        unfold tk0; rw [if_neg (by omega), if_neg n59, if_pos y97]
      refine ⟨fun k hk => by rw [e7, um_ne hk, um_ne hk, um_ne hk], fun j a b c e f => by rw [e7, um_at, if_neg c, um_at, if_neg e, um_at, if_neg f], ?_, ?_, ?_, ?_, fun w => by rw [et] at w; cases w⟩
      · rw [e7, um_at, if_neg (by decide), um_at, if_neg (by decide), um_same]
      · rw [e7, um_at, if_neg (by decide), um_same, et]; rfl
      · rw [e7, um_same, et]
      · rw [e7, um_at, if_neg (by decide), um_at, if_neg (by decide), um_at, if_neg (by decide), et]; exact h2
    · have et : tk0 T q = (q + 1, 3, false) := by
        unfold tk0; rw [if_neg (by omega), if_pos y59]
      rw [um_at, if_neg (by decide), a5, nI_1] at e7
      refine ⟨fun k hk => by rw [e7, um_ne hk, um_ne hk, um_ne hk], fun j a b c e f => by rw [e7, um_at, if_neg c, um_at, if_neg e, um_at, if_neg f], ?_, ?_, ?_, ?_, fun w => by rw [et] at w; cases w⟩
      · rw [e7, um_at, if_neg (by decide), um_at, if_neg (by decide), um_same]
      · rw [e7, um_at, if_neg (by decide), um_same, et]; rfl
      · rw [e7, um_same, et]
      · rw [e7, um_at, if_neg (by decide), um_at, if_neg (by decide), um_at, if_neg (by decide), et]; exact h2
  · have hge : T.1 ≤ q := Nat.le_of_not_lt (fun y => z ((nlt (by omega) (by omega)).mpr y))
    have et : tk0 T q = (q, 0, false) := by unfold tk0; rw [if_pos hge]
    refine ⟨fun k hk => by rw [um_ne hk, um_ne hk], fun j a b c e f => by rw [um_at, if_neg e, um_at, if_neg f], ?_, ?_, ?_, ?_, fun w => by rw [et] at w; cases w⟩
    · rw [um_at, if_neg (by decide), um_same]
    · rw [um_same, et]; rfl
    · rw [um_at, if_neg (by decide), um_at, if_neg (by decide), et]; exact h5
    · rw [um_at, if_neg (by decide), um_at, if_neg (by decide), et]; exact h2
theorem lX2_nt8 {G : GX} {d : Nat} {mem0 : Mem} (T : Tp) (hT : TpC mem0 T) (h2 : mem0 23 2 = 0) : ∀ (r p : Nat) (m : Mem), p + r = T.1 → m = um mem0 23 5 (nI p) → Go G (d + 1) mX2_nextToken 8 [(0, .ref 23)] [] m (Rv (NxC T (rnT T 32 32 p) mem0)) := by
  intro r
  have h160 := hT.1
  have fin : ∀ (m : Mem) (p q : Nat), m = um mem0 23 5 (nI p) → q = p → p ≤ T.1 → Go G (d + 1) mX2_nextToken 46 [(0, .ref 23)] [] m (Rv (NxC T q mem0)) := fun m p q e eq hp => by
    subst eq
    have hT' : TpC m T := hT.fr (by rw [e, um_at, if_neg (by decide)]) (by rw [e, um_ne (by decide)])
    have k := @lX2_nt46 G d m T hT' q hp (by rw [e, um_at, if_neg (by decide)]; exact h2) (by rw [e, um_same])
    have c : NxC T q m = NxC T q mem0 := by
      funext m2
      unfold NxC
      refine propext (and_congr ⟨fun g k hk => by rw [g k hk, e, um_ne hk], fun g k hk => by rw [g k hk, e, um_ne hk]⟩ (and_congr ⟨fun g j a b c e1 e2 => by rw [g j a b c e1 e2, e, um_at, if_neg c], fun g j a b c e1 e2 => by rw [g j a b c e1 e2, e, um_at, if_neg c]⟩ Iff.rfl))
    rw [c] at k
    exact k
  induction r with
  | zero =>
    intro p m hp e
    have e5 : m 23 5 = nI p := by rw [e, um_same]
    have e1 : m 23 1 = nI T.1 := by rw [e, um_at, if_neg (by decide)]; exact hT.2.1
    refine sX2_nextToken_8 p T ?_
    rw [e5, e1, show T.1 = p by omega]
    exact ⟨fun _ => fin m p _ e (rnT_out (Or.inl (by omega))) (by omega), fun z => absurd (Int32.le_refl _) z⟩
  | succ r ih =>
    intro p m hp e
    have e5 : m 23 5 = nI p := by rw [e, um_same]
    have e1 : m 23 1 = nI T.1 := by rw [e, um_at, if_neg (by decide)]; exact hT.2.1
    have e24 : m 24 = mem0 24 := by rw [e, um_ne (by decide)]
    obtain ⟨b1, b2⟩ := hT.2.2 p (by omega)
    refine sX2_nextToken_8 p T ?_
    rw [e5, e1, ncl (show p < 2000000000 by omega), e24, b2, nI_1, show (32 : Int32) = nI 32 from rfl, neq (by omega) (by omega)]
    refine ⟨fun z => absurd ((nle (by omega) (by omega)).mp z) (by omega), fun _ => ⟨nin (by omega) (by omega), fun q => fin m p _ e (rnT_out (Or.inr (by omega))) (by omega), fun q => ?_⟩⟩
    rw [rnT_in (by omega) ⟨by omega, by omega⟩]
    exact ih (p + 1) _ (by omega) (by rw [e, um_um])
theorem kX2_nextToken {G : GX} (d : Nat) {mem : Mem} (T : Tp) (p : Nat) (hT : TpC mem T) (hp : p ≤ T.1) (h : mem 23 2 = 0 ∧ mem 23 5 = nI p) : Cn G (d + 1) mX2_nextToken [.ref 23] mem (Rv (NxC T (rnT T 32 32 p) mem)) :=
  cn_of (by decide +kernel) (Nat.le_of_ble_eq_true rfl) (sX2_nextToken_0 ⟨fun _ => lX2_nt8 T hT h.1 (T.1 - p) p mem (by omega) (um_id h.2).symm, fun z => absurd h.1 z⟩)
theorem kX2_nextTokenF {G : GX} (d : Nat) {mem : Mem} (h : ¬ mem 23 2 = 0) : Cn G (d + 1) mX2_nextToken [.ref 23] mem (Rv (fun m2 => m2 = mem)) :=
  cn_of (by decide +kernel) (Nat.le_of_ble_eq_true rfl) (sX2_nextToken_0 ⟨fun z => absurd z h, fun _ => ⟨rfl, rfl⟩⟩)
