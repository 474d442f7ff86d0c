set_option maxRecDepth 100000 in
theorem sX6_tickOn_0 {G : GX} {d : Nat} {mem : Mem} {Φ : Option Value → Mem → Prop} (P : Nat) (held : Bool) (X : Bm) (g B : Nat) (h : (P ≤ 115) ∧ (g < 10 ∧ B < 900000) ∧ (VX g B X) ∧ (RepM mem P X) ∧ (mem 40 14 = goI g) ∧ Go G (d + 2) mX6_tickOn 9 [(0, .ref 40), (1, .int (nI P)), (2, .int (bI (held = true))), (3, .int (nI (who g X))), (4, .int 0)] [] mem Φ) : Go G (d + 2) mX6_tickOn 0 [(0, .ref 40), (1, .int (nI P)), (2, .int (bI (held = true)))] [] mem Φ := by
  refine go_aload_n dX6_tickOn_0 0 rfl ?_
  refine go_iload_n dX6_tickOn_1 1 rfl ?_
  obtain ⟨c1, h⟩ := h
  obtain ⟨c2, h⟩ := h
  obtain ⟨c3, h⟩ := h
  obtain ⟨c4, h⟩ := h
  obtain ⟨c5, h⟩ := h
  refine go_callV (st := []) (kX6_beatsOn (d + 1) P X g B c1 c2 c3 c4 c5) rfl rfl okX6_beatsOn insX6_beatsOn selX6_beatsOn lkX6_124 rfl rfl (Nat.le_of_ble_eq_true rfl) dX6_tickOn_2 (fun v_ m2_ q => ?_)
  rw [q.1, q.2]
  refine go_stk (st2 := [.int (nI (who g X))]) rfl ?_
  refine go_istore_n (L2 := [(3, .int (nI (who g X))), (0, .ref 40), (1, .int (nI P)), (2, .int (bI (held = true)))]) dX6_tickOn_5 (by decide) rfl ?_
  refine go_iconst (v := 0) dX6_tickOn_6 (by decide) ?_
  refine go_istore (L2 := [(4, .int 0), (3, .int (nI (who g X))), (0, .ref 40), (1, .int (nI P)), (2, .int (bI (held = true)))]) dX6_tickOn_7 (by decide) rfl ?_
  exact Go.pick [2, 3, 4, 1, 0] rfl h

set_option maxRecDepth 100000 in
theorem sX6_tickOn_9 {G : GX} {d : Nat} {mem : Mem} {Φ : Option Value → Mem → Prop} (P : Nat) (held : Bool) (w i : Nat) (h : (vp_in ((nI P) + 20) 138) ∧ (((mem 41 (((nI P) + 20) : Int32).toNatClampNeg) ≤ (nI i) → Go G (d + 2) mX6_tickOn 109 [(0, .ref 40), (1, .int (nI P)), (2, .int (bI (held = true))), (3, .int (nI w)), (4, .int 0)] [] mem Φ) ∧ (¬ (mem 41 (((nI P) + 20) : Int32).toNatClampNeg) ≤ (nI i) → ((¬ (((nI w) >>> ((nI i) &&& 31)) &&& 1) = 1 → (vp_in (((nI P) + 15) + (nI i)) 138) ∧ ∀ m3 : Mem, m3 = (um mem 41 ((((nI P) + 15) + (nI i)) : Int32).toNatClampNeg ((mem 41 ((((nI P) + 15) + (nI i)) : Int32).toNatClampNeg) + 0)) → (vp_in (((nI P) + 10) + (nI i)) 138) ∧ ∀ m5 : Mem, m5 = (um m3 41 ((((nI P) + 10) + (nI i)) : Int32).toNatClampNeg ((m3 41 ((((nI P) + 10) + (nI i)) : Int32).toNatClampNeg) + 1)) → Go G (d + 2) mX6_tickOn 9 [(0, .ref 40), (1, .int (nI P)), (2, .int (bI (held = true))), (3, .int (nI w)), (4, .int ((nI i) + 1))] [] m5 Φ) ∧ ((((nI w) >>> ((nI i) &&& 31)) &&& 1) = 1 → (vp_in (((nI P) + 15) + (nI i)) 138) ∧ ∀ m7 : Mem, m7 = (um mem 41 ((((nI P) + 15) + (nI i)) : Int32).toNatClampNeg ((mem 41 ((((nI P) + 15) + (nI i)) : Int32).toNatClampNeg) + 1)) → (vp_in (((nI P) + 10) + (nI i)) 138) ∧ ∀ m9 : Mem, m9 = (um m7 41 ((((nI P) + 10) + (nI i)) : Int32).toNatClampNeg 0) → Go G (d + 2) mX6_tickOn 9 [(0, .ref 40), (1, .int (nI P)), (2, .int (bI (held = true))), (3, .int (nI w)), (4, .int ((nI i) + 1))] [] m9 Φ))))) : Go G (d + 2) mX6_tickOn 9 [(0, .ref 40), (1, .int (nI P)), (2, .int (bI (held = true))), (3, .int (nI w)), (4, .int (nI i))] [] mem Φ := by
  refine go_iload dX6_tickOn_9 4 rfl ?_
  refine go_aload_n dX6_tickOn_11 0 rfl ?_
  refine go_getR (kf := 0) (t := 41) rfl rfl rfl uwX6 (by decide) flX6_7 dX6_tickOn_12 ?_
  refine go_iload_n dX6_tickOn_15 1 rfl ?_
  refine go_bipush (v := 20) dX6_tickOn_16 (by decide) ?_
  refine go_iadd dX6_tickOn_18 ?_
  obtain ⟨c1, h⟩ := h
  refine go_iaload rfl c1 dX6_tickOn_19 ?_
  refine go_icmp_ge 106 dX6_tickOn_20 (by decide) (fun q => ?_) (fun q => ?_)
  · have h := h.1 q
    refine go_iconst (v := 0) dX6_tickOn_106 (by decide) ?_
    refine go_istore (L2 := [(4, .int 0), (0, .ref 40), (1, .int (nI P)), (2, .int (bI (held = true))), (3, .int (nI w))]) dX6_tickOn_107 (by decide) rfl ?_
    exact Go.pick [1, 2, 3, 4, 0] rfl h
  · have h := h.2 q
    refine go_iload_n dX6_tickOn_23 3 rfl ?_
    refine go_iload dX6_tickOn_24 4 rfl ?_
    refine go_ishr dX6_tickOn_26 ?_
    refine go_iconst (v := 1) dX6_tickOn_27 (by decide) ?_
    refine go_iand dX6_tickOn_28 ?_
    refine go_iconst (v := 1) dX6_tickOn_29 (by decide) ?_
    refine go_icmp_ne 37 dX6_tickOn_30 (by decide) (fun q => ?_) (fun q => ?_)
    · have h := h.1 q
      refine go_iconst (v := 0) dX6_tickOn_37 (by decide) ?_
      refine go_istore (L2 := [(5, .int 0), (0, .ref 40), (1, .int (nI P)), (2, .int (bI (held = true))), (3, .int (nI w)), (4, .int (nI i))]) dX6_tickOn_38 (by decide) rfl ?_
      refine go_aload_n dX6_tickOn_40 1 rfl ?_
      refine go_getR (kf := 0) (t := 41) rfl rfl rfl uwX6 (by decide) flX6_7 dX6_tickOn_41 ?_
      refine go_iload_n dX6_tickOn_44 2 rfl ?_
      refine go_bipush (v := 15) dX6_tickOn_45 (by decide) ?_
      refine go_iadd dX6_tickOn_47 ?_
      refine go_iload dX6_tickOn_48 5 rfl ?_
      refine go_iadd dX6_tickOn_50 ?_
      refine go_dup2 dX6_tickOn_51 rfl rfl ?_
      obtain ⟨c2, h⟩ := h
      refine go_iaload rfl c2 dX6_tickOn_52 ?_
      refine go_iload dX6_tickOn_53 0 rfl ?_
      refine go_if_eq 62 dX6_tickOn_55 (by decide) (fun _ => ?_) (fun q => absurd q (by decide))
      refine go_iconst (v := 0) dX6_tickOn_62 (by decide) ?_
      refine go_iadd dX6_tickOn_63 ?_
      refine go_iastore rfl c2 dX6_tickOn_64 ?_
      refine go_mem (fun m3 qm3 => ?_)
      have h := h m3 qm3
      refine go_aload_n dX6_tickOn_65 1 rfl ?_
      refine go_getR (kf := 0) (t := 41) rfl rfl rfl uwX6 (by decide) flX6_7 dX6_tickOn_66 ?_
      refine go_iload_n dX6_tickOn_69 2 rfl ?_
      refine go_bipush (v := 10) dX6_tickOn_70 (by decide) ?_
      refine go_iadd dX6_tickOn_72 ?_
      refine go_iload dX6_tickOn_73 5 rfl ?_
      refine go_iadd dX6_tickOn_75 ?_
      refine go_iload dX6_tickOn_76 0 rfl ?_
      refine go_if_eq 85 dX6_tickOn_78 (by decide) (fun _ => ?_) (fun q => absurd q (by decide))
      refine go_aload_n dX6_tickOn_85 1 rfl ?_
      refine go_getR (kf := 0) (t := 41) rfl rfl rfl uwX6 (by decide) flX6_7 dX6_tickOn_86 ?_
      refine go_iload_n dX6_tickOn_89 2 rfl ?_
      refine go_bipush (v := 10) dX6_tickOn_90 (by decide) ?_
      refine go_iadd dX6_tickOn_92 ?_
      refine go_iload dX6_tickOn_93 5 rfl ?_
      refine go_iadd dX6_tickOn_95 ?_
      obtain ⟨c4, h⟩ := h
      refine go_iaload rfl c4 dX6_tickOn_96 ?_
      refine go_iconst (v := 1) dX6_tickOn_97 (by decide) ?_
      refine go_iadd dX6_tickOn_98 ?_
      refine go_iastore rfl c4 dX6_tickOn_99 ?_
      refine go_mem (fun m5 qm5 => ?_)
      have h := h m5 qm5
      refine go_iinc (v := ((nI i) + 1)) (L2 := [(4, .int ((nI i) + 1)), (5, .int 0), (0, .ref 40), (1, .int (nI P)), (2, .int (bI (held = true))), (3, .int (nI w))]) dX6_tickOn_100 5 rfl rfl (by decide) rfl ?_
      refine go_goto 9 dX6_tickOn_103 (by decide) ?_
      exact Go.pick [2, 3, 4, 5, 0] rfl h
    · have h := h.2 q
      refine go_iconst (v := 1) dX6_tickOn_33 (by decide) ?_
      refine go_goto 38 dX6_tickOn_34 (by decide) ?_
      refine go_istore (L2 := [(5, .int 1), (0, .ref 40), (1, .int (nI P)), (2, .int (bI (held = true))), (3, .int (nI w)), (4, .int (nI i))]) dX6_tickOn_38 (by decide) rfl ?_
      refine go_aload_n dX6_tickOn_40 1 rfl ?_
      refine go_getR (kf := 0) (t := 41) rfl rfl rfl uwX6 (by decide) flX6_7 dX6_tickOn_41 ?_
      refine go_iload_n dX6_tickOn_44 2 rfl ?_
      refine go_bipush (v := 15) dX6_tickOn_45 (by decide) ?_
      refine go_iadd dX6_tickOn_47 ?_
      refine go_iload dX6_tickOn_48 5 rfl ?_
      refine go_iadd dX6_tickOn_50 ?_
      refine go_dup2 dX6_tickOn_51 rfl rfl ?_
      obtain ⟨c6, h⟩ := h
      refine go_iaload rfl c6 dX6_tickOn_52 ?_
      refine go_iload dX6_tickOn_53 0 rfl ?_
      refine go_if_eq 62 dX6_tickOn_55 (by decide) (fun q => absurd q (by decide)) (fun _ => ?_)
      refine go_iconst (v := 1) dX6_tickOn_58 (by decide) ?_
      refine go_goto 63 dX6_tickOn_59 (by decide) ?_
      refine go_iadd dX6_tickOn_63 ?_
      refine go_iastore rfl c6 dX6_tickOn_64 ?_
      refine go_mem (fun m7 qm7 => ?_)
      have h := h m7 qm7
      refine go_aload_n dX6_tickOn_65 1 rfl ?_
      refine go_getR (kf := 0) (t := 41) rfl rfl rfl uwX6 (by decide) flX6_7 dX6_tickOn_66 ?_
      refine go_iload_n dX6_tickOn_69 2 rfl ?_
      refine go_bipush (v := 10) dX6_tickOn_70 (by decide) ?_
      refine go_iadd dX6_tickOn_72 ?_
      refine go_iload dX6_tickOn_73 5 rfl ?_
      refine go_iadd dX6_tickOn_75 ?_
      refine go_iload dX6_tickOn_76 0 rfl ?_
      refine go_if_eq 85 dX6_tickOn_78 (by decide) (fun q => absurd q (by decide)) (fun _ => ?_)
      refine go_iconst (v := 0) dX6_tickOn_81 (by decide) ?_
      refine go_goto 99 dX6_tickOn_82 (by decide) ?_
      obtain ⟨c8, h⟩ := h
      refine go_iastore rfl c8 dX6_tickOn_99 ?_
      refine go_mem (fun m9 qm9 => ?_)
      have h := h m9 qm9
      refine go_iinc (v := ((nI i) + 1)) (L2 := [(4, .int ((nI i) + 1)), (5, .int 1), (0, .ref 40), (1, .int (nI P)), (2, .int (bI (held = true))), (3, .int (nI w))]) dX6_tickOn_100 5 rfl rfl (by decide) rfl ?_
      refine go_goto 9 dX6_tickOn_103 (by decide) ?_
      exact Go.pick [2, 3, 4, 5, 0] rfl h

set_option maxRecDepth 100000 in
theorem sX6_tickOn_109 {G : GX} {d : Nat} {mem : Mem} {Φ : Option Value → Mem → Prop} (P : Nat) (held : Bool) (w i kk pp hh uu : Nat) (h : (vp_in ((nI P) + 20) 138) ∧ (((mem 41 (((nI P) + 20) : Int32).toNatClampNeg) ≤ (nI i) → (vp_in ((nI P) + 22) 138) ∧ ∀ m3 : Mem, m3 = (um mem 41 (((nI P) + 22) : Int32).toNatClampNeg ((mem 41 (((nI P) + 22) : Int32).toNatClampNeg) + 1)) → Φ (some (.int (nI w))) m3) ∧ (¬ (mem 41 (((nI P) + 20) : Int32).toNatClampNeg) ≤ (nI i) → (((nI w) ≤ 0 → (vp_in ((nI P) + 22) 138) ∧ ∀ m5 : Mem, m5 = (um mem 41 (((nI P) + 22) : Int32).toNatClampNeg ((mem 41 (((nI P) + 22) : Int32).toNatClampNeg) + 1)) → Φ (some (.int (nI w))) m5) ∧ (¬ (nI w) ≤ 0 → ((held = true → (vp_in ((nI P) + 22) 138) ∧ ∀ m7 : Mem, m7 = (um mem 41 (((nI P) + 22) : Int32).toNatClampNeg ((mem 41 (((nI P) + 22) : Int32).toNatClampNeg) + 1)) → Φ (some (.int (nI w))) m7) ∧ (¬ (held = true) → ((¬ (((nI w) >>> ((nI i) &&& 31)) &&& 1) = 0 → Go G (d + 2) mX6_tickOn 109 [(0, .ref 40), (1, .int (nI P)), (2, .int (bI (held = true))), (3, .int (nI w)), (4, .int ((nI i) + 1))] [] mem Φ) ∧ ((((nI w) >>> ((nI i) &&& 31)) &&& 1) = 0 → (w < 1073741824) ∧ (P ≤ 115 ∧ i < 5) ∧ (kk ≤ 3 ∧ 2 ≤ pp ∧ pp ≤ 30 ∧ hh < 1000000 ∧ 1 ≤ (pcF 32 w) ∧ (pcF 32 w) ≤ 5 ∧ uu ≤ 5) ∧ (mem 41 (P + i) = nI kk) ∧ (mem 41 (P + 5 + i) = nI pp) ∧ (mem 41 (P + 10 + i) = nI hh) ∧ (mem 41 (P + 21) = nI uu - 1) ∧ ∀ m15 : Mem, m15 = (um mem 41 (P + 10 + i) (nI (shN kk pp hh (pcF 32 w) uu))) → Go G (d + 2) mX6_tickOn 109 [(0, .ref 40), (1, .int (nI P)), (2, .int (bI (held = true))), (3, .int (nI w)), (4, .int ((nI i) + 1))] [] m15 Φ))))))))) : Go G (d + 2) mX6_tickOn 109 [(0, .ref 40), (1, .int (nI P)), (2, .int (bI (held = true))), (3, .int (nI w)), (4, .int (nI i))] [] mem Φ := by
  refine go_iload dX6_tickOn_109 4 rfl ?_
  refine go_aload_n dX6_tickOn_111 0 rfl ?_
  refine go_getR (kf := 0) (t := 41) rfl rfl rfl uwX6 (by decide) flX6_7 dX6_tickOn_112 ?_
  refine go_iload_n dX6_tickOn_115 1 rfl ?_
  refine go_bipush (v := 20) dX6_tickOn_116 (by decide) ?_
  refine go_iadd dX6_tickOn_118 ?_
  obtain ⟨c1, h⟩ := h
  refine go_iaload rfl c1 dX6_tickOn_119 ?_
  refine go_icmp_ge 157 dX6_tickOn_120 (by decide) (fun q => ?_) (fun q => ?_)
  · have h := h.1 q
    refine go_aload_n dX6_tickOn_157 0 rfl ?_
    refine go_getR (kf := 0) (t := 41) rfl rfl rfl uwX6 (by decide) flX6_7 dX6_tickOn_158 ?_
    refine go_iload_n dX6_tickOn_161 1 rfl ?_
    refine go_bipush (v := 22) dX6_tickOn_162 (by decide) ?_
    refine go_iadd dX6_tickOn_164 ?_
    refine go_dup2 dX6_tickOn_165 rfl rfl ?_
    obtain ⟨c2, h⟩ := h
    refine go_iaload rfl c2 dX6_tickOn_166 ?_
    refine go_iconst (v := 1) dX6_tickOn_167 (by decide) ?_
    refine go_iadd dX6_tickOn_168 ?_
    refine go_iastore rfl c2 dX6_tickOn_169 ?_
    refine go_mem (fun m3 qm3 => ?_)
    have h := h m3 qm3
    refine go_iload_n dX6_tickOn_170 3 rfl ?_
    exact go_iret rfl dX6_tickOn_171 h
  · have h := h.2 q
    refine go_iload_n dX6_tickOn_123 3 rfl ?_
    refine go_if_le 157 dX6_tickOn_124 (by decide) (fun q => ?_) (fun q => ?_)
    · have h := h.1 q
      refine go_aload_n dX6_tickOn_157 0 rfl ?_
      refine go_getR (kf := 0) (t := 41) rfl rfl rfl uwX6 (by decide) flX6_7 dX6_tickOn_158 ?_
      refine go_iload_n dX6_tickOn_161 1 rfl ?_
      refine go_bipush (v := 22) dX6_tickOn_162 (by decide) ?_
      refine go_iadd dX6_tickOn_164 ?_
      refine go_dup2 dX6_tickOn_165 rfl rfl ?_
      obtain ⟨c4, h⟩ := h
      refine go_iaload rfl c4 dX6_tickOn_166 ?_
      refine go_iconst (v := 1) dX6_tickOn_167 (by decide) ?_
      refine go_iadd dX6_tickOn_168 ?_
      refine go_iastore rfl c4 dX6_tickOn_169 ?_
      refine go_mem (fun m5 qm5 => ?_)
      have h := h m5 qm5
      refine go_iload_n dX6_tickOn_170 3 rfl ?_
      exact go_iret rfl dX6_tickOn_171 h
    · have h := h.2 q
      refine go_iload_n dX6_tickOn_127 2 rfl ?_
      refine go_if_ne 157 dX6_tickOn_128 (by decide) (fun q => ?_) (fun q => ?_)
      · have h := h.1 (bI1.mp q)
        refine go_aload_n dX6_tickOn_157 0 rfl ?_
        refine go_getR (kf := 0) (t := 41) rfl rfl rfl uwX6 (by decide) flX6_7 dX6_tickOn_158 ?_
        refine go_iload_n dX6_tickOn_161 1 rfl ?_
        refine go_bipush (v := 22) dX6_tickOn_162 (by decide) ?_
        refine go_iadd dX6_tickOn_164 ?_
        refine go_dup2 dX6_tickOn_165 rfl rfl ?_
        obtain ⟨c6, h⟩ := h
        refine go_iaload rfl c6 dX6_tickOn_166 ?_
        refine go_iconst (v := 1) dX6_tickOn_167 (by decide) ?_
        refine go_iadd dX6_tickOn_168 ?_
        refine go_iastore rfl c6 dX6_tickOn_169 ?_
        refine go_mem (fun m7 qm7 => ?_)
        have h := h m7 qm7
        refine go_iload_n dX6_tickOn_170 3 rfl ?_
        exact go_iret rfl dX6_tickOn_171 h
      · have h := h.2 (bI0.mp q)
        refine go_iload_n dX6_tickOn_131 3 rfl ?_
        refine go_iload dX6_tickOn_132 4 rfl ?_
        refine go_ishr dX6_tickOn_134 ?_
        refine go_iconst (v := 1) dX6_tickOn_135 (by decide) ?_
        refine go_iand dX6_tickOn_136 ?_
        refine go_if_ne 151 dX6_tickOn_137 (by decide) (fun q => ?_) (fun q => ?_)
        · have h := h.1 q
          refine go_iinc (v := ((nI i) + 1)) (L2 := [(4, .int ((nI i) + 1)), (0, .ref 40), (1, .int (nI P)), (2, .int (bI (held = true))), (3, .int (nI w))]) dX6_tickOn_151 4 rfl rfl (by decide) rfl ?_
          refine go_goto 109 dX6_tickOn_154 (by decide) ?_
          exact Go.pick [1, 2, 3, 4, 0] rfl h
        · have h := h.2 q
          refine go_aload_n dX6_tickOn_140 0 rfl ?_
          refine go_iload_n dX6_tickOn_141 1 rfl ?_
          refine go_iload dX6_tickOn_142 4 rfl ?_
          refine go_iload_n dX6_tickOn_144 3 rfl ?_
          obtain ⟨c8, h⟩ := h
          refine go_callS (st := [.int (nI i), .int (nI P), .ref 40]) (kX6_bitsOf (d + 1) (w) c8) okX6_bitsOf staX6_bitsOf lkX6_127 rfl rfl (Nat.le_of_ble_eq_true rfl) dX6_tickOn_145 (fun v_ m2_ q => ?_)
          rw [q.1, q.2]
          refine go_stk (st2 := [.int (nI (pcF 32 (w))), .int (nI i), .int (nI P), .ref 40]) rfl ?_
          obtain ⟨c9, h⟩ := h
          obtain ⟨c10, h⟩ := h
          obtain ⟨c11, h⟩ := h
          obtain ⟨c12, h⟩ := h
          obtain ⟨c13, h⟩ := h
          obtain ⟨c14, h⟩ := h
          refine go_callV (st := []) (kX6_pushedOn (d + 0) P i (pcF 32 w) kk pp hh uu c9 c10 c11 c12 c13 c14) rfl rfl okX6_pushedOn insX6_pushedOn selX6_pushedOn lkX6_130 rfl rfl (Nat.le_of_ble_eq_true rfl) dX6_tickOn_148 (fun v_ m2_ q => ?_)
          rw [q.1, q.2]
          refine go_stk (st2 := []) rfl ?_
          refine go_mem (fun m15 qm15 => ?_)
          have h := h m15 qm15
          refine go_iinc (v := ((nI i) + 1)) (L2 := [(4, .int ((nI i) + 1)), (0, .ref 40), (1, .int (nI P)), (2, .int (bI (held = true))), (3, .int (nI w))]) dX6_tickOn_151 4 rfl rfl (by decide) rfl ?_
          refine go_goto 109 dX6_tickOn_154 (by decide) ?_
          exact Go.pick [1, 2, 3, 4, 0] rfl h


theorem fS {n i : Nat} {s s2 : Nat → Int32} {f g : Nat → Nat} (h : ∀ j, j < n → s j = nI (if j < i then f j else g j)) (e : ∀ j, j < n → s2 j = if j = i then nI (f i) else s j) : ∀ j, j < n → s2 j = nI (if j < i + 1 then f j else g j) := by
  intro j hj
  rw [e j hj]
  by_cases q : j = i
  · subst q
    rw [if_pos rfl, if_pos (Nat.lt_succ_self j)]
  · rw [if_neg q, h j hj]
    by_cases z : j < i
    · rw [if_pos z, if_pos (by omega)]
    · rw [if_neg z, if_neg (by omega)]
theorem fK {n i : Nat} {s s2 : Nat → Int32} {f g : Nat → Nat} (h : ∀ j, j < n → s j = nI (if j < i then f j else g j)) (e : ∀ j, j < n → s2 j = s j) (hfg : f i = g i) : ∀ j, j < n → s2 j = nI (if j < i + 1 then f j else g j) := by
  intro j hj
  rw [e j hj, h j hj]
  by_cases q : j = i
  · subst q
    rw [if_neg (Nat.lt_irrefl j), if_pos (Nat.lt_succ_self j), hfg]
  · by_cases z : j < i
    · rw [if_pos z, if_pos (by omega)]
    · rw [if_neg z, if_neg (by omega)]
theorem hk_if {a b c : Nat} {x y : Int32} (h : a = b ↔ c = 0) : (if a = b then x else y) = if c = 0 then x else y := by
  by_cases q : c = 0
  · rw [if_pos q, if_pos (h.mpr q)]
  · rw [if_neg q, if_neg (fun z => q (h.mp z))]
theorem um41 {m : Mem} {a b : Nat} {x : Int32} (h : b ≠ a) : um m 41 a x 41 b = m 41 b := by rw [um_at, if_neg h]
set_option maxHeartbeats 4000000 in
theorem lX6_tick9 {G : GX} {d : Nat} {Φ : Option Value → Mem → Prop} {P : Nat} (hP : P ≤ 115) {X : Bm} {g B : Nat} (hV : VX g B X) (held : Bool) {mem0 : Mem} (hR : RepM mem0 P X)
    (hend : ∀ m : Mem, (∀ k, k ≠ 41 → m k = mem0 k) → (∀ j, (j < P + 10 ∨ P + 20 ≤ j) → m 41 j = mem0 41 j) → (∀ j, j < xn X → m 41 (P + 10 + j) = nI (mvh g X j)) → (∀ j, j < xn X → m 41 (P + 15 + j) = nI (mve g X j)) → Go G (d + 2) mX6_tickOn 109 [(0, .ref 40), (1, .int (nI P)), (2, .int (bI (held = true))), (3, .int (nI (who g X))), (4, .int 0)] [] m Φ) :
    ∀ (r i : Nat) (m : Mem), i + r = xn X → (∀ k, k ≠ 41 → m k = mem0 k) → (∀ j, (j < P + 10 ∨ P + 20 ≤ j) → m 41 j = mem0 41 j) → (∀ j, j < xn X → m 41 (P + 10 + j) = nI (if j < i then mvh g X j else xh X j)) → (∀ j, j < xn X → m 41 (P + 15 + j) = nI (if j < i then mve g X j else xe X j)) →
      Go G (d + 2) mX6_tickOn 9 [(0, .ref 40), (1, .int (nI P)), (2, .int (bI (held = true))), (3, .int (nI (who g X))), (4, .int (nI i))] [] m Φ := by
  intro r
  have hn := hV.1
  induction r with
  | zero =>
    intro i m hi hf hf2 h3 h4
    have hi2 : i = xn X := by omega
    have e20 : m 41 (P + 20) = nI (xn X) := by rw [hf2 _ (by omega)]; exact hR.1
    refine sX6_tickOn_9 P held _ i ⟨v20 hP, ?_⟩
    rw [q20 hP, e20, hi2]
    rw [hi2] at h3 h4
    exact ⟨fun _ => hend m hf hf2 (fun j hj => by rw [h3 j hj, if_pos hj]) (fun j hj => by rw [h4 j hj, if_pos hj]), fun q => absurd (Int32.le_refl _) q⟩
  | succ r ih =>
    intro i m hi hf hf2 h3 h4
    have hin : i < xn X := by omega
    have e20 : m 41 (P + 20) = nI (xn X) := by rw [hf2 _ (by omega)]; exact hR.1
    have e10 : m 41 (P + 10 + i) = nI (xh X i) := by rw [h3 i hin, if_neg (Nat.lt_irrefl i)]
    have e15 : m 41 (P + 15 + i) = nI (xe X i) := by rw [h4 i hin, if_neg (Nat.lt_irrefl i)]
    refine sX6_tickOn_9 P held _ i ⟨v20 hP, ?_⟩
    rw [q20 hP, e20, q10c (show P + i < 128 by omega), q15c (show P + i < 128 by omega), e15, who_bit hV hin, nI_1]
    refine ⟨fun q => absurd ((nle (by omega) (by omega)).mp q) (by omega), fun _ => ?_⟩
    by_cases hb : bt g X i = true
    · rw [if_pos hb]
      refine ⟨fun q => absurd rfl q, fun _ => ⟨v15c hP (by omega), fun m7 q7 => ⟨v10c (by omega), fun m9 q9 => ?_⟩⟩⟩
      refine ih (i + 1) m9 (by omega) (fun k hk => by rw [q9, um_ne hk, q7, um_ne hk]; exact hf k hk) (fun j hj => by rw [q9, um41 (by omega), q7, um41 (by omega)]; exact hf2 j hj) (fS h3 (fun j hj => ?_)) (fS h4 (fun j hj => ?_))
      · rw [q9, um_at, q7, um41 (show P + 10 + j ≠ P + 15 + i by omega)]
        unfold mvh
        rw [if_pos hb]
        by_cases z : j = i
        · rw [if_pos z, if_pos (by omega)]; rfl
        · rw [if_neg z, if_neg (by omega)]
      · rw [q9, um41 (show P + 15 + j ≠ P + 10 + i by omega), q7, um_at]
        unfold mve
        rw [if_pos hb, nI_1]
        by_cases z : j = i
        · rw [if_pos z, if_pos (by omega)]
        · rw [if_neg z, if_neg (by omega)]
    · rw [if_neg hb]
      refine ⟨fun _ => ⟨v15c hP (by omega), fun m3 q3 => ?_⟩, fun q => absurd q (by decide)⟩
      have e3 : m3 41 (P + 10 + i) = nI (xh X i) := by rw [q3, um41 (show P + 10 + i ≠ P + 15 + i by omega)]; exact e10
      refine ⟨v10c (by omega), ?_⟩
      rw [e3, nI_1]
      intro m5 q5
      refine ih (i + 1) m5 (by omega) (fun k hk => by rw [q5, um_ne hk, q3, um_ne hk]; exact hf k hk) (fun j hj => by rw [q5, um41 (by omega), q3, um41 (by omega)]; exact hf2 j hj) (fS h3 (fun j hj => ?_)) (fK h4 (fun j hj => ?_) ?_)
      · rw [q5, um_at, q3, um41 (show P + 10 + j ≠ P + 15 + i by omega)]
        unfold mvh
        rw [if_neg hb]
        by_cases z : j = i
        · rw [if_pos z, if_pos (by omega)]
        · rw [if_neg z, if_neg (by omega)]
      · rw [q5, um41 (show P + 15 + j ≠ P + 10 + i by omega), q3, um_at]
        by_cases z : j = i
        · rw [if_pos (by omega), z, e15]; exact Int32.add_zero _
        · rw [if_neg (by omega)]
      · unfold mve
        rw [if_neg hb]
/-- the page behind a tick -/
theorem RepM_tick {m0 m m3 : Mem} {P : Nat} {X : Bm} {g : Nat} {held : Bool} (hR : RepM m0 P X) (hn : xn X ≤ 5) (hf : ∀ k, k ≠ 41 → m k = m0 k) (hf2 : ∀ j, (j < P + 10 ∨ P + 20 ≤ j) → m 41 j = m0 41 j) (h3 : ∀ j, j < xn X → m 41 (P + 10 + j) = nI (tkh g held X j)) (h4 : ∀ j, j < xn X → m 41 (P + 15 + j) = nI (mve g X j)) (e : m3 = um m 41 (P + 22) (m 41 (P + 22) + 1)) : RepM m3 P (tkX g held X) ∧ FrM P m0 m3 := by
  have f3 : ∀ j, j ≠ P + 22 → m3 41 j = m 41 j := fun j hj => by rw [e, um41 hj]
  refine ⟨⟨?_, ?_, ?_, fun c hc => ⟨?_, ?_, ?_, ?_⟩⟩, fun k hk => by rw [e, um_ne hk]; exact hf k hk, fun j hj => by rw [f3 j (by omega)]; exact hf2 j (by omega)⟩
  · rw [f3 _ (by omega), hf2 _ (by omega)]; exact hR.1
  · rw [f3 _ (by omega), hf2 _ (by omega)]; exact hR.2.1
  · rw [e, um_same, hf2 _ (by omega), hR.2.2.1]; exact nI_1 _
  · have hc2 : c < xn X := hc
    rw [f3 _ (by omega), hf2 _ (by omega)]; exact (hR.2.2.2 c hc2).1
  · have hc2 : c < xn X := hc
    rw [f3 _ (by omega), hf2 _ (by omega)]; exact (hR.2.2.2 c hc2).2.1
  · have hc2 : c < xn X := hc
    rw [f3 _ (by omega)]; exact h3 c hc2
  · have hc2 : c < xn X := hc
    rw [f3 _ (by omega)]; exact h4 c hc2
set_option maxHeartbeats 4000000 in
theorem lX6_tick109 {G : GX} {d : Nat} {P : Nat} (hP : P ≤ 115) {X : Bm} {g B : Nat} (hV : VX g B X) (hB : B < 900000) (hm : many g X ≠ 0) {mem0 : Mem} (hR : RepM mem0 P X) :
    ∀ (r i : Nat) (m : Mem), i + r = xn X → (∀ k, k ≠ 41 → m k = mem0 k) → (∀ j, (j < P + 10 ∨ P + 20 ≤ j) → m 41 j = mem0 41 j) → (∀ j, j < xn X → m 41 (P + 10 + j) = nI (if j < i then tkh g false X j else mvh g X j)) → (∀ j, j < xn X → m 41 (P + 15 + j) = nI (mve g X j)) →
      Go G (d + 2) mX6_tickOn 109 [(0, .ref 40), (1, .int (nI P)), (2, .int (bI (false = true))), (3, .int (nI (who g X))), (4, .int (nI i))] [] m (Ri (nI (who g X)) (fun m2 => RepM m2 P (tkX g false X) ∧ FrM P mem0 m2)) := by
  intro r
  have hn := hV.1
  have hw := who_lt hV
  have hml := many_le hV
  induction r with
  | zero =>
    intro i m hi hf hf2 h3 h4
    have hi2 : i = xn X := by omega
    have e20 : m 41 (P + 20) = nI (xn X) := by rw [hf2 _ (by omega)]; exact hR.1
    refine sX6_tickOn_109 P false _ i 0 0 0 0 ⟨v20 hP, ?_⟩
    rw [q20 hP, q22 hP, e20, hi2]
    rw [hi2] at h3
    exact ⟨fun _ => ⟨v22 hP, fun m3 q3 => ⟨rfl, RepM_tick hR hn hf hf2 (fun j hj => by rw [h3 j hj, if_pos hj]) h4 q3⟩⟩, fun q => absurd (Int32.le_refl _) q⟩
  | succ r ih =>
    intro i m hi hf hf2 h3 h4
    have hin : i < xn X := by omega
    obtain ⟨a1, a2, a3, a4, a5⟩ := hV.2.2 i hin
    have hh : xh X i < 990000 := by
      by_cases q : i = g
      · have := a5 q; omega
      · have := a4 q; omega
    have e20 : m 41 (P + 20) = nI (xn X) := by rw [hf2 _ (by omega)]; exact hR.1
    refine sX6_tickOn_109 P false _ i (xk X i) (xp X i) (xh X i + 1) (xu X) ⟨v20 hP, ?_⟩
    rw [q20 hP, e20, who_bit hV hin, nI_1, who_pc hV]
    refine ⟨fun q => absurd ((nle (by omega) (by omega)).mp q) (by omega), fun _ => ⟨fun q => absurd (who0.mp (by have := (nle (b := 0) (by omega) (by omega)).mp q; omega)) hm, fun _ => ⟨fun q => (by cases q), fun _ => ?_⟩⟩⟩
    by_cases hb : bt g X i = true
    · rw [if_pos hb]
      refine ⟨fun _ => ?_, fun q => absurd q (by decide)⟩
      exact ih (i + 1) m (by omega) hf hf2 (fK h3 (fun _ _ => rfl) (by unfold tkh mvh; rw [if_pos hb, if_pos hb])) h4
    · rw [if_neg hb]
      refine ⟨fun q => absurd rfl q, fun _ => ⟨by omega, ⟨hP, by omega⟩, ⟨a1, a2, a3, by omega, by omega, hml, hV.2.1⟩, ?_, ?_, ?_, ?_, fun m15 q15 => ?_⟩⟩
      · rw [hf2 _ (by omega)]; exact (hR.2.2.2 i hin).1
      · rw [hf2 _ (by omega)]; exact (hR.2.2.2 i hin).2.1
      · rw [h3 i hin, if_neg (Nat.lt_irrefl i)]; unfold mvh; rw [if_neg hb]
      · rw [hf2 _ (by omega)]; exact hR.2.1
      · have e : tkh g false X i = shN (xk X i) (xp X i) (xh X i + 1) (many g X) (xu X) := by
          unfold tkh
          rw [if_neg hb, if_neg (fun z => z.elim (fun z => by cases z) hm)]
        refine ih (i + 1) m15 (by omega) (fun k hk => by rw [q15, um_ne hk]; exact hf k hk) (fun j hj => by rw [q15, um41 (by omega)]; exact hf2 j hj) (fS h3 (fun j hj => ?_)) (fun j hj => by rw [q15, um41 (by omega)]; exact h4 j hj)
        rw [q15, um_at, e]
        by_cases z : j = i
        · rw [if_pos z, if_pos (by omega)]
        · rw [if_neg z, if_neg (by omega)]
set_option maxHeartbeats 4000000 in
theorem kX6_tickOn {G : GX} (d : Nat) {mem : Mem} (P : Nat) (held : Bool) (X : Bm) (g B : Nat) (hP : P ≤ 115) (hg : g < 10 ∧ 30 ≤ B ∧ B < 900000) (hV : VX g B X) (hR : RepM mem P X) (hG : mem 40 14 = goI g) : Cn G (d + 2) mX6_tickOn [.ref 40, .int (nI P), .int (bI (held = true))] mem (Ri (nI (who g X)) (fun m2 => RepM m2 P (tkX g held X) ∧ FrM P mem m2)) := by
  have hw := who_lt hV
  have hn := hV.1
  refine cn_of (by decide +kernel) (Nat.le_of_ble_eq_true rfl) (sX6_tickOn_0 P held X g B ⟨hP, ⟨hg.1, hg.2.2⟩, hV, hR, hG, ?_⟩)
  refine lX6_tick9 hP hV held hR (fun m hf hf2 h3 h4 => ?_) (xn X) 0 mem (by omega) (fun _ _ => rfl) (fun _ _ => rfl) (fun j hj => by rw [if_neg (by omega)]; exact (hR.2.2.2 j hj).2.2.1) (fun j hj => by rw [if_neg (by omega)]; exact (hR.2.2.2 j hj).2.2.2)
  by_cases hq : held = true ∨ many g X = 0
  · have fin : ∀ m3 : Mem, m3 = um m 41 (P + 22) (m 41 (P + 22) + 1) → Ri (nI (who g X)) (fun m2 => RepM m2 P (tkX g held X) ∧ FrM P mem m2) (some (.int (nI (who g X)))) m3 := fun m3 q3 => ⟨rfl, RepM_tick hR hn hf hf2 (fun j hj => by rw [tkh_quiet hq]; exact h3 j hj) h4 q3⟩
    refine sX6_tickOn_109 P held _ 0 0 0 0 0 ⟨v20 hP, ?_⟩
    rw [q20 hP, q22 hP]
    refine ⟨fun _ => ⟨v22 hP, fin⟩, fun _ => ⟨fun _ => ⟨v22 hP, fin⟩, fun q => ⟨fun _ => ⟨v22 hP, fin⟩, fun q2 => ?_⟩⟩⟩
    rcases hq with z | z
    · exact absurd z q2
    · exact absurd (by rw [who0.mpr z]; decide) q
  · have hl : held = false := by
      cases held
      · rfl
      · exact absurd (Or.inl rfl) hq
    subst hl
    exact lX6_tick109 hP hV hg.2.2 (fun z => hq (Or.inr z)) hR (xn X) 0 m (by omega) hf hf2 (fun j hj => by rw [if_neg (by omega)]; exact h3 j hj) h4
