
def ccI : Option Nat → Int32
  | none => -4
  | some c => nI c
def ccF (X : Bm) : Option Nat → Nat → Nat → Nat → Nat
  | none, v, n => mnc X v n
  | some c, v, n => lkc X c v n
def wtJ (hd v j : Nat) : Nat := pwN v (pcF j hd) * pwN (10 - v) (j - pcF j hd)
theorem pcF_s (j w : Nat) : pcF (j + 1) w = pcF j w + w / 2 ^ j % 2 := pcF_add j 1 w
theorem pcF_le : ∀ (j w : Nat), pcF j w ≤ j
  | 0, _ => Nat.le_refl _
  | j + 1, w => by
    have := pcF_le j (w / 2)
    show w % 2 + pcF j (w / 2) ≤ j + 1
    omega
theorem wtJ_1 {hd v j : Nat} (h : hd / 2 ^ j % 2 = 1) : wtJ hd v (j + 1) = wtJ hd v j * v := by
  unfold wtJ
  rw [pcF_s, h, show j + 1 - (pcF j hd + 1) = j - pcF j hd by omega]
  show pwN v (pcF j hd) * v * _ = _
  rw [Nat.mul_assoc, Nat.mul_comm v, ← Nat.mul_assoc]
theorem wtJ_0 {hd v j : Nat} (h : hd / 2 ^ j % 2 = 0) : wtJ hd v (j + 1) = wtJ hd v j * (10 - v) := by
  have := pcF_le j hd
  unfold wtJ
  rw [pcF_s, h, Nat.add_zero, show j + 1 - pcF j hd = (j - pcF j hd) + 1 by omega]
  show _ * (pwN (10 - v) (j - pcF j hd) * (10 - v)) = _
  rw [← Nat.mul_assoc]
theorem wtJ_n {hd v n : Nat} (hn : n ≤ 8) (hh : hd < 2 ^ n) : wtJ hd v n = wtN hd v n := by
  have e : pcF 32 hd = pcF n hd := by
    have k := pcF_add n (32 - n) hd
    rw [show n + (32 - n) = 32 by omega, Nat.div_eq_of_lt hh, pcF_0, Nat.add_zero] at k
    exact k
  unfold wtJ wtN
  rw [e]
theorem pc_many {g B : Nat} {X : Bm} (h : VX g B X) : pcF 32 (who g X) = many g X := by
  rw [pcF_small _ (who_lt h)]
  exact whF_pop _ h.1
theorem hfI_1 {hd j : Nat} (hh : hd < 256) (hj : j < 8) (h : hd / 2 ^ j % 2 = 1) : hfI (nI hd) j = true := by
  unfold hfI
  rw [bitN (by omega) (by omega), h]
  exact decide_eq_true ⟨by omega, by decide⟩
theorem hfI_0 {hd j : Nat} (hh : hd < 256) (hj : j < 8) (h : hd / 2 ^ j % 2 = 0) : hfI (nI hd) j = false := by
  unfold hfI
  rw [bitN (by omega) (by omega), h]
  exact decide_eq_false (fun z => z.2 rfl)

set_option maxRecDepth 100000 in
theorem sX6_byHeld_0 {G : GX} {d : Nat} {mem : Mem} {Φ : Option Value → Mem → Prop} (a1 a2 a3 a4 : Int32) (h : Go G (d + 3) mX6_byHeld 9 [(0, .ref 40), (1, .int a1), (2, .int a2), (3, .int a3), (4, .int a4), (5, .long 0), (7, .long 1), (9, .int 0)] [] mem Φ) : Go G (d + 3) mX6_byHeld 0 [(0, .ref 40), (1, .int a1), (2, .int a2), (3, .int a3), (4, .int a4)] [] mem Φ := by
  refine go_lconst (v := 0) dX6_byHeld_0 (by decide) ?_
  refine go_lstore (L2 := [(5, .long 0), (0, .ref 40), (1, .int a1), (2, .int a2), (3, .int a3), (4, .int a4)]) dX6_byHeld_1 (by decide) rfl ?_
  refine go_lconst (v := 1) dX6_byHeld_3 (by decide) ?_
  refine go_lstore (L2 := [(7, .long 1), (5, .long 0), (0, .ref 40), (1, .int a1), (2, .int a2), (3, .int a3), (4, .int a4)]) dX6_byHeld_4 (by decide) rfl ?_
  refine go_iconst (v := 0) dX6_byHeld_6 (by decide) ?_
  refine go_istore (L2 := [(9, .int 0), (7, .long 1), (5, .long 0), (0, .ref 40), (1, .int a1), (2, .int a2), (3, .int a3), (4, .int a4)]) dX6_byHeld_7 (by decide) rfl ?_
  exact Go.pick [3, 4, 5, 6, 7, 2, 1, 0] rfl h

set_option maxRecDepth 100000 in
theorem sX6_byHeld_9 {G : GX} {d : Nat} {mem : Mem} {Φ : Option Value → Mem → Prop} (a1 a2 a3 a4 : Int32) (s pw : Int64) (i : Nat) (h : ((a3 ≤ (nI i) → Go G (d + 3) mX6_byHeld 32 [(0, .ref 40), (1, .int a1), (2, .int a2), (3, .int a3), (4, .int a4), (5, .long s), (7, .long pw), (9, .int 0)] [] mem Φ) ∧ (¬ a3 ≤ (nI i) → ∀ y1 : Int64, y1 = (pw * 10) → Go G (d + 3) mX6_byHeld 9 [(0, .ref 40), (1, .int a1), (2, .int a2), (3, .int a3), (4, .int a4), (5, .long s), (7, .long y1), (9, .int ((nI i) + 1))] [] mem Φ))) : Go G (d + 3) mX6_byHeld 9 [(0, .ref 40), (1, .int a1), (2, .int a2), (3, .int a3), (4, .int a4), (5, .long s), (7, .long pw), (9, .int (nI i))] [] mem Φ := by
  refine go_iload dX6_byHeld_9 7 rfl ?_
  refine go_iload_n dX6_byHeld_11 3 rfl ?_
  refine go_icmp_ge 29 dX6_byHeld_12 (by decide) (fun q => ?_) (fun q => ?_)
  · have h := h.1 q
    refine go_iconst (v := 0) dX6_byHeld_29 (by decide) ?_
    refine go_istore (L2 := [(9, .int 0), (0, .ref 40), (1, .int a1), (2, .int a2), (3, .int a3), (4, .int a4), (5, .long s), (7, .long pw)]) dX6_byHeld_30 (by decide) rfl ?_
    exact Go.pick [1, 2, 3, 4, 5, 6, 7, 0] rfl h
  · have h := h.2 q
    refine go_lload dX6_byHeld_15 6 rfl ?_
    refine go_ldc2 klX6_192 dX6_byHeld_17 ?_
    refine go_lmul dX6_byHeld_20 ?_
    refine go_topl (fun y1 qy1 => ?_)
    have h := h y1 qy1
    refine go_lstore (L2 := [(7, .long y1), (0, .ref 40), (1, .int a1), (2, .int a2), (3, .int a3), (4, .int a4), (5, .long s), (9, .int (nI i))]) dX6_byHeld_21 (by decide) rfl ?_
    refine go_iinc (v := ((nI i) + 1)) (L2 := [(9, .int ((nI i) + 1)), (7, .long y1), (0, .ref 40), (1, .int a1), (2, .int a2), (3, .int a3), (4, .int a4), (5, .long s)]) dX6_byHeld_23 7 rfl rfl (by decide) rfl ?_
    refine go_goto 9 dX6_byHeld_26 (by decide) ?_
    exact Go.pick [2, 3, 4, 5, 6, 7, 1, 0] rfl h

set_option maxRecDepth 100000 in
theorem sX6_byHeld_32 {G : GX} {d : Nat} {mem : Mem} {Φ : Option Value → Mem → Prop} (a1 a2 a3 a4 : Int32) (s pw : Int64) (hd sm pm : Nat) (h : (((1 <<< (a3 &&& 31)) ≤ (nI hd) → (s = lN sm ∧ pw = lN pm) ∧ (sm < 2 ^ 62 ∧ pm < 2 ^ 60 ∧ 0 < pm) ∧ Φ (some (.long (lN (frN sm pm a4)))) mem) ∧ (¬ (1 <<< (a3 &&& 31)) ≤ (nI hd) → (0 = nI 0 ∧ 92 = nI 92) ∧ (0 ≤ 115 ∧ 92 ≤ 115 ∧ (0 + 23 ≤ 92 ∨ 92 + 23 ≤ 0)) ∧ Go G (d + 3) mX6_byHeld 56 [(0, .ref 40), (1, .int a1), (2, .int a2), (3, .int a3), (4, .int a4), (5, .long s), (7, .long pw), (9, .int (nI hd)), (10, .long 1), (12, .int 0), (13, .int 0)] [] (cpM mem 0 92) Φ))) : Go G (d + 3) mX6_byHeld 32 [(0, .ref 40), (1, .int a1), (2, .int a2), (3, .int a3), (4, .int a4), (5, .long s), (7, .long pw), (9, .int (nI hd))] [] mem Φ := by
  refine go_iload dX6_byHeld_32 7 rfl ?_
  refine go_iconst (v := 1) dX6_byHeld_34 (by decide) ?_
  refine go_iload_n dX6_byHeld_35 3 rfl ?_
  refine go_ishl dX6_byHeld_36 ?_
  refine go_icmp_ge 158 dX6_byHeld_37 (by decide) (fun q => ?_) (fun q => ?_)
  · have h := h.1 q
    refine go_lload dX6_byHeld_158 5 rfl ?_
    refine go_lload dX6_byHeld_160 6 rfl ?_
    refine go_iload dX6_byHeld_162 4 rfl ?_
    obtain ⟨c1, h⟩ := h
    obtain ⟨c2, h⟩ := h
    refine go_callS (st := []) (kX6_lowestI (d + 2) s pw a4 sm pm c1 c2) okX6_lowest staX6_lowest lkX6_194 rfl rfl (Nat.le_of_ble_eq_true rfl) dX6_byHeld_164 (fun v_ m2_ q => ?_)
    rw [q.1, q.2]
    refine go_stk (st2 := [.long (lN (frN sm pm a4))]) rfl ?_
    exact go_lret rfl dX6_byHeld_167 h
  · have h := h.2 q
    refine go_lconst (v := 1) dX6_byHeld_40 (by decide) ?_
    refine go_lstore (L2 := [(10, .long 1), (0, .ref 40), (1, .int a1), (2, .int a2), (3, .int a3), (4, .int a4), (5, .long s), (7, .long pw), (9, .int (nI hd))]) dX6_byHeld_41 (by decide) rfl ?_
    refine go_iconst (v := 0) dX6_byHeld_43 (by decide) ?_
    refine go_istore (L2 := [(12, .int 0), (10, .long 1), (0, .ref 40), (1, .int a1), (2, .int a2), (3, .int a3), (4, .int a4), (5, .long s), (7, .long pw), (9, .int (nI hd))]) dX6_byHeld_44 (by decide) rfl ?_
    refine go_aload_n dX6_byHeld_46 2 rfl ?_
    refine go_iconst (v := 0) dX6_byHeld_47 (by decide) ?_
    refine go_bipush (v := 92) dX6_byHeld_48 (by decide) ?_
    obtain ⟨c3, h⟩ := h
    obtain ⟨c4, h⟩ := h
    refine go_callV (st := []) (kX6_copiesI (d + 2) 0 92 0 92 c3 c4) rfl rfl okX6_copies insX6_copies selX6_copies lkX6_161 rfl rfl (Nat.le_of_ble_eq_true rfl) dX6_byHeld_50 (fun v_ m2_ q => ?_)
    rw [q.1, q.2]
    refine go_stk (st2 := []) rfl ?_
    refine go_iconst (v := 0) dX6_byHeld_53 (by decide) ?_
    refine go_istore (L2 := [(13, .int 0), (12, .int 0), (10, .long 1), (0, .ref 40), (1, .int a1), (2, .int a2), (3, .int a3), (4, .int a4), (5, .long s), (7, .long pw), (9, .int (nI hd))]) dX6_byHeld_54 (by decide) rfl ?_
    exact Go.pick [3, 4, 5, 6, 7, 8, 9, 10, 2, 1, 0] rfl h

set_option maxRecDepth 100000 in
theorem sX6_byHeld_56 {G : GX} {d : Nat} {mem : Mem} {Φ : Option Value → Mem → Prop} (a1 a2 a3 a4 : Int32) (s pw : Int64) (hd : Nat) (wt : Int64) (b : Int32) (j : Nat) (X : Bm) (h : ((a3 ≤ (nI j) → ((¬ a2 = (-4) → (92 = nI 92) ∧ (92 ≤ 115) ∧ (9 < 10 ∧ 30 < 900000) ∧ (VX 9 30 (itX 9 (hfI (nI hd)) X j)) ∧ (RepM mem 92 (itX 9 (hfI (nI hd)) X j)) ∧ (mem 40 14 = goI 9) ∧ ∀ y7 : Int64, y7 = (s + (wt * (((((nI (who 9 (itX 9 (hfI (nI hd)) X j))) >>> (a2 &&& 31)) &&& 1) : Int32).toInt64))) → Go G (d + 3) mX6_byHeld 32 [(0, .ref 40), (1, .int a1), (2, .int a2), (3, .int a3), (4, .int a4), (5, .long y7), (7, .long pw), (9, .int ((nI hd) + 1))] [] mem Φ) ∧ (a2 = (-4) → ∀ y8 : Int64, y8 = (s + (wt * ((b : Int32).toInt64))) → Go G (d + 3) mX6_byHeld 32 [(0, .ref 40), (1, .int a1), (2, .int a2), (3, .int a3), (4, .int a4), (5, .long y8), (7, .long pw), (9, .int ((nI hd) + 1))] [] mem Φ))) ∧ (¬ a3 ≤ (nI j) → ((¬ (((nI hd) >>> ((nI j) &&& 31)) &&& 1) = 1 → ∀ y9 : Int64, y9 = (wt * (((10 - a1) : Int32).toInt64)) → (92 = nI 92) ∧ (92 ≤ 115) ∧ (9 < 10 ∧ 30 ≤ 30 ∧ 30 < 900000) ∧ (VX 9 30 (itX 9 (hfI (nI hd)) X j)) ∧ (RepM mem 92 (itX 9 (hfI (nI hd)) X j)) ∧ (mem 40 14 = goI 9) ∧ ∀ m16 : Mem, (RepM m16 92 (tkX 9 false (itX 9 (hfI (nI hd)) X j)) ∧ FrM 92 mem m16) → (who 9 (itX 9 (hfI (nI hd)) X j) < 1073741824) ∧ ∀ y18 : Int32, y18 = (b + (nI (pcF 32 (who 9 (itX 9 (hfI (nI hd)) X j))))) → Go G (d + 3) mX6_byHeld 56 [(0, .ref 40), (1, .int a1), (2, .int a2), (3, .int a3), (4, .int a4), (5, .long s), (7, .long pw), (9, .int (nI hd)), (10, .long y9), (12, .int y18), (13, .int ((nI j) + 1))] [] m16 Φ) ∧ ((((nI hd) >>> ((nI j) &&& 31)) &&& 1) = 1 → ∀ y19 : Int64, y19 = (wt * ((a1 : Int32).toInt64)) → (92 = nI 92) ∧ (92 ≤ 115) ∧ (9 < 10 ∧ 30 ≤ 30 ∧ 30 < 900000) ∧ (VX 9 30 (itX 9 (hfI (nI hd)) X j)) ∧ (RepM mem 92 (itX 9 (hfI (nI hd)) X j)) ∧ (mem 40 14 = goI 9) ∧ ∀ m26 : Mem, (RepM m26 92 (tkX 9 true (itX 9 (hfI (nI hd)) X j)) ∧ FrM 92 mem m26) → (who 9 (itX 9 (hfI (nI hd)) X j) < 1073741824) ∧ ∀ y28 : Int32, y28 = (b + (nI (pcF 32 (who 9 (itX 9 (hfI (nI hd)) X j))))) → Go G (d + 3) mX6_byHeld 56 [(0, .ref 40), (1, .int a1), (2, .int a2), (3, .int a3), (4, .int a4), (5, .long s), (7, .long pw), (9, .int (nI hd)), (10, .long y19), (12, .int y28), (13, .int ((nI j) + 1))] [] m26 Φ))))) : Go G (d + 3) mX6_byHeld 56 [(0, .ref 40), (1, .int a1), (2, .int a2), (3, .int a3), (4, .int a4), (5, .long s), (7, .long pw), (9, .int (nI hd)), (10, .long wt), (12, .int b), (13, .int (nI j))] [] mem Φ := by
  refine go_iload dX6_byHeld_56 10 rfl ?_
  refine go_iload_n dX6_byHeld_58 3 rfl ?_
  refine go_icmp_ge 122 dX6_byHeld_59 (by decide) (fun q => ?_) (fun q => ?_)
  · have h := h.1 q
    refine go_lload dX6_byHeld_122 5 rfl ?_
    refine go_lload dX6_byHeld_124 8 rfl ?_
    refine go_iload_n dX6_byHeld_126 2 rfl ?_
    refine go_bipush (v := (-4)) dX6_byHeld_127 (by decide) ?_
    refine go_icmp_ne 137 dX6_byHeld_129 (by decide) (fun q => ?_) (fun q => ?_)
    · have h := h.1 q
      refine go_aload_n dX6_byHeld_137 0 rfl ?_
      refine go_bipush (v := 92) dX6_byHeld_138 (by decide) ?_
      obtain ⟨c1, h⟩ := h
      obtain ⟨c2, h⟩ := h
      obtain ⟨c3, h⟩ := h
      obtain ⟨c4, h⟩ := h
      obtain ⟨c5, h⟩ := h
      obtain ⟨c6, h⟩ := h
      refine go_callV (st := [.long wt, .long s]) (kX6_beatsOnI (d + 2) 92 92 (itX 9 (hfI (nI hd)) X j) 9 30 c1 c2 c3 c4 c5 c6) rfl rfl okX6_beatsOn insX6_beatsOn selX6_beatsOn lkX6_124 rfl rfl (Nat.le_of_ble_eq_true rfl) dX6_byHeld_140 (fun v_ m2_ q => ?_)
      rw [q.1, q.2]
      refine go_stk (st2 := [.int (nI (who 9 (itX 9 (hfI (nI hd)) X j))), .long wt, .long s]) rfl ?_
      refine go_iload_n dX6_byHeld_143 2 rfl ?_
      refine go_ishr dX6_byHeld_144 ?_
      refine go_iconst (v := 1) dX6_byHeld_145 (by decide) ?_
      refine go_iand dX6_byHeld_146 ?_
      refine go_i2l dX6_byHeld_147 ?_
      refine go_lmul dX6_byHeld_148 ?_
      refine go_ladd dX6_byHeld_149 ?_
      refine go_topl (fun y7 qy7 => ?_)
      have h := h y7 qy7
      refine go_lstore (L2 := [(5, .long y7), (0, .ref 40), (1, .int a1), (2, .int a2), (3, .int a3), (4, .int a4), (7, .long pw), (9, .int (nI hd)), (10, .long wt), (12, .int b), (13, .int (nI j))]) dX6_byHeld_150 (by decide) rfl ?_
      refine go_iinc (v := ((nI hd) + 1)) (L2 := [(9, .int ((nI hd) + 1)), (5, .long y7), (0, .ref 40), (1, .int a1), (2, .int a2), (3, .int a3), (4, .int a4), (7, .long pw), (10, .long wt), (12, .int b), (13, .int (nI j))]) dX6_byHeld_152 7 rfl rfl (by decide) rfl ?_
      refine go_goto 32 dX6_byHeld_155 (by decide) ?_
      exact Go.pick [2, 3, 4, 5, 6, 1, 7, 0] rfl h
    · have h := h.2 q
      refine go_iload dX6_byHeld_132 9 rfl ?_
      refine go_goto 147 dX6_byHeld_134 (by decide) ?_
      refine go_i2l dX6_byHeld_147 ?_
      refine go_lmul dX6_byHeld_148 ?_
      refine go_ladd dX6_byHeld_149 ?_
      refine go_topl (fun y8 qy8 => ?_)
      have h := h y8 qy8
      refine go_lstore (L2 := [(5, .long y8), (0, .ref 40), (1, .int a1), (2, .int a2), (3, .int a3), (4, .int a4), (7, .long pw), (9, .int (nI hd)), (10, .long wt), (12, .int b), (13, .int (nI j))]) dX6_byHeld_150 (by decide) rfl ?_
      refine go_iinc (v := ((nI hd) + 1)) (L2 := [(9, .int ((nI hd) + 1)), (5, .long y8), (0, .ref 40), (1, .int a1), (2, .int a2), (3, .int a3), (4, .int a4), (7, .long pw), (10, .long wt), (12, .int b), (13, .int (nI j))]) dX6_byHeld_152 7 rfl rfl (by decide) rfl ?_
      refine go_goto 32 dX6_byHeld_155 (by decide) ?_
      exact Go.pick [2, 3, 4, 5, 6, 1, 7, 0] rfl h
  · have h := h.2 q
    refine go_iload dX6_byHeld_62 7 rfl ?_
    refine go_iload dX6_byHeld_64 10 rfl ?_
    refine go_ishr dX6_byHeld_66 ?_
    refine go_iconst (v := 1) dX6_byHeld_67 (by decide) ?_
    refine go_iand dX6_byHeld_68 ?_
    refine go_iconst (v := 1) dX6_byHeld_69 (by decide) ?_
    refine go_icmp_ne 77 dX6_byHeld_70 (by decide) (fun q => ?_) (fun q => ?_)
    · have h := h.1 q
      refine go_iconst (v := 0) dX6_byHeld_77 (by decide) ?_
      refine go_istore (L2 := [(14, .int 0), (0, .ref 40), (1, .int a1), (2, .int a2), (3, .int a3), (4, .int a4), (5, .long s), (7, .long pw), (9, .int (nI hd)), (10, .long wt), (12, .int b), (13, .int (nI j))]) dX6_byHeld_78 (by decide) rfl ?_
      refine go_lload dX6_byHeld_80 9 rfl ?_
      refine go_iload dX6_byHeld_82 0 rfl ?_
      refine go_if_eq 92 dX6_byHeld_84 (by decide) (fun _ => ?_) (fun q => absurd q (by decide))
      refine go_bipush (v := 10) dX6_byHeld_92 (by decide) ?_
      refine go_iload_n dX6_byHeld_94 2 rfl ?_
      refine go_isub dX6_byHeld_95 ?_
      refine go_i2l dX6_byHeld_96 ?_
      refine go_lmul dX6_byHeld_97 ?_
      refine go_topl (fun y9 qy9 => ?_)
      have h := h y9 qy9
      refine go_lstore (L2 := [(10, .long y9), (14, .int 0), (0, .ref 40), (1, .int a1), (2, .int a2), (3, .int a3), (4, .int a4), (5, .long s), (7, .long pw), (9, .int (nI hd)), (12, .int b), (13, .int (nI j))]) dX6_byHeld_98 (by decide) rfl ?_
      refine go_iload dX6_byHeld_100 10 rfl ?_
      refine go_aload_n dX6_byHeld_102 2 rfl ?_
      refine go_bipush (v := 92) dX6_byHeld_103 (by decide) ?_
      refine go_iload dX6_byHeld_105 1 rfl ?_
      obtain ⟨c10, h⟩ := h
      obtain ⟨c11, h⟩ := h
      obtain ⟨c12, h⟩ := h
      obtain ⟨c13, h⟩ := h
      obtain ⟨c14, h⟩ := h
      obtain ⟨c15, h⟩ := h
      refine go_callV (st := [.int b]) (kX6_tickOnI (d + 0) 92 92 false (itX 9 (hfI (nI hd)) X j) 9 30 c10 c11 c12 c13 c14 c15) rfl rfl okX6_tickOn insX6_tickOn selX6_tickOn lkX6_157 rfl rfl (Nat.le_of_ble_eq_true rfl) dX6_byHeld_107 (fun v_ m16 q => ?_)
      rw [q.1]
      have h := h m16 q.2
      refine go_stk (st2 := [.int (nI (who 9 (itX 9 (hfI (nI hd)) X j))), .int b]) rfl ?_
      obtain ⟨c17, h⟩ := h
      refine go_callS (st := [.int b]) (kX6_bitsOf (d + 2) (who 9 (itX 9 (hfI (nI hd)) X j)) c17) okX6_bitsOf staX6_bitsOf lkX6_127 rfl rfl (Nat.le_of_ble_eq_true rfl) dX6_byHeld_110 (fun v_ m2_ q => ?_)
      rw [q.1, q.2]
      refine go_stk (st2 := [.int (nI (pcF 32 (who 9 (itX 9 (hfI (nI hd)) X j)))), .int b]) rfl ?_
      refine go_iadd dX6_byHeld_113 ?_
      refine go_topi (fun y18 qy18 => ?_)
      have h := h y18 qy18
      refine go_istore (L2 := [(12, .int y18), (10, .long y9), (14, .int 0), (0, .ref 40), (1, .int a1), (2, .int a2), (3, .int a3), (4, .int a4), (5, .long s), (7, .long pw), (9, .int (nI hd)), (13, .int (nI j))]) dX6_byHeld_114 (by decide) rfl ?_
      refine go_iinc (v := ((nI j) + 1)) (L2 := [(13, .int ((nI j) + 1)), (12, .int y18), (10, .long y9), (14, .int 0), (0, .ref 40), (1, .int a1), (2, .int a2), (3, .int a3), (4, .int a4), (5, .long s), (7, .long pw), (9, .int (nI hd))]) dX6_byHeld_116 11 rfl rfl (by decide) rfl ?_
      refine go_goto 56 dX6_byHeld_119 (by decide) ?_
      exact Go.pick [4, 5, 6, 7, 8, 9, 10, 11, 2, 1, 0] rfl h
    · have h := h.2 q
      refine go_iconst (v := 1) dX6_byHeld_73 (by decide) ?_
      refine go_goto 78 dX6_byHeld_74 (by decide) ?_
      refine go_istore (L2 := [(14, .int 1), (0, .ref 40), (1, .int a1), (2, .int a2), (3, .int a3), (4, .int a4), (5, .long s), (7, .long pw), (9, .int (nI hd)), (10, .long wt), (12, .int b), (13, .int (nI j))]) dX6_byHeld_78 (by decide) rfl ?_
      refine go_lload dX6_byHeld_80 9 rfl ?_
      refine go_iload dX6_byHeld_82 0 rfl ?_
      refine go_if_eq 92 dX6_byHeld_84 (by decide) (fun q => absurd q (by decide)) (fun _ => ?_)
      refine go_iload_n dX6_byHeld_87 2 rfl ?_
      refine go_i2l dX6_byHeld_88 ?_
      refine go_goto 97 dX6_byHeld_89 (by decide) ?_
      refine go_lmul dX6_byHeld_97 ?_
      refine go_topl (fun y19 qy19 => ?_)
      have h := h y19 qy19
      refine go_lstore (L2 := [(10, .long y19), (14, .int 1), (0, .ref 40), (1, .int a1), (2, .int a2), (3, .int a3), (4, .int a4), (5, .long s), (7, .long pw), (9, .int (nI hd)), (12, .int b), (13, .int (nI j))]) dX6_byHeld_98 (by decide) rfl ?_
      refine go_iload dX6_byHeld_100 10 rfl ?_
      refine go_aload_n dX6_byHeld_102 2 rfl ?_
      refine go_bipush (v := 92) dX6_byHeld_103 (by decide) ?_
      refine go_iload dX6_byHeld_105 1 rfl ?_
      obtain ⟨c20, h⟩ := h
      obtain ⟨c21, h⟩ := h
      obtain ⟨c22, h⟩ := h
      obtain ⟨c23, h⟩ := h
      obtain ⟨c24, h⟩ := h
      obtain ⟨c25, h⟩ := h
      refine go_callV (st := [.int b]) (kX6_tickOnI (d + 0) 92 92 true (itX 9 (hfI (nI hd)) X j) 9 30 c20 c21 c22 c23 c24 c25) rfl rfl okX6_tickOn insX6_tickOn selX6_tickOn lkX6_157 rfl rfl (Nat.le_of_ble_eq_true rfl) dX6_byHeld_107 (fun v_ m26 q => ?_)
      rw [q.1]
      have h := h m26 q.2
      refine go_stk (st2 := [.int (nI (who 9 (itX 9 (hfI (nI hd)) X j))), .int b]) rfl ?_
      obtain ⟨c27, h⟩ := h
      refine go_callS (st := [.int b]) (kX6_bitsOf (d + 2) (who 9 (itX 9 (hfI (nI hd)) X j)) c27) okX6_bitsOf staX6_bitsOf lkX6_127 rfl rfl (Nat.le_of_ble_eq_true rfl) dX6_byHeld_110 (fun v_ m2_ q => ?_)
      rw [q.1, q.2]
      refine go_stk (st2 := [.int (nI (pcF 32 (who 9 (itX 9 (hfI (nI hd)) X j)))), .int b]) rfl ?_
      refine go_iadd dX6_byHeld_113 ?_
      refine go_topi (fun y28 qy28 => ?_)
      have h := h y28 qy28
      refine go_istore (L2 := [(12, .int y28), (10, .long y19), (14, .int 1), (0, .ref 40), (1, .int a1), (2, .int a2), (3, .int a3), (4, .int a4), (5, .long s), (7, .long pw), (9, .int (nI hd)), (13, .int (nI j))]) dX6_byHeld_114 (by decide) rfl ?_
      refine go_iinc (v := ((nI j) + 1)) (L2 := [(13, .int ((nI j) + 1)), (12, .int y28), (10, .long y19), (14, .int 1), (0, .ref 40), (1, .int a1), (2, .int a2), (3, .int a3), (4, .int a4), (5, .long s), (7, .long pw), (9, .int (nI hd))]) dX6_byHeld_116 11 rfl rfl (by decide) rfl ?_
      refine go_goto 56 dX6_byHeld_119 (by decide) ?_
      exact Go.pick [4, 5, 6, 7, 8, 9, 10, 11, 2, 1, 0] rfl h


theorem lX6_bh56 {G : GX} {d : Nat} {Φ : Option Value → Mem → Prop} {mem0 : Mem} (v n hd : Nat) (cc : Option Nat) (a4 : Int32) (sm : Nat) (pw : Int64) (X : Bm) (hV : VX 9 30 X) (hv : v ≤ 10) (hn8 : n ≤ 8) (hh : hd < 2 ^ n) (hcc : ∀ c0, cc = some c0 → c0 < xn X) (hG : mem0 40 14 = goI 9) (k : ∀ m : Mem, QM mem0 m → Go G (d + 3) mX6_byHeld 32 [(0, .ref 40), (1, .int (nI v)), (2, .int (ccI cc)), (3, .int (nI n)), (4, .int a4), (5, .long (lN (sm + ccF X cc v n hd))), (7, .long pw), (9, .int (nI (hd + 1)))] [] m Φ) : ∀ (r j : Nat) (m : Mem), j + r = n → QM mem0 m → RepM m 92 (itX 9 (hfI (nI hd)) X j) → Go G (d + 3) mX6_byHeld 56 [(0, .ref 40), (1, .int (nI v)), (2, .int (ccI cc)), (3, .int (nI n)), (4, .int a4), (5, .long (lN sm)), (7, .long pw), (9, .int (nI hd)), (10, .long (lN (wtJ hd v j))), (12, .int (nI (smX 9 (hfI (nI hd)) X j))), (13, .int (nI j))] [] m Φ := by
  intro r
  have hn := hV.1
  have h256 := p256 hn8
  induction r with
  | zero =>
    intro j m hj h1 hR
    have hj2 : j = n := by omega
    subst hj2
    have hVi : VX 9 30 (itX 9 (hfI (nI hd)) X j) := VX_it hV j
    have hs := smX_le5 (g := 9) (hf := hfI (nI hd)) hn j
    have k := k m h1
    refine sX6_byHeld_56 _ _ _ a4 _ pw hd _ _ j X ⟨fun _ => ?_, fun z => absurd (Int32.le_refl _) z⟩
    rw [nI_1]
    cases cc with
    | none =>
      refine ⟨fun z => absurd rfl z, fun _ y ey => ?_⟩
      rw [wid (by omega), lN_mul, lN_add, wtJ_n hn8 hh, Nat.mul_comm] at ey
      rw [ey]; exact k
    | some c =>
      have hc := hcc c rfl
      refine ⟨fun _ => ⟨rfl, by omega, ⟨by omega, by omega⟩, hVi, hR, by rw [h1.2.2 14 (by omega) (by omega) (by omega)]; exact hG, fun y ey => ?_⟩, fun z => ?_⟩
      · rw [show ccI (some c) = nI c from rfl, bit_at _ (who_lt hVi) c (by omega), wid (by omega), lN_mul, lN_add, wtJ_n hn8 hh, Nat.mul_comm] at ey
        rw [ey]; exact k
      · have hz : (0 : Int32) ≤ nI c := nI_pos' (by omega)
        rw [show nI c = -4 from z] at hz
        exact absurd hz (by decide)
  | succ r ih =>
    intro j m hj h1 hR
    have hVi : VX 9 30 (itX 9 (hfI (nI hd)) X j) := VX_it hV j
    have g14 : m 40 14 = goI 9 := by rw [h1.2.2 14 (by omega) (by omega) (by omega)]; exact hG
    refine sX6_byHeld_56 _ _ _ a4 _ pw hd _ _ j X ⟨fun z => absurd ((nle (by omega) (by omega)).mp z) (by omega), fun _ => ?_⟩
    rw [bitN (by omega) (by omega), nI_1, show (10 : Int32) = nI 10 from rfl, pk_sub hv, wid (show 10 - v < 2 ^ 31 by omega), wid (show v < 2 ^ 31 by omega), lN_mul, lN_mul, pc_many hVi, nI_add]
    have wl := who_lt hVi
    have es : smX 9 (hfI (nI hd)) X (j + 1) = smX 9 (hfI (nI hd)) X j + many 9 (itX 9 (hfI (nI hd)) X j) := rfl
    rcases Nat.mod_two_eq_zero_or_one (hd / 2 ^ j) with z | z
    · rw [z]
      refine ⟨fun _ y ey => ⟨rfl, by omega, ⟨by omega, by omega, by omega⟩, hVi, hR, g14, fun m16 h16 => ⟨by omega, fun y2 ey2 => ?_⟩⟩, fun q => absurd q (by decide)⟩
      rw [ey, ey2, ← wtJ_0 z, ← es]
      refine ih (j + 1) m16 (by omega) (h1.tr (h16.2.qm (by omega))) ?_
      show RepM m16 92 (tkX 9 (hfI (nI hd) j) (itX 9 (hfI (nI hd)) X j))
      rw [hfI_0 (by omega) (by omega) z]
      exact h16.1
    · rw [z]
      refine ⟨fun q => absurd rfl q, fun _ y ey => ⟨rfl, by omega, ⟨by omega, by omega, by omega⟩, hVi, hR, g14, fun m16 h16 => ⟨by omega, fun y2 ey2 => ?_⟩⟩⟩
      rw [ey, ey2, ← wtJ_1 z, ← es]
      refine ih (j + 1) m16 (by omega) (h1.tr (h16.2.qm (by omega))) ?_
      show RepM m16 92 (tkX 9 (hfI (nI hd) j) (itX 9 (hfI (nI hd)) X j))
      rw [hfI_1 (by omega) (by omega) z]
      exact h16.1
theorem cc_bd {X : Bm} {cc : Option Nat} {v n : Nat} (hx : xn X ≤ 5) (hv : v ≤ 10) (hn : n ≤ 8) : smF (ccF X cc v n) (2 ^ n) < 2 ^ 62 := by
  cases cc with
  | none => exact mn_bd hx hv hn
  | some c => exact lk_bd hv hn
theorem lX6_bh32 {G : GX} {d : Nat} {mem0 : Mem} (v n : Nat) (cc : Option Nat) (a4 : Int32) (X : Bm) (hV : VX 9 30 X) (hv : v ≤ 10) (hn8 : n ≤ 8) (hcc : ∀ c0, cc = some c0 → c0 < xn X) (hR : RepM mem0 0 X) (hG : mem0 40 14 = goI 9) : ∀ (r hd : Nat) (m : Mem), hd + r = 2 ^ n → QM mem0 m → Go G (d + 3) mX6_byHeld 32 [(0, .ref 40), (1, .int (nI v)), (2, .int (ccI cc)), (3, .int (nI n)), (4, .int a4), (5, .long (lN (smF (ccF X cc v n) hd))), (7, .long (lN (pwN 10 n))), (9, .int (nI hd))] [] m (Rl (lN (frN (smF (ccF X cc v n) (2 ^ n)) (pwN 10 n) a4)) (QM mem0)) := by
  intro r
  have hn := hV.1
  have h256 := p256 hn8
  induction r with
  | zero =>
    intro hd m hh h1
    have hh2 : hd = 2 ^ n := by omega
    refine sX6_byHeld_32 _ _ _ a4 _ _ hd (smF (ccF X cc v n) hd) (pwN 10 n) ?_
    rw [shl1 n (by omega), hh2]
    exact ⟨fun _ => ⟨⟨rfl, rfl⟩, ⟨cc_bd hn hv hn8, pw8 hn8⟩, rfl, h1⟩, fun z => absurd (Int32.le_refl _) z⟩
  | succ r ih =>
    intro hd m hh h1
    refine sX6_byHeld_32 _ _ _ a4 _ _ hd (smF (ccF X cc v n) hd) (pwN 10 n) ?_
    rw [shl1 n (by omega)]
    refine ⟨fun z => absurd ((nle (by omega) (by omega)).mp z) (by omega), fun _ => ⟨⟨rfl, rfl⟩, ⟨by omega, by omega, by omega⟩, ?_⟩⟩
    exact lX6_bh56 v n hd cc a4 (smF (ccF X cc v n) hd) (lN (pwN 10 n)) X hV hv hn8 (by omega) hcc hG (fun m2 g => ih (hd + 1) m2 (by omega) g) n 0 (cpM m 0 92) (by omega) (h1.tr (cpM_fr.qm (by omega))) (cpM_rep hn (hR.fr hn (fun j _ _ => h1.2.1 j (by omega))))
theorem lX6_bh9 {G : GX} {d : Nat} {mem : Mem} {Φ : Option Value → Mem → Prop} (a1 a2 a4 : Int32) (n : Nat) (hn8 : n ≤ 8) (k : Go G (d + 3) mX6_byHeld 32 [(0, .ref 40), (1, .int a1), (2, .int a2), (3, .int (nI n)), (4, .int a4), (5, .long 0), (7, .long (lN (pwN 10 n))), (9, .int 0)] [] mem Φ) : ∀ (r i : Nat), i + r = n → Go G (d + 3) mX6_byHeld 9 [(0, .ref 40), (1, .int a1), (2, .int a2), (3, .int (nI n)), (4, .int a4), (5, .long 0), (7, .long (lN (pwN 10 i))), (9, .int (nI i))] [] mem Φ := by
  intro r
  induction r with
  | zero =>
    intro i hi
    have : i = n := by omega
    subst this
    exact sX6_byHeld_9 _ _ _ _ _ _ i ⟨fun _ => k, fun z => absurd (Int32.le_refl _) z⟩
  | succ r ih =>
    intro i hi
    refine sX6_byHeld_9 _ _ _ _ _ _ i ⟨fun z => absurd ((nle (by omega) (by omega)).mp z) (by omega), fun _ y ey => ?_⟩
    rw [show (10 : Int64) = lN 10 from rfl, lN_mul] at ey
    rw [ey, nI_1]
    exact ih (i + 1) (by omega)
theorem kX6_byHeldI {G : GX} (d : Nat) {mem : Mem} (a1 a2 a3 a4 : Int32) (v n : Nat) (cc : Option Nat) (X : Bm) (e : a1 = nI v ∧ a3 = nI n ∧ a2 = ccI cc) (h : v ≤ 10 ∧ n ≤ 8 ∧ (∀ c0, cc = some c0 → c0 < xn X)) (hV : VX 9 30 X) (hR : RepM mem 0 X) (hG : mem 40 14 = goI 9) : Cn G (d + 3) mX6_byHeld [.ref 40, .int a1, .int a2, .int a3, .int a4] mem (Rl (lN (frN (smF (ccF X cc v n) (2 ^ n)) (pwN 10 n) a4)) (QM mem)) := by
  rw [e.1, e.2.1, e.2.2]
  exact cn_of (by decide +kernel) (Nat.le_of_ble_eq_true rfl) (sX6_byHeld_0 _ _ _ _ (lX6_bh9 _ _ a4 n h.2.1 (lX6_bh32 v n cc a4 X hV h.1 h.2.1 h.2.2 hR hG (2 ^ n) 0 mem (by omega) QM.rf) n 0 (by omega)))

set_option maxRecDepth 100000 in
theorem sX6_luck_0 {G : GX} {d : Nat} {mem : Mem} {Φ : Option Value → Mem → Prop} (a1 a2 a3 a4 : Int32) (v n c : Nat) (X : Bm) (h : ((¬ (0 ≤ a1 ∧ a1 ≤ 10) → Φ (some (.long (-1))) mem) ∧ ((0 ≤ a1 ∧ a1 ≤ 10) → ((¬ (0 ≤ a2 ∧ a2 ≤ ((mem 41 20) - 1)) → Φ (some (.long (-1))) mem) ∧ ((0 ≤ a2 ∧ a2 ≤ ((mem 41 20) - 1)) → ((¬ (0 ≤ a3 ∧ a3 ≤ 8) → Φ (some (.long (-1))) mem) ∧ ((0 ≤ a3 ∧ a3 ≤ 8) → ((¬ (0 ≤ a4 ∧ a4 ≤ 1) → Φ (some (.long (-1))) mem) ∧ ((0 ≤ a4 ∧ a4 ≤ 1) → (a1 = nI v ∧ a3 = nI n ∧ a2 = ccI (some c)) ∧ (v ≤ 10 ∧ n ≤ 8 ∧ (∀ c0, (some c) = some c0 → c0 < xn X)) ∧ (VX 9 30 X) ∧ (RepM mem 0 X) ∧ (mem 40 14 = goI 9) ∧ ∀ m6 : Mem, QM mem m6 → Φ (some (.long (lN (frN (smF (ccF X (some c) v n) (2 ^ n)) (pwN 10 n) a4)))) m6))))))))) : Go G (d + 4) mX6_luck 0 [(0, .ref 40), (1, .int a1), (2, .int a2), (3, .int a3), (4, .int a4)] [] mem Φ := by
  refine go_iload_n dX6_luck_0 1 rfl ?_
  refine go_i2l dX6_luck_1 ?_
  refine go_lconst (v := 0) dX6_luck_2 (by decide) ?_
  refine go_ldc2 klX6_192 dX6_luck_3 ?_
  refine go_callS (st := []) (kX6_in (d + 3) a1 0 10 0 10 (by decide) (by decide)) okX6_in staX6_in lkX6_50 rfl rfl (Nat.le_of_ble_eq_true rfl) dX6_luck_6 (fun v_ m2_ q => ?_)
  rw [q.1, q.2]
  refine go_stk (st2 := [.int (bI (0 ≤ a1 ∧ a1 ≤ 10))]) rfl ?_
  refine go_if_eq 55 dX6_luck_9 (by decide) (fun q => ?_) (fun q => ?_)
  · have h := h.1 (bI0.mp q)
    refine go_ldc2 klX6_204 dX6_luck_55 ?_
    exact go_lret rfl dX6_luck_58 h
  · have h := h.2 (bI1.mp q)
    refine go_aload_n dX6_luck_12 0 rfl ?_
    refine go_iload_n dX6_luck_13 2 rfl ?_
    refine go_callV (st := []) (kX6_isClock (d + 2) a2) rfl rfl okX6_isClock insX6_isClock selX6_isClock lkX6_137 rfl rfl (Nat.le_of_ble_eq_true rfl) dX6_luck_14 (fun v_ m2_ q => ?_)
    rw [q.1, q.2]
    refine go_stk (st2 := [.int (bI (0 ≤ a2 ∧ a2 ≤ ((mem 41 20) - 1)))]) rfl ?_
    refine go_if_eq 55 dX6_luck_17 (by decide) (fun q => ?_) (fun q => ?_)
    · have h := h.1 (bI0.mp q)
      refine go_ldc2 klX6_204 dX6_luck_55 ?_
      exact go_lret rfl dX6_luck_58 h
    · have h := h.2 (bI1.mp q)
      refine go_iload_n dX6_luck_20 3 rfl ?_
      refine go_i2l dX6_luck_21 ?_
      refine go_lconst (v := 0) dX6_luck_22 (by decide) ?_
      refine go_ldc2 klX6_198 dX6_luck_23 ?_
      refine go_callS (st := []) (kX6_in (d + 3) a3 0 8 0 8 (by decide) (by decide)) okX6_in staX6_in lkX6_50 rfl rfl (Nat.le_of_ble_eq_true rfl) dX6_luck_26 (fun v_ m2_ q => ?_)
      rw [q.1, q.2]
      refine go_stk (st2 := [.int (bI (0 ≤ a3 ∧ a3 ≤ 8))]) rfl ?_
      refine go_if_eq 55 dX6_luck_29 (by decide) (fun q => ?_) (fun q => ?_)
      · have h := h.1 (bI0.mp q)
        refine go_ldc2 klX6_204 dX6_luck_55 ?_
        exact go_lret rfl dX6_luck_58 h
      · have h := h.2 (bI1.mp q)
        refine go_iload dX6_luck_32 4 rfl ?_
        refine go_i2l dX6_luck_34 ?_
        refine go_lconst (v := 0) dX6_luck_35 (by decide) ?_
        refine go_lconst (v := 1) dX6_luck_36 (by decide) ?_
        refine go_callS (st := []) (kX6_in (d + 3) a4 0 1 0 1 (by decide) (by decide)) okX6_in staX6_in lkX6_50 rfl rfl (Nat.le_of_ble_eq_true rfl) dX6_luck_37 (fun v_ m2_ q => ?_)
        rw [q.1, q.2]
        refine go_stk (st2 := [.int (bI (0 ≤ a4 ∧ a4 ≤ 1))]) rfl ?_
        refine go_if_eq 55 dX6_luck_40 (by decide) (fun q => ?_) (fun q => ?_)
        · have h := h.1 (bI0.mp q)
          refine go_ldc2 klX6_204 dX6_luck_55 ?_
          exact go_lret rfl dX6_luck_58 h
        · have h := h.2 (bI1.mp q)
          refine go_aload_n dX6_luck_43 0 rfl ?_
          refine go_iload_n dX6_luck_44 1 rfl ?_
          refine go_iload_n dX6_luck_45 2 rfl ?_
          refine go_iload_n dX6_luck_46 3 rfl ?_
          refine go_iload dX6_luck_47 4 rfl ?_
          obtain ⟨c1, h⟩ := h
          obtain ⟨c2, h⟩ := h
          obtain ⟨c3, h⟩ := h
          obtain ⟨c4, h⟩ := h
          obtain ⟨c5, h⟩ := h
          refine go_callV (st := []) (kX6_byHeldI (d + 0) a1 a2 a3 a4 v n (some c) X c1 c2 c3 c4 c5) rfl rfl okX6_byHeld insX6_byHeld selX6_byHeld lkX6_200 rfl rfl (Nat.le_of_ble_eq_true rfl) dX6_luck_49 (fun v_ m6 q => ?_)
          rw [q.1]
          have h := h m6 q.2
          refine go_stk (st2 := [.long (lN (frN (smF (ccF X (some c) v n) (2 ^ n)) (pwN 10 n) a4))]) rfl ?_
          refine go_goto 58 dX6_luck_52 (by decide) ?_
          exact go_lret rfl dX6_luck_58 h

set_option maxRecDepth 100000 in
theorem sX6_mean_0 {G : GX} {d : Nat} {mem : Mem} {Φ : Option Value → Mem → Prop} (a1 a2 a3 : Int32) (v n : Nat) (X : Bm) (h : ((¬ (0 ≤ a1 ∧ a1 ≤ 10) → Φ (some (.long (-1))) mem) ∧ ((0 ≤ a1 ∧ a1 ≤ 10) → ((¬ (0 ≤ a2 ∧ a2 ≤ 8) → Φ (some (.long (-1))) mem) ∧ ((0 ≤ a2 ∧ a2 ≤ 8) → ((¬ (0 ≤ a3 ∧ a3 ≤ 1) → Φ (some (.long (-1))) mem) ∧ ((0 ≤ a3 ∧ a3 ≤ 1) → (a1 = nI v ∧ a2 = nI n ∧ (-4) = ccI none) ∧ (v ≤ 10 ∧ n ≤ 8 ∧ (∀ c0, none = some c0 → c0 < xn X)) ∧ (VX 9 30 X) ∧ (RepM mem 0 X) ∧ (mem 40 14 = goI 9) ∧ ∀ m6 : Mem, QM mem m6 → Φ (some (.long (lN (frN (smF (ccF X none v n) (2 ^ n)) (pwN 10 n) a3)))) m6))))))) : Go G (d + 4) mX6_mean 0 [(0, .ref 40), (1, .int a1), (2, .int a2), (3, .int a3)] [] mem Φ := by
  refine go_iload_n dX6_mean_0 1 rfl ?_
  refine go_i2l dX6_mean_1 ?_
  refine go_lconst (v := 0) dX6_mean_2 (by decide) ?_
  refine go_ldc2 klX6_192 dX6_mean_3 ?_
  refine go_callS (st := []) (kX6_in (d + 3) a1 0 10 0 10 (by decide) (by decide)) okX6_in staX6_in lkX6_50 rfl rfl (Nat.le_of_ble_eq_true rfl) dX6_mean_6 (fun v_ m2_ q => ?_)
  rw [q.1, q.2]
  refine go_stk (st2 := [.int (bI (0 ≤ a1 ∧ a1 ≤ 10))]) rfl ?_
  refine go_if_eq 46 dX6_mean_9 (by decide) (fun q => ?_) (fun q => ?_)
  · have h := h.1 (bI0.mp q)
    refine go_ldc2 klX6_204 dX6_mean_46 ?_
    exact go_lret rfl dX6_mean_49 h
  · have h := h.2 (bI1.mp q)
    refine go_iload_n dX6_mean_12 2 rfl ?_
    refine go_i2l dX6_mean_13 ?_
    refine go_lconst (v := 0) dX6_mean_14 (by decide) ?_
    refine go_ldc2 klX6_198 dX6_mean_15 ?_
    refine go_callS (st := []) (kX6_in (d + 3) a2 0 8 0 8 (by decide) (by decide)) okX6_in staX6_in lkX6_50 rfl rfl (Nat.le_of_ble_eq_true rfl) dX6_mean_18 (fun v_ m2_ q => ?_)
    rw [q.1, q.2]
    refine go_stk (st2 := [.int (bI (0 ≤ a2 ∧ a2 ≤ 8))]) rfl ?_
    refine go_if_eq 46 dX6_mean_21 (by decide) (fun q => ?_) (fun q => ?_)
    · have h := h.1 (bI0.mp q)
      refine go_ldc2 klX6_204 dX6_mean_46 ?_
      exact go_lret rfl dX6_mean_49 h
    · have h := h.2 (bI1.mp q)
      refine go_iload_n dX6_mean_24 3 rfl ?_
      refine go_i2l dX6_mean_25 ?_
      refine go_lconst (v := 0) dX6_mean_26 (by decide) ?_
      refine go_lconst (v := 1) dX6_mean_27 (by decide) ?_
      refine go_callS (st := []) (kX6_in (d + 3) a3 0 1 0 1 (by decide) (by decide)) okX6_in staX6_in lkX6_50 rfl rfl (Nat.le_of_ble_eq_true rfl) dX6_mean_28 (fun v_ m2_ q => ?_)
      rw [q.1, q.2]
      refine go_stk (st2 := [.int (bI (0 ≤ a3 ∧ a3 ≤ 1))]) rfl ?_
      refine go_if_eq 46 dX6_mean_31 (by decide) (fun q => ?_) (fun q => ?_)
      · have h := h.1 (bI0.mp q)
        refine go_ldc2 klX6_204 dX6_mean_46 ?_
        exact go_lret rfl dX6_mean_49 h
      · have h := h.2 (bI1.mp q)
        refine go_aload_n dX6_mean_34 0 rfl ?_
        refine go_iload_n dX6_mean_35 1 rfl ?_
        refine go_bipush (v := (-4)) dX6_mean_36 (by decide) ?_
        refine go_iload_n dX6_mean_38 2 rfl ?_
        refine go_iload_n dX6_mean_39 3 rfl ?_
        obtain ⟨c1, h⟩ := h
        obtain ⟨c2, h⟩ := h
        obtain ⟨c3, h⟩ := h
        obtain ⟨c4, h⟩ := h
        obtain ⟨c5, h⟩ := h
        refine go_callV (st := []) (kX6_byHeldI (d + 0) a1 (-4) a2 a3 v n none X c1 c2 c3 c4 c5) rfl rfl okX6_byHeld insX6_byHeld selX6_byHeld lkX6_200 rfl rfl (Nat.le_of_ble_eq_true rfl) dX6_mean_40 (fun v_ m6 q => ?_)
        rw [q.1]
        have h := h m6 q.2
        refine go_stk (st2 := [.long (lN (frN (smF (ccF X none v n) (2 ^ n)) (pwN 10 n) a3))]) rfl ?_
        refine go_goto 49 dX6_mean_43 (by decide) ?_
        exact go_lret rfl dX6_mean_49 h


set_option maxHeartbeats 4000000 in
theorem P22 {G : GX} (a b c w : Int32) : Sm G mX5_luck mX6_luck [.int a, .int b, .int c, .int w] := Sm_ql (fun mem X S h1 h5 h7 => by
  have hn := h1.2.2.1.1
  by_cases q : (0 ≤ a ∧ a ≤ 10) ∧ isC X b ∧ (0 ≤ c ∧ c ≤ 8) ∧ (0 ≤ w ∧ w ≤ 1)
  · obtain ⟨q1, q2, q3, q4⟩ := q
    obtain ⟨v, hv, rfl⟩ := i300 (n := 10) rfl (by omega) q1
    obtain ⟨n, hn8, rfl⟩ := i300 (n := 8) rfl (by omega) q3
    obtain ⟨i, hi, rfl⟩ := isC_n q2 hn
    refine ⟨lN (frN (smF (lkc X i v n) (2 ^ n)) (pwN 10 n) w), ?_, fun m1 g1 g5 g7 => ?_⟩
    · refine cn_of (by decide +kernel) (Nat.le_of_ble_eq_true rfl) (sX5_luck_0 (d := 4) _ _ _ w ?_)
      rw [h1.1.1]
      exact ⟨fun z => absurd q1 z, fun _ => ⟨fun z => absurd q2 z, fun _ => ⟨fun z => absurd q3 z, fun _ => ⟨fun _ => lX5_luck v i n w X h1.2.2.1 hi hv hn8 h1.1 (2 ^ n) 0 mem (by omega) QC.rf, fun z => absurd q4 z⟩⟩⟩⟩
    · refine cn_of (by decide +kernel) (Nat.le_of_ble_eq_true rfl) (sX6_luck_0 (d := 5) _ _ _ w v n i X ?_)
      rw [(RepM0 g1.2.1).1, isC_M hn]
      exact ⟨fun z => absurd q1 z, fun _ => ⟨fun z => absurd q2 z, fun _ => ⟨fun z => absurd q3 z, fun _ => ⟨fun z => absurd q4 z, fun _ => ⟨⟨rfl, rfl, rfl⟩, ⟨hv, hn8, fun c0 e => by cases e; exact hi⟩, g1.2.2.1, g1.2.1, g7.1, fun m6 h6 => ⟨rfl, h6⟩⟩⟩⟩⟩⟩
  · refine ⟨-1, ?_, fun m1 g1 g5 g7 => ?_⟩
    · refine cn_of (by decide +kernel) (Nat.le_of_ble_eq_true rfl) (sX5_luck_0 (d := 4) _ _ _ w ?_)
      rw [h1.1.1]
      exact ⟨fun _ => ⟨rfl, QC.rf⟩, fun q1 => ⟨fun _ => ⟨rfl, QC.rf⟩, fun q2 => ⟨fun _ => ⟨rfl, QC.rf⟩, fun q3 => ⟨fun q4 => absurd ⟨q1, q2, q3, q4⟩ q, fun _ => ⟨rfl, QC.rf⟩⟩⟩⟩⟩
    · refine cn_of (by decide +kernel) (Nat.le_of_ble_eq_true rfl) (sX6_luck_0 (d := 5) _ _ _ w 0 0 0 X ?_)
      rw [(RepM0 g1.2.1).1, isC_M hn]
      exact ⟨fun _ => ⟨rfl, QM.rf⟩, fun q1 => ⟨fun _ => ⟨rfl, QM.rf⟩, fun q2 => ⟨fun _ => ⟨rfl, QM.rf⟩, fun q3 => ⟨fun _ => ⟨rfl, QM.rf⟩, fun q4 => absurd ⟨q1, q2, q3, q4⟩ q⟩⟩⟩⟩)
set_option maxHeartbeats 4000000 in
theorem P23 {G : GX} (a c w : Int32) : Sm G mX5_mean mX6_mean [.int a, .int c, .int w] := Sm_ql (fun mem X S h1 h5 h7 => by
  have hn := h1.2.2.1.1
  by_cases q : (0 ≤ a ∧ a ≤ 10) ∧ (0 ≤ c ∧ c ≤ 8) ∧ (0 ≤ w ∧ w ≤ 1)
  · obtain ⟨q1, q3, q4⟩ := q
    obtain ⟨v, hv, rfl⟩ := i300 (n := 10) rfl (by omega) q1
    obtain ⟨n, hn8, rfl⟩ := i300 (n := 8) rfl (by omega) q3
    refine ⟨lN (frN (smF (mnc X v n) (2 ^ n)) (pwN 10 n) w), ?_, fun m1 g1 g5 g7 => ?_⟩
    · exact cn_of (by decide +kernel) (Nat.le_of_ble_eq_true rfl) (sX5_mean_0 (d := 4) _ _ w ⟨fun z => absurd q1 z, fun _ => ⟨fun z => absurd q3 z, fun _ => ⟨fun _ => lX5_mean v n w X h1.2.2.1 hv hn8 h1.1 (2 ^ n) 0 mem (by omega) QC.rf, fun z => absurd q4 z⟩⟩⟩)
    · exact cn_of (by decide +kernel) (Nat.le_of_ble_eq_true rfl) (sX6_mean_0 (d := 5) _ _ w v n X ⟨fun z => absurd q1 z, fun _ => ⟨fun z => absurd q3 z, fun _ => ⟨fun z => absurd q4 z, fun _ => ⟨⟨rfl, rfl, rfl⟩, ⟨hv, hn8, fun c0 e => by cases e⟩, g1.2.2.1, g1.2.1, g7.1, fun m6 h6 => ⟨rfl, h6⟩⟩⟩⟩⟩)
  · refine ⟨-1, ?_, fun m1 g1 g5 g7 => ?_⟩
    · exact cn_of (by decide +kernel) (Nat.le_of_ble_eq_true rfl) (sX5_mean_0 (d := 4) _ _ w ⟨fun _ => ⟨rfl, QC.rf⟩, fun q1 => ⟨fun _ => ⟨rfl, QC.rf⟩, fun q3 => ⟨fun q4 => absurd ⟨q1, q3, q4⟩ q, fun _ => ⟨rfl, QC.rf⟩⟩⟩⟩)
    · exact cn_of (by decide +kernel) (Nat.le_of_ble_eq_true rfl) (sX6_mean_0 (d := 5) _ _ w 0 0 X ⟨fun _ => ⟨rfl, QM.rf⟩, fun q1 => ⟨fun _ => ⟨rfl, QM.rf⟩, fun q3 => ⟨fun _ => ⟨rfl, QM.rf⟩, fun q4 => absurd ⟨q1, q3, q4⟩ q⟩⟩⟩))
