set_option maxRecDepth 100000 in
theorem sX6_nameHere_0 {G : GX} {d : Nat} {mem : Mem} {Φ : Option Value → Mem → Prop}  (h : Go G (d + 1) mX6_nameHere 2 [(0, .ref 40), (1, .int 0)] [] mem Φ) : Go G (d + 1) mX6_nameHere 0 [(0, .ref 40)] [] mem Φ := by
  refine go_iconst (v := 0) dX6_nameHere_0 (by decide) ?_
  refine go_istore_n (L2 := [(1, .int 0), (0, .ref 40)]) dX6_nameHere_1 (by decide) rfl ?_
  exact Go.pick [1, 0] rfl h

set_option maxRecDepth 100000 in
theorem sX6_nameHere_2 {G : GX} {d : Nat} {mem : Mem} {Φ : Option Value → Mem → Prop} (n : Nat) (h : ((5 ≤ (nI n) → Φ (some (.int (-4))) mem) ∧ (¬ 5 ≤ (nI n) → ((¬ (mem 40 10) = 1 → Φ (some (.int (-4))) mem) ∧ ((mem 40 10) = 1 → (vp_in ((nI n) + 1) 6) ∧ (vp_in (nI n) 6) ∧ ((¬ ((mem 40 8) - (mem 40 9)) = ((mem 44 (((nI n) + 1) : Int32).toNatClampNeg) - (mem 44 ((nI n) : Int32).toNatClampNeg)) → Go G (d + 1) mX6_nameHere 50 [(0, .ref 40), (1, .int (nI n)), (2, .int 0), (3, .int 0)] [] mem Φ) ∧ (((mem 40 8) - (mem 40 9)) = ((mem 44 (((nI n) + 1) : Int32).toNatClampNeg) - (mem 44 ((nI n) : Int32).toNatClampNeg)) → Go G (d + 1) mX6_nameHere 50 [(0, .ref 40), (1, .int (nI n)), (2, .int 1), (3, .int 0)] [] mem Φ))))))) : Go G (d + 1) mX6_nameHere 2 [(0, .ref 40), (1, .int (nI n))] [] mem Φ := by
  refine go_iload_n dX6_nameHere_2 1 rfl ?_
  refine go_iconst (v := 5) dX6_nameHere_3 (by decide) ?_
  refine go_icmp_ge 117 dX6_nameHere_4 (by decide) (fun q => ?_) (fun q => ?_)
  · have h := h.1 q
    refine go_bipush (v := (-4)) dX6_nameHere_117 (by decide) ?_
    exact go_iret rfl dX6_nameHere_119 h
  · have h := h.2 q
    refine go_aload_n dX6_nameHere_7 0 rfl ?_
    refine go_getI (kf := 10) rfl rfl rfl uwX6 (by decide) flX6_66 dX6_nameHere_8 ?_
    refine go_iconst (v := 1) dX6_nameHere_11 (by decide) ?_
    refine go_icmp_ne 117 dX6_nameHere_12 (by decide) (fun q => ?_) (fun q => ?_)
    · have h := h.1 q
      refine go_bipush (v := (-4)) dX6_nameHere_117 (by decide) ?_
      exact go_iret rfl dX6_nameHere_119 h
    · have h := h.2 q
      refine go_aload_n dX6_nameHere_15 0 rfl ?_
      refine go_getI (kf := 8) rfl rfl rfl uwX6 (by decide) flX6_69 dX6_nameHere_16 ?_
      refine go_aload_n dX6_nameHere_19 0 rfl ?_
      refine go_getI (kf := 9) rfl rfl rfl uwX6 (by decide) flX6_60 dX6_nameHere_20 ?_
      refine go_isub dX6_nameHere_23 ?_
      refine go_aload_n dX6_nameHere_24 0 rfl ?_
      refine go_getR (kf := 12) (t := 44) rfl rfl rfl uwX6 (by decide) flX6_19 dX6_nameHere_25 ?_
      refine go_iload_n dX6_nameHere_28 1 rfl ?_
      refine go_iconst (v := 1) dX6_nameHere_29 (by decide) ?_
      refine go_iadd dX6_nameHere_30 ?_
      obtain ⟨c1, h⟩ := h
      refine go_iaload rfl c1 dX6_nameHere_31 ?_
      refine go_aload_n dX6_nameHere_32 0 rfl ?_
      refine go_getR (kf := 12) (t := 44) rfl rfl rfl uwX6 (by decide) flX6_19 dX6_nameHere_33 ?_
      refine go_iload_n dX6_nameHere_36 1 rfl ?_
      obtain ⟨c2, h⟩ := h
      refine go_iaload rfl c2 dX6_nameHere_37 ?_
      refine go_isub dX6_nameHere_38 ?_
      refine go_icmp_ne 46 dX6_nameHere_39 (by decide) (fun q => ?_) (fun q => ?_)
      · have h := h.1 q
        refine go_iconst (v := 0) dX6_nameHere_46 (by decide) ?_
        refine go_istore_n (L2 := [(2, .int 0), (0, .ref 40), (1, .int (nI n))]) dX6_nameHere_47 (by decide) rfl ?_
        refine go_iconst (v := 0) dX6_nameHere_48 (by decide) ?_
        refine go_istore_n (L2 := [(3, .int 0), (2, .int 0), (0, .ref 40), (1, .int (nI n))]) dX6_nameHere_49 (by decide) rfl ?_
        exact Go.pick [2, 3, 1, 0] rfl h
      · have h := h.2 q
        refine go_iconst (v := 1) dX6_nameHere_42 (by decide) ?_
        refine go_goto 47 dX6_nameHere_43 (by decide) ?_
        refine go_istore_n (L2 := [(2, .int 1), (0, .ref 40), (1, .int (nI n))]) dX6_nameHere_47 (by decide) rfl ?_
        refine go_iconst (v := 0) dX6_nameHere_48 (by decide) ?_
        refine go_istore_n (L2 := [(3, .int 0), (2, .int 1), (0, .ref 40), (1, .int (nI n))]) dX6_nameHere_49 (by decide) rfl ?_
        exact Go.pick [2, 3, 1, 0] rfl h

set_option maxRecDepth 100000 in
theorem sX6_nameHere_50 {G : GX} {d : Nat} {mem : Mem} {Φ : Option Value → Mem → Prop} (a2 : Int32) (n k q0 : Nat) (T : Tp) (h : ((a2 = 0 → ((a2 = 0 → Go G (d + 1) mX6_nameHere 2 [(0, .ref 40), (1, .int ((nI n) + 1))] [] mem Φ) ∧ (¬ a2 = 0 → Φ (some (.int (nI n))) mem))) ∧ (¬ a2 = 0 → ((((mem 40 8) - (mem 40 9)) ≤ (nI k) → ((a2 = 0 → Go G (d + 1) mX6_nameHere 2 [(0, .ref 40), (1, .int ((nI n) + 1))] [] mem Φ) ∧ (¬ a2 = 0 → Φ (some (.int (nI n))) mem))) ∧ (¬ ((mem 40 8) - (mem 40 9)) ≤ (nI k) → (((mem 40 9) + (nI k)) = nI (q0 + k)) ∧ ((q0 + k) ≤ 200) ∧ (TpM mem T) ∧ (vp_in (nI n) 6) ∧ (vp_in ((mem 44 ((nI n) : Int32).toNatClampNeg) + (nI k)) 21) ∧ ((¬ (byI T (q0 + k)) = (mem 45 (((mem 44 ((nI n) : Int32).toNatClampNeg) + (nI k)) : Int32).toNatClampNeg) → Go G (d + 1) mX6_nameHere 50 [(0, .ref 40), (1, .int (nI n)), (2, .int 0), (3, .int ((nI k) + 1))] [] mem Φ) ∧ ((byI T (q0 + k)) = (mem 45 (((mem 44 ((nI n) : Int32).toNatClampNeg) + (nI k)) : Int32).toNatClampNeg) → Go G (d + 1) mX6_nameHere 50 [(0, .ref 40), (1, .int (nI n)), (2, .int 1), (3, .int ((nI k) + 1))] [] mem Φ))))))) : Go G (d + 1) mX6_nameHere 50 [(0, .ref 40), (1, .int (nI n)), (2, .int a2), (3, .int (nI k))] [] mem Φ := by
  refine go_iload_n dX6_nameHere_50 2 rfl ?_
  refine go_if_eq 105 dX6_nameHere_51 (by decide) (fun q => ?_) (fun q => ?_)
  · have h := h.1 q
    refine go_iload_n dX6_nameHere_105 2 rfl ?_
    refine go_if_eq 111 dX6_nameHere_106 (by decide) (fun q => ?_) (fun q => ?_)
    · have h := h.1 q
      refine go_iinc (v := ((nI n) + 1)) (L2 := [(1, .int ((nI n) + 1)), (0, .ref 40), (2, .int a2), (3, .int (nI k))]) dX6_nameHere_111 1 rfl rfl (by decide) rfl ?_
      refine go_goto 2 dX6_nameHere_114 (by decide) ?_
      exact Go.pick [1, 0] rfl h
    · have h := h.2 q
      refine go_iload_n dX6_nameHere_109 1 rfl ?_
      exact go_iret rfl dX6_nameHere_110 h
  · have h := h.2 q
    refine go_iload_n dX6_nameHere_54 3 rfl ?_
    refine go_aload_n dX6_nameHere_55 0 rfl ?_
    refine go_getI (kf := 8) rfl rfl rfl uwX6 (by decide) flX6_69 dX6_nameHere_56 ?_
    refine go_aload_n dX6_nameHere_59 0 rfl ?_
    refine go_getI (kf := 9) rfl rfl rfl uwX6 (by decide) flX6_60 dX6_nameHere_60 ?_
    refine go_isub dX6_nameHere_63 ?_
    refine go_icmp_ge 105 dX6_nameHere_64 (by decide) (fun q => ?_) (fun q => ?_)
    · have h := h.1 q
      refine go_iload_n dX6_nameHere_105 2 rfl ?_
      refine go_if_eq 111 dX6_nameHere_106 (by decide) (fun q => ?_) (fun q => ?_)
      · have h := h.1 q
        refine go_iinc (v := ((nI n) + 1)) (L2 := [(1, .int ((nI n) + 1)), (0, .ref 40), (2, .int a2), (3, .int (nI k))]) dX6_nameHere_111 1 rfl rfl (by decide) rfl ?_
        refine go_goto 2 dX6_nameHere_114 (by decide) ?_
        exact Go.pick [1, 0] rfl h
      · have h := h.2 q
        refine go_iload_n dX6_nameHere_109 1 rfl ?_
        exact go_iret rfl dX6_nameHere_110 h
    · have h := h.2 q
      refine go_aload_n dX6_nameHere_67 0 rfl ?_
      refine go_aload_n dX6_nameHere_68 0 rfl ?_
      refine go_getI (kf := 9) rfl rfl rfl uwX6 (by decide) flX6_60 dX6_nameHere_69 ?_
      refine go_iload_n dX6_nameHere_72 3 rfl ?_
      refine go_iadd dX6_nameHere_73 ?_
      obtain ⟨c1, h⟩ := h
      obtain ⟨c2, h⟩ := h
      obtain ⟨c3, h⟩ := h
      refine go_callV (st := []) (kX6_byteAt (d + 0) ((mem 40 9) + (nI k)) (q0 + k) T c1 c2 c3) rfl rfl okX6_byteAt insX6_byteAt selX6_byteAt lkX6_72 rfl rfl (Nat.le_of_ble_eq_true rfl) dX6_nameHere_74 (fun v_ m2_ q => ?_)
      rw [q.1, q.2]
      refine go_stk (st2 := [.int (byI T (q0 + k))]) rfl ?_
      refine go_aload_n dX6_nameHere_77 0 rfl ?_
      refine go_getR (kf := 13) (t := 45) rfl rfl rfl uwX6 (by decide) flX6_22 dX6_nameHere_78 ?_
      refine go_aload_n dX6_nameHere_81 0 rfl ?_
      refine go_getR (kf := 12) (t := 44) rfl rfl rfl uwX6 (by decide) flX6_19 dX6_nameHere_82 ?_
      refine go_iload_n dX6_nameHere_85 1 rfl ?_
      obtain ⟨c4, h⟩ := h
      refine go_iaload rfl c4 dX6_nameHere_86 ?_
      refine go_iload_n dX6_nameHere_87 3 rfl ?_
      refine go_iadd dX6_nameHere_88 ?_
      obtain ⟨c5, h⟩ := h
      refine go_iaload rfl c5 dX6_nameHere_89 ?_
      refine go_icmp_ne 97 dX6_nameHere_90 (by decide) (fun q => ?_) (fun q => ?_)
      · have h := h.1 q
        refine go_iconst (v := 0) dX6_nameHere_97 (by decide) ?_
        refine go_istore_n (L2 := [(2, .int 0), (0, .ref 40), (1, .int (nI n)), (3, .int (nI k))]) dX6_nameHere_98 (by decide) rfl ?_
        refine go_iinc (v := ((nI k) + 1)) (L2 := [(3, .int ((nI k) + 1)), (2, .int 0), (0, .ref 40), (1, .int (nI n))]) dX6_nameHere_99 3 rfl rfl (by decide) rfl ?_
        refine go_goto 50 dX6_nameHere_102 (by decide) ?_
        exact Go.pick [2, 3, 1, 0] rfl h
      · have h := h.2 q
        refine go_iconst (v := 1) dX6_nameHere_93 (by decide) ?_
        refine go_goto 98 dX6_nameHere_94 (by decide) ?_
        refine go_istore_n (L2 := [(2, .int 1), (0, .ref 40), (1, .int (nI n)), (3, .int (nI k))]) dX6_nameHere_98 (by decide) rfl ?_
        refine go_iinc (v := ((nI k) + 1)) (L2 := [(3, .int ((nI k) + 1)), (2, .int 1), (0, .ref 40), (1, .int (nI n))]) dX6_nameHere_99 3 rfl rfl (by decide) rfl ?_
        refine go_goto 50 dX6_nameHere_102 (by decide) ?_
        exact Go.pick [2, 3, 1, 0] rfl h


theorem nmN_eq {T : Tp} {q n : Nat} (hn : n < 5) (hx : ∀ i, i < n → isN T q i = false) (h : isN T q n = true) : nmN T q = n := by
  unfold nmN
  rcases (show n = 0 ∨ n = 1 ∨ n = 2 ∨ n = 3 ∨ n = 4 by omega) with rfl | rfl | rfl | rfl | rfl
  · rw [if_pos h]
  · rw [if_neg (by rw [hx 0 (by omega)]; decide), if_pos h]
  · rw [if_neg (by rw [hx 0 (by omega)]; decide), if_neg (by rw [hx 1 (by omega)]; decide), if_pos h]
  · rw [if_neg (by rw [hx 0 (by omega)]; decide), if_neg (by rw [hx 1 (by omega)]; decide), if_neg (by rw [hx 2 (by omega)]; decide), if_pos h]
  · rw [if_neg (by rw [hx 0 (by omega)]; decide), if_neg (by rw [hx 1 (by omega)]; decide), if_neg (by rw [hx 2 (by omega)]; decide), if_neg (by rw [hx 3 (by omega)]; decide), if_pos h]

theorem nmN_5 {T : Tp} {q : Nat} (hx : ∀ i, i < 5 → isN T q i = false) : nmN T q = 5 := by
  unfold nmN
  rw [if_neg (by rw [hx 0 (by omega)]; decide), if_neg (by rw [hx 1 (by omega)]; decide), if_neg (by rw [hx 2 (by omega)]; decide), if_neg (by rw [hx 3 (by omega)]; decide), if_neg (by rw [hx 4 (by omega)]; decide)]
def nmI (n : Nat) : Int32 := if n = 5 then -4 else nI n
theorem kX6_nameHere {G : GX} (d : Nat) {mem : Mem} (T : Tp) (s : Rs) (h0 : s.1 = 0) (h7 : C7 mem) (h : RsM T s mem) : Cn G (d + 1) mX6_nameHere [.ref 40] mem (Ri (nmI (nmN T s.2.2)) (fun m2 => m2 = mem)) := by
  obtain ⟨hT, h5, h2, h3, h4⟩ := id h
  obtain ⟨g9, g8, g10, g11, gb, gq⟩ := h4 h0
  have bd := tk0_bd gq
  have hs := tk0_s (T := T) (q := s.2.2)
  have h160 := hT.1
  have e1 : (nI (tk0 T s.2.2).2.1 = (1 : Int32)) ↔ (tk0 T s.2.2).2.1 = 1 := neq (b := 1) (by omega) (by omega)
  have hend : ∀ i, i < 6 → endL.getD i 0 ≤ 21 := by decide +kernel
  have hlet : ∀ i, i < 21 → letL.getD i 0 ≤ 127 := by decide +kernel
  have lp : ∀ (r n : Nat), n + r = 5 → (∀ i, i < n → isN T s.2.2 i = false) → Go G (d + 1) mX6_nameHere 2 [(0, .ref 40), (1, .int (nI n))] [] mem (Ri (nmI (nmN T s.2.2)) (fun m2 => m2 = mem)) := by
    intro r
    induction r with
    | zero =>
      intro n hn hx
      have en : n = 5 := by omega
      subst en
      refine sX6_nameHere_2 5 ⟨fun _ => Ri.mk ?_ rfl, fun z => absurd (Int32.le_refl _) z⟩
      rw [nmN_5 hx]; rfl
    | succ r ih =>
      intro n hn hx
      have hb := sLen_b n (by omega)
      have en : (nI n + 1 : Int32) = nI (n + 1) := (nI_succ n).symm
      have e44 := h7.2.1 n (by omega)
      have e44' := h7.2.1 (n + 1) (by omega)
      have out : isN T s.2.2 n = false → Go G (d + 1) mX6_nameHere 2 [(0, .ref 40), (1, .int (nI n + 1))] [] mem (Ri (nmI (nmN T s.2.2)) (fun m2 => m2 = mem)) := fun z => by
        rw [en]
        exact ih (n + 1) (by omega) (fun i hi => by
          by_cases y : i = n
          · rw [y]; exact z
          · exact hx i (by omega))
      have out0 : ∀ k, isN T s.2.2 n = false → Go G (d + 1) mX6_nameHere 50 [(0, .ref 40), (1, .int (nI n)), (2, .int 0), (3, .int (nI k))] [] mem (Ri (nmI (nmN T s.2.2)) (fun m2 => m2 = mem)) := fun k z =>
        sX6_nameHere_50 0 n k 0 T ⟨fun _ => ⟨fun _ => out z, fun y => absurd rfl y⟩, fun y => absurd rfl y⟩
      have nf : ∀ {p : Prop}, p → (isN T s.2.2 n = true → ¬ p) → isN T s.2.2 n = false := fun a b => Bool.eq_false_iff.mpr (fun y => b y a)
      have lp2 : (tk0 T s.2.2).2.1 = 1 → (tk0 T s.2.2).1 - s.2.2 = sLen.getD n 0 → ∀ (r2 k : Nat), k + r2 = sLen.getD n 0 → (∀ x, x < k → T.2 (s.2.2 + x) = sNm n x) → Go G (d + 1) mX6_nameHere 50 [(0, .ref 40), (1, .int (nI n)), (2, .int 1), (3, .int (nI k))] [] mem (Ri (nmI (nmN T s.2.2)) (fun m2 => m2 = mem)) := fun a1 a2 => by
        intro r2
        induction r2 with
        | zero =>
          intro k hk hy
          refine sX6_nameHere_50 1 n k 0 T ⟨fun z => absurd z (by decide), fun _ => ?_⟩
          rw [g8, g9, pk_sub bd.1, nle (by omega) (by omega)]
          refine ⟨fun _ => ⟨fun z => absurd z (by decide), fun _ => Ri.mk ?_ rfl⟩, fun z => absurd (by omega) z⟩
          rw [nmN_eq (by omega) hx (isN_iff.mpr ⟨a1, a2, fun x hx2 => hy x (by omega)⟩)]
          unfold nmI
          rw [if_neg (by omega)]
        | succ r2 ih2 =>
          intro k hk hy
          have hc := hT.2.2 (s.2.2 + k) (by omega)
          have ek : (nI k + 1 : Int32) = nI (k + 1) := (nI_succ k).symm
          have e45 := h7.2.2 (endL.getD n 0 + k) (by omega)
          have hl := hlet (endL.getD n 0 + k) (by omega)
          refine sX6_nameHere_50 1 n k s.2.2 T ⟨fun z => absurd z (by decide), fun _ => ?_⟩
          rw [g8, g9, pk_sub bd.1, nle (by omega) (by omega), ek, ncl (by omega), e44, nI_add, nI_add, ncl (by omega), e45, byI, if_neg (by omega), neq (a := T.2 (s.2.2 + k)) (b := letL.getD (endL.getD n 0 + k) 0) (by omega) (by omega)]
          refine ⟨fun z => absurd z (by omega), fun _ => ⟨rfl, by omega, hT, nin (by omega) (by omega), nin (by omega) (by omega), fun z => out0 (k + 1) (nf z (fun y w => w ((isN_iff.mp y).2.2 k (by omega)))), fun z => ih2 (k + 1) (by omega) (fun x hx2 => ?_)⟩⟩
          by_cases y : x = k
          · rw [y]; exact z
          · exact hy x (by omega)
      refine sX6_nameHere_2 n ⟨fun z => absurd ((nle (a := 5) (by omega) (by omega)).mp z) (by omega), fun _ => ?_⟩
      rw [g10, e1, en, ncl (by omega), ncl (by omega), e44, e44', g8, g9, pk_sub bd.1, pk_sub (by omega), neq (by omega) (by omega), hb.2.1, Nat.add_sub_cancel_left]
      refine ⟨fun z => Ri.mk ?_ rfl, fun z => ⟨nin (by omega) (by omega), nin (by omega) (by omega), fun y => out0 0 (nf y (fun w u => u (isN_iff.mp w).2.1)), fun y => lp2 z y (sLen.getD n 0) 0 (by omega) (fun x hx2 => absurd hx2 (by omega))⟩⟩
      rw [nmN_5 (fun i _ => Bool.eq_false_iff.mpr (fun w => z (isN_iff.mp w).1))]; rfl
  exact cn_of (by decide +kernel) (Nat.le_of_ble_eq_true rfl) (sX6_nameHere_0 (lp 5 0 rfl (fun i hi => absurd hi (by omega))))
