
/-! ===== the model's lines ===== -/
def RepP (m : Mem) (X : Bm) : Prop := m 42 20 = nI (xn X) ∧ m 42 21 = nI (xu X) - 1 ∧ m 42 22 = nI (xt X) ∧ (∀ j, 15 ≤ j → j < 20 → m 42 j = 0) ∧ ∀ c, c < xn X → m 42 c = nI (xk X c) ∧ m 42 (5 + c) = nI (xp X c) ∧ m 42 (10 + c) = nI (xh X c) ∧ xe X c = 0
theorem RepP.fr {m m2 : Mem} {X : Bm} (h : RepP m X) (e : m2 42 = m 42) : RepP m2 X := by unfold RepP; rw [e]; exact h
theorem RsM.fr {T : Tp} {s : Rs} {m m2 : Mem} (h : RsM T s m) (h1 : m2 43 = m 43) (h2 : ∀ j, j ≠ 2 → m2 40 j = m 40 j) : RsM T s m2 := by
  obtain ⟨a, b, c, d, e⟩ := h
  refine ⟨a.fr (h2 4 (by decide)) h1, b, ?_, ?_, ?_⟩
  · rw [h2 6 (by decide)]; exact c
  · rw [h2 7 (by decide)]; exact d
  · rw [h2 9 (by decide), h2 8 (by decide), h2 10 (by decide), h2 11 (by decide)]; exact e
def mr (T : Tp) (s1 : Rs) (X : Bm) (n : Nat) : Rs × Bm := if n = 4 then (nx T (ck T 0 5 s1), puX X (vlN T s1)) else (nx T (ck T 0 (vlN T s1 - 1) (nx T (ck T 2 30 s1))), addX X n (vlN T s1) (vlN T (nx T (ck T 2 30 s1))))
def LpM (T : Tp) (z : Rs × Bm) (m : Mem) : Prop := RsM T z.1 m ∧ (z.1.1 = 0 → RepP m z.2)
def FrP (m m2 : Mem) : Prop := (∀ k, k ≠ 40 → k ≠ 42 → m2 k = m k) ∧ ∀ j, (j < 6 ∨ 11 < j) → m2 40 j = m 40 j

set_option maxRecDepth 100000 in
theorem sX6_readMore_0 {G : GX} {d : Nat} {mem : Mem} {Φ : Option Value → Mem → Prop} (a1 : Int32) (f2 : Int32 → Nat) (T : Tp) (s1 s2 : Rs) (h : ((¬ a1 = 4 → ∀ y1 : Int32, y1 = (mem 42 (20 : Int32).toNatClampNeg) → (vp_in y1 23) ∧ (2 = nI 2 ∧ 30 = nI 30) ∧ (RsM T s1 (um mem 42 (y1 : Int32).toNatClampNeg a1)) ∧ ∀ (w6 : Int32) (m5 : Mem), (((ck T 2 30 s1).1 = 0 → w6 = nI (vlN T s1)) ∧ RsM T (nx T (ck T 2 30 s1)) m5 ∧ FrK (um mem 42 (y1 : Int32).toNatClampNeg a1) m5) → (vp_in (5 + y1) 23) ∧ (0 = nI 0 ∧ (((um m5 42 ((5 + y1) : Int32).toNatClampNeg w6) 42 ((5 + y1) : Int32).toNatClampNeg) - 1) = nI (f2 (((um m5 42 ((5 + y1) : Int32).toNatClampNeg w6) 42 ((5 + y1) : Int32).toNatClampNeg) - 1))) ∧ (RsM T s2 (um m5 42 ((5 + y1) : Int32).toNatClampNeg w6)) ∧ ∀ (w11 : Int32) (m10 : Mem), (((ck T 0 (f2 (((um m5 42 ((5 + y1) : Int32).toNatClampNeg w6) 42 ((5 + y1) : Int32).toNatClampNeg) - 1)) s2).1 = 0 → w11 = nI (vlN T s2)) ∧ RsM T (nx T (ck T 0 (f2 (((um m5 42 ((5 + y1) : Int32).toNatClampNeg w6) 42 ((5 + y1) : Int32).toNatClampNeg) - 1)) s2)) m10 ∧ FrK (um m5 42 ((5 + y1) : Int32).toNatClampNeg w6) m10) → (vp_in (10 + y1) 23) ∧ ∀ m13 : Mem, m13 = (um m10 42 ((10 + y1) : Int32).toNatClampNeg w11) → ∀ m14 : Mem, m14 = (um m13 42 (20 : Int32).toNatClampNeg ((m13 42 (20 : Int32).toNatClampNeg) + 1)) → Φ none m14) ∧ (a1 = 4 → (0 = nI 0 ∧ 5 = nI 5) ∧ (RsM T s1 mem) ∧ ∀ (w18 : Int32) (m17 : Mem), (((ck T 0 5 s1).1 = 0 → w18 = nI (vlN T s1)) ∧ RsM T (nx T (ck T 0 5 s1)) m17 ∧ FrK mem m17) → ∀ m19 : Mem, m19 = (um m17 42 (21 : Int32).toNatClampNeg (w18 - 1)) → Φ none m19))) : Go G (d + 3) mX6_readMore 0 [(0, .ref 40), (1, .int a1)] [] mem Φ := by
  refine go_iload_n dX6_readMore_0 1 rfl ?_
  refine go_iconst (v := 4) dX6_readMore_1 (by decide) ?_
  refine go_icmp_ne 21 dX6_readMore_2 (by decide) (fun q => ?_) (fun q => ?_)
  · have h := h.1 q
    refine go_aload_n dX6_readMore_21 0 rfl ?_
    refine go_getR (kf := 1) (t := 42) rfl rfl rfl uwX6 (by decide) flX6_13 dX6_readMore_22 ?_
    refine go_bipush (v := 20) dX6_readMore_25 (by decide) ?_
    refine go_iaload rfl (nin (a := 20) (by decide) (by decide)) dX6_readMore_27 ?_
    refine go_topi (fun y1 qy1 => ?_)
    have h := h y1 qy1
    refine go_istore_n (L2 := [(2, .int y1), (0, .ref 40), (1, .int a1)]) dX6_readMore_28 (by decide) rfl ?_
    refine go_aload_n dX6_readMore_29 1 rfl ?_
    refine go_getR (kf := 1) (t := 42) rfl rfl rfl uwX6 (by decide) flX6_13 dX6_readMore_30 ?_
    refine go_iload_n dX6_readMore_33 0 rfl ?_
    refine go_iload_n dX6_readMore_34 2 rfl ?_
    obtain ⟨c2, h⟩ := h
    refine go_iastore rfl c2 dX6_readMore_35 ?_
    refine go_aload_n dX6_readMore_36 1 rfl ?_
    refine go_getR (kf := 1) (t := 42) rfl rfl rfl uwX6 (by decide) flX6_13 dX6_readMore_37 ?_
    refine go_iconst (v := 5) dX6_readMore_40 (by decide) ?_
    refine go_iload_n dX6_readMore_41 0 rfl ?_
    refine go_iadd dX6_readMore_42 ?_
    refine go_aload_n dX6_readMore_43 1 rfl ?_
    refine go_iconst (v := 2) dX6_readMore_44 (by decide) ?_
    refine go_bipush (v := 30) dX6_readMore_45 (by decide) ?_
    obtain ⟨c3, h⟩ := h
    obtain ⟨c4, h⟩ := h
    refine go_callV (st := [.int (5 + y1), .ref 42]) (kX6_number (d + 0) 2 30 2 30 T s1 c3 c4) rfl rfl okX6_number insX6_number selX6_number lkX6_94 rfl rfl (Nat.le_of_ble_eq_true rfl) dX6_readMore_47 (fun v_ m5 q => ?_)
    obtain ⟨w6, q0_, q⟩ := q
    rw [q0_]
    have h := h w6 m5 q
    refine go_stk (st2 := [.int w6, .int (5 + y1), .ref 42]) rfl ?_
    obtain ⟨c7, h⟩ := h
    refine go_iastore rfl c7 dX6_readMore_50 ?_
    refine go_aload_n dX6_readMore_51 1 rfl ?_
    refine go_getR (kf := 1) (t := 42) rfl rfl rfl uwX6 (by decide) flX6_13 dX6_readMore_52 ?_
    refine go_bipush (v := 10) dX6_readMore_55 (by decide) ?_
    refine go_iload_n dX6_readMore_57 0 rfl ?_
    refine go_iadd dX6_readMore_58 ?_
    refine go_aload_n dX6_readMore_59 1 rfl ?_
    refine go_iconst (v := 0) dX6_readMore_60 (by decide) ?_
    refine go_aload_n dX6_readMore_61 1 rfl ?_
    refine go_getR (kf := 1) (t := 42) rfl rfl rfl uwX6 (by decide) flX6_13 dX6_readMore_62 ?_
    refine go_iconst (v := 5) dX6_readMore_65 (by decide) ?_
    refine go_iload_n dX6_readMore_66 0 rfl ?_
    refine go_iadd dX6_readMore_67 ?_
    refine go_iaload rfl c7 dX6_readMore_68 ?_
    refine go_iconst (v := 1) dX6_readMore_69 (by decide) ?_
    refine go_isub dX6_readMore_70 ?_
    obtain ⟨c8, h⟩ := h
    obtain ⟨c9, h⟩ := h
    refine go_callV (st := [.int (10 + y1), .ref 42]) (kX6_number (d + 0) 0 (((um m5 42 ((5 + y1) : Int32).toNatClampNeg w6) 42 ((5 + y1) : Int32).toNatClampNeg) - 1) 0 (f2 (((um m5 42 ((5 + y1) : Int32).toNatClampNeg w6) 42 ((5 + y1) : Int32).toNatClampNeg) - 1)) T s2 c8 c9) rfl rfl okX6_number insX6_number selX6_number lkX6_94 rfl rfl (Nat.le_of_ble_eq_true rfl) dX6_readMore_71 (fun v_ m10 q => ?_)
    obtain ⟨w11, q0_, q⟩ := q
    rw [q0_]
    have h := h w11 m10 q
    refine go_stk (st2 := [.int w11, .int (10 + y1), .ref 42]) rfl ?_
    obtain ⟨c12, h⟩ := h
    refine go_iastore rfl c12 dX6_readMore_74 ?_
    refine go_mem (fun m13 qm13 => ?_)
    have h := h m13 qm13
    refine go_aload_n dX6_readMore_75 1 rfl ?_
    refine go_getR (kf := 1) (t := 42) rfl rfl rfl uwX6 (by decide) flX6_13 dX6_readMore_76 ?_
    refine go_bipush (v := 20) dX6_readMore_79 (by decide) ?_
    refine go_dup2 dX6_readMore_81 rfl rfl ?_
    refine go_iaload rfl (nin (a := 20) (by decide) (by decide)) dX6_readMore_82 ?_
    refine go_iconst (v := 1) dX6_readMore_83 (by decide) ?_
    refine go_iadd dX6_readMore_84 ?_
    refine go_iastore rfl (nin (a := 20) (by decide) (by decide)) dX6_readMore_85 ?_
    refine go_mem (fun m14 qm14 => ?_)
    have h := h m14 qm14
    exact go_vret rfl dX6_readMore_86 h
  · have h := h.2 q
    refine go_aload_n dX6_readMore_5 0 rfl ?_
    refine go_getR (kf := 1) (t := 42) rfl rfl rfl uwX6 (by decide) flX6_13 dX6_readMore_6 ?_
    refine go_bipush (v := 21) dX6_readMore_9 (by decide) ?_
    refine go_aload_n dX6_readMore_11 0 rfl ?_
    refine go_iconst (v := 0) dX6_readMore_12 (by decide) ?_
    refine go_iconst (v := 5) dX6_readMore_13 (by decide) ?_
    obtain ⟨c15, h⟩ := h
    obtain ⟨c16, h⟩ := h
    refine go_callV (st := [.int 21, .ref 42]) (kX6_number (d + 0) 0 5 0 5 T s1 c15 c16) rfl rfl okX6_number insX6_number selX6_number lkX6_94 rfl rfl (Nat.le_of_ble_eq_true rfl) dX6_readMore_14 (fun v_ m17 q => ?_)
    obtain ⟨w18, q0_, q⟩ := q
    rw [q0_]
    have h := h w18 m17 q
    refine go_stk (st2 := [.int w18, .int 21, .ref 42]) rfl ?_
    refine go_iconst (v := 1) dX6_readMore_17 (by decide) ?_
    refine go_isub dX6_readMore_18 ?_
    refine go_iastore rfl (nin (a := 21) (by decide) (by decide)) dX6_readMore_19 ?_
    refine go_mem (fun m19 qm19 => ?_)
    have h := h m19 qm19
    exact go_vret rfl dX6_readMore_20 h


theorem kX6_readMore {G : GX} (d : Nat) {mem : Mem} (a : Int32) (n : Nat) (T : Tp) (s1 : Rs) (X : Bm) (e : a = nI n) (h0 : s1.1 = 0) (hn : n ≤ 4 ∧ xn X ≤ 5 ∧ (n ≠ 4 → xn X < 5)) (h : RsM T s1 mem) (hP : RepP mem X) : Cn G (d + 3) mX6_readMore [.ref 40, .int a] mem (Rv (fun m2 => LpM T (mr T s1 X n) m2 ∧ FrP mem m2)) := by
  subst e
  have hB : ∀ i, i < T.1 → T.2 i ≤ 127 := fun i hi => (h.1.2.2 i hi).1
  have c20 : (20 : Int32).toNatClampNeg = 20 := by decide
  have c21 : (21 : Int32).toNatClampNeg = 21 := by decide
  have e4 : (nI n = (4 : Int32)) ↔ n = 4 := neq (b := 4) (by omega) (by omega)
  refine cn_of (by decide +kernel) (Nat.le_of_ble_eq_true rfl) (sX6_readMore_0 (nI n) (fun x => x.toBitVec.toNat) T s1 (nx T (ck T 2 30 s1)) ?_)
  rw [e4, c20, c21]
  unfold mr
  obtain ⟨p1, p2, p3, p4, p5⟩ := id hP
  refine ⟨fun q y1 ey => ?_, fun q => ⟨⟨rfl, rfl⟩, h, fun w m17 z m19 em => ⟨rfl, ?_⟩⟩⟩
  · have hx := hn.2.2 q
    rw [p1] at ey
    subst ey
    have e5 : (5 + nI (xn X) : Int32) = nI (5 + xn X) := nI_add (a := 5) (b := xn X)
    have e10 : (10 + nI (xn X) : Int32) = nI (10 + xn X) := nI_add (a := 10) (b := xn X)
    rw [e5, e10, ncl (by omega), ncl (by omega), ncl (by omega)]
    refine ⟨nin (by omega) (by omega), ⟨rfl, rfl⟩, h.fr (um_ne (by decide)) (fun j _ => by rw [um_ne (by decide)]), fun w6 m5 z => ?_⟩
    rw [um_same]
    have v3 := z.2.1.vs
    have e3 : ck T 0 ((w6 - 1).toBitVec.toNat) (nx T (ck T 2 30 s1)) = ck T 0 (vlN T s1 - 1) (nx T (ck T 2 30 s1)) := by
      refine ck_hi (fun f => ?_)
      have f1 := (nx_v f (ck_vs h.vs)).1
      have r := ck_r hB h.vs (by omega) f1
      rw [← anyI, z.1 f1, nI_sub1 (by omega)]
    refine ⟨nin (by omega) (by omega), ⟨rfl, anyI _⟩, z.2.1.fr (um_ne (by decide)) (fun j _ => by rw [um_ne (by decide)]), fun w11 m10 y => ⟨nin (by omega) (by omega), fun m13 em13 m14 em14 => ⟨rfl, ?_⟩⟩⟩
    simp only [e3] at y
    have hj : ∀ j, m14 42 j = if j = 20 then m13 42 20 + 1 else if j = 10 + xn X then w11 else if j = 5 + xn X then w6 else if j = xn X then nI n else mem 42 j := fun j => by
      rw [em14, um_at, em13]
      by_cases q1 : j = 20
      · rw [if_pos q1, if_pos q1]
      · rw [if_neg q1, if_neg q1, um_at]
        by_cases q2 : j = 10 + xn X
        · rw [if_pos q2, if_pos q2]
        · rw [if_neg q2, if_neg q2, y.2.2.1 42 (by decide), um_at]
          by_cases q3 : j = 5 + xn X
          · rw [if_pos q3, if_pos q3]
          · rw [if_neg q3, if_neg q3, z.2.2.1 42 (by decide), um_at]
    have h13 : m13 42 20 = nI (xn X) := by
      rw [em13, um_at, if_neg (by omega), y.2.2.1 42 (by decide), um_at, if_neg (by omega), z.2.2.1 42 (by decide), um_at, if_neg (by omega)]
      exact p1
    have f40 : m14 40 = m10 40 := by rw [em14, um_ne (by decide), em13, um_ne (by decide)]
    have f43 : ∀ k, k ≠ 40 → k ≠ 42 → m14 k = mem k := fun k a1 a2 => by rw [em14, um_ne a2, em13, um_ne a2, y.2.2.1 k a1, um_ne a2, z.2.2.1 k a1, um_ne a2]
    have g43 : m14 43 = m10 43 := by rw [em14, um_ne (by decide), em13, um_ne (by decide)]
    rw [if_neg q]
    refine ⟨⟨y.2.1.fr g43 (fun j _ => by rw [f40]), fun f => ?_⟩, f43, fun j hh => ?_⟩
    · have vb := nx_vs (ck_vs (lo := 2) (hi := 30) h.vs)
      have f1 := (nx_v f (ck_vs vb)).1
      have f2 := (ck_v f1).1
      have f3 := (nx_v f2 (ck_vs h.vs)).1
      have r := ck_r hB h.vs (by omega) f3
      refine ⟨?_, ?_, ?_, fun j j1 j2 => ?_, fun c hc => ?_⟩
      · rw [hj, if_pos rfl, h13]; exact (nI_succ (xn X)).symm
      · rw [hj, if_neg (by omega), if_neg (by omega), if_neg (by omega), if_neg (by omega)]; exact p2
      · rw [hj, if_neg (by omega), if_neg (by omega), if_neg (by omega), if_neg (by omega)]; exact p3
      · rw [hj, if_neg (by omega), if_neg (by omega), if_neg (by omega), if_neg (by omega)]; exact p4 j j1 j2
      · have hc : c < xn X + 1 := hc
        show m14 42 c = nI (upN (xk X) (xn X) n c) ∧ m14 42 (5 + c) = nI (upN (xp X) (xn X) _ c) ∧ m14 42 (10 + c) = nI (upN (xh X) (xn X) _ c) ∧ upN (xe X) (xn X) 0 c = 0
        unfold upN
        by_cases q6 : c = xn X
        · rw [if_pos q6, if_pos q6, if_pos q6, if_pos q6, q6]
          refine ⟨?_, ?_, ?_, rfl⟩
          · rw [hj, if_neg (by omega), if_neg (by omega), if_neg (by omega), if_pos rfl]
          · rw [hj, if_neg (by omega), if_neg (by omega), if_pos rfl]; exact z.1 f3
          · rw [hj, if_neg (by omega), if_pos rfl]; exact y.1 f1
        · rw [if_neg q6, if_neg q6, if_neg q6, if_neg q6]
          obtain ⟨k1, k2, k3, k4⟩ := p5 c (by omega)
          refine ⟨?_, ?_, ?_, k4⟩
          · rw [hj, if_neg (by omega), if_neg (by omega), if_neg (by omega), if_neg q6]; exact k1
          · rw [hj, if_neg (by omega), if_neg (by omega), if_neg (by omega), if_neg (by omega)]; exact k2
          · rw [hj, if_neg (by omega), if_neg (by omega), if_neg (by omega), if_neg (by omega)]; exact k3
    · rw [f40, y.2.2.2 j hh, um_ne (by decide), z.2.2.2 j hh, um_ne (by decide)]
  · rw [if_pos q, em]
    refine ⟨⟨z.2.1.fr (um_ne (by decide)) (fun j _ => by rw [um_ne (by decide)]), fun f => ?_⟩, fun k a1 a2 => by rw [um_ne a2, z.2.2.1 k a1], fun j hh => by rw [um_ne (by decide), z.2.2.2 j hh]⟩
    have f1 := (nx_v f (ck_vs h.vs)).1
    have e42 := z.2.2.1 42 (by decide)
    refine ⟨?_, ?_, ?_, fun j j1 j2 => ?_, fun c hc => ?_⟩
    · rw [um_at, if_neg (by decide), e42]; exact p1
    · rw [um_same, z.1 f1]; rfl
    · rw [um_at, if_neg (by decide), e42]; exact p3
    · rw [um_at, if_neg (by omega), e42]; exact p4 j j1 j2
    · have hc : c < xn X := hc
      have h5 := hn.2.1
      rw [um_at, if_neg (by omega), um_at, if_neg (by omega), um_at, if_neg (by omega), e42]
      exact p5 c hc

set_option maxRecDepth 100000 in
theorem sX6_readLine_0 {G : GX} {d : Nat} {mem : Mem} {Φ : Option Value → Mem → Prop} (T : Tp) (s : Rs) (h : (s.1 = 0) ∧ (C7 mem) ∧ (RsM T s mem) ∧ ∀ y4 : Int32, y4 = (nmI (nmN T s.2.2)) → (((0 ≤ y4 ∧ y4 ≤ 4) → ((3 < y4 → Go G (d + 4) mX6_readLine 44 [(0, .ref 40), (1, .int y4)] [] mem Φ) ∧ (¬ 3 < y4 → ((¬ (mem 42 (20 : Int32).toNatClampNeg) = 5 → Go G (d + 4) mX6_readLine 44 [(0, .ref 40), (1, .int y4)] [] mem Φ) ∧ ((mem 42 (20 : Int32).toNatClampNeg) = 5 → (mem 40 6 = 0) ∧ Go G (d + 4) mX6_readLine 44 [(0, .ref 40), (1, .int y4)] [] (um (um mem 40 6 5) 40 7 (mem 40 9)) Φ))))) ∧ (¬ (0 ≤ y4 ∧ y4 ≤ 4) → (mem 40 6 = 0) ∧ Φ none (um (um mem 40 6 2) 40 7 (mem 40 9))))) : Go G (d + 4) mX6_readLine 0 [(0, .ref 40)] [] mem Φ := by
  refine go_aload_n dX6_readLine_0 0 rfl ?_
  obtain ⟨c1, h⟩ := h
  obtain ⟨c2, h⟩ := h
  obtain ⟨c3, h⟩ := h
  refine go_callV (st := []) (kX6_nameHere (d + 2) T s c1 c2 c3) rfl rfl okX6_nameHere insX6_nameHere selX6_nameHere lkX6_98 rfl rfl (Nat.le_of_ble_eq_true rfl) dX6_readLine_1 (fun v_ m2_ q => ?_)
  rw [q.1, q.2]
  refine go_stk (st2 := [.int (nmI (nmN T s.2.2))]) rfl ?_
  refine go_topi (fun y4 qy4 => ?_)
  have h := h y4 qy4
  refine go_istore_n (L2 := [(1, .int y4), (0, .ref 40)]) dX6_readLine_4 (by decide) rfl ?_
  refine go_iload_n dX6_readLine_5 0 rfl ?_
  refine go_i2l dX6_readLine_6 ?_
  refine go_lconst (v := 0) dX6_readLine_7 (by decide) ?_
  refine go_ldc2 klX6_102 dX6_readLine_8 ?_
  refine go_callS (st := []) (kX6_in (d + 3) y4 0 4 0 4 (by decide) (by decide)) okX6_in staX6_in lkX6_50 rfl rfl (Nat.le_of_ble_eq_true rfl) dX6_readLine_11 (fun v_ m2_ q => ?_)
  rw [q.1, q.2]
  refine go_stk (st2 := [.int (bI (0 ≤ y4 ∧ y4 ≤ 4))]) rfl ?_
  refine go_if_ne 23 dX6_readLine_14 (by decide) (fun q => ?_) (fun q => ?_)
  · have h := h.1 (bI1.mp q)
    refine go_iload_n dX6_readLine_23 0 rfl ?_
    refine go_iconst (v := 3) dX6_readLine_24 (by decide) ?_
    refine go_icmp_gt 44 dX6_readLine_25 (by decide) (fun q => ?_) (fun q => ?_)
    · have h := h.1 q
      exact Go.pick [1, 0] rfl h
    · have h := h.2 q
      refine go_aload_n dX6_readLine_28 1 rfl ?_
      refine go_getR (kf := 1) (t := 42) rfl rfl rfl uwX6 (by decide) flX6_13 dX6_readLine_29 ?_
      refine go_bipush (v := 20) dX6_readLine_32 (by decide) ?_
      refine go_iaload rfl (nin (a := 20) (by decide) (by decide)) dX6_readLine_34 ?_
      refine go_iconst (v := 5) dX6_readLine_35 (by decide) ?_
      refine go_icmp_ne 44 dX6_readLine_36 (by decide) (fun q => ?_) (fun q => ?_)
      · have h := h.1 q
        exact Go.pick [1, 0] rfl h
      · have h := h.2 q
        refine go_aload_n dX6_readLine_39 1 rfl ?_
        refine go_iconst (v := 5) dX6_readLine_40 (by decide) ?_
        obtain ⟨c5, h⟩ := h
        refine go_callV (st := []) (kX6_fails (d + 3) 5 c5) rfl rfl okX6_fails insX6_fails selX6_fails lkX6_87 rfl rfl (Nat.le_of_ble_eq_true rfl) dX6_readLine_41 (fun v_ m2_ q => ?_)
        rw [q.1, q.2]
        refine go_stk (st2 := []) rfl ?_
        exact Go.pick [1, 0] rfl h
  · have h := h.2 (bI0.mp q)
    refine go_aload_n dX6_readLine_17 1 rfl ?_
    refine go_iconst (v := 2) dX6_readLine_18 (by decide) ?_
    obtain ⟨c6, h⟩ := h
    refine go_callV (st := []) (kX6_fails (d + 3) 2 c6) rfl rfl okX6_fails insX6_fails selX6_fails lkX6_87 rfl rfl (Nat.le_of_ble_eq_true rfl) dX6_readLine_19 (fun v_ m2_ q => ?_)
    rw [q.1, q.2]
    refine go_stk (st2 := []) rfl ?_
    exact go_vret rfl dX6_readLine_22 h

set_option maxRecDepth 100000 in
theorem sX6_readLine_44 {G : GX} {d : Nat} {mem : Mem} {Φ : Option Value → Mem → Prop} (a1 : Int32) (h : ((¬ a1 = 4 → Go G (d + 4) mX6_readLine 61 [(0, .ref 40), (1, .int a1)] [] mem Φ) ∧ (a1 = 4 → (((mem 40 2) = 0 → Go G (d + 4) mX6_readLine 61 [(0, .ref 40), (1, .int a1)] [] mem Φ) ∧ (¬ (mem 40 2) = 0 → (mem 40 6 = 0) ∧ Go G (d + 4) mX6_readLine 61 [(0, .ref 40), (1, .int a1)] [] (um (um mem 40 6 4) 40 7 (mem 40 9)) Φ))))) : Go G (d + 4) mX6_readLine 44 [(0, .ref 40), (1, .int a1)] [] mem Φ := by
  refine go_iload_n dX6_readLine_44 1 rfl ?_
  refine go_iconst (v := 4) dX6_readLine_45 (by decide) ?_
  refine go_icmp_ne 61 dX6_readLine_46 (by decide) (fun q => ?_) (fun q => ?_)
  · have h := h.1 q
    exact Go.pick [0, 1] rfl h
  · have h := h.2 q
    refine go_aload_n dX6_readLine_49 0 rfl ?_
    refine go_getI (kf := 2) rfl rfl rfl uwX6 (by decide) flX6_104 dX6_readLine_50 ?_
    refine go_if_eq 61 dX6_readLine_53 (by decide) (fun q => ?_) (fun q => ?_)
    · have h := h.1 q
      exact Go.pick [0, 1] rfl h
    · have h := h.2 q
      refine go_aload_n dX6_readLine_56 0 rfl ?_
      refine go_iconst (v := 4) dX6_readLine_57 (by decide) ?_
      obtain ⟨c1, h⟩ := h
      refine go_callV (st := []) (kX6_fails (d + 3) 4 c1) rfl rfl okX6_fails insX6_fails selX6_fails lkX6_87 rfl rfl (Nat.le_of_ble_eq_true rfl) dX6_readLine_58 (fun v_ m2_ q => ?_)
      rw [q.1, q.2]
      refine go_stk (st2 := []) rfl ?_
      exact Go.pick [0, 1] rfl h

set_option maxRecDepth 100000 in
theorem sX6_readLine_61 {G : GX} {d : Nat} {mem : Mem} {Φ : Option Value → Mem → Prop} (a1 : Int32) (h : ((¬ (mem 40 2) = 0 → Go G (d + 4) mX6_readLine 82 [(0, .ref 40), (1, .int a1)] [] (um mem 40 2 1) Φ) ∧ ((mem 40 2) = 0 → ((¬ a1 = 4 → Go G (d + 4) mX6_readLine 82 [(0, .ref 40), (1, .int a1)] [] (um mem 40 2 0) Φ) ∧ (a1 = 4 → Go G (d + 4) mX6_readLine 82 [(0, .ref 40), (1, .int a1)] [] (um mem 40 2 1) Φ))))) : Go G (d + 4) mX6_readLine 61 [(0, .ref 40), (1, .int a1)] [] mem Φ := by
  refine go_aload_n dX6_readLine_61 0 rfl ?_
  refine go_aload_n dX6_readLine_62 0 rfl ?_
  refine go_getI (kf := 2) rfl rfl rfl uwX6 (by decide) flX6_104 dX6_readLine_63 ?_
  refine go_if_ne 74 dX6_readLine_66 (by decide) (fun q => ?_) (fun q => ?_)
  · have h := h.1 q
    refine go_iconst (v := 1) dX6_readLine_74 (by decide) ?_
    refine go_goto 79 dX6_readLine_75 (by decide) ?_
    refine go_putI (kf := 2) rfl rfl rfl uwX6 tyX6_ok nmX6 (by decide) rfl flX6_104 rfl rfl dX6_readLine_79 ?_
    exact Go.pick [0, 1] rfl h
  · have h := h.2 q
    refine go_iload_n dX6_readLine_69 1 rfl ?_
    refine go_iconst (v := 4) dX6_readLine_70 (by decide) ?_
    refine go_icmp_ne 78 dX6_readLine_71 (by decide) (fun q => ?_) (fun q => ?_)
    · have h := h.1 q
      refine go_iconst (v := 0) dX6_readLine_78 (by decide) ?_
      refine go_putI (kf := 2) rfl rfl rfl uwX6 tyX6_ok nmX6 (by decide) rfl flX6_104 rfl rfl dX6_readLine_79 ?_
      exact Go.pick [0, 1] rfl h
    · have h := h.2 q
      refine go_iconst (v := 1) dX6_readLine_74 (by decide) ?_
      refine go_goto 79 dX6_readLine_75 (by decide) ?_
      refine go_putI (kf := 2) rfl rfl rfl uwX6 tyX6_ok nmX6 (by decide) rfl flX6_104 rfl rfl dX6_readLine_79 ?_
      exact Go.pick [0, 1] rfl h

set_option maxRecDepth 100000 in
theorem sX6_readLine_82 {G : GX} {d : Nat} {mem : Mem} {Φ : Option Value → Mem → Prop} (a1 : Int32) (n : Nat) (T : Tp) (s0 s1 : Rs) (X : Bm) (h : (RsM T s0 mem) ∧ ∀ m2 : Mem, (RsM T (nx T s0) m2 ∧ FrK mem m2) → (((m2 40 6) ≤ 0 → (a1 = nI n) ∧ (s1.1 = 0) ∧ (n ≤ 4 ∧ xn X ≤ 5 ∧ (n ≠ 4 → xn X < 5)) ∧ (RsM T s1 m2) ∧ (RepP m2 X) ∧ ∀ m8 : Mem, (LpM T (mr T s1 X n) m8 ∧ FrP m2 m8) → ((¬ (m8 40 6) = 0 → Go G (d + 4) mX6_readLine 119 [(0, .ref 40)] [] m8 Φ) ∧ ((m8 40 6) = 0 → (((m8 40 10) = 3 → Go G (d + 4) mX6_readLine 119 [(0, .ref 40)] [] m8 Φ) ∧ (¬ (m8 40 10) = 3 → (m8 40 6 = 0) ∧ Go G (d + 4) mX6_readLine 119 [(0, .ref 40)] [] (um (um m8 40 6 2) 40 7 (m8 40 9)) Φ))))) ∧ (¬ (m2 40 6) ≤ 0 → Φ none m2))) : Go G (d + 4) mX6_readLine 82 [(0, .ref 40), (1, .int a1)] [] mem Φ := by
  refine go_aload_n dX6_readLine_82 0 rfl ?_
  obtain ⟨c1, h⟩ := h
  refine go_callV (st := []) (kX6_nx (d + 2) T s0 c1) rfl rfl okX6_step insX6_step selX6_step lkX6_91 rfl rfl (Nat.le_of_ble_eq_true rfl) dX6_readLine_83 (fun v_ m2 q => ?_)
  rw [q.1]
  have h := h m2 q.2
  refine go_stk (st2 := []) rfl ?_
  refine go_aload_n dX6_readLine_86 0 rfl ?_
  refine go_getI (kf := 6) rfl rfl rfl uwX6 (by decide) flX6_57 dX6_readLine_87 ?_
  refine go_if_le 94 dX6_readLine_90 (by decide) (fun q => ?_) (fun q => ?_)
  · have h := h.1 q
    refine go_aload_n dX6_readLine_94 0 rfl ?_
    refine go_iload_n dX6_readLine_95 1 rfl ?_
    obtain ⟨c3, h⟩ := h
    obtain ⟨c4, h⟩ := h
    obtain ⟨c5, h⟩ := h
    obtain ⟨c6, h⟩ := h
    obtain ⟨c7, h⟩ := h
    refine go_callV (st := []) (kX6_readMore (d + 0) a1 n T s1 X c3 c4 c5 c6 c7) rfl rfl okX6_readMore insX6_readMore selX6_readMore lkX6_108 rfl rfl (Nat.le_of_ble_eq_true rfl) dX6_readLine_96 (fun v_ m8 q => ?_)
    rw [q.1]
    have h := h m8 q.2
    refine go_stk (st2 := []) rfl ?_
    refine go_aload_n dX6_readLine_99 0 rfl ?_
    refine go_getI (kf := 6) rfl rfl rfl uwX6 (by decide) flX6_57 dX6_readLine_100 ?_
    refine go_if_ne 119 dX6_readLine_103 (by decide) (fun q => ?_) (fun q => ?_)
    · have h := h.1 q
      exact Go.pick [0] rfl h
    · have h := h.2 q
      refine go_aload_n dX6_readLine_106 0 rfl ?_
      refine go_getI (kf := 10) rfl rfl rfl uwX6 (by decide) flX6_66 dX6_readLine_107 ?_
      refine go_iconst (v := 3) dX6_readLine_110 (by decide) ?_
      refine go_icmp_eq 119 dX6_readLine_111 (by decide) (fun q => ?_) (fun q => ?_)
      · have h := h.1 q
        exact Go.pick [0] rfl h
      · have h := h.2 q
        refine go_aload_n dX6_readLine_114 0 rfl ?_
        refine go_iconst (v := 2) dX6_readLine_115 (by decide) ?_
        obtain ⟨c9, h⟩ := h
        refine go_callV (st := []) (kX6_fails (d + 3) 2 c9) rfl rfl okX6_fails insX6_fails selX6_fails lkX6_87 rfl rfl (Nat.le_of_ble_eq_true rfl) dX6_readLine_116 (fun v_ m2_ q => ?_)
        rw [q.1, q.2]
        refine go_stk (st2 := []) rfl ?_
        exact Go.pick [0] rfl h
  · have h := h.2 q
    exact go_vret rfl dX6_readLine_93 h

set_option maxRecDepth 100000 in
theorem sX6_readLine_119 {G : GX} {d : Nat} {mem : Mem} {Φ : Option Value → Mem → Prop} (T : Tp) (s3 : Rs) (h : (RsM T s3 mem) ∧ ∀ m2 : Mem, (RsM T (nx T s3) m2 ∧ FrK mem m2) → Φ none m2) : Go G (d + 4) mX6_readLine 119 [(0, .ref 40)] [] mem Φ := by
  refine go_aload_n dX6_readLine_119 0 rfl ?_
  obtain ⟨c1, h⟩ := h
  refine go_callV (st := []) (kX6_nx (d + 2) T s3 c1) rfl rfl okX6_step insX6_step selX6_step lkX6_91 rfl rfl (Nat.le_of_ble_eq_true rfl) dX6_readLine_120 (fun v_ m2 q => ?_)
  rw [q.1]
  have h := h m2 q.2
  refine go_stk (st2 := []) rfl ?_
  exact go_vret rfl dX6_readLine_123 h


theorem nx_f {T : Tp} {s : Rs} (h : ¬ s.1 = 0) : nx T s = s := by unfold nx; rw [if_pos h]
theorem ck_f {T : Tp} {lo hi : Nat} {s : Rs} (h : ¬ s.1 = 0) : ck T lo hi s = s := by unfold ck; rw [if_pos h]
theorem cks_f {T : Tp} {s : Rs} (h : ¬ s.1 = 0) : cks T s = s := by unfold cks; rw [if_pos h]
theorem ln_mr {T : Tp} {s : Rs} {u : Nat} {X : Bm} (h5 : ¬ nmN T s.2.2 = 5) (hu : nmN T s.2.2 = 4 → u = 0) (hx : nmN T s.2.2 ≠ 4 → xn X < 5) : ln T s u X = (cks T (mr T (nx T s) X (nmN T s.2.2)).1, (if nmN T s.2.2 = 4 then 1 else u), (mr T (nx T s) X (nmN T s.2.2)).2) := by
  unfold ln mr
  rw [if_neg h5]
  by_cases q : nmN T s.2.2 = 4
  · rw [if_pos q, if_pos q, if_pos q, lnP, if_neg (by have := hu q; omega)]
  · rw [if_neg q, if_neg q, if_neg q, lnK, if_neg (by have := hx q; omega)]
theorem mr_f {T : Tp} {s1 : Rs} {X : Bm} {n : Nat} (h : ¬ s1.1 = 0) : (mr T s1 X n).1 = s1 := by
  unfold mr
  by_cases q : n = 4
  · rw [if_pos q]
    show nx T (ck T 0 5 s1) = s1
    rw [ck_f h, nx_f h]
  · rw [if_neg q]
    show nx T (ck T 0 _ (nx T (ck T 2 30 s1))) = s1
    rw [ck_f (s := s1) h, nx_f h, ck_f h, nx_f h]
def LsM (T : Tp) (z : Ls) (m : Mem) : Prop := RsM T z.1 m ∧ (z.1.1 = 0 → m 40 2 = nI z.2.1 ∧ RepP m z.2.2)
def FrQ (m m2 : Mem) : Prop := (∀ k, k ≠ 40 → k ≠ 42 → m2 k = m k) ∧ ∀ j, (j < 6 ∨ 11 < j) → j ≠ 2 → m2 40 j = m 40 j
theorem FrK.fq {m m2 : Mem} (h : FrK m m2) : FrQ m m2 := ⟨fun k a _ => h.1 k a, fun j a _ => h.2 j a⟩
theorem FrP.fq {m m2 : Mem} (h : FrP m m2) : FrQ m m2 := ⟨h.1, fun j a _ => h.2 j a⟩
theorem FrQ.tr {a b c : Mem} (h : FrQ a b) (g : FrQ b c) : FrQ a c := ⟨fun k x y => (g.1 k x y).trans (h.1 k x y), fun j x y => (g.2 j x y).trans (h.2 j x y)⟩
theorem FrQ.rf {m : Mem} : FrQ m m := ⟨fun _ _ _ => rfl, fun _ _ _ => rfl⟩
theorem FrQ.u2 {m : Mem} {x : Int32} : FrQ m (um m 40 2 x) := ⟨fun k a _ => um_ne a, fun j _ b => by rw [um_at, if_neg b]⟩
theorem kX6_readLine {G : GX} (d : Nat) {mem : Mem} (T : Tp) (s : Rs) (u : Nat) (X : Bm) (h0 : s.1 = 0) (hu : u ≤ 1) (hn : xn X ≤ 5) (h7 : C7 mem) (h : LsM T (s, u, X) mem) : Cn G (d + 4) mX6_readLine [.ref 40] mem (Rv (fun m2 => LsM T (lx T (s, u, X)) m2 ∧ FrQ mem m2)) := by
  obtain ⟨hs, hz⟩ := h
  have hs : RsM T s mem := hs
  obtain ⟨h2, hP⟩ := hz h0
  have h2 : mem 40 2 = nI u := h2
  have hP : RepP mem X := hP
  have h6 : mem 40 6 = 0 := by rw [hs.2.2.1, h0]; rfl
  have hb := nmN_le (T := T) (q := s.2.2)
  have c20 : (20 : Int32).toNatClampNeg = 20 := by decide
  -- a fault of this line: nothing more is read
  have flt : ∀ (m : Mem) (w : Nat), ¬ s.1 ≠ 0 → 1 ≤ w → w ≤ 5 → (ln T s u X).1 = rf s w → RsM T (rf s w) m → LsM T (lx T (s, u, X)) m := fun m w _ w1 w2 el hm => by
    have nf : ¬ (rf s w).1 = 0 := rf_1 w1
    have e1 : (lx T (s, u, X)).1 = rf s w := by
      show nx T (ln T s u X).1 = rf s w
      rw [el, nx_f nf]
    exact ⟨by rw [e1]; exact hm, fun f => absurd f (by rw [e1]; exact nf)⟩
  -- from 82 on under a fault
  have g82f : ∀ (m : Mem) (a : Int32) (w : Nat), 1 ≤ w → w ≤ 5 → (ln T s u X).1 = rf s w → RsM T (rf s w) m → FrQ mem m → Go G (d + 4) mX6_readLine 82 [(0, .ref 40), (1, .int a)] [] m (Rv (fun m2 => LsM T (lx T (s, u, X)) m2 ∧ FrQ mem m2)) := fun m a w w1 w2 el hm fq => by
    have nf : ¬ (rf s w).1 = 0 := rf_1 w1
    refine sX6_readLine_82 a 0 T (rf s w) (rf s w) X ⟨hm, fun m2 z => ?_⟩
    rw [nx_f nf] at z
    rw [z.1.2.2.1, (nI05 z.1.2.1).2]
    exact ⟨fun f => absurd f nf, fun _ => ⟨rfl, flt m2 w (by omega) w1 w2 el z.1, fq.tr z.2.fq⟩⟩
  have g61f : ∀ (m : Mem) (a : Int32) (w : Nat), 1 ≤ w → w ≤ 5 → (ln T s u X).1 = rf s w → RsM T (rf s w) m → FrQ mem m → Go G (d + 4) mX6_readLine 61 [(0, .ref 40), (1, .int a)] [] m (Rv (fun m2 => LsM T (lx T (s, u, X)) m2 ∧ FrQ mem m2)) := fun m a w w1 w2 el hm fq => by
    have k : ∀ x : Int32, Go G (d + 4) mX6_readLine 82 [(0, .ref 40), (1, .int a)] [] (um m 40 2 x) (Rv (fun m2 => LsM T (lx T (s, u, X)) m2 ∧ FrQ mem m2)) := fun x => g82f _ a w w1 w2 el (hm.fr (um_ne (by decide)) (fun j hj => by rw [um_at, if_neg hj])) (fq.tr FrQ.u2)
    exact sX6_readLine_61 a ⟨fun _ => k 1, fun _ => ⟨fun _ => k 0, fun _ => k 1⟩⟩
  refine cn_of (by decide +kernel) (Nat.le_of_ble_eq_true rfl) (sX6_readLine_0 T s ⟨h0, h7, hs, fun y ey => ?_⟩)
  by_cases q5 : nmN T s.2.2 = 5
  · have e5 : y = -4 := by rw [ey, q5]; rfl
    subst e5
    refine ⟨fun z => absurd z (by decide), fun _ => ⟨h6, rfl, ?_⟩⟩
    have r := hs.rf h0 (w := 2) (by omega)
    exact ⟨flt _ 2 (by omega) (by omega) (by omega) (by unfold ln; rw [if_pos q5]) r.1, r.2.fq⟩
  · have en : y = nI (nmN T s.2.2) := by rw [ey]; unfold nmI; rw [if_neg q5]
    rw [en]
    have e4 : (nI (nmN T s.2.2) = (4 : Int32)) ↔ nmN T s.2.2 = 4 := neq (b := 4) (by omega) (by omega)
    have l3 : ((3 : Int32) < nI (nmN T s.2.2)) ↔ 3 < nmN T s.2.2 := nlt (a := 3) (by omega) (by omega)
    have l4 : (nI (nmN T s.2.2) ≤ (4 : Int32)) ↔ nmN T s.2.2 ≤ 4 := nle (b := 4) (by omega) (by omega)
    have l0 : ((0 : Int32) ≤ nI (nmN T s.2.2)) ↔ 0 ≤ nmN T s.2.2 := nle (a := 0) (by omega) (by omega)
    have x5 : (nI (xn X) = (5 : Int32)) ↔ xn X = 5 := neq (b := 5) (by omega) (by omega)
    -- the line goes on
    have go82 : (nmN T s.2.2 = 4 → u = 0) → (nmN T s.2.2 ≠ 4 → xn X < 5) → ∀ m : Mem, RsM T s m → m 42 = mem 42 → m 40 2 = nI (if nmN T s.2.2 = 4 then 1 else u) → FrQ mem m → Go G (d + 4) mX6_readLine 82 [(0, .ref 40), (1, .int (nI (nmN T s.2.2)))] [] m (Rv (fun m2 => LsM T (lx T (s, u, X)) m2 ∧ FrQ mem m2)) := fun a1 a2 m hm e42 e2 fq => by
      have el := ln_mr q5 a1 a2
      refine sX6_readLine_82 _ (nmN T s.2.2) T s (nx T s) X ⟨hm, fun m2 z => ?_⟩
      rw [z.1.2.2.1, (nI05 z.1.2.1).2]
      refine ⟨fun f => ⟨rfl, f, ⟨by omega, hn, a2⟩, z.1, (hP.fr e42).fr (z.2.1 42 (by decide)), fun m8 w => ?_⟩, fun f => ⟨rfl, ⟨?_, fun g => ?_⟩, fq.tr z.2.fq⟩⟩
      · have g119 : ∀ m9 : Mem, RsM T (cks T (mr T (nx T s) X (nmN T s.2.2)).1) m9 → FrK m8 m9 → Go G (d + 4) mX6_readLine 119 [(0, .ref 40)] [] m9 (Rv (fun m2 => LsM T (lx T (s, u, X)) m2 ∧ FrQ mem m2)) := fun m9 h9 f9 => by
          refine sX6_readLine_119 T _ ⟨h9, fun mA v => ⟨rfl, ⟨?_, fun f3 => ?_⟩, ((fq.tr z.2.fq).tr w.2.fq).tr (f9.fq.tr v.2.fq)⟩⟩
          · show RsM T (nx T (ln T s u X).1) mA
            rw [el]; exact v.1
          · have f3 : (nx T (ln T s u X).1).1 = 0 := f3
            rw [el] at f3
            have f4 := (nx_v f3 h9.vs).1
            have f5 := (cks_v f4).1
            show mA 40 2 = nI (ln T s u X).2.1 ∧ RepP mA (ln T s u X).2.2
            rw [el]
            refine ⟨?_, ((w.1.2 f5).fr (f9.1 42 (by decide))).fr (v.2.1 42 (by decide))⟩
            rw [v.2.2 2 (by omega), f9.2 2 (by omega), w.2.2 2 (by omega), z.2.2 2 (by omega)]
            exact e2
        rw [w.1.1.2.2.1, (nI05 w.1.1.2.1).1]
        refine ⟨fun g => g119 m8 (by rw [cks_f g]; exact w.1.1) FrK.rf, fun g => ?_⟩
        obtain ⟨g9, g8, g10, g11, gb, gq⟩ := w.1.1.2.2.2.2 g
        have hs3 := tk0_s (T := T) (q := (mr T (nx T s) X (nmN T s.2.2)).1.2.2)
        have e3 : (nI (tk0 T (mr T (nx T s) X (nmN T s.2.2)).1.2.2).2.1 = (3 : Int32)) ↔ (tk0 T (mr T (nx T s) X (nmN T s.2.2)).1.2.2).2.1 = 3 := neq (b := 3) (by omega) (by omega)
        rw [g10, e3]
        refine ⟨fun y3 => g119 m8 ?_ FrK.rf, fun y3 => ⟨by first | rw [g]; done | (rw [g]; rfl), ?_⟩⟩
        · unfold cks
          rw [if_neg (by omega), if_neg (by omega)]
          exact w.1.1
        · have r := w.1.1.rf g (w := 2) (by omega)
          refine g119 _ ?_ r.2
          unfold cks
          rw [if_neg (by omega), if_pos y3]
          exact r.1
      · show RsM T (nx T (ln T s u X).1) m2
        rw [el]
        show RsM T (nx T (cks T (mr T (nx T s) X (nmN T s.2.2)).1)) m2
        rw [mr_f f, cks_f f, nx_f f]
        exact z.1
      · have g : (nx T (ln T s u X).1).1 = 0 := g
        rw [el] at g
        have g : (nx T (cks T (mr T (nx T s) X (nmN T s.2.2)).1)).1 = 0 := g
        rw [mr_f f, cks_f f, nx_f f] at g
        exact absurd g f
    have go61 : (nmN T s.2.2 = 4 → u = 0) → (nmN T s.2.2 ≠ 4 → xn X < 5) → Go G (d + 4) mX6_readLine 61 [(0, .ref 40), (1, .int (nI (nmN T s.2.2)))] [] mem (Rv (fun m2 => LsM T (lx T (s, u, X)) m2 ∧ FrQ mem m2)) := fun a1 a2 => by
      have k : ∀ x : Int32, x = nI (if nmN T s.2.2 = 4 then 1 else u) → Go G (d + 4) mX6_readLine 82 [(0, .ref 40), (1, .int (nI (nmN T s.2.2)))] [] (um mem 40 2 x) (Rv (fun m2 => LsM T (lx T (s, u, X)) m2 ∧ FrQ mem m2)) := fun x ex => go82 a1 a2 _ (hs.fr (um_ne (by decide)) (fun j hj => by rw [um_at, if_neg hj])) (um_ne (by decide)) (by rw [um_same]; exact ex) FrQ.u2
      refine sX6_readLine_61 _ ?_
      rw [h2, (nI05 (by omega)).1, e4]
      refine ⟨fun q => k 1 ?_, fun q => ⟨fun q4 => k 0 ?_, fun q4 => k 1 ?_⟩⟩
      · by_cases q4 : nmN T s.2.2 = 4
        · exact absurd (a1 q4) q
        · rw [if_neg q4, show u = 1 by omega]; rfl
      · rw [if_neg q4, q]; rfl
      · rw [if_pos q4]; rfl
    have go44 : (nmN T s.2.2 ≠ 4 → xn X < 5) → Go G (d + 4) mX6_readLine 44 [(0, .ref 40), (1, .int (nI (nmN T s.2.2)))] [] mem (Rv (fun m2 => LsM T (lx T (s, u, X)) m2 ∧ FrQ mem m2)) := fun a2 => by
      refine sX6_readLine_44 _ ?_
      rw [h2, (nI05 (by omega)).1, e4]
      refine ⟨fun q4 => go61 (fun z => absurd z q4) a2, fun q4 => ⟨fun q => go61 (fun _ => q) a2, fun q => ⟨h6, ?_⟩⟩⟩
      have r := hs.rf h0 (w := 4) (by omega)
      exact g61f _ _ 4 (by omega) (by omega) (by unfold ln; rw [if_neg q5, if_pos q4, lnP, if_pos q]) r.1 r.2.fq
    rw [l0, l4, l3, c20, hP.1, x5]
    refine ⟨fun _ => ⟨fun q3 => go44 (fun z => absurd (by omega) z), fun q3 => ⟨fun qx => go44 (fun _ => by omega), fun qx => ⟨h6, ?_⟩⟩⟩, fun z => absurd ⟨by omega, by omega⟩ z⟩
    have r := hs.rf h0 (w := 5) (by omega)
    refine sX6_readLine_44 _ ?_
    rw [e4]
    refine ⟨fun _ => g61f _ _ 5 (by omega) (by omega) ?_ r.1 r.2.fq, fun z => absurd z (by omega)⟩
    unfold ln
    rw [if_neg q5, if_neg (by omega), lnK, if_pos (by omega)]
