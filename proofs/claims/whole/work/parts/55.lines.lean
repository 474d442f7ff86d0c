
/-! ===== a line of the text, in plain numbers ===== -/
theorem ck_v {T : Tp} {lo hi : Nat} {s : Rs} (h : (ck T lo hi s).1 = 0) : s.1 = 0 ∧ ck T lo hi s = s ∧ (tk0 T s.2.2).2.1 = 2 ∧ nI lo ≤ nI (vlN T s) ∧ nI (vlN T s) ≤ nI hi := by
  unfold ck at h ⊢
  by_cases q : s.1 = 0
  · rw [if_neg (show ¬ s.1 ≠ 0 by omega)] at h ⊢
    by_cases y : (tk0 T s.2.2).2.1 = 2
    · rw [if_neg (show ¬ (tk0 T s.2.2).2.1 ≠ 2 by omega)] at h ⊢
      by_cases z : nI lo ≤ nI (vlN T s) ∧ nI (vlN T s) ≤ nI hi
      · rw [if_pos z]
        exact ⟨q, rfl, y, z⟩
      · rw [if_neg z, rf, if_neg (show ¬ s.1 ≠ 0 by omega)] at h
        exact absurd (show (3 : Nat) = 0 from h) (by decide)
    · rw [if_pos y, rf, if_neg (show ¬ s.1 ≠ 0 by omega)] at h
      exact absurd (show (2 : Nat) = 0 from h) (by decide)
  · rw [if_pos q] at h
    exact absurd h q
theorem cks_v {T : Tp} {s : Rs} (h : (cks T s).1 = 0) : s.1 = 0 ∧ cks T s = s := by
  unfold cks at h ⊢
  by_cases q : s.1 = 0
  · rw [if_neg (show ¬ s.1 ≠ 0 by omega)] at h ⊢
    by_cases y : (tk0 T s.2.2).2.1 = 3
    · rw [if_neg (show ¬ (tk0 T s.2.2).2.1 ≠ 3 by omega)]
      exact ⟨q, rfl⟩
    · rw [if_pos y, rf, if_neg (show ¬ s.1 ≠ 0 by omega)] at h
      exact absurd (show (2 : Nat) = 0 from h) (by decide)
  · rw [if_pos q] at h
    exact absurd h q
/-- where the token begins is within the tape and the token is none of the bad ones -/
def VS (T : Tp) (s : Rs) : Prop := s.1 = 0 → (tk0 T s.2.2).2.2 = false ∧ s.2.2 ≤ T.1
theorem RsC.vs {T : Tp} {s : Rs} {m : Mem} (h : RsC T s m) : VS T s := fun q => ⟨(h.2.2.2.2 q).2.2.2.1, (h.2.2.2.2 q).2.2.2.2⟩
theorem RsM.vs {T : Tp} {s : Rs} {m : Mem} (h : RsM T s m) : VS T s := fun q => ⟨(h.2.2.2.2 q).2.2.2.2.1, (h.2.2.2.2 q).2.2.2.2.2⟩
theorem nx_v {T : Tp} {s : Rs} (h : (nx T s).1 = 0) (hv : VS T s) : s.1 = 0 ∧ VS T (nx T s) ∧ (tk0 T s.2.2).1 ≤ (nx T s).2.2 := by
  unfold nx at h ⊢
  by_cases q : s.1 = 0
  · have v := hv q
    have bd := tk0_bd v.2
    have bd2 := rnT_bd (lo := 32) (hi := 32) bd.2
    rw [if_neg (show ¬ s.1 ≠ 0 by omega)] at h ⊢
    by_cases b : (tk0 T (rnT T 32 32 (tk0 T s.2.2).1)).2.2 = true
    · rw [if_pos b] at h
      exact absurd (show (1 : Nat) = 0 from h) (by decide)
    · rw [if_neg b]
      exact ⟨q, fun _ => ⟨Bool.eq_false_iff.mpr b, bd2.2⟩, bd2.1⟩
  · rw [if_pos q] at h
    exact absurd h q
theorem tk0_n2 {T : Tp} {q : Nat} (h : (tk0 T q).2.1 = 2) (hb : (tk0 T q).2.2 = false) : (tk0 T q).1 ≤ q + 2 := by
  unfold tk0 at h hb ⊢
  split at h
  · exact absurd (show (0 : Nat) = 2 from h) (by decide)
  · rename_i h1
    rw [if_neg h1] at hb ⊢
    split at h
    · exact absurd (show (3 : Nat) = 2 from h) (by decide)
    · rename_i h2
      rw [if_neg h2] at hb ⊢
      split at h
      · exact absurd (show (1 : Nat) = 2 from h) (by decide)
      · rename_i h3
        rw [if_neg h3] at hb ⊢
        have k := of_decide_eq_false hb
        show rnT T 48 57 q ≤ q + 2
        omega
theorem tk0_n1 {T : Tp} {q : Nat} (h : (tk0 T q).2.1 = 1) : q + 1 ≤ (tk0 T q).1 := by
  unfold tk0 at h ⊢
  split at h
  · exact absurd (show (0 : Nat) = 1 from h) (by decide)
  · rename_i h1
    rw [if_neg h1]
    split at h
    · exact absurd (show (3 : Nat) = 1 from h) (by decide)
    · rename_i h2
      rw [if_neg h2]
      split at h
      · rename_i h3
        rw [if_pos h3]
        show q + 1 ≤ rnT T 97 122 q
        rw [rnT_in (by omega) h3]
        exact (rnT_bd (by omega)).1
      · exact absurd (show (2 : Nat) = 1 from h) (by decide)
theorem tk0_end {T : Tp} {q : Nat} (h : T.1 ≤ q) : (tk0 T q).2.1 = 0 := by
  unfold tk0
  rw [if_pos h]
theorem vlN_lt {T : Tp} {s : Rs} (hB : ∀ i, i < T.1 → T.2 i ≤ 127) (h0 : s.1 = 0) (hv : VS T s) (h2 : (tk0 T s.2.2).2.1 = 2) : vlN T s < 1000 := by
  have v := hv h0
  have bd := tk0_bd v.2
  have hn := tk0_n2 h2 v.1
  unfold vlN
  rcases (show (tk0 T s.2.2).1 - s.2.2 = 0 ∨ (tk0 T s.2.2).1 - s.2.2 = 1 ∨ (tk0 T s.2.2).1 - s.2.2 = 2 by omega) with e | e | e
  · rw [e]; exact (by decide : (0 : Nat) < 1000)
  · rw [e]
    have a := hB s.2.2 (by omega)
    show 0 * 10 + (T.2 (s.2.2 + 0) - 48) < 1000
    rw [Nat.add_zero]
    omega
  · rw [e]
    have a := hB s.2.2 (by omega)
    have b := hB (s.2.2 + 1) (by omega)
    show (0 * 10 + (T.2 (s.2.2 + 0) - 48)) * 10 + (T.2 (s.2.2 + 1) - 48) < 1000
    rw [Nat.add_zero]
    omega
theorem ck_r {T : Tp} {lo hi : Nat} {s : Rs} (hB : ∀ i, i < T.1 → T.2 i ≤ 127) (hv : VS T s) (hlo : lo < 1000 ∧ hi < 1000) (h : (ck T lo hi s).1 = 0) : lo ≤ vlN T s ∧ vlN T s ≤ hi := by
  obtain ⟨c1, c2, c3, c4, c5⟩ := ck_v h
  have l := vlN_lt hB c1 hv c3
  exact ⟨(nle (by omega) (by omega)).mp c4, (nle (by omega) (by omega)).mp c5⟩
def puX (X : Bm) (v : Nat) : Bm := (xn X, xk X, xp X, xh X, xe X, v, xt X)
/-- a reader's state, whether a push is told, the beam told -/
abbrev Ls : Type := Rs × Nat × Bm
def lnP (T : Tp) (s : Rs) (u : Nat) (X : Bm) : Ls := if u ≠ 0 then (rf s 4, u, X) else (cks T (nx T (ck T 0 5 (nx T s))), 1, puX X (vlN T (nx T s)))
def lnK (T : Tp) (s : Rs) (u : Nat) (X : Bm) (n : Nat) : Ls := if 5 ≤ xn X then (rf s 5, u, X) else (cks T (nx T (ck T 0 (vlN T (nx T s) - 1) (nx T (ck T 2 30 (nx T s))))), u, addX X n (vlN T (nx T s)) (vlN T (nx T (ck T 2 30 (nx T s)))))
def ln (T : Tp) (s : Rs) (u : Nat) (X : Bm) : Ls := if nmN T s.2.2 = 5 then (rf s 2, u, X) else if nmN T s.2.2 = 4 then lnP T s u X else lnK T s u X (nmN T s.2.2)
def LsC (T : Tp) (z : Ls) (m : Mem) : Prop := RsC T z.1 m ∧ (z.1.1 = 0 → m 23 8 = nI z.2.1 ∧ RepB m 6 z.2.2)
def FrL (m m2 : Mem) : Prop := (∀ k, k ≠ 23 → ¬ (6 ≤ k ∧ k ≤ 10) → m2 k = m k) ∧ m2 23 4 = m 23 4
theorem FrC.fl {m m2 : Mem} (h : FrC m m2) : FrL m m2 := ⟨fun k a _ => h.1 k a, h.2 4 (by decide) (by decide) (by decide) (by decide) (by decide)⟩
theorem FrL.tr {a b c : Mem} (h : FrL a b) (g : FrL b c) : FrL a c := ⟨fun k x y => (g.1 k x y).trans (h.1 k x y), g.2.trans h.2⟩
theorem RsC.fr {T : Tp} {s : Rs} {m m2 : Mem} (h : RsC T s m) (h1 : m2 24 = m 24) (h2 : ∀ j, j ≠ 8 → j ≠ 4 → m2 23 j = m 23 j) : RsC T s m2 := by
  obtain ⟨a, b, c, d, e⟩ := h
  refine ⟨a.fr (h2 1 (by decide) (by decide)) h1, b, ?_, ?_, ?_⟩
  · rw [h2 2 (by decide) (by decide)]; exact c
  · rw [h2 3 (by decide) (by decide)]; exact d
  · rw [h2 7 (by decide) (by decide), h2 5 (by decide) (by decide), h2 6 (by decide) (by decide)]; exact e
theorem rf_1 {s : Rs} {w : Nat} (h : 1 ≤ w) : ¬ (rf s w).1 = 0 := by
  unfold rf
  by_cases q : s.1 = 0
  · rw [if_neg (show ¬ s.1 ≠ 0 by omega)]
    show ¬ w = 0
    omega
  · rw [if_pos q]; exact q
theorem ck_hi {T : Tp} {lo h1 h2 : Nat} {s : Rs} (h : s.1 = 0 → nI h1 = nI h2) : ck T lo h1 s = ck T lo h2 s := by
  unfold ck
  by_cases q : s.1 = 0
  · rw [h q]
  · rw [if_pos q, if_pos q]

set_option maxRecDepth 100000 in
theorem sX2_readPush_0 {G : GX} {d : Nat} {mem : Mem} {Φ : Option Value → Mem → Prop} (T : Tp) (s s1 s2 : Rs) (h : (((mem 23 8) = 0 → (0 = nI 0 ∧ 5 = nI 5) ∧ (RsC T s1 (um mem 23 8 1)) ∧ ∀ (w4 : Int32) (m3 : Mem), (((ck T 0 5 (nx T s1)).1 = 0 → w4 = nI (vlN T (nx T s1))) ∧ RsC T (ck T 0 5 (nx T s1)) m3 ∧ FrC (um mem 23 8 1) m3) → (RsC T s2 (um m3 6 5 w4)) ∧ ∀ m6 : Mem, (RsC T (cks T (nx T s2)) m6 ∧ FrC (um m3 6 5 w4) m6) → Φ none m6) ∧ (¬ (mem 23 8) = 0 → Φ none (um (um mem 23 2 4) 23 3 (mem 23 7))))) : Go G (d + 3) mX2_readPush 0 [(0, .ref 23), (1, .ref 6)] [] mem Φ := by
  refine go_aload_n dX2_readPush_0 0 rfl ?_
  refine go_getI (kf := 8) rfl rfl rfl uwX2 (by decide) flX2_28 dX2_readPush_1 ?_
  refine go_if_eq 13 dX2_readPush_4 (by decide) (fun q => ?_) (fun q => ?_)
  · have h := h.1 q
    refine go_aload_n dX2_readPush_13 0 rfl ?_
    refine go_iconst (v := 1) dX2_readPush_14 (by decide) ?_
    refine go_putI (kf := 8) rfl rfl rfl uwX2 tyX2_ok nmX2 (by decide) rfl flX2_28 rfl rfl dX2_readPush_15 ?_
    refine go_aload_n dX2_readPush_18 1 rfl ?_
    refine go_aload_n dX2_readPush_19 0 rfl ?_
    refine go_iconst (v := 0) dX2_readPush_20 (by decide) ?_
    refine go_iconst (v := 5) dX2_readPush_21 (by decide) ?_
    obtain ⟨c1, h⟩ := h
    obtain ⟨c2, h⟩ := h
    refine go_callV (st := [.ref 6]) (kX2_readNumber (d + 0) 0 5 0 5 T s1 c1 c2) rfl rfl okX2_readNumber insX2_readNumber selX2_readNumber lkX2_57 rfl rfl (Nat.le_of_ble_eq_true rfl) dX2_readPush_22 (fun v_ m3 q => ?_)
    obtain ⟨w4, q0_, q⟩ := q
    rw [q0_]
    have h := h w4 m3 q
    refine go_stk (st2 := [.int w4, .ref 6]) rfl ?_
    refine go_putI (kf := 5) rfl rfl rfl uwX0 tyX0_ok nmX0 (by decide) rfl flX2_61 rfl rfl dX2_readPush_25 ?_
    refine go_aload_n dX2_readPush_28 0 rfl ?_
    obtain ⟨c5, h⟩ := h
    refine go_callV (st := []) (kX2_readSemicolon (d + 0) T s2 c5) rfl rfl okX2_readSemicolon insX2_readSemicolon selX2_readSemicolon lkX2_66 rfl rfl (Nat.le_of_ble_eq_true rfl) dX2_readPush_29 (fun v_ m6 q => ?_)
    rw [q.1]
    have h := h m6 q.2
    refine go_stk (st2 := []) rfl ?_
    exact go_vret rfl dX2_readPush_32 h
  · have h := h.2 q
    refine go_aload_n dX2_readPush_7 0 rfl ?_
    refine go_iconst (v := 4) dX2_readPush_8 (by decide) ?_
    refine go_callV (st := []) (kX2_refuse (d + 2) 4) rfl rfl okX2_refuse insX2_refuse selX2_refuse lkX2_46 rfl rfl (Nat.le_of_ble_eq_true rfl) dX2_readPush_9 (fun v_ m2_ q => ?_)
    rw [q.1, q.2]
    refine go_stk (st2 := []) rfl ?_
    exact go_vret rfl dX2_readPush_12 h

set_option maxRecDepth 100000 in
theorem sX2_readClock_0 {G : GX} {d : Nat} {mem : Mem} {Φ : Option Value → Mem → Prop} (a2 : Int32) (k0 p0 h0 : Nat) (X : Bm) (f2 : Int32 → Nat) (T : Tp) (s1 s2 s3 : Rs) (h : (((mem 6 4) < 5 → (2 = nI 2 ∧ 30 = nI 30) ∧ (RsC T s1 mem) ∧ ∀ (w4 : Int32) (m3 : Mem), (((ck T 2 30 (nx T s1)).1 = 0 → w4 = nI (vlN T (nx T s1))) ∧ RsC T (ck T 2 30 (nx T s1)) m3 ∧ FrC mem m3) → (0 = nI 0 ∧ (w4 - 1) = nI (f2 (w4 - 1))) ∧ (RsC T s2 m3) ∧ ∀ (w8 : Int32) (m7 : Mem), (((ck T 0 (f2 (w4 - 1)) (nx T s2)).1 = 0 → w8 = nI (vlN T (nx T s2))) ∧ RsC T (ck T 0 (f2 (w4 - 1)) (nx T s2)) m7 ∧ FrC m3 m7) → (RsC T s3 m7) ∧ ∀ m10 : Mem, (RsC T (cks T (nx T s3)) m10 ∧ FrC m7 m10) → ((¬ (m10 23 2) = 0 → Φ none m10) ∧ ((m10 23 2) = 0 → (a2 = nI k0 ∧ w4 = nI p0 ∧ w8 = nI h0) ∧ (xn X < 5) ∧ (RepB m10 6 X) ∧ ∀ m14 : Mem, (RepB m14 6 (addX X k0 p0 h0) ∧ FrB 6 m10 m14) → Φ none m14))) ∧ (¬ (mem 6 4) < 5 → Φ none (um (um mem 23 2 5) 23 3 (mem 23 7))))) : Go G (d + 3) mX2_readClock 0 [(0, .ref 23), (1, .ref 6), (2, .int a2)] [] mem Φ := by
  refine go_aload_n dX2_readClock_0 1 rfl ?_
  refine go_getI (kf := 4) rfl rfl rfl uwX0 (by decide) flX2_69 dX2_readClock_1 ?_
  refine go_iconst (v := 5) dX2_readClock_4 (by decide) ?_
  refine go_icmp_lt 14 dX2_readClock_5 (by decide) (fun q => ?_) (fun q => ?_)
  · have h := h.1 q
    refine go_aload_n dX2_readClock_14 0 rfl ?_
    refine go_iconst (v := 2) dX2_readClock_15 (by decide) ?_
    refine go_bipush (v := 30) dX2_readClock_16 (by decide) ?_
    obtain ⟨c1, h⟩ := h
    obtain ⟨c2, h⟩ := h
    refine go_callV (st := []) (kX2_readNumber (d + 0) 2 30 2 30 T s1 c1 c2) rfl rfl okX2_readNumber insX2_readNumber selX2_readNumber lkX2_57 rfl rfl (Nat.le_of_ble_eq_true rfl) dX2_readClock_18 (fun v_ m3 q => ?_)
    obtain ⟨w4, q0_, q⟩ := q
    rw [q0_]
    have h := h w4 m3 q
    refine go_stk (st2 := [.int w4]) rfl ?_
    refine go_istore_n (L2 := [(3, .int w4), (0, .ref 23), (1, .ref 6), (2, .int a2)]) dX2_readClock_21 (by decide) rfl ?_
    refine go_aload_n dX2_readClock_22 1 rfl ?_
    refine go_iconst (v := 0) dX2_readClock_23 (by decide) ?_
    refine go_iload_n dX2_readClock_24 0 rfl ?_
    refine go_iconst (v := 1) dX2_readClock_25 (by decide) ?_
    refine go_isub dX2_readClock_26 ?_
    obtain ⟨c5, h⟩ := h
    obtain ⟨c6, h⟩ := h
    refine go_callV (st := []) (kX2_readNumber (d + 0) 0 (w4 - 1) 0 (f2 (w4 - 1)) T s2 c5 c6) rfl rfl okX2_readNumber insX2_readNumber selX2_readNumber lkX2_57 rfl rfl (Nat.le_of_ble_eq_true rfl) dX2_readClock_27 (fun v_ m7 q => ?_)
    obtain ⟨w8, q0_, q⟩ := q
    rw [q0_]
    have h := h w8 m7 q
    refine go_stk (st2 := [.int w8]) rfl ?_
    refine go_istore (L2 := [(4, .int w8), (3, .int w4), (0, .ref 23), (1, .ref 6), (2, .int a2)]) dX2_readClock_30 (by decide) rfl ?_
    refine go_aload_n dX2_readClock_32 2 rfl ?_
    obtain ⟨c9, h⟩ := h
    refine go_callV (st := []) (kX2_readSemicolon (d + 0) T s3 c9) rfl rfl okX2_readSemicolon insX2_readSemicolon selX2_readSemicolon lkX2_66 rfl rfl (Nat.le_of_ble_eq_true rfl) dX2_readClock_33 (fun v_ m10 q => ?_)
    rw [q.1]
    have h := h m10 q.2
    refine go_stk (st2 := []) rfl ?_
    refine go_aload_n dX2_readClock_36 2 rfl ?_
    refine go_getI (kf := 2) rfl rfl rfl uwX2 (by decide) flX2_15 dX2_readClock_37 ?_
    refine go_if_ne 51 dX2_readClock_40 (by decide) (fun q => ?_) (fun q => ?_)
    · have h := h.1 q
      exact go_vret rfl dX2_readClock_51 h
    · have h := h.2 q
      refine go_aload_n dX2_readClock_43 3 rfl ?_
      refine go_iload_n dX2_readClock_44 4 rfl ?_
      refine go_iload_n dX2_readClock_45 1 rfl ?_
      refine go_iload dX2_readClock_46 0 rfl ?_
      obtain ⟨c11, h⟩ := h
      obtain ⟨c12, h⟩ := h
      obtain ⟨c13, h⟩ := h
      refine go_callV (st := []) (kX0_addClockI (d + 2) 6 bA6 a2 w4 w8 k0 p0 h0 X c11 c12 c13) rfl rfl okX0_addClock insX0_addClock selX0_addClock lkX2_72 rfl rfl (Nat.le_of_ble_eq_true rfl) dX2_readClock_48 (fun v_ m14 q => ?_)
      rw [q.1]
      have h := h m14 q.2
      refine go_stk (st2 := []) rfl ?_
      exact go_vret rfl dX2_readClock_51 h
  · have h := h.2 q
    refine go_aload_n dX2_readClock_8 0 rfl ?_
    refine go_iconst (v := 5) dX2_readClock_9 (by decide) ?_
    refine go_callV (st := []) (kX2_refuse (d + 2) 5) rfl rfl okX2_refuse insX2_refuse selX2_refuse lkX2_46 rfl rfl (Nat.le_of_ble_eq_true rfl) dX2_readClock_10 (fun v_ m2_ q => ?_)
    rw [q.1, q.2]
    refine go_stk (st2 := []) rfl ?_
    exact go_vret rfl dX2_readClock_13 h


theorem anyI (x : Int32) : x = nI x.toBitVec.toNat := by
  show x = Int32.ofNat x.toBitVec.toNat
  apply Int32.toBitVec_inj.mp
  simp
theorem kX2_readPush {G : GX} (d : Nat) {mem : Mem} (T : Tp) (s : Rs) (u : Nat) (X : Bm) (h0 : s.1 = 0) (hu : u ≤ 1) (h : LsC T (s, u, X) mem) : Cn G (d + 3) mX2_readPush [.ref 23, .ref 6] mem (Rv (fun m2 => LsC T (lnP T s u X) m2 ∧ FrL mem m2)) := by
  obtain ⟨hs, hz⟩ := h
  obtain ⟨h8, hR⟩ := hz h0
  have h8 : mem 23 8 = nI u := h8
  refine cn_of (by decide +kernel) (Nat.le_of_ble_eq_true rfl) (sX2_readPush_0 T s s (ck T 0 5 (nx T s)) ?_)
  rw [h8, (nI05 (by omega)).1]
  unfold lnP
  refine ⟨fun q => ⟨⟨rfl, rfl⟩, hs.fr (um_ne (by decide)) (fun j a _ => by rw [um_at, if_neg a]), fun w m3 z => ⟨?_, fun m6 y => ⟨rfl, ?_⟩⟩⟩, fun q => ⟨rfl, ?_⟩⟩
  · exact z.2.1.fr (um_ne (by decide)) (fun j _ _ => by rw [um_ne (by decide)])
  · rw [if_neg (show ¬ u ≠ 0 by omega)]
    refine ⟨⟨y.1, fun f => ⟨?_, ?_⟩⟩, ?_⟩
    · rw [y.2.2 8 (by decide) (by decide) (by decide) (by decide) (by decide), um_ne (by decide), z.2.2.2 8 (by decide) (by decide) (by decide) (by decide) (by decide), um_same]
      rfl
    · have f1 := (cks_v f).1
      have hv : VS T (ck T 0 5 (nx T s)) := z.2.1.vs
      have f2 := (nx_v f1 hv).1
      have hw := z.1 f2
      have e : ∀ k, 6 ≤ k → k ≤ 10 → m6 k = um mem 6 5 w k := fun k a b => by
        rw [y.2.1 k (by omega)]
        by_cases e6 : k = 6
        · subst e6
          rw [um, um, um0, um0]
          rw [if_pos rfl, if_pos rfl, z.2.2.1 6 (by decide), um_ne (by decide)]
        · rw [um_ne e6, z.2.2.1 k (by omega), um_ne (by omega), um_ne e6]
      have hR : RepB mem 6 X := hR
      have hR2 : RepB (um mem 6 5 w) 6 (puX X (vlN T (nx T s))) := by
        obtain ⟨r1, r2, r3, r4⟩ := hR
        refine ⟨?_, ?_, ?_, fun c hc => ?_⟩
        · rw [um_at, if_neg (by decide)]; exact r1
        · rw [um_same]; exact hw
        · rw [um_at, if_neg (by decide)]; exact r3
        · rw [um_ne (by decide), um_ne (by decide), um_ne (by decide), um_ne (by decide)]; exact r4 c hc
      exact hR2.fr (fun k a b => e k a (by omega))
    · exact (FrL.tr (b := m3) ⟨fun k a b => by rw [z.2.2.1 k a, um_ne a], by rw [z.2.2.2 4 (by decide) (by decide) (by decide) (by decide) (by decide), um_at, if_neg (by decide)]⟩ ⟨fun k a b => by rw [y.2.1 k a, um_ne (by omega)], by rw [y.2.2 4 (by decide) (by decide) (by decide) (by decide) (by decide), um_ne (by decide)]⟩)
  · rw [if_pos q]
    have k := hs.rf h0 (w := 4) (by omega)
    exact ⟨⟨k.1, fun f => absurd f (rf_1 (by omega))⟩, k.2.fl⟩
theorem kX2_readClock {G : GX} (d : Nat) {mem : Mem} (a : Int32) (n : Nat) (T : Tp) (s : Rs) (u : Nat) (X : Bm) (e : a = nI n) (h0 : s.1 = 0) (hn : xn X ≤ 5) (h : LsC T (s, u, X) mem) : Cn G (d + 3) mX2_readClock [.ref 23, .ref 6, .int a] mem (Rv (fun m2 => LsC T (lnK T s u X n) m2 ∧ FrL mem m2)) := by
  obtain ⟨hs, hz⟩ := h
  obtain ⟨h8, hR⟩ := hz h0
  have h8 : mem 23 8 = nI u := h8
  have hR : RepB mem 6 X := hR
  have hB : ∀ i, i < T.1 → T.2 i ≤ 127 := fun i hi => (hs.1.2.2 i hi).1
  refine cn_of (by decide +kernel) (Nat.le_of_ble_eq_true rfl) (sX2_readClock_0 a n (vlN T (nx T s)) (vlN T (nx T (ck T 2 30 (nx T s)))) X (fun x => x.toBitVec.toNat) T s (ck T 2 30 (nx T s)) (ck T 0 (vlN T (nx T s) - 1) (nx T (ck T 2 30 (nx T s)))) ?_)
  rw [hR.1, show (5 : Int32) = nI 5 from rfl, nlt (by omega) (by omega)]
  unfold lnK
  refine ⟨fun q => ⟨⟨rfl, rfl⟩, hs, fun w m3 z => ⟨⟨rfl, anyI _⟩, z.2.1, fun w8 m7 y => ?_⟩⟩, fun q => ⟨rfl, ?_⟩⟩
  · have v3 := z.2.1.vs
    have e3 : ck T 0 ((w - 1).toBitVec.toNat) (nx T (ck T 2 30 (nx T s))) = ck T 0 (vlN T (nx T s) - 1) (nx T (ck T 2 30 (nx T s))) := by
      refine ck_hi (fun f => ?_)
      have f1 := (nx_v f v3).1
      have c := ck_v f1
      have vn : VS T (nx T s) := by rw [← c.2.1]; exact v3
      have r := ck_r hB vn (by omega) f1
      rw [← anyI, z.1 f1, nI_sub1 (by omega)]
    rw [e3] at y
    refine ⟨y.2.1, fun m10 x => ⟨fun f => ⟨rfl, ?_⟩, fun f => ?_⟩⟩
    · rw [if_neg (by omega)]
      refine ⟨⟨x.1, fun g => ?_⟩, (z.2.2.tr (y.2.2.tr x.2)).fl⟩
      rw [x.1.2.2.1, (nI05 x.1.2.1).1] at f
      exact absurd g f
    · rw [x.1.2.2.1, (nI05 x.1.2.1).1] at f
      have f1 := (cks_v f).1
      have f2 := (nx_v f1 y.2.1.vs).1
      have f3 := (ck_v f2).1
      have f4 := (nx_v f3 v3).1
      have fr := z.2.2.tr (y.2.2.tr x.2)
      refine ⟨⟨e, z.1 f4, y.1 f2⟩, by omega, hR.fr (fun k a1 a2 => fr.1 k (by omega)), fun m14 v => ⟨rfl, ?_⟩⟩
      rw [if_neg (by omega)]
      have e23 : m14 23 = m10 23 := v.2 23 (by omega)
      refine ⟨⟨x.1.fr (v.2 24 (by omega)) (fun j _ _ => by rw [e23]), fun _ => ⟨?_, v.1⟩⟩, fun k a1 a2 => ?_, ?_⟩
      · rw [e23, fr.2 8 (by decide) (by decide) (by decide) (by decide) (by decide)]; exact h8
      · rw [v.2 k (by omega), fr.1 k a1]
      · rw [e23]; exact fr.fl.2
  · rw [if_pos (by omega)]
    have k := hs.rf h0 (w := 5) (by omega)
    exact ⟨⟨k.1, fun f => absurd f (rf_1 (by omega))⟩, k.2.fl⟩
