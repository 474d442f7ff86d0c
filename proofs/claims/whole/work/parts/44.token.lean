
/-! ===== THE TAPE, read TOKEN by TOKEN ===== -/
def TpC (m : Mem) (T : Tp) : Prop := T.1 ≤ 160 ∧ m 23 1 = nI T.1 ∧ ∀ i, i < T.1 → T.2 i ≤ 127 ∧ m 24 i = nI (T.2 i)
def TpM (m : Mem) (T : Tp) : Prop := T.1 ≤ 160 ∧ m 40 4 = nI T.1 ∧ ∀ i, i < T.1 → T.2 i ≤ 127 ∧ m 43 i = nI (T.2 i)
theorem TpC.of {m : Mem} {T : Tp} (h : C3 m T) : TpC m T := ⟨h.1, h.2.1, fun i hi => ⟨(h.2.2.2 i hi).1, (h.2.2.2 i hi).2.1⟩⟩
theorem TpM.of {m : Mem} {T : Tp} (h : C3 m T) : TpM m T := ⟨h.1, h.2.2.1, fun i hi => ⟨(h.2.2.2 i hi).1, (h.2.2.2 i hi).2.2⟩⟩
theorem TpC.fr {m m2 : Mem} {T : Tp} (h : TpC m T) (e1 : m2 23 1 = m 23 1) (e2 : m2 24 = m 24) : TpC m2 T := by unfold TpC; rw [e1, e2]; exact h
theorem TpM.fr {m m2 : Mem} {T : Tp} (h : TpM m T) (e1 : m2 40 4 = m 40 4) (e2 : m2 43 = m 43) : TpM m2 T := by unfold TpM; rw [e1, e2]; exact h
/-- on from p while P holds, at most r steps -/
def rn (P : Nat → Bool) : Nat → Nat → Nat
  | 0, p => p
  | r + 1, p => if P p = true then rn P r (p + 1) else p
theorem rn_bd {P : Nat → Bool} : ∀ (r p : Nat), p ≤ rn P r p ∧ rn P r p ≤ p + r
  | 0, p => ⟨Nat.le_refl _, Nat.le_refl _⟩
  | r + 1, p => by
    have h := rn_bd (P := P) r (p + 1)
    unfold rn
    split <;> omega
/-- where the run of bytes from lo to hi ends that begins at p -/
def rnT (T : Tp) (lo hi p : Nat) : Nat := rn (fun i => decide (lo ≤ T.2 i ∧ T.2 i ≤ hi)) (T.1 - p) p
theorem rnT_in {T : Tp} {lo hi p : Nat} (hp : p < T.1) (h : lo ≤ T.2 p ∧ T.2 p ≤ hi) : rnT T lo hi p = rnT T lo hi (p + 1) := by
  unfold rnT
  rw [show T.1 - p = (T.1 - (p + 1)) + 1 by omega, rn, if_pos (decide_eq_true h)]
theorem rnT_out {T : Tp} {lo hi p : Nat} (h : T.1 ≤ p ∨ ¬ (lo ≤ T.2 p ∧ T.2 p ≤ hi)) : rnT T lo hi p = p := by
  unfold rnT
  by_cases q : T.1 ≤ p
  · rw [show T.1 - p = 0 by omega]; rfl
  · rw [show T.1 - p = (T.1 - (p + 1)) + 1 by omega, rn, if_neg (fun z => ?_)]
    rcases h with h | h
    · exact q h
    · exact h (of_decide_eq_true z)
theorem rnT_bd {T : Tp} {lo hi p : Nat} (hp : p ≤ T.1) : p ≤ rnT T lo hi p ∧ rnT T lo hi p ≤ T.1 := by
  have h := rn_bd (P := fun i => decide (lo ≤ T.2 i ∧ T.2 i ≤ hi)) (T.1 - p) p
  unfold rnT
  omega

set_option maxRecDepth 100000 in
theorem sX2_refuse_0 {G : GX} {d : Nat} {mem : Mem} {Φ : Option Value → Mem → Prop} (a1 : Int32) (h : ∀ m1 : Mem, m1 = (um (um mem 23 2 a1) 23 3 ((um mem 23 2 a1) 23 7)) → Φ none m1) : Go G (d + 0) mX2_refuse 0 [(0, .ref 23), (1, .int a1)] [] mem Φ := by
  refine go_aload_n dX2_refuse_0 0 rfl ?_
  refine go_iload_n dX2_refuse_1 1 rfl ?_
  refine go_putI (kf := 2) rfl rfl rfl uwX2 tyX2_ok nmX2 (by decide) rfl flX2_15 rfl rfl dX2_refuse_2 ?_
  refine go_aload_n dX2_refuse_5 0 rfl ?_
  refine go_aload_n dX2_refuse_6 0 rfl ?_
  refine go_getI (kf := 7) rfl rfl rfl uwX2 (by decide) flX2_86 dX2_refuse_7 ?_
  refine go_putI (kf := 3) rfl rfl rfl uwX2 tyX2_ok nmX2 (by decide) rfl flX2_19 rfl rfl dX2_refuse_10 ?_
  refine go_mem (fun m1 qm1 => ?_)
  have h := h m1 qm1
  exact go_vret rfl dX2_refuse_13 h

set_option maxRecDepth 100000 in
theorem sX2_passBytes_0 {G : GX} {d : Nat} {mem : Mem} {Φ : Option Value → Mem → Prop} (a1 a2 : Int32) (h : (((mem 23 1) ≤ (mem 23 5) → Φ none mem) ∧ (¬ (mem 23 1) ≤ (mem 23 5) → (vp_in (mem 23 5) 160) ∧ (((mem 24 ((mem 23 5) : Int32).toNatClampNeg) < a1 → Φ none mem) ∧ (¬ (mem 24 ((mem 23 5) : Int32).toNatClampNeg) < a1 → ((a2 < (mem 24 ((mem 23 5) : Int32).toNatClampNeg) → Φ none mem) ∧ (¬ a2 < (mem 24 ((mem 23 5) : Int32).toNatClampNeg) → Go G (d + 0) mX2_passBytes 0 [(0, .ref 23), (1, .int a1), (2, .int a2)] [] (um mem 23 5 ((mem 23 5) + 1)) Φ))))))) : Go G (d + 0) mX2_passBytes 0 [(0, .ref 23), (1, .int a1), (2, .int a2)] [] mem Φ := by
  refine go_aload_n dX2_passBytes_0 0 rfl ?_
  refine go_getI (kf := 5) rfl rfl rfl uwX2 (by decide) flX2_25 dX2_passBytes_1 ?_
  refine go_aload_n dX2_passBytes_4 0 rfl ?_
  refine go_getI (kf := 1) rfl rfl rfl uwX2 (by decide) flX2_83 dX2_passBytes_5 ?_
  refine go_icmp_ge 50 dX2_passBytes_8 (by decide) (fun q => ?_) (fun q => ?_)
  · have h := h.1 q
    exact go_vret rfl dX2_passBytes_50 h
  · have h := h.2 q
    refine go_aload_n dX2_passBytes_11 0 rfl ?_
    refine go_getR (kf := 0) (t := 24) rfl rfl rfl uwX2 (by decide) flX2_9 dX2_passBytes_12 ?_
    refine go_aload_n dX2_passBytes_15 0 rfl ?_
    refine go_getI (kf := 5) rfl rfl rfl uwX2 (by decide) flX2_25 dX2_passBytes_16 ?_
    obtain ⟨c1, h⟩ := h
    refine go_baload rfl c1 dX2_passBytes_19 ?_
    refine go_iload_n dX2_passBytes_20 1 rfl ?_
    refine go_icmp_lt 50 dX2_passBytes_21 (by decide) (fun q => ?_) (fun q => ?_)
    · have h := h.1 q
      exact go_vret rfl dX2_passBytes_50 h
    · have h := h.2 q
      refine go_aload_n dX2_passBytes_24 0 rfl ?_
      refine go_getR (kf := 0) (t := 24) rfl rfl rfl uwX2 (by decide) flX2_9 dX2_passBytes_25 ?_
      refine go_aload_n dX2_passBytes_28 0 rfl ?_
      refine go_getI (kf := 5) rfl rfl rfl uwX2 (by decide) flX2_25 dX2_passBytes_29 ?_
      refine go_baload rfl c1 dX2_passBytes_32 ?_
      refine go_iload_n dX2_passBytes_33 2 rfl ?_
      refine go_icmp_gt 50 dX2_passBytes_34 (by decide) (fun q => ?_) (fun q => ?_)
      · have h := h.1 q
        exact go_vret rfl dX2_passBytes_50 h
      · have h := h.2 q
        refine go_aload_n dX2_passBytes_37 0 rfl ?_
        refine go_dup dX2_passBytes_38 rfl ?_
        refine go_getI (kf := 5) rfl rfl rfl uwX2 (by decide) flX2_25 dX2_passBytes_39 ?_
        refine go_iconst (v := 1) dX2_passBytes_42 (by decide) ?_
        refine go_iadd dX2_passBytes_43 ?_
        refine go_putI (kf := 5) rfl rfl rfl uwX2 tyX2_ok nmX2 (by decide) rfl flX2_25 rfl rfl dX2_passBytes_44 ?_
        refine go_goto 0 dX2_passBytes_47 (by decide) ?_
        exact Go.pick [0, 1, 2] rfl h

set_option maxRecDepth 100000 in
theorem sX2_numberRead_0 {G : GX} {d : Nat} {mem : Mem} {Φ : Option Value → Mem → Prop}  (h : ∀ y1 : Int32, y1 = (mem 23 7) → Go G (d + 0) mX2_numberRead 7 [(0, .ref 23), (1, .int 0), (2, .int y1)] [] mem Φ) : Go G (d + 0) mX2_numberRead 0 [(0, .ref 23)] [] mem Φ := by
  refine go_iconst (v := 0) dX2_numberRead_0 (by decide) ?_
  refine go_istore_n (L2 := [(1, .int 0), (0, .ref 23)]) dX2_numberRead_1 (by decide) rfl ?_
  refine go_aload_n dX2_numberRead_2 1 rfl ?_
  refine go_getI (kf := 7) rfl rfl rfl uwX2 (by decide) flX2_86 dX2_numberRead_3 ?_
  refine go_topi (fun y1 qy1 => ?_)
  have h := h y1 qy1
  refine go_istore_n (L2 := [(2, .int y1), (1, .int 0), (0, .ref 23)]) dX2_numberRead_6 (by decide) rfl ?_
  exact Go.pick [2, 1, 0] rfl h

set_option maxRecDepth 100000 in
theorem sX2_numberRead_7 {G : GX} {d : Nat} {mem : Mem} {Φ : Option Value → Mem → Prop} (v : Int32) (i : Nat) (h : (((mem 23 5) ≤ (nI i) → Φ (some (.int v)) mem) ∧ (¬ (mem 23 5) ≤ (nI i) → (vp_in (nI i) 160) ∧ ∀ y2 : Int32, y2 = (((v * 10) + (mem 24 ((nI i) : Int32).toNatClampNeg)) - 48) → Go G (d + 0) mX2_numberRead 7 [(0, .ref 23), (1, .int y2), (2, .int ((nI i) + 1))] [] mem Φ))) : Go G (d + 0) mX2_numberRead 7 [(0, .ref 23), (1, .int v), (2, .int (nI i))] [] mem Φ := by
  refine go_iload_n dX2_numberRead_7 2 rfl ?_
  refine go_aload_n dX2_numberRead_8 0 rfl ?_
  refine go_getI (kf := 5) rfl rfl rfl uwX2 (by decide) flX2_25 dX2_numberRead_9 ?_
  refine go_icmp_ge 36 dX2_numberRead_12 (by decide) (fun q => ?_) (fun q => ?_)
  · have h := h.1 q
    refine go_iload_n dX2_numberRead_36 1 rfl ?_
    exact go_iret rfl dX2_numberRead_37 h
  · have h := h.2 q
    refine go_iload_n dX2_numberRead_15 1 rfl ?_
    refine go_bipush (v := 10) dX2_numberRead_16 (by decide) ?_
    refine go_imul dX2_numberRead_18 ?_
    refine go_aload_n dX2_numberRead_19 0 rfl ?_
    refine go_getR (kf := 0) (t := 24) rfl rfl rfl uwX2 (by decide) flX2_9 dX2_numberRead_20 ?_
    refine go_iload_n dX2_numberRead_23 2 rfl ?_
    obtain ⟨c1, h⟩ := h
    refine go_baload rfl c1 dX2_numberRead_24 ?_
    refine go_iadd dX2_numberRead_25 ?_
    refine go_bipush (v := 48) dX2_numberRead_26 (by decide) ?_
    refine go_isub dX2_numberRead_28 ?_
    refine go_topi (fun y2 qy2 => ?_)
    have h := h y2 qy2
    refine go_istore_n (L2 := [(1, .int y2), (0, .ref 23), (2, .int (nI i))]) dX2_numberRead_29 (by decide) rfl ?_
    refine go_iinc (v := ((nI i) + 1)) (L2 := [(2, .int ((nI i) + 1)), (1, .int y2), (0, .ref 23)]) dX2_numberRead_30 2 rfl rfl (by decide) rfl ?_
    refine go_goto 7 dX2_numberRead_33 (by decide) ?_
    exact Go.pick [2, 1, 0] rfl h


theorem kX2_refuse {G : GX} (d : Nat) {mem : Mem} (w : Int32) : Cn G (d + 0) mX2_refuse [.ref 23, .int w] mem (Rv (fun m2 => m2 = um (um mem 23 2 w) 23 3 (mem 23 7))) :=
  cn_of (by decide +kernel) (Nat.le_of_ble_eq_true rfl) (sX2_refuse_0 w (fun m1 e => ⟨rfl, by rw [e, um_at, if_neg (by decide)]⟩))
theorem um_um {m : Mem} {a j : Nat} {x y : Int32} : um (um m a j x) a j y = um m a j y := by
  funext k i
  by_cases q : k = a
  · subst q
    rw [um_at, um_at, um_at]
    split <;> rfl
  · rw [um_ne q, um_ne q, um_ne q]
theorem um_id {m : Mem} {a j : Nat} {x : Int32} (h : m a j = x) : um m a j x = m := by
  funext k i
  by_cases q : k = a
  · subst q
    rw [um_at]
    by_cases z : i = j
    · rw [if_pos z, z, h]
    · rw [if_neg z]
  · rw [um_ne q]
theorem lX2_passBytes {G : GX} {d : Nat} {mem0 : Mem} (lo hi : Nat) (hh : hi ≤ 200) (T : Tp) (hT : TpC mem0 T) (hlo : lo ≤ 200) : ∀ (r p : Nat) (m : Mem), p + r = T.1 → m = um mem0 23 5 (nI p) → Go G (d + 0) mX2_passBytes 0 [(0, .ref 23), (1, .int (nI lo)), (2, .int (nI hi))] [] m (Rv (fun m2 => m2 = um mem0 23 5 (nI (rnT T lo hi p)))) := by
  intro r
  have h160 := hT.1
  have at5 : ∀ (m : Mem) (p : Nat), m = um mem0 23 5 (nI p) → m 23 5 = nI p ∧ m 23 1 = nI T.1 ∧ m 24 = mem0 24 := fun m p e => ⟨by rw [e, um_same], by rw [e, um_at, if_neg (by decide)]; exact hT.2.1, by rw [e, um_ne (by decide)]⟩
  induction r with
  | zero =>
    intro p m hp e
    obtain ⟨e5, e1, e24⟩ := at5 m p e
    refine sX2_passBytes_0 _ _ ?_
    rw [e5, e1, show T.1 = p by omega]
    exact ⟨fun _ => ⟨rfl, by rw [rnT_out (Or.inl (by omega))]; exact e⟩, fun z => absurd (Int32.le_refl _) z⟩
  | succ r ih =>
    intro p m hp e
    obtain ⟨e5, e1, e24⟩ := at5 m p e
    obtain ⟨b1, b2⟩ := hT.2.2 p (by omega)
    refine sX2_passBytes_0 _ _ ?_
    rw [e5, e1, ncl (show p < 2000000000 by omega), e24, b2, nI_1]
    refine ⟨fun z => absurd ((nle (by omega) (by omega)).mp z) (by omega), fun _ => ⟨nin (by omega) (by omega), fun q => ⟨rfl, ?_⟩, fun q => ⟨fun q2 => ⟨rfl, ?_⟩, fun q2 => ?_⟩⟩⟩
    · have := (nlt (by omega) (by omega)).mp q
      rw [rnT_out (Or.inr (by omega))]; exact e
    · have := (nlt (by omega) (by omega)).mp q2
      rw [rnT_out (Or.inr (by omega))]; exact e
    · have q' : ¬ T.2 p < lo := fun z => q ((nlt (by omega) (by omega)).mpr z)
      have q2' : ¬ hi < T.2 p := fun z => q2 ((nlt (by omega) (by omega)).mpr z)
      rw [rnT_in (by omega) ⟨by omega, by omega⟩]
      exact ih (p + 1) _ (by omega) (by rw [e, um_um])
theorem kX2_passBytes {G : GX} (d : Nat) {mem : Mem} (a1 a2 : Int32) (p lo hi : Nat) (T : Tp) (e : a1 = nI lo ∧ a2 = nI hi) (hh : hi ≤ 200) (hp : mem 23 5 = nI p ∧ p ≤ T.1) (hT : TpC mem T) (hlo : lo ≤ 200) : Cn G (d + 0) mX2_passBytes [.ref 23, .int a1, .int a2] mem (Rv (fun m2 => m2 = um mem 23 5 (nI (rnT T lo hi p)))) := by
  rw [e.1, e.2]
  exact cn_of (by decide +kernel) (Nat.le_of_ble_eq_true rfl) (lX2_passBytes lo hi hh T hT hlo (T.1 - p) p mem (by omega) (um_id hp.1).symm)
/-- the number that the bytes from a up to b say -/
def nmF (f : Nat → Nat) (a : Nat) : Nat → Nat
  | 0 => 0
  | k + 1 => nmF f a k * 10 + (f (a + k) - 48)
theorem lX2_numberRead {G : GX} {d : Nat} {mem : Mem} (T : Tp) (hT : TpC mem T) (a b : Nat) (hab : a ≤ b ∧ b ≤ T.1) (hd : ∀ i, a ≤ i → i < b → 48 ≤ T.2 i) (hb : mem 23 5 = nI b) : ∀ (r k : Nat), a + k + r = b → Go G (d + 0) mX2_numberRead 7 [(0, .ref 23), (1, .int (nI (nmF T.2 a k))), (2, .int (nI (a + k)))] [] mem (Ri (nI (nmF T.2 a (b - a))) (fun m2 => m2 = mem)) := by
  intro r
  have h160 := hT.1
  induction r with
  | zero =>
    intro k hk
    refine sX2_numberRead_7 _ (a + k) ?_
    rw [hb]
    exact ⟨fun _ => Ri.mk (by rw [show b - a = k by omega]) rfl, fun z => absurd ((nle (by omega) (by omega)).mpr (by omega)) z⟩
  | succ r ih =>
    intro k hk
    obtain ⟨b1, b2⟩ := hT.2.2 (a + k) (by omega)
    have h48 := hd (a + k) (by omega) (by omega)
    refine sX2_numberRead_7 _ (a + k) ?_
    rw [hb, ncl (show a + k < 2000000000 by omega), b2, nI_1, show (10 : Int32) = nI 10 from rfl, pk_mul, nI_add, show (48 : Int32) = nI 48 from rfl, pk_sub (by omega)]
    refine ⟨fun z => absurd ((nle (by omega) (by omega)).mp z) (by omega), fun _ => ⟨nin (by omega) (by omega), fun y ey => ?_⟩⟩
    rw [ey, show nmF T.2 a k * 10 + T.2 (a + k) - 48 = nmF T.2 a (k + 1) from by show _ = nmF T.2 a k * 10 + (T.2 (a + k) - 48); omega, show a + k + 1 = a + (k + 1) by omega]
    exact ih (k + 1) (by omega)
theorem kX2_numberRead {G : GX} (d : Nat) {mem : Mem} (T : Tp) (a b : Nat) (hT : TpC mem T) (hab : a ≤ b ∧ b ≤ T.1) (hd : ∀ i, a ≤ i → i < b → 48 ≤ T.2 i) (hm : mem 23 7 = nI a ∧ mem 23 5 = nI b) : Cn G (d + 0) mX2_numberRead [.ref 23] mem (Ri (nI (nmF T.2 a (b - a))) (fun m2 => m2 = mem)) := by
  refine cn_of (by decide +kernel) (Nat.le_of_ble_eq_true rfl) (sX2_numberRead_0 (fun y ey => ?_))
  rw [ey, hm.1]
  exact lX2_numberRead T hT a b hab hd hm.2 (b - a) 0 (by omega)
