
theorem NxM_fr {T : Tp} {q : Nat} {m0 m m2 : Mem} (f : FrK m0 m) (h : NxM T q m m2) : NxM T q m0 m2 := ⟨fun k hk => by rw [h.1 k hk, f.1 k hk], fun j hj => by rw [h.2.1 j hj, f.2 j hj], h.2.2⟩
theorem lX6_st8 {G : GX} {d : Nat} {mem0 : Mem} (T : Tp) (hT : TpM mem0 T) (h6 : mem0 40 6 = 0) : ∀ (r p : Nat) (m : Mem), p + r = T.1 → m = um mem0 40 8 (nI p) → Go G (d + 1) mX6_step 8 [(0, .ref 40)] [] m (Rv (NxM T (rnT T 32 32 p) mem0)) := by
  intro r
  have h160 := hT.1
  have hby := hT.by
  have fin : ∀ (m : Mem) (p q : Nat), m = um mem0 40 8 (nI p) → q = p → p ≤ T.1 → Go G (d + 1) mX6_step 34 [(0, .ref 40)] [] m (Rv (NxM T q mem0)) := fun m p q e eq hp => by
    subst eq
    have f : FrK mem0 m := by rw [e]; exact FrK.rf.um (by omega)
    have g : FrK m mem0 := ⟨fun k hk => (f.1 k hk).symm, fun j hj => (f.2 j hj).symm⟩
    have k := @lX6_st34 G d m T (hT.fk f) q hp (by rw [e, um_at, if_neg (by decide)]; exact h6) (by rw [e, um_same])
    have c : NxM T q m = NxM T q mem0 := by
      funext m2
      exact propext ⟨NxM_fr f, NxM_fr g⟩
    rw [c] at k
    exact k
  induction r with
  | zero =>
    intro p m hp e
    have f : FrK mem0 m := by rw [e]; exact FrK.rf.um (by omega)
    refine sX6_step_8 p T ⟨by rw [e, um_same], by omega, hT.fk f, fun _ => fin m p _ e (rnT_out (Or.inl (by omega))) (by omega), fun z => ?_⟩
    have := (by_eq (c := 32) hby (by omega)).mp z
    omega
  | succ r ih =>
    intro p m hp e
    have f : FrK mem0 m := by rw [e]; exact FrK.rf.um (by omega)
    have e8 : m 40 8 = nI p := by rw [e, um_same]
    refine sX6_step_8 p T ⟨e8, by omega, hT.fk f, fun z => fin m p _ e (rnT_out (Or.inr (fun w => z ((by_eq (c := 32) hby (by omega)).mpr ⟨by omega, by omega⟩)))) (by omega), fun z => ?_⟩
    have w := (by_eq (c := 32) hby (by omega)).mp z
    rw [rnT_in (by omega) ⟨by omega, by omega⟩, e8, nI_1]
    exact ih (p + 1) _ (by omega) (by rw [e, um_um])
theorem kX6_step {G : GX} (d : Nat) {mem : Mem} (T : Tp) (p : Nat) (hT : TpM mem T) (hp : p ≤ T.1) (h : mem 40 6 = 0 ∧ mem 40 8 = nI p) : Cn G (d + 1) mX6_step [.ref 40] mem (Rv (NxM T (rnT T 32 32 p) mem)) :=
  cn_of (by decide +kernel) (Nat.le_of_ble_eq_true rfl) (sX6_step_0 ⟨fun _ => lX6_st8 T hT h.1 (T.1 - p) p mem (by omega) (um_id h.2).symm, fun z => absurd (by rw [h.1]; decide) z⟩)
theorem kX6_stepF {G : GX} (d : Nat) {mem : Mem} (h : ¬ mem 40 6 ≤ 0) : Cn G (d + 1) mX6_step [.ref 40] mem (Rv (fun m2 => m2 = mem)) :=
  cn_of (by decide +kernel) (Nat.le_of_ble_eq_true rfl) (sX6_step_0 ⟨fun z => absurd z h, fun _ => ⟨rfl, rfl⟩⟩)
