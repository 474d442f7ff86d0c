
def FrK (m m2 : Mem) : Prop := (∀ k, k ≠ 40 → m2 k = m k) ∧ ∀ j, (j < 6 ∨ 11 < j) → m2 40 j = m 40 j
theorem FrK.rf {m : Mem} : FrK m m := ⟨fun _ _ => rfl, fun _ _ => rfl⟩
theorem FrK.um {m0 m : Mem} {j : Nat} {x : Int32} (h : FrK m0 m) (hj : 6 ≤ j ∧ j ≤ 11) : FrK m0 (um m 40 j x) := ⟨fun k hk => by rw [um_ne hk, h.1 k hk], fun i hi => by rw [um_at, if_neg (by omega)]; exact h.2 i hi⟩
theorem TpM.fk {m m2 : Mem} {T : Tp} (h : TpM m T) (f : FrK m m2) : TpM m2 T := h.fr (f.2 4 (by omega)) (f.1 43 (by decide))
def NmM (T : Tp) (q E : Nat) (m m2 : Mem) : Prop := FrK m m2 ∧ (E ≤ q + 2 → m2 40 6 = 0 ∧ m2 40 9 = nI q ∧ m2 40 8 = nI E ∧ m2 40 10 = nI 2 ∧ m2 40 11 = nI (nmF T.2 q (E - q))) ∧ (q + 2 < E → m2 40 6 = 1 ∧ m2 40 7 = nI q)
theorem lX6_st217 {G : GX} {d : Nat} {Φ : Option Value → Mem → Prop} {mem0 m : Mem} (T : Tp) (q E : Nat) (hE : q ≤ E ∧ E ≤ 160) (f : FrK mem0 m) (h6 : m 40 6 = 0) (h9 : m 40 9 = nI q) (h8 : m 40 8 = nI E) (h11 : E ≤ q + 2 → m 40 11 = nI (nmF T.2 q (E - q))) (k : ∀ m2, NmM T q E mem0 m2 → Φ none m2) : Go G (d + 1) mX6_step 217 [(0, .ref 40)] [] m Φ := by
  refine sX6_step_217 E T ?_
  have g : ∀ j, j ≠ 10 → (um m 40 10 2) 40 j = m 40 j := fun j hj => by rw [um_at, if_neg hj]
  rw [g 8 (by decide), g 9 (by decide), g 6 (by decide), h8, h9, pk_sub hE.1, show (2 : Int32) = nI 2 from rfl, nle (by omega) (by omega)]
  refine ⟨fun z => k _ ⟨f.um (by omega), fun _ => ⟨?_, ?_, ?_, um_same, ?_⟩, fun w => by omega⟩, fun z => ⟨h6, fun m2 e2 => k _ ⟨?_, fun w => by omega, fun _ => ⟨?_, ?_⟩⟩⟩⟩
  · rw [um_at, if_neg (by decide)]; exact h6
  · rw [um_at, if_neg (by decide)]; exact h9
  · rw [um_at, if_neg (by decide)]; exact h8
  · rw [um_at, if_neg (by decide)]; exact h11 (by omega)
  · rw [e2]; exact ((f.um (by omega)).um (by omega)).um (by omega)
  · rw [e2, um_at, if_neg (by decide), um_same]
  · rw [e2, um_same]
set_option maxHeartbeats 4000000 in
theorem lX6_st140 {G : GX} {d : Nat} {Φ : Option Value → Mem → Prop} {mem0 : Mem} (T : Tp) (hT : TpM mem0 T) (q E : Nat) (k : ∀ m2, NmM T q E mem0 m2 → Φ none m2) : ∀ (r p : Nat) (m : Mem), p + r = T.1 → q ≤ p → rnT T 48 57 p = E → FrK mem0 m → m 40 6 = 0 → m 40 9 = nI q → m 40 8 = nI p → m 40 11 = nI (nmF T.2 q (if p - q < 2 then p - q else 2)) → Go G (d + 1) mX6_step 140 [(0, .ref 40)] [] m Φ := by
  intro r
  have h160 := hT.1
  have fin : ∀ (p : Nat) (m : Mem), p ≤ T.1 → q ≤ p → rnT T 48 57 p = E → FrK mem0 m → m 40 6 = 0 → m 40 9 = nI q → m 40 8 = nI p → m 40 11 = nI (nmF T.2 q (if p - q < 2 then p - q else 2)) → ¬ (p < T.1 ∧ 48 ≤ T.2 p ∧ T.2 p ≤ 57) → Go G (d + 1) mX6_step 140 [(0, .ref 40)] [] m Φ := fun p m hp hq hE f h6 h9 h8 h11 hn => by
    rw [rnT_out (by omega)] at hE
    subst hE
    refine sX6_step_140 p T ⟨h8, by omega, hT.fk f, fun _ => lX6_st217 T q p (by omega) f h6 h9 h8 (fun z => ?_) k, fun z => absurd ((by_in (lo := 48) (hi := 57) hT.by (by omega) (by omega)).mp z) hn⟩
    rw [h11]
    by_cases w : p - q < 2
    · rw [if_pos w]
    · rw [if_neg w, show p - q = 2 by omega]
  induction r with
  | zero =>
    intro p m hp hq hE f h6 h9 h8 h11
    exact fin p m (by omega) hq hE f h6 h9 h8 h11 (by omega)
  | succ r ih =>
    intro p m hp hq hE f h6 h9 h8 h11
    by_cases hd : 48 ≤ T.2 p ∧ T.2 p ≤ 57
    · rw [rnT_in (by omega) hd] at hE
      have eb : byI T p = nI (T.2 p) := by unfold byI; rw [if_neg (by omega)]
      refine sX6_step_140 p T ⟨h8, by omega, hT.fk f, fun z => absurd ((by_in (lo := 48) (hi := 57) hT.by (by omega) (by omega)).mpr ⟨by omega, hd⟩) z, fun _ => ?_⟩
      rw [h8, h9, pk_sub hq, show (2 : Int32) = nI 2 from rfl, nle (by omega) (by omega)]
      refine ⟨fun z m4 e4 => ?_, fun z m5 e5 => ?_⟩
      · have e4' : m4 = um m 40 8 (nI (p + 1)) := by
          rw [e4, um_id rfl, h8, nI_1]
        refine ih (p + 1) m4 (by omega) (by omega) hE ?_ ?_ ?_ ?_ ?_
        · rw [e4']; exact f.um (by omega)
        · rw [e4', um_at, if_neg (by decide)]; exact h6
        · rw [e4', um_at, if_neg (by decide)]; exact h9
        · rw [e4', um_same]
        · rw [e4', um_at, if_neg (by decide), h11, if_neg (by omega), if_neg (by omega)]
      · rw [eb, h11, if_pos (by omega), show (10 : Int32) = nI 10 from rfl, pk_mul, nI_add, show (48 : Int32) = nI 48 from rfl, pk_sub (by omega)] at e5
        have e58 : m5 40 8 = nI p := by rw [e5, um_at, if_neg (by decide)]; exact h8
        rw [e58, nI_1]
        refine ih (p + 1) _ (by omega) (by omega) hE ?_ ?_ ?_ ?_ ?_
        · rw [e5]; exact (f.um (by omega)).um (by omega)
        · rw [um_at, if_neg (by decide), e5, um_at, if_neg (by decide)]; exact h6
        · rw [um_at, if_neg (by decide), e5, um_at, if_neg (by decide)]; exact h9
        · rw [um_same]
        · rw [um_at, if_neg (by decide), e5, um_same]
          have e : (if p + 1 - q < 2 then p + 1 - q else 2) = (p - q) + 1 := by split <;> omega
          rw [e]
          show _ = nI (nmF T.2 q (p - q) * 10 + (T.2 (q + (p - q)) - 48))
          rw [show q + (p - q) = p by omega]
          congr 1
          omega
    · exact fin p m (by omega) hq hE f h6 h9 h8 h11 (fun z => hd z.2)
set_option maxHeartbeats 4000000 in
theorem lX6_st34 {G : GX} {d : Nat} {m : Mem} (T : Tp) (hT : TpM m T) (q : Nat) (hq : q ≤ T.1) (h6 : m 40 6 = 0) (h8 : m 40 8 = nI q) : Go G (d + 1) mX6_step 34 [(0, .ref 40)] [] m (Rv (NxM T q m)) := by
  have h160 := hT.1
  have hby := hT.by
  have a8 : (um m 40 9 (nI q)) 40 8 = nI q := by rw [um_at, if_neg (by decide)]; exact h8
  refine sX6_step_34 q T ?_
  rw [h8, a8]
  refine ⟨rfl, by omega, hT.fk (FrK.rf.um (by omega)), fun y ey => ?_⟩
  rw [ey]
  have e97 := by_in (p := q) (lo := 97) (hi := 122) hby (by omega) (by omega)
  have e48 := by_in (p := q) (lo := 48) (hi := 57) hby (by omega) (by omega)
  have e59 := by_eq (p := q) (c := 59) hby (by omega)
  have en := by_no (p := q) hby
  have b0 : ∀ j, j ≠ 9 → j ≠ 11 → (um (um m 40 9 (nI q)) 40 11 0) 40 j = m 40 j := fun j a b => by rw [um_at, if_neg b, um_at, if_neg a]
  have f0 : FrK m (um (um m 40 9 (nI q)) 40 11 0) := (FrK.rf.um (by omega)).um (by omega)
  have b9 : (um (um m 40 9 (nI q)) 40 11 0) 40 9 = nI q := by rw [um_at, if_neg (by decide), um_same]
  refine ⟨fun n4 => ?_, fun y4 m8 e8 => ?_⟩
  · have hlt : q < T.1 := Nat.lt_of_not_le (fun z => n4 (en.mpr z))
    refine ⟨fun n97 => ⟨fun n48 m5 e5 => ⟨fun y59 => ?_, fun n59 => ?_⟩, fun y48 => ?_⟩, fun y97 => ?_⟩
    · have w := e59.mp y59
      have et : tk0 T q = (q + 1, 3, false) := by unfold tk0; rw [if_neg (by omega), if_pos w.2]
      have e58 : m5 40 8 = nI q := by rw [e5, um_at, if_neg (by decide), b0 8 (by decide) (by decide)]; exact h8
      rw [e58, nI_1]
      have f5 : FrK m m5 := by rw [e5]; exact f0.um (by omega)
      refine ⟨rfl, (f5.um (by omega)).1, (f5.um (by omega)).2, fun _ => ⟨?_, ?_, ?_, ?_, fun z => by rw [et] at z; exact absurd (show (3 : Nat) = 2 from z) (by decide)⟩, fun z => by rw [et] at z; cases z⟩
      · rw [um_at, if_neg (by decide), e5, um_at, if_neg (by decide), b0 6 (by decide) (by decide)]; exact h6
      · rw [um_at, if_neg (by decide), e5, um_at, if_neg (by decide)]; exact b9
      · rw [um_same, et]
      · rw [um_at, if_neg (by decide), e5, um_same, et]; rfl
    · have h59 : ¬ T.2 q = 59 := fun z => n59 (e59.mpr ⟨hlt, z⟩)
      have h97 : ¬ (97 ≤ T.2 q ∧ T.2 q ≤ 122) := fun z => n97 (e97.mpr ⟨hlt, z⟩)
      have h48 : ¬ (48 ≤ T.2 q ∧ T.2 q ≤ 57) := fun z => n48 (e48.mpr ⟨hlt, z⟩)
      have et : tk0 T q = (q, 2, true) := by
        unfold tk0
        rw [if_neg (by omega), if_neg h59, if_neg h97, rnT_out (Or.inr h48)]
        rw [decide_eq_true (Or.inl rfl)]
      have f5 : FrK m m5 := by rw [e5]; exact f0.um (by omega)
      have e59' : m5 40 9 = nI q := by rw [e5, um_at, if_neg (by decide)]; exact b9
      have e56 : m5 40 6 = 0 := by rw [e5, um_at, if_neg (by decide), b0 6 (by decide) (by decide)]; exact h6
      have f7 := ((f5.um (j := 8) (x := m5 40 8 + 1) (by omega)).um (j := 6) (x := 1) (by omega))
      refine ⟨by rw [um_at, if_neg (by decide)]; exact e56, fun m7 e7 => ⟨rfl, ?_, ?_, fun z => (by rw [et] at z; cases z), fun _ => ⟨?_, ?_⟩⟩⟩
      · rw [e7]; exact (f7.um (by omega)).1
      · rw [e7]; exact (f7.um (by omega)).2
      · rw [e7, um_at, if_neg (by decide), um_same]
      · rw [e7, um_same, um_at, if_neg (by decide)]; exact e59'
    · have w := e48.mp y48
      have h59 : ¬ T.2 q = 59 := by omega
      have h97 : ¬ (97 ≤ T.2 q ∧ T.2 q ≤ 122) := by omega
      have hb := rnT_bd (lo := 48) (hi := 57) (show q + 1 ≤ T.1 by omega)
      rw [← rnT_in hlt w.2] at hb
      have et : tk0 T q = (rnT T 48 57 q, 2, decide (rnT T 48 57 q = q ∨ q + 2 < rnT T 48 57 q)) := by
        unfold tk0; rw [if_neg (by omega), if_neg h59, if_neg h97]
      have c : ∀ m2, NmM T q (rnT T 48 57 q) (um (um m 40 9 (nI q)) 40 11 0) m2 → NxM T q m m2 := fun m2 z => by
        refine ⟨fun k hk => by rw [z.1.1 k hk, f0.1 k hk], fun j hj => by rw [z.1.2 j hj, f0.2 j hj], fun w2 => ?_, fun w2 => ?_⟩
        · rw [et] at w2
          have w3 := of_decide_eq_false w2
          obtain ⟨u1, u2, u3, u4, u5⟩ := z.2.1 (by omega)
          rw [et]
          exact ⟨u1, u2, u3, u4, fun _ => u5⟩
        · rw [et] at w2
          have w3 := of_decide_eq_true w2
          exact z.2.2 (by omega)
      exact lX6_st140 T (hT.fk f0) q (rnT T 48 57 q) (fun m2 z => ⟨rfl, c m2 z⟩) (T.1 - q) q _ (by omega) (Nat.le_refl _) rfl FrK.rf (by rw [b0 6 (by decide) (by decide)]; exact h6) b9 (by rw [b0 8 (by decide) (by decide)]; exact h8) (by rw [um_same, Nat.sub_self]; rfl)
    · have w := e97.mp y97
      have h59 : ¬ T.2 q = 59 := by omega
      have et : tk0 T q = (rnT T 97 122 q, 1, false) := by
        unfold tk0; rw [if_neg (by omega), if_neg h59, if_pos w.2]
      refine lX6_st84 (mem0 := um (um m 40 9 (nI q)) 40 11 0) T (hT.fk f0) (T.1 - q) q _ (by omega) (um_id (by rw [b0 8 (by decide) (by decide)]; exact h8)).symm ⟨rfl, ((f0.um (by omega)).um (by omega)).1, ((f0.um (by omega)).um (by omega)).2, fun _ => ⟨?_, ?_, ?_, ?_, fun z => by rw [et] at z; exact absurd (show (1 : Nat) = 2 from z) (by decide)⟩, fun z => by rw [et] at z; cases z⟩
      · rw [um_at, if_neg (by decide), um_at, if_neg (by decide), b0 6 (by decide) (by decide)]; exact h6
      · rw [um_at, if_neg (by decide), um_at, if_neg (by decide)]; exact b9
      · rw [um_at, if_neg (by decide), um_same, et]
      · rw [um_same, et]; rfl
  · have hge := en.mp y4
    have et : tk0 T q = (q, 0, false) := by unfold tk0; rw [if_pos hge]
    have f8 : FrK m m8 := by rw [e8]; exact f0.um (by omega)
    refine ⟨rfl, f8.1, f8.2, fun _ => ⟨?_, ?_, ?_, ?_, fun z => by rw [et] at z; exact absurd (show (0 : Nat) = 2 from z) (by decide)⟩, fun z => by rw [et] at z; cases z⟩
    · rw [e8, um_at, if_neg (by decide), b0 6 (by decide) (by decide)]; exact h6
    · rw [e8, um_at, if_neg (by decide)]; exact b9
    · rw [e8, um_at, if_neg (by decide), b0 8 (by decide) (by decide), et]; exact h8
    · rw [e8, um_same, et]; rfl
