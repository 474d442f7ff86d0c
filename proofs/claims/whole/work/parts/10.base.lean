/-! ===== small words ===== -/
def bI (c : Prop) [Decidable c] : Int32 := if c then 1 else 0
theorem bIt {c : Prop} [Decidable c] (h : c) : bI c = 1 := if_pos h
theorem bIf {c : Prop} [Decidable c] (h : ¬ c) : bI c = 0 := if_neg h
theorem bI0 {c : Prop} [Decidable c] : bI c = 0 ↔ ¬ c := by
  by_cases h : c
  · rw [bIt h]; exact ⟨fun e => absurd e (by decide), fun e => absurd h e⟩
  · rw [bIf h]; exact ⟨fun _ => h, fun _ => rfl⟩
theorem bI1 {c : Prop} [Decidable c] : ¬ bI c = 0 ↔ c := by
  by_cases h : c
  · rw [bIt h]; exact ⟨fun _ => h, fun _ => by decide⟩
  · rw [bIf h]; exact ⟨fun e => absurd rfl e, fun e => absurd e h⟩
theorem nbI (c : Prop) [Decidable c] : narrow .boolean (.int (bI c)) = .int (bI c) := by
  unfold bI
  split <;> rfl
theorem fbI (c : Prop) [Decidable c] : fits .boolean (.int (bI c)) = true := by
  unfold bI
  split <;> rfl
theorem bI_congr {c e : Prop} [Decidable c] [Decidable e] (h : c ↔ e) : bI c = bI e := by
  by_cases q : c
  · rw [bIt q, bIt (h.mp q)]
  · rw [bIf q, bIf (fun z => q (h.mpr z))]
def Ri (F : Int32) (R : Mem → Prop) : Option Value → Mem → Prop := fun v m2 => v = some (.int F) ∧ R m2
def Rl (F : Int64) (R : Mem → Prop) : Option Value → Mem → Prop := fun v m2 => v = some (.long F) ∧ R m2
def Rr (q : Nat) (R : Mem → Prop) : Option Value → Mem → Prop := fun v m2 => v = some (.ref q) ∧ R m2
def Rv (R : Mem → Prop) : Option Value → Mem → Prop := fun v m2 => v = none ∧ R m2
theorem Ri.mk {F F2 : Int32} {R : Mem → Prop} {m2 : Mem} (h : F2 = F) (hR : R m2) : Ri F R (some (.int F2)) m2 := ⟨by rw [h], hR⟩
theorem Rl.mk {F F2 : Int64} {R : Mem → Prop} {m2 : Mem} (h : F2 = F) (hR : R m2) : Rl F R (some (.long F2)) m2 := ⟨by rw [h], hR⟩
section GT
variable {G : GX} {d : Nat} {M : MI} {pc : Nat} {L L2 : List (Nat × Value)} {st st2 : List Value} {mem : Mem} {Φ : Option Value → Mem → Prop}
theorem go_stk (h : st = st2) (k : Go G d M pc L st2 mem Φ) : Go G d M pc L st mem Φ := h ▸ k
theorem go_topi {x : Int32} (k : ∀ y : Int32, y = x → Go G d M pc L (.int y :: st) mem Φ) : Go G d M pc L (.int x :: st) mem Φ := k x rfl
theorem go_mem (k : ∀ m2 : Mem, m2 = mem → Go G d M pc L st m2 Φ) : Go G d M pc L st mem Φ := k mem rfl
theorem go_topl {x : Int64} (k : ∀ y : Int64, y = x → Go G d M pc L (.long y :: st) mem Φ) : Go G d M pc L (.long x :: st) mem Φ := k x rfl
end GT
def BeamAt (b : Nat) : Prop := Sh[b]? = some (.inr (0, [some (b + 1), some (b + 2), some (b + 3), some (b + 4), none, none, none])) ∧ Sh[b + 1]? = some (.inl (.int, 5, none)) ∧ Sh[b + 2]? = some (.inl (.int, 5, none)) ∧ Sh[b + 3]? = some (.inl (.int, 5, none)) ∧ Sh[b + 4]? = some (.inl (.int, 5, none))
def SheetAt (s : Nat) : Prop := Sh[s]? = some (.inr (4, [some (s + 1), none, none])) ∧ Sh[s + 1]? = some (.inl (.int, 40, none))
theorem bA1 : BeamAt 1 := ⟨rfl, rfl, rfl, rfl, rfl⟩
theorem bA6 : BeamAt 6 := ⟨rfl, rfl, rfl, rfl, rfl⟩
theorem bA11 : BeamAt 11 := ⟨rfl, rfl, rfl, rfl, rfl⟩
theorem bA16 : BeamAt 16 := ⟨rfl, rfl, rfl, rfl, rfl⟩
theorem sA31 : SheetAt 31 := ⟨rfl, rfl⟩
theorem sA33 : SheetAt 33 := ⟨rfl, rfl⟩
theorem sA35 : SheetAt 35 := ⟨rfl, rfl⟩
theorem sA37 : SheetAt 37 := ⟨rfl, rfl⟩
theorem um_same {mem : Mem} {k i : Nat} {x : Int32} : um mem k i x k i = x := by
  unfold um
  rw [um0_self]
  exact if_pos rfl
theorem um_ne {mem : Mem} {k i k2 : Nat} {x : Int32} (h : k2 ≠ k) : um mem k i x k2 = mem k2 := if_neg h
theorem um_at {mem : Mem} {k i j : Nat} {x : Int32} : um mem k i x k j = if j = i then x else mem k j := by
  unfold um
  rw [um0_self]
  rfl
theorem um0_ne {mem : Mem} {k k2 : Nat} {f : Nat → Int32} (h : k2 ≠ k) : um0 mem k f k2 = mem k2 := if_neg h
