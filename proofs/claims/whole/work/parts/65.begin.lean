
/-! ===== the world when both are made ===== -/
def bmF : Nat → Int32 := fun j => if j = 5 then 1 else 0
def shF : Nat → Int32 := fun j => if j = 1 then -1 else 0
def mdF : Nat → Int32 := fun j => if j = 14 then -4 else 0
def mem0 : Mem := fun k => if k = 44 then f44 else if k = 45 then f45 else if k = 49 then f49 else if k = 40 then mdF else if k = 1 then bmF else if k = 6 then bmF else if k = 11 then bmF else if k = 16 then bmF else if k = 31 then shF else if k = 33 then shF else if k = 35 then shF else if k = 37 then shF else fun _ => 0
def alF (q5 q6 kK kV : Nat → Nat) (t : Nat) : Nat → Nat := fun k => if k < 40 then q5 k else if k < 52 then q6 k else if k < 110 then kK (k - 100) else if k < 115 then kV (k - 110) else t
def cdF (c5 c6 : Nat → ClassId) : Nat → ClassId := fun k => if k < 40 then c5 k else c6 k
def GF (l : Launch) (D : va_G) (q5 q6 : Nat → Nat) (c5 c6 : Nat → ClassId) (kK kV : Nat → Nat) (t sz : Nat) : GX := (l, D, alF q5 q6 kK kV t, cdF c5 c6, sz, fun _ => 0)
theorem im_f (al : Nat → Nat) : va_up (va_up (fun _ => none) (0 : Int32).toNatClampNeg (some (al 11))) (1 : Int32).toNatClampNeg (some (al 16)) = fun j => (([11, 16] : List Nat)[j]?).map al := by
  funext j
  rcases j with _ | _ | j
  · rfl
  · rfl
  · show (if j + 2 = 1 then _ else if j + 2 = 0 then _ else none) = none
    rw [if_neg (by omega), if_neg (by omega)]
theorem sh_f (al : Nat → Nat) : va_up (va_up (va_up (va_up (fun _ => none) (0 : Int32).toNatClampNeg (some (al 31))) (1 : Int32).toNatClampNeg (some (al 33))) (2 : Int32).toNatClampNeg (some (al 35))) (3 : Int32).toNatClampNeg (some (al 37)) = fun j => (([31, 33, 35, 37] : List Nat)[j]?).map al := by
  funext j
  rcases j with _ | _ | _ | _ | j
  · rfl
  · rfl
  · rfl
  · rfl
  · show (if j + 4 = 3 then _ else if j + 4 = 2 then _ else if j + 4 = 1 then _ else if j + 4 = 0 then _ else none) = none
    rw [if_neg (by omega), if_neg (by omega), if_neg (by omega), if_neg (by omega)]

def plL : List Nat := [12, 47, 51, 50, 49, 48, 42, 46, 45, 44, 43, 26, 30, 29, 28, 27, 21, 25, 24, 23, 22, 41, 40, 38, 39, 34, 37, 36, 35, 33, 32, 19, 20, 17, 18, 15, 16, 13, 14, 31, 0, 11, 10, 9, 8, 7, 6, 5, 4, 3, 2, 1]
def tpL : List Nat := [0, 0, 38, 37, 36, 35, 0, 34, 33, 32, 31, 0, 22, 21, 20, 19, 0, 18, 17, 16, 15, 30, 29, 0, 28, 0, 27, 26, 25, 24, 0, 0, 14, 0, 13, 0, 12, 0, 11, 23, 0, 10, 9, 8, 7, 6, 5, 4, 3, 2, 1, 0]
theorem plL_inj : ∀ i, i < 52 → ∀ j, j < 52 → plL.getD i 0 = plL.getD j 0 → i = j := by decide +kernel

def mapK {α β : Type} (f : Nat → α → β) : Nat → List α → List β
  | _, [] => []
  | k, a :: l => f k a :: mapK f (k + 1) l
theorem mapK_get {α β : Type} (f : Nat → α → β) : ∀ (l : List α) (k i : Nat), (mapK f k l)[i]? = (l[i]?).map (f (k + i))
  | [], _, _ => rfl
  | a :: l, k, 0 => rfl
  | a :: l, k, i + 1 => by
    show (mapK f (k + 1) l)[i]? = (l[i]?).map (f (k + (i + 1)))
    rw [mapK_get f l (k + 1) i, show k + 1 + i = k + (i + 1) by omega]
theorem mapK_eq {α β : Type} (f : Nat → α → β) (l : List α) : l.mapIdx f = mapK f 0 l := by
  apply List.ext_getElem?
  intro i
  rw [List.getElem?_mapIdx, mapK_get, Nat.zero_add]
theorem ce_K {G : GX} {mem : Mem} {k ci : Nat} {fs : List (Option Nat)} : ce G mem k (.inr (ci, fs)) = .inr (ci, mapK (fv G.2.2.1 (mem k)) 0 fs) := by
  show Sum.inr (ci, fs.mapIdx (fv G.2.2.1 (mem k))) = _
  rw [mapK_eq]

theorem wa0 (l : Launch) (D : va_G) (q5 q6 : Nat → Nat) (c5 c6 : Nat → ClassId) (kK kV : Nat → Nat) (t sz : Nat) : (w6L q6 c6 (w5L q5 c5))[12]? = some ((GF l D q5 q6 c5 c6 kK kV t sz).2.2.1 0, ce (GF l D q5 q6 c5 c6 kK kV t sz) mem0 0 (.inr (5, [some 1, some 6, some 21, some 22, some 23, some 25, some 29, some 30, some 39, none, none]))) := by
  rw [ce_K]
  rfl
theorem wa1 (l : Launch) (D : va_G) (q5 q6 : Nat → Nat) (c5 c6 : Nat → ClassId) (kK kV : Nat → Nat) (t sz : Nat) : (w6L q6 c6 (w5L q5 c5))[47]? = some ((GF l D q5 q6 c5 c6 kK kV t sz).2.2.1 1, ce (GF l D q5 q6 c5 c6 kK kV t sz) mem0 1 (.inr (0, [some 2, some 3, some 4, some 5, none, none, none]))) := by
  rw [ce_K]
  rfl
theorem wa2 (l : Launch) (D : va_G) (q5 q6 : Nat → Nat) (c5 c6 : Nat → ClassId) (kK kV : Nat → Nat) (t sz : Nat) : (w6L q6 c6 (w5L q5 c5))[51]? = some ((GF l D q5 q6 c5 c6 kK kV t sz).2.2.1 2, ce (GF l D q5 q6 c5 c6 kK kV t sz) mem0 2 (.inl (.int, 5, none))) := by
  rfl
theorem wa3 (l : Launch) (D : va_G) (q5 q6 : Nat → Nat) (c5 c6 : Nat → ClassId) (kK kV : Nat → Nat) (t sz : Nat) : (w6L q6 c6 (w5L q5 c5))[50]? = some ((GF l D q5 q6 c5 c6 kK kV t sz).2.2.1 3, ce (GF l D q5 q6 c5 c6 kK kV t sz) mem0 3 (.inl (.int, 5, none))) := by
  rfl
theorem wa4 (l : Launch) (D : va_G) (q5 q6 : Nat → Nat) (c5 c6 : Nat → ClassId) (kK kV : Nat → Nat) (t sz : Nat) : (w6L q6 c6 (w5L q5 c5))[49]? = some ((GF l D q5 q6 c5 c6 kK kV t sz).2.2.1 4, ce (GF l D q5 q6 c5 c6 kK kV t sz) mem0 4 (.inl (.int, 5, none))) := by
  rfl
theorem wa5 (l : Launch) (D : va_G) (q5 q6 : Nat → Nat) (c5 c6 : Nat → ClassId) (kK kV : Nat → Nat) (t sz : Nat) : (w6L q6 c6 (w5L q5 c5))[48]? = some ((GF l D q5 q6 c5 c6 kK kV t sz).2.2.1 5, ce (GF l D q5 q6 c5 c6 kK kV t sz) mem0 5 (.inl (.int, 5, none))) := by
  rfl
theorem wa6 (l : Launch) (D : va_G) (q5 q6 : Nat → Nat) (c5 c6 : Nat → ClassId) (kK kV : Nat → Nat) (t sz : Nat) : (w6L q6 c6 (w5L q5 c5))[42]? = some ((GF l D q5 q6 c5 c6 kK kV t sz).2.2.1 6, ce (GF l D q5 q6 c5 c6 kK kV t sz) mem0 6 (.inr (0, [some 7, some 8, some 9, some 10, none, none, none]))) := by
  rw [ce_K]
  rfl
theorem wa7 (l : Launch) (D : va_G) (q5 q6 : Nat → Nat) (c5 c6 : Nat → ClassId) (kK kV : Nat → Nat) (t sz : Nat) : (w6L q6 c6 (w5L q5 c5))[46]? = some ((GF l D q5 q6 c5 c6 kK kV t sz).2.2.1 7, ce (GF l D q5 q6 c5 c6 kK kV t sz) mem0 7 (.inl (.int, 5, none))) := by
  rfl
theorem wa8 (l : Launch) (D : va_G) (q5 q6 : Nat → Nat) (c5 c6 : Nat → ClassId) (kK kV : Nat → Nat) (t sz : Nat) : (w6L q6 c6 (w5L q5 c5))[45]? = some ((GF l D q5 q6 c5 c6 kK kV t sz).2.2.1 8, ce (GF l D q5 q6 c5 c6 kK kV t sz) mem0 8 (.inl (.int, 5, none))) := by
  rfl
theorem wa9 (l : Launch) (D : va_G) (q5 q6 : Nat → Nat) (c5 c6 : Nat → ClassId) (kK kV : Nat → Nat) (t sz : Nat) : (w6L q6 c6 (w5L q5 c5))[44]? = some ((GF l D q5 q6 c5 c6 kK kV t sz).2.2.1 9, ce (GF l D q5 q6 c5 c6 kK kV t sz) mem0 9 (.inl (.int, 5, none))) := by
  rfl
theorem wa10 (l : Launch) (D : va_G) (q5 q6 : Nat → Nat) (c5 c6 : Nat → ClassId) (kK kV : Nat → Nat) (t sz : Nat) : (w6L q6 c6 (w5L q5 c5))[43]? = some ((GF l D q5 q6 c5 c6 kK kV t sz).2.2.1 10, ce (GF l D q5 q6 c5 c6 kK kV t sz) mem0 10 (.inl (.int, 5, none))) := by
  rfl
theorem wa11 (l : Launch) (D : va_G) (q5 q6 : Nat → Nat) (c5 c6 : Nat → ClassId) (kK kV : Nat → Nat) (t sz : Nat) : (w6L q6 c6 (w5L q5 c5))[26]? = some ((GF l D q5 q6 c5 c6 kK kV t sz).2.2.1 11, ce (GF l D q5 q6 c5 c6 kK kV t sz) mem0 11 (.inr (0, [some 12, some 13, some 14, some 15, none, none, none]))) := by
  rw [ce_K]
  rfl
theorem wa12 (l : Launch) (D : va_G) (q5 q6 : Nat → Nat) (c5 c6 : Nat → ClassId) (kK kV : Nat → Nat) (t sz : Nat) : (w6L q6 c6 (w5L q5 c5))[30]? = some ((GF l D q5 q6 c5 c6 kK kV t sz).2.2.1 12, ce (GF l D q5 q6 c5 c6 kK kV t sz) mem0 12 (.inl (.int, 5, none))) := by
  rfl
theorem wa13 (l : Launch) (D : va_G) (q5 q6 : Nat → Nat) (c5 c6 : Nat → ClassId) (kK kV : Nat → Nat) (t sz : Nat) : (w6L q6 c6 (w5L q5 c5))[29]? = some ((GF l D q5 q6 c5 c6 kK kV t sz).2.2.1 13, ce (GF l D q5 q6 c5 c6 kK kV t sz) mem0 13 (.inl (.int, 5, none))) := by
  rfl
theorem wa14 (l : Launch) (D : va_G) (q5 q6 : Nat → Nat) (c5 c6 : Nat → ClassId) (kK kV : Nat → Nat) (t sz : Nat) : (w6L q6 c6 (w5L q5 c5))[28]? = some ((GF l D q5 q6 c5 c6 kK kV t sz).2.2.1 14, ce (GF l D q5 q6 c5 c6 kK kV t sz) mem0 14 (.inl (.int, 5, none))) := by
  rfl
theorem wa15 (l : Launch) (D : va_G) (q5 q6 : Nat → Nat) (c5 c6 : Nat → ClassId) (kK kV : Nat → Nat) (t sz : Nat) : (w6L q6 c6 (w5L q5 c5))[27]? = some ((GF l D q5 q6 c5 c6 kK kV t sz).2.2.1 15, ce (GF l D q5 q6 c5 c6 kK kV t sz) mem0 15 (.inl (.int, 5, none))) := by
  rfl
theorem wa16 (l : Launch) (D : va_G) (q5 q6 : Nat → Nat) (c5 c6 : Nat → ClassId) (kK kV : Nat → Nat) (t sz : Nat) : (w6L q6 c6 (w5L q5 c5))[21]? = some ((GF l D q5 q6 c5 c6 kK kV t sz).2.2.1 16, ce (GF l D q5 q6 c5 c6 kK kV t sz) mem0 16 (.inr (0, [some 17, some 18, some 19, some 20, none, none, none]))) := by
  rw [ce_K]
  rfl
theorem wa17 (l : Launch) (D : va_G) (q5 q6 : Nat → Nat) (c5 c6 : Nat → ClassId) (kK kV : Nat → Nat) (t sz : Nat) : (w6L q6 c6 (w5L q5 c5))[25]? = some ((GF l D q5 q6 c5 c6 kK kV t sz).2.2.1 17, ce (GF l D q5 q6 c5 c6 kK kV t sz) mem0 17 (.inl (.int, 5, none))) := by
  rfl
theorem wa18 (l : Launch) (D : va_G) (q5 q6 : Nat → Nat) (c5 c6 : Nat → ClassId) (kK kV : Nat → Nat) (t sz : Nat) : (w6L q6 c6 (w5L q5 c5))[24]? = some ((GF l D q5 q6 c5 c6 kK kV t sz).2.2.1 18, ce (GF l D q5 q6 c5 c6 kK kV t sz) mem0 18 (.inl (.int, 5, none))) := by
  rfl
theorem wa19 (l : Launch) (D : va_G) (q5 q6 : Nat → Nat) (c5 c6 : Nat → ClassId) (kK kV : Nat → Nat) (t sz : Nat) : (w6L q6 c6 (w5L q5 c5))[23]? = some ((GF l D q5 q6 c5 c6 kK kV t sz).2.2.1 19, ce (GF l D q5 q6 c5 c6 kK kV t sz) mem0 19 (.inl (.int, 5, none))) := by
  rfl
theorem wa20 (l : Launch) (D : va_G) (q5 q6 : Nat → Nat) (c5 c6 : Nat → ClassId) (kK kV : Nat → Nat) (t sz : Nat) : (w6L q6 c6 (w5L q5 c5))[22]? = some ((GF l D q5 q6 c5 c6 kK kV t sz).2.2.1 20, ce (GF l D q5 q6 c5 c6 kK kV t sz) mem0 20 (.inl (.int, 5, none))) := by
  rfl
theorem wa21 (l : Launch) (D : va_G) (q5 q6 : Nat → Nat) (c5 c6 : Nat → ClassId) (kK kV : Nat → Nat) (t sz : Nat) : (w6L q6 c6 (w5L q5 c5))[41]? = some ((GF l D q5 q6 c5 c6 kK kV t sz).2.2.1 21, ce (GF l D q5 q6 c5 c6 kK kV t sz) mem0 21 (.inl (.object "BeamClocks$Beam", 2, some [11, 16]))) := by
  exact congrArg (fun f => some (oA (q5 21) (c5 21) 2 f)) (im_f (alF q5 q6 kK kV t))
theorem wa22 (l : Launch) (D : va_G) (q5 q6 : Nat → Nat) (c5 c6 : Nat → ClassId) (kK kV : Nat → Nat) (t sz : Nat) : (w6L q6 c6 (w5L q5 c5))[40]? = some ((GF l D q5 q6 c5 c6 kK kV t sz).2.2.1 22, ce (GF l D q5 q6 c5 c6 kK kV t sz) mem0 22 (.inl (.boolean, 2, none))) := by
  rfl
theorem wa23 (l : Launch) (D : va_G) (q5 q6 : Nat → Nat) (c5 c6 : Nat → ClassId) (kK kV : Nat → Nat) (t sz : Nat) : (w6L q6 c6 (w5L q5 c5))[38]? = some ((GF l D q5 q6 c5 c6 kK kV t sz).2.2.1 23, ce (GF l D q5 q6 c5 c6 kK kV t sz) mem0 23 (.inr (2, [some 24, none, none, none, none, none, none, none, none]))) := by
  rw [ce_K]
  rfl
theorem wa24 (l : Launch) (D : va_G) (q5 q6 : Nat → Nat) (c5 c6 : Nat → ClassId) (kK kV : Nat → Nat) (t sz : Nat) : (w6L q6 c6 (w5L q5 c5))[39]? = some ((GF l D q5 q6 c5 c6 kK kV t sz).2.2.1 24, ce (GF l D q5 q6 c5 c6 kK kV t sz) mem0 24 (.inl (.byte, 160, none))) := by
  rfl
theorem wa25 (l : Launch) (D : va_G) (q5 q6 : Nat → Nat) (c5 c6 : Nat → ClassId) (kK kV : Nat → Nat) (t sz : Nat) : (w6L q6 c6 (w5L q5 c5))[34]? = some ((GF l D q5 q6 c5 c6 kK kV t sz).2.2.1 25, ce (GF l D q5 q6 c5 c6 kK kV t sz) mem0 25 (.inr (3, [some 26, some 27, some 28, none]))) := by
  rw [ce_K]
  rfl
theorem wa26 (l : Launch) (D : va_G) (q5 q6 : Nat → Nat) (c5 c6 : Nat → ClassId) (kK kV : Nat → Nat) (t sz : Nat) : (w6L q6 c6 (w5L q5 c5))[37]? = some ((GF l D q5 q6 c5 c6 kK kV t sz).2.2.1 26, ce (GF l D q5 q6 c5 c6 kK kV t sz) mem0 26 (.inl (.int, 6, none))) := by
  rfl
theorem wa27 (l : Launch) (D : va_G) (q5 q6 : Nat → Nat) (c5 c6 : Nat → ClassId) (kK kV : Nat → Nat) (t sz : Nat) : (w6L q6 c6 (w5L q5 c5))[36]? = some ((GF l D q5 q6 c5 c6 kK kV t sz).2.2.1 27, ce (GF l D q5 q6 c5 c6 kK kV t sz) mem0 27 (.inl (.int, 6, none))) := by
  rfl
theorem wa28 (l : Launch) (D : va_G) (q5 q6 : Nat → Nat) (c5 c6 : Nat → ClassId) (kK kV : Nat → Nat) (t sz : Nat) : (w6L q6 c6 (w5L q5 c5))[35]? = some ((GF l D q5 q6 c5 c6 kK kV t sz).2.2.1 28, ce (GF l D q5 q6 c5 c6 kK kV t sz) mem0 28 (.inl (.int, 6, none))) := by
  rfl
theorem wa29 (l : Launch) (D : va_G) (q5 q6 : Nat → Nat) (c5 c6 : Nat → ClassId) (kK kV : Nat → Nat) (t sz : Nat) : (w6L q6 c6 (w5L q5 c5))[33]? = some ((GF l D q5 q6 c5 c6 kK kV t sz).2.2.1 29, ce (GF l D q5 q6 c5 c6 kK kV t sz) mem0 29 (.inl (.object "BeamClocks$Sheet", 4, some [31, 33, 35, 37]))) := by
  exact congrArg (fun f => some (oA (q5 29) (c5 29) 4 f)) (sh_f (alF q5 q6 kK kV t))
theorem wa30 (l : Launch) (D : va_G) (q5 q6 : Nat → Nat) (c5 c6 : Nat → ClassId) (kK kV : Nat → Nat) (t sz : Nat) : (w6L q6 c6 (w5L q5 c5))[32]? = some ((GF l D q5 q6 c5 c6 kK kV t sz).2.2.1 30, ce (GF l D q5 q6 c5 c6 kK kV t sz) mem0 30 (.inr (1, [none, none, none]))) := by
  rw [ce_K]
  rfl
theorem wa31 (l : Launch) (D : va_G) (q5 q6 : Nat → Nat) (c5 c6 : Nat → ClassId) (kK kV : Nat → Nat) (t sz : Nat) : (w6L q6 c6 (w5L q5 c5))[19]? = some ((GF l D q5 q6 c5 c6 kK kV t sz).2.2.1 31, ce (GF l D q5 q6 c5 c6 kK kV t sz) mem0 31 (.inr (4, [some 32, none, none]))) := by
  rw [ce_K]
  rfl
theorem wa32 (l : Launch) (D : va_G) (q5 q6 : Nat → Nat) (c5 c6 : Nat → ClassId) (kK kV : Nat → Nat) (t sz : Nat) : (w6L q6 c6 (w5L q5 c5))[20]? = some ((GF l D q5 q6 c5 c6 kK kV t sz).2.2.1 32, ce (GF l D q5 q6 c5 c6 kK kV t sz) mem0 32 (.inl (.int, 40, none))) := by
  rfl
theorem wa33 (l : Launch) (D : va_G) (q5 q6 : Nat → Nat) (c5 c6 : Nat → ClassId) (kK kV : Nat → Nat) (t sz : Nat) : (w6L q6 c6 (w5L q5 c5))[17]? = some ((GF l D q5 q6 c5 c6 kK kV t sz).2.2.1 33, ce (GF l D q5 q6 c5 c6 kK kV t sz) mem0 33 (.inr (4, [some 34, none, none]))) := by
  rw [ce_K]
  rfl
theorem wa34 (l : Launch) (D : va_G) (q5 q6 : Nat → Nat) (c5 c6 : Nat → ClassId) (kK kV : Nat → Nat) (t sz : Nat) : (w6L q6 c6 (w5L q5 c5))[18]? = some ((GF l D q5 q6 c5 c6 kK kV t sz).2.2.1 34, ce (GF l D q5 q6 c5 c6 kK kV t sz) mem0 34 (.inl (.int, 40, none))) := by
  rfl
theorem wa35 (l : Launch) (D : va_G) (q5 q6 : Nat → Nat) (c5 c6 : Nat → ClassId) (kK kV : Nat → Nat) (t sz : Nat) : (w6L q6 c6 (w5L q5 c5))[15]? = some ((GF l D q5 q6 c5 c6 kK kV t sz).2.2.1 35, ce (GF l D q5 q6 c5 c6 kK kV t sz) mem0 35 (.inr (4, [some 36, none, none]))) := by
  rw [ce_K]
  rfl
theorem wa36 (l : Launch) (D : va_G) (q5 q6 : Nat → Nat) (c5 c6 : Nat → ClassId) (kK kV : Nat → Nat) (t sz : Nat) : (w6L q6 c6 (w5L q5 c5))[16]? = some ((GF l D q5 q6 c5 c6 kK kV t sz).2.2.1 36, ce (GF l D q5 q6 c5 c6 kK kV t sz) mem0 36 (.inl (.int, 40, none))) := by
  rfl
theorem wa37 (l : Launch) (D : va_G) (q5 q6 : Nat → Nat) (c5 c6 : Nat → ClassId) (kK kV : Nat → Nat) (t sz : Nat) : (w6L q6 c6 (w5L q5 c5))[13]? = some ((GF l D q5 q6 c5 c6 kK kV t sz).2.2.1 37, ce (GF l D q5 q6 c5 c6 kK kV t sz) mem0 37 (.inr (4, [some 38, none, none]))) := by
  rw [ce_K]
  rfl
theorem wa38 (l : Launch) (D : va_G) (q5 q6 : Nat → Nat) (c5 c6 : Nat → ClassId) (kK kV : Nat → Nat) (t sz : Nat) : (w6L q6 c6 (w5L q5 c5))[14]? = some ((GF l D q5 q6 c5 c6 kK kV t sz).2.2.1 38, ce (GF l D q5 q6 c5 c6 kK kV t sz) mem0 38 (.inl (.int, 40, none))) := by
  rfl
theorem wa39 (l : Launch) (D : va_G) (q5 q6 : Nat → Nat) (c5 c6 : Nat → ClassId) (kK kV : Nat → Nat) (t sz : Nat) : (w6L q6 c6 (w5L q5 c5))[31]? = some ((GF l D q5 q6 c5 c6 kK kV t sz).2.2.1 39, ce (GF l D q5 q6 c5 c6 kK kV t sz) mem0 39 (.inl (.int, 61, none))) := by
  rfl
theorem wa40 (l : Launch) (D : va_G) (q5 q6 : Nat → Nat) (c5 c6 : Nat → ClassId) (kK kV : Nat → Nat) (t sz : Nat) : (w6L q6 c6 (w5L q5 c5))[0]? = some ((GF l D q5 q6 c5 c6 kK kV t sz).2.2.1 40, ce (GF l D q5 q6 c5 c6 kK kV t sz) mem0 40 (.inr (6, [some 41, some 42, none, some 43, none, none, none, none, none, none, none, none, some 44, some 45, none, none, none, none, some 46, none, some 47, some 48, some 49, some 50, some 51, none]))) := by
  rw [ce_K]
  rfl
theorem wa41 (l : Launch) (D : va_G) (q5 q6 : Nat → Nat) (c5 c6 : Nat → ClassId) (kK kV : Nat → Nat) (t sz : Nat) : (w6L q6 c6 (w5L q5 c5))[11]? = some ((GF l D q5 q6 c5 c6 kK kV t sz).2.2.1 41, ce (GF l D q5 q6 c5 c6 kK kV t sz) mem0 41 (.inl (.int, 138, none))) := by
  rfl
theorem wa42 (l : Launch) (D : va_G) (q5 q6 : Nat → Nat) (c5 c6 : Nat → ClassId) (kK kV : Nat → Nat) (t sz : Nat) : (w6L q6 c6 (w5L q5 c5))[10]? = some ((GF l D q5 q6 c5 c6 kK kV t sz).2.2.1 42, ce (GF l D q5 q6 c5 c6 kK kV t sz) mem0 42 (.inl (.int, 23, none))) := by
  rfl
theorem wa43 (l : Launch) (D : va_G) (q5 q6 : Nat → Nat) (c5 c6 : Nat → ClassId) (kK kV : Nat → Nat) (t sz : Nat) : (w6L q6 c6 (w5L q5 c5))[9]? = some ((GF l D q5 q6 c5 c6 kK kV t sz).2.2.1 43, ce (GF l D q5 q6 c5 c6 kK kV t sz) mem0 43 (.inl (.int, 160, none))) := by
  rfl
theorem wa44 (l : Launch) (D : va_G) (q5 q6 : Nat → Nat) (c5 c6 : Nat → ClassId) (kK kV : Nat → Nat) (t sz : Nat) : (w6L q6 c6 (w5L q5 c5))[8]? = some ((GF l D q5 q6 c5 c6 kK kV t sz).2.2.1 44, ce (GF l D q5 q6 c5 c6 kK kV t sz) mem0 44 (.inl (.int, 6, none))) := by
  rfl
theorem wa45 (l : Launch) (D : va_G) (q5 q6 : Nat → Nat) (c5 c6 : Nat → ClassId) (kK kV : Nat → Nat) (t sz : Nat) : (w6L q6 c6 (w5L q5 c5))[7]? = some ((GF l D q5 q6 c5 c6 kK kV t sz).2.2.1 45, ce (GF l D q5 q6 c5 c6 kK kV t sz) mem0 45 (.inl (.int, 21, none))) := by
  rfl
theorem wa46 (l : Launch) (D : va_G) (q5 q6 : Nat → Nat) (c5 c6 : Nat → ClassId) (kK kV : Nat → Nat) (t sz : Nat) : (w6L q6 c6 (w5L q5 c5))[6]? = some ((GF l D q5 q6 c5 c6 kK kV t sz).2.2.1 46, ce (GF l D q5 q6 c5 c6 kK kV t sz) mem0 46 (.inl (.int, 18, none))) := by
  rfl
theorem wa47 (l : Launch) (D : va_G) (q5 q6 : Nat → Nat) (c5 c6 : Nat → ClassId) (kK kV : Nat → Nat) (t sz : Nat) : (w6L q6 c6 (w5L q5 c5))[5]? = some ((GF l D q5 q6 c5 c6 kK kV t sz).2.2.1 47, ce (GF l D q5 q6 c5 c6 kK kV t sz) mem0 47 (.inl (.int, 1830, none))) := by
  rfl
theorem wa48 (l : Launch) (D : va_G) (q5 q6 : Nat → Nat) (c5 c6 : Nat → ClassId) (kK kV : Nat → Nat) (t sz : Nat) : (w6L q6 c6 (w5L q5 c5))[4]? = some ((GF l D q5 q6 c5 c6 kK kV t sz).2.2.1 48, ce (GF l D q5 q6 c5 c6 kK kV t sz) mem0 48 (.inl (.boolean, 2, none))) := by
  rfl
theorem wa49 (l : Launch) (D : va_G) (q5 q6 : Nat → Nat) (c5 c6 : Nat → ClassId) (kK kV : Nat → Nat) (t sz : Nat) : (w6L q6 c6 (w5L q5 c5))[3]? = some ((GF l D q5 q6 c5 c6 kK kV t sz).2.2.1 49, ce (GF l D q5 q6 c5 c6 kK kV t sz) mem0 49 (.inl (.int, 4, none))) := by
  rfl
theorem wa50 (l : Launch) (D : va_G) (q5 q6 : Nat → Nat) (c5 c6 : Nat → ClassId) (kK kV : Nat → Nat) (t sz : Nat) : (w6L q6 c6 (w5L q5 c5))[2]? = some ((GF l D q5 q6 c5 c6 kK kV t sz).2.2.1 50, ce (GF l D q5 q6 c5 c6 kK kV t sz) mem0 50 (.inl (.int, 4, none))) := by
  rfl
theorem wa51 (l : Launch) (D : va_G) (q5 q6 : Nat → Nat) (c5 c6 : Nat → ClassId) (kK kV : Nat → Nat) (t sz : Nat) : (w6L q6 c6 (w5L q5 c5))[1]? = some ((GF l D q5 q6 c5 c6 kK kV t sz).2.2.1 51, ce (GF l D q5 q6 c5 c6 kK kV t sz) mem0 51 (.inl (.int, 160, none))) := by
  rfl
set_option maxHeartbeats 4000000 in
set_option maxRecDepth 100000 in
theorem wl_at (l : Launch) (D : va_G) (q5 q6 : Nat → Nat) (c5 c6 : Nat → ClassId) (kK kV : Nat → Nat) (t sz : Nat) : ∀ (k : Nat) (c : SC), Sh[k]? = some c → (w6L q6 c6 (w5L q5 c5))[plL.getD k 0]? = some ((GF l D q5 q6 c5 c6 kK kV t sz).2.2.1 k, ce (GF l D q5 q6 c5 c6 kK kV t sz) mem0 k c)
  | 0, c, h => by
    obtain rfl := Option.some.inj h
    exact wa0 l D q5 q6 c5 c6 kK kV t sz
  | 1, c, h => by
    obtain rfl := Option.some.inj h
    exact wa1 l D q5 q6 c5 c6 kK kV t sz
  | 2, c, h => by
    obtain rfl := Option.some.inj h
    exact wa2 l D q5 q6 c5 c6 kK kV t sz
  | 3, c, h => by
    obtain rfl := Option.some.inj h
    exact wa3 l D q5 q6 c5 c6 kK kV t sz
  | 4, c, h => by
    obtain rfl := Option.some.inj h
    exact wa4 l D q5 q6 c5 c6 kK kV t sz
  | 5, c, h => by
    obtain rfl := Option.some.inj h
    exact wa5 l D q5 q6 c5 c6 kK kV t sz
  | 6, c, h => by
    obtain rfl := Option.some.inj h
    exact wa6 l D q5 q6 c5 c6 kK kV t sz
  | 7, c, h => by
    obtain rfl := Option.some.inj h
    exact wa7 l D q5 q6 c5 c6 kK kV t sz
  | 8, c, h => by
    obtain rfl := Option.some.inj h
    exact wa8 l D q5 q6 c5 c6 kK kV t sz
  | 9, c, h => by
    obtain rfl := Option.some.inj h
    exact wa9 l D q5 q6 c5 c6 kK kV t sz
  | 10, c, h => by
    obtain rfl := Option.some.inj h
    exact wa10 l D q5 q6 c5 c6 kK kV t sz
  | 11, c, h => by
    obtain rfl := Option.some.inj h
    exact wa11 l D q5 q6 c5 c6 kK kV t sz
  | 12, c, h => by
    obtain rfl := Option.some.inj h
    exact wa12 l D q5 q6 c5 c6 kK kV t sz
  | 13, c, h => by
    obtain rfl := Option.some.inj h
    exact wa13 l D q5 q6 c5 c6 kK kV t sz
  | 14, c, h => by
    obtain rfl := Option.some.inj h
    exact wa14 l D q5 q6 c5 c6 kK kV t sz
  | 15, c, h => by
    obtain rfl := Option.some.inj h
    exact wa15 l D q5 q6 c5 c6 kK kV t sz
  | 16, c, h => by
    obtain rfl := Option.some.inj h
    exact wa16 l D q5 q6 c5 c6 kK kV t sz
  | 17, c, h => by
    obtain rfl := Option.some.inj h
    exact wa17 l D q5 q6 c5 c6 kK kV t sz
  | 18, c, h => by
    obtain rfl := Option.some.inj h
    exact wa18 l D q5 q6 c5 c6 kK kV t sz
  | 19, c, h => by
    obtain rfl := Option.some.inj h
    exact wa19 l D q5 q6 c5 c6 kK kV t sz
  | 20, c, h => by
    obtain rfl := Option.some.inj h
    exact wa20 l D q5 q6 c5 c6 kK kV t sz
  | 21, c, h => by
    obtain rfl := Option.some.inj h
    exact wa21 l D q5 q6 c5 c6 kK kV t sz
  | 22, c, h => by
    obtain rfl := Option.some.inj h
    exact wa22 l D q5 q6 c5 c6 kK kV t sz
  | 23, c, h => by
    obtain rfl := Option.some.inj h
    exact wa23 l D q5 q6 c5 c6 kK kV t sz
  | 24, c, h => by
    obtain rfl := Option.some.inj h
    exact wa24 l D q5 q6 c5 c6 kK kV t sz
  | 25, c, h => by
    obtain rfl := Option.some.inj h
    exact wa25 l D q5 q6 c5 c6 kK kV t sz
  | 26, c, h => by
    obtain rfl := Option.some.inj h
    exact wa26 l D q5 q6 c5 c6 kK kV t sz
  | 27, c, h => by
    obtain rfl := Option.some.inj h
    exact wa27 l D q5 q6 c5 c6 kK kV t sz
  | 28, c, h => by
    obtain rfl := Option.some.inj h
    exact wa28 l D q5 q6 c5 c6 kK kV t sz
  | 29, c, h => by
    obtain rfl := Option.some.inj h
    exact wa29 l D q5 q6 c5 c6 kK kV t sz
  | 30, c, h => by
    obtain rfl := Option.some.inj h
    exact wa30 l D q5 q6 c5 c6 kK kV t sz
  | 31, c, h => by
    obtain rfl := Option.some.inj h
    exact wa31 l D q5 q6 c5 c6 kK kV t sz
  | 32, c, h => by
    obtain rfl := Option.some.inj h
    exact wa32 l D q5 q6 c5 c6 kK kV t sz
  | 33, c, h => by
    obtain rfl := Option.some.inj h
    exact wa33 l D q5 q6 c5 c6 kK kV t sz
  | 34, c, h => by
    obtain rfl := Option.some.inj h
    exact wa34 l D q5 q6 c5 c6 kK kV t sz
  | 35, c, h => by
    obtain rfl := Option.some.inj h
    exact wa35 l D q5 q6 c5 c6 kK kV t sz
  | 36, c, h => by
    obtain rfl := Option.some.inj h
    exact wa36 l D q5 q6 c5 c6 kK kV t sz
  | 37, c, h => by
    obtain rfl := Option.some.inj h
    exact wa37 l D q5 q6 c5 c6 kK kV t sz
  | 38, c, h => by
    obtain rfl := Option.some.inj h
    exact wa38 l D q5 q6 c5 c6 kK kV t sz
  | 39, c, h => by
    obtain rfl := Option.some.inj h
    exact wa39 l D q5 q6 c5 c6 kK kV t sz
  | 40, c, h => by
    obtain rfl := Option.some.inj h
    exact wa40 l D q5 q6 c5 c6 kK kV t sz
  | 41, c, h => by
    obtain rfl := Option.some.inj h
    exact wa41 l D q5 q6 c5 c6 kK kV t sz
  | 42, c, h => by
    obtain rfl := Option.some.inj h
    exact wa42 l D q5 q6 c5 c6 kK kV t sz
  | 43, c, h => by
    obtain rfl := Option.some.inj h
    exact wa43 l D q5 q6 c5 c6 kK kV t sz
  | 44, c, h => by
    obtain rfl := Option.some.inj h
    exact wa44 l D q5 q6 c5 c6 kK kV t sz
  | 45, c, h => by
    obtain rfl := Option.some.inj h
    exact wa45 l D q5 q6 c5 c6 kK kV t sz
  | 46, c, h => by
    obtain rfl := Option.some.inj h
    exact wa46 l D q5 q6 c5 c6 kK kV t sz
  | 47, c, h => by
    obtain rfl := Option.some.inj h
    exact wa47 l D q5 q6 c5 c6 kK kV t sz
  | 48, c, h => by
    obtain rfl := Option.some.inj h
    exact wa48 l D q5 q6 c5 c6 kK kV t sz
  | 49, c, h => by
    obtain rfl := Option.some.inj h
    exact wa49 l D q5 q6 c5 c6 kK kV t sz
  | 50, c, h => by
    obtain rfl := Option.some.inj h
    exact wa50 l D q5 q6 c5 c6 kK kV t sz
  | 51, c, h => by
    obtain rfl := Option.some.inj h
    exact wa51 l D q5 q6 c5 c6 kK kV t sz
  | n + 52, c, h => absurd (List.getElem?_eq_some_iff.mp h).1 (by show ¬ n + 52 < 52; omega)
set_option maxHeartbeats 4000000 in
set_option maxRecDepth 100000 in
theorem ty_at (l : Launch) (D : va_G) (q5 q6 : Nat → Nat) (c5 c6 : Nat → ClassId) (kK kV : Nat → Nat) (t sz : Nat) : ∀ (k : Nat) (ty : FieldType) (n : Nat) (o : Option (List Nat)), Sh[k]? = some (.inl (ty, n, o)) → (t6L c6 (t5L c5))[tpL.getD k 0]? = some ((GF l D q5 q6 c5 c6 kK kV t sz).2.2.2.1 k, ty)
  | 0, ty, n, o, h => nomatch (Option.some.inj h)
  | 1, ty, n, o, h => nomatch (Option.some.inj h)
  | 2, ty, n, o, h => by
    obtain rfl := (Prod.mk.inj (Sum.inl.inj (Option.some.inj h))).1
    rfl
  | 3, ty, n, o, h => by
    obtain rfl := (Prod.mk.inj (Sum.inl.inj (Option.some.inj h))).1
    rfl
  | 4, ty, n, o, h => by
    obtain rfl := (Prod.mk.inj (Sum.inl.inj (Option.some.inj h))).1
    rfl
  | 5, ty, n, o, h => by
    obtain rfl := (Prod.mk.inj (Sum.inl.inj (Option.some.inj h))).1
    rfl
  | 6, ty, n, o, h => nomatch (Option.some.inj h)
  | 7, ty, n, o, h => by
    obtain rfl := (Prod.mk.inj (Sum.inl.inj (Option.some.inj h))).1
    rfl
  | 8, ty, n, o, h => by
    obtain rfl := (Prod.mk.inj (Sum.inl.inj (Option.some.inj h))).1
    rfl
  | 9, ty, n, o, h => by
    obtain rfl := (Prod.mk.inj (Sum.inl.inj (Option.some.inj h))).1
    rfl
  | 10, ty, n, o, h => by
    obtain rfl := (Prod.mk.inj (Sum.inl.inj (Option.some.inj h))).1
    rfl
  | 11, ty, n, o, h => nomatch (Option.some.inj h)
  | 12, ty, n, o, h => by
    obtain rfl := (Prod.mk.inj (Sum.inl.inj (Option.some.inj h))).1
    rfl
  | 13, ty, n, o, h => by
    obtain rfl := (Prod.mk.inj (Sum.inl.inj (Option.some.inj h))).1
    rfl
  | 14, ty, n, o, h => by
    obtain rfl := (Prod.mk.inj (Sum.inl.inj (Option.some.inj h))).1
    rfl
  | 15, ty, n, o, h => by
    obtain rfl := (Prod.mk.inj (Sum.inl.inj (Option.some.inj h))).1
    rfl
  | 16, ty, n, o, h => nomatch (Option.some.inj h)
  | 17, ty, n, o, h => by
    obtain rfl := (Prod.mk.inj (Sum.inl.inj (Option.some.inj h))).1
    rfl
  | 18, ty, n, o, h => by
    obtain rfl := (Prod.mk.inj (Sum.inl.inj (Option.some.inj h))).1
    rfl
  | 19, ty, n, o, h => by
    obtain rfl := (Prod.mk.inj (Sum.inl.inj (Option.some.inj h))).1
    rfl
  | 20, ty, n, o, h => by
    obtain rfl := (Prod.mk.inj (Sum.inl.inj (Option.some.inj h))).1
    rfl
  | 21, ty, n, o, h => by
    obtain rfl := (Prod.mk.inj (Sum.inl.inj (Option.some.inj h))).1
    rfl
  | 22, ty, n, o, h => by
    obtain rfl := (Prod.mk.inj (Sum.inl.inj (Option.some.inj h))).1
    rfl
  | 23, ty, n, o, h => nomatch (Option.some.inj h)
  | 24, ty, n, o, h => by
    obtain rfl := (Prod.mk.inj (Sum.inl.inj (Option.some.inj h))).1
    rfl
  | 25, ty, n, o, h => nomatch (Option.some.inj h)
  | 26, ty, n, o, h => by
    obtain rfl := (Prod.mk.inj (Sum.inl.inj (Option.some.inj h))).1
    rfl
  | 27, ty, n, o, h => by
    obtain rfl := (Prod.mk.inj (Sum.inl.inj (Option.some.inj h))).1
    rfl
  | 28, ty, n, o, h => by
    obtain rfl := (Prod.mk.inj (Sum.inl.inj (Option.some.inj h))).1
    rfl
  | 29, ty, n, o, h => by
    obtain rfl := (Prod.mk.inj (Sum.inl.inj (Option.some.inj h))).1
    rfl
  | 30, ty, n, o, h => nomatch (Option.some.inj h)
  | 31, ty, n, o, h => nomatch (Option.some.inj h)
  | 32, ty, n, o, h => by
    obtain rfl := (Prod.mk.inj (Sum.inl.inj (Option.some.inj h))).1
    rfl
  | 33, ty, n, o, h => nomatch (Option.some.inj h)
  | 34, ty, n, o, h => by
    obtain rfl := (Prod.mk.inj (Sum.inl.inj (Option.some.inj h))).1
    rfl
  | 35, ty, n, o, h => nomatch (Option.some.inj h)
  | 36, ty, n, o, h => by
    obtain rfl := (Prod.mk.inj (Sum.inl.inj (Option.some.inj h))).1
    rfl
  | 37, ty, n, o, h => nomatch (Option.some.inj h)
  | 38, ty, n, o, h => by
    obtain rfl := (Prod.mk.inj (Sum.inl.inj (Option.some.inj h))).1
    rfl
  | 39, ty, n, o, h => by
    obtain rfl := (Prod.mk.inj (Sum.inl.inj (Option.some.inj h))).1
    rfl
  | 40, ty, n, o, h => nomatch (Option.some.inj h)
  | 41, ty, n, o, h => by
    obtain rfl := (Prod.mk.inj (Sum.inl.inj (Option.some.inj h))).1
    rfl
  | 42, ty, n, o, h => by
    obtain rfl := (Prod.mk.inj (Sum.inl.inj (Option.some.inj h))).1
    rfl
  | 43, ty, n, o, h => by
    obtain rfl := (Prod.mk.inj (Sum.inl.inj (Option.some.inj h))).1
    rfl
  | 44, ty, n, o, h => by
    obtain rfl := (Prod.mk.inj (Sum.inl.inj (Option.some.inj h))).1
    rfl
  | 45, ty, n, o, h => by
    obtain rfl := (Prod.mk.inj (Sum.inl.inj (Option.some.inj h))).1
    rfl
  | 46, ty, n, o, h => by
    obtain rfl := (Prod.mk.inj (Sum.inl.inj (Option.some.inj h))).1
    rfl
  | 47, ty, n, o, h => by
    obtain rfl := (Prod.mk.inj (Sum.inl.inj (Option.some.inj h))).1
    rfl
  | 48, ty, n, o, h => by
    obtain rfl := (Prod.mk.inj (Sum.inl.inj (Option.some.inj h))).1
    rfl
  | 49, ty, n, o, h => by
    obtain rfl := (Prod.mk.inj (Sum.inl.inj (Option.some.inj h))).1
    rfl
  | 50, ty, n, o, h => by
    obtain rfl := (Prod.mk.inj (Sum.inl.inj (Option.some.inj h))).1
    rfl
  | 51, ty, n, o, h => by
    obtain rfl := (Prod.mk.inj (Sum.inl.inj (Option.some.inj h))).1
    rfl
  | m + 52, ty, n, o, h => absurd (List.getElem?_eq_some_iff.mp h).1 (by show ¬ m + 52 < 52; omega)

theorem Inv0 : Inv mem0 := by
  refine ⟨bm0, (0, fun _ => 0), (0, fun _ => 0, fun _ => 0, fun _ => 0), ⟨⟨by decide, by decide, by decide, fun c hc => absurd hc (Nat.not_lt_zero c)⟩, ⟨by decide, by decide, by decide, fun c hc => absurd hc (Nat.not_lt_zero c)⟩, bm0_v, Nat.zero_le _⟩, ?_, ⟨Nat.zero_le _, by decide, by decide, fun i hi => absurd hi (Nat.not_lt_zero i)⟩, ⟨by decide, by decide⟩, ⟨Nat.zero_le _, by decide, by decide, fun i hi => absurd hi (Nat.not_lt_zero i)⟩, ?_, by decide, by decide +kernel, by decide +kernel⟩
  · intro k hk
    rcases (show k = 0 ∨ k = 1 by omega) with rfl | rfl
    · exact Or.inl ⟨by decide, by decide⟩
    · exact Or.inl ⟨by decide, by decide⟩
  · intro k hk
    rcases (show k = 0 ∨ k = 1 ∨ k = 2 ∨ k = 3 by omega) with rfl | rfl | rfl | rfl
    · exact Or.inl ⟨by decide, by decide⟩
    · exact Or.inl ⟨by decide, by decide⟩
    · exact Or.inl ⟨by decide, by decide⟩
    · exact Or.inl ⟨by decide, by decide⟩
theorem P_start {D : va_G} {H : Heap} (l : Launch) (q5 q6 : Nat → Nat) (c5 c6 : Nat → ClassId) (kK kV : Nat → Nat) (t sz : Nat) (P : va_P D vwCl (w6L q6 c6 (w5L q5 c5)) H) : va_P D vwCl (wl (GF l D q5 q6 c5 c6 kK kV t sz) mem0) H := fun k q hk => by
  obtain ⟨c, hc, rfl⟩ := wl_inv hk
  exact P (plL.getD k 0) _ (wl_at l D q5 q6 c5 c6 kK kV t sz k c hc)
def ST (kK kV : Nat → Nat) (t : Nat) (A : Nat → Prop) (s : State) : Prop := (∀ i, i < 5 → vk_R RX2 (sIdx.getD i 0) (sTxt.getD i "") (kK i) s) ∧ vk_S 5 sLen sByt kK kV A s s.heap ∧ va_Z "java/lang/String" "COMPACT_STRINGS" "Z" (.int 1) A s s.heap ∧ (va_Z "jdk/internal/util/Preconditions" "SIOOBE_FORMATTER" "Ljava/util/function/BiFunction;" .null A s s.heap ∨ va_Z "jdk/internal/util/Preconditions" "SIOOBE_FORMATTER" "Ljava/util/function/BiFunction;" (.ref t) A s s.heap)
theorem IS_start {D : va_G} {s : State} (l : Launch) (q5 q6 : Nat → Nat) (c5 c6 : Nat → ClassId) (kK kV : Nat → Nat) (t : Nat) (hK : va_K D vwCl (t6L c6 (t5L c5)) s) (hD : va_D (fun q => s.heap.size ≤ q) (w6L q6 c6 (w5L q5 c5))) (hN : NW s) (hS : ST kK kV t (fun q => s.heap.size ≤ q) s) : IS (GF l D q5 q6 c5 c6 kK kV t s.heap.size) s := by
  have hs : ∀ i, i < Sh.length → ∃ c, Sh[i]? = some c := fun i hi => ⟨_, List.getElem?_eq_getElem hi⟩
  have e1 : ∀ i, i < 5 → (GF l D q5 q6 c5 c6 kK kV t s.heap.size).2.2.1 (100 + i) = kK i := fun i hi => by
    show alF q5 q6 kK kV t (100 + i) = kK i
    unfold alF
    rw [if_neg (by omega), if_neg (by omega), if_pos (by omega), Nat.add_sub_cancel_left]
  have e2 : ∀ i, i < 5 → (GF l D q5 q6 c5 c6 kK kV t s.heap.size).2.2.1 (110 + i) = kV i := fun i hi => by
    show alF q5 q6 kK kV t (110 + i) = kV i
    unfold alF
    rw [if_neg (by omega), if_neg (by omega), if_neg (by omega), if_pos (by omega), Nat.add_sub_cancel_left]
  refine ⟨⟨fun i j hi hj e => ?_, fun i hi => ?_⟩, ⟨hK.1, fun k q hk => by simp at hk⟩, fun k ty n o hk => hK.2 _ _ (ty_at l D q5 q6 c5 c6 kK kV t s.heap.size k ty n o hk), hN, fun i hi => ?_, ⟨fun i hi => ?_, fun i j hi hj e => ?_⟩, hS.2.2.1, hS.2.2.2⟩
  · obtain ⟨c, hc⟩ := hs i hi
    obtain ⟨c2, hc2⟩ := hs j hj
    exact plL_inj i hi j hj (hD.1 _ _ _ _ (wl_at l D q5 q6 c5 c6 kK kV t s.heap.size i c hc) (wl_at l D q5 q6 c5 c6 kK kV t s.heap.size j c2 hc2) e)
  · obtain ⟨c, hc⟩ := hs i hi
    exact hD.2 _ _ (wl_at l D q5 q6 c5 c6 kK kV t s.heap.size i c hc)
  · rw [e1 i hi]; exact hS.1 i hi
  · have h := hS.2.1.1 i hi
    simp only [e1 i hi, e2 i hi]
    exact h
  · refine hS.2.1.2 i j hi hj ?_
    rw [← e1 i hi, ← e1 j hj]
    exact e


theorem strs {args : Array Value} {s : State} {A : Nat → Prop} (hts : ∀ w ∈ lw_tbl, w.before args s = true) (hgv : (Jvm.Cond.and given_1 narrow_1).before args s = true) (hA : ∀ a : Nat, a < s.heap.size → ¬ A a) : ∃ (kK kV : Nat → Nat) (t : Nat), ST kK kV t A s := by
  have hs := flat_of_before _ hgv
  have m1 : ∀ i, i < 5 → Cond.exactly (Term.string RX2 (sIdx.getD i 0)) "java/lang/String" ∈ flatC (Jvm.Cond.and given_1 narrow_1) := by decide +kernel
  have m2 : ∀ i, i < 5 → Cond.eq (.field (Term.string RX2 (sIdx.getD i 0)) "java/lang/String" "coder" "B") (.int 0) ∈ flatC (Jvm.Cond.and given_1 narrow_1) := by decide +kernel
  have m3 : ∀ i, i < 5 → Cond.arrayOf (.field (Term.string RX2 (sIdx.getD i 0)) "java/lang/String" "value" "[B") .byte ∈ flatC (Jvm.Cond.and given_1 narrow_1) := by decide +kernel
  have m4 : ∀ i, i < 5 → Cond.eq (.length (.field (Term.string RX2 (sIdx.getD i 0)) "java/lang/String" "value" "[B")) (.int (Int32.ofNat (sLen.getD i 0))) ∈ flatC (Jvm.Cond.and given_1 narrow_1) := by decide +kernel
  have m5 : ∀ i, i < 5 → ∀ j, j < sLen.getD i 0 → Cond.eq (.elem (.field (Term.string RX2 (sIdx.getD i 0)) "java/lang/String" "value" "[B") (.int (Int32.ofNat j))) (.int ((sByt.getD i []).getD j 0)) ∈ flatC (Jvm.Cond.and given_1 narrow_1) := by decide +kernel
  have m6 : ∀ i, i < 5 → ∀ j, j < 5 → i ≠ j → Cond.not (Cond.eq (Term.string RX2 (sIdx.getD i 0)) (Term.string RX2 (sIdx.getD j 0))) ∈ flatC (Jvm.Cond.and given_1 narrow_1) ∨ Cond.not (Cond.eq (Term.string RX2 (sIdx.getD j 0)) (Term.string RX2 (sIdx.getD i 0))) ∈ flatC (Jvm.Cond.and given_1 narrow_1) := by decide +kernel
  obtain ⟨kK, kV, h1, h2⟩ := vk_Sof (args := args) (s := s) (N := 5) (tm := fun i => Term.string RX2 (sIdx.getD i 0)) (len := sLen) (byt := sByt) (A := A) (by decide +kernel) (fun i hi => hs _ (m1 i hi)) (fun i hi => hs _ (m2 i hi)) (fun i hi => hs _ (m3 i hi)) (fun i hi => hs _ (m4 i hi)) (fun i hi j hj => hs _ (m5 i hi j hj)) (fun i j hi hj hij => (m6 i hi j hj hij).elim (fun q => Or.inl (hs _ q)) (fun q => Or.inr (hs _ q))) hA
  have hr : ∀ i, i < 5 → vk_R RX2 (sIdx.getD i 0) (sTxt.getD i "") (kK i) s := fun i hi => by
    have e := h2 i hi
    rcases (show i = 0 ∨ i = 1 ∨ i = 2 ∨ i = 3 ∨ i = 4 by omega) with rfl | rfl | rfl | rfl | rfl
    · exact vk_R.of (hts _ (List.mem_of_getElem? (i := 285) (by decide +kernel))) e
    · exact vk_R.of (hts _ (List.mem_of_getElem? (i := 338) (by decide +kernel))) e
    · exact vk_R.of (hts _ (List.mem_of_getElem? (i := 339) (by decide +kernel))) e
    · exact vk_R.of (hts _ (List.mem_of_getElem? (i := 340) (by decide +kernel))) e
    · exact vk_R.of (hts _ (List.mem_of_getElem? (i := 341) (by decide +kernel))) e
  have hz := va_Zof (v := .int 1) (A := A) (hts _ (List.mem_of_getElem? (i := 299) (by decide +kernel))) (hts _ (List.mem_of_getElem? (i := 55) (by decide +kernel))) (va_eqt (hs (Cond.eq (.static "java/lang/String" "COMPACT_STRINGS" "Z") (.int 1)) (by decide +kernel))) hA
  have hf := va_Zqof (A := A) (hts _ (List.mem_of_getElem? (i := 315) (by decide +kernel))) (hts _ (List.mem_of_getElem? (i := 57) (by decide +kernel))) (hs (Cond.isRef (.static "jdk/internal/util/Preconditions" "SIOOBE_FORMATTER" "Ljava/util/function/BiFunction;")) (by decide +kernel)) hA
  rcases hf with hf | ⟨t, hf⟩
  · exact ⟨kK, kV, 0, hr, h1, hz, Or.inl hf⟩
  · exact ⟨kK, kV, t, hr, h1, hz, Or.inr hf⟩

theorem NW_start {args : Array Value} {s : State} (hts : ∀ w ∈ lw_tbl, w.before args s = true) : NW s := ⟨va_Nw.of rfl (hts _ (List.mem_of_getElem? (i := 268) (by decide +kernel))), va_Nw.of rfl (hts _ (List.mem_of_getElem? (i := 407) (by decide +kernel))), va_Nw.of rfl (hts _ (List.mem_of_getElem? (i := 445) (by decide +kernel)))⟩
theorem KX_start {args : Array Value} {s : State} (hts : ∀ w ∈ lw_tbl, w.before args s = true) : KX s := ⟨⟨va_Nw.of rfl (hts _ (List.mem_of_getElem? (i := 73) (by decide +kernel))), va_Nw.of rfl (hts _ (List.mem_of_getElem? (i := 112) (by decide +kernel))), va_Nw.of rfl (hts _ (List.mem_of_getElem? (i := 153) (by decide +kernel))), va_Nw.of rfl (hts _ (List.mem_of_getElem? (i := 175) (by decide +kernel))), va_Nw.of rfl (hts _ (List.mem_of_getElem? (i := 190) (by decide +kernel)))⟩, va_AO.of (hts _ (List.mem_of_getElem? (i := 109) (by decide +kernel))), va_AO.of (hts _ (List.mem_of_getElem? (i := 172) (by decide +kernel)))⟩