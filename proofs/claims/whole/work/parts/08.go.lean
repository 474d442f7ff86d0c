/-! ===== the world: one fixed shape of cells; what changes in it is a memory of ints ===== -/
abbrev Mem : Type := Nat → Nat → Int32
abbrev SC : Type := (FieldType × Nat × Option (List Nat)) ⊕ (Nat × List (Option Nat))
abbrev MI : Type := MethodName × ByteArray × Nat × Option FieldType
abbrev GX : Type := Launch × va_G × (Nat → Nat) × (Nat → ClassId) × Nat × (Nat → Nat)
/-- 0 the BeamClocks; 1, 6, 11, 16 its Beams (now, trial, two images), each with four rows behind it; 21 images, 22 kept, 23 reader, 24 its tape, 25 seen, 26 27 28 its rows, 29 sheets, 30 best, 31 33 35 37 the Sheets, a row behind each, 39 heard; 40 the model, 41 state, 42 readPage, 43 tape, 44 ends, 45 letters, 46 seen, 47 beatBy, 48 isKept, 49 lanes, 50 lengths, 51 cells -/
def Sh : List SC := [
  .inr (5, [some 1, some 6, some 21, some 22, some 23, some 25, some 29, some 30, some 39, none, none]),
  .inr (0, [some 2, some 3, some 4, some 5, none, none, none]), .inl (.int, 5, none), .inl (.int, 5, none), .inl (.int, 5, none), .inl (.int, 5, none),
  .inr (0, [some 7, some 8, some 9, some 10, none, none, none]), .inl (.int, 5, none), .inl (.int, 5, none), .inl (.int, 5, none), .inl (.int, 5, none),
  .inr (0, [some 12, some 13, some 14, some 15, none, none, none]), .inl (.int, 5, none), .inl (.int, 5, none), .inl (.int, 5, none), .inl (.int, 5, none),
  .inr (0, [some 17, some 18, some 19, some 20, none, none, none]), .inl (.int, 5, none), .inl (.int, 5, none), .inl (.int, 5, none), .inl (.int, 5, none),
  .inl (.object "BeamClocks$Beam", 2, some [11, 16]), .inl (.boolean, 2, none),
  .inr (2, [some 24, none, none, none, none, none, none, none, none]), .inl (.byte, 160, none),
  .inr (3, [some 26, some 27, some 28, none]), .inl (.int, 6, none), .inl (.int, 6, none), .inl (.int, 6, none),
  .inl (.object "BeamClocks$Sheet", 4, some [31, 33, 35, 37]), .inr (1, [none, none, none]),
  .inr (4, [some 32, none, none]), .inl (.int, 40, none),
  .inr (4, [some 34, none, none]), .inl (.int, 40, none),
  .inr (4, [some 36, none, none]), .inl (.int, 40, none),
  .inr (4, [some 38, none, none]), .inl (.int, 40, none),
  .inl (.int, 61, none),
  .inr (6, [some 41, some 42, none, some 43, none, none, none, none, none, none, none, none, some 44, some 45, none, none, none, none, some 46, none, some 47, some 48, some 49, some 50, some 51, none]),
  .inl (.int, 138, none), .inl (.int, 23, none), .inl (.int, 160, none), .inl (.int, 6, none), .inl (.int, 21, none), .inl (.int, 18, none), .inl (.int, 1830, none), .inl (.boolean, 2, none), .inl (.int, 4, none), .inl (.int, 4, none), .inl (.int, 160, none)]
def um0 (mem : Mem) (k : Nat) (f : Nat → Int32) : Mem := fun c => if c = k then f else mem c
def um (mem : Mem) (k i : Nat) (x : Int32) : Mem := um0 mem k (upd (mem k) i x)
def lf (al : Nat → Nat) (v : Value) : Value := match v with
  | .ref k => .ref (al k)
  | w => w
theorem lf_cat (al : Nat → Nat) (v : Value) : (lf al v).category = v.category := by cases v <;> rfl
def lp (al : Nat → Nat) (q : Nat × Value) : Nat × Value := (q.1, lf al q.2)
def fv (al : Nat → Nat) (f : Nat → Int32) (j : Nat) (o : Option Nat) : Value := match o with
  | none => .int (f j)
  | some t => .ref (al t)
def ce (G : GX) (mem : Mem) (k : Nat) (c : SC) : va_E := match c with
  | .inl (_, n, none) => .inl (G.2.2.2.1 k, n, .inl (mem k))
  | .inl (_, n, some ts) => .inl (G.2.2.2.1 k, n, .inr (.inr (.inr (.inr (fun j => (ts[j]?).map G.2.2.1)))))
  | .inr (ci, fs) => .inr (ci, fs.mapIdx (fv G.2.2.1 (mem k)))
def wl (G : GX) (mem : Mem) : va_W := Sh.mapIdx (fun k c => (G.2.2.1 k, ce G mem k c))
theorem wl_get {G : GX} {mem : Mem} {k : Nat} {c : SC} (h : Sh[k]? = some c) : (wl G mem)[k]? = some (G.2.2.1 k, ce G mem k c) := by
  unfold wl
  rw [List.getElem?_mapIdx, h]
  rfl
theorem wl_inv {G : GX} {mem : Mem} {k : Nat} {q : Nat × va_E} (h : (wl G mem)[k]? = some q) : ∃ c : SC, Sh[k]? = some c ∧ q = (G.2.2.1 k, ce G mem k c) := by
  unfold wl at h
  rw [List.getElem?_mapIdx] at h
  cases hc : Sh[k]? with
  | none => rw [hc] at h; cases h
  | some c => rw [hc] at h; exact ⟨c, rfl, (Option.some.inj h).symm⟩
theorem ce_um0 {G : GX} {mem : Mem} {k k2 : Nat} {f : Nat → Int32} {c : SC} (h : k2 ≠ k) : ce G (um0 mem k f) k2 c = ce G mem k2 c := by
  have e : um0 mem k f k2 = mem k2 := if_neg h
  unfold ce
  rcases c with ⟨t, n, _ | ts⟩ | ⟨ci, fs⟩ <;> simp only [e]
theorem wl_set {G : GX} {mem : Mem} {k : Nat} {c : SC} {f : Nat → Int32} {e : va_E} (h : Sh[k]? = some c) (he : ce G (um0 mem k f) k c = e) : (wl G mem).set k (G.2.2.1 k, e) = wl G (um0 mem k f) := by
  apply List.ext_getElem?
  intro j
  rw [List.getElem?_set]
  by_cases hj : k = j
  · subst hj
    have hk : k < (wl G mem).length := (List.getElem?_eq_some_iff.mp (wl_get h)).1
    rw [if_pos rfl, if_pos hk, wl_get h, he]
  · rw [if_neg hj]
    cases hc : Sh[j]? with
    | none =>
      have h1 : ∀ mem : Mem, (wl G mem)[j]? = none := fun mem => by
        unfold wl
        rw [List.getElem?_mapIdx, hc]
        rfl
      rw [h1, h1]
    | some c2 => rw [wl_get hc, wl_get hc, ce_um0 (fun q => hj q.symm)]
theorem um0_self (mem : Mem) (k : Nat) (f : Nat → Int32) : um0 mem k f k = f := if_pos rfl
theorem um_eq (mem : Mem) (k i : Nat) (x : Int32) : um mem k i x k = upd (mem k) i x := if_pos rfl
/-! ===== what holds at a method's entry, of the state ===== -/
def A0 (G : GX) : Nat → Prop := fun q => G.2.2.2.2.1 ≤ q
def AL (G : GX) : Prop := (∀ i j, i < Sh.length → j < Sh.length → G.2.2.1 i = G.2.2.1 j → i = j) ∧ ∀ i, i < Sh.length → G.2.2.2.2.1 ≤ G.2.2.1 i
def NW (U : State) : Prop := va_Nw (.methodLinkNest RX2 79 yX5_isWithin RX5) U ∧ va_Nw (.methodLinkNest RX0 77 yX5_isBitSet RX5) U ∧ va_Nw (.methodLinkNest RX0 40 yX5_isWithin RX5) U
def sIdx : List Nat := [93, 99, 101, 103, 105]
def sTxt : List String := ["plain", "soft", "heavy", "shy", "push"]
def sLen : List Nat := [5, 4, 5, 3, 4]
def sByt : List (List Int32) := [[112, 108, 97, 105, 110], [115, 111, 102, 116], [104, 101, 97, 118, 121], [115, 104, 121], [112, 117, 115, 104]]
def SR (G : GX) (U : State) : Prop := ∀ i, i < 5 → vk_R RX2 (sIdx.getD i 0) (sTxt.getD i "") (G.2.2.1 (100 + i)) U
def ZF (G : GX) (U : State) (H : Heap) : Prop := va_Z "jdk/internal/util/Preconditions" "SIOOBE_FORMATTER" "Ljava/util/function/BiFunction;" .null (A0 G) U H ∨ va_Z "jdk/internal/util/Preconditions" "SIOOBE_FORMATTER" "Ljava/util/function/BiFunction;" (.ref (G.2.2.1 115)) (A0 G) U H
theorem ZF.moved {G : GX} {u U : State} {H : Heap} (hvm : u.vm.Alike U.vm) (h : ZF G u H) : ZF G U H := h.elim (fun q => Or.inl (q.moved hvm)) (fun q => Or.inr (q.moved hvm))
theorem ZF.kept {G : GX} {U : State} {H H1 : Heap} (h : ZF G U H) (hq : ∀ a : Nat, a < H.size → ¬ A0 G a → H1[a]? = H[a]?) : ZF G U H1 := h.elim (fun q => Or.inl (q.kept hq)) (fun q => Or.inr (q.kept hq))
def SS (G : GX) (U : State) (H : Heap) : Prop := vk_S 5 sLen sByt (fun i => G.2.2.1 (100 + i)) (fun i => G.2.2.1 (110 + i)) (A0 G) U H ∧ va_Z "java/lang/String" "COMPACT_STRINGS" "Z" (.int 1) (A0 G) U H ∧ ZF G U H
def IS (G : GX) (U : State) : Prop := AL G ∧ va_K G.2.1 vwCl [] U ∧ (∀ (k : Nat) (ty : FieldType) (n : Nat) (o : Option (List Nat)), Sh[k]? = some (.inl (ty, n, o)) → ArrOfT U (G.2.2.2.1 k) ty ∧ va_RA U (G.2.2.2.1 k) ty) ∧ NW U ∧ SR G U ∧ SS G U U.heap
theorem IS.go {G : GX} {s U : State} (h : IS G s) (hW : s.WarmedH U.vm) (hH : ∀ a : Nat, a < s.heap.size → ¬ A0 G a → U.heap[a]? = s.heap[a]?) : IS G U := by
  obtain ⟨h1, h2, h3, ⟨n1, n2, n3⟩, h5, h6, h7, h8⟩ := h
  exact ⟨h1, h2.moved hW.alike, fun k ty n o hk => ⟨arrOfT_moved hW.alike (h3 k ty n o hk).1, (h3 k ty n o hk).2.moved hW.alike⟩, ⟨va_Nw.warmM hW n1, va_Nw.warmM hW n2, va_Nw.warmM hW n3⟩, fun i hi => vk_R.warm hW (h5 i hi), (h6.kept hH).moved hW.alike, (h7.kept hH).moved hW.alike, (h8.kept hH).moved hW.alike⟩
theorem IS.call {G : GX} {U : State} {g : JFrame} {mk : MethodId} {a : Array Value} (h : IS G U) : IS G (U.calling g mk a) := by
  obtain ⟨h1, h2, h3, ⟨n1, n2, n3⟩, h5, h6, h7, h8⟩ := h
  have hv : (U.calling g mk a).vm = U.vm := rfl
  have hal : U.vm.Alike (U.calling g mk a).vm := Vm.Alike.refl U.vm
  exact ⟨h1, h2.moved hal, fun k ty n o hk => ⟨arrOfT_moved hal (h3 k ty n o hk).1, (h3 k ty n o hk).2.moved hal⟩, ⟨va_Nw.same rfl hv.symm n1, va_Nw.same rfl hv.symm n2, va_Nw.same rfl hv.symm n3⟩, fun i hi => vk_R.same hv (h5 i hi), h6.moved hal, h7.moved hal, h8.moved hal⟩
theorem IS.D {G : GX} {s : State} (h : IS G s) (mem : Mem) : va_D (A0 G) (wl G mem) := by
  obtain ⟨⟨h1, h2⟩, -⟩ := h
  have hlt : ∀ (k : Nat) (c : SC), Sh[k]? = some c → k < Sh.length := fun k c hk => (List.getElem?_eq_some_iff.mp hk).1
  refine ⟨fun i j p q hp hq e => ?_, fun k q hk => ?_⟩
  · obtain ⟨c, e1, rfl⟩ := wl_inv hp
    obtain ⟨c2, e2, rfl⟩ := wl_inv hq
    exact h1 i j (hlt _ _ e1) (hlt _ _ e2) e
  · obtain ⟨c, e1, rfl⟩ := wl_inv hk
    exact h2 k (hlt _ _ e1)
theorem IS.K {G : GX} {s : State} (h : IS G s) {k : Nat} {ty : FieldType} {n : Nat} {o : Option (List Nat)} (hk : Sh[k]? = some (.inl (ty, n, o))) : va_K G.2.1 vwCl [(G.2.2.2.1 k, ty)] s := by
  obtain ⟨-, h2, h3, -⟩ := h
  refine ⟨h2.1, fun j q hj => ?_⟩
  match j, hj with
  | 0, hj => cases hj; exact h3 k ty n o hk
  | j + 1, hj => simp at hj
theorem IS.K2 {G : GX} {s : State} (h : IS G s) {k k2 : Nat} {ty ty2 : FieldType} {n n2 : Nat} {o o2 : Option (List Nat)} (hk : Sh[k]? = some (.inl (ty, n, o))) (hk2 : Sh[k2]? = some (.inl (ty2, n2, o2))) : va_K G.2.1 vwCl [(G.2.2.2.1 k, ty), (G.2.2.2.1 k2, ty2)] s := (h.K hk).app (h.K hk2)
/-! ===== the words ===== -/
def Tb : List Cond := lw_tbl.filter goodWord
theorem inTb {w : Cond} (h : w ∈ lw_tbl) (hg : goodWord w = true) : w ∈ Tb := List.mem_filter.mpr ⟨h, hg⟩
def wsG (M : MI) : List Cond := .code M.1 M.2.1 M.2.2.1 M.2.2.2 :: Tb
theorem goodG {M : MI} (hc : Cond.code M.1 M.2.1 M.2.2.1 M.2.2.2 ∈ Tb) : GoodIn Tb (wsG M) := by
  intro w hw
  have h : w ∈ Tb := by
    rcases List.mem_cons.mp hw with e | e
    · rw [e]; exact hc
    · exact e
  exact ⟨h, good_of_word (List.mem_filter.mp h).2⟩
def rmd (d : Nat) : Room := { frames := d, cells := 0, slots := 0, locals := 40 * d }
/-! ===== the judgement: from here the method comes to its return with Φ ===== -/
def Fx (M : MI) (p : Program) (s : State) (m : MethodId) (args : Array Value) (meth : Method) (c : Code) : Prop := p.tables.exec = Jvm.exec ∧ c.code = M.2.1 ∧ meth.sig.returnType = M.2.2.2 ∧ c.maxLocals = M.2.2.1 ∧ s.vm.findClass M.1.cls = some m.cls ∧ (∀ w ∈ Tb, w.before args s = true) ∧ meth.locks = false
def TyR (r : Option FieldType) (v : Option Value) : Prop := (r = some .int → ∃ x, v = some (.int x)) ∧ (r = some .long → ∃ x, v = some (.long x))
theorem TyR.i {r : Option FieldType} {x : Int32} (h : r ≠ some .long) : TyR r (some (.int x)) := ⟨fun _ => ⟨x, rfl⟩, fun q => absurd q h⟩
theorem TyR.l {r : Option FieldType} {x : Int64} (h : r ≠ some .int) : TyR r (some (.long x)) := ⟨fun q => absurd q h, fun _ => ⟨x, rfl⟩⟩
theorem TyR.o {r : Option FieldType} {v : Option Value} (h : r ≠ some .int) (h2 : r ≠ some .long) : TyR r v := ⟨fun q => absurd q h, fun q => absurd q h2⟩
def QG (G : GX) (M : MI) (Φ : Option Value → Mem → Prop) : Array Value → State → Outcome → State → Prop := fun _ st oc t => (∃ (v : Option Value) (mem : Mem), oc = .returned (v.map (lf G.2.2.1)) ∧ Φ v mem ∧ va_P G.2.1 vwCl (wl G mem) t.heap ∧ TyR M.2.2.2 v) ∧ va_F (A0 G) st t
def Go (G : GX) (d : Nat) (M : MI) (pc : Nat) (L : List (Nat × Value)) (st : List Value) (mem : Mem) (Φ : Option Value → Mem → Prop) : Prop :=
  ∀ (p : Program) (e : Env) (s : State) (m : MethodId) (args : Array Value) (below : List Frame) (meth : Method) (c : Code) (H : Heap) (locs : List Loc) (ls : Array Slot), Fx M p s m args meth c → IS G s → va_P G.2.1 vwCl (wl G mem) H → va_S (A0 G) s.heap H locs → lv_has ls M.2.2.1 (L.map (lp G.2.2.1)) →
    W p G.1 e (rmd d) s m args below meth c H locs 0 0 (MQ below (QG G M Φ) args s 0 0 (A0 G)) (F0 m pc ls (st.map (lf G.2.2.1)))
/-- a method's contract -/
def Cn (G : GX) (d : Nat) (M : MI) (as : List Value) (mem : Mem) (Φ : Option Value → Mem → Prop) : Prop :=
  Met G.1 M.1 (wsG M) (rmd d) (va_Pc (as.map (lf G.2.2.1)) (fun U => IS G U ∧ va_P G.2.1 vwCl (wl G mem) U.heap)) (QG G M Φ) 0 0 (A0 G)
theorem lv_args_map (al : Nat → Nat) : ∀ (as : List Value) (i : Nat), lv_args i (as.map (lf al)) = (lv_args i as).map (lp al)
  | [], i => rfl
  | v :: vs, i => by
    show (i, lf al v) :: lv_args (if (lf al v).category = 2 then i + 2 else i + 1) (vs.map (lf al)) = (i, lf al v) :: (lv_args (if v.category = 2 then i + 2 else i + 1) vs).map (lp al)
    rw [lf_cat, lv_args_map al vs]
theorem lg_len (al : Nat → Nat) : ∀ (as : List Value), (lg_sl (as.map (lf al))).length = (lg_sl as).length
  | [] => rfl
  | v :: vs => by
    have ih := lg_len al vs
    unfold lg_sl at ih ⊢
    rw [List.map_cons, List.flatMap_cons, List.flatMap_cons, List.length_append, List.length_append, ih, lf_cat]
    by_cases h : v.category = 2
    · rw [if_pos h, if_pos h]
      rfl
    · rw [if_neg h, if_neg h]
      rfl
theorem cn_of {G : GX} {d : Nat} {M : MI} {as : List Value} {mem : Mem} {Φ : Option Value → Mem → Prop} (hpl : plainName M.1.cls = true) (hlen : (lg_sl as).length ≤ M.2.2.1) (go : Go G d M 0 (lv_args 0 as) [] mem Φ) : Cn G d M as mem Φ := by
  refine Met.ofW (cc := M.2.1) (maxL := M.2.2.1) (ret := M.2.2.2) hpl rfl ?_
  intro p e s m args below meth c s₁ B hml hv
  obtain ⟨rfl, hI, hP⟩ := hv
  have hts := atoms_spec (ws := wsG M) B.pre
  have hl := lv_entry (as.map (lf G.2.2.1)) (n := M.2.2.1) (by rw [lg_len]; exact hlen)
  rw [lg_entry_eq]
  rw [lv_args_map] at hl
  exact go p e s m _ below meth c s.heap [] _ ⟨B.exec, B.bytes, B.returns, hml, findClass_of_methodNamed B.named, fun w hw => hts w (List.mem_cons_of_mem _ hw), B.notSynchronized⟩ hI hP va_S.rf hl
theorem Cn.imp {G : GX} {d : Nat} {M : MI} {as : List Value} {mem : Mem} {Φ Ψ : Option Value → Mem → Prop} (h : Cn G d M as mem Φ) (hi : ∀ v m2, Φ v m2 → Ψ v m2) : Cn G d M as mem Ψ := by
  intro p e ha hc hk s m args below hf happ hP hK
  obtain ⟨k, o, h1, h2, h3, ⟨⟨v, m2, e1, e2, e3⟩, hF⟩, hL⟩ := h p e ha hc hk s m args below hf happ hP hK
  exact ⟨k, o, h1, h2, h3, ⟨⟨v, m2, e1, hi v m2 e2, e3⟩, hF⟩, hL⟩
theorem Cn.ty {G : GX} {d : Nat} {M : MI} {as : List Value} {mem : Mem} {Φ : Option Value → Mem → Prop} (h : Cn G d M as mem Φ) : Cn G d M as mem (fun v m2 => TyR M.2.2.2 v ∧ Φ v m2) := by
  intro p e ha hc hk s m args below hf happ hP hK
  obtain ⟨k, o, h1, h2, h3, ⟨⟨v, m2, e1, e2, e3, e4⟩, hF⟩, hL⟩ := h p e ha hc hk s m args below hf happ hP hK
  exact ⟨k, o, h1, h2, h3, ⟨⟨v, m2, e1, ⟨e4, e2⟩, e3, e4⟩, hF⟩, hL⟩
section GR
variable {G : GX} {d : Nat} {M : MI} {pc : Nat} {L L2 : List (Nat × Value)} {st : List Value} {mem : Mem} {Φ : Option Value → Mem → Prop}
theorem Go.loc (h : ∀ q ∈ L2, q ∈ L) (k : Go G d M pc L2 st mem Φ) : Go G d M pc L st mem Φ := fun p e s m args below meth c H locs ls F I P S hl => k p e s m args below meth c H locs ls F I P S ⟨hl.1, hl.2.1, fun q hq => by
  obtain ⟨r, hr, rfl⟩ := List.mem_map.mp hq
  exact hl.2.2 _ (List.mem_map.mpr ⟨r, h r hr, rfl⟩)⟩
theorem lp_at {al : Nat → Nat} {ls : Array Slot} {n j i : Nat} {v : Value} (hl : lv_has ls n (L.map (lp al))) (h : L[j]? = some (i, v)) : ls[i]? = some (.val (lf al v)) := lv_at hl j (by rw [List.getElem?_map, h]; rfl)
theorem st1 (al : Nat → Nat) (i : Nat) (v : Value) (h : (i, v) :: L.filter (fun q => !(q.1 == i) && !(q.1 + 1 == i && q.2.category == 2)) = L2) : (i, lf al v) :: (L.map (lp al)).filter (fun q => !(q.1 == i) && !(q.1 + 1 == i && q.2.category == 2)) = L2.map (lp al) := by
  rw [← h, List.map_cons, List.filter_map]
  congr 2
  apply List.filter_congr
  intro q _
  simp only [Function.comp, lp, lf_cat]
theorem st2 (al : Nat → Nat) (i : Nat) (v : Value) (h : (i, v) :: L.filter (fun q => !(q.1 == i) && (!(q.1 == i + 1) && !(q.1 + 1 == i && q.2.category == 2))) = L2) : (i, lf al v) :: (L.map (lp al)).filter (fun q => !(q.1 == i) && (!(q.1 == i + 1) && !(q.1 + 1 == i && q.2.category == 2))) = L2.map (lp al) := by
  rw [← h, List.map_cons, List.filter_map]
  congr 2
  apply List.filter_congr
  intro q _
  simp only [Function.comp, lp, lf_cat]
theorem go_iconst {n : Int} {v : Int32} (hd : decode M.2.1 pc = .ok (.iconst n, 1)) (hv : Int32.ofInt n = v) (k : Go G d M (pc + 1) L (.int v :: st) mem Φ) : Go G d M pc L (st) mem Φ := fun p e s m args below meth c H locs ls F I P S hl => lv_iconst F.1 F.2.1 hd hv (k p e s m args below meth c H locs ls F I P S hl)
theorem go_bipush {n : Int} {v : Int32} (hd : decode M.2.1 pc = .ok (.bipush n, 2)) (hv : (Int8.ofInt n).toInt32 = v) (k : Go G d M (pc + 2) L (.int v :: st) mem Φ) : Go G d M pc L (st) mem Φ := fun p e s m args below meth c H locs ls F I P S hl => lv_bipush F.1 F.2.1 hd hv (k p e s m args below meth c H locs ls F I P S hl)
theorem go_sipush {n : Int} {v : Int32} (hd : decode M.2.1 pc = .ok (.sipush n, 3)) (hv : (Int16.ofInt n).toInt32 = v) (k : Go G d M (pc + 3) L (.int v :: st) mem Φ) : Go G d M pc L (st) mem Φ := fun p e s m args below meth c H locs ls F I P S hl => lv_sipush F.1 F.2.1 hd hv (k p e s m args below meth c H locs ls F I P S hl)
theorem go_lconst {n : Fin 2} {v : Int64} (hd : decode M.2.1 pc = .ok (.lconst n, 1)) (hv : Int64.ofNat (n : Nat) = v) (k : Go G d M (pc + 1) L (.long v :: st) mem Φ) : Go G d M pc L (st) mem Φ := fun p e s m args below meth c H locs ls F I P S hl => lv_lconst F.1 F.2.1 hd hv (k p e s m args below meth c H locs ls F I P S hl)
theorem go_iadd {x y : Int32} (hd : decode M.2.1 pc = .ok (.iadd, 1)) (k : Go G d M (pc + 1) L (.int (x + y) :: st) mem Φ) : Go G d M pc L (.int y :: .int x :: st) mem Φ := fun p e s m args below meth c H locs ls F I P S hl => lv_iadd F.1 F.2.1 hd (k p e s m args below meth c H locs ls F I P S hl)
theorem go_isub {x y : Int32} (hd : decode M.2.1 pc = .ok (.isub, 1)) (k : Go G d M (pc + 1) L (.int (x - y) :: st) mem Φ) : Go G d M pc L (.int y :: .int x :: st) mem Φ := fun p e s m args below meth c H locs ls F I P S hl => lv_isub F.1 F.2.1 hd (k p e s m args below meth c H locs ls F I P S hl)
theorem go_imul {x y : Int32} (hd : decode M.2.1 pc = .ok (.imul, 1)) (k : Go G d M (pc + 1) L (.int (x * y) :: st) mem Φ) : Go G d M pc L (.int y :: .int x :: st) mem Φ := fun p e s m args below meth c H locs ls F I P S hl => lv_imul F.1 F.2.1 hd (k p e s m args below meth c H locs ls F I P S hl)
theorem go_iand {x y : Int32} (hd : decode M.2.1 pc = .ok (.iand, 1)) (k : Go G d M (pc + 1) L (.int (x &&& y) :: st) mem Φ) : Go G d M pc L (.int y :: .int x :: st) mem Φ := fun p e s m args below meth c H locs ls F I P S hl => lv_iand F.1 F.2.1 hd (k p e s m args below meth c H locs ls F I P S hl)
theorem go_ior {x y : Int32} (hd : decode M.2.1 pc = .ok (.ior, 1)) (k : Go G d M (pc + 1) L (.int (x ||| y) :: st) mem Φ) : Go G d M pc L (.int y :: .int x :: st) mem Φ := fun p e s m args below meth c H locs ls F I P S hl => lv_ior F.1 F.2.1 hd (k p e s m args below meth c H locs ls F I P S hl)
theorem go_ixor {x y : Int32} (hd : decode M.2.1 pc = .ok (.ixor, 1)) (k : Go G d M (pc + 1) L (.int (x ^^^ y) :: st) mem Φ) : Go G d M pc L (.int y :: .int x :: st) mem Φ := fun p e s m args below meth c H locs ls F I P S hl => lv_ixor F.1 F.2.1 hd (k p e s m args below meth c H locs ls F I P S hl)
theorem go_ishl {x y : Int32} (hd : decode M.2.1 pc = .ok (.ishl, 1)) (k : Go G d M (pc + 1) L (.int (x <<< (y &&& 31)) :: st) mem Φ) : Go G d M pc L (.int y :: .int x :: st) mem Φ := fun p e s m args below meth c H locs ls F I P S hl => lv_ishl F.1 F.2.1 hd (k p e s m args below meth c H locs ls F I P S hl)
theorem go_ishr {x y : Int32} (hd : decode M.2.1 pc = .ok (.ishr, 1)) (k : Go G d M (pc + 1) L (.int (x >>> (y &&& 31)) :: st) mem Φ) : Go G d M pc L (.int y :: .int x :: st) mem Φ := fun p e s m args below meth c H locs ls F I P S hl => lv_ishr F.1 F.2.1 hd (k p e s m args below meth c H locs ls F I P S hl)
theorem go_iushr {x y : Int32} (hd : decode M.2.1 pc = .ok (.iushr, 1)) (k : Go G d M (pc + 1) L (.int ((x.toUInt32 >>> (y.toUInt32 &&& Int32.toUInt32 31)).toInt32) :: st) mem Φ) : Go G d M pc L (.int y :: .int x :: st) mem Φ := fun p e s m args below meth c H locs ls F I P S hl => lv_iushr F.1 F.2.1 hd rfl (k p e s m args below meth c H locs ls F I P S hl)
theorem go_idiv {x y : Int32} (hd : decode M.2.1 pc = .ok (.idiv, 1)) (hne : ¬ y = 0) (k : Go G d M (pc + 1) L (.int (x / y) :: st) mem Φ) : Go G d M pc L (.int y :: .int x :: st) mem Φ := fun p e s m args below meth c H locs ls F I P S hl => lv_idiv F.1 F.2.1 hd hne (k p e s m args below meth c H locs ls F I P S hl)
theorem go_irem {x y : Int32} (hd : decode M.2.1 pc = .ok (.irem, 1)) (hne : ¬ y = 0) (k : Go G d M (pc + 1) L (.int (x - x / y * y) :: st) mem Φ) : Go G d M pc L (.int y :: .int x :: st) mem Φ := fun p e s m args below meth c H locs ls F I P S hl => lv_irem F.1 F.2.1 hd hne (k p e s m args below meth c H locs ls F I P S hl)
theorem go_ladd {x y : Int64} (hd : decode M.2.1 pc = .ok (.ladd, 1)) (k : Go G d M (pc + 1) L (.long (x + y) :: st) mem Φ) : Go G d M pc L (.long y :: .long x :: st) mem Φ := fun p e s m args below meth c H locs ls F I P S hl => lv_ladd F.1 F.2.1 hd (k p e s m args below meth c H locs ls F I P S hl)
theorem go_lmul {x y : Int64} (hd : decode M.2.1 pc = .ok (.lmul, 1)) (k : Go G d M (pc + 1) L (.long (x * y) :: st) mem Φ) : Go G d M pc L (.long y :: .long x :: st) mem Φ := fun p e s m args below meth c H locs ls F I P S hl => lv_lmul F.1 F.2.1 hd (k p e s m args below meth c H locs ls F I P S hl)
theorem go_ldiv {x y : Int64} (hd : decode M.2.1 pc = .ok (.ldiv, 1)) (hne : ¬ y = 0) (k : Go G d M (pc + 1) L (.long (x / y) :: st) mem Φ) : Go G d M pc L (.long y :: .long x :: st) mem Φ := fun p e s m args below meth c H locs ls F I P S hl => lv_ldiv F.1 F.2.1 hd hne (k p e s m args below meth c H locs ls F I P S hl)
theorem go_lrem {x y : Int64} (hd : decode M.2.1 pc = .ok (.lrem, 1)) (hne : ¬ y = 0) (k : Go G d M (pc + 1) L (.long (x - x / y * y) :: st) mem Φ) : Go G d M pc L (.long y :: .long x :: st) mem Φ := fun p e s m args below meth c H locs ls F I P S hl => lv_lrem F.1 F.2.1 hd hne (k p e s m args below meth c H locs ls F I P S hl)
theorem go_lcmp {x y : Int64} (hd : decode M.2.1 pc = .ok (.lcmp, 1)) (k : Go G d M (pc + 1) L (.int (lg_cmp x y) :: st) mem Φ) : Go G d M pc L (.long y :: .long x :: st) mem Φ := fun p e s m args below meth c H locs ls F I P S hl => W.lcmp F.1 F.2.1 hd (k p e s m args below meth c H locs ls F I P S hl)
theorem go_i2l {x : Int32} (hd : decode M.2.1 pc = .ok (.i2l, 1)) (k : Go G d M (pc + 1) L (.long x.toInt64 :: st) mem Φ) : Go G d M pc L (.int x :: st) mem Φ := fun p e s m args below meth c H locs ls F I P S hl => lv_i2l F.1 F.2.1 hd rfl (k p e s m args below meth c H locs ls F I P S hl)
theorem go_i2b {x : Int32} (hd : decode M.2.1 pc = .ok (.i2b, 1)) (k : Go G d M (pc + 1) L (.int x.toInt8.toInt32 :: st) mem Φ) : Go G d M pc L (.int x :: st) mem Φ := fun p e s m args below meth c H locs ls F I P S hl => lv_i2b F.1 F.2.1 hd rfl (k p e s m args below meth c H locs ls F I P S hl)
theorem go_i2s {x : Int32} (hd : decode M.2.1 pc = .ok (.i2s, 1)) (k : Go G d M (pc + 1) L (.int x.toInt16.toInt32 :: st) mem Φ) : Go G d M pc L (.int x :: st) mem Φ := fun p e s m args below meth c H locs ls F I P S hl => lv_i2s F.1 F.2.1 hd rfl (k p e s m args below meth c H locs ls F I P S hl)
theorem go_i2c {x : Int32} (hd : decode M.2.1 pc = .ok (.i2c, 1)) (k : Go G d M (pc + 1) L (.int (x.toUInt32 % 65536).toInt32 :: st) mem Φ) : Go G d M pc L (.int x :: st) mem Φ := fun p e s m args below meth c H locs ls F I P S hl => lv_i2c F.1 F.2.1 hd rfl (k p e s m args below meth c H locs ls F I P S hl)
theorem go_dup {v : Value} (hd : decode M.2.1 pc = .ok (.dup, 1)) (hc : v.category = 1) (k : Go G d M (pc + 1) L (v :: v :: st) mem Φ) : Go G d M pc L (v :: st) mem Φ := fun p e s m args below meth c H locs ls F I P S hl => lv_dup F.1 F.2.1 hd ((lf_cat _ v).trans hc) (k p e s m args below meth c H locs ls F I P S hl)
theorem go_pop {v : Value} (hd : decode M.2.1 pc = .ok (.pop, 1)) (hc : v.category = 1) (k : Go G d M (pc + 1) L (st) mem Φ) : Go G d M pc L (v :: st) mem Φ := fun p e s m args below meth c H locs ls F I P S hl => lv_pop F.1 F.2.1 hd ((lf_cat _ v).trans hc) (k p e s m args below meth c H locs ls F I P S hl)
theorem go_dup2 {v w : Value} (hd : decode M.2.1 pc = .ok (.dup2, 1)) (hc : v.category = 1) (hc2 : w.category = 1) (k : Go G d M (pc + 1) L (v :: w :: v :: w :: st) mem Φ) : Go G d M pc L (v :: w :: st) mem Φ := fun p e s m args below meth c H locs ls F I P S hl => lv_dup2_11 F.1 F.2.1 hd ((lf_cat _ v).trans hc) ((lf_cat _ w).trans hc2) (k p e s m args below meth c H locs ls F I P S hl)
theorem go_iload_n {i : Fin 4} {x : Int32} (hd : decode M.2.1 pc = .ok (.iload_n i, 1)) (j : Nat) (hj : L[j]? = some ((i : Nat), .int x)) (k : Go G d M (pc + 1) L (.int x :: st) mem Φ) : Go G d M pc L st mem Φ := fun p e s m args below meth c H locs ls F I P S hl => lv_iload_n F.1 F.2.1 hd rfl (lp_at hl hj) (k p e s m args below meth c H locs ls F I P S hl)
theorem go_iload {i : Nat} {x : Int32} (hd : decode M.2.1 pc = .ok (.iload i, 2)) (j : Nat) (hj : L[j]? = some (i, .int x)) (k : Go G d M (pc + 2) L (.int x :: st) mem Φ) : Go G d M pc L st mem Φ := fun p e s m args below meth c H locs ls F I P S hl => lv_iload F.1 F.2.1 hd (lp_at hl hj) (k p e s m args below meth c H locs ls F I P S hl)
theorem go_istore_n {i : Fin 4} {x : Int32} (hd : decode M.2.1 pc = .ok (.istore_n i, 1)) (hn : (i : Nat) < M.2.2.1) (hL : ((i : Nat), (.int x : Value)) :: L.filter (fun q => !(q.1 == (i : Nat)) && !(q.1 + 1 == (i : Nat) && q.2.category == 2)) = L2) (k : Go G d M (pc + 1) L2 st mem Φ) : Go G d M pc L (.int x :: st) mem Φ := fun p e s m args below meth c H locs ls F I P S hl => lv_istore_n F.1 F.2.1 hd rfl hl hn (st1 _ _ _ hL) (fun ls hl => k p e s m args below meth c H locs ls F I P S hl)
theorem go_istore {i : Nat} {x : Int32} (hd : decode M.2.1 pc = .ok (.istore i, 2)) (hn : i < M.2.2.1) (hL : (i, (.int x : Value)) :: L.filter (fun q => !(q.1 == i) && !(q.1 + 1 == i && q.2.category == 2)) = L2) (k : Go G d M (pc + 2) L2 st mem Φ) : Go G d M pc L (.int x :: st) mem Φ := fun p e s m args below meth c H locs ls F I P S hl => lv_istore F.1 F.2.1 hd hl hn (st1 _ _ _ hL) (fun ls hl => k p e s m args below meth c H locs ls F I P S hl)
theorem go_lload_n {i : Fin 4} {x : Int64} (hd : decode M.2.1 pc = .ok (.lload_n i, 1)) (j : Nat) (hj : L[j]? = some ((i : Nat), .long x)) (k : Go G d M (pc + 1) L (.long x :: st) mem Φ) : Go G d M pc L st mem Φ := fun p e s m args below meth c H locs ls F I P S hl => lv_lload_n F.1 F.2.1 hd rfl (lp_at hl hj) (k p e s m args below meth c H locs ls F I P S hl)
theorem go_lload {i : Nat} {x : Int64} (hd : decode M.2.1 pc = .ok (.lload i, 2)) (j : Nat) (hj : L[j]? = some (i, .long x)) (k : Go G d M (pc + 2) L (.long x :: st) mem Φ) : Go G d M pc L st mem Φ := fun p e s m args below meth c H locs ls F I P S hl => lv_lload F.1 F.2.1 hd (lp_at hl hj) (k p e s m args below meth c H locs ls F I P S hl)
theorem go_lstore_n {i : Fin 4} {x : Int64} (hd : decode M.2.1 pc = .ok (.lstore_n i, 1)) (hn : (i : Nat) + 1 < M.2.2.1) (hL : ((i : Nat), (.long x : Value)) :: L.filter (fun q => !(q.1 == (i : Nat)) && (!(q.1 == (i : Nat) + 1) && !(q.1 + 1 == (i : Nat) && q.2.category == 2))) = L2) (k : Go G d M (pc + 1) L2 st mem Φ) : Go G d M pc L (.long x :: st) mem Φ := fun p e s m args below meth c H locs ls F I P S hl => lv_lstore_n F.1 F.2.1 hd rfl hl hn (st2 _ _ _ hL) (fun ls hl => k p e s m args below meth c H locs ls F I P S hl)
theorem go_lstore {i : Nat} {x : Int64} (hd : decode M.2.1 pc = .ok (.lstore i, 2)) (hn : i + 1 < M.2.2.1) (hL : (i, (.long x : Value)) :: L.filter (fun q => !(q.1 == i) && (!(q.1 == i + 1) && !(q.1 + 1 == i && q.2.category == 2))) = L2) (k : Go G d M (pc + 2) L2 st mem Φ) : Go G d M pc L (.long x :: st) mem Φ := fun p e s m args below meth c H locs ls F I P S hl => lv_lstore F.1 F.2.1 hd hl hn (st2 _ _ _ hL) (fun ls hl => k p e s m args below meth c H locs ls F I P S hl)
theorem go_aload_n {i : Fin 4} {x : Nat} (hd : decode M.2.1 pc = .ok (.aload_n i, 1)) (j : Nat) (hj : L[j]? = some ((i : Nat), .ref x)) (k : Go G d M (pc + 1) L (.ref x :: st) mem Φ) : Go G d M pc L st mem Φ := fun p e s m args below meth c H locs ls F I P S hl => lv_aload_n F.1 F.2.1 hd rfl (lp_at hl hj) (k p e s m args below meth c H locs ls F I P S hl)
theorem go_aload {i : Nat} {x : Nat} (hd : decode M.2.1 pc = .ok (.aload i, 2)) (j : Nat) (hj : L[j]? = some (i, .ref x)) (k : Go G d M (pc + 2) L (.ref x :: st) mem Φ) : Go G d M pc L st mem Φ := fun p e s m args below meth c H locs ls F I P S hl => lv_aload F.1 F.2.1 hd (lp_at hl hj) (k p e s m args below meth c H locs ls F I P S hl)
theorem go_astore_n {i : Fin 4} {x : Nat} (hd : decode M.2.1 pc = .ok (.astore_n i, 1)) (hn : (i : Nat) < M.2.2.1) (hL : ((i : Nat), (.ref x : Value)) :: L.filter (fun q => !(q.1 == (i : Nat)) && !(q.1 + 1 == (i : Nat) && q.2.category == 2)) = L2) (k : Go G d M (pc + 1) L2 st mem Φ) : Go G d M pc L (.ref x :: st) mem Φ := fun p e s m args below meth c H locs ls F I P S hl => lv_astore_n F.1 F.2.1 hd rfl hl hn (st1 _ _ _ hL) (fun ls hl => k p e s m args below meth c H locs ls F I P S hl)
theorem go_astore {i : Nat} {x : Nat} (hd : decode M.2.1 pc = .ok (.astore i, 2)) (hn : i < M.2.2.1) (hL : (i, (.ref x : Value)) :: L.filter (fun q => !(q.1 == i) && !(q.1 + 1 == i && q.2.category == 2)) = L2) (k : Go G d M (pc + 2) L2 st mem Φ) : Go G d M pc L (.ref x :: st) mem Φ := fun p e s m args below meth c H locs ls F I P S hl => lv_astore F.1 F.2.1 hd hl hn (st1 _ _ _ hL) (fun ls hl => k p e s m args below meth c H locs ls F I P S hl)
theorem go_iinc {i : Nat} {n : Int} {x v : Int32} (hd : decode M.2.1 pc = .ok (.iinc i n, 3)) (j : Nat) (hj : L[j]? = some (i, .int x)) (hv : x + Int32.ofInt n = v) (hn : i < M.2.2.1) (hL : (i, (.int v : Value)) :: L.filter (fun q => !(q.1 == i) && !(q.1 + 1 == i && q.2.category == 2)) = L2) (k : Go G d M (pc + 3) L2 st mem Φ) : Go G d M pc L st mem Φ := fun p e s m args below meth c H locs ls F I P S hl => lv_iinc F.1 F.2.1 hd hl (k := j) (by rw [List.getElem?_map, hj]; rfl) hv hn (st1 _ _ _ hL) (fun ls hl => k p e s m args below meth c H locs ls F I P S hl)
theorem go_goto {off : Int} (tgt : Nat) (hd : decode M.2.1 pc = .ok (.goto off, 3)) (ht : (pc : Int) + off = (tgt : Int)) (k : Go G d M tgt L st mem Φ) : Go G d M pc L st mem Φ := fun p e s m args below meth c H locs ls F I P S hl => lv_goto F.1 F.2.1 hd ht (k p e s m args below meth c H locs ls F I P S hl)
theorem go_if_eq {x : Int32} {off : Int} (tgt : Nat) (hd : decode M.2.1 pc = .ok (.ifCond .eq off, 3)) (ht : (pc : Int) + off = (tgt : Int)) (kt : x = 0 → Go G d M tgt L st mem Φ) (kf : ¬ x = 0 → Go G d M (pc + 3) L st mem Φ) : Go G d M pc L (.int x :: st) mem Φ := fun p e s m args below meth c H locs ls F I P S hl => lv_if_eq F.1 F.2.1 hd ht (fun q => kt q p e s m args below meth c H locs ls F I P S hl) (fun q => kf q p e s m args below meth c H locs ls F I P S hl)
theorem go_icmp_eq {x y : Int32} {off : Int} (tgt : Nat) (hd : decode M.2.1 pc = .ok (.if_icmp .eq off, 3)) (ht : (pc : Int) + off = (tgt : Int)) (kt : x = y → Go G d M tgt L st mem Φ) (kf : ¬ x = y → Go G d M (pc + 3) L st mem Φ) : Go G d M pc L (.int y :: .int x :: st) mem Φ := fun p e s m args below meth c H locs ls F I P S hl => lv_icmp_eq F.1 F.2.1 hd ht (fun q => kt q p e s m args below meth c H locs ls F I P S hl) (fun q => kf q p e s m args below meth c H locs ls F I P S hl)
theorem go_if_ne {x : Int32} {off : Int} (tgt : Nat) (hd : decode M.2.1 pc = .ok (.ifCond .ne off, 3)) (ht : (pc : Int) + off = (tgt : Int)) (kt : ¬ x = 0 → Go G d M tgt L st mem Φ) (kf : x = 0 → Go G d M (pc + 3) L st mem Φ) : Go G d M pc L (.int x :: st) mem Φ := fun p e s m args below meth c H locs ls F I P S hl => lv_if_ne F.1 F.2.1 hd ht (fun q => kt q p e s m args below meth c H locs ls F I P S hl) (fun q => kf q p e s m args below meth c H locs ls F I P S hl)
theorem go_icmp_ne {x y : Int32} {off : Int} (tgt : Nat) (hd : decode M.2.1 pc = .ok (.if_icmp .ne off, 3)) (ht : (pc : Int) + off = (tgt : Int)) (kt : ¬ x = y → Go G d M tgt L st mem Φ) (kf : x = y → Go G d M (pc + 3) L st mem Φ) : Go G d M pc L (.int y :: .int x :: st) mem Φ := fun p e s m args below meth c H locs ls F I P S hl => lv_icmp_ne F.1 F.2.1 hd ht (fun q => kt q p e s m args below meth c H locs ls F I P S hl) (fun q => kf q p e s m args below meth c H locs ls F I P S hl)
theorem go_if_lt {x : Int32} {off : Int} (tgt : Nat) (hd : decode M.2.1 pc = .ok (.ifCond .lt off, 3)) (ht : (pc : Int) + off = (tgt : Int)) (kt : x < 0 → Go G d M tgt L st mem Φ) (kf : ¬ x < 0 → Go G d M (pc + 3) L st mem Φ) : Go G d M pc L (.int x :: st) mem Φ := fun p e s m args below meth c H locs ls F I P S hl => lv_if_lt F.1 F.2.1 hd ht (fun q => kt q p e s m args below meth c H locs ls F I P S hl) (fun q => kf q p e s m args below meth c H locs ls F I P S hl)
theorem go_icmp_lt {x y : Int32} {off : Int} (tgt : Nat) (hd : decode M.2.1 pc = .ok (.if_icmp .lt off, 3)) (ht : (pc : Int) + off = (tgt : Int)) (kt : x < y → Go G d M tgt L st mem Φ) (kf : ¬ x < y → Go G d M (pc + 3) L st mem Φ) : Go G d M pc L (.int y :: .int x :: st) mem Φ := fun p e s m args below meth c H locs ls F I P S hl => lv_icmp_lt F.1 F.2.1 hd ht (fun q => kt q p e s m args below meth c H locs ls F I P S hl) (fun q => kf q p e s m args below meth c H locs ls F I P S hl)
theorem go_if_ge {x : Int32} {off : Int} (tgt : Nat) (hd : decode M.2.1 pc = .ok (.ifCond .ge off, 3)) (ht : (pc : Int) + off = (tgt : Int)) (kt : 0 ≤ x → Go G d M tgt L st mem Φ) (kf : ¬ 0 ≤ x → Go G d M (pc + 3) L st mem Φ) : Go G d M pc L (.int x :: st) mem Φ := fun p e s m args below meth c H locs ls F I P S hl => lv_if_ge F.1 F.2.1 hd ht (fun q => kt q p e s m args below meth c H locs ls F I P S hl) (fun q => kf q p e s m args below meth c H locs ls F I P S hl)
theorem go_icmp_ge {x y : Int32} {off : Int} (tgt : Nat) (hd : decode M.2.1 pc = .ok (.if_icmp .ge off, 3)) (ht : (pc : Int) + off = (tgt : Int)) (kt : y ≤ x → Go G d M tgt L st mem Φ) (kf : ¬ y ≤ x → Go G d M (pc + 3) L st mem Φ) : Go G d M pc L (.int y :: .int x :: st) mem Φ := fun p e s m args below meth c H locs ls F I P S hl => lv_icmp_ge F.1 F.2.1 hd ht (fun q => kt q p e s m args below meth c H locs ls F I P S hl) (fun q => kf q p e s m args below meth c H locs ls F I P S hl)
theorem go_if_gt {x : Int32} {off : Int} (tgt : Nat) (hd : decode M.2.1 pc = .ok (.ifCond .gt off, 3)) (ht : (pc : Int) + off = (tgt : Int)) (kt : 0 < x → Go G d M tgt L st mem Φ) (kf : ¬ 0 < x → Go G d M (pc + 3) L st mem Φ) : Go G d M pc L (.int x :: st) mem Φ := fun p e s m args below meth c H locs ls F I P S hl => lv_if_gt F.1 F.2.1 hd ht (fun q => kt q p e s m args below meth c H locs ls F I P S hl) (fun q => kf q p e s m args below meth c H locs ls F I P S hl)
theorem go_icmp_gt {x y : Int32} {off : Int} (tgt : Nat) (hd : decode M.2.1 pc = .ok (.if_icmp .gt off, 3)) (ht : (pc : Int) + off = (tgt : Int)) (kt : y < x → Go G d M tgt L st mem Φ) (kf : ¬ y < x → Go G d M (pc + 3) L st mem Φ) : Go G d M pc L (.int y :: .int x :: st) mem Φ := fun p e s m args below meth c H locs ls F I P S hl => lv_icmp_gt F.1 F.2.1 hd ht (fun q => kt q p e s m args below meth c H locs ls F I P S hl) (fun q => kf q p e s m args below meth c H locs ls F I P S hl)
theorem go_if_le {x : Int32} {off : Int} (tgt : Nat) (hd : decode M.2.1 pc = .ok (.ifCond .le off, 3)) (ht : (pc : Int) + off = (tgt : Int)) (kt : x ≤ 0 → Go G d M tgt L st mem Φ) (kf : ¬ x ≤ 0 → Go G d M (pc + 3) L st mem Φ) : Go G d M pc L (.int x :: st) mem Φ := fun p e s m args below meth c H locs ls F I P S hl => lv_if_le F.1 F.2.1 hd ht (fun q => kt q p e s m args below meth c H locs ls F I P S hl) (fun q => kf q p e s m args below meth c H locs ls F I P S hl)
theorem go_icmp_le {x y : Int32} {off : Int} (tgt : Nat) (hd : decode M.2.1 pc = .ok (.if_icmp .le off, 3)) (ht : (pc : Int) + off = (tgt : Int)) (kt : x ≤ y → Go G d M tgt L st mem Φ) (kf : ¬ x ≤ y → Go G d M (pc + 3) L st mem Φ) : Go G d M pc L (.int y :: .int x :: st) mem Φ := fun p e s m args below meth c H locs ls F I P S hl => lv_icmp_le F.1 F.2.1 hd ht (fun q => kt q p e s m args below meth c H locs ls F I P S hl) (fun q => kf q p e s m args below meth c H locs ls F I P S hl)
theorem go_tabOut {df lo hi : Int} {offs : Array Int} {len : Nat} {x : Int32} (tgt : Nat) (hd : decode M.2.1 pc = .ok (.tableswitch df lo hi offs, len)) (h : x.toInt < lo ∨ hi < x.toInt) (ht : (pc : Int) + df = (tgt : Int)) (k : Go G d M tgt L st mem Φ) : Go G d M pc L (.int x :: st) mem Φ := fun p e s m args below meth c H locs ls F I P S hl => lv_tableOut F.1 F.2.1 hd h ht (k p e s m args below meth c H locs ls F I P S hl)
theorem go_tabIn {df lo hi : Int} {offs : Array Int} {len : Nat} {x : Int32} {off : Int} (tgt : Nat) (hd : decode M.2.1 pc = .ok (.tableswitch df lo hi offs, len)) (h1 : ¬ x.toInt < lo) (h2 : ¬ hi < x.toInt) (ho : offs[(x.toInt - lo).toNat]? = some off) (ht : (pc : Int) + off = (tgt : Int)) (k : Go G d M tgt L st mem Φ) : Go G d M pc L (.int x :: st) mem Φ := fun p e s m args below meth c H locs ls F I P S hl => lv_tableIn F.1 F.2.1 hd h1 h2 ho ht (k p e s m args below meth c H locs ls F I P S hl)
theorem go_lookup {df : Int} {ps : Array (Int × Int)} {len : Nat} {x : Int32} {off : Int} (tgt : Nat) (hd : decode M.2.1 pc = .ok (.lookupswitch df ps, len)) (hp : (ps.toList.zip (ps.toList.drop 1)).all (fun (a, next) => a.1 < next.1) = true) (ho : Op.lookupswitch.offset ps.toList df x.toInt = off) (ht : (pc : Int) + off = (tgt : Int)) (k : Go G d M tgt L st mem Φ) : Go G d M pc L (.int x :: st) mem Φ := fun p e s m args below meth c H locs ls F I P S hl => lv_lookup F.1 F.2.1 hd hp ho ht (k p e s m args below meth c H locs ls F I P S hl)
theorem go_ldcw {idx : Nat} {v : Int32} (hw : Cond.constant M.1.cls idx v ∈ Tb) (hd : decode M.2.1 pc = .ok (.ldc_w idx, 3)) (k : Go G d M (pc + 3) L (.int v :: st) mem Φ) : Go G d M pc L st mem Φ := fun p e s m args below meth c H locs ls F I P S hl => lv_ldcw F.1 F.2.1 F.2.2.2.2.1 (F.2.2.2.2.2.1 _ hw) hd (k p e s m args below meth c H locs ls F I P S hl)
theorem go_ldc {idx : Nat} {v : Int32} (hw : Cond.constant M.1.cls idx v ∈ Tb) (hd : decode M.2.1 pc = .ok (.ldc idx, 2)) (k : Go G d M (pc + 2) L (.int v :: st) mem Φ) : Go G d M pc L st mem Φ := fun p e s m args below meth c H locs ls F I P S hl => lv_ldc F.1 F.2.1 F.2.2.2.2.1 (F.2.2.2.2.2.1 _ hw) hd (k p e s m args below meth c H locs ls F I P S hl)
theorem go_ldc2 {idx : Nat} {v : Int64} (hw : Cond.constantLong M.1.cls idx v ∈ Tb) (hd : decode M.2.1 pc = .ok (.ldc2_w idx, 3)) (k : Go G d M (pc + 3) L (.long v :: st) mem Φ) : Go G d M pc L st mem Φ := fun p e s m args below meth c H locs ls F I P S hl => lv_ldc2 F.1 F.2.1 F.2.2.2.2.1 (F.2.2.2.2.2.1 _ hw) hd (k p e s m args below meth c H locs ls F I P S hl)
theorem go_iret {v : Int32} (hr : M.2.2.2 = some .int) (hd : decode M.2.1 pc = .ok (.ireturn, 1)) (h : Φ (some (.int v)) mem) : Go G d M pc L [.int v] mem Φ := fun p e s m args below meth c H locs ls F I P S hl => W.iret F.1 F.2.1 (F.2.2.1.trans hr) (fun t ht hW => ⟨⟨some (.int v), mem, rfl, h, by rw [ht]; exact P, TyR.i (fun q => nomatch (hr.symm.trans q))⟩, S.F ht⟩) S.2.2 hd (hlocks := F.2.2.2.2.2.2)
theorem go_zret {v : Int32} {ty : FieldType} (hr : M.2.2.2 = some ty) (hn : narrow ty (.int v) = .int v) (hd : decode M.2.1 pc = .ok (.ireturn, 1)) (h : Φ (some (.int v)) mem) (hnl : ty ≠ FieldType.long := by intro h; cases h) : Go G d M pc L [.int v] mem Φ := fun p e s m args below meth c H locs ls F I P S hl => W.zret F.1 F.2.1 (F.2.2.1.trans hr) hn (fun t ht hW => ⟨⟨some (.int v), mem, rfl, h, by rw [ht]; exact P, TyR.i (fun q => hnl (Option.some.inj (hr.symm.trans q)))⟩, S.F ht⟩) S.2.2 hd (hlocks := F.2.2.2.2.2.2)
theorem go_lret {v : Int64} (hr : M.2.2.2 = some .long) (hd : decode M.2.1 pc = .ok (.lreturn, 1)) (h : Φ (some (.long v)) mem) : Go G d M pc L [.long v] mem Φ := fun p e s m args below meth c H locs ls F I P S hl => W.lret F.1 F.2.1 (F.2.2.1.trans hr) (fun t ht hW => ⟨⟨some (.long v), mem, rfl, h, by rw [ht]; exact P, TyR.l (fun q => nomatch (hr.symm.trans q))⟩, S.F ht⟩) S.2.2 hd (hlocks := F.2.2.2.2.2.2)
theorem go_vret (hr : M.2.2.2 = none) (hd : decode M.2.1 pc = .ok (.return_, 1)) (h : Φ (none) mem) : Go G d M pc L [] mem Φ := fun p e s m args below meth c H locs ls F I P S hl => W.vret F.1 F.2.1 (F.2.2.1.trans hr) (fun t ht hW => ⟨⟨none, mem, rfl, h, by rw [ht]; exact P, TyR.o (fun q => nomatch (hr.symm.trans q)) (fun q => nomatch (hr.symm.trans q))⟩, S.F ht⟩) S.2.2 hd (hlocks := F.2.2.2.2.2.2)
theorem go_aret {q : Nat} {C : String} (hr : M.2.2.2 = some (.object C)) (hd : decode M.2.1 pc = .ok (.areturn, 1)) (h : Φ (some (.ref q)) mem) : Go G d M pc L [.ref q] mem Φ := fun p e s m args below meth c H locs ls F I P S hl => W.aret F.1 F.2.1 (F.2.2.1.trans hr) (Or.inl ⟨_, rfl⟩) (Or.inr ⟨_, rfl⟩) (fun t ht hW => ⟨⟨some (.ref q), mem, rfl, h, by rw [ht]; exact P, TyR.o (fun q => nomatch (hr.symm.trans q)) (fun q => nomatch (hr.symm.trans q))⟩, S.F ht⟩) S.2.2 hd (hlocks := F.2.2.2.2.2.2)
theorem go_iaload {q n : Nat} {i : Int32} (hs : Sh[q]? = some (.inl (.int, n, none))) (hin : vp_in i n) (hd : decode M.2.1 pc = .ok (.iaload, 1)) (k : Go G d M (pc + 1) L (.int (mem q i.toNatClampNeg) :: st) mem Φ) : Go G d M pc L (.int i :: .ref q :: st) mem Φ := fun p e s m args below meth c H locs ls F I P S hl => va_iald F.1 F.2.1 (I.K hs) P q 0 (wl_get hs) rfl hin hd (k p e s m args below meth c H locs ls F I P S hl)
theorem go_baload {q n : Nat} {i : Int32} (hs : Sh[q]? = some (.inl (.byte, n, none))) (hin : vp_in i n) (hd : decode M.2.1 pc = .ok (.baload, 1)) (k : Go G d M (pc + 1) L (.int (mem q i.toNatClampNeg) :: st) mem Φ) : Go G d M pc L (.int i :: .ref q :: st) mem Φ := fun p e s m args below meth c H locs ls F I P S hl => va_bald F.1 F.2.1 (I.K hs) P q 0 (wl_get hs) rfl hin hd (k p e s m args below meth c H locs ls F I P S hl)
theorem go_zaload {q n : Nat} {i : Int32} (hs : Sh[q]? = some (.inl (.boolean, n, none))) (hin : vp_in i n) (hd : decode M.2.1 pc = .ok (.baload, 1)) (k : Go G d M (pc + 1) L (.int (mem q i.toNatClampNeg) :: st) mem Φ) : Go G d M pc L (.int i :: .ref q :: st) mem Φ := fun p e s m args below meth c H locs ls F I P S hl => va_zald F.1 F.2.1 (I.K hs) P q 0 (wl_get hs) rfl hin hd (k p e s m args below meth c H locs ls F I P S hl)
theorem go_iastore {q n : Nat} {i x : Int32} (hs : Sh[q]? = some (.inl (.int, n, none))) (hin : vp_in i n) (hd : decode M.2.1 pc = .ok (.iastore, 1)) (k : Go G d M (pc + 1) L st (um mem q i.toNatClampNeg (x)) Φ) : Go G d M pc L (.int x :: .int i :: .ref q :: st) mem Φ := fun p e s m args below meth c H locs ls F I P S hl => by
  refine va_iast F.1 F.2.1 (I.K hs) P (I.D mem) S q 0 (wl_get hs) rfl hin hd (fun H1 locs1 P1 D1 S1 => ?_)
  rw [wl_set (f := upd (mem q) i.toNatClampNeg (x)) hs (by show Sum.inl _ = _; rw [um0_self])] at P1
  exact k p e s m args below meth c H1 locs1 ls F I P1 S1 hl
theorem go_bastore {q n : Nat} {i x : Int32} (hs : Sh[q]? = some (.inl (.byte, n, none))) (hin : vp_in i n) (hd : decode M.2.1 pc = .ok (.bastore, 1)) (k : Go G d M (pc + 1) L st (um mem q i.toNatClampNeg (vp_nar .byte x)) Φ) : Go G d M pc L (.int x :: .int i :: .ref q :: st) mem Φ := fun p e s m args below meth c H locs ls F I P S hl => by
  refine va_bast F.1 F.2.1 (I.K hs) P (I.D mem) S q 0 (wl_get hs) rfl hin hd (fun H1 locs1 P1 D1 S1 => ?_)
  rw [wl_set (f := upd (mem q) i.toNatClampNeg (vp_nar .byte x)) hs (by show Sum.inl _ = _; rw [um0_self])] at P1
  exact k p e s m args below meth c H1 locs1 ls F I P1 S1 hl
theorem go_zastore {q n : Nat} {i x : Int32} (hs : Sh[q]? = some (.inl (.boolean, n, none))) (hin : vp_in i n) (hd : decode M.2.1 pc = .ok (.bastore, 1)) (k : Go G d M (pc + 1) L st (um mem q i.toNatClampNeg (vp_nar .boolean x)) Φ) : Go G d M pc L (.int x :: .int i :: .ref q :: st) mem Φ := fun p e s m args below meth c H locs ls F I P S hl => by
  refine va_zast F.1 F.2.1 (I.K hs) P (I.D mem) S q 0 (wl_get hs) rfl hin hd (fun H1 locs1 P1 D1 S1 => ?_)
  rw [wl_set (f := upd (mem q) i.toNatClampNeg (vp_nar .boolean x)) hs (by show Sum.inl _ = _; rw [um0_self])] at P1
  exact k p e s m args below meth c H1 locs1 ls F I P1 S1 hl
theorem go_aaload {q n t : Nat} {C : String} {ts : List Nat} {i : Int32} (hs : Sh[q]? = some (.inl (.object C, n, some ts))) (hin : vp_in i n) (ht : ts[i.toNatClampNeg]? = some t) (hd : decode M.2.1 pc = .ok (.aaload, 1)) (k : Go G d M (pc + 1) L (.ref t :: st) mem Φ) : Go G d M pc L (.int i :: .ref q :: st) mem Φ := fun p e s m args below meth c H locs ls F I P S hl => by
  refine va_aldq F.1 F.2.1 (I.K hs) P q 0 (wl_get hs) rfl hin hd ?_
  rw [ht]
  exact k p e s m args below meth c H locs ls F I P S hl
theorem go_alen {q n : Nat} {ty : FieldType} (hs : Sh[q]? = some (.inl (ty, n, none))) {v : Int32} (hv : Int32.ofNat n = v) (hd : decode M.2.1 pc = .ok (.arraylength, 1)) (k : Go G d M (pc + 1) L (.int v :: st) mem Φ) : Go G d M pc L (.ref q :: st) mem Φ := fun p e s m args below meth c H locs ls F I P S hl => va_alen F.1 F.2.1 (I.K hs) P q 0 (wl_get hs) rfl hv hd (k p e s m args below meth c H locs ls F I P S hl)
theorem fs_get {al : Nat → Nat} {f : Nat → Int32} {fs : List (Option Nat)} {k : Nat} {o : Option Nat} (h : fs[k]? = some o) : (fs.mapIdx (fv al f))[k]? = some (fv al f k o) := by
  rw [List.getElem?_mapIdx, h]
  rfl
theorem fs_set {al : Nat → Nat} {f : Nat → Int32} {fs : List (Option Nat)} {k : Nat} {x : Int32} (h : fs[k]? = some none) : (fs.mapIdx (fv al f)).set k (.int x) = fs.mapIdx (fv al (upd f k x)) := by
  apply List.ext_getElem?
  intro j
  rw [List.getElem?_set, List.getElem?_mapIdx, List.getElem?_mapIdx]
  by_cases hj : k = j
  · subst hj
    have hk : k < (fs.mapIdx (fv al f)).length := by rw [List.length_mapIdx]; exact (List.getElem?_eq_some_iff.mp h).1
    rw [if_pos rfl, if_pos hk, h]
    show some (Value.int x) = some (Value.int (upd f k x k))
    rw [show upd f k x k = x from if_pos rfl]
  · rw [if_neg hj]
    cases hc : fs[j]? with
    | none => rfl
    | some o =>
      cases o with
      | none =>
        show some (Value.int (f j)) = some (Value.int (upd f k x j))
        rw [show upd f k x j = f j from if_neg (fun q => hj q.symm)]
      | some t => rfl
theorem go_getI {q ci idx kf N : Nat} {fs : List (Option Nat)} {C : String} {T : u_T} (hs : Sh[q]? = some (.inr (ci, fs))) (hf : fs[kf]? = some none) (hc : vwCl[ci]? = some (C, T, N)) (hin : ∀ w ∈ u_ws C T N, w ∈ Tb) (hk : kf < N) (hw : Cond.fieldLink M.1.cls idx (T kf).1 (T kf).2.1 (T kf).2.2.1 ∈ Tb) (hd : decode M.2.1 pc = .ok (.getfield idx, 3)) (k : Go G d M (pc + 3) L (.int (mem q kf) :: st) mem Φ) : Go G d M pc L (.ref q :: st) mem Φ := fun p e s m args below meth c H locs ls F I P S hl => va_get (C := C) (T := T) (N := N) F.1 F.2.1 F.2.2.2.2.2.1 hin F.2.2.2.2.1 I.2.1 P q (wl_get hs) hc kf hk (F.2.2.2.2.2.1 _ hw) (fun _ h9 => h9) (fs_get hf) hd (k p e s m args below meth c H locs ls F I P S hl)
theorem go_getR {q ci idx kf N t : Nat} {fs : List (Option Nat)} {C : String} {T : u_T} (hs : Sh[q]? = some (.inr (ci, fs))) (hf : fs[kf]? = some (some t)) (hc : vwCl[ci]? = some (C, T, N)) (hin : ∀ w ∈ u_ws C T N, w ∈ Tb) (hk : kf < N) (hw : Cond.fieldLink M.1.cls idx (T kf).1 (T kf).2.1 (T kf).2.2.1 ∈ Tb) (hd : decode M.2.1 pc = .ok (.getfield idx, 3)) (k : Go G d M (pc + 3) L (.ref t :: st) mem Φ) : Go G d M pc L (.ref q :: st) mem Φ := fun p e s m args below meth c H locs ls F I P S hl => va_get (C := C) (T := T) (N := N) F.1 F.2.1 F.2.2.2.2.2.1 hin F.2.2.2.2.1 I.2.1 P q (wl_get hs) hc kf hk (F.2.2.2.2.2.1 _ hw) (fun _ h9 => h9) (fs_get hf) hd (k p e s m args below meth c H locs ls F I P S hl)
theorem go_putI {q ci idx kf N : Nat} {x : Int32} {fs : List (Option Nat)} {C : String} {T : u_T} {tyT : Nat → FieldType} (hs : Sh[q]? = some (.inr (ci, fs))) (hf : fs[kf]? = some none) (hc : vwCl[ci]? = some (C, T, N)) (hin : ∀ w ∈ u_ws C T N, w ∈ Tb) (hty : ∀ k, k < N → parseFieldDescriptor (T k).2.2.1 = some (tyT k)) (hnm : ∀ a, a < N → ∀ b, b < N → a ≠ b → (T a).2.1 ≠ (T b).2.1) (hk : kf < N) (hfin : (T kf).2.2.2 = false) (hw : Cond.fieldLink M.1.cls idx (T kf).1 (T kf).2.1 (T kf).2.2.1 ∈ Tb) (hn : narrow (tyT kf) (.int x) = .int x) (hfit : fits (tyT kf) (.int x) = true) (hd : decode M.2.1 pc = .ok (.putfield idx, 3)) (k : Go G d M (pc + 3) L st (um mem q kf x) Φ) : Go G d M pc L (.int x :: .ref q :: st) mem Φ := fun p e s m args below meth c H locs ls F I P S hl => by
  refine va_put (C := C) (T := T) (N := N) F.1 F.2.1 F.2.2.2.2.2.1 hin tyT hty hnm F.2.2.2.2.1 I.2.1 P (I.D mem) S q (wl_get hs) hc kf hk (F.2.2.2.2.2.1 _ hw) (fun _ h9 => h9) hfin (hty kf hk) hn hfit (by rw [List.length_mapIdx]; exact (List.getElem?_eq_some_iff.mp hf).1) hd (fun H1 locs1 P1 D1 S1 => ?_)
  rw [wl_set (f := upd (mem q) kf x) hs (by show Sum.inr _ = Sum.inr (ci, (fs.mapIdx (fv G.2.2.1 (mem q))).set kf (.int x)); rw [um0_self, fs_set hf])] at P1
  exact k p e s m args below meth c H1 locs1 ls F I P1 S1 hl
theorem go_copyi {idx q0 q1 n0 n1 : Nat} {sp dp n : Int32} (hw : Cond.methodLink M.1.cls idx arraycopyName ∈ Tb) (hnat : Cond.native arraycopyName ∈ Tb) (hstat : Cond.static arraycopyName ∈ Tb) (hini : Cond.initialized "java/lang/System" ∈ Tb) (hs0 : Sh[q0]? = some (.inl (.int, n0, none))) (hs1 : Sh[q1]? = some (.inl (.int, n1, none))) (h1 : ¬ sp < 0) (h2 : ¬ dp < 0) (h3 : ¬ n < 0) (h4 : sp.toNatClampNeg + n.toNatClampNeg ≤ n0) (h5 : dp.toNatClampNeg + n.toNatClampNeg ≤ n1) (hst : (st.map fun v => v.category).sum = 0) (hd : decode M.2.1 pc = .ok (.invokestatic idx, 3)) (k : Go G (d + 1) M (pc + 3) L st (um0 mem q1 (va_cpy (mem q0) (mem q1) sp.toNatClampNeg dp.toNatClampNeg n.toNatClampNeg)) Φ) : Go G (d + 1) M pc L (.int n :: .int dp :: .ref q1 :: .int sp :: .ref q0 :: st) mem Φ := fun p e s m args below meth c H locs ls F I P S hl => by
  refine va_copyi F.1 F.2.1 (F.2.2.2.1.trans hl.1.symm) F.2.2.2.2.1 (F.2.2.2.2.2.1 _ hw) (F.2.2.2.2.2.1 _ hnat) (F.2.2.2.2.2.1 _ hstat) (F.2.2.2.2.2.1 _ hini) (I.K2 hs0 hs1) P (I.D mem) S q0 q1 0 1 (wl_get hs0) (wl_get hs1) rfl rfl rfl h1 h2 h3 h4 h5 (fun i _ => rfl) (Nat.succ_le_succ (Nat.zero_le d)) ?_ hd (fun H1 locs1 P1 D1 S1 => ?_)
  · rw [List.map_map, show ((fun v : Value => v.category) ∘ lf G.2.2.1) = (fun v => v.category) from funext (fun v => lf_cat _ v), hst]
    refine Nat.le_trans (m := 40) (Nat.le_of_ble_eq_true rfl) ?_
    show 40 ≤ 40 * (d + 1)
    omega
  · rw [wl_set (f := va_cpy (mem q0) (mem q1) sp.toNatClampNeg dp.toNatClampNeg n.toNatClampNeg) hs1 (by show Sum.inl _ = _; rw [um0_self])] at P1
    exact k p e s m args below meth c H1 locs1 ls F I P1 S1 hl
/-- what a method must be to be called -/
def Mok (M : MI) (n : Nat) : Prop := Cond.code M.1 M.2.1 M.2.2.1 M.2.2.2 ∈ Tb ∧ Cond.initialized M.1.cls ∈ Tb ∧ (M.1.cls ≠ "java/lang/invoke/MethodHandle" ∧ M.1.cls ≠ "java/lang/invoke/VarHandle" ∧ (parseMethodDescriptor M.1.desc).map (fun d => d.parameters.length) = some n) ∧ M.2.2.1 ≤ 21
theorem catm (al : Nat → Nat) (st : List Value) : ((st.map (lf al)).map fun v => v.category) = st.map fun v => v.category := by
  rw [List.map_map]
  exact congrArg (fun f => st.map f) (funext (fun v => lf_cat al v))
theorem go_back {G : GX} {d : Nat} {M M2 : MI} {L : List (Nat × Value)} {st : List Value} {Φ Ψ : Option Value → Mem → Prop} {p : Program} {e : Env} {s : State} {m : MethodId} {args a : Array Value} {below : List Frame} {meth : Method} {c : Code} {H : Heap} {locs : List Loc} {ls : Array Slot} {pc : Nat} {st0 : List Value} (F : Fx M p s m args meth c) (I : IS G s) (S : va_S (A0 G) s.heap H locs) (hl : lv_has ls M.2.2.1 (L.map (lp G.2.2.1)))
    (hr : va_Run p G.1 e (rmd d) s m args below meth c H locs 0 0 0 0 (F0 m pc ls st0) (st.map (lf G.2.2.1)) (QG G M2 Ψ a) (A0 G)) (k : ∀ v m2, Ψ v m2 → Go G d M (pc + 3) L (v.toList ++ st) m2 Φ) : W p G.1 e (rmd d) s m args below meth c H locs 0 0 (MQ below (QG G M Φ) args s 0 0 (A0 G)) (F0 m pc ls st0) := by
  intro T hT X
  obtain ⟨v, st₀, t, T2, L2, h0, X2, hL, e1, e2, ⟨⟨w, m2, hv, hp, hP, _⟩, hz, hq⟩, hgo⟩ := hr T hT X
  have hv2 : v = w.map (lf G.2.2.1) := by injection hv
  have S2 : va_S (A0 G) s.heap t.heap (locs ++ L2) := ⟨Nat.le_trans S.1 (by rw [← h0]; exact hz), fun q h1 h2 => by rw [hq q (by rw [h0]; exact Nat.lt_of_lt_of_le h1 S.1) h2, h0]; exact S.2.1 q h1 h2, fun q hq2 => (List.mem_append.mp hq2).elim (S.2.2 q) (hL q)⟩
  have hst : v.toList ++ st.map (lf G.2.2.1) = (w.toList ++ st).map (lf G.2.2.1) := by
    rw [hv2]
    cases w <;> rfl
  obtain ⟨t2, a1, b1⟩ := k w m2 hp p e s m args below meth c t.heap (locs ++ L2) ls F I hP S2 hl T2 e1 X2
  refine ⟨t2, hgo t2 ?_, b1⟩
  rw [hst]
  exact a1
theorem pc_ok {G : GX} {mem : Mem} {s : State} {H : Heap} {locs : List Loc} {As : List Value} (I : IS G s) (P : va_P G.2.1 vwCl (wl G mem) H) (S : va_S (A0 G) s.heap H locs) : PreS s H (va_Pc (As.map (lf G.2.2.1)) (fun U => IS G U ∧ va_P G.2.1 vwCl (wl G mem) U.heap)) (As.map (lf G.2.2.1)) :=
  ⟨fun _ _ _ _ q => ⟨q.1, q.2.1.call, q.2.2⟩, fun U hU hW => ⟨rfl, I.go hW (fun a h1 h2 => by rw [hU]; exact S.2.1 a h1 h2), by rw [hU]; exact P⟩⟩
theorem room_ok {d n : Nat} (h : n ≤ 21) : (rmd d).frames + 1 ≤ (rmd (d + 1)).frames ∧ 8 + (n + 11) + (rmd d).locals ≤ (rmd (d + 1)).locals := by
  refine ⟨Nat.le_refl _, ?_⟩
  show 8 + (n + 11) + 40 * d ≤ 40 * (d + 1)
  omega
/-- invokestatic -/
theorem go_callS {M2 : MI} {n idx : Nat} {As stk : List Value} {Ψ : Option Value → Mem → Prop} (hM : Cn G d M2 As mem Ψ) (ok : Mok M2 n) (hsta : Cond.static M2.1 ∈ Tb) (hw : Cond.methodLink M.1.cls idx M2.1 ∈ Tb) (hn : As.length = n) (hstk : As.reverse ++ st = stk) (hW : (st.map fun v => v.category).sum ≤ 8) (hd : decode M.2.1 pc = .ok (.invokestatic idx, 3)) (k : ∀ v m2, Ψ v m2 → Go G (d + 1) M (pc + 3) L (v.toList ++ st) m2 Φ) : Go G (d + 1) M pc L stk mem Φ := fun p e s m args below meth c H locs ls F I P S hl => by
  have hT := F.2.2.2.2.2.1
  refine go_back F I S hl (va_runS (g := F0 m pc ls (stk.map (lf G.2.2.1))) ⟨F.1, F.2.1, F.2.2.2.1, F.2.2.2.2.1, hT⟩ hM ⟨callB_of n hT (goodG ok.1) rfl rfl rfl (hT _ ok.2.1) (hT _ hw) ok.2.2.1 (room_ok ok.2.2.2), hT _ hsta⟩ (pc_ok I P S) rfl (by rw [List.length_map]; exact hn) hl.1 ?_ (lv_room (by rw [catm]; exact hW)) hd ⟨Nat.le_refl _, Nat.le_refl _⟩) k
  show stk.map _ = _
  rw [← hstk, List.map_append, List.map_reverse]
/-- invokestatic of a nest mate's private method -/
theorem go_callSN {M2 : MI} {n idx : Nat} {As stk : List Value} {host : String} {Ψ : Option Value → Mem → Prop} (hM : Cn G d M2 As mem Ψ) (ok : Mok M2 n) (hsta : Cond.static M2.1 ∈ Tb) (hw : ∀ U : State, NW U → va_Nw (.methodLinkNest M.1.cls idx M2.1 host) U) (hn : As.length = n) (hstk : As.reverse ++ st = stk) (hW : (st.map fun v => v.category).sum ≤ 8) (hd : decode M.2.1 pc = .ok (.invokestatic idx, 3)) (k : ∀ v m2, Ψ v m2 → Go G (d + 1) M (pc + 3) L (v.toList ++ st) m2 Φ) : Go G (d + 1) M pc L stk mem Φ := fun p e s m args below meth c H locs ls F I P S hl => by
  have hT := F.2.2.2.2.2.1
  refine go_back F I S hl (va_runSN (g := F0 m pc ls (stk.map (lf G.2.2.1))) ⟨F.1, F.2.1, F.2.2.2.1, F.2.2.2.2.1, hT⟩ hM ⟨va_cnB n hT (goodG ok.1) rfl rfl rfl (hw s I.2.2.2.1) (hT _ ok.2.1) ok.2.2.1 (room_ok ok.2.2.2), hT _ hsta, trivial⟩ (pc_ok I P S) rfl (by rw [List.length_map]; exact hn) hl.1 ?_ (lv_room (by rw [catm]; exact hW)) hd ⟨Nat.le_refl _, Nat.le_refl _⟩) k
  show stk.map _ = _
  rw [← hstk, List.map_append, List.map_reverse]
/-- invokevirtual on an object of the world -/
theorem go_callV {M2 : MI} {n idx q ci N : Nat} {fs : List (Option Nat)} {T : u_T} {As stk : List Value} {Ψ : Option Value → Mem → Prop} (hM : Cn G d M2 (.ref q :: As) mem Ψ) (hs : Sh[q]? = some (.inr (ci, fs))) (hc : vwCl[ci]? = some (M2.1.cls, T, N)) (ok : Mok M2 n) (hin : Cond.instanceMethod M2.1 ∈ Tb) (hsel : Cond.selects M2.1.cls M2.1 M2.1 ∈ Tb) (hw : Cond.methodLink M.1.cls idx M2.1 ∈ Tb) (hn : As.length = n) (hstk : As.reverse ++ .ref q :: st = stk) (hW : (st.map fun v => v.category).sum ≤ 8) (hd : decode M.2.1 pc = .ok (.invokevirtual idx, 3)) (k : ∀ v m2, Ψ v m2 → Go G (d + 1) M (pc + 3) L (v.toList ++ st) m2 Φ) : Go G (d + 1) M pc L stk mem Φ := fun p e s m args below meth c H locs ls F I P S hl => by
  have hT := F.2.2.2.2.2.1
  have hp := pc_ok (As := .ref q :: As) I P S
  refine go_back F I S hl (va_runV (g := F0 m pc ls (stk.map (lf G.2.2.1))) (C := M2.1.cls) (b := G.2.2.1 q) (As := As.map (lf G.2.2.1)) ⟨F.1, F.2.1, F.2.2.2.1, F.2.2.2.2.1, hT⟩ hM ⟨callB_of n hT (goodG ok.1) rfl rfl rfl (hT _ ok.2.1) (hT _ hw) ok.2.2.1 (room_ok ok.2.2.2), hT _ hin, hT _ hsel⟩ ⟨hp.1, va_recv (q := (M2.1.cls, T, N)) I.2.1 P hc (wl_get hs), hp.2⟩ rfl (by rw [List.length_map]; exact hn) hl.1 ?_ (lv_room (by rw [catm]; exact hW)) hd ⟨Nat.le_refl _, Nat.le_refl _⟩) k
  show stk.map _ = _
  rw [← hstk, List.map_append, List.map_reverse]
  rfl
theorem Go.pick (ks : List Nat) (h : lv_pick L ks = L2) (k : Go G d M pc L2 st mem Φ) : Go G d M pc L st mem Φ := Go.loc (fun q hq => by
  rw [← h] at hq
  obtain ⟨j, -, hj⟩ := List.mem_filterMap.mp hq
  exact List.mem_of_getElem? hj) k
theorem go_tabEq {df lo hi : Int} {offs : Array Int} {len : Nat} {x v : Int32} {off : Int} (hx : x = v) (tgt : Nat) (hd : decode M.2.1 pc = .ok (.tableswitch df lo hi offs, len)) (h1 : ¬ v.toInt < lo) (h2 : ¬ hi < v.toInt) (ho : offs[(v.toInt - lo).toNat]? = some off) (ht : (pc : Int) + off = (tgt : Int)) (k : Go G d M tgt L st mem Φ) : Go G d M pc L (.int x :: st) mem Φ := by
  subst hx
  exact go_tabIn tgt hd h1 h2 ho ht k
theorem go_lookEq {df : Int} {ps : Array (Int × Int)} {len : Nat} {x v : Int32} {off : Int} (hx : x = v) (tgt : Nat) (hd : decode M.2.1 pc = .ok (.lookupswitch df ps, len)) (hp : (ps.toList.zip (ps.toList.drop 1)).all (fun (a, next) => a.1 < next.1) = true) (ho : Op.lookupswitch.offset ps.toList df v.toInt = off) (ht : (pc : Int) + off = (tgt : Int)) (k : Go G d M tgt L st mem Φ) : Go G d M pc L (.int x :: st) mem Φ := by
  subst hx
  exact go_lookup tgt hd hp ho ht k
theorem neI {x v : Int32} {z : Int} (h : ¬ x = v) (hv : v.toInt = z) : ¬ x.toInt = z := fun e => h (Int32.toInt_inj.mp (e.trans hv.symm))
end GR
