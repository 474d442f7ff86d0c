
/-! ===== constructors: the world grows; the object that is being made stands first ===== -/
theorem P_mv {D : va_G} {cl : List vw_C} {ws ws' : va_W} {H : Heap} (h : va_P D cl ws H) (hm : ∀ q ∈ ws', q ∈ ws) : va_P D cl ws' H := fun k q hk => by
  obtain ⟨i, hi⟩ := List.getElem?_of_mem (hm q (List.mem_of_getElem? hk))
  exact h i q hi
theorem K_mv {D : va_G} {cl : List vw_C} {tys tys' : List (ClassId × FieldType)} {U : State} (h : va_K D cl tys U) (hm : ∀ q ∈ tys', q ∈ tys) : va_K D cl tys' U := ⟨h.1, fun k q hk => by
  obtain ⟨i, hi⟩ := List.getElem?_of_mem (hm q (List.mem_of_getElem? hk))
  exact h.2 i q hi⟩
theorem D_nd {A : Nat → Prop} {ws : va_W} (h : va_D A ws) : (ws.map Prod.fst).Nodup := by
  rw [List.nodup_iff_pairwise_ne, List.pairwise_iff_getElem]
  intro i j hi hj hij e
  rw [List.length_map] at hi hj
  rw [List.getElem_map, List.getElem_map] at e
  have := h.1 i j _ _ (List.getElem?_eq_getElem hi) (List.getElem?_eq_getElem hj) e
  omega
theorem D_perm {A : Nat → Prop} {ws ws' : va_W} (h : va_D A ws) (hp : ws'.Perm ws) : va_D A ws' := by
  refine ⟨fun i j p q hi hj e => ?_, fun k q hk => ?_⟩
  · have nd : (ws'.map Prod.fst).Nodup := (hp.map Prod.fst).nodup_iff.mpr (D_nd h)
    refine (List.getElem?_inj (l := ws'.map Prod.fst) (i := i) (j := j) (by rw [List.length_map]; exact (List.getElem?_eq_some_iff.mp hi).1) nd).mp ?_
    rw [List.getElem?_map, List.getElem?_map, hi, hj]
    show some p.1 = some q.1
    rw [e]
  · obtain ⟨i, hi⟩ := List.getElem?_of_mem ((hp.mem_iff).mp (List.mem_of_getElem? hk))
    exact h.2 i q hi
def KX (U : State) : Prop := (va_Nw (.methodLinkNest RX5 11 yX0_init RX5) U ∧ va_Nw (.methodLinkNest RX5 29 yX2_init RX5) U ∧ va_Nw (.methodLinkNest RX5 36 yX3_init RX5) U ∧ va_Nw (.methodLinkNest RX5 49 yX1_init RX5) U ∧ va_Nw (.methodLinkNest RX5 58 yX4_init RX5) U) ∧ va_AO RX0 U ∧ va_AO RX4 U
theorem KX.go {s U : State} (h : KX s) (hW : s.WarmedH U.vm) : KX U := by
  obtain ⟨⟨a, b, c, d, e⟩, f, g⟩ := h
  exact ⟨⟨va_Nw.warmM hW a, va_Nw.warmM hW b, va_Nw.warmM hW c, va_Nw.warmM hW d, va_Nw.warmM hW e⟩, f.moved hW.alike, g.moved hW.alike⟩
theorem KX.call {U : State} {g : JFrame} {mk : MethodId} {a : Array Value} (h : KX U) : KX (U.calling g mk a) := by
  obtain ⟨⟨q1, q2, q3, q4, q5⟩, q6, q7⟩ := h
  have hv : (U.calling g mk a).vm = U.vm := rfl
  have hal : U.vm.Alike (U.calling g mk a).vm := Vm.Alike.refl U.vm
  exact ⟨⟨va_Nw.same rfl hv.symm q1, va_Nw.same rfl hv.symm q2, va_Nw.same rfl hv.symm q3, va_Nw.same rfl hv.symm q4, va_Nw.same rfl hv.symm q5⟩, q6.moved hal, q7.moved hal⟩
abbrev TyL : Type := List (ClassId × FieldType)
def QCs (D : va_G) (A : Nat → Prop) (Ψ : TyL → va_W → Prop) : Array Value → State → Outcome → State → Prop := va_Qv (fun _ : Unit => True) (fun _ t => ∃ (tys : TyL) (ws : va_W), Ψ tys ws ∧ va_K D vwCl tys t ∧ va_P D vwCl ws t.heap ∧ va_D A ws) A
/-- a constructor's contract -/
def Ic (l : Launch) (D : va_G) (A : Nat → Prop) (M : MI) (rm : Room) (mc ms h0 : Nat) (tys : TyL) (ws : va_W) (Ψ : TyL → va_W → Prop) : Prop := Met l M.1 (wsG M) rm (va_Pc [.ref h0] (fun U => (∀ q, U.heap.size ≤ q → A q) ∧ KX U ∧ va_K D vwCl tys U ∧ va_P D vwCl ws U.heap ∧ va_D A ws)) (QCs D A Ψ) mc ms A
def Gc (l : Launch) (D : va_G) (A : Nat → Prop) (M : MI) (rm : Room) (mc ms : Nat) (Ψ : TyL → va_W → Prop) (pc : Nat) (L : List (Nat × Value)) (st : List Value) (tys : TyL) (ws : va_W) (k n : Nat) : Prop :=
  ∀ (p : Program) (e : Env) (s : State) (m : MethodId) (args : Array Value) (below : List Frame) (meth : Method) (c : Code) (H : Heap) (locs : List Loc) (ls : Array Slot), Fx M p s m args meth c → meth.name = "<init>" → (∀ q, s.heap.size ≤ q → A q) → KX s → va_K D vwCl tys s → va_P D vwCl ws H → va_D A ws → va_S A s.heap H locs → lv_has ls M.2.2.1 L →
    W p l e rm s m args below meth c H locs k n (MQ below (QCs D A Ψ) args s mc ms A) (F0 m pc ls st)
theorem ic_of {l : Launch} {D : va_G} {A : Nat → Prop} {M : MI} {rm : Room} {mc ms h0 : Nat} {tys : TyL} {ws : va_W} {Ψ : TyL → va_W → Prop} (hpl : plainName M.1.cls = true) (hnm : M.1.name = "<init>") (hlen : (lg_sl [.ref h0]).length ≤ M.2.2.1) (go : Gc l D A M rm mc ms Ψ 0 [(0, .ref h0)] [] tys ws 0 0) : Ic l D A M rm mc ms h0 tys ws Ψ := by
  refine Met.ofW (cc := M.2.1) (maxL := M.2.2.1) (ret := M.2.2.2) hpl rfl ?_
  intro p e s m args below meth c s₁ B hml hv
  obtain ⟨rfl, hA, hX, hK, hP, hD⟩ := hv
  have hts := atoms_spec (ws := wsG M) B.pre
  have hl := lv_entry [.ref h0] (n := M.2.2.1) hlen
  rw [lg_entry_eq]
  exact go p e s m _ below meth c s.heap [] _ ⟨B.exec, B.bytes, B.returns, hml, findClass_of_methodNamed B.named, fun w hw => hts w (List.mem_cons_of_mem _ hw), B.notSynchronized⟩ ((name_of_methodNamed B.named B.method).1.trans hnm) hA hX hK hP hD va_S.rf hl
section GCR
variable {l : Launch} {D : va_G} {A : Nat → Prop} {M : MI} {rm : Room} {mc ms : Nat} {Ψ : TyL → va_W → Prop} {pc : Nat} {L L2 : List (Nat × Value)} {st : List Value} {tys : TyL} {ws rest : va_W} {k n : Nat} {c0 : Nat × va_E}
theorem gc_perm (ws' : va_W) (hp : ws'.Perm ws) (kk : Gc l D A M rm mc ms Ψ pc L st tys ws' k n) : Gc l D A M rm mc ms Ψ pc L st tys ws k n := fun p e s m args below meth c H locs ls F N hA X K P hD S hl => kk p e s m args below meth c H locs ls F N hA X K (P_mv P (fun q hq => hp.mem_iff.mp hq)) (D_perm hD hp) S hl
theorem gc_aload (i : Fin 4) {x : Nat} (hd : decode M.2.1 pc = .ok (.aload_n i, 1)) (j : Nat) (hj : L[j]? = some ((i : Nat), .ref x)) (kk : Gc l D A M rm mc ms Ψ (pc + 1) L (.ref x :: st) tys ws k n) : Gc l D A M rm mc ms Ψ pc L st tys ws k n := fun p e s m args below meth c H locs ls F N hA X K P hD S hl => lv_aload_n F.1 F.2.1 hd rfl (lv_at hl j hj) (kk p e s m args below meth c H locs ls F N hA X K P hD S hl)
theorem gc_iload (i : Fin 4) {x : Int32} (hd : decode M.2.1 pc = .ok (.iload_n i, 1)) (j : Nat) (hj : L[j]? = some ((i : Nat), .int x)) (kk : Gc l D A M rm mc ms Ψ (pc + 1) L (.int x :: st) tys ws k n) : Gc l D A M rm mc ms Ψ pc L st tys ws k n := fun p e s m args below meth c H locs ls F N hA X K P hD S hl => lv_iload_n F.1 F.2.1 hd rfl (lv_at hl j hj) (kk p e s m args below meth c H locs ls F N hA X K P hD S hl)
theorem gc_istore (i : Fin 4) {x : Int32} (hd : decode M.2.1 pc = .ok (.istore_n i, 1)) (hn : (i : Nat) < M.2.2.1) (hL : ((i : Nat), (.int x : Value)) :: L.filter (fun q => !(q.1 == (i : Nat)) && !(q.1 + 1 == (i : Nat) && q.2.category == 2)) = L2) (kk : Gc l D A M rm mc ms Ψ (pc + 1) L2 st tys ws k n) : Gc l D A M rm mc ms Ψ pc L (.int x :: st) tys ws k n := fun p e s m args below meth c H locs ls F N hA X K P hD S hl => lv_istore_n F.1 F.2.1 hd rfl hl hn hL (fun ls hl => kk p e s m args below meth c H locs ls F N hA X K P hD S hl)
theorem gc_iinc {i : Nat} {z : Int} {x v : Int32} (hd : decode M.2.1 pc = .ok (.iinc i z, 3)) (j : Nat) (hj : L[j]? = some (i, .int x)) (hv : x + Int32.ofInt z = v) (hn : i < M.2.2.1) (hL : (i, (.int v : Value)) :: L.filter (fun q => !(q.1 == i) && !(q.1 + 1 == i && q.2.category == 2)) = L2) (kk : Gc l D A M rm mc ms Ψ (pc + 3) L2 st tys ws k n) : Gc l D A M rm mc ms Ψ pc L st tys ws k n := fun p e s m args below meth c H locs ls F N hA X K P hD S hl => lv_iinc F.1 F.2.1 hd hl (k := j) hj hv hn hL (fun ls hl => kk p e s m args below meth c H locs ls F N hA X K P hD S hl)
theorem gc_goto {off : Int} (tgt : Nat) (hd : decode M.2.1 pc = .ok (.goto off, 3)) (ht : (pc : Int) + off = (tgt : Int)) (kk : Gc l D A M rm mc ms Ψ tgt L st tys ws k n) : Gc l D A M rm mc ms Ψ pc L st tys ws k n := fun p e s m args below meth c H locs ls F N hA X K P hD S hl => lv_goto F.1 F.2.1 hd ht (kk p e s m args below meth c H locs ls F N hA X K P hD S hl)
theorem gc_geT {x y : Int32} {off : Int} (tgt : Nat) (hd : decode M.2.1 pc = .ok (.if_icmp .ge off, 3)) (ht : (pc : Int) + off = (tgt : Int)) (h : y ≤ x) (kk : Gc l D A M rm mc ms Ψ tgt L st tys ws k n) : Gc l D A M rm mc ms Ψ pc L (.int y :: .int x :: st) tys ws k n := fun p e s m args below meth c H locs ls F N hA X K P hD S hl => lv_icmp_ge F.1 F.2.1 hd ht (fun _ => kk p e s m args below meth c H locs ls F N hA X K P hD S hl) (fun q => absurd h q)
theorem gc_geF {x y : Int32} {off : Int} (tgt : Nat) (hd : decode M.2.1 pc = .ok (.if_icmp .ge off, 3)) (ht : (pc : Int) + off = (tgt : Int)) (h : ¬ y ≤ x) (kk : Gc l D A M rm mc ms Ψ (pc + 3) L st tys ws k n) : Gc l D A M rm mc ms Ψ pc L (.int y :: .int x :: st) tys ws k n := fun p e s m args below meth c H locs ls F N hA X K P hD S hl => lv_icmp_ge F.1 F.2.1 hd ht (fun q => absurd q h) (fun _ => kk p e s m args below meth c H locs ls F N hA X K P hD S hl)
theorem gc_iconst {z : Int} {v : Int32} (hd : decode M.2.1 pc = .ok (.iconst z, 1)) (hv : Int32.ofInt z = v) (kk : Gc l D A M rm mc ms Ψ (pc + 1) L (.int v :: st) tys ws k n) : Gc l D A M rm mc ms Ψ pc L st tys ws k n := fun p e s m args below meth c H locs ls F N hA X K P hD S hl => lv_iconst F.1 F.2.1 hd hv (kk p e s m args below meth c H locs ls F N hA X K P hD S hl)
theorem gc_bipush {z : Int} {v : Int32} (hd : decode M.2.1 pc = .ok (.bipush z, 2)) (hv : (Int8.ofInt z).toInt32 = v) (kk : Gc l D A M rm mc ms Ψ (pc + 2) L (.int v :: st) tys ws k n) : Gc l D A M rm mc ms Ψ pc L st tys ws k n := fun p e s m args below meth c H locs ls F N hA X K P hD S hl => lv_bipush F.1 F.2.1 hd hv (kk p e s m args below meth c H locs ls F N hA X K P hD S hl)
theorem gc_sipush {z : Int} {v : Int32} (hd : decode M.2.1 pc = .ok (.sipush z, 3)) (hv : (Int16.ofInt z).toInt32 = v) (kk : Gc l D A M rm mc ms Ψ (pc + 3) L (.int v :: st) tys ws k n) : Gc l D A M rm mc ms Ψ pc L st tys ws k n := fun p e s m args below meth c H locs ls F N hA X K P hD S hl => lv_sipush F.1 F.2.1 hd hv (kk p e s m args below meth c H locs ls F N hA X K P hD S hl)
theorem gc_dup {v : Value} (hd : decode M.2.1 pc = .ok (.dup, 1)) (hc : v.category = 1) (kk : Gc l D A M rm mc ms Ψ (pc + 1) L (v :: v :: st) tys ws k n) : Gc l D A M rm mc ms Ψ pc L (v :: st) tys ws k n := fun p e s m args below meth c H locs ls F N hA X K P hD S hl => lv_dup F.1 F.2.1 hd hc (kk p e s m args below meth c H locs ls F N hA X K P hD S hl)
theorem gc_obj {idx x : Nat} (hw : Cond.methodLink M.1.cls idx objectInit ∈ Tb) (hi : Cond.instanceMethod objectInit ∈ Tb) (hc : Cond.code objectInit ⟨#[0xb1]⟩ 1 none ∈ Tb) (hfr : 1 ≤ rm.frames) (hlo : 12 ≤ rm.locals) (hd : decode M.2.1 pc = .ok (.invokespecial idx, 3)) (kk : Gc l D A M rm mc ms Ψ (pc + 3) L [] tys ws k n) : Gc l D A M rm mc ms Ψ pc L [.ref x] tys ws k n := fun p e s m args below meth c H locs ls F N hA X K P hD S hl => by
  refine W.objInit F.1 F.2.1 F.2.2.2.2.1 (F.2.2.2.2.2.1 _ hw) (F.2.2.2.2.2.1 _ hi) (F.2.2.2.2.2.1 _ hc) rfl (hl.1.trans F.2.2.2.1.symm) rfl hd hfr (show 12 ≤ rm.locals from hlo) ?_
  refine W.eq (g2 := F0 m (pc + 3) ls []) rfl ?_
  exact kk p e s m args below meth c H locs ls F N hA X K P hD S hl
theorem gc_newa {at_ : ArrayType} {ty : FieldType} {z : Int32} (N0 : Nat) (harr : Cond.arrayClass (newarray.typeOf at_) ∈ Tb) (hty : newarray.typeOf at_ = ty) (ha : ∀ cA : ClassId, vp_cell cA (N0, .inl (fun _ => 0)) = arrV cA N0 (fun _ => defaultValue ty)) (hz : ¬ z < 0) (hN : z.toNatClampNeg = N0) (hby : N0 * componentBytes ty ≤ 536870912) (hk : k + 1 ≤ rm.cells) (hn : n + N0 ≤ rm.slots) (hd : decode M.2.1 pc = .ok (.newarray at_, 2)) (kk : ∀ (q : Nat) (cA : ClassId), Gc l D A M rm mc ms Ψ (pc + 2) L (.ref q :: st) ((cA, ty) :: tys) (c0 :: (q, .inl (cA, N0, .inl (fun _ => 0))) :: rest) (k + 1) (n + N0)) : Gc l D A M rm mc ms Ψ pc L (.int z :: st) tys (c0 :: rest) k n := fun p e s m args below meth c H locs ls F N hA X K P hD S hl => by
  refine va_newa F.1 F.2.1 (F.2.2.2.2.2.1 _ harr) hty K P hD S hA (a0 := (N0, .inl (fun _ => 0))) ha hz hN hby hk hn hd (fun q cA H1 K1 P1 D1 S1 => ?_)
  have hp : (c0 :: (q, Sum.inl (cA, N0, .inl (fun _ => 0))) :: rest : va_W).Perm ((c0 :: rest) ++ [(q, Sum.inl (cA, N0, .inl (fun _ => 0)))]) := (List.perm_append_singleton _ rest).symm.cons c0
  exact kk q cA p e s m args below meth c H1 locs ls F N hA X (K_mv K1 (fun x hx => (List.perm_append_singleton (cA, ty) tys).mem_iff.mpr hx)) (P_mv P1 (fun x hx => hp.mem_iff.mp hx)) (D_perm D1 hp) S1 hl
theorem gc_anew {C : String} {idx : Nat} {z : Int32} (N0 : Nat) (hcl : Cond.classLink M.1.cls idx C ∈ Tb) (hao : ∀ U : State, KX U → va_AO C U) (hz : ¬ z < 0) (hN : z.toNatClampNeg = N0) (hby : N0 * 4 ≤ 536870912) (hk : k + 1 ≤ rm.cells) (hn : n + N0 ≤ rm.slots) (hd : decode M.2.1 pc = .ok (.anewarray idx, 3)) (kk : ∀ (q : Nat) (cA : ClassId), Gc l D A M rm mc ms Ψ (pc + 3) L (.ref q :: st) ((cA, .object C) :: tys) (c0 :: (q, .inl (cA, N0, .inr (.inr (.inr (.inr (fun _ => none)))))) :: rest) (k + 1) (n + N0)) : Gc l D A M rm mc ms Ψ pc L (.int z :: st) tys (c0 :: rest) k n := fun p e s m args below meth c H locs ls F N hA X K P hD S hl => by
  refine va_newq F.1 F.2.1 F.2.2.2.2.1 (F.2.2.2.2.2.1 _ hcl) (hao s X) K P hD S hA hz hN hby hk hn hd (fun q cA H1 K1 P1 D1 S1 => ?_)
  have hp : (c0 :: (q, Sum.inl (cA, N0, .inr (.inr (.inr (.inr (fun _ => none)))))) :: rest : va_W).Perm ((c0 :: rest) ++ [(q, Sum.inl (cA, N0, .inr (.inr (.inr (.inr (fun _ => none))))))]) := (List.perm_append_singleton _ rest).symm.cons c0
  exact kk q cA p e s m args below meth c H1 locs ls F N hA X (K_mv K1 (fun x hx => (List.perm_append_singleton (cA, FieldType.object C) tys).mem_iff.mpr hx)) (P_mv P1 (fun x hx => hp.mem_iff.mp hx)) (D_perm D1 hp) S1 hl
theorem gc_new {C : String} {T : u_T} {N0 ci idx : Nat} {tyT : Nat → FieldType} (fs : List Value) (hin : ∀ w ∈ u_ws C T N0, w ∈ Tb) (hty : ∀ k, k < N0 → parseFieldDescriptor (T k).2.2.1 = some (tyT k)) (hcl : Cond.classLink M.1.cls idx C ∈ Tb) (hinst : Cond.instantiable C N0 ∈ Tb) (hini : Cond.initialized C ∈ Tb) (hc : vwCl[ci]? = some (C, T, N0)) (hfs : ∀ j, j < N0 → defaultValue (tyT j) = vp_V fs j) (hk : k + 1 ≤ rm.cells) (hn : n + N0 ≤ rm.slots) (hd : decode M.2.1 pc = .ok (.new idx, 3)) (kk : ∀ q : Nat, Gc l D A M rm mc ms Ψ (pc + 3) L (.ref q :: st) tys ((q, .inr (ci, fs)) :: ws) (k + 1) (n + N0)) : Gc l D A M rm mc ms Ψ pc L st tys ws k n := fun p e s m args below meth c H locs ls F N hA X K P hD S hl => by
  refine va_new F.1 F.2.1 F.2.2.2.2.2.1 hin tyT hty F.2.2.2.2.1 (F.2.2.2.2.2.1 _ hcl) (F.2.2.2.2.2.1 _ hinst) (F.2.2.2.2.2.1 _ hini) K P hD S hA hc hfs hk hn hd (fun q H1 P1 D1 S1 => ?_)
  have hp : ((q, Sum.inr (ci, fs)) :: ws : va_W).Perm (ws ++ [(q, Sum.inr (ci, fs))]) := (List.perm_append_singleton _ ws).symm
  exact kk q p e s m args below meth c H1 locs ls F N hA X K (P_mv P1 (fun x hx => hp.mem_iff.mp hx)) (D_perm D1 hp) S1 hl
theorem gc_putF {C : String} {T : u_T} {N0 ci idx h : Nat} {tyT : Nat → FieldType} {fs fs2 : List Value} {v : Value} (kf : Nat) (hin : ∀ w ∈ u_ws C T N0, w ∈ Tb) (hty : ∀ k, k < N0 → parseFieldDescriptor (T k).2.2.1 = some (tyT k)) (hnm : ∀ a, a < N0 → ∀ b, b < N0 → a ≠ b → (T a).2.1 ≠ (T b).2.1) (hc : vwCl[ci]? = some (C, T, N0)) (hk : kf < N0) (hw : Cond.fieldLink M.1.cls idx (T kf).1 (T kf).2.1 (T kf).2.2.1 ∈ Tb) (hfin : (T kf).2.2.2 = true) (hdecl : (T kf).1 = M.1.cls) (hn : narrow (tyT kf) v = v) (hfit : fits (tyT kf) v = true) (hlen : kf < fs.length) (hset : fs.set kf v = fs2) (hd : decode M.2.1 pc = .ok (.putfield idx, 3)) (kk : Gc l D A M rm mc ms Ψ (pc + 3) L st tys ((h, .inr (ci, fs2)) :: rest) k n) : Gc l D A M rm mc ms Ψ pc L (v :: .ref h :: st) tys ((h, .inr (ci, fs)) :: rest) k n := fun p e s m args below meth c H locs ls F N hA X K P hD S hl => by
  refine va_putF (C := C) (T := T) (N := N0) F.1 F.2.1 F.2.2.2.2.2.1 hin tyT hty hnm F.2.2.2.2.1 K P hD S 0 rfl hc kf hk (F.2.2.2.2.2.1 _ hw) (fun _ h9 => h9) hfin N hdecl (hty kf hk) hn hfit hlen hd (fun H1 locs1 P1 D1 S1 => ?_)
  subst hset
  exact kk p e s m args below meth c H1 locs1 ls F N hA X K P1 D1 S1 hl
theorem gc_putV {C : String} {T : u_T} {N0 ci idx h : Nat} {tyT : Nat → FieldType} {fs fs2 : List Value} {v : Value} (kf : Nat) (hin : ∀ w ∈ u_ws C T N0, w ∈ Tb) (hty : ∀ k, k < N0 → parseFieldDescriptor (T k).2.2.1 = some (tyT k)) (hnm : ∀ a, a < N0 → ∀ b, b < N0 → a ≠ b → (T a).2.1 ≠ (T b).2.1) (hc : vwCl[ci]? = some (C, T, N0)) (hk : kf < N0) (hw : Cond.fieldLink M.1.cls idx (T kf).1 (T kf).2.1 (T kf).2.2.1 ∈ Tb) (hfin : (T kf).2.2.2 = false) (hn : narrow (tyT kf) v = v) (hfit : fits (tyT kf) v = true) (hlen : kf < fs.length) (hset : fs.set kf v = fs2) (hd : decode M.2.1 pc = .ok (.putfield idx, 3)) (kk : Gc l D A M rm mc ms Ψ (pc + 3) L st tys ((h, .inr (ci, fs2)) :: rest) k n) : Gc l D A M rm mc ms Ψ pc L (v :: .ref h :: st) tys ((h, .inr (ci, fs)) :: rest) k n := fun p e s m args below meth c H locs ls F N hA X K P hD S hl => by
  refine va_put (C := C) (T := T) (N := N0) F.1 F.2.1 F.2.2.2.2.2.1 hin tyT hty hnm F.2.2.2.2.1 K P hD S 0 rfl hc kf hk (F.2.2.2.2.2.1 _ hw) (fun _ h9 => h9) hfin (hty kf hk) hn hfit hlen hd (fun H1 locs1 P1 D1 S1 => ?_)
  subst hset
  exact kk p e s m args below meth c H1 locs1 ls F N hA X K P1 D1 S1 hl
theorem gc_get {C : String} {T : u_T} {N0 ci idx h : Nat} {fs : List Value} {v : Value} (kf : Nat) (hin : ∀ w ∈ u_ws C T N0, w ∈ Tb) (hc : vwCl[ci]? = some (C, T, N0)) (hk : kf < N0) (hw : Cond.fieldLink M.1.cls idx (T kf).1 (T kf).2.1 (T kf).2.2.1 ∈ Tb) (hv : fs[kf]? = some v) (hd : decode M.2.1 pc = .ok (.getfield idx, 3)) (kk : Gc l D A M rm mc ms Ψ (pc + 3) L (v :: st) tys ((h, .inr (ci, fs)) :: rest) k n) : Gc l D A M rm mc ms Ψ pc L (.ref h :: st) tys ((h, .inr (ci, fs)) :: rest) k n := fun p e s m args below meth c H locs ls F N hA X K P hD S hl => va_get (C := C) (T := T) (N := N0) F.1 F.2.1 F.2.2.2.2.2.1 hin F.2.2.2.2.1 K P 0 rfl hc kf hk (F.2.2.2.2.2.1 _ hw) (fun _ h9 => h9) hv hd (kk p e s m args below meth c H locs ls F N hA X K P hD S hl)
theorem gc_iast {a N0 : Nat} {cA : ClassId} {f : Nat → Int32} {i x : Int32} (hin : vp_in i N0) (hd : decode M.2.1 pc = .ok (.iastore, 1)) (kk : Gc l D A M rm mc ms Ψ (pc + 1) L st ((cA, .int) :: tys) (c0 :: (a, .inl (cA, N0, .inl (upd f i.toNatClampNeg x))) :: rest) k n) : Gc l D A M rm mc ms Ψ pc L (.int x :: .int i :: .ref a :: st) ((cA, .int) :: tys) (c0 :: (a, .inl (cA, N0, .inl f)) :: rest) k n := fun p e s m args below meth c H locs ls F N hA X K P hD S hl => va_iast F.1 F.2.1 K P hD S 1 0 rfl rfl hin hd (fun H1 locs1 P1 D1 S1 => kk p e s m args below meth c H1 locs1 ls F N hA X K P1 D1 S1 hl)
theorem gc_aast {a v N0 ci : Nat} {cA : ClassId} {r : vw_C} {vs : List Value} {f : Nat → Option Nat} {i : Int32} {ws2 : va_W} (q0 t0 qk : Nat) (ha : ws[q0]? = some (a, .inl (cA, N0, .inr (.inr (.inr (.inr f)))))) (ht : tys[t0]? = some (cA, .object r.1)) (hv : ws[qk]? = some (v, .inr (ci, vs))) (hc : vwCl[ci]? = some r) (hin : vp_in i N0) (hset : ws.set q0 (a, .inl (cA, N0, .inr (.inr (.inr (.inr (va_up f i.toNatClampNeg (some v))))))) = ws2) (hd : decode M.2.1 pc = .ok (.aastore, 1)) (kk : Gc l D A M rm mc ms Ψ (pc + 1) L st tys ws2 k n) : Gc l D A M rm mc ms Ψ pc L (.ref v :: .int i :: .ref a :: st) tys ws k n := fun p e s m args below meth c H locs ls F N hA X K P hD S hl => by
  refine va_astq F.1 F.2.1 K P hD S q0 t0 qk ci ha ht hv hc hin hd (fun H1 locs1 P1 D1 S1 => ?_)
  subst hset
  exact kk p e s m args below meth c H1 locs1 ls F N hA X K P1 D1 S1 hl
theorem pre_ic {s : State} {H : Heap} {locs : List Loc} {h0 : Nat} (hA : ∀ q, s.heap.size ≤ q → A q) (X : KX s) (K : va_K D vwCl tys s) (P : va_P D vwCl ws H) (hD : va_D A ws) (S : va_S A s.heap H locs) : PreS s H (va_Pc [.ref h0] (fun U => (∀ q, U.heap.size ≤ q → A q) ∧ KX U ∧ va_K D vwCl tys U ∧ va_P D vwCl ws U.heap ∧ va_D A ws)) [.ref h0] :=
  ⟨fun a U g mk q => ⟨q.1, q.2.1, q.2.2.1.call, va_K.moved (u := U) (U := U.calling g mk a) (Vm.Alike.refl U.vm) q.2.2.2.1, q.2.2.2.2.1, q.2.2.2.2.2⟩, fun U hU hW => ⟨rfl, fun q hq => hA q (Nat.le_trans S.1 (by rw [← hU]; exact hq)), X.go hW, K.moved hW.alike, by rw [hU]; exact P, hD⟩⟩
/-- invokespecial of a nest mate's constructor -/
theorem gc_init {M2 : MI} {idx q mc2 ms2 : Nat} {rm2 : Room} {host : String} {Ψ2 : TyL → va_W → Prop} (hM : Ic l D A M2 rm2 mc2 ms2 q tys ws Ψ2) (ok : Mok M2 0) (hret : M2.2.2.2 = none) (hnm : M2.1.name = "<init>") (hins : Cond.instanceMethod M2.1 ∈ Tb) (hnw : ∀ U : State, KX U → va_Nw (.methodLinkNest M.1.cls idx M2.1 host) U) (hrc : rm2.cells = mc2) (hrs : rm2.slots = ms2) (hR : rm2.frames + 1 ≤ rm.frames ∧ 8 + (M2.2.2.1 + 11) + rm2.locals ≤ rm.locals) (hW : (st.map fun v => v.category).sum ≤ 8) (hk : k + mc2 ≤ rm.cells) (hn : n + ms2 ≤ rm.slots) (hd : decode M.2.1 pc = .ok (.invokespecial idx, 3)) (kk : ∀ tys2 ws2, Ψ2 tys2 ws2 → Gc l D A M rm mc ms Ψ (pc + 3) L st tys2 ws2 (k + mc2) (n + ms2)) : Gc l D A M rm mc ms Ψ pc L (.ref q :: st) tys ws k n := fun p e s m args below meth c H locs ls F N hA X K P hD S hl => by
  have hT := F.2.2.2.2.2.1
  refine va_callv (va_runIN (As := []) (rest := st) (maxL := M2.2.2.1) (bytes := M2.2.1) ⟨F.1, F.2.1, F.2.2.2.1, F.2.2.2.2.1, hT⟩ hM ⟨va_cnB 0 hT (goodG ok.1) (by rw [← hret]; rfl) hrc hrs (hnw s X) (hT _ ok.2.1) ok.2.2.1 hR, hnm, hT _ hins⟩ (pre_ic hA X K P hD S) rfl rfl hl.1 rfl (lv_room hW) hd ⟨hk, hn⟩) S (fun q _ h => h) (fun q h => h) (fun u t H1 locs1 ht hvm hw hB hz1 hk1 S1 => ?_)
  obtain ⟨tys2, ws2, h2, K2, P2, D2⟩ := hB
  rw [ht] at P2
  exact kk tys2 ws2 h2 p e s m args below meth c H1 locs1 ls F N hA X (K2.moved hvm.symm) P2 D2 S1 hl
theorem gc_ret (hr : M.2.2.2 = none) (hd : decode M.2.1 pc = .ok (.return_, 1)) (h : Ψ tys ws) : Gc l D A M rm k n Ψ pc L [] tys ws k n := fun p e s m args below meth c H locs ls F N hA X K P hD S hl => W.vret F.1 F.2.1 (F.2.2.1.trans hr) (fun t ht hW => ⟨⟨(), rfl, trivial, tys, ws, h, K.moved hW.alike, by rw [ht]; exact P, hD⟩, S.F ht⟩) S.2.2 hd (hlocks := F.2.2.2.2.2.2)
end GCR

theorem clL_7 : Cond.classLink RL 7 RX5 ∈ Tb := inTb (List.mem_of_getElem? (i := 63) (by decide +kernel)) (by decide +kernel)
theorem inX5 : Cond.instantiable RX5 11 ∈ Tb := inTb (List.mem_of_getElem? (i := 64) (by decide +kernel)) (by decide +kernel)
theorem obX5_3 : Cond.methodLink RX5 3 objectInit ∈ Tb := inTb (List.mem_of_getElem? (i := 68) (by decide +kernel)) (by decide +kernel)
theorem obI : Cond.instanceMethod objectInit ∈ Tb := inTb (List.mem_of_getElem? (i := 69) (by decide +kernel)) (by decide +kernel)
theorem obC : Cond.code objectInit ⟨#[0xb1]⟩ 1 none ∈ Tb := inTb (List.mem_of_getElem? (i := 70) (by decide +kernel)) (by decide +kernel)
theorem clX5_9 : Cond.classLink RX5 9 RX0 ∈ Tb := inTb (List.mem_of_getElem? (i := 71) (by decide +kernel)) (by decide +kernel)
theorem inX0 : Cond.instantiable RX0 7 ∈ Tb := inTb (List.mem_of_getElem? (i := 72) (by decide +kernel)) (by decide +kernel)
theorem obX0_3 : Cond.methodLink RX0 3 objectInit ∈ Tb := inTb (List.mem_of_getElem? (i := 76) (by decide +kernel)) (by decide +kernel)
theorem ac_int : Cond.arrayClass (newarray.typeOf .int) ∈ Tb := inTb (List.mem_of_getElem? (i := 108) (by decide +kernel)) (by decide +kernel)
theorem clX5_27 : Cond.classLink RX5 27 RX2 ∈ Tb := inTb (List.mem_of_getElem? (i := 110) (by decide +kernel)) (by decide +kernel)
theorem inX2 : Cond.instantiable RX2 9 ∈ Tb := inTb (List.mem_of_getElem? (i := 111) (by decide +kernel)) (by decide +kernel)
theorem obX2_3 : Cond.methodLink RX2 3 objectInit ∈ Tb := inTb (List.mem_of_getElem? (i := 115) (by decide +kernel)) (by decide +kernel)
theorem ac_boolean : Cond.arrayClass (newarray.typeOf .boolean) ∈ Tb := inTb (List.mem_of_getElem? (i := 149) (by decide +kernel)) (by decide +kernel)
theorem ac_byte : Cond.arrayClass (newarray.typeOf .byte) ∈ Tb := inTb (List.mem_of_getElem? (i := 150) (by decide +kernel)) (by decide +kernel)
theorem clX5_34 : Cond.classLink RX5 34 RX3 ∈ Tb := inTb (List.mem_of_getElem? (i := 151) (by decide +kernel)) (by decide +kernel)
theorem inX3 : Cond.instantiable RX3 4 ∈ Tb := inTb (List.mem_of_getElem? (i := 152) (by decide +kernel)) (by decide +kernel)
theorem obX3_3 : Cond.methodLink RX3 3 objectInit ∈ Tb := inTb (List.mem_of_getElem? (i := 156) (by decide +kernel)) (by decide +kernel)
theorem clX5_41 : Cond.classLink RX5 41 RX4 ∈ Tb := inTb (List.mem_of_getElem? (i := 171) (by decide +kernel)) (by decide +kernel)
theorem clX5_47 : Cond.classLink RX5 47 RX1 ∈ Tb := inTb (List.mem_of_getElem? (i := 173) (by decide +kernel)) (by decide +kernel)
theorem inX1 : Cond.instantiable RX1 3 ∈ Tb := inTb (List.mem_of_getElem? (i := 174) (by decide +kernel)) (by decide +kernel)
theorem obX1_3 : Cond.methodLink RX1 3 objectInit ∈ Tb := inTb (List.mem_of_getElem? (i := 178) (by decide +kernel)) (by decide +kernel)
theorem inX4 : Cond.instantiable RX4 3 ∈ Tb := inTb (List.mem_of_getElem? (i := 189) (by decide +kernel)) (by decide +kernel)
theorem obX4_3 : Cond.methodLink RX4 3 objectInit ∈ Tb := inTb (List.mem_of_getElem? (i := 193) (by decide +kernel)) (by decide +kernel)
theorem clL_10 : Cond.classLink RL 10 RX6 ∈ Tb := inTb (List.mem_of_getElem? (i := 713) (by decide +kernel)) (by decide +kernel)
theorem inX6 : Cond.instantiable RX6 26 ∈ Tb := inTb (List.mem_of_getElem? (i := 714) (by decide +kernel)) (by decide +kernel)
theorem obX6_1 : Cond.methodLink RX6 1 objectInit ∈ Tb := inTb (List.mem_of_getElem? (i := 718) (by decide +kernel)) (by decide +kernel)
theorem iiX5 : Cond.initialized RX5 ∈ Tb := inTb (List.mem_of_getElem? (i := 48) (by decide +kernel)) (by decide +kernel)
theorem iiX0 : Cond.initialized RX0 ∈ Tb := inTb (List.mem_of_getElem? (i := 49) (by decide +kernel)) (by decide +kernel)
theorem iiX2 : Cond.initialized RX2 ∈ Tb := inTb (List.mem_of_getElem? (i := 50) (by decide +kernel)) (by decide +kernel)
theorem iiX3 : Cond.initialized RX3 ∈ Tb := inTb (List.mem_of_getElem? (i := 51) (by decide +kernel)) (by decide +kernel)
theorem iiX1 : Cond.initialized RX1 ∈ Tb := inTb (List.mem_of_getElem? (i := 52) (by decide +kernel)) (by decide +kernel)
theorem iiX4 : Cond.initialized RX4 ∈ Tb := inTb (List.mem_of_getElem? (i := 53) (by decide +kernel)) (by decide +kernel)
theorem iiX6 : Cond.initialized RX6 ∈ Tb := inTb (List.mem_of_getElem? (i := 54) (by decide +kernel)) (by decide +kernel)