/-! THE CLAIM OUT OF ONE WALK OF THE LAW'S BODY. Your part is whole_start (and what it stands on); all else here is the same for every law, but numbers. -/
def R_law : String := "BeamClocksLaw"
def lw_P (b : Addr) (xs : List Int32) (args : Array Value) (s : State) : Prop := args = #[.ref b] ∧ s.IntsAt b xs ∧ xs.length ≤ 2560 ∧ (Jvm.Cond.and given_1 narrow_1).before args s = true
def lw_Q (_ : Array Value) (s : State) (o : Outcome) (t : State) : Prop := o = .returned (some (.int 1)) ∧ Framed s o t [] 600000 7302250
def lw_Z (below : List Frame) (a : Array Value) (s : State) : State → Prop := fun t => ∃ o, t.status = .running ∧ Ended t below o ∧ lw_Q a s o t
/-- the law's own end, with 1 on the stack, nothing written that was there before, its room as the claim has it -/
theorem lw_ret {p : Program} {l : Launch} {e : Env} {s : State} {m : MethodId} {below : List Frame} {meth : Method} {c : Code} {b : Nat} (hx : p.tables.exec = Jvm.exec) (hb : c.code = code) (hr : meth.sig.returnType = ret) (hlocks : meth.locks = false) {pc : Nat} {H : Heap} {ls : Array Slot} (hdg : decode code pc = .ok (.ireturn, 1)) : W p l e room_1 s m #[Value.ref b] below meth c H [] 600000 7302250 (lw_Z below #[Value.ref b] s) (F0 m pc ls [.int 1]) := by
  intro T hT X
  obtain ⟨fs, hret, hrun, hended, hW, hframe⟩ := X.leave (v := some (.int 1)) (hlocks := hlocks) (fun h => by rw [hr] at h; cases h)
  have hmeth' : T.vm.method? m = some meth := X.method'
  refine ⟨T.setFrames fs, ?_, .returned (some (.int 1)), hrun, hended, rfl, ⟨_, rfl⟩, hW, hframe⟩
  jvm_step X.here [X.here.top, hx, hb, hdg, hmeth', hr, ret, narrow_b1]
  (try refine ⟨rfl, ?_⟩); (try refine ⟨rfl, ?_⟩)
  first | (intro acts; rw [hret _ acts rfl rfl rfl]) | rw [hret _ _ rfl rfl rfl]
  exact Steps.refl _
/-- what holds at the law's entry: the machine, the code, the tables' words (any of lw_tbl by 'hts w (by decide +kernel)'), the script of L ints xs at the cell b, what the Statement gives of the start (any of its parts by flat_of_before) -/
def lw_At (p : Program) (s : State) (m : MethodId) (meth : Method) (c : Code) (b L : Nat) (xs : Nat → Int32) : Prop :=
  p.tables.exec = Jvm.exec ∧ c.code = code ∧ meth.sig.returnType = ret ∧ c.maxLocals = 4 ∧ s.vm.findClass R_law = some m.cls ∧ (∀ w ∈ lw_tbl, w.before #[Value.ref b] s = true) ∧ va_X b L xs s s.heap ∧ b < s.heap.size ∧ meth.locks = false ∧ (Jvm.Cond.and given_1 narrow_1).before #[Value.ref b] s = true


/-! ===== the law's rows ===== -/
def LX (G : GX) (p : Program) (s : State) (m : MethodId) (meth : Method) (c : Code) (b L : Nat) (xs : Nat → Int32) (ls : Array Slot) (i : Nat) : Prop := lw_At p s m meth c b L xs ∧ IS G s ∧ G.2.2.2.2.1 = s.heap.size ∧ lv_has ls 4 [(0, .ref b), (1, .ref (G.2.2.1 0)), (2, .ref (G.2.2.1 40)), (3, .int (nI i))]
def LW (G : GX) (p : Program) (e : Env) (s : State) (m : MethodId) (below : List Frame) (meth : Method) (c : Code) (b : Nat) (ls : Array Slot) (mem : Mem) (pc : Nat) (st : List Value) : Prop := ∀ (H : Heap) (locs : List Loc), va_P G.2.1 vwCl (wl G mem) H → va_S (A0 G) s.heap H locs → W p G.1 e room_1 s m #[Value.ref b] below meth c H locs 52 2946 (lw_Z below #[Value.ref b] s) (F0 m pc ls st)
section LWR
variable {G : GX} {p : Program} {e : Env} {s : State} {m : MethodId} {below : List Frame} {meth : Method} {c : Code} {b L : Nat} {xs : Nat → Int32} {ls : Array Slot} {i : Nat} {mem : Mem} {pc : Nat} {st st2 : List Value}
theorem lw_stk (h : st = st2) (k : LW G p e s m below meth c b ls mem pc st2) : LW G p e s m below meth c b ls mem pc st := h ▸ k
theorem lw_nA (X : LX G p s m meth c b L xs ls i) : ¬ A0 G b := by
  have h := X.1.2.2.2.2.2.2.2.1
  show ¬ G.2.2.2.2.1 ≤ b
  rw [X.2.2.1]
  exact Nat.not_le.mpr h
theorem lw_al1 (X : LX G p s m meth c b L xs ls i) (hd : decode code pc = .ok (.aload_n 1, 1)) (k : LW G p e s m below meth c b ls mem (pc + 1) (.ref (G.2.2.1 0) :: st)) : LW G p e s m below meth c b ls mem pc st := fun H locs P S => lv_aload_n X.1.1 X.1.2.1 hd rfl (lv_at X.2.2.2 1 rfl) (k H locs P S)
theorem lw_al2 (X : LX G p s m meth c b L xs ls i) (hd : decode code pc = .ok (.aload_n 2, 1)) (k : LW G p e s m below meth c b ls mem (pc + 1) (.ref (G.2.2.1 40) :: st)) : LW G p e s m below meth c b ls mem pc st := fun H locs P S => lv_aload_n X.1.1 X.1.2.1 hd rfl (lv_at X.2.2.2 2 rfl) (k H locs P S)
/-- script[i + j] -/
theorem lw_arg (X : LX G p s m meth c b L xs ls i) (hi : i + 5 ≤ L ∧ L ≤ 2560) (j : Nat) {z : Int} (hj : j < 5) (hz : Int32.ofInt z = nI j) (h0 : decode code pc = .ok (.aload_n 0, 1)) (h1 : decode code (pc + 1) = .ok (.iload_n 3, 1)) (h2 : decode code (pc + 1 + 1) = .ok (.iconst z, 1)) (h3 : decode code (pc + 1 + 1 + 1) = .ok (.iadd, 1)) (h4 : decode code (pc + 1 + 1 + 1 + 1) = .ok (.iaload, 1)) (k : LW G p e s m below meth c b ls mem (pc + 5) (.int (xs (i + j)) :: st)) : LW G p e s m below meth c b ls mem pc st := fun H locs P S => by
  refine lv_aload_n X.1.1 X.1.2.1 h0 rfl (lv_at X.2.2.2 0 rfl) ?_
  refine lv_iload_n X.1.1 X.1.2.1 h1 rfl (lv_at X.2.2.2 3 rfl) ?_
  refine lv_iconst X.1.1 X.1.2.1 h2 hz ?_
  refine lv_iadd X.1.1 X.1.2.1 h3 ?_
  rw [nI_add]
  refine va_sld X.1.1 X.1.2.1 X.1.2.2.2.2.2.2.1 X.1.2.2.2.2.2.2.2.1 (lw_nA X) S (nin (show i + j < L by omega) (by omega)) h4 ?_
  rw [ncl (by omega)]
  exact k H locs P S
theorem lw_back {M2 : MI} {Ψ : Option Value → Mem → Prop} {a : Array Value} {H : Heap} {locs : List Loc} {st0 : List Value} (S : va_S (A0 G) s.heap H locs) (hr : va_Run p G.1 e room_1 s m #[Value.ref b] below meth c H locs 52 2946 0 0 (F0 m pc ls st0) st (QG G M2 Ψ a) (A0 G)) (k : ∀ v m2, Ψ v m2 → LW G p e s m below meth c b ls m2 (pc + 3) ((v.map (lf G.2.2.1)).toList ++ st)) : W p G.1 e room_1 s m #[Value.ref b] below meth c H locs 52 2946 (lw_Z below #[Value.ref b] s) (F0 m pc ls st0) := by
  intro T hT X
  obtain ⟨v, st₀, t, T2, L2, h0, X2, hL, e1, e2, ⟨⟨w, m2, hv, hp, hP, _⟩, hz, hq⟩, hgo⟩ := hr T hT X
  have hv2 : v = w.map (lf G.2.2.1) := by injection hv
  have S2 : va_S (A0 G) s.heap t.heap (locs ++ L2) := ⟨Nat.le_trans S.1 (by rw [← h0]; exact hz), fun q h1 h2 => by rw [hq q (by rw [h0]; exact Nat.lt_of_lt_of_le h1 S.1) h2, h0]; exact S.2.1 q h1 h2, fun q hq2 => (List.mem_append.mp hq2).elim (S.2.2 q) (hL q)⟩
  obtain ⟨t2, a1, b1⟩ := k w m2 hp t.heap (locs ++ L2) hP S2 T2 e1 X2
  refine ⟨t2, hgo t2 ?_, b1⟩
  rw [hv2]
  exact a1
theorem lw_call (X : LX G p s m meth c b L xs ls i) {M2 : MI} {n idx q ci N : Nat} {fs : List (Option Nat)} {T : u_T} {As stk : List Value} {Ψ : Option Value → Mem → Prop} (hM : Cn G 9 M2 (.ref q :: As) mem Ψ) (hs : Sh[q]? = some (.inr (ci, fs))) (hc : vwCl[ci]? = some (M2.1.cls, T, N)) (ok : Mok M2 n) (hin : Cond.instanceMethod M2.1 ∈ Tb) (hsel : Cond.selects M2.1.cls M2.1 M2.1 ∈ Tb) (hw : Cond.methodLink RL idx M2.1 ∈ Tb) (hn : As.length = n) (hstk : (As.map (lf G.2.2.1)).reverse ++ .ref (G.2.2.1 q) :: st = stk) (hW : (st.map fun v => v.category).sum ≤ 8) (hd : decode code pc = .ok (.invokevirtual idx, 3)) (k : ∀ v m2, Ψ v m2 → LW G p e s m below meth c b ls m2 (pc + 3) ((v.map (lf G.2.2.1)).toList ++ st)) : LW G p e s m below meth c b ls mem pc stk := fun H locs P S => by
  have hT : ∀ w ∈ Tb, w.before #[Value.ref b] s = true := fun w hw => X.1.2.2.2.2.2.1 w (List.mem_filter.mp hw).1
  have hp := pc_ok (As := .ref q :: As) X.2.1 P S
  have h21 := ok.2.2.2
  refine lw_back S (va_runV (g := F0 m pc ls stk) (C := M2.1.cls) (b := G.2.2.1 q) (As := As.map (lf G.2.2.1)) ⟨X.1.1, X.1.2.1, X.1.2.2.2.1, X.1.2.2.2.2.1, hT⟩ hM ⟨callB_of n hT (goodG ok.1) rfl rfl rfl (hT _ ok.2.1) (hT _ hw) ok.2.2.1 ⟨Nat.le_of_ble_eq_true rfl, by show 8 + (M2.2.2.1 + 11) + 40 * 9 ≤ 428; omega⟩, hT _ hin, hT _ hsel⟩ ⟨hp.1, va_recv (q := (M2.1.cls, T, N)) X.2.1.2.1 P hc (wl_get hs), hp.2⟩ rfl (by rw [List.length_map]; exact hn) X.2.2.2.1 hstk.symm (lv_room hW) hd ⟨Nat.le_of_ble_eq_true rfl, Nat.le_of_ble_eq_true rfl⟩) k
theorem lw_eqI (X : LX G p s m meth c b L xs ls i) {x : Int32} {off : Int} (hd : decode code pc = .ok (.if_icmp .eq off, 3)) (ht : (pc : Int) + off = ((1306 : Nat) : Int)) (k : LW G p e s m below meth c b ls mem 1306 []) : LW G p e s m below meth c b ls mem pc [.int x, .int x] := fun H locs P S => lv_icmp_eq X.1.1 X.1.2.1 hd ht (fun _ => k H locs P S) (fun q => absurd rfl q)
theorem lw_eqL (X : LX G p s m meth c b L xs ls i) {x : Int64} {off : Int} (hd : decode code pc = .ok (.lcmp, 1)) (hd2 : decode code (pc + 1) = .ok (.ifCond .eq off, 3)) (ht : ((pc + 1 : Nat) : Int) + off = ((1306 : Nat) : Int)) (k : LW G p e s m below meth c b ls mem 1306 []) : LW G p e s m below meth c b ls mem pc [.long x, .long x] := fun H locs P S => by
  refine W.lcmp X.1.1 X.1.2.1 hd ?_
  refine lv_if_eq X.1.1 X.1.2.1 hd2 ht (fun _ => k H locs P S) (fun q => absurd ((lg_cmp_eq x x).mpr rfl) q)
end LWR
