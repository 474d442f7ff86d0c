
theorem lw_le {L i : Nat} (hL : L ≤ 2560) (hi : i ≤ 2565) : (nI L - 5 < nI i) ↔ L < i + 5 := by
  by_cases h : 5 ≤ L
  · rw [show (nI L - 5 : Int32) = nI (L - 5) from pk_sub (a := L) (b := 5) h, nlt (by omega) (by omega)]
    omega
  · have n0 : ¬ nI i < 0 := nI_pos (by omega)
    have k : nI L - 5 < 0 := by
      rcases (show L = 0 ∨ L = 1 ∨ L = 2 ∨ L = 3 ∨ L = 4 by omega) with rfl | rfl | rfl | rfl | rfl <;> decide
    exact ⟨fun _ => by omega, fun _ => Int32.lt_of_lt_of_le k (Int32.not_lt.mp n0)⟩
theorem lw_and (x : Int32) : ∃ j : Nat, j < 64 ∧ x &&& 63 = nI j := by
  obtain ⟨j, hj, e2⟩ := pk_andE x (m := 63) 6 (by decide)
  exact ⟨j, by omega, e2⟩

set_option maxHeartbeats 4000000 in
set_option maxRecDepth 100000 in
theorem lw_cases {G : GX} {p : Program} {e : Env} {s : State} {m : MethodId} {below : List Frame} {meth : Method} {c : Code} {b L : Nat} {xs : Nat → Int32} {ls : Array Slot} {i : Nat} {mem : Mem} {H : Heap} {locs : List Loc} (hx : p.tables.exec = Jvm.exec) (hb : c.code = code) (X : LX G p s m meth c b L xs ls i) (hi : i + 5 ≤ L ∧ L ≤ 2560) (hI : Inv mem) (kb : ∀ m2 : Mem, Inv m2 → LW G p e s m below meth c b ls m2 1306 []) {j : Nat} (hj : j < 38) (P : va_P G.2.1 vwCl (wl G mem) H) (S : va_S (A0 G) s.heap H locs) : W p G.1 e room_1 s m #[Value.ref b] below meth c H locs 52 2946 (lw_Z below #[Value.ref b] s) (F0 m 32 ls [.int (nI j)]) := by
  match j, hj with
  | 0, _ => exact lv_tableIn (tgt := 200) hx hb dL_law_32 (by decide) (by decide) rfl (by decide) (lwc0 X hi hI kb H locs P S)
  | 1, _ => exact lv_tableIn (tgt := 223) hx hb dL_law_32 (by decide) (by decide) rfl (by decide) (lwc1 X hi hI kb H locs P S)
  | 2, _ => exact lv_tableIn (tgt := 246) hx hb dL_law_32 (by decide) (by decide) rfl (by decide) (lwc2 X hi hI kb H locs P S)
  | 3, _ => exact lv_tableIn (tgt := 259) hx hb dL_law_32 (by decide) (by decide) rfl (by decide) (lwc3 X hi hI kb H locs P S)
  | 4, _ => exact lv_tableIn (tgt := 272) hx hb dL_law_32 (by decide) (by decide) rfl (by decide) (lwc4 X hi hI kb H locs P S)
  | 5, _ => exact lv_tableIn (tgt := 295) hx hb dL_law_32 (by decide) (by decide) rfl (by decide) (lwc5 X hi hI kb H locs P S)
  | 6, _ => exact lv_tableIn (tgt := 328) hx hb dL_law_32 (by decide) (by decide) rfl (by decide) (lwc6 X hi hI kb H locs P S)
  | 7, _ => exact lv_tableIn (tgt := 371) hx hb dL_law_32 (by decide) (by decide) rfl (by decide) (lwc7 X hi hI kb H locs P S)
  | 8, _ => exact lv_tableIn (tgt := 394) hx hb dL_law_32 (by decide) (by decide) rfl (by decide) (lwc8 X hi hI kb H locs P S)
  | 9, _ => exact lv_tableIn (tgt := 427) hx hb dL_law_32 (by decide) (by decide) rfl (by decide) (lwc9 X hi hI kb H locs P S)
  | 10, _ => exact lv_tableIn (tgt := 450) hx hb dL_law_32 (by decide) (by decide) rfl (by decide) (lwc10 X hi hI kb H locs P S)
  | 11, _ => exact lv_tableIn (tgt := 483) hx hb dL_law_32 (by decide) (by decide) rfl (by decide) (lwc11 X hi hI kb H locs P S)
  | 12, _ => exact lv_tableIn (tgt := 506) hx hb dL_law_32 (by decide) (by decide) rfl (by decide) (lwc12 X hi hI kb H locs P S)
  | 13, _ => exact lv_tableIn (tgt := 539) hx hb dL_law_32 (by decide) (by decide) rfl (by decide) (lwc13 X hi hI kb H locs P S)
  | 14, _ => exact lv_tableIn (tgt := 582) hx hb dL_law_32 (by decide) (by decide) rfl (by decide) (lwc14 X hi hI kb H locs P S)
  | 15, _ => exact lv_tableIn (tgt := 605) hx hb dL_law_32 (by decide) (by decide) rfl (by decide) (lwc15 X hi hI kb H locs P S)
  | 16, _ => exact lv_tableIn (tgt := 618) hx hb dL_law_32 (by decide) (by decide) rfl (by decide) (lwc16 X hi hI kb H locs P S)
  | 17, _ => exact lv_tableIn (tgt := 631) hx hb dL_law_32 (by decide) (by decide) rfl (by decide) (lwc17 X hi hI kb H locs P S)
  | 18, _ => exact lv_tableIn (tgt := 664) hx hb dL_law_32 (by decide) (by decide) rfl (by decide) (lwc18 X hi hI kb H locs P S)
  | 19, _ => exact lv_tableIn (tgt := 697) hx hb dL_law_32 (by decide) (by decide) rfl (by decide) (lwc19 X hi hI kb H locs P S)
  | 20, _ => exact lv_tableIn (tgt := 730) hx hb dL_law_32 (by decide) (by decide) rfl (by decide) (lwc20 X hi hI kb H locs P S)
  | 21, _ => exact lv_tableIn (tgt := 753) hx hb dL_law_32 (by decide) (by decide) rfl (by decide) (lwc21 X hi hI kb H locs P S)
  | 22, _ => exact lv_tableIn (tgt := 776) hx hb dL_law_32 (by decide) (by decide) rfl (by decide) (lwc22 X hi hI kb H locs P S)
  | 23, _ => exact lv_tableIn (tgt := 830) hx hb dL_law_32 (by decide) (by decide) rfl (by decide) (lwc23 X hi hI kb H locs P S)
  | 24, _ => exact lv_tableIn (tgt := 874) hx hb dL_law_32 (by decide) (by decide) rfl (by decide) (lwc24 X hi hI kb H locs P S)
  | 25, _ => exact lv_tableIn (tgt := 917) hx hb dL_law_32 (by decide) (by decide) rfl (by decide) (lwc25 X hi hI kb H locs P S)
  | 26, _ => exact lv_tableIn (tgt := 940) hx hb dL_law_32 (by decide) (by decide) rfl (by decide) (lwc26 X hi hI kb H locs P S)
  | 27, _ => exact lv_tableIn (tgt := 963) hx hb dL_law_32 (by decide) (by decide) rfl (by decide) (lwc27 X hi hI kb H locs P S)
  | 28, _ => exact lv_tableIn (tgt := 986) hx hb dL_law_32 (by decide) (by decide) rfl (by decide) (lwc28 X hi hI kb H locs P S)
  | 29, _ => exact lv_tableIn (tgt := 1009) hx hb dL_law_32 (by decide) (by decide) rfl (by decide) (lwc29 X hi hI kb H locs P S)
  | 30, _ => exact lv_tableIn (tgt := 1042) hx hb dL_law_32 (by decide) (by decide) rfl (by decide) (lwc30 X hi hI kb H locs P S)
  | 31, _ => exact lv_tableIn (tgt := 1085) hx hb dL_law_32 (by decide) (by decide) rfl (by decide) (lwc31 X hi hI kb H locs P S)
  | 32, _ => exact lv_tableIn (tgt := 1108) hx hb dL_law_32 (by decide) (by decide) rfl (by decide) (lwc32 X hi hI kb H locs P S)
  | 33, _ => exact lv_tableIn (tgt := 1131) hx hb dL_law_32 (by decide) (by decide) rfl (by decide) (lwc33 X hi hI kb H locs P S)
  | 34, _ => exact lv_tableIn (tgt := 1174) hx hb dL_law_32 (by decide) (by decide) rfl (by decide) (lwc34 X hi hI kb H locs P S)
  | 35, _ => exact lv_tableIn (tgt := 1217) hx hb dL_law_32 (by decide) (by decide) rfl (by decide) (lwc35 X hi hI kb H locs P S)
  | 36, _ => exact lv_tableIn (tgt := 1270) hx hb dL_law_32 (by decide) (by decide) rfl (by decide) (lwc36 X hi hI kb H locs P S)
  | 37, _ => exact lv_tableIn (tgt := 1283) hx hb dL_law_32 (by decide) (by decide) rfl (by decide) (lwc37 X hi hI kb H locs P S)
  | n + 38, h => exact absurd h (by omega)
set_option maxHeartbeats 4000000 in
set_option maxRecDepth 100000 in
theorem law_loop {G : GX} {p : Program} {e : Env} {s : State} {m : MethodId} {below : List Frame} {meth : Method} {c : Code} {b L : Nat} {xs : Nat → Int32} (hL : L ≤ 2560) : ∀ (r i : Nat) (mem : Mem) (ls : Array Slot), L + 1 ≤ i + r → i ≤ 2565 → LX G p s m meth c b L xs ls i → Inv mem → LW G p e s m below meth c b ls mem 18 [] := by
  intro r
  induction r with
  | zero =>
    intro i mem ls h1 h2 X hI H locs P S
    obtain ⟨hx, hb, hr, hml, hown, hts, hX, hbl, hlocks, hgv⟩ := id X.1
    refine lv_iload_n hx hb dL_law_18 rfl (lv_at X.2.2.2 3 rfl) ?_
    refine lv_aload_n hx hb dL_law_19 rfl (lv_at X.2.2.2 0 rfl) ?_
    refine va_slen hx hb hX hbl (lw_nA X) S dL_law_20 ?_
    refine lv_iconst (v := 5) hx hb dL_law_21 (by decide) ?_
    refine lv_isub hx hb dL_law_22 ?_
    refine lv_icmp_gt (tgt := 1312) hx hb dL_law_23 (by decide) (fun _ => ?_) (fun q => absurd ((lw_le hL h2).mpr (by omega)) q)
    refine lv_iconst (v := 1) hx hb dL_law_1312 (by decide) ?_
    refine va_forget (fun q hq => by rw [← X.2.2.1]; exact S.2.2 q hq) ?_
    refine W.widen (k := 600000) (n := 7302250) (Nat.le_of_ble_eq_true rfl) (Nat.le_of_ble_eq_true rfl) ?_
    exact lw_ret hx hb hr hlocks dL_law_1313
  | succ r ih =>
    intro i mem ls h1 h2 X hI H locs P S
    obtain ⟨hx, hb, hr, hml, hown, hts, hX, hbl, hlocks, hgv⟩ := id X.1
    refine lv_iload_n hx hb dL_law_18 rfl (lv_at X.2.2.2 3 rfl) ?_
    refine lv_aload_n hx hb dL_law_19 rfl (lv_at X.2.2.2 0 rfl) ?_
    refine va_slen hx hb hX hbl (lw_nA X) S dL_law_20 ?_
    refine lv_iconst (v := 5) hx hb dL_law_21 (by decide) ?_
    refine lv_isub hx hb dL_law_22 ?_
    refine lv_icmp_gt (tgt := 1312) hx hb dL_law_23 (by decide) (fun _ => ?_) (fun q => ?_)
    · refine lv_iconst (v := 1) hx hb dL_law_1312 (by decide) ?_
      refine va_forget (fun q hq => by rw [← X.2.2.1]; exact S.2.2 q hq) ?_
      refine W.widen (k := 600000) (n := 7302250) (Nat.le_of_ble_eq_true rfl) (Nat.le_of_ble_eq_true rfl) ?_
      exact lw_ret hx hb hr hlocks dL_law_1313
    · have h5 : ¬ L < i + 5 := fun z => q ((lw_le hL h2).mpr z)
      have hi : i + 5 ≤ L ∧ L ≤ 2560 := ⟨by omega, hL⟩
      refine lv_aload_n hx hb dL_law_26 rfl (lv_at X.2.2.2 0 rfl) ?_
      refine lv_iload_n hx hb dL_law_27 rfl (lv_at X.2.2.2 3 rfl) ?_
      refine va_sld hx hb hX hbl (lw_nA X) S (nin (show i < L by omega) (by omega)) dL_law_28 ?_
      refine lv_bipush (v := 63) hx hb dL_law_29 (by decide) ?_
      refine lv_iand hx hb dL_law_31 ?_
      have kb : ∀ m2 : Mem, Inv m2 → LW G p e s m below meth c b ls m2 1306 [] := fun m2 hI2 H2 locs2 P2 S2 => by
        refine lv_iinc (v := nI (i + 5)) (lv' := [(3, .int (nI (i + 5))), (0, .ref b), (1, .ref (G.2.2.1 0)), (2, .ref (G.2.2.1 40))]) hx hb dL_law_1306 X.2.2.2 (k := 3) rfl (nI_add (a := i) (b := 5)) (by decide) rfl (fun ls2 hl2 => ?_)
        refine lv_goto (tgt := 18) hx hb dL_law_1309 (by decide) ?_
        exact ih (i + 5) m2 ls2 (by omega) (by omega) ⟨X.1, X.2.1, X.2.2.1, lv_sub hl2 [1, 2, 3, 0] rfl⟩ hI2 H2 locs2 P2 S2
      obtain ⟨j, hj, ej⟩ := lw_and (xs (nI i).toNatClampNeg)
      rw [ej]
      by_cases hj2 : j < 38
      · exact lw_cases hx hb X hi hI kb hj2 P S
      · have eo : (nI j).toInt = (j : Int) := by
          rcases (show j = 38 ∨ j = 39 ∨ j = 40 ∨ j = 41 ∨ j = 42 ∨ j = 43 ∨ j = 44 ∨ j = 45 ∨ j = 46 ∨ j = 47 ∨ j = 48 ∨ j = 49 ∨ j = 50 ∨ j = 51 ∨ j = 52 ∨ j = 53 ∨ j = 54 ∨ j = 55 ∨ j = 56 ∨ j = 57 ∨ j = 58 ∨ j = 59 ∨ j = 60 ∨ j = 61 ∨ j = 62 ∨ j = 63 by omega) with rfl | rfl | rfl | rfl | rfl | rfl | rfl | rfl | rfl | rfl | rfl | rfl | rfl | rfl | rfl | rfl | rfl | rfl | rfl | rfl | rfl | rfl | rfl | rfl | rfl | rfl <;> decide
        exact lv_tableOut (tgt := 1306) hx hb dL_law_32 (Or.inr (by rw [eo]; omega)) (by decide) (kb mem hI H locs P S)
