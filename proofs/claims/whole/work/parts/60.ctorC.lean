
abbrev aI (q : Nat) (c : ClassId) (n : Nat) : Nat × va_E := (q, .inl (c, n, .inl (fun _ => 0)))
abbrev oA (q : Nat) (c : ClassId) (n : Nat) (f : Nat → Option Nat) : Nat × va_E := (q, .inl (c, n, .inr (.inr (.inr (.inr f)))))
abbrev bmE (h a b c d : Nat) : Nat × va_E := (h, .inr (0, [.ref a, .ref b, .ref c, .ref d, .int 0, .int 1, .int 0]))
abbrev bsE (h : Nat) : Nat × va_E := (h, .inr (1, [.int 0, .int 0, .int 0]))
abbrev rdE (h a : Nat) : Nat × va_E := (h, .inr (2, [.ref a, .int 0, .int 0, .int 0, .int 0, .int 0, .int 0, .int 0, .int 0]))
abbrev snE (h a b c : Nat) : Nat × va_E := (h, .inr (3, [.ref a, .ref b, .ref c, .int 0]))
abbrev shE (h a : Nat) : Nat × va_E := (h, .inr (4, [.ref a, .int (-1), .int 0]))

theorem iX0 (l : Launch) (D : va_G) (A : Nat → Prop) (h0 : Nat) (tys : TyL) (rest : va_W) : Ic l D A mX0_init ({ frames := 1, cells := 4, slots := 20, locals := 12 }) 4 20 h0 tys ((h0, .inr (0, [.null, .null, .null, .null, .int 0, .int 0, .int 0])) :: rest) (fun t2 w2 => ∃ (x1 x2 x3 x4 : Nat) (y1 y2 y3 y4 : ClassId), t2 = (y4, .int) :: (y3, .int) :: (y2, .int) :: (y1, .int) :: tys ∧ w2 = bmE h0 x1 x2 x3 x4 :: aI x4 y4 5 :: aI x3 y3 5 :: aI x2 y2 5 :: aI x1 y1 5 :: rest) := by
  refine ic_of (by decide +kernel) rfl (Nat.le_of_ble_eq_true rfl) ?_
  refine gc_aload 0 dX0_init_0 0 rfl ?_
  refine gc_obj obX0_3 obI obC (Nat.le_of_ble_eq_true rfl) (Nat.le_of_ble_eq_true rfl) dX0_init_1 ?_
  refine gc_aload 0 dX0_init_4 0 rfl ?_
  refine gc_iconst (v := 5) dX0_init_5 (by decide) ?_
  refine gc_newa 5 ac_int rfl (fun _ => rfl) (by decide) (by decide) (Nat.le_of_ble_eq_true rfl) (Nat.le_of_ble_eq_true rfl) (Nat.le_of_ble_eq_true rfl) dX0_init_6 (fun x1 y1 => ?_)
  refine gc_putF (fs2 := [.ref x1, .null, .null, .null, .int 0, .int 0, .int 0]) 0 uwX0 tyX0_ok nmX0 rfl (by decide) flX0_9 rfl rfl rfl rfl (Nat.le_of_ble_eq_true rfl) rfl dX0_init_8 ?_
  refine gc_aload 0 dX0_init_11 0 rfl ?_
  refine gc_iconst (v := 5) dX0_init_12 (by decide) ?_
  refine gc_newa 5 ac_int rfl (fun _ => rfl) (by decide) (by decide) (Nat.le_of_ble_eq_true rfl) (Nat.le_of_ble_eq_true rfl) (Nat.le_of_ble_eq_true rfl) dX0_init_13 (fun x2 y2 => ?_)
  refine gc_putF (fs2 := [.ref x1, .ref x2, .null, .null, .int 0, .int 0, .int 0]) 1 uwX0 tyX0_ok nmX0 rfl (by decide) flX0_15 rfl rfl rfl rfl (Nat.le_of_ble_eq_true rfl) rfl dX0_init_15 ?_
  refine gc_aload 0 dX0_init_18 0 rfl ?_
  refine gc_iconst (v := 5) dX0_init_19 (by decide) ?_
  refine gc_newa 5 ac_int rfl (fun _ => rfl) (by decide) (by decide) (Nat.le_of_ble_eq_true rfl) (Nat.le_of_ble_eq_true rfl) (Nat.le_of_ble_eq_true rfl) dX0_init_20 (fun x3 y3 => ?_)
  refine gc_putF (fs2 := [.ref x1, .ref x2, .ref x3, .null, .int 0, .int 0, .int 0]) 2 uwX0 tyX0_ok nmX0 rfl (by decide) flX0_18 rfl rfl rfl rfl (Nat.le_of_ble_eq_true rfl) rfl dX0_init_22 ?_
  refine gc_aload 0 dX0_init_25 0 rfl ?_
  refine gc_iconst (v := 5) dX0_init_26 (by decide) ?_
  refine gc_newa 5 ac_int rfl (fun _ => rfl) (by decide) (by decide) (Nat.le_of_ble_eq_true rfl) (Nat.le_of_ble_eq_true rfl) (Nat.le_of_ble_eq_true rfl) dX0_init_27 (fun x4 y4 => ?_)
  refine gc_putF (fs2 := [.ref x1, .ref x2, .ref x3, .ref x4, .int 0, .int 0, .int 0]) 3 uwX0 tyX0_ok nmX0 rfl (by decide) flX0_21 rfl rfl rfl rfl (Nat.le_of_ble_eq_true rfl) rfl dX0_init_29 ?_
  refine gc_aload 0 dX0_init_32 0 rfl ?_
  refine gc_iconst (v := 1) dX0_init_33 (by decide) ?_
  refine gc_putV (fs2 := [.ref x1, .ref x2, .ref x3, .ref x4, .int 0, .int 1, .int 0]) 5 uwX0 tyX0_ok nmX0 rfl (by decide) flX0_24 rfl rfl rfl (Nat.le_of_ble_eq_true rfl) rfl dX0_init_34 ?_
  exact gc_ret rfl dX0_init_37 ⟨x1, x2, x3, x4, y1, y2, y3, y4, rfl, rfl⟩
theorem iX1 (l : Launch) (D : va_G) (A : Nat → Prop) (h0 : Nat) (tys : TyL) (rest : va_W) : Ic l D A mX1_init ({ frames := 1, cells := 0, slots := 0, locals := 12 }) 0 0 h0 tys ((h0, .inr (1, [.int 0, .int 0, .int 0])) :: rest) (fun t2 w2 => t2 = tys ∧ w2 = bsE h0 :: rest) := by
  refine ic_of (by decide +kernel) rfl (Nat.le_of_ble_eq_true rfl) ?_
  refine gc_aload 0 dX1_init_0 0 rfl ?_
  refine gc_obj obX1_3 obI obC (Nat.le_of_ble_eq_true rfl) (Nat.le_of_ble_eq_true rfl) dX1_init_1 ?_
  exact gc_ret rfl dX1_init_4 ⟨rfl, rfl⟩
theorem iX2 (l : Launch) (D : va_G) (A : Nat → Prop) (h0 : Nat) (tys : TyL) (rest : va_W) : Ic l D A mX2_init ({ frames := 1, cells := 1, slots := 160, locals := 12 }) 1 160 h0 tys ((h0, .inr (2, [.null, .int 0, .int 0, .int 0, .int 0, .int 0, .int 0, .int 0, .int 0])) :: rest) (fun t2 w2 => ∃ (x1 : Nat) (y1 : ClassId), t2 = (y1, .byte) :: tys ∧ w2 = rdE h0 x1 :: aI x1 y1 160 :: rest) := by
  refine ic_of (by decide +kernel) rfl (Nat.le_of_ble_eq_true rfl) ?_
  refine gc_aload 0 dX2_init_0 0 rfl ?_
  refine gc_obj obX2_3 obI obC (Nat.le_of_ble_eq_true rfl) (Nat.le_of_ble_eq_true rfl) dX2_init_1 ?_
  refine gc_aload 0 dX2_init_4 0 rfl ?_
  refine gc_sipush (v := 160) dX2_init_5 (by decide) ?_
  refine gc_newa 160 ac_byte rfl (fun _ => rfl) (by decide) (by decide) (Nat.le_of_ble_eq_true rfl) (Nat.le_of_ble_eq_true rfl) (Nat.le_of_ble_eq_true rfl) dX2_init_8 (fun x1 y1 => ?_)
  refine gc_putF (fs2 := [.ref x1, .int 0, .int 0, .int 0, .int 0, .int 0, .int 0, .int 0, .int 0]) 0 uwX2 tyX2_ok nmX2 rfl (by decide) flX2_9 rfl rfl rfl rfl (Nat.le_of_ble_eq_true rfl) rfl dX2_init_10 ?_
  exact gc_ret rfl dX2_init_13 ⟨x1, y1, rfl, rfl⟩
theorem iX3 (l : Launch) (D : va_G) (A : Nat → Prop) (h0 : Nat) (tys : TyL) (rest : va_W) : Ic l D A mX3_init ({ frames := 1, cells := 3, slots := 18, locals := 12 }) 3 18 h0 tys ((h0, .inr (3, [.null, .null, .null, .int 0])) :: rest) (fun t2 w2 => ∃ (x1 x2 x3 : Nat) (y1 y2 y3 : ClassId), t2 = (y3, .int) :: (y2, .int) :: (y1, .int) :: tys ∧ w2 = snE h0 x1 x2 x3 :: aI x3 y3 6 :: aI x2 y2 6 :: aI x1 y1 6 :: rest) := by
  refine ic_of (by decide +kernel) rfl (Nat.le_of_ble_eq_true rfl) ?_
  refine gc_aload 0 dX3_init_0 0 rfl ?_
  refine gc_obj obX3_3 obI obC (Nat.le_of_ble_eq_true rfl) (Nat.le_of_ble_eq_true rfl) dX3_init_1 ?_
  refine gc_aload 0 dX3_init_4 0 rfl ?_
  refine gc_bipush (v := 6) dX3_init_5 (by decide) ?_
  refine gc_newa 6 ac_int rfl (fun _ => rfl) (by decide) (by decide) (Nat.le_of_ble_eq_true rfl) (Nat.le_of_ble_eq_true rfl) (Nat.le_of_ble_eq_true rfl) dX3_init_7 (fun x1 y1 => ?_)
  refine gc_putF (fs2 := [.ref x1, .null, .null, .int 0]) 0 uwX3 tyX3_ok nmX3 rfl (by decide) flX3_9 rfl rfl rfl rfl (Nat.le_of_ble_eq_true rfl) rfl dX3_init_9 ?_
  refine gc_aload 0 dX3_init_12 0 rfl ?_
  refine gc_bipush (v := 6) dX3_init_13 (by decide) ?_
  refine gc_newa 6 ac_int rfl (fun _ => rfl) (by decide) (by decide) (Nat.le_of_ble_eq_true rfl) (Nat.le_of_ble_eq_true rfl) (Nat.le_of_ble_eq_true rfl) dX3_init_15 (fun x2 y2 => ?_)
  refine gc_putF (fs2 := [.ref x1, .ref x2, .null, .int 0]) 1 uwX3 tyX3_ok nmX3 rfl (by decide) flX3_15 rfl rfl rfl rfl (Nat.le_of_ble_eq_true rfl) rfl dX3_init_17 ?_
  refine gc_aload 0 dX3_init_20 0 rfl ?_
  refine gc_bipush (v := 6) dX3_init_21 (by decide) ?_
  refine gc_newa 6 ac_int rfl (fun _ => rfl) (by decide) (by decide) (Nat.le_of_ble_eq_true rfl) (Nat.le_of_ble_eq_true rfl) (Nat.le_of_ble_eq_true rfl) dX3_init_23 (fun x3 y3 => ?_)
  refine gc_putF (fs2 := [.ref x1, .ref x2, .ref x3, .int 0]) 2 uwX3 tyX3_ok nmX3 rfl (by decide) flX3_18 rfl rfl rfl rfl (Nat.le_of_ble_eq_true rfl) rfl dX3_init_25 ?_
  exact gc_ret rfl dX3_init_28 ⟨x1, x2, x3, y1, y2, y3, rfl, rfl⟩
theorem iX4 (l : Launch) (D : va_G) (A : Nat → Prop) (h0 : Nat) (tys : TyL) (rest : va_W) : Ic l D A mX4_init ({ frames := 1, cells := 1, slots := 40, locals := 12 }) 1 40 h0 tys ((h0, .inr (4, [.null, .int 0, .int 0])) :: rest) (fun t2 w2 => ∃ (x1 : Nat) (y1 : ClassId), t2 = (y1, .int) :: tys ∧ w2 = shE h0 x1 :: aI x1 y1 40 :: rest) := by
  refine ic_of (by decide +kernel) rfl (Nat.le_of_ble_eq_true rfl) ?_
  refine gc_aload 0 dX4_init_0 0 rfl ?_
  refine gc_obj obX4_3 obI obC (Nat.le_of_ble_eq_true rfl) (Nat.le_of_ble_eq_true rfl) dX4_init_1 ?_
  refine gc_aload 0 dX4_init_4 0 rfl ?_
  refine gc_bipush (v := 40) dX4_init_5 (by decide) ?_
  refine gc_newa 40 ac_int rfl (fun _ => rfl) (by decide) (by decide) (Nat.le_of_ble_eq_true rfl) (Nat.le_of_ble_eq_true rfl) (Nat.le_of_ble_eq_true rfl) dX4_init_7 (fun x1 y1 => ?_)
  refine gc_putF (fs2 := [.ref x1, .int 0, .int 0]) 0 uwX4 tyX4_ok nmX4 rfl (by decide) flX4_9 rfl rfl rfl rfl (Nat.le_of_ble_eq_true rfl) rfl dX4_init_9 ?_
  refine gc_aload 0 dX4_init_12 0 rfl ?_
  refine gc_iconst (v := (-1)) dX4_init_13 (by decide) ?_
  refine gc_putV (fs2 := [.ref x1, .int (-1), .int 0]) 1 uwX4 tyX4_ok nmX4 rfl (by decide) flX4_15 rfl rfl rfl (Nat.le_of_ble_eq_true rfl) rfl dX4_init_14 ?_
  exact gc_ret rfl dX4_init_17 ⟨x1, y1, rfl, rfl⟩
def w5L (q : Nat → Nat) (c : Nat → ClassId) : va_W := [((q 0), .inr (5, [.ref (q 1), .ref (q 6), .ref (q 21), .ref (q 22), .ref (q 23), .ref (q 25), .ref (q 29), .ref (q 30), .ref (q 39), .int 0, .int 0])), shE (q 37) (q 38), aI (q 38) (c 38) 40, shE (q 35) (q 36), aI (q 36) (c 36) 40, shE (q 33) (q 34), aI (q 34) (c 34) 40, shE (q 31) (q 32), aI (q 32) (c 32) 40, bmE (q 16) (q 17) (q 18) (q 19) (q 20), aI (q 20) (c 20) 5, aI (q 19) (c 19) 5, aI (q 18) (c 18) 5, aI (q 17) (c 17) 5, bmE (q 11) (q 12) (q 13) (q 14) (q 15), aI (q 15) (c 15) 5, aI (q 14) (c 14) 5, aI (q 13) (c 13) 5, aI (q 12) (c 12) 5, aI (q 39) (c 39) 61, bsE (q 30), oA (q 29) (c 29) 4 (va_up (va_up (va_up (va_up (fun _ => none) (0 : Int32).toNatClampNeg (some (q 31))) (1 : Int32).toNatClampNeg (some (q 33))) (2 : Int32).toNatClampNeg (some (q 35))) (3 : Int32).toNatClampNeg (some (q 37))), snE (q 25) (q 26) (q 27) (q 28), aI (q 28) (c 28) 6, aI (q 27) (c 27) 6, aI (q 26) (c 26) 6, rdE (q 23) (q 24), aI (q 24) (c 24) 160, aI (q 22) (c 22) 2, oA (q 21) (c 21) 2 (va_up (va_up (fun _ => none) (0 : Int32).toNatClampNeg (some (q 11))) (1 : Int32).toNatClampNeg (some (q 16))), bmE (q 6) (q 7) (q 8) (q 9) (q 10), aI (q 10) (c 10) 5, aI (q 9) (c 9) 5, aI (q 8) (c 8) 5, aI (q 7) (c 7) 5, bmE (q 1) (q 2) (q 3) (q 4) (q 5), aI (q 5) (c 5) 5, aI (q 4) (c 4) 5, aI (q 3) (c 3) 5, aI (q 2) (c 2) 5]
def t5L (c : Nat → ClassId) : TyL := [((c 38), .int), ((c 36), .int), ((c 34), .int), ((c 32), .int), ((c 20), .int), ((c 19), .int), ((c 18), .int), ((c 17), .int), ((c 15), .int), ((c 14), .int), ((c 13), .int), ((c 12), .int), ((c 39), .int), ((c 29), .object RX4), ((c 28), .int), ((c 27), .int), ((c 26), .int), ((c 24), .byte), ((c 22), .boolean), ((c 21), .object RX0), ((c 10), .int), ((c 9), .int), ((c 8), .int), ((c 7), .int), ((c 5), .int), ((c 4), .int), ((c 3), .int), ((c 2), .int)]
set_option maxHeartbeats 4000000 in
set_option maxRecDepth 100000 in
theorem iX5 (l : Launch) (D : va_G) (A : Nat → Prop) (h0 : Nat) : Ic l D A mX5_init ({ frames := 2, cells := 39, slots := 543, locals := 32 }) 39 543 h0 [] [(h0, .inr (5, [.null, .null, .null, .null, .null, .null, .null, .null, .null, .int 0, .int 0]))] (fun t2 w2 => ∃ (q : Nat → Nat) (c : Nat → ClassId), q 0 = h0 ∧ t2 = t5L c ∧ w2 = w5L q c) := by
  refine ic_of (by decide +kernel) rfl (Nat.le_of_ble_eq_true rfl) ?_
  refine gc_aload 0 dX5_init_0 0 rfl ?_
  refine gc_obj obX5_3 obI obC (Nat.le_of_ble_eq_true rfl) (Nat.le_of_ble_eq_true rfl) dX5_init_1 ?_
  refine gc_aload 0 dX5_init_4 0 rfl ?_
  refine gc_new (ci := 0) (tyT := tyX0) [.null, .null, .null, .null, .int 0, .int 0, .int 0] uwX0 tyX0_ok clX5_9 inX0 iiX0 rfl (by decide) (Nat.le_of_ble_eq_true rfl) (Nat.le_of_ble_eq_true rfl) dX5_init_5 (fun o1 => ?_)
  refine gc_dup dX5_init_8 rfl ?_
  refine gc_init (iX0 l D A o1 _ _) okX0_init rfl rfl insX0_init (fun U h => h.1.1) rfl rfl ⟨(Nat.le_of_ble_eq_true rfl), (Nat.le_of_ble_eq_true rfl)⟩ (Nat.le_of_ble_eq_true rfl) (Nat.le_of_ble_eq_true rfl) (Nat.le_of_ble_eq_true rfl) dX5_init_9 (fun t_ w_ hw => ?_)
  obtain ⟨o1a, o1b, o1c, o1d, zo1a, zo1b, zo1c, zo1d, rfl, rfl⟩ := hw
  refine gc_perm ([(h0, .inr (5, [.null, .null, .null, .null, .null, .null, .null, .null, .null, .int 0, .int 0])), bmE o1 o1a o1b o1c o1d, aI o1d zo1d 5, aI o1c zo1c 5, aI o1b zo1b 5, aI o1a zo1a 5]) (List.perm_middle (l₁ := [_, _, _, _, _])).symm ?_
  refine gc_putF (fs2 := [.ref o1, .null, .null, .null, .null, .null, .null, .null, .null, .int 0, .int 0]) 0 uwX5 tyX5_ok nmX5 rfl (by decide) flX5_12 rfl rfl rfl rfl (Nat.le_of_ble_eq_true rfl) rfl dX5_init_12 ?_
  refine gc_aload 0 dX5_init_15 0 rfl ?_
  refine gc_new (ci := 0) (tyT := tyX0) [.null, .null, .null, .null, .int 0, .int 0, .int 0] uwX0 tyX0_ok clX5_9 inX0 iiX0 rfl (by decide) (Nat.le_of_ble_eq_true rfl) (Nat.le_of_ble_eq_true rfl) dX5_init_16 (fun o3 => ?_)
  refine gc_dup dX5_init_19 rfl ?_
  refine gc_init (iX0 l D A o3 _ _) okX0_init rfl rfl insX0_init (fun U h => h.1.1) rfl rfl ⟨(Nat.le_of_ble_eq_true rfl), (Nat.le_of_ble_eq_true rfl)⟩ (Nat.le_of_ble_eq_true rfl) (Nat.le_of_ble_eq_true rfl) (Nat.le_of_ble_eq_true rfl) dX5_init_20 (fun t_ w_ hw => ?_)
  obtain ⟨o3a, o3b, o3c, o3d, zo3a, zo3b, zo3c, zo3d, rfl, rfl⟩ := hw
  refine gc_perm ([(h0, .inr (5, [.ref o1, .null, .null, .null, .null, .null, .null, .null, .null, .int 0, .int 0])), bmE o3 o3a o3b o3c o3d, aI o3d zo3d 5, aI o3c zo3c 5, aI o3b zo3b 5, aI o3a zo3a 5, bmE o1 o1a o1b o1c o1d, aI o1d zo1d 5, aI o1c zo1c 5, aI o1b zo1b 5, aI o1a zo1a 5]) (List.perm_middle (l₁ := [_, _, _, _, _])).symm ?_
  refine gc_putF (fs2 := [.ref o1, .ref o3, .null, .null, .null, .null, .null, .null, .null, .int 0, .int 0]) 1 uwX5 tyX5_ok nmX5 rfl (by decide) flX5_16 rfl rfl rfl rfl (Nat.le_of_ble_eq_true rfl) rfl dX5_init_23 ?_
  refine gc_aload 0 dX5_init_26 0 rfl ?_
  refine gc_iconst (v := 2) dX5_init_27 (by decide) ?_
  refine gc_anew 2 clX5_9 (fun U h => h.2.1) (by decide) (by decide) (Nat.le_of_ble_eq_true rfl) (Nat.le_of_ble_eq_true rfl) (Nat.le_of_ble_eq_true rfl) dX5_init_28 (fun x5 y5 => ?_)
  refine gc_putF (fs2 := [.ref o1, .ref o3, .ref x5, .null, .null, .null, .null, .null, .null, .int 0, .int 0]) 2 uwX5 tyX5_ok nmX5 rfl (by decide) flX5_19 rfl rfl rfl rfl (Nat.le_of_ble_eq_true rfl) rfl dX5_init_31 ?_
  refine gc_aload 0 dX5_init_34 0 rfl ?_
  refine gc_iconst (v := 2) dX5_init_35 (by decide) ?_
  refine gc_newa 2 ac_boolean rfl (fun _ => rfl) (by decide) (by decide) (Nat.le_of_ble_eq_true rfl) (Nat.le_of_ble_eq_true rfl) (Nat.le_of_ble_eq_true rfl) dX5_init_36 (fun x6 y6 => ?_)
  refine gc_putF (fs2 := [.ref o1, .ref o3, .ref x5, .ref x6, .null, .null, .null, .null, .null, .int 0, .int 0]) 3 uwX5 tyX5_ok nmX5 rfl (by decide) flX5_23 rfl rfl rfl rfl (Nat.le_of_ble_eq_true rfl) rfl dX5_init_38 ?_
  refine gc_aload 0 dX5_init_41 0 rfl ?_
  refine gc_new (ci := 2) (tyT := tyX2) [.null, .int 0, .int 0, .int 0, .int 0, .int 0, .int 0, .int 0, .int 0] uwX2 tyX2_ok clX5_27 inX2 iiX2 rfl (by decide) (Nat.le_of_ble_eq_true rfl) (Nat.le_of_ble_eq_true rfl) dX5_init_42 (fun o7 => ?_)
  refine gc_dup dX5_init_45 rfl ?_
  refine gc_init (iX2 l D A o7 _ _) okX2_init rfl rfl insX2_init (fun U h => h.1.2.1) rfl rfl ⟨(Nat.le_of_ble_eq_true rfl), (Nat.le_of_ble_eq_true rfl)⟩ (Nat.le_of_ble_eq_true rfl) (Nat.le_of_ble_eq_true rfl) (Nat.le_of_ble_eq_true rfl) dX5_init_46 (fun t_ w_ hw => ?_)
  obtain ⟨o7a, zo7a, rfl, rfl⟩ := hw
  refine gc_perm ([(h0, .inr (5, [.ref o1, .ref o3, .ref x5, .ref x6, .null, .null, .null, .null, .null, .int 0, .int 0])), rdE o7 o7a, aI o7a zo7a 160, aI x6 y6 2, oA x5 y5 2 (fun _ => none), bmE o3 o3a o3b o3c o3d, aI o3d zo3d 5, aI o3c zo3c 5, aI o3b zo3b 5, aI o3a zo3a 5, bmE o1 o1a o1b o1c o1d, aI o1d zo1d 5, aI o1c zo1c 5, aI o1b zo1b 5, aI o1a zo1a 5]) (List.perm_middle (l₁ := [_, _])).symm ?_
  refine gc_putF (fs2 := [.ref o1, .ref o3, .ref x5, .ref x6, .ref o7, .null, .null, .null, .null, .int 0, .int 0]) 4 uwX5 tyX5_ok nmX5 rfl (by decide) flX5_30 rfl rfl rfl rfl (Nat.le_of_ble_eq_true rfl) rfl dX5_init_49 ?_
  refine gc_aload 0 dX5_init_52 0 rfl ?_
  refine gc_new (ci := 3) (tyT := tyX3) [.null, .null, .null, .int 0] uwX3 tyX3_ok clX5_34 inX3 iiX3 rfl (by decide) (Nat.le_of_ble_eq_true rfl) (Nat.le_of_ble_eq_true rfl) dX5_init_53 (fun o9 => ?_)
  refine gc_dup dX5_init_56 rfl ?_
  refine gc_init (iX3 l D A o9 _ _) okX3_init rfl rfl insX3_init (fun U h => h.1.2.2.1) rfl rfl ⟨(Nat.le_of_ble_eq_true rfl), (Nat.le_of_ble_eq_true rfl)⟩ (Nat.le_of_ble_eq_true rfl) (Nat.le_of_ble_eq_true rfl) (Nat.le_of_ble_eq_true rfl) dX5_init_57 (fun t_ w_ hw => ?_)
  obtain ⟨o9a, o9b, o9c, zo9a, zo9b, zo9c, rfl, rfl⟩ := hw
  refine gc_perm ([(h0, .inr (5, [.ref o1, .ref o3, .ref x5, .ref x6, .ref o7, .null, .null, .null, .null, .int 0, .int 0])), snE o9 o9a o9b o9c, aI o9c zo9c 6, aI o9b zo9b 6, aI o9a zo9a 6, rdE o7 o7a, aI o7a zo7a 160, aI x6 y6 2, oA x5 y5 2 (fun _ => none), bmE o3 o3a o3b o3c o3d, aI o3d zo3d 5, aI o3c zo3c 5, aI o3b zo3b 5, aI o3a zo3a 5, bmE o1 o1a o1b o1c o1d, aI o1d zo1d 5, aI o1c zo1c 5, aI o1b zo1b 5, aI o1a zo1a 5]) (List.perm_middle (l₁ := [_, _, _, _])).symm ?_
  refine gc_putF (fs2 := [.ref o1, .ref o3, .ref x5, .ref x6, .ref o7, .ref o9, .null, .null, .null, .int 0, .int 0]) 5 uwX5 tyX5_ok nmX5 rfl (by decide) flX5_37 rfl rfl rfl rfl (Nat.le_of_ble_eq_true rfl) rfl dX5_init_60 ?_
  refine gc_aload 0 dX5_init_63 0 rfl ?_
  refine gc_iconst (v := 4) dX5_init_64 (by decide) ?_
  refine gc_anew 4 clX5_41 (fun U h => h.2.2) (by decide) (by decide) (Nat.le_of_ble_eq_true rfl) (Nat.le_of_ble_eq_true rfl) (Nat.le_of_ble_eq_true rfl) dX5_init_65 (fun x11 y11 => ?_)
  refine gc_putF (fs2 := [.ref o1, .ref o3, .ref x5, .ref x6, .ref o7, .ref o9, .ref x11, .null, .null, .int 0, .int 0]) 6 uwX5 tyX5_ok nmX5 rfl (by decide) flX5_43 rfl rfl rfl rfl (Nat.le_of_ble_eq_true rfl) rfl dX5_init_68 ?_
  refine gc_aload 0 dX5_init_71 0 rfl ?_
  refine gc_new (ci := 1) (tyT := tyX1) [.int 0, .int 0, .int 0] uwX1 tyX1_ok clX5_47 inX1 iiX1 rfl (by decide) (Nat.le_of_ble_eq_true rfl) (Nat.le_of_ble_eq_true rfl) dX5_init_72 (fun o12 => ?_)
  refine gc_dup dX5_init_75 rfl ?_
  refine gc_init (iX1 l D A o12 _ _) okX1_init rfl rfl insX1_init (fun U h => h.1.2.2.2.1) rfl rfl ⟨(Nat.le_of_ble_eq_true rfl), (Nat.le_of_ble_eq_true rfl)⟩ (Nat.le_of_ble_eq_true rfl) (Nat.le_of_ble_eq_true rfl) (Nat.le_of_ble_eq_true rfl) dX5_init_76 (fun t_ w_ hw => ?_)
  obtain ⟨rfl, rfl⟩ := hw
  refine gc_perm ([(h0, .inr (5, [.ref o1, .ref o3, .ref x5, .ref x6, .ref o7, .ref o9, .ref x11, .null, .null, .int 0, .int 0])), bsE o12, oA x11 y11 4 (fun _ => none), snE o9 o9a o9b o9c, aI o9c zo9c 6, aI o9b zo9b 6, aI o9a zo9a 6, rdE o7 o7a, aI o7a zo7a 160, aI x6 y6 2, oA x5 y5 2 (fun _ => none), bmE o3 o3a o3b o3c o3d, aI o3d zo3d 5, aI o3c zo3c 5, aI o3b zo3b 5, aI o3a zo3a 5, bmE o1 o1a o1b o1c o1d, aI o1d zo1d 5, aI o1c zo1c 5, aI o1b zo1b 5, aI o1a zo1a 5]) (List.perm_middle (l₁ := [_])).symm ?_
  refine gc_putF (fs2 := [.ref o1, .ref o3, .ref x5, .ref x6, .ref o7, .ref o9, .ref x11, .ref o12, .null, .int 0, .int 0]) 7 uwX5 tyX5_ok nmX5 rfl (by decide) flX5_50 rfl rfl rfl rfl (Nat.le_of_ble_eq_true rfl) rfl dX5_init_79 ?_
  refine gc_aload 0 dX5_init_82 0 rfl ?_
  refine gc_bipush (v := 61) dX5_init_83 (by decide) ?_
  refine gc_newa 61 ac_int rfl (fun _ => rfl) (by decide) (by decide) (Nat.le_of_ble_eq_true rfl) (Nat.le_of_ble_eq_true rfl) (Nat.le_of_ble_eq_true rfl) dX5_init_85 (fun x14 y14 => ?_)
  refine gc_putF (fs2 := [.ref o1, .ref o3, .ref x5, .ref x6, .ref o7, .ref o9, .ref x11, .ref o12, .ref x14, .int 0, .int 0]) 8 uwX5 tyX5_ok nmX5 rfl (by decide) flX5_54 rfl rfl rfl rfl (Nat.le_of_ble_eq_true rfl) rfl dX5_init_87 ?_
  refine gc_iconst (v := 0) dX5_init_90 (by decide) ?_
  refine gc_istore (L2 := [(1, .int 0), (0, .ref h0)]) 1 dX5_init_91 (by decide) rfl ?_
  refine gc_iload 1 dX5_init_92 0 rfl ?_
  refine gc_iconst (v := 2) dX5_init_93 (by decide) ?_
  refine gc_geF 116 dX5_init_94 (by decide) (by decide) ?_
  refine gc_aload 0 dX5_init_97 1 rfl ?_
  refine gc_get (v := .ref x5) 2 uwX5 rfl (by decide) flX5_19 rfl dX5_init_98 ?_
  refine gc_iload 1 dX5_init_101 0 rfl ?_
  refine gc_new (ci := 0) (tyT := tyX0) [.null, .null, .null, .null, .int 0, .int 0, .int 0] uwX0 tyX0_ok clX5_9 inX0 iiX0 rfl (by decide) (Nat.le_of_ble_eq_true rfl) (Nat.le_of_ble_eq_true rfl) dX5_init_102 (fun o15 => ?_)
  refine gc_dup dX5_init_105 rfl ?_
  refine gc_init (iX0 l D A o15 _ _) okX0_init rfl rfl insX0_init (fun U h => h.1.1) rfl rfl ⟨(Nat.le_of_ble_eq_true rfl), (Nat.le_of_ble_eq_true rfl)⟩ (Nat.le_of_ble_eq_true rfl) (Nat.le_of_ble_eq_true rfl) (Nat.le_of_ble_eq_true rfl) dX5_init_106 (fun t_ w_ hw => ?_)
  obtain ⟨o15a, o15b, o15c, o15d, zo15a, zo15b, zo15c, zo15d, rfl, rfl⟩ := hw
  refine gc_aast (r := (RX0, TX0, 7)) (ci := 0) (ws2 := [bmE o15 o15a o15b o15c o15d, aI o15d zo15d 5, aI o15c zo15c 5, aI o15b zo15b 5, aI o15a zo15a 5, (h0, .inr (5, [.ref o1, .ref o3, .ref x5, .ref x6, .ref o7, .ref o9, .ref x11, .ref o12, .ref x14, .int 0, .int 0])), aI x14 y14 61, bsE o12, oA x11 y11 4 (fun _ => none), snE o9 o9a o9b o9c, aI o9c zo9c 6, aI o9b zo9b 6, aI o9a zo9a 6, rdE o7 o7a, aI o7a zo7a 160, aI x6 y6 2, oA x5 y5 2 (va_up (fun _ => none) (0 : Int32).toNatClampNeg (some o15)), bmE o3 o3a o3b o3c o3d, aI o3d zo3d 5, aI o3c zo3c 5, aI o3b zo3b 5, aI o3a zo3a 5, bmE o1 o1a o1b o1c o1d, aI o1d zo1d 5, aI o1c zo1c 5, aI o1b zo1b 5, aI o1a zo1a 5]) 16 11 0 rfl rfl rfl rfl (nin (a := 0) (by decide) (by decide)) rfl dX5_init_109 ?_
  refine gc_perm ([(h0, .inr (5, [.ref o1, .ref o3, .ref x5, .ref x6, .ref o7, .ref o9, .ref x11, .ref o12, .ref x14, .int 0, .int 0])), bmE o15 o15a o15b o15c o15d, aI o15d zo15d 5, aI o15c zo15c 5, aI o15b zo15b 5, aI o15a zo15a 5, aI x14 y14 61, bsE o12, oA x11 y11 4 (fun _ => none), snE o9 o9a o9b o9c, aI o9c zo9c 6, aI o9b zo9b 6, aI o9a zo9a 6, rdE o7 o7a, aI o7a zo7a 160, aI x6 y6 2, oA x5 y5 2 (va_up (fun _ => none) (0 : Int32).toNatClampNeg (some o15)), bmE o3 o3a o3b o3c o3d, aI o3d zo3d 5, aI o3c zo3c 5, aI o3b zo3b 5, aI o3a zo3a 5, bmE o1 o1a o1b o1c o1d, aI o1d zo1d 5, aI o1c zo1c 5, aI o1b zo1b 5, aI o1a zo1a 5]) (List.perm_middle (l₁ := [_, _, _, _, _])).symm ?_
  refine gc_iinc (v := 1) (L2 := [(1, .int 1), (0, .ref h0)]) dX5_init_110 0 rfl (by decide) (by decide) rfl ?_
  refine gc_goto 92 dX5_init_113 (by decide) ?_
  refine gc_iload 1 dX5_init_92 0 rfl ?_
  refine gc_iconst (v := 2) dX5_init_93 (by decide) ?_
  refine gc_geF 116 dX5_init_94 (by decide) (by decide) ?_
  refine gc_aload 0 dX5_init_97 1 rfl ?_
  refine gc_get (v := .ref x5) 2 uwX5 rfl (by decide) flX5_19 rfl dX5_init_98 ?_
  refine gc_iload 1 dX5_init_101 0 rfl ?_
  refine gc_new (ci := 0) (tyT := tyX0) [.null, .null, .null, .null, .int 0, .int 0, .int 0] uwX0 tyX0_ok clX5_9 inX0 iiX0 rfl (by decide) (Nat.le_of_ble_eq_true rfl) (Nat.le_of_ble_eq_true rfl) dX5_init_102 (fun o17 => ?_)
  refine gc_dup dX5_init_105 rfl ?_
  refine gc_init (iX0 l D A o17 _ _) okX0_init rfl rfl insX0_init (fun U h => h.1.1) rfl rfl ⟨(Nat.le_of_ble_eq_true rfl), (Nat.le_of_ble_eq_true rfl)⟩ (Nat.le_of_ble_eq_true rfl) (Nat.le_of_ble_eq_true rfl) (Nat.le_of_ble_eq_true rfl) dX5_init_106 (fun t_ w_ hw => ?_)
  obtain ⟨o17a, o17b, o17c, o17d, zo17a, zo17b, zo17c, zo17d, rfl, rfl⟩ := hw
  refine gc_aast (r := (RX0, TX0, 7)) (ci := 0) (ws2 := [bmE o17 o17a o17b o17c o17d, aI o17d zo17d 5, aI o17c zo17c 5, aI o17b zo17b 5, aI o17a zo17a 5, (h0, .inr (5, [.ref o1, .ref o3, .ref x5, .ref x6, .ref o7, .ref o9, .ref x11, .ref o12, .ref x14, .int 0, .int 0])), bmE o15 o15a o15b o15c o15d, aI o15d zo15d 5, aI o15c zo15c 5, aI o15b zo15b 5, aI o15a zo15a 5, aI x14 y14 61, bsE o12, oA x11 y11 4 (fun _ => none), snE o9 o9a o9b o9c, aI o9c zo9c 6, aI o9b zo9b 6, aI o9a zo9a 6, rdE o7 o7a, aI o7a zo7a 160, aI x6 y6 2, oA x5 y5 2 (va_up (va_up (fun _ => none) (0 : Int32).toNatClampNeg (some o15)) (1 : Int32).toNatClampNeg (some o17)), bmE o3 o3a o3b o3c o3d, aI o3d zo3d 5, aI o3c zo3c 5, aI o3b zo3b 5, aI o3a zo3a 5, bmE o1 o1a o1b o1c o1d, aI o1d zo1d 5, aI o1c zo1c 5, aI o1b zo1b 5, aI o1a zo1a 5]) 21 15 0 rfl rfl rfl rfl (nin (a := 1) (by decide) (by decide)) rfl dX5_init_109 ?_
  refine gc_perm ([(h0, .inr (5, [.ref o1, .ref o3, .ref x5, .ref x6, .ref o7, .ref o9, .ref x11, .ref o12, .ref x14, .int 0, .int 0])), bmE o17 o17a o17b o17c o17d, aI o17d zo17d 5, aI o17c zo17c 5, aI o17b zo17b 5, aI o17a zo17a 5, bmE o15 o15a o15b o15c o15d, aI o15d zo15d 5, aI o15c zo15c 5, aI o15b zo15b 5, aI o15a zo15a 5, aI x14 y14 61, bsE o12, oA x11 y11 4 (fun _ => none), snE o9 o9a o9b o9c, aI o9c zo9c 6, aI o9b zo9b 6, aI o9a zo9a 6, rdE o7 o7a, aI o7a zo7a 160, aI x6 y6 2, oA x5 y5 2 (va_up (va_up (fun _ => none) (0 : Int32).toNatClampNeg (some o15)) (1 : Int32).toNatClampNeg (some o17)), bmE o3 o3a o3b o3c o3d, aI o3d zo3d 5, aI o3c zo3c 5, aI o3b zo3b 5, aI o3a zo3a 5, bmE o1 o1a o1b o1c o1d, aI o1d zo1d 5, aI o1c zo1c 5, aI o1b zo1b 5, aI o1a zo1a 5]) (List.perm_middle (l₁ := [_, _, _, _, _])).symm ?_
  refine gc_iinc (v := 2) (L2 := [(1, .int 2), (0, .ref h0)]) dX5_init_110 0 rfl (by decide) (by decide) rfl ?_
  refine gc_goto 92 dX5_init_113 (by decide) ?_
  refine gc_iload 1 dX5_init_92 0 rfl ?_
  refine gc_iconst (v := 2) dX5_init_93 (by decide) ?_
  refine gc_geT 116 dX5_init_94 (by decide) (by decide) ?_
  refine gc_iconst (v := 0) dX5_init_116 (by decide) ?_
  refine gc_istore (L2 := [(1, .int 0), (0, .ref h0)]) 1 dX5_init_117 (by decide) rfl ?_
  refine gc_iload 1 dX5_init_118 0 rfl ?_
  refine gc_iconst (v := 4) dX5_init_119 (by decide) ?_
  refine gc_geF 142 dX5_init_120 (by decide) (by decide) ?_
  refine gc_aload 0 dX5_init_123 1 rfl ?_
  refine gc_get (v := .ref x11) 6 uwX5 rfl (by decide) flX5_43 rfl dX5_init_124 ?_
  refine gc_iload 1 dX5_init_127 0 rfl ?_
  refine gc_new (ci := 4) (tyT := tyX4) [.null, .int 0, .int 0] uwX4 tyX4_ok clX5_41 inX4 iiX4 rfl (by decide) (Nat.le_of_ble_eq_true rfl) (Nat.le_of_ble_eq_true rfl) dX5_init_128 (fun o19 => ?_)
  refine gc_dup dX5_init_131 rfl ?_
  refine gc_init (iX4 l D A o19 _ _) okX4_init rfl rfl insX4_init (fun U h => h.1.2.2.2.2) rfl rfl ⟨(Nat.le_of_ble_eq_true rfl), (Nat.le_of_ble_eq_true rfl)⟩ (Nat.le_of_ble_eq_true rfl) (Nat.le_of_ble_eq_true rfl) (Nat.le_of_ble_eq_true rfl) dX5_init_132 (fun t_ w_ hw => ?_)
  obtain ⟨o19a, zo19a, rfl, rfl⟩ := hw
  refine gc_aast (r := (RX4, TX4, 3)) (ci := 4) (ws2 := [shE o19 o19a, aI o19a zo19a 40, (h0, .inr (5, [.ref o1, .ref o3, .ref x5, .ref x6, .ref o7, .ref o9, .ref x11, .ref o12, .ref x14, .int 0, .int 0])), bmE o17 o17a o17b o17c o17d, aI o17d zo17d 5, aI o17c zo17c 5, aI o17b zo17b 5, aI o17a zo17a 5, bmE o15 o15a o15b o15c o15d, aI o15d zo15d 5, aI o15c zo15c 5, aI o15b zo15b 5, aI o15a zo15a 5, aI x14 y14 61, bsE o12, oA x11 y11 4 (va_up (fun _ => none) (0 : Int32).toNatClampNeg (some o19)), snE o9 o9a o9b o9c, aI o9c zo9c 6, aI o9b zo9b 6, aI o9a zo9a 6, rdE o7 o7a, aI o7a zo7a 160, aI x6 y6 2, oA x5 y5 2 (va_up (va_up (fun _ => none) (0 : Int32).toNatClampNeg (some o15)) (1 : Int32).toNatClampNeg (some o17)), bmE o3 o3a o3b o3c o3d, aI o3d zo3d 5, aI o3c zo3c 5, aI o3b zo3b 5, aI o3a zo3a 5, bmE o1 o1a o1b o1c o1d, aI o1d zo1d 5, aI o1c zo1c 5, aI o1b zo1b 5, aI o1a zo1a 5]) 15 10 0 rfl rfl rfl rfl (nin (a := 0) (by decide) (by decide)) rfl dX5_init_135 ?_
  refine gc_perm ([(h0, .inr (5, [.ref o1, .ref o3, .ref x5, .ref x6, .ref o7, .ref o9, .ref x11, .ref o12, .ref x14, .int 0, .int 0])), shE o19 o19a, aI o19a zo19a 40, bmE o17 o17a o17b o17c o17d, aI o17d zo17d 5, aI o17c zo17c 5, aI o17b zo17b 5, aI o17a zo17a 5, bmE o15 o15a o15b o15c o15d, aI o15d zo15d 5, aI o15c zo15c 5, aI o15b zo15b 5, aI o15a zo15a 5, aI x14 y14 61, bsE o12, oA x11 y11 4 (va_up (fun _ => none) (0 : Int32).toNatClampNeg (some o19)), snE o9 o9a o9b o9c, aI o9c zo9c 6, aI o9b zo9b 6, aI o9a zo9a 6, rdE o7 o7a, aI o7a zo7a 160, aI x6 y6 2, oA x5 y5 2 (va_up (va_up (fun _ => none) (0 : Int32).toNatClampNeg (some o15)) (1 : Int32).toNatClampNeg (some o17)), bmE o3 o3a o3b o3c o3d, aI o3d zo3d 5, aI o3c zo3c 5, aI o3b zo3b 5, aI o3a zo3a 5, bmE o1 o1a o1b o1c o1d, aI o1d zo1d 5, aI o1c zo1c 5, aI o1b zo1b 5, aI o1a zo1a 5]) (List.perm_middle (l₁ := [_, _])).symm ?_
  refine gc_iinc (v := 1) (L2 := [(1, .int 1), (0, .ref h0)]) dX5_init_136 0 rfl (by decide) (by decide) rfl ?_
  refine gc_goto 118 dX5_init_139 (by decide) ?_
  refine gc_iload 1 dX5_init_118 0 rfl ?_
  refine gc_iconst (v := 4) dX5_init_119 (by decide) ?_
  refine gc_geF 142 dX5_init_120 (by decide) (by decide) ?_
  refine gc_aload 0 dX5_init_123 1 rfl ?_
  refine gc_get (v := .ref x11) 6 uwX5 rfl (by decide) flX5_43 rfl dX5_init_124 ?_
  refine gc_iload 1 dX5_init_127 0 rfl ?_
  refine gc_new (ci := 4) (tyT := tyX4) [.null, .int 0, .int 0] uwX4 tyX4_ok clX5_41 inX4 iiX4 rfl (by decide) (Nat.le_of_ble_eq_true rfl) (Nat.le_of_ble_eq_true rfl) dX5_init_128 (fun o21 => ?_)
  refine gc_dup dX5_init_131 rfl ?_
  refine gc_init (iX4 l D A o21 _ _) okX4_init rfl rfl insX4_init (fun U h => h.1.2.2.2.2) rfl rfl ⟨(Nat.le_of_ble_eq_true rfl), (Nat.le_of_ble_eq_true rfl)⟩ (Nat.le_of_ble_eq_true rfl) (Nat.le_of_ble_eq_true rfl) (Nat.le_of_ble_eq_true rfl) dX5_init_132 (fun t_ w_ hw => ?_)
  obtain ⟨o21a, zo21a, rfl, rfl⟩ := hw
  refine gc_aast (r := (RX4, TX4, 3)) (ci := 4) (ws2 := [shE o21 o21a, aI o21a zo21a 40, (h0, .inr (5, [.ref o1, .ref o3, .ref x5, .ref x6, .ref o7, .ref o9, .ref x11, .ref o12, .ref x14, .int 0, .int 0])), shE o19 o19a, aI o19a zo19a 40, bmE o17 o17a o17b o17c o17d, aI o17d zo17d 5, aI o17c zo17c 5, aI o17b zo17b 5, aI o17a zo17a 5, bmE o15 o15a o15b o15c o15d, aI o15d zo15d 5, aI o15c zo15c 5, aI o15b zo15b 5, aI o15a zo15a 5, aI x14 y14 61, bsE o12, oA x11 y11 4 (va_up (va_up (fun _ => none) (0 : Int32).toNatClampNeg (some o19)) (1 : Int32).toNatClampNeg (some o21)), snE o9 o9a o9b o9c, aI o9c zo9c 6, aI o9b zo9b 6, aI o9a zo9a 6, rdE o7 o7a, aI o7a zo7a 160, aI x6 y6 2, oA x5 y5 2 (va_up (va_up (fun _ => none) (0 : Int32).toNatClampNeg (some o15)) (1 : Int32).toNatClampNeg (some o17)), bmE o3 o3a o3b o3c o3d, aI o3d zo3d 5, aI o3c zo3c 5, aI o3b zo3b 5, aI o3a zo3a 5, bmE o1 o1a o1b o1c o1d, aI o1d zo1d 5, aI o1c zo1c 5, aI o1b zo1b 5, aI o1a zo1a 5]) 17 11 0 rfl rfl rfl rfl (nin (a := 1) (by decide) (by decide)) rfl dX5_init_135 ?_
  refine gc_perm ([(h0, .inr (5, [.ref o1, .ref o3, .ref x5, .ref x6, .ref o7, .ref o9, .ref x11, .ref o12, .ref x14, .int 0, .int 0])), shE o21 o21a, aI o21a zo21a 40, shE o19 o19a, aI o19a zo19a 40, bmE o17 o17a o17b o17c o17d, aI o17d zo17d 5, aI o17c zo17c 5, aI o17b zo17b 5, aI o17a zo17a 5, bmE o15 o15a o15b o15c o15d, aI o15d zo15d 5, aI o15c zo15c 5, aI o15b zo15b 5, aI o15a zo15a 5, aI x14 y14 61, bsE o12, oA x11 y11 4 (va_up (va_up (fun _ => none) (0 : Int32).toNatClampNeg (some o19)) (1 : Int32).toNatClampNeg (some o21)), snE o9 o9a o9b o9c, aI o9c zo9c 6, aI o9b zo9b 6, aI o9a zo9a 6, rdE o7 o7a, aI o7a zo7a 160, aI x6 y6 2, oA x5 y5 2 (va_up (va_up (fun _ => none) (0 : Int32).toNatClampNeg (some o15)) (1 : Int32).toNatClampNeg (some o17)), bmE o3 o3a o3b o3c o3d, aI o3d zo3d 5, aI o3c zo3c 5, aI o3b zo3b 5, aI o3a zo3a 5, bmE o1 o1a o1b o1c o1d, aI o1d zo1d 5, aI o1c zo1c 5, aI o1b zo1b 5, aI o1a zo1a 5]) (List.perm_middle (l₁ := [_, _])).symm ?_
  refine gc_iinc (v := 2) (L2 := [(1, .int 2), (0, .ref h0)]) dX5_init_136 0 rfl (by decide) (by decide) rfl ?_
  refine gc_goto 118 dX5_init_139 (by decide) ?_
  refine gc_iload 1 dX5_init_118 0 rfl ?_
  refine gc_iconst (v := 4) dX5_init_119 (by decide) ?_
  refine gc_geF 142 dX5_init_120 (by decide) (by decide) ?_
  refine gc_aload 0 dX5_init_123 1 rfl ?_
  refine gc_get (v := .ref x11) 6 uwX5 rfl (by decide) flX5_43 rfl dX5_init_124 ?_
  refine gc_iload 1 dX5_init_127 0 rfl ?_
  refine gc_new (ci := 4) (tyT := tyX4) [.null, .int 0, .int 0] uwX4 tyX4_ok clX5_41 inX4 iiX4 rfl (by decide) (Nat.le_of_ble_eq_true rfl) (Nat.le_of_ble_eq_true rfl) dX5_init_128 (fun o23 => ?_)
  refine gc_dup dX5_init_131 rfl ?_
  refine gc_init (iX4 l D A o23 _ _) okX4_init rfl rfl insX4_init (fun U h => h.1.2.2.2.2) rfl rfl ⟨(Nat.le_of_ble_eq_true rfl), (Nat.le_of_ble_eq_true rfl)⟩ (Nat.le_of_ble_eq_true rfl) (Nat.le_of_ble_eq_true rfl) (Nat.le_of_ble_eq_true rfl) dX5_init_132 (fun t_ w_ hw => ?_)
  obtain ⟨o23a, zo23a, rfl, rfl⟩ := hw
  refine gc_aast (r := (RX4, TX4, 3)) (ci := 4) (ws2 := [shE o23 o23a, aI o23a zo23a 40, (h0, .inr (5, [.ref o1, .ref o3, .ref x5, .ref x6, .ref o7, .ref o9, .ref x11, .ref o12, .ref x14, .int 0, .int 0])), shE o21 o21a, aI o21a zo21a 40, shE o19 o19a, aI o19a zo19a 40, bmE o17 o17a o17b o17c o17d, aI o17d zo17d 5, aI o17c zo17c 5, aI o17b zo17b 5, aI o17a zo17a 5, bmE o15 o15a o15b o15c o15d, aI o15d zo15d 5, aI o15c zo15c 5, aI o15b zo15b 5, aI o15a zo15a 5, aI x14 y14 61, bsE o12, oA x11 y11 4 (va_up (va_up (va_up (fun _ => none) (0 : Int32).toNatClampNeg (some o19)) (1 : Int32).toNatClampNeg (some o21)) (2 : Int32).toNatClampNeg (some o23)), snE o9 o9a o9b o9c, aI o9c zo9c 6, aI o9b zo9b 6, aI o9a zo9a 6, rdE o7 o7a, aI o7a zo7a 160, aI x6 y6 2, oA x5 y5 2 (va_up (va_up (fun _ => none) (0 : Int32).toNatClampNeg (some o15)) (1 : Int32).toNatClampNeg (some o17)), bmE o3 o3a o3b o3c o3d, aI o3d zo3d 5, aI o3c zo3c 5, aI o3b zo3b 5, aI o3a zo3a 5, bmE o1 o1a o1b o1c o1d, aI o1d zo1d 5, aI o1c zo1c 5, aI o1b zo1b 5, aI o1a zo1a 5]) 19 12 0 rfl rfl rfl rfl (nin (a := 2) (by decide) (by decide)) rfl dX5_init_135 ?_
  refine gc_perm ([(h0, .inr (5, [.ref o1, .ref o3, .ref x5, .ref x6, .ref o7, .ref o9, .ref x11, .ref o12, .ref x14, .int 0, .int 0])), shE o23 o23a, aI o23a zo23a 40, shE o21 o21a, aI o21a zo21a 40, shE o19 o19a, aI o19a zo19a 40, bmE o17 o17a o17b o17c o17d, aI o17d zo17d 5, aI o17c zo17c 5, aI o17b zo17b 5, aI o17a zo17a 5, bmE o15 o15a o15b o15c o15d, aI o15d zo15d 5, aI o15c zo15c 5, aI o15b zo15b 5, aI o15a zo15a 5, aI x14 y14 61, bsE o12, oA x11 y11 4 (va_up (va_up (va_up (fun _ => none) (0 : Int32).toNatClampNeg (some o19)) (1 : Int32).toNatClampNeg (some o21)) (2 : Int32).toNatClampNeg (some o23)), snE o9 o9a o9b o9c, aI o9c zo9c 6, aI o9b zo9b 6, aI o9a zo9a 6, rdE o7 o7a, aI o7a zo7a 160, aI x6 y6 2, oA x5 y5 2 (va_up (va_up (fun _ => none) (0 : Int32).toNatClampNeg (some o15)) (1 : Int32).toNatClampNeg (some o17)), bmE o3 o3a o3b o3c o3d, aI o3d zo3d 5, aI o3c zo3c 5, aI o3b zo3b 5, aI o3a zo3a 5, bmE o1 o1a o1b o1c o1d, aI o1d zo1d 5, aI o1c zo1c 5, aI o1b zo1b 5, aI o1a zo1a 5]) (List.perm_middle (l₁ := [_, _])).symm ?_
  refine gc_iinc (v := 3) (L2 := [(1, .int 3), (0, .ref h0)]) dX5_init_136 0 rfl (by decide) (by decide) rfl ?_
  refine gc_goto 118 dX5_init_139 (by decide) ?_
  refine gc_iload 1 dX5_init_118 0 rfl ?_
  refine gc_iconst (v := 4) dX5_init_119 (by decide) ?_
  refine gc_geF 142 dX5_init_120 (by decide) (by decide) ?_
  refine gc_aload 0 dX5_init_123 1 rfl ?_
  refine gc_get (v := .ref x11) 6 uwX5 rfl (by decide) flX5_43 rfl dX5_init_124 ?_
  refine gc_iload 1 dX5_init_127 0 rfl ?_
  refine gc_new (ci := 4) (tyT := tyX4) [.null, .int 0, .int 0] uwX4 tyX4_ok clX5_41 inX4 iiX4 rfl (by decide) (Nat.le_of_ble_eq_true rfl) (Nat.le_of_ble_eq_true rfl) dX5_init_128 (fun o25 => ?_)
  refine gc_dup dX5_init_131 rfl ?_
  refine gc_init (iX4 l D A o25 _ _) okX4_init rfl rfl insX4_init (fun U h => h.1.2.2.2.2) rfl rfl ⟨(Nat.le_of_ble_eq_true rfl), (Nat.le_of_ble_eq_true rfl)⟩ (Nat.le_of_ble_eq_true rfl) (Nat.le_of_ble_eq_true rfl) (Nat.le_of_ble_eq_true rfl) dX5_init_132 (fun t_ w_ hw => ?_)
  obtain ⟨o25a, zo25a, rfl, rfl⟩ := hw
  refine gc_aast (r := (RX4, TX4, 3)) (ci := 4) (ws2 := [shE o25 o25a, aI o25a zo25a 40, (h0, .inr (5, [.ref o1, .ref o3, .ref x5, .ref x6, .ref o7, .ref o9, .ref x11, .ref o12, .ref x14, .int 0, .int 0])), shE o23 o23a, aI o23a zo23a 40, shE o21 o21a, aI o21a zo21a 40, shE o19 o19a, aI o19a zo19a 40, bmE o17 o17a o17b o17c o17d, aI o17d zo17d 5, aI o17c zo17c 5, aI o17b zo17b 5, aI o17a zo17a 5, bmE o15 o15a o15b o15c o15d, aI o15d zo15d 5, aI o15c zo15c 5, aI o15b zo15b 5, aI o15a zo15a 5, aI x14 y14 61, bsE o12, oA x11 y11 4 (va_up (va_up (va_up (va_up (fun _ => none) (0 : Int32).toNatClampNeg (some o19)) (1 : Int32).toNatClampNeg (some o21)) (2 : Int32).toNatClampNeg (some o23)) (3 : Int32).toNatClampNeg (some o25)), snE o9 o9a o9b o9c, aI o9c zo9c 6, aI o9b zo9b 6, aI o9a zo9a 6, rdE o7 o7a, aI o7a zo7a 160, aI x6 y6 2, oA x5 y5 2 (va_up (va_up (fun _ => none) (0 : Int32).toNatClampNeg (some o15)) (1 : Int32).toNatClampNeg (some o17)), bmE o3 o3a o3b o3c o3d, aI o3d zo3d 5, aI o3c zo3c 5, aI o3b zo3b 5, aI o3a zo3a 5, bmE o1 o1a o1b o1c o1d, aI o1d zo1d 5, aI o1c zo1c 5, aI o1b zo1b 5, aI o1a zo1a 5]) 21 13 0 rfl rfl rfl rfl (nin (a := 3) (by decide) (by decide)) rfl dX5_init_135 ?_
  refine gc_perm ([(h0, .inr (5, [.ref o1, .ref o3, .ref x5, .ref x6, .ref o7, .ref o9, .ref x11, .ref o12, .ref x14, .int 0, .int 0])), shE o25 o25a, aI o25a zo25a 40, shE o23 o23a, aI o23a zo23a 40, shE o21 o21a, aI o21a zo21a 40, shE o19 o19a, aI o19a zo19a 40, bmE o17 o17a o17b o17c o17d, aI o17d zo17d 5, aI o17c zo17c 5, aI o17b zo17b 5, aI o17a zo17a 5, bmE o15 o15a o15b o15c o15d, aI o15d zo15d 5, aI o15c zo15c 5, aI o15b zo15b 5, aI o15a zo15a 5, aI x14 y14 61, bsE o12, oA x11 y11 4 (va_up (va_up (va_up (va_up (fun _ => none) (0 : Int32).toNatClampNeg (some o19)) (1 : Int32).toNatClampNeg (some o21)) (2 : Int32).toNatClampNeg (some o23)) (3 : Int32).toNatClampNeg (some o25)), snE o9 o9a o9b o9c, aI o9c zo9c 6, aI o9b zo9b 6, aI o9a zo9a 6, rdE o7 o7a, aI o7a zo7a 160, aI x6 y6 2, oA x5 y5 2 (va_up (va_up (fun _ => none) (0 : Int32).toNatClampNeg (some o15)) (1 : Int32).toNatClampNeg (some o17)), bmE o3 o3a o3b o3c o3d, aI o3d zo3d 5, aI o3c zo3c 5, aI o3b zo3b 5, aI o3a zo3a 5, bmE o1 o1a o1b o1c o1d, aI o1d zo1d 5, aI o1c zo1c 5, aI o1b zo1b 5, aI o1a zo1a 5]) (List.perm_middle (l₁ := [_, _])).symm ?_
  refine gc_iinc (v := 4) (L2 := [(1, .int 4), (0, .ref h0)]) dX5_init_136 0 rfl (by decide) (by decide) rfl ?_
  refine gc_goto 118 dX5_init_139 (by decide) ?_
  refine gc_iload 1 dX5_init_118 0 rfl ?_
  refine gc_iconst (v := 4) dX5_init_119 (by decide) ?_
  refine gc_geT 142 dX5_init_120 (by decide) (by decide) ?_
  exact gc_ret rfl dX5_init_142 ⟨fun k => ([h0, o1, o1a, o1b, o1c, o1d, o3, o3a, o3b, o3c, o3d, o15, o15a, o15b, o15c, o15d, o17, o17a, o17b, o17c, o17d, x5, x6, o7, o7a, o9, o9a, o9b, o9c, x11, o12, o19, o19a, o21, o21a, o23, o23a, o25, o25a, x14] : List Nat).getD k 0, fun k => ([zo1a, zo1a, zo1a, zo1b, zo1c, zo1d, zo1a, zo3a, zo3b, zo3c, zo3d, zo1a, zo15a, zo15b, zo15c, zo15d, zo1a, zo17a, zo17b, zo17c, zo17d, y5, y6, zo1a, zo7a, zo1a, zo9a, zo9b, zo9c, y11, zo1a, zo1a, zo19a, zo1a, zo21a, zo1a, zo23a, zo1a, zo25a, y14] : List ClassId).getD k zo1a, rfl, rfl, rfl⟩