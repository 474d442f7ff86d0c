def f49 : Nat → Int32 := (upd (upd (upd (upd (fun _ => 0) (0 : Int32).toNatClampNeg (-4)) (1 : Int32).toNatClampNeg (-4)) (2 : Int32).toNatClampNeg (-4)) (3 : Int32).toNatClampNeg (-4))
def f45 : Nat → Int32 := (upd (upd (upd (upd (upd (upd (upd (upd (upd (upd (upd (upd (upd (upd (upd (upd (upd (upd (upd (upd (upd (fun _ => 0) (0 : Int32).toNatClampNeg 112) (1 : Int32).toNatClampNeg 108) (2 : Int32).toNatClampNeg 97) (3 : Int32).toNatClampNeg 105) (4 : Int32).toNatClampNeg 110) (5 : Int32).toNatClampNeg 115) (6 : Int32).toNatClampNeg 111) (7 : Int32).toNatClampNeg 102) (8 : Int32).toNatClampNeg 116) (9 : Int32).toNatClampNeg 104) (10 : Int32).toNatClampNeg 101) (11 : Int32).toNatClampNeg 97) (12 : Int32).toNatClampNeg 118) (13 : Int32).toNatClampNeg 121) (14 : Int32).toNatClampNeg 115) (15 : Int32).toNatClampNeg 104) (16 : Int32).toNatClampNeg 121) (17 : Int32).toNatClampNeg 112) (18 : Int32).toNatClampNeg 117) (19 : Int32).toNatClampNeg 115) (20 : Int32).toNatClampNeg 104)
def f44 : Nat → Int32 := (upd (upd (upd (upd (upd (upd (fun _ => 0) (0 : Int32).toNatClampNeg 0) (1 : Int32).toNatClampNeg 5) (2 : Int32).toNatClampNeg 9) (3 : Int32).toNatClampNeg 14) (4 : Int32).toNatClampNeg 17) (5 : Int32).toNatClampNeg 21)
def w6L (q : Nat → Nat) (c : Nat → ClassId) (rest : va_W) : va_W := ((q 40), .inr (6, [.ref (q 41), .ref (q 42), .int 0, .ref (q 43), .int 0, .int 0, .int 0, .int 0, .int 0, .int 0, .int 0, .int 0, .ref (q 44), .ref (q 45), .int (-4), .int 0, .int 0, .int 0, .ref (q 46), .int 0, .ref (q 47), .ref (q 48), .ref (q 49), .ref (q 50), .ref (q 51), .int 0])) :: aI (q 51) (c 51) 160 :: aI (q 50) (c 50) 4 :: (q 49, .inl (c 49, 4, .inl f49)) :: aI (q 48) (c 48) 2 :: aI (q 47) (c 47) 1830 :: aI (q 46) (c 46) 18 :: (q 45, .inl (c 45, 21, .inl f45)) :: (q 44, .inl (c 44, 6, .inl f44)) :: aI (q 43) (c 43) 160 :: aI (q 42) (c 42) 23 :: aI (q 41) (c 41) 138 :: rest
def t6L (c : Nat → ClassId) (tys : TyL) : TyL := ((c 51), .int) :: ((c 50), .int) :: ((c 49), .int) :: ((c 48), .boolean) :: ((c 47), .int) :: ((c 46), .int) :: ((c 45), .int) :: ((c 44), .int) :: ((c 43), .int) :: ((c 42), .int) :: ((c 41), .int) :: tys
set_option maxHeartbeats 4000000 in
set_option maxRecDepth 100000 in
theorem iX6 (l : Launch) (D : va_G) (A : Nat → Prop) (h0 : Nat) (tys : TyL) (rest : va_W) : Ic l D A mX6_init ({ frames := 1, cells := 11, slots := 2366, locals := 12 }) 11 2366 h0 tys ((h0, .inr (6, [.null, .null, .int 0, .null, .int 0, .int 0, .int 0, .int 0, .int 0, .int 0, .int 0, .int 0, .null, .null, .int 0, .int 0, .int 0, .int 0, .null, .int 0, .null, .null, .null, .null, .null, .int 0])) :: rest) (fun t2 w2 => ∃ (q : Nat → Nat) (c : Nat → ClassId), q 40 = h0 ∧ t2 = t6L c tys ∧ w2 = w6L q c rest) := by
  refine ic_of (by decide +kernel) rfl (Nat.le_of_ble_eq_true rfl) ?_
  refine gc_aload 0 dX6_init_0 0 rfl ?_
  refine gc_obj obX6_1 obI obC (Nat.le_of_ble_eq_true rfl) (Nat.le_of_ble_eq_true rfl) dX6_init_1 ?_
  refine gc_aload 0 dX6_init_4 0 rfl ?_
  refine gc_sipush (v := 138) dX6_init_5 (by decide) ?_
  refine gc_newa 138 ac_int rfl (fun _ => rfl) (by decide) (by decide) (Nat.le_of_ble_eq_true rfl) (Nat.le_of_ble_eq_true rfl) (Nat.le_of_ble_eq_true rfl) dX6_init_8 (fun x1 y1 => ?_)
  refine gc_putF (fs2 := [.ref x1, .null, .int 0, .null, .int 0, .int 0, .int 0, .int 0, .int 0, .int 0, .int 0, .int 0, .null, .null, .int 0, .int 0, .int 0, .int 0, .null, .int 0, .null, .null, .null, .null, .null, .int 0]) 0 uwX6 tyX6_ok nmX6 rfl (by decide) flX6_7 rfl rfl rfl rfl (Nat.le_of_ble_eq_true rfl) rfl dX6_init_10 ?_
  refine gc_aload 0 dX6_init_13 0 rfl ?_
  refine gc_bipush (v := 23) dX6_init_14 (by decide) ?_
  refine gc_newa 23 ac_int rfl (fun _ => rfl) (by decide) (by decide) (Nat.le_of_ble_eq_true rfl) (Nat.le_of_ble_eq_true rfl) (Nat.le_of_ble_eq_true rfl) dX6_init_16 (fun x2 y2 => ?_)
  refine gc_putF (fs2 := [.ref x1, .ref x2, .int 0, .null, .int 0, .int 0, .int 0, .int 0, .int 0, .int 0, .int 0, .int 0, .null, .null, .int 0, .int 0, .int 0, .int 0, .null, .int 0, .null, .null, .null, .null, .null, .int 0]) 1 uwX6 tyX6_ok nmX6 rfl (by decide) flX6_13 rfl rfl rfl rfl (Nat.le_of_ble_eq_true rfl) rfl dX6_init_18 ?_
  refine gc_aload 0 dX6_init_21 0 rfl ?_
  refine gc_sipush (v := 160) dX6_init_22 (by decide) ?_
  refine gc_newa 160 ac_int rfl (fun _ => rfl) (by decide) (by decide) (Nat.le_of_ble_eq_true rfl) (Nat.le_of_ble_eq_true rfl) (Nat.le_of_ble_eq_true rfl) dX6_init_25 (fun x3 y3 => ?_)
  refine gc_putF (fs2 := [.ref x1, .ref x2, .int 0, .ref x3, .int 0, .int 0, .int 0, .int 0, .int 0, .int 0, .int 0, .int 0, .null, .null, .int 0, .int 0, .int 0, .int 0, .null, .int 0, .null, .null, .null, .null, .null, .int 0]) 3 uwX6 tyX6_ok nmX6 rfl (by decide) flX6_16 rfl rfl rfl rfl (Nat.le_of_ble_eq_true rfl) rfl dX6_init_27 ?_
  refine gc_aload 0 dX6_init_30 0 rfl ?_
  refine gc_bipush (v := 6) dX6_init_31 (by decide) ?_
  refine gc_newa 6 ac_int rfl (fun _ => rfl) (by decide) (by decide) (Nat.le_of_ble_eq_true rfl) (Nat.le_of_ble_eq_true rfl) (Nat.le_of_ble_eq_true rfl) dX6_init_33 (fun x4 y4 => ?_)
  refine gc_dup dX6_init_35 rfl ?_
  refine gc_iconst (v := 0) dX6_init_36 (by decide) ?_
  refine gc_iconst (v := 0) dX6_init_37 (by decide) ?_
  refine gc_iast (nin (a := 0) (by decide) (by decide)) dX6_init_38 ?_
  refine gc_dup dX6_init_39 rfl ?_
  refine gc_iconst (v := 1) dX6_init_40 (by decide) ?_
  refine gc_iconst (v := 5) dX6_init_41 (by decide) ?_
  refine gc_iast (nin (a := 1) (by decide) (by decide)) dX6_init_42 ?_
  refine gc_dup dX6_init_43 rfl ?_
  refine gc_iconst (v := 2) dX6_init_44 (by decide) ?_
  refine gc_bipush (v := 9) dX6_init_45 (by decide) ?_
  refine gc_iast (nin (a := 2) (by decide) (by decide)) dX6_init_47 ?_
  refine gc_dup dX6_init_48 rfl ?_
  refine gc_iconst (v := 3) dX6_init_49 (by decide) ?_
  refine gc_bipush (v := 14) dX6_init_50 (by decide) ?_
  refine gc_iast (nin (a := 3) (by decide) (by decide)) dX6_init_52 ?_
  refine gc_dup dX6_init_53 rfl ?_
  refine gc_iconst (v := 4) dX6_init_54 (by decide) ?_
  refine gc_bipush (v := 17) dX6_init_55 (by decide) ?_
  refine gc_iast (nin (a := 4) (by decide) (by decide)) dX6_init_57 ?_
  refine gc_dup dX6_init_58 rfl ?_
  refine gc_iconst (v := 5) dX6_init_59 (by decide) ?_
  refine gc_bipush (v := 21) dX6_init_60 (by decide) ?_
  refine gc_iast (nin (a := 5) (by decide) (by decide)) dX6_init_62 ?_
  refine gc_putF (fs2 := [.ref x1, .ref x2, .int 0, .ref x3, .int 0, .int 0, .int 0, .int 0, .int 0, .int 0, .int 0, .int 0, .ref x4, .null, .int 0, .int 0, .int 0, .int 0, .null, .int 0, .null, .null, .null, .null, .null, .int 0]) 12 uwX6 tyX6_ok nmX6 rfl (by decide) flX6_19 rfl rfl rfl rfl (Nat.le_of_ble_eq_true rfl) rfl dX6_init_63 ?_
  refine gc_aload 0 dX6_init_66 0 rfl ?_
  refine gc_bipush (v := 21) dX6_init_67 (by decide) ?_
  refine gc_newa 21 ac_int rfl (fun _ => rfl) (by decide) (by decide) (Nat.le_of_ble_eq_true rfl) (Nat.le_of_ble_eq_true rfl) (Nat.le_of_ble_eq_true rfl) dX6_init_69 (fun x5 y5 => ?_)
  refine gc_dup dX6_init_71 rfl ?_
  refine gc_iconst (v := 0) dX6_init_72 (by decide) ?_
  refine gc_bipush (v := 112) dX6_init_73 (by decide) ?_
  refine gc_iast (nin (a := 0) (by decide) (by decide)) dX6_init_75 ?_
  refine gc_dup dX6_init_76 rfl ?_
  refine gc_iconst (v := 1) dX6_init_77 (by decide) ?_
  refine gc_bipush (v := 108) dX6_init_78 (by decide) ?_
  refine gc_iast (nin (a := 1) (by decide) (by decide)) dX6_init_80 ?_
  refine gc_dup dX6_init_81 rfl ?_
  refine gc_iconst (v := 2) dX6_init_82 (by decide) ?_
  refine gc_bipush (v := 97) dX6_init_83 (by decide) ?_
  refine gc_iast (nin (a := 2) (by decide) (by decide)) dX6_init_85 ?_
  refine gc_dup dX6_init_86 rfl ?_
  refine gc_iconst (v := 3) dX6_init_87 (by decide) ?_
  refine gc_bipush (v := 105) dX6_init_88 (by decide) ?_
  refine gc_iast (nin (a := 3) (by decide) (by decide)) dX6_init_90 ?_
  refine gc_dup dX6_init_91 rfl ?_
  refine gc_iconst (v := 4) dX6_init_92 (by decide) ?_
  refine gc_bipush (v := 110) dX6_init_93 (by decide) ?_
  refine gc_iast (nin (a := 4) (by decide) (by decide)) dX6_init_95 ?_
  refine gc_dup dX6_init_96 rfl ?_
  refine gc_iconst (v := 5) dX6_init_97 (by decide) ?_
  refine gc_bipush (v := 115) dX6_init_98 (by decide) ?_
  refine gc_iast (nin (a := 5) (by decide) (by decide)) dX6_init_100 ?_
  refine gc_dup dX6_init_101 rfl ?_
  refine gc_bipush (v := 6) dX6_init_102 (by decide) ?_
  refine gc_bipush (v := 111) dX6_init_104 (by decide) ?_
  refine gc_iast (nin (a := 6) (by decide) (by decide)) dX6_init_106 ?_
  refine gc_dup dX6_init_107 rfl ?_
  refine gc_bipush (v := 7) dX6_init_108 (by decide) ?_
  refine gc_bipush (v := 102) dX6_init_110 (by decide) ?_
  refine gc_iast (nin (a := 7) (by decide) (by decide)) dX6_init_112 ?_
  refine gc_dup dX6_init_113 rfl ?_
  refine gc_bipush (v := 8) dX6_init_114 (by decide) ?_
  refine gc_bipush (v := 116) dX6_init_116 (by decide) ?_
  refine gc_iast (nin (a := 8) (by decide) (by decide)) dX6_init_118 ?_
  refine gc_dup dX6_init_119 rfl ?_
  refine gc_bipush (v := 9) dX6_init_120 (by decide) ?_
  refine gc_bipush (v := 104) dX6_init_122 (by decide) ?_
  refine gc_iast (nin (a := 9) (by decide) (by decide)) dX6_init_124 ?_
  refine gc_dup dX6_init_125 rfl ?_
  refine gc_bipush (v := 10) dX6_init_126 (by decide) ?_
  refine gc_bipush (v := 101) dX6_init_128 (by decide) ?_
  refine gc_iast (nin (a := 10) (by decide) (by decide)) dX6_init_130 ?_
  refine gc_dup dX6_init_131 rfl ?_
  refine gc_bipush (v := 11) dX6_init_132 (by decide) ?_
  refine gc_bipush (v := 97) dX6_init_134 (by decide) ?_
  refine gc_iast (nin (a := 11) (by decide) (by decide)) dX6_init_136 ?_
  refine gc_dup dX6_init_137 rfl ?_
  refine gc_bipush (v := 12) dX6_init_138 (by decide) ?_
  refine gc_bipush (v := 118) dX6_init_140 (by decide) ?_
  refine gc_iast (nin (a := 12) (by decide) (by decide)) dX6_init_142 ?_
  refine gc_dup dX6_init_143 rfl ?_
  refine gc_bipush (v := 13) dX6_init_144 (by decide) ?_
  refine gc_bipush (v := 121) dX6_init_146 (by decide) ?_
  refine gc_iast (nin (a := 13) (by decide) (by decide)) dX6_init_148 ?_
  refine gc_dup dX6_init_149 rfl ?_
  refine gc_bipush (v := 14) dX6_init_150 (by decide) ?_
  refine gc_bipush (v := 115) dX6_init_152 (by decide) ?_
  refine gc_iast (nin (a := 14) (by decide) (by decide)) dX6_init_154 ?_
  refine gc_dup dX6_init_155 rfl ?_
  refine gc_bipush (v := 15) dX6_init_156 (by decide) ?_
  refine gc_bipush (v := 104) dX6_init_158 (by decide) ?_
  refine gc_iast (nin (a := 15) (by decide) (by decide)) dX6_init_160 ?_
  refine gc_dup dX6_init_161 rfl ?_
  refine gc_bipush (v := 16) dX6_init_162 (by decide) ?_
  refine gc_bipush (v := 121) dX6_init_164 (by decide) ?_
  refine gc_iast (nin (a := 16) (by decide) (by decide)) dX6_init_166 ?_
  refine gc_dup dX6_init_167 rfl ?_
  refine gc_bipush (v := 17) dX6_init_168 (by decide) ?_
  refine gc_bipush (v := 112) dX6_init_170 (by decide) ?_
  refine gc_iast (nin (a := 17) (by decide) (by decide)) dX6_init_172 ?_
  refine gc_dup dX6_init_173 rfl ?_
  refine gc_bipush (v := 18) dX6_init_174 (by decide) ?_
  refine gc_bipush (v := 117) dX6_init_176 (by decide) ?_
  refine gc_iast (nin (a := 18) (by decide) (by decide)) dX6_init_178 ?_
  refine gc_dup dX6_init_179 rfl ?_
  refine gc_bipush (v := 19) dX6_init_180 (by decide) ?_
  refine gc_bipush (v := 115) dX6_init_182 (by decide) ?_
  refine gc_iast (nin (a := 19) (by decide) (by decide)) dX6_init_184 ?_
  refine gc_dup dX6_init_185 rfl ?_
  refine gc_bipush (v := 20) dX6_init_186 (by decide) ?_
  refine gc_bipush (v := 104) dX6_init_188 (by decide) ?_
  refine gc_iast (nin (a := 20) (by decide) (by decide)) dX6_init_190 ?_
  refine gc_putF (fs2 := [.ref x1, .ref x2, .int 0, .ref x3, .int 0, .int 0, .int 0, .int 0, .int 0, .int 0, .int 0, .int 0, .ref x4, .ref x5, .int 0, .int 0, .int 0, .int 0, .null, .int 0, .null, .null, .null, .null, .null, .int 0]) 13 uwX6 tyX6_ok nmX6 rfl (by decide) flX6_22 rfl rfl rfl rfl (Nat.le_of_ble_eq_true rfl) rfl dX6_init_191 ?_
  refine gc_aload 0 dX6_init_194 0 rfl ?_
  refine gc_bipush (v := (-4)) dX6_init_195 (by decide) ?_
  refine gc_putV (fs2 := [.ref x1, .ref x2, .int 0, .ref x3, .int 0, .int 0, .int 0, .int 0, .int 0, .int 0, .int 0, .int 0, .ref x4, .ref x5, .int (-4), .int 0, .int 0, .int 0, .null, .int 0, .null, .null, .null, .null, .null, .int 0]) 14 uwX6 tyX6_ok nmX6 rfl (by decide) flX6_25 rfl rfl rfl (Nat.le_of_ble_eq_true rfl) rfl dX6_init_197 ?_
  refine gc_aload 0 dX6_init_200 0 rfl ?_
  refine gc_bipush (v := 18) dX6_init_201 (by decide) ?_
  refine gc_newa 18 ac_int rfl (fun _ => rfl) (by decide) (by decide) (Nat.le_of_ble_eq_true rfl) (Nat.le_of_ble_eq_true rfl) (Nat.le_of_ble_eq_true rfl) dX6_init_203 (fun x6 y6 => ?_)
  refine gc_putF (fs2 := [.ref x1, .ref x2, .int 0, .ref x3, .int 0, .int 0, .int 0, .int 0, .int 0, .int 0, .int 0, .int 0, .ref x4, .ref x5, .int (-4), .int 0, .int 0, .int 0, .ref x6, .int 0, .null, .null, .null, .null, .null, .int 0]) 18 uwX6 tyX6_ok nmX6 rfl (by decide) flX6_29 rfl rfl rfl rfl (Nat.le_of_ble_eq_true rfl) rfl dX6_init_205 ?_
  refine gc_aload 0 dX6_init_208 0 rfl ?_
  refine gc_sipush (v := 1830) dX6_init_209 (by decide) ?_
  refine gc_newa 1830 ac_int rfl (fun _ => rfl) (by decide) (by decide) (Nat.le_of_ble_eq_true rfl) (Nat.le_of_ble_eq_true rfl) (Nat.le_of_ble_eq_true rfl) dX6_init_212 (fun x7 y7 => ?_)
  refine gc_putF (fs2 := [.ref x1, .ref x2, .int 0, .ref x3, .int 0, .int 0, .int 0, .int 0, .int 0, .int 0, .int 0, .int 0, .ref x4, .ref x5, .int (-4), .int 0, .int 0, .int 0, .ref x6, .int 0, .ref x7, .null, .null, .null, .null, .int 0]) 20 uwX6 tyX6_ok nmX6 rfl (by decide) flX6_32 rfl rfl rfl rfl (Nat.le_of_ble_eq_true rfl) rfl dX6_init_214 ?_
  refine gc_aload 0 dX6_init_217 0 rfl ?_
  refine gc_iconst (v := 2) dX6_init_218 (by decide) ?_
  refine gc_newa 2 ac_boolean rfl (fun _ => rfl) (by decide) (by decide) (Nat.le_of_ble_eq_true rfl) (Nat.le_of_ble_eq_true rfl) (Nat.le_of_ble_eq_true rfl) dX6_init_219 (fun x8 y8 => ?_)
  refine gc_putF (fs2 := [.ref x1, .ref x2, .int 0, .ref x3, .int 0, .int 0, .int 0, .int 0, .int 0, .int 0, .int 0, .int 0, .ref x4, .ref x5, .int (-4), .int 0, .int 0, .int 0, .ref x6, .int 0, .ref x7, .ref x8, .null, .null, .null, .int 0]) 21 uwX6 tyX6_ok nmX6 rfl (by decide) flX6_35 rfl rfl rfl rfl (Nat.le_of_ble_eq_true rfl) rfl dX6_init_221 ?_
  refine gc_aload 0 dX6_init_224 0 rfl ?_
  refine gc_iconst (v := 4) dX6_init_225 (by decide) ?_
  refine gc_newa 4 ac_int rfl (fun _ => rfl) (by decide) (by decide) (Nat.le_of_ble_eq_true rfl) (Nat.le_of_ble_eq_true rfl) (Nat.le_of_ble_eq_true rfl) dX6_init_226 (fun x9 y9 => ?_)
  refine gc_dup dX6_init_228 rfl ?_
  refine gc_iconst (v := 0) dX6_init_229 (by decide) ?_
  refine gc_bipush (v := (-4)) dX6_init_230 (by decide) ?_
  refine gc_iast (nin (a := 0) (by decide) (by decide)) dX6_init_232 ?_
  refine gc_dup dX6_init_233 rfl ?_
  refine gc_iconst (v := 1) dX6_init_234 (by decide) ?_
  refine gc_bipush (v := (-4)) dX6_init_235 (by decide) ?_
  refine gc_iast (nin (a := 1) (by decide) (by decide)) dX6_init_237 ?_
  refine gc_dup dX6_init_238 rfl ?_
  refine gc_iconst (v := 2) dX6_init_239 (by decide) ?_
  refine gc_bipush (v := (-4)) dX6_init_240 (by decide) ?_
  refine gc_iast (nin (a := 2) (by decide) (by decide)) dX6_init_242 ?_
  refine gc_dup dX6_init_243 rfl ?_
  refine gc_iconst (v := 3) dX6_init_244 (by decide) ?_
  refine gc_bipush (v := (-4)) dX6_init_245 (by decide) ?_
  refine gc_iast (nin (a := 3) (by decide) (by decide)) dX6_init_247 ?_
  refine gc_putF (fs2 := [.ref x1, .ref x2, .int 0, .ref x3, .int 0, .int 0, .int 0, .int 0, .int 0, .int 0, .int 0, .int 0, .ref x4, .ref x5, .int (-4), .int 0, .int 0, .int 0, .ref x6, .int 0, .ref x7, .ref x8, .ref x9, .null, .null, .int 0]) 22 uwX6 tyX6_ok nmX6 rfl (by decide) flX6_39 rfl rfl rfl rfl (Nat.le_of_ble_eq_true rfl) rfl dX6_init_248 ?_
  refine gc_aload 0 dX6_init_251 0 rfl ?_
  refine gc_iconst (v := 4) dX6_init_252 (by decide) ?_
  refine gc_newa 4 ac_int rfl (fun _ => rfl) (by decide) (by decide) (Nat.le_of_ble_eq_true rfl) (Nat.le_of_ble_eq_true rfl) (Nat.le_of_ble_eq_true rfl) dX6_init_253 (fun x10 y10 => ?_)
  refine gc_putF (fs2 := [.ref x1, .ref x2, .int 0, .ref x3, .int 0, .int 0, .int 0, .int 0, .int 0, .int 0, .int 0, .int 0, .ref x4, .ref x5, .int (-4), .int 0, .int 0, .int 0, .ref x6, .int 0, .ref x7, .ref x8, .ref x9, .ref x10, .null, .int 0]) 23 uwX6 tyX6_ok nmX6 rfl (by decide) flX6_42 rfl rfl rfl rfl (Nat.le_of_ble_eq_true rfl) rfl dX6_init_255 ?_
  refine gc_aload 0 dX6_init_258 0 rfl ?_
  refine gc_sipush (v := 160) dX6_init_259 (by decide) ?_
  refine gc_newa 160 ac_int rfl (fun _ => rfl) (by decide) (by decide) (Nat.le_of_ble_eq_true rfl) (Nat.le_of_ble_eq_true rfl) (Nat.le_of_ble_eq_true rfl) dX6_init_262 (fun x11 y11 => ?_)
  refine gc_putF (fs2 := [.ref x1, .ref x2, .int 0, .ref x3, .int 0, .int 0, .int 0, .int 0, .int 0, .int 0, .int 0, .int 0, .ref x4, .ref x5, .int (-4), .int 0, .int 0, .int 0, .ref x6, .int 0, .ref x7, .ref x8, .ref x9, .ref x10, .ref x11, .int 0]) 24 uwX6 tyX6_ok nmX6 rfl (by decide) flX6_45 rfl rfl rfl rfl (Nat.le_of_ble_eq_true rfl) rfl dX6_init_264 ?_
  exact gc_ret rfl dX6_init_267 ⟨fun k => ([h0, x1, x2, x3, x4, x5, x6, x7, x8, x9, x10, x11] : List Nat).getD (k - 40) 0, fun k => ([y1, y1, y2, y3, y4, y5, y6, y7, y8, y9, y10, y11] : List ClassId).getD (k - 40) y1, rfl, rfl, rfl⟩