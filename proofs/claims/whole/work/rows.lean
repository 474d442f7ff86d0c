section
-- ===== PART A: goes FIRST, ahead of the names: the tables' words, and 'selects' of the private methods out of them =====
/-- a private method of a class that the tables say can be made, by its rows of tables_1 -/
def lw_okq (q : MethodName × Nat) : Prop := (q.1.cls ≠ "java/lang/invoke/MethodHandle" ∧ q.1.cls ≠ "java/lang/invoke/VarHandle") ∧ Cond.instantiable q.1.cls q.2 ∈ tables_1 ∧ Cond.privateMethod q.1 ∈ tables_1 ∧ Cond.instanceMethod q.1 ∈ tables_1
theorem lw_p0 : lw_okq (⟨"BeamClocks$Reader", "nextToken", "()V"⟩, 9) := ⟨⟨by decide +kernel, by decide +kernel⟩, List.mem_of_getElem? (i := 64) (by decide +kernel), List.mem_of_getElem? (i := 218) (by decide +kernel), List.mem_of_getElem? (i := 219) (by decide +kernel)⟩
theorem lw_p1 : lw_okq (⟨"BeamClocks$Reader", "passBytes", "(II)V"⟩, 9) := ⟨⟨by decide +kernel, by decide +kernel⟩, List.mem_of_getElem? (i := 64) (by decide +kernel), List.mem_of_getElem? (i := 223) (by decide +kernel), List.mem_of_getElem? (i := 224) (by decide +kernel)⟩
theorem lw_p2 : lw_okq (⟨"BeamClocks$Reader", "refuse", "(I)V"⟩, 9) := ⟨⟨by decide +kernel, by decide +kernel⟩, List.mem_of_getElem? (i := 64) (by decide +kernel), List.mem_of_getElem? (i := 227) (by decide +kernel), List.mem_of_getElem? (i := 228) (by decide +kernel)⟩
theorem lw_p3 : lw_okq (⟨"BeamClocks$Reader", "readLine", "(LBeamClocks$Beam;)V"⟩, 9) := ⟨⟨by decide +kernel, by decide +kernel⟩, List.mem_of_getElem? (i := 64) (by decide +kernel), List.mem_of_getElem? (i := 231) (by decide +kernel), List.mem_of_getElem? (i := 232) (by decide +kernel)⟩
theorem lw_p4 : lw_okq (⟨"BeamClocks$Reader", "lineNamed", "()I"⟩, 9) := ⟨⟨by decide +kernel, by decide +kernel⟩, List.mem_of_getElem? (i := 64) (by decide +kernel), List.mem_of_getElem? (i := 235) (by decide +kernel), List.mem_of_getElem? (i := 236) (by decide +kernel)⟩
theorem lw_p5 : lw_okq (⟨"BeamClocks$Reader", "isName", "(Ljava/lang/String;)Z"⟩, 9) := ⟨⟨by decide +kernel, by decide +kernel⟩, List.mem_of_getElem? (i := 64) (by decide +kernel), List.mem_of_getElem? (i := 240) (by decide +kernel), List.mem_of_getElem? (i := 241) (by decide +kernel)⟩
theorem lw_p6 : lw_okq (⟨"BeamClocks$Reader", "readPush", "(LBeamClocks$Beam;)V"⟩, 9) := ⟨⟨by decide +kernel, by decide +kernel⟩, List.mem_of_getElem? (i := 64) (by decide +kernel), List.mem_of_getElem? (i := 296) (by decide +kernel), List.mem_of_getElem? (i := 297) (by decide +kernel)⟩
theorem lw_p7 : lw_okq (⟨"BeamClocks$Reader", "readNumber", "(II)I"⟩, 9) := ⟨⟨by decide +kernel, by decide +kernel⟩, List.mem_of_getElem? (i := 64) (by decide +kernel), List.mem_of_getElem? (i := 300) (by decide +kernel), List.mem_of_getElem? (i := 301) (by decide +kernel)⟩
theorem lw_p8 : lw_okq (⟨"BeamClocks$Reader", "numberRead", "()I"⟩, 9) := ⟨⟨by decide +kernel, by decide +kernel⟩, List.mem_of_getElem? (i := 64) (by decide +kernel), List.mem_of_getElem? (i := 304) (by decide +kernel), List.mem_of_getElem? (i := 305) (by decide +kernel)⟩
theorem lw_p9 : lw_okq (⟨"BeamClocks$Reader", "readSemicolon", "()V"⟩, 9) := ⟨⟨by decide +kernel, by decide +kernel⟩, List.mem_of_getElem? (i := 64) (by decide +kernel), List.mem_of_getElem? (i := 308) (by decide +kernel), List.mem_of_getElem? (i := 309) (by decide +kernel)⟩
theorem lw_p10 : lw_okq (⟨"BeamClocks$Reader", "readClock", "(LBeamClocks$Beam;I)V"⟩, 9) := ⟨⟨by decide +kernel, by decide +kernel⟩, List.mem_of_getElem? (i := 64) (by decide +kernel), List.mem_of_getElem? (i := 312) (by decide +kernel), List.mem_of_getElem? (i := 313) (by decide +kernel)⟩
theorem lw_p11 : lw_okq (⟨"BeamClocks", "sumOf", "([I)I"⟩, 11) := ⟨⟨by decide +kernel, by decide +kernel⟩, List.mem_of_getElem? (i := 17) (by decide +kernel), List.mem_of_getElem? (i := 335) (by decide +kernel), List.mem_of_getElem? (i := 336) (by decide +kernel)⟩
theorem lw_p12 : lw_okq (⟨"BeamClocks", "tryNow", "()LBeamClocks$Beam;"⟩, 11) := ⟨⟨by decide +kernel, by decide +kernel⟩, List.mem_of_getElem? (i := 17) (by decide +kernel), List.mem_of_getElem? (i := 339) (by decide +kernel), List.mem_of_getElem? (i := 340) (by decide +kernel)⟩
theorem lw_p13 : lw_okq (⟨"BeamClocks$Beam", "moveHands", "()I"⟩, 7) := ⟨⟨by decide +kernel, by decide +kernel⟩, List.mem_of_getElem? (i := 25) (by decide +kernel), List.mem_of_getElem? (i := 347) (by decide +kernel), List.mem_of_getElem? (i := 348) (by decide +kernel)⟩
theorem lw_p14 : lw_okq (⟨"BeamClocks$Beam", "shake", "(I)V"⟩, 7) := ⟨⟨by decide +kernel, by decide +kernel⟩, List.mem_of_getElem? (i := 25) (by decide +kernel), List.mem_of_getElem? (i := 351) (by decide +kernel), List.mem_of_getElem? (i := 352) (by decide +kernel)⟩
theorem lw_p15 : lw_okq (⟨"BeamClocks", "isClock", "(I)Z"⟩, 11) := ⟨⟨by decide +kernel, by decide +kernel⟩, List.mem_of_getElem? (i := 17) (by decide +kernel), List.mem_of_getElem? (i := 386) (by decide +kernel), List.mem_of_getElem? (i := 387) (by decide +kernel)⟩
def lw_privs_1 : List (MethodName × Nat) := [(⟨"BeamClocks$Reader", "nextToken", "()V"⟩, 9), (⟨"BeamClocks$Reader", "passBytes", "(II)V"⟩, 9), (⟨"BeamClocks$Reader", "refuse", "(I)V"⟩, 9), (⟨"BeamClocks$Reader", "readLine", "(LBeamClocks$Beam;)V"⟩, 9), (⟨"BeamClocks$Reader", "lineNamed", "()I"⟩, 9), (⟨"BeamClocks$Reader", "isName", "(Ljava/lang/String;)Z"⟩, 9), (⟨"BeamClocks$Reader", "readPush", "(LBeamClocks$Beam;)V"⟩, 9), (⟨"BeamClocks$Reader", "readNumber", "(II)I"⟩, 9), (⟨"BeamClocks$Reader", "numberRead", "()I"⟩, 9), (⟨"BeamClocks$Reader", "readSemicolon", "()V"⟩, 9), (⟨"BeamClocks$Reader", "readClock", "(LBeamClocks$Beam;I)V"⟩, 9), (⟨"BeamClocks", "sumOf", "([I)I"⟩, 11), (⟨"BeamClocks", "tryNow", "()LBeamClocks$Beam;"⟩, 11), (⟨"BeamClocks$Beam", "moveHands", "()I"⟩, 7), (⟨"BeamClocks$Beam", "shake", "(I)V"⟩, 7), (⟨"BeamClocks", "isClock", "(I)Z"⟩, 11)]
theorem lw_r1 : ∀ q ∈ lw_privs_1, lw_okq q := List.forall_mem_cons.mpr ⟨lw_p0, List.forall_mem_cons.mpr ⟨lw_p1, List.forall_mem_cons.mpr ⟨lw_p2, List.forall_mem_cons.mpr ⟨lw_p3, List.forall_mem_cons.mpr ⟨lw_p4, List.forall_mem_cons.mpr ⟨lw_p5, List.forall_mem_cons.mpr ⟨lw_p6, List.forall_mem_cons.mpr ⟨lw_p7, List.forall_mem_cons.mpr ⟨lw_p8, List.forall_mem_cons.mpr ⟨lw_p9, List.forall_mem_cons.mpr ⟨lw_p10, List.forall_mem_cons.mpr ⟨lw_p11, List.forall_mem_cons.mpr ⟨lw_p12, List.forall_mem_cons.mpr ⟨lw_p13, List.forall_mem_cons.mpr ⟨lw_p14, List.forall_mem_cons.mpr ⟨lw_p15, fun _ h => absurd h List.not_mem_nil⟩⟩⟩⟩⟩⟩⟩⟩⟩⟩⟩⟩⟩⟩⟩⟩
theorem lw_p16 : lw_okq (⟨"BeamClocks", "tryPeriod", "(II)LBeamClocks$Beam;"⟩, 11) := ⟨⟨by decide +kernel, by decide +kernel⟩, List.mem_of_getElem? (i := 17) (by decide +kernel), List.mem_of_getElem? (i := 486) (by decide +kernel), List.mem_of_getElem? (i := 487) (by decide +kernel)⟩
theorem lw_p17 : lw_okq (⟨"BeamClocks", "tryHand", "(II)LBeamClocks$Beam;"⟩, 11) := ⟨⟨by decide +kernel, by decide +kernel⟩, List.mem_of_getElem? (i := 17) (by decide +kernel), List.mem_of_getElem? (i := 504) (by decide +kernel), List.mem_of_getElem? (i := 505) (by decide +kernel)⟩
theorem lw_p18 : lw_okq (⟨"BeamClocks", "tryKind", "(II)LBeamClocks$Beam;"⟩, 11) := ⟨⟨by decide +kernel, by decide +kernel⟩, List.mem_of_getElem? (i := 17) (by decide +kernel), List.mem_of_getElem? (i := 512) (by decide +kernel), List.mem_of_getElem? (i := 513) (by decide +kernel)⟩
theorem lw_p19 : lw_okq (⟨"BeamClocks$Seen", "lastTick", "()I"⟩, 4) := ⟨⟨by decide +kernel, by decide +kernel⟩, List.mem_of_getElem? (i := 105) (by decide +kernel), List.mem_of_getElem? (i := 571) (by decide +kernel), List.mem_of_getElem? (i := 572) (by decide +kernel)⟩
theorem lw_p20 : lw_okq (⟨"BeamClocks$Seen", "fitsIn", "(II)Z"⟩, 4) := ⟨⟨by decide +kernel, by decide +kernel⟩, List.mem_of_getElem? (i := 105) (by decide +kernel), List.mem_of_getElem? (i := 577) (by decide +kernel), List.mem_of_getElem? (i := 578) (by decide +kernel)⟩
theorem lw_p21 : lw_okq (⟨"BeamClocks", "handsAsSeen", "(I)I"⟩, 11) := ⟨⟨by decide +kernel, by decide +kernel⟩, List.mem_of_getElem? (i := 17) (by decide +kernel), List.mem_of_getElem? (i := 589) (by decide +kernel), List.mem_of_getElem? (i := 590) (by decide +kernel)⟩
theorem lw_p22 : lw_okq (⟨"BeamClocks", "listenForAll", "(II)V"⟩, 11) := ⟨⟨by decide +kernel, by decide +kernel⟩, List.mem_of_getElem? (i := 17) (by decide +kernel), List.mem_of_getElem? (i := 597) (by decide +kernel), List.mem_of_getElem? (i := 598) (by decide +kernel)⟩
theorem lw_p23 : lw_okq (⟨"BeamClocks", "imagesKept", "()I"⟩, 11) := ⟨⟨by decide +kernel, by decide +kernel⟩, List.mem_of_getElem? (i := 17) (by decide +kernel), List.mem_of_getElem? (i := 663) (by decide +kernel), List.mem_of_getElem? (i := 664) (by decide +kernel)⟩
theorem lw_p24 : lw_okq (⟨"BeamClocksModel", "step", "()V"⟩, 26) := ⟨⟨by decide +kernel, by decide +kernel⟩, List.mem_of_getElem? (i := 667) (by decide +kernel), List.mem_of_getElem? (i := 768) (by decide +kernel), List.mem_of_getElem? (i := 769) (by decide +kernel)⟩
theorem lw_p25 : lw_okq (⟨"BeamClocksModel", "byteAt", "(I)I"⟩, 26) := ⟨⟨by decide +kernel, by decide +kernel⟩, List.mem_of_getElem? (i := 667) (by decide +kernel), List.mem_of_getElem? (i := 772) (by decide +kernel), List.mem_of_getElem? (i := 773) (by decide +kernel)⟩
theorem lw_p26 : lw_okq (⟨"BeamClocksModel", "fails", "(I)V"⟩, 26) := ⟨⟨by decide +kernel, by decide +kernel⟩, List.mem_of_getElem? (i := 667) (by decide +kernel), List.mem_of_getElem? (i := 780) (by decide +kernel), List.mem_of_getElem? (i := 781) (by decide +kernel)⟩
theorem lw_p27 : lw_okq (⟨"BeamClocksModel", "readLine", "()V"⟩, 26) := ⟨⟨by decide +kernel, by decide +kernel⟩, List.mem_of_getElem? (i := 667) (by decide +kernel), List.mem_of_getElem? (i := 784) (by decide +kernel), List.mem_of_getElem? (i := 785) (by decide +kernel)⟩
theorem lw_p28 : lw_okq (⟨"BeamClocksModel", "nameHere", "()I"⟩, 26) := ⟨⟨by decide +kernel, by decide +kernel⟩, List.mem_of_getElem? (i := 667) (by decide +kernel), List.mem_of_getElem? (i := 788) (by decide +kernel), List.mem_of_getElem? (i := 789) (by decide +kernel)⟩
theorem lw_p29 : lw_okq (⟨"BeamClocksModel", "readMore", "(I)V"⟩, 26) := ⟨⟨by decide +kernel, by decide +kernel⟩, List.mem_of_getElem? (i := 667) (by decide +kernel), List.mem_of_getElem? (i := 793) (by decide +kernel), List.mem_of_getElem? (i := 794) (by decide +kernel)⟩
theorem lw_p30 : lw_okq (⟨"BeamClocksModel", "number", "(II)I"⟩, 26) := ⟨⟨by decide +kernel, by decide +kernel⟩, List.mem_of_getElem? (i := 667) (by decide +kernel), List.mem_of_getElem? (i := 797) (by decide +kernel), List.mem_of_getElem? (i := 798) (by decide +kernel)⟩
theorem lw_p31 : lw_okq (⟨"BeamClocksModel", "sumOn", "(II)I"⟩, 26) := ⟨⟨by decide +kernel, by decide +kernel⟩, List.mem_of_getElem? (i := 667) (by decide +kernel), List.mem_of_getElem? (i := 809) (by decide +kernel), List.mem_of_getElem? (i := 810) (by decide +kernel)⟩
def lw_privs_2 : List (MethodName × Nat) := [(⟨"BeamClocks", "tryPeriod", "(II)LBeamClocks$Beam;"⟩, 11), (⟨"BeamClocks", "tryHand", "(II)LBeamClocks$Beam;"⟩, 11), (⟨"BeamClocks", "tryKind", "(II)LBeamClocks$Beam;"⟩, 11), (⟨"BeamClocks$Seen", "lastTick", "()I"⟩, 4), (⟨"BeamClocks$Seen", "fitsIn", "(II)Z"⟩, 4), (⟨"BeamClocks", "handsAsSeen", "(I)I"⟩, 11), (⟨"BeamClocks", "listenForAll", "(II)V"⟩, 11), (⟨"BeamClocks", "imagesKept", "()I"⟩, 11), (⟨"BeamClocksModel", "step", "()V"⟩, 26), (⟨"BeamClocksModel", "byteAt", "(I)I"⟩, 26), (⟨"BeamClocksModel", "fails", "(I)V"⟩, 26), (⟨"BeamClocksModel", "readLine", "()V"⟩, 26), (⟨"BeamClocksModel", "nameHere", "()I"⟩, 26), (⟨"BeamClocksModel", "readMore", "(I)V"⟩, 26), (⟨"BeamClocksModel", "number", "(II)I"⟩, 26), (⟨"BeamClocksModel", "sumOn", "(II)I"⟩, 26)]
theorem lw_r2 : ∀ q ∈ lw_privs_2, lw_okq q := List.forall_mem_cons.mpr ⟨lw_p16, List.forall_mem_cons.mpr ⟨lw_p17, List.forall_mem_cons.mpr ⟨lw_p18, List.forall_mem_cons.mpr ⟨lw_p19, List.forall_mem_cons.mpr ⟨lw_p20, List.forall_mem_cons.mpr ⟨lw_p21, List.forall_mem_cons.mpr ⟨lw_p22, List.forall_mem_cons.mpr ⟨lw_p23, List.forall_mem_cons.mpr ⟨lw_p24, List.forall_mem_cons.mpr ⟨lw_p25, List.forall_mem_cons.mpr ⟨lw_p26, List.forall_mem_cons.mpr ⟨lw_p27, List.forall_mem_cons.mpr ⟨lw_p28, List.forall_mem_cons.mpr ⟨lw_p29, List.forall_mem_cons.mpr ⟨lw_p30, List.forall_mem_cons.mpr ⟨lw_p31, fun _ h => absurd h List.not_mem_nil⟩⟩⟩⟩⟩⟩⟩⟩⟩⟩⟩⟩⟩⟩⟩⟩
theorem lw_p32 : lw_okq (⟨"BeamClocksModel", "beatsOn", "(I)I"⟩, 26) := ⟨⟨by decide +kernel, by decide +kernel⟩, List.mem_of_getElem? (i := 667) (by decide +kernel), List.mem_of_getElem? (i := 813) (by decide +kernel), List.mem_of_getElem? (i := 814) (by decide +kernel)⟩
theorem lw_p33 : lw_okq (⟨"BeamClocksModel", "isClock", "(I)Z"⟩, 26) := ⟨⟨by decide +kernel, by decide +kernel⟩, List.mem_of_getElem? (i := 667) (by decide +kernel), List.mem_of_getElem? (i := 821) (by decide +kernel), List.mem_of_getElem? (i := 822) (by decide +kernel)⟩
theorem lw_p34 : lw_okq (⟨"BeamClocksModel", "isOnward", "(II)Z"⟩, 26) := ⟨⟨by decide +kernel, by decide +kernel⟩, List.mem_of_getElem? (i := 667) (by decide +kernel), List.mem_of_getElem? (i := 825) (by decide +kernel), List.mem_of_getElem? (i := 826) (by decide +kernel)⟩
theorem lw_p35 : lw_okq (⟨"BeamClocksModel", "alters", "(III)I"⟩, 26) := ⟨⟨by decide +kernel, by decide +kernel⟩, List.mem_of_getElem? (i := 667) (by decide +kernel), List.mem_of_getElem? (i := 833) (by decide +kernel), List.mem_of_getElem? (i := 834) (by decide +kernel)⟩
theorem lw_p36 : lw_okq (⟨"BeamClocksModel", "pushedOn", "(III)V"⟩, 26) := ⟨⟨by decide +kernel, by decide +kernel⟩, List.mem_of_getElem? (i := 667) (by decide +kernel), List.mem_of_getElem? (i := 858) (by decide +kernel), List.mem_of_getElem? (i := 859) (by decide +kernel)⟩
theorem lw_p37 : lw_okq (⟨"BeamClocksModel", "tickOn", "(IZ)I"⟩, 26) := ⟨⟨by decide +kernel, by decide +kernel⟩, List.mem_of_getElem? (i := 667) (by decide +kernel), List.mem_of_getElem? (i := 867) (by decide +kernel), List.mem_of_getElem? (i := 868) (by decide +kernel)⟩
theorem lw_p38 : lw_okq (⟨"BeamClocksModel", "ticksGo", "(II)I"⟩, 26) := ⟨⟨by decide +kernel, by decide +kernel⟩, List.mem_of_getElem? (i := 667) (by decide +kernel), List.mem_of_getElem? (i := 879) (by decide +kernel), List.mem_of_getElem? (i := 880) (by decide +kernel)⟩
theorem lw_p39 : lw_okq (⟨"BeamClocksModel", "copies", "(II)V"⟩, 26) := ⟨⟨by decide +kernel, by decide +kernel⟩, List.mem_of_getElem? (i := 667) (by decide +kernel), List.mem_of_getElem? (i := 883) (by decide +kernel), List.mem_of_getElem? (i := 884) (by decide +kernel)⟩
theorem lw_p40 : lw_okq (⟨"BeamClocksModel", "allOn", "(I)I"⟩, 26) := ⟨⟨by decide +kernel, by decide +kernel⟩, List.mem_of_getElem? (i := 667) (by decide +kernel), List.mem_of_getElem? (i := 887) (by decide +kernel), List.mem_of_getElem? (i := 888) (by decide +kernel)⟩
theorem lw_p41 : lw_okq (⟨"BeamClocksModel", "meetOn", "(I)I"⟩, 26) := ⟨⟨by decide +kernel, by decide +kernel⟩, List.mem_of_getElem? (i := 667) (by decide +kernel), List.mem_of_getElem? (i := 903) (by decide +kernel), List.mem_of_getElem? (i := 904) (by decide +kernel)⟩
theorem lw_p42 : lw_okq (⟨"BeamClocksModel", "periodOn", "(III)V"⟩, 26) := ⟨⟨by decide +kernel, by decide +kernel⟩, List.mem_of_getElem? (i := 667) (by decide +kernel), List.mem_of_getElem? (i := 915) (by decide +kernel), List.mem_of_getElem? (i := 916) (by decide +kernel)⟩
theorem lw_p43 : lw_okq (⟨"BeamClocksModel", "soonestAt", "(IIIII)I"⟩, 26) := ⟨⟨by decide +kernel, by decide +kernel⟩, List.mem_of_getElem? (i := 667) (by decide +kernel), List.mem_of_getElem? (i := 923) (by decide +kernel), List.mem_of_getElem? (i := 924) (by decide +kernel)⟩
theorem lw_p44 : lw_okq (⟨"BeamClocksModel", "byHeld", "(IIII)J"⟩, 26) := ⟨⟨by decide +kernel, by decide +kernel⟩, List.mem_of_getElem? (i := 667) (by decide +kernel), List.mem_of_getElem? (i := 945) (by decide +kernel), List.mem_of_getElem? (i := 946) (by decide +kernel)⟩
theorem lw_p45 : lw_okq (⟨"BeamClocksModel", "isAsSeen", "(II)Z"⟩, 26) := ⟨⟨by decide +kernel, by decide +kernel⟩, List.mem_of_getElem? (i := 667) (by decide +kernel), List.mem_of_getElem? (i := 970) (by decide +kernel), List.mem_of_getElem? (i := 971) (by decide +kernel)⟩
theorem lw_p46 : lw_okq (⟨"BeamClocksModel", "handsOf", "(I)I"⟩, 26) := ⟨⟨by decide +kernel, by decide +kernel⟩, List.mem_of_getElem? (i := 667) (by decide +kernel), List.mem_of_getElem? (i := 982) (by decide +kernel), List.mem_of_getElem? (i := 983) (by decide +kernel)⟩
def lw_privs_3 : List (MethodName × Nat) := [(⟨"BeamClocksModel", "beatsOn", "(I)I"⟩, 26), (⟨"BeamClocksModel", "isClock", "(I)Z"⟩, 26), (⟨"BeamClocksModel", "isOnward", "(II)Z"⟩, 26), (⟨"BeamClocksModel", "alters", "(III)I"⟩, 26), (⟨"BeamClocksModel", "pushedOn", "(III)V"⟩, 26), (⟨"BeamClocksModel", "tickOn", "(IZ)I"⟩, 26), (⟨"BeamClocksModel", "ticksGo", "(II)I"⟩, 26), (⟨"BeamClocksModel", "copies", "(II)V"⟩, 26), (⟨"BeamClocksModel", "allOn", "(I)I"⟩, 26), (⟨"BeamClocksModel", "meetOn", "(I)I"⟩, 26), (⟨"BeamClocksModel", "periodOn", "(III)V"⟩, 26), (⟨"BeamClocksModel", "soonestAt", "(IIIII)I"⟩, 26), (⟨"BeamClocksModel", "byHeld", "(IIII)J"⟩, 26), (⟨"BeamClocksModel", "isAsSeen", "(II)Z"⟩, 26), (⟨"BeamClocksModel", "handsOf", "(I)I"⟩, 26)]
theorem lw_r3 : ∀ q ∈ lw_privs_3, lw_okq q := List.forall_mem_cons.mpr ⟨lw_p32, List.forall_mem_cons.mpr ⟨lw_p33, List.forall_mem_cons.mpr ⟨lw_p34, List.forall_mem_cons.mpr ⟨lw_p35, List.forall_mem_cons.mpr ⟨lw_p36, List.forall_mem_cons.mpr ⟨lw_p37, List.forall_mem_cons.mpr ⟨lw_p38, List.forall_mem_cons.mpr ⟨lw_p39, List.forall_mem_cons.mpr ⟨lw_p40, List.forall_mem_cons.mpr ⟨lw_p41, List.forall_mem_cons.mpr ⟨lw_p42, List.forall_mem_cons.mpr ⟨lw_p43, List.forall_mem_cons.mpr ⟨lw_p44, List.forall_mem_cons.mpr ⟨lw_p45, List.forall_mem_cons.mpr ⟨lw_p46, fun _ h => absurd h List.not_mem_nil⟩⟩⟩⟩⟩⟩⟩⟩⟩⟩⟩⟩⟩⟩⟩
def lw_privs : List (MethodName × Nat) := lw_privs_1 ++ (lw_privs_2 ++ (lw_privs_3))
def lw_tbl : List Cond := k2_sels lw_privs ++ tables_1
theorem lw_privs_ok : ∀ q ∈ lw_privs, lw_okq q := by
  show ∀ q ∈ lw_privs_1 ++ (lw_privs_2 ++ (lw_privs_3)), lw_okq q
  exact List.forall_mem_append.mpr ⟨lw_r1, List.forall_mem_append.mpr ⟨lw_r2, lw_r3⟩⟩
end
section
def RX0 : String := "BeamClocks$Beam"
def TX0 : u_T := fun k => match k with
  | 0 => ("BeamClocks$Beam", "kindOf", "[I", true)
  | 1 => ("BeamClocks$Beam", "periodOf", "[I", true)
  | 2 => ("BeamClocks$Beam", "handOf", "[I", true)
  | 3 => ("BeamClocks$Beam", "beatenBy", "[I", true)
  | 4 => ("BeamClocks$Beam", "clocks", "I", false)
  | 5 => ("BeamClocks$Beam", "push", "I", false)
  | _ => ("BeamClocks$Beam", "tick", "I", false)
def tyX0 : Nat → FieldType := fun k => match k with
  | 0 => .array .int
  | 1 => .array .int
  | 2 => .array .int
  | 3 => .array .int
  | 4 => .int
  | 5 => .int
  | _ => .int
abbrev wsX00 : List Cond := u_ws RX0 TX0 7
theorem nmX0 : ∀ a, a < 7 → ∀ b, b < 7 → a ≠ b → (TX0 a).2.1 ≠ (TX0 b).2.1 := by decide +kernel
theorem tyX0_ok : ∀ k, k < 7 → parseFieldDescriptor (TX0 k).2.2.1 = some (tyX0 k) := by decide +kernel
abbrev cX0_init : ByteArray := prog_2_method_1_code
def yX0_init : MethodName := ⟨RX0, "<init>", "()V"⟩
abbrev cX0_empty : ByteArray := prog_2_method_2_code
def yX0_empty : MethodName := ⟨RX0, "empty", "()V"⟩
abbrev cX0_takeFrom : ByteArray := prog_2_method_3_code
def yX0_takeFrom : MethodName := ⟨RX0, "takeFrom", "(LBeamClocks$Beam;)V"⟩
abbrev cX0_addClock : ByteArray := prog_2_method_4_code
def yX0_addClock : MethodName := ⟨RX0, "addClock", "(III)V"⟩
abbrev cX0_takeAway : ByteArray := prog_2_method_5_code
def yX0_takeAway : MethodName := ⟨RX0, "takeAway", "(I)V"⟩
abbrev cX0_alterKind : ByteArray := prog_2_method_6_code
def yX0_alterKind : MethodName := ⟨RX0, "alterKind", "(II)I"⟩
abbrev cX0_alterPeriod : ByteArray := prog_2_method_7_code
def yX0_alterPeriod : MethodName := ⟨RX0, "alterPeriod", "(II)I"⟩
abbrev cX0_alterHand : ByteArray := prog_2_method_8_code
def yX0_alterHand : MethodName := ⟨RX0, "alterHand", "(II)I"⟩
abbrev cX0_takesHand : ByteArray := prog_2_method_9_code
def yX0_takesHand : MethodName := ⟨RX0, "takesHand", "(II)Z"⟩
abbrev cX0_shove : ByteArray := prog_2_method_10_code
def yX0_shove : MethodName := ⟨RX0, "shove", "(II)I"⟩
abbrev cX0_goesOn : ByteArray := prog_2_method_11_code
def yX0_goesOn : MethodName := ⟨RX0, "goesOn", "(I)Z"⟩
abbrev cX0_shift : ByteArray := prog_2_method_12_code
def yX0_shift : MethodName := ⟨RX0, "shift", "(II)V"⟩
abbrev cX0_step : ByteArray := prog_2_method_13_code
def yX0_step : MethodName := ⟨RX0, "step", "(Z)I"⟩
abbrev cX0_moveHands : ByteArray := prog_2_method_14_code
def yX0_moveHands : MethodName := ⟨RX0, "moveHands", "()I"⟩
abbrev cX0_shake : ByteArray := prog_2_method_15_code
def yX0_shake : MethodName := ⟨RX0, "shake", "(I)V"⟩
abbrev cX0_stepMany : ByteArray := prog_2_method_16_code
def yX0_stepMany : MethodName := ⟨RX0, "stepMany", "(I)I"⟩
abbrev cX0_stepHeld : ByteArray := prog_2_method_17_code
def yX0_stepHeld : MethodName := ⟨RX0, "stepHeld", "(II)I"⟩
abbrev cX0_everyClock : ByteArray := prog_2_method_18_code
def yX0_everyClock : MethodName := ⟨RX0, "everyClock", "()I"⟩
abbrev cX0_firstTogether : ByteArray := prog_2_method_19_code
def yX0_firstTogether : MethodName := ⟨RX0, "firstTogether", "(I)I"⟩
abbrev cX0_hasHandsOf : ByteArray := prog_2_method_20_code
def yX0_hasHandsOf : MethodName := ⟨RX0, "hasHandsOf", "(LBeamClocks$Beam;)Z"⟩
abbrev cX0_sumOfHands : ByteArray := prog_2_method_21_code
def yX0_sumOfHands : MethodName := ⟨RX0, "sumOfHands", "()I"⟩
def RX1 : String := "BeamClocks$Best"
def TX1 : u_T := fun k => match k with
  | 0 => ("BeamClocks$Best", "choice", "I", false)
  | 1 => ("BeamClocks$Best", "tick", "I", false)
  | _ => ("BeamClocks$Best", "last", "I", false)
def tyX1 : Nat → FieldType := fun k => match k with
  | 0 => .int
  | 1 => .int
  | _ => .int
abbrev wsX10 : List Cond := u_ws RX1 TX1 3
theorem nmX1 : ∀ a, a < 3 → ∀ b, b < 3 → a ≠ b → (TX1 a).2.1 ≠ (TX1 b).2.1 := by decide +kernel
theorem tyX1_ok : ∀ k, k < 3 → parseFieldDescriptor (TX1 k).2.2.1 = some (tyX1 k) := by decide +kernel
abbrev cX1_init : ByteArray := prog_3_method_1_code
def yX1_init : MethodName := ⟨RX1, "<init>", "()V"⟩
abbrev cX1_restart : ByteArray := prog_3_method_2_code
def yX1_restart : MethodName := ⟨RX1, "restart", "(I)V"⟩
abbrev cX1_offer : ByteArray := prog_3_method_3_code
def yX1_offer : MethodName := ⟨RX1, "offer", "(ILBeamClocks$Beam;)V"⟩
abbrev cX1_answer : ByteArray := prog_3_method_4_code
def yX1_answer : MethodName := ⟨RX1, "answer", "(I)I"⟩
def RX2 : String := "BeamClocks$Reader"
def TX2 : u_T := fun k => match k with
  | 0 => ("BeamClocks$Reader", "tape", "[B", true)
  | 1 => ("BeamClocks$Reader", "length", "I", false)
  | 2 => ("BeamClocks$Reader", "fault", "I", false)
  | 3 => ("BeamClocks$Reader", "place", "I", false)
  | 4 => ("BeamClocks$Reader", "lines", "I", false)
  | 5 => ("BeamClocks$Reader", "at", "I", false)
  | 6 => ("BeamClocks$Reader", "sort", "I", false)
  | 7 => ("BeamClocks$Reader", "first", "I", false)
  | _ => ("BeamClocks$Reader", "pushTold", "Z", false)
def tyX2 : Nat → FieldType := fun k => match k with
  | 0 => .array .byte
  | 1 => .int
  | 2 => .int
  | 3 => .int
  | 4 => .int
  | 5 => .int
  | 6 => .int
  | 7 => .int
  | _ => .boolean
abbrev wsX20 : List Cond := u_ws RX2 TX2 9
theorem nmX2 : ∀ a, a < 9 → ∀ b, b < 9 → a ≠ b → (TX2 a).2.1 ≠ (TX2 b).2.1 := by decide +kernel
theorem tyX2_ok : ∀ k, k < 9 → parseFieldDescriptor (TX2 k).2.2.1 = some (tyX2 k) := by decide +kernel
abbrev cX2_init : ByteArray := prog_4_method_1_code
def yX2_init : MethodName := ⟨RX2, "<init>", "()V"⟩
abbrev cX2_readText : ByteArray := prog_4_method_2_code
def yX2_readText : MethodName := ⟨RX2, "readText", "(LBeamClocks$Beam;)V"⟩
abbrev cX2_readLine : ByteArray := prog_4_method_3_code
def yX2_readLine : MethodName := ⟨RX2, "readLine", "(LBeamClocks$Beam;)V"⟩
abbrev cX2_readPush : ByteArray := prog_4_method_4_code
def yX2_readPush : MethodName := ⟨RX2, "readPush", "(LBeamClocks$Beam;)V"⟩
abbrev cX2_readClock : ByteArray := prog_4_method_5_code
def yX2_readClock : MethodName := ⟨RX2, "readClock", "(LBeamClocks$Beam;I)V"⟩
abbrev cX2_readNumber : ByteArray := prog_4_method_6_code
def yX2_readNumber : MethodName := ⟨RX2, "readNumber", "(II)I"⟩
abbrev cX2_readSemicolon : ByteArray := prog_4_method_7_code
def yX2_readSemicolon : MethodName := ⟨RX2, "readSemicolon", "()V"⟩
abbrev cX2_nextToken : ByteArray := prog_4_method_8_code
def yX2_nextToken : MethodName := ⟨RX2, "nextToken", "()V"⟩
abbrev cX2_passBytes : ByteArray := prog_4_method_9_code
def yX2_passBytes : MethodName := ⟨RX2, "passBytes", "(II)V"⟩
abbrev cX2_numberRead : ByteArray := prog_4_method_10_code
def yX2_numberRead : MethodName := ⟨RX2, "numberRead", "()I"⟩
abbrev cX2_lineNamed : ByteArray := prog_4_method_11_code
def yX2_lineNamed : MethodName := ⟨RX2, "lineNamed", "()I"⟩
abbrev cX2_isName : ByteArray := prog_4_method_12_code
def yX2_isName : MethodName := ⟨RX2, "isName", "(Ljava/lang/String;)Z"⟩
abbrev cX2_refuse : ByteArray := prog_4_method_13_code
def yX2_refuse : MethodName := ⟨RX2, "refuse", "(I)V"⟩
def RX3 : String := "BeamClocks$Seen"
def TX3 : u_T := fun k => match k with
  | 0 => ("BeamClocks$Seen", "ticksOf", "[I", true)
  | 1 => ("BeamClocks$Seen", "clocksOf", "[I", true)
  | 2 => ("BeamClocks$Seen", "values", "[I", true)
  | _ => ("BeamClocks$Seen", "size", "I", false)
def tyX3 : Nat → FieldType := fun k => match k with
  | 0 => .array .int
  | 1 => .array .int
  | 2 => .array .int
  | _ => .int
abbrev wsX30 : List Cond := u_ws RX3 TX3 4
theorem nmX3 : ∀ a, a < 4 → ∀ b, b < 4 → a ≠ b → (TX3 a).2.1 ≠ (TX3 b).2.1 := by decide +kernel
theorem tyX3_ok : ∀ k, k < 4 → parseFieldDescriptor (TX3 k).2.2.1 = some (tyX3 k) := by decide +kernel
abbrev cX3_init : ByteArray := prog_5_method_1_code
def yX3_init : MethodName := ⟨RX3, "<init>", "()V"⟩
abbrev cX3_add : ByteArray := prog_5_method_2_code
def yX3_add : MethodName := ⟨RX3, "add", "(III)V"⟩
abbrev cX3_fits : ByteArray := prog_5_method_3_code
def yX3_fits : MethodName := ⟨RX3, "fits", "(LBeamClocks$Beam;)Z"⟩
abbrev cX3_fitsIn : ByteArray := prog_5_method_4_code
def yX3_fitsIn : MethodName := ⟨RX3, "fitsIn", "(II)Z"⟩
abbrev cX3_lastTick : ByteArray := prog_5_method_5_code
def yX3_lastTick : MethodName := ⟨RX3, "lastTick", "()I"⟩
def RX4 : String := "BeamClocks$Sheet"
def TX4 : u_T := fun k => match k with
  | 0 => ("BeamClocks$Sheet", "row", "[I", true)
  | 1 => ("BeamClocks$Sheet", "lane", "I", false)
  | _ => ("BeamClocks$Sheet", "cells", "I", false)
def tyX4 : Nat → FieldType := fun k => match k with
  | 0 => .array .int
  | 1 => .int
  | _ => .int
abbrev wsX40 : List Cond := u_ws RX4 TX4 3
theorem nmX4 : ∀ a, a < 3 → ∀ b, b < 3 → a ≠ b → (TX4 a).2.1 ≠ (TX4 b).2.1 := by decide +kernel
theorem tyX4_ok : ∀ k, k < 3 → parseFieldDescriptor (TX4 k).2.2.1 = some (tyX4 k) := by decide +kernel
abbrev cX4_init : ByteArray := prog_6_method_1_code
def yX4_init : MethodName := ⟨RX4, "<init>", "()V"⟩
abbrev cX4_begin : ByteArray := prog_6_method_2_code
def yX4_begin : MethodName := ⟨RX4, "begin", "(II)V"⟩
abbrev cX4_faultAt : ByteArray := prog_6_method_3_code
def yX4_faultAt : MethodName := ⟨RX4, "faultAt", "(I)I"⟩
abbrev cX4_faultOfPair : ByteArray := prog_6_method_4_code
def yX4_faultOfPair : MethodName := ⟨RX4, "faultOfPair", "(II)I"⟩
abbrev cX4_put : ByteArray := prog_6_method_5_code
def yX4_put : MethodName := ⟨RX4, "put", "(II)V"⟩
def RX5 : String := "BeamClocks"
def TX5 : u_T := fun k => match k with
  | 0 => ("BeamClocks", "now", "LBeamClocks$Beam;", true)
  | 1 => ("BeamClocks", "trial", "LBeamClocks$Beam;", true)
  | 2 => ("BeamClocks", "images", "[LBeamClocks$Beam;", true)
  | 3 => ("BeamClocks", "kept", "[Z", true)
  | 4 => ("BeamClocks", "reader", "LBeamClocks$Reader;", true)
  | 5 => ("BeamClocks", "seen", "LBeamClocks$Seen;", true)
  | 6 => ("BeamClocks", "sheets", "[LBeamClocks$Sheet;", true)
  | 7 => ("BeamClocks", "best", "LBeamClocks$Best;", true)
  | 8 => ("BeamClocks", "heard", "[I", true)
  | 9 => ("BeamClocks", "textFault", "I", false)
  | _ => ("BeamClocks", "readFault", "I", false)
def tyX5 : Nat → FieldType := fun k => match k with
  | 0 => .object "BeamClocks$Beam"
  | 1 => .object "BeamClocks$Beam"
  | 2 => .array (.object "BeamClocks$Beam")
  | 3 => .array .boolean
  | 4 => .object "BeamClocks$Reader"
  | 5 => .object "BeamClocks$Seen"
  | 6 => .array (.object "BeamClocks$Sheet")
  | 7 => .object "BeamClocks$Best"
  | 8 => .array .int
  | 9 => .int
  | _ => .int
abbrev wsX50 : List Cond := u_ws RX5 TX5 11
theorem nmX5 : ∀ a, a < 11 → ∀ b, b < 11 → a ≠ b → (TX5 a).2.1 ≠ (TX5 b).2.1 := by decide +kernel
theorem tyX5_ok : ∀ k, k < 11 → parseFieldDescriptor (TX5 k).2.2.1 = some (tyX5 k) := by decide +kernel
abbrev cX5_init : ByteArray := prog_1_method_1_code
def yX5_init : MethodName := ⟨RX5, "<init>", "()V"⟩
abbrev cX5_feed : ByteArray := prog_1_method_2_code
def yX5_feed : MethodName := ⟨RX5, "feed", "(I)I"⟩
abbrev cX5_end : ByteArray := prog_1_method_3_code
def yX5_end : MethodName := ⟨RX5, "end", "(I)I"⟩
abbrev cX5_text : ByteArray := prog_1_method_4_code
def yX5_text : MethodName := ⟨RX5, "text", "()I"⟩
abbrev cX5_fault : ByteArray := prog_1_method_5_code
def yX5_fault : MethodName := ⟨RX5, "fault", "()I"⟩
abbrev cX5_rule : ByteArray := prog_1_method_6_code
def yX5_rule : MethodName := ⟨RX5, "rule", "(I)I"⟩
abbrev cX5_clock : ByteArray := prog_1_method_7_code
def yX5_clock : MethodName := ⟨RX5, "clock", "(II)I"⟩
abbrev cX5_alter : ByteArray := prog_1_method_8_code
def yX5_alter : MethodName := ⟨RX5, "alter", "(III)I"⟩
abbrev cX5_push : ByteArray := prog_1_method_9_code
def yX5_push : MethodName := ⟨RX5, "push", "(I)I"⟩
abbrev cX5_hang : ByteArray := prog_1_method_10_code
def yX5_hang : MethodName := ⟨RX5, "hang", "(II)I"⟩
abbrev cX5_cut : ByteArray := prog_1_method_11_code
def yX5_cut : MethodName := ⟨RX5, "cut", "(I)I"⟩
abbrev cX5_knock : ByteArray := prog_1_method_12_code
def yX5_knock : MethodName := ⟨RX5, "knock", "(II)I"⟩
abbrev cX5_ticks : ByteArray := prog_1_method_13_code
def yX5_ticks : MethodName := ⟨RX5, "ticks", "(I)I"⟩
abbrev cX5_runs : ByteArray := prog_1_method_14_code
def yX5_runs : MethodName := ⟨RX5, "runs", "(II)I"⟩
abbrev cX5_ahead : ByteArray := prog_1_method_15_code
def yX5_ahead : MethodName := ⟨RX5, "ahead", "(III)I"⟩
abbrev cX5_beats : ByteArray := prog_1_method_16_code
def yX5_beats : MethodName := ⟨RX5, "beats", "(I)I"⟩
abbrev cX5_together : ByteArray := prog_1_method_17_code
def yX5_together : MethodName := ⟨RX5, "together", "()I"⟩
abbrev cX5_again : ByteArray := prog_1_method_18_code
def yX5_again : MethodName := ⟨RX5, "again", "()I"⟩
abbrev cX5_period : ByteArray := prog_1_method_19_code
def yX5_period : MethodName := ⟨RX5, "period", "(II)I"⟩
abbrev cX5_hand : ByteArray := prog_1_method_20_code
def yX5_hand : MethodName := ⟨RX5, "hand", "(II)I"⟩
abbrev cX5_kind : ByteArray := prog_1_method_21_code
def yX5_kind : MethodName := ⟨RX5, "kind", "(II)I"⟩
abbrev cX5_force : ByteArray := prog_1_method_22_code
def yX5_force : MethodName := ⟨RX5, "force", "(I)I"⟩
abbrev cX5_away : ByteArray := prog_1_method_23_code
def yX5_away : MethodName := ⟨RX5, "away", "(I)I"⟩
abbrev cX5_luck : ByteArray := prog_1_method_24_code
def yX5_luck : MethodName := ⟨RX5, "luck", "(IIII)J"⟩
abbrev cX5_mean : ByteArray := prog_1_method_25_code
def yX5_mean : MethodName := ⟨RX5, "mean", "(III)J"⟩
abbrev cX5_see : ByteArray := prog_1_method_26_code
def yX5_see : MethodName := ⟨RX5, "see", "(III)I"⟩
abbrev cX5_forget : ByteArray := prog_1_method_27_code
def yX5_forget : MethodName := ⟨RX5, "forget", "(I)I"⟩
abbrev cX5_kinds : ByteArray := prog_1_method_28_code
def yX5_kinds : MethodName := ⟨RX5, "kinds", "(I)I"⟩
abbrev cX5_periods : ByteArray := prog_1_method_29_code
def yX5_periods : MethodName := ⟨RX5, "periods", "(I)I"⟩
abbrev cX5_hands : ByteArray := prog_1_method_30_code
def yX5_hands : MethodName := ⟨RX5, "hands", "(I)I"⟩
abbrev cX5_ask : ByteArray := prog_1_method_31_code
def yX5_ask : MethodName := ⟨RX5, "ask", "(II)I"⟩
abbrev cX5_drift : ByteArray := prog_1_method_32_code
def yX5_drift : MethodName := ⟨RX5, "drift", "(III)I"⟩
abbrev cX5_keep : ByteArray := prog_1_method_33_code
def yX5_keep : MethodName := ⟨RX5, "keep", "(I)I"⟩
abbrev cX5_back : ByteArray := prog_1_method_34_code
def yX5_back : MethodName := ⟨RX5, "back", "(I)I"⟩
abbrev cX5_sheet : ByteArray := prog_1_method_35_code
def yX5_sheet : MethodName := ⟨RX5, "sheet", "(III)I"⟩
abbrev cX5_lay : ByteArray := prog_1_method_36_code
def yX5_lay : MethodName := ⟨RX5, "lay", "(III)I"⟩
abbrev cX5_read : ByteArray := prog_1_method_37_code
def yX5_read : MethodName := ⟨RX5, "read", "(IIII)I"⟩
abbrev cX5_torn : ByteArray := prog_1_method_38_code
def yX5_torn : MethodName := ⟨RX5, "torn", "()I"⟩
abbrev cX5_count : ByteArray := prog_1_method_39_code
def yX5_count : MethodName := ⟨RX5, "count", "(I)I"⟩
abbrev cX5_isWithin : ByteArray := prog_1_method_40_code
def yX5_isWithin : MethodName := ⟨RX5, "isWithin", "(III)Z"⟩
abbrev cX5_isBitSet : ByteArray := prog_1_method_41_code
def yX5_isBitSet : MethodName := ⟨RX5, "isBitSet", "(II)Z"⟩
abbrev cX5_isClock : ByteArray := prog_1_method_42_code
def yX5_isClock : MethodName := ⟨RX5, "isClock", "(I)Z"⟩
abbrev cX5_isSheet : ByteArray := prog_1_method_43_code
def yX5_isSheet : MethodName := ⟨RX5, "isSheet", "(I)Z"⟩
abbrev cX5_imagesKept : ByteArray := prog_1_method_44_code
def yX5_imagesKept : MethodName := ⟨RX5, "imagesKept", "()I"⟩
abbrev cX5_sumOf : ByteArray := prog_1_method_45_code
def yX5_sumOf : MethodName := ⟨RX5, "sumOf", "([I)I"⟩
abbrev cX5_tryNow : ByteArray := prog_1_method_46_code
def yX5_tryNow : MethodName := ⟨RX5, "tryNow", "()LBeamClocks$Beam;"⟩
abbrev cX5_tryKind : ByteArray := prog_1_method_47_code
def yX5_tryKind : MethodName := ⟨RX5, "tryKind", "(II)LBeamClocks$Beam;"⟩
abbrev cX5_tryPeriod : ByteArray := prog_1_method_48_code
def yX5_tryPeriod : MethodName := ⟨RX5, "tryPeriod", "(II)LBeamClocks$Beam;"⟩
abbrev cX5_tryHand : ByteArray := prog_1_method_49_code
def yX5_tryHand : MethodName := ⟨RX5, "tryHand", "(II)LBeamClocks$Beam;"⟩
abbrev cX5_handsAsSeen : ByteArray := prog_1_method_50_code
def yX5_handsAsSeen : MethodName := ⟨RX5, "handsAsSeen", "(I)I"⟩
abbrev cX5_listenForAll : ByteArray := prog_1_method_51_code
def yX5_listenForAll : MethodName := ⟨RX5, "listenForAll", "(II)V"⟩
abbrev cX5_weightOf : ByteArray := prog_1_method_52_code
def yX5_weightOf : MethodName := ⟨RX5, "weightOf", "(III)J"⟩
abbrev cX5_powerOf : ByteArray := prog_1_method_53_code
def yX5_powerOf : MethodName := ⟨RX5, "powerOf", "(II)J"⟩
abbrev cX5_fraction : ByteArray := prog_1_method_54_code
def yX5_fraction : MethodName := ⟨RX5, "fraction", "(JJI)J"⟩
abbrev cX5_commonDivisor : ByteArray := prog_1_method_55_code
def yX5_commonDivisor : MethodName := ⟨RX5, "commonDivisor", "(JJ)J"⟩
def RX6 : String := "BeamClocksModel"
def TX6 : u_T := fun k => match k with
  | 0 => ("BeamClocksModel", "state", "[I", true)
  | 1 => ("BeamClocksModel", "readPage", "[I", true)
  | 2 => ("BeamClocksModel", "isPushTold", "Z", false)
  | 3 => ("BeamClocksModel", "tape", "[I", true)
  | 4 => ("BeamClocksModel", "taped", "I", false)
  | 5 => ("BeamClocksModel", "fault", "I", false)
  | 6 => ("BeamClocksModel", "broken", "I", false)
  | 7 => ("BeamClocksModel", "brokenAt", "I", false)
  | 8 => ("BeamClocksModel", "spot", "I", false)
  | 9 => ("BeamClocksModel", "here", "I", false)
  | 10 => ("BeamClocksModel", "token", "I", false)
  | 11 => ("BeamClocksModel", "value", "I", false)
  | 12 => ("BeamClocksModel", "ends", "[I", true)
  | 13 => ("BeamClocksModel", "letters", "[I", true)
  | 14 => ("BeamClocksModel", "gone", "I", false)
  | 15 => ("BeamClocksModel", "loud", "I", false)
  | 16 => ("BeamClocksModel", "most", "I", false)
  | 17 => ("BeamClocksModel", "full", "I", false)
  | 18 => ("BeamClocksModel", "seen", "[I", true)
  | 19 => ("BeamClocksModel", "seenMany", "I", false)
  | 20 => ("BeamClocksModel", "beatBy", "[I", true)
  | 21 => ("BeamClocksModel", "isKept", "[Z", true)
  | 22 => ("BeamClocksModel", "lanes", "[I", true)
  | 23 => ("BeamClocksModel", "lengths", "[I", true)
  | 24 => ("BeamClocksModel", "cells", "[I", true)
  | _ => ("BeamClocksModel", "torn", "I", false)
def tyX6 : Nat → FieldType := fun k => match k with
  | 0 => .array .int
  | 1 => .array .int
  | 2 => .boolean
  | 3 => .array .int
  | 4 => .int
  | 5 => .int
  | 6 => .int
  | 7 => .int
  | 8 => .int
  | 9 => .int
  | 10 => .int
  | 11 => .int
  | 12 => .array .int
  | 13 => .array .int
  | 14 => .int
  | 15 => .int
  | 16 => .int
  | 17 => .int
  | 18 => .array .int
  | 19 => .int
  | 20 => .array .int
  | 21 => .array .boolean
  | 22 => .array .int
  | 23 => .array .int
  | 24 => .array .int
  | _ => .int
abbrev wsX60 : List Cond := u_ws RX6 TX6 26
theorem nmX6 : ∀ a, a < 26 → ∀ b, b < 26 → a ≠ b → (TX6 a).2.1 ≠ (TX6 b).2.1 := by decide +kernel
theorem tyX6_ok : ∀ k, k < 26 → parseFieldDescriptor (TX6 k).2.2.1 = some (tyX6 k) := by decide +kernel
abbrev cX6_init : ByteArray := prog_8_method_1_code
def yX6_init : MethodName := ⟨RX6, "<init>", "()V"⟩
abbrev cX6_in : ByteArray := prog_8_method_3_code
def yX6_in : MethodName := ⟨RX6, "in", "(JJJ)Z"⟩
abbrev cX6_feed : ByteArray := prog_8_method_4_code
def yX6_feed : MethodName := ⟨RX6, "feed", "(I)I"⟩
abbrev cX6_end : ByteArray := prog_8_method_5_code
def yX6_end : MethodName := ⟨RX6, "end", "(I)I"⟩
abbrev cX6_byteAt : ByteArray := prog_8_method_6_code
def yX6_byteAt : MethodName := ⟨RX6, "byteAt", "(I)I"⟩
abbrev cX6_fails : ByteArray := prog_8_method_7_code
def yX6_fails : MethodName := ⟨RX6, "fails", "(I)V"⟩
abbrev cX6_nameHere : ByteArray := prog_8_method_8_code
def yX6_nameHere : MethodName := ⟨RX6, "nameHere", "()I"⟩
abbrev cX6_step : ByteArray := prog_8_method_9_code
def yX6_step : MethodName := ⟨RX6, "step", "()V"⟩
abbrev cX6_number : ByteArray := prog_8_method_10_code
def yX6_number : MethodName := ⟨RX6, "number", "(II)I"⟩
abbrev cX6_readMore : ByteArray := prog_8_method_11_code
def yX6_readMore : MethodName := ⟨RX6, "readMore", "(I)V"⟩
abbrev cX6_readLine : ByteArray := prog_8_method_12_code
def yX6_readLine : MethodName := ⟨RX6, "readLine", "()V"⟩
abbrev cX6_text : ByteArray := prog_8_method_13_code
def yX6_text : MethodName := ⟨RX6, "text", "()I"⟩
abbrev cX6_fault : ByteArray := prog_8_method_14_code
def yX6_fault : MethodName := ⟨RX6, "fault", "()I"⟩
abbrev cX6_isClock : ByteArray := prog_8_method_15_code
def yX6_isClock : MethodName := ⟨RX6, "isClock", "(I)Z"⟩
abbrev cX6_isOnward : ByteArray := prog_8_method_16_code
def yX6_isOnward : MethodName := ⟨RX6, "isOnward", "(II)Z"⟩
abbrev cX6_pushedOn : ByteArray := prog_8_method_17_code
def yX6_pushedOn : MethodName := ⟨RX6, "pushedOn", "(III)V"⟩
abbrev cX6_bitsOf : ByteArray := prog_8_method_18_code
def yX6_bitsOf : MethodName := ⟨RX6, "bitsOf", "(I)I"⟩
abbrev cX6_beatsOn : ByteArray := prog_8_method_19_code
def yX6_beatsOn : MethodName := ⟨RX6, "beatsOn", "(I)I"⟩
abbrev cX6_tickOn : ByteArray := prog_8_method_20_code
def yX6_tickOn : MethodName := ⟨RX6, "tickOn", "(IZ)I"⟩
abbrev cX6_allOn : ByteArray := prog_8_method_21_code
def yX6_allOn : MethodName := ⟨RX6, "allOn", "(I)I"⟩
abbrev cX6_sumOn : ByteArray := prog_8_method_22_code
def yX6_sumOn : MethodName := ⟨RX6, "sumOn", "(II)I"⟩
abbrev cX6_rule : ByteArray := prog_8_method_23_code
def yX6_rule : MethodName := ⟨RX6, "rule", "(I)I"⟩
abbrev cX6_clock : ByteArray := prog_8_method_24_code
def yX6_clock : MethodName := ⟨RX6, "clock", "(II)I"⟩
abbrev cX6_alters : ByteArray := prog_8_method_25_code
def yX6_alters : MethodName := ⟨RX6, "alters", "(III)I"⟩
abbrev cX6_alter : ByteArray := prog_8_method_26_code
def yX6_alter : MethodName := ⟨RX6, "alter", "(III)I"⟩
abbrev cX6_push : ByteArray := prog_8_method_27_code
def yX6_push : MethodName := ⟨RX6, "push", "(I)I"⟩
abbrev cX6_hang : ByteArray := prog_8_method_28_code
def yX6_hang : MethodName := ⟨RX6, "hang", "(II)I"⟩
abbrev cX6_cut : ByteArray := prog_8_method_29_code
def yX6_cut : MethodName := ⟨RX6, "cut", "(I)I"⟩
abbrev cX6_knock : ByteArray := prog_8_method_30_code
def yX6_knock : MethodName := ⟨RX6, "knock", "(II)I"⟩
abbrev cX6_ticks : ByteArray := prog_8_method_31_code
def yX6_ticks : MethodName := ⟨RX6, "ticks", "(I)I"⟩
abbrev cX6_copies : ByteArray := prog_8_method_32_code
def yX6_copies : MethodName := ⟨RX6, "copies", "(II)V"⟩
abbrev cX6_ticksGo : ByteArray := prog_8_method_33_code
def yX6_ticksGo : MethodName := ⟨RX6, "ticksGo", "(II)I"⟩
abbrev cX6_runs : ByteArray := prog_8_method_34_code
def yX6_runs : MethodName := ⟨RX6, "runs", "(II)I"⟩
abbrev cX6_ahead : ByteArray := prog_8_method_35_code
def yX6_ahead : MethodName := ⟨RX6, "ahead", "(III)I"⟩
abbrev cX6_beats : ByteArray := prog_8_method_36_code
def yX6_beats : MethodName := ⟨RX6, "beats", "(I)I"⟩
abbrev cX6_meetOn : ByteArray := prog_8_method_37_code
def yX6_meetOn : MethodName := ⟨RX6, "meetOn", "(I)I"⟩
abbrev cX6_together : ByteArray := prog_8_method_38_code
def yX6_together : MethodName := ⟨RX6, "together", "()I"⟩
abbrev cX6_again : ByteArray := prog_8_method_39_code
def yX6_again : MethodName := ⟨RX6, "again", "()I"⟩
abbrev cX6_soonestAt : ByteArray := prog_8_method_40_code
def yX6_soonestAt : MethodName := ⟨RX6, "soonestAt", "(IIIII)I"⟩
abbrev cX6_periodOn : ByteArray := prog_8_method_41_code
def yX6_periodOn : MethodName := ⟨RX6, "periodOn", "(III)V"⟩
abbrev cX6_period : ByteArray := prog_8_method_42_code
def yX6_period : MethodName := ⟨RX6, "period", "(II)I"⟩
abbrev cX6_hand : ByteArray := prog_8_method_43_code
def yX6_hand : MethodName := ⟨RX6, "hand", "(II)I"⟩
abbrev cX6_kind : ByteArray := prog_8_method_44_code
def yX6_kind : MethodName := ⟨RX6, "kind", "(II)I"⟩
abbrev cX6_force : ByteArray := prog_8_method_45_code
def yX6_force : MethodName := ⟨RX6, "force", "(I)I"⟩
abbrev cX6_away : ByteArray := prog_8_method_46_code
def yX6_away : MethodName := ⟨RX6, "away", "(I)I"⟩
abbrev cX6_lowest : ByteArray := prog_8_method_47_code
def yX6_lowest : MethodName := ⟨RX6, "lowest", "(JJI)J"⟩
abbrev cX6_byHeld : ByteArray := prog_8_method_48_code
def yX6_byHeld : MethodName := ⟨RX6, "byHeld", "(IIII)J"⟩
abbrev cX6_luck : ByteArray := prog_8_method_49_code
def yX6_luck : MethodName := ⟨RX6, "luck", "(IIII)J"⟩
abbrev cX6_mean : ByteArray := prog_8_method_50_code
def yX6_mean : MethodName := ⟨RX6, "mean", "(III)J"⟩
abbrev cX6_see : ByteArray := prog_8_method_51_code
def yX6_see : MethodName := ⟨RX6, "see", "(III)I"⟩
abbrev cX6_forget : ByteArray := prog_8_method_52_code
def yX6_forget : MethodName := ⟨RX6, "forget", "(I)I"⟩
abbrev cX6_isAsSeen : ByteArray := prog_8_method_53_code
def yX6_isAsSeen : MethodName := ⟨RX6, "isAsSeen", "(II)Z"⟩
abbrev cX6_kinds : ByteArray := prog_8_method_54_code
def yX6_kinds : MethodName := ⟨RX6, "kinds", "(I)I"⟩
abbrev cX6_periods : ByteArray := prog_8_method_55_code
def yX6_periods : MethodName := ⟨RX6, "periods", "(I)I"⟩
abbrev cX6_handsOf : ByteArray := prog_8_method_56_code
def yX6_handsOf : MethodName := ⟨RX6, "handsOf", "(I)I"⟩
abbrev cX6_hands : ByteArray := prog_8_method_57_code
def yX6_hands : MethodName := ⟨RX6, "hands", "(I)I"⟩
abbrev cX6_ask : ByteArray := prog_8_method_58_code
def yX6_ask : MethodName := ⟨RX6, "ask", "(II)I"⟩
abbrev cX6_drift : ByteArray := prog_8_method_59_code
def yX6_drift : MethodName := ⟨RX6, "drift", "(III)I"⟩
abbrev cX6_keep : ByteArray := prog_8_method_60_code
def yX6_keep : MethodName := ⟨RX6, "keep", "(I)I"⟩
abbrev cX6_back : ByteArray := prog_8_method_61_code
def yX6_back : MethodName := ⟨RX6, "back", "(I)I"⟩
abbrev cX6_sheet : ByteArray := prog_8_method_62_code
def yX6_sheet : MethodName := ⟨RX6, "sheet", "(III)I"⟩
abbrev cX6_lay : ByteArray := prog_8_method_63_code
def yX6_lay : MethodName := ⟨RX6, "lay", "(III)I"⟩
abbrev cX6_read : ByteArray := prog_8_method_64_code
def yX6_read : MethodName := ⟨RX6, "read", "(IIII)I"⟩
abbrev cX6_torn : ByteArray := prog_8_method_65_code
def yX6_torn : MethodName := ⟨RX6, "torn", "()I"⟩
abbrev cX6_count : ByteArray := prog_8_method_66_code
def yX6_count : MethodName := ⟨RX6, "count", "(I)I"⟩
def RJx145de : String := "java/io/Serializable"
def TJx145de : u_T := fun k => match k with
  | _ => ("", "", "", false)
def tyJx145de : Nat → FieldType := fun k => match k with
  | _ => .int
abbrev wsJx145de0 : List Cond := u_ws RJx145de TJx145de 0
theorem nmJx145de : ∀ a, a < 0 → ∀ b, b < 0 → a ≠ b → (TJx145de a).2.1 ≠ (TJx145de b).2.1 := by decide +kernel
theorem tyJx145de_ok : ∀ k, k < 0 → parseFieldDescriptor (TJx145de k).2.2.1 = some (tyJx145de k) := by decide +kernel
def RJx9f9b0 : String := "java/lang/CharSequence"
def TJx9f9b0 : u_T := fun k => match k with
  | _ => ("", "", "", false)
def tyJx9f9b0 : Nat → FieldType := fun k => match k with
  | _ => .int
abbrev wsJx9f9b00 : List Cond := u_ws RJx9f9b0 TJx9f9b0 0
theorem nmJx9f9b0 : ∀ a, a < 0 → ∀ b, b < 0 → a ≠ b → (TJx9f9b0 a).2.1 ≠ (TJx9f9b0 b).2.1 := by decide +kernel
theorem tyJx9f9b0_ok : ∀ k, k < 0 → parseFieldDescriptor (TJx9f9b0 k).2.2.1 = some (tyJx9f9b0 k) := by decide +kernel
def RJxb160c : String := "java/lang/Comparable"
def TJxb160c : u_T := fun k => match k with
  | _ => ("", "", "", false)
def tyJxb160c : Nat → FieldType := fun k => match k with
  | _ => .int
abbrev wsJxb160c0 : List Cond := u_ws RJxb160c TJxb160c 0
theorem nmJxb160c : ∀ a, a < 0 → ∀ b, b < 0 → a ≠ b → (TJxb160c a).2.1 ≠ (TJxb160c b).2.1 := by decide +kernel
theorem tyJxb160c_ok : ∀ k, k < 0 → parseFieldDescriptor (TJxb160c k).2.2.1 = some (tyJxb160c k) := by decide +kernel
def RJ6 : String := "java/lang/Integer"
def TJ6 : u_T := fun k => match k with
  | _ => ("", "", "", false)
def tyJ6 : Nat → FieldType := fun k => match k with
  | _ => .int
abbrev wsJ60 : List Cond := u_ws RJ6 TJ6 0
theorem nmJ6 : ∀ a, a < 0 → ∀ b, b < 0 → a ≠ b → (TJ6 a).2.1 ≠ (TJ6 b).2.1 := by decide +kernel
theorem tyJ6_ok : ∀ k, k < 0 → parseFieldDescriptor (TJ6 k).2.2.1 = some (tyJ6 k) := by decide +kernel
abbrev cJ6_bitCount_0f7a4 : ByteArray := prog_9_method_49_code
def yJ6_bitCount_0f7a4 : MethodName := ⟨RJ6, "bitCount", "(I)I"⟩
def RJ9 : String := "java/lang/Math"
def TJ9 : u_T := fun k => match k with
  | _ => ("", "", "", false)
def tyJ9 : Nat → FieldType := fun k => match k with
  | _ => .int
abbrev wsJ90 : List Cond := u_ws RJ9 TJ9 0
theorem nmJ9 : ∀ a, a < 0 → ∀ b, b < 0 → a ≠ b → (TJ9 a).2.1 ≠ (TJ9 b).2.1 := by decide +kernel
theorem tyJ9_ok : ∀ k, k < 0 → parseFieldDescriptor (TJ9 k).2.2.1 = some (tyJ9 k) := by decide +kernel
abbrev cJ9_max_7cf53 : ByteArray := prog_10_method_65_code
def yJ9_max_7cf53 : MethodName := ⟨RJ9, "max", "(II)I"⟩
abbrev cJ9_min_7cf53 : ByteArray := prog_10_method_69_code
def yJ9_min_7cf53 : MethodName := ⟨RJ9, "min", "(II)I"⟩
def RJ0 : String := "java/lang/String"
def TJ0 : u_T := fun k => match k with
  | _ => ("", "", "", false)
def tyJ0 : Nat → FieldType := fun k => match k with
  | _ => .int
abbrev wsJ00 : List Cond := u_ws RJ0 TJ0 0
theorem nmJ0 : ∀ a, a < 0 → ∀ b, b < 0 → a ≠ b → (TJ0 a).2.1 ≠ (TJ0 b).2.1 := by decide +kernel
theorem tyJ0_ok : ∀ k, k < 0 → parseFieldDescriptor (TJ0 k).2.2.1 = some (tyJ0 k) := by decide +kernel
abbrev cJ0_length_8abf5 : ByteArray := prog_11_method_54_code
def yJ0_length_8abf5 : MethodName := ⟨RJ0, "length", "()I"⟩
abbrev cJ0_charAt_5068e : ByteArray := prog_11_method_56_code
def yJ0_charAt_5068e : MethodName := ⟨RJ0, "charAt", "(I)C"⟩
abbrev cJ0_coder_7d493 : ByteArray := prog_11_method_152_code
def yJ0_coder_7d493 : MethodName := ⟨RJ0, "coder", "()B"⟩
abbrev cJ0_isLatin1_aae02 : ByteArray := prog_11_method_154_code
def yJ0_isLatin1_aae02 : MethodName := ⟨RJ0, "isLatin1", "()Z"⟩
abbrev cJ0_checkIndex_df160 : ByteArray := prog_11_method_155_code
def yJ0_checkIndex_df160 : MethodName := ⟨RJ0, "checkIndex", "(II)V"⟩
def RJ1 : String := "java/lang/StringLatin1"
def TJ1 : u_T := fun k => match k with
  | _ => ("", "", "", false)
def tyJ1 : Nat → FieldType := fun k => match k with
  | _ => .int
abbrev wsJ10 : List Cond := u_ws RJ1 TJ1 0
theorem nmJ1 : ∀ a, a < 0 → ∀ b, b < 0 → a ≠ b → (TJ1 a).2.1 ≠ (TJ1 b).2.1 := by decide +kernel
theorem tyJ1_ok : ∀ k, k < 0 → parseFieldDescriptor (TJ1 k).2.2.1 = some (tyJ1 k) := by decide +kernel
abbrev cJ1_charAt_3b067 : ByteArray := prog_12_method_2_code
def yJ1_charAt_3b067 : MethodName := ⟨RJ1, "charAt", "([BI)C"⟩
def RJ2 : String := "java/lang/StringUTF16"
def TJ2 : u_T := fun k => match k with
  | _ => ("", "", "", false)
def tyJ2 : Nat → FieldType := fun k => match k with
  | _ => .int
abbrev wsJ20 : List Cond := u_ws RJ2 TJ2 0
theorem nmJ2 : ∀ a, a < 0 → ∀ b, b < 0 → a ≠ b → (TJ2 a).2.1 ≠ (TJ2 b).2.1 := by decide +kernel
theorem tyJ2_ok : ∀ k, k < 0 → parseFieldDescriptor (TJ2 k).2.2.1 = some (tyJ2 k) := by decide +kernel
abbrev cJ2_getChar_3b067 : ByteArray := prog_13_method_5_code
def yJ2_getChar_3b067 : MethodName := ⟨RJ2, "getChar", "([BI)C"⟩
abbrev cJ2_length_9d52b : ByteArray := prog_13_method_6_code
def yJ2_length_9d52b : MethodName := ⟨RJ2, "length", "([B)I"⟩
abbrev cJ2_charAt_3b067 : ByteArray := prog_13_method_83_code
def yJ2_charAt_3b067 : MethodName := ⟨RJ2, "charAt", "([BI)C"⟩
abbrev cJ2_checkIndex_2214a : ByteArray := prog_13_method_91_code
def yJ2_checkIndex_2214a : MethodName := ⟨RJ2, "checkIndex", "(I[B)V"⟩
def RJ10 : String := "java/lang/System"
def TJ10 : u_T := fun k => match k with
  | _ => ("", "", "", false)
def tyJ10 : Nat → FieldType := fun k => match k with
  | _ => .int
abbrev wsJ100 : List Cond := u_ws RJ10 TJ10 0
theorem nmJ10 : ∀ a, a < 0 → ∀ b, b < 0 → a ≠ b → (TJ10 a).2.1 ≠ (TJ10 b).2.1 := by decide +kernel
theorem tyJ10_ok : ∀ k, k < 0 → parseFieldDescriptor (TJ10 k).2.2.1 = some (tyJ10 k) := by decide +kernel
def RJxfd54e : String := "java/lang/constant/Constable"
def TJxfd54e : u_T := fun k => match k with
  | _ => ("", "", "", false)
def tyJxfd54e : Nat → FieldType := fun k => match k with
  | _ => .int
abbrev wsJxfd54e0 : List Cond := u_ws RJxfd54e TJxfd54e 0
theorem nmJxfd54e : ∀ a, a < 0 → ∀ b, b < 0 → a ≠ b → (TJxfd54e a).2.1 ≠ (TJxfd54e b).2.1 := by decide +kernel
theorem tyJxfd54e_ok : ∀ k, k < 0 → parseFieldDescriptor (TJxfd54e k).2.2.1 = some (tyJxfd54e k) := by decide +kernel
def RJx3cf43 : String := "java/lang/constant/ConstantDesc"
def TJx3cf43 : u_T := fun k => match k with
  | _ => ("", "", "", false)
def tyJx3cf43 : Nat → FieldType := fun k => match k with
  | _ => .int
abbrev wsJx3cf430 : List Cond := u_ws RJx3cf43 TJx3cf43 0
theorem nmJx3cf43 : ∀ a, a < 0 → ∀ b, b < 0 → a ≠ b → (TJx3cf43 a).2.1 ≠ (TJx3cf43 b).2.1 := by decide +kernel
theorem tyJx3cf43_ok : ∀ k, k < 0 → parseFieldDescriptor (TJx3cf43 k).2.2.1 = some (tyJx3cf43 k) := by decide +kernel
def RJ7 : String := "java/util/Arrays"
def TJ7 : u_T := fun k => match k with
  | _ => ("", "", "", false)
def tyJ7 : Nat → FieldType := fun k => match k with
  | _ => .int
abbrev wsJ70 : List Cond := u_ws RJ7 TJ7 0
theorem nmJ7 : ∀ a, a < 0 → ∀ b, b < 0 → a ≠ b → (TJ7 a).2.1 ≠ (TJ7 b).2.1 := by decide +kernel
theorem tyJ7_ok : ∀ k, k < 0 → parseFieldDescriptor (TJ7 k).2.2.1 = some (tyJ7 k) := by decide +kernel
abbrev cJ7_fill_53178 : ByteArray := prog_15_method_103_code
def yJ7_fill_53178 : MethodName := ⟨RJ7, "fill", "([II)V"⟩
def RJ3 : String := "jdk/internal/util/Preconditions"
def TJ3 : u_T := fun k => match k with
  | _ => ("", "", "", false)
def tyJ3 : Nat → FieldType := fun k => match k with
  | _ => .int
abbrev wsJ30 : List Cond := u_ws RJ3 TJ3 0
theorem nmJ3 : ∀ a, a < 0 → ∀ b, b < 0 → a ≠ b → (TJ3 a).2.1 ≠ (TJ3 b).2.1 := by decide +kernel
theorem tyJ3_ok : ∀ k, k < 0 → parseFieldDescriptor (TJ3 k).2.2.1 = some (tyJ3 k) := by decide +kernel
abbrev cJ3_checkIndex_8e157 : ByteArray := prog_16_method_11_code
def yJ3_checkIndex_8e157 : MethodName := ⟨RJ3, "checkIndex", "(IILjava/util/function/BiFunction;)I"⟩
def RL : String := "BeamClocksLaw"
abbrev cL_law : ByteArray := code
def yL_law : MethodName := ⟨RL, "law", "([I)Z"⟩
abbrev vwCl : List vw_C := [(RX0, TX0, 7), (RX1, TX1, 3), (RX2, TX2, 9), (RX3, TX3, 4), (RX4, TX4, 3), (RX5, TX5, 11), (RX6, TX6, 26)]
end
section
theorem dX0_init_0 : decode cX0_init 0 = .ok (.aload_n 0, 1) := by decide +kernel
theorem dX0_init_1 : decode cX0_init 1 = .ok (.invokespecial 3, 3) := by decide +kernel
theorem dX0_init_4 : decode cX0_init 4 = .ok (.aload_n 0, 1) := by decide +kernel
theorem dX0_init_5 : decode cX0_init 5 = .ok (.iconst 5, 1) := by decide +kernel
theorem dX0_init_6 : decode cX0_init 6 = .ok (.newarray .int, 2) := by decide +kernel
theorem dX0_init_8 : decode cX0_init 8 = .ok (.putfield 9, 3) := by decide +kernel
theorem dX0_init_11 : decode cX0_init 11 = .ok (.aload_n 0, 1) := by decide +kernel
theorem dX0_init_12 : decode cX0_init 12 = .ok (.iconst 5, 1) := by decide +kernel
theorem dX0_init_13 : decode cX0_init 13 = .ok (.newarray .int, 2) := by decide +kernel
theorem dX0_init_15 : decode cX0_init 15 = .ok (.putfield 15, 3) := by decide +kernel
theorem dX0_init_18 : decode cX0_init 18 = .ok (.aload_n 0, 1) := by decide +kernel
theorem dX0_init_19 : decode cX0_init 19 = .ok (.iconst 5, 1) := by decide +kernel
theorem dX0_init_20 : decode cX0_init 20 = .ok (.newarray .int, 2) := by decide +kernel
theorem dX0_init_22 : decode cX0_init 22 = .ok (.putfield 18, 3) := by decide +kernel
theorem dX0_init_25 : decode cX0_init 25 = .ok (.aload_n 0, 1) := by decide +kernel
theorem dX0_init_26 : decode cX0_init 26 = .ok (.iconst 5, 1) := by decide +kernel
theorem dX0_init_27 : decode cX0_init 27 = .ok (.newarray .int, 2) := by decide +kernel
theorem dX0_init_29 : decode cX0_init 29 = .ok (.putfield 21, 3) := by decide +kernel
theorem dX0_init_32 : decode cX0_init 32 = .ok (.aload_n 0, 1) := by decide +kernel
theorem dX0_init_33 : decode cX0_init 33 = .ok (.iconst 1, 1) := by decide +kernel
theorem dX0_init_34 : decode cX0_init 34 = .ok (.putfield 24, 3) := by decide +kernel
theorem dX0_init_37 : decode cX0_init 37 = .ok (.return_, 1) := by decide +kernel
theorem dX0_empty_0 : decode cX0_empty 0 = .ok (.aload_n 0, 1) := by decide +kernel
theorem dX0_empty_1 : decode cX0_empty 1 = .ok (.iconst 0, 1) := by decide +kernel
theorem dX0_empty_2 : decode cX0_empty 2 = .ok (.putfield 28, 3) := by decide +kernel
theorem dX0_empty_5 : decode cX0_empty 5 = .ok (.aload_n 0, 1) := by decide +kernel
theorem dX0_empty_6 : decode cX0_empty 6 = .ok (.iconst 1, 1) := by decide +kernel
theorem dX0_empty_7 : decode cX0_empty 7 = .ok (.putfield 24, 3) := by decide +kernel
theorem dX0_empty_10 : decode cX0_empty 10 = .ok (.aload_n 0, 1) := by decide +kernel
theorem dX0_empty_11 : decode cX0_empty 11 = .ok (.iconst 0, 1) := by decide +kernel
theorem dX0_empty_12 : decode cX0_empty 12 = .ok (.putfield 31, 3) := by decide +kernel
theorem dX0_empty_15 : decode cX0_empty 15 = .ok (.return_, 1) := by decide +kernel
theorem dX0_takeFrom_0 : decode cX0_takeFrom 0 = .ok (.aload_n 0, 1) := by decide +kernel
theorem dX0_takeFrom_1 : decode cX0_takeFrom 1 = .ok (.aload_n 1, 1) := by decide +kernel
theorem dX0_takeFrom_2 : decode cX0_takeFrom 2 = .ok (.getfield 28, 3) := by decide +kernel
theorem dX0_takeFrom_5 : decode cX0_takeFrom 5 = .ok (.putfield 28, 3) := by decide +kernel
theorem dX0_takeFrom_8 : decode cX0_takeFrom 8 = .ok (.aload_n 0, 1) := by decide +kernel
theorem dX0_takeFrom_9 : decode cX0_takeFrom 9 = .ok (.aload_n 1, 1) := by decide +kernel
theorem dX0_takeFrom_10 : decode cX0_takeFrom 10 = .ok (.getfield 24, 3) := by decide +kernel
theorem dX0_takeFrom_13 : decode cX0_takeFrom 13 = .ok (.putfield 24, 3) := by decide +kernel
theorem dX0_takeFrom_16 : decode cX0_takeFrom 16 = .ok (.aload_n 0, 1) := by decide +kernel
theorem dX0_takeFrom_17 : decode cX0_takeFrom 17 = .ok (.aload_n 1, 1) := by decide +kernel
theorem dX0_takeFrom_18 : decode cX0_takeFrom 18 = .ok (.getfield 31, 3) := by decide +kernel
theorem dX0_takeFrom_21 : decode cX0_takeFrom 21 = .ok (.putfield 31, 3) := by decide +kernel
theorem dX0_takeFrom_24 : decode cX0_takeFrom 24 = .ok (.aload_n 1, 1) := by decide +kernel
theorem dX0_takeFrom_25 : decode cX0_takeFrom 25 = .ok (.getfield 9, 3) := by decide +kernel
theorem dX0_takeFrom_28 : decode cX0_takeFrom 28 = .ok (.iconst 0, 1) := by decide +kernel
theorem dX0_takeFrom_29 : decode cX0_takeFrom 29 = .ok (.aload_n 0, 1) := by decide +kernel
theorem dX0_takeFrom_30 : decode cX0_takeFrom 30 = .ok (.getfield 9, 3) := by decide +kernel
theorem dX0_takeFrom_33 : decode cX0_takeFrom 33 = .ok (.iconst 0, 1) := by decide +kernel
theorem dX0_takeFrom_34 : decode cX0_takeFrom 34 = .ok (.iconst 5, 1) := by decide +kernel
theorem dX0_takeFrom_35 : decode cX0_takeFrom 35 = .ok (.invokestatic 34, 3) := by decide +kernel
theorem dX0_takeFrom_38 : decode cX0_takeFrom 38 = .ok (.aload_n 1, 1) := by decide +kernel
theorem dX0_takeFrom_39 : decode cX0_takeFrom 39 = .ok (.getfield 15, 3) := by decide +kernel
theorem dX0_takeFrom_42 : decode cX0_takeFrom 42 = .ok (.iconst 0, 1) := by decide +kernel
theorem dX0_takeFrom_43 : decode cX0_takeFrom 43 = .ok (.aload_n 0, 1) := by decide +kernel
theorem dX0_takeFrom_44 : decode cX0_takeFrom 44 = .ok (.getfield 15, 3) := by decide +kernel
theorem dX0_takeFrom_47 : decode cX0_takeFrom 47 = .ok (.iconst 0, 1) := by decide +kernel
theorem dX0_takeFrom_48 : decode cX0_takeFrom 48 = .ok (.iconst 5, 1) := by decide +kernel
theorem dX0_takeFrom_49 : decode cX0_takeFrom 49 = .ok (.invokestatic 34, 3) := by decide +kernel
theorem dX0_takeFrom_52 : decode cX0_takeFrom 52 = .ok (.aload_n 1, 1) := by decide +kernel
theorem dX0_takeFrom_53 : decode cX0_takeFrom 53 = .ok (.getfield 18, 3) := by decide +kernel
theorem dX0_takeFrom_56 : decode cX0_takeFrom 56 = .ok (.iconst 0, 1) := by decide +kernel
theorem dX0_takeFrom_57 : decode cX0_takeFrom 57 = .ok (.aload_n 0, 1) := by decide +kernel
theorem dX0_takeFrom_58 : decode cX0_takeFrom 58 = .ok (.getfield 18, 3) := by decide +kernel
theorem dX0_takeFrom_61 : decode cX0_takeFrom 61 = .ok (.iconst 0, 1) := by decide +kernel
theorem dX0_takeFrom_62 : decode cX0_takeFrom 62 = .ok (.iconst 5, 1) := by decide +kernel
theorem dX0_takeFrom_63 : decode cX0_takeFrom 63 = .ok (.invokestatic 34, 3) := by decide +kernel
theorem dX0_takeFrom_66 : decode cX0_takeFrom 66 = .ok (.aload_n 1, 1) := by decide +kernel
theorem dX0_takeFrom_67 : decode cX0_takeFrom 67 = .ok (.getfield 21, 3) := by decide +kernel
theorem dX0_takeFrom_70 : decode cX0_takeFrom 70 = .ok (.iconst 0, 1) := by decide +kernel
theorem dX0_takeFrom_71 : decode cX0_takeFrom 71 = .ok (.aload_n 0, 1) := by decide +kernel
theorem dX0_takeFrom_72 : decode cX0_takeFrom 72 = .ok (.getfield 21, 3) := by decide +kernel
theorem dX0_takeFrom_75 : decode cX0_takeFrom 75 = .ok (.iconst 0, 1) := by decide +kernel
theorem dX0_takeFrom_76 : decode cX0_takeFrom 76 = .ok (.iconst 5, 1) := by decide +kernel
theorem dX0_takeFrom_77 : decode cX0_takeFrom 77 = .ok (.invokestatic 34, 3) := by decide +kernel
theorem dX0_takeFrom_80 : decode cX0_takeFrom 80 = .ok (.return_, 1) := by decide +kernel
theorem dX0_addClock_0 : decode cX0_addClock 0 = .ok (.aload_n 0, 1) := by decide +kernel
theorem dX0_addClock_1 : decode cX0_addClock 1 = .ok (.getfield 28, 3) := by decide +kernel
theorem dX0_addClock_4 : decode cX0_addClock 4 = .ok (.iconst 5, 1) := by decide +kernel
theorem dX0_addClock_5 : decode cX0_addClock 5 = .ok (.if_icmp .lt 4, 3) := by decide +kernel
theorem dX0_addClock_8 : decode cX0_addClock 8 = .ok (.return_, 1) := by decide +kernel
theorem dX0_addClock_9 : decode cX0_addClock 9 = .ok (.aload_n 0, 1) := by decide +kernel
theorem dX0_addClock_10 : decode cX0_addClock 10 = .ok (.getfield 9, 3) := by decide +kernel
theorem dX0_addClock_13 : decode cX0_addClock 13 = .ok (.aload_n 0, 1) := by decide +kernel
theorem dX0_addClock_14 : decode cX0_addClock 14 = .ok (.getfield 28, 3) := by decide +kernel
theorem dX0_addClock_17 : decode cX0_addClock 17 = .ok (.iload_n 1, 1) := by decide +kernel
theorem dX0_addClock_18 : decode cX0_addClock 18 = .ok (.iastore, 1) := by decide +kernel
theorem dX0_addClock_19 : decode cX0_addClock 19 = .ok (.aload_n 0, 1) := by decide +kernel
theorem dX0_addClock_20 : decode cX0_addClock 20 = .ok (.getfield 15, 3) := by decide +kernel
theorem dX0_addClock_23 : decode cX0_addClock 23 = .ok (.aload_n 0, 1) := by decide +kernel
theorem dX0_addClock_24 : decode cX0_addClock 24 = .ok (.getfield 28, 3) := by decide +kernel
theorem dX0_addClock_27 : decode cX0_addClock 27 = .ok (.iload_n 2, 1) := by decide +kernel
theorem dX0_addClock_28 : decode cX0_addClock 28 = .ok (.iastore, 1) := by decide +kernel
theorem dX0_addClock_29 : decode cX0_addClock 29 = .ok (.aload_n 0, 1) := by decide +kernel
theorem dX0_addClock_30 : decode cX0_addClock 30 = .ok (.getfield 18, 3) := by decide +kernel
theorem dX0_addClock_33 : decode cX0_addClock 33 = .ok (.aload_n 0, 1) := by decide +kernel
theorem dX0_addClock_34 : decode cX0_addClock 34 = .ok (.getfield 28, 3) := by decide +kernel
theorem dX0_addClock_37 : decode cX0_addClock 37 = .ok (.iload_n 3, 1) := by decide +kernel
theorem dX0_addClock_38 : decode cX0_addClock 38 = .ok (.iastore, 1) := by decide +kernel
theorem dX0_addClock_39 : decode cX0_addClock 39 = .ok (.aload_n 0, 1) := by decide +kernel
theorem dX0_addClock_40 : decode cX0_addClock 40 = .ok (.getfield 21, 3) := by decide +kernel
theorem dX0_addClock_43 : decode cX0_addClock 43 = .ok (.aload_n 0, 1) := by decide +kernel
theorem dX0_addClock_44 : decode cX0_addClock 44 = .ok (.getfield 28, 3) := by decide +kernel
theorem dX0_addClock_47 : decode cX0_addClock 47 = .ok (.iconst 0, 1) := by decide +kernel
theorem dX0_addClock_48 : decode cX0_addClock 48 = .ok (.iastore, 1) := by decide +kernel
theorem dX0_addClock_49 : decode cX0_addClock 49 = .ok (.aload_n 0, 1) := by decide +kernel
theorem dX0_addClock_50 : decode cX0_addClock 50 = .ok (.dup, 1) := by decide +kernel
theorem dX0_addClock_51 : decode cX0_addClock 51 = .ok (.getfield 28, 3) := by decide +kernel
theorem dX0_addClock_54 : decode cX0_addClock 54 = .ok (.iconst 1, 1) := by decide +kernel
theorem dX0_addClock_55 : decode cX0_addClock 55 = .ok (.iadd, 1) := by decide +kernel
theorem dX0_addClock_56 : decode cX0_addClock 56 = .ok (.putfield 28, 3) := by decide +kernel
theorem dX0_addClock_59 : decode cX0_addClock 59 = .ok (.return_, 1) := by decide +kernel
theorem dX0_takeAway_0 : decode cX0_takeAway 0 = .ok (.iload_n 1, 1) := by decide +kernel
theorem dX0_takeAway_1 : decode cX0_takeAway 1 = .ok (.istore_n 2, 1) := by decide +kernel
theorem dX0_takeAway_2 : decode cX0_takeAway 2 = .ok (.iload_n 2, 1) := by decide +kernel
theorem dX0_takeAway_3 : decode cX0_takeAway 3 = .ok (.iconst 1, 1) := by decide +kernel
theorem dX0_takeAway_4 : decode cX0_takeAway 4 = .ok (.iadd, 1) := by decide +kernel
theorem dX0_takeAway_5 : decode cX0_takeAway 5 = .ok (.aload_n 0, 1) := by decide +kernel
theorem dX0_takeAway_6 : decode cX0_takeAway 6 = .ok (.getfield 28, 3) := by decide +kernel
theorem dX0_takeAway_9 : decode cX0_takeAway 9 = .ok (.if_icmp .ge 65, 3) := by decide +kernel
theorem dX0_takeAway_12 : decode cX0_takeAway 12 = .ok (.aload_n 0, 1) := by decide +kernel
theorem dX0_takeAway_13 : decode cX0_takeAway 13 = .ok (.getfield 9, 3) := by decide +kernel
theorem dX0_takeAway_16 : decode cX0_takeAway 16 = .ok (.iload_n 2, 1) := by decide +kernel
theorem dX0_takeAway_17 : decode cX0_takeAway 17 = .ok (.aload_n 0, 1) := by decide +kernel
theorem dX0_takeAway_18 : decode cX0_takeAway 18 = .ok (.getfield 9, 3) := by decide +kernel
theorem dX0_takeAway_21 : decode cX0_takeAway 21 = .ok (.iload_n 2, 1) := by decide +kernel
theorem dX0_takeAway_22 : decode cX0_takeAway 22 = .ok (.iconst 1, 1) := by decide +kernel
theorem dX0_takeAway_23 : decode cX0_takeAway 23 = .ok (.iadd, 1) := by decide +kernel
theorem dX0_takeAway_24 : decode cX0_takeAway 24 = .ok (.iaload, 1) := by decide +kernel
theorem dX0_takeAway_25 : decode cX0_takeAway 25 = .ok (.iastore, 1) := by decide +kernel
theorem dX0_takeAway_26 : decode cX0_takeAway 26 = .ok (.aload_n 0, 1) := by decide +kernel
theorem dX0_takeAway_27 : decode cX0_takeAway 27 = .ok (.getfield 15, 3) := by decide +kernel
theorem dX0_takeAway_30 : decode cX0_takeAway 30 = .ok (.iload_n 2, 1) := by decide +kernel
theorem dX0_takeAway_31 : decode cX0_takeAway 31 = .ok (.aload_n 0, 1) := by decide +kernel
theorem dX0_takeAway_32 : decode cX0_takeAway 32 = .ok (.getfield 15, 3) := by decide +kernel
theorem dX0_takeAway_35 : decode cX0_takeAway 35 = .ok (.iload_n 2, 1) := by decide +kernel
theorem dX0_takeAway_36 : decode cX0_takeAway 36 = .ok (.iconst 1, 1) := by decide +kernel
theorem dX0_takeAway_37 : decode cX0_takeAway 37 = .ok (.iadd, 1) := by decide +kernel
theorem dX0_takeAway_38 : decode cX0_takeAway 38 = .ok (.iaload, 1) := by decide +kernel
theorem dX0_takeAway_39 : decode cX0_takeAway 39 = .ok (.iastore, 1) := by decide +kernel
theorem dX0_takeAway_40 : decode cX0_takeAway 40 = .ok (.aload_n 0, 1) := by decide +kernel
theorem dX0_takeAway_41 : decode cX0_takeAway 41 = .ok (.getfield 18, 3) := by decide +kernel
theorem dX0_takeAway_44 : decode cX0_takeAway 44 = .ok (.iload_n 2, 1) := by decide +kernel
theorem dX0_takeAway_45 : decode cX0_takeAway 45 = .ok (.aload_n 0, 1) := by decide +kernel
theorem dX0_takeAway_46 : decode cX0_takeAway 46 = .ok (.getfield 18, 3) := by decide +kernel
theorem dX0_takeAway_49 : decode cX0_takeAway 49 = .ok (.iload_n 2, 1) := by decide +kernel
theorem dX0_takeAway_50 : decode cX0_takeAway 50 = .ok (.iconst 1, 1) := by decide +kernel
theorem dX0_takeAway_51 : decode cX0_takeAway 51 = .ok (.iadd, 1) := by decide +kernel
theorem dX0_takeAway_52 : decode cX0_takeAway 52 = .ok (.iaload, 1) := by decide +kernel
theorem dX0_takeAway_53 : decode cX0_takeAway 53 = .ok (.iastore, 1) := by decide +kernel
theorem dX0_takeAway_54 : decode cX0_takeAway 54 = .ok (.aload_n 0, 1) := by decide +kernel
theorem dX0_takeAway_55 : decode cX0_takeAway 55 = .ok (.getfield 21, 3) := by decide +kernel
theorem dX0_takeAway_58 : decode cX0_takeAway 58 = .ok (.iload_n 2, 1) := by decide +kernel
theorem dX0_takeAway_59 : decode cX0_takeAway 59 = .ok (.aload_n 0, 1) := by decide +kernel
theorem dX0_takeAway_60 : decode cX0_takeAway 60 = .ok (.getfield 21, 3) := by decide +kernel
theorem dX0_takeAway_63 : decode cX0_takeAway 63 = .ok (.iload_n 2, 1) := by decide +kernel
theorem dX0_takeAway_64 : decode cX0_takeAway 64 = .ok (.iconst 1, 1) := by decide +kernel
theorem dX0_takeAway_65 : decode cX0_takeAway 65 = .ok (.iadd, 1) := by decide +kernel
theorem dX0_takeAway_66 : decode cX0_takeAway 66 = .ok (.iaload, 1) := by decide +kernel
theorem dX0_takeAway_67 : decode cX0_takeAway 67 = .ok (.iastore, 1) := by decide +kernel
theorem dX0_takeAway_68 : decode cX0_takeAway 68 = .ok (.iinc 2 1, 3) := by decide +kernel
theorem dX0_takeAway_71 : decode cX0_takeAway 71 = .ok (.goto (-69), 3) := by decide +kernel
theorem dX0_takeAway_74 : decode cX0_takeAway 74 = .ok (.aload_n 0, 1) := by decide +kernel
theorem dX0_takeAway_75 : decode cX0_takeAway 75 = .ok (.dup, 1) := by decide +kernel
theorem dX0_takeAway_76 : decode cX0_takeAway 76 = .ok (.getfield 28, 3) := by decide +kernel
theorem dX0_takeAway_79 : decode cX0_takeAway 79 = .ok (.iconst 1, 1) := by decide +kernel
theorem dX0_takeAway_80 : decode cX0_takeAway 80 = .ok (.isub, 1) := by decide +kernel
theorem dX0_takeAway_81 : decode cX0_takeAway 81 = .ok (.putfield 28, 3) := by decide +kernel
theorem dX0_takeAway_84 : decode cX0_takeAway 84 = .ok (.return_, 1) := by decide +kernel
theorem dX0_alterKind_0 : decode cX0_alterKind 0 = .ok (.iload_n 2, 1) := by decide +kernel
theorem dX0_alterKind_1 : decode cX0_alterKind 1 = .ok (.iconst 0, 1) := by decide +kernel
theorem dX0_alterKind_2 : decode cX0_alterKind 2 = .ok (.iconst 3, 1) := by decide +kernel
theorem dX0_alterKind_3 : decode cX0_alterKind 3 = .ok (.invokestatic 40, 3) := by decide +kernel
theorem dX0_alterKind_6 : decode cX0_alterKind 6 = .ok (.ifCond .ne 5, 3) := by decide +kernel
theorem dX0_alterKind_9 : decode cX0_alterKind 9 = .ok (.iconst (-1), 1) := by decide +kernel
theorem dX0_alterKind_10 : decode cX0_alterKind 10 = .ok (.ireturn, 1) := by decide +kernel
theorem dX0_alterKind_11 : decode cX0_alterKind 11 = .ok (.aload_n 0, 1) := by decide +kernel
theorem dX0_alterKind_12 : decode cX0_alterKind 12 = .ok (.getfield 9, 3) := by decide +kernel
theorem dX0_alterKind_15 : decode cX0_alterKind 15 = .ok (.iload_n 1, 1) := by decide +kernel
theorem dX0_alterKind_16 : decode cX0_alterKind 16 = .ok (.iaload, 1) := by decide +kernel
theorem dX0_alterKind_17 : decode cX0_alterKind 17 = .ok (.istore_n 3, 1) := by decide +kernel
theorem dX0_alterKind_18 : decode cX0_alterKind 18 = .ok (.aload_n 0, 1) := by decide +kernel
theorem dX0_alterKind_19 : decode cX0_alterKind 19 = .ok (.getfield 9, 3) := by decide +kernel
theorem dX0_alterKind_22 : decode cX0_alterKind 22 = .ok (.iload_n 1, 1) := by decide +kernel
theorem dX0_alterKind_23 : decode cX0_alterKind 23 = .ok (.iload_n 2, 1) := by decide +kernel
theorem dX0_alterKind_24 : decode cX0_alterKind 24 = .ok (.iastore, 1) := by decide +kernel
theorem dX0_alterKind_25 : decode cX0_alterKind 25 = .ok (.iload_n 3, 1) := by decide +kernel
theorem dX0_alterKind_26 : decode cX0_alterKind 26 = .ok (.ireturn, 1) := by decide +kernel
theorem dX0_alterPeriod_0 : decode cX0_alterPeriod 0 = .ok (.iload_n 2, 1) := by decide +kernel
theorem dX0_alterPeriod_1 : decode cX0_alterPeriod 1 = .ok (.iconst 2, 1) := by decide +kernel
theorem dX0_alterPeriod_2 : decode cX0_alterPeriod 2 = .ok (.bipush 30, 2) := by decide +kernel
theorem dX0_alterPeriod_4 : decode cX0_alterPeriod 4 = .ok (.invokestatic 40, 3) := by decide +kernel
theorem dX0_alterPeriod_7 : decode cX0_alterPeriod 7 = .ok (.ifCond .ne 5, 3) := by decide +kernel
theorem dX0_alterPeriod_10 : decode cX0_alterPeriod 10 = .ok (.iconst (-1), 1) := by decide +kernel
theorem dX0_alterPeriod_11 : decode cX0_alterPeriod 11 = .ok (.ireturn, 1) := by decide +kernel
theorem dX0_alterPeriod_12 : decode cX0_alterPeriod 12 = .ok (.aload_n 0, 1) := by decide +kernel
theorem dX0_alterPeriod_13 : decode cX0_alterPeriod 13 = .ok (.getfield 18, 3) := by decide +kernel
theorem dX0_alterPeriod_16 : decode cX0_alterPeriod 16 = .ok (.iload_n 1, 1) := by decide +kernel
theorem dX0_alterPeriod_17 : decode cX0_alterPeriod 17 = .ok (.iaload, 1) := by decide +kernel
theorem dX0_alterPeriod_18 : decode cX0_alterPeriod 18 = .ok (.iload_n 2, 1) := by decide +kernel
theorem dX0_alterPeriod_19 : decode cX0_alterPeriod 19 = .ok (.if_icmp .lt 6, 3) := by decide +kernel
theorem dX0_alterPeriod_22 : decode cX0_alterPeriod 22 = .ok (.bipush (-2), 2) := by decide +kernel
theorem dX0_alterPeriod_24 : decode cX0_alterPeriod 24 = .ok (.ireturn, 1) := by decide +kernel
theorem dX0_alterPeriod_25 : decode cX0_alterPeriod 25 = .ok (.aload_n 0, 1) := by decide +kernel
theorem dX0_alterPeriod_26 : decode cX0_alterPeriod 26 = .ok (.getfield 15, 3) := by decide +kernel
theorem dX0_alterPeriod_29 : decode cX0_alterPeriod 29 = .ok (.iload_n 1, 1) := by decide +kernel
theorem dX0_alterPeriod_30 : decode cX0_alterPeriod 30 = .ok (.iaload, 1) := by decide +kernel
theorem dX0_alterPeriod_31 : decode cX0_alterPeriod 31 = .ok (.istore_n 3, 1) := by decide +kernel
theorem dX0_alterPeriod_32 : decode cX0_alterPeriod 32 = .ok (.aload_n 0, 1) := by decide +kernel
theorem dX0_alterPeriod_33 : decode cX0_alterPeriod 33 = .ok (.getfield 15, 3) := by decide +kernel
theorem dX0_alterPeriod_36 : decode cX0_alterPeriod 36 = .ok (.iload_n 1, 1) := by decide +kernel
theorem dX0_alterPeriod_37 : decode cX0_alterPeriod 37 = .ok (.iload_n 2, 1) := by decide +kernel
theorem dX0_alterPeriod_38 : decode cX0_alterPeriod 38 = .ok (.iastore, 1) := by decide +kernel
theorem dX0_alterPeriod_39 : decode cX0_alterPeriod 39 = .ok (.iload_n 3, 1) := by decide +kernel
theorem dX0_alterPeriod_40 : decode cX0_alterPeriod 40 = .ok (.ireturn, 1) := by decide +kernel
theorem dX0_alterHand_0 : decode cX0_alterHand 0 = .ok (.iload_n 2, 1) := by decide +kernel
theorem dX0_alterHand_1 : decode cX0_alterHand 1 = .ok (.iconst 0, 1) := by decide +kernel
theorem dX0_alterHand_2 : decode cX0_alterHand 2 = .ok (.bipush 29, 2) := by decide +kernel
theorem dX0_alterHand_4 : decode cX0_alterHand 4 = .ok (.invokestatic 40, 3) := by decide +kernel
theorem dX0_alterHand_7 : decode cX0_alterHand 7 = .ok (.ifCond .ne 5, 3) := by decide +kernel
theorem dX0_alterHand_10 : decode cX0_alterHand 10 = .ok (.iconst (-1), 1) := by decide +kernel
theorem dX0_alterHand_11 : decode cX0_alterHand 11 = .ok (.ireturn, 1) := by decide +kernel
theorem dX0_alterHand_12 : decode cX0_alterHand 12 = .ok (.iload_n 2, 1) := by decide +kernel
theorem dX0_alterHand_13 : decode cX0_alterHand 13 = .ok (.aload_n 0, 1) := by decide +kernel
theorem dX0_alterHand_14 : decode cX0_alterHand 14 = .ok (.getfield 15, 3) := by decide +kernel
theorem dX0_alterHand_17 : decode cX0_alterHand 17 = .ok (.iload_n 1, 1) := by decide +kernel
theorem dX0_alterHand_18 : decode cX0_alterHand 18 = .ok (.iaload, 1) := by decide +kernel
theorem dX0_alterHand_19 : decode cX0_alterHand 19 = .ok (.if_icmp .lt 6, 3) := by decide +kernel
theorem dX0_alterHand_22 : decode cX0_alterHand 22 = .ok (.bipush (-2), 2) := by decide +kernel
theorem dX0_alterHand_24 : decode cX0_alterHand 24 = .ok (.ireturn, 1) := by decide +kernel
theorem dX0_alterHand_25 : decode cX0_alterHand 25 = .ok (.aload_n 0, 1) := by decide +kernel
theorem dX0_alterHand_26 : decode cX0_alterHand 26 = .ok (.getfield 18, 3) := by decide +kernel
theorem dX0_alterHand_29 : decode cX0_alterHand 29 = .ok (.iload_n 1, 1) := by decide +kernel
theorem dX0_alterHand_30 : decode cX0_alterHand 30 = .ok (.iaload, 1) := by decide +kernel
theorem dX0_alterHand_31 : decode cX0_alterHand 31 = .ok (.istore_n 3, 1) := by decide +kernel
theorem dX0_alterHand_32 : decode cX0_alterHand 32 = .ok (.aload_n 0, 1) := by decide +kernel
theorem dX0_alterHand_33 : decode cX0_alterHand 33 = .ok (.getfield 18, 3) := by decide +kernel
theorem dX0_alterHand_36 : decode cX0_alterHand 36 = .ok (.iload_n 1, 1) := by decide +kernel
theorem dX0_alterHand_37 : decode cX0_alterHand 37 = .ok (.iload_n 2, 1) := by decide +kernel
theorem dX0_alterHand_38 : decode cX0_alterHand 38 = .ok (.iastore, 1) := by decide +kernel
theorem dX0_alterHand_39 : decode cX0_alterHand 39 = .ok (.iload_n 3, 1) := by decide +kernel
theorem dX0_alterHand_40 : decode cX0_alterHand 40 = .ok (.ireturn, 1) := by decide +kernel
theorem dX0_takesHand_0 : decode cX0_takesHand 0 = .ok (.iload_n 1, 1) := by decide +kernel
theorem dX0_takesHand_1 : decode cX0_takesHand 1 = .ok (.iconst 0, 1) := by decide +kernel
theorem dX0_takesHand_2 : decode cX0_takesHand 2 = .ok (.aload_n 0, 1) := by decide +kernel
theorem dX0_takesHand_3 : decode cX0_takesHand 3 = .ok (.getfield 28, 3) := by decide +kernel
theorem dX0_takesHand_6 : decode cX0_takesHand 6 = .ok (.iconst 1, 1) := by decide +kernel
theorem dX0_takesHand_7 : decode cX0_takesHand 7 = .ok (.isub, 1) := by decide +kernel
theorem dX0_takesHand_8 : decode cX0_takesHand 8 = .ok (.invokestatic 40, 3) := by decide +kernel
theorem dX0_takesHand_11 : decode cX0_takesHand 11 = .ok (.ifCond .eq 16, 3) := by decide +kernel
theorem dX0_takesHand_14 : decode cX0_takesHand 14 = .ok (.aload_n 0, 1) := by decide +kernel
theorem dX0_takesHand_15 : decode cX0_takesHand 15 = .ok (.iload_n 1, 1) := by decide +kernel
theorem dX0_takesHand_16 : decode cX0_takesHand 16 = .ok (.iload_n 2, 1) := by decide +kernel
theorem dX0_takesHand_17 : decode cX0_takesHand 17 = .ok (.invokevirtual 44, 3) := by decide +kernel
theorem dX0_takesHand_20 : decode cX0_takesHand 20 = .ok (.ifCond .lt 7, 3) := by decide +kernel
theorem dX0_takesHand_23 : decode cX0_takesHand 23 = .ok (.iconst 1, 1) := by decide +kernel
theorem dX0_takesHand_24 : decode cX0_takesHand 24 = .ok (.goto 4, 3) := by decide +kernel
theorem dX0_takesHand_27 : decode cX0_takesHand 27 = .ok (.iconst 0, 1) := by decide +kernel
theorem dX0_takesHand_28 : decode cX0_takesHand 28 = .ok (.ireturn, 1) := by decide +kernel
theorem dX0_shove_0 : decode cX0_shove 0 = .ok (.aload_n 0, 1) := by decide +kernel
theorem dX0_shove_1 : decode cX0_shove 1 = .ok (.getfield 9, 3) := by decide +kernel
theorem dX0_shove_4 : decode cX0_shove 4 = .ok (.iload_n 1, 1) := by decide +kernel
theorem dX0_shove_5 : decode cX0_shove 5 = .ok (.iaload, 1) := by decide +kernel
theorem dX0_shove_6 : decode cX0_shove 6 = .ok (.lookupswitch 42 #[(0, 26), (2, 33)], 26) := by decide +kernel
theorem dX0_shove_32 : decode cX0_shove 32 = .ok (.iload_n 2, 1) := by decide +kernel
theorem dX0_shove_33 : decode cX0_shove 33 = .ok (.aload_n 0, 1) := by decide +kernel
theorem dX0_shove_34 : decode cX0_shove 34 = .ok (.getfield 24, 3) := by decide +kernel
theorem dX0_shove_37 : decode cX0_shove 37 = .ok (.imul, 1) := by decide +kernel
theorem dX0_shove_38 : decode cX0_shove 38 = .ok (.ireturn, 1) := by decide +kernel
theorem dX0_shove_39 : decode cX0_shove 39 = .ok (.iload_n 2, 1) := by decide +kernel
theorem dX0_shove_40 : decode cX0_shove 40 = .ok (.iconst 1, 1) := by decide +kernel
theorem dX0_shove_41 : decode cX0_shove 41 = .ok (.isub, 1) := by decide +kernel
theorem dX0_shove_42 : decode cX0_shove 42 = .ok (.aload_n 0, 1) := by decide +kernel
theorem dX0_shove_43 : decode cX0_shove 43 = .ok (.getfield 24, 3) := by decide +kernel
theorem dX0_shove_46 : decode cX0_shove 46 = .ok (.imul, 1) := by decide +kernel
theorem dX0_shove_47 : decode cX0_shove 47 = .ok (.ireturn, 1) := by decide +kernel
theorem dX0_shove_48 : decode cX0_shove 48 = .ok (.iload_n 2, 1) := by decide +kernel
theorem dX0_shove_49 : decode cX0_shove 49 = .ok (.aload_n 0, 1) := by decide +kernel
theorem dX0_shove_50 : decode cX0_shove 50 = .ok (.getfield 24, 3) := by decide +kernel
theorem dX0_shove_53 : decode cX0_shove 53 = .ok (.imul, 1) := by decide +kernel
theorem dX0_shove_54 : decode cX0_shove 54 = .ok (.iconst 2, 1) := by decide +kernel
theorem dX0_shove_55 : decode cX0_shove 55 = .ok (.idiv, 1) := by decide +kernel
theorem dX0_shove_56 : decode cX0_shove 56 = .ok (.ireturn, 1) := by decide +kernel
theorem dX0_goesOn_0 : decode cX0_goesOn 0 = .ok (.aload_n 0, 1) := by decide +kernel
theorem dX0_goesOn_1 : decode cX0_goesOn 1 = .ok (.getfield 9, 3) := by decide +kernel
theorem dX0_goesOn_4 : decode cX0_goesOn 4 = .ok (.iload_n 1, 1) := by decide +kernel
theorem dX0_goesOn_5 : decode cX0_goesOn 5 = .ok (.iaload, 1) := by decide +kernel
theorem dX0_goesOn_6 : decode cX0_goesOn 6 = .ok (.iconst 3, 1) := by decide +kernel
theorem dX0_goesOn_7 : decode cX0_goesOn 7 = .ok (.if_icmp .eq 24, 3) := by decide +kernel
theorem dX0_goesOn_10 : decode cX0_goesOn 10 = .ok (.iconst 2, 1) := by decide +kernel
theorem dX0_goesOn_11 : decode cX0_goesOn 11 = .ok (.aload_n 0, 1) := by decide +kernel
theorem dX0_goesOn_12 : decode cX0_goesOn 12 = .ok (.getfield 18, 3) := by decide +kernel
theorem dX0_goesOn_15 : decode cX0_goesOn 15 = .ok (.iload_n 1, 1) := by decide +kernel
theorem dX0_goesOn_16 : decode cX0_goesOn 16 = .ok (.iaload, 1) := by decide +kernel
theorem dX0_goesOn_17 : decode cX0_goesOn 17 = .ok (.imul, 1) := by decide +kernel
theorem dX0_goesOn_18 : decode cX0_goesOn 18 = .ok (.aload_n 0, 1) := by decide +kernel
theorem dX0_goesOn_19 : decode cX0_goesOn 19 = .ok (.getfield 15, 3) := by decide +kernel
theorem dX0_goesOn_22 : decode cX0_goesOn 22 = .ok (.iload_n 1, 1) := by decide +kernel
theorem dX0_goesOn_23 : decode cX0_goesOn 23 = .ok (.iaload, 1) := by decide +kernel
theorem dX0_goesOn_24 : decode cX0_goesOn 24 = .ok (.if_icmp .lt 7, 3) := by decide +kernel
theorem dX0_goesOn_27 : decode cX0_goesOn 27 = .ok (.iconst 1, 1) := by decide +kernel
theorem dX0_goesOn_28 : decode cX0_goesOn 28 = .ok (.goto 4, 3) := by decide +kernel
theorem dX0_goesOn_31 : decode cX0_goesOn 31 = .ok (.iconst 0, 1) := by decide +kernel
theorem dX0_goesOn_32 : decode cX0_goesOn 32 = .ok (.ireturn, 1) := by decide +kernel
theorem dX0_shift_0 : decode cX0_shift 0 = .ok (.aload_n 0, 1) := by decide +kernel
theorem dX0_shift_1 : decode cX0_shift 1 = .ok (.iload_n 1, 1) := by decide +kernel
theorem dX0_shift_2 : decode cX0_shift 2 = .ok (.iload_n 2, 1) := by decide +kernel
theorem dX0_shift_3 : decode cX0_shift 3 = .ok (.invokevirtual 48, 3) := by decide +kernel
theorem dX0_shift_6 : decode cX0_shift 6 = .ok (.istore_n 3, 1) := by decide +kernel
theorem dX0_shift_7 : decode cX0_shift 7 = .ok (.aload_n 0, 1) := by decide +kernel
theorem dX0_shift_8 : decode cX0_shift 8 = .ok (.getfield 18, 3) := by decide +kernel
theorem dX0_shift_11 : decode cX0_shift 11 = .ok (.iload_n 1, 1) := by decide +kernel
theorem dX0_shift_12 : decode cX0_shift 12 = .ok (.aload_n 0, 1) := by decide +kernel
theorem dX0_shift_13 : decode cX0_shift 13 = .ok (.iload_n 1, 1) := by decide +kernel
theorem dX0_shift_14 : decode cX0_shift 14 = .ok (.invokevirtual 51, 3) := by decide +kernel
theorem dX0_shift_17 : decode cX0_shift 17 = .ok (.ifCond .eq 25, 3) := by decide +kernel
theorem dX0_shift_20 : decode cX0_shift 20 = .ok (.aload_n 0, 1) := by decide +kernel
theorem dX0_shift_21 : decode cX0_shift 21 = .ok (.getfield 18, 3) := by decide +kernel
theorem dX0_shift_24 : decode cX0_shift 24 = .ok (.iload_n 1, 1) := by decide +kernel
theorem dX0_shift_25 : decode cX0_shift 25 = .ok (.iaload, 1) := by decide +kernel
theorem dX0_shift_26 : decode cX0_shift 26 = .ok (.iload_n 3, 1) := by decide +kernel
theorem dX0_shift_27 : decode cX0_shift 27 = .ok (.iadd, 1) := by decide +kernel
theorem dX0_shift_28 : decode cX0_shift 28 = .ok (.aload_n 0, 1) := by decide +kernel
theorem dX0_shift_29 : decode cX0_shift 29 = .ok (.getfield 15, 3) := by decide +kernel
theorem dX0_shift_32 : decode cX0_shift 32 = .ok (.iload_n 1, 1) := by decide +kernel
theorem dX0_shift_33 : decode cX0_shift 33 = .ok (.iaload, 1) := by decide +kernel
theorem dX0_shift_34 : decode cX0_shift 34 = .ok (.iconst 1, 1) := by decide +kernel
theorem dX0_shift_35 : decode cX0_shift 35 = .ok (.isub, 1) := by decide +kernel
theorem dX0_shift_36 : decode cX0_shift 36 = .ok (.invokestatic 55, 3) := by decide +kernel
theorem dX0_shift_39 : decode cX0_shift 39 = .ok (.goto 15, 3) := by decide +kernel
theorem dX0_shift_42 : decode cX0_shift 42 = .ok (.aload_n 0, 1) := by decide +kernel
theorem dX0_shift_43 : decode cX0_shift 43 = .ok (.getfield 18, 3) := by decide +kernel
theorem dX0_shift_46 : decode cX0_shift 46 = .ok (.iload_n 1, 1) := by decide +kernel
theorem dX0_shift_47 : decode cX0_shift 47 = .ok (.iaload, 1) := by decide +kernel
theorem dX0_shift_48 : decode cX0_shift 48 = .ok (.iload_n 3, 1) := by decide +kernel
theorem dX0_shift_49 : decode cX0_shift 49 = .ok (.isub, 1) := by decide +kernel
theorem dX0_shift_50 : decode cX0_shift 50 = .ok (.iconst 0, 1) := by decide +kernel
theorem dX0_shift_51 : decode cX0_shift 51 = .ok (.invokestatic 60, 3) := by decide +kernel
theorem dX0_shift_54 : decode cX0_shift 54 = .ok (.iastore, 1) := by decide +kernel
theorem dX0_shift_55 : decode cX0_shift 55 = .ok (.return_, 1) := by decide +kernel
theorem dX0_step_0 : decode cX0_step 0 = .ok (.aload_n 0, 1) := by decide +kernel
theorem dX0_step_1 : decode cX0_step 1 = .ok (.invokevirtual 63, 3) := by decide +kernel
theorem dX0_step_4 : decode cX0_step 4 = .ok (.istore_n 2, 1) := by decide +kernel
theorem dX0_step_5 : decode cX0_step 5 = .ok (.iload_n 2, 1) := by decide +kernel
theorem dX0_step_6 : decode cX0_step 6 = .ok (.ifCond .eq 12, 3) := by decide +kernel
theorem dX0_step_9 : decode cX0_step 9 = .ok (.iload_n 1, 1) := by decide +kernel
theorem dX0_step_10 : decode cX0_step 10 = .ok (.ifCond .ne 8, 3) := by decide +kernel
theorem dX0_step_13 : decode cX0_step 13 = .ok (.aload_n 0, 1) := by decide +kernel
theorem dX0_step_14 : decode cX0_step 14 = .ok (.iload_n 2, 1) := by decide +kernel
theorem dX0_step_15 : decode cX0_step 15 = .ok (.invokevirtual 67, 3) := by decide +kernel
theorem dX0_step_18 : decode cX0_step 18 = .ok (.aload_n 0, 1) := by decide +kernel
theorem dX0_step_19 : decode cX0_step 19 = .ok (.dup, 1) := by decide +kernel
theorem dX0_step_20 : decode cX0_step 20 = .ok (.getfield 31, 3) := by decide +kernel
theorem dX0_step_23 : decode cX0_step 23 = .ok (.iconst 1, 1) := by decide +kernel
theorem dX0_step_24 : decode cX0_step 24 = .ok (.iadd, 1) := by decide +kernel
theorem dX0_step_25 : decode cX0_step 25 = .ok (.putfield 31, 3) := by decide +kernel
theorem dX0_step_28 : decode cX0_step 28 = .ok (.iload_n 2, 1) := by decide +kernel
theorem dX0_step_29 : decode cX0_step 29 = .ok (.ireturn, 1) := by decide +kernel
theorem dX0_moveHands_0 : decode cX0_moveHands 0 = .ok (.iconst 0, 1) := by decide +kernel
theorem dX0_moveHands_1 : decode cX0_moveHands 1 = .ok (.istore_n 1, 1) := by decide +kernel
theorem dX0_moveHands_2 : decode cX0_moveHands 2 = .ok (.iconst 0, 1) := by decide +kernel
theorem dX0_moveHands_3 : decode cX0_moveHands 3 = .ok (.istore_n 2, 1) := by decide +kernel
theorem dX0_moveHands_4 : decode cX0_moveHands 4 = .ok (.iload_n 2, 1) := by decide +kernel
theorem dX0_moveHands_5 : decode cX0_moveHands 5 = .ok (.aload_n 0, 1) := by decide +kernel
theorem dX0_moveHands_6 : decode cX0_moveHands 6 = .ok (.getfield 28, 3) := by decide +kernel
theorem dX0_moveHands_9 : decode cX0_moveHands 9 = .ok (.if_icmp .ge 57, 3) := by decide +kernel
theorem dX0_moveHands_12 : decode cX0_moveHands 12 = .ok (.aload_n 0, 1) := by decide +kernel
theorem dX0_moveHands_13 : decode cX0_moveHands 13 = .ok (.getfield 18, 3) := by decide +kernel
theorem dX0_moveHands_16 : decode cX0_moveHands 16 = .ok (.iload_n 2, 1) := by decide +kernel
theorem dX0_moveHands_17 : decode cX0_moveHands 17 = .ok (.dup2, 1) := by decide +kernel
theorem dX0_moveHands_18 : decode cX0_moveHands 18 = .ok (.iaload, 1) := by decide +kernel
theorem dX0_moveHands_19 : decode cX0_moveHands 19 = .ok (.iconst 1, 1) := by decide +kernel
theorem dX0_moveHands_20 : decode cX0_moveHands 20 = .ok (.iadd, 1) := by decide +kernel
theorem dX0_moveHands_21 : decode cX0_moveHands 21 = .ok (.iastore, 1) := by decide +kernel
theorem dX0_moveHands_22 : decode cX0_moveHands 22 = .ok (.aload_n 0, 1) := by decide +kernel
theorem dX0_moveHands_23 : decode cX0_moveHands 23 = .ok (.getfield 18, 3) := by decide +kernel
theorem dX0_moveHands_26 : decode cX0_moveHands 26 = .ok (.iload_n 2, 1) := by decide +kernel
theorem dX0_moveHands_27 : decode cX0_moveHands 27 = .ok (.iaload, 1) := by decide +kernel
theorem dX0_moveHands_28 : decode cX0_moveHands 28 = .ok (.aload_n 0, 1) := by decide +kernel
theorem dX0_moveHands_29 : decode cX0_moveHands 29 = .ok (.getfield 15, 3) := by decide +kernel
theorem dX0_moveHands_32 : decode cX0_moveHands 32 = .ok (.iload_n 2, 1) := by decide +kernel
theorem dX0_moveHands_33 : decode cX0_moveHands 33 = .ok (.iaload, 1) := by decide +kernel
theorem dX0_moveHands_34 : decode cX0_moveHands 34 = .ok (.if_icmp .lt 26, 3) := by decide +kernel
theorem dX0_moveHands_37 : decode cX0_moveHands 37 = .ok (.aload_n 0, 1) := by decide +kernel
theorem dX0_moveHands_38 : decode cX0_moveHands 38 = .ok (.getfield 18, 3) := by decide +kernel
theorem dX0_moveHands_41 : decode cX0_moveHands 41 = .ok (.iload_n 2, 1) := by decide +kernel
theorem dX0_moveHands_42 : decode cX0_moveHands 42 = .ok (.iconst 0, 1) := by decide +kernel
theorem dX0_moveHands_43 : decode cX0_moveHands 43 = .ok (.iastore, 1) := by decide +kernel
theorem dX0_moveHands_44 : decode cX0_moveHands 44 = .ok (.aload_n 0, 1) := by decide +kernel
theorem dX0_moveHands_45 : decode cX0_moveHands 45 = .ok (.getfield 21, 3) := by decide +kernel
theorem dX0_moveHands_48 : decode cX0_moveHands 48 = .ok (.iload_n 2, 1) := by decide +kernel
theorem dX0_moveHands_49 : decode cX0_moveHands 49 = .ok (.dup2, 1) := by decide +kernel
theorem dX0_moveHands_50 : decode cX0_moveHands 50 = .ok (.iaload, 1) := by decide +kernel
theorem dX0_moveHands_51 : decode cX0_moveHands 51 = .ok (.iconst 1, 1) := by decide +kernel
theorem dX0_moveHands_52 : decode cX0_moveHands 52 = .ok (.iadd, 1) := by decide +kernel
theorem dX0_moveHands_53 : decode cX0_moveHands 53 = .ok (.iastore, 1) := by decide +kernel
theorem dX0_moveHands_54 : decode cX0_moveHands 54 = .ok (.iload_n 1, 1) := by decide +kernel
theorem dX0_moveHands_55 : decode cX0_moveHands 55 = .ok (.iconst 1, 1) := by decide +kernel
theorem dX0_moveHands_56 : decode cX0_moveHands 56 = .ok (.iload_n 2, 1) := by decide +kernel
theorem dX0_moveHands_57 : decode cX0_moveHands 57 = .ok (.ishl, 1) := by decide +kernel
theorem dX0_moveHands_58 : decode cX0_moveHands 58 = .ok (.ior, 1) := by decide +kernel
theorem dX0_moveHands_59 : decode cX0_moveHands 59 = .ok (.istore_n 1, 1) := by decide +kernel
theorem dX0_moveHands_60 : decode cX0_moveHands 60 = .ok (.iinc 2 1, 3) := by decide +kernel
theorem dX0_moveHands_63 : decode cX0_moveHands 63 = .ok (.goto (-59), 3) := by decide +kernel
theorem dX0_moveHands_66 : decode cX0_moveHands 66 = .ok (.iload_n 1, 1) := by decide +kernel
theorem dX0_moveHands_67 : decode cX0_moveHands 67 = .ok (.ireturn, 1) := by decide +kernel
theorem dX0_shake_0 : decode cX0_shake 0 = .ok (.iload_n 1, 1) := by decide +kernel
theorem dX0_shake_1 : decode cX0_shake 1 = .ok (.invokestatic 71, 3) := by decide +kernel
theorem dX0_shake_4 : decode cX0_shake 4 = .ok (.istore_n 2, 1) := by decide +kernel
theorem dX0_shake_5 : decode cX0_shake 5 = .ok (.iconst 0, 1) := by decide +kernel
theorem dX0_shake_6 : decode cX0_shake 6 = .ok (.istore_n 3, 1) := by decide +kernel
theorem dX0_shake_7 : decode cX0_shake 7 = .ok (.iload_n 3, 1) := by decide +kernel
theorem dX0_shake_8 : decode cX0_shake 8 = .ok (.aload_n 0, 1) := by decide +kernel
theorem dX0_shake_9 : decode cX0_shake 9 = .ok (.getfield 28, 3) := by decide +kernel
theorem dX0_shake_12 : decode cX0_shake 12 = .ok (.if_icmp .ge 23, 3) := by decide +kernel
theorem dX0_shake_15 : decode cX0_shake 15 = .ok (.iload_n 1, 1) := by decide +kernel
theorem dX0_shake_16 : decode cX0_shake 16 = .ok (.iload_n 3, 1) := by decide +kernel
theorem dX0_shake_17 : decode cX0_shake 17 = .ok (.invokestatic 77, 3) := by decide +kernel
theorem dX0_shake_20 : decode cX0_shake 20 = .ok (.ifCond .ne 9, 3) := by decide +kernel
theorem dX0_shake_23 : decode cX0_shake 23 = .ok (.aload_n 0, 1) := by decide +kernel
theorem dX0_shake_24 : decode cX0_shake 24 = .ok (.iload_n 3, 1) := by decide +kernel
theorem dX0_shake_25 : decode cX0_shake 25 = .ok (.iload_n 2, 1) := by decide +kernel
theorem dX0_shake_26 : decode cX0_shake 26 = .ok (.invokevirtual 81, 3) := by decide +kernel
theorem dX0_shake_29 : decode cX0_shake 29 = .ok (.iinc 3 1, 3) := by decide +kernel
theorem dX0_shake_32 : decode cX0_shake 32 = .ok (.goto (-25), 3) := by decide +kernel
theorem dX0_shake_35 : decode cX0_shake 35 = .ok (.return_, 1) := by decide +kernel
theorem dX0_stepMany_0 : decode cX0_stepMany 0 = .ok (.aload_n 0, 1) := by decide +kernel
theorem dX0_stepMany_1 : decode cX0_stepMany 1 = .ok (.iload_n 1, 1) := by decide +kernel
theorem dX0_stepMany_2 : decode cX0_stepMany 2 = .ok (.iconst 0, 1) := by decide +kernel
theorem dX0_stepMany_3 : decode cX0_stepMany 3 = .ok (.invokevirtual 85, 3) := by decide +kernel
theorem dX0_stepMany_6 : decode cX0_stepMany 6 = .ok (.ireturn, 1) := by decide +kernel
theorem dX0_stepHeld_0 : decode cX0_stepHeld 0 = .ok (.iconst 0, 1) := by decide +kernel
theorem dX0_stepHeld_1 : decode cX0_stepHeld 1 = .ok (.istore_n 3, 1) := by decide +kernel
theorem dX0_stepHeld_2 : decode cX0_stepHeld 2 = .ok (.iconst 0, 1) := by decide +kernel
theorem dX0_stepHeld_3 : decode cX0_stepHeld 3 = .ok (.istore 4, 2) := by decide +kernel
theorem dX0_stepHeld_5 : decode cX0_stepHeld 5 = .ok (.iload 4, 2) := by decide +kernel
theorem dX0_stepHeld_7 : decode cX0_stepHeld 7 = .ok (.iload_n 1, 1) := by decide +kernel
theorem dX0_stepHeld_8 : decode cX0_stepHeld 8 = .ok (.if_icmp .ge 40, 3) := by decide +kernel
theorem dX0_stepHeld_11 : decode cX0_stepHeld 11 = .ok (.iload_n 3, 1) := by decide +kernel
theorem dX0_stepHeld_12 : decode cX0_stepHeld 12 = .ok (.aload_n 0, 1) := by decide +kernel
theorem dX0_stepHeld_13 : decode cX0_stepHeld 13 = .ok (.iload 4, 2) := by decide +kernel
theorem dX0_stepHeld_15 : decode cX0_stepHeld 15 = .ok (.bipush 32, 2) := by decide +kernel
theorem dX0_stepHeld_17 : decode cX0_stepHeld 17 = .ok (.if_icmp .ge 16, 3) := by decide +kernel
theorem dX0_stepHeld_20 : decode cX0_stepHeld 20 = .ok (.iload_n 2, 1) := by decide +kernel
theorem dX0_stepHeld_21 : decode cX0_stepHeld 21 = .ok (.iload 4, 2) := by decide +kernel
theorem dX0_stepHeld_23 : decode cX0_stepHeld 23 = .ok (.invokestatic 77, 3) := by decide +kernel
theorem dX0_stepHeld_26 : decode cX0_stepHeld 26 = .ok (.ifCond .eq 7, 3) := by decide +kernel
theorem dX0_stepHeld_29 : decode cX0_stepHeld 29 = .ok (.iconst 1, 1) := by decide +kernel
theorem dX0_stepHeld_30 : decode cX0_stepHeld 30 = .ok (.goto 4, 3) := by decide +kernel
theorem dX0_stepHeld_33 : decode cX0_stepHeld 33 = .ok (.iconst 0, 1) := by decide +kernel
theorem dX0_stepHeld_34 : decode cX0_stepHeld 34 = .ok (.invokevirtual 88, 3) := by decide +kernel
theorem dX0_stepHeld_37 : decode cX0_stepHeld 37 = .ok (.invokestatic 71, 3) := by decide +kernel
theorem dX0_stepHeld_40 : decode cX0_stepHeld 40 = .ok (.iadd, 1) := by decide +kernel
theorem dX0_stepHeld_41 : decode cX0_stepHeld 41 = .ok (.istore_n 3, 1) := by decide +kernel
theorem dX0_stepHeld_42 : decode cX0_stepHeld 42 = .ok (.iinc 4 1, 3) := by decide +kernel
theorem dX0_stepHeld_45 : decode cX0_stepHeld 45 = .ok (.goto (-40), 3) := by decide +kernel
theorem dX0_stepHeld_48 : decode cX0_stepHeld 48 = .ok (.iload_n 3, 1) := by decide +kernel
theorem dX0_stepHeld_49 : decode cX0_stepHeld 49 = .ok (.ireturn, 1) := by decide +kernel
theorem dX0_everyClock_0 : decode cX0_everyClock 0 = .ok (.iconst 1, 1) := by decide +kernel
theorem dX0_everyClock_1 : decode cX0_everyClock 1 = .ok (.aload_n 0, 1) := by decide +kernel
theorem dX0_everyClock_2 : decode cX0_everyClock 2 = .ok (.getfield 28, 3) := by decide +kernel
theorem dX0_everyClock_5 : decode cX0_everyClock 5 = .ok (.ishl, 1) := by decide +kernel
theorem dX0_everyClock_6 : decode cX0_everyClock 6 = .ok (.iconst 1, 1) := by decide +kernel
theorem dX0_everyClock_7 : decode cX0_everyClock 7 = .ok (.isub, 1) := by decide +kernel
theorem dX0_everyClock_8 : decode cX0_everyClock 8 = .ok (.ireturn, 1) := by decide +kernel
theorem dX0_firstTogether_0 : decode cX0_firstTogether 0 = .ok (.aload_n 0, 1) := by decide +kernel
theorem dX0_firstTogether_1 : decode cX0_firstTogether 1 = .ok (.getfield 28, 3) := by decide +kernel
theorem dX0_firstTogether_4 : decode cX0_firstTogether 4 = .ok (.ifCond .ne 6, 3) := by decide +kernel
theorem dX0_firstTogether_7 : decode cX0_firstTogether 7 = .ok (.bipush (-4), 2) := by decide +kernel
theorem dX0_firstTogether_9 : decode cX0_firstTogether 9 = .ok (.ireturn, 1) := by decide +kernel
theorem dX0_firstTogether_10 : decode cX0_firstTogether 10 = .ok (.aload_n 0, 1) := by decide +kernel
theorem dX0_firstTogether_11 : decode cX0_firstTogether 11 = .ok (.invokevirtual 92, 3) := by decide +kernel
theorem dX0_firstTogether_14 : decode cX0_firstTogether 14 = .ok (.istore_n 2, 1) := by decide +kernel
theorem dX0_firstTogether_15 : decode cX0_firstTogether 15 = .ok (.iconst 0, 1) := by decide +kernel
theorem dX0_firstTogether_16 : decode cX0_firstTogether 16 = .ok (.istore_n 3, 1) := by decide +kernel
theorem dX0_firstTogether_17 : decode cX0_firstTogether 17 = .ok (.iload_n 3, 1) := by decide +kernel
theorem dX0_firstTogether_18 : decode cX0_firstTogether 18 = .ok (.iload_n 1, 1) := by decide +kernel
theorem dX0_firstTogether_19 : decode cX0_firstTogether 19 = .ok (.if_icmp .gt 20, 3) := by decide +kernel
theorem dX0_firstTogether_22 : decode cX0_firstTogether 22 = .ok (.aload_n 0, 1) := by decide +kernel
theorem dX0_firstTogether_23 : decode cX0_firstTogether 23 = .ok (.iconst 0, 1) := by decide +kernel
theorem dX0_firstTogether_24 : decode cX0_firstTogether 24 = .ok (.invokevirtual 88, 3) := by decide +kernel
theorem dX0_firstTogether_27 : decode cX0_firstTogether 27 = .ok (.iload_n 2, 1) := by decide +kernel
theorem dX0_firstTogether_28 : decode cX0_firstTogether 28 = .ok (.if_icmp .ne 5, 3) := by decide +kernel
theorem dX0_firstTogether_31 : decode cX0_firstTogether 31 = .ok (.iload_n 3, 1) := by decide +kernel
theorem dX0_firstTogether_32 : decode cX0_firstTogether 32 = .ok (.ireturn, 1) := by decide +kernel
theorem dX0_firstTogether_33 : decode cX0_firstTogether 33 = .ok (.iinc 3 1, 3) := by decide +kernel
theorem dX0_firstTogether_36 : decode cX0_firstTogether 36 = .ok (.goto (-19), 3) := by decide +kernel
theorem dX0_firstTogether_39 : decode cX0_firstTogether 39 = .ok (.bipush (-4), 2) := by decide +kernel
theorem dX0_firstTogether_41 : decode cX0_firstTogether 41 = .ok (.ireturn, 1) := by decide +kernel
theorem dX0_hasHandsOf_0 : decode cX0_hasHandsOf 0 = .ok (.iconst 0, 1) := by decide +kernel
theorem dX0_hasHandsOf_1 : decode cX0_hasHandsOf 1 = .ok (.istore_n 2, 1) := by decide +kernel
theorem dX0_hasHandsOf_2 : decode cX0_hasHandsOf 2 = .ok (.iload_n 2, 1) := by decide +kernel
theorem dX0_hasHandsOf_3 : decode cX0_hasHandsOf 3 = .ok (.aload_n 0, 1) := by decide +kernel
theorem dX0_hasHandsOf_4 : decode cX0_hasHandsOf 4 = .ok (.getfield 28, 3) := by decide +kernel
theorem dX0_hasHandsOf_7 : decode cX0_hasHandsOf 7 = .ok (.if_icmp .ge 26, 3) := by decide +kernel
theorem dX0_hasHandsOf_10 : decode cX0_hasHandsOf 10 = .ok (.aload_n 0, 1) := by decide +kernel
theorem dX0_hasHandsOf_11 : decode cX0_hasHandsOf 11 = .ok (.getfield 18, 3) := by decide +kernel
theorem dX0_hasHandsOf_14 : decode cX0_hasHandsOf 14 = .ok (.iload_n 2, 1) := by decide +kernel
theorem dX0_hasHandsOf_15 : decode cX0_hasHandsOf 15 = .ok (.iaload, 1) := by decide +kernel
theorem dX0_hasHandsOf_16 : decode cX0_hasHandsOf 16 = .ok (.aload_n 1, 1) := by decide +kernel
theorem dX0_hasHandsOf_17 : decode cX0_hasHandsOf 17 = .ok (.getfield 18, 3) := by decide +kernel
theorem dX0_hasHandsOf_20 : decode cX0_hasHandsOf 20 = .ok (.iload_n 2, 1) := by decide +kernel
theorem dX0_hasHandsOf_21 : decode cX0_hasHandsOf 21 = .ok (.iaload, 1) := by decide +kernel
theorem dX0_hasHandsOf_22 : decode cX0_hasHandsOf 22 = .ok (.if_icmp .eq 5, 3) := by decide +kernel
theorem dX0_hasHandsOf_25 : decode cX0_hasHandsOf 25 = .ok (.iconst 0, 1) := by decide +kernel
theorem dX0_hasHandsOf_26 : decode cX0_hasHandsOf 26 = .ok (.ireturn, 1) := by decide +kernel
theorem dX0_hasHandsOf_27 : decode cX0_hasHandsOf 27 = .ok (.iinc 2 1, 3) := by decide +kernel
theorem dX0_hasHandsOf_30 : decode cX0_hasHandsOf 30 = .ok (.goto (-28), 3) := by decide +kernel
theorem dX0_hasHandsOf_33 : decode cX0_hasHandsOf 33 = .ok (.iconst 1, 1) := by decide +kernel
theorem dX0_hasHandsOf_34 : decode cX0_hasHandsOf 34 = .ok (.ireturn, 1) := by decide +kernel
theorem dX0_sumOfHands_0 : decode cX0_sumOfHands 0 = .ok (.iconst 0, 1) := by decide +kernel
theorem dX0_sumOfHands_1 : decode cX0_sumOfHands 1 = .ok (.istore_n 1, 1) := by decide +kernel
theorem dX0_sumOfHands_2 : decode cX0_sumOfHands 2 = .ok (.iconst 0, 1) := by decide +kernel
theorem dX0_sumOfHands_3 : decode cX0_sumOfHands 3 = .ok (.istore_n 2, 1) := by decide +kernel
theorem dX0_sumOfHands_4 : decode cX0_sumOfHands 4 = .ok (.iload_n 2, 1) := by decide +kernel
theorem dX0_sumOfHands_5 : decode cX0_sumOfHands 5 = .ok (.aload_n 0, 1) := by decide +kernel
theorem dX0_sumOfHands_6 : decode cX0_sumOfHands 6 = .ok (.getfield 28, 3) := by decide +kernel
theorem dX0_sumOfHands_9 : decode cX0_sumOfHands 9 = .ok (.if_icmp .ge 18, 3) := by decide +kernel
theorem dX0_sumOfHands_12 : decode cX0_sumOfHands 12 = .ok (.iload_n 1, 1) := by decide +kernel
theorem dX0_sumOfHands_13 : decode cX0_sumOfHands 13 = .ok (.aload_n 0, 1) := by decide +kernel
theorem dX0_sumOfHands_14 : decode cX0_sumOfHands 14 = .ok (.getfield 18, 3) := by decide +kernel
theorem dX0_sumOfHands_17 : decode cX0_sumOfHands 17 = .ok (.iload_n 2, 1) := by decide +kernel
theorem dX0_sumOfHands_18 : decode cX0_sumOfHands 18 = .ok (.iaload, 1) := by decide +kernel
theorem dX0_sumOfHands_19 : decode cX0_sumOfHands 19 = .ok (.iadd, 1) := by decide +kernel
theorem dX0_sumOfHands_20 : decode cX0_sumOfHands 20 = .ok (.istore_n 1, 1) := by decide +kernel
theorem dX0_sumOfHands_21 : decode cX0_sumOfHands 21 = .ok (.iinc 2 1, 3) := by decide +kernel
theorem dX0_sumOfHands_24 : decode cX0_sumOfHands 24 = .ok (.goto (-20), 3) := by decide +kernel
theorem dX0_sumOfHands_27 : decode cX0_sumOfHands 27 = .ok (.iload_n 1, 1) := by decide +kernel
theorem dX0_sumOfHands_28 : decode cX0_sumOfHands 28 = .ok (.ireturn, 1) := by decide +kernel
theorem dX1_init_0 : decode cX1_init 0 = .ok (.aload_n 0, 1) := by decide +kernel
theorem dX1_init_1 : decode cX1_init 1 = .ok (.invokespecial 3, 3) := by decide +kernel
theorem dX1_init_4 : decode cX1_init 4 = .ok (.return_, 1) := by decide +kernel
theorem dX1_restart_0 : decode cX1_restart 0 = .ok (.aload_n 0, 1) := by decide +kernel
theorem dX1_restart_1 : decode cX1_restart 1 = .ok (.bipush (-4), 2) := by decide +kernel
theorem dX1_restart_3 : decode cX1_restart 3 = .ok (.putfield 9, 3) := by decide +kernel
theorem dX1_restart_6 : decode cX1_restart 6 = .ok (.aload_n 0, 1) := by decide +kernel
theorem dX1_restart_7 : decode cX1_restart 7 = .ok (.bipush (-4), 2) := by decide +kernel
theorem dX1_restart_9 : decode cX1_restart 9 = .ok (.putfield 15, 3) := by decide +kernel
theorem dX1_restart_12 : decode cX1_restart 12 = .ok (.aload_n 0, 1) := by decide +kernel
theorem dX1_restart_13 : decode cX1_restart 13 = .ok (.iload_n 1, 1) := by decide +kernel
theorem dX1_restart_14 : decode cX1_restart 14 = .ok (.putfield 18, 3) := by decide +kernel
theorem dX1_restart_17 : decode cX1_restart 17 = .ok (.return_, 1) := by decide +kernel
theorem dX1_offer_0 : decode cX1_offer 0 = .ok (.aload_n 2, 1) := by decide +kernel
theorem dX1_offer_1 : decode cX1_offer 1 = .ok (.aload_n 0, 1) := by decide +kernel
theorem dX1_offer_2 : decode cX1_offer 2 = .ok (.getfield 18, 3) := by decide +kernel
theorem dX1_offer_5 : decode cX1_offer 5 = .ok (.invokevirtual 21, 3) := by decide +kernel
theorem dX1_offer_8 : decode cX1_offer 8 = .ok (.istore_n 3, 1) := by decide +kernel
theorem dX1_offer_9 : decode cX1_offer 9 = .ok (.iload_n 3, 1) := by decide +kernel
theorem dX1_offer_10 : decode cX1_offer 10 = .ok (.bipush (-4), 2) := by decide +kernel
theorem dX1_offer_12 : decode cX1_offer 12 = .ok (.if_icmp .eq 20, 3) := by decide +kernel
theorem dX1_offer_15 : decode cX1_offer 15 = .ok (.aload_n 0, 1) := by decide +kernel
theorem dX1_offer_16 : decode cX1_offer 16 = .ok (.iload_n 1, 1) := by decide +kernel
theorem dX1_offer_17 : decode cX1_offer 17 = .ok (.putfield 9, 3) := by decide +kernel
theorem dX1_offer_20 : decode cX1_offer 20 = .ok (.aload_n 0, 1) := by decide +kernel
theorem dX1_offer_21 : decode cX1_offer 21 = .ok (.iload_n 3, 1) := by decide +kernel
theorem dX1_offer_22 : decode cX1_offer 22 = .ok (.putfield 15, 3) := by decide +kernel
theorem dX1_offer_25 : decode cX1_offer 25 = .ok (.aload_n 0, 1) := by decide +kernel
theorem dX1_offer_26 : decode cX1_offer 26 = .ok (.iload_n 3, 1) := by decide +kernel
theorem dX1_offer_27 : decode cX1_offer 27 = .ok (.iconst 1, 1) := by decide +kernel
theorem dX1_offer_28 : decode cX1_offer 28 = .ok (.isub, 1) := by decide +kernel
theorem dX1_offer_29 : decode cX1_offer 29 = .ok (.putfield 18, 3) := by decide +kernel
theorem dX1_offer_32 : decode cX1_offer 32 = .ok (.return_, 1) := by decide +kernel
theorem dX1_answer_0 : decode cX1_answer 0 = .ok (.iload_n 1, 1) := by decide +kernel
theorem dX1_answer_1 : decode cX1_answer 1 = .ok (.ifCond .ne 10, 3) := by decide +kernel
theorem dX1_answer_4 : decode cX1_answer 4 = .ok (.aload_n 0, 1) := by decide +kernel
theorem dX1_answer_5 : decode cX1_answer 5 = .ok (.getfield 9, 3) := by decide +kernel
theorem dX1_answer_8 : decode cX1_answer 8 = .ok (.goto 7, 3) := by decide +kernel
theorem dX1_answer_11 : decode cX1_answer 11 = .ok (.aload_n 0, 1) := by decide +kernel
theorem dX1_answer_12 : decode cX1_answer 12 = .ok (.getfield 15, 3) := by decide +kernel
theorem dX1_answer_15 : decode cX1_answer 15 = .ok (.ireturn, 1) := by decide +kernel
theorem dX2_init_0 : decode cX2_init 0 = .ok (.aload_n 0, 1) := by decide +kernel
theorem dX2_init_1 : decode cX2_init 1 = .ok (.invokespecial 3, 3) := by decide +kernel
theorem dX2_init_4 : decode cX2_init 4 = .ok (.aload_n 0, 1) := by decide +kernel
theorem dX2_init_5 : decode cX2_init 5 = .ok (.sipush 160, 3) := by decide +kernel
theorem dX2_init_8 : decode cX2_init 8 = .ok (.newarray .byte, 2) := by decide +kernel
theorem dX2_init_10 : decode cX2_init 10 = .ok (.putfield 9, 3) := by decide +kernel
theorem dX2_init_13 : decode cX2_init 13 = .ok (.return_, 1) := by decide +kernel
theorem dX2_readText_0 : decode cX2_readText 0 = .ok (.aload_n 0, 1) := by decide +kernel
theorem dX2_readText_1 : decode cX2_readText 1 = .ok (.iconst 0, 1) := by decide +kernel
theorem dX2_readText_2 : decode cX2_readText 2 = .ok (.putfield 15, 3) := by decide +kernel
theorem dX2_readText_5 : decode cX2_readText 5 = .ok (.aload_n 0, 1) := by decide +kernel
theorem dX2_readText_6 : decode cX2_readText 6 = .ok (.iconst 0, 1) := by decide +kernel
theorem dX2_readText_7 : decode cX2_readText 7 = .ok (.putfield 19, 3) := by decide +kernel
theorem dX2_readText_10 : decode cX2_readText 10 = .ok (.aload_n 0, 1) := by decide +kernel
theorem dX2_readText_11 : decode cX2_readText 11 = .ok (.iconst 0, 1) := by decide +kernel
theorem dX2_readText_12 : decode cX2_readText 12 = .ok (.putfield 22, 3) := by decide +kernel
theorem dX2_readText_15 : decode cX2_readText 15 = .ok (.aload_n 0, 1) := by decide +kernel
theorem dX2_readText_16 : decode cX2_readText 16 = .ok (.iconst 0, 1) := by decide +kernel
theorem dX2_readText_17 : decode cX2_readText 17 = .ok (.putfield 25, 3) := by decide +kernel
theorem dX2_readText_20 : decode cX2_readText 20 = .ok (.aload_n 0, 1) := by decide +kernel
theorem dX2_readText_21 : decode cX2_readText 21 = .ok (.iconst 0, 1) := by decide +kernel
theorem dX2_readText_22 : decode cX2_readText 22 = .ok (.putfield 28, 3) := by decide +kernel
theorem dX2_readText_25 : decode cX2_readText 25 = .ok (.aload_n 0, 1) := by decide +kernel
theorem dX2_readText_26 : decode cX2_readText 26 = .ok (.invokevirtual 32, 3) := by decide +kernel
theorem dX2_readText_29 : decode cX2_readText 29 = .ok (.iconst 0, 1) := by decide +kernel
theorem dX2_readText_30 : decode cX2_readText 30 = .ok (.istore_n 2, 1) := by decide +kernel
theorem dX2_readText_31 : decode cX2_readText 31 = .ok (.iload_n 2, 1) := by decide +kernel
theorem dX2_readText_32 : decode cX2_readText 32 = .ok (.sipush 160, 3) := by decide +kernel
theorem dX2_readText_35 : decode cX2_readText 35 = .ok (.if_icmp .ge 32, 3) := by decide +kernel
theorem dX2_readText_38 : decode cX2_readText 38 = .ok (.aload_n 0, 1) := by decide +kernel
theorem dX2_readText_39 : decode cX2_readText 39 = .ok (.getfield 15, 3) := by decide +kernel
theorem dX2_readText_42 : decode cX2_readText 42 = .ok (.ifCond .ne 25, 3) := by decide +kernel
theorem dX2_readText_45 : decode cX2_readText 45 = .ok (.aload_n 0, 1) := by decide +kernel
theorem dX2_readText_46 : decode cX2_readText 46 = .ok (.getfield 35, 3) := by decide +kernel
theorem dX2_readText_49 : decode cX2_readText 49 = .ok (.ifCond .eq 18, 3) := by decide +kernel
theorem dX2_readText_52 : decode cX2_readText 52 = .ok (.aload_n 0, 1) := by decide +kernel
theorem dX2_readText_53 : decode cX2_readText 53 = .ok (.aload_n 1, 1) := by decide +kernel
theorem dX2_readText_54 : decode cX2_readText 54 = .ok (.invokevirtual 38, 3) := by decide +kernel
theorem dX2_readText_57 : decode cX2_readText 57 = .ok (.aload_n 0, 1) := by decide +kernel
theorem dX2_readText_58 : decode cX2_readText 58 = .ok (.invokevirtual 32, 3) := by decide +kernel
theorem dX2_readText_61 : decode cX2_readText 61 = .ok (.iinc 2 1, 3) := by decide +kernel
theorem dX2_readText_64 : decode cX2_readText 64 = .ok (.goto (-33), 3) := by decide +kernel
theorem dX2_readText_67 : decode cX2_readText 67 = .ok (.return_, 1) := by decide +kernel
theorem dX2_readLine_0 : decode cX2_readLine 0 = .ok (.aload_n 0, 1) := by decide +kernel
theorem dX2_readLine_1 : decode cX2_readLine 1 = .ok (.invokevirtual 42, 3) := by decide +kernel
theorem dX2_readLine_4 : decode cX2_readLine 4 = .ok (.istore_n 2, 1) := by decide +kernel
theorem dX2_readLine_5 : decode cX2_readLine 5 = .ok (.iload_n 2, 1) := by decide +kernel
theorem dX2_readLine_6 : decode cX2_readLine 6 = .ok (.iconst 5, 1) := by decide +kernel
theorem dX2_readLine_7 : decode cX2_readLine 7 = .ok (.if_icmp .ne 11, 3) := by decide +kernel
theorem dX2_readLine_10 : decode cX2_readLine 10 = .ok (.aload_n 0, 1) := by decide +kernel
theorem dX2_readLine_11 : decode cX2_readLine 11 = .ok (.iconst 2, 1) := by decide +kernel
theorem dX2_readLine_12 : decode cX2_readLine 12 = .ok (.invokevirtual 46, 3) := by decide +kernel
theorem dX2_readLine_15 : decode cX2_readLine 15 = .ok (.goto 22, 3) := by decide +kernel
theorem dX2_readLine_18 : decode cX2_readLine 18 = .ok (.iload_n 2, 1) := by decide +kernel
theorem dX2_readLine_19 : decode cX2_readLine 19 = .ok (.iconst 4, 1) := by decide +kernel
theorem dX2_readLine_20 : decode cX2_readLine 20 = .ok (.if_icmp .ne 11, 3) := by decide +kernel
theorem dX2_readLine_23 : decode cX2_readLine 23 = .ok (.aload_n 0, 1) := by decide +kernel
theorem dX2_readLine_24 : decode cX2_readLine 24 = .ok (.aload_n 1, 1) := by decide +kernel
theorem dX2_readLine_25 : decode cX2_readLine 25 = .ok (.invokevirtual 50, 3) := by decide +kernel
theorem dX2_readLine_28 : decode cX2_readLine 28 = .ok (.goto 9, 3) := by decide +kernel
theorem dX2_readLine_31 : decode cX2_readLine 31 = .ok (.aload_n 0, 1) := by decide +kernel
theorem dX2_readLine_32 : decode cX2_readLine 32 = .ok (.aload_n 1, 1) := by decide +kernel
theorem dX2_readLine_33 : decode cX2_readLine 33 = .ok (.iload_n 2, 1) := by decide +kernel
theorem dX2_readLine_34 : decode cX2_readLine 34 = .ok (.invokevirtual 53, 3) := by decide +kernel
theorem dX2_readLine_37 : decode cX2_readLine 37 = .ok (.aload_n 0, 1) := by decide +kernel
theorem dX2_readLine_38 : decode cX2_readLine 38 = .ok (.dup, 1) := by decide +kernel
theorem dX2_readLine_39 : decode cX2_readLine 39 = .ok (.getfield 22, 3) := by decide +kernel
theorem dX2_readLine_42 : decode cX2_readLine 42 = .ok (.iconst 1, 1) := by decide +kernel
theorem dX2_readLine_43 : decode cX2_readLine 43 = .ok (.iadd, 1) := by decide +kernel
theorem dX2_readLine_44 : decode cX2_readLine 44 = .ok (.putfield 22, 3) := by decide +kernel
theorem dX2_readLine_47 : decode cX2_readLine 47 = .ok (.return_, 1) := by decide +kernel
theorem dX2_readPush_0 : decode cX2_readPush 0 = .ok (.aload_n 0, 1) := by decide +kernel
theorem dX2_readPush_1 : decode cX2_readPush 1 = .ok (.getfield 28, 3) := by decide +kernel
theorem dX2_readPush_4 : decode cX2_readPush 4 = .ok (.ifCond .eq 9, 3) := by decide +kernel
theorem dX2_readPush_7 : decode cX2_readPush 7 = .ok (.aload_n 0, 1) := by decide +kernel
theorem dX2_readPush_8 : decode cX2_readPush 8 = .ok (.iconst 4, 1) := by decide +kernel
theorem dX2_readPush_9 : decode cX2_readPush 9 = .ok (.invokevirtual 46, 3) := by decide +kernel
theorem dX2_readPush_12 : decode cX2_readPush 12 = .ok (.return_, 1) := by decide +kernel
theorem dX2_readPush_13 : decode cX2_readPush 13 = .ok (.aload_n 0, 1) := by decide +kernel
theorem dX2_readPush_14 : decode cX2_readPush 14 = .ok (.iconst 1, 1) := by decide +kernel
theorem dX2_readPush_15 : decode cX2_readPush 15 = .ok (.putfield 28, 3) := by decide +kernel
theorem dX2_readPush_18 : decode cX2_readPush 18 = .ok (.aload_n 1, 1) := by decide +kernel
theorem dX2_readPush_19 : decode cX2_readPush 19 = .ok (.aload_n 0, 1) := by decide +kernel
theorem dX2_readPush_20 : decode cX2_readPush 20 = .ok (.iconst 0, 1) := by decide +kernel
theorem dX2_readPush_21 : decode cX2_readPush 21 = .ok (.iconst 5, 1) := by decide +kernel
theorem dX2_readPush_22 : decode cX2_readPush 22 = .ok (.invokevirtual 57, 3) := by decide +kernel
theorem dX2_readPush_25 : decode cX2_readPush 25 = .ok (.putfield 61, 3) := by decide +kernel
theorem dX2_readPush_28 : decode cX2_readPush 28 = .ok (.aload_n 0, 1) := by decide +kernel
theorem dX2_readPush_29 : decode cX2_readPush 29 = .ok (.invokevirtual 66, 3) := by decide +kernel
theorem dX2_readPush_32 : decode cX2_readPush 32 = .ok (.return_, 1) := by decide +kernel
theorem dX2_readClock_0 : decode cX2_readClock 0 = .ok (.aload_n 1, 1) := by decide +kernel
theorem dX2_readClock_1 : decode cX2_readClock 1 = .ok (.getfield 69, 3) := by decide +kernel
theorem dX2_readClock_4 : decode cX2_readClock 4 = .ok (.iconst 5, 1) := by decide +kernel
theorem dX2_readClock_5 : decode cX2_readClock 5 = .ok (.if_icmp .lt 9, 3) := by decide +kernel
theorem dX2_readClock_8 : decode cX2_readClock 8 = .ok (.aload_n 0, 1) := by decide +kernel
theorem dX2_readClock_9 : decode cX2_readClock 9 = .ok (.iconst 5, 1) := by decide +kernel
theorem dX2_readClock_10 : decode cX2_readClock 10 = .ok (.invokevirtual 46, 3) := by decide +kernel
theorem dX2_readClock_13 : decode cX2_readClock 13 = .ok (.return_, 1) := by decide +kernel
theorem dX2_readClock_14 : decode cX2_readClock 14 = .ok (.aload_n 0, 1) := by decide +kernel
theorem dX2_readClock_15 : decode cX2_readClock 15 = .ok (.iconst 2, 1) := by decide +kernel
theorem dX2_readClock_16 : decode cX2_readClock 16 = .ok (.bipush 30, 2) := by decide +kernel
theorem dX2_readClock_18 : decode cX2_readClock 18 = .ok (.invokevirtual 57, 3) := by decide +kernel
theorem dX2_readClock_21 : decode cX2_readClock 21 = .ok (.istore_n 3, 1) := by decide +kernel
theorem dX2_readClock_22 : decode cX2_readClock 22 = .ok (.aload_n 0, 1) := by decide +kernel
theorem dX2_readClock_23 : decode cX2_readClock 23 = .ok (.iconst 0, 1) := by decide +kernel
theorem dX2_readClock_24 : decode cX2_readClock 24 = .ok (.iload_n 3, 1) := by decide +kernel
theorem dX2_readClock_25 : decode cX2_readClock 25 = .ok (.iconst 1, 1) := by decide +kernel
theorem dX2_readClock_26 : decode cX2_readClock 26 = .ok (.isub, 1) := by decide +kernel
theorem dX2_readClock_27 : decode cX2_readClock 27 = .ok (.invokevirtual 57, 3) := by decide +kernel
theorem dX2_readClock_30 : decode cX2_readClock 30 = .ok (.istore 4, 2) := by decide +kernel
theorem dX2_readClock_32 : decode cX2_readClock 32 = .ok (.aload_n 0, 1) := by decide +kernel
theorem dX2_readClock_33 : decode cX2_readClock 33 = .ok (.invokevirtual 66, 3) := by decide +kernel
theorem dX2_readClock_36 : decode cX2_readClock 36 = .ok (.aload_n 0, 1) := by decide +kernel
theorem dX2_readClock_37 : decode cX2_readClock 37 = .ok (.getfield 15, 3) := by decide +kernel
theorem dX2_readClock_40 : decode cX2_readClock 40 = .ok (.ifCond .ne 11, 3) := by decide +kernel
theorem dX2_readClock_43 : decode cX2_readClock 43 = .ok (.aload_n 1, 1) := by decide +kernel
theorem dX2_readClock_44 : decode cX2_readClock 44 = .ok (.iload_n 2, 1) := by decide +kernel
theorem dX2_readClock_45 : decode cX2_readClock 45 = .ok (.iload_n 3, 1) := by decide +kernel
theorem dX2_readClock_46 : decode cX2_readClock 46 = .ok (.iload 4, 2) := by decide +kernel
theorem dX2_readClock_48 : decode cX2_readClock 48 = .ok (.invokevirtual 72, 3) := by decide +kernel
theorem dX2_readClock_51 : decode cX2_readClock 51 = .ok (.return_, 1) := by decide +kernel
theorem dX2_readNumber_0 : decode cX2_readNumber 0 = .ok (.aload_n 0, 1) := by decide +kernel
theorem dX2_readNumber_1 : decode cX2_readNumber 1 = .ok (.invokevirtual 32, 3) := by decide +kernel
theorem dX2_readNumber_4 : decode cX2_readNumber 4 = .ok (.aload_n 0, 1) := by decide +kernel
theorem dX2_readNumber_5 : decode cX2_readNumber 5 = .ok (.getfield 15, 3) := by decide +kernel
theorem dX2_readNumber_8 : decode cX2_readNumber 8 = .ok (.ifCond .eq 5, 3) := by decide +kernel
theorem dX2_readNumber_11 : decode cX2_readNumber 11 = .ok (.iload_n 1, 1) := by decide +kernel
theorem dX2_readNumber_12 : decode cX2_readNumber 12 = .ok (.ireturn, 1) := by decide +kernel
theorem dX2_readNumber_13 : decode cX2_readNumber 13 = .ok (.aload_n 0, 1) := by decide +kernel
theorem dX2_readNumber_14 : decode cX2_readNumber 14 = .ok (.getfield 35, 3) := by decide +kernel
theorem dX2_readNumber_17 : decode cX2_readNumber 17 = .ok (.iconst 2, 1) := by decide +kernel
theorem dX2_readNumber_18 : decode cX2_readNumber 18 = .ok (.if_icmp .eq 10, 3) := by decide +kernel
theorem dX2_readNumber_21 : decode cX2_readNumber 21 = .ok (.aload_n 0, 1) := by decide +kernel
theorem dX2_readNumber_22 : decode cX2_readNumber 22 = .ok (.iconst 2, 1) := by decide +kernel
theorem dX2_readNumber_23 : decode cX2_readNumber 23 = .ok (.invokevirtual 46, 3) := by decide +kernel
theorem dX2_readNumber_26 : decode cX2_readNumber 26 = .ok (.iload_n 1, 1) := by decide +kernel
theorem dX2_readNumber_27 : decode cX2_readNumber 27 = .ok (.ireturn, 1) := by decide +kernel
theorem dX2_readNumber_28 : decode cX2_readNumber 28 = .ok (.aload_n 0, 1) := by decide +kernel
theorem dX2_readNumber_29 : decode cX2_readNumber 29 = .ok (.invokevirtual 76, 3) := by decide +kernel
theorem dX2_readNumber_32 : decode cX2_readNumber 32 = .ok (.istore_n 3, 1) := by decide +kernel
theorem dX2_readNumber_33 : decode cX2_readNumber 33 = .ok (.iload_n 3, 1) := by decide +kernel
theorem dX2_readNumber_34 : decode cX2_readNumber 34 = .ok (.iload_n 1, 1) := by decide +kernel
theorem dX2_readNumber_35 : decode cX2_readNumber 35 = .ok (.iload_n 2, 1) := by decide +kernel
theorem dX2_readNumber_36 : decode cX2_readNumber 36 = .ok (.invokestatic 79, 3) := by decide +kernel
theorem dX2_readNumber_39 : decode cX2_readNumber 39 = .ok (.ifCond .ne 8, 3) := by decide +kernel
theorem dX2_readNumber_42 : decode cX2_readNumber 42 = .ok (.aload_n 0, 1) := by decide +kernel
theorem dX2_readNumber_43 : decode cX2_readNumber 43 = .ok (.iconst 3, 1) := by decide +kernel
theorem dX2_readNumber_44 : decode cX2_readNumber 44 = .ok (.invokevirtual 46, 3) := by decide +kernel
theorem dX2_readNumber_47 : decode cX2_readNumber 47 = .ok (.iload_n 3, 1) := by decide +kernel
theorem dX2_readNumber_48 : decode cX2_readNumber 48 = .ok (.ireturn, 1) := by decide +kernel
theorem dX2_readSemicolon_0 : decode cX2_readSemicolon 0 = .ok (.aload_n 0, 1) := by decide +kernel
theorem dX2_readSemicolon_1 : decode cX2_readSemicolon 1 = .ok (.invokevirtual 32, 3) := by decide +kernel
theorem dX2_readSemicolon_4 : decode cX2_readSemicolon 4 = .ok (.aload_n 0, 1) := by decide +kernel
theorem dX2_readSemicolon_5 : decode cX2_readSemicolon 5 = .ok (.getfield 15, 3) := by decide +kernel
theorem dX2_readSemicolon_8 : decode cX2_readSemicolon 8 = .ok (.ifCond .ne 16, 3) := by decide +kernel
theorem dX2_readSemicolon_11 : decode cX2_readSemicolon 11 = .ok (.aload_n 0, 1) := by decide +kernel
theorem dX2_readSemicolon_12 : decode cX2_readSemicolon 12 = .ok (.getfield 35, 3) := by decide +kernel
theorem dX2_readSemicolon_15 : decode cX2_readSemicolon 15 = .ok (.iconst 3, 1) := by decide +kernel
theorem dX2_readSemicolon_16 : decode cX2_readSemicolon 16 = .ok (.if_icmp .eq 8, 3) := by decide +kernel
theorem dX2_readSemicolon_19 : decode cX2_readSemicolon 19 = .ok (.aload_n 0, 1) := by decide +kernel
theorem dX2_readSemicolon_20 : decode cX2_readSemicolon 20 = .ok (.iconst 2, 1) := by decide +kernel
theorem dX2_readSemicolon_21 : decode cX2_readSemicolon 21 = .ok (.invokevirtual 46, 3) := by decide +kernel
theorem dX2_readSemicolon_24 : decode cX2_readSemicolon 24 = .ok (.return_, 1) := by decide +kernel
theorem dX2_nextToken_0 : decode cX2_nextToken 0 = .ok (.aload_n 0, 1) := by decide +kernel
theorem dX2_nextToken_1 : decode cX2_nextToken 1 = .ok (.getfield 15, 3) := by decide +kernel
theorem dX2_nextToken_4 : decode cX2_nextToken 4 = .ok (.ifCond .eq 4, 3) := by decide +kernel
theorem dX2_nextToken_7 : decode cX2_nextToken 7 = .ok (.return_, 1) := by decide +kernel
theorem dX2_nextToken_8 : decode cX2_nextToken 8 = .ok (.aload_n 0, 1) := by decide +kernel
theorem dX2_nextToken_9 : decode cX2_nextToken 9 = .ok (.getfield 25, 3) := by decide +kernel
theorem dX2_nextToken_12 : decode cX2_nextToken 12 = .ok (.aload_n 0, 1) := by decide +kernel
theorem dX2_nextToken_13 : decode cX2_nextToken 13 = .ok (.getfield 83, 3) := by decide +kernel
theorem dX2_nextToken_16 : decode cX2_nextToken 16 = .ok (.if_icmp .ge 30, 3) := by decide +kernel
theorem dX2_nextToken_19 : decode cX2_nextToken 19 = .ok (.aload_n 0, 1) := by decide +kernel
theorem dX2_nextToken_20 : decode cX2_nextToken 20 = .ok (.getfield 9, 3) := by decide +kernel
theorem dX2_nextToken_23 : decode cX2_nextToken 23 = .ok (.aload_n 0, 1) := by decide +kernel
theorem dX2_nextToken_24 : decode cX2_nextToken 24 = .ok (.getfield 25, 3) := by decide +kernel
theorem dX2_nextToken_27 : decode cX2_nextToken 27 = .ok (.baload, 1) := by decide +kernel
theorem dX2_nextToken_28 : decode cX2_nextToken 28 = .ok (.bipush 32, 2) := by decide +kernel
theorem dX2_nextToken_30 : decode cX2_nextToken 30 = .ok (.if_icmp .ne 16, 3) := by decide +kernel
theorem dX2_nextToken_33 : decode cX2_nextToken 33 = .ok (.aload_n 0, 1) := by decide +kernel
theorem dX2_nextToken_34 : decode cX2_nextToken 34 = .ok (.dup, 1) := by decide +kernel
theorem dX2_nextToken_35 : decode cX2_nextToken 35 = .ok (.getfield 25, 3) := by decide +kernel
theorem dX2_nextToken_38 : decode cX2_nextToken 38 = .ok (.iconst 1, 1) := by decide +kernel
theorem dX2_nextToken_39 : decode cX2_nextToken 39 = .ok (.iadd, 1) := by decide +kernel
theorem dX2_nextToken_40 : decode cX2_nextToken 40 = .ok (.putfield 25, 3) := by decide +kernel
theorem dX2_nextToken_43 : decode cX2_nextToken 43 = .ok (.goto (-35), 3) := by decide +kernel
theorem dX2_nextToken_46 : decode cX2_nextToken 46 = .ok (.aload_n 0, 1) := by decide +kernel
theorem dX2_nextToken_47 : decode cX2_nextToken 47 = .ok (.aload_n 0, 1) := by decide +kernel
theorem dX2_nextToken_48 : decode cX2_nextToken 48 = .ok (.getfield 25, 3) := by decide +kernel
theorem dX2_nextToken_51 : decode cX2_nextToken 51 = .ok (.putfield 86, 3) := by decide +kernel
theorem dX2_nextToken_54 : decode cX2_nextToken 54 = .ok (.aload_n 0, 1) := by decide +kernel
theorem dX2_nextToken_55 : decode cX2_nextToken 55 = .ok (.getfield 25, 3) := by decide +kernel
theorem dX2_nextToken_58 : decode cX2_nextToken 58 = .ok (.aload_n 0, 1) := by decide +kernel
theorem dX2_nextToken_59 : decode cX2_nextToken 59 = .ok (.getfield 83, 3) := by decide +kernel
theorem dX2_nextToken_62 : decode cX2_nextToken 62 = .ok (.if_icmp .lt 11, 3) := by decide +kernel
theorem dX2_nextToken_65 : decode cX2_nextToken 65 = .ok (.aload_n 0, 1) := by decide +kernel
theorem dX2_nextToken_66 : decode cX2_nextToken 66 = .ok (.iconst 0, 1) := by decide +kernel
theorem dX2_nextToken_67 : decode cX2_nextToken 67 = .ok (.putfield 35, 3) := by decide +kernel
theorem dX2_nextToken_70 : decode cX2_nextToken 70 = .ok (.goto 112, 3) := by decide +kernel
theorem dX2_nextToken_73 : decode cX2_nextToken 73 = .ok (.aload_n 0, 1) := by decide +kernel
theorem dX2_nextToken_74 : decode cX2_nextToken 74 = .ok (.getfield 9, 3) := by decide +kernel
theorem dX2_nextToken_77 : decode cX2_nextToken 77 = .ok (.aload_n 0, 1) := by decide +kernel
theorem dX2_nextToken_78 : decode cX2_nextToken 78 = .ok (.getfield 25, 3) := by decide +kernel
theorem dX2_nextToken_81 : decode cX2_nextToken 81 = .ok (.baload, 1) := by decide +kernel
theorem dX2_nextToken_82 : decode cX2_nextToken 82 = .ok (.bipush 59, 2) := by decide +kernel
theorem dX2_nextToken_84 : decode cX2_nextToken 84 = .ok (.if_icmp .ne 21, 3) := by decide +kernel
theorem dX2_nextToken_87 : decode cX2_nextToken 87 = .ok (.aload_n 0, 1) := by decide +kernel
theorem dX2_nextToken_88 : decode cX2_nextToken 88 = .ok (.iconst 3, 1) := by decide +kernel
theorem dX2_nextToken_89 : decode cX2_nextToken 89 = .ok (.putfield 35, 3) := by decide +kernel
theorem dX2_nextToken_92 : decode cX2_nextToken 92 = .ok (.aload_n 0, 1) := by decide +kernel
theorem dX2_nextToken_93 : decode cX2_nextToken 93 = .ok (.dup, 1) := by decide +kernel
theorem dX2_nextToken_94 : decode cX2_nextToken 94 = .ok (.getfield 25, 3) := by decide +kernel
theorem dX2_nextToken_97 : decode cX2_nextToken 97 = .ok (.iconst 1, 1) := by decide +kernel
theorem dX2_nextToken_98 : decode cX2_nextToken 98 = .ok (.iadd, 1) := by decide +kernel
theorem dX2_nextToken_99 : decode cX2_nextToken 99 = .ok (.putfield 25, 3) := by decide +kernel
theorem dX2_nextToken_102 : decode cX2_nextToken 102 = .ok (.goto 80, 3) := by decide +kernel
theorem dX2_nextToken_105 : decode cX2_nextToken 105 = .ok (.aload_n 0, 1) := by decide +kernel
theorem dX2_nextToken_106 : decode cX2_nextToken 106 = .ok (.getfield 9, 3) := by decide +kernel
theorem dX2_nextToken_109 : decode cX2_nextToken 109 = .ok (.aload_n 0, 1) := by decide +kernel
theorem dX2_nextToken_110 : decode cX2_nextToken 110 = .ok (.getfield 25, 3) := by decide +kernel
theorem dX2_nextToken_113 : decode cX2_nextToken 113 = .ok (.baload, 1) := by decide +kernel
theorem dX2_nextToken_114 : decode cX2_nextToken 114 = .ok (.bipush 97, 2) := by decide +kernel
theorem dX2_nextToken_116 : decode cX2_nextToken 116 = .ok (.bipush 122, 2) := by decide +kernel
theorem dX2_nextToken_118 : decode cX2_nextToken 118 = .ok (.invokestatic 79, 3) := by decide +kernel
theorem dX2_nextToken_121 : decode cX2_nextToken 121 = .ok (.ifCond .eq 19, 3) := by decide +kernel
theorem dX2_nextToken_124 : decode cX2_nextToken 124 = .ok (.aload_n 0, 1) := by decide +kernel
theorem dX2_nextToken_125 : decode cX2_nextToken 125 = .ok (.iconst 1, 1) := by decide +kernel
theorem dX2_nextToken_126 : decode cX2_nextToken 126 = .ok (.putfield 35, 3) := by decide +kernel
theorem dX2_nextToken_129 : decode cX2_nextToken 129 = .ok (.aload_n 0, 1) := by decide +kernel
theorem dX2_nextToken_130 : decode cX2_nextToken 130 = .ok (.bipush 97, 2) := by decide +kernel
theorem dX2_nextToken_132 : decode cX2_nextToken 132 = .ok (.bipush 122, 2) := by decide +kernel
theorem dX2_nextToken_134 : decode cX2_nextToken 134 = .ok (.invokevirtual 89, 3) := by decide +kernel
theorem dX2_nextToken_137 : decode cX2_nextToken 137 = .ok (.goto 45, 3) := by decide +kernel
theorem dX2_nextToken_140 : decode cX2_nextToken 140 = .ok (.aload_n 0, 1) := by decide +kernel
theorem dX2_nextToken_141 : decode cX2_nextToken 141 = .ok (.iconst 2, 1) := by decide +kernel
theorem dX2_nextToken_142 : decode cX2_nextToken 142 = .ok (.putfield 35, 3) := by decide +kernel
theorem dX2_nextToken_145 : decode cX2_nextToken 145 = .ok (.aload_n 0, 1) := by decide +kernel
theorem dX2_nextToken_146 : decode cX2_nextToken 146 = .ok (.bipush 48, 2) := by decide +kernel
theorem dX2_nextToken_148 : decode cX2_nextToken 148 = .ok (.bipush 57, 2) := by decide +kernel
theorem dX2_nextToken_150 : decode cX2_nextToken 150 = .ok (.invokevirtual 89, 3) := by decide +kernel
theorem dX2_nextToken_153 : decode cX2_nextToken 153 = .ok (.aload_n 0, 1) := by decide +kernel
theorem dX2_nextToken_154 : decode cX2_nextToken 154 = .ok (.getfield 25, 3) := by decide +kernel
theorem dX2_nextToken_157 : decode cX2_nextToken 157 = .ok (.aload_n 0, 1) := by decide +kernel
theorem dX2_nextToken_158 : decode cX2_nextToken 158 = .ok (.getfield 86, 3) := by decide +kernel
theorem dX2_nextToken_161 : decode cX2_nextToken 161 = .ok (.if_icmp .eq 16, 3) := by decide +kernel
theorem dX2_nextToken_164 : decode cX2_nextToken 164 = .ok (.aload_n 0, 1) := by decide +kernel
theorem dX2_nextToken_165 : decode cX2_nextToken 165 = .ok (.getfield 25, 3) := by decide +kernel
theorem dX2_nextToken_168 : decode cX2_nextToken 168 = .ok (.aload_n 0, 1) := by decide +kernel
theorem dX2_nextToken_169 : decode cX2_nextToken 169 = .ok (.getfield 86, 3) := by decide +kernel
theorem dX2_nextToken_172 : decode cX2_nextToken 172 = .ok (.isub, 1) := by decide +kernel
theorem dX2_nextToken_173 : decode cX2_nextToken 173 = .ok (.iconst 2, 1) := by decide +kernel
theorem dX2_nextToken_174 : decode cX2_nextToken 174 = .ok (.if_icmp .le 8, 3) := by decide +kernel
theorem dX2_nextToken_177 : decode cX2_nextToken 177 = .ok (.aload_n 0, 1) := by decide +kernel
theorem dX2_nextToken_178 : decode cX2_nextToken 178 = .ok (.iconst 1, 1) := by decide +kernel
theorem dX2_nextToken_179 : decode cX2_nextToken 179 = .ok (.invokevirtual 46, 3) := by decide +kernel
theorem dX2_nextToken_182 : decode cX2_nextToken 182 = .ok (.return_, 1) := by decide +kernel
theorem dX2_passBytes_0 : decode cX2_passBytes 0 = .ok (.aload_n 0, 1) := by decide +kernel
theorem dX2_passBytes_1 : decode cX2_passBytes 1 = .ok (.getfield 25, 3) := by decide +kernel
theorem dX2_passBytes_4 : decode cX2_passBytes 4 = .ok (.aload_n 0, 1) := by decide +kernel
theorem dX2_passBytes_5 : decode cX2_passBytes 5 = .ok (.getfield 83, 3) := by decide +kernel
theorem dX2_passBytes_8 : decode cX2_passBytes 8 = .ok (.if_icmp .ge 42, 3) := by decide +kernel
theorem dX2_passBytes_11 : decode cX2_passBytes 11 = .ok (.aload_n 0, 1) := by decide +kernel
theorem dX2_passBytes_12 : decode cX2_passBytes 12 = .ok (.getfield 9, 3) := by decide +kernel
theorem dX2_passBytes_15 : decode cX2_passBytes 15 = .ok (.aload_n 0, 1) := by decide +kernel
theorem dX2_passBytes_16 : decode cX2_passBytes 16 = .ok (.getfield 25, 3) := by decide +kernel
theorem dX2_passBytes_19 : decode cX2_passBytes 19 = .ok (.baload, 1) := by decide +kernel
theorem dX2_passBytes_20 : decode cX2_passBytes 20 = .ok (.iload_n 1, 1) := by decide +kernel
theorem dX2_passBytes_21 : decode cX2_passBytes 21 = .ok (.if_icmp .lt 29, 3) := by decide +kernel
theorem dX2_passBytes_24 : decode cX2_passBytes 24 = .ok (.aload_n 0, 1) := by decide +kernel
theorem dX2_passBytes_25 : decode cX2_passBytes 25 = .ok (.getfield 9, 3) := by decide +kernel
theorem dX2_passBytes_28 : decode cX2_passBytes 28 = .ok (.aload_n 0, 1) := by decide +kernel
theorem dX2_passBytes_29 : decode cX2_passBytes 29 = .ok (.getfield 25, 3) := by decide +kernel
theorem dX2_passBytes_32 : decode cX2_passBytes 32 = .ok (.baload, 1) := by decide +kernel
theorem dX2_passBytes_33 : decode cX2_passBytes 33 = .ok (.iload_n 2, 1) := by decide +kernel
theorem dX2_passBytes_34 : decode cX2_passBytes 34 = .ok (.if_icmp .gt 16, 3) := by decide +kernel
theorem dX2_passBytes_37 : decode cX2_passBytes 37 = .ok (.aload_n 0, 1) := by decide +kernel
theorem dX2_passBytes_38 : decode cX2_passBytes 38 = .ok (.dup, 1) := by decide +kernel
theorem dX2_passBytes_39 : decode cX2_passBytes 39 = .ok (.getfield 25, 3) := by decide +kernel
theorem dX2_passBytes_42 : decode cX2_passBytes 42 = .ok (.iconst 1, 1) := by decide +kernel
theorem dX2_passBytes_43 : decode cX2_passBytes 43 = .ok (.iadd, 1) := by decide +kernel
theorem dX2_passBytes_44 : decode cX2_passBytes 44 = .ok (.putfield 25, 3) := by decide +kernel
theorem dX2_passBytes_47 : decode cX2_passBytes 47 = .ok (.goto (-47), 3) := by decide +kernel
theorem dX2_passBytes_50 : decode cX2_passBytes 50 = .ok (.return_, 1) := by decide +kernel
theorem dX2_numberRead_0 : decode cX2_numberRead 0 = .ok (.iconst 0, 1) := by decide +kernel
theorem dX2_numberRead_1 : decode cX2_numberRead 1 = .ok (.istore_n 1, 1) := by decide +kernel
theorem dX2_numberRead_2 : decode cX2_numberRead 2 = .ok (.aload_n 0, 1) := by decide +kernel
theorem dX2_numberRead_3 : decode cX2_numberRead 3 = .ok (.getfield 86, 3) := by decide +kernel
theorem dX2_numberRead_6 : decode cX2_numberRead 6 = .ok (.istore_n 2, 1) := by decide +kernel
theorem dX2_numberRead_7 : decode cX2_numberRead 7 = .ok (.iload_n 2, 1) := by decide +kernel
theorem dX2_numberRead_8 : decode cX2_numberRead 8 = .ok (.aload_n 0, 1) := by decide +kernel
theorem dX2_numberRead_9 : decode cX2_numberRead 9 = .ok (.getfield 25, 3) := by decide +kernel
theorem dX2_numberRead_12 : decode cX2_numberRead 12 = .ok (.if_icmp .ge 24, 3) := by decide +kernel
theorem dX2_numberRead_15 : decode cX2_numberRead 15 = .ok (.iload_n 1, 1) := by decide +kernel
theorem dX2_numberRead_16 : decode cX2_numberRead 16 = .ok (.bipush 10, 2) := by decide +kernel
theorem dX2_numberRead_18 : decode cX2_numberRead 18 = .ok (.imul, 1) := by decide +kernel
theorem dX2_numberRead_19 : decode cX2_numberRead 19 = .ok (.aload_n 0, 1) := by decide +kernel
theorem dX2_numberRead_20 : decode cX2_numberRead 20 = .ok (.getfield 9, 3) := by decide +kernel
theorem dX2_numberRead_23 : decode cX2_numberRead 23 = .ok (.iload_n 2, 1) := by decide +kernel
theorem dX2_numberRead_24 : decode cX2_numberRead 24 = .ok (.baload, 1) := by decide +kernel
theorem dX2_numberRead_25 : decode cX2_numberRead 25 = .ok (.iadd, 1) := by decide +kernel
theorem dX2_numberRead_26 : decode cX2_numberRead 26 = .ok (.bipush 48, 2) := by decide +kernel
theorem dX2_numberRead_28 : decode cX2_numberRead 28 = .ok (.isub, 1) := by decide +kernel
theorem dX2_numberRead_29 : decode cX2_numberRead 29 = .ok (.istore_n 1, 1) := by decide +kernel
theorem dX2_numberRead_30 : decode cX2_numberRead 30 = .ok (.iinc 2 1, 3) := by decide +kernel
theorem dX2_numberRead_33 : decode cX2_numberRead 33 = .ok (.goto (-26), 3) := by decide +kernel
theorem dX2_numberRead_36 : decode cX2_numberRead 36 = .ok (.iload_n 1, 1) := by decide +kernel
theorem dX2_numberRead_37 : decode cX2_numberRead 37 = .ok (.ireturn, 1) := by decide +kernel
theorem dX2_lineNamed_0 : decode cX2_lineNamed 0 = .ok (.aload_n 0, 1) := by decide +kernel
theorem dX2_lineNamed_1 : decode cX2_lineNamed 1 = .ok (.ldc 93, 2) := by decide +kernel
theorem dX2_lineNamed_3 : decode cX2_lineNamed 3 = .ok (.invokevirtual 95, 3) := by decide +kernel
theorem dX2_lineNamed_6 : decode cX2_lineNamed 6 = .ok (.ifCond .eq 5, 3) := by decide +kernel
theorem dX2_lineNamed_9 : decode cX2_lineNamed 9 = .ok (.iconst 0, 1) := by decide +kernel
theorem dX2_lineNamed_10 : decode cX2_lineNamed 10 = .ok (.ireturn, 1) := by decide +kernel
theorem dX2_lineNamed_11 : decode cX2_lineNamed 11 = .ok (.aload_n 0, 1) := by decide +kernel
theorem dX2_lineNamed_12 : decode cX2_lineNamed 12 = .ok (.ldc 99, 2) := by decide +kernel
theorem dX2_lineNamed_14 : decode cX2_lineNamed 14 = .ok (.invokevirtual 95, 3) := by decide +kernel
theorem dX2_lineNamed_17 : decode cX2_lineNamed 17 = .ok (.ifCond .eq 5, 3) := by decide +kernel
theorem dX2_lineNamed_20 : decode cX2_lineNamed 20 = .ok (.iconst 1, 1) := by decide +kernel
theorem dX2_lineNamed_21 : decode cX2_lineNamed 21 = .ok (.ireturn, 1) := by decide +kernel
theorem dX2_lineNamed_22 : decode cX2_lineNamed 22 = .ok (.aload_n 0, 1) := by decide +kernel
theorem dX2_lineNamed_23 : decode cX2_lineNamed 23 = .ok (.ldc 101, 2) := by decide +kernel
theorem dX2_lineNamed_25 : decode cX2_lineNamed 25 = .ok (.invokevirtual 95, 3) := by decide +kernel
theorem dX2_lineNamed_28 : decode cX2_lineNamed 28 = .ok (.ifCond .eq 5, 3) := by decide +kernel
theorem dX2_lineNamed_31 : decode cX2_lineNamed 31 = .ok (.iconst 2, 1) := by decide +kernel
theorem dX2_lineNamed_32 : decode cX2_lineNamed 32 = .ok (.ireturn, 1) := by decide +kernel
theorem dX2_lineNamed_33 : decode cX2_lineNamed 33 = .ok (.aload_n 0, 1) := by decide +kernel
theorem dX2_lineNamed_34 : decode cX2_lineNamed 34 = .ok (.ldc 103, 2) := by decide +kernel
theorem dX2_lineNamed_36 : decode cX2_lineNamed 36 = .ok (.invokevirtual 95, 3) := by decide +kernel
theorem dX2_lineNamed_39 : decode cX2_lineNamed 39 = .ok (.ifCond .eq 5, 3) := by decide +kernel
theorem dX2_lineNamed_42 : decode cX2_lineNamed 42 = .ok (.iconst 3, 1) := by decide +kernel
theorem dX2_lineNamed_43 : decode cX2_lineNamed 43 = .ok (.ireturn, 1) := by decide +kernel
theorem dX2_lineNamed_44 : decode cX2_lineNamed 44 = .ok (.aload_n 0, 1) := by decide +kernel
theorem dX2_lineNamed_45 : decode cX2_lineNamed 45 = .ok (.ldc 105, 2) := by decide +kernel
theorem dX2_lineNamed_47 : decode cX2_lineNamed 47 = .ok (.invokevirtual 95, 3) := by decide +kernel
theorem dX2_lineNamed_50 : decode cX2_lineNamed 50 = .ok (.ifCond .eq 7, 3) := by decide +kernel
theorem dX2_lineNamed_53 : decode cX2_lineNamed 53 = .ok (.iconst 4, 1) := by decide +kernel
theorem dX2_lineNamed_54 : decode cX2_lineNamed 54 = .ok (.goto 4, 3) := by decide +kernel
theorem dX2_lineNamed_57 : decode cX2_lineNamed 57 = .ok (.iconst 5, 1) := by decide +kernel
theorem dX2_lineNamed_58 : decode cX2_lineNamed 58 = .ok (.ireturn, 1) := by decide +kernel
theorem dX2_isName_0 : decode cX2_isName 0 = .ok (.aload_n 0, 1) := by decide +kernel
theorem dX2_isName_1 : decode cX2_isName 1 = .ok (.getfield 35, 3) := by decide +kernel
theorem dX2_isName_4 : decode cX2_isName 4 = .ok (.iconst 1, 1) := by decide +kernel
theorem dX2_isName_5 : decode cX2_isName 5 = .ok (.if_icmp .ne 19, 3) := by decide +kernel
theorem dX2_isName_8 : decode cX2_isName 8 = .ok (.aload_n 0, 1) := by decide +kernel
theorem dX2_isName_9 : decode cX2_isName 9 = .ok (.getfield 25, 3) := by decide +kernel
theorem dX2_isName_12 : decode cX2_isName 12 = .ok (.aload_n 0, 1) := by decide +kernel
theorem dX2_isName_13 : decode cX2_isName 13 = .ok (.getfield 86, 3) := by decide +kernel
theorem dX2_isName_16 : decode cX2_isName 16 = .ok (.isub, 1) := by decide +kernel
theorem dX2_isName_17 : decode cX2_isName 17 = .ok (.aload_n 1, 1) := by decide +kernel
theorem dX2_isName_18 : decode cX2_isName 18 = .ok (.invokevirtual 106, 3) := by decide +kernel
theorem dX2_isName_21 : decode cX2_isName 21 = .ok (.if_icmp .eq 5, 3) := by decide +kernel
theorem dX2_isName_24 : decode cX2_isName 24 = .ok (.iconst 0, 1) := by decide +kernel
theorem dX2_isName_25 : decode cX2_isName 25 = .ok (.ireturn, 1) := by decide +kernel
theorem dX2_isName_26 : decode cX2_isName 26 = .ok (.iconst 0, 1) := by decide +kernel
theorem dX2_isName_27 : decode cX2_isName 27 = .ok (.istore_n 2, 1) := by decide +kernel
theorem dX2_isName_28 : decode cX2_isName 28 = .ok (.iload_n 2, 1) := by decide +kernel
theorem dX2_isName_29 : decode cX2_isName 29 = .ok (.aload_n 1, 1) := by decide +kernel
theorem dX2_isName_30 : decode cX2_isName 30 = .ok (.invokevirtual 106, 3) := by decide +kernel
theorem dX2_isName_33 : decode cX2_isName 33 = .ok (.if_icmp .ge 30, 3) := by decide +kernel
theorem dX2_isName_36 : decode cX2_isName 36 = .ok (.aload_n 0, 1) := by decide +kernel
theorem dX2_isName_37 : decode cX2_isName 37 = .ok (.getfield 9, 3) := by decide +kernel
theorem dX2_isName_40 : decode cX2_isName 40 = .ok (.aload_n 0, 1) := by decide +kernel
theorem dX2_isName_41 : decode cX2_isName 41 = .ok (.getfield 86, 3) := by decide +kernel
theorem dX2_isName_44 : decode cX2_isName 44 = .ok (.iload_n 2, 1) := by decide +kernel
theorem dX2_isName_45 : decode cX2_isName 45 = .ok (.iadd, 1) := by decide +kernel
theorem dX2_isName_46 : decode cX2_isName 46 = .ok (.baload, 1) := by decide +kernel
theorem dX2_isName_47 : decode cX2_isName 47 = .ok (.aload_n 1, 1) := by decide +kernel
theorem dX2_isName_48 : decode cX2_isName 48 = .ok (.iload_n 2, 1) := by decide +kernel
theorem dX2_isName_49 : decode cX2_isName 49 = .ok (.invokevirtual 110, 3) := by decide +kernel
theorem dX2_isName_52 : decode cX2_isName 52 = .ok (.if_icmp .eq 5, 3) := by decide +kernel
theorem dX2_isName_55 : decode cX2_isName 55 = .ok (.iconst 0, 1) := by decide +kernel
theorem dX2_isName_56 : decode cX2_isName 56 = .ok (.ireturn, 1) := by decide +kernel
theorem dX2_isName_57 : decode cX2_isName 57 = .ok (.iinc 2 1, 3) := by decide +kernel
theorem dX2_isName_60 : decode cX2_isName 60 = .ok (.goto (-32), 3) := by decide +kernel
theorem dX2_isName_63 : decode cX2_isName 63 = .ok (.iconst 1, 1) := by decide +kernel
theorem dX2_isName_64 : decode cX2_isName 64 = .ok (.ireturn, 1) := by decide +kernel
theorem dX2_refuse_0 : decode cX2_refuse 0 = .ok (.aload_n 0, 1) := by decide +kernel
theorem dX2_refuse_1 : decode cX2_refuse 1 = .ok (.iload_n 1, 1) := by decide +kernel
theorem dX2_refuse_2 : decode cX2_refuse 2 = .ok (.putfield 15, 3) := by decide +kernel
theorem dX2_refuse_5 : decode cX2_refuse 5 = .ok (.aload_n 0, 1) := by decide +kernel
theorem dX2_refuse_6 : decode cX2_refuse 6 = .ok (.aload_n 0, 1) := by decide +kernel
theorem dX2_refuse_7 : decode cX2_refuse 7 = .ok (.getfield 86, 3) := by decide +kernel
theorem dX2_refuse_10 : decode cX2_refuse 10 = .ok (.putfield 19, 3) := by decide +kernel
theorem dX2_refuse_13 : decode cX2_refuse 13 = .ok (.return_, 1) := by decide +kernel
theorem dX3_init_0 : decode cX3_init 0 = .ok (.aload_n 0, 1) := by decide +kernel
theorem dX3_init_1 : decode cX3_init 1 = .ok (.invokespecial 3, 3) := by decide +kernel
theorem dX3_init_4 : decode cX3_init 4 = .ok (.aload_n 0, 1) := by decide +kernel
theorem dX3_init_5 : decode cX3_init 5 = .ok (.bipush 6, 2) := by decide +kernel
theorem dX3_init_7 : decode cX3_init 7 = .ok (.newarray .int, 2) := by decide +kernel
theorem dX3_init_9 : decode cX3_init 9 = .ok (.putfield 9, 3) := by decide +kernel
theorem dX3_init_12 : decode cX3_init 12 = .ok (.aload_n 0, 1) := by decide +kernel
theorem dX3_init_13 : decode cX3_init 13 = .ok (.bipush 6, 2) := by decide +kernel
theorem dX3_init_15 : decode cX3_init 15 = .ok (.newarray .int, 2) := by decide +kernel
theorem dX3_init_17 : decode cX3_init 17 = .ok (.putfield 15, 3) := by decide +kernel
theorem dX3_init_20 : decode cX3_init 20 = .ok (.aload_n 0, 1) := by decide +kernel
theorem dX3_init_21 : decode cX3_init 21 = .ok (.bipush 6, 2) := by decide +kernel
theorem dX3_init_23 : decode cX3_init 23 = .ok (.newarray .int, 2) := by decide +kernel
theorem dX3_init_25 : decode cX3_init 25 = .ok (.putfield 18, 3) := by decide +kernel
theorem dX3_init_28 : decode cX3_init 28 = .ok (.return_, 1) := by decide +kernel
theorem dX3_add_0 : decode cX3_add 0 = .ok (.aload_n 0, 1) := by decide +kernel
theorem dX3_add_1 : decode cX3_add 1 = .ok (.getfield 21, 3) := by decide +kernel
theorem dX3_add_4 : decode cX3_add 4 = .ok (.bipush 6, 2) := by decide +kernel
theorem dX3_add_6 : decode cX3_add 6 = .ok (.if_icmp .lt 4, 3) := by decide +kernel
theorem dX3_add_9 : decode cX3_add 9 = .ok (.return_, 1) := by decide +kernel
theorem dX3_add_10 : decode cX3_add 10 = .ok (.aload_n 0, 1) := by decide +kernel
theorem dX3_add_11 : decode cX3_add 11 = .ok (.getfield 9, 3) := by decide +kernel
theorem dX3_add_14 : decode cX3_add 14 = .ok (.aload_n 0, 1) := by decide +kernel
theorem dX3_add_15 : decode cX3_add 15 = .ok (.getfield 21, 3) := by decide +kernel
theorem dX3_add_18 : decode cX3_add 18 = .ok (.iload_n 1, 1) := by decide +kernel
theorem dX3_add_19 : decode cX3_add 19 = .ok (.iastore, 1) := by decide +kernel
theorem dX3_add_20 : decode cX3_add 20 = .ok (.aload_n 0, 1) := by decide +kernel
theorem dX3_add_21 : decode cX3_add 21 = .ok (.getfield 15, 3) := by decide +kernel
theorem dX3_add_24 : decode cX3_add 24 = .ok (.aload_n 0, 1) := by decide +kernel
theorem dX3_add_25 : decode cX3_add 25 = .ok (.getfield 21, 3) := by decide +kernel
theorem dX3_add_28 : decode cX3_add 28 = .ok (.iload_n 2, 1) := by decide +kernel
theorem dX3_add_29 : decode cX3_add 29 = .ok (.iastore, 1) := by decide +kernel
theorem dX3_add_30 : decode cX3_add 30 = .ok (.aload_n 0, 1) := by decide +kernel
theorem dX3_add_31 : decode cX3_add 31 = .ok (.getfield 18, 3) := by decide +kernel
theorem dX3_add_34 : decode cX3_add 34 = .ok (.aload_n 0, 1) := by decide +kernel
theorem dX3_add_35 : decode cX3_add 35 = .ok (.getfield 21, 3) := by decide +kernel
theorem dX3_add_38 : decode cX3_add 38 = .ok (.iload_n 3, 1) := by decide +kernel
theorem dX3_add_39 : decode cX3_add 39 = .ok (.iastore, 1) := by decide +kernel
theorem dX3_add_40 : decode cX3_add 40 = .ok (.aload_n 0, 1) := by decide +kernel
theorem dX3_add_41 : decode cX3_add 41 = .ok (.dup, 1) := by decide +kernel
theorem dX3_add_42 : decode cX3_add 42 = .ok (.getfield 21, 3) := by decide +kernel
theorem dX3_add_45 : decode cX3_add 45 = .ok (.iconst 1, 1) := by decide +kernel
theorem dX3_add_46 : decode cX3_add 46 = .ok (.iadd, 1) := by decide +kernel
theorem dX3_add_47 : decode cX3_add 47 = .ok (.putfield 21, 3) := by decide +kernel
theorem dX3_add_50 : decode cX3_add 50 = .ok (.return_, 1) := by decide +kernel
theorem dX3_fits_0 : decode cX3_fits 0 = .ok (.aload_n 0, 1) := by decide +kernel
theorem dX3_fits_1 : decode cX3_fits 1 = .ok (.invokevirtual 25, 3) := by decide +kernel
theorem dX3_fits_4 : decode cX3_fits 4 = .ok (.istore_n 2, 1) := by decide +kernel
theorem dX3_fits_5 : decode cX3_fits 5 = .ok (.iconst 0, 1) := by decide +kernel
theorem dX3_fits_6 : decode cX3_fits 6 = .ok (.istore_n 3, 1) := by decide +kernel
theorem dX3_fits_7 : decode cX3_fits 7 = .ok (.iload_n 3, 1) := by decide +kernel
theorem dX3_fits_8 : decode cX3_fits 8 = .ok (.iload_n 2, 1) := by decide +kernel
theorem dX3_fits_9 : decode cX3_fits 9 = .ok (.if_icmp .gt 24, 3) := by decide +kernel
theorem dX3_fits_12 : decode cX3_fits 12 = .ok (.aload_n 0, 1) := by decide +kernel
theorem dX3_fits_13 : decode cX3_fits 13 = .ok (.iload_n 3, 1) := by decide +kernel
theorem dX3_fits_14 : decode cX3_fits 14 = .ok (.aload_n 1, 1) := by decide +kernel
theorem dX3_fits_15 : decode cX3_fits 15 = .ok (.iconst 0, 1) := by decide +kernel
theorem dX3_fits_16 : decode cX3_fits 16 = .ok (.invokevirtual 29, 3) := by decide +kernel
theorem dX3_fits_19 : decode cX3_fits 19 = .ok (.invokevirtual 35, 3) := by decide +kernel
theorem dX3_fits_22 : decode cX3_fits 22 = .ok (.ifCond .ne 5, 3) := by decide +kernel
theorem dX3_fits_25 : decode cX3_fits 25 = .ok (.iconst 0, 1) := by decide +kernel
theorem dX3_fits_26 : decode cX3_fits 26 = .ok (.ireturn, 1) := by decide +kernel
theorem dX3_fits_27 : decode cX3_fits 27 = .ok (.iinc 3 1, 3) := by decide +kernel
theorem dX3_fits_30 : decode cX3_fits 30 = .ok (.goto (-23), 3) := by decide +kernel
theorem dX3_fits_33 : decode cX3_fits 33 = .ok (.iconst 1, 1) := by decide +kernel
theorem dX3_fits_34 : decode cX3_fits 34 = .ok (.ireturn, 1) := by decide +kernel
theorem dX3_fitsIn_0 : decode cX3_fitsIn 0 = .ok (.iconst 0, 1) := by decide +kernel
theorem dX3_fitsIn_1 : decode cX3_fitsIn 1 = .ok (.istore_n 3, 1) := by decide +kernel
theorem dX3_fitsIn_2 : decode cX3_fitsIn 2 = .ok (.iload_n 3, 1) := by decide +kernel
theorem dX3_fitsIn_3 : decode cX3_fitsIn 3 = .ok (.aload_n 0, 1) := by decide +kernel
theorem dX3_fitsIn_4 : decode cX3_fitsIn 4 = .ok (.getfield 21, 3) := by decide +kernel
theorem dX3_fitsIn_7 : decode cX3_fitsIn 7 = .ok (.if_icmp .ge 40, 3) := by decide +kernel
theorem dX3_fitsIn_10 : decode cX3_fitsIn 10 = .ok (.aload_n 0, 1) := by decide +kernel
theorem dX3_fitsIn_11 : decode cX3_fitsIn 11 = .ok (.getfield 9, 3) := by decide +kernel
theorem dX3_fitsIn_14 : decode cX3_fitsIn 14 = .ok (.iload_n 3, 1) := by decide +kernel
theorem dX3_fitsIn_15 : decode cX3_fitsIn 15 = .ok (.iaload, 1) := by decide +kernel
theorem dX3_fitsIn_16 : decode cX3_fitsIn 16 = .ok (.iload_n 1, 1) := by decide +kernel
theorem dX3_fitsIn_17 : decode cX3_fitsIn 17 = .ok (.if_icmp .ne 24, 3) := by decide +kernel
theorem dX3_fitsIn_20 : decode cX3_fitsIn 20 = .ok (.iload_n 2, 1) := by decide +kernel
theorem dX3_fitsIn_21 : decode cX3_fitsIn 21 = .ok (.aload_n 0, 1) := by decide +kernel
theorem dX3_fitsIn_22 : decode cX3_fitsIn 22 = .ok (.getfield 15, 3) := by decide +kernel
theorem dX3_fitsIn_25 : decode cX3_fitsIn 25 = .ok (.iload_n 3, 1) := by decide +kernel
theorem dX3_fitsIn_26 : decode cX3_fitsIn 26 = .ok (.iaload, 1) := by decide +kernel
theorem dX3_fitsIn_27 : decode cX3_fitsIn 27 = .ok (.ishr, 1) := by decide +kernel
theorem dX3_fitsIn_28 : decode cX3_fitsIn 28 = .ok (.iconst 1, 1) := by decide +kernel
theorem dX3_fitsIn_29 : decode cX3_fitsIn 29 = .ok (.iand, 1) := by decide +kernel
theorem dX3_fitsIn_30 : decode cX3_fitsIn 30 = .ok (.aload_n 0, 1) := by decide +kernel
theorem dX3_fitsIn_31 : decode cX3_fitsIn 31 = .ok (.getfield 18, 3) := by decide +kernel
theorem dX3_fitsIn_34 : decode cX3_fitsIn 34 = .ok (.iload_n 3, 1) := by decide +kernel
theorem dX3_fitsIn_35 : decode cX3_fitsIn 35 = .ok (.iaload, 1) := by decide +kernel
theorem dX3_fitsIn_36 : decode cX3_fitsIn 36 = .ok (.if_icmp .eq 5, 3) := by decide +kernel
theorem dX3_fitsIn_39 : decode cX3_fitsIn 39 = .ok (.iconst 0, 1) := by decide +kernel
theorem dX3_fitsIn_40 : decode cX3_fitsIn 40 = .ok (.ireturn, 1) := by decide +kernel
theorem dX3_fitsIn_41 : decode cX3_fitsIn 41 = .ok (.iinc 3 1, 3) := by decide +kernel
theorem dX3_fitsIn_44 : decode cX3_fitsIn 44 = .ok (.goto (-42), 3) := by decide +kernel
theorem dX3_fitsIn_47 : decode cX3_fitsIn 47 = .ok (.iconst 1, 1) := by decide +kernel
theorem dX3_fitsIn_48 : decode cX3_fitsIn 48 = .ok (.ireturn, 1) := by decide +kernel
theorem dX3_lastTick_0 : decode cX3_lastTick 0 = .ok (.iconst (-1), 1) := by decide +kernel
theorem dX3_lastTick_1 : decode cX3_lastTick 1 = .ok (.istore_n 1, 1) := by decide +kernel
theorem dX3_lastTick_2 : decode cX3_lastTick 2 = .ok (.iconst 0, 1) := by decide +kernel
theorem dX3_lastTick_3 : decode cX3_lastTick 3 = .ok (.istore_n 2, 1) := by decide +kernel
theorem dX3_lastTick_4 : decode cX3_lastTick 4 = .ok (.iload_n 2, 1) := by decide +kernel
theorem dX3_lastTick_5 : decode cX3_lastTick 5 = .ok (.aload_n 0, 1) := by decide +kernel
theorem dX3_lastTick_6 : decode cX3_lastTick 6 = .ok (.getfield 21, 3) := by decide +kernel
theorem dX3_lastTick_9 : decode cX3_lastTick 9 = .ok (.if_icmp .ge 20, 3) := by decide +kernel
theorem dX3_lastTick_12 : decode cX3_lastTick 12 = .ok (.iload_n 1, 1) := by decide +kernel
theorem dX3_lastTick_13 : decode cX3_lastTick 13 = .ok (.aload_n 0, 1) := by decide +kernel
theorem dX3_lastTick_14 : decode cX3_lastTick 14 = .ok (.getfield 9, 3) := by decide +kernel
theorem dX3_lastTick_17 : decode cX3_lastTick 17 = .ok (.iload_n 2, 1) := by decide +kernel
theorem dX3_lastTick_18 : decode cX3_lastTick 18 = .ok (.iaload, 1) := by decide +kernel
theorem dX3_lastTick_19 : decode cX3_lastTick 19 = .ok (.invokestatic 39, 3) := by decide +kernel
theorem dX3_lastTick_22 : decode cX3_lastTick 22 = .ok (.istore_n 1, 1) := by decide +kernel
theorem dX3_lastTick_23 : decode cX3_lastTick 23 = .ok (.iinc 2 1, 3) := by decide +kernel
theorem dX3_lastTick_26 : decode cX3_lastTick 26 = .ok (.goto (-22), 3) := by decide +kernel
theorem dX3_lastTick_29 : decode cX3_lastTick 29 = .ok (.iload_n 1, 1) := by decide +kernel
theorem dX3_lastTick_30 : decode cX3_lastTick 30 = .ok (.ireturn, 1) := by decide +kernel
theorem dX4_init_0 : decode cX4_init 0 = .ok (.aload_n 0, 1) := by decide +kernel
theorem dX4_init_1 : decode cX4_init 1 = .ok (.invokespecial 3, 3) := by decide +kernel
theorem dX4_init_4 : decode cX4_init 4 = .ok (.aload_n 0, 1) := by decide +kernel
theorem dX4_init_5 : decode cX4_init 5 = .ok (.bipush 40, 2) := by decide +kernel
theorem dX4_init_7 : decode cX4_init 7 = .ok (.newarray .int, 2) := by decide +kernel
theorem dX4_init_9 : decode cX4_init 9 = .ok (.putfield 9, 3) := by decide +kernel
theorem dX4_init_12 : decode cX4_init 12 = .ok (.aload_n 0, 1) := by decide +kernel
theorem dX4_init_13 : decode cX4_init 13 = .ok (.iconst (-1), 1) := by decide +kernel
theorem dX4_init_14 : decode cX4_init 14 = .ok (.putfield 15, 3) := by decide +kernel
theorem dX4_init_17 : decode cX4_init 17 = .ok (.return_, 1) := by decide +kernel
theorem dX4_begin_0 : decode cX4_begin 0 = .ok (.aload_n 0, 1) := by decide +kernel
theorem dX4_begin_1 : decode cX4_begin 1 = .ok (.iload_n 1, 1) := by decide +kernel
theorem dX4_begin_2 : decode cX4_begin 2 = .ok (.putfield 15, 3) := by decide +kernel
theorem dX4_begin_5 : decode cX4_begin 5 = .ok (.aload_n 0, 1) := by decide +kernel
theorem dX4_begin_6 : decode cX4_begin 6 = .ok (.iload_n 2, 1) := by decide +kernel
theorem dX4_begin_7 : decode cX4_begin 7 = .ok (.putfield 19, 3) := by decide +kernel
theorem dX4_begin_10 : decode cX4_begin 10 = .ok (.aload_n 0, 1) := by decide +kernel
theorem dX4_begin_11 : decode cX4_begin 11 = .ok (.getfield 9, 3) := by decide +kernel
theorem dX4_begin_14 : decode cX4_begin 14 = .ok (.iconst 0, 1) := by decide +kernel
theorem dX4_begin_15 : decode cX4_begin 15 = .ok (.invokestatic 22, 3) := by decide +kernel
theorem dX4_begin_18 : decode cX4_begin 18 = .ok (.return_, 1) := by decide +kernel
theorem dX4_faultAt_0 : decode cX4_faultAt 0 = .ok (.aload_n 0, 1) := by decide +kernel
theorem dX4_faultAt_1 : decode cX4_faultAt 1 = .ok (.getfield 15, 3) := by decide +kernel
theorem dX4_faultAt_4 : decode cX4_faultAt 4 = .ok (.iconst (-1), 1) := by decide +kernel
theorem dX4_faultAt_5 : decode cX4_faultAt 5 = .ok (.if_icmp .ne 5, 3) := by decide +kernel
theorem dX4_faultAt_8 : decode cX4_faultAt 8 = .ok (.iconst 1, 1) := by decide +kernel
theorem dX4_faultAt_9 : decode cX4_faultAt 9 = .ok (.ireturn, 1) := by decide +kernel
theorem dX4_faultAt_10 : decode cX4_faultAt 10 = .ok (.iload_n 1, 1) := by decide +kernel
theorem dX4_faultAt_11 : decode cX4_faultAt 11 = .ok (.ifCond .lt 11, 3) := by decide +kernel
theorem dX4_faultAt_14 : decode cX4_faultAt 14 = .ok (.iload_n 1, 1) := by decide +kernel
theorem dX4_faultAt_15 : decode cX4_faultAt 15 = .ok (.aload_n 0, 1) := by decide +kernel
theorem dX4_faultAt_16 : decode cX4_faultAt 16 = .ok (.getfield 19, 3) := by decide +kernel
theorem dX4_faultAt_19 : decode cX4_faultAt 19 = .ok (.if_icmp .lt 7, 3) := by decide +kernel
theorem dX4_faultAt_22 : decode cX4_faultAt 22 = .ok (.iconst 2, 1) := by decide +kernel
theorem dX4_faultAt_23 : decode cX4_faultAt 23 = .ok (.goto 4, 3) := by decide +kernel
theorem dX4_faultAt_26 : decode cX4_faultAt 26 = .ok (.iconst 0, 1) := by decide +kernel
theorem dX4_faultAt_27 : decode cX4_faultAt 27 = .ok (.ireturn, 1) := by decide +kernel
theorem dX4_faultOfPair_0 : decode cX4_faultOfPair 0 = .ok (.aload_n 0, 1) := by decide +kernel
theorem dX4_faultOfPair_1 : decode cX4_faultOfPair 1 = .ok (.getfield 15, 3) := by decide +kernel
theorem dX4_faultOfPair_4 : decode cX4_faultOfPair 4 = .ok (.iconst (-1), 1) := by decide +kernel
theorem dX4_faultOfPair_5 : decode cX4_faultOfPair 5 = .ok (.if_icmp .eq 13, 3) := by decide +kernel
theorem dX4_faultOfPair_8 : decode cX4_faultOfPair 8 = .ok (.aload_n 0, 1) := by decide +kernel
theorem dX4_faultOfPair_9 : decode cX4_faultOfPair 9 = .ok (.getfield 15, 3) := by decide +kernel
theorem dX4_faultOfPair_12 : decode cX4_faultOfPair 12 = .ok (.iload_n 1, 1) := by decide +kernel
theorem dX4_faultOfPair_13 : decode cX4_faultOfPair 13 = .ok (.if_icmp .eq 5, 3) := by decide +kernel
theorem dX4_faultOfPair_16 : decode cX4_faultOfPair 16 = .ok (.iconst 3, 1) := by decide +kernel
theorem dX4_faultOfPair_17 : decode cX4_faultOfPair 17 = .ok (.ireturn, 1) := by decide +kernel
theorem dX4_faultOfPair_18 : decode cX4_faultOfPair 18 = .ok (.aload_n 0, 1) := by decide +kernel
theorem dX4_faultOfPair_19 : decode cX4_faultOfPair 19 = .ok (.iload_n 2, 1) := by decide +kernel
theorem dX4_faultOfPair_20 : decode cX4_faultOfPair 20 = .ok (.invokevirtual 28, 3) := by decide +kernel
theorem dX4_faultOfPair_23 : decode cX4_faultOfPair 23 = .ok (.istore_n 3, 1) := by decide +kernel
theorem dX4_faultOfPair_24 : decode cX4_faultOfPair 24 = .ok (.iload_n 3, 1) := by decide +kernel
theorem dX4_faultOfPair_25 : decode cX4_faultOfPair 25 = .ok (.ifCond .eq 7, 3) := by decide +kernel
theorem dX4_faultOfPair_28 : decode cX4_faultOfPair 28 = .ok (.iload_n 3, 1) := by decide +kernel
theorem dX4_faultOfPair_29 : decode cX4_faultOfPair 29 = .ok (.goto 10, 3) := by decide +kernel
theorem dX4_faultOfPair_32 : decode cX4_faultOfPair 32 = .ok (.aload_n 0, 1) := by decide +kernel
theorem dX4_faultOfPair_33 : decode cX4_faultOfPair 33 = .ok (.iload_n 2, 1) := by decide +kernel
theorem dX4_faultOfPair_34 : decode cX4_faultOfPair 34 = .ok (.iconst 1, 1) := by decide +kernel
theorem dX4_faultOfPair_35 : decode cX4_faultOfPair 35 = .ok (.iadd, 1) := by decide +kernel
theorem dX4_faultOfPair_36 : decode cX4_faultOfPair 36 = .ok (.invokevirtual 28, 3) := by decide +kernel
theorem dX4_faultOfPair_39 : decode cX4_faultOfPair 39 = .ok (.ireturn, 1) := by decide +kernel
theorem dX4_put_0 : decode cX4_put 0 = .ok (.aload_n 0, 1) := by decide +kernel
theorem dX4_put_1 : decode cX4_put 1 = .ok (.getfield 15, 3) := by decide +kernel
theorem dX4_put_4 : decode cX4_put 4 = .ok (.lookupswitch 50 #[(0, 28), (1, 39)], 28) := by decide +kernel
theorem dX4_put_32 : decode cX4_put 32 = .ok (.aload_n 0, 1) := by decide +kernel
theorem dX4_put_33 : decode cX4_put 33 = .ok (.getfield 9, 3) := by decide +kernel
theorem dX4_put_36 : decode cX4_put 36 = .ok (.iload_n 1, 1) := by decide +kernel
theorem dX4_put_37 : decode cX4_put 37 = .ok (.iload_n 2, 1) := by decide +kernel
theorem dX4_put_38 : decode cX4_put 38 = .ok (.i2b, 1) := by decide +kernel
theorem dX4_put_39 : decode cX4_put 39 = .ok (.iastore, 1) := by decide +kernel
theorem dX4_put_40 : decode cX4_put 40 = .ok (.goto 21, 3) := by decide +kernel
theorem dX4_put_43 : decode cX4_put 43 = .ok (.aload_n 0, 1) := by decide +kernel
theorem dX4_put_44 : decode cX4_put 44 = .ok (.getfield 9, 3) := by decide +kernel
theorem dX4_put_47 : decode cX4_put 47 = .ok (.iload_n 1, 1) := by decide +kernel
theorem dX4_put_48 : decode cX4_put 48 = .ok (.iload_n 2, 1) := by decide +kernel
theorem dX4_put_49 : decode cX4_put 49 = .ok (.i2s, 1) := by decide +kernel
theorem dX4_put_50 : decode cX4_put 50 = .ok (.iastore, 1) := by decide +kernel
theorem dX4_put_51 : decode cX4_put 51 = .ok (.goto 10, 3) := by decide +kernel
theorem dX4_put_54 : decode cX4_put 54 = .ok (.aload_n 0, 1) := by decide +kernel
theorem dX4_put_55 : decode cX4_put 55 = .ok (.getfield 9, 3) := by decide +kernel
theorem dX4_put_58 : decode cX4_put 58 = .ok (.iload_n 1, 1) := by decide +kernel
theorem dX4_put_59 : decode cX4_put 59 = .ok (.iload_n 2, 1) := by decide +kernel
theorem dX4_put_60 : decode cX4_put 60 = .ok (.iastore, 1) := by decide +kernel
theorem dX4_put_61 : decode cX4_put 61 = .ok (.return_, 1) := by decide +kernel
theorem dJ6_bitCount_0f7a4_0 : decode cJ6_bitCount_0f7a4 0 = .ok (.iload_n 0, 1) := by decide +kernel
theorem dJ6_bitCount_0f7a4_1 : decode cJ6_bitCount_0f7a4 1 = .ok (.iload_n 0, 1) := by decide +kernel
theorem dJ6_bitCount_0f7a4_2 : decode cJ6_bitCount_0f7a4 2 = .ok (.iconst 1, 1) := by decide +kernel
theorem dJ6_bitCount_0f7a4_3 : decode cJ6_bitCount_0f7a4 3 = .ok (.iushr, 1) := by decide +kernel
theorem dJ6_bitCount_0f7a4_4 : decode cJ6_bitCount_0f7a4 4 = .ok (.ldc_w 265, 3) := by decide +kernel
theorem dJ6_bitCount_0f7a4_7 : decode cJ6_bitCount_0f7a4 7 = .ok (.iand, 1) := by decide +kernel
theorem dJ6_bitCount_0f7a4_8 : decode cJ6_bitCount_0f7a4 8 = .ok (.isub, 1) := by decide +kernel
theorem dJ6_bitCount_0f7a4_9 : decode cJ6_bitCount_0f7a4 9 = .ok (.istore_n 0, 1) := by decide +kernel
theorem dJ6_bitCount_0f7a4_10 : decode cJ6_bitCount_0f7a4 10 = .ok (.iload_n 0, 1) := by decide +kernel
theorem dJ6_bitCount_0f7a4_11 : decode cJ6_bitCount_0f7a4 11 = .ok (.ldc_w 266, 3) := by decide +kernel
theorem dJ6_bitCount_0f7a4_14 : decode cJ6_bitCount_0f7a4 14 = .ok (.iand, 1) := by decide +kernel
theorem dJ6_bitCount_0f7a4_15 : decode cJ6_bitCount_0f7a4 15 = .ok (.iload_n 0, 1) := by decide +kernel
theorem dJ6_bitCount_0f7a4_16 : decode cJ6_bitCount_0f7a4 16 = .ok (.iconst 2, 1) := by decide +kernel
theorem dJ6_bitCount_0f7a4_17 : decode cJ6_bitCount_0f7a4 17 = .ok (.iushr, 1) := by decide +kernel
theorem dJ6_bitCount_0f7a4_18 : decode cJ6_bitCount_0f7a4 18 = .ok (.ldc_w 266, 3) := by decide +kernel
theorem dJ6_bitCount_0f7a4_21 : decode cJ6_bitCount_0f7a4 21 = .ok (.iand, 1) := by decide +kernel
theorem dJ6_bitCount_0f7a4_22 : decode cJ6_bitCount_0f7a4 22 = .ok (.iadd, 1) := by decide +kernel
theorem dJ6_bitCount_0f7a4_23 : decode cJ6_bitCount_0f7a4 23 = .ok (.istore_n 0, 1) := by decide +kernel
theorem dJ6_bitCount_0f7a4_24 : decode cJ6_bitCount_0f7a4 24 = .ok (.iload_n 0, 1) := by decide +kernel
theorem dJ6_bitCount_0f7a4_25 : decode cJ6_bitCount_0f7a4 25 = .ok (.iload_n 0, 1) := by decide +kernel
theorem dJ6_bitCount_0f7a4_26 : decode cJ6_bitCount_0f7a4 26 = .ok (.iconst 4, 1) := by decide +kernel
theorem dJ6_bitCount_0f7a4_27 : decode cJ6_bitCount_0f7a4 27 = .ok (.iushr, 1) := by decide +kernel
theorem dJ6_bitCount_0f7a4_28 : decode cJ6_bitCount_0f7a4 28 = .ok (.iadd, 1) := by decide +kernel
theorem dJ6_bitCount_0f7a4_29 : decode cJ6_bitCount_0f7a4 29 = .ok (.ldc_w 267, 3) := by decide +kernel
theorem dJ6_bitCount_0f7a4_32 : decode cJ6_bitCount_0f7a4 32 = .ok (.iand, 1) := by decide +kernel
theorem dJ6_bitCount_0f7a4_33 : decode cJ6_bitCount_0f7a4 33 = .ok (.istore_n 0, 1) := by decide +kernel
theorem dJ6_bitCount_0f7a4_34 : decode cJ6_bitCount_0f7a4 34 = .ok (.iload_n 0, 1) := by decide +kernel
theorem dJ6_bitCount_0f7a4_35 : decode cJ6_bitCount_0f7a4 35 = .ok (.iload_n 0, 1) := by decide +kernel
theorem dJ6_bitCount_0f7a4_36 : decode cJ6_bitCount_0f7a4 36 = .ok (.bipush 8, 2) := by decide +kernel
theorem dJ6_bitCount_0f7a4_38 : decode cJ6_bitCount_0f7a4 38 = .ok (.iushr, 1) := by decide +kernel
theorem dJ6_bitCount_0f7a4_39 : decode cJ6_bitCount_0f7a4 39 = .ok (.iadd, 1) := by decide +kernel
theorem dJ6_bitCount_0f7a4_40 : decode cJ6_bitCount_0f7a4 40 = .ok (.istore_n 0, 1) := by decide +kernel
theorem dJ6_bitCount_0f7a4_41 : decode cJ6_bitCount_0f7a4 41 = .ok (.iload_n 0, 1) := by decide +kernel
theorem dJ6_bitCount_0f7a4_42 : decode cJ6_bitCount_0f7a4 42 = .ok (.iload_n 0, 1) := by decide +kernel
theorem dJ6_bitCount_0f7a4_43 : decode cJ6_bitCount_0f7a4 43 = .ok (.bipush 16, 2) := by decide +kernel
theorem dJ6_bitCount_0f7a4_45 : decode cJ6_bitCount_0f7a4 45 = .ok (.iushr, 1) := by decide +kernel
theorem dJ6_bitCount_0f7a4_46 : decode cJ6_bitCount_0f7a4 46 = .ok (.iadd, 1) := by decide +kernel
theorem dJ6_bitCount_0f7a4_47 : decode cJ6_bitCount_0f7a4 47 = .ok (.istore_n 0, 1) := by decide +kernel
theorem dJ6_bitCount_0f7a4_48 : decode cJ6_bitCount_0f7a4 48 = .ok (.iload_n 0, 1) := by decide +kernel
theorem dJ6_bitCount_0f7a4_49 : decode cJ6_bitCount_0f7a4 49 = .ok (.bipush 63, 2) := by decide +kernel
theorem dJ6_bitCount_0f7a4_51 : decode cJ6_bitCount_0f7a4 51 = .ok (.iand, 1) := by decide +kernel
theorem dJ6_bitCount_0f7a4_52 : decode cJ6_bitCount_0f7a4 52 = .ok (.ireturn, 1) := by decide +kernel
theorem dJ9_max_7cf53_0 : decode cJ9_max_7cf53 0 = .ok (.iload_n 0, 1) := by decide +kernel
theorem dJ9_max_7cf53_1 : decode cJ9_max_7cf53 1 = .ok (.iload_n 1, 1) := by decide +kernel
theorem dJ9_max_7cf53_2 : decode cJ9_max_7cf53 2 = .ok (.if_icmp .lt 7, 3) := by decide +kernel
theorem dJ9_max_7cf53_5 : decode cJ9_max_7cf53 5 = .ok (.iload_n 0, 1) := by decide +kernel
theorem dJ9_max_7cf53_6 : decode cJ9_max_7cf53 6 = .ok (.goto 4, 3) := by decide +kernel
theorem dJ9_max_7cf53_9 : decode cJ9_max_7cf53 9 = .ok (.iload_n 1, 1) := by decide +kernel
theorem dJ9_max_7cf53_10 : decode cJ9_max_7cf53 10 = .ok (.ireturn, 1) := by decide +kernel
theorem dJ9_min_7cf53_0 : decode cJ9_min_7cf53 0 = .ok (.iload_n 0, 1) := by decide +kernel
theorem dJ9_min_7cf53_1 : decode cJ9_min_7cf53 1 = .ok (.iload_n 1, 1) := by decide +kernel
theorem dJ9_min_7cf53_2 : decode cJ9_min_7cf53 2 = .ok (.if_icmp .gt 7, 3) := by decide +kernel
theorem dJ9_min_7cf53_5 : decode cJ9_min_7cf53 5 = .ok (.iload_n 0, 1) := by decide +kernel
theorem dJ9_min_7cf53_6 : decode cJ9_min_7cf53 6 = .ok (.goto 4, 3) := by decide +kernel
theorem dJ9_min_7cf53_9 : decode cJ9_min_7cf53 9 = .ok (.iload_n 1, 1) := by decide +kernel
theorem dJ9_min_7cf53_10 : decode cJ9_min_7cf53 10 = .ok (.ireturn, 1) := by decide +kernel
theorem dJ0_length_8abf5_0 : decode cJ0_length_8abf5 0 = .ok (.aload_n 0, 1) := by decide +kernel
theorem dJ0_length_8abf5_1 : decode cJ0_length_8abf5 1 = .ok (.getfield 9, 3) := by decide +kernel
theorem dJ0_length_8abf5_4 : decode cJ0_length_8abf5 4 = .ok (.arraylength, 1) := by decide +kernel
theorem dJ0_length_8abf5_5 : decode cJ0_length_8abf5 5 = .ok (.aload_n 0, 1) := by decide +kernel
theorem dJ0_length_8abf5_6 : decode cJ0_length_8abf5 6 = .ok (.invokevirtual 335, 3) := by decide +kernel
theorem dJ0_length_8abf5_9 : decode cJ0_length_8abf5 9 = .ok (.ishr, 1) := by decide +kernel
theorem dJ0_length_8abf5_10 : decode cJ0_length_8abf5 10 = .ok (.ireturn, 1) := by decide +kernel
theorem dJ0_charAt_5068e_0 : decode cJ0_charAt_5068e 0 = .ok (.aload_n 0, 1) := by decide +kernel
theorem dJ0_charAt_5068e_1 : decode cJ0_charAt_5068e 1 = .ok (.invokevirtual 492, 3) := by decide +kernel
theorem dJ0_charAt_5068e_4 : decode cJ0_charAt_5068e 4 = .ok (.ifCond .eq 12, 3) := by decide +kernel
theorem dJ0_charAt_5068e_7 : decode cJ0_charAt_5068e 7 = .ok (.aload_n 0, 1) := by decide +kernel
theorem dJ0_charAt_5068e_8 : decode cJ0_charAt_5068e 8 = .ok (.getfield 9, 3) := by decide +kernel
theorem dJ0_charAt_5068e_11 : decode cJ0_charAt_5068e 11 = .ok (.iload_n 1, 1) := by decide +kernel
theorem dJ0_charAt_5068e_12 : decode cJ0_charAt_5068e 12 = .ok (.invokestatic 495, 3) := by decide +kernel
theorem dJ0_charAt_5068e_15 : decode cJ0_charAt_5068e 15 = .ok (.ireturn, 1) := by decide +kernel
theorem dJ0_charAt_5068e_16 : decode cJ0_charAt_5068e 16 = .ok (.aload_n 0, 1) := by decide +kernel
theorem dJ0_charAt_5068e_17 : decode cJ0_charAt_5068e 17 = .ok (.getfield 9, 3) := by decide +kernel
theorem dJ0_charAt_5068e_20 : decode cJ0_charAt_5068e 20 = .ok (.iload_n 1, 1) := by decide +kernel
theorem dJ0_charAt_5068e_21 : decode cJ0_charAt_5068e 21 = .ok (.invokestatic 498, 3) := by decide +kernel
theorem dJ0_charAt_5068e_24 : decode cJ0_charAt_5068e 24 = .ok (.ireturn, 1) := by decide +kernel
theorem dJ0_coder_7d493_0 : decode cJ0_coder_7d493 0 = .ok (.getstatic 38, 3) := by decide +kernel
theorem dJ0_coder_7d493_3 : decode cJ0_coder_7d493 3 = .ok (.ifCond .eq 10, 3) := by decide +kernel
theorem dJ0_coder_7d493_6 : decode cJ0_coder_7d493 6 = .ok (.aload_n 0, 1) := by decide +kernel
theorem dJ0_coder_7d493_7 : decode cJ0_coder_7d493 7 = .ok (.getfield 15, 3) := by decide +kernel
theorem dJ0_coder_7d493_10 : decode cJ0_coder_7d493 10 = .ok (.goto 4, 3) := by decide +kernel
theorem dJ0_coder_7d493_13 : decode cJ0_coder_7d493 13 = .ok (.iconst 1, 1) := by decide +kernel
theorem dJ0_coder_7d493_14 : decode cJ0_coder_7d493 14 = .ok (.ireturn, 1) := by decide +kernel
theorem dJ0_isLatin1_aae02_0 : decode cJ0_isLatin1_aae02 0 = .ok (.getstatic 38, 3) := by decide +kernel
theorem dJ0_isLatin1_aae02_3 : decode cJ0_isLatin1_aae02 3 = .ok (.ifCond .eq 14, 3) := by decide +kernel
theorem dJ0_isLatin1_aae02_6 : decode cJ0_isLatin1_aae02 6 = .ok (.aload_n 0, 1) := by decide +kernel
theorem dJ0_isLatin1_aae02_7 : decode cJ0_isLatin1_aae02 7 = .ok (.getfield 15, 3) := by decide +kernel
theorem dJ0_isLatin1_aae02_10 : decode cJ0_isLatin1_aae02 10 = .ok (.ifCond .ne 7, 3) := by decide +kernel
theorem dJ0_isLatin1_aae02_13 : decode cJ0_isLatin1_aae02 13 = .ok (.iconst 1, 1) := by decide +kernel
theorem dJ0_isLatin1_aae02_14 : decode cJ0_isLatin1_aae02 14 = .ok (.goto 4, 3) := by decide +kernel
theorem dJ0_isLatin1_aae02_17 : decode cJ0_isLatin1_aae02 17 = .ok (.iconst 0, 1) := by decide +kernel
theorem dJ0_isLatin1_aae02_18 : decode cJ0_isLatin1_aae02 18 = .ok (.ireturn, 1) := by decide +kernel
theorem dJ0_checkIndex_df160_0 : decode cJ0_checkIndex_df160 0 = .ok (.iload_n 0, 1) := by decide +kernel
theorem dJ0_checkIndex_df160_1 : decode cJ0_checkIndex_df160 1 = .ok (.iload_n 1, 1) := by decide +kernel
theorem dJ0_checkIndex_df160_2 : decode cJ0_checkIndex_df160 2 = .ok (.getstatic 1053, 3) := by decide +kernel
theorem dJ0_checkIndex_df160_5 : decode cJ0_checkIndex_df160 5 = .ok (.invokestatic 1059, 3) := by decide +kernel
theorem dJ0_checkIndex_df160_8 : decode cJ0_checkIndex_df160 8 = .ok (.pop, 1) := by decide +kernel
theorem dJ0_checkIndex_df160_9 : decode cJ0_checkIndex_df160 9 = .ok (.return_, 1) := by decide +kernel
theorem dJ1_charAt_3b067_0 : decode cJ1_charAt_3b067 0 = .ok (.iload_n 1, 1) := by decide +kernel
theorem dJ1_charAt_3b067_1 : decode cJ1_charAt_3b067 1 = .ok (.aload_n 0, 1) := by decide +kernel
theorem dJ1_charAt_3b067_2 : decode cJ1_charAt_3b067 2 = .ok (.arraylength, 1) := by decide +kernel
theorem dJ1_charAt_3b067_3 : decode cJ1_charAt_3b067 3 = .ok (.invokestatic 9, 3) := by decide +kernel
theorem dJ1_charAt_3b067_6 : decode cJ1_charAt_3b067 6 = .ok (.aload_n 0, 1) := by decide +kernel
theorem dJ1_charAt_3b067_7 : decode cJ1_charAt_3b067 7 = .ok (.iload_n 1, 1) := by decide +kernel
theorem dJ1_charAt_3b067_8 : decode cJ1_charAt_3b067 8 = .ok (.baload, 1) := by decide +kernel
theorem dJ1_charAt_3b067_9 : decode cJ1_charAt_3b067 9 = .ok (.sipush 255, 3) := by decide +kernel
theorem dJ1_charAt_3b067_12 : decode cJ1_charAt_3b067 12 = .ok (.iand, 1) := by decide +kernel
theorem dJ1_charAt_3b067_13 : decode cJ1_charAt_3b067 13 = .ok (.i2c, 1) := by decide +kernel
theorem dJ1_charAt_3b067_14 : decode cJ1_charAt_3b067 14 = .ok (.ireturn, 1) := by decide +kernel
theorem dJ2_getChar_3b067_0 : decode cJ2_getChar_3b067 0 = .ok (.getstatic 44, 3) := by decide +kernel
theorem dJ2_getChar_3b067_3 : decode cJ2_getChar_3b067 3 = .ok (.ifCond .ne 25, 3) := by decide +kernel
theorem dJ2_getChar_3b067_6 : decode cJ2_getChar_3b067 6 = .ok (.iload_n 1, 1) := by decide +kernel
theorem dJ2_getChar_3b067_7 : decode cJ2_getChar_3b067 7 = .ok (.ifCond .lt 11, 3) := by decide +kernel
theorem dJ2_getChar_3b067_10 : decode cJ2_getChar_3b067 10 = .ok (.iload_n 1, 1) := by decide +kernel
theorem dJ2_getChar_3b067_11 : decode cJ2_getChar_3b067 11 = .ok (.aload_n 0, 1) := by decide +kernel
theorem dJ2_getChar_3b067_12 : decode cJ2_getChar_3b067 12 = .ok (.invokestatic 48, 3) := by decide +kernel
theorem dJ2_getChar_3b067_15 : decode cJ2_getChar_3b067 15 = .ok (.if_icmp .lt 13, 3) := by decide +kernel
theorem dJ2_getChar_3b067_18 : decode cJ2_getChar_3b067 18 = .ok (.new 52, 3) := by decide +kernel
theorem dJ2_getChar_3b067_21 : decode cJ2_getChar_3b067 21 = .ok (.dup, 1) := by decide +kernel
theorem dJ2_getChar_3b067_22 : decode cJ2_getChar_3b067 22 = .ok (.ldc 54, 2) := by decide +kernel
theorem dJ2_getChar_3b067_24 : decode cJ2_getChar_3b067 24 = .ok (.invokespecial 56, 3) := by decide +kernel
theorem dJ2_getChar_3b067_27 : decode cJ2_getChar_3b067 27 = .ok (.athrow, 1) := by decide +kernel
theorem dJ2_getChar_3b067_28 : decode cJ2_getChar_3b067 28 = .ok (.iload_n 1, 1) := by decide +kernel
theorem dJ2_getChar_3b067_29 : decode cJ2_getChar_3b067 29 = .ok (.iconst 1, 1) := by decide +kernel
theorem dJ2_getChar_3b067_30 : decode cJ2_getChar_3b067 30 = .ok (.ishl, 1) := by decide +kernel
theorem dJ2_getChar_3b067_31 : decode cJ2_getChar_3b067 31 = .ok (.istore_n 1, 1) := by decide +kernel
theorem dJ2_getChar_3b067_32 : decode cJ2_getChar_3b067 32 = .ok (.aload_n 0, 1) := by decide +kernel
theorem dJ2_getChar_3b067_33 : decode cJ2_getChar_3b067 33 = .ok (.iload_n 1, 1) := by decide +kernel
theorem dJ2_getChar_3b067_34 : decode cJ2_getChar_3b067 34 = .ok (.iinc 1 1, 3) := by decide +kernel
theorem dJ2_getChar_3b067_37 : decode cJ2_getChar_3b067 37 = .ok (.baload, 1) := by decide +kernel
theorem dJ2_getChar_3b067_38 : decode cJ2_getChar_3b067 38 = .ok (.sipush 255, 3) := by decide +kernel
theorem dJ2_getChar_3b067_41 : decode cJ2_getChar_3b067 41 = .ok (.iand, 1) := by decide +kernel
theorem dJ2_getChar_3b067_42 : decode cJ2_getChar_3b067 42 = .ok (.getstatic 59, 3) := by decide +kernel
theorem dJ2_getChar_3b067_45 : decode cJ2_getChar_3b067 45 = .ok (.ishl, 1) := by decide +kernel
theorem dJ2_getChar_3b067_46 : decode cJ2_getChar_3b067 46 = .ok (.aload_n 0, 1) := by decide +kernel
theorem dJ2_getChar_3b067_47 : decode cJ2_getChar_3b067 47 = .ok (.iload_n 1, 1) := by decide +kernel
theorem dJ2_getChar_3b067_48 : decode cJ2_getChar_3b067 48 = .ok (.baload, 1) := by decide +kernel
theorem dJ2_getChar_3b067_49 : decode cJ2_getChar_3b067 49 = .ok (.sipush 255, 3) := by decide +kernel
theorem dJ2_getChar_3b067_52 : decode cJ2_getChar_3b067 52 = .ok (.iand, 1) := by decide +kernel
theorem dJ2_getChar_3b067_53 : decode cJ2_getChar_3b067 53 = .ok (.getstatic 63, 3) := by decide +kernel
theorem dJ2_getChar_3b067_56 : decode cJ2_getChar_3b067 56 = .ok (.ishl, 1) := by decide +kernel
theorem dJ2_getChar_3b067_57 : decode cJ2_getChar_3b067 57 = .ok (.ior, 1) := by decide +kernel
theorem dJ2_getChar_3b067_58 : decode cJ2_getChar_3b067 58 = .ok (.i2c, 1) := by decide +kernel
theorem dJ2_getChar_3b067_59 : decode cJ2_getChar_3b067 59 = .ok (.ireturn, 1) := by decide +kernel
theorem dJ2_length_9d52b_0 : decode cJ2_length_9d52b 0 = .ok (.aload_n 0, 1) := by decide +kernel
theorem dJ2_length_9d52b_1 : decode cJ2_length_9d52b 1 = .ok (.arraylength, 1) := by decide +kernel
theorem dJ2_length_9d52b_2 : decode cJ2_length_9d52b 2 = .ok (.iconst 1, 1) := by decide +kernel
theorem dJ2_length_9d52b_3 : decode cJ2_length_9d52b 3 = .ok (.ishr, 1) := by decide +kernel
theorem dJ2_length_9d52b_4 : decode cJ2_length_9d52b 4 = .ok (.ireturn, 1) := by decide +kernel
theorem dJ2_charAt_3b067_0 : decode cJ2_charAt_3b067 0 = .ok (.iload_n 1, 1) := by decide +kernel
theorem dJ2_charAt_3b067_1 : decode cJ2_charAt_3b067 1 = .ok (.aload_n 0, 1) := by decide +kernel
theorem dJ2_charAt_3b067_2 : decode cJ2_charAt_3b067 2 = .ok (.invokestatic 67, 3) := by decide +kernel
theorem dJ2_charAt_3b067_5 : decode cJ2_charAt_3b067 5 = .ok (.aload_n 0, 1) := by decide +kernel
theorem dJ2_charAt_3b067_6 : decode cJ2_charAt_3b067 6 = .ok (.iload_n 1, 1) := by decide +kernel
theorem dJ2_charAt_3b067_7 : decode cJ2_charAt_3b067 7 = .ok (.invokestatic 71, 3) := by decide +kernel
theorem dJ2_charAt_3b067_10 : decode cJ2_charAt_3b067 10 = .ok (.ireturn, 1) := by decide +kernel
theorem dJ2_checkIndex_2214a_0 : decode cJ2_checkIndex_2214a 0 = .ok (.iload_n 0, 1) := by decide +kernel
theorem dJ2_checkIndex_2214a_1 : decode cJ2_checkIndex_2214a 1 = .ok (.aload_n 1, 1) := by decide +kernel
theorem dJ2_checkIndex_2214a_2 : decode cJ2_checkIndex_2214a 2 = .ok (.invokestatic 48, 3) := by decide +kernel
theorem dJ2_checkIndex_2214a_5 : decode cJ2_checkIndex_2214a 5 = .ok (.invokestatic 414, 3) := by decide +kernel
theorem dJ2_checkIndex_2214a_8 : decode cJ2_checkIndex_2214a 8 = .ok (.return_, 1) := by decide +kernel
theorem dJ7_fill_53178_0 : decode cJ7_fill_53178 0 = .ok (.iconst 0, 1) := by decide +kernel
theorem dJ7_fill_53178_1 : decode cJ7_fill_53178 1 = .ok (.istore_n 2, 1) := by decide +kernel
theorem dJ7_fill_53178_2 : decode cJ7_fill_53178 2 = .ok (.aload_n 0, 1) := by decide +kernel
theorem dJ7_fill_53178_3 : decode cJ7_fill_53178 3 = .ok (.arraylength, 1) := by decide +kernel
theorem dJ7_fill_53178_4 : decode cJ7_fill_53178 4 = .ok (.istore_n 3, 1) := by decide +kernel
theorem dJ7_fill_53178_5 : decode cJ7_fill_53178 5 = .ok (.iload_n 2, 1) := by decide +kernel
theorem dJ7_fill_53178_6 : decode cJ7_fill_53178 6 = .ok (.iload_n 3, 1) := by decide +kernel
theorem dJ7_fill_53178_7 : decode cJ7_fill_53178 7 = .ok (.if_icmp .ge 13, 3) := by decide +kernel
theorem dJ7_fill_53178_10 : decode cJ7_fill_53178 10 = .ok (.aload_n 0, 1) := by decide +kernel
theorem dJ7_fill_53178_11 : decode cJ7_fill_53178 11 = .ok (.iload_n 2, 1) := by decide +kernel
theorem dJ7_fill_53178_12 : decode cJ7_fill_53178 12 = .ok (.iload_n 1, 1) := by decide +kernel
theorem dJ7_fill_53178_13 : decode cJ7_fill_53178 13 = .ok (.iastore, 1) := by decide +kernel
theorem dJ7_fill_53178_14 : decode cJ7_fill_53178 14 = .ok (.iinc 2 1, 3) := by decide +kernel
theorem dJ7_fill_53178_17 : decode cJ7_fill_53178 17 = .ok (.goto (-12), 3) := by decide +kernel
theorem dJ7_fill_53178_20 : decode cJ7_fill_53178 20 = .ok (.return_, 1) := by decide +kernel
theorem dJ3_checkIndex_8e157_0 : decode cJ3_checkIndex_8e157 0 = .ok (.iload_n 0, 1) := by decide +kernel
theorem dJ3_checkIndex_8e157_1 : decode cJ3_checkIndex_8e157 1 = .ok (.ifCond .lt 8, 3) := by decide +kernel
theorem dJ3_checkIndex_8e157_4 : decode cJ3_checkIndex_8e157 4 = .ok (.iload_n 0, 1) := by decide +kernel
theorem dJ3_checkIndex_8e157_5 : decode cJ3_checkIndex_8e157 5 = .ok (.iload_n 1, 1) := by decide +kernel
theorem dJ3_checkIndex_8e157_6 : decode cJ3_checkIndex_8e157 6 = .ok (.if_icmp .lt 10, 3) := by decide +kernel
theorem dJ3_checkIndex_8e157_9 : decode cJ3_checkIndex_8e157 9 = .ok (.aload_n 2, 1) := by decide +kernel
theorem dJ3_checkIndex_8e157_10 : decode cJ3_checkIndex_8e157 10 = .ok (.iload_n 0, 1) := by decide +kernel
theorem dJ3_checkIndex_8e157_11 : decode cJ3_checkIndex_8e157 11 = .ok (.iload_n 1, 1) := by decide +kernel
theorem dJ3_checkIndex_8e157_12 : decode cJ3_checkIndex_8e157 12 = .ok (.invokestatic 95, 3) := by decide +kernel
theorem dJ3_checkIndex_8e157_15 : decode cJ3_checkIndex_8e157 15 = .ok (.athrow, 1) := by decide +kernel
theorem dJ3_checkIndex_8e157_16 : decode cJ3_checkIndex_8e157 16 = .ok (.iload_n 0, 1) := by decide +kernel
theorem dJ3_checkIndex_8e157_17 : decode cJ3_checkIndex_8e157 17 = .ok (.ireturn, 1) := by decide +kernel
end
section
theorem dX5_init_0 : decode cX5_init 0 = .ok (.aload_n 0, 1) := by decide +kernel
theorem dX5_init_1 : decode cX5_init 1 = .ok (.invokespecial 3, 3) := by decide +kernel
theorem dX5_init_4 : decode cX5_init 4 = .ok (.aload_n 0, 1) := by decide +kernel
theorem dX5_init_5 : decode cX5_init 5 = .ok (.new 9, 3) := by decide +kernel
theorem dX5_init_8 : decode cX5_init 8 = .ok (.dup, 1) := by decide +kernel
theorem dX5_init_9 : decode cX5_init 9 = .ok (.invokespecial 11, 3) := by decide +kernel
theorem dX5_init_12 : decode cX5_init 12 = .ok (.putfield 12, 3) := by decide +kernel
theorem dX5_init_15 : decode cX5_init 15 = .ok (.aload_n 0, 1) := by decide +kernel
theorem dX5_init_16 : decode cX5_init 16 = .ok (.new 9, 3) := by decide +kernel
theorem dX5_init_19 : decode cX5_init 19 = .ok (.dup, 1) := by decide +kernel
theorem dX5_init_20 : decode cX5_init 20 = .ok (.invokespecial 11, 3) := by decide +kernel
theorem dX5_init_23 : decode cX5_init 23 = .ok (.putfield 16, 3) := by decide +kernel
theorem dX5_init_26 : decode cX5_init 26 = .ok (.aload_n 0, 1) := by decide +kernel
theorem dX5_init_27 : decode cX5_init 27 = .ok (.iconst 2, 1) := by decide +kernel
theorem dX5_init_28 : decode cX5_init 28 = .ok (.anewarray 9, 3) := by decide +kernel
theorem dX5_init_31 : decode cX5_init 31 = .ok (.putfield 19, 3) := by decide +kernel
theorem dX5_init_34 : decode cX5_init 34 = .ok (.aload_n 0, 1) := by decide +kernel
theorem dX5_init_35 : decode cX5_init 35 = .ok (.iconst 2, 1) := by decide +kernel
theorem dX5_init_36 : decode cX5_init 36 = .ok (.newarray .boolean, 2) := by decide +kernel
theorem dX5_init_38 : decode cX5_init 38 = .ok (.putfield 23, 3) := by decide +kernel
theorem dX5_init_41 : decode cX5_init 41 = .ok (.aload_n 0, 1) := by decide +kernel
theorem dX5_init_42 : decode cX5_init 42 = .ok (.new 27, 3) := by decide +kernel
theorem dX5_init_45 : decode cX5_init 45 = .ok (.dup, 1) := by decide +kernel
theorem dX5_init_46 : decode cX5_init 46 = .ok (.invokespecial 29, 3) := by decide +kernel
theorem dX5_init_49 : decode cX5_init 49 = .ok (.putfield 30, 3) := by decide +kernel
theorem dX5_init_52 : decode cX5_init 52 = .ok (.aload_n 0, 1) := by decide +kernel
theorem dX5_init_53 : decode cX5_init 53 = .ok (.new 34, 3) := by decide +kernel
theorem dX5_init_56 : decode cX5_init 56 = .ok (.dup, 1) := by decide +kernel
theorem dX5_init_57 : decode cX5_init 57 = .ok (.invokespecial 36, 3) := by decide +kernel
theorem dX5_init_60 : decode cX5_init 60 = .ok (.putfield 37, 3) := by decide +kernel
theorem dX5_init_63 : decode cX5_init 63 = .ok (.aload_n 0, 1) := by decide +kernel
theorem dX5_init_64 : decode cX5_init 64 = .ok (.iconst 4, 1) := by decide +kernel
theorem dX5_init_65 : decode cX5_init 65 = .ok (.anewarray 41, 3) := by decide +kernel
theorem dX5_init_68 : decode cX5_init 68 = .ok (.putfield 43, 3) := by decide +kernel
theorem dX5_init_71 : decode cX5_init 71 = .ok (.aload_n 0, 1) := by decide +kernel
theorem dX5_init_72 : decode cX5_init 72 = .ok (.new 47, 3) := by decide +kernel
theorem dX5_init_75 : decode cX5_init 75 = .ok (.dup, 1) := by decide +kernel
theorem dX5_init_76 : decode cX5_init 76 = .ok (.invokespecial 49, 3) := by decide +kernel
theorem dX5_init_79 : decode cX5_init 79 = .ok (.putfield 50, 3) := by decide +kernel
theorem dX5_init_82 : decode cX5_init 82 = .ok (.aload_n 0, 1) := by decide +kernel
theorem dX5_init_83 : decode cX5_init 83 = .ok (.bipush 61, 2) := by decide +kernel
theorem dX5_init_85 : decode cX5_init 85 = .ok (.newarray .int, 2) := by decide +kernel
theorem dX5_init_87 : decode cX5_init 87 = .ok (.putfield 54, 3) := by decide +kernel
theorem dX5_init_90 : decode cX5_init 90 = .ok (.iconst 0, 1) := by decide +kernel
theorem dX5_init_91 : decode cX5_init 91 = .ok (.istore_n 1, 1) := by decide +kernel
theorem dX5_init_92 : decode cX5_init 92 = .ok (.iload_n 1, 1) := by decide +kernel
theorem dX5_init_93 : decode cX5_init 93 = .ok (.iconst 2, 1) := by decide +kernel
theorem dX5_init_94 : decode cX5_init 94 = .ok (.if_icmp .ge 22, 3) := by decide +kernel
theorem dX5_init_97 : decode cX5_init 97 = .ok (.aload_n 0, 1) := by decide +kernel
theorem dX5_init_98 : decode cX5_init 98 = .ok (.getfield 19, 3) := by decide +kernel
theorem dX5_init_101 : decode cX5_init 101 = .ok (.iload_n 1, 1) := by decide +kernel
theorem dX5_init_102 : decode cX5_init 102 = .ok (.new 9, 3) := by decide +kernel
theorem dX5_init_105 : decode cX5_init 105 = .ok (.dup, 1) := by decide +kernel
theorem dX5_init_106 : decode cX5_init 106 = .ok (.invokespecial 11, 3) := by decide +kernel
theorem dX5_init_109 : decode cX5_init 109 = .ok (.aastore, 1) := by decide +kernel
theorem dX5_init_110 : decode cX5_init 110 = .ok (.iinc 1 1, 3) := by decide +kernel
theorem dX5_init_113 : decode cX5_init 113 = .ok (.goto (-21), 3) := by decide +kernel
theorem dX5_init_116 : decode cX5_init 116 = .ok (.iconst 0, 1) := by decide +kernel
theorem dX5_init_117 : decode cX5_init 117 = .ok (.istore_n 1, 1) := by decide +kernel
theorem dX5_init_118 : decode cX5_init 118 = .ok (.iload_n 1, 1) := by decide +kernel
theorem dX5_init_119 : decode cX5_init 119 = .ok (.iconst 4, 1) := by decide +kernel
theorem dX5_init_120 : decode cX5_init 120 = .ok (.if_icmp .ge 22, 3) := by decide +kernel
theorem dX5_init_123 : decode cX5_init 123 = .ok (.aload_n 0, 1) := by decide +kernel
theorem dX5_init_124 : decode cX5_init 124 = .ok (.getfield 43, 3) := by decide +kernel
theorem dX5_init_127 : decode cX5_init 127 = .ok (.iload_n 1, 1) := by decide +kernel
theorem dX5_init_128 : decode cX5_init 128 = .ok (.new 41, 3) := by decide +kernel
theorem dX5_init_131 : decode cX5_init 131 = .ok (.dup, 1) := by decide +kernel
theorem dX5_init_132 : decode cX5_init 132 = .ok (.invokespecial 58, 3) := by decide +kernel
theorem dX5_init_135 : decode cX5_init 135 = .ok (.aastore, 1) := by decide +kernel
theorem dX5_init_136 : decode cX5_init 136 = .ok (.iinc 1 1, 3) := by decide +kernel
theorem dX5_init_139 : decode cX5_init 139 = .ok (.goto (-21), 3) := by decide +kernel
theorem dX5_init_142 : decode cX5_init 142 = .ok (.return_, 1) := by decide +kernel
theorem dX5_feed_0 : decode cX5_feed 0 = .ok (.iload_n 1, 1) := by decide +kernel
theorem dX5_feed_1 : decode cX5_feed 1 = .ok (.iconst 0, 1) := by decide +kernel
theorem dX5_feed_2 : decode cX5_feed 2 = .ok (.bipush 127, 2) := by decide +kernel
theorem dX5_feed_4 : decode cX5_feed 4 = .ok (.invokestatic 59, 3) := by decide +kernel
theorem dX5_feed_7 : decode cX5_feed 7 = .ok (.ifCond .ne 5, 3) := by decide +kernel
theorem dX5_feed_10 : decode cX5_feed 10 = .ok (.iconst (-1), 1) := by decide +kernel
theorem dX5_feed_11 : decode cX5_feed 11 = .ok (.ireturn, 1) := by decide +kernel
theorem dX5_feed_12 : decode cX5_feed 12 = .ok (.aload_n 0, 1) := by decide +kernel
theorem dX5_feed_13 : decode cX5_feed 13 = .ok (.getfield 30, 3) := by decide +kernel
theorem dX5_feed_16 : decode cX5_feed 16 = .ok (.getfield 63, 3) := by decide +kernel
theorem dX5_feed_19 : decode cX5_feed 19 = .ok (.sipush 160, 3) := by decide +kernel
theorem dX5_feed_22 : decode cX5_feed 22 = .ok (.if_icmp .lt 6, 3) := by decide +kernel
theorem dX5_feed_25 : decode cX5_feed 25 = .ok (.bipush (-3), 2) := by decide +kernel
theorem dX5_feed_27 : decode cX5_feed 27 = .ok (.ireturn, 1) := by decide +kernel
theorem dX5_feed_28 : decode cX5_feed 28 = .ok (.aload_n 0, 1) := by decide +kernel
theorem dX5_feed_29 : decode cX5_feed 29 = .ok (.getfield 30, 3) := by decide +kernel
theorem dX5_feed_32 : decode cX5_feed 32 = .ok (.getfield 67, 3) := by decide +kernel
theorem dX5_feed_35 : decode cX5_feed 35 = .ok (.aload_n 0, 1) := by decide +kernel
theorem dX5_feed_36 : decode cX5_feed 36 = .ok (.getfield 30, 3) := by decide +kernel
theorem dX5_feed_39 : decode cX5_feed 39 = .ok (.getfield 63, 3) := by decide +kernel
theorem dX5_feed_42 : decode cX5_feed 42 = .ok (.iload_n 1, 1) := by decide +kernel
theorem dX5_feed_43 : decode cX5_feed 43 = .ok (.i2b, 1) := by decide +kernel
theorem dX5_feed_44 : decode cX5_feed 44 = .ok (.bastore, 1) := by decide +kernel
theorem dX5_feed_45 : decode cX5_feed 45 = .ok (.aload_n 0, 1) := by decide +kernel
theorem dX5_feed_46 : decode cX5_feed 46 = .ok (.getfield 30, 3) := by decide +kernel
theorem dX5_feed_49 : decode cX5_feed 49 = .ok (.dup, 1) := by decide +kernel
theorem dX5_feed_50 : decode cX5_feed 50 = .ok (.getfield 63, 3) := by decide +kernel
theorem dX5_feed_53 : decode cX5_feed 53 = .ok (.iconst 1, 1) := by decide +kernel
theorem dX5_feed_54 : decode cX5_feed 54 = .ok (.iadd, 1) := by decide +kernel
theorem dX5_feed_55 : decode cX5_feed 55 = .ok (.putfield 63, 3) := by decide +kernel
theorem dX5_feed_58 : decode cX5_feed 58 = .ok (.aload_n 0, 1) := by decide +kernel
theorem dX5_feed_59 : decode cX5_feed 59 = .ok (.getfield 30, 3) := by decide +kernel
theorem dX5_feed_62 : decode cX5_feed 62 = .ok (.getfield 63, 3) := by decide +kernel
theorem dX5_feed_65 : decode cX5_feed 65 = .ok (.ireturn, 1) := by decide +kernel
theorem dX5_end_0 : decode cX5_end 0 = .ok (.iload_n 1, 1) := by decide +kernel
theorem dX5_end_1 : decode cX5_end 1 = .ok (.iconst 0, 1) := by decide +kernel
theorem dX5_end_2 : decode cX5_end 2 = .ok (.aload_n 0, 1) := by decide +kernel
theorem dX5_end_3 : decode cX5_end 3 = .ok (.getfield 30, 3) := by decide +kernel
theorem dX5_end_6 : decode cX5_end 6 = .ok (.getfield 63, 3) := by decide +kernel
theorem dX5_end_9 : decode cX5_end 9 = .ok (.invokestatic 59, 3) := by decide +kernel
theorem dX5_end_12 : decode cX5_end 12 = .ok (.ifCond .ne 5, 3) := by decide +kernel
theorem dX5_end_15 : decode cX5_end 15 = .ok (.iconst (-1), 1) := by decide +kernel
theorem dX5_end_16 : decode cX5_end 16 = .ok (.ireturn, 1) := by decide +kernel
theorem dX5_end_17 : decode cX5_end 17 = .ok (.aload_n 0, 1) := by decide +kernel
theorem dX5_end_18 : decode cX5_end 18 = .ok (.getfield 30, 3) := by decide +kernel
theorem dX5_end_21 : decode cX5_end 21 = .ok (.getfield 63, 3) := by decide +kernel
theorem dX5_end_24 : decode cX5_end 24 = .ok (.istore_n 2, 1) := by decide +kernel
theorem dX5_end_25 : decode cX5_end 25 = .ok (.aload_n 0, 1) := by decide +kernel
theorem dX5_end_26 : decode cX5_end 26 = .ok (.getfield 30, 3) := by decide +kernel
theorem dX5_end_29 : decode cX5_end 29 = .ok (.iload_n 1, 1) := by decide +kernel
theorem dX5_end_30 : decode cX5_end 30 = .ok (.putfield 63, 3) := by decide +kernel
theorem dX5_end_33 : decode cX5_end 33 = .ok (.iload_n 2, 1) := by decide +kernel
theorem dX5_end_34 : decode cX5_end 34 = .ok (.ireturn, 1) := by decide +kernel
theorem dX5_text_0 : decode cX5_text 0 = .ok (.aload_n 0, 1) := by decide +kernel
theorem dX5_text_1 : decode cX5_text 1 = .ok (.getfield 16, 3) := by decide +kernel
theorem dX5_text_4 : decode cX5_text 4 = .ok (.invokevirtual 71, 3) := by decide +kernel
theorem dX5_text_7 : decode cX5_text 7 = .ok (.aload_n 0, 1) := by decide +kernel
theorem dX5_text_8 : decode cX5_text 8 = .ok (.getfield 30, 3) := by decide +kernel
theorem dX5_text_11 : decode cX5_text 11 = .ok (.aload_n 0, 1) := by decide +kernel
theorem dX5_text_12 : decode cX5_text 12 = .ok (.getfield 16, 3) := by decide +kernel
theorem dX5_text_15 : decode cX5_text 15 = .ok (.invokevirtual 74, 3) := by decide +kernel
theorem dX5_text_18 : decode cX5_text 18 = .ok (.aload_n 0, 1) := by decide +kernel
theorem dX5_text_19 : decode cX5_text 19 = .ok (.getfield 30, 3) := by decide +kernel
theorem dX5_text_22 : decode cX5_text 22 = .ok (.iconst 0, 1) := by decide +kernel
theorem dX5_text_23 : decode cX5_text 23 = .ok (.putfield 63, 3) := by decide +kernel
theorem dX5_text_26 : decode cX5_text 26 = .ok (.aload_n 0, 1) := by decide +kernel
theorem dX5_text_27 : decode cX5_text 27 = .ok (.aload_n 0, 1) := by decide +kernel
theorem dX5_text_28 : decode cX5_text 28 = .ok (.getfield 30, 3) := by decide +kernel
theorem dX5_text_31 : decode cX5_text 31 = .ok (.getfield 78, 3) := by decide +kernel
theorem dX5_text_34 : decode cX5_text 34 = .ok (.putfield 81, 3) := by decide +kernel
theorem dX5_text_37 : decode cX5_text 37 = .ok (.aload_n 0, 1) := by decide +kernel
theorem dX5_text_38 : decode cX5_text 38 = .ok (.getfield 81, 3) := by decide +kernel
theorem dX5_text_41 : decode cX5_text 41 = .ok (.ifCond .eq 14, 3) := by decide +kernel
theorem dX5_text_44 : decode cX5_text 44 = .ok (.bipush (-10), 2) := by decide +kernel
theorem dX5_text_46 : decode cX5_text 46 = .ok (.aload_n 0, 1) := by decide +kernel
theorem dX5_text_47 : decode cX5_text 47 = .ok (.getfield 30, 3) := by decide +kernel
theorem dX5_text_50 : decode cX5_text 50 = .ok (.getfield 84, 3) := by decide +kernel
theorem dX5_text_53 : decode cX5_text 53 = .ok (.isub, 1) := by decide +kernel
theorem dX5_text_54 : decode cX5_text 54 = .ok (.ireturn, 1) := by decide +kernel
theorem dX5_text_55 : decode cX5_text 55 = .ok (.aload_n 0, 1) := by decide +kernel
theorem dX5_text_56 : decode cX5_text 56 = .ok (.getfield 12, 3) := by decide +kernel
theorem dX5_text_59 : decode cX5_text 59 = .ok (.aload_n 0, 1) := by decide +kernel
theorem dX5_text_60 : decode cX5_text 60 = .ok (.getfield 16, 3) := by decide +kernel
theorem dX5_text_63 : decode cX5_text 63 = .ok (.invokevirtual 87, 3) := by decide +kernel
theorem dX5_text_66 : decode cX5_text 66 = .ok (.aload_n 0, 1) := by decide +kernel
theorem dX5_text_67 : decode cX5_text 67 = .ok (.getfield 37, 3) := by decide +kernel
theorem dX5_text_70 : decode cX5_text 70 = .ok (.iconst 0, 1) := by decide +kernel
theorem dX5_text_71 : decode cX5_text 71 = .ok (.putfield 90, 3) := by decide +kernel
theorem dX5_text_74 : decode cX5_text 74 = .ok (.iconst 0, 1) := by decide +kernel
theorem dX5_text_75 : decode cX5_text 75 = .ok (.istore_n 1, 1) := by decide +kernel
theorem dX5_text_76 : decode cX5_text 76 = .ok (.iload_n 1, 1) := by decide +kernel
theorem dX5_text_77 : decode cX5_text 77 = .ok (.iconst 2, 1) := by decide +kernel
theorem dX5_text_78 : decode cX5_text 78 = .ok (.if_icmp .ge 16, 3) := by decide +kernel
theorem dX5_text_81 : decode cX5_text 81 = .ok (.aload_n 0, 1) := by decide +kernel
theorem dX5_text_82 : decode cX5_text 82 = .ok (.getfield 23, 3) := by decide +kernel
theorem dX5_text_85 : decode cX5_text 85 = .ok (.iload_n 1, 1) := by decide +kernel
theorem dX5_text_86 : decode cX5_text 86 = .ok (.iconst 0, 1) := by decide +kernel
theorem dX5_text_87 : decode cX5_text 87 = .ok (.bastore, 1) := by decide +kernel
theorem dX5_text_88 : decode cX5_text 88 = .ok (.iinc 1 1, 3) := by decide +kernel
theorem dX5_text_91 : decode cX5_text 91 = .ok (.goto (-15), 3) := by decide +kernel
theorem dX5_text_94 : decode cX5_text 94 = .ok (.aload_n 0, 1) := by decide +kernel
theorem dX5_text_95 : decode cX5_text 95 = .ok (.getfield 30, 3) := by decide +kernel
theorem dX5_text_98 : decode cX5_text 98 = .ok (.getfield 93, 3) := by decide +kernel
theorem dX5_text_101 : decode cX5_text 101 = .ok (.ireturn, 1) := by decide +kernel
theorem dX5_fault_0 : decode cX5_fault 0 = .ok (.aload_n 0, 1) := by decide +kernel
theorem dX5_fault_1 : decode cX5_fault 1 = .ok (.getfield 81, 3) := by decide +kernel
theorem dX5_fault_4 : decode cX5_fault 4 = .ok (.ireturn, 1) := by decide +kernel
theorem dX5_rule_0 : decode cX5_rule 0 = .ok (.iload_n 1, 1) := by decide +kernel
theorem dX5_rule_1 : decode cX5_rule 1 = .ok (.tableswitch 96 0 5 #[39, 47, 55, 63, 75, 84], 39) := by decide +kernel
theorem dX5_rule_40 : decode cX5_rule 40 = .ok (.aload_n 0, 1) := by decide +kernel
theorem dX5_rule_41 : decode cX5_rule 41 = .ok (.getfield 12, 3) := by decide +kernel
theorem dX5_rule_44 : decode cX5_rule 44 = .ok (.getfield 96, 3) := by decide +kernel
theorem dX5_rule_47 : decode cX5_rule 47 = .ok (.ireturn, 1) := by decide +kernel
theorem dX5_rule_48 : decode cX5_rule 48 = .ok (.aload_n 0, 1) := by decide +kernel
theorem dX5_rule_49 : decode cX5_rule 49 = .ok (.getfield 12, 3) := by decide +kernel
theorem dX5_rule_52 : decode cX5_rule 52 = .ok (.getfield 99, 3) := by decide +kernel
theorem dX5_rule_55 : decode cX5_rule 55 = .ok (.ireturn, 1) := by decide +kernel
theorem dX5_rule_56 : decode cX5_rule 56 = .ok (.aload_n 0, 1) := by decide +kernel
theorem dX5_rule_57 : decode cX5_rule 57 = .ok (.getfield 12, 3) := by decide +kernel
theorem dX5_rule_60 : decode cX5_rule 60 = .ok (.getfield 102, 3) := by decide +kernel
theorem dX5_rule_63 : decode cX5_rule 63 = .ok (.ireturn, 1) := by decide +kernel
theorem dX5_rule_64 : decode cX5_rule 64 = .ok (.aload_n 0, 1) := by decide +kernel
theorem dX5_rule_65 : decode cX5_rule 65 = .ok (.aload_n 0, 1) := by decide +kernel
theorem dX5_rule_66 : decode cX5_rule 66 = .ok (.getfield 12, 3) := by decide +kernel
theorem dX5_rule_69 : decode cX5_rule 69 = .ok (.getfield 105, 3) := by decide +kernel
theorem dX5_rule_72 : decode cX5_rule 72 = .ok (.invokevirtual 108, 3) := by decide +kernel
theorem dX5_rule_75 : decode cX5_rule 75 = .ok (.ireturn, 1) := by decide +kernel
theorem dX5_rule_76 : decode cX5_rule 76 = .ok (.aload_n 0, 1) := by decide +kernel
theorem dX5_rule_77 : decode cX5_rule 77 = .ok (.invokevirtual 112, 3) := by decide +kernel
theorem dX5_rule_80 : decode cX5_rule 80 = .ok (.iconst 0, 1) := by decide +kernel
theorem dX5_rule_81 : decode cX5_rule 81 = .ok (.invokevirtual 116, 3) := by decide +kernel
theorem dX5_rule_84 : decode cX5_rule 84 = .ok (.ireturn, 1) := by decide +kernel
theorem dX5_rule_85 : decode cX5_rule 85 = .ok (.aload_n 0, 1) := by decide +kernel
theorem dX5_rule_86 : decode cX5_rule 86 = .ok (.aload_n 0, 1) := by decide +kernel
theorem dX5_rule_87 : decode cX5_rule 87 = .ok (.getfield 12, 3) := by decide +kernel
theorem dX5_rule_90 : decode cX5_rule 90 = .ok (.getfield 120, 3) := by decide +kernel
theorem dX5_rule_93 : decode cX5_rule 93 = .ok (.invokevirtual 108, 3) := by decide +kernel
theorem dX5_rule_96 : decode cX5_rule 96 = .ok (.ireturn, 1) := by decide +kernel
theorem dX5_rule_97 : decode cX5_rule 97 = .ok (.iconst (-1), 1) := by decide +kernel
theorem dX5_rule_98 : decode cX5_rule 98 = .ok (.ireturn, 1) := by decide +kernel
theorem dX5_clock_0 : decode cX5_clock 0 = .ok (.aload_n 0, 1) := by decide +kernel
theorem dX5_clock_1 : decode cX5_clock 1 = .ok (.iload_n 1, 1) := by decide +kernel
theorem dX5_clock_2 : decode cX5_clock 2 = .ok (.invokevirtual 123, 3) := by decide +kernel
theorem dX5_clock_5 : decode cX5_clock 5 = .ok (.ifCond .ne 5, 3) := by decide +kernel
theorem dX5_clock_8 : decode cX5_clock 8 = .ok (.iconst (-1), 1) := by decide +kernel
theorem dX5_clock_9 : decode cX5_clock 9 = .ok (.ireturn, 1) := by decide +kernel
theorem dX5_clock_10 : decode cX5_clock 10 = .ok (.iload_n 2, 1) := by decide +kernel
theorem dX5_clock_11 : decode cX5_clock 11 = .ok (.tableswitch 90 0 4 #[33, 43, 53, 63, 73], 33) := by decide +kernel
theorem dX5_clock_44 : decode cX5_clock 44 = .ok (.aload_n 0, 1) := by decide +kernel
theorem dX5_clock_45 : decode cX5_clock 45 = .ok (.getfield 12, 3) := by decide +kernel
theorem dX5_clock_48 : decode cX5_clock 48 = .ok (.getfield 127, 3) := by decide +kernel
theorem dX5_clock_51 : decode cX5_clock 51 = .ok (.iload_n 1, 1) := by decide +kernel
theorem dX5_clock_52 : decode cX5_clock 52 = .ok (.iaload, 1) := by decide +kernel
theorem dX5_clock_53 : decode cX5_clock 53 = .ok (.ireturn, 1) := by decide +kernel
theorem dX5_clock_54 : decode cX5_clock 54 = .ok (.aload_n 0, 1) := by decide +kernel
theorem dX5_clock_55 : decode cX5_clock 55 = .ok (.getfield 12, 3) := by decide +kernel
theorem dX5_clock_58 : decode cX5_clock 58 = .ok (.getfield 130, 3) := by decide +kernel
theorem dX5_clock_61 : decode cX5_clock 61 = .ok (.iload_n 1, 1) := by decide +kernel
theorem dX5_clock_62 : decode cX5_clock 62 = .ok (.iaload, 1) := by decide +kernel
theorem dX5_clock_63 : decode cX5_clock 63 = .ok (.ireturn, 1) := by decide +kernel
theorem dX5_clock_64 : decode cX5_clock 64 = .ok (.aload_n 0, 1) := by decide +kernel
theorem dX5_clock_65 : decode cX5_clock 65 = .ok (.getfield 12, 3) := by decide +kernel
theorem dX5_clock_68 : decode cX5_clock 68 = .ok (.getfield 120, 3) := by decide +kernel
theorem dX5_clock_71 : decode cX5_clock 71 = .ok (.iload_n 1, 1) := by decide +kernel
theorem dX5_clock_72 : decode cX5_clock 72 = .ok (.iaload, 1) := by decide +kernel
theorem dX5_clock_73 : decode cX5_clock 73 = .ok (.ireturn, 1) := by decide +kernel
theorem dX5_clock_74 : decode cX5_clock 74 = .ok (.aload_n 0, 1) := by decide +kernel
theorem dX5_clock_75 : decode cX5_clock 75 = .ok (.getfield 12, 3) := by decide +kernel
theorem dX5_clock_78 : decode cX5_clock 78 = .ok (.getfield 105, 3) := by decide +kernel
theorem dX5_clock_81 : decode cX5_clock 81 = .ok (.iload_n 1, 1) := by decide +kernel
theorem dX5_clock_82 : decode cX5_clock 82 = .ok (.iaload, 1) := by decide +kernel
theorem dX5_clock_83 : decode cX5_clock 83 = .ok (.ireturn, 1) := by decide +kernel
theorem dX5_clock_84 : decode cX5_clock 84 = .ok (.aload_n 0, 1) := by decide +kernel
theorem dX5_clock_85 : decode cX5_clock 85 = .ok (.getfield 12, 3) := by decide +kernel
theorem dX5_clock_88 : decode cX5_clock 88 = .ok (.iload_n 1, 1) := by decide +kernel
theorem dX5_clock_89 : decode cX5_clock 89 = .ok (.invokevirtual 133, 3) := by decide +kernel
theorem dX5_clock_92 : decode cX5_clock 92 = .ok (.ifCond .eq 7, 3) := by decide +kernel
theorem dX5_clock_95 : decode cX5_clock 95 = .ok (.iconst 1, 1) := by decide +kernel
theorem dX5_clock_96 : decode cX5_clock 96 = .ok (.goto 4, 3) := by decide +kernel
theorem dX5_clock_99 : decode cX5_clock 99 = .ok (.iconst 0, 1) := by decide +kernel
theorem dX5_clock_100 : decode cX5_clock 100 = .ok (.ireturn, 1) := by decide +kernel
theorem dX5_clock_101 : decode cX5_clock 101 = .ok (.iconst (-1), 1) := by decide +kernel
theorem dX5_clock_102 : decode cX5_clock 102 = .ok (.ireturn, 1) := by decide +kernel
theorem dX5_alter_0 : decode cX5_alter 0 = .ok (.aload_n 0, 1) := by decide +kernel
theorem dX5_alter_1 : decode cX5_alter 1 = .ok (.iload_n 1, 1) := by decide +kernel
theorem dX5_alter_2 : decode cX5_alter 2 = .ok (.invokevirtual 123, 3) := by decide +kernel
theorem dX5_alter_5 : decode cX5_alter 5 = .ok (.ifCond .ne 5, 3) := by decide +kernel
theorem dX5_alter_8 : decode cX5_alter 8 = .ok (.iconst (-1), 1) := by decide +kernel
theorem dX5_alter_9 : decode cX5_alter 9 = .ok (.ireturn, 1) := by decide +kernel
theorem dX5_alter_10 : decode cX5_alter 10 = .ok (.iload_n 2, 1) := by decide +kernel
theorem dX5_alter_11 : decode cX5_alter 11 = .ok (.tableswitch 55 0 2 #[25, 35, 45], 25) := by decide +kernel
theorem dX5_alter_36 : decode cX5_alter 36 = .ok (.aload_n 0, 1) := by decide +kernel
theorem dX5_alter_37 : decode cX5_alter 37 = .ok (.getfield 12, 3) := by decide +kernel
theorem dX5_alter_40 : decode cX5_alter 40 = .ok (.iload_n 1, 1) := by decide +kernel
theorem dX5_alter_41 : decode cX5_alter 41 = .ok (.iload_n 3, 1) := by decide +kernel
theorem dX5_alter_42 : decode cX5_alter 42 = .ok (.invokevirtual 136, 3) := by decide +kernel
theorem dX5_alter_45 : decode cX5_alter 45 = .ok (.ireturn, 1) := by decide +kernel
theorem dX5_alter_46 : decode cX5_alter 46 = .ok (.aload_n 0, 1) := by decide +kernel
theorem dX5_alter_47 : decode cX5_alter 47 = .ok (.getfield 12, 3) := by decide +kernel
theorem dX5_alter_50 : decode cX5_alter 50 = .ok (.iload_n 1, 1) := by decide +kernel
theorem dX5_alter_51 : decode cX5_alter 51 = .ok (.iload_n 3, 1) := by decide +kernel
theorem dX5_alter_52 : decode cX5_alter 52 = .ok (.invokevirtual 140, 3) := by decide +kernel
theorem dX5_alter_55 : decode cX5_alter 55 = .ok (.ireturn, 1) := by decide +kernel
theorem dX5_alter_56 : decode cX5_alter 56 = .ok (.aload_n 0, 1) := by decide +kernel
theorem dX5_alter_57 : decode cX5_alter 57 = .ok (.getfield 12, 3) := by decide +kernel
theorem dX5_alter_60 : decode cX5_alter 60 = .ok (.iload_n 1, 1) := by decide +kernel
theorem dX5_alter_61 : decode cX5_alter 61 = .ok (.iload_n 3, 1) := by decide +kernel
theorem dX5_alter_62 : decode cX5_alter 62 = .ok (.invokevirtual 143, 3) := by decide +kernel
theorem dX5_alter_65 : decode cX5_alter 65 = .ok (.ireturn, 1) := by decide +kernel
theorem dX5_alter_66 : decode cX5_alter 66 = .ok (.iconst (-1), 1) := by decide +kernel
theorem dX5_alter_67 : decode cX5_alter 67 = .ok (.ireturn, 1) := by decide +kernel
theorem dX5_push_0 : decode cX5_push 0 = .ok (.iload_n 1, 1) := by decide +kernel
theorem dX5_push_1 : decode cX5_push 1 = .ok (.iconst 0, 1) := by decide +kernel
theorem dX5_push_2 : decode cX5_push 2 = .ok (.iconst 5, 1) := by decide +kernel
theorem dX5_push_3 : decode cX5_push 3 = .ok (.invokestatic 59, 3) := by decide +kernel
theorem dX5_push_6 : decode cX5_push 6 = .ok (.ifCond .ne 5, 3) := by decide +kernel
theorem dX5_push_9 : decode cX5_push 9 = .ok (.iconst (-1), 1) := by decide +kernel
theorem dX5_push_10 : decode cX5_push 10 = .ok (.ireturn, 1) := by decide +kernel
theorem dX5_push_11 : decode cX5_push 11 = .ok (.aload_n 0, 1) := by decide +kernel
theorem dX5_push_12 : decode cX5_push 12 = .ok (.getfield 12, 3) := by decide +kernel
theorem dX5_push_15 : decode cX5_push 15 = .ok (.getfield 99, 3) := by decide +kernel
theorem dX5_push_18 : decode cX5_push 18 = .ok (.istore_n 2, 1) := by decide +kernel
theorem dX5_push_19 : decode cX5_push 19 = .ok (.aload_n 0, 1) := by decide +kernel
theorem dX5_push_20 : decode cX5_push 20 = .ok (.getfield 12, 3) := by decide +kernel
theorem dX5_push_23 : decode cX5_push 23 = .ok (.iload_n 1, 1) := by decide +kernel
theorem dX5_push_24 : decode cX5_push 24 = .ok (.putfield 99, 3) := by decide +kernel
theorem dX5_push_27 : decode cX5_push 27 = .ok (.iload_n 2, 1) := by decide +kernel
theorem dX5_push_28 : decode cX5_push 28 = .ok (.ireturn, 1) := by decide +kernel
theorem dX5_hang_0 : decode cX5_hang 0 = .ok (.iload_n 1, 1) := by decide +kernel
theorem dX5_hang_1 : decode cX5_hang 1 = .ok (.iconst 0, 1) := by decide +kernel
theorem dX5_hang_2 : decode cX5_hang 2 = .ok (.iconst 3, 1) := by decide +kernel
theorem dX5_hang_3 : decode cX5_hang 3 = .ok (.invokestatic 59, 3) := by decide +kernel
theorem dX5_hang_6 : decode cX5_hang 6 = .ok (.ifCond .eq 13, 3) := by decide +kernel
theorem dX5_hang_9 : decode cX5_hang 9 = .ok (.iload_n 2, 1) := by decide +kernel
theorem dX5_hang_10 : decode cX5_hang 10 = .ok (.iconst 2, 1) := by decide +kernel
theorem dX5_hang_11 : decode cX5_hang 11 = .ok (.bipush 30, 2) := by decide +kernel
theorem dX5_hang_13 : decode cX5_hang 13 = .ok (.invokestatic 59, 3) := by decide +kernel
theorem dX5_hang_16 : decode cX5_hang 16 = .ok (.ifCond .ne 5, 3) := by decide +kernel
theorem dX5_hang_19 : decode cX5_hang 19 = .ok (.iconst (-1), 1) := by decide +kernel
theorem dX5_hang_20 : decode cX5_hang 20 = .ok (.ireturn, 1) := by decide +kernel
theorem dX5_hang_21 : decode cX5_hang 21 = .ok (.aload_n 0, 1) := by decide +kernel
theorem dX5_hang_22 : decode cX5_hang 22 = .ok (.getfield 12, 3) := by decide +kernel
theorem dX5_hang_25 : decode cX5_hang 25 = .ok (.getfield 96, 3) := by decide +kernel
theorem dX5_hang_28 : decode cX5_hang 28 = .ok (.iconst 5, 1) := by decide +kernel
theorem dX5_hang_29 : decode cX5_hang 29 = .ok (.if_icmp .lt 6, 3) := by decide +kernel
theorem dX5_hang_32 : decode cX5_hang 32 = .ok (.bipush (-3), 2) := by decide +kernel
theorem dX5_hang_34 : decode cX5_hang 34 = .ok (.ireturn, 1) := by decide +kernel
theorem dX5_hang_35 : decode cX5_hang 35 = .ok (.aload_n 0, 1) := by decide +kernel
theorem dX5_hang_36 : decode cX5_hang 36 = .ok (.getfield 12, 3) := by decide +kernel
theorem dX5_hang_39 : decode cX5_hang 39 = .ok (.iload_n 1, 1) := by decide +kernel
theorem dX5_hang_40 : decode cX5_hang 40 = .ok (.iload_n 2, 1) := by decide +kernel
theorem dX5_hang_41 : decode cX5_hang 41 = .ok (.iconst 0, 1) := by decide +kernel
theorem dX5_hang_42 : decode cX5_hang 42 = .ok (.invokevirtual 146, 3) := by decide +kernel
theorem dX5_hang_45 : decode cX5_hang 45 = .ok (.aload_n 0, 1) := by decide +kernel
theorem dX5_hang_46 : decode cX5_hang 46 = .ok (.getfield 12, 3) := by decide +kernel
theorem dX5_hang_49 : decode cX5_hang 49 = .ok (.getfield 96, 3) := by decide +kernel
theorem dX5_hang_52 : decode cX5_hang 52 = .ok (.ireturn, 1) := by decide +kernel
theorem dX5_cut_0 : decode cX5_cut 0 = .ok (.iload_n 1, 1) := by decide +kernel
theorem dX5_cut_1 : decode cX5_cut 1 = .ok (.iconst 0, 1) := by decide +kernel
theorem dX5_cut_2 : decode cX5_cut 2 = .ok (.aload_n 0, 1) := by decide +kernel
theorem dX5_cut_3 : decode cX5_cut 3 = .ok (.getfield 12, 3) := by decide +kernel
theorem dX5_cut_6 : decode cX5_cut 6 = .ok (.getfield 96, 3) := by decide +kernel
theorem dX5_cut_9 : decode cX5_cut 9 = .ok (.invokestatic 59, 3) := by decide +kernel
theorem dX5_cut_12 : decode cX5_cut 12 = .ok (.ifCond .ne 5, 3) := by decide +kernel
theorem dX5_cut_15 : decode cX5_cut 15 = .ok (.iconst (-1), 1) := by decide +kernel
theorem dX5_cut_16 : decode cX5_cut 16 = .ok (.ireturn, 1) := by decide +kernel
theorem dX5_cut_17 : decode cX5_cut 17 = .ok (.aload_n 0, 1) := by decide +kernel
theorem dX5_cut_18 : decode cX5_cut 18 = .ok (.getfield 12, 3) := by decide +kernel
theorem dX5_cut_21 : decode cX5_cut 21 = .ok (.getfield 96, 3) := by decide +kernel
theorem dX5_cut_24 : decode cX5_cut 24 = .ok (.istore_n 2, 1) := by decide +kernel
theorem dX5_cut_25 : decode cX5_cut 25 = .ok (.aload_n 0, 1) := by decide +kernel
theorem dX5_cut_26 : decode cX5_cut 26 = .ok (.getfield 12, 3) := by decide +kernel
theorem dX5_cut_29 : decode cX5_cut 29 = .ok (.iload_n 1, 1) := by decide +kernel
theorem dX5_cut_30 : decode cX5_cut 30 = .ok (.putfield 96, 3) := by decide +kernel
theorem dX5_cut_33 : decode cX5_cut 33 = .ok (.iload_n 2, 1) := by decide +kernel
theorem dX5_cut_34 : decode cX5_cut 34 = .ok (.ireturn, 1) := by decide +kernel
theorem dX5_knock_0 : decode cX5_knock 0 = .ok (.aload_n 0, 1) := by decide +kernel
theorem dX5_knock_1 : decode cX5_knock 1 = .ok (.iload_n 1, 1) := by decide +kernel
theorem dX5_knock_2 : decode cX5_knock 2 = .ok (.invokevirtual 123, 3) := by decide +kernel
theorem dX5_knock_5 : decode cX5_knock 5 = .ok (.ifCond .eq 12, 3) := by decide +kernel
theorem dX5_knock_8 : decode cX5_knock 8 = .ok (.iload_n 2, 1) := by decide +kernel
theorem dX5_knock_9 : decode cX5_knock 9 = .ok (.iconst 1, 1) := by decide +kernel
theorem dX5_knock_10 : decode cX5_knock 10 = .ok (.iconst 5, 1) := by decide +kernel
theorem dX5_knock_11 : decode cX5_knock 11 = .ok (.invokestatic 59, 3) := by decide +kernel
theorem dX5_knock_14 : decode cX5_knock 14 = .ok (.ifCond .ne 5, 3) := by decide +kernel
theorem dX5_knock_17 : decode cX5_knock 17 = .ok (.iconst (-1), 1) := by decide +kernel
theorem dX5_knock_18 : decode cX5_knock 18 = .ok (.ireturn, 1) := by decide +kernel
theorem dX5_knock_19 : decode cX5_knock 19 = .ok (.aload_n 0, 1) := by decide +kernel
theorem dX5_knock_20 : decode cX5_knock 20 = .ok (.getfield 12, 3) := by decide +kernel
theorem dX5_knock_23 : decode cX5_knock 23 = .ok (.iload_n 1, 1) := by decide +kernel
theorem dX5_knock_24 : decode cX5_knock 24 = .ok (.iload_n 2, 1) := by decide +kernel
theorem dX5_knock_25 : decode cX5_knock 25 = .ok (.invokevirtual 150, 3) := by decide +kernel
theorem dX5_knock_28 : decode cX5_knock 28 = .ok (.aload_n 0, 1) := by decide +kernel
theorem dX5_knock_29 : decode cX5_knock 29 = .ok (.getfield 12, 3) := by decide +kernel
theorem dX5_knock_32 : decode cX5_knock 32 = .ok (.getfield 120, 3) := by decide +kernel
theorem dX5_knock_35 : decode cX5_knock 35 = .ok (.iload_n 1, 1) := by decide +kernel
theorem dX5_knock_36 : decode cX5_knock 36 = .ok (.iaload, 1) := by decide +kernel
theorem dX5_knock_37 : decode cX5_knock 37 = .ok (.ireturn, 1) := by decide +kernel
theorem dX5_ticks_0 : decode cX5_ticks 0 = .ok (.iload_n 1, 1) := by decide +kernel
theorem dX5_ticks_1 : decode cX5_ticks 1 = .ok (.iconst 0, 1) := by decide +kernel
theorem dX5_ticks_2 : decode cX5_ticks 2 = .ok (.bipush 100, 2) := by decide +kernel
theorem dX5_ticks_4 : decode cX5_ticks 4 = .ok (.invokestatic 59, 3) := by decide +kernel
theorem dX5_ticks_7 : decode cX5_ticks 7 = .ok (.ifCond .ne 5, 3) := by decide +kernel
theorem dX5_ticks_10 : decode cX5_ticks 10 = .ok (.iconst (-1), 1) := by decide +kernel
theorem dX5_ticks_11 : decode cX5_ticks 11 = .ok (.ireturn, 1) := by decide +kernel
theorem dX5_ticks_12 : decode cX5_ticks 12 = .ok (.aload_n 0, 1) := by decide +kernel
theorem dX5_ticks_13 : decode cX5_ticks 13 = .ok (.getfield 12, 3) := by decide +kernel
theorem dX5_ticks_16 : decode cX5_ticks 16 = .ok (.getfield 102, 3) := by decide +kernel
theorem dX5_ticks_19 : decode cX5_ticks 19 = .ok (.iload_n 1, 1) := by decide +kernel
theorem dX5_ticks_20 : decode cX5_ticks 20 = .ok (.iadd, 1) := by decide +kernel
theorem dX5_ticks_21 : decode cX5_ticks 21 = .ok (.sipush 10000, 3) := by decide +kernel
theorem dX5_ticks_24 : decode cX5_ticks 24 = .ok (.if_icmp .lt 6, 3) := by decide +kernel
theorem dX5_ticks_27 : decode cX5_ticks 27 = .ok (.bipush (-3), 2) := by decide +kernel
theorem dX5_ticks_29 : decode cX5_ticks 29 = .ok (.ireturn, 1) := by decide +kernel
theorem dX5_ticks_30 : decode cX5_ticks 30 = .ok (.aload_n 0, 1) := by decide +kernel
theorem dX5_ticks_31 : decode cX5_ticks 31 = .ok (.getfield 12, 3) := by decide +kernel
theorem dX5_ticks_34 : decode cX5_ticks 34 = .ok (.iload_n 1, 1) := by decide +kernel
theorem dX5_ticks_35 : decode cX5_ticks 35 = .ok (.invokevirtual 154, 3) := by decide +kernel
theorem dX5_ticks_38 : decode cX5_ticks 38 = .ok (.ireturn, 1) := by decide +kernel
theorem dX5_runs_0 : decode cX5_runs 0 = .ok (.iload_n 1, 1) := by decide +kernel
theorem dX5_runs_1 : decode cX5_runs 1 = .ok (.iconst 0, 1) := by decide +kernel
theorem dX5_runs_2 : decode cX5_runs 2 = .ok (.sipush 300, 3) := by decide +kernel
theorem dX5_runs_5 : decode cX5_runs 5 = .ok (.invokestatic 59, 3) := by decide +kernel
theorem dX5_runs_8 : decode cX5_runs 8 = .ok (.ifCond .eq 12, 3) := by decide +kernel
theorem dX5_runs_11 : decode cX5_runs 11 = .ok (.iload_n 2, 1) := by decide +kernel
theorem dX5_runs_12 : decode cX5_runs 12 = .ok (.iconst 0, 1) := by decide +kernel
theorem dX5_runs_13 : decode cX5_runs 13 = .ok (.iconst 4, 1) := by decide +kernel
theorem dX5_runs_14 : decode cX5_runs 14 = .ok (.invokestatic 59, 3) := by decide +kernel
theorem dX5_runs_17 : decode cX5_runs 17 = .ok (.ifCond .ne 5, 3) := by decide +kernel
theorem dX5_runs_20 : decode cX5_runs 20 = .ok (.iconst (-1), 1) := by decide +kernel
theorem dX5_runs_21 : decode cX5_runs 21 = .ok (.ireturn, 1) := by decide +kernel
theorem dX5_runs_22 : decode cX5_runs 22 = .ok (.aload_n 0, 1) := by decide +kernel
theorem dX5_runs_23 : decode cX5_runs 23 = .ok (.invokevirtual 112, 3) := by decide +kernel
theorem dX5_runs_26 : decode cX5_runs 26 = .ok (.pop, 1) := by decide +kernel
theorem dX5_runs_27 : decode cX5_runs 27 = .ok (.aload_n 0, 1) := by decide +kernel
theorem dX5_runs_28 : decode cX5_runs 28 = .ok (.getfield 16, 3) := by decide +kernel
theorem dX5_runs_31 : decode cX5_runs 31 = .ok (.invokevirtual 158, 3) := by decide +kernel
theorem dX5_runs_34 : decode cX5_runs 34 = .ok (.istore_n 3, 1) := by decide +kernel
theorem dX5_runs_35 : decode cX5_runs 35 = .ok (.iconst 0, 1) := by decide +kernel
theorem dX5_runs_36 : decode cX5_runs 36 = .ok (.istore 4, 2) := by decide +kernel
theorem dX5_runs_38 : decode cX5_runs 38 = .ok (.iconst 0, 1) := by decide +kernel
theorem dX5_runs_39 : decode cX5_runs 39 = .ok (.istore 5, 2) := by decide +kernel
theorem dX5_runs_41 : decode cX5_runs 41 = .ok (.iconst 0, 1) := by decide +kernel
theorem dX5_runs_42 : decode cX5_runs 42 = .ok (.istore 6, 2) := by decide +kernel
theorem dX5_runs_44 : decode cX5_runs 44 = .ok (.iconst 0, 1) := by decide +kernel
theorem dX5_runs_45 : decode cX5_runs 45 = .ok (.istore 7, 2) := by decide +kernel
theorem dX5_runs_47 : decode cX5_runs 47 = .ok (.iconst 0, 1) := by decide +kernel
theorem dX5_runs_48 : decode cX5_runs 48 = .ok (.istore 8, 2) := by decide +kernel
theorem dX5_runs_50 : decode cX5_runs 50 = .ok (.iload 8, 2) := by decide +kernel
theorem dX5_runs_52 : decode cX5_runs 52 = .ok (.iload_n 1, 1) := by decide +kernel
theorem dX5_runs_53 : decode cX5_runs 53 = .ok (.if_icmp .ge 66, 3) := by decide +kernel
theorem dX5_runs_56 : decode cX5_runs 56 = .ok (.aload_n 0, 1) := by decide +kernel
theorem dX5_runs_57 : decode cX5_runs 57 = .ok (.getfield 16, 3) := by decide +kernel
theorem dX5_runs_60 : decode cX5_runs 60 = .ok (.iconst 0, 1) := by decide +kernel
theorem dX5_runs_61 : decode cX5_runs 61 = .ok (.invokevirtual 116, 3) := by decide +kernel
theorem dX5_runs_64 : decode cX5_runs 64 = .ok (.istore 9, 2) := by decide +kernel
theorem dX5_runs_66 : decode cX5_runs 66 = .ok (.iload 9, 2) := by decide +kernel
theorem dX5_runs_68 : decode cX5_runs 68 = .ok (.invokestatic 162, 3) := by decide +kernel
theorem dX5_runs_71 : decode cX5_runs 71 = .ok (.istore 10, 2) := by decide +kernel
theorem dX5_runs_73 : decode cX5_runs 73 = .ok (.iload 4, 2) := by decide +kernel
theorem dX5_runs_75 : decode cX5_runs 75 = .ok (.iload 10, 2) := by decide +kernel
theorem dX5_runs_77 : decode cX5_runs 77 = .ok (.iadd, 1) := by decide +kernel
theorem dX5_runs_78 : decode cX5_runs 78 = .ok (.istore 4, 2) := by decide +kernel
theorem dX5_runs_80 : decode cX5_runs 80 = .ok (.iload 6, 2) := by decide +kernel
theorem dX5_runs_82 : decode cX5_runs 82 = .ok (.iload 10, 2) := by decide +kernel
theorem dX5_runs_84 : decode cX5_runs 84 = .ok (.invokestatic 167, 3) := by decide +kernel
theorem dX5_runs_87 : decode cX5_runs 87 = .ok (.istore 6, 2) := by decide +kernel
theorem dX5_runs_89 : decode cX5_runs 89 = .ok (.iload 9, 2) := by decide +kernel
theorem dX5_runs_91 : decode cX5_runs 91 = .ok (.ifCond .eq 22, 3) := by decide +kernel
theorem dX5_runs_94 : decode cX5_runs 94 = .ok (.iinc 5 1, 3) := by decide +kernel
theorem dX5_runs_97 : decode cX5_runs 97 = .ok (.iload 7, 2) := by decide +kernel
theorem dX5_runs_99 : decode cX5_runs 99 = .ok (.iload 9, 2) := by decide +kernel
theorem dX5_runs_101 : decode cX5_runs 101 = .ok (.iload_n 3, 1) := by decide +kernel
theorem dX5_runs_102 : decode cX5_runs 102 = .ok (.if_icmp .ne 7, 3) := by decide +kernel
theorem dX5_runs_105 : decode cX5_runs 105 = .ok (.iconst 1, 1) := by decide +kernel
theorem dX5_runs_106 : decode cX5_runs 106 = .ok (.goto 4, 3) := by decide +kernel
theorem dX5_runs_109 : decode cX5_runs 109 = .ok (.iconst 0, 1) := by decide +kernel
theorem dX5_runs_110 : decode cX5_runs 110 = .ok (.iadd, 1) := by decide +kernel
theorem dX5_runs_111 : decode cX5_runs 111 = .ok (.istore 7, 2) := by decide +kernel
theorem dX5_runs_113 : decode cX5_runs 113 = .ok (.iinc 8 1, 3) := by decide +kernel
theorem dX5_runs_116 : decode cX5_runs 116 = .ok (.goto (-66), 3) := by decide +kernel
theorem dX5_runs_119 : decode cX5_runs 119 = .ok (.iload_n 2, 1) := by decide +kernel
theorem dX5_runs_120 : decode cX5_runs 120 = .ok (.tableswitch 44 0 3 #[32, 35, 38, 41], 32) := by decide +kernel
theorem dX5_runs_152 : decode cX5_runs 152 = .ok (.iload 4, 2) := by decide +kernel
theorem dX5_runs_154 : decode cX5_runs 154 = .ok (.ireturn, 1) := by decide +kernel
theorem dX5_runs_155 : decode cX5_runs 155 = .ok (.iload 5, 2) := by decide +kernel
theorem dX5_runs_157 : decode cX5_runs 157 = .ok (.ireturn, 1) := by decide +kernel
theorem dX5_runs_158 : decode cX5_runs 158 = .ok (.iload 6, 2) := by decide +kernel
theorem dX5_runs_160 : decode cX5_runs 160 = .ok (.ireturn, 1) := by decide +kernel
theorem dX5_runs_161 : decode cX5_runs 161 = .ok (.iload 7, 2) := by decide +kernel
theorem dX5_runs_163 : decode cX5_runs 163 = .ok (.ireturn, 1) := by decide +kernel
theorem dX5_runs_164 : decode cX5_runs 164 = .ok (.aload_n 0, 1) := by decide +kernel
theorem dX5_runs_165 : decode cX5_runs 165 = .ok (.getfield 16, 3) := by decide +kernel
theorem dX5_runs_168 : decode cX5_runs 168 = .ok (.invokevirtual 172, 3) := by decide +kernel
theorem dX5_runs_171 : decode cX5_runs 171 = .ok (.ireturn, 1) := by decide +kernel
theorem dX5_ahead_0 : decode cX5_ahead 0 = .ok (.aload_n 0, 1) := by decide +kernel
theorem dX5_ahead_1 : decode cX5_ahead 1 = .ok (.iload_n 1, 1) := by decide +kernel
theorem dX5_ahead_2 : decode cX5_ahead 2 = .ok (.invokevirtual 123, 3) := by decide +kernel
theorem dX5_ahead_5 : decode cX5_ahead 5 = .ok (.ifCond .eq 23, 3) := by decide +kernel
theorem dX5_ahead_8 : decode cX5_ahead 8 = .ok (.iload_n 2, 1) := by decide +kernel
theorem dX5_ahead_9 : decode cX5_ahead 9 = .ok (.iconst 0, 1) := by decide +kernel
theorem dX5_ahead_10 : decode cX5_ahead 10 = .ok (.sipush 300, 3) := by decide +kernel
theorem dX5_ahead_13 : decode cX5_ahead 13 = .ok (.invokestatic 59, 3) := by decide +kernel
theorem dX5_ahead_16 : decode cX5_ahead 16 = .ok (.ifCond .eq 12, 3) := by decide +kernel
theorem dX5_ahead_19 : decode cX5_ahead 19 = .ok (.iload_n 3, 1) := by decide +kernel
theorem dX5_ahead_20 : decode cX5_ahead 20 = .ok (.iconst 0, 1) := by decide +kernel
theorem dX5_ahead_21 : decode cX5_ahead 21 = .ok (.iconst 1, 1) := by decide +kernel
theorem dX5_ahead_22 : decode cX5_ahead 22 = .ok (.invokestatic 59, 3) := by decide +kernel
theorem dX5_ahead_25 : decode cX5_ahead 25 = .ok (.ifCond .ne 5, 3) := by decide +kernel
theorem dX5_ahead_28 : decode cX5_ahead 28 = .ok (.iconst (-1), 1) := by decide +kernel
theorem dX5_ahead_29 : decode cX5_ahead 29 = .ok (.ireturn, 1) := by decide +kernel
theorem dX5_ahead_30 : decode cX5_ahead 30 = .ok (.aload_n 0, 1) := by decide +kernel
theorem dX5_ahead_31 : decode cX5_ahead 31 = .ok (.invokevirtual 112, 3) := by decide +kernel
theorem dX5_ahead_34 : decode cX5_ahead 34 = .ok (.iload_n 2, 1) := by decide +kernel
theorem dX5_ahead_35 : decode cX5_ahead 35 = .ok (.invokevirtual 154, 3) := by decide +kernel
theorem dX5_ahead_38 : decode cX5_ahead 38 = .ok (.pop, 1) := by decide +kernel
theorem dX5_ahead_39 : decode cX5_ahead 39 = .ok (.iload_n 3, 1) := by decide +kernel
theorem dX5_ahead_40 : decode cX5_ahead 40 = .ok (.ifCond .ne 15, 3) := by decide +kernel
theorem dX5_ahead_43 : decode cX5_ahead 43 = .ok (.aload_n 0, 1) := by decide +kernel
theorem dX5_ahead_44 : decode cX5_ahead 44 = .ok (.getfield 16, 3) := by decide +kernel
theorem dX5_ahead_47 : decode cX5_ahead 47 = .ok (.getfield 120, 3) := by decide +kernel
theorem dX5_ahead_50 : decode cX5_ahead 50 = .ok (.iload_n 1, 1) := by decide +kernel
theorem dX5_ahead_51 : decode cX5_ahead 51 = .ok (.iaload, 1) := by decide +kernel
theorem dX5_ahead_52 : decode cX5_ahead 52 = .ok (.goto 22, 3) := by decide +kernel
theorem dX5_ahead_55 : decode cX5_ahead 55 = .ok (.aload_n 0, 1) := by decide +kernel
theorem dX5_ahead_56 : decode cX5_ahead 56 = .ok (.getfield 16, 3) := by decide +kernel
theorem dX5_ahead_59 : decode cX5_ahead 59 = .ok (.getfield 105, 3) := by decide +kernel
theorem dX5_ahead_62 : decode cX5_ahead 62 = .ok (.iload_n 1, 1) := by decide +kernel
theorem dX5_ahead_63 : decode cX5_ahead 63 = .ok (.iaload, 1) := by decide +kernel
theorem dX5_ahead_64 : decode cX5_ahead 64 = .ok (.aload_n 0, 1) := by decide +kernel
theorem dX5_ahead_65 : decode cX5_ahead 65 = .ok (.getfield 12, 3) := by decide +kernel
theorem dX5_ahead_68 : decode cX5_ahead 68 = .ok (.getfield 105, 3) := by decide +kernel
theorem dX5_ahead_71 : decode cX5_ahead 71 = .ok (.iload_n 1, 1) := by decide +kernel
theorem dX5_ahead_72 : decode cX5_ahead 72 = .ok (.iaload, 1) := by decide +kernel
theorem dX5_ahead_73 : decode cX5_ahead 73 = .ok (.isub, 1) := by decide +kernel
theorem dX5_ahead_74 : decode cX5_ahead 74 = .ok (.ireturn, 1) := by decide +kernel
theorem dX5_beats_0 : decode cX5_beats 0 = .ok (.iload_n 1, 1) := by decide +kernel
theorem dX5_beats_1 : decode cX5_beats 1 = .ok (.iconst 0, 1) := by decide +kernel
theorem dX5_beats_2 : decode cX5_beats 2 = .ok (.sipush 300, 3) := by decide +kernel
theorem dX5_beats_5 : decode cX5_beats 5 = .ok (.invokestatic 59, 3) := by decide +kernel
theorem dX5_beats_8 : decode cX5_beats 8 = .ok (.ifCond .ne 5, 3) := by decide +kernel
theorem dX5_beats_11 : decode cX5_beats 11 = .ok (.iconst (-1), 1) := by decide +kernel
theorem dX5_beats_12 : decode cX5_beats 12 = .ok (.ireturn, 1) := by decide +kernel
theorem dX5_beats_13 : decode cX5_beats 13 = .ok (.aload_n 0, 1) := by decide +kernel
theorem dX5_beats_14 : decode cX5_beats 14 = .ok (.invokevirtual 112, 3) := by decide +kernel
theorem dX5_beats_17 : decode cX5_beats 17 = .ok (.iload_n 1, 1) := by decide +kernel
theorem dX5_beats_18 : decode cX5_beats 18 = .ok (.invokevirtual 154, 3) := by decide +kernel
theorem dX5_beats_21 : decode cX5_beats 21 = .ok (.pop, 1) := by decide +kernel
theorem dX5_beats_22 : decode cX5_beats 22 = .ok (.aload_n 0, 1) := by decide +kernel
theorem dX5_beats_23 : decode cX5_beats 23 = .ok (.getfield 16, 3) := by decide +kernel
theorem dX5_beats_26 : decode cX5_beats 26 = .ok (.iconst 0, 1) := by decide +kernel
theorem dX5_beats_27 : decode cX5_beats 27 = .ok (.invokevirtual 116, 3) := by decide +kernel
theorem dX5_beats_30 : decode cX5_beats 30 = .ok (.ireturn, 1) := by decide +kernel
theorem dX5_together_0 : decode cX5_together 0 = .ok (.aload_n 0, 1) := by decide +kernel
theorem dX5_together_1 : decode cX5_together 1 = .ok (.invokevirtual 112, 3) := by decide +kernel
theorem dX5_together_4 : decode cX5_together 4 = .ok (.sipush 300, 3) := by decide +kernel
theorem dX5_together_7 : decode cX5_together 7 = .ok (.invokevirtual 175, 3) := by decide +kernel
theorem dX5_together_10 : decode cX5_together 10 = .ok (.ireturn, 1) := by decide +kernel
theorem dX5_again_0 : decode cX5_again 0 = .ok (.aload_n 0, 1) := by decide +kernel
theorem dX5_again_1 : decode cX5_again 1 = .ok (.invokevirtual 112, 3) := by decide +kernel
theorem dX5_again_4 : decode cX5_again 4 = .ok (.pop, 1) := by decide +kernel
theorem dX5_again_5 : decode cX5_again 5 = .ok (.iconst 1, 1) := by decide +kernel
theorem dX5_again_6 : decode cX5_again 6 = .ok (.istore_n 1, 1) := by decide +kernel
theorem dX5_again_7 : decode cX5_again 7 = .ok (.iload_n 1, 1) := by decide +kernel
theorem dX5_again_8 : decode cX5_again 8 = .ok (.sipush 300, 3) := by decide +kernel
theorem dX5_again_11 : decode cX5_again 11 = .ok (.if_icmp .gt 34, 3) := by decide +kernel
theorem dX5_again_14 : decode cX5_again 14 = .ok (.aload_n 0, 1) := by decide +kernel
theorem dX5_again_15 : decode cX5_again 15 = .ok (.getfield 16, 3) := by decide +kernel
theorem dX5_again_18 : decode cX5_again 18 = .ok (.iconst 0, 1) := by decide +kernel
theorem dX5_again_19 : decode cX5_again 19 = .ok (.invokevirtual 116, 3) := by decide +kernel
theorem dX5_again_22 : decode cX5_again 22 = .ok (.pop, 1) := by decide +kernel
theorem dX5_again_23 : decode cX5_again 23 = .ok (.aload_n 0, 1) := by decide +kernel
theorem dX5_again_24 : decode cX5_again 24 = .ok (.getfield 16, 3) := by decide +kernel
theorem dX5_again_27 : decode cX5_again 27 = .ok (.aload_n 0, 1) := by decide +kernel
theorem dX5_again_28 : decode cX5_again 28 = .ok (.getfield 12, 3) := by decide +kernel
theorem dX5_again_31 : decode cX5_again 31 = .ok (.invokevirtual 178, 3) := by decide +kernel
theorem dX5_again_34 : decode cX5_again 34 = .ok (.ifCond .eq 5, 3) := by decide +kernel
theorem dX5_again_37 : decode cX5_again 37 = .ok (.iload_n 1, 1) := by decide +kernel
theorem dX5_again_38 : decode cX5_again 38 = .ok (.ireturn, 1) := by decide +kernel
theorem dX5_again_39 : decode cX5_again 39 = .ok (.iinc 1 1, 3) := by decide +kernel
theorem dX5_again_42 : decode cX5_again 42 = .ok (.goto (-35), 3) := by decide +kernel
theorem dX5_again_45 : decode cX5_again 45 = .ok (.bipush (-4), 2) := by decide +kernel
theorem dX5_again_47 : decode cX5_again 47 = .ok (.ireturn, 1) := by decide +kernel
theorem dX5_period_0 : decode cX5_period 0 = .ok (.aload_n 0, 1) := by decide +kernel
theorem dX5_period_1 : decode cX5_period 1 = .ok (.iload_n 1, 1) := by decide +kernel
theorem dX5_period_2 : decode cX5_period 2 = .ok (.invokevirtual 123, 3) := by decide +kernel
theorem dX5_period_5 : decode cX5_period 5 = .ok (.ifCond .eq 12, 3) := by decide +kernel
theorem dX5_period_8 : decode cX5_period 8 = .ok (.iload_n 2, 1) := by decide +kernel
theorem dX5_period_9 : decode cX5_period 9 = .ok (.iconst 0, 1) := by decide +kernel
theorem dX5_period_10 : decode cX5_period 10 = .ok (.iconst 1, 1) := by decide +kernel
theorem dX5_period_11 : decode cX5_period 11 = .ok (.invokestatic 59, 3) := by decide +kernel
theorem dX5_period_14 : decode cX5_period 14 = .ok (.ifCond .ne 5, 3) := by decide +kernel
theorem dX5_period_17 : decode cX5_period 17 = .ok (.iconst (-1), 1) := by decide +kernel
theorem dX5_period_18 : decode cX5_period 18 = .ok (.ireturn, 1) := by decide +kernel
theorem dX5_period_19 : decode cX5_period 19 = .ok (.aload_n 0, 1) := by decide +kernel
theorem dX5_period_20 : decode cX5_period 20 = .ok (.getfield 50, 3) := by decide +kernel
theorem dX5_period_23 : decode cX5_period 23 = .ok (.sipush 300, 3) := by decide +kernel
theorem dX5_period_26 : decode cX5_period 26 = .ok (.invokevirtual 182, 3) := by decide +kernel
theorem dX5_period_29 : decode cX5_period 29 = .ok (.iconst 2, 1) := by decide +kernel
theorem dX5_period_30 : decode cX5_period 30 = .ok (.istore_n 3, 1) := by decide +kernel
theorem dX5_period_31 : decode cX5_period 31 = .ok (.iload_n 3, 1) := by decide +kernel
theorem dX5_period_32 : decode cX5_period 32 = .ok (.bipush 30, 2) := by decide +kernel
theorem dX5_period_34 : decode cX5_period 34 = .ok (.if_icmp .gt 23, 3) := by decide +kernel
theorem dX5_period_37 : decode cX5_period 37 = .ok (.aload_n 0, 1) := by decide +kernel
theorem dX5_period_38 : decode cX5_period 38 = .ok (.getfield 50, 3) := by decide +kernel
theorem dX5_period_41 : decode cX5_period 41 = .ok (.iload_n 3, 1) := by decide +kernel
theorem dX5_period_42 : decode cX5_period 42 = .ok (.aload_n 0, 1) := by decide +kernel
theorem dX5_period_43 : decode cX5_period 43 = .ok (.iload_n 1, 1) := by decide +kernel
theorem dX5_period_44 : decode cX5_period 44 = .ok (.iload_n 3, 1) := by decide +kernel
theorem dX5_period_45 : decode cX5_period 45 = .ok (.invokevirtual 186, 3) := by decide +kernel
theorem dX5_period_48 : decode cX5_period 48 = .ok (.invokevirtual 190, 3) := by decide +kernel
theorem dX5_period_51 : decode cX5_period 51 = .ok (.iinc 3 1, 3) := by decide +kernel
theorem dX5_period_54 : decode cX5_period 54 = .ok (.goto (-23), 3) := by decide +kernel
theorem dX5_period_57 : decode cX5_period 57 = .ok (.aload_n 0, 1) := by decide +kernel
theorem dX5_period_58 : decode cX5_period 58 = .ok (.getfield 50, 3) := by decide +kernel
theorem dX5_period_61 : decode cX5_period 61 = .ok (.iload_n 2, 1) := by decide +kernel
theorem dX5_period_62 : decode cX5_period 62 = .ok (.invokevirtual 194, 3) := by decide +kernel
theorem dX5_period_65 : decode cX5_period 65 = .ok (.ireturn, 1) := by decide +kernel
theorem dX5_hand_0 : decode cX5_hand 0 = .ok (.aload_n 0, 1) := by decide +kernel
theorem dX5_hand_1 : decode cX5_hand 1 = .ok (.iload_n 1, 1) := by decide +kernel
theorem dX5_hand_2 : decode cX5_hand 2 = .ok (.invokevirtual 123, 3) := by decide +kernel
theorem dX5_hand_5 : decode cX5_hand 5 = .ok (.ifCond .eq 12, 3) := by decide +kernel
theorem dX5_hand_8 : decode cX5_hand 8 = .ok (.iload_n 2, 1) := by decide +kernel
theorem dX5_hand_9 : decode cX5_hand 9 = .ok (.iconst 0, 1) := by decide +kernel
theorem dX5_hand_10 : decode cX5_hand 10 = .ok (.iconst 1, 1) := by decide +kernel
theorem dX5_hand_11 : decode cX5_hand 11 = .ok (.invokestatic 59, 3) := by decide +kernel
theorem dX5_hand_14 : decode cX5_hand 14 = .ok (.ifCond .ne 5, 3) := by decide +kernel
theorem dX5_hand_17 : decode cX5_hand 17 = .ok (.iconst (-1), 1) := by decide +kernel
theorem dX5_hand_18 : decode cX5_hand 18 = .ok (.ireturn, 1) := by decide +kernel
theorem dX5_hand_19 : decode cX5_hand 19 = .ok (.aload_n 0, 1) := by decide +kernel
theorem dX5_hand_20 : decode cX5_hand 20 = .ok (.getfield 50, 3) := by decide +kernel
theorem dX5_hand_23 : decode cX5_hand 23 = .ok (.sipush 300, 3) := by decide +kernel
theorem dX5_hand_26 : decode cX5_hand 26 = .ok (.invokevirtual 182, 3) := by decide +kernel
theorem dX5_hand_29 : decode cX5_hand 29 = .ok (.iconst 0, 1) := by decide +kernel
theorem dX5_hand_30 : decode cX5_hand 30 = .ok (.istore_n 3, 1) := by decide +kernel
theorem dX5_hand_31 : decode cX5_hand 31 = .ok (.iload_n 3, 1) := by decide +kernel
theorem dX5_hand_32 : decode cX5_hand 32 = .ok (.aload_n 0, 1) := by decide +kernel
theorem dX5_hand_33 : decode cX5_hand 33 = .ok (.getfield 12, 3) := by decide +kernel
theorem dX5_hand_36 : decode cX5_hand 36 = .ok (.getfield 130, 3) := by decide +kernel
theorem dX5_hand_39 : decode cX5_hand 39 = .ok (.iload_n 1, 1) := by decide +kernel
theorem dX5_hand_40 : decode cX5_hand 40 = .ok (.iaload, 1) := by decide +kernel
theorem dX5_hand_41 : decode cX5_hand 41 = .ok (.if_icmp .ge 23, 3) := by decide +kernel
theorem dX5_hand_44 : decode cX5_hand 44 = .ok (.aload_n 0, 1) := by decide +kernel
theorem dX5_hand_45 : decode cX5_hand 45 = .ok (.getfield 50, 3) := by decide +kernel
theorem dX5_hand_48 : decode cX5_hand 48 = .ok (.iload_n 3, 1) := by decide +kernel
theorem dX5_hand_49 : decode cX5_hand 49 = .ok (.aload_n 0, 1) := by decide +kernel
theorem dX5_hand_50 : decode cX5_hand 50 = .ok (.iload_n 1, 1) := by decide +kernel
theorem dX5_hand_51 : decode cX5_hand 51 = .ok (.iload_n 3, 1) := by decide +kernel
theorem dX5_hand_52 : decode cX5_hand 52 = .ok (.invokevirtual 197, 3) := by decide +kernel
theorem dX5_hand_55 : decode cX5_hand 55 = .ok (.invokevirtual 190, 3) := by decide +kernel
theorem dX5_hand_58 : decode cX5_hand 58 = .ok (.iinc 3 1, 3) := by decide +kernel
theorem dX5_hand_61 : decode cX5_hand 61 = .ok (.goto (-30), 3) := by decide +kernel
theorem dX5_hand_64 : decode cX5_hand 64 = .ok (.aload_n 0, 1) := by decide +kernel
theorem dX5_hand_65 : decode cX5_hand 65 = .ok (.getfield 50, 3) := by decide +kernel
theorem dX5_hand_68 : decode cX5_hand 68 = .ok (.iload_n 2, 1) := by decide +kernel
theorem dX5_hand_69 : decode cX5_hand 69 = .ok (.invokevirtual 194, 3) := by decide +kernel
theorem dX5_hand_72 : decode cX5_hand 72 = .ok (.ireturn, 1) := by decide +kernel
theorem dX5_kind_0 : decode cX5_kind 0 = .ok (.aload_n 0, 1) := by decide +kernel
theorem dX5_kind_1 : decode cX5_kind 1 = .ok (.iload_n 1, 1) := by decide +kernel
theorem dX5_kind_2 : decode cX5_kind 2 = .ok (.invokevirtual 123, 3) := by decide +kernel
theorem dX5_kind_5 : decode cX5_kind 5 = .ok (.ifCond .eq 12, 3) := by decide +kernel
theorem dX5_kind_8 : decode cX5_kind 8 = .ok (.iload_n 2, 1) := by decide +kernel
theorem dX5_kind_9 : decode cX5_kind 9 = .ok (.iconst 0, 1) := by decide +kernel
theorem dX5_kind_10 : decode cX5_kind 10 = .ok (.iconst 1, 1) := by decide +kernel
theorem dX5_kind_11 : decode cX5_kind 11 = .ok (.invokestatic 59, 3) := by decide +kernel
theorem dX5_kind_14 : decode cX5_kind 14 = .ok (.ifCond .ne 5, 3) := by decide +kernel
theorem dX5_kind_17 : decode cX5_kind 17 = .ok (.iconst (-1), 1) := by decide +kernel
theorem dX5_kind_18 : decode cX5_kind 18 = .ok (.ireturn, 1) := by decide +kernel
theorem dX5_kind_19 : decode cX5_kind 19 = .ok (.aload_n 0, 1) := by decide +kernel
theorem dX5_kind_20 : decode cX5_kind 20 = .ok (.getfield 50, 3) := by decide +kernel
theorem dX5_kind_23 : decode cX5_kind 23 = .ok (.sipush 300, 3) := by decide +kernel
theorem dX5_kind_26 : decode cX5_kind 26 = .ok (.invokevirtual 182, 3) := by decide +kernel
theorem dX5_kind_29 : decode cX5_kind 29 = .ok (.iconst 0, 1) := by decide +kernel
theorem dX5_kind_30 : decode cX5_kind 30 = .ok (.istore_n 3, 1) := by decide +kernel
theorem dX5_kind_31 : decode cX5_kind 31 = .ok (.iload_n 3, 1) := by decide +kernel
theorem dX5_kind_32 : decode cX5_kind 32 = .ok (.iconst 3, 1) := by decide +kernel
theorem dX5_kind_33 : decode cX5_kind 33 = .ok (.if_icmp .gt 23, 3) := by decide +kernel
theorem dX5_kind_36 : decode cX5_kind 36 = .ok (.aload_n 0, 1) := by decide +kernel
theorem dX5_kind_37 : decode cX5_kind 37 = .ok (.getfield 50, 3) := by decide +kernel
theorem dX5_kind_40 : decode cX5_kind 40 = .ok (.iload_n 3, 1) := by decide +kernel
theorem dX5_kind_41 : decode cX5_kind 41 = .ok (.aload_n 0, 1) := by decide +kernel
theorem dX5_kind_42 : decode cX5_kind 42 = .ok (.iload_n 1, 1) := by decide +kernel
theorem dX5_kind_43 : decode cX5_kind 43 = .ok (.iload_n 3, 1) := by decide +kernel
theorem dX5_kind_44 : decode cX5_kind 44 = .ok (.invokevirtual 200, 3) := by decide +kernel
theorem dX5_kind_47 : decode cX5_kind 47 = .ok (.invokevirtual 190, 3) := by decide +kernel
theorem dX5_kind_50 : decode cX5_kind 50 = .ok (.iinc 3 1, 3) := by decide +kernel
theorem dX5_kind_53 : decode cX5_kind 53 = .ok (.goto (-22), 3) := by decide +kernel
theorem dX5_kind_56 : decode cX5_kind 56 = .ok (.aload_n 0, 1) := by decide +kernel
theorem dX5_kind_57 : decode cX5_kind 57 = .ok (.getfield 50, 3) := by decide +kernel
theorem dX5_kind_60 : decode cX5_kind 60 = .ok (.iload_n 2, 1) := by decide +kernel
theorem dX5_kind_61 : decode cX5_kind 61 = .ok (.invokevirtual 194, 3) := by decide +kernel
theorem dX5_kind_64 : decode cX5_kind 64 = .ok (.ireturn, 1) := by decide +kernel
theorem dX5_force_0 : decode cX5_force 0 = .ok (.iload_n 1, 1) := by decide +kernel
theorem dX5_force_1 : decode cX5_force 1 = .ok (.iconst 0, 1) := by decide +kernel
theorem dX5_force_2 : decode cX5_force 2 = .ok (.iconst 1, 1) := by decide +kernel
theorem dX5_force_3 : decode cX5_force 3 = .ok (.invokestatic 59, 3) := by decide +kernel
theorem dX5_force_6 : decode cX5_force 6 = .ok (.ifCond .ne 5, 3) := by decide +kernel
theorem dX5_force_9 : decode cX5_force 9 = .ok (.iconst (-1), 1) := by decide +kernel
theorem dX5_force_10 : decode cX5_force 10 = .ok (.ireturn, 1) := by decide +kernel
theorem dX5_force_11 : decode cX5_force 11 = .ok (.aload_n 0, 1) := by decide +kernel
theorem dX5_force_12 : decode cX5_force 12 = .ok (.getfield 50, 3) := by decide +kernel
theorem dX5_force_15 : decode cX5_force 15 = .ok (.sipush 300, 3) := by decide +kernel
theorem dX5_force_18 : decode cX5_force 18 = .ok (.invokevirtual 182, 3) := by decide +kernel
theorem dX5_force_21 : decode cX5_force 21 = .ok (.iconst 0, 1) := by decide +kernel
theorem dX5_force_22 : decode cX5_force 22 = .ok (.istore_n 2, 1) := by decide +kernel
theorem dX5_force_23 : decode cX5_force 23 = .ok (.iload_n 2, 1) := by decide +kernel
theorem dX5_force_24 : decode cX5_force 24 = .ok (.iconst 5, 1) := by decide +kernel
theorem dX5_force_25 : decode cX5_force 25 = .ok (.if_icmp .gt 29, 3) := by decide +kernel
theorem dX5_force_28 : decode cX5_force 28 = .ok (.aload_n 0, 1) := by decide +kernel
theorem dX5_force_29 : decode cX5_force 29 = .ok (.invokevirtual 112, 3) := by decide +kernel
theorem dX5_force_32 : decode cX5_force 32 = .ok (.iload_n 2, 1) := by decide +kernel
theorem dX5_force_33 : decode cX5_force 33 = .ok (.putfield 99, 3) := by decide +kernel
theorem dX5_force_36 : decode cX5_force 36 = .ok (.aload_n 0, 1) := by decide +kernel
theorem dX5_force_37 : decode cX5_force 37 = .ok (.getfield 50, 3) := by decide +kernel
theorem dX5_force_40 : decode cX5_force 40 = .ok (.iload_n 2, 1) := by decide +kernel
theorem dX5_force_41 : decode cX5_force 41 = .ok (.aload_n 0, 1) := by decide +kernel
theorem dX5_force_42 : decode cX5_force 42 = .ok (.getfield 16, 3) := by decide +kernel
theorem dX5_force_45 : decode cX5_force 45 = .ok (.invokevirtual 190, 3) := by decide +kernel
theorem dX5_force_48 : decode cX5_force 48 = .ok (.iinc 2 1, 3) := by decide +kernel
theorem dX5_force_51 : decode cX5_force 51 = .ok (.goto (-28), 3) := by decide +kernel
theorem dX5_force_54 : decode cX5_force 54 = .ok (.aload_n 0, 1) := by decide +kernel
theorem dX5_force_55 : decode cX5_force 55 = .ok (.getfield 50, 3) := by decide +kernel
theorem dX5_force_58 : decode cX5_force 58 = .ok (.iload_n 1, 1) := by decide +kernel
theorem dX5_force_59 : decode cX5_force 59 = .ok (.invokevirtual 194, 3) := by decide +kernel
theorem dX5_force_62 : decode cX5_force 62 = .ok (.ireturn, 1) := by decide +kernel
theorem dX5_away_0 : decode cX5_away 0 = .ok (.iload_n 1, 1) := by decide +kernel
theorem dX5_away_1 : decode cX5_away 1 = .ok (.iconst 0, 1) := by decide +kernel
theorem dX5_away_2 : decode cX5_away 2 = .ok (.iconst 1, 1) := by decide +kernel
theorem dX5_away_3 : decode cX5_away 3 = .ok (.invokestatic 59, 3) := by decide +kernel
theorem dX5_away_6 : decode cX5_away 6 = .ok (.ifCond .ne 5, 3) := by decide +kernel
theorem dX5_away_9 : decode cX5_away 9 = .ok (.iconst (-1), 1) := by decide +kernel
theorem dX5_away_10 : decode cX5_away 10 = .ok (.ireturn, 1) := by decide +kernel
theorem dX5_away_11 : decode cX5_away 11 = .ok (.aload_n 0, 1) := by decide +kernel
theorem dX5_away_12 : decode cX5_away 12 = .ok (.invokevirtual 112, 3) := by decide +kernel
theorem dX5_away_15 : decode cX5_away 15 = .ok (.sipush 300, 3) := by decide +kernel
theorem dX5_away_18 : decode cX5_away 18 = .ok (.invokevirtual 175, 3) := by decide +kernel
theorem dX5_away_21 : decode cX5_away 21 = .ok (.istore_n 2, 1) := by decide +kernel
theorem dX5_away_22 : decode cX5_away 22 = .ok (.aload_n 0, 1) := by decide +kernel
theorem dX5_away_23 : decode cX5_away 23 = .ok (.getfield 50, 3) := by decide +kernel
theorem dX5_away_26 : decode cX5_away 26 = .ok (.iload_n 2, 1) := by decide +kernel
theorem dX5_away_27 : decode cX5_away 27 = .ok (.bipush (-4), 2) := by decide +kernel
theorem dX5_away_29 : decode cX5_away 29 = .ok (.if_icmp .ne 9, 3) := by decide +kernel
theorem dX5_away_32 : decode cX5_away 32 = .ok (.sipush 300, 3) := by decide +kernel
theorem dX5_away_35 : decode cX5_away 35 = .ok (.goto 6, 3) := by decide +kernel
theorem dX5_away_38 : decode cX5_away 38 = .ok (.iload_n 2, 1) := by decide +kernel
theorem dX5_away_39 : decode cX5_away 39 = .ok (.iconst 1, 1) := by decide +kernel
theorem dX5_away_40 : decode cX5_away 40 = .ok (.isub, 1) := by decide +kernel
theorem dX5_away_41 : decode cX5_away 41 = .ok (.invokevirtual 182, 3) := by decide +kernel
theorem dX5_away_44 : decode cX5_away 44 = .ok (.iconst 0, 1) := by decide +kernel
theorem dX5_away_45 : decode cX5_away 45 = .ok (.istore_n 3, 1) := by decide +kernel
theorem dX5_away_46 : decode cX5_away 46 = .ok (.iload_n 3, 1) := by decide +kernel
theorem dX5_away_47 : decode cX5_away 47 = .ok (.aload_n 0, 1) := by decide +kernel
theorem dX5_away_48 : decode cX5_away 48 = .ok (.getfield 12, 3) := by decide +kernel
theorem dX5_away_51 : decode cX5_away 51 = .ok (.getfield 96, 3) := by decide +kernel
theorem dX5_away_54 : decode cX5_away 54 = .ok (.if_icmp .ge 29, 3) := by decide +kernel
theorem dX5_away_57 : decode cX5_away 57 = .ok (.aload_n 0, 1) := by decide +kernel
theorem dX5_away_58 : decode cX5_away 58 = .ok (.invokevirtual 112, 3) := by decide +kernel
theorem dX5_away_61 : decode cX5_away 61 = .ok (.iload_n 3, 1) := by decide +kernel
theorem dX5_away_62 : decode cX5_away 62 = .ok (.invokevirtual 203, 3) := by decide +kernel
theorem dX5_away_65 : decode cX5_away 65 = .ok (.aload_n 0, 1) := by decide +kernel
theorem dX5_away_66 : decode cX5_away 66 = .ok (.getfield 50, 3) := by decide +kernel
theorem dX5_away_69 : decode cX5_away 69 = .ok (.iload_n 3, 1) := by decide +kernel
theorem dX5_away_70 : decode cX5_away 70 = .ok (.aload_n 0, 1) := by decide +kernel
theorem dX5_away_71 : decode cX5_away 71 = .ok (.getfield 16, 3) := by decide +kernel
theorem dX5_away_74 : decode cX5_away 74 = .ok (.invokevirtual 190, 3) := by decide +kernel
theorem dX5_away_77 : decode cX5_away 77 = .ok (.iinc 3 1, 3) := by decide +kernel
theorem dX5_away_80 : decode cX5_away 80 = .ok (.goto (-34), 3) := by decide +kernel
theorem dX5_away_83 : decode cX5_away 83 = .ok (.aload_n 0, 1) := by decide +kernel
theorem dX5_away_84 : decode cX5_away 84 = .ok (.getfield 50, 3) := by decide +kernel
theorem dX5_away_87 : decode cX5_away 87 = .ok (.iload_n 1, 1) := by decide +kernel
theorem dX5_away_88 : decode cX5_away 88 = .ok (.invokevirtual 194, 3) := by decide +kernel
theorem dX5_away_91 : decode cX5_away 91 = .ok (.ireturn, 1) := by decide +kernel
theorem dX5_luck_0 : decode cX5_luck 0 = .ok (.iload_n 1, 1) := by decide +kernel
theorem dX5_luck_1 : decode cX5_luck 1 = .ok (.iconst 0, 1) := by decide +kernel
theorem dX5_luck_2 : decode cX5_luck 2 = .ok (.bipush 10, 2) := by decide +kernel
theorem dX5_luck_4 : decode cX5_luck 4 = .ok (.invokestatic 59, 3) := by decide +kernel
theorem dX5_luck_7 : decode cX5_luck 7 = .ok (.ifCond .eq 31, 3) := by decide +kernel
theorem dX5_luck_10 : decode cX5_luck 10 = .ok (.aload_n 0, 1) := by decide +kernel
theorem dX5_luck_11 : decode cX5_luck 11 = .ok (.iload_n 2, 1) := by decide +kernel
theorem dX5_luck_12 : decode cX5_luck 12 = .ok (.invokevirtual 123, 3) := by decide +kernel
theorem dX5_luck_15 : decode cX5_luck 15 = .ok (.ifCond .eq 23, 3) := by decide +kernel
theorem dX5_luck_18 : decode cX5_luck 18 = .ok (.iload_n 3, 1) := by decide +kernel
theorem dX5_luck_19 : decode cX5_luck 19 = .ok (.iconst 0, 1) := by decide +kernel
theorem dX5_luck_20 : decode cX5_luck 20 = .ok (.bipush 8, 2) := by decide +kernel
theorem dX5_luck_22 : decode cX5_luck 22 = .ok (.invokestatic 59, 3) := by decide +kernel
theorem dX5_luck_25 : decode cX5_luck 25 = .ok (.ifCond .eq 13, 3) := by decide +kernel
theorem dX5_luck_28 : decode cX5_luck 28 = .ok (.iload 4, 2) := by decide +kernel
theorem dX5_luck_30 : decode cX5_luck 30 = .ok (.iconst 0, 1) := by decide +kernel
theorem dX5_luck_31 : decode cX5_luck 31 = .ok (.iconst 1, 1) := by decide +kernel
theorem dX5_luck_32 : decode cX5_luck 32 = .ok (.invokestatic 59, 3) := by decide +kernel
theorem dX5_luck_35 : decode cX5_luck 35 = .ok (.ifCond .ne 7, 3) := by decide +kernel
theorem dX5_luck_38 : decode cX5_luck 38 = .ok (.ldc2_w 206, 3) := by decide +kernel
theorem dX5_luck_41 : decode cX5_luck 41 = .ok (.lreturn, 1) := by decide +kernel
theorem dX5_luck_42 : decode cX5_luck 42 = .ok (.lconst 0, 1) := by decide +kernel
theorem dX5_luck_43 : decode cX5_luck 43 = .ok (.lstore 5, 2) := by decide +kernel
theorem dX5_luck_45 : decode cX5_luck 45 = .ok (.iconst 0, 1) := by decide +kernel
theorem dX5_luck_46 : decode cX5_luck 46 = .ok (.istore 7, 2) := by decide +kernel
theorem dX5_luck_48 : decode cX5_luck 48 = .ok (.iload 7, 2) := by decide +kernel
theorem dX5_luck_50 : decode cX5_luck 50 = .ok (.iconst 1, 1) := by decide +kernel
theorem dX5_luck_51 : decode cX5_luck 51 = .ok (.iload_n 3, 1) := by decide +kernel
theorem dX5_luck_52 : decode cX5_luck 52 = .ok (.ishl, 1) := by decide +kernel
theorem dX5_luck_53 : decode cX5_luck 53 = .ok (.if_icmp .ge 47, 3) := by decide +kernel
theorem dX5_luck_56 : decode cX5_luck 56 = .ok (.aload_n 0, 1) := by decide +kernel
theorem dX5_luck_57 : decode cX5_luck 57 = .ok (.invokevirtual 112, 3) := by decide +kernel
theorem dX5_luck_60 : decode cX5_luck 60 = .ok (.iload_n 3, 1) := by decide +kernel
theorem dX5_luck_61 : decode cX5_luck 61 = .ok (.iload 7, 2) := by decide +kernel
theorem dX5_luck_63 : decode cX5_luck 63 = .ok (.invokevirtual 208, 3) := by decide +kernel
theorem dX5_luck_66 : decode cX5_luck 66 = .ok (.pop, 1) := by decide +kernel
theorem dX5_luck_67 : decode cX5_luck 67 = .ok (.aload_n 0, 1) := by decide +kernel
theorem dX5_luck_68 : decode cX5_luck 68 = .ok (.getfield 16, 3) := by decide +kernel
theorem dX5_luck_71 : decode cX5_luck 71 = .ok (.iconst 0, 1) := by decide +kernel
theorem dX5_luck_72 : decode cX5_luck 72 = .ok (.invokevirtual 116, 3) := by decide +kernel
theorem dX5_luck_75 : decode cX5_luck 75 = .ok (.iload_n 2, 1) := by decide +kernel
theorem dX5_luck_76 : decode cX5_luck 76 = .ok (.invokestatic 211, 3) := by decide +kernel
theorem dX5_luck_79 : decode cX5_luck 79 = .ok (.ifCond .eq 15, 3) := by decide +kernel
theorem dX5_luck_82 : decode cX5_luck 82 = .ok (.lload 5, 2) := by decide +kernel
theorem dX5_luck_84 : decode cX5_luck 84 = .ok (.iload 7, 2) := by decide +kernel
theorem dX5_luck_86 : decode cX5_luck 86 = .ok (.iload_n 1, 1) := by decide +kernel
theorem dX5_luck_87 : decode cX5_luck 87 = .ok (.iload_n 3, 1) := by decide +kernel
theorem dX5_luck_88 : decode cX5_luck 88 = .ok (.invokestatic 215, 3) := by decide +kernel
theorem dX5_luck_91 : decode cX5_luck 91 = .ok (.ladd, 1) := by decide +kernel
theorem dX5_luck_92 : decode cX5_luck 92 = .ok (.lstore 5, 2) := by decide +kernel
theorem dX5_luck_94 : decode cX5_luck 94 = .ok (.iinc 7 1, 3) := by decide +kernel
theorem dX5_luck_97 : decode cX5_luck 97 = .ok (.goto (-49), 3) := by decide +kernel
theorem dX5_luck_100 : decode cX5_luck 100 = .ok (.lload 5, 2) := by decide +kernel
theorem dX5_luck_102 : decode cX5_luck 102 = .ok (.bipush 10, 2) := by decide +kernel
theorem dX5_luck_104 : decode cX5_luck 104 = .ok (.iload_n 3, 1) := by decide +kernel
theorem dX5_luck_105 : decode cX5_luck 105 = .ok (.invokestatic 219, 3) := by decide +kernel
theorem dX5_luck_108 : decode cX5_luck 108 = .ok (.iload 4, 2) := by decide +kernel
theorem dX5_luck_110 : decode cX5_luck 110 = .ok (.invokestatic 223, 3) := by decide +kernel
theorem dX5_luck_113 : decode cX5_luck 113 = .ok (.lreturn, 1) := by decide +kernel
theorem dX5_mean_0 : decode cX5_mean 0 = .ok (.iload_n 1, 1) := by decide +kernel
theorem dX5_mean_1 : decode cX5_mean 1 = .ok (.iconst 0, 1) := by decide +kernel
theorem dX5_mean_2 : decode cX5_mean 2 = .ok (.bipush 10, 2) := by decide +kernel
theorem dX5_mean_4 : decode cX5_mean 4 = .ok (.invokestatic 59, 3) := by decide +kernel
theorem dX5_mean_7 : decode cX5_mean 7 = .ok (.ifCond .eq 22, 3) := by decide +kernel
theorem dX5_mean_10 : decode cX5_mean 10 = .ok (.iload_n 2, 1) := by decide +kernel
theorem dX5_mean_11 : decode cX5_mean 11 = .ok (.iconst 0, 1) := by decide +kernel
theorem dX5_mean_12 : decode cX5_mean 12 = .ok (.bipush 8, 2) := by decide +kernel
theorem dX5_mean_14 : decode cX5_mean 14 = .ok (.invokestatic 59, 3) := by decide +kernel
theorem dX5_mean_17 : decode cX5_mean 17 = .ok (.ifCond .eq 12, 3) := by decide +kernel
theorem dX5_mean_20 : decode cX5_mean 20 = .ok (.iload_n 3, 1) := by decide +kernel
theorem dX5_mean_21 : decode cX5_mean 21 = .ok (.iconst 0, 1) := by decide +kernel
theorem dX5_mean_22 : decode cX5_mean 22 = .ok (.iconst 1, 1) := by decide +kernel
theorem dX5_mean_23 : decode cX5_mean 23 = .ok (.invokestatic 59, 3) := by decide +kernel
theorem dX5_mean_26 : decode cX5_mean 26 = .ok (.ifCond .ne 7, 3) := by decide +kernel
theorem dX5_mean_29 : decode cX5_mean 29 = .ok (.ldc2_w 206, 3) := by decide +kernel
theorem dX5_mean_32 : decode cX5_mean 32 = .ok (.lreturn, 1) := by decide +kernel
theorem dX5_mean_33 : decode cX5_mean 33 = .ok (.lconst 0, 1) := by decide +kernel
theorem dX5_mean_34 : decode cX5_mean 34 = .ok (.lstore 4, 2) := by decide +kernel
theorem dX5_mean_36 : decode cX5_mean 36 = .ok (.iconst 0, 1) := by decide +kernel
theorem dX5_mean_37 : decode cX5_mean 37 = .ok (.istore 6, 2) := by decide +kernel
theorem dX5_mean_39 : decode cX5_mean 39 = .ok (.iload 6, 2) := by decide +kernel
theorem dX5_mean_41 : decode cX5_mean 41 = .ok (.iconst 1, 1) := by decide +kernel
theorem dX5_mean_42 : decode cX5_mean 42 = .ok (.iload_n 2, 1) := by decide +kernel
theorem dX5_mean_43 : decode cX5_mean 43 = .ok (.ishl, 1) := by decide +kernel
theorem dX5_mean_44 : decode cX5_mean 44 = .ok (.if_icmp .ge 33, 3) := by decide +kernel
theorem dX5_mean_47 : decode cX5_mean 47 = .ok (.lload 4, 2) := by decide +kernel
theorem dX5_mean_49 : decode cX5_mean 49 = .ok (.aload_n 0, 1) := by decide +kernel
theorem dX5_mean_50 : decode cX5_mean 50 = .ok (.invokevirtual 112, 3) := by decide +kernel
theorem dX5_mean_53 : decode cX5_mean 53 = .ok (.iload_n 2, 1) := by decide +kernel
theorem dX5_mean_54 : decode cX5_mean 54 = .ok (.iload 6, 2) := by decide +kernel
theorem dX5_mean_56 : decode cX5_mean 56 = .ok (.invokevirtual 208, 3) := by decide +kernel
theorem dX5_mean_59 : decode cX5_mean 59 = .ok (.i2l, 1) := by decide +kernel
theorem dX5_mean_60 : decode cX5_mean 60 = .ok (.iload 6, 2) := by decide +kernel
theorem dX5_mean_62 : decode cX5_mean 62 = .ok (.iload_n 1, 1) := by decide +kernel
theorem dX5_mean_63 : decode cX5_mean 63 = .ok (.iload_n 2, 1) := by decide +kernel
theorem dX5_mean_64 : decode cX5_mean 64 = .ok (.invokestatic 215, 3) := by decide +kernel
theorem dX5_mean_67 : decode cX5_mean 67 = .ok (.lmul, 1) := by decide +kernel
theorem dX5_mean_68 : decode cX5_mean 68 = .ok (.ladd, 1) := by decide +kernel
theorem dX5_mean_69 : decode cX5_mean 69 = .ok (.lstore 4, 2) := by decide +kernel
theorem dX5_mean_71 : decode cX5_mean 71 = .ok (.iinc 6 1, 3) := by decide +kernel
theorem dX5_mean_74 : decode cX5_mean 74 = .ok (.goto (-35), 3) := by decide +kernel
theorem dX5_mean_77 : decode cX5_mean 77 = .ok (.lload 4, 2) := by decide +kernel
theorem dX5_mean_79 : decode cX5_mean 79 = .ok (.bipush 10, 2) := by decide +kernel
theorem dX5_mean_81 : decode cX5_mean 81 = .ok (.iload_n 2, 1) := by decide +kernel
theorem dX5_mean_82 : decode cX5_mean 82 = .ok (.invokestatic 219, 3) := by decide +kernel
theorem dX5_mean_85 : decode cX5_mean 85 = .ok (.iload_n 3, 1) := by decide +kernel
theorem dX5_mean_86 : decode cX5_mean 86 = .ok (.invokestatic 223, 3) := by decide +kernel
theorem dX5_mean_89 : decode cX5_mean 89 = .ok (.lreturn, 1) := by decide +kernel
theorem dX5_see_0 : decode cX5_see 0 = .ok (.iload_n 1, 1) := by decide +kernel
theorem dX5_see_1 : decode cX5_see 1 = .ok (.iconst 0, 1) := by decide +kernel
theorem dX5_see_2 : decode cX5_see 2 = .ok (.bipush 60, 2) := by decide +kernel
theorem dX5_see_4 : decode cX5_see 4 = .ok (.invokestatic 59, 3) := by decide +kernel
theorem dX5_see_7 : decode cX5_see 7 = .ok (.ifCond .eq 20, 3) := by decide +kernel
theorem dX5_see_10 : decode cX5_see 10 = .ok (.aload_n 0, 1) := by decide +kernel
theorem dX5_see_11 : decode cX5_see 11 = .ok (.iload_n 2, 1) := by decide +kernel
theorem dX5_see_12 : decode cX5_see 12 = .ok (.invokevirtual 123, 3) := by decide +kernel
theorem dX5_see_15 : decode cX5_see 15 = .ok (.ifCond .eq 12, 3) := by decide +kernel
theorem dX5_see_18 : decode cX5_see 18 = .ok (.iload_n 3, 1) := by decide +kernel
theorem dX5_see_19 : decode cX5_see 19 = .ok (.iconst 0, 1) := by decide +kernel
theorem dX5_see_20 : decode cX5_see 20 = .ok (.iconst 1, 1) := by decide +kernel
theorem dX5_see_21 : decode cX5_see 21 = .ok (.invokestatic 59, 3) := by decide +kernel
theorem dX5_see_24 : decode cX5_see 24 = .ok (.ifCond .ne 5, 3) := by decide +kernel
theorem dX5_see_27 : decode cX5_see 27 = .ok (.iconst (-1), 1) := by decide +kernel
theorem dX5_see_28 : decode cX5_see 28 = .ok (.ireturn, 1) := by decide +kernel
theorem dX5_see_29 : decode cX5_see 29 = .ok (.aload_n 0, 1) := by decide +kernel
theorem dX5_see_30 : decode cX5_see 30 = .ok (.getfield 37, 3) := by decide +kernel
theorem dX5_see_33 : decode cX5_see 33 = .ok (.getfield 90, 3) := by decide +kernel
theorem dX5_see_36 : decode cX5_see 36 = .ok (.bipush 6, 2) := by decide +kernel
theorem dX5_see_38 : decode cX5_see 38 = .ok (.if_icmp .lt 6, 3) := by decide +kernel
theorem dX5_see_41 : decode cX5_see 41 = .ok (.bipush (-3), 2) := by decide +kernel
theorem dX5_see_43 : decode cX5_see 43 = .ok (.ireturn, 1) := by decide +kernel
theorem dX5_see_44 : decode cX5_see 44 = .ok (.aload_n 0, 1) := by decide +kernel
theorem dX5_see_45 : decode cX5_see 45 = .ok (.getfield 37, 3) := by decide +kernel
theorem dX5_see_48 : decode cX5_see 48 = .ok (.iload_n 1, 1) := by decide +kernel
theorem dX5_see_49 : decode cX5_see 49 = .ok (.iload_n 2, 1) := by decide +kernel
theorem dX5_see_50 : decode cX5_see 50 = .ok (.iload_n 3, 1) := by decide +kernel
theorem dX5_see_51 : decode cX5_see 51 = .ok (.invokevirtual 227, 3) := by decide +kernel
theorem dX5_see_54 : decode cX5_see 54 = .ok (.aload_n 0, 1) := by decide +kernel
theorem dX5_see_55 : decode cX5_see 55 = .ok (.getfield 37, 3) := by decide +kernel
theorem dX5_see_58 : decode cX5_see 58 = .ok (.getfield 90, 3) := by decide +kernel
theorem dX5_see_61 : decode cX5_see 61 = .ok (.ireturn, 1) := by decide +kernel
theorem dX5_forget_0 : decode cX5_forget 0 = .ok (.iload_n 1, 1) := by decide +kernel
theorem dX5_forget_1 : decode cX5_forget 1 = .ok (.iconst 0, 1) := by decide +kernel
theorem dX5_forget_2 : decode cX5_forget 2 = .ok (.aload_n 0, 1) := by decide +kernel
theorem dX5_forget_3 : decode cX5_forget 3 = .ok (.getfield 37, 3) := by decide +kernel
theorem dX5_forget_6 : decode cX5_forget 6 = .ok (.getfield 90, 3) := by decide +kernel
theorem dX5_forget_9 : decode cX5_forget 9 = .ok (.invokestatic 59, 3) := by decide +kernel
theorem dX5_forget_12 : decode cX5_forget 12 = .ok (.ifCond .ne 5, 3) := by decide +kernel
theorem dX5_forget_15 : decode cX5_forget 15 = .ok (.iconst (-1), 1) := by decide +kernel
theorem dX5_forget_16 : decode cX5_forget 16 = .ok (.ireturn, 1) := by decide +kernel
theorem dX5_forget_17 : decode cX5_forget 17 = .ok (.aload_n 0, 1) := by decide +kernel
theorem dX5_forget_18 : decode cX5_forget 18 = .ok (.getfield 37, 3) := by decide +kernel
theorem dX5_forget_21 : decode cX5_forget 21 = .ok (.getfield 90, 3) := by decide +kernel
theorem dX5_forget_24 : decode cX5_forget 24 = .ok (.istore_n 2, 1) := by decide +kernel
theorem dX5_forget_25 : decode cX5_forget 25 = .ok (.aload_n 0, 1) := by decide +kernel
theorem dX5_forget_26 : decode cX5_forget 26 = .ok (.getfield 37, 3) := by decide +kernel
theorem dX5_forget_29 : decode cX5_forget 29 = .ok (.iload_n 1, 1) := by decide +kernel
theorem dX5_forget_30 : decode cX5_forget 30 = .ok (.putfield 90, 3) := by decide +kernel
theorem dX5_forget_33 : decode cX5_forget 33 = .ok (.iload_n 2, 1) := by decide +kernel
theorem dX5_forget_34 : decode cX5_forget 34 = .ok (.ireturn, 1) := by decide +kernel
theorem dX5_kinds_0 : decode cX5_kinds 0 = .ok (.aload_n 0, 1) := by decide +kernel
theorem dX5_kinds_1 : decode cX5_kinds 1 = .ok (.iload_n 1, 1) := by decide +kernel
theorem dX5_kinds_2 : decode cX5_kinds 2 = .ok (.invokevirtual 123, 3) := by decide +kernel
theorem dX5_kinds_5 : decode cX5_kinds 5 = .ok (.ifCond .ne 5, 3) := by decide +kernel
theorem dX5_kinds_8 : decode cX5_kinds 8 = .ok (.iconst (-1), 1) := by decide +kernel
theorem dX5_kinds_9 : decode cX5_kinds 9 = .ok (.ireturn, 1) := by decide +kernel
theorem dX5_kinds_10 : decode cX5_kinds 10 = .ok (.iconst 0, 1) := by decide +kernel
theorem dX5_kinds_11 : decode cX5_kinds 11 = .ok (.istore_n 2, 1) := by decide +kernel
theorem dX5_kinds_12 : decode cX5_kinds 12 = .ok (.iconst 0, 1) := by decide +kernel
theorem dX5_kinds_13 : decode cX5_kinds 13 = .ok (.istore_n 3, 1) := by decide +kernel
theorem dX5_kinds_14 : decode cX5_kinds 14 = .ok (.iload_n 3, 1) := by decide +kernel
theorem dX5_kinds_15 : decode cX5_kinds 15 = .ok (.iconst 3, 1) := by decide +kernel
theorem dX5_kinds_16 : decode cX5_kinds 16 = .ok (.if_icmp .gt 31, 3) := by decide +kernel
theorem dX5_kinds_19 : decode cX5_kinds 19 = .ok (.aload_n 0, 1) := by decide +kernel
theorem dX5_kinds_20 : decode cX5_kinds 20 = .ok (.getfield 37, 3) := by decide +kernel
theorem dX5_kinds_23 : decode cX5_kinds 23 = .ok (.aload_n 0, 1) := by decide +kernel
theorem dX5_kinds_24 : decode cX5_kinds 24 = .ok (.iload_n 1, 1) := by decide +kernel
theorem dX5_kinds_25 : decode cX5_kinds 25 = .ok (.iload_n 3, 1) := by decide +kernel
theorem dX5_kinds_26 : decode cX5_kinds 26 = .ok (.invokevirtual 200, 3) := by decide +kernel
theorem dX5_kinds_29 : decode cX5_kinds 29 = .ok (.invokevirtual 230, 3) := by decide +kernel
theorem dX5_kinds_32 : decode cX5_kinds 32 = .ok (.ifCond .eq 9, 3) := by decide +kernel
theorem dX5_kinds_35 : decode cX5_kinds 35 = .ok (.iload_n 2, 1) := by decide +kernel
theorem dX5_kinds_36 : decode cX5_kinds 36 = .ok (.iconst 1, 1) := by decide +kernel
theorem dX5_kinds_37 : decode cX5_kinds 37 = .ok (.iload_n 3, 1) := by decide +kernel
theorem dX5_kinds_38 : decode cX5_kinds 38 = .ok (.ishl, 1) := by decide +kernel
theorem dX5_kinds_39 : decode cX5_kinds 39 = .ok (.ior, 1) := by decide +kernel
theorem dX5_kinds_40 : decode cX5_kinds 40 = .ok (.istore_n 2, 1) := by decide +kernel
theorem dX5_kinds_41 : decode cX5_kinds 41 = .ok (.iinc 3 1, 3) := by decide +kernel
theorem dX5_kinds_44 : decode cX5_kinds 44 = .ok (.goto (-30), 3) := by decide +kernel
theorem dX5_kinds_47 : decode cX5_kinds 47 = .ok (.iload_n 2, 1) := by decide +kernel
theorem dX5_kinds_48 : decode cX5_kinds 48 = .ok (.ireturn, 1) := by decide +kernel
theorem dX5_periods_0 : decode cX5_periods 0 = .ok (.aload_n 0, 1) := by decide +kernel
theorem dX5_periods_1 : decode cX5_periods 1 = .ok (.iload_n 1, 1) := by decide +kernel
theorem dX5_periods_2 : decode cX5_periods 2 = .ok (.invokevirtual 123, 3) := by decide +kernel
theorem dX5_periods_5 : decode cX5_periods 5 = .ok (.ifCond .ne 5, 3) := by decide +kernel
theorem dX5_periods_8 : decode cX5_periods 8 = .ok (.iconst (-1), 1) := by decide +kernel
theorem dX5_periods_9 : decode cX5_periods 9 = .ok (.ireturn, 1) := by decide +kernel
theorem dX5_periods_10 : decode cX5_periods 10 = .ok (.iconst 0, 1) := by decide +kernel
theorem dX5_periods_11 : decode cX5_periods 11 = .ok (.istore_n 2, 1) := by decide +kernel
theorem dX5_periods_12 : decode cX5_periods 12 = .ok (.iconst 2, 1) := by decide +kernel
theorem dX5_periods_13 : decode cX5_periods 13 = .ok (.istore_n 3, 1) := by decide +kernel
theorem dX5_periods_14 : decode cX5_periods 14 = .ok (.iload_n 3, 1) := by decide +kernel
theorem dX5_periods_15 : decode cX5_periods 15 = .ok (.bipush 30, 2) := by decide +kernel
theorem dX5_periods_17 : decode cX5_periods 17 = .ok (.if_icmp .gt 31, 3) := by decide +kernel
theorem dX5_periods_20 : decode cX5_periods 20 = .ok (.aload_n 0, 1) := by decide +kernel
theorem dX5_periods_21 : decode cX5_periods 21 = .ok (.getfield 37, 3) := by decide +kernel
theorem dX5_periods_24 : decode cX5_periods 24 = .ok (.aload_n 0, 1) := by decide +kernel
theorem dX5_periods_25 : decode cX5_periods 25 = .ok (.iload_n 1, 1) := by decide +kernel
theorem dX5_periods_26 : decode cX5_periods 26 = .ok (.iload_n 3, 1) := by decide +kernel
theorem dX5_periods_27 : decode cX5_periods 27 = .ok (.invokevirtual 186, 3) := by decide +kernel
theorem dX5_periods_30 : decode cX5_periods 30 = .ok (.invokevirtual 230, 3) := by decide +kernel
theorem dX5_periods_33 : decode cX5_periods 33 = .ok (.ifCond .eq 9, 3) := by decide +kernel
theorem dX5_periods_36 : decode cX5_periods 36 = .ok (.iload_n 2, 1) := by decide +kernel
theorem dX5_periods_37 : decode cX5_periods 37 = .ok (.iconst 1, 1) := by decide +kernel
theorem dX5_periods_38 : decode cX5_periods 38 = .ok (.iload_n 3, 1) := by decide +kernel
theorem dX5_periods_39 : decode cX5_periods 39 = .ok (.ishl, 1) := by decide +kernel
theorem dX5_periods_40 : decode cX5_periods 40 = .ok (.ior, 1) := by decide +kernel
theorem dX5_periods_41 : decode cX5_periods 41 = .ok (.istore_n 2, 1) := by decide +kernel
theorem dX5_periods_42 : decode cX5_periods 42 = .ok (.iinc 3 1, 3) := by decide +kernel
theorem dX5_periods_45 : decode cX5_periods 45 = .ok (.goto (-31), 3) := by decide +kernel
theorem dX5_periods_48 : decode cX5_periods 48 = .ok (.iload_n 2, 1) := by decide +kernel
theorem dX5_periods_49 : decode cX5_periods 49 = .ok (.ireturn, 1) := by decide +kernel
theorem dX5_hands_0 : decode cX5_hands 0 = .ok (.aload_n 0, 1) := by decide +kernel
theorem dX5_hands_1 : decode cX5_hands 1 = .ok (.iload_n 1, 1) := by decide +kernel
theorem dX5_hands_2 : decode cX5_hands 2 = .ok (.invokevirtual 123, 3) := by decide +kernel
theorem dX5_hands_5 : decode cX5_hands 5 = .ok (.ifCond .eq 11, 3) := by decide +kernel
theorem dX5_hands_8 : decode cX5_hands 8 = .ok (.aload_n 0, 1) := by decide +kernel
theorem dX5_hands_9 : decode cX5_hands 9 = .ok (.iload_n 1, 1) := by decide +kernel
theorem dX5_hands_10 : decode cX5_hands 10 = .ok (.invokevirtual 233, 3) := by decide +kernel
theorem dX5_hands_13 : decode cX5_hands 13 = .ok (.goto 4, 3) := by decide +kernel
theorem dX5_hands_16 : decode cX5_hands 16 = .ok (.iconst (-1), 1) := by decide +kernel
theorem dX5_hands_17 : decode cX5_hands 17 = .ok (.ireturn, 1) := by decide +kernel
theorem dX5_ask_0 : decode cX5_ask 0 = .ok (.aload_n 0, 1) := by decide +kernel
theorem dX5_ask_1 : decode cX5_ask 1 = .ok (.iload_n 1, 1) := by decide +kernel
theorem dX5_ask_2 : decode cX5_ask 2 = .ok (.invokevirtual 123, 3) := by decide +kernel
theorem dX5_ask_5 : decode cX5_ask 5 = .ok (.ifCond .eq 12, 3) := by decide +kernel
theorem dX5_ask_8 : decode cX5_ask 8 = .ok (.iload_n 2, 1) := by decide +kernel
theorem dX5_ask_9 : decode cX5_ask 9 = .ok (.iconst 0, 1) := by decide +kernel
theorem dX5_ask_10 : decode cX5_ask 10 = .ok (.iconst 1, 1) := by decide +kernel
theorem dX5_ask_11 : decode cX5_ask 11 = .ok (.invokestatic 59, 3) := by decide +kernel
theorem dX5_ask_14 : decode cX5_ask 14 = .ok (.ifCond .ne 5, 3) := by decide +kernel
theorem dX5_ask_17 : decode cX5_ask 17 = .ok (.iconst (-1), 1) := by decide +kernel
theorem dX5_ask_18 : decode cX5_ask 18 = .ok (.ireturn, 1) := by decide +kernel
theorem dX5_ask_19 : decode cX5_ask 19 = .ok (.aload_n 0, 1) := by decide +kernel
theorem dX5_ask_20 : decode cX5_ask 20 = .ok (.iload_n 1, 1) := by decide +kernel
theorem dX5_ask_21 : decode cX5_ask 21 = .ok (.invokevirtual 233, 3) := by decide +kernel
theorem dX5_ask_24 : decode cX5_ask 24 = .ok (.istore_n 3, 1) := by decide +kernel
theorem dX5_ask_25 : decode cX5_ask 25 = .ok (.aload_n 0, 1) := by decide +kernel
theorem dX5_ask_26 : decode cX5_ask 26 = .ok (.iload_n 1, 1) := by decide +kernel
theorem dX5_ask_27 : decode cX5_ask 27 = .ok (.iload_n 3, 1) := by decide +kernel
theorem dX5_ask_28 : decode cX5_ask 28 = .ok (.invokevirtual 236, 3) := by decide +kernel
theorem dX5_ask_31 : decode cX5_ask 31 = .ok (.iload_n 3, 1) := by decide +kernel
theorem dX5_ask_32 : decode cX5_ask 32 = .ok (.invokestatic 162, 3) := by decide +kernel
theorem dX5_ask_35 : decode cX5_ask 35 = .ok (.istore 4, 2) := by decide +kernel
theorem dX5_ask_37 : decode cX5_ask 37 = .ok (.iload 4, 2) := by decide +kernel
theorem dX5_ask_39 : decode cX5_ask 39 = .ok (.istore 5, 2) := by decide +kernel
theorem dX5_ask_41 : decode cX5_ask 41 = .ok (.bipush (-4), 2) := by decide +kernel
theorem dX5_ask_43 : decode cX5_ask 43 = .ok (.istore 6, 2) := by decide +kernel
theorem dX5_ask_45 : decode cX5_ask 45 = .ok (.iconst 0, 1) := by decide +kernel
theorem dX5_ask_46 : decode cX5_ask 46 = .ok (.istore 7, 2) := by decide +kernel
theorem dX5_ask_48 : decode cX5_ask 48 = .ok (.iload 7, 2) := by decide +kernel
theorem dX5_ask_50 : decode cX5_ask 50 = .ok (.bipush 60, 2) := by decide +kernel
theorem dX5_ask_52 : decode cX5_ask 52 = .ok (.if_icmp .gt 46, 3) := by decide +kernel
theorem dX5_ask_55 : decode cX5_ask 55 = .ok (.aload_n 0, 1) := by decide +kernel
theorem dX5_ask_56 : decode cX5_ask 56 = .ok (.getfield 54, 3) := by decide +kernel
theorem dX5_ask_59 : decode cX5_ask 59 = .ok (.iload 7, 2) := by decide +kernel
theorem dX5_ask_61 : decode cX5_ask 61 = .ok (.iaload, 1) := by decide +kernel
theorem dX5_ask_62 : decode cX5_ask 62 = .ok (.iload 4, 2) := by decide +kernel
theorem dX5_ask_64 : decode cX5_ask 64 = .ok (.aload_n 0, 1) := by decide +kernel
theorem dX5_ask_65 : decode cX5_ask 65 = .ok (.getfield 54, 3) := by decide +kernel
theorem dX5_ask_68 : decode cX5_ask 68 = .ok (.iload 7, 2) := by decide +kernel
theorem dX5_ask_70 : decode cX5_ask 70 = .ok (.iaload, 1) := by decide +kernel
theorem dX5_ask_71 : decode cX5_ask 71 = .ok (.isub, 1) := by decide +kernel
theorem dX5_ask_72 : decode cX5_ask 72 = .ok (.invokestatic 167, 3) := by decide +kernel
theorem dX5_ask_75 : decode cX5_ask 75 = .ok (.istore 8, 2) := by decide +kernel
theorem dX5_ask_77 : decode cX5_ask 77 = .ok (.iload 8, 2) := by decide +kernel
theorem dX5_ask_79 : decode cX5_ask 79 = .ok (.iload 5, 2) := by decide +kernel
theorem dX5_ask_81 : decode cX5_ask 81 = .ok (.if_icmp .ge 11, 3) := by decide +kernel
theorem dX5_ask_84 : decode cX5_ask 84 = .ok (.iload 8, 2) := by decide +kernel
theorem dX5_ask_86 : decode cX5_ask 86 = .ok (.istore 5, 2) := by decide +kernel
theorem dX5_ask_88 : decode cX5_ask 88 = .ok (.iload 7, 2) := by decide +kernel
theorem dX5_ask_90 : decode cX5_ask 90 = .ok (.istore 6, 2) := by decide +kernel
theorem dX5_ask_92 : decode cX5_ask 92 = .ok (.iinc 7 1, 3) := by decide +kernel
theorem dX5_ask_95 : decode cX5_ask 95 = .ok (.goto (-47), 3) := by decide +kernel
theorem dX5_ask_98 : decode cX5_ask 98 = .ok (.iload 6, 2) := by decide +kernel
theorem dX5_ask_100 : decode cX5_ask 100 = .ok (.bipush (-4), 2) := by decide +kernel
theorem dX5_ask_102 : decode cX5_ask 102 = .ok (.if_icmp .eq 7, 3) := by decide +kernel
theorem dX5_ask_105 : decode cX5_ask 105 = .ok (.iload_n 2, 1) := by decide +kernel
theorem dX5_ask_106 : decode cX5_ask 106 = .ok (.ifCond .ne 8, 3) := by decide +kernel
theorem dX5_ask_109 : decode cX5_ask 109 = .ok (.iload 6, 2) := by decide +kernel
theorem dX5_ask_111 : decode cX5_ask 111 = .ok (.goto 5, 3) := by decide +kernel
theorem dX5_ask_114 : decode cX5_ask 114 = .ok (.iload 5, 2) := by decide +kernel
theorem dX5_ask_116 : decode cX5_ask 116 = .ok (.ireturn, 1) := by decide +kernel
theorem dX5_drift_0 : decode cX5_drift 0 = .ok (.iload_n 2, 1) := by decide +kernel
theorem dX5_drift_1 : decode cX5_drift 1 = .ok (.iconst 1, 1) := by decide +kernel
theorem dX5_drift_2 : decode cX5_drift 2 = .ok (.sipush 300, 3) := by decide +kernel
theorem dX5_drift_5 : decode cX5_drift 5 = .ok (.invokestatic 59, 3) := by decide +kernel
theorem dX5_drift_8 : decode cX5_drift 8 = .ok (.ifCond .eq 12, 3) := by decide +kernel
theorem dX5_drift_11 : decode cX5_drift 11 = .ok (.iload_n 3, 1) := by decide +kernel
theorem dX5_drift_12 : decode cX5_drift 12 = .ok (.iconst 0, 1) := by decide +kernel
theorem dX5_drift_13 : decode cX5_drift 13 = .ok (.iconst 1, 1) := by decide +kernel
theorem dX5_drift_14 : decode cX5_drift 14 = .ok (.invokestatic 59, 3) := by decide +kernel
theorem dX5_drift_17 : decode cX5_drift 17 = .ok (.ifCond .ne 5, 3) := by decide +kernel
theorem dX5_drift_20 : decode cX5_drift 20 = .ok (.iconst (-1), 1) := by decide +kernel
theorem dX5_drift_21 : decode cX5_drift 21 = .ok (.ireturn, 1) := by decide +kernel
theorem dX5_drift_22 : decode cX5_drift 22 = .ok (.aload_n 0, 1) := by decide +kernel
theorem dX5_drift_23 : decode cX5_drift 23 = .ok (.getfield 12, 3) := by decide +kernel
theorem dX5_drift_26 : decode cX5_drift 26 = .ok (.getfield 96, 3) := by decide +kernel
theorem dX5_drift_29 : decode cX5_drift 29 = .ok (.ifCond .ne 6, 3) := by decide +kernel
theorem dX5_drift_32 : decode cX5_drift 32 = .ok (.bipush (-2), 2) := by decide +kernel
theorem dX5_drift_34 : decode cX5_drift 34 = .ok (.ireturn, 1) := by decide +kernel
theorem dX5_drift_35 : decode cX5_drift 35 = .ok (.aload_n 0, 1) := by decide +kernel
theorem dX5_drift_36 : decode cX5_drift 36 = .ok (.invokevirtual 112, 3) := by decide +kernel
theorem dX5_drift_39 : decode cX5_drift 39 = .ok (.pop, 1) := by decide +kernel
theorem dX5_drift_40 : decode cX5_drift 40 = .ok (.iload_n 1, 1) := by decide +kernel
theorem dX5_drift_41 : decode cX5_drift 41 = .ok (.istore 4, 2) := by decide +kernel
theorem dX5_drift_43 : decode cX5_drift 43 = .ok (.iconst 0, 1) := by decide +kernel
theorem dX5_drift_44 : decode cX5_drift 44 = .ok (.istore 5, 2) := by decide +kernel
theorem dX5_drift_46 : decode cX5_drift 46 = .ok (.iconst 0, 1) := by decide +kernel
theorem dX5_drift_47 : decode cX5_drift 47 = .ok (.istore 6, 2) := by decide +kernel
theorem dX5_drift_49 : decode cX5_drift 49 = .ok (.iload 6, 2) := by decide +kernel
theorem dX5_drift_51 : decode cX5_drift 51 = .ok (.iload_n 2, 1) := by decide +kernel
theorem dX5_drift_52 : decode cX5_drift 52 = .ok (.if_icmp .ge 73, 3) := by decide +kernel
theorem dX5_drift_55 : decode cX5_drift 55 = .ok (.iload 4, 2) := by decide +kernel
theorem dX5_drift_57 : decode cX5_drift 57 = .ok (.ldc 239, 2) := by decide +kernel
theorem dX5_drift_59 : decode cX5_drift 59 = .ok (.imul, 1) := by decide +kernel
theorem dX5_drift_60 : decode cX5_drift 60 = .ok (.sipush 12345, 3) := by decide +kernel
theorem dX5_drift_63 : decode cX5_drift 63 = .ok (.iadd, 1) := by decide +kernel
theorem dX5_drift_64 : decode cX5_drift 64 = .ok (.istore 4, 2) := by decide +kernel
theorem dX5_drift_66 : decode cX5_drift 66 = .ok (.iload 4, 2) := by decide +kernel
theorem dX5_drift_68 : decode cX5_drift 68 = .ok (.bipush 16, 2) := by decide +kernel
theorem dX5_drift_70 : decode cX5_drift 70 = .ok (.iushr, 1) := by decide +kernel
theorem dX5_drift_71 : decode cX5_drift 71 = .ok (.sipush 32767, 3) := by decide +kernel
theorem dX5_drift_74 : decode cX5_drift 74 = .ok (.iand, 1) := by decide +kernel
theorem dX5_drift_75 : decode cX5_drift 75 = .ok (.istore 7, 2) := by decide +kernel
theorem dX5_drift_77 : decode cX5_drift 77 = .ok (.aload_n 0, 1) := by decide +kernel
theorem dX5_drift_78 : decode cX5_drift 78 = .ok (.getfield 16, 3) := by decide +kernel
theorem dX5_drift_81 : decode cX5_drift 81 = .ok (.iload 7, 2) := by decide +kernel
theorem dX5_drift_83 : decode cX5_drift 83 = .ok (.aload_n 0, 1) := by decide +kernel
theorem dX5_drift_84 : decode cX5_drift 84 = .ok (.getfield 12, 3) := by decide +kernel
theorem dX5_drift_87 : decode cX5_drift 87 = .ok (.getfield 96, 3) := by decide +kernel
theorem dX5_drift_90 : decode cX5_drift 90 = .ok (.irem, 1) := by decide +kernel
theorem dX5_drift_91 : decode cX5_drift 91 = .ok (.iconst 1, 1) := by decide +kernel
theorem dX5_drift_92 : decode cX5_drift 92 = .ok (.iload 7, 2) := by decide +kernel
theorem dX5_drift_94 : decode cX5_drift 94 = .ok (.bipush 8, 2) := by decide +kernel
theorem dX5_drift_96 : decode cX5_drift 96 = .ok (.idiv, 1) := by decide +kernel
theorem dX5_drift_97 : decode cX5_drift 97 = .ok (.iconst 5, 1) := by decide +kernel
theorem dX5_drift_98 : decode cX5_drift 98 = .ok (.irem, 1) := by decide +kernel
theorem dX5_drift_99 : decode cX5_drift 99 = .ok (.iadd, 1) := by decide +kernel
theorem dX5_drift_100 : decode cX5_drift 100 = .ok (.invokevirtual 150, 3) := by decide +kernel
theorem dX5_drift_103 : decode cX5_drift 103 = .ok (.iload 5, 2) := by decide +kernel
theorem dX5_drift_105 : decode cX5_drift 105 = .ok (.aload_n 0, 1) := by decide +kernel
theorem dX5_drift_106 : decode cX5_drift 106 = .ok (.getfield 16, 3) := by decide +kernel
theorem dX5_drift_109 : decode cX5_drift 109 = .ok (.iconst 0, 1) := by decide +kernel
theorem dX5_drift_110 : decode cX5_drift 110 = .ok (.invokevirtual 116, 3) := by decide +kernel
theorem dX5_drift_113 : decode cX5_drift 113 = .ok (.invokestatic 162, 3) := by decide +kernel
theorem dX5_drift_116 : decode cX5_drift 116 = .ok (.iadd, 1) := by decide +kernel
theorem dX5_drift_117 : decode cX5_drift 117 = .ok (.istore 5, 2) := by decide +kernel
theorem dX5_drift_119 : decode cX5_drift 119 = .ok (.iinc 6 1, 3) := by decide +kernel
theorem dX5_drift_122 : decode cX5_drift 122 = .ok (.goto (-73), 3) := by decide +kernel
theorem dX5_drift_125 : decode cX5_drift 125 = .ok (.iload_n 3, 1) := by decide +kernel
theorem dX5_drift_126 : decode cX5_drift 126 = .ok (.ifCond .ne 8, 3) := by decide +kernel
theorem dX5_drift_129 : decode cX5_drift 129 = .ok (.iload 5, 2) := by decide +kernel
theorem dX5_drift_131 : decode cX5_drift 131 = .ok (.goto 10, 3) := by decide +kernel
theorem dX5_drift_134 : decode cX5_drift 134 = .ok (.aload_n 0, 1) := by decide +kernel
theorem dX5_drift_135 : decode cX5_drift 135 = .ok (.getfield 16, 3) := by decide +kernel
theorem dX5_drift_138 : decode cX5_drift 138 = .ok (.invokevirtual 172, 3) := by decide +kernel
theorem dX5_drift_141 : decode cX5_drift 141 = .ok (.ireturn, 1) := by decide +kernel
theorem dX5_keep_0 : decode cX5_keep 0 = .ok (.iload_n 1, 1) := by decide +kernel
theorem dX5_keep_1 : decode cX5_keep 1 = .ok (.iconst 0, 1) := by decide +kernel
theorem dX5_keep_2 : decode cX5_keep 2 = .ok (.iconst 1, 1) := by decide +kernel
theorem dX5_keep_3 : decode cX5_keep 3 = .ok (.invokestatic 59, 3) := by decide +kernel
theorem dX5_keep_6 : decode cX5_keep 6 = .ok (.ifCond .ne 5, 3) := by decide +kernel
theorem dX5_keep_9 : decode cX5_keep 9 = .ok (.iconst (-1), 1) := by decide +kernel
theorem dX5_keep_10 : decode cX5_keep 10 = .ok (.ireturn, 1) := by decide +kernel
theorem dX5_keep_11 : decode cX5_keep 11 = .ok (.aload_n 0, 1) := by decide +kernel
theorem dX5_keep_12 : decode cX5_keep 12 = .ok (.getfield 23, 3) := by decide +kernel
theorem dX5_keep_15 : decode cX5_keep 15 = .ok (.iload_n 1, 1) := by decide +kernel
theorem dX5_keep_16 : decode cX5_keep 16 = .ok (.baload, 1) := by decide +kernel
theorem dX5_keep_17 : decode cX5_keep 17 = .ok (.ifCond .eq 7, 3) := by decide +kernel
theorem dX5_keep_20 : decode cX5_keep 20 = .ok (.iconst 1, 1) := by decide +kernel
theorem dX5_keep_21 : decode cX5_keep 21 = .ok (.goto 4, 3) := by decide +kernel
theorem dX5_keep_24 : decode cX5_keep 24 = .ok (.iconst 0, 1) := by decide +kernel
theorem dX5_keep_25 : decode cX5_keep 25 = .ok (.istore_n 2, 1) := by decide +kernel
theorem dX5_keep_26 : decode cX5_keep 26 = .ok (.aload_n 0, 1) := by decide +kernel
theorem dX5_keep_27 : decode cX5_keep 27 = .ok (.getfield 19, 3) := by decide +kernel
theorem dX5_keep_30 : decode cX5_keep 30 = .ok (.iload_n 1, 1) := by decide +kernel
theorem dX5_keep_31 : decode cX5_keep 31 = .ok (.aaload, 1) := by decide +kernel
theorem dX5_keep_32 : decode cX5_keep 32 = .ok (.aload_n 0, 1) := by decide +kernel
theorem dX5_keep_33 : decode cX5_keep 33 = .ok (.getfield 12, 3) := by decide +kernel
theorem dX5_keep_36 : decode cX5_keep 36 = .ok (.invokevirtual 87, 3) := by decide +kernel
theorem dX5_keep_39 : decode cX5_keep 39 = .ok (.aload_n 0, 1) := by decide +kernel
theorem dX5_keep_40 : decode cX5_keep 40 = .ok (.getfield 23, 3) := by decide +kernel
theorem dX5_keep_43 : decode cX5_keep 43 = .ok (.iload_n 1, 1) := by decide +kernel
theorem dX5_keep_44 : decode cX5_keep 44 = .ok (.iconst 1, 1) := by decide +kernel
theorem dX5_keep_45 : decode cX5_keep 45 = .ok (.bastore, 1) := by decide +kernel
theorem dX5_keep_46 : decode cX5_keep 46 = .ok (.iload_n 2, 1) := by decide +kernel
theorem dX5_keep_47 : decode cX5_keep 47 = .ok (.ireturn, 1) := by decide +kernel
theorem dX5_back_0 : decode cX5_back 0 = .ok (.iload_n 1, 1) := by decide +kernel
theorem dX5_back_1 : decode cX5_back 1 = .ok (.iconst 0, 1) := by decide +kernel
theorem dX5_back_2 : decode cX5_back 2 = .ok (.iconst 1, 1) := by decide +kernel
theorem dX5_back_3 : decode cX5_back 3 = .ok (.invokestatic 59, 3) := by decide +kernel
theorem dX5_back_6 : decode cX5_back 6 = .ok (.ifCond .ne 5, 3) := by decide +kernel
theorem dX5_back_9 : decode cX5_back 9 = .ok (.iconst (-1), 1) := by decide +kernel
theorem dX5_back_10 : decode cX5_back 10 = .ok (.ireturn, 1) := by decide +kernel
theorem dX5_back_11 : decode cX5_back 11 = .ok (.aload_n 0, 1) := by decide +kernel
theorem dX5_back_12 : decode cX5_back 12 = .ok (.getfield 23, 3) := by decide +kernel
theorem dX5_back_15 : decode cX5_back 15 = .ok (.iload_n 1, 1) := by decide +kernel
theorem dX5_back_16 : decode cX5_back 16 = .ok (.baload, 1) := by decide +kernel
theorem dX5_back_17 : decode cX5_back 17 = .ok (.ifCond .ne 6, 3) := by decide +kernel
theorem dX5_back_20 : decode cX5_back 20 = .ok (.bipush (-2), 2) := by decide +kernel
theorem dX5_back_22 : decode cX5_back 22 = .ok (.ireturn, 1) := by decide +kernel
theorem dX5_back_23 : decode cX5_back 23 = .ok (.aload_n 0, 1) := by decide +kernel
theorem dX5_back_24 : decode cX5_back 24 = .ok (.getfield 12, 3) := by decide +kernel
theorem dX5_back_27 : decode cX5_back 27 = .ok (.aload_n 0, 1) := by decide +kernel
theorem dX5_back_28 : decode cX5_back 28 = .ok (.getfield 19, 3) := by decide +kernel
theorem dX5_back_31 : decode cX5_back 31 = .ok (.iload_n 1, 1) := by decide +kernel
theorem dX5_back_32 : decode cX5_back 32 = .ok (.aaload, 1) := by decide +kernel
theorem dX5_back_33 : decode cX5_back 33 = .ok (.invokevirtual 87, 3) := by decide +kernel
theorem dX5_back_36 : decode cX5_back 36 = .ok (.aload_n 0, 1) := by decide +kernel
theorem dX5_back_37 : decode cX5_back 37 = .ok (.getfield 12, 3) := by decide +kernel
theorem dX5_back_40 : decode cX5_back 40 = .ok (.getfield 102, 3) := by decide +kernel
theorem dX5_back_43 : decode cX5_back 43 = .ok (.ireturn, 1) := by decide +kernel
theorem dX5_sheet_0 : decode cX5_sheet 0 = .ok (.iload_n 1, 1) := by decide +kernel
theorem dX5_sheet_1 : decode cX5_sheet 1 = .ok (.invokestatic 240, 3) := by decide +kernel
theorem dX5_sheet_4 : decode cX5_sheet 4 = .ok (.ifCond .eq 18, 3) := by decide +kernel
theorem dX5_sheet_7 : decode cX5_sheet 7 = .ok (.iload_n 2, 1) := by decide +kernel
theorem dX5_sheet_8 : decode cX5_sheet 8 = .ok (.iconst 0, 1) := by decide +kernel
theorem dX5_sheet_9 : decode cX5_sheet 9 = .ok (.iconst 2, 1) := by decide +kernel
theorem dX5_sheet_10 : decode cX5_sheet 10 = .ok (.invokestatic 59, 3) := by decide +kernel
theorem dX5_sheet_13 : decode cX5_sheet 13 = .ok (.ifCond .eq 9, 3) := by decide +kernel
theorem dX5_sheet_16 : decode cX5_sheet 16 = .ok (.iload_n 3, 1) := by decide +kernel
theorem dX5_sheet_17 : decode cX5_sheet 17 = .ok (.bipush 40, 2) := by decide +kernel
theorem dX5_sheet_19 : decode cX5_sheet 19 = .ok (.if_icmp .le 5, 3) := by decide +kernel
theorem dX5_sheet_22 : decode cX5_sheet 22 = .ok (.iconst (-1), 1) := by decide +kernel
theorem dX5_sheet_23 : decode cX5_sheet 23 = .ok (.ireturn, 1) := by decide +kernel
theorem dX5_sheet_24 : decode cX5_sheet 24 = .ok (.iload_n 3, 1) := by decide +kernel
theorem dX5_sheet_25 : decode cX5_sheet 25 = .ok (.ifCond .ge 6, 3) := by decide +kernel
theorem dX5_sheet_28 : decode cX5_sheet 28 = .ok (.bipush (-14), 2) := by decide +kernel
theorem dX5_sheet_30 : decode cX5_sheet 30 = .ok (.ireturn, 1) := by decide +kernel
theorem dX5_sheet_31 : decode cX5_sheet 31 = .ok (.aload_n 0, 1) := by decide +kernel
theorem dX5_sheet_32 : decode cX5_sheet 32 = .ok (.getfield 43, 3) := by decide +kernel
theorem dX5_sheet_35 : decode cX5_sheet 35 = .ok (.iload_n 1, 1) := by decide +kernel
theorem dX5_sheet_36 : decode cX5_sheet 36 = .ok (.aaload, 1) := by decide +kernel
theorem dX5_sheet_37 : decode cX5_sheet 37 = .ok (.iload_n 2, 1) := by decide +kernel
theorem dX5_sheet_38 : decode cX5_sheet 38 = .ok (.iload_n 3, 1) := by decide +kernel
theorem dX5_sheet_39 : decode cX5_sheet 39 = .ok (.invokevirtual 243, 3) := by decide +kernel
theorem dX5_sheet_42 : decode cX5_sheet 42 = .ok (.iconst 1, 1) := by decide +kernel
theorem dX5_sheet_43 : decode cX5_sheet 43 = .ok (.ireturn, 1) := by decide +kernel
theorem dX5_lay_0 : decode cX5_lay 0 = .ok (.iload_n 1, 1) := by decide +kernel
theorem dX5_lay_1 : decode cX5_lay 1 = .ok (.invokestatic 240, 3) := by decide +kernel
theorem dX5_lay_4 : decode cX5_lay 4 = .ok (.ifCond .ne 5, 3) := by decide +kernel
theorem dX5_lay_7 : decode cX5_lay 7 = .ok (.iconst (-1), 1) := by decide +kernel
theorem dX5_lay_8 : decode cX5_lay 8 = .ok (.ireturn, 1) := by decide +kernel
theorem dX5_lay_9 : decode cX5_lay 9 = .ok (.aload_n 0, 1) := by decide +kernel
theorem dX5_lay_10 : decode cX5_lay 10 = .ok (.getfield 43, 3) := by decide +kernel
theorem dX5_lay_13 : decode cX5_lay 13 = .ok (.iload_n 1, 1) := by decide +kernel
theorem dX5_lay_14 : decode cX5_lay 14 = .ok (.aaload, 1) := by decide +kernel
theorem dX5_lay_15 : decode cX5_lay 15 = .ok (.iload_n 2, 1) := by decide +kernel
theorem dX5_lay_16 : decode cX5_lay 16 = .ok (.invokevirtual 246, 3) := by decide +kernel
theorem dX5_lay_19 : decode cX5_lay 19 = .ok (.istore 4, 2) := by decide +kernel
theorem dX5_lay_21 : decode cX5_lay 21 = .ok (.iload 4, 2) := by decide +kernel
theorem dX5_lay_23 : decode cX5_lay 23 = .ok (.ifCond .eq 9, 3) := by decide +kernel
theorem dX5_lay_26 : decode cX5_lay 26 = .ok (.bipush (-10), 2) := by decide +kernel
theorem dX5_lay_28 : decode cX5_lay 28 = .ok (.iload 4, 2) := by decide +kernel
theorem dX5_lay_30 : decode cX5_lay 30 = .ok (.isub, 1) := by decide +kernel
theorem dX5_lay_31 : decode cX5_lay 31 = .ok (.ireturn, 1) := by decide +kernel
theorem dX5_lay_32 : decode cX5_lay 32 = .ok (.aload_n 0, 1) := by decide +kernel
theorem dX5_lay_33 : decode cX5_lay 33 = .ok (.getfield 43, 3) := by decide +kernel
theorem dX5_lay_36 : decode cX5_lay 36 = .ok (.iload_n 1, 1) := by decide +kernel
theorem dX5_lay_37 : decode cX5_lay 37 = .ok (.aaload, 1) := by decide +kernel
theorem dX5_lay_38 : decode cX5_lay 38 = .ok (.iload_n 2, 1) := by decide +kernel
theorem dX5_lay_39 : decode cX5_lay 39 = .ok (.iload_n 3, 1) := by decide +kernel
theorem dX5_lay_40 : decode cX5_lay 40 = .ok (.invokevirtual 249, 3) := by decide +kernel
theorem dX5_lay_43 : decode cX5_lay 43 = .ok (.iconst 1, 1) := by decide +kernel
theorem dX5_lay_44 : decode cX5_lay 44 = .ok (.ireturn, 1) := by decide +kernel
theorem dX5_read_0 : decode cX5_read 0 = .ok (.iload_n 1, 1) := by decide +kernel
theorem dX5_read_1 : decode cX5_read 1 = .ok (.invokestatic 240, 3) := by decide +kernel
theorem dX5_read_4 : decode cX5_read 4 = .ok (.ifCond .eq 23, 3) := by decide +kernel
theorem dX5_read_7 : decode cX5_read 7 = .ok (.iload_n 2, 1) := by decide +kernel
theorem dX5_read_8 : decode cX5_read 8 = .ok (.iconst 0, 1) := by decide +kernel
theorem dX5_read_9 : decode cX5_read 9 = .ok (.iconst 2, 1) := by decide +kernel
theorem dX5_read_10 : decode cX5_read 10 = .ok (.invokestatic 59, 3) := by decide +kernel
theorem dX5_read_13 : decode cX5_read 13 = .ok (.ifCond .eq 14, 3) := by decide +kernel
theorem dX5_read_16 : decode cX5_read 16 = .ok (.iload 4, 2) := by decide +kernel
theorem dX5_read_18 : decode cX5_read 18 = .ok (.iconst 0, 1) := by decide +kernel
theorem dX5_read_19 : decode cX5_read 19 = .ok (.bipush 20, 2) := by decide +kernel
theorem dX5_read_21 : decode cX5_read 21 = .ok (.invokestatic 59, 3) := by decide +kernel
theorem dX5_read_24 : decode cX5_read 24 = .ok (.ifCond .ne 5, 3) := by decide +kernel
theorem dX5_read_27 : decode cX5_read 27 = .ok (.iconst (-1), 1) := by decide +kernel
theorem dX5_read_28 : decode cX5_read 28 = .ok (.ireturn, 1) := by decide +kernel
theorem dX5_read_29 : decode cX5_read 29 = .ok (.aload_n 0, 1) := by decide +kernel
theorem dX5_read_30 : decode cX5_read 30 = .ok (.invokevirtual 112, 3) := by decide +kernel
theorem dX5_read_33 : decode cX5_read 33 = .ok (.pop, 1) := by decide +kernel
theorem dX5_read_34 : decode cX5_read 34 = .ok (.aload_n 0, 1) := by decide +kernel
theorem dX5_read_35 : decode cX5_read 35 = .ok (.getfield 43, 3) := by decide +kernel
theorem dX5_read_38 : decode cX5_read 38 = .ok (.iload_n 1, 1) := by decide +kernel
theorem dX5_read_39 : decode cX5_read 39 = .ok (.aaload, 1) := by decide +kernel
theorem dX5_read_40 : decode cX5_read 40 = .ok (.astore 5, 2) := by decide +kernel
theorem dX5_read_42 : decode cX5_read 42 = .ok (.iconst 0, 1) := by decide +kernel
theorem dX5_read_43 : decode cX5_read 43 = .ok (.istore 6, 2) := by decide +kernel
theorem dX5_read_45 : decode cX5_read 45 = .ok (.iconst 0, 1) := by decide +kernel
theorem dX5_read_46 : decode cX5_read 46 = .ok (.istore 7, 2) := by decide +kernel
theorem dX5_read_48 : decode cX5_read 48 = .ok (.iload 6, 2) := by decide +kernel
theorem dX5_read_50 : decode cX5_read 50 = .ok (.iload 4, 2) := by decide +kernel
theorem dX5_read_52 : decode cX5_read 52 = .ok (.if_icmp .ge 69, 3) := by decide +kernel
theorem dX5_read_55 : decode cX5_read 55 = .ok (.iload_n 3, 1) := by decide +kernel
theorem dX5_read_56 : decode cX5_read 56 = .ok (.iconst 2, 1) := by decide +kernel
theorem dX5_read_57 : decode cX5_read 57 = .ok (.iload 6, 2) := by decide +kernel
theorem dX5_read_59 : decode cX5_read 59 = .ok (.imul, 1) := by decide +kernel
theorem dX5_read_60 : decode cX5_read 60 = .ok (.iadd, 1) := by decide +kernel
theorem dX5_read_61 : decode cX5_read 61 = .ok (.istore 8, 2) := by decide +kernel
theorem dX5_read_63 : decode cX5_read 63 = .ok (.aload 5, 2) := by decide +kernel
theorem dX5_read_65 : decode cX5_read 65 = .ok (.iload_n 2, 1) := by decide +kernel
theorem dX5_read_66 : decode cX5_read 66 = .ok (.iload 8, 2) := by decide +kernel
theorem dX5_read_68 : decode cX5_read 68 = .ok (.invokevirtual 252, 3) := by decide +kernel
theorem dX5_read_71 : decode cX5_read 71 = .ok (.istore 7, 2) := by decide +kernel
theorem dX5_read_73 : decode cX5_read 73 = .ok (.iload 7, 2) := by decide +kernel
theorem dX5_read_75 : decode cX5_read 75 = .ok (.ifCond .eq 6, 3) := by decide +kernel
theorem dX5_read_78 : decode cX5_read 78 = .ok (.goto 43, 3) := by decide +kernel
theorem dX5_read_81 : decode cX5_read 81 = .ok (.aload_n 0, 1) := by decide +kernel
theorem dX5_read_82 : decode cX5_read 82 = .ok (.getfield 16, 3) := by decide +kernel
theorem dX5_read_85 : decode cX5_read 85 = .ok (.aload 5, 2) := by decide +kernel
theorem dX5_read_87 : decode cX5_read 87 = .ok (.getfield 255, 3) := by decide +kernel
theorem dX5_read_90 : decode cX5_read 90 = .ok (.iload 8, 2) := by decide +kernel
theorem dX5_read_92 : decode cX5_read 92 = .ok (.iaload, 1) := by decide +kernel
theorem dX5_read_93 : decode cX5_read 93 = .ok (.aload 5, 2) := by decide +kernel
theorem dX5_read_95 : decode cX5_read 95 = .ok (.getfield 255, 3) := by decide +kernel
theorem dX5_read_98 : decode cX5_read 98 = .ok (.iload 8, 2) := by decide +kernel
theorem dX5_read_100 : decode cX5_read 100 = .ok (.iconst 1, 1) := by decide +kernel
theorem dX5_read_101 : decode cX5_read 101 = .ok (.iadd, 1) := by decide +kernel
theorem dX5_read_102 : decode cX5_read 102 = .ok (.iaload, 1) := by decide +kernel
theorem dX5_read_103 : decode cX5_read 103 = .ok (.invokevirtual 258, 3) := by decide +kernel
theorem dX5_read_106 : decode cX5_read 106 = .ok (.ifCond .ne 9, 3) := by decide +kernel
theorem dX5_read_109 : decode cX5_read 109 = .ok (.bipush (-20), 2) := by decide +kernel
theorem dX5_read_111 : decode cX5_read 111 = .ok (.iload 6, 2) := by decide +kernel
theorem dX5_read_113 : decode cX5_read 113 = .ok (.isub, 1) := by decide +kernel
theorem dX5_read_114 : decode cX5_read 114 = .ok (.ireturn, 1) := by decide +kernel
theorem dX5_read_115 : decode cX5_read 115 = .ok (.iinc 6 1, 3) := by decide +kernel
theorem dX5_read_118 : decode cX5_read 118 = .ok (.goto (-70), 3) := by decide +kernel
theorem dX5_read_121 : decode cX5_read 121 = .ok (.aload_n 0, 1) := by decide +kernel
theorem dX5_read_122 : decode cX5_read 122 = .ok (.getfield 12, 3) := by decide +kernel
theorem dX5_read_125 : decode cX5_read 125 = .ok (.aload_n 0, 1) := by decide +kernel
theorem dX5_read_126 : decode cX5_read 126 = .ok (.getfield 16, 3) := by decide +kernel
theorem dX5_read_129 : decode cX5_read 129 = .ok (.invokevirtual 87, 3) := by decide +kernel
theorem dX5_read_132 : decode cX5_read 132 = .ok (.aload_n 0, 1) := by decide +kernel
theorem dX5_read_133 : decode cX5_read 133 = .ok (.iload 7, 2) := by decide +kernel
theorem dX5_read_135 : decode cX5_read 135 = .ok (.putfield 261, 3) := by decide +kernel
theorem dX5_read_138 : decode cX5_read 138 = .ok (.iload 6, 2) := by decide +kernel
theorem dX5_read_140 : decode cX5_read 140 = .ok (.ireturn, 1) := by decide +kernel
theorem dX5_torn_0 : decode cX5_torn 0 = .ok (.aload_n 0, 1) := by decide +kernel
theorem dX5_torn_1 : decode cX5_torn 1 = .ok (.getfield 261, 3) := by decide +kernel
theorem dX5_torn_4 : decode cX5_torn 4 = .ok (.ireturn, 1) := by decide +kernel
theorem dX5_count_0 : decode cX5_count 0 = .ok (.iload_n 1, 1) := by decide +kernel
theorem dX5_count_1 : decode cX5_count 1 = .ok (.tableswitch 112 0 5 #[39, 47, 52, 60, 88, 100], 39) := by decide +kernel
theorem dX5_count_40 : decode cX5_count 40 = .ok (.aload_n 0, 1) := by decide +kernel
theorem dX5_count_41 : decode cX5_count 41 = .ok (.getfield 37, 3) := by decide +kernel
theorem dX5_count_44 : decode cX5_count 44 = .ok (.getfield 90, 3) := by decide +kernel
theorem dX5_count_47 : decode cX5_count 47 = .ok (.ireturn, 1) := by decide +kernel
theorem dX5_count_48 : decode cX5_count 48 = .ok (.aload_n 0, 1) := by decide +kernel
theorem dX5_count_49 : decode cX5_count 49 = .ok (.invokevirtual 264, 3) := by decide +kernel
theorem dX5_count_52 : decode cX5_count 52 = .ok (.ireturn, 1) := by decide +kernel
theorem dX5_count_53 : decode cX5_count 53 = .ok (.aload_n 0, 1) := by decide +kernel
theorem dX5_count_54 : decode cX5_count 54 = .ok (.getfield 30, 3) := by decide +kernel
theorem dX5_count_57 : decode cX5_count 57 = .ok (.getfield 63, 3) := by decide +kernel
theorem dX5_count_60 : decode cX5_count 60 = .ok (.ireturn, 1) := by decide +kernel
theorem dX5_count_61 : decode cX5_count 61 = .ok (.aload_n 0, 1) := by decide +kernel
theorem dX5_count_62 : decode cX5_count 62 = .ok (.getfield 43, 3) := by decide +kernel
theorem dX5_count_65 : decode cX5_count 65 = .ok (.iconst 0, 1) := by decide +kernel
theorem dX5_count_66 : decode cX5_count 66 = .ok (.aaload, 1) := by decide +kernel
theorem dX5_count_67 : decode cX5_count 67 = .ok (.getfield 267, 3) := by decide +kernel
theorem dX5_count_70 : decode cX5_count 70 = .ok (.iconst (-1), 1) := by decide +kernel
theorem dX5_count_71 : decode cX5_count 71 = .ok (.if_icmp .ne 8, 3) := by decide +kernel
theorem dX5_count_74 : decode cX5_count 74 = .ok (.bipush (-4), 2) := by decide +kernel
theorem dX5_count_76 : decode cX5_count 76 = .ok (.goto 12, 3) := by decide +kernel
theorem dX5_count_79 : decode cX5_count 79 = .ok (.aload_n 0, 1) := by decide +kernel
theorem dX5_count_80 : decode cX5_count 80 = .ok (.getfield 43, 3) := by decide +kernel
theorem dX5_count_83 : decode cX5_count 83 = .ok (.iconst 0, 1) := by decide +kernel
theorem dX5_count_84 : decode cX5_count 84 = .ok (.aaload, 1) := by decide +kernel
theorem dX5_count_85 : decode cX5_count 85 = .ok (.getfield 270, 3) := by decide +kernel
theorem dX5_count_88 : decode cX5_count 88 = .ok (.ireturn, 1) := by decide +kernel
theorem dX5_count_89 : decode cX5_count 89 = .ok (.aload_n 0, 1) := by decide +kernel
theorem dX5_count_90 : decode cX5_count 90 = .ok (.aload_n 0, 1) := by decide +kernel
theorem dX5_count_91 : decode cX5_count 91 = .ok (.getfield 12, 3) := by decide +kernel
theorem dX5_count_94 : decode cX5_count 94 = .ok (.getfield 130, 3) := by decide +kernel
theorem dX5_count_97 : decode cX5_count 97 = .ok (.invokevirtual 108, 3) := by decide +kernel
theorem dX5_count_100 : decode cX5_count 100 = .ok (.ireturn, 1) := by decide +kernel
theorem dX5_count_101 : decode cX5_count 101 = .ok (.aload_n 0, 1) := by decide +kernel
theorem dX5_count_102 : decode cX5_count 102 = .ok (.aload_n 0, 1) := by decide +kernel
theorem dX5_count_103 : decode cX5_count 103 = .ok (.getfield 12, 3) := by decide +kernel
theorem dX5_count_106 : decode cX5_count 106 = .ok (.getfield 127, 3) := by decide +kernel
theorem dX5_count_109 : decode cX5_count 109 = .ok (.invokevirtual 108, 3) := by decide +kernel
theorem dX5_count_112 : decode cX5_count 112 = .ok (.ireturn, 1) := by decide +kernel
theorem dX5_count_113 : decode cX5_count 113 = .ok (.iconst (-1), 1) := by decide +kernel
theorem dX5_count_114 : decode cX5_count 114 = .ok (.ireturn, 1) := by decide +kernel
theorem dX5_isWithin_0 : decode cX5_isWithin 0 = .ok (.iload_n 0, 1) := by decide +kernel
theorem dX5_isWithin_1 : decode cX5_isWithin 1 = .ok (.iload_n 1, 1) := by decide +kernel
theorem dX5_isWithin_2 : decode cX5_isWithin 2 = .ok (.if_icmp .lt 12, 3) := by decide +kernel
theorem dX5_isWithin_5 : decode cX5_isWithin 5 = .ok (.iload_n 0, 1) := by decide +kernel
theorem dX5_isWithin_6 : decode cX5_isWithin 6 = .ok (.iload_n 2, 1) := by decide +kernel
theorem dX5_isWithin_7 : decode cX5_isWithin 7 = .ok (.if_icmp .gt 7, 3) := by decide +kernel
theorem dX5_isWithin_10 : decode cX5_isWithin 10 = .ok (.iconst 1, 1) := by decide +kernel
theorem dX5_isWithin_11 : decode cX5_isWithin 11 = .ok (.goto 4, 3) := by decide +kernel
theorem dX5_isWithin_14 : decode cX5_isWithin 14 = .ok (.iconst 0, 1) := by decide +kernel
theorem dX5_isWithin_15 : decode cX5_isWithin 15 = .ok (.ireturn, 1) := by decide +kernel
theorem dX5_isBitSet_0 : decode cX5_isBitSet 0 = .ok (.iload_n 0, 1) := by decide +kernel
theorem dX5_isBitSet_1 : decode cX5_isBitSet 1 = .ok (.iload_n 1, 1) := by decide +kernel
theorem dX5_isBitSet_2 : decode cX5_isBitSet 2 = .ok (.ishr, 1) := by decide +kernel
theorem dX5_isBitSet_3 : decode cX5_isBitSet 3 = .ok (.iconst 1, 1) := by decide +kernel
theorem dX5_isBitSet_4 : decode cX5_isBitSet 4 = .ok (.iand, 1) := by decide +kernel
theorem dX5_isBitSet_5 : decode cX5_isBitSet 5 = .ok (.ifCond .eq 7, 3) := by decide +kernel
theorem dX5_isBitSet_8 : decode cX5_isBitSet 8 = .ok (.iconst 1, 1) := by decide +kernel
theorem dX5_isBitSet_9 : decode cX5_isBitSet 9 = .ok (.goto 4, 3) := by decide +kernel
theorem dX5_isBitSet_12 : decode cX5_isBitSet 12 = .ok (.iconst 0, 1) := by decide +kernel
theorem dX5_isBitSet_13 : decode cX5_isBitSet 13 = .ok (.ireturn, 1) := by decide +kernel
theorem dX5_isClock_0 : decode cX5_isClock 0 = .ok (.iload_n 1, 1) := by decide +kernel
theorem dX5_isClock_1 : decode cX5_isClock 1 = .ok (.ifCond .lt 18, 3) := by decide +kernel
theorem dX5_isClock_4 : decode cX5_isClock 4 = .ok (.iload_n 1, 1) := by decide +kernel
theorem dX5_isClock_5 : decode cX5_isClock 5 = .ok (.aload_n 0, 1) := by decide +kernel
theorem dX5_isClock_6 : decode cX5_isClock 6 = .ok (.getfield 12, 3) := by decide +kernel
theorem dX5_isClock_9 : decode cX5_isClock 9 = .ok (.getfield 96, 3) := by decide +kernel
theorem dX5_isClock_12 : decode cX5_isClock 12 = .ok (.if_icmp .ge 7, 3) := by decide +kernel
theorem dX5_isClock_15 : decode cX5_isClock 15 = .ok (.iconst 1, 1) := by decide +kernel
theorem dX5_isClock_16 : decode cX5_isClock 16 = .ok (.goto 4, 3) := by decide +kernel
theorem dX5_isClock_19 : decode cX5_isClock 19 = .ok (.iconst 0, 1) := by decide +kernel
theorem dX5_isClock_20 : decode cX5_isClock 20 = .ok (.ireturn, 1) := by decide +kernel
theorem dX5_isSheet_0 : decode cX5_isSheet 0 = .ok (.iload_n 0, 1) := by decide +kernel
theorem dX5_isSheet_1 : decode cX5_isSheet 1 = .ok (.ifCond .lt 12, 3) := by decide +kernel
theorem dX5_isSheet_4 : decode cX5_isSheet 4 = .ok (.iload_n 0, 1) := by decide +kernel
theorem dX5_isSheet_5 : decode cX5_isSheet 5 = .ok (.iconst 4, 1) := by decide +kernel
theorem dX5_isSheet_6 : decode cX5_isSheet 6 = .ok (.if_icmp .ge 7, 3) := by decide +kernel
theorem dX5_isSheet_9 : decode cX5_isSheet 9 = .ok (.iconst 1, 1) := by decide +kernel
theorem dX5_isSheet_10 : decode cX5_isSheet 10 = .ok (.goto 4, 3) := by decide +kernel
theorem dX5_isSheet_13 : decode cX5_isSheet 13 = .ok (.iconst 0, 1) := by decide +kernel
theorem dX5_isSheet_14 : decode cX5_isSheet 14 = .ok (.ireturn, 1) := by decide +kernel
theorem dX5_imagesKept_0 : decode cX5_imagesKept 0 = .ok (.iconst 0, 1) := by decide +kernel
theorem dX5_imagesKept_1 : decode cX5_imagesKept 1 = .ok (.istore_n 1, 1) := by decide +kernel
theorem dX5_imagesKept_2 : decode cX5_imagesKept 2 = .ok (.iconst 0, 1) := by decide +kernel
theorem dX5_imagesKept_3 : decode cX5_imagesKept 3 = .ok (.istore_n 2, 1) := by decide +kernel
theorem dX5_imagesKept_4 : decode cX5_imagesKept 4 = .ok (.iload_n 2, 1) := by decide +kernel
theorem dX5_imagesKept_5 : decode cX5_imagesKept 5 = .ok (.iconst 2, 1) := by decide +kernel
theorem dX5_imagesKept_6 : decode cX5_imagesKept 6 = .ok (.if_icmp .ge 26, 3) := by decide +kernel
theorem dX5_imagesKept_9 : decode cX5_imagesKept 9 = .ok (.iload_n 1, 1) := by decide +kernel
theorem dX5_imagesKept_10 : decode cX5_imagesKept 10 = .ok (.aload_n 0, 1) := by decide +kernel
theorem dX5_imagesKept_11 : decode cX5_imagesKept 11 = .ok (.getfield 23, 3) := by decide +kernel
theorem dX5_imagesKept_14 : decode cX5_imagesKept 14 = .ok (.iload_n 2, 1) := by decide +kernel
theorem dX5_imagesKept_15 : decode cX5_imagesKept 15 = .ok (.baload, 1) := by decide +kernel
theorem dX5_imagesKept_16 : decode cX5_imagesKept 16 = .ok (.ifCond .eq 7, 3) := by decide +kernel
theorem dX5_imagesKept_19 : decode cX5_imagesKept 19 = .ok (.iconst 1, 1) := by decide +kernel
theorem dX5_imagesKept_20 : decode cX5_imagesKept 20 = .ok (.goto 4, 3) := by decide +kernel
theorem dX5_imagesKept_23 : decode cX5_imagesKept 23 = .ok (.iconst 0, 1) := by decide +kernel
theorem dX5_imagesKept_24 : decode cX5_imagesKept 24 = .ok (.iadd, 1) := by decide +kernel
theorem dX5_imagesKept_25 : decode cX5_imagesKept 25 = .ok (.istore_n 1, 1) := by decide +kernel
theorem dX5_imagesKept_26 : decode cX5_imagesKept 26 = .ok (.iinc 2 1, 3) := by decide +kernel
theorem dX5_imagesKept_29 : decode cX5_imagesKept 29 = .ok (.goto (-25), 3) := by decide +kernel
theorem dX5_imagesKept_32 : decode cX5_imagesKept 32 = .ok (.iload_n 1, 1) := by decide +kernel
theorem dX5_imagesKept_33 : decode cX5_imagesKept 33 = .ok (.ireturn, 1) := by decide +kernel
theorem dX5_sumOf_0 : decode cX5_sumOf 0 = .ok (.iconst 0, 1) := by decide +kernel
theorem dX5_sumOf_1 : decode cX5_sumOf 1 = .ok (.istore_n 2, 1) := by decide +kernel
theorem dX5_sumOf_2 : decode cX5_sumOf 2 = .ok (.iconst 0, 1) := by decide +kernel
theorem dX5_sumOf_3 : decode cX5_sumOf 3 = .ok (.istore_n 3, 1) := by decide +kernel
theorem dX5_sumOf_4 : decode cX5_sumOf 4 = .ok (.iload_n 3, 1) := by decide +kernel
theorem dX5_sumOf_5 : decode cX5_sumOf 5 = .ok (.aload_n 0, 1) := by decide +kernel
theorem dX5_sumOf_6 : decode cX5_sumOf 6 = .ok (.getfield 12, 3) := by decide +kernel
theorem dX5_sumOf_9 : decode cX5_sumOf 9 = .ok (.getfield 96, 3) := by decide +kernel
theorem dX5_sumOf_12 : decode cX5_sumOf 12 = .ok (.if_icmp .ge 15, 3) := by decide +kernel
theorem dX5_sumOf_15 : decode cX5_sumOf 15 = .ok (.iload_n 2, 1) := by decide +kernel
theorem dX5_sumOf_16 : decode cX5_sumOf 16 = .ok (.aload_n 1, 1) := by decide +kernel
theorem dX5_sumOf_17 : decode cX5_sumOf 17 = .ok (.iload_n 3, 1) := by decide +kernel
theorem dX5_sumOf_18 : decode cX5_sumOf 18 = .ok (.iaload, 1) := by decide +kernel
theorem dX5_sumOf_19 : decode cX5_sumOf 19 = .ok (.iadd, 1) := by decide +kernel
theorem dX5_sumOf_20 : decode cX5_sumOf 20 = .ok (.istore_n 2, 1) := by decide +kernel
theorem dX5_sumOf_21 : decode cX5_sumOf 21 = .ok (.iinc 3 1, 3) := by decide +kernel
theorem dX5_sumOf_24 : decode cX5_sumOf 24 = .ok (.goto (-20), 3) := by decide +kernel
theorem dX5_sumOf_27 : decode cX5_sumOf 27 = .ok (.iload_n 2, 1) := by decide +kernel
theorem dX5_sumOf_28 : decode cX5_sumOf 28 = .ok (.ireturn, 1) := by decide +kernel
theorem dX5_tryNow_0 : decode cX5_tryNow 0 = .ok (.aload_n 0, 1) := by decide +kernel
theorem dX5_tryNow_1 : decode cX5_tryNow 1 = .ok (.getfield 16, 3) := by decide +kernel
theorem dX5_tryNow_4 : decode cX5_tryNow 4 = .ok (.aload_n 0, 1) := by decide +kernel
theorem dX5_tryNow_5 : decode cX5_tryNow 5 = .ok (.getfield 12, 3) := by decide +kernel
theorem dX5_tryNow_8 : decode cX5_tryNow 8 = .ok (.invokevirtual 87, 3) := by decide +kernel
theorem dX5_tryNow_11 : decode cX5_tryNow 11 = .ok (.aload_n 0, 1) := by decide +kernel
theorem dX5_tryNow_12 : decode cX5_tryNow 12 = .ok (.getfield 16, 3) := by decide +kernel
theorem dX5_tryNow_15 : decode cX5_tryNow 15 = .ok (.areturn, 1) := by decide +kernel
theorem dX5_tryKind_0 : decode cX5_tryKind 0 = .ok (.aload_n 0, 1) := by decide +kernel
theorem dX5_tryKind_1 : decode cX5_tryKind 1 = .ok (.invokevirtual 112, 3) := by decide +kernel
theorem dX5_tryKind_4 : decode cX5_tryKind 4 = .ok (.getfield 127, 3) := by decide +kernel
theorem dX5_tryKind_7 : decode cX5_tryKind 7 = .ok (.iload_n 1, 1) := by decide +kernel
theorem dX5_tryKind_8 : decode cX5_tryKind 8 = .ok (.iload_n 2, 1) := by decide +kernel
theorem dX5_tryKind_9 : decode cX5_tryKind 9 = .ok (.iastore, 1) := by decide +kernel
theorem dX5_tryKind_10 : decode cX5_tryKind 10 = .ok (.aload_n 0, 1) := by decide +kernel
theorem dX5_tryKind_11 : decode cX5_tryKind 11 = .ok (.getfield 16, 3) := by decide +kernel
theorem dX5_tryKind_14 : decode cX5_tryKind 14 = .ok (.areturn, 1) := by decide +kernel
theorem dX5_tryPeriod_0 : decode cX5_tryPeriod 0 = .ok (.aload_n 0, 1) := by decide +kernel
theorem dX5_tryPeriod_1 : decode cX5_tryPeriod 1 = .ok (.invokevirtual 112, 3) := by decide +kernel
theorem dX5_tryPeriod_4 : decode cX5_tryPeriod 4 = .ok (.getfield 130, 3) := by decide +kernel
theorem dX5_tryPeriod_7 : decode cX5_tryPeriod 7 = .ok (.iload_n 1, 1) := by decide +kernel
theorem dX5_tryPeriod_8 : decode cX5_tryPeriod 8 = .ok (.iload_n 2, 1) := by decide +kernel
theorem dX5_tryPeriod_9 : decode cX5_tryPeriod 9 = .ok (.iastore, 1) := by decide +kernel
theorem dX5_tryPeriod_10 : decode cX5_tryPeriod 10 = .ok (.aload_n 0, 1) := by decide +kernel
theorem dX5_tryPeriod_11 : decode cX5_tryPeriod 11 = .ok (.getfield 16, 3) := by decide +kernel
theorem dX5_tryPeriod_14 : decode cX5_tryPeriod 14 = .ok (.getfield 120, 3) := by decide +kernel
theorem dX5_tryPeriod_17 : decode cX5_tryPeriod 17 = .ok (.iload_n 1, 1) := by decide +kernel
theorem dX5_tryPeriod_18 : decode cX5_tryPeriod 18 = .ok (.aload_n 0, 1) := by decide +kernel
theorem dX5_tryPeriod_19 : decode cX5_tryPeriod 19 = .ok (.getfield 16, 3) := by decide +kernel
theorem dX5_tryPeriod_22 : decode cX5_tryPeriod 22 = .ok (.getfield 120, 3) := by decide +kernel
theorem dX5_tryPeriod_25 : decode cX5_tryPeriod 25 = .ok (.iload_n 1, 1) := by decide +kernel
theorem dX5_tryPeriod_26 : decode cX5_tryPeriod 26 = .ok (.iaload, 1) := by decide +kernel
theorem dX5_tryPeriod_27 : decode cX5_tryPeriod 27 = .ok (.iload_n 2, 1) := by decide +kernel
theorem dX5_tryPeriod_28 : decode cX5_tryPeriod 28 = .ok (.iconst 1, 1) := by decide +kernel
theorem dX5_tryPeriod_29 : decode cX5_tryPeriod 29 = .ok (.isub, 1) := by decide +kernel
theorem dX5_tryPeriod_30 : decode cX5_tryPeriod 30 = .ok (.invokestatic 273, 3) := by decide +kernel
theorem dX5_tryPeriod_33 : decode cX5_tryPeriod 33 = .ok (.iastore, 1) := by decide +kernel
theorem dX5_tryPeriod_34 : decode cX5_tryPeriod 34 = .ok (.aload_n 0, 1) := by decide +kernel
theorem dX5_tryPeriod_35 : decode cX5_tryPeriod 35 = .ok (.getfield 16, 3) := by decide +kernel
theorem dX5_tryPeriod_38 : decode cX5_tryPeriod 38 = .ok (.areturn, 1) := by decide +kernel
theorem dX5_tryHand_0 : decode cX5_tryHand 0 = .ok (.aload_n 0, 1) := by decide +kernel
theorem dX5_tryHand_1 : decode cX5_tryHand 1 = .ok (.invokevirtual 112, 3) := by decide +kernel
theorem dX5_tryHand_4 : decode cX5_tryHand 4 = .ok (.getfield 120, 3) := by decide +kernel
theorem dX5_tryHand_7 : decode cX5_tryHand 7 = .ok (.iload_n 1, 1) := by decide +kernel
theorem dX5_tryHand_8 : decode cX5_tryHand 8 = .ok (.iload_n 2, 1) := by decide +kernel
theorem dX5_tryHand_9 : decode cX5_tryHand 9 = .ok (.iastore, 1) := by decide +kernel
theorem dX5_tryHand_10 : decode cX5_tryHand 10 = .ok (.aload_n 0, 1) := by decide +kernel
theorem dX5_tryHand_11 : decode cX5_tryHand 11 = .ok (.getfield 16, 3) := by decide +kernel
theorem dX5_tryHand_14 : decode cX5_tryHand 14 = .ok (.areturn, 1) := by decide +kernel
theorem dX5_handsAsSeen_0 : decode cX5_handsAsSeen 0 = .ok (.iconst 0, 1) := by decide +kernel
theorem dX5_handsAsSeen_1 : decode cX5_handsAsSeen 1 = .ok (.istore_n 2, 1) := by decide +kernel
theorem dX5_handsAsSeen_2 : decode cX5_handsAsSeen 2 = .ok (.iconst 0, 1) := by decide +kernel
theorem dX5_handsAsSeen_3 : decode cX5_handsAsSeen 3 = .ok (.istore_n 3, 1) := by decide +kernel
theorem dX5_handsAsSeen_4 : decode cX5_handsAsSeen 4 = .ok (.iload_n 3, 1) := by decide +kernel
theorem dX5_handsAsSeen_5 : decode cX5_handsAsSeen 5 = .ok (.aload_n 0, 1) := by decide +kernel
theorem dX5_handsAsSeen_6 : decode cX5_handsAsSeen 6 = .ok (.getfield 12, 3) := by decide +kernel
theorem dX5_handsAsSeen_9 : decode cX5_handsAsSeen 9 = .ok (.getfield 130, 3) := by decide +kernel
theorem dX5_handsAsSeen_12 : decode cX5_handsAsSeen 12 = .ok (.iload_n 1, 1) := by decide +kernel
theorem dX5_handsAsSeen_13 : decode cX5_handsAsSeen 13 = .ok (.iaload, 1) := by decide +kernel
theorem dX5_handsAsSeen_14 : decode cX5_handsAsSeen 14 = .ok (.if_icmp .ge 31, 3) := by decide +kernel
theorem dX5_handsAsSeen_17 : decode cX5_handsAsSeen 17 = .ok (.aload_n 0, 1) := by decide +kernel
theorem dX5_handsAsSeen_18 : decode cX5_handsAsSeen 18 = .ok (.getfield 37, 3) := by decide +kernel
theorem dX5_handsAsSeen_21 : decode cX5_handsAsSeen 21 = .ok (.aload_n 0, 1) := by decide +kernel
theorem dX5_handsAsSeen_22 : decode cX5_handsAsSeen 22 = .ok (.iload_n 1, 1) := by decide +kernel
theorem dX5_handsAsSeen_23 : decode cX5_handsAsSeen 23 = .ok (.iload_n 3, 1) := by decide +kernel
theorem dX5_handsAsSeen_24 : decode cX5_handsAsSeen 24 = .ok (.invokevirtual 197, 3) := by decide +kernel
theorem dX5_handsAsSeen_27 : decode cX5_handsAsSeen 27 = .ok (.invokevirtual 230, 3) := by decide +kernel
theorem dX5_handsAsSeen_30 : decode cX5_handsAsSeen 30 = .ok (.ifCond .eq 9, 3) := by decide +kernel
theorem dX5_handsAsSeen_33 : decode cX5_handsAsSeen 33 = .ok (.iload_n 2, 1) := by decide +kernel
theorem dX5_handsAsSeen_34 : decode cX5_handsAsSeen 34 = .ok (.iconst 1, 1) := by decide +kernel
theorem dX5_handsAsSeen_35 : decode cX5_handsAsSeen 35 = .ok (.iload_n 3, 1) := by decide +kernel
theorem dX5_handsAsSeen_36 : decode cX5_handsAsSeen 36 = .ok (.ishl, 1) := by decide +kernel
theorem dX5_handsAsSeen_37 : decode cX5_handsAsSeen 37 = .ok (.ior, 1) := by decide +kernel
theorem dX5_handsAsSeen_38 : decode cX5_handsAsSeen 38 = .ok (.istore_n 2, 1) := by decide +kernel
theorem dX5_handsAsSeen_39 : decode cX5_handsAsSeen 39 = .ok (.iinc 3 1, 3) := by decide +kernel
theorem dX5_handsAsSeen_42 : decode cX5_handsAsSeen 42 = .ok (.goto (-38), 3) := by decide +kernel
theorem dX5_handsAsSeen_45 : decode cX5_handsAsSeen 45 = .ok (.iload_n 2, 1) := by decide +kernel
theorem dX5_handsAsSeen_46 : decode cX5_handsAsSeen 46 = .ok (.ireturn, 1) := by decide +kernel
theorem dX5_listenForAll_0 : decode cX5_listenForAll 0 = .ok (.aload_n 0, 1) := by decide +kernel
theorem dX5_listenForAll_1 : decode cX5_listenForAll 1 = .ok (.getfield 54, 3) := by decide +kernel
theorem dX5_listenForAll_4 : decode cX5_listenForAll 4 = .ok (.iconst 0, 1) := by decide +kernel
theorem dX5_listenForAll_5 : decode cX5_listenForAll 5 = .ok (.invokestatic 276, 3) := by decide +kernel
theorem dX5_listenForAll_8 : decode cX5_listenForAll 8 = .ok (.iconst 0, 1) := by decide +kernel
theorem dX5_listenForAll_9 : decode cX5_listenForAll 9 = .ok (.istore_n 3, 1) := by decide +kernel
theorem dX5_listenForAll_10 : decode cX5_listenForAll 10 = .ok (.iload_n 3, 1) := by decide +kernel
theorem dX5_listenForAll_11 : decode cX5_listenForAll 11 = .ok (.aload_n 0, 1) := by decide +kernel
theorem dX5_listenForAll_12 : decode cX5_listenForAll 12 = .ok (.getfield 12, 3) := by decide +kernel
theorem dX5_listenForAll_15 : decode cX5_listenForAll 15 = .ok (.getfield 130, 3) := by decide +kernel
theorem dX5_listenForAll_18 : decode cX5_listenForAll 18 = .ok (.iload_n 1, 1) := by decide +kernel
theorem dX5_listenForAll_19 : decode cX5_listenForAll 19 = .ok (.iaload, 1) := by decide +kernel
theorem dX5_listenForAll_20 : decode cX5_listenForAll 20 = .ok (.if_icmp .ge 65, 3) := by decide +kernel
theorem dX5_listenForAll_23 : decode cX5_listenForAll 23 = .ok (.iload_n 2, 1) := by decide +kernel
theorem dX5_listenForAll_24 : decode cX5_listenForAll 24 = .ok (.iload_n 3, 1) := by decide +kernel
theorem dX5_listenForAll_25 : decode cX5_listenForAll 25 = .ok (.invokestatic 211, 3) := by decide +kernel
theorem dX5_listenForAll_28 : decode cX5_listenForAll 28 = .ok (.ifCond .ne 6, 3) := by decide +kernel
theorem dX5_listenForAll_31 : decode cX5_listenForAll 31 = .ok (.goto 48, 3) := by decide +kernel
theorem dX5_listenForAll_34 : decode cX5_listenForAll 34 = .ok (.aload_n 0, 1) := by decide +kernel
theorem dX5_listenForAll_35 : decode cX5_listenForAll 35 = .ok (.iload_n 1, 1) := by decide +kernel
theorem dX5_listenForAll_36 : decode cX5_listenForAll 36 = .ok (.iload_n 3, 1) := by decide +kernel
theorem dX5_listenForAll_37 : decode cX5_listenForAll 37 = .ok (.invokevirtual 197, 3) := by decide +kernel
theorem dX5_listenForAll_40 : decode cX5_listenForAll 40 = .ok (.pop, 1) := by decide +kernel
theorem dX5_listenForAll_41 : decode cX5_listenForAll 41 = .ok (.iconst 0, 1) := by decide +kernel
theorem dX5_listenForAll_42 : decode cX5_listenForAll 42 = .ok (.istore 4, 2) := by decide +kernel
theorem dX5_listenForAll_44 : decode cX5_listenForAll 44 = .ok (.iload 4, 2) := by decide +kernel
theorem dX5_listenForAll_46 : decode cX5_listenForAll 46 = .ok (.bipush 60, 2) := by decide +kernel
theorem dX5_listenForAll_48 : decode cX5_listenForAll 48 = .ok (.if_icmp .gt 31, 3) := by decide +kernel
theorem dX5_listenForAll_51 : decode cX5_listenForAll 51 = .ok (.aload_n 0, 1) := by decide +kernel
theorem dX5_listenForAll_52 : decode cX5_listenForAll 52 = .ok (.getfield 54, 3) := by decide +kernel
theorem dX5_listenForAll_55 : decode cX5_listenForAll 55 = .ok (.iload 4, 2) := by decide +kernel
theorem dX5_listenForAll_57 : decode cX5_listenForAll 57 = .ok (.dup2, 1) := by decide +kernel
theorem dX5_listenForAll_58 : decode cX5_listenForAll 58 = .ok (.iaload, 1) := by decide +kernel
theorem dX5_listenForAll_59 : decode cX5_listenForAll 59 = .ok (.aload_n 0, 1) := by decide +kernel
theorem dX5_listenForAll_60 : decode cX5_listenForAll 60 = .ok (.getfield 16, 3) := by decide +kernel
theorem dX5_listenForAll_63 : decode cX5_listenForAll 63 = .ok (.iconst 0, 1) := by decide +kernel
theorem dX5_listenForAll_64 : decode cX5_listenForAll 64 = .ok (.invokevirtual 116, 3) := by decide +kernel
theorem dX5_listenForAll_67 : decode cX5_listenForAll 67 = .ok (.iload_n 1, 1) := by decide +kernel
theorem dX5_listenForAll_68 : decode cX5_listenForAll 68 = .ok (.ishr, 1) := by decide +kernel
theorem dX5_listenForAll_69 : decode cX5_listenForAll 69 = .ok (.iconst 1, 1) := by decide +kernel
theorem dX5_listenForAll_70 : decode cX5_listenForAll 70 = .ok (.iand, 1) := by decide +kernel
theorem dX5_listenForAll_71 : decode cX5_listenForAll 71 = .ok (.iadd, 1) := by decide +kernel
theorem dX5_listenForAll_72 : decode cX5_listenForAll 72 = .ok (.iastore, 1) := by decide +kernel
theorem dX5_listenForAll_73 : decode cX5_listenForAll 73 = .ok (.iinc 4 1, 3) := by decide +kernel
theorem dX5_listenForAll_76 : decode cX5_listenForAll 76 = .ok (.goto (-32), 3) := by decide +kernel
theorem dX5_listenForAll_79 : decode cX5_listenForAll 79 = .ok (.iinc 3 1, 3) := by decide +kernel
theorem dX5_listenForAll_82 : decode cX5_listenForAll 82 = .ok (.goto (-72), 3) := by decide +kernel
theorem dX5_listenForAll_85 : decode cX5_listenForAll 85 = .ok (.return_, 1) := by decide +kernel
theorem dX5_weightOf_0 : decode cX5_weightOf 0 = .ok (.iload_n 0, 1) := by decide +kernel
theorem dX5_weightOf_1 : decode cX5_weightOf 1 = .ok (.invokestatic 162, 3) := by decide +kernel
theorem dX5_weightOf_4 : decode cX5_weightOf 4 = .ok (.istore_n 3, 1) := by decide +kernel
theorem dX5_weightOf_5 : decode cX5_weightOf 5 = .ok (.iload_n 1, 1) := by decide +kernel
theorem dX5_weightOf_6 : decode cX5_weightOf 6 = .ok (.iload_n 3, 1) := by decide +kernel
theorem dX5_weightOf_7 : decode cX5_weightOf 7 = .ok (.invokestatic 219, 3) := by decide +kernel
theorem dX5_weightOf_10 : decode cX5_weightOf 10 = .ok (.bipush 10, 2) := by decide +kernel
theorem dX5_weightOf_12 : decode cX5_weightOf 12 = .ok (.iload_n 1, 1) := by decide +kernel
theorem dX5_weightOf_13 : decode cX5_weightOf 13 = .ok (.isub, 1) := by decide +kernel
theorem dX5_weightOf_14 : decode cX5_weightOf 14 = .ok (.iload_n 2, 1) := by decide +kernel
theorem dX5_weightOf_15 : decode cX5_weightOf 15 = .ok (.iload_n 3, 1) := by decide +kernel
theorem dX5_weightOf_16 : decode cX5_weightOf 16 = .ok (.isub, 1) := by decide +kernel
theorem dX5_weightOf_17 : decode cX5_weightOf 17 = .ok (.invokestatic 219, 3) := by decide +kernel
theorem dX5_weightOf_20 : decode cX5_weightOf 20 = .ok (.lmul, 1) := by decide +kernel
theorem dX5_weightOf_21 : decode cX5_weightOf 21 = .ok (.lreturn, 1) := by decide +kernel
theorem dX5_powerOf_0 : decode cX5_powerOf 0 = .ok (.lconst 1, 1) := by decide +kernel
theorem dX5_powerOf_1 : decode cX5_powerOf 1 = .ok (.lstore_n 2, 1) := by decide +kernel
theorem dX5_powerOf_2 : decode cX5_powerOf 2 = .ok (.iconst 0, 1) := by decide +kernel
theorem dX5_powerOf_3 : decode cX5_powerOf 3 = .ok (.istore 4, 2) := by decide +kernel
theorem dX5_powerOf_5 : decode cX5_powerOf 5 = .ok (.iload 4, 2) := by decide +kernel
theorem dX5_powerOf_7 : decode cX5_powerOf 7 = .ok (.iload_n 1, 1) := by decide +kernel
theorem dX5_powerOf_8 : decode cX5_powerOf 8 = .ok (.if_icmp .ge 14, 3) := by decide +kernel
theorem dX5_powerOf_11 : decode cX5_powerOf 11 = .ok (.lload_n 2, 1) := by decide +kernel
theorem dX5_powerOf_12 : decode cX5_powerOf 12 = .ok (.iload_n 0, 1) := by decide +kernel
theorem dX5_powerOf_13 : decode cX5_powerOf 13 = .ok (.i2l, 1) := by decide +kernel
theorem dX5_powerOf_14 : decode cX5_powerOf 14 = .ok (.lmul, 1) := by decide +kernel
theorem dX5_powerOf_15 : decode cX5_powerOf 15 = .ok (.lstore_n 2, 1) := by decide +kernel
theorem dX5_powerOf_16 : decode cX5_powerOf 16 = .ok (.iinc 4 1, 3) := by decide +kernel
theorem dX5_powerOf_19 : decode cX5_powerOf 19 = .ok (.goto (-14), 3) := by decide +kernel
theorem dX5_powerOf_22 : decode cX5_powerOf 22 = .ok (.lload_n 2, 1) := by decide +kernel
theorem dX5_powerOf_23 : decode cX5_powerOf 23 = .ok (.lreturn, 1) := by decide +kernel
theorem dX5_fraction_0 : decode cX5_fraction 0 = .ok (.lload_n 0, 1) := by decide +kernel
theorem dX5_fraction_1 : decode cX5_fraction 1 = .ok (.lload_n 2, 1) := by decide +kernel
theorem dX5_fraction_2 : decode cX5_fraction 2 = .ok (.invokestatic 282, 3) := by decide +kernel
theorem dX5_fraction_5 : decode cX5_fraction 5 = .ok (.lstore 5, 2) := by decide +kernel
theorem dX5_fraction_7 : decode cX5_fraction 7 = .ok (.lload 5, 2) := by decide +kernel
theorem dX5_fraction_9 : decode cX5_fraction 9 = .ok (.lconst 0, 1) := by decide +kernel
theorem dX5_fraction_10 : decode cX5_fraction 10 = .ok (.lcmp, 1) := by decide +kernel
theorem dX5_fraction_11 : decode cX5_fraction 11 = .ok (.ifCond .ne 5, 3) := by decide +kernel
theorem dX5_fraction_14 : decode cX5_fraction 14 = .ok (.lconst 0, 1) := by decide +kernel
theorem dX5_fraction_15 : decode cX5_fraction 15 = .ok (.lreturn, 1) := by decide +kernel
theorem dX5_fraction_16 : decode cX5_fraction 16 = .ok (.iload 4, 2) := by decide +kernel
theorem dX5_fraction_18 : decode cX5_fraction 18 = .ok (.ifCond .ne 7, 3) := by decide +kernel
theorem dX5_fraction_21 : decode cX5_fraction 21 = .ok (.lload_n 0, 1) := by decide +kernel
theorem dX5_fraction_22 : decode cX5_fraction 22 = .ok (.goto 4, 3) := by decide +kernel
theorem dX5_fraction_25 : decode cX5_fraction 25 = .ok (.lload_n 2, 1) := by decide +kernel
theorem dX5_fraction_26 : decode cX5_fraction 26 = .ok (.lload 5, 2) := by decide +kernel
theorem dX5_fraction_28 : decode cX5_fraction 28 = .ok (.ldiv, 1) := by decide +kernel
theorem dX5_fraction_29 : decode cX5_fraction 29 = .ok (.lreturn, 1) := by decide +kernel
theorem dX5_commonDivisor_0 : decode cX5_commonDivisor 0 = .ok (.lload_n 0, 1) := by decide +kernel
theorem dX5_commonDivisor_1 : decode cX5_commonDivisor 1 = .ok (.lstore 4, 2) := by decide +kernel
theorem dX5_commonDivisor_3 : decode cX5_commonDivisor 3 = .ok (.lload_n 2, 1) := by decide +kernel
theorem dX5_commonDivisor_4 : decode cX5_commonDivisor 4 = .ok (.lstore 6, 2) := by decide +kernel
theorem dX5_commonDivisor_6 : decode cX5_commonDivisor 6 = .ok (.iconst 0, 1) := by decide +kernel
theorem dX5_commonDivisor_7 : decode cX5_commonDivisor 7 = .ok (.istore 8, 2) := by decide +kernel
theorem dX5_commonDivisor_9 : decode cX5_commonDivisor 9 = .ok (.iload 8, 2) := by decide +kernel
theorem dX5_commonDivisor_11 : decode cX5_commonDivisor 11 = .ok (.sipush 200, 3) := by decide +kernel
theorem dX5_commonDivisor_14 : decode cX5_commonDivisor 14 = .ok (.if_icmp .ge 31, 3) := by decide +kernel
theorem dX5_commonDivisor_17 : decode cX5_commonDivisor 17 = .ok (.lload 6, 2) := by decide +kernel
theorem dX5_commonDivisor_19 : decode cX5_commonDivisor 19 = .ok (.lconst 0, 1) := by decide +kernel
theorem dX5_commonDivisor_20 : decode cX5_commonDivisor 20 = .ok (.lcmp, 1) := by decide +kernel
theorem dX5_commonDivisor_21 : decode cX5_commonDivisor 21 = .ok (.ifCond .eq 24, 3) := by decide +kernel
theorem dX5_commonDivisor_24 : decode cX5_commonDivisor 24 = .ok (.lload 4, 2) := by decide +kernel
theorem dX5_commonDivisor_26 : decode cX5_commonDivisor 26 = .ok (.lload 6, 2) := by decide +kernel
theorem dX5_commonDivisor_28 : decode cX5_commonDivisor 28 = .ok (.lrem, 1) := by decide +kernel
theorem dX5_commonDivisor_29 : decode cX5_commonDivisor 29 = .ok (.lstore 9, 2) := by decide +kernel
theorem dX5_commonDivisor_31 : decode cX5_commonDivisor 31 = .ok (.lload 6, 2) := by decide +kernel
theorem dX5_commonDivisor_33 : decode cX5_commonDivisor 33 = .ok (.lstore 4, 2) := by decide +kernel
theorem dX5_commonDivisor_35 : decode cX5_commonDivisor 35 = .ok (.lload 9, 2) := by decide +kernel
theorem dX5_commonDivisor_37 : decode cX5_commonDivisor 37 = .ok (.lstore 6, 2) := by decide +kernel
theorem dX5_commonDivisor_39 : decode cX5_commonDivisor 39 = .ok (.iinc 8 1, 3) := by decide +kernel
theorem dX5_commonDivisor_42 : decode cX5_commonDivisor 42 = .ok (.goto (-33), 3) := by decide +kernel
theorem dX5_commonDivisor_45 : decode cX5_commonDivisor 45 = .ok (.lload 4, 2) := by decide +kernel
theorem dX5_commonDivisor_47 : decode cX5_commonDivisor 47 = .ok (.lreturn, 1) := by decide +kernel
end
section
theorem dX6_init_0 : decode cX6_init 0 = .ok (.aload_n 0, 1) := by decide +kernel
theorem dX6_init_1 : decode cX6_init 1 = .ok (.invokespecial 1, 3) := by decide +kernel
theorem dX6_init_4 : decode cX6_init 4 = .ok (.aload_n 0, 1) := by decide +kernel
theorem dX6_init_5 : decode cX6_init 5 = .ok (.sipush 138, 3) := by decide +kernel
theorem dX6_init_8 : decode cX6_init 8 = .ok (.newarray .int, 2) := by decide +kernel
theorem dX6_init_10 : decode cX6_init 10 = .ok (.putfield 7, 3) := by decide +kernel
theorem dX6_init_13 : decode cX6_init 13 = .ok (.aload_n 0, 1) := by decide +kernel
theorem dX6_init_14 : decode cX6_init 14 = .ok (.bipush 23, 2) := by decide +kernel
theorem dX6_init_16 : decode cX6_init 16 = .ok (.newarray .int, 2) := by decide +kernel
theorem dX6_init_18 : decode cX6_init 18 = .ok (.putfield 13, 3) := by decide +kernel
theorem dX6_init_21 : decode cX6_init 21 = .ok (.aload_n 0, 1) := by decide +kernel
theorem dX6_init_22 : decode cX6_init 22 = .ok (.sipush 160, 3) := by decide +kernel
theorem dX6_init_25 : decode cX6_init 25 = .ok (.newarray .int, 2) := by decide +kernel
theorem dX6_init_27 : decode cX6_init 27 = .ok (.putfield 16, 3) := by decide +kernel
theorem dX6_init_30 : decode cX6_init 30 = .ok (.aload_n 0, 1) := by decide +kernel
theorem dX6_init_31 : decode cX6_init 31 = .ok (.bipush 6, 2) := by decide +kernel
theorem dX6_init_33 : decode cX6_init 33 = .ok (.newarray .int, 2) := by decide +kernel
theorem dX6_init_35 : decode cX6_init 35 = .ok (.dup, 1) := by decide +kernel
theorem dX6_init_36 : decode cX6_init 36 = .ok (.iconst 0, 1) := by decide +kernel
theorem dX6_init_37 : decode cX6_init 37 = .ok (.iconst 0, 1) := by decide +kernel
theorem dX6_init_38 : decode cX6_init 38 = .ok (.iastore, 1) := by decide +kernel
theorem dX6_init_39 : decode cX6_init 39 = .ok (.dup, 1) := by decide +kernel
theorem dX6_init_40 : decode cX6_init 40 = .ok (.iconst 1, 1) := by decide +kernel
theorem dX6_init_41 : decode cX6_init 41 = .ok (.iconst 5, 1) := by decide +kernel
theorem dX6_init_42 : decode cX6_init 42 = .ok (.iastore, 1) := by decide +kernel
theorem dX6_init_43 : decode cX6_init 43 = .ok (.dup, 1) := by decide +kernel
theorem dX6_init_44 : decode cX6_init 44 = .ok (.iconst 2, 1) := by decide +kernel
theorem dX6_init_45 : decode cX6_init 45 = .ok (.bipush 9, 2) := by decide +kernel
theorem dX6_init_47 : decode cX6_init 47 = .ok (.iastore, 1) := by decide +kernel
theorem dX6_init_48 : decode cX6_init 48 = .ok (.dup, 1) := by decide +kernel
theorem dX6_init_49 : decode cX6_init 49 = .ok (.iconst 3, 1) := by decide +kernel
theorem dX6_init_50 : decode cX6_init 50 = .ok (.bipush 14, 2) := by decide +kernel
theorem dX6_init_52 : decode cX6_init 52 = .ok (.iastore, 1) := by decide +kernel
theorem dX6_init_53 : decode cX6_init 53 = .ok (.dup, 1) := by decide +kernel
theorem dX6_init_54 : decode cX6_init 54 = .ok (.iconst 4, 1) := by decide +kernel
theorem dX6_init_55 : decode cX6_init 55 = .ok (.bipush 17, 2) := by decide +kernel
theorem dX6_init_57 : decode cX6_init 57 = .ok (.iastore, 1) := by decide +kernel
theorem dX6_init_58 : decode cX6_init 58 = .ok (.dup, 1) := by decide +kernel
theorem dX6_init_59 : decode cX6_init 59 = .ok (.iconst 5, 1) := by decide +kernel
theorem dX6_init_60 : decode cX6_init 60 = .ok (.bipush 21, 2) := by decide +kernel
theorem dX6_init_62 : decode cX6_init 62 = .ok (.iastore, 1) := by decide +kernel
theorem dX6_init_63 : decode cX6_init 63 = .ok (.putfield 19, 3) := by decide +kernel
theorem dX6_init_66 : decode cX6_init 66 = .ok (.aload_n 0, 1) := by decide +kernel
theorem dX6_init_67 : decode cX6_init 67 = .ok (.bipush 21, 2) := by decide +kernel
theorem dX6_init_69 : decode cX6_init 69 = .ok (.newarray .int, 2) := by decide +kernel
theorem dX6_init_71 : decode cX6_init 71 = .ok (.dup, 1) := by decide +kernel
theorem dX6_init_72 : decode cX6_init 72 = .ok (.iconst 0, 1) := by decide +kernel
theorem dX6_init_73 : decode cX6_init 73 = .ok (.bipush 112, 2) := by decide +kernel
theorem dX6_init_75 : decode cX6_init 75 = .ok (.iastore, 1) := by decide +kernel
theorem dX6_init_76 : decode cX6_init 76 = .ok (.dup, 1) := by decide +kernel
theorem dX6_init_77 : decode cX6_init 77 = .ok (.iconst 1, 1) := by decide +kernel
theorem dX6_init_78 : decode cX6_init 78 = .ok (.bipush 108, 2) := by decide +kernel
theorem dX6_init_80 : decode cX6_init 80 = .ok (.iastore, 1) := by decide +kernel
theorem dX6_init_81 : decode cX6_init 81 = .ok (.dup, 1) := by decide +kernel
theorem dX6_init_82 : decode cX6_init 82 = .ok (.iconst 2, 1) := by decide +kernel
theorem dX6_init_83 : decode cX6_init 83 = .ok (.bipush 97, 2) := by decide +kernel
theorem dX6_init_85 : decode cX6_init 85 = .ok (.iastore, 1) := by decide +kernel
theorem dX6_init_86 : decode cX6_init 86 = .ok (.dup, 1) := by decide +kernel
theorem dX6_init_87 : decode cX6_init 87 = .ok (.iconst 3, 1) := by decide +kernel
theorem dX6_init_88 : decode cX6_init 88 = .ok (.bipush 105, 2) := by decide +kernel
theorem dX6_init_90 : decode cX6_init 90 = .ok (.iastore, 1) := by decide +kernel
theorem dX6_init_91 : decode cX6_init 91 = .ok (.dup, 1) := by decide +kernel
theorem dX6_init_92 : decode cX6_init 92 = .ok (.iconst 4, 1) := by decide +kernel
theorem dX6_init_93 : decode cX6_init 93 = .ok (.bipush 110, 2) := by decide +kernel
theorem dX6_init_95 : decode cX6_init 95 = .ok (.iastore, 1) := by decide +kernel
theorem dX6_init_96 : decode cX6_init 96 = .ok (.dup, 1) := by decide +kernel
theorem dX6_init_97 : decode cX6_init 97 = .ok (.iconst 5, 1) := by decide +kernel
theorem dX6_init_98 : decode cX6_init 98 = .ok (.bipush 115, 2) := by decide +kernel
theorem dX6_init_100 : decode cX6_init 100 = .ok (.iastore, 1) := by decide +kernel
theorem dX6_init_101 : decode cX6_init 101 = .ok (.dup, 1) := by decide +kernel
theorem dX6_init_102 : decode cX6_init 102 = .ok (.bipush 6, 2) := by decide +kernel
theorem dX6_init_104 : decode cX6_init 104 = .ok (.bipush 111, 2) := by decide +kernel
theorem dX6_init_106 : decode cX6_init 106 = .ok (.iastore, 1) := by decide +kernel
theorem dX6_init_107 : decode cX6_init 107 = .ok (.dup, 1) := by decide +kernel
theorem dX6_init_108 : decode cX6_init 108 = .ok (.bipush 7, 2) := by decide +kernel
theorem dX6_init_110 : decode cX6_init 110 = .ok (.bipush 102, 2) := by decide +kernel
theorem dX6_init_112 : decode cX6_init 112 = .ok (.iastore, 1) := by decide +kernel
theorem dX6_init_113 : decode cX6_init 113 = .ok (.dup, 1) := by decide +kernel
theorem dX6_init_114 : decode cX6_init 114 = .ok (.bipush 8, 2) := by decide +kernel
theorem dX6_init_116 : decode cX6_init 116 = .ok (.bipush 116, 2) := by decide +kernel
theorem dX6_init_118 : decode cX6_init 118 = .ok (.iastore, 1) := by decide +kernel
theorem dX6_init_119 : decode cX6_init 119 = .ok (.dup, 1) := by decide +kernel
theorem dX6_init_120 : decode cX6_init 120 = .ok (.bipush 9, 2) := by decide +kernel
theorem dX6_init_122 : decode cX6_init 122 = .ok (.bipush 104, 2) := by decide +kernel
theorem dX6_init_124 : decode cX6_init 124 = .ok (.iastore, 1) := by decide +kernel
theorem dX6_init_125 : decode cX6_init 125 = .ok (.dup, 1) := by decide +kernel
theorem dX6_init_126 : decode cX6_init 126 = .ok (.bipush 10, 2) := by decide +kernel
theorem dX6_init_128 : decode cX6_init 128 = .ok (.bipush 101, 2) := by decide +kernel
theorem dX6_init_130 : decode cX6_init 130 = .ok (.iastore, 1) := by decide +kernel
theorem dX6_init_131 : decode cX6_init 131 = .ok (.dup, 1) := by decide +kernel
theorem dX6_init_132 : decode cX6_init 132 = .ok (.bipush 11, 2) := by decide +kernel
theorem dX6_init_134 : decode cX6_init 134 = .ok (.bipush 97, 2) := by decide +kernel
theorem dX6_init_136 : decode cX6_init 136 = .ok (.iastore, 1) := by decide +kernel
theorem dX6_init_137 : decode cX6_init 137 = .ok (.dup, 1) := by decide +kernel
theorem dX6_init_138 : decode cX6_init 138 = .ok (.bipush 12, 2) := by decide +kernel
theorem dX6_init_140 : decode cX6_init 140 = .ok (.bipush 118, 2) := by decide +kernel
theorem dX6_init_142 : decode cX6_init 142 = .ok (.iastore, 1) := by decide +kernel
theorem dX6_init_143 : decode cX6_init 143 = .ok (.dup, 1) := by decide +kernel
theorem dX6_init_144 : decode cX6_init 144 = .ok (.bipush 13, 2) := by decide +kernel
theorem dX6_init_146 : decode cX6_init 146 = .ok (.bipush 121, 2) := by decide +kernel
theorem dX6_init_148 : decode cX6_init 148 = .ok (.iastore, 1) := by decide +kernel
theorem dX6_init_149 : decode cX6_init 149 = .ok (.dup, 1) := by decide +kernel
theorem dX6_init_150 : decode cX6_init 150 = .ok (.bipush 14, 2) := by decide +kernel
theorem dX6_init_152 : decode cX6_init 152 = .ok (.bipush 115, 2) := by decide +kernel
theorem dX6_init_154 : decode cX6_init 154 = .ok (.iastore, 1) := by decide +kernel
theorem dX6_init_155 : decode cX6_init 155 = .ok (.dup, 1) := by decide +kernel
theorem dX6_init_156 : decode cX6_init 156 = .ok (.bipush 15, 2) := by decide +kernel
theorem dX6_init_158 : decode cX6_init 158 = .ok (.bipush 104, 2) := by decide +kernel
theorem dX6_init_160 : decode cX6_init 160 = .ok (.iastore, 1) := by decide +kernel
theorem dX6_init_161 : decode cX6_init 161 = .ok (.dup, 1) := by decide +kernel
theorem dX6_init_162 : decode cX6_init 162 = .ok (.bipush 16, 2) := by decide +kernel
theorem dX6_init_164 : decode cX6_init 164 = .ok (.bipush 121, 2) := by decide +kernel
theorem dX6_init_166 : decode cX6_init 166 = .ok (.iastore, 1) := by decide +kernel
theorem dX6_init_167 : decode cX6_init 167 = .ok (.dup, 1) := by decide +kernel
theorem dX6_init_168 : decode cX6_init 168 = .ok (.bipush 17, 2) := by decide +kernel
theorem dX6_init_170 : decode cX6_init 170 = .ok (.bipush 112, 2) := by decide +kernel
theorem dX6_init_172 : decode cX6_init 172 = .ok (.iastore, 1) := by decide +kernel
theorem dX6_init_173 : decode cX6_init 173 = .ok (.dup, 1) := by decide +kernel
theorem dX6_init_174 : decode cX6_init 174 = .ok (.bipush 18, 2) := by decide +kernel
theorem dX6_init_176 : decode cX6_init 176 = .ok (.bipush 117, 2) := by decide +kernel
theorem dX6_init_178 : decode cX6_init 178 = .ok (.iastore, 1) := by decide +kernel
theorem dX6_init_179 : decode cX6_init 179 = .ok (.dup, 1) := by decide +kernel
theorem dX6_init_180 : decode cX6_init 180 = .ok (.bipush 19, 2) := by decide +kernel
theorem dX6_init_182 : decode cX6_init 182 = .ok (.bipush 115, 2) := by decide +kernel
theorem dX6_init_184 : decode cX6_init 184 = .ok (.iastore, 1) := by decide +kernel
theorem dX6_init_185 : decode cX6_init 185 = .ok (.dup, 1) := by decide +kernel
theorem dX6_init_186 : decode cX6_init 186 = .ok (.bipush 20, 2) := by decide +kernel
theorem dX6_init_188 : decode cX6_init 188 = .ok (.bipush 104, 2) := by decide +kernel
theorem dX6_init_190 : decode cX6_init 190 = .ok (.iastore, 1) := by decide +kernel
theorem dX6_init_191 : decode cX6_init 191 = .ok (.putfield 22, 3) := by decide +kernel
theorem dX6_init_194 : decode cX6_init 194 = .ok (.aload_n 0, 1) := by decide +kernel
theorem dX6_init_195 : decode cX6_init 195 = .ok (.bipush (-4), 2) := by decide +kernel
theorem dX6_init_197 : decode cX6_init 197 = .ok (.putfield 25, 3) := by decide +kernel
theorem dX6_init_200 : decode cX6_init 200 = .ok (.aload_n 0, 1) := by decide +kernel
theorem dX6_init_201 : decode cX6_init 201 = .ok (.bipush 18, 2) := by decide +kernel
theorem dX6_init_203 : decode cX6_init 203 = .ok (.newarray .int, 2) := by decide +kernel
theorem dX6_init_205 : decode cX6_init 205 = .ok (.putfield 29, 3) := by decide +kernel
theorem dX6_init_208 : decode cX6_init 208 = .ok (.aload_n 0, 1) := by decide +kernel
theorem dX6_init_209 : decode cX6_init 209 = .ok (.sipush 1830, 3) := by decide +kernel
theorem dX6_init_212 : decode cX6_init 212 = .ok (.newarray .int, 2) := by decide +kernel
theorem dX6_init_214 : decode cX6_init 214 = .ok (.putfield 32, 3) := by decide +kernel
theorem dX6_init_217 : decode cX6_init 217 = .ok (.aload_n 0, 1) := by decide +kernel
theorem dX6_init_218 : decode cX6_init 218 = .ok (.iconst 2, 1) := by decide +kernel
theorem dX6_init_219 : decode cX6_init 219 = .ok (.newarray .boolean, 2) := by decide +kernel
theorem dX6_init_221 : decode cX6_init 221 = .ok (.putfield 35, 3) := by decide +kernel
theorem dX6_init_224 : decode cX6_init 224 = .ok (.aload_n 0, 1) := by decide +kernel
theorem dX6_init_225 : decode cX6_init 225 = .ok (.iconst 4, 1) := by decide +kernel
theorem dX6_init_226 : decode cX6_init 226 = .ok (.newarray .int, 2) := by decide +kernel
theorem dX6_init_228 : decode cX6_init 228 = .ok (.dup, 1) := by decide +kernel
theorem dX6_init_229 : decode cX6_init 229 = .ok (.iconst 0, 1) := by decide +kernel
theorem dX6_init_230 : decode cX6_init 230 = .ok (.bipush (-4), 2) := by decide +kernel
theorem dX6_init_232 : decode cX6_init 232 = .ok (.iastore, 1) := by decide +kernel
theorem dX6_init_233 : decode cX6_init 233 = .ok (.dup, 1) := by decide +kernel
theorem dX6_init_234 : decode cX6_init 234 = .ok (.iconst 1, 1) := by decide +kernel
theorem dX6_init_235 : decode cX6_init 235 = .ok (.bipush (-4), 2) := by decide +kernel
theorem dX6_init_237 : decode cX6_init 237 = .ok (.iastore, 1) := by decide +kernel
theorem dX6_init_238 : decode cX6_init 238 = .ok (.dup, 1) := by decide +kernel
theorem dX6_init_239 : decode cX6_init 239 = .ok (.iconst 2, 1) := by decide +kernel
theorem dX6_init_240 : decode cX6_init 240 = .ok (.bipush (-4), 2) := by decide +kernel
theorem dX6_init_242 : decode cX6_init 242 = .ok (.iastore, 1) := by decide +kernel
theorem dX6_init_243 : decode cX6_init 243 = .ok (.dup, 1) := by decide +kernel
theorem dX6_init_244 : decode cX6_init 244 = .ok (.iconst 3, 1) := by decide +kernel
theorem dX6_init_245 : decode cX6_init 245 = .ok (.bipush (-4), 2) := by decide +kernel
theorem dX6_init_247 : decode cX6_init 247 = .ok (.iastore, 1) := by decide +kernel
theorem dX6_init_248 : decode cX6_init 248 = .ok (.putfield 39, 3) := by decide +kernel
theorem dX6_init_251 : decode cX6_init 251 = .ok (.aload_n 0, 1) := by decide +kernel
theorem dX6_init_252 : decode cX6_init 252 = .ok (.iconst 4, 1) := by decide +kernel
theorem dX6_init_253 : decode cX6_init 253 = .ok (.newarray .int, 2) := by decide +kernel
theorem dX6_init_255 : decode cX6_init 255 = .ok (.putfield 42, 3) := by decide +kernel
theorem dX6_init_258 : decode cX6_init 258 = .ok (.aload_n 0, 1) := by decide +kernel
theorem dX6_init_259 : decode cX6_init 259 = .ok (.sipush 160, 3) := by decide +kernel
theorem dX6_init_262 : decode cX6_init 262 = .ok (.newarray .int, 2) := by decide +kernel
theorem dX6_init_264 : decode cX6_init 264 = .ok (.putfield 45, 3) := by decide +kernel
theorem dX6_init_267 : decode cX6_init 267 = .ok (.return_, 1) := by decide +kernel
theorem dX6_in_0 : decode cX6_in 0 = .ok (.lload_n 0, 1) := by decide +kernel
theorem dX6_in_1 : decode cX6_in 1 = .ok (.lload_n 2, 1) := by decide +kernel
theorem dX6_in_2 : decode cX6_in 2 = .ok (.lcmp, 1) := by decide +kernel
theorem dX6_in_3 : decode cX6_in 3 = .ok (.ifCond .lt 14, 3) := by decide +kernel
theorem dX6_in_6 : decode cX6_in 6 = .ok (.lload_n 0, 1) := by decide +kernel
theorem dX6_in_7 : decode cX6_in 7 = .ok (.lload 4, 2) := by decide +kernel
theorem dX6_in_9 : decode cX6_in 9 = .ok (.lcmp, 1) := by decide +kernel
theorem dX6_in_10 : decode cX6_in 10 = .ok (.ifCond .gt 7, 3) := by decide +kernel
theorem dX6_in_13 : decode cX6_in 13 = .ok (.iconst 1, 1) := by decide +kernel
theorem dX6_in_14 : decode cX6_in 14 = .ok (.goto 4, 3) := by decide +kernel
theorem dX6_in_17 : decode cX6_in 17 = .ok (.iconst 0, 1) := by decide +kernel
theorem dX6_in_18 : decode cX6_in 18 = .ok (.ireturn, 1) := by decide +kernel
theorem dX6_feed_0 : decode cX6_feed 0 = .ok (.iload_n 1, 1) := by decide +kernel
theorem dX6_feed_1 : decode cX6_feed 1 = .ok (.i2l, 1) := by decide +kernel
theorem dX6_feed_2 : decode cX6_feed 2 = .ok (.lconst 0, 1) := by decide +kernel
theorem dX6_feed_3 : decode cX6_feed 3 = .ok (.ldc2_w 48, 3) := by decide +kernel
theorem dX6_feed_6 : decode cX6_feed 6 = .ok (.invokestatic 50, 3) := by decide +kernel
theorem dX6_feed_9 : decode cX6_feed 9 = .ok (.ifCond .ne 5, 3) := by decide +kernel
theorem dX6_feed_12 : decode cX6_feed 12 = .ok (.iconst (-1), 1) := by decide +kernel
theorem dX6_feed_13 : decode cX6_feed 13 = .ok (.ireturn, 1) := by decide +kernel
theorem dX6_feed_14 : decode cX6_feed 14 = .ok (.aload_n 0, 1) := by decide +kernel
theorem dX6_feed_15 : decode cX6_feed 15 = .ok (.getfield 54, 3) := by decide +kernel
theorem dX6_feed_18 : decode cX6_feed 18 = .ok (.sipush 160, 3) := by decide +kernel
theorem dX6_feed_21 : decode cX6_feed 21 = .ok (.if_icmp .ne 6, 3) := by decide +kernel
theorem dX6_feed_24 : decode cX6_feed 24 = .ok (.bipush (-3), 2) := by decide +kernel
theorem dX6_feed_26 : decode cX6_feed 26 = .ok (.ireturn, 1) := by decide +kernel
theorem dX6_feed_27 : decode cX6_feed 27 = .ok (.aload_n 0, 1) := by decide +kernel
theorem dX6_feed_28 : decode cX6_feed 28 = .ok (.getfield 16, 3) := by decide +kernel
theorem dX6_feed_31 : decode cX6_feed 31 = .ok (.aload_n 0, 1) := by decide +kernel
theorem dX6_feed_32 : decode cX6_feed 32 = .ok (.getfield 54, 3) := by decide +kernel
theorem dX6_feed_35 : decode cX6_feed 35 = .ok (.iload_n 1, 1) := by decide +kernel
theorem dX6_feed_36 : decode cX6_feed 36 = .ok (.iastore, 1) := by decide +kernel
theorem dX6_feed_37 : decode cX6_feed 37 = .ok (.aload_n 0, 1) := by decide +kernel
theorem dX6_feed_38 : decode cX6_feed 38 = .ok (.dup, 1) := by decide +kernel
theorem dX6_feed_39 : decode cX6_feed 39 = .ok (.getfield 54, 3) := by decide +kernel
theorem dX6_feed_42 : decode cX6_feed 42 = .ok (.iconst 1, 1) := by decide +kernel
theorem dX6_feed_43 : decode cX6_feed 43 = .ok (.iadd, 1) := by decide +kernel
theorem dX6_feed_44 : decode cX6_feed 44 = .ok (.putfield 54, 3) := by decide +kernel
theorem dX6_feed_47 : decode cX6_feed 47 = .ok (.aload_n 0, 1) := by decide +kernel
theorem dX6_feed_48 : decode cX6_feed 48 = .ok (.getfield 54, 3) := by decide +kernel
theorem dX6_feed_51 : decode cX6_feed 51 = .ok (.ireturn, 1) := by decide +kernel
theorem dX6_end_0 : decode cX6_end 0 = .ok (.iload_n 1, 1) := by decide +kernel
theorem dX6_end_1 : decode cX6_end 1 = .ok (.i2l, 1) := by decide +kernel
theorem dX6_end_2 : decode cX6_end 2 = .ok (.lconst 0, 1) := by decide +kernel
theorem dX6_end_3 : decode cX6_end 3 = .ok (.aload_n 0, 1) := by decide +kernel
theorem dX6_end_4 : decode cX6_end 4 = .ok (.getfield 54, 3) := by decide +kernel
theorem dX6_end_7 : decode cX6_end 7 = .ok (.i2l, 1) := by decide +kernel
theorem dX6_end_8 : decode cX6_end 8 = .ok (.invokestatic 50, 3) := by decide +kernel
theorem dX6_end_11 : decode cX6_end 11 = .ok (.ifCond .ne 5, 3) := by decide +kernel
theorem dX6_end_14 : decode cX6_end 14 = .ok (.iconst (-1), 1) := by decide +kernel
theorem dX6_end_15 : decode cX6_end 15 = .ok (.ireturn, 1) := by decide +kernel
theorem dX6_end_16 : decode cX6_end 16 = .ok (.aload_n 0, 1) := by decide +kernel
theorem dX6_end_17 : decode cX6_end 17 = .ok (.getfield 54, 3) := by decide +kernel
theorem dX6_end_20 : decode cX6_end 20 = .ok (.istore_n 2, 1) := by decide +kernel
theorem dX6_end_21 : decode cX6_end 21 = .ok (.aload_n 0, 1) := by decide +kernel
theorem dX6_end_22 : decode cX6_end 22 = .ok (.iload_n 1, 1) := by decide +kernel
theorem dX6_end_23 : decode cX6_end 23 = .ok (.putfield 54, 3) := by decide +kernel
theorem dX6_end_26 : decode cX6_end 26 = .ok (.iload_n 2, 1) := by decide +kernel
theorem dX6_end_27 : decode cX6_end 27 = .ok (.ireturn, 1) := by decide +kernel
theorem dX6_byteAt_0 : decode cX6_byteAt 0 = .ok (.iload_n 1, 1) := by decide +kernel
theorem dX6_byteAt_1 : decode cX6_byteAt 1 = .ok (.aload_n 0, 1) := by decide +kernel
theorem dX6_byteAt_2 : decode cX6_byteAt 2 = .ok (.getfield 54, 3) := by decide +kernel
theorem dX6_byteAt_5 : decode cX6_byteAt 5 = .ok (.if_icmp .ge 12, 3) := by decide +kernel
theorem dX6_byteAt_8 : decode cX6_byteAt 8 = .ok (.aload_n 0, 1) := by decide +kernel
theorem dX6_byteAt_9 : decode cX6_byteAt 9 = .ok (.getfield 16, 3) := by decide +kernel
theorem dX6_byteAt_12 : decode cX6_byteAt 12 = .ok (.iload_n 1, 1) := by decide +kernel
theorem dX6_byteAt_13 : decode cX6_byteAt 13 = .ok (.iaload, 1) := by decide +kernel
theorem dX6_byteAt_14 : decode cX6_byteAt 14 = .ok (.goto 5, 3) := by decide +kernel
theorem dX6_byteAt_17 : decode cX6_byteAt 17 = .ok (.bipush (-4), 2) := by decide +kernel
theorem dX6_byteAt_19 : decode cX6_byteAt 19 = .ok (.ireturn, 1) := by decide +kernel
theorem dX6_fails_0 : decode cX6_fails 0 = .ok (.aload_n 0, 1) := by decide +kernel
theorem dX6_fails_1 : decode cX6_fails 1 = .ok (.getfield 57, 3) := by decide +kernel
theorem dX6_fails_4 : decode cX6_fails 4 = .ok (.ifCond .ne 16, 3) := by decide +kernel
theorem dX6_fails_7 : decode cX6_fails 7 = .ok (.aload_n 0, 1) := by decide +kernel
theorem dX6_fails_8 : decode cX6_fails 8 = .ok (.iload_n 1, 1) := by decide +kernel
theorem dX6_fails_9 : decode cX6_fails 9 = .ok (.putfield 57, 3) := by decide +kernel
theorem dX6_fails_12 : decode cX6_fails 12 = .ok (.aload_n 0, 1) := by decide +kernel
theorem dX6_fails_13 : decode cX6_fails 13 = .ok (.aload_n 0, 1) := by decide +kernel
theorem dX6_fails_14 : decode cX6_fails 14 = .ok (.getfield 60, 3) := by decide +kernel
theorem dX6_fails_17 : decode cX6_fails 17 = .ok (.putfield 63, 3) := by decide +kernel
theorem dX6_fails_20 : decode cX6_fails 20 = .ok (.return_, 1) := by decide +kernel
theorem dX6_nameHere_0 : decode cX6_nameHere 0 = .ok (.iconst 0, 1) := by decide +kernel
theorem dX6_nameHere_1 : decode cX6_nameHere 1 = .ok (.istore_n 1, 1) := by decide +kernel
theorem dX6_nameHere_2 : decode cX6_nameHere 2 = .ok (.iload_n 1, 1) := by decide +kernel
theorem dX6_nameHere_3 : decode cX6_nameHere 3 = .ok (.iconst 5, 1) := by decide +kernel
theorem dX6_nameHere_4 : decode cX6_nameHere 4 = .ok (.if_icmp .ge 113, 3) := by decide +kernel
theorem dX6_nameHere_7 : decode cX6_nameHere 7 = .ok (.aload_n 0, 1) := by decide +kernel
theorem dX6_nameHere_8 : decode cX6_nameHere 8 = .ok (.getfield 66, 3) := by decide +kernel
theorem dX6_nameHere_11 : decode cX6_nameHere 11 = .ok (.iconst 1, 1) := by decide +kernel
theorem dX6_nameHere_12 : decode cX6_nameHere 12 = .ok (.if_icmp .ne 105, 3) := by decide +kernel
theorem dX6_nameHere_15 : decode cX6_nameHere 15 = .ok (.aload_n 0, 1) := by decide +kernel
theorem dX6_nameHere_16 : decode cX6_nameHere 16 = .ok (.getfield 69, 3) := by decide +kernel
theorem dX6_nameHere_19 : decode cX6_nameHere 19 = .ok (.aload_n 0, 1) := by decide +kernel
theorem dX6_nameHere_20 : decode cX6_nameHere 20 = .ok (.getfield 60, 3) := by decide +kernel
theorem dX6_nameHere_23 : decode cX6_nameHere 23 = .ok (.isub, 1) := by decide +kernel
theorem dX6_nameHere_24 : decode cX6_nameHere 24 = .ok (.aload_n 0, 1) := by decide +kernel
theorem dX6_nameHere_25 : decode cX6_nameHere 25 = .ok (.getfield 19, 3) := by decide +kernel
theorem dX6_nameHere_28 : decode cX6_nameHere 28 = .ok (.iload_n 1, 1) := by decide +kernel
theorem dX6_nameHere_29 : decode cX6_nameHere 29 = .ok (.iconst 1, 1) := by decide +kernel
theorem dX6_nameHere_30 : decode cX6_nameHere 30 = .ok (.iadd, 1) := by decide +kernel
theorem dX6_nameHere_31 : decode cX6_nameHere 31 = .ok (.iaload, 1) := by decide +kernel
theorem dX6_nameHere_32 : decode cX6_nameHere 32 = .ok (.aload_n 0, 1) := by decide +kernel
theorem dX6_nameHere_33 : decode cX6_nameHere 33 = .ok (.getfield 19, 3) := by decide +kernel
theorem dX6_nameHere_36 : decode cX6_nameHere 36 = .ok (.iload_n 1, 1) := by decide +kernel
theorem dX6_nameHere_37 : decode cX6_nameHere 37 = .ok (.iaload, 1) := by decide +kernel
theorem dX6_nameHere_38 : decode cX6_nameHere 38 = .ok (.isub, 1) := by decide +kernel
theorem dX6_nameHere_39 : decode cX6_nameHere 39 = .ok (.if_icmp .ne 7, 3) := by decide +kernel
theorem dX6_nameHere_42 : decode cX6_nameHere 42 = .ok (.iconst 1, 1) := by decide +kernel
theorem dX6_nameHere_43 : decode cX6_nameHere 43 = .ok (.goto 4, 3) := by decide +kernel
theorem dX6_nameHere_46 : decode cX6_nameHere 46 = .ok (.iconst 0, 1) := by decide +kernel
theorem dX6_nameHere_47 : decode cX6_nameHere 47 = .ok (.istore_n 2, 1) := by decide +kernel
theorem dX6_nameHere_48 : decode cX6_nameHere 48 = .ok (.iconst 0, 1) := by decide +kernel
theorem dX6_nameHere_49 : decode cX6_nameHere 49 = .ok (.istore_n 3, 1) := by decide +kernel
theorem dX6_nameHere_50 : decode cX6_nameHere 50 = .ok (.iload_n 2, 1) := by decide +kernel
theorem dX6_nameHere_51 : decode cX6_nameHere 51 = .ok (.ifCond .eq 54, 3) := by decide +kernel
theorem dX6_nameHere_54 : decode cX6_nameHere 54 = .ok (.iload_n 3, 1) := by decide +kernel
theorem dX6_nameHere_55 : decode cX6_nameHere 55 = .ok (.aload_n 0, 1) := by decide +kernel
theorem dX6_nameHere_56 : decode cX6_nameHere 56 = .ok (.getfield 69, 3) := by decide +kernel
theorem dX6_nameHere_59 : decode cX6_nameHere 59 = .ok (.aload_n 0, 1) := by decide +kernel
theorem dX6_nameHere_60 : decode cX6_nameHere 60 = .ok (.getfield 60, 3) := by decide +kernel
theorem dX6_nameHere_63 : decode cX6_nameHere 63 = .ok (.isub, 1) := by decide +kernel
theorem dX6_nameHere_64 : decode cX6_nameHere 64 = .ok (.if_icmp .ge 41, 3) := by decide +kernel
theorem dX6_nameHere_67 : decode cX6_nameHere 67 = .ok (.aload_n 0, 1) := by decide +kernel
theorem dX6_nameHere_68 : decode cX6_nameHere 68 = .ok (.aload_n 0, 1) := by decide +kernel
theorem dX6_nameHere_69 : decode cX6_nameHere 69 = .ok (.getfield 60, 3) := by decide +kernel
theorem dX6_nameHere_72 : decode cX6_nameHere 72 = .ok (.iload_n 3, 1) := by decide +kernel
theorem dX6_nameHere_73 : decode cX6_nameHere 73 = .ok (.iadd, 1) := by decide +kernel
theorem dX6_nameHere_74 : decode cX6_nameHere 74 = .ok (.invokevirtual 72, 3) := by decide +kernel
theorem dX6_nameHere_77 : decode cX6_nameHere 77 = .ok (.aload_n 0, 1) := by decide +kernel
theorem dX6_nameHere_78 : decode cX6_nameHere 78 = .ok (.getfield 22, 3) := by decide +kernel
theorem dX6_nameHere_81 : decode cX6_nameHere 81 = .ok (.aload_n 0, 1) := by decide +kernel
theorem dX6_nameHere_82 : decode cX6_nameHere 82 = .ok (.getfield 19, 3) := by decide +kernel
theorem dX6_nameHere_85 : decode cX6_nameHere 85 = .ok (.iload_n 1, 1) := by decide +kernel
theorem dX6_nameHere_86 : decode cX6_nameHere 86 = .ok (.iaload, 1) := by decide +kernel
theorem dX6_nameHere_87 : decode cX6_nameHere 87 = .ok (.iload_n 3, 1) := by decide +kernel
theorem dX6_nameHere_88 : decode cX6_nameHere 88 = .ok (.iadd, 1) := by decide +kernel
theorem dX6_nameHere_89 : decode cX6_nameHere 89 = .ok (.iaload, 1) := by decide +kernel
theorem dX6_nameHere_90 : decode cX6_nameHere 90 = .ok (.if_icmp .ne 7, 3) := by decide +kernel
theorem dX6_nameHere_93 : decode cX6_nameHere 93 = .ok (.iconst 1, 1) := by decide +kernel
theorem dX6_nameHere_94 : decode cX6_nameHere 94 = .ok (.goto 4, 3) := by decide +kernel
theorem dX6_nameHere_97 : decode cX6_nameHere 97 = .ok (.iconst 0, 1) := by decide +kernel
theorem dX6_nameHere_98 : decode cX6_nameHere 98 = .ok (.istore_n 2, 1) := by decide +kernel
theorem dX6_nameHere_99 : decode cX6_nameHere 99 = .ok (.iinc 3 1, 3) := by decide +kernel
theorem dX6_nameHere_102 : decode cX6_nameHere 102 = .ok (.goto (-52), 3) := by decide +kernel
theorem dX6_nameHere_105 : decode cX6_nameHere 105 = .ok (.iload_n 2, 1) := by decide +kernel
theorem dX6_nameHere_106 : decode cX6_nameHere 106 = .ok (.ifCond .eq 5, 3) := by decide +kernel
theorem dX6_nameHere_109 : decode cX6_nameHere 109 = .ok (.iload_n 1, 1) := by decide +kernel
theorem dX6_nameHere_110 : decode cX6_nameHere 110 = .ok (.ireturn, 1) := by decide +kernel
theorem dX6_nameHere_111 : decode cX6_nameHere 111 = .ok (.iinc 1 1, 3) := by decide +kernel
theorem dX6_nameHere_114 : decode cX6_nameHere 114 = .ok (.goto (-112), 3) := by decide +kernel
theorem dX6_nameHere_117 : decode cX6_nameHere 117 = .ok (.bipush (-4), 2) := by decide +kernel
theorem dX6_nameHere_119 : decode cX6_nameHere 119 = .ok (.ireturn, 1) := by decide +kernel
theorem dX6_step_0 : decode cX6_step 0 = .ok (.aload_n 0, 1) := by decide +kernel
theorem dX6_step_1 : decode cX6_step 1 = .ok (.getfield 57, 3) := by decide +kernel
theorem dX6_step_4 : decode cX6_step 4 = .ok (.ifCond .le 4, 3) := by decide +kernel
theorem dX6_step_7 : decode cX6_step 7 = .ok (.return_, 1) := by decide +kernel
theorem dX6_step_8 : decode cX6_step 8 = .ok (.aload_n 0, 1) := by decide +kernel
theorem dX6_step_9 : decode cX6_step 9 = .ok (.aload_n 0, 1) := by decide +kernel
theorem dX6_step_10 : decode cX6_step 10 = .ok (.getfield 69, 3) := by decide +kernel
theorem dX6_step_13 : decode cX6_step 13 = .ok (.invokevirtual 72, 3) := by decide +kernel
theorem dX6_step_16 : decode cX6_step 16 = .ok (.bipush 32, 2) := by decide +kernel
theorem dX6_step_18 : decode cX6_step 18 = .ok (.if_icmp .ne 16, 3) := by decide +kernel
theorem dX6_step_21 : decode cX6_step 21 = .ok (.aload_n 0, 1) := by decide +kernel
theorem dX6_step_22 : decode cX6_step 22 = .ok (.dup, 1) := by decide +kernel
theorem dX6_step_23 : decode cX6_step 23 = .ok (.getfield 69, 3) := by decide +kernel
theorem dX6_step_26 : decode cX6_step 26 = .ok (.iconst 1, 1) := by decide +kernel
theorem dX6_step_27 : decode cX6_step 27 = .ok (.iadd, 1) := by decide +kernel
theorem dX6_step_28 : decode cX6_step 28 = .ok (.putfield 69, 3) := by decide +kernel
theorem dX6_step_31 : decode cX6_step 31 = .ok (.goto (-23), 3) := by decide +kernel
theorem dX6_step_34 : decode cX6_step 34 = .ok (.aload_n 0, 1) := by decide +kernel
theorem dX6_step_35 : decode cX6_step 35 = .ok (.aload_n 0, 1) := by decide +kernel
theorem dX6_step_36 : decode cX6_step 36 = .ok (.getfield 69, 3) := by decide +kernel
theorem dX6_step_39 : decode cX6_step 39 = .ok (.putfield 60, 3) := by decide +kernel
theorem dX6_step_42 : decode cX6_step 42 = .ok (.aload_n 0, 1) := by decide +kernel
theorem dX6_step_43 : decode cX6_step 43 = .ok (.aload_n 0, 1) := by decide +kernel
theorem dX6_step_44 : decode cX6_step 44 = .ok (.getfield 69, 3) := by decide +kernel
theorem dX6_step_47 : decode cX6_step 47 = .ok (.invokevirtual 72, 3) := by decide +kernel
theorem dX6_step_50 : decode cX6_step 50 = .ok (.istore_n 1, 1) := by decide +kernel
theorem dX6_step_51 : decode cX6_step 51 = .ok (.aload_n 0, 1) := by decide +kernel
theorem dX6_step_52 : decode cX6_step 52 = .ok (.iconst 0, 1) := by decide +kernel
theorem dX6_step_53 : decode cX6_step 53 = .ok (.putfield 76, 3) := by decide +kernel
theorem dX6_step_56 : decode cX6_step 56 = .ok (.iload_n 1, 1) := by decide +kernel
theorem dX6_step_57 : decode cX6_step 57 = .ok (.bipush (-4), 2) := by decide +kernel
theorem dX6_step_59 : decode cX6_step 59 = .ok (.if_icmp .ne 11, 3) := by decide +kernel
theorem dX6_step_62 : decode cX6_step 62 = .ok (.aload_n 0, 1) := by decide +kernel
theorem dX6_step_63 : decode cX6_step 63 = .ok (.iconst 0, 1) := by decide +kernel
theorem dX6_step_64 : decode cX6_step 64 = .ok (.putfield 66, 3) := by decide +kernel
theorem dX6_step_67 : decode cX6_step 67 = .ok (.goto 202, 3) := by decide +kernel
theorem dX6_step_70 : decode cX6_step 70 = .ok (.iload_n 1, 1) := by decide +kernel
theorem dX6_step_71 : decode cX6_step 71 = .ok (.i2l, 1) := by decide +kernel
theorem dX6_step_72 : decode cX6_step 72 = .ok (.ldc2_w 79, 3) := by decide +kernel
theorem dX6_step_75 : decode cX6_step 75 = .ok (.ldc2_w 81, 3) := by decide +kernel
theorem dX6_step_78 : decode cX6_step 78 = .ok (.invokestatic 50, 3) := by decide +kernel
theorem dX6_step_81 : decode cX6_step 81 = .ok (.ifCond .eq 45, 3) := by decide +kernel
theorem dX6_step_84 : decode cX6_step 84 = .ok (.aload_n 0, 1) := by decide +kernel
theorem dX6_step_85 : decode cX6_step 85 = .ok (.aload_n 0, 1) := by decide +kernel
theorem dX6_step_86 : decode cX6_step 86 = .ok (.getfield 69, 3) := by decide +kernel
theorem dX6_step_89 : decode cX6_step 89 = .ok (.invokevirtual 72, 3) := by decide +kernel
theorem dX6_step_92 : decode cX6_step 92 = .ok (.i2l, 1) := by decide +kernel
theorem dX6_step_93 : decode cX6_step 93 = .ok (.ldc2_w 79, 3) := by decide +kernel
theorem dX6_step_96 : decode cX6_step 96 = .ok (.ldc2_w 81, 3) := by decide +kernel
theorem dX6_step_99 : decode cX6_step 99 = .ok (.invokestatic 50, 3) := by decide +kernel
theorem dX6_step_102 : decode cX6_step 102 = .ok (.ifCond .eq 16, 3) := by decide +kernel
theorem dX6_step_105 : decode cX6_step 105 = .ok (.aload_n 0, 1) := by decide +kernel
theorem dX6_step_106 : decode cX6_step 106 = .ok (.dup, 1) := by decide +kernel
theorem dX6_step_107 : decode cX6_step 107 = .ok (.getfield 69, 3) := by decide +kernel
theorem dX6_step_110 : decode cX6_step 110 = .ok (.iconst 1, 1) := by decide +kernel
theorem dX6_step_111 : decode cX6_step 111 = .ok (.iadd, 1) := by decide +kernel
theorem dX6_step_112 : decode cX6_step 112 = .ok (.putfield 69, 3) := by decide +kernel
theorem dX6_step_115 : decode cX6_step 115 = .ok (.goto (-31), 3) := by decide +kernel
theorem dX6_step_118 : decode cX6_step 118 = .ok (.aload_n 0, 1) := by decide +kernel
theorem dX6_step_119 : decode cX6_step 119 = .ok (.iconst 1, 1) := by decide +kernel
theorem dX6_step_120 : decode cX6_step 120 = .ok (.putfield 66, 3) := by decide +kernel
theorem dX6_step_123 : decode cX6_step 123 = .ok (.goto 146, 3) := by decide +kernel
theorem dX6_step_126 : decode cX6_step 126 = .ok (.iload_n 1, 1) := by decide +kernel
theorem dX6_step_127 : decode cX6_step 127 = .ok (.i2l, 1) := by decide +kernel
theorem dX6_step_128 : decode cX6_step 128 = .ok (.ldc2_w 83, 3) := by decide +kernel
theorem dX6_step_131 : decode cX6_step 131 = .ok (.ldc2_w 85, 3) := by decide +kernel
theorem dX6_step_134 : decode cX6_step 134 = .ok (.invokestatic 50, 3) := by decide +kernel
theorem dX6_step_137 : decode cX6_step 137 = .ok (.ifCond .eq 106, 3) := by decide +kernel
theorem dX6_step_140 : decode cX6_step 140 = .ok (.aload_n 0, 1) := by decide +kernel
theorem dX6_step_141 : decode cX6_step 141 = .ok (.aload_n 0, 1) := by decide +kernel
theorem dX6_step_142 : decode cX6_step 142 = .ok (.getfield 69, 3) := by decide +kernel
theorem dX6_step_145 : decode cX6_step 145 = .ok (.invokevirtual 72, 3) := by decide +kernel
theorem dX6_step_148 : decode cX6_step 148 = .ok (.i2l, 1) := by decide +kernel
theorem dX6_step_149 : decode cX6_step 149 = .ok (.ldc2_w 83, 3) := by decide +kernel
theorem dX6_step_152 : decode cX6_step 152 = .ok (.ldc2_w 85, 3) := by decide +kernel
theorem dX6_step_155 : decode cX6_step 155 = .ok (.invokestatic 50, 3) := by decide +kernel
theorem dX6_step_158 : decode cX6_step 158 = .ok (.ifCond .eq 59, 3) := by decide +kernel
theorem dX6_step_161 : decode cX6_step 161 = .ok (.aload_n 0, 1) := by decide +kernel
theorem dX6_step_162 : decode cX6_step 162 = .ok (.aload_n 0, 1) := by decide +kernel
theorem dX6_step_163 : decode cX6_step 163 = .ok (.getfield 69, 3) := by decide +kernel
theorem dX6_step_166 : decode cX6_step 166 = .ok (.aload_n 0, 1) := by decide +kernel
theorem dX6_step_167 : decode cX6_step 167 = .ok (.getfield 60, 3) := by decide +kernel
theorem dX6_step_170 : decode cX6_step 170 = .ok (.isub, 1) := by decide +kernel
theorem dX6_step_171 : decode cX6_step 171 = .ok (.iconst 2, 1) := by decide +kernel
theorem dX6_step_172 : decode cX6_step 172 = .ok (.if_icmp .ge 25, 3) := by decide +kernel
theorem dX6_step_175 : decode cX6_step 175 = .ok (.bipush 10, 2) := by decide +kernel
theorem dX6_step_177 : decode cX6_step 177 = .ok (.aload_n 0, 1) := by decide +kernel
theorem dX6_step_178 : decode cX6_step 178 = .ok (.getfield 76, 3) := by decide +kernel
theorem dX6_step_181 : decode cX6_step 181 = .ok (.imul, 1) := by decide +kernel
theorem dX6_step_182 : decode cX6_step 182 = .ok (.aload_n 0, 1) := by decide +kernel
theorem dX6_step_183 : decode cX6_step 183 = .ok (.aload_n 0, 1) := by decide +kernel
theorem dX6_step_184 : decode cX6_step 184 = .ok (.getfield 69, 3) := by decide +kernel
theorem dX6_step_187 : decode cX6_step 187 = .ok (.invokevirtual 72, 3) := by decide +kernel
theorem dX6_step_190 : decode cX6_step 190 = .ok (.iadd, 1) := by decide +kernel
theorem dX6_step_191 : decode cX6_step 191 = .ok (.bipush 48, 2) := by decide +kernel
theorem dX6_step_193 : decode cX6_step 193 = .ok (.isub, 1) := by decide +kernel
theorem dX6_step_194 : decode cX6_step 194 = .ok (.goto 7, 3) := by decide +kernel
theorem dX6_step_197 : decode cX6_step 197 = .ok (.aload_n 0, 1) := by decide +kernel
theorem dX6_step_198 : decode cX6_step 198 = .ok (.getfield 76, 3) := by decide +kernel
theorem dX6_step_201 : decode cX6_step 201 = .ok (.putfield 76, 3) := by decide +kernel
theorem dX6_step_204 : decode cX6_step 204 = .ok (.aload_n 0, 1) := by decide +kernel
theorem dX6_step_205 : decode cX6_step 205 = .ok (.dup, 1) := by decide +kernel
theorem dX6_step_206 : decode cX6_step 206 = .ok (.getfield 69, 3) := by decide +kernel
theorem dX6_step_209 : decode cX6_step 209 = .ok (.iconst 1, 1) := by decide +kernel
theorem dX6_step_210 : decode cX6_step 210 = .ok (.iadd, 1) := by decide +kernel
theorem dX6_step_211 : decode cX6_step 211 = .ok (.putfield 69, 3) := by decide +kernel
theorem dX6_step_214 : decode cX6_step 214 = .ok (.goto (-74), 3) := by decide +kernel
theorem dX6_step_217 : decode cX6_step 217 = .ok (.aload_n 0, 1) := by decide +kernel
theorem dX6_step_218 : decode cX6_step 218 = .ok (.iconst 2, 1) := by decide +kernel
theorem dX6_step_219 : decode cX6_step 219 = .ok (.putfield 66, 3) := by decide +kernel
theorem dX6_step_222 : decode cX6_step 222 = .ok (.aload_n 0, 1) := by decide +kernel
theorem dX6_step_223 : decode cX6_step 223 = .ok (.getfield 69, 3) := by decide +kernel
theorem dX6_step_226 : decode cX6_step 226 = .ok (.aload_n 0, 1) := by decide +kernel
theorem dX6_step_227 : decode cX6_step 227 = .ok (.getfield 60, 3) := by decide +kernel
theorem dX6_step_230 : decode cX6_step 230 = .ok (.isub, 1) := by decide +kernel
theorem dX6_step_231 : decode cX6_step 231 = .ok (.iconst 2, 1) := by decide +kernel
theorem dX6_step_232 : decode cX6_step 232 = .ok (.if_icmp .le 37, 3) := by decide +kernel
theorem dX6_step_235 : decode cX6_step 235 = .ok (.aload_n 0, 1) := by decide +kernel
theorem dX6_step_236 : decode cX6_step 236 = .ok (.iconst 1, 1) := by decide +kernel
theorem dX6_step_237 : decode cX6_step 237 = .ok (.invokevirtual 87, 3) := by decide +kernel
theorem dX6_step_240 : decode cX6_step 240 = .ok (.goto 29, 3) := by decide +kernel
theorem dX6_step_243 : decode cX6_step 243 = .ok (.aload_n 0, 1) := by decide +kernel
theorem dX6_step_244 : decode cX6_step 244 = .ok (.iconst 3, 1) := by decide +kernel
theorem dX6_step_245 : decode cX6_step 245 = .ok (.putfield 66, 3) := by decide +kernel
theorem dX6_step_248 : decode cX6_step 248 = .ok (.aload_n 0, 1) := by decide +kernel
theorem dX6_step_249 : decode cX6_step 249 = .ok (.dup, 1) := by decide +kernel
theorem dX6_step_250 : decode cX6_step 250 = .ok (.getfield 69, 3) := by decide +kernel
theorem dX6_step_253 : decode cX6_step 253 = .ok (.iconst 1, 1) := by decide +kernel
theorem dX6_step_254 : decode cX6_step 254 = .ok (.iadd, 1) := by decide +kernel
theorem dX6_step_255 : decode cX6_step 255 = .ok (.putfield 69, 3) := by decide +kernel
theorem dX6_step_258 : decode cX6_step 258 = .ok (.iload_n 1, 1) := by decide +kernel
theorem dX6_step_259 : decode cX6_step 259 = .ok (.bipush 59, 2) := by decide +kernel
theorem dX6_step_261 : decode cX6_step 261 = .ok (.if_icmp .eq 8, 3) := by decide +kernel
theorem dX6_step_264 : decode cX6_step 264 = .ok (.aload_n 0, 1) := by decide +kernel
theorem dX6_step_265 : decode cX6_step 265 = .ok (.iconst 1, 1) := by decide +kernel
theorem dX6_step_266 : decode cX6_step 266 = .ok (.invokevirtual 87, 3) := by decide +kernel
theorem dX6_step_269 : decode cX6_step 269 = .ok (.return_, 1) := by decide +kernel
theorem dX6_number_0 : decode cX6_number 0 = .ok (.aload_n 0, 1) := by decide +kernel
theorem dX6_number_1 : decode cX6_number 1 = .ok (.getfield 57, 3) := by decide +kernel
theorem dX6_number_4 : decode cX6_number 4 = .ok (.ifCond .ne 16, 3) := by decide +kernel
theorem dX6_number_7 : decode cX6_number 7 = .ok (.aload_n 0, 1) := by decide +kernel
theorem dX6_number_8 : decode cX6_number 8 = .ok (.getfield 66, 3) := by decide +kernel
theorem dX6_number_11 : decode cX6_number 11 = .ok (.iconst 2, 1) := by decide +kernel
theorem dX6_number_12 : decode cX6_number 12 = .ok (.if_icmp .eq 8, 3) := by decide +kernel
theorem dX6_number_15 : decode cX6_number 15 = .ok (.aload_n 0, 1) := by decide +kernel
theorem dX6_number_16 : decode cX6_number 16 = .ok (.iconst 2, 1) := by decide +kernel
theorem dX6_number_17 : decode cX6_number 17 = .ok (.invokevirtual 87, 3) := by decide +kernel
theorem dX6_number_20 : decode cX6_number 20 = .ok (.aload_n 0, 1) := by decide +kernel
theorem dX6_number_21 : decode cX6_number 21 = .ok (.getfield 57, 3) := by decide +kernel
theorem dX6_number_24 : decode cX6_number 24 = .ok (.ifCond .ne 23, 3) := by decide +kernel
theorem dX6_number_27 : decode cX6_number 27 = .ok (.aload_n 0, 1) := by decide +kernel
theorem dX6_number_28 : decode cX6_number 28 = .ok (.getfield 76, 3) := by decide +kernel
theorem dX6_number_31 : decode cX6_number 31 = .ok (.i2l, 1) := by decide +kernel
theorem dX6_number_32 : decode cX6_number 32 = .ok (.iload_n 1, 1) := by decide +kernel
theorem dX6_number_33 : decode cX6_number 33 = .ok (.i2l, 1) := by decide +kernel
theorem dX6_number_34 : decode cX6_number 34 = .ok (.iload_n 2, 1) := by decide +kernel
theorem dX6_number_35 : decode cX6_number 35 = .ok (.i2l, 1) := by decide +kernel
theorem dX6_number_36 : decode cX6_number 36 = .ok (.invokestatic 50, 3) := by decide +kernel
theorem dX6_number_39 : decode cX6_number 39 = .ok (.ifCond .ne 8, 3) := by decide +kernel
theorem dX6_number_42 : decode cX6_number 42 = .ok (.aload_n 0, 1) := by decide +kernel
theorem dX6_number_43 : decode cX6_number 43 = .ok (.iconst 3, 1) := by decide +kernel
theorem dX6_number_44 : decode cX6_number 44 = .ok (.invokevirtual 87, 3) := by decide +kernel
theorem dX6_number_47 : decode cX6_number 47 = .ok (.aload_n 0, 1) := by decide +kernel
theorem dX6_number_48 : decode cX6_number 48 = .ok (.getfield 57, 3) := by decide +kernel
theorem dX6_number_51 : decode cX6_number 51 = .ok (.ifCond .ne 10, 3) := by decide +kernel
theorem dX6_number_54 : decode cX6_number 54 = .ok (.aload_n 0, 1) := by decide +kernel
theorem dX6_number_55 : decode cX6_number 55 = .ok (.getfield 76, 3) := by decide +kernel
theorem dX6_number_58 : decode cX6_number 58 = .ok (.goto 4, 3) := by decide +kernel
theorem dX6_number_61 : decode cX6_number 61 = .ok (.iload_n 1, 1) := by decide +kernel
theorem dX6_number_62 : decode cX6_number 62 = .ok (.istore_n 3, 1) := by decide +kernel
theorem dX6_number_63 : decode cX6_number 63 = .ok (.aload_n 0, 1) := by decide +kernel
theorem dX6_number_64 : decode cX6_number 64 = .ok (.invokevirtual 91, 3) := by decide +kernel
theorem dX6_number_67 : decode cX6_number 67 = .ok (.iload_n 3, 1) := by decide +kernel
theorem dX6_number_68 : decode cX6_number 68 = .ok (.ireturn, 1) := by decide +kernel
theorem dX6_readMore_0 : decode cX6_readMore 0 = .ok (.iload_n 1, 1) := by decide +kernel
theorem dX6_readMore_1 : decode cX6_readMore 1 = .ok (.iconst 4, 1) := by decide +kernel
theorem dX6_readMore_2 : decode cX6_readMore 2 = .ok (.if_icmp .ne 19, 3) := by decide +kernel
theorem dX6_readMore_5 : decode cX6_readMore 5 = .ok (.aload_n 0, 1) := by decide +kernel
theorem dX6_readMore_6 : decode cX6_readMore 6 = .ok (.getfield 13, 3) := by decide +kernel
theorem dX6_readMore_9 : decode cX6_readMore 9 = .ok (.bipush 21, 2) := by decide +kernel
theorem dX6_readMore_11 : decode cX6_readMore 11 = .ok (.aload_n 0, 1) := by decide +kernel
theorem dX6_readMore_12 : decode cX6_readMore 12 = .ok (.iconst 0, 1) := by decide +kernel
theorem dX6_readMore_13 : decode cX6_readMore 13 = .ok (.iconst 5, 1) := by decide +kernel
theorem dX6_readMore_14 : decode cX6_readMore 14 = .ok (.invokevirtual 94, 3) := by decide +kernel
theorem dX6_readMore_17 : decode cX6_readMore 17 = .ok (.iconst 1, 1) := by decide +kernel
theorem dX6_readMore_18 : decode cX6_readMore 18 = .ok (.isub, 1) := by decide +kernel
theorem dX6_readMore_19 : decode cX6_readMore 19 = .ok (.iastore, 1) := by decide +kernel
theorem dX6_readMore_20 : decode cX6_readMore 20 = .ok (.return_, 1) := by decide +kernel
theorem dX6_readMore_21 : decode cX6_readMore 21 = .ok (.aload_n 0, 1) := by decide +kernel
theorem dX6_readMore_22 : decode cX6_readMore 22 = .ok (.getfield 13, 3) := by decide +kernel
theorem dX6_readMore_25 : decode cX6_readMore 25 = .ok (.bipush 20, 2) := by decide +kernel
theorem dX6_readMore_27 : decode cX6_readMore 27 = .ok (.iaload, 1) := by decide +kernel
theorem dX6_readMore_28 : decode cX6_readMore 28 = .ok (.istore_n 2, 1) := by decide +kernel
theorem dX6_readMore_29 : decode cX6_readMore 29 = .ok (.aload_n 0, 1) := by decide +kernel
theorem dX6_readMore_30 : decode cX6_readMore 30 = .ok (.getfield 13, 3) := by decide +kernel
theorem dX6_readMore_33 : decode cX6_readMore 33 = .ok (.iload_n 2, 1) := by decide +kernel
theorem dX6_readMore_34 : decode cX6_readMore 34 = .ok (.iload_n 1, 1) := by decide +kernel
theorem dX6_readMore_35 : decode cX6_readMore 35 = .ok (.iastore, 1) := by decide +kernel
theorem dX6_readMore_36 : decode cX6_readMore 36 = .ok (.aload_n 0, 1) := by decide +kernel
theorem dX6_readMore_37 : decode cX6_readMore 37 = .ok (.getfield 13, 3) := by decide +kernel
theorem dX6_readMore_40 : decode cX6_readMore 40 = .ok (.iconst 5, 1) := by decide +kernel
theorem dX6_readMore_41 : decode cX6_readMore 41 = .ok (.iload_n 2, 1) := by decide +kernel
theorem dX6_readMore_42 : decode cX6_readMore 42 = .ok (.iadd, 1) := by decide +kernel
theorem dX6_readMore_43 : decode cX6_readMore 43 = .ok (.aload_n 0, 1) := by decide +kernel
theorem dX6_readMore_44 : decode cX6_readMore 44 = .ok (.iconst 2, 1) := by decide +kernel
theorem dX6_readMore_45 : decode cX6_readMore 45 = .ok (.bipush 30, 2) := by decide +kernel
theorem dX6_readMore_47 : decode cX6_readMore 47 = .ok (.invokevirtual 94, 3) := by decide +kernel
theorem dX6_readMore_50 : decode cX6_readMore 50 = .ok (.iastore, 1) := by decide +kernel
theorem dX6_readMore_51 : decode cX6_readMore 51 = .ok (.aload_n 0, 1) := by decide +kernel
theorem dX6_readMore_52 : decode cX6_readMore 52 = .ok (.getfield 13, 3) := by decide +kernel
theorem dX6_readMore_55 : decode cX6_readMore 55 = .ok (.bipush 10, 2) := by decide +kernel
theorem dX6_readMore_57 : decode cX6_readMore 57 = .ok (.iload_n 2, 1) := by decide +kernel
theorem dX6_readMore_58 : decode cX6_readMore 58 = .ok (.iadd, 1) := by decide +kernel
theorem dX6_readMore_59 : decode cX6_readMore 59 = .ok (.aload_n 0, 1) := by decide +kernel
theorem dX6_readMore_60 : decode cX6_readMore 60 = .ok (.iconst 0, 1) := by decide +kernel
theorem dX6_readMore_61 : decode cX6_readMore 61 = .ok (.aload_n 0, 1) := by decide +kernel
theorem dX6_readMore_62 : decode cX6_readMore 62 = .ok (.getfield 13, 3) := by decide +kernel
theorem dX6_readMore_65 : decode cX6_readMore 65 = .ok (.iconst 5, 1) := by decide +kernel
theorem dX6_readMore_66 : decode cX6_readMore 66 = .ok (.iload_n 2, 1) := by decide +kernel
theorem dX6_readMore_67 : decode cX6_readMore 67 = .ok (.iadd, 1) := by decide +kernel
theorem dX6_readMore_68 : decode cX6_readMore 68 = .ok (.iaload, 1) := by decide +kernel
theorem dX6_readMore_69 : decode cX6_readMore 69 = .ok (.iconst 1, 1) := by decide +kernel
theorem dX6_readMore_70 : decode cX6_readMore 70 = .ok (.isub, 1) := by decide +kernel
theorem dX6_readMore_71 : decode cX6_readMore 71 = .ok (.invokevirtual 94, 3) := by decide +kernel
theorem dX6_readMore_74 : decode cX6_readMore 74 = .ok (.iastore, 1) := by decide +kernel
theorem dX6_readMore_75 : decode cX6_readMore 75 = .ok (.aload_n 0, 1) := by decide +kernel
theorem dX6_readMore_76 : decode cX6_readMore 76 = .ok (.getfield 13, 3) := by decide +kernel
theorem dX6_readMore_79 : decode cX6_readMore 79 = .ok (.bipush 20, 2) := by decide +kernel
theorem dX6_readMore_81 : decode cX6_readMore 81 = .ok (.dup2, 1) := by decide +kernel
theorem dX6_readMore_82 : decode cX6_readMore 82 = .ok (.iaload, 1) := by decide +kernel
theorem dX6_readMore_83 : decode cX6_readMore 83 = .ok (.iconst 1, 1) := by decide +kernel
theorem dX6_readMore_84 : decode cX6_readMore 84 = .ok (.iadd, 1) := by decide +kernel
theorem dX6_readMore_85 : decode cX6_readMore 85 = .ok (.iastore, 1) := by decide +kernel
theorem dX6_readMore_86 : decode cX6_readMore 86 = .ok (.return_, 1) := by decide +kernel
theorem dX6_readLine_0 : decode cX6_readLine 0 = .ok (.aload_n 0, 1) := by decide +kernel
theorem dX6_readLine_1 : decode cX6_readLine 1 = .ok (.invokevirtual 98, 3) := by decide +kernel
theorem dX6_readLine_4 : decode cX6_readLine 4 = .ok (.istore_n 1, 1) := by decide +kernel
theorem dX6_readLine_5 : decode cX6_readLine 5 = .ok (.iload_n 1, 1) := by decide +kernel
theorem dX6_readLine_6 : decode cX6_readLine 6 = .ok (.i2l, 1) := by decide +kernel
theorem dX6_readLine_7 : decode cX6_readLine 7 = .ok (.lconst 0, 1) := by decide +kernel
theorem dX6_readLine_8 : decode cX6_readLine 8 = .ok (.ldc2_w 102, 3) := by decide +kernel
theorem dX6_readLine_11 : decode cX6_readLine 11 = .ok (.invokestatic 50, 3) := by decide +kernel
theorem dX6_readLine_14 : decode cX6_readLine 14 = .ok (.ifCond .ne 9, 3) := by decide +kernel
theorem dX6_readLine_17 : decode cX6_readLine 17 = .ok (.aload_n 0, 1) := by decide +kernel
theorem dX6_readLine_18 : decode cX6_readLine 18 = .ok (.iconst 2, 1) := by decide +kernel
theorem dX6_readLine_19 : decode cX6_readLine 19 = .ok (.invokevirtual 87, 3) := by decide +kernel
theorem dX6_readLine_22 : decode cX6_readLine 22 = .ok (.return_, 1) := by decide +kernel
theorem dX6_readLine_23 : decode cX6_readLine 23 = .ok (.iload_n 1, 1) := by decide +kernel
theorem dX6_readLine_24 : decode cX6_readLine 24 = .ok (.iconst 3, 1) := by decide +kernel
theorem dX6_readLine_25 : decode cX6_readLine 25 = .ok (.if_icmp .gt 19, 3) := by decide +kernel
theorem dX6_readLine_28 : decode cX6_readLine 28 = .ok (.aload_n 0, 1) := by decide +kernel
theorem dX6_readLine_29 : decode cX6_readLine 29 = .ok (.getfield 13, 3) := by decide +kernel
theorem dX6_readLine_32 : decode cX6_readLine 32 = .ok (.bipush 20, 2) := by decide +kernel
theorem dX6_readLine_34 : decode cX6_readLine 34 = .ok (.iaload, 1) := by decide +kernel
theorem dX6_readLine_35 : decode cX6_readLine 35 = .ok (.iconst 5, 1) := by decide +kernel
theorem dX6_readLine_36 : decode cX6_readLine 36 = .ok (.if_icmp .ne 8, 3) := by decide +kernel
theorem dX6_readLine_39 : decode cX6_readLine 39 = .ok (.aload_n 0, 1) := by decide +kernel
theorem dX6_readLine_40 : decode cX6_readLine 40 = .ok (.iconst 5, 1) := by decide +kernel
theorem dX6_readLine_41 : decode cX6_readLine 41 = .ok (.invokevirtual 87, 3) := by decide +kernel
theorem dX6_readLine_44 : decode cX6_readLine 44 = .ok (.iload_n 1, 1) := by decide +kernel
theorem dX6_readLine_45 : decode cX6_readLine 45 = .ok (.iconst 4, 1) := by decide +kernel
theorem dX6_readLine_46 : decode cX6_readLine 46 = .ok (.if_icmp .ne 15, 3) := by decide +kernel
theorem dX6_readLine_49 : decode cX6_readLine 49 = .ok (.aload_n 0, 1) := by decide +kernel
theorem dX6_readLine_50 : decode cX6_readLine 50 = .ok (.getfield 104, 3) := by decide +kernel
theorem dX6_readLine_53 : decode cX6_readLine 53 = .ok (.ifCond .eq 8, 3) := by decide +kernel
theorem dX6_readLine_56 : decode cX6_readLine 56 = .ok (.aload_n 0, 1) := by decide +kernel
theorem dX6_readLine_57 : decode cX6_readLine 57 = .ok (.iconst 4, 1) := by decide +kernel
theorem dX6_readLine_58 : decode cX6_readLine 58 = .ok (.invokevirtual 87, 3) := by decide +kernel
theorem dX6_readLine_61 : decode cX6_readLine 61 = .ok (.aload_n 0, 1) := by decide +kernel
theorem dX6_readLine_62 : decode cX6_readLine 62 = .ok (.aload_n 0, 1) := by decide +kernel
theorem dX6_readLine_63 : decode cX6_readLine 63 = .ok (.getfield 104, 3) := by decide +kernel
theorem dX6_readLine_66 : decode cX6_readLine 66 = .ok (.ifCond .ne 8, 3) := by decide +kernel
theorem dX6_readLine_69 : decode cX6_readLine 69 = .ok (.iload_n 1, 1) := by decide +kernel
theorem dX6_readLine_70 : decode cX6_readLine 70 = .ok (.iconst 4, 1) := by decide +kernel
theorem dX6_readLine_71 : decode cX6_readLine 71 = .ok (.if_icmp .ne 7, 3) := by decide +kernel
theorem dX6_readLine_74 : decode cX6_readLine 74 = .ok (.iconst 1, 1) := by decide +kernel
theorem dX6_readLine_75 : decode cX6_readLine 75 = .ok (.goto 4, 3) := by decide +kernel
theorem dX6_readLine_78 : decode cX6_readLine 78 = .ok (.iconst 0, 1) := by decide +kernel
theorem dX6_readLine_79 : decode cX6_readLine 79 = .ok (.putfield 104, 3) := by decide +kernel
theorem dX6_readLine_82 : decode cX6_readLine 82 = .ok (.aload_n 0, 1) := by decide +kernel
theorem dX6_readLine_83 : decode cX6_readLine 83 = .ok (.invokevirtual 91, 3) := by decide +kernel
theorem dX6_readLine_86 : decode cX6_readLine 86 = .ok (.aload_n 0, 1) := by decide +kernel
theorem dX6_readLine_87 : decode cX6_readLine 87 = .ok (.getfield 57, 3) := by decide +kernel
theorem dX6_readLine_90 : decode cX6_readLine 90 = .ok (.ifCond .le 4, 3) := by decide +kernel
theorem dX6_readLine_93 : decode cX6_readLine 93 = .ok (.return_, 1) := by decide +kernel
theorem dX6_readLine_94 : decode cX6_readLine 94 = .ok (.aload_n 0, 1) := by decide +kernel
theorem dX6_readLine_95 : decode cX6_readLine 95 = .ok (.iload_n 1, 1) := by decide +kernel
theorem dX6_readLine_96 : decode cX6_readLine 96 = .ok (.invokevirtual 108, 3) := by decide +kernel
theorem dX6_readLine_99 : decode cX6_readLine 99 = .ok (.aload_n 0, 1) := by decide +kernel
theorem dX6_readLine_100 : decode cX6_readLine 100 = .ok (.getfield 57, 3) := by decide +kernel
theorem dX6_readLine_103 : decode cX6_readLine 103 = .ok (.ifCond .ne 16, 3) := by decide +kernel
theorem dX6_readLine_106 : decode cX6_readLine 106 = .ok (.aload_n 0, 1) := by decide +kernel
theorem dX6_readLine_107 : decode cX6_readLine 107 = .ok (.getfield 66, 3) := by decide +kernel
theorem dX6_readLine_110 : decode cX6_readLine 110 = .ok (.iconst 3, 1) := by decide +kernel
theorem dX6_readLine_111 : decode cX6_readLine 111 = .ok (.if_icmp .eq 8, 3) := by decide +kernel
theorem dX6_readLine_114 : decode cX6_readLine 114 = .ok (.aload_n 0, 1) := by decide +kernel
theorem dX6_readLine_115 : decode cX6_readLine 115 = .ok (.iconst 2, 1) := by decide +kernel
theorem dX6_readLine_116 : decode cX6_readLine 116 = .ok (.invokevirtual 87, 3) := by decide +kernel
theorem dX6_readLine_119 : decode cX6_readLine 119 = .ok (.aload_n 0, 1) := by decide +kernel
theorem dX6_readLine_120 : decode cX6_readLine 120 = .ok (.invokevirtual 91, 3) := by decide +kernel
theorem dX6_readLine_123 : decode cX6_readLine 123 = .ok (.return_, 1) := by decide +kernel
theorem dX6_text_0 : decode cX6_text 0 = .ok (.aload_n 0, 1) := by decide +kernel
theorem dX6_text_1 : decode cX6_text 1 = .ok (.iconst 0, 1) := by decide +kernel
theorem dX6_text_2 : decode cX6_text 2 = .ok (.putfield 57, 3) := by decide +kernel
theorem dX6_text_5 : decode cX6_text 5 = .ok (.aload_n 0, 1) := by decide +kernel
theorem dX6_text_6 : decode cX6_text 6 = .ok (.iconst 0, 1) := by decide +kernel
theorem dX6_text_7 : decode cX6_text 7 = .ok (.putfield 69, 3) := by decide +kernel
theorem dX6_text_10 : decode cX6_text 10 = .ok (.aload_n 0, 1) := by decide +kernel
theorem dX6_text_11 : decode cX6_text 11 = .ok (.iconst 0, 1) := by decide +kernel
theorem dX6_text_12 : decode cX6_text 12 = .ok (.putfield 104, 3) := by decide +kernel
theorem dX6_text_15 : decode cX6_text 15 = .ok (.iconst 0, 1) := by decide +kernel
theorem dX6_text_16 : decode cX6_text 16 = .ok (.istore_n 1, 1) := by decide +kernel
theorem dX6_text_17 : decode cX6_text 17 = .ok (.iconst 0, 1) := by decide +kernel
theorem dX6_text_18 : decode cX6_text 18 = .ok (.istore_n 2, 1) := by decide +kernel
theorem dX6_text_19 : decode cX6_text 19 = .ok (.iload_n 2, 1) := by decide +kernel
theorem dX6_text_20 : decode cX6_text 20 = .ok (.bipush 23, 2) := by decide +kernel
theorem dX6_text_22 : decode cX6_text 22 = .ok (.if_icmp .ge 16, 3) := by decide +kernel
theorem dX6_text_25 : decode cX6_text 25 = .ok (.aload_n 0, 1) := by decide +kernel
theorem dX6_text_26 : decode cX6_text 26 = .ok (.getfield 13, 3) := by decide +kernel
theorem dX6_text_29 : decode cX6_text 29 = .ok (.iload_n 2, 1) := by decide +kernel
theorem dX6_text_30 : decode cX6_text 30 = .ok (.iconst 0, 1) := by decide +kernel
theorem dX6_text_31 : decode cX6_text 31 = .ok (.iastore, 1) := by decide +kernel
theorem dX6_text_32 : decode cX6_text 32 = .ok (.iinc 2 1, 3) := by decide +kernel
theorem dX6_text_35 : decode cX6_text 35 = .ok (.goto (-16), 3) := by decide +kernel
theorem dX6_text_38 : decode cX6_text 38 = .ok (.aload_n 0, 1) := by decide +kernel
theorem dX6_text_39 : decode cX6_text 39 = .ok (.invokevirtual 91, 3) := by decide +kernel
theorem dX6_text_42 : decode cX6_text 42 = .ok (.aload_n 0, 1) := by decide +kernel
theorem dX6_text_43 : decode cX6_text 43 = .ok (.getfield 57, 3) := by decide +kernel
theorem dX6_text_46 : decode cX6_text 46 = .ok (.ifCond .ne 20, 3) := by decide +kernel
theorem dX6_text_49 : decode cX6_text 49 = .ok (.aload_n 0, 1) := by decide +kernel
theorem dX6_text_50 : decode cX6_text 50 = .ok (.getfield 66, 3) := by decide +kernel
theorem dX6_text_53 : decode cX6_text 53 = .ok (.ifCond .eq 13, 3) := by decide +kernel
theorem dX6_text_56 : decode cX6_text 56 = .ok (.aload_n 0, 1) := by decide +kernel
theorem dX6_text_57 : decode cX6_text 57 = .ok (.invokevirtual 111, 3) := by decide +kernel
theorem dX6_text_60 : decode cX6_text 60 = .ok (.iinc 1 1, 3) := by decide +kernel
theorem dX6_text_63 : decode cX6_text 63 = .ok (.goto (-21), 3) := by decide +kernel
theorem dX6_text_66 : decode cX6_text 66 = .ok (.aload_n 0, 1) := by decide +kernel
theorem dX6_text_67 : decode cX6_text 67 = .ok (.iconst 0, 1) := by decide +kernel
theorem dX6_text_68 : decode cX6_text 68 = .ok (.putfield 54, 3) := by decide +kernel
theorem dX6_text_71 : decode cX6_text 71 = .ok (.aload_n 0, 1) := by decide +kernel
theorem dX6_text_72 : decode cX6_text 72 = .ok (.aload_n 0, 1) := by decide +kernel
theorem dX6_text_73 : decode cX6_text 73 = .ok (.getfield 57, 3) := by decide +kernel
theorem dX6_text_76 : decode cX6_text 76 = .ok (.putfield 114, 3) := by decide +kernel
theorem dX6_text_79 : decode cX6_text 79 = .ok (.aload_n 0, 1) := by decide +kernel
theorem dX6_text_80 : decode cX6_text 80 = .ok (.getfield 57, 3) := by decide +kernel
theorem dX6_text_83 : decode cX6_text 83 = .ok (.ifCond .le 11, 3) := by decide +kernel
theorem dX6_text_86 : decode cX6_text 86 = .ok (.bipush (-10), 2) := by decide +kernel
theorem dX6_text_88 : decode cX6_text 88 = .ok (.aload_n 0, 1) := by decide +kernel
theorem dX6_text_89 : decode cX6_text 89 = .ok (.getfield 63, 3) := by decide +kernel
theorem dX6_text_92 : decode cX6_text 92 = .ok (.isub, 1) := by decide +kernel
theorem dX6_text_93 : decode cX6_text 93 = .ok (.ireturn, 1) := by decide +kernel
theorem dX6_text_94 : decode cX6_text 94 = .ok (.iconst 0, 1) := by decide +kernel
theorem dX6_text_95 : decode cX6_text 95 = .ok (.istore_n 2, 1) := by decide +kernel
theorem dX6_text_96 : decode cX6_text 96 = .ok (.iload_n 2, 1) := by decide +kernel
theorem dX6_text_97 : decode cX6_text 97 = .ok (.bipush 23, 2) := by decide +kernel
theorem dX6_text_99 : decode cX6_text 99 = .ok (.if_icmp .ge 21, 3) := by decide +kernel
theorem dX6_text_102 : decode cX6_text 102 = .ok (.aload_n 0, 1) := by decide +kernel
theorem dX6_text_103 : decode cX6_text 103 = .ok (.getfield 7, 3) := by decide +kernel
theorem dX6_text_106 : decode cX6_text 106 = .ok (.iload_n 2, 1) := by decide +kernel
theorem dX6_text_107 : decode cX6_text 107 = .ok (.aload_n 0, 1) := by decide +kernel
theorem dX6_text_108 : decode cX6_text 108 = .ok (.getfield 13, 3) := by decide +kernel
theorem dX6_text_111 : decode cX6_text 111 = .ok (.iload_n 2, 1) := by decide +kernel
theorem dX6_text_112 : decode cX6_text 112 = .ok (.iaload, 1) := by decide +kernel
theorem dX6_text_113 : decode cX6_text 113 = .ok (.iastore, 1) := by decide +kernel
theorem dX6_text_114 : decode cX6_text 114 = .ok (.iinc 2 1, 3) := by decide +kernel
theorem dX6_text_117 : decode cX6_text 117 = .ok (.goto (-21), 3) := by decide +kernel
theorem dX6_text_120 : decode cX6_text 120 = .ok (.aload_n 0, 1) := by decide +kernel
theorem dX6_text_121 : decode cX6_text 121 = .ok (.iconst 0, 1) := by decide +kernel
theorem dX6_text_122 : decode cX6_text 122 = .ok (.putfield 117, 3) := by decide +kernel
theorem dX6_text_125 : decode cX6_text 125 = .ok (.aload_n 0, 1) := by decide +kernel
theorem dX6_text_126 : decode cX6_text 126 = .ok (.getfield 35, 3) := by decide +kernel
theorem dX6_text_129 : decode cX6_text 129 = .ok (.iconst 0, 1) := by decide +kernel
theorem dX6_text_130 : decode cX6_text 130 = .ok (.iconst 0, 1) := by decide +kernel
theorem dX6_text_131 : decode cX6_text 131 = .ok (.bastore, 1) := by decide +kernel
theorem dX6_text_132 : decode cX6_text 132 = .ok (.aload_n 0, 1) := by decide +kernel
theorem dX6_text_133 : decode cX6_text 133 = .ok (.getfield 35, 3) := by decide +kernel
theorem dX6_text_136 : decode cX6_text 136 = .ok (.iconst 1, 1) := by decide +kernel
theorem dX6_text_137 : decode cX6_text 137 = .ok (.iconst 0, 1) := by decide +kernel
theorem dX6_text_138 : decode cX6_text 138 = .ok (.bastore, 1) := by decide +kernel
theorem dX6_text_139 : decode cX6_text 139 = .ok (.iload_n 1, 1) := by decide +kernel
theorem dX6_text_140 : decode cX6_text 140 = .ok (.ireturn, 1) := by decide +kernel
theorem dX6_fault_0 : decode cX6_fault 0 = .ok (.aload_n 0, 1) := by decide +kernel
theorem dX6_fault_1 : decode cX6_fault 1 = .ok (.getfield 114, 3) := by decide +kernel
theorem dX6_fault_4 : decode cX6_fault 4 = .ok (.ireturn, 1) := by decide +kernel
theorem dX6_isClock_0 : decode cX6_isClock 0 = .ok (.iload_n 1, 1) := by decide +kernel
theorem dX6_isClock_1 : decode cX6_isClock 1 = .ok (.i2l, 1) := by decide +kernel
theorem dX6_isClock_2 : decode cX6_isClock 2 = .ok (.lconst 0, 1) := by decide +kernel
theorem dX6_isClock_3 : decode cX6_isClock 3 = .ok (.aload_n 0, 1) := by decide +kernel
theorem dX6_isClock_4 : decode cX6_isClock 4 = .ok (.getfield 7, 3) := by decide +kernel
theorem dX6_isClock_7 : decode cX6_isClock 7 = .ok (.bipush 20, 2) := by decide +kernel
theorem dX6_isClock_9 : decode cX6_isClock 9 = .ok (.iaload, 1) := by decide +kernel
theorem dX6_isClock_10 : decode cX6_isClock 10 = .ok (.iconst 1, 1) := by decide +kernel
theorem dX6_isClock_11 : decode cX6_isClock 11 = .ok (.isub, 1) := by decide +kernel
theorem dX6_isClock_12 : decode cX6_isClock 12 = .ok (.i2l, 1) := by decide +kernel
theorem dX6_isClock_13 : decode cX6_isClock 13 = .ok (.invokestatic 50, 3) := by decide +kernel
theorem dX6_isClock_16 : decode cX6_isClock 16 = .ok (.ireturn, 1) := by decide +kernel
theorem dX6_isOnward_0 : decode cX6_isOnward 0 = .ok (.aload_n 0, 1) := by decide +kernel
theorem dX6_isOnward_1 : decode cX6_isOnward 1 = .ok (.getfield 7, 3) := by decide +kernel
theorem dX6_isOnward_4 : decode cX6_isOnward 4 = .ok (.iload_n 1, 1) := by decide +kernel
theorem dX6_isOnward_5 : decode cX6_isOnward 5 = .ok (.iload_n 2, 1) := by decide +kernel
theorem dX6_isOnward_6 : decode cX6_isOnward 6 = .ok (.iadd, 1) := by decide +kernel
theorem dX6_isOnward_7 : decode cX6_isOnward 7 = .ok (.iaload, 1) := by decide +kernel
theorem dX6_isOnward_8 : decode cX6_isOnward 8 = .ok (.iconst 3, 1) := by decide +kernel
theorem dX6_isOnward_9 : decode cX6_isOnward 9 = .ok (.if_icmp .ge 33, 3) := by decide +kernel
theorem dX6_isOnward_12 : decode cX6_isOnward 12 = .ok (.iconst 2, 1) := by decide +kernel
theorem dX6_isOnward_13 : decode cX6_isOnward 13 = .ok (.aload_n 0, 1) := by decide +kernel
theorem dX6_isOnward_14 : decode cX6_isOnward 14 = .ok (.getfield 7, 3) := by decide +kernel
theorem dX6_isOnward_17 : decode cX6_isOnward 17 = .ok (.iload_n 1, 1) := by decide +kernel
theorem dX6_isOnward_18 : decode cX6_isOnward 18 = .ok (.bipush 10, 2) := by decide +kernel
theorem dX6_isOnward_20 : decode cX6_isOnward 20 = .ok (.iadd, 1) := by decide +kernel
theorem dX6_isOnward_21 : decode cX6_isOnward 21 = .ok (.iload_n 2, 1) := by decide +kernel
theorem dX6_isOnward_22 : decode cX6_isOnward 22 = .ok (.iadd, 1) := by decide +kernel
theorem dX6_isOnward_23 : decode cX6_isOnward 23 = .ok (.iaload, 1) := by decide +kernel
theorem dX6_isOnward_24 : decode cX6_isOnward 24 = .ok (.imul, 1) := by decide +kernel
theorem dX6_isOnward_25 : decode cX6_isOnward 25 = .ok (.aload_n 0, 1) := by decide +kernel
theorem dX6_isOnward_26 : decode cX6_isOnward 26 = .ok (.getfield 7, 3) := by decide +kernel
theorem dX6_isOnward_29 : decode cX6_isOnward 29 = .ok (.iload_n 1, 1) := by decide +kernel
theorem dX6_isOnward_30 : decode cX6_isOnward 30 = .ok (.iconst 5, 1) := by decide +kernel
theorem dX6_isOnward_31 : decode cX6_isOnward 31 = .ok (.iadd, 1) := by decide +kernel
theorem dX6_isOnward_32 : decode cX6_isOnward 32 = .ok (.iload_n 2, 1) := by decide +kernel
theorem dX6_isOnward_33 : decode cX6_isOnward 33 = .ok (.iadd, 1) := by decide +kernel
theorem dX6_isOnward_34 : decode cX6_isOnward 34 = .ok (.iaload, 1) := by decide +kernel
theorem dX6_isOnward_35 : decode cX6_isOnward 35 = .ok (.if_icmp .lt 7, 3) := by decide +kernel
theorem dX6_isOnward_38 : decode cX6_isOnward 38 = .ok (.iconst 1, 1) := by decide +kernel
theorem dX6_isOnward_39 : decode cX6_isOnward 39 = .ok (.goto 4, 3) := by decide +kernel
theorem dX6_isOnward_42 : decode cX6_isOnward 42 = .ok (.iconst 0, 1) := by decide +kernel
theorem dX6_isOnward_43 : decode cX6_isOnward 43 = .ok (.ireturn, 1) := by decide +kernel
theorem dX6_pushedOn_0 : decode cX6_pushedOn 0 = .ok (.aload_n 0, 1) := by decide +kernel
theorem dX6_pushedOn_1 : decode cX6_pushedOn 1 = .ok (.getfield 7, 3) := by decide +kernel
theorem dX6_pushedOn_4 : decode cX6_pushedOn 4 = .ok (.iload_n 1, 1) := by decide +kernel
theorem dX6_pushedOn_5 : decode cX6_pushedOn 5 = .ok (.iload_n 2, 1) := by decide +kernel
theorem dX6_pushedOn_6 : decode cX6_pushedOn 6 = .ok (.iadd, 1) := by decide +kernel
theorem dX6_pushedOn_7 : decode cX6_pushedOn 7 = .ok (.iaload, 1) := by decide +kernel
theorem dX6_pushedOn_8 : decode cX6_pushedOn 8 = .ok (.istore 4, 2) := by decide +kernel
theorem dX6_pushedOn_10 : decode cX6_pushedOn 10 = .ok (.aload_n 0, 1) := by decide +kernel
theorem dX6_pushedOn_11 : decode cX6_pushedOn 11 = .ok (.getfield 7, 3) := by decide +kernel
theorem dX6_pushedOn_14 : decode cX6_pushedOn 14 = .ok (.iload_n 1, 1) := by decide +kernel
theorem dX6_pushedOn_15 : decode cX6_pushedOn 15 = .ok (.bipush 21, 2) := by decide +kernel
theorem dX6_pushedOn_17 : decode cX6_pushedOn 17 = .ok (.iadd, 1) := by decide +kernel
theorem dX6_pushedOn_18 : decode cX6_pushedOn 18 = .ok (.iaload, 1) := by decide +kernel
theorem dX6_pushedOn_19 : decode cX6_pushedOn 19 = .ok (.iconst 1, 1) := by decide +kernel
theorem dX6_pushedOn_20 : decode cX6_pushedOn 20 = .ok (.iadd, 1) := by decide +kernel
theorem dX6_pushedOn_21 : decode cX6_pushedOn 21 = .ok (.istore 5, 2) := by decide +kernel
theorem dX6_pushedOn_23 : decode cX6_pushedOn 23 = .ok (.iload 4, 2) := by decide +kernel
theorem dX6_pushedOn_25 : decode cX6_pushedOn 25 = .ok (.ifCond .ne 10, 3) := by decide +kernel
theorem dX6_pushedOn_28 : decode cX6_pushedOn 28 = .ok (.iload_n 3, 1) := by decide +kernel
theorem dX6_pushedOn_29 : decode cX6_pushedOn 29 = .ok (.iload 5, 2) := by decide +kernel
theorem dX6_pushedOn_31 : decode cX6_pushedOn 31 = .ok (.imul, 1) := by decide +kernel
theorem dX6_pushedOn_32 : decode cX6_pushedOn 32 = .ok (.goto 24, 3) := by decide +kernel
theorem dX6_pushedOn_35 : decode cX6_pushedOn 35 = .ok (.iload 4, 2) := by decide +kernel
theorem dX6_pushedOn_37 : decode cX6_pushedOn 37 = .ok (.iconst 2, 1) := by decide +kernel
theorem dX6_pushedOn_38 : decode cX6_pushedOn 38 = .ok (.if_icmp .ne 12, 3) := by decide +kernel
theorem dX6_pushedOn_41 : decode cX6_pushedOn 41 = .ok (.iload_n 3, 1) := by decide +kernel
theorem dX6_pushedOn_42 : decode cX6_pushedOn 42 = .ok (.iconst 1, 1) := by decide +kernel
theorem dX6_pushedOn_43 : decode cX6_pushedOn 43 = .ok (.isub, 1) := by decide +kernel
theorem dX6_pushedOn_44 : decode cX6_pushedOn 44 = .ok (.iload 5, 2) := by decide +kernel
theorem dX6_pushedOn_46 : decode cX6_pushedOn 46 = .ok (.imul, 1) := by decide +kernel
theorem dX6_pushedOn_47 : decode cX6_pushedOn 47 = .ok (.goto 9, 3) := by decide +kernel
theorem dX6_pushedOn_50 : decode cX6_pushedOn 50 = .ok (.iload_n 3, 1) := by decide +kernel
theorem dX6_pushedOn_51 : decode cX6_pushedOn 51 = .ok (.iload 5, 2) := by decide +kernel
theorem dX6_pushedOn_53 : decode cX6_pushedOn 53 = .ok (.imul, 1) := by decide +kernel
theorem dX6_pushedOn_54 : decode cX6_pushedOn 54 = .ok (.iconst 2, 1) := by decide +kernel
theorem dX6_pushedOn_55 : decode cX6_pushedOn 55 = .ok (.idiv, 1) := by decide +kernel
theorem dX6_pushedOn_56 : decode cX6_pushedOn 56 = .ok (.istore 6, 2) := by decide +kernel
theorem dX6_pushedOn_58 : decode cX6_pushedOn 58 = .ok (.aload_n 0, 1) := by decide +kernel
theorem dX6_pushedOn_59 : decode cX6_pushedOn 59 = .ok (.getfield 7, 3) := by decide +kernel
theorem dX6_pushedOn_62 : decode cX6_pushedOn 62 = .ok (.iload_n 1, 1) := by decide +kernel
theorem dX6_pushedOn_63 : decode cX6_pushedOn 63 = .ok (.iconst 5, 1) := by decide +kernel
theorem dX6_pushedOn_64 : decode cX6_pushedOn 64 = .ok (.iadd, 1) := by decide +kernel
theorem dX6_pushedOn_65 : decode cX6_pushedOn 65 = .ok (.iload_n 2, 1) := by decide +kernel
theorem dX6_pushedOn_66 : decode cX6_pushedOn 66 = .ok (.iadd, 1) := by decide +kernel
theorem dX6_pushedOn_67 : decode cX6_pushedOn 67 = .ok (.iaload, 1) := by decide +kernel
theorem dX6_pushedOn_68 : decode cX6_pushedOn 68 = .ok (.iconst 1, 1) := by decide +kernel
theorem dX6_pushedOn_69 : decode cX6_pushedOn 69 = .ok (.isub, 1) := by decide +kernel
theorem dX6_pushedOn_70 : decode cX6_pushedOn 70 = .ok (.istore 7, 2) := by decide +kernel
theorem dX6_pushedOn_72 : decode cX6_pushedOn 72 = .ok (.aload_n 0, 1) := by decide +kernel
theorem dX6_pushedOn_73 : decode cX6_pushedOn 73 = .ok (.getfield 7, 3) := by decide +kernel
theorem dX6_pushedOn_76 : decode cX6_pushedOn 76 = .ok (.iload_n 1, 1) := by decide +kernel
theorem dX6_pushedOn_77 : decode cX6_pushedOn 77 = .ok (.bipush 10, 2) := by decide +kernel
theorem dX6_pushedOn_79 : decode cX6_pushedOn 79 = .ok (.iadd, 1) := by decide +kernel
theorem dX6_pushedOn_80 : decode cX6_pushedOn 80 = .ok (.iload_n 2, 1) := by decide +kernel
theorem dX6_pushedOn_81 : decode cX6_pushedOn 81 = .ok (.iadd, 1) := by decide +kernel
theorem dX6_pushedOn_82 : decode cX6_pushedOn 82 = .ok (.iaload, 1) := by decide +kernel
theorem dX6_pushedOn_83 : decode cX6_pushedOn 83 = .ok (.istore 8, 2) := by decide +kernel
theorem dX6_pushedOn_85 : decode cX6_pushedOn 85 = .ok (.aload_n 0, 1) := by decide +kernel
theorem dX6_pushedOn_86 : decode cX6_pushedOn 86 = .ok (.iload_n 1, 1) := by decide +kernel
theorem dX6_pushedOn_87 : decode cX6_pushedOn 87 = .ok (.iload_n 2, 1) := by decide +kernel
theorem dX6_pushedOn_88 : decode cX6_pushedOn 88 = .ok (.invokevirtual 120, 3) := by decide +kernel
theorem dX6_pushedOn_91 : decode cX6_pushedOn 91 = .ok (.ifCond .eq 28, 3) := by decide +kernel
theorem dX6_pushedOn_94 : decode cX6_pushedOn 94 = .ok (.iload 8, 2) := by decide +kernel
theorem dX6_pushedOn_96 : decode cX6_pushedOn 96 = .ok (.iload 6, 2) := by decide +kernel
theorem dX6_pushedOn_98 : decode cX6_pushedOn 98 = .ok (.iadd, 1) := by decide +kernel
theorem dX6_pushedOn_99 : decode cX6_pushedOn 99 = .ok (.iload 7, 2) := by decide +kernel
theorem dX6_pushedOn_101 : decode cX6_pushedOn 101 = .ok (.if_icmp .le 8, 3) := by decide +kernel
theorem dX6_pushedOn_104 : decode cX6_pushedOn 104 = .ok (.iload 7, 2) := by decide +kernel
theorem dX6_pushedOn_106 : decode cX6_pushedOn 106 = .ok (.goto 8, 3) := by decide +kernel
theorem dX6_pushedOn_109 : decode cX6_pushedOn 109 = .ok (.iload 8, 2) := by decide +kernel
theorem dX6_pushedOn_111 : decode cX6_pushedOn 111 = .ok (.iload 6, 2) := by decide +kernel
theorem dX6_pushedOn_113 : decode cX6_pushedOn 113 = .ok (.iadd, 1) := by decide +kernel
theorem dX6_pushedOn_114 : decode cX6_pushedOn 114 = .ok (.istore 8, 2) := by decide +kernel
theorem dX6_pushedOn_116 : decode cX6_pushedOn 116 = .ok (.goto 21, 3) := by decide +kernel
theorem dX6_pushedOn_119 : decode cX6_pushedOn 119 = .ok (.iload 8, 2) := by decide +kernel
theorem dX6_pushedOn_121 : decode cX6_pushedOn 121 = .ok (.iload 6, 2) := by decide +kernel
theorem dX6_pushedOn_123 : decode cX6_pushedOn 123 = .ok (.if_icmp .le 11, 3) := by decide +kernel
theorem dX6_pushedOn_126 : decode cX6_pushedOn 126 = .ok (.iload 8, 2) := by decide +kernel
theorem dX6_pushedOn_128 : decode cX6_pushedOn 128 = .ok (.iload 6, 2) := by decide +kernel
theorem dX6_pushedOn_130 : decode cX6_pushedOn 130 = .ok (.isub, 1) := by decide +kernel
theorem dX6_pushedOn_131 : decode cX6_pushedOn 131 = .ok (.goto 4, 3) := by decide +kernel
theorem dX6_pushedOn_134 : decode cX6_pushedOn 134 = .ok (.iconst 0, 1) := by decide +kernel
theorem dX6_pushedOn_135 : decode cX6_pushedOn 135 = .ok (.istore 8, 2) := by decide +kernel
theorem dX6_pushedOn_137 : decode cX6_pushedOn 137 = .ok (.aload_n 0, 1) := by decide +kernel
theorem dX6_pushedOn_138 : decode cX6_pushedOn 138 = .ok (.getfield 7, 3) := by decide +kernel
theorem dX6_pushedOn_141 : decode cX6_pushedOn 141 = .ok (.iload_n 1, 1) := by decide +kernel
theorem dX6_pushedOn_142 : decode cX6_pushedOn 142 = .ok (.bipush 10, 2) := by decide +kernel
theorem dX6_pushedOn_144 : decode cX6_pushedOn 144 = .ok (.iadd, 1) := by decide +kernel
theorem dX6_pushedOn_145 : decode cX6_pushedOn 145 = .ok (.iload_n 2, 1) := by decide +kernel
theorem dX6_pushedOn_146 : decode cX6_pushedOn 146 = .ok (.iadd, 1) := by decide +kernel
theorem dX6_pushedOn_147 : decode cX6_pushedOn 147 = .ok (.iload 8, 2) := by decide +kernel
theorem dX6_pushedOn_149 : decode cX6_pushedOn 149 = .ok (.iastore, 1) := by decide +kernel
theorem dX6_pushedOn_150 : decode cX6_pushedOn 150 = .ok (.return_, 1) := by decide +kernel
theorem dX6_bitsOf_0 : decode cX6_bitsOf 0 = .ok (.iconst 0, 1) := by decide +kernel
theorem dX6_bitsOf_1 : decode cX6_bitsOf 1 = .ok (.istore_n 1, 1) := by decide +kernel
theorem dX6_bitsOf_2 : decode cX6_bitsOf 2 = .ok (.iload_n 0, 1) := by decide +kernel
theorem dX6_bitsOf_3 : decode cX6_bitsOf 3 = .ok (.istore_n 2, 1) := by decide +kernel
theorem dX6_bitsOf_4 : decode cX6_bitsOf 4 = .ok (.iload_n 2, 1) := by decide +kernel
theorem dX6_bitsOf_5 : decode cX6_bitsOf 5 = .ok (.ifCond .le 16, 3) := by decide +kernel
theorem dX6_bitsOf_8 : decode cX6_bitsOf 8 = .ok (.iload_n 1, 1) := by decide +kernel
theorem dX6_bitsOf_9 : decode cX6_bitsOf 9 = .ok (.iload_n 2, 1) := by decide +kernel
theorem dX6_bitsOf_10 : decode cX6_bitsOf 10 = .ok (.iconst 1, 1) := by decide +kernel
theorem dX6_bitsOf_11 : decode cX6_bitsOf 11 = .ok (.iand, 1) := by decide +kernel
theorem dX6_bitsOf_12 : decode cX6_bitsOf 12 = .ok (.iadd, 1) := by decide +kernel
theorem dX6_bitsOf_13 : decode cX6_bitsOf 13 = .ok (.istore_n 1, 1) := by decide +kernel
theorem dX6_bitsOf_14 : decode cX6_bitsOf 14 = .ok (.iload_n 2, 1) := by decide +kernel
theorem dX6_bitsOf_15 : decode cX6_bitsOf 15 = .ok (.iconst 1, 1) := by decide +kernel
theorem dX6_bitsOf_16 : decode cX6_bitsOf 16 = .ok (.ishr, 1) := by decide +kernel
theorem dX6_bitsOf_17 : decode cX6_bitsOf 17 = .ok (.istore_n 2, 1) := by decide +kernel
theorem dX6_bitsOf_18 : decode cX6_bitsOf 18 = .ok (.goto (-14), 3) := by decide +kernel
theorem dX6_bitsOf_21 : decode cX6_bitsOf 21 = .ok (.iload_n 1, 1) := by decide +kernel
theorem dX6_bitsOf_22 : decode cX6_bitsOf 22 = .ok (.ireturn, 1) := by decide +kernel
theorem dX6_beatsOn_0 : decode cX6_beatsOn 0 = .ok (.iconst 0, 1) := by decide +kernel
theorem dX6_beatsOn_1 : decode cX6_beatsOn 1 = .ok (.istore_n 2, 1) := by decide +kernel
theorem dX6_beatsOn_2 : decode cX6_beatsOn 2 = .ok (.iconst 0, 1) := by decide +kernel
theorem dX6_beatsOn_3 : decode cX6_beatsOn 3 = .ok (.istore_n 3, 1) := by decide +kernel
theorem dX6_beatsOn_4 : decode cX6_beatsOn 4 = .ok (.iload_n 3, 1) := by decide +kernel
theorem dX6_beatsOn_5 : decode cX6_beatsOn 5 = .ok (.aload_n 0, 1) := by decide +kernel
theorem dX6_beatsOn_6 : decode cX6_beatsOn 6 = .ok (.getfield 7, 3) := by decide +kernel
theorem dX6_beatsOn_9 : decode cX6_beatsOn 9 = .ok (.iload_n 1, 1) := by decide +kernel
theorem dX6_beatsOn_10 : decode cX6_beatsOn 10 = .ok (.bipush 20, 2) := by decide +kernel
theorem dX6_beatsOn_12 : decode cX6_beatsOn 12 = .ok (.iadd, 1) := by decide +kernel
theorem dX6_beatsOn_13 : decode cX6_beatsOn 13 = .ok (.iaload, 1) := by decide +kernel
theorem dX6_beatsOn_14 : decode cX6_beatsOn 14 = .ok (.if_icmp .ge 65, 3) := by decide +kernel
theorem dX6_beatsOn_17 : decode cX6_beatsOn 17 = .ok (.iload_n 3, 1) := by decide +kernel
theorem dX6_beatsOn_18 : decode cX6_beatsOn 18 = .ok (.aload_n 0, 1) := by decide +kernel
theorem dX6_beatsOn_19 : decode cX6_beatsOn 19 = .ok (.getfield 25, 3) := by decide +kernel
theorem dX6_beatsOn_22 : decode cX6_beatsOn 22 = .ok (.if_icmp .eq 33, 3) := by decide +kernel
theorem dX6_beatsOn_25 : decode cX6_beatsOn 25 = .ok (.aload_n 0, 1) := by decide +kernel
theorem dX6_beatsOn_26 : decode cX6_beatsOn 26 = .ok (.getfield 7, 3) := by decide +kernel
theorem dX6_beatsOn_29 : decode cX6_beatsOn 29 = .ok (.iload_n 1, 1) := by decide +kernel
theorem dX6_beatsOn_30 : decode cX6_beatsOn 30 = .ok (.bipush 10, 2) := by decide +kernel
theorem dX6_beatsOn_32 : decode cX6_beatsOn 32 = .ok (.iadd, 1) := by decide +kernel
theorem dX6_beatsOn_33 : decode cX6_beatsOn 33 = .ok (.iload_n 3, 1) := by decide +kernel
theorem dX6_beatsOn_34 : decode cX6_beatsOn 34 = .ok (.iadd, 1) := by decide +kernel
theorem dX6_beatsOn_35 : decode cX6_beatsOn 35 = .ok (.iaload, 1) := by decide +kernel
theorem dX6_beatsOn_36 : decode cX6_beatsOn 36 = .ok (.iconst 1, 1) := by decide +kernel
theorem dX6_beatsOn_37 : decode cX6_beatsOn 37 = .ok (.iadd, 1) := by decide +kernel
theorem dX6_beatsOn_38 : decode cX6_beatsOn 38 = .ok (.aload_n 0, 1) := by decide +kernel
theorem dX6_beatsOn_39 : decode cX6_beatsOn 39 = .ok (.getfield 7, 3) := by decide +kernel
theorem dX6_beatsOn_42 : decode cX6_beatsOn 42 = .ok (.iload_n 1, 1) := by decide +kernel
theorem dX6_beatsOn_43 : decode cX6_beatsOn 43 = .ok (.iconst 5, 1) := by decide +kernel
theorem dX6_beatsOn_44 : decode cX6_beatsOn 44 = .ok (.iadd, 1) := by decide +kernel
theorem dX6_beatsOn_45 : decode cX6_beatsOn 45 = .ok (.iload_n 3, 1) := by decide +kernel
theorem dX6_beatsOn_46 : decode cX6_beatsOn 46 = .ok (.iadd, 1) := by decide +kernel
theorem dX6_beatsOn_47 : decode cX6_beatsOn 47 = .ok (.iaload, 1) := by decide +kernel
theorem dX6_beatsOn_48 : decode cX6_beatsOn 48 = .ok (.if_icmp .ne 7, 3) := by decide +kernel
theorem dX6_beatsOn_51 : decode cX6_beatsOn 51 = .ok (.iconst 1, 1) := by decide +kernel
theorem dX6_beatsOn_52 : decode cX6_beatsOn 52 = .ok (.goto 4, 3) := by decide +kernel
theorem dX6_beatsOn_55 : decode cX6_beatsOn 55 = .ok (.iconst 0, 1) := by decide +kernel
theorem dX6_beatsOn_56 : decode cX6_beatsOn 56 = .ok (.istore 4, 2) := by decide +kernel
theorem dX6_beatsOn_58 : decode cX6_beatsOn 58 = .ok (.iload_n 2, 1) := by decide +kernel
theorem dX6_beatsOn_59 : decode cX6_beatsOn 59 = .ok (.iload 4, 2) := by decide +kernel
theorem dX6_beatsOn_61 : decode cX6_beatsOn 61 = .ok (.ifCond .eq 9, 3) := by decide +kernel
theorem dX6_beatsOn_64 : decode cX6_beatsOn 64 = .ok (.iconst 1, 1) := by decide +kernel
theorem dX6_beatsOn_65 : decode cX6_beatsOn 65 = .ok (.iload_n 3, 1) := by decide +kernel
theorem dX6_beatsOn_66 : decode cX6_beatsOn 66 = .ok (.ishl, 1) := by decide +kernel
theorem dX6_beatsOn_67 : decode cX6_beatsOn 67 = .ok (.goto 4, 3) := by decide +kernel
theorem dX6_beatsOn_70 : decode cX6_beatsOn 70 = .ok (.iconst 0, 1) := by decide +kernel
theorem dX6_beatsOn_71 : decode cX6_beatsOn 71 = .ok (.ior, 1) := by decide +kernel
theorem dX6_beatsOn_72 : decode cX6_beatsOn 72 = .ok (.istore_n 2, 1) := by decide +kernel
theorem dX6_beatsOn_73 : decode cX6_beatsOn 73 = .ok (.iinc 3 1, 3) := by decide +kernel
theorem dX6_beatsOn_76 : decode cX6_beatsOn 76 = .ok (.goto (-72), 3) := by decide +kernel
theorem dX6_beatsOn_79 : decode cX6_beatsOn 79 = .ok (.iload_n 2, 1) := by decide +kernel
theorem dX6_beatsOn_80 : decode cX6_beatsOn 80 = .ok (.ireturn, 1) := by decide +kernel
theorem dX6_tickOn_0 : decode cX6_tickOn 0 = .ok (.aload_n 0, 1) := by decide +kernel
theorem dX6_tickOn_1 : decode cX6_tickOn 1 = .ok (.iload_n 1, 1) := by decide +kernel
theorem dX6_tickOn_2 : decode cX6_tickOn 2 = .ok (.invokevirtual 124, 3) := by decide +kernel
theorem dX6_tickOn_5 : decode cX6_tickOn 5 = .ok (.istore_n 3, 1) := by decide +kernel
theorem dX6_tickOn_6 : decode cX6_tickOn 6 = .ok (.iconst 0, 1) := by decide +kernel
theorem dX6_tickOn_7 : decode cX6_tickOn 7 = .ok (.istore 4, 2) := by decide +kernel
theorem dX6_tickOn_9 : decode cX6_tickOn 9 = .ok (.iload 4, 2) := by decide +kernel
theorem dX6_tickOn_11 : decode cX6_tickOn 11 = .ok (.aload_n 0, 1) := by decide +kernel
theorem dX6_tickOn_12 : decode cX6_tickOn 12 = .ok (.getfield 7, 3) := by decide +kernel
theorem dX6_tickOn_15 : decode cX6_tickOn 15 = .ok (.iload_n 1, 1) := by decide +kernel
theorem dX6_tickOn_16 : decode cX6_tickOn 16 = .ok (.bipush 20, 2) := by decide +kernel
theorem dX6_tickOn_18 : decode cX6_tickOn 18 = .ok (.iadd, 1) := by decide +kernel
theorem dX6_tickOn_19 : decode cX6_tickOn 19 = .ok (.iaload, 1) := by decide +kernel
theorem dX6_tickOn_20 : decode cX6_tickOn 20 = .ok (.if_icmp .ge 86, 3) := by decide +kernel
theorem dX6_tickOn_23 : decode cX6_tickOn 23 = .ok (.iload_n 3, 1) := by decide +kernel
theorem dX6_tickOn_24 : decode cX6_tickOn 24 = .ok (.iload 4, 2) := by decide +kernel
theorem dX6_tickOn_26 : decode cX6_tickOn 26 = .ok (.ishr, 1) := by decide +kernel
theorem dX6_tickOn_27 : decode cX6_tickOn 27 = .ok (.iconst 1, 1) := by decide +kernel
theorem dX6_tickOn_28 : decode cX6_tickOn 28 = .ok (.iand, 1) := by decide +kernel
theorem dX6_tickOn_29 : decode cX6_tickOn 29 = .ok (.iconst 1, 1) := by decide +kernel
theorem dX6_tickOn_30 : decode cX6_tickOn 30 = .ok (.if_icmp .ne 7, 3) := by decide +kernel
theorem dX6_tickOn_33 : decode cX6_tickOn 33 = .ok (.iconst 1, 1) := by decide +kernel
theorem dX6_tickOn_34 : decode cX6_tickOn 34 = .ok (.goto 4, 3) := by decide +kernel
theorem dX6_tickOn_37 : decode cX6_tickOn 37 = .ok (.iconst 0, 1) := by decide +kernel
theorem dX6_tickOn_38 : decode cX6_tickOn 38 = .ok (.istore 5, 2) := by decide +kernel
theorem dX6_tickOn_40 : decode cX6_tickOn 40 = .ok (.aload_n 0, 1) := by decide +kernel
theorem dX6_tickOn_41 : decode cX6_tickOn 41 = .ok (.getfield 7, 3) := by decide +kernel
theorem dX6_tickOn_44 : decode cX6_tickOn 44 = .ok (.iload_n 1, 1) := by decide +kernel
theorem dX6_tickOn_45 : decode cX6_tickOn 45 = .ok (.bipush 15, 2) := by decide +kernel
theorem dX6_tickOn_47 : decode cX6_tickOn 47 = .ok (.iadd, 1) := by decide +kernel
theorem dX6_tickOn_48 : decode cX6_tickOn 48 = .ok (.iload 4, 2) := by decide +kernel
theorem dX6_tickOn_50 : decode cX6_tickOn 50 = .ok (.iadd, 1) := by decide +kernel
theorem dX6_tickOn_51 : decode cX6_tickOn 51 = .ok (.dup2, 1) := by decide +kernel
theorem dX6_tickOn_52 : decode cX6_tickOn 52 = .ok (.iaload, 1) := by decide +kernel
theorem dX6_tickOn_53 : decode cX6_tickOn 53 = .ok (.iload 5, 2) := by decide +kernel
theorem dX6_tickOn_55 : decode cX6_tickOn 55 = .ok (.ifCond .eq 7, 3) := by decide +kernel
theorem dX6_tickOn_58 : decode cX6_tickOn 58 = .ok (.iconst 1, 1) := by decide +kernel
theorem dX6_tickOn_59 : decode cX6_tickOn 59 = .ok (.goto 4, 3) := by decide +kernel
theorem dX6_tickOn_62 : decode cX6_tickOn 62 = .ok (.iconst 0, 1) := by decide +kernel
theorem dX6_tickOn_63 : decode cX6_tickOn 63 = .ok (.iadd, 1) := by decide +kernel
theorem dX6_tickOn_64 : decode cX6_tickOn 64 = .ok (.iastore, 1) := by decide +kernel
theorem dX6_tickOn_65 : decode cX6_tickOn 65 = .ok (.aload_n 0, 1) := by decide +kernel
theorem dX6_tickOn_66 : decode cX6_tickOn 66 = .ok (.getfield 7, 3) := by decide +kernel
theorem dX6_tickOn_69 : decode cX6_tickOn 69 = .ok (.iload_n 1, 1) := by decide +kernel
theorem dX6_tickOn_70 : decode cX6_tickOn 70 = .ok (.bipush 10, 2) := by decide +kernel
theorem dX6_tickOn_72 : decode cX6_tickOn 72 = .ok (.iadd, 1) := by decide +kernel
theorem dX6_tickOn_73 : decode cX6_tickOn 73 = .ok (.iload 4, 2) := by decide +kernel
theorem dX6_tickOn_75 : decode cX6_tickOn 75 = .ok (.iadd, 1) := by decide +kernel
theorem dX6_tickOn_76 : decode cX6_tickOn 76 = .ok (.iload 5, 2) := by decide +kernel
theorem dX6_tickOn_78 : decode cX6_tickOn 78 = .ok (.ifCond .eq 7, 3) := by decide +kernel
theorem dX6_tickOn_81 : decode cX6_tickOn 81 = .ok (.iconst 0, 1) := by decide +kernel
theorem dX6_tickOn_82 : decode cX6_tickOn 82 = .ok (.goto 17, 3) := by decide +kernel
theorem dX6_tickOn_85 : decode cX6_tickOn 85 = .ok (.aload_n 0, 1) := by decide +kernel
theorem dX6_tickOn_86 : decode cX6_tickOn 86 = .ok (.getfield 7, 3) := by decide +kernel
theorem dX6_tickOn_89 : decode cX6_tickOn 89 = .ok (.iload_n 1, 1) := by decide +kernel
theorem dX6_tickOn_90 : decode cX6_tickOn 90 = .ok (.bipush 10, 2) := by decide +kernel
theorem dX6_tickOn_92 : decode cX6_tickOn 92 = .ok (.iadd, 1) := by decide +kernel
theorem dX6_tickOn_93 : decode cX6_tickOn 93 = .ok (.iload 4, 2) := by decide +kernel
theorem dX6_tickOn_95 : decode cX6_tickOn 95 = .ok (.iadd, 1) := by decide +kernel
theorem dX6_tickOn_96 : decode cX6_tickOn 96 = .ok (.iaload, 1) := by decide +kernel
theorem dX6_tickOn_97 : decode cX6_tickOn 97 = .ok (.iconst 1, 1) := by decide +kernel
theorem dX6_tickOn_98 : decode cX6_tickOn 98 = .ok (.iadd, 1) := by decide +kernel
theorem dX6_tickOn_99 : decode cX6_tickOn 99 = .ok (.iastore, 1) := by decide +kernel
theorem dX6_tickOn_100 : decode cX6_tickOn 100 = .ok (.iinc 4 1, 3) := by decide +kernel
theorem dX6_tickOn_103 : decode cX6_tickOn 103 = .ok (.goto (-94), 3) := by decide +kernel
theorem dX6_tickOn_106 : decode cX6_tickOn 106 = .ok (.iconst 0, 1) := by decide +kernel
theorem dX6_tickOn_107 : decode cX6_tickOn 107 = .ok (.istore 4, 2) := by decide +kernel
theorem dX6_tickOn_109 : decode cX6_tickOn 109 = .ok (.iload 4, 2) := by decide +kernel
theorem dX6_tickOn_111 : decode cX6_tickOn 111 = .ok (.aload_n 0, 1) := by decide +kernel
theorem dX6_tickOn_112 : decode cX6_tickOn 112 = .ok (.getfield 7, 3) := by decide +kernel
theorem dX6_tickOn_115 : decode cX6_tickOn 115 = .ok (.iload_n 1, 1) := by decide +kernel
theorem dX6_tickOn_116 : decode cX6_tickOn 116 = .ok (.bipush 20, 2) := by decide +kernel
theorem dX6_tickOn_118 : decode cX6_tickOn 118 = .ok (.iadd, 1) := by decide +kernel
theorem dX6_tickOn_119 : decode cX6_tickOn 119 = .ok (.iaload, 1) := by decide +kernel
theorem dX6_tickOn_120 : decode cX6_tickOn 120 = .ok (.if_icmp .ge 37, 3) := by decide +kernel
theorem dX6_tickOn_123 : decode cX6_tickOn 123 = .ok (.iload_n 3, 1) := by decide +kernel
theorem dX6_tickOn_124 : decode cX6_tickOn 124 = .ok (.ifCond .le 33, 3) := by decide +kernel
theorem dX6_tickOn_127 : decode cX6_tickOn 127 = .ok (.iload_n 2, 1) := by decide +kernel
theorem dX6_tickOn_128 : decode cX6_tickOn 128 = .ok (.ifCond .ne 29, 3) := by decide +kernel
theorem dX6_tickOn_131 : decode cX6_tickOn 131 = .ok (.iload_n 3, 1) := by decide +kernel
theorem dX6_tickOn_132 : decode cX6_tickOn 132 = .ok (.iload 4, 2) := by decide +kernel
theorem dX6_tickOn_134 : decode cX6_tickOn 134 = .ok (.ishr, 1) := by decide +kernel
theorem dX6_tickOn_135 : decode cX6_tickOn 135 = .ok (.iconst 1, 1) := by decide +kernel
theorem dX6_tickOn_136 : decode cX6_tickOn 136 = .ok (.iand, 1) := by decide +kernel
theorem dX6_tickOn_137 : decode cX6_tickOn 137 = .ok (.ifCond .ne 14, 3) := by decide +kernel
theorem dX6_tickOn_140 : decode cX6_tickOn 140 = .ok (.aload_n 0, 1) := by decide +kernel
theorem dX6_tickOn_141 : decode cX6_tickOn 141 = .ok (.iload_n 1, 1) := by decide +kernel
theorem dX6_tickOn_142 : decode cX6_tickOn 142 = .ok (.iload 4, 2) := by decide +kernel
theorem dX6_tickOn_144 : decode cX6_tickOn 144 = .ok (.iload_n 3, 1) := by decide +kernel
theorem dX6_tickOn_145 : decode cX6_tickOn 145 = .ok (.invokestatic 127, 3) := by decide +kernel
theorem dX6_tickOn_148 : decode cX6_tickOn 148 = .ok (.invokevirtual 130, 3) := by decide +kernel
theorem dX6_tickOn_151 : decode cX6_tickOn 151 = .ok (.iinc 4 1, 3) := by decide +kernel
theorem dX6_tickOn_154 : decode cX6_tickOn 154 = .ok (.goto (-45), 3) := by decide +kernel
theorem dX6_tickOn_157 : decode cX6_tickOn 157 = .ok (.aload_n 0, 1) := by decide +kernel
theorem dX6_tickOn_158 : decode cX6_tickOn 158 = .ok (.getfield 7, 3) := by decide +kernel
theorem dX6_tickOn_161 : decode cX6_tickOn 161 = .ok (.iload_n 1, 1) := by decide +kernel
theorem dX6_tickOn_162 : decode cX6_tickOn 162 = .ok (.bipush 22, 2) := by decide +kernel
theorem dX6_tickOn_164 : decode cX6_tickOn 164 = .ok (.iadd, 1) := by decide +kernel
theorem dX6_tickOn_165 : decode cX6_tickOn 165 = .ok (.dup2, 1) := by decide +kernel
theorem dX6_tickOn_166 : decode cX6_tickOn 166 = .ok (.iaload, 1) := by decide +kernel
theorem dX6_tickOn_167 : decode cX6_tickOn 167 = .ok (.iconst 1, 1) := by decide +kernel
theorem dX6_tickOn_168 : decode cX6_tickOn 168 = .ok (.iadd, 1) := by decide +kernel
theorem dX6_tickOn_169 : decode cX6_tickOn 169 = .ok (.iastore, 1) := by decide +kernel
theorem dX6_tickOn_170 : decode cX6_tickOn 170 = .ok (.iload_n 3, 1) := by decide +kernel
theorem dX6_tickOn_171 : decode cX6_tickOn 171 = .ok (.ireturn, 1) := by decide +kernel
theorem dX6_allOn_0 : decode cX6_allOn 0 = .ok (.iconst 1, 1) := by decide +kernel
theorem dX6_allOn_1 : decode cX6_allOn 1 = .ok (.aload_n 0, 1) := by decide +kernel
theorem dX6_allOn_2 : decode cX6_allOn 2 = .ok (.getfield 7, 3) := by decide +kernel
theorem dX6_allOn_5 : decode cX6_allOn 5 = .ok (.iload_n 1, 1) := by decide +kernel
theorem dX6_allOn_6 : decode cX6_allOn 6 = .ok (.bipush 20, 2) := by decide +kernel
theorem dX6_allOn_8 : decode cX6_allOn 8 = .ok (.iadd, 1) := by decide +kernel
theorem dX6_allOn_9 : decode cX6_allOn 9 = .ok (.iaload, 1) := by decide +kernel
theorem dX6_allOn_10 : decode cX6_allOn 10 = .ok (.ishl, 1) := by decide +kernel
theorem dX6_allOn_11 : decode cX6_allOn 11 = .ok (.iconst 1, 1) := by decide +kernel
theorem dX6_allOn_12 : decode cX6_allOn 12 = .ok (.isub, 1) := by decide +kernel
theorem dX6_allOn_13 : decode cX6_allOn 13 = .ok (.istore_n 2, 1) := by decide +kernel
theorem dX6_allOn_14 : decode cX6_allOn 14 = .ok (.aload_n 0, 1) := by decide +kernel
theorem dX6_allOn_15 : decode cX6_allOn 15 = .ok (.getfield 25, 3) := by decide +kernel
theorem dX6_allOn_18 : decode cX6_allOn 18 = .ok (.bipush (-4), 2) := by decide +kernel
theorem dX6_allOn_20 : decode cX6_allOn 20 = .ok (.if_icmp .ne 7, 3) := by decide +kernel
theorem dX6_allOn_23 : decode cX6_allOn 23 = .ok (.iload_n 2, 1) := by decide +kernel
theorem dX6_allOn_24 : decode cX6_allOn 24 = .ok (.goto 13, 3) := by decide +kernel
theorem dX6_allOn_27 : decode cX6_allOn 27 = .ok (.iload_n 2, 1) := by decide +kernel
theorem dX6_allOn_28 : decode cX6_allOn 28 = .ok (.iconst 1, 1) := by decide +kernel
theorem dX6_allOn_29 : decode cX6_allOn 29 = .ok (.aload_n 0, 1) := by decide +kernel
theorem dX6_allOn_30 : decode cX6_allOn 30 = .ok (.getfield 25, 3) := by decide +kernel
theorem dX6_allOn_33 : decode cX6_allOn 33 = .ok (.ishl, 1) := by decide +kernel
theorem dX6_allOn_34 : decode cX6_allOn 34 = .ok (.iconst (-1), 1) := by decide +kernel
theorem dX6_allOn_35 : decode cX6_allOn 35 = .ok (.ixor, 1) := by decide +kernel
theorem dX6_allOn_36 : decode cX6_allOn 36 = .ok (.iand, 1) := by decide +kernel
theorem dX6_allOn_37 : decode cX6_allOn 37 = .ok (.ireturn, 1) := by decide +kernel
theorem dX6_sumOn_0 : decode cX6_sumOn 0 = .ok (.iconst 0, 1) := by decide +kernel
theorem dX6_sumOn_1 : decode cX6_sumOn 1 = .ok (.istore_n 3, 1) := by decide +kernel
theorem dX6_sumOn_2 : decode cX6_sumOn 2 = .ok (.iconst 0, 1) := by decide +kernel
theorem dX6_sumOn_3 : decode cX6_sumOn 3 = .ok (.istore 4, 2) := by decide +kernel
theorem dX6_sumOn_5 : decode cX6_sumOn 5 = .ok (.iload 4, 2) := by decide +kernel
theorem dX6_sumOn_7 : decode cX6_sumOn 7 = .ok (.aload_n 0, 1) := by decide +kernel
theorem dX6_sumOn_8 : decode cX6_sumOn 8 = .ok (.getfield 7, 3) := by decide +kernel
theorem dX6_sumOn_11 : decode cX6_sumOn 11 = .ok (.iload_n 1, 1) := by decide +kernel
theorem dX6_sumOn_12 : decode cX6_sumOn 12 = .ok (.bipush 20, 2) := by decide +kernel
theorem dX6_sumOn_14 : decode cX6_sumOn 14 = .ok (.iadd, 1) := by decide +kernel
theorem dX6_sumOn_15 : decode cX6_sumOn 15 = .ok (.iaload, 1) := by decide +kernel
theorem dX6_sumOn_16 : decode cX6_sumOn 16 = .ok (.if_icmp .ge 23, 3) := by decide +kernel
theorem dX6_sumOn_19 : decode cX6_sumOn 19 = .ok (.iload_n 3, 1) := by decide +kernel
theorem dX6_sumOn_20 : decode cX6_sumOn 20 = .ok (.aload_n 0, 1) := by decide +kernel
theorem dX6_sumOn_21 : decode cX6_sumOn 21 = .ok (.getfield 7, 3) := by decide +kernel
theorem dX6_sumOn_24 : decode cX6_sumOn 24 = .ok (.iload_n 1, 1) := by decide +kernel
theorem dX6_sumOn_25 : decode cX6_sumOn 25 = .ok (.iload_n 2, 1) := by decide +kernel
theorem dX6_sumOn_26 : decode cX6_sumOn 26 = .ok (.iadd, 1) := by decide +kernel
theorem dX6_sumOn_27 : decode cX6_sumOn 27 = .ok (.iload 4, 2) := by decide +kernel
theorem dX6_sumOn_29 : decode cX6_sumOn 29 = .ok (.iadd, 1) := by decide +kernel
theorem dX6_sumOn_30 : decode cX6_sumOn 30 = .ok (.iaload, 1) := by decide +kernel
theorem dX6_sumOn_31 : decode cX6_sumOn 31 = .ok (.iadd, 1) := by decide +kernel
theorem dX6_sumOn_32 : decode cX6_sumOn 32 = .ok (.istore_n 3, 1) := by decide +kernel
theorem dX6_sumOn_33 : decode cX6_sumOn 33 = .ok (.iinc 4 1, 3) := by decide +kernel
theorem dX6_sumOn_36 : decode cX6_sumOn 36 = .ok (.goto (-31), 3) := by decide +kernel
theorem dX6_sumOn_39 : decode cX6_sumOn 39 = .ok (.iload_n 3, 1) := by decide +kernel
theorem dX6_sumOn_40 : decode cX6_sumOn 40 = .ok (.ireturn, 1) := by decide +kernel
theorem dX6_rule_0 : decode cX6_rule 0 = .ok (.iload_n 1, 1) := by decide +kernel
theorem dX6_rule_1 : decode cX6_rule 1 = .ok (.tableswitch 87 0 5 #[39, 47, 57, 65, 73, 79], 39) := by decide +kernel
theorem dX6_rule_40 : decode cX6_rule 40 = .ok (.aload_n 0, 1) := by decide +kernel
theorem dX6_rule_41 : decode cX6_rule 41 = .ok (.getfield 7, 3) := by decide +kernel
theorem dX6_rule_44 : decode cX6_rule 44 = .ok (.bipush 20, 2) := by decide +kernel
theorem dX6_rule_46 : decode cX6_rule 46 = .ok (.iaload, 1) := by decide +kernel
theorem dX6_rule_47 : decode cX6_rule 47 = .ok (.ireturn, 1) := by decide +kernel
theorem dX6_rule_48 : decode cX6_rule 48 = .ok (.aload_n 0, 1) := by decide +kernel
theorem dX6_rule_49 : decode cX6_rule 49 = .ok (.getfield 7, 3) := by decide +kernel
theorem dX6_rule_52 : decode cX6_rule 52 = .ok (.bipush 21, 2) := by decide +kernel
theorem dX6_rule_54 : decode cX6_rule 54 = .ok (.iaload, 1) := by decide +kernel
theorem dX6_rule_55 : decode cX6_rule 55 = .ok (.iconst 1, 1) := by decide +kernel
theorem dX6_rule_56 : decode cX6_rule 56 = .ok (.iadd, 1) := by decide +kernel
theorem dX6_rule_57 : decode cX6_rule 57 = .ok (.ireturn, 1) := by decide +kernel
theorem dX6_rule_58 : decode cX6_rule 58 = .ok (.aload_n 0, 1) := by decide +kernel
theorem dX6_rule_59 : decode cX6_rule 59 = .ok (.getfield 7, 3) := by decide +kernel
theorem dX6_rule_62 : decode cX6_rule 62 = .ok (.bipush 22, 2) := by decide +kernel
theorem dX6_rule_64 : decode cX6_rule 64 = .ok (.iaload, 1) := by decide +kernel
theorem dX6_rule_65 : decode cX6_rule 65 = .ok (.ireturn, 1) := by decide +kernel
theorem dX6_rule_66 : decode cX6_rule 66 = .ok (.aload_n 0, 1) := by decide +kernel
theorem dX6_rule_67 : decode cX6_rule 67 = .ok (.iconst 0, 1) := by decide +kernel
theorem dX6_rule_68 : decode cX6_rule 68 = .ok (.bipush 15, 2) := by decide +kernel
theorem dX6_rule_70 : decode cX6_rule 70 = .ok (.invokevirtual 134, 3) := by decide +kernel
theorem dX6_rule_73 : decode cX6_rule 73 = .ok (.ireturn, 1) := by decide +kernel
theorem dX6_rule_74 : decode cX6_rule 74 = .ok (.aload_n 0, 1) := by decide +kernel
theorem dX6_rule_75 : decode cX6_rule 75 = .ok (.iconst 0, 1) := by decide +kernel
theorem dX6_rule_76 : decode cX6_rule 76 = .ok (.invokevirtual 124, 3) := by decide +kernel
theorem dX6_rule_79 : decode cX6_rule 79 = .ok (.ireturn, 1) := by decide +kernel
theorem dX6_rule_80 : decode cX6_rule 80 = .ok (.aload_n 0, 1) := by decide +kernel
theorem dX6_rule_81 : decode cX6_rule 81 = .ok (.iconst 0, 1) := by decide +kernel
theorem dX6_rule_82 : decode cX6_rule 82 = .ok (.bipush 10, 2) := by decide +kernel
theorem dX6_rule_84 : decode cX6_rule 84 = .ok (.invokevirtual 134, 3) := by decide +kernel
theorem dX6_rule_87 : decode cX6_rule 87 = .ok (.ireturn, 1) := by decide +kernel
theorem dX6_rule_88 : decode cX6_rule 88 = .ok (.iconst (-1), 1) := by decide +kernel
theorem dX6_rule_89 : decode cX6_rule 89 = .ok (.ireturn, 1) := by decide +kernel
theorem dX6_clock_0 : decode cX6_clock 0 = .ok (.aload_n 0, 1) := by decide +kernel
theorem dX6_clock_1 : decode cX6_clock 1 = .ok (.iload_n 1, 1) := by decide +kernel
theorem dX6_clock_2 : decode cX6_clock 2 = .ok (.invokevirtual 137, 3) := by decide +kernel
theorem dX6_clock_5 : decode cX6_clock 5 = .ok (.ifCond .eq 15, 3) := by decide +kernel
theorem dX6_clock_8 : decode cX6_clock 8 = .ok (.iload_n 2, 1) := by decide +kernel
theorem dX6_clock_9 : decode cX6_clock 9 = .ok (.i2l, 1) := by decide +kernel
theorem dX6_clock_10 : decode cX6_clock 10 = .ok (.lconst 0, 1) := by decide +kernel
theorem dX6_clock_11 : decode cX6_clock 11 = .ok (.ldc2_w 102, 3) := by decide +kernel
theorem dX6_clock_14 : decode cX6_clock 14 = .ok (.invokestatic 50, 3) := by decide +kernel
theorem dX6_clock_17 : decode cX6_clock 17 = .ok (.ifCond .ne 5, 3) := by decide +kernel
theorem dX6_clock_20 : decode cX6_clock 20 = .ok (.iconst (-1), 1) := by decide +kernel
theorem dX6_clock_21 : decode cX6_clock 21 = .ok (.ireturn, 1) := by decide +kernel
theorem dX6_clock_22 : decode cX6_clock 22 = .ok (.iload_n 2, 1) := by decide +kernel
theorem dX6_clock_23 : decode cX6_clock 23 = .ok (.iconst 4, 1) := by decide +kernel
theorem dX6_clock_24 : decode cX6_clock 24 = .ok (.if_icmp .ge 16, 3) := by decide +kernel
theorem dX6_clock_27 : decode cX6_clock 27 = .ok (.aload_n 0, 1) := by decide +kernel
theorem dX6_clock_28 : decode cX6_clock 28 = .ok (.getfield 7, 3) := by decide +kernel
theorem dX6_clock_31 : decode cX6_clock 31 = .ok (.iconst 5, 1) := by decide +kernel
theorem dX6_clock_32 : decode cX6_clock 32 = .ok (.iload_n 2, 1) := by decide +kernel
theorem dX6_clock_33 : decode cX6_clock 33 = .ok (.imul, 1) := by decide +kernel
theorem dX6_clock_34 : decode cX6_clock 34 = .ok (.iload_n 1, 1) := by decide +kernel
theorem dX6_clock_35 : decode cX6_clock 35 = .ok (.iadd, 1) := by decide +kernel
theorem dX6_clock_36 : decode cX6_clock 36 = .ok (.iaload, 1) := by decide +kernel
theorem dX6_clock_37 : decode cX6_clock 37 = .ok (.goto 17, 3) := by decide +kernel
theorem dX6_clock_40 : decode cX6_clock 40 = .ok (.aload_n 0, 1) := by decide +kernel
theorem dX6_clock_41 : decode cX6_clock 41 = .ok (.iconst 0, 1) := by decide +kernel
theorem dX6_clock_42 : decode cX6_clock 42 = .ok (.iload_n 1, 1) := by decide +kernel
theorem dX6_clock_43 : decode cX6_clock 43 = .ok (.invokevirtual 120, 3) := by decide +kernel
theorem dX6_clock_46 : decode cX6_clock 46 = .ok (.ifCond .eq 7, 3) := by decide +kernel
theorem dX6_clock_49 : decode cX6_clock 49 = .ok (.iconst 1, 1) := by decide +kernel
theorem dX6_clock_50 : decode cX6_clock 50 = .ok (.goto 4, 3) := by decide +kernel
theorem dX6_clock_53 : decode cX6_clock 53 = .ok (.iconst 0, 1) := by decide +kernel
theorem dX6_clock_54 : decode cX6_clock 54 = .ok (.ireturn, 1) := by decide +kernel
theorem dX6_alters_0 : decode cX6_alters 0 = .ok (.iload_n 2, 1) := by decide +kernel
theorem dX6_alters_1 : decode cX6_alters 1 = .ok (.ifCond .ne 15, 3) := by decide +kernel
theorem dX6_alters_4 : decode cX6_alters 4 = .ok (.iload_n 3, 1) := by decide +kernel
theorem dX6_alters_5 : decode cX6_alters 5 = .ok (.i2l, 1) := by decide +kernel
theorem dX6_alters_6 : decode cX6_alters 6 = .ok (.lconst 0, 1) := by decide +kernel
theorem dX6_alters_7 : decode cX6_alters 7 = .ok (.ldc2_w 141, 3) := by decide +kernel
theorem dX6_alters_10 : decode cX6_alters 10 = .ok (.invokestatic 50, 3) := by decide +kernel
theorem dX6_alters_13 : decode cX6_alters 13 = .ok (.goto 44, 3) := by decide +kernel
theorem dX6_alters_16 : decode cX6_alters 16 = .ok (.iload_n 2, 1) := by decide +kernel
theorem dX6_alters_17 : decode cX6_alters 17 = .ok (.iconst 1, 1) := by decide +kernel
theorem dX6_alters_18 : decode cX6_alters 18 = .ok (.if_icmp .ne 17, 3) := by decide +kernel
theorem dX6_alters_21 : decode cX6_alters 21 = .ok (.iload_n 3, 1) := by decide +kernel
theorem dX6_alters_22 : decode cX6_alters 22 = .ok (.i2l, 1) := by decide +kernel
theorem dX6_alters_23 : decode cX6_alters 23 = .ok (.ldc2_w 143, 3) := by decide +kernel
theorem dX6_alters_26 : decode cX6_alters 26 = .ok (.ldc2_w 145, 3) := by decide +kernel
theorem dX6_alters_29 : decode cX6_alters 29 = .ok (.invokestatic 50, 3) := by decide +kernel
theorem dX6_alters_32 : decode cX6_alters 32 = .ok (.goto 25, 3) := by decide +kernel
theorem dX6_alters_35 : decode cX6_alters 35 = .ok (.iload_n 2, 1) := by decide +kernel
theorem dX6_alters_36 : decode cX6_alters 36 = .ok (.iconst 2, 1) := by decide +kernel
theorem dX6_alters_37 : decode cX6_alters 37 = .ok (.if_icmp .ne 19, 3) := by decide +kernel
theorem dX6_alters_40 : decode cX6_alters 40 = .ok (.iload_n 3, 1) := by decide +kernel
theorem dX6_alters_41 : decode cX6_alters 41 = .ok (.i2l, 1) := by decide +kernel
theorem dX6_alters_42 : decode cX6_alters 42 = .ok (.lconst 0, 1) := by decide +kernel
theorem dX6_alters_43 : decode cX6_alters 43 = .ok (.ldc2_w 147, 3) := by decide +kernel
theorem dX6_alters_46 : decode cX6_alters 46 = .ok (.invokestatic 50, 3) := by decide +kernel
theorem dX6_alters_49 : decode cX6_alters 49 = .ok (.ifCond .eq 7, 3) := by decide +kernel
theorem dX6_alters_52 : decode cX6_alters 52 = .ok (.iconst 1, 1) := by decide +kernel
theorem dX6_alters_53 : decode cX6_alters 53 = .ok (.goto 4, 3) := by decide +kernel
theorem dX6_alters_56 : decode cX6_alters 56 = .ok (.iconst 0, 1) := by decide +kernel
theorem dX6_alters_57 : decode cX6_alters 57 = .ok (.istore 4, 2) := by decide +kernel
theorem dX6_alters_59 : decode cX6_alters 59 = .ok (.aload_n 0, 1) := by decide +kernel
theorem dX6_alters_60 : decode cX6_alters 60 = .ok (.iload_n 1, 1) := by decide +kernel
theorem dX6_alters_61 : decode cX6_alters 61 = .ok (.invokevirtual 137, 3) := by decide +kernel
theorem dX6_alters_64 : decode cX6_alters 64 = .ok (.ifCond .eq 8, 3) := by decide +kernel
theorem dX6_alters_67 : decode cX6_alters 67 = .ok (.iload 4, 2) := by decide +kernel
theorem dX6_alters_69 : decode cX6_alters 69 = .ok (.ifCond .ne 5, 3) := by decide +kernel
theorem dX6_alters_72 : decode cX6_alters 72 = .ok (.iconst (-1), 1) := by decide +kernel
theorem dX6_alters_73 : decode cX6_alters 73 = .ok (.ireturn, 1) := by decide +kernel
theorem dX6_alters_74 : decode cX6_alters 74 = .ok (.iload_n 2, 1) := by decide +kernel
theorem dX6_alters_75 : decode cX6_alters 75 = .ok (.iconst 1, 1) := by decide +kernel
theorem dX6_alters_76 : decode cX6_alters 76 = .ok (.if_icmp .ne 16, 3) := by decide +kernel
theorem dX6_alters_79 : decode cX6_alters 79 = .ok (.aload_n 0, 1) := by decide +kernel
theorem dX6_alters_80 : decode cX6_alters 80 = .ok (.getfield 7, 3) := by decide +kernel
theorem dX6_alters_83 : decode cX6_alters 83 = .ok (.bipush 10, 2) := by decide +kernel
theorem dX6_alters_85 : decode cX6_alters 85 = .ok (.iload_n 1, 1) := by decide +kernel
theorem dX6_alters_86 : decode cX6_alters 86 = .ok (.iadd, 1) := by decide +kernel
theorem dX6_alters_87 : decode cX6_alters 87 = .ok (.iaload, 1) := by decide +kernel
theorem dX6_alters_88 : decode cX6_alters 88 = .ok (.iload_n 3, 1) := by decide +kernel
theorem dX6_alters_89 : decode cX6_alters 89 = .ok (.if_icmp .ge 20, 3) := by decide +kernel
theorem dX6_alters_92 : decode cX6_alters 92 = .ok (.iload_n 2, 1) := by decide +kernel
theorem dX6_alters_93 : decode cX6_alters 93 = .ok (.iconst 2, 1) := by decide +kernel
theorem dX6_alters_94 : decode cX6_alters 94 = .ok (.if_icmp .ne 18, 3) := by decide +kernel
theorem dX6_alters_97 : decode cX6_alters 97 = .ok (.iload_n 3, 1) := by decide +kernel
theorem dX6_alters_98 : decode cX6_alters 98 = .ok (.aload_n 0, 1) := by decide +kernel
theorem dX6_alters_99 : decode cX6_alters 99 = .ok (.getfield 7, 3) := by decide +kernel
theorem dX6_alters_102 : decode cX6_alters 102 = .ok (.iconst 5, 1) := by decide +kernel
theorem dX6_alters_103 : decode cX6_alters 103 = .ok (.iload_n 1, 1) := by decide +kernel
theorem dX6_alters_104 : decode cX6_alters 104 = .ok (.iadd, 1) := by decide +kernel
theorem dX6_alters_105 : decode cX6_alters 105 = .ok (.iaload, 1) := by decide +kernel
theorem dX6_alters_106 : decode cX6_alters 106 = .ok (.if_icmp .lt 6, 3) := by decide +kernel
theorem dX6_alters_109 : decode cX6_alters 109 = .ok (.bipush (-2), 2) := by decide +kernel
theorem dX6_alters_111 : decode cX6_alters 111 = .ok (.ireturn, 1) := by decide +kernel
theorem dX6_alters_112 : decode cX6_alters 112 = .ok (.aload_n 0, 1) := by decide +kernel
theorem dX6_alters_113 : decode cX6_alters 113 = .ok (.getfield 7, 3) := by decide +kernel
theorem dX6_alters_116 : decode cX6_alters 116 = .ok (.iconst 5, 1) := by decide +kernel
theorem dX6_alters_117 : decode cX6_alters 117 = .ok (.iload_n 2, 1) := by decide +kernel
theorem dX6_alters_118 : decode cX6_alters 118 = .ok (.imul, 1) := by decide +kernel
theorem dX6_alters_119 : decode cX6_alters 119 = .ok (.iload_n 1, 1) := by decide +kernel
theorem dX6_alters_120 : decode cX6_alters 120 = .ok (.iadd, 1) := by decide +kernel
theorem dX6_alters_121 : decode cX6_alters 121 = .ok (.iaload, 1) := by decide +kernel
theorem dX6_alters_122 : decode cX6_alters 122 = .ok (.istore 5, 2) := by decide +kernel
theorem dX6_alters_124 : decode cX6_alters 124 = .ok (.aload_n 0, 1) := by decide +kernel
theorem dX6_alters_125 : decode cX6_alters 125 = .ok (.getfield 7, 3) := by decide +kernel
theorem dX6_alters_128 : decode cX6_alters 128 = .ok (.iconst 5, 1) := by decide +kernel
theorem dX6_alters_129 : decode cX6_alters 129 = .ok (.iload_n 2, 1) := by decide +kernel
theorem dX6_alters_130 : decode cX6_alters 130 = .ok (.imul, 1) := by decide +kernel
theorem dX6_alters_131 : decode cX6_alters 131 = .ok (.iload_n 1, 1) := by decide +kernel
theorem dX6_alters_132 : decode cX6_alters 132 = .ok (.iadd, 1) := by decide +kernel
theorem dX6_alters_133 : decode cX6_alters 133 = .ok (.iload_n 3, 1) := by decide +kernel
theorem dX6_alters_134 : decode cX6_alters 134 = .ok (.iastore, 1) := by decide +kernel
theorem dX6_alters_135 : decode cX6_alters 135 = .ok (.iload 5, 2) := by decide +kernel
theorem dX6_alters_137 : decode cX6_alters 137 = .ok (.ireturn, 1) := by decide +kernel
theorem dX6_alter_0 : decode cX6_alter 0 = .ok (.aload_n 0, 1) := by decide +kernel
theorem dX6_alter_1 : decode cX6_alter 1 = .ok (.iload_n 1, 1) := by decide +kernel
theorem dX6_alter_2 : decode cX6_alter 2 = .ok (.iload_n 2, 1) := by decide +kernel
theorem dX6_alter_3 : decode cX6_alter 3 = .ok (.iload_n 3, 1) := by decide +kernel
theorem dX6_alter_4 : decode cX6_alter 4 = .ok (.invokevirtual 149, 3) := by decide +kernel
theorem dX6_alter_7 : decode cX6_alter 7 = .ok (.ireturn, 1) := by decide +kernel
theorem dX6_push_0 : decode cX6_push 0 = .ok (.iload_n 1, 1) := by decide +kernel
theorem dX6_push_1 : decode cX6_push 1 = .ok (.i2l, 1) := by decide +kernel
theorem dX6_push_2 : decode cX6_push 2 = .ok (.lconst 0, 1) := by decide +kernel
theorem dX6_push_3 : decode cX6_push 3 = .ok (.ldc2_w 153, 3) := by decide +kernel
theorem dX6_push_6 : decode cX6_push 6 = .ok (.invokestatic 50, 3) := by decide +kernel
theorem dX6_push_9 : decode cX6_push 9 = .ok (.ifCond .ne 5, 3) := by decide +kernel
theorem dX6_push_12 : decode cX6_push 12 = .ok (.iconst (-1), 1) := by decide +kernel
theorem dX6_push_13 : decode cX6_push 13 = .ok (.ireturn, 1) := by decide +kernel
theorem dX6_push_14 : decode cX6_push 14 = .ok (.aload_n 0, 1) := by decide +kernel
theorem dX6_push_15 : decode cX6_push 15 = .ok (.getfield 7, 3) := by decide +kernel
theorem dX6_push_18 : decode cX6_push 18 = .ok (.bipush 21, 2) := by decide +kernel
theorem dX6_push_20 : decode cX6_push 20 = .ok (.iaload, 1) := by decide +kernel
theorem dX6_push_21 : decode cX6_push 21 = .ok (.iconst 1, 1) := by decide +kernel
theorem dX6_push_22 : decode cX6_push 22 = .ok (.iadd, 1) := by decide +kernel
theorem dX6_push_23 : decode cX6_push 23 = .ok (.istore_n 2, 1) := by decide +kernel
theorem dX6_push_24 : decode cX6_push 24 = .ok (.aload_n 0, 1) := by decide +kernel
theorem dX6_push_25 : decode cX6_push 25 = .ok (.getfield 7, 3) := by decide +kernel
theorem dX6_push_28 : decode cX6_push 28 = .ok (.bipush 21, 2) := by decide +kernel
theorem dX6_push_30 : decode cX6_push 30 = .ok (.iload_n 1, 1) := by decide +kernel
theorem dX6_push_31 : decode cX6_push 31 = .ok (.iconst 1, 1) := by decide +kernel
theorem dX6_push_32 : decode cX6_push 32 = .ok (.isub, 1) := by decide +kernel
theorem dX6_push_33 : decode cX6_push 33 = .ok (.iastore, 1) := by decide +kernel
theorem dX6_push_34 : decode cX6_push 34 = .ok (.iload_n 2, 1) := by decide +kernel
theorem dX6_push_35 : decode cX6_push 35 = .ok (.ireturn, 1) := by decide +kernel
theorem dX6_hang_0 : decode cX6_hang 0 = .ok (.iload_n 1, 1) := by decide +kernel
theorem dX6_hang_1 : decode cX6_hang 1 = .ok (.i2l, 1) := by decide +kernel
theorem dX6_hang_2 : decode cX6_hang 2 = .ok (.lconst 0, 1) := by decide +kernel
theorem dX6_hang_3 : decode cX6_hang 3 = .ok (.ldc2_w 141, 3) := by decide +kernel
theorem dX6_hang_6 : decode cX6_hang 6 = .ok (.invokestatic 50, 3) := by decide +kernel
theorem dX6_hang_9 : decode cX6_hang 9 = .ok (.ifCond .eq 17, 3) := by decide +kernel
theorem dX6_hang_12 : decode cX6_hang 12 = .ok (.iload_n 2, 1) := by decide +kernel
theorem dX6_hang_13 : decode cX6_hang 13 = .ok (.i2l, 1) := by decide +kernel
theorem dX6_hang_14 : decode cX6_hang 14 = .ok (.ldc2_w 143, 3) := by decide +kernel
theorem dX6_hang_17 : decode cX6_hang 17 = .ok (.ldc2_w 145, 3) := by decide +kernel
theorem dX6_hang_20 : decode cX6_hang 20 = .ok (.invokestatic 50, 3) := by decide +kernel
theorem dX6_hang_23 : decode cX6_hang 23 = .ok (.ifCond .ne 5, 3) := by decide +kernel
theorem dX6_hang_26 : decode cX6_hang 26 = .ok (.iconst (-1), 1) := by decide +kernel
theorem dX6_hang_27 : decode cX6_hang 27 = .ok (.ireturn, 1) := by decide +kernel
theorem dX6_hang_28 : decode cX6_hang 28 = .ok (.aload_n 0, 1) := by decide +kernel
theorem dX6_hang_29 : decode cX6_hang 29 = .ok (.getfield 7, 3) := by decide +kernel
theorem dX6_hang_32 : decode cX6_hang 32 = .ok (.bipush 20, 2) := by decide +kernel
theorem dX6_hang_34 : decode cX6_hang 34 = .ok (.iaload, 1) := by decide +kernel
theorem dX6_hang_35 : decode cX6_hang 35 = .ok (.istore_n 3, 1) := by decide +kernel
theorem dX6_hang_36 : decode cX6_hang 36 = .ok (.iload_n 3, 1) := by decide +kernel
theorem dX6_hang_37 : decode cX6_hang 37 = .ok (.iconst 5, 1) := by decide +kernel
theorem dX6_hang_38 : decode cX6_hang 38 = .ok (.if_icmp .ne 6, 3) := by decide +kernel
theorem dX6_hang_41 : decode cX6_hang 41 = .ok (.bipush (-3), 2) := by decide +kernel
theorem dX6_hang_43 : decode cX6_hang 43 = .ok (.ireturn, 1) := by decide +kernel
theorem dX6_hang_44 : decode cX6_hang 44 = .ok (.aload_n 0, 1) := by decide +kernel
theorem dX6_hang_45 : decode cX6_hang 45 = .ok (.getfield 7, 3) := by decide +kernel
theorem dX6_hang_48 : decode cX6_hang 48 = .ok (.iload_n 3, 1) := by decide +kernel
theorem dX6_hang_49 : decode cX6_hang 49 = .ok (.iload_n 1, 1) := by decide +kernel
theorem dX6_hang_50 : decode cX6_hang 50 = .ok (.iastore, 1) := by decide +kernel
theorem dX6_hang_51 : decode cX6_hang 51 = .ok (.aload_n 0, 1) := by decide +kernel
theorem dX6_hang_52 : decode cX6_hang 52 = .ok (.getfield 7, 3) := by decide +kernel
theorem dX6_hang_55 : decode cX6_hang 55 = .ok (.iconst 5, 1) := by decide +kernel
theorem dX6_hang_56 : decode cX6_hang 56 = .ok (.iload_n 3, 1) := by decide +kernel
theorem dX6_hang_57 : decode cX6_hang 57 = .ok (.iadd, 1) := by decide +kernel
theorem dX6_hang_58 : decode cX6_hang 58 = .ok (.iload_n 2, 1) := by decide +kernel
theorem dX6_hang_59 : decode cX6_hang 59 = .ok (.iastore, 1) := by decide +kernel
theorem dX6_hang_60 : decode cX6_hang 60 = .ok (.aload_n 0, 1) := by decide +kernel
theorem dX6_hang_61 : decode cX6_hang 61 = .ok (.getfield 7, 3) := by decide +kernel
theorem dX6_hang_64 : decode cX6_hang 64 = .ok (.bipush 10, 2) := by decide +kernel
theorem dX6_hang_66 : decode cX6_hang 66 = .ok (.iload_n 3, 1) := by decide +kernel
theorem dX6_hang_67 : decode cX6_hang 67 = .ok (.iadd, 1) := by decide +kernel
theorem dX6_hang_68 : decode cX6_hang 68 = .ok (.iconst 0, 1) := by decide +kernel
theorem dX6_hang_69 : decode cX6_hang 69 = .ok (.iastore, 1) := by decide +kernel
theorem dX6_hang_70 : decode cX6_hang 70 = .ok (.aload_n 0, 1) := by decide +kernel
theorem dX6_hang_71 : decode cX6_hang 71 = .ok (.getfield 7, 3) := by decide +kernel
theorem dX6_hang_74 : decode cX6_hang 74 = .ok (.bipush 15, 2) := by decide +kernel
theorem dX6_hang_76 : decode cX6_hang 76 = .ok (.iload_n 3, 1) := by decide +kernel
theorem dX6_hang_77 : decode cX6_hang 77 = .ok (.iadd, 1) := by decide +kernel
theorem dX6_hang_78 : decode cX6_hang 78 = .ok (.iconst 0, 1) := by decide +kernel
theorem dX6_hang_79 : decode cX6_hang 79 = .ok (.iastore, 1) := by decide +kernel
theorem dX6_hang_80 : decode cX6_hang 80 = .ok (.aload_n 0, 1) := by decide +kernel
theorem dX6_hang_81 : decode cX6_hang 81 = .ok (.getfield 7, 3) := by decide +kernel
theorem dX6_hang_84 : decode cX6_hang 84 = .ok (.bipush 20, 2) := by decide +kernel
theorem dX6_hang_86 : decode cX6_hang 86 = .ok (.dup2, 1) := by decide +kernel
theorem dX6_hang_87 : decode cX6_hang 87 = .ok (.iaload, 1) := by decide +kernel
theorem dX6_hang_88 : decode cX6_hang 88 = .ok (.iconst 1, 1) := by decide +kernel
theorem dX6_hang_89 : decode cX6_hang 89 = .ok (.iadd, 1) := by decide +kernel
theorem dX6_hang_90 : decode cX6_hang 90 = .ok (.iastore, 1) := by decide +kernel
theorem dX6_hang_91 : decode cX6_hang 91 = .ok (.aload_n 0, 1) := by decide +kernel
theorem dX6_hang_92 : decode cX6_hang 92 = .ok (.getfield 7, 3) := by decide +kernel
theorem dX6_hang_95 : decode cX6_hang 95 = .ok (.bipush 20, 2) := by decide +kernel
theorem dX6_hang_97 : decode cX6_hang 97 = .ok (.iaload, 1) := by decide +kernel
theorem dX6_hang_98 : decode cX6_hang 98 = .ok (.ireturn, 1) := by decide +kernel
theorem dX6_cut_0 : decode cX6_cut 0 = .ok (.iload_n 1, 1) := by decide +kernel
theorem dX6_cut_1 : decode cX6_cut 1 = .ok (.i2l, 1) := by decide +kernel
theorem dX6_cut_2 : decode cX6_cut 2 = .ok (.lconst 0, 1) := by decide +kernel
theorem dX6_cut_3 : decode cX6_cut 3 = .ok (.aload_n 0, 1) := by decide +kernel
theorem dX6_cut_4 : decode cX6_cut 4 = .ok (.getfield 7, 3) := by decide +kernel
theorem dX6_cut_7 : decode cX6_cut 7 = .ok (.bipush 20, 2) := by decide +kernel
theorem dX6_cut_9 : decode cX6_cut 9 = .ok (.iaload, 1) := by decide +kernel
theorem dX6_cut_10 : decode cX6_cut 10 = .ok (.i2l, 1) := by decide +kernel
theorem dX6_cut_11 : decode cX6_cut 11 = .ok (.invokestatic 50, 3) := by decide +kernel
theorem dX6_cut_14 : decode cX6_cut 14 = .ok (.ifCond .ne 5, 3) := by decide +kernel
theorem dX6_cut_17 : decode cX6_cut 17 = .ok (.iconst (-1), 1) := by decide +kernel
theorem dX6_cut_18 : decode cX6_cut 18 = .ok (.ireturn, 1) := by decide +kernel
theorem dX6_cut_19 : decode cX6_cut 19 = .ok (.aload_n 0, 1) := by decide +kernel
theorem dX6_cut_20 : decode cX6_cut 20 = .ok (.getfield 7, 3) := by decide +kernel
theorem dX6_cut_23 : decode cX6_cut 23 = .ok (.bipush 20, 2) := by decide +kernel
theorem dX6_cut_25 : decode cX6_cut 25 = .ok (.iaload, 1) := by decide +kernel
theorem dX6_cut_26 : decode cX6_cut 26 = .ok (.istore_n 2, 1) := by decide +kernel
theorem dX6_cut_27 : decode cX6_cut 27 = .ok (.aload_n 0, 1) := by decide +kernel
theorem dX6_cut_28 : decode cX6_cut 28 = .ok (.getfield 7, 3) := by decide +kernel
theorem dX6_cut_31 : decode cX6_cut 31 = .ok (.bipush 20, 2) := by decide +kernel
theorem dX6_cut_33 : decode cX6_cut 33 = .ok (.iload_n 1, 1) := by decide +kernel
theorem dX6_cut_34 : decode cX6_cut 34 = .ok (.iastore, 1) := by decide +kernel
theorem dX6_cut_35 : decode cX6_cut 35 = .ok (.iload_n 2, 1) := by decide +kernel
theorem dX6_cut_36 : decode cX6_cut 36 = .ok (.ireturn, 1) := by decide +kernel
theorem dX6_knock_0 : decode cX6_knock 0 = .ok (.aload_n 0, 1) := by decide +kernel
theorem dX6_knock_1 : decode cX6_knock 1 = .ok (.iload_n 1, 1) := by decide +kernel
theorem dX6_knock_2 : decode cX6_knock 2 = .ok (.invokevirtual 137, 3) := by decide +kernel
theorem dX6_knock_5 : decode cX6_knock 5 = .ok (.ifCond .eq 15, 3) := by decide +kernel
theorem dX6_knock_8 : decode cX6_knock 8 = .ok (.iload_n 2, 1) := by decide +kernel
theorem dX6_knock_9 : decode cX6_knock 9 = .ok (.i2l, 1) := by decide +kernel
theorem dX6_knock_10 : decode cX6_knock 10 = .ok (.lconst 1, 1) := by decide +kernel
theorem dX6_knock_11 : decode cX6_knock 11 = .ok (.ldc2_w 153, 3) := by decide +kernel
theorem dX6_knock_14 : decode cX6_knock 14 = .ok (.invokestatic 50, 3) := by decide +kernel
theorem dX6_knock_17 : decode cX6_knock 17 = .ok (.ifCond .ne 5, 3) := by decide +kernel
theorem dX6_knock_20 : decode cX6_knock 20 = .ok (.iconst (-1), 1) := by decide +kernel
theorem dX6_knock_21 : decode cX6_knock 21 = .ok (.ireturn, 1) := by decide +kernel
theorem dX6_knock_22 : decode cX6_knock 22 = .ok (.aload_n 0, 1) := by decide +kernel
theorem dX6_knock_23 : decode cX6_knock 23 = .ok (.iconst 0, 1) := by decide +kernel
theorem dX6_knock_24 : decode cX6_knock 24 = .ok (.iload_n 1, 1) := by decide +kernel
theorem dX6_knock_25 : decode cX6_knock 25 = .ok (.iload_n 2, 1) := by decide +kernel
theorem dX6_knock_26 : decode cX6_knock 26 = .ok (.invokevirtual 130, 3) := by decide +kernel
theorem dX6_knock_29 : decode cX6_knock 29 = .ok (.aload_n 0, 1) := by decide +kernel
theorem dX6_knock_30 : decode cX6_knock 30 = .ok (.getfield 7, 3) := by decide +kernel
theorem dX6_knock_33 : decode cX6_knock 33 = .ok (.bipush 10, 2) := by decide +kernel
theorem dX6_knock_35 : decode cX6_knock 35 = .ok (.iload_n 1, 1) := by decide +kernel
theorem dX6_knock_36 : decode cX6_knock 36 = .ok (.iadd, 1) := by decide +kernel
theorem dX6_knock_37 : decode cX6_knock 37 = .ok (.iaload, 1) := by decide +kernel
theorem dX6_knock_38 : decode cX6_knock 38 = .ok (.ireturn, 1) := by decide +kernel
theorem dX6_ticks_0 : decode cX6_ticks 0 = .ok (.iload_n 1, 1) := by decide +kernel
theorem dX6_ticks_1 : decode cX6_ticks 1 = .ok (.i2l, 1) := by decide +kernel
theorem dX6_ticks_2 : decode cX6_ticks 2 = .ok (.lconst 0, 1) := by decide +kernel
theorem dX6_ticks_3 : decode cX6_ticks 3 = .ok (.ldc2_w 155, 3) := by decide +kernel
theorem dX6_ticks_6 : decode cX6_ticks 6 = .ok (.invokestatic 50, 3) := by decide +kernel
theorem dX6_ticks_9 : decode cX6_ticks 9 = .ok (.ifCond .ne 5, 3) := by decide +kernel
theorem dX6_ticks_12 : decode cX6_ticks 12 = .ok (.iconst (-1), 1) := by decide +kernel
theorem dX6_ticks_13 : decode cX6_ticks 13 = .ok (.ireturn, 1) := by decide +kernel
theorem dX6_ticks_14 : decode cX6_ticks 14 = .ok (.aload_n 0, 1) := by decide +kernel
theorem dX6_ticks_15 : decode cX6_ticks 15 = .ok (.getfield 7, 3) := by decide +kernel
theorem dX6_ticks_18 : decode cX6_ticks 18 = .ok (.bipush 22, 2) := by decide +kernel
theorem dX6_ticks_20 : decode cX6_ticks 20 = .ok (.iaload, 1) := by decide +kernel
theorem dX6_ticks_21 : decode cX6_ticks 21 = .ok (.iload_n 1, 1) := by decide +kernel
theorem dX6_ticks_22 : decode cX6_ticks 22 = .ok (.iadd, 1) := by decide +kernel
theorem dX6_ticks_23 : decode cX6_ticks 23 = .ok (.sipush 9999, 3) := by decide +kernel
theorem dX6_ticks_26 : decode cX6_ticks 26 = .ok (.if_icmp .le 6, 3) := by decide +kernel
theorem dX6_ticks_29 : decode cX6_ticks 29 = .ok (.bipush (-3), 2) := by decide +kernel
theorem dX6_ticks_31 : decode cX6_ticks 31 = .ok (.ireturn, 1) := by decide +kernel
theorem dX6_ticks_32 : decode cX6_ticks 32 = .ok (.iconst 0, 1) := by decide +kernel
theorem dX6_ticks_33 : decode cX6_ticks 33 = .ok (.istore_n 2, 1) := by decide +kernel
theorem dX6_ticks_34 : decode cX6_ticks 34 = .ok (.iconst 0, 1) := by decide +kernel
theorem dX6_ticks_35 : decode cX6_ticks 35 = .ok (.istore_n 3, 1) := by decide +kernel
theorem dX6_ticks_36 : decode cX6_ticks 36 = .ok (.iload_n 3, 1) := by decide +kernel
theorem dX6_ticks_37 : decode cX6_ticks 37 = .ok (.iload_n 1, 1) := by decide +kernel
theorem dX6_ticks_38 : decode cX6_ticks 38 = .ok (.if_icmp .ge 21, 3) := by decide +kernel
theorem dX6_ticks_41 : decode cX6_ticks 41 = .ok (.iload_n 2, 1) := by decide +kernel
theorem dX6_ticks_42 : decode cX6_ticks 42 = .ok (.aload_n 0, 1) := by decide +kernel
theorem dX6_ticks_43 : decode cX6_ticks 43 = .ok (.iconst 0, 1) := by decide +kernel
theorem dX6_ticks_44 : decode cX6_ticks 44 = .ok (.iconst 0, 1) := by decide +kernel
theorem dX6_ticks_45 : decode cX6_ticks 45 = .ok (.invokevirtual 157, 3) := by decide +kernel
theorem dX6_ticks_48 : decode cX6_ticks 48 = .ok (.invokestatic 127, 3) := by decide +kernel
theorem dX6_ticks_51 : decode cX6_ticks 51 = .ok (.iadd, 1) := by decide +kernel
theorem dX6_ticks_52 : decode cX6_ticks 52 = .ok (.istore_n 2, 1) := by decide +kernel
theorem dX6_ticks_53 : decode cX6_ticks 53 = .ok (.iinc 3 1, 3) := by decide +kernel
theorem dX6_ticks_56 : decode cX6_ticks 56 = .ok (.goto (-20), 3) := by decide +kernel
theorem dX6_ticks_59 : decode cX6_ticks 59 = .ok (.iload_n 2, 1) := by decide +kernel
theorem dX6_ticks_60 : decode cX6_ticks 60 = .ok (.ireturn, 1) := by decide +kernel
theorem dX6_copies_0 : decode cX6_copies 0 = .ok (.iconst 0, 1) := by decide +kernel
theorem dX6_copies_1 : decode cX6_copies 1 = .ok (.istore_n 3, 1) := by decide +kernel
theorem dX6_copies_2 : decode cX6_copies 2 = .ok (.iload_n 3, 1) := by decide +kernel
theorem dX6_copies_3 : decode cX6_copies 3 = .ok (.bipush 23, 2) := by decide +kernel
theorem dX6_copies_5 : decode cX6_copies 5 = .ok (.if_icmp .ge 25, 3) := by decide +kernel
theorem dX6_copies_8 : decode cX6_copies 8 = .ok (.aload_n 0, 1) := by decide +kernel
theorem dX6_copies_9 : decode cX6_copies 9 = .ok (.getfield 7, 3) := by decide +kernel
theorem dX6_copies_12 : decode cX6_copies 12 = .ok (.iload_n 2, 1) := by decide +kernel
theorem dX6_copies_13 : decode cX6_copies 13 = .ok (.iload_n 3, 1) := by decide +kernel
theorem dX6_copies_14 : decode cX6_copies 14 = .ok (.iadd, 1) := by decide +kernel
theorem dX6_copies_15 : decode cX6_copies 15 = .ok (.aload_n 0, 1) := by decide +kernel
theorem dX6_copies_16 : decode cX6_copies 16 = .ok (.getfield 7, 3) := by decide +kernel
theorem dX6_copies_19 : decode cX6_copies 19 = .ok (.iload_n 1, 1) := by decide +kernel
theorem dX6_copies_20 : decode cX6_copies 20 = .ok (.iload_n 3, 1) := by decide +kernel
theorem dX6_copies_21 : decode cX6_copies 21 = .ok (.iadd, 1) := by decide +kernel
theorem dX6_copies_22 : decode cX6_copies 22 = .ok (.iaload, 1) := by decide +kernel
theorem dX6_copies_23 : decode cX6_copies 23 = .ok (.iastore, 1) := by decide +kernel
theorem dX6_copies_24 : decode cX6_copies 24 = .ok (.iinc 3 1, 3) := by decide +kernel
theorem dX6_copies_27 : decode cX6_copies 27 = .ok (.goto (-25), 3) := by decide +kernel
theorem dX6_copies_30 : decode cX6_copies 30 = .ok (.return_, 1) := by decide +kernel
theorem dX6_ticksGo_0 : decode cX6_ticksGo 0 = .ok (.aload_n 0, 1) := by decide +kernel
theorem dX6_ticksGo_1 : decode cX6_ticksGo 1 = .ok (.iload_n 1, 1) := by decide +kernel
theorem dX6_ticksGo_2 : decode cX6_ticksGo 2 = .ok (.bipush 92, 2) := by decide +kernel
theorem dX6_ticksGo_4 : decode cX6_ticksGo 4 = .ok (.invokevirtual 161, 3) := by decide +kernel
theorem dX6_ticksGo_7 : decode cX6_ticksGo 7 = .ok (.iconst 0, 1) := by decide +kernel
theorem dX6_ticksGo_8 : decode cX6_ticksGo 8 = .ok (.istore_n 3, 1) := by decide +kernel
theorem dX6_ticksGo_9 : decode cX6_ticksGo 9 = .ok (.aload_n 0, 1) := by decide +kernel
theorem dX6_ticksGo_10 : decode cX6_ticksGo 10 = .ok (.iconst 0, 1) := by decide +kernel
theorem dX6_ticksGo_11 : decode cX6_ticksGo 11 = .ok (.putfield 165, 3) := by decide +kernel
theorem dX6_ticksGo_14 : decode cX6_ticksGo 14 = .ok (.aload_n 0, 1) := by decide +kernel
theorem dX6_ticksGo_15 : decode cX6_ticksGo 15 = .ok (.iconst 0, 1) := by decide +kernel
theorem dX6_ticksGo_16 : decode cX6_ticksGo 16 = .ok (.putfield 168, 3) := by decide +kernel
theorem dX6_ticksGo_19 : decode cX6_ticksGo 19 = .ok (.aload_n 0, 1) := by decide +kernel
theorem dX6_ticksGo_20 : decode cX6_ticksGo 20 = .ok (.iconst 0, 1) := by decide +kernel
theorem dX6_ticksGo_21 : decode cX6_ticksGo 21 = .ok (.putfield 171, 3) := by decide +kernel
theorem dX6_ticksGo_24 : decode cX6_ticksGo 24 = .ok (.iconst 0, 1) := by decide +kernel
theorem dX6_ticksGo_25 : decode cX6_ticksGo 25 = .ok (.istore 4, 2) := by decide +kernel
theorem dX6_ticksGo_27 : decode cX6_ticksGo 27 = .ok (.iload 4, 2) := by decide +kernel
theorem dX6_ticksGo_29 : decode cX6_ticksGo 29 = .ok (.iload_n 2, 1) := by decide +kernel
theorem dX6_ticksGo_30 : decode cX6_ticksGo 30 = .ok (.if_icmp .ge 101, 3) := by decide +kernel
theorem dX6_ticksGo_33 : decode cX6_ticksGo 33 = .ok (.aload_n 0, 1) := by decide +kernel
theorem dX6_ticksGo_34 : decode cX6_ticksGo 34 = .ok (.bipush 92, 2) := by decide +kernel
theorem dX6_ticksGo_36 : decode cX6_ticksGo 36 = .ok (.iconst 0, 1) := by decide +kernel
theorem dX6_ticksGo_37 : decode cX6_ticksGo 37 = .ok (.invokevirtual 157, 3) := by decide +kernel
theorem dX6_ticksGo_40 : decode cX6_ticksGo 40 = .ok (.istore 5, 2) := by decide +kernel
theorem dX6_ticksGo_42 : decode cX6_ticksGo 42 = .ok (.iload 5, 2) := by decide +kernel
theorem dX6_ticksGo_44 : decode cX6_ticksGo 44 = .ok (.invokestatic 127, 3) := by decide +kernel
theorem dX6_ticksGo_47 : decode cX6_ticksGo 47 = .ok (.istore 6, 2) := by decide +kernel
theorem dX6_ticksGo_49 : decode cX6_ticksGo 49 = .ok (.iload_n 3, 1) := by decide +kernel
theorem dX6_ticksGo_50 : decode cX6_ticksGo 50 = .ok (.iload 6, 2) := by decide +kernel
theorem dX6_ticksGo_52 : decode cX6_ticksGo 52 = .ok (.iadd, 1) := by decide +kernel
theorem dX6_ticksGo_53 : decode cX6_ticksGo 53 = .ok (.istore_n 3, 1) := by decide +kernel
theorem dX6_ticksGo_54 : decode cX6_ticksGo 54 = .ok (.aload_n 0, 1) := by decide +kernel
theorem dX6_ticksGo_55 : decode cX6_ticksGo 55 = .ok (.dup, 1) := by decide +kernel
theorem dX6_ticksGo_56 : decode cX6_ticksGo 56 = .ok (.getfield 165, 3) := by decide +kernel
theorem dX6_ticksGo_59 : decode cX6_ticksGo 59 = .ok (.iload 6, 2) := by decide +kernel
theorem dX6_ticksGo_61 : decode cX6_ticksGo 61 = .ok (.ifCond .le 7, 3) := by decide +kernel
theorem dX6_ticksGo_64 : decode cX6_ticksGo 64 = .ok (.iconst 1, 1) := by decide +kernel
theorem dX6_ticksGo_65 : decode cX6_ticksGo 65 = .ok (.goto 4, 3) := by decide +kernel
theorem dX6_ticksGo_68 : decode cX6_ticksGo 68 = .ok (.iconst 0, 1) := by decide +kernel
theorem dX6_ticksGo_69 : decode cX6_ticksGo 69 = .ok (.iadd, 1) := by decide +kernel
theorem dX6_ticksGo_70 : decode cX6_ticksGo 70 = .ok (.putfield 165, 3) := by decide +kernel
theorem dX6_ticksGo_73 : decode cX6_ticksGo 73 = .ok (.aload_n 0, 1) := by decide +kernel
theorem dX6_ticksGo_74 : decode cX6_ticksGo 74 = .ok (.iload 6, 2) := by decide +kernel
theorem dX6_ticksGo_76 : decode cX6_ticksGo 76 = .ok (.aload_n 0, 1) := by decide +kernel
theorem dX6_ticksGo_77 : decode cX6_ticksGo 77 = .ok (.getfield 168, 3) := by decide +kernel
theorem dX6_ticksGo_80 : decode cX6_ticksGo 80 = .ok (.if_icmp .le 8, 3) := by decide +kernel
theorem dX6_ticksGo_83 : decode cX6_ticksGo 83 = .ok (.iload 6, 2) := by decide +kernel
theorem dX6_ticksGo_85 : decode cX6_ticksGo 85 = .ok (.goto 7, 3) := by decide +kernel
theorem dX6_ticksGo_88 : decode cX6_ticksGo 88 = .ok (.aload_n 0, 1) := by decide +kernel
theorem dX6_ticksGo_89 : decode cX6_ticksGo 89 = .ok (.getfield 168, 3) := by decide +kernel
theorem dX6_ticksGo_92 : decode cX6_ticksGo 92 = .ok (.putfield 168, 3) := by decide +kernel
theorem dX6_ticksGo_95 : decode cX6_ticksGo 95 = .ok (.aload_n 0, 1) := by decide +kernel
theorem dX6_ticksGo_96 : decode cX6_ticksGo 96 = .ok (.dup, 1) := by decide +kernel
theorem dX6_ticksGo_97 : decode cX6_ticksGo 97 = .ok (.getfield 171, 3) := by decide +kernel
theorem dX6_ticksGo_100 : decode cX6_ticksGo 100 = .ok (.iload 6, 2) := by decide +kernel
theorem dX6_ticksGo_102 : decode cX6_ticksGo 102 = .ok (.ifCond .le 18, 3) := by decide +kernel
theorem dX6_ticksGo_105 : decode cX6_ticksGo 105 = .ok (.iload 5, 2) := by decide +kernel
theorem dX6_ticksGo_107 : decode cX6_ticksGo 107 = .ok (.aload_n 0, 1) := by decide +kernel
theorem dX6_ticksGo_108 : decode cX6_ticksGo 108 = .ok (.bipush 92, 2) := by decide +kernel
theorem dX6_ticksGo_110 : decode cX6_ticksGo 110 = .ok (.invokevirtual 174, 3) := by decide +kernel
theorem dX6_ticksGo_113 : decode cX6_ticksGo 113 = .ok (.if_icmp .ne 7, 3) := by decide +kernel
theorem dX6_ticksGo_116 : decode cX6_ticksGo 116 = .ok (.iconst 1, 1) := by decide +kernel
theorem dX6_ticksGo_117 : decode cX6_ticksGo 117 = .ok (.goto 4, 3) := by decide +kernel
theorem dX6_ticksGo_120 : decode cX6_ticksGo 120 = .ok (.iconst 0, 1) := by decide +kernel
theorem dX6_ticksGo_121 : decode cX6_ticksGo 121 = .ok (.iadd, 1) := by decide +kernel
theorem dX6_ticksGo_122 : decode cX6_ticksGo 122 = .ok (.putfield 171, 3) := by decide +kernel
theorem dX6_ticksGo_125 : decode cX6_ticksGo 125 = .ok (.iinc 4 1, 3) := by decide +kernel
theorem dX6_ticksGo_128 : decode cX6_ticksGo 128 = .ok (.goto (-101), 3) := by decide +kernel
theorem dX6_ticksGo_131 : decode cX6_ticksGo 131 = .ok (.iload_n 3, 1) := by decide +kernel
theorem dX6_ticksGo_132 : decode cX6_ticksGo 132 = .ok (.ireturn, 1) := by decide +kernel
theorem dX6_runs_0 : decode cX6_runs 0 = .ok (.iload_n 1, 1) := by decide +kernel
theorem dX6_runs_1 : decode cX6_runs 1 = .ok (.i2l, 1) := by decide +kernel
theorem dX6_runs_2 : decode cX6_runs 2 = .ok (.lconst 0, 1) := by decide +kernel
theorem dX6_runs_3 : decode cX6_runs 3 = .ok (.ldc2_w 177, 3) := by decide +kernel
theorem dX6_runs_6 : decode cX6_runs 6 = .ok (.invokestatic 50, 3) := by decide +kernel
end
section
theorem dX6_runs_9 : decode cX6_runs 9 = .ok (.ifCond .eq 15, 3) := by decide +kernel
theorem dX6_runs_12 : decode cX6_runs 12 = .ok (.iload_n 2, 1) := by decide +kernel
theorem dX6_runs_13 : decode cX6_runs 13 = .ok (.i2l, 1) := by decide +kernel
theorem dX6_runs_14 : decode cX6_runs 14 = .ok (.lconst 0, 1) := by decide +kernel
theorem dX6_runs_15 : decode cX6_runs 15 = .ok (.ldc2_w 102, 3) := by decide +kernel
theorem dX6_runs_18 : decode cX6_runs 18 = .ok (.invokestatic 50, 3) := by decide +kernel
theorem dX6_runs_21 : decode cX6_runs 21 = .ok (.ifCond .ne 5, 3) := by decide +kernel
theorem dX6_runs_24 : decode cX6_runs 24 = .ok (.iconst (-1), 1) := by decide +kernel
theorem dX6_runs_25 : decode cX6_runs 25 = .ok (.ireturn, 1) := by decide +kernel
theorem dX6_runs_26 : decode cX6_runs 26 = .ok (.aload_n 0, 1) := by decide +kernel
theorem dX6_runs_27 : decode cX6_runs 27 = .ok (.iconst 0, 1) := by decide +kernel
theorem dX6_runs_28 : decode cX6_runs 28 = .ok (.iload_n 1, 1) := by decide +kernel
theorem dX6_runs_29 : decode cX6_runs 29 = .ok (.invokevirtual 179, 3) := by decide +kernel
theorem dX6_runs_32 : decode cX6_runs 32 = .ok (.istore_n 3, 1) := by decide +kernel
theorem dX6_runs_33 : decode cX6_runs 33 = .ok (.iload_n 2, 1) := by decide +kernel
theorem dX6_runs_34 : decode cX6_runs 34 = .ok (.tableswitch 47 0 3 #[30, 32, 37, 42], 30) := by decide +kernel
theorem dX6_runs_64 : decode cX6_runs 64 = .ok (.iload_n 3, 1) := by decide +kernel
theorem dX6_runs_65 : decode cX6_runs 65 = .ok (.ireturn, 1) := by decide +kernel
theorem dX6_runs_66 : decode cX6_runs 66 = .ok (.aload_n 0, 1) := by decide +kernel
theorem dX6_runs_67 : decode cX6_runs 67 = .ok (.getfield 165, 3) := by decide +kernel
theorem dX6_runs_70 : decode cX6_runs 70 = .ok (.ireturn, 1) := by decide +kernel
theorem dX6_runs_71 : decode cX6_runs 71 = .ok (.aload_n 0, 1) := by decide +kernel
theorem dX6_runs_72 : decode cX6_runs 72 = .ok (.getfield 168, 3) := by decide +kernel
theorem dX6_runs_75 : decode cX6_runs 75 = .ok (.ireturn, 1) := by decide +kernel
theorem dX6_runs_76 : decode cX6_runs 76 = .ok (.aload_n 0, 1) := by decide +kernel
theorem dX6_runs_77 : decode cX6_runs 77 = .ok (.getfield 171, 3) := by decide +kernel
theorem dX6_runs_80 : decode cX6_runs 80 = .ok (.ireturn, 1) := by decide +kernel
theorem dX6_runs_81 : decode cX6_runs 81 = .ok (.aload_n 0, 1) := by decide +kernel
theorem dX6_runs_82 : decode cX6_runs 82 = .ok (.bipush 92, 2) := by decide +kernel
theorem dX6_runs_84 : decode cX6_runs 84 = .ok (.bipush 10, 2) := by decide +kernel
theorem dX6_runs_86 : decode cX6_runs 86 = .ok (.invokevirtual 134, 3) := by decide +kernel
theorem dX6_runs_89 : decode cX6_runs 89 = .ok (.ireturn, 1) := by decide +kernel
theorem dX6_ahead_0 : decode cX6_ahead 0 = .ok (.aload_n 0, 1) := by decide +kernel
theorem dX6_ahead_1 : decode cX6_ahead 1 = .ok (.iload_n 1, 1) := by decide +kernel
theorem dX6_ahead_2 : decode cX6_ahead 2 = .ok (.invokevirtual 137, 3) := by decide +kernel
theorem dX6_ahead_5 : decode cX6_ahead 5 = .ok (.ifCond .eq 25, 3) := by decide +kernel
theorem dX6_ahead_8 : decode cX6_ahead 8 = .ok (.iload_n 2, 1) := by decide +kernel
theorem dX6_ahead_9 : decode cX6_ahead 9 = .ok (.i2l, 1) := by decide +kernel
theorem dX6_ahead_10 : decode cX6_ahead 10 = .ok (.lconst 0, 1) := by decide +kernel
theorem dX6_ahead_11 : decode cX6_ahead 11 = .ok (.ldc2_w 177, 3) := by decide +kernel
theorem dX6_ahead_14 : decode cX6_ahead 14 = .ok (.invokestatic 50, 3) := by decide +kernel
theorem dX6_ahead_17 : decode cX6_ahead 17 = .ok (.ifCond .eq 13, 3) := by decide +kernel
theorem dX6_ahead_20 : decode cX6_ahead 20 = .ok (.iload_n 3, 1) := by decide +kernel
theorem dX6_ahead_21 : decode cX6_ahead 21 = .ok (.i2l, 1) := by decide +kernel
theorem dX6_ahead_22 : decode cX6_ahead 22 = .ok (.lconst 0, 1) := by decide +kernel
theorem dX6_ahead_23 : decode cX6_ahead 23 = .ok (.lconst 1, 1) := by decide +kernel
theorem dX6_ahead_24 : decode cX6_ahead 24 = .ok (.invokestatic 50, 3) := by decide +kernel
theorem dX6_ahead_27 : decode cX6_ahead 27 = .ok (.ifCond .ne 5, 3) := by decide +kernel
theorem dX6_ahead_30 : decode cX6_ahead 30 = .ok (.iconst (-1), 1) := by decide +kernel
theorem dX6_ahead_31 : decode cX6_ahead 31 = .ok (.ireturn, 1) := by decide +kernel
theorem dX6_ahead_32 : decode cX6_ahead 32 = .ok (.aload_n 0, 1) := by decide +kernel
theorem dX6_ahead_33 : decode cX6_ahead 33 = .ok (.iconst 0, 1) := by decide +kernel
theorem dX6_ahead_34 : decode cX6_ahead 34 = .ok (.iload_n 2, 1) := by decide +kernel
theorem dX6_ahead_35 : decode cX6_ahead 35 = .ok (.invokevirtual 179, 3) := by decide +kernel
theorem dX6_ahead_38 : decode cX6_ahead 38 = .ok (.pop, 1) := by decide +kernel
theorem dX6_ahead_39 : decode cX6_ahead 39 = .ok (.iload_n 3, 1) := by decide +kernel
theorem dX6_ahead_40 : decode cX6_ahead 40 = .ok (.ifCond .ne 15, 3) := by decide +kernel
theorem dX6_ahead_43 : decode cX6_ahead 43 = .ok (.aload_n 0, 1) := by decide +kernel
theorem dX6_ahead_44 : decode cX6_ahead 44 = .ok (.getfield 7, 3) := by decide +kernel
theorem dX6_ahead_47 : decode cX6_ahead 47 = .ok (.bipush 102, 2) := by decide +kernel
theorem dX6_ahead_49 : decode cX6_ahead 49 = .ok (.iload_n 1, 1) := by decide +kernel
theorem dX6_ahead_50 : decode cX6_ahead 50 = .ok (.iadd, 1) := by decide +kernel
theorem dX6_ahead_51 : decode cX6_ahead 51 = .ok (.iaload, 1) := by decide +kernel
theorem dX6_ahead_52 : decode cX6_ahead 52 = .ok (.goto 22, 3) := by decide +kernel
theorem dX6_ahead_55 : decode cX6_ahead 55 = .ok (.aload_n 0, 1) := by decide +kernel
theorem dX6_ahead_56 : decode cX6_ahead 56 = .ok (.getfield 7, 3) := by decide +kernel
theorem dX6_ahead_59 : decode cX6_ahead 59 = .ok (.bipush 107, 2) := by decide +kernel
theorem dX6_ahead_61 : decode cX6_ahead 61 = .ok (.iload_n 1, 1) := by decide +kernel
theorem dX6_ahead_62 : decode cX6_ahead 62 = .ok (.iadd, 1) := by decide +kernel
theorem dX6_ahead_63 : decode cX6_ahead 63 = .ok (.iaload, 1) := by decide +kernel
theorem dX6_ahead_64 : decode cX6_ahead 64 = .ok (.aload_n 0, 1) := by decide +kernel
theorem dX6_ahead_65 : decode cX6_ahead 65 = .ok (.getfield 7, 3) := by decide +kernel
theorem dX6_ahead_68 : decode cX6_ahead 68 = .ok (.bipush 15, 2) := by decide +kernel
theorem dX6_ahead_70 : decode cX6_ahead 70 = .ok (.iload_n 1, 1) := by decide +kernel
theorem dX6_ahead_71 : decode cX6_ahead 71 = .ok (.iadd, 1) := by decide +kernel
theorem dX6_ahead_72 : decode cX6_ahead 72 = .ok (.iaload, 1) := by decide +kernel
theorem dX6_ahead_73 : decode cX6_ahead 73 = .ok (.isub, 1) := by decide +kernel
theorem dX6_ahead_74 : decode cX6_ahead 74 = .ok (.ireturn, 1) := by decide +kernel
theorem dX6_beats_0 : decode cX6_beats 0 = .ok (.iload_n 1, 1) := by decide +kernel
theorem dX6_beats_1 : decode cX6_beats 1 = .ok (.i2l, 1) := by decide +kernel
theorem dX6_beats_2 : decode cX6_beats 2 = .ok (.lconst 0, 1) := by decide +kernel
theorem dX6_beats_3 : decode cX6_beats 3 = .ok (.ldc2_w 177, 3) := by decide +kernel
theorem dX6_beats_6 : decode cX6_beats 6 = .ok (.invokestatic 50, 3) := by decide +kernel
theorem dX6_beats_9 : decode cX6_beats 9 = .ok (.ifCond .ne 5, 3) := by decide +kernel
theorem dX6_beats_12 : decode cX6_beats 12 = .ok (.iconst (-1), 1) := by decide +kernel
theorem dX6_beats_13 : decode cX6_beats 13 = .ok (.ireturn, 1) := by decide +kernel
theorem dX6_beats_14 : decode cX6_beats 14 = .ok (.aload_n 0, 1) := by decide +kernel
theorem dX6_beats_15 : decode cX6_beats 15 = .ok (.iconst 0, 1) := by decide +kernel
theorem dX6_beats_16 : decode cX6_beats 16 = .ok (.iload_n 1, 1) := by decide +kernel
theorem dX6_beats_17 : decode cX6_beats 17 = .ok (.invokevirtual 179, 3) := by decide +kernel
theorem dX6_beats_20 : decode cX6_beats 20 = .ok (.pop, 1) := by decide +kernel
theorem dX6_beats_21 : decode cX6_beats 21 = .ok (.aload_n 0, 1) := by decide +kernel
theorem dX6_beats_22 : decode cX6_beats 22 = .ok (.bipush 92, 2) := by decide +kernel
theorem dX6_beats_24 : decode cX6_beats 24 = .ok (.invokevirtual 124, 3) := by decide +kernel
theorem dX6_beats_27 : decode cX6_beats 27 = .ok (.ireturn, 1) := by decide +kernel
theorem dX6_meetOn_0 : decode cX6_meetOn 0 = .ok (.aload_n 0, 1) := by decide +kernel
theorem dX6_meetOn_1 : decode cX6_meetOn 1 = .ok (.iload_n 1, 1) := by decide +kernel
theorem dX6_meetOn_2 : decode cX6_meetOn 2 = .ok (.bipush 92, 2) := by decide +kernel
theorem dX6_meetOn_4 : decode cX6_meetOn 4 = .ok (.invokevirtual 161, 3) := by decide +kernel
theorem dX6_meetOn_7 : decode cX6_meetOn 7 = .ok (.iconst 0, 1) := by decide +kernel
theorem dX6_meetOn_8 : decode cX6_meetOn 8 = .ok (.istore_n 2, 1) := by decide +kernel
theorem dX6_meetOn_9 : decode cX6_meetOn 9 = .ok (.iload_n 2, 1) := by decide +kernel
theorem dX6_meetOn_10 : decode cX6_meetOn 10 = .ok (.sipush 300, 3) := by decide +kernel
theorem dX6_meetOn_13 : decode cX6_meetOn 13 = .ok (.if_icmp .gt 33, 3) := by decide +kernel
theorem dX6_meetOn_16 : decode cX6_meetOn 16 = .ok (.aload_n 0, 1) := by decide +kernel
theorem dX6_meetOn_17 : decode cX6_meetOn 17 = .ok (.bipush 92, 2) := by decide +kernel
theorem dX6_meetOn_19 : decode cX6_meetOn 19 = .ok (.iconst 0, 1) := by decide +kernel
theorem dX6_meetOn_20 : decode cX6_meetOn 20 = .ok (.invokevirtual 157, 3) := by decide +kernel
theorem dX6_meetOn_23 : decode cX6_meetOn 23 = .ok (.istore_n 3, 1) := by decide +kernel
theorem dX6_meetOn_24 : decode cX6_meetOn 24 = .ok (.iload_n 3, 1) := by decide +kernel
theorem dX6_meetOn_25 : decode cX6_meetOn 25 = .ok (.ifCond .le 15, 3) := by decide +kernel
theorem dX6_meetOn_28 : decode cX6_meetOn 28 = .ok (.iload_n 3, 1) := by decide +kernel
theorem dX6_meetOn_29 : decode cX6_meetOn 29 = .ok (.aload_n 0, 1) := by decide +kernel
theorem dX6_meetOn_30 : decode cX6_meetOn 30 = .ok (.bipush 92, 2) := by decide +kernel
theorem dX6_meetOn_32 : decode cX6_meetOn 32 = .ok (.invokevirtual 174, 3) := by decide +kernel
theorem dX6_meetOn_35 : decode cX6_meetOn 35 = .ok (.if_icmp .ne 5, 3) := by decide +kernel
theorem dX6_meetOn_38 : decode cX6_meetOn 38 = .ok (.iload_n 2, 1) := by decide +kernel
theorem dX6_meetOn_39 : decode cX6_meetOn 39 = .ok (.ireturn, 1) := by decide +kernel
theorem dX6_meetOn_40 : decode cX6_meetOn 40 = .ok (.iinc 2 1, 3) := by decide +kernel
theorem dX6_meetOn_43 : decode cX6_meetOn 43 = .ok (.goto (-34), 3) := by decide +kernel
theorem dX6_meetOn_46 : decode cX6_meetOn 46 = .ok (.sipush 1000, 3) := by decide +kernel
theorem dX6_meetOn_49 : decode cX6_meetOn 49 = .ok (.ireturn, 1) := by decide +kernel
theorem dX6_together_0 : decode cX6_together 0 = .ok (.aload_n 0, 1) := by decide +kernel
theorem dX6_together_1 : decode cX6_together 1 = .ok (.iconst 0, 1) := by decide +kernel
theorem dX6_together_2 : decode cX6_together 2 = .ok (.invokevirtual 182, 3) := by decide +kernel
theorem dX6_together_5 : decode cX6_together 5 = .ok (.istore_n 1, 1) := by decide +kernel
theorem dX6_together_6 : decode cX6_together 6 = .ok (.iload_n 1, 1) := by decide +kernel
theorem dX6_together_7 : decode cX6_together 7 = .ok (.sipush 1000, 3) := by decide +kernel
theorem dX6_together_10 : decode cX6_together 10 = .ok (.if_icmp .ne 8, 3) := by decide +kernel
theorem dX6_together_13 : decode cX6_together 13 = .ok (.bipush (-4), 2) := by decide +kernel
theorem dX6_together_15 : decode cX6_together 15 = .ok (.goto 4, 3) := by decide +kernel
theorem dX6_together_18 : decode cX6_together 18 = .ok (.iload_n 1, 1) := by decide +kernel
theorem dX6_together_19 : decode cX6_together 19 = .ok (.ireturn, 1) := by decide +kernel
theorem dX6_again_0 : decode cX6_again 0 = .ok (.aload_n 0, 1) := by decide +kernel
theorem dX6_again_1 : decode cX6_again 1 = .ok (.iconst 0, 1) := by decide +kernel
theorem dX6_again_2 : decode cX6_again 2 = .ok (.bipush 92, 2) := by decide +kernel
theorem dX6_again_4 : decode cX6_again 4 = .ok (.invokevirtual 161, 3) := by decide +kernel
theorem dX6_again_7 : decode cX6_again 7 = .ok (.iconst 1, 1) := by decide +kernel
theorem dX6_again_8 : decode cX6_again 8 = .ok (.istore_n 1, 1) := by decide +kernel
theorem dX6_again_9 : decode cX6_again 9 = .ok (.iload_n 1, 1) := by decide +kernel
theorem dX6_again_10 : decode cX6_again 10 = .ok (.sipush 300, 3) := by decide +kernel
theorem dX6_again_13 : decode cX6_again 13 = .ok (.if_icmp .gt 75, 3) := by decide +kernel
theorem dX6_again_16 : decode cX6_again 16 = .ok (.aload_n 0, 1) := by decide +kernel
theorem dX6_again_17 : decode cX6_again 17 = .ok (.bipush 92, 2) := by decide +kernel
theorem dX6_again_19 : decode cX6_again 19 = .ok (.iconst 0, 1) := by decide +kernel
theorem dX6_again_20 : decode cX6_again 20 = .ok (.invokevirtual 157, 3) := by decide +kernel
theorem dX6_again_23 : decode cX6_again 23 = .ok (.pop, 1) := by decide +kernel
theorem dX6_again_24 : decode cX6_again 24 = .ok (.iconst 1, 1) := by decide +kernel
theorem dX6_again_25 : decode cX6_again 25 = .ok (.istore_n 2, 1) := by decide +kernel
theorem dX6_again_26 : decode cX6_again 26 = .ok (.iconst 0, 1) := by decide +kernel
theorem dX6_again_27 : decode cX6_again 27 = .ok (.istore_n 3, 1) := by decide +kernel
theorem dX6_again_28 : decode cX6_again 28 = .ok (.iload_n 3, 1) := by decide +kernel
theorem dX6_again_29 : decode cX6_again 29 = .ok (.aload_n 0, 1) := by decide +kernel
theorem dX6_again_30 : decode cX6_again 30 = .ok (.getfield 7, 3) := by decide +kernel
theorem dX6_again_33 : decode cX6_again 33 = .ok (.bipush 20, 2) := by decide +kernel
theorem dX6_again_35 : decode cX6_again 35 = .ok (.iaload, 1) := by decide +kernel
theorem dX6_again_36 : decode cX6_again 36 = .ok (.if_icmp .ge 40, 3) := by decide +kernel
theorem dX6_again_39 : decode cX6_again 39 = .ok (.iload_n 2, 1) := by decide +kernel
theorem dX6_again_40 : decode cX6_again 40 = .ok (.ifCond .eq 28, 3) := by decide +kernel
theorem dX6_again_43 : decode cX6_again 43 = .ok (.aload_n 0, 1) := by decide +kernel
theorem dX6_again_44 : decode cX6_again 44 = .ok (.getfield 7, 3) := by decide +kernel
theorem dX6_again_47 : decode cX6_again 47 = .ok (.bipush 102, 2) := by decide +kernel
theorem dX6_again_49 : decode cX6_again 49 = .ok (.iload_n 3, 1) := by decide +kernel
theorem dX6_again_50 : decode cX6_again 50 = .ok (.iadd, 1) := by decide +kernel
theorem dX6_again_51 : decode cX6_again 51 = .ok (.iaload, 1) := by decide +kernel
theorem dX6_again_52 : decode cX6_again 52 = .ok (.aload_n 0, 1) := by decide +kernel
theorem dX6_again_53 : decode cX6_again 53 = .ok (.getfield 7, 3) := by decide +kernel
theorem dX6_again_56 : decode cX6_again 56 = .ok (.bipush 10, 2) := by decide +kernel
theorem dX6_again_58 : decode cX6_again 58 = .ok (.iload_n 3, 1) := by decide +kernel
theorem dX6_again_59 : decode cX6_again 59 = .ok (.iadd, 1) := by decide +kernel
theorem dX6_again_60 : decode cX6_again 60 = .ok (.iaload, 1) := by decide +kernel
theorem dX6_again_61 : decode cX6_again 61 = .ok (.if_icmp .ne 7, 3) := by decide +kernel
theorem dX6_again_64 : decode cX6_again 64 = .ok (.iconst 1, 1) := by decide +kernel
theorem dX6_again_65 : decode cX6_again 65 = .ok (.goto 4, 3) := by decide +kernel
theorem dX6_again_68 : decode cX6_again 68 = .ok (.iconst 0, 1) := by decide +kernel
theorem dX6_again_69 : decode cX6_again 69 = .ok (.istore_n 2, 1) := by decide +kernel
theorem dX6_again_70 : decode cX6_again 70 = .ok (.iinc 3 1, 3) := by decide +kernel
theorem dX6_again_73 : decode cX6_again 73 = .ok (.goto (-45), 3) := by decide +kernel
theorem dX6_again_76 : decode cX6_again 76 = .ok (.iload_n 2, 1) := by decide +kernel
theorem dX6_again_77 : decode cX6_again 77 = .ok (.ifCond .eq 5, 3) := by decide +kernel
theorem dX6_again_80 : decode cX6_again 80 = .ok (.iload_n 1, 1) := by decide +kernel
theorem dX6_again_81 : decode cX6_again 81 = .ok (.ireturn, 1) := by decide +kernel
theorem dX6_again_82 : decode cX6_again 82 = .ok (.iinc 1 1, 3) := by decide +kernel
theorem dX6_again_85 : decode cX6_again 85 = .ok (.goto (-76), 3) := by decide +kernel
theorem dX6_again_88 : decode cX6_again 88 = .ok (.bipush (-4), 2) := by decide +kernel
theorem dX6_again_90 : decode cX6_again 90 = .ok (.ireturn, 1) := by decide +kernel
theorem dX6_soonestAt_0 : decode cX6_soonestAt 0 = .ok (.sipush 1000, 3) := by decide +kernel
theorem dX6_soonestAt_3 : decode cX6_soonestAt 3 = .ok (.istore 6, 2) := by decide +kernel
theorem dX6_soonestAt_5 : decode cX6_soonestAt 5 = .ok (.bipush (-4), 2) := by decide +kernel
theorem dX6_soonestAt_7 : decode cX6_soonestAt 7 = .ok (.istore 7, 2) := by decide +kernel
theorem dX6_soonestAt_9 : decode cX6_soonestAt 9 = .ok (.aload_n 0, 1) := by decide +kernel
theorem dX6_soonestAt_10 : decode cX6_soonestAt 10 = .ok (.iconst 0, 1) := by decide +kernel
theorem dX6_soonestAt_11 : decode cX6_soonestAt 11 = .ok (.bipush 115, 2) := by decide +kernel
theorem dX6_soonestAt_13 : decode cX6_soonestAt 13 = .ok (.invokevirtual 161, 3) := by decide +kernel
theorem dX6_soonestAt_16 : decode cX6_soonestAt 16 = .ok (.iload_n 2, 1) := by decide +kernel
theorem dX6_soonestAt_17 : decode cX6_soonestAt 17 = .ok (.istore 8, 2) := by decide +kernel
theorem dX6_soonestAt_19 : decode cX6_soonestAt 19 = .ok (.iload 8, 2) := by decide +kernel
theorem dX6_soonestAt_21 : decode cX6_soonestAt 21 = .ok (.iload_n 3, 1) := by decide +kernel
theorem dX6_soonestAt_22 : decode cX6_soonestAt 22 = .ok (.if_icmp .gt 63, 3) := by decide +kernel
theorem dX6_soonestAt_25 : decode cX6_soonestAt 25 = .ok (.aload_n 0, 1) := by decide +kernel
theorem dX6_soonestAt_26 : decode cX6_soonestAt 26 = .ok (.getfield 7, 3) := by decide +kernel
theorem dX6_soonestAt_29 : decode cX6_soonestAt 29 = .ok (.bipush 115, 2) := by decide +kernel
theorem dX6_soonestAt_31 : decode cX6_soonestAt 31 = .ok (.iload_n 1, 1) := by decide +kernel
theorem dX6_soonestAt_32 : decode cX6_soonestAt 32 = .ok (.iadd, 1) := by decide +kernel
theorem dX6_soonestAt_33 : decode cX6_soonestAt 33 = .ok (.iload 8, 2) := by decide +kernel
theorem dX6_soonestAt_35 : decode cX6_soonestAt 35 = .ok (.iload 4, 2) := by decide +kernel
theorem dX6_soonestAt_37 : decode cX6_soonestAt 37 = .ok (.isub, 1) := by decide +kernel
theorem dX6_soonestAt_38 : decode cX6_soonestAt 38 = .ok (.iastore, 1) := by decide +kernel
theorem dX6_soonestAt_39 : decode cX6_soonestAt 39 = .ok (.aload_n 0, 1) := by decide +kernel
theorem dX6_soonestAt_40 : decode cX6_soonestAt 40 = .ok (.bipush 115, 2) := by decide +kernel
theorem dX6_soonestAt_42 : decode cX6_soonestAt 42 = .ok (.invokevirtual 182, 3) := by decide +kernel
theorem dX6_soonestAt_45 : decode cX6_soonestAt 45 = .ok (.istore 9, 2) := by decide +kernel
theorem dX6_soonestAt_47 : decode cX6_soonestAt 47 = .ok (.iload 9, 2) := by decide +kernel
theorem dX6_soonestAt_49 : decode cX6_soonestAt 49 = .ok (.iload 6, 2) := by decide +kernel
theorem dX6_soonestAt_51 : decode cX6_soonestAt 51 = .ok (.if_icmp .ge 8, 3) := by decide +kernel
theorem dX6_soonestAt_54 : decode cX6_soonestAt 54 = .ok (.iload 8, 2) := by decide +kernel
theorem dX6_soonestAt_56 : decode cX6_soonestAt 56 = .ok (.goto 5, 3) := by decide +kernel
theorem dX6_soonestAt_59 : decode cX6_soonestAt 59 = .ok (.iload 7, 2) := by decide +kernel
theorem dX6_soonestAt_61 : decode cX6_soonestAt 61 = .ok (.istore 7, 2) := by decide +kernel
theorem dX6_soonestAt_63 : decode cX6_soonestAt 63 = .ok (.iload 9, 2) := by decide +kernel
theorem dX6_soonestAt_65 : decode cX6_soonestAt 65 = .ok (.iload 6, 2) := by decide +kernel
theorem dX6_soonestAt_67 : decode cX6_soonestAt 67 = .ok (.if_icmp .ge 8, 3) := by decide +kernel
theorem dX6_soonestAt_70 : decode cX6_soonestAt 70 = .ok (.iload 9, 2) := by decide +kernel
theorem dX6_soonestAt_72 : decode cX6_soonestAt 72 = .ok (.goto 5, 3) := by decide +kernel
theorem dX6_soonestAt_75 : decode cX6_soonestAt 75 = .ok (.iload 6, 2) := by decide +kernel
theorem dX6_soonestAt_77 : decode cX6_soonestAt 77 = .ok (.istore 6, 2) := by decide +kernel
theorem dX6_soonestAt_79 : decode cX6_soonestAt 79 = .ok (.iinc 8 1, 3) := by decide +kernel
theorem dX6_soonestAt_82 : decode cX6_soonestAt 82 = .ok (.goto (-63), 3) := by decide +kernel
theorem dX6_soonestAt_85 : decode cX6_soonestAt 85 = .ok (.iload 7, 2) := by decide +kernel
theorem dX6_soonestAt_87 : decode cX6_soonestAt 87 = .ok (.bipush (-4), 2) := by decide +kernel
theorem dX6_soonestAt_89 : decode cX6_soonestAt 89 = .ok (.if_icmp .eq 8, 3) := by decide +kernel
theorem dX6_soonestAt_92 : decode cX6_soonestAt 92 = .ok (.iload 5, 2) := by decide +kernel
theorem dX6_soonestAt_94 : decode cX6_soonestAt 94 = .ok (.ifCond .ne 8, 3) := by decide +kernel
theorem dX6_soonestAt_97 : decode cX6_soonestAt 97 = .ok (.iload 7, 2) := by decide +kernel
theorem dX6_soonestAt_99 : decode cX6_soonestAt 99 = .ok (.goto 5, 3) := by decide +kernel
theorem dX6_soonestAt_102 : decode cX6_soonestAt 102 = .ok (.iload 6, 2) := by decide +kernel
theorem dX6_soonestAt_104 : decode cX6_soonestAt 104 = .ok (.ireturn, 1) := by decide +kernel
theorem dX6_periodOn_0 : decode cX6_periodOn 0 = .ok (.aload_n 0, 1) := by decide +kernel
theorem dX6_periodOn_1 : decode cX6_periodOn 1 = .ok (.getfield 7, 3) := by decide +kernel
theorem dX6_periodOn_4 : decode cX6_periodOn 4 = .ok (.iload_n 1, 1) := by decide +kernel
theorem dX6_periodOn_5 : decode cX6_periodOn 5 = .ok (.iconst 5, 1) := by decide +kernel
theorem dX6_periodOn_6 : decode cX6_periodOn 6 = .ok (.iadd, 1) := by decide +kernel
theorem dX6_periodOn_7 : decode cX6_periodOn 7 = .ok (.iload_n 2, 1) := by decide +kernel
theorem dX6_periodOn_8 : decode cX6_periodOn 8 = .ok (.iadd, 1) := by decide +kernel
theorem dX6_periodOn_9 : decode cX6_periodOn 9 = .ok (.iload_n 3, 1) := by decide +kernel
theorem dX6_periodOn_10 : decode cX6_periodOn 10 = .ok (.iastore, 1) := by decide +kernel
theorem dX6_periodOn_11 : decode cX6_periodOn 11 = .ok (.aload_n 0, 1) := by decide +kernel
theorem dX6_periodOn_12 : decode cX6_periodOn 12 = .ok (.getfield 7, 3) := by decide +kernel
theorem dX6_periodOn_15 : decode cX6_periodOn 15 = .ok (.iload_n 1, 1) := by decide +kernel
theorem dX6_periodOn_16 : decode cX6_periodOn 16 = .ok (.bipush 10, 2) := by decide +kernel
theorem dX6_periodOn_18 : decode cX6_periodOn 18 = .ok (.iadd, 1) := by decide +kernel
theorem dX6_periodOn_19 : decode cX6_periodOn 19 = .ok (.iload_n 2, 1) := by decide +kernel
theorem dX6_periodOn_20 : decode cX6_periodOn 20 = .ok (.iadd, 1) := by decide +kernel
theorem dX6_periodOn_21 : decode cX6_periodOn 21 = .ok (.aload_n 0, 1) := by decide +kernel
theorem dX6_periodOn_22 : decode cX6_periodOn 22 = .ok (.getfield 7, 3) := by decide +kernel
theorem dX6_periodOn_25 : decode cX6_periodOn 25 = .ok (.iload_n 1, 1) := by decide +kernel
theorem dX6_periodOn_26 : decode cX6_periodOn 26 = .ok (.bipush 10, 2) := by decide +kernel
theorem dX6_periodOn_28 : decode cX6_periodOn 28 = .ok (.iadd, 1) := by decide +kernel
theorem dX6_periodOn_29 : decode cX6_periodOn 29 = .ok (.iload_n 2, 1) := by decide +kernel
theorem dX6_periodOn_30 : decode cX6_periodOn 30 = .ok (.iadd, 1) := by decide +kernel
theorem dX6_periodOn_31 : decode cX6_periodOn 31 = .ok (.iaload, 1) := by decide +kernel
theorem dX6_periodOn_32 : decode cX6_periodOn 32 = .ok (.iload_n 3, 1) := by decide +kernel
theorem dX6_periodOn_33 : decode cX6_periodOn 33 = .ok (.if_icmp .lt 9, 3) := by decide +kernel
theorem dX6_periodOn_36 : decode cX6_periodOn 36 = .ok (.iload_n 3, 1) := by decide +kernel
theorem dX6_periodOn_37 : decode cX6_periodOn 37 = .ok (.iconst 1, 1) := by decide +kernel
theorem dX6_periodOn_38 : decode cX6_periodOn 38 = .ok (.isub, 1) := by decide +kernel
theorem dX6_periodOn_39 : decode cX6_periodOn 39 = .ok (.goto 14, 3) := by decide +kernel
theorem dX6_periodOn_42 : decode cX6_periodOn 42 = .ok (.aload_n 0, 1) := by decide +kernel
theorem dX6_periodOn_43 : decode cX6_periodOn 43 = .ok (.getfield 7, 3) := by decide +kernel
theorem dX6_periodOn_46 : decode cX6_periodOn 46 = .ok (.iload_n 1, 1) := by decide +kernel
theorem dX6_periodOn_47 : decode cX6_periodOn 47 = .ok (.bipush 10, 2) := by decide +kernel
theorem dX6_periodOn_49 : decode cX6_periodOn 49 = .ok (.iadd, 1) := by decide +kernel
theorem dX6_periodOn_50 : decode cX6_periodOn 50 = .ok (.iload_n 2, 1) := by decide +kernel
theorem dX6_periodOn_51 : decode cX6_periodOn 51 = .ok (.iadd, 1) := by decide +kernel
theorem dX6_periodOn_52 : decode cX6_periodOn 52 = .ok (.iaload, 1) := by decide +kernel
theorem dX6_periodOn_53 : decode cX6_periodOn 53 = .ok (.iastore, 1) := by decide +kernel
theorem dX6_periodOn_54 : decode cX6_periodOn 54 = .ok (.return_, 1) := by decide +kernel
theorem dX6_period_0 : decode cX6_period 0 = .ok (.aload_n 0, 1) := by decide +kernel
theorem dX6_period_1 : decode cX6_period 1 = .ok (.iload_n 1, 1) := by decide +kernel
theorem dX6_period_2 : decode cX6_period 2 = .ok (.invokevirtual 137, 3) := by decide +kernel
theorem dX6_period_5 : decode cX6_period 5 = .ok (.ifCond .eq 13, 3) := by decide +kernel
theorem dX6_period_8 : decode cX6_period 8 = .ok (.iload_n 2, 1) := by decide +kernel
theorem dX6_period_9 : decode cX6_period 9 = .ok (.i2l, 1) := by decide +kernel
theorem dX6_period_10 : decode cX6_period 10 = .ok (.lconst 0, 1) := by decide +kernel
theorem dX6_period_11 : decode cX6_period 11 = .ok (.lconst 1, 1) := by decide +kernel
theorem dX6_period_12 : decode cX6_period 12 = .ok (.invokestatic 50, 3) := by decide +kernel
theorem dX6_period_15 : decode cX6_period 15 = .ok (.ifCond .ne 5, 3) := by decide +kernel
theorem dX6_period_18 : decode cX6_period 18 = .ok (.iconst (-1), 1) := by decide +kernel
theorem dX6_period_19 : decode cX6_period 19 = .ok (.ireturn, 1) := by decide +kernel
theorem dX6_period_20 : decode cX6_period 20 = .ok (.sipush 1000, 3) := by decide +kernel
theorem dX6_period_23 : decode cX6_period 23 = .ok (.istore_n 3, 1) := by decide +kernel
theorem dX6_period_24 : decode cX6_period 24 = .ok (.bipush (-4), 2) := by decide +kernel
theorem dX6_period_26 : decode cX6_period 26 = .ok (.istore 4, 2) := by decide +kernel
theorem dX6_period_28 : decode cX6_period 28 = .ok (.iconst 2, 1) := by decide +kernel
theorem dX6_period_29 : decode cX6_period 29 = .ok (.istore 5, 2) := by decide +kernel
theorem dX6_period_31 : decode cX6_period 31 = .ok (.iload 5, 2) := by decide +kernel
theorem dX6_period_33 : decode cX6_period 33 = .ok (.bipush 30, 2) := by decide +kernel
theorem dX6_period_35 : decode cX6_period 35 = .ok (.if_icmp .gt 61, 3) := by decide +kernel
theorem dX6_period_38 : decode cX6_period 38 = .ok (.aload_n 0, 1) := by decide +kernel
theorem dX6_period_39 : decode cX6_period 39 = .ok (.iconst 0, 1) := by decide +kernel
theorem dX6_period_40 : decode cX6_period 40 = .ok (.bipush 115, 2) := by decide +kernel
theorem dX6_period_42 : decode cX6_period 42 = .ok (.invokevirtual 161, 3) := by decide +kernel
theorem dX6_period_45 : decode cX6_period 45 = .ok (.aload_n 0, 1) := by decide +kernel
theorem dX6_period_46 : decode cX6_period 46 = .ok (.bipush 115, 2) := by decide +kernel
theorem dX6_period_48 : decode cX6_period 48 = .ok (.iload_n 1, 1) := by decide +kernel
theorem dX6_period_49 : decode cX6_period 49 = .ok (.iload 5, 2) := by decide +kernel
theorem dX6_period_51 : decode cX6_period 51 = .ok (.invokevirtual 185, 3) := by decide +kernel
theorem dX6_period_54 : decode cX6_period 54 = .ok (.aload_n 0, 1) := by decide +kernel
theorem dX6_period_55 : decode cX6_period 55 = .ok (.bipush 115, 2) := by decide +kernel
theorem dX6_period_57 : decode cX6_period 57 = .ok (.invokevirtual 182, 3) := by decide +kernel
theorem dX6_period_60 : decode cX6_period 60 = .ok (.istore 6, 2) := by decide +kernel
theorem dX6_period_62 : decode cX6_period 62 = .ok (.iload 6, 2) := by decide +kernel
theorem dX6_period_64 : decode cX6_period 64 = .ok (.iload_n 3, 1) := by decide +kernel
theorem dX6_period_65 : decode cX6_period 65 = .ok (.if_icmp .ge 8, 3) := by decide +kernel
theorem dX6_period_68 : decode cX6_period 68 = .ok (.iload 5, 2) := by decide +kernel
theorem dX6_period_70 : decode cX6_period 70 = .ok (.goto 5, 3) := by decide +kernel
theorem dX6_period_73 : decode cX6_period 73 = .ok (.iload 4, 2) := by decide +kernel
theorem dX6_period_75 : decode cX6_period 75 = .ok (.istore 4, 2) := by decide +kernel
theorem dX6_period_77 : decode cX6_period 77 = .ok (.iload 6, 2) := by decide +kernel
theorem dX6_period_79 : decode cX6_period 79 = .ok (.iload_n 3, 1) := by decide +kernel
theorem dX6_period_80 : decode cX6_period 80 = .ok (.if_icmp .ge 8, 3) := by decide +kernel
theorem dX6_period_83 : decode cX6_period 83 = .ok (.iload 6, 2) := by decide +kernel
theorem dX6_period_85 : decode cX6_period 85 = .ok (.goto 4, 3) := by decide +kernel
theorem dX6_period_88 : decode cX6_period 88 = .ok (.iload_n 3, 1) := by decide +kernel
theorem dX6_period_89 : decode cX6_period 89 = .ok (.istore_n 3, 1) := by decide +kernel
theorem dX6_period_90 : decode cX6_period 90 = .ok (.iinc 5 1, 3) := by decide +kernel
theorem dX6_period_93 : decode cX6_period 93 = .ok (.goto (-62), 3) := by decide +kernel
theorem dX6_period_96 : decode cX6_period 96 = .ok (.iload 4, 2) := by decide +kernel
theorem dX6_period_98 : decode cX6_period 98 = .ok (.bipush (-4), 2) := by decide +kernel
theorem dX6_period_100 : decode cX6_period 100 = .ok (.if_icmp .eq 7, 3) := by decide +kernel
theorem dX6_period_103 : decode cX6_period 103 = .ok (.iload_n 2, 1) := by decide +kernel
theorem dX6_period_104 : decode cX6_period 104 = .ok (.ifCond .ne 8, 3) := by decide +kernel
theorem dX6_period_107 : decode cX6_period 107 = .ok (.iload 4, 2) := by decide +kernel
theorem dX6_period_109 : decode cX6_period 109 = .ok (.goto 4, 3) := by decide +kernel
theorem dX6_period_112 : decode cX6_period 112 = .ok (.iload_n 3, 1) := by decide +kernel
theorem dX6_period_113 : decode cX6_period 113 = .ok (.ireturn, 1) := by decide +kernel
theorem dX6_hand_0 : decode cX6_hand 0 = .ok (.aload_n 0, 1) := by decide +kernel
theorem dX6_hand_1 : decode cX6_hand 1 = .ok (.iload_n 1, 1) := by decide +kernel
theorem dX6_hand_2 : decode cX6_hand 2 = .ok (.invokevirtual 137, 3) := by decide +kernel
theorem dX6_hand_5 : decode cX6_hand 5 = .ok (.ifCond .eq 37, 3) := by decide +kernel
theorem dX6_hand_8 : decode cX6_hand 8 = .ok (.iload_n 2, 1) := by decide +kernel
theorem dX6_hand_9 : decode cX6_hand 9 = .ok (.i2l, 1) := by decide +kernel
theorem dX6_hand_10 : decode cX6_hand 10 = .ok (.lconst 0, 1) := by decide +kernel
theorem dX6_hand_11 : decode cX6_hand 11 = .ok (.lconst 1, 1) := by decide +kernel
theorem dX6_hand_12 : decode cX6_hand 12 = .ok (.invokestatic 50, 3) := by decide +kernel
theorem dX6_hand_15 : decode cX6_hand 15 = .ok (.ifCond .eq 27, 3) := by decide +kernel
theorem dX6_hand_18 : decode cX6_hand 18 = .ok (.aload_n 0, 1) := by decide +kernel
theorem dX6_hand_19 : decode cX6_hand 19 = .ok (.bipush 10, 2) := by decide +kernel
theorem dX6_hand_21 : decode cX6_hand 21 = .ok (.iload_n 1, 1) := by decide +kernel
theorem dX6_hand_22 : decode cX6_hand 22 = .ok (.iadd, 1) := by decide +kernel
theorem dX6_hand_23 : decode cX6_hand 23 = .ok (.iconst 0, 1) := by decide +kernel
theorem dX6_hand_24 : decode cX6_hand 24 = .ok (.aload_n 0, 1) := by decide +kernel
theorem dX6_hand_25 : decode cX6_hand 25 = .ok (.getfield 7, 3) := by decide +kernel
theorem dX6_hand_28 : decode cX6_hand 28 = .ok (.iconst 5, 1) := by decide +kernel
theorem dX6_hand_29 : decode cX6_hand 29 = .ok (.iload_n 1, 1) := by decide +kernel
theorem dX6_hand_30 : decode cX6_hand 30 = .ok (.iadd, 1) := by decide +kernel
theorem dX6_hand_31 : decode cX6_hand 31 = .ok (.iaload, 1) := by decide +kernel
theorem dX6_hand_32 : decode cX6_hand 32 = .ok (.iconst 1, 1) := by decide +kernel
theorem dX6_hand_33 : decode cX6_hand 33 = .ok (.isub, 1) := by decide +kernel
theorem dX6_hand_34 : decode cX6_hand 34 = .ok (.iconst 0, 1) := by decide +kernel
theorem dX6_hand_35 : decode cX6_hand 35 = .ok (.iload_n 2, 1) := by decide +kernel
theorem dX6_hand_36 : decode cX6_hand 36 = .ok (.invokevirtual 188, 3) := by decide +kernel
theorem dX6_hand_39 : decode cX6_hand 39 = .ok (.goto 4, 3) := by decide +kernel
theorem dX6_hand_42 : decode cX6_hand 42 = .ok (.iconst (-1), 1) := by decide +kernel
theorem dX6_hand_43 : decode cX6_hand 43 = .ok (.ireturn, 1) := by decide +kernel
theorem dX6_kind_0 : decode cX6_kind 0 = .ok (.aload_n 0, 1) := by decide +kernel
theorem dX6_kind_1 : decode cX6_kind 1 = .ok (.iload_n 1, 1) := by decide +kernel
theorem dX6_kind_2 : decode cX6_kind 2 = .ok (.invokevirtual 137, 3) := by decide +kernel
theorem dX6_kind_5 : decode cX6_kind 5 = .ok (.ifCond .eq 25, 3) := by decide +kernel
theorem dX6_kind_8 : decode cX6_kind 8 = .ok (.iload_n 2, 1) := by decide +kernel
theorem dX6_kind_9 : decode cX6_kind 9 = .ok (.i2l, 1) := by decide +kernel
theorem dX6_kind_10 : decode cX6_kind 10 = .ok (.lconst 0, 1) := by decide +kernel
theorem dX6_kind_11 : decode cX6_kind 11 = .ok (.lconst 1, 1) := by decide +kernel
theorem dX6_kind_12 : decode cX6_kind 12 = .ok (.invokestatic 50, 3) := by decide +kernel
theorem dX6_kind_15 : decode cX6_kind 15 = .ok (.ifCond .eq 15, 3) := by decide +kernel
theorem dX6_kind_18 : decode cX6_kind 18 = .ok (.aload_n 0, 1) := by decide +kernel
theorem dX6_kind_19 : decode cX6_kind 19 = .ok (.iload_n 1, 1) := by decide +kernel
theorem dX6_kind_20 : decode cX6_kind 20 = .ok (.iconst 0, 1) := by decide +kernel
theorem dX6_kind_21 : decode cX6_kind 21 = .ok (.iconst 3, 1) := by decide +kernel
theorem dX6_kind_22 : decode cX6_kind 22 = .ok (.iconst 0, 1) := by decide +kernel
theorem dX6_kind_23 : decode cX6_kind 23 = .ok (.iload_n 2, 1) := by decide +kernel
theorem dX6_kind_24 : decode cX6_kind 24 = .ok (.invokevirtual 188, 3) := by decide +kernel
theorem dX6_kind_27 : decode cX6_kind 27 = .ok (.goto 4, 3) := by decide +kernel
theorem dX6_kind_30 : decode cX6_kind 30 = .ok (.iconst (-1), 1) := by decide +kernel
theorem dX6_kind_31 : decode cX6_kind 31 = .ok (.ireturn, 1) := by decide +kernel
theorem dX6_force_0 : decode cX6_force 0 = .ok (.iload_n 1, 1) := by decide +kernel
theorem dX6_force_1 : decode cX6_force 1 = .ok (.i2l, 1) := by decide +kernel
theorem dX6_force_2 : decode cX6_force 2 = .ok (.lconst 0, 1) := by decide +kernel
theorem dX6_force_3 : decode cX6_force 3 = .ok (.lconst 1, 1) := by decide +kernel
theorem dX6_force_4 : decode cX6_force 4 = .ok (.invokestatic 50, 3) := by decide +kernel
theorem dX6_force_7 : decode cX6_force 7 = .ok (.ifCond .eq 16, 3) := by decide +kernel
theorem dX6_force_10 : decode cX6_force 10 = .ok (.aload_n 0, 1) := by decide +kernel
theorem dX6_force_11 : decode cX6_force 11 = .ok (.bipush 21, 2) := by decide +kernel
theorem dX6_force_13 : decode cX6_force 13 = .ok (.iconst 0, 1) := by decide +kernel
theorem dX6_force_14 : decode cX6_force 14 = .ok (.iconst 5, 1) := by decide +kernel
theorem dX6_force_15 : decode cX6_force 15 = .ok (.iconst 1, 1) := by decide +kernel
theorem dX6_force_16 : decode cX6_force 16 = .ok (.iload_n 1, 1) := by decide +kernel
theorem dX6_force_17 : decode cX6_force 17 = .ok (.invokevirtual 188, 3) := by decide +kernel
theorem dX6_force_20 : decode cX6_force 20 = .ok (.goto 4, 3) := by decide +kernel
theorem dX6_force_23 : decode cX6_force 23 = .ok (.iconst (-1), 1) := by decide +kernel
theorem dX6_force_24 : decode cX6_force 24 = .ok (.ireturn, 1) := by decide +kernel
theorem dX6_away_0 : decode cX6_away 0 = .ok (.iload_n 1, 1) := by decide +kernel
theorem dX6_away_1 : decode cX6_away 1 = .ok (.i2l, 1) := by decide +kernel
theorem dX6_away_2 : decode cX6_away 2 = .ok (.lconst 0, 1) := by decide +kernel
theorem dX6_away_3 : decode cX6_away 3 = .ok (.lconst 1, 1) := by decide +kernel
theorem dX6_away_4 : decode cX6_away 4 = .ok (.invokestatic 50, 3) := by decide +kernel
theorem dX6_away_7 : decode cX6_away 7 = .ok (.ifCond .ne 5, 3) := by decide +kernel
theorem dX6_away_10 : decode cX6_away 10 = .ok (.iconst (-1), 1) := by decide +kernel
theorem dX6_away_11 : decode cX6_away 11 = .ok (.ireturn, 1) := by decide +kernel
theorem dX6_away_12 : decode cX6_away 12 = .ok (.aload_n 0, 1) := by decide +kernel
theorem dX6_away_13 : decode cX6_away 13 = .ok (.iconst 0, 1) := by decide +kernel
theorem dX6_away_14 : decode cX6_away 14 = .ok (.invokevirtual 182, 3) := by decide +kernel
theorem dX6_away_17 : decode cX6_away 17 = .ok (.istore_n 2, 1) := by decide +kernel
theorem dX6_away_18 : decode cX6_away 18 = .ok (.bipush (-4), 2) := by decide +kernel
theorem dX6_away_20 : decode cX6_away 20 = .ok (.istore_n 3, 1) := by decide +kernel
theorem dX6_away_21 : decode cX6_away 21 = .ok (.iconst 0, 1) := by decide +kernel
theorem dX6_away_22 : decode cX6_away 22 = .ok (.istore 4, 2) := by decide +kernel
theorem dX6_away_24 : decode cX6_away 24 = .ok (.iload 4, 2) := by decide +kernel
theorem dX6_away_26 : decode cX6_away 26 = .ok (.aload_n 0, 1) := by decide +kernel
theorem dX6_away_27 : decode cX6_away 27 = .ok (.getfield 7, 3) := by decide +kernel
theorem dX6_away_30 : decode cX6_away 30 = .ok (.bipush 20, 2) := by decide +kernel
theorem dX6_away_32 : decode cX6_away 32 = .ok (.iaload, 1) := by decide +kernel
theorem dX6_away_33 : decode cX6_away 33 = .ok (.if_icmp .ge 54, 3) := by decide +kernel
theorem dX6_away_36 : decode cX6_away 36 = .ok (.aload_n 0, 1) := by decide +kernel
theorem dX6_away_37 : decode cX6_away 37 = .ok (.iload 4, 2) := by decide +kernel
theorem dX6_away_39 : decode cX6_away 39 = .ok (.putfield 25, 3) := by decide +kernel
theorem dX6_away_42 : decode cX6_away 42 = .ok (.aload_n 0, 1) := by decide +kernel
theorem dX6_away_43 : decode cX6_away 43 = .ok (.iconst 0, 1) := by decide +kernel
theorem dX6_away_44 : decode cX6_away 44 = .ok (.invokevirtual 182, 3) := by decide +kernel
theorem dX6_away_47 : decode cX6_away 47 = .ok (.istore 5, 2) := by decide +kernel
theorem dX6_away_49 : decode cX6_away 49 = .ok (.aload_n 0, 1) := by decide +kernel
theorem dX6_away_50 : decode cX6_away 50 = .ok (.bipush (-4), 2) := by decide +kernel
theorem dX6_away_52 : decode cX6_away 52 = .ok (.putfield 25, 3) := by decide +kernel
theorem dX6_away_55 : decode cX6_away 55 = .ok (.iload 5, 2) := by decide +kernel
theorem dX6_away_57 : decode cX6_away 57 = .ok (.iload_n 2, 1) := by decide +kernel
theorem dX6_away_58 : decode cX6_away 58 = .ok (.if_icmp .ge 8, 3) := by decide +kernel
theorem dX6_away_61 : decode cX6_away 61 = .ok (.iload 4, 2) := by decide +kernel
theorem dX6_away_63 : decode cX6_away 63 = .ok (.goto 4, 3) := by decide +kernel
theorem dX6_away_66 : decode cX6_away 66 = .ok (.iload_n 3, 1) := by decide +kernel
theorem dX6_away_67 : decode cX6_away 67 = .ok (.istore_n 3, 1) := by decide +kernel
theorem dX6_away_68 : decode cX6_away 68 = .ok (.iload 5, 2) := by decide +kernel
theorem dX6_away_70 : decode cX6_away 70 = .ok (.iload_n 2, 1) := by decide +kernel
theorem dX6_away_71 : decode cX6_away 71 = .ok (.if_icmp .ge 8, 3) := by decide +kernel
theorem dX6_away_74 : decode cX6_away 74 = .ok (.iload 5, 2) := by decide +kernel
theorem dX6_away_76 : decode cX6_away 76 = .ok (.goto 4, 3) := by decide +kernel
theorem dX6_away_79 : decode cX6_away 79 = .ok (.iload_n 2, 1) := by decide +kernel
theorem dX6_away_80 : decode cX6_away 80 = .ok (.istore_n 2, 1) := by decide +kernel
theorem dX6_away_81 : decode cX6_away 81 = .ok (.iinc 4 1, 3) := by decide +kernel
theorem dX6_away_84 : decode cX6_away 84 = .ok (.goto (-60), 3) := by decide +kernel
theorem dX6_away_87 : decode cX6_away 87 = .ok (.iload_n 3, 1) := by decide +kernel
theorem dX6_away_88 : decode cX6_away 88 = .ok (.bipush (-4), 2) := by decide +kernel
theorem dX6_away_90 : decode cX6_away 90 = .ok (.if_icmp .eq 7, 3) := by decide +kernel
theorem dX6_away_93 : decode cX6_away 93 = .ok (.iload_n 1, 1) := by decide +kernel
theorem dX6_away_94 : decode cX6_away 94 = .ok (.ifCond .ne 7, 3) := by decide +kernel
theorem dX6_away_97 : decode cX6_away 97 = .ok (.iload_n 3, 1) := by decide +kernel
theorem dX6_away_98 : decode cX6_away 98 = .ok (.goto 4, 3) := by decide +kernel
theorem dX6_away_101 : decode cX6_away 101 = .ok (.iload_n 2, 1) := by decide +kernel
theorem dX6_away_102 : decode cX6_away 102 = .ok (.ireturn, 1) := by decide +kernel
theorem dX6_lowest_0 : decode cX6_lowest 0 = .ok (.lload_n 0, 1) := by decide +kernel
theorem dX6_lowest_1 : decode cX6_lowest 1 = .ok (.lstore 5, 2) := by decide +kernel
theorem dX6_lowest_3 : decode cX6_lowest 3 = .ok (.lload_n 2, 1) := by decide +kernel
theorem dX6_lowest_4 : decode cX6_lowest 4 = .ok (.lstore 7, 2) := by decide +kernel
theorem dX6_lowest_6 : decode cX6_lowest 6 = .ok (.lload 7, 2) := by decide +kernel
theorem dX6_lowest_8 : decode cX6_lowest 8 = .ok (.lconst 0, 1) := by decide +kernel
theorem dX6_lowest_9 : decode cX6_lowest 9 = .ok (.lcmp, 1) := by decide +kernel
theorem dX6_lowest_10 : decode cX6_lowest 10 = .ok (.ifCond .eq 21, 3) := by decide +kernel
theorem dX6_lowest_13 : decode cX6_lowest 13 = .ok (.lload 5, 2) := by decide +kernel
theorem dX6_lowest_15 : decode cX6_lowest 15 = .ok (.lload 7, 2) := by decide +kernel
theorem dX6_lowest_17 : decode cX6_lowest 17 = .ok (.lrem, 1) := by decide +kernel
theorem dX6_lowest_18 : decode cX6_lowest 18 = .ok (.lstore 9, 2) := by decide +kernel
theorem dX6_lowest_20 : decode cX6_lowest 20 = .ok (.lload 7, 2) := by decide +kernel
theorem dX6_lowest_22 : decode cX6_lowest 22 = .ok (.lstore 5, 2) := by decide +kernel
theorem dX6_lowest_24 : decode cX6_lowest 24 = .ok (.lload 9, 2) := by decide +kernel
theorem dX6_lowest_26 : decode cX6_lowest 26 = .ok (.lstore 7, 2) := by decide +kernel
theorem dX6_lowest_28 : decode cX6_lowest 28 = .ok (.goto (-22), 3) := by decide +kernel
theorem dX6_lowest_31 : decode cX6_lowest 31 = .ok (.iload 4, 2) := by decide +kernel
theorem dX6_lowest_33 : decode cX6_lowest 33 = .ok (.ifCond .ne 7, 3) := by decide +kernel
theorem dX6_lowest_36 : decode cX6_lowest 36 = .ok (.lload_n 0, 1) := by decide +kernel
theorem dX6_lowest_37 : decode cX6_lowest 37 = .ok (.goto 4, 3) := by decide +kernel
theorem dX6_lowest_40 : decode cX6_lowest 40 = .ok (.lload_n 2, 1) := by decide +kernel
theorem dX6_lowest_41 : decode cX6_lowest 41 = .ok (.lload 5, 2) := by decide +kernel
theorem dX6_lowest_43 : decode cX6_lowest 43 = .ok (.ldiv, 1) := by decide +kernel
theorem dX6_lowest_44 : decode cX6_lowest 44 = .ok (.lreturn, 1) := by decide +kernel
theorem dX6_byHeld_0 : decode cX6_byHeld 0 = .ok (.lconst 0, 1) := by decide +kernel
theorem dX6_byHeld_1 : decode cX6_byHeld 1 = .ok (.lstore 5, 2) := by decide +kernel
theorem dX6_byHeld_3 : decode cX6_byHeld 3 = .ok (.lconst 1, 1) := by decide +kernel
theorem dX6_byHeld_4 : decode cX6_byHeld 4 = .ok (.lstore 7, 2) := by decide +kernel
theorem dX6_byHeld_6 : decode cX6_byHeld 6 = .ok (.iconst 0, 1) := by decide +kernel
theorem dX6_byHeld_7 : decode cX6_byHeld 7 = .ok (.istore 9, 2) := by decide +kernel
theorem dX6_byHeld_9 : decode cX6_byHeld 9 = .ok (.iload 9, 2) := by decide +kernel
theorem dX6_byHeld_11 : decode cX6_byHeld 11 = .ok (.iload_n 3, 1) := by decide +kernel
theorem dX6_byHeld_12 : decode cX6_byHeld 12 = .ok (.if_icmp .ge 17, 3) := by decide +kernel
theorem dX6_byHeld_15 : decode cX6_byHeld 15 = .ok (.lload 7, 2) := by decide +kernel
theorem dX6_byHeld_17 : decode cX6_byHeld 17 = .ok (.ldc2_w 192, 3) := by decide +kernel
theorem dX6_byHeld_20 : decode cX6_byHeld 20 = .ok (.lmul, 1) := by decide +kernel
theorem dX6_byHeld_21 : decode cX6_byHeld 21 = .ok (.lstore 7, 2) := by decide +kernel
theorem dX6_byHeld_23 : decode cX6_byHeld 23 = .ok (.iinc 9 1, 3) := by decide +kernel
theorem dX6_byHeld_26 : decode cX6_byHeld 26 = .ok (.goto (-17), 3) := by decide +kernel
theorem dX6_byHeld_29 : decode cX6_byHeld 29 = .ok (.iconst 0, 1) := by decide +kernel
theorem dX6_byHeld_30 : decode cX6_byHeld 30 = .ok (.istore 9, 2) := by decide +kernel
theorem dX6_byHeld_32 : decode cX6_byHeld 32 = .ok (.iload 9, 2) := by decide +kernel
theorem dX6_byHeld_34 : decode cX6_byHeld 34 = .ok (.iconst 1, 1) := by decide +kernel
theorem dX6_byHeld_35 : decode cX6_byHeld 35 = .ok (.iload_n 3, 1) := by decide +kernel
theorem dX6_byHeld_36 : decode cX6_byHeld 36 = .ok (.ishl, 1) := by decide +kernel
theorem dX6_byHeld_37 : decode cX6_byHeld 37 = .ok (.if_icmp .ge 121, 3) := by decide +kernel
theorem dX6_byHeld_40 : decode cX6_byHeld 40 = .ok (.lconst 1, 1) := by decide +kernel
theorem dX6_byHeld_41 : decode cX6_byHeld 41 = .ok (.lstore 10, 2) := by decide +kernel
theorem dX6_byHeld_43 : decode cX6_byHeld 43 = .ok (.iconst 0, 1) := by decide +kernel
theorem dX6_byHeld_44 : decode cX6_byHeld 44 = .ok (.istore 12, 2) := by decide +kernel
theorem dX6_byHeld_46 : decode cX6_byHeld 46 = .ok (.aload_n 0, 1) := by decide +kernel
theorem dX6_byHeld_47 : decode cX6_byHeld 47 = .ok (.iconst 0, 1) := by decide +kernel
theorem dX6_byHeld_48 : decode cX6_byHeld 48 = .ok (.bipush 92, 2) := by decide +kernel
theorem dX6_byHeld_50 : decode cX6_byHeld 50 = .ok (.invokevirtual 161, 3) := by decide +kernel
theorem dX6_byHeld_53 : decode cX6_byHeld 53 = .ok (.iconst 0, 1) := by decide +kernel
theorem dX6_byHeld_54 : decode cX6_byHeld 54 = .ok (.istore 13, 2) := by decide +kernel
theorem dX6_byHeld_56 : decode cX6_byHeld 56 = .ok (.iload 13, 2) := by decide +kernel
theorem dX6_byHeld_58 : decode cX6_byHeld 58 = .ok (.iload_n 3, 1) := by decide +kernel
theorem dX6_byHeld_59 : decode cX6_byHeld 59 = .ok (.if_icmp .ge 63, 3) := by decide +kernel
theorem dX6_byHeld_62 : decode cX6_byHeld 62 = .ok (.iload 9, 2) := by decide +kernel
theorem dX6_byHeld_64 : decode cX6_byHeld 64 = .ok (.iload 13, 2) := by decide +kernel
theorem dX6_byHeld_66 : decode cX6_byHeld 66 = .ok (.ishr, 1) := by decide +kernel
theorem dX6_byHeld_67 : decode cX6_byHeld 67 = .ok (.iconst 1, 1) := by decide +kernel
theorem dX6_byHeld_68 : decode cX6_byHeld 68 = .ok (.iand, 1) := by decide +kernel
theorem dX6_byHeld_69 : decode cX6_byHeld 69 = .ok (.iconst 1, 1) := by decide +kernel
theorem dX6_byHeld_70 : decode cX6_byHeld 70 = .ok (.if_icmp .ne 7, 3) := by decide +kernel
theorem dX6_byHeld_73 : decode cX6_byHeld 73 = .ok (.iconst 1, 1) := by decide +kernel
theorem dX6_byHeld_74 : decode cX6_byHeld 74 = .ok (.goto 4, 3) := by decide +kernel
theorem dX6_byHeld_77 : decode cX6_byHeld 77 = .ok (.iconst 0, 1) := by decide +kernel
theorem dX6_byHeld_78 : decode cX6_byHeld 78 = .ok (.istore 14, 2) := by decide +kernel
theorem dX6_byHeld_80 : decode cX6_byHeld 80 = .ok (.lload 10, 2) := by decide +kernel
theorem dX6_byHeld_82 : decode cX6_byHeld 82 = .ok (.iload 14, 2) := by decide +kernel
theorem dX6_byHeld_84 : decode cX6_byHeld 84 = .ok (.ifCond .eq 8, 3) := by decide +kernel
theorem dX6_byHeld_87 : decode cX6_byHeld 87 = .ok (.iload_n 1, 1) := by decide +kernel
theorem dX6_byHeld_88 : decode cX6_byHeld 88 = .ok (.i2l, 1) := by decide +kernel
theorem dX6_byHeld_89 : decode cX6_byHeld 89 = .ok (.goto 8, 3) := by decide +kernel
theorem dX6_byHeld_92 : decode cX6_byHeld 92 = .ok (.bipush 10, 2) := by decide +kernel
theorem dX6_byHeld_94 : decode cX6_byHeld 94 = .ok (.iload_n 1, 1) := by decide +kernel
theorem dX6_byHeld_95 : decode cX6_byHeld 95 = .ok (.isub, 1) := by decide +kernel
theorem dX6_byHeld_96 : decode cX6_byHeld 96 = .ok (.i2l, 1) := by decide +kernel
theorem dX6_byHeld_97 : decode cX6_byHeld 97 = .ok (.lmul, 1) := by decide +kernel
theorem dX6_byHeld_98 : decode cX6_byHeld 98 = .ok (.lstore 10, 2) := by decide +kernel
theorem dX6_byHeld_100 : decode cX6_byHeld 100 = .ok (.iload 12, 2) := by decide +kernel
theorem dX6_byHeld_102 : decode cX6_byHeld 102 = .ok (.aload_n 0, 1) := by decide +kernel
theorem dX6_byHeld_103 : decode cX6_byHeld 103 = .ok (.bipush 92, 2) := by decide +kernel
theorem dX6_byHeld_105 : decode cX6_byHeld 105 = .ok (.iload 14, 2) := by decide +kernel
theorem dX6_byHeld_107 : decode cX6_byHeld 107 = .ok (.invokevirtual 157, 3) := by decide +kernel
theorem dX6_byHeld_110 : decode cX6_byHeld 110 = .ok (.invokestatic 127, 3) := by decide +kernel
theorem dX6_byHeld_113 : decode cX6_byHeld 113 = .ok (.iadd, 1) := by decide +kernel
theorem dX6_byHeld_114 : decode cX6_byHeld 114 = .ok (.istore 12, 2) := by decide +kernel
theorem dX6_byHeld_116 : decode cX6_byHeld 116 = .ok (.iinc 13 1, 3) := by decide +kernel
theorem dX6_byHeld_119 : decode cX6_byHeld 119 = .ok (.goto (-63), 3) := by decide +kernel
theorem dX6_byHeld_122 : decode cX6_byHeld 122 = .ok (.lload 5, 2) := by decide +kernel
theorem dX6_byHeld_124 : decode cX6_byHeld 124 = .ok (.lload 10, 2) := by decide +kernel
theorem dX6_byHeld_126 : decode cX6_byHeld 126 = .ok (.iload_n 2, 1) := by decide +kernel
theorem dX6_byHeld_127 : decode cX6_byHeld 127 = .ok (.bipush (-4), 2) := by decide +kernel
theorem dX6_byHeld_129 : decode cX6_byHeld 129 = .ok (.if_icmp .ne 8, 3) := by decide +kernel
theorem dX6_byHeld_132 : decode cX6_byHeld 132 = .ok (.iload 12, 2) := by decide +kernel
theorem dX6_byHeld_134 : decode cX6_byHeld 134 = .ok (.goto 13, 3) := by decide +kernel
theorem dX6_byHeld_137 : decode cX6_byHeld 137 = .ok (.aload_n 0, 1) := by decide +kernel
theorem dX6_byHeld_138 : decode cX6_byHeld 138 = .ok (.bipush 92, 2) := by decide +kernel
theorem dX6_byHeld_140 : decode cX6_byHeld 140 = .ok (.invokevirtual 124, 3) := by decide +kernel
theorem dX6_byHeld_143 : decode cX6_byHeld 143 = .ok (.iload_n 2, 1) := by decide +kernel
theorem dX6_byHeld_144 : decode cX6_byHeld 144 = .ok (.ishr, 1) := by decide +kernel
theorem dX6_byHeld_145 : decode cX6_byHeld 145 = .ok (.iconst 1, 1) := by decide +kernel
theorem dX6_byHeld_146 : decode cX6_byHeld 146 = .ok (.iand, 1) := by decide +kernel
theorem dX6_byHeld_147 : decode cX6_byHeld 147 = .ok (.i2l, 1) := by decide +kernel
theorem dX6_byHeld_148 : decode cX6_byHeld 148 = .ok (.lmul, 1) := by decide +kernel
theorem dX6_byHeld_149 : decode cX6_byHeld 149 = .ok (.ladd, 1) := by decide +kernel
theorem dX6_byHeld_150 : decode cX6_byHeld 150 = .ok (.lstore 5, 2) := by decide +kernel
theorem dX6_byHeld_152 : decode cX6_byHeld 152 = .ok (.iinc 9 1, 3) := by decide +kernel
theorem dX6_byHeld_155 : decode cX6_byHeld 155 = .ok (.goto (-123), 3) := by decide +kernel
theorem dX6_byHeld_158 : decode cX6_byHeld 158 = .ok (.lload 5, 2) := by decide +kernel
theorem dX6_byHeld_160 : decode cX6_byHeld 160 = .ok (.lload 7, 2) := by decide +kernel
theorem dX6_byHeld_162 : decode cX6_byHeld 162 = .ok (.iload 4, 2) := by decide +kernel
theorem dX6_byHeld_164 : decode cX6_byHeld 164 = .ok (.invokestatic 194, 3) := by decide +kernel
theorem dX6_byHeld_167 : decode cX6_byHeld 167 = .ok (.lreturn, 1) := by decide +kernel
theorem dX6_luck_0 : decode cX6_luck 0 = .ok (.iload_n 1, 1) := by decide +kernel
theorem dX6_luck_1 : decode cX6_luck 1 = .ok (.i2l, 1) := by decide +kernel
theorem dX6_luck_2 : decode cX6_luck 2 = .ok (.lconst 0, 1) := by decide +kernel
theorem dX6_luck_3 : decode cX6_luck 3 = .ok (.ldc2_w 192, 3) := by decide +kernel
theorem dX6_luck_6 : decode cX6_luck 6 = .ok (.invokestatic 50, 3) := by decide +kernel
theorem dX6_luck_9 : decode cX6_luck 9 = .ok (.ifCond .eq 46, 3) := by decide +kernel
theorem dX6_luck_12 : decode cX6_luck 12 = .ok (.aload_n 0, 1) := by decide +kernel
theorem dX6_luck_13 : decode cX6_luck 13 = .ok (.iload_n 2, 1) := by decide +kernel
theorem dX6_luck_14 : decode cX6_luck 14 = .ok (.invokevirtual 137, 3) := by decide +kernel
theorem dX6_luck_17 : decode cX6_luck 17 = .ok (.ifCond .eq 38, 3) := by decide +kernel
theorem dX6_luck_20 : decode cX6_luck 20 = .ok (.iload_n 3, 1) := by decide +kernel
theorem dX6_luck_21 : decode cX6_luck 21 = .ok (.i2l, 1) := by decide +kernel
theorem dX6_luck_22 : decode cX6_luck 22 = .ok (.lconst 0, 1) := by decide +kernel
theorem dX6_luck_23 : decode cX6_luck 23 = .ok (.ldc2_w 198, 3) := by decide +kernel
theorem dX6_luck_26 : decode cX6_luck 26 = .ok (.invokestatic 50, 3) := by decide +kernel
theorem dX6_luck_29 : decode cX6_luck 29 = .ok (.ifCond .eq 26, 3) := by decide +kernel
theorem dX6_luck_32 : decode cX6_luck 32 = .ok (.iload 4, 2) := by decide +kernel
theorem dX6_luck_34 : decode cX6_luck 34 = .ok (.i2l, 1) := by decide +kernel
theorem dX6_luck_35 : decode cX6_luck 35 = .ok (.lconst 0, 1) := by decide +kernel
theorem dX6_luck_36 : decode cX6_luck 36 = .ok (.lconst 1, 1) := by decide +kernel
theorem dX6_luck_37 : decode cX6_luck 37 = .ok (.invokestatic 50, 3) := by decide +kernel
theorem dX6_luck_40 : decode cX6_luck 40 = .ok (.ifCond .eq 15, 3) := by decide +kernel
theorem dX6_luck_43 : decode cX6_luck 43 = .ok (.aload_n 0, 1) := by decide +kernel
theorem dX6_luck_44 : decode cX6_luck 44 = .ok (.iload_n 1, 1) := by decide +kernel
theorem dX6_luck_45 : decode cX6_luck 45 = .ok (.iload_n 2, 1) := by decide +kernel
theorem dX6_luck_46 : decode cX6_luck 46 = .ok (.iload_n 3, 1) := by decide +kernel
theorem dX6_luck_47 : decode cX6_luck 47 = .ok (.iload 4, 2) := by decide +kernel
theorem dX6_luck_49 : decode cX6_luck 49 = .ok (.invokevirtual 200, 3) := by decide +kernel
theorem dX6_luck_52 : decode cX6_luck 52 = .ok (.goto 6, 3) := by decide +kernel
theorem dX6_luck_55 : decode cX6_luck 55 = .ok (.ldc2_w 204, 3) := by decide +kernel
theorem dX6_luck_58 : decode cX6_luck 58 = .ok (.lreturn, 1) := by decide +kernel
theorem dX6_mean_0 : decode cX6_mean 0 = .ok (.iload_n 1, 1) := by decide +kernel
theorem dX6_mean_1 : decode cX6_mean 1 = .ok (.i2l, 1) := by decide +kernel
theorem dX6_mean_2 : decode cX6_mean 2 = .ok (.lconst 0, 1) := by decide +kernel
theorem dX6_mean_3 : decode cX6_mean 3 = .ok (.ldc2_w 192, 3) := by decide +kernel
theorem dX6_mean_6 : decode cX6_mean 6 = .ok (.invokestatic 50, 3) := by decide +kernel
theorem dX6_mean_9 : decode cX6_mean 9 = .ok (.ifCond .eq 37, 3) := by decide +kernel
theorem dX6_mean_12 : decode cX6_mean 12 = .ok (.iload_n 2, 1) := by decide +kernel
theorem dX6_mean_13 : decode cX6_mean 13 = .ok (.i2l, 1) := by decide +kernel
theorem dX6_mean_14 : decode cX6_mean 14 = .ok (.lconst 0, 1) := by decide +kernel
theorem dX6_mean_15 : decode cX6_mean 15 = .ok (.ldc2_w 198, 3) := by decide +kernel
theorem dX6_mean_18 : decode cX6_mean 18 = .ok (.invokestatic 50, 3) := by decide +kernel
theorem dX6_mean_21 : decode cX6_mean 21 = .ok (.ifCond .eq 25, 3) := by decide +kernel
theorem dX6_mean_24 : decode cX6_mean 24 = .ok (.iload_n 3, 1) := by decide +kernel
theorem dX6_mean_25 : decode cX6_mean 25 = .ok (.i2l, 1) := by decide +kernel
theorem dX6_mean_26 : decode cX6_mean 26 = .ok (.lconst 0, 1) := by decide +kernel
theorem dX6_mean_27 : decode cX6_mean 27 = .ok (.lconst 1, 1) := by decide +kernel
theorem dX6_mean_28 : decode cX6_mean 28 = .ok (.invokestatic 50, 3) := by decide +kernel
theorem dX6_mean_31 : decode cX6_mean 31 = .ok (.ifCond .eq 15, 3) := by decide +kernel
theorem dX6_mean_34 : decode cX6_mean 34 = .ok (.aload_n 0, 1) := by decide +kernel
theorem dX6_mean_35 : decode cX6_mean 35 = .ok (.iload_n 1, 1) := by decide +kernel
theorem dX6_mean_36 : decode cX6_mean 36 = .ok (.bipush (-4), 2) := by decide +kernel
theorem dX6_mean_38 : decode cX6_mean 38 = .ok (.iload_n 2, 1) := by decide +kernel
theorem dX6_mean_39 : decode cX6_mean 39 = .ok (.iload_n 3, 1) := by decide +kernel
theorem dX6_mean_40 : decode cX6_mean 40 = .ok (.invokevirtual 200, 3) := by decide +kernel
theorem dX6_mean_43 : decode cX6_mean 43 = .ok (.goto 6, 3) := by decide +kernel
theorem dX6_mean_46 : decode cX6_mean 46 = .ok (.ldc2_w 204, 3) := by decide +kernel
theorem dX6_mean_49 : decode cX6_mean 49 = .ok (.lreturn, 1) := by decide +kernel
theorem dX6_see_0 : decode cX6_see 0 = .ok (.iload_n 1, 1) := by decide +kernel
theorem dX6_see_1 : decode cX6_see 1 = .ok (.i2l, 1) := by decide +kernel
theorem dX6_see_2 : decode cX6_see 2 = .ok (.lconst 0, 1) := by decide +kernel
theorem dX6_see_3 : decode cX6_see 3 = .ok (.ldc2_w 206, 3) := by decide +kernel
theorem dX6_see_6 : decode cX6_see 6 = .ok (.invokestatic 50, 3) := by decide +kernel
theorem dX6_see_9 : decode cX6_see 9 = .ok (.ifCond .eq 21, 3) := by decide +kernel
theorem dX6_see_12 : decode cX6_see 12 = .ok (.aload_n 0, 1) := by decide +kernel
theorem dX6_see_13 : decode cX6_see 13 = .ok (.iload_n 2, 1) := by decide +kernel
theorem dX6_see_14 : decode cX6_see 14 = .ok (.invokevirtual 137, 3) := by decide +kernel
theorem dX6_see_17 : decode cX6_see 17 = .ok (.ifCond .eq 13, 3) := by decide +kernel
theorem dX6_see_20 : decode cX6_see 20 = .ok (.iload_n 3, 1) := by decide +kernel
theorem dX6_see_21 : decode cX6_see 21 = .ok (.i2l, 1) := by decide +kernel
theorem dX6_see_22 : decode cX6_see 22 = .ok (.lconst 0, 1) := by decide +kernel
theorem dX6_see_23 : decode cX6_see 23 = .ok (.lconst 1, 1) := by decide +kernel
theorem dX6_see_24 : decode cX6_see 24 = .ok (.invokestatic 50, 3) := by decide +kernel
theorem dX6_see_27 : decode cX6_see 27 = .ok (.ifCond .ne 5, 3) := by decide +kernel
theorem dX6_see_30 : decode cX6_see 30 = .ok (.iconst (-1), 1) := by decide +kernel
theorem dX6_see_31 : decode cX6_see 31 = .ok (.ireturn, 1) := by decide +kernel
theorem dX6_see_32 : decode cX6_see 32 = .ok (.aload_n 0, 1) := by decide +kernel
theorem dX6_see_33 : decode cX6_see 33 = .ok (.getfield 117, 3) := by decide +kernel
theorem dX6_see_36 : decode cX6_see 36 = .ok (.bipush 6, 2) := by decide +kernel
theorem dX6_see_38 : decode cX6_see 38 = .ok (.if_icmp .ne 6, 3) := by decide +kernel
theorem dX6_see_41 : decode cX6_see 41 = .ok (.bipush (-3), 2) := by decide +kernel
theorem dX6_see_43 : decode cX6_see 43 = .ok (.ireturn, 1) := by decide +kernel
theorem dX6_see_44 : decode cX6_see 44 = .ok (.aload_n 0, 1) := by decide +kernel
theorem dX6_see_45 : decode cX6_see 45 = .ok (.getfield 29, 3) := by decide +kernel
theorem dX6_see_48 : decode cX6_see 48 = .ok (.iconst 3, 1) := by decide +kernel
theorem dX6_see_49 : decode cX6_see 49 = .ok (.aload_n 0, 1) := by decide +kernel
theorem dX6_see_50 : decode cX6_see 50 = .ok (.getfield 117, 3) := by decide +kernel
theorem dX6_see_53 : decode cX6_see 53 = .ok (.imul, 1) := by decide +kernel
theorem dX6_see_54 : decode cX6_see 54 = .ok (.iload_n 1, 1) := by decide +kernel
theorem dX6_see_55 : decode cX6_see 55 = .ok (.iastore, 1) := by decide +kernel
theorem dX6_see_56 : decode cX6_see 56 = .ok (.aload_n 0, 1) := by decide +kernel
theorem dX6_see_57 : decode cX6_see 57 = .ok (.getfield 29, 3) := by decide +kernel
theorem dX6_see_60 : decode cX6_see 60 = .ok (.iconst 3, 1) := by decide +kernel
theorem dX6_see_61 : decode cX6_see 61 = .ok (.aload_n 0, 1) := by decide +kernel
theorem dX6_see_62 : decode cX6_see 62 = .ok (.getfield 117, 3) := by decide +kernel
theorem dX6_see_65 : decode cX6_see 65 = .ok (.imul, 1) := by decide +kernel
theorem dX6_see_66 : decode cX6_see 66 = .ok (.iconst 1, 1) := by decide +kernel
theorem dX6_see_67 : decode cX6_see 67 = .ok (.iadd, 1) := by decide +kernel
theorem dX6_see_68 : decode cX6_see 68 = .ok (.iload_n 2, 1) := by decide +kernel
theorem dX6_see_69 : decode cX6_see 69 = .ok (.iastore, 1) := by decide +kernel
theorem dX6_see_70 : decode cX6_see 70 = .ok (.aload_n 0, 1) := by decide +kernel
theorem dX6_see_71 : decode cX6_see 71 = .ok (.getfield 29, 3) := by decide +kernel
theorem dX6_see_74 : decode cX6_see 74 = .ok (.iconst 3, 1) := by decide +kernel
theorem dX6_see_75 : decode cX6_see 75 = .ok (.aload_n 0, 1) := by decide +kernel
theorem dX6_see_76 : decode cX6_see 76 = .ok (.getfield 117, 3) := by decide +kernel
theorem dX6_see_79 : decode cX6_see 79 = .ok (.imul, 1) := by decide +kernel
theorem dX6_see_80 : decode cX6_see 80 = .ok (.iconst 2, 1) := by decide +kernel
theorem dX6_see_81 : decode cX6_see 81 = .ok (.iadd, 1) := by decide +kernel
theorem dX6_see_82 : decode cX6_see 82 = .ok (.iload_n 3, 1) := by decide +kernel
theorem dX6_see_83 : decode cX6_see 83 = .ok (.iastore, 1) := by decide +kernel
theorem dX6_see_84 : decode cX6_see 84 = .ok (.aload_n 0, 1) := by decide +kernel
theorem dX6_see_85 : decode cX6_see 85 = .ok (.dup, 1) := by decide +kernel
theorem dX6_see_86 : decode cX6_see 86 = .ok (.getfield 117, 3) := by decide +kernel
theorem dX6_see_89 : decode cX6_see 89 = .ok (.iconst 1, 1) := by decide +kernel
theorem dX6_see_90 : decode cX6_see 90 = .ok (.iadd, 1) := by decide +kernel
theorem dX6_see_91 : decode cX6_see 91 = .ok (.putfield 117, 3) := by decide +kernel
theorem dX6_see_94 : decode cX6_see 94 = .ok (.aload_n 0, 1) := by decide +kernel
theorem dX6_see_95 : decode cX6_see 95 = .ok (.getfield 117, 3) := by decide +kernel
theorem dX6_see_98 : decode cX6_see 98 = .ok (.ireturn, 1) := by decide +kernel
theorem dX6_forget_0 : decode cX6_forget 0 = .ok (.iload_n 1, 1) := by decide +kernel
theorem dX6_forget_1 : decode cX6_forget 1 = .ok (.i2l, 1) := by decide +kernel
theorem dX6_forget_2 : decode cX6_forget 2 = .ok (.lconst 0, 1) := by decide +kernel
theorem dX6_forget_3 : decode cX6_forget 3 = .ok (.aload_n 0, 1) := by decide +kernel
theorem dX6_forget_4 : decode cX6_forget 4 = .ok (.getfield 117, 3) := by decide +kernel
theorem dX6_forget_7 : decode cX6_forget 7 = .ok (.i2l, 1) := by decide +kernel
theorem dX6_forget_8 : decode cX6_forget 8 = .ok (.invokestatic 50, 3) := by decide +kernel
theorem dX6_forget_11 : decode cX6_forget 11 = .ok (.ifCond .ne 5, 3) := by decide +kernel
theorem dX6_forget_14 : decode cX6_forget 14 = .ok (.iconst (-1), 1) := by decide +kernel
theorem dX6_forget_15 : decode cX6_forget 15 = .ok (.ireturn, 1) := by decide +kernel
theorem dX6_forget_16 : decode cX6_forget 16 = .ok (.aload_n 0, 1) := by decide +kernel
theorem dX6_forget_17 : decode cX6_forget 17 = .ok (.getfield 117, 3) := by decide +kernel
theorem dX6_forget_20 : decode cX6_forget 20 = .ok (.istore_n 2, 1) := by decide +kernel
theorem dX6_forget_21 : decode cX6_forget 21 = .ok (.aload_n 0, 1) := by decide +kernel
theorem dX6_forget_22 : decode cX6_forget 22 = .ok (.iload_n 1, 1) := by decide +kernel
theorem dX6_forget_23 : decode cX6_forget 23 = .ok (.putfield 117, 3) := by decide +kernel
theorem dX6_forget_26 : decode cX6_forget 26 = .ok (.iload_n 2, 1) := by decide +kernel
theorem dX6_forget_27 : decode cX6_forget 27 = .ok (.ireturn, 1) := by decide +kernel
theorem dX6_isAsSeen_0 : decode cX6_isAsSeen 0 = .ok (.aload_n 0, 1) := by decide +kernel
theorem dX6_isAsSeen_1 : decode cX6_isAsSeen 1 = .ok (.iload_n 1, 1) := by decide +kernel
theorem dX6_isAsSeen_2 : decode cX6_isAsSeen 2 = .ok (.bipush 92, 2) := by decide +kernel
theorem dX6_isAsSeen_4 : decode cX6_isAsSeen 4 = .ok (.invokevirtual 161, 3) := by decide +kernel
theorem dX6_isAsSeen_7 : decode cX6_isAsSeen 7 = .ok (.iconst 1, 1) := by decide +kernel
theorem dX6_isAsSeen_8 : decode cX6_isAsSeen 8 = .ok (.istore_n 3, 1) := by decide +kernel
theorem dX6_isAsSeen_9 : decode cX6_isAsSeen 9 = .ok (.iconst 0, 1) := by decide +kernel
theorem dX6_isAsSeen_10 : decode cX6_isAsSeen 10 = .ok (.istore 4, 2) := by decide +kernel
theorem dX6_isAsSeen_12 : decode cX6_isAsSeen 12 = .ok (.iload 4, 2) := by decide +kernel
theorem dX6_isAsSeen_14 : decode cX6_isAsSeen 14 = .ok (.bipush 60, 2) := by decide +kernel
theorem dX6_isAsSeen_16 : decode cX6_isAsSeen 16 = .ok (.if_icmp .gt 104, 3) := by decide +kernel
theorem dX6_isAsSeen_19 : decode cX6_isAsSeen 19 = .ok (.aload_n 0, 1) := by decide +kernel
theorem dX6_isAsSeen_20 : decode cX6_isAsSeen 20 = .ok (.bipush 92, 2) := by decide +kernel
theorem dX6_isAsSeen_22 : decode cX6_isAsSeen 22 = .ok (.iconst 0, 1) := by decide +kernel
theorem dX6_isAsSeen_23 : decode cX6_isAsSeen 23 = .ok (.invokevirtual 157, 3) := by decide +kernel
theorem dX6_isAsSeen_26 : decode cX6_isAsSeen 26 = .ok (.istore 5, 2) := by decide +kernel
theorem dX6_isAsSeen_28 : decode cX6_isAsSeen 28 = .ok (.aload_n 0, 1) := by decide +kernel
theorem dX6_isAsSeen_29 : decode cX6_isAsSeen 29 = .ok (.getfield 32, 3) := by decide +kernel
theorem dX6_isAsSeen_32 : decode cX6_isAsSeen 32 = .ok (.bipush 61, 2) := by decide +kernel
theorem dX6_isAsSeen_34 : decode cX6_isAsSeen 34 = .ok (.iload_n 2, 1) := by decide +kernel
theorem dX6_isAsSeen_35 : decode cX6_isAsSeen 35 = .ok (.imul, 1) := by decide +kernel
theorem dX6_isAsSeen_36 : decode cX6_isAsSeen 36 = .ok (.iload 4, 2) := by decide +kernel
theorem dX6_isAsSeen_38 : decode cX6_isAsSeen 38 = .ok (.iadd, 1) := by decide +kernel
theorem dX6_isAsSeen_39 : decode cX6_isAsSeen 39 = .ok (.iload 5, 2) := by decide +kernel
theorem dX6_isAsSeen_41 : decode cX6_isAsSeen 41 = .ok (.iastore, 1) := by decide +kernel
theorem dX6_isAsSeen_42 : decode cX6_isAsSeen 42 = .ok (.iconst 0, 1) := by decide +kernel
theorem dX6_isAsSeen_43 : decode cX6_isAsSeen 43 = .ok (.istore 6, 2) := by decide +kernel
theorem dX6_isAsSeen_45 : decode cX6_isAsSeen 45 = .ok (.iload 6, 2) := by decide +kernel
theorem dX6_isAsSeen_47 : decode cX6_isAsSeen 47 = .ok (.aload_n 0, 1) := by decide +kernel
theorem dX6_isAsSeen_48 : decode cX6_isAsSeen 48 = .ok (.getfield 117, 3) := by decide +kernel
theorem dX6_isAsSeen_51 : decode cX6_isAsSeen 51 = .ok (.if_icmp .ge 63, 3) := by decide +kernel
theorem dX6_isAsSeen_54 : decode cX6_isAsSeen 54 = .ok (.iload_n 3, 1) := by decide +kernel
theorem dX6_isAsSeen_55 : decode cX6_isAsSeen 55 = .ok (.ifCond .eq 51, 3) := by decide +kernel
theorem dX6_isAsSeen_58 : decode cX6_isAsSeen 58 = .ok (.aload_n 0, 1) := by decide +kernel
theorem dX6_isAsSeen_59 : decode cX6_isAsSeen 59 = .ok (.getfield 29, 3) := by decide +kernel
theorem dX6_isAsSeen_62 : decode cX6_isAsSeen 62 = .ok (.iconst 3, 1) := by decide +kernel
theorem dX6_isAsSeen_63 : decode cX6_isAsSeen 63 = .ok (.iload 6, 2) := by decide +kernel
theorem dX6_isAsSeen_65 : decode cX6_isAsSeen 65 = .ok (.imul, 1) := by decide +kernel
theorem dX6_isAsSeen_66 : decode cX6_isAsSeen 66 = .ok (.iaload, 1) := by decide +kernel
theorem dX6_isAsSeen_67 : decode cX6_isAsSeen 67 = .ok (.iload 4, 2) := by decide +kernel
theorem dX6_isAsSeen_69 : decode cX6_isAsSeen 69 = .ok (.if_icmp .ne 33, 3) := by decide +kernel
theorem dX6_isAsSeen_72 : decode cX6_isAsSeen 72 = .ok (.iload 5, 2) := by decide +kernel
theorem dX6_isAsSeen_74 : decode cX6_isAsSeen 74 = .ok (.aload_n 0, 1) := by decide +kernel
theorem dX6_isAsSeen_75 : decode cX6_isAsSeen 75 = .ok (.getfield 29, 3) := by decide +kernel
theorem dX6_isAsSeen_78 : decode cX6_isAsSeen 78 = .ok (.iconst 3, 1) := by decide +kernel
theorem dX6_isAsSeen_79 : decode cX6_isAsSeen 79 = .ok (.iload 6, 2) := by decide +kernel
theorem dX6_isAsSeen_81 : decode cX6_isAsSeen 81 = .ok (.imul, 1) := by decide +kernel
theorem dX6_isAsSeen_82 : decode cX6_isAsSeen 82 = .ok (.iconst 1, 1) := by decide +kernel
theorem dX6_isAsSeen_83 : decode cX6_isAsSeen 83 = .ok (.iadd, 1) := by decide +kernel
theorem dX6_isAsSeen_84 : decode cX6_isAsSeen 84 = .ok (.iaload, 1) := by decide +kernel
theorem dX6_isAsSeen_85 : decode cX6_isAsSeen 85 = .ok (.ishr, 1) := by decide +kernel
theorem dX6_isAsSeen_86 : decode cX6_isAsSeen 86 = .ok (.iconst 1, 1) := by decide +kernel
theorem dX6_isAsSeen_87 : decode cX6_isAsSeen 87 = .ok (.iand, 1) := by decide +kernel
theorem dX6_isAsSeen_88 : decode cX6_isAsSeen 88 = .ok (.aload_n 0, 1) := by decide +kernel
theorem dX6_isAsSeen_89 : decode cX6_isAsSeen 89 = .ok (.getfield 29, 3) := by decide +kernel
theorem dX6_isAsSeen_92 : decode cX6_isAsSeen 92 = .ok (.iconst 3, 1) := by decide +kernel
theorem dX6_isAsSeen_93 : decode cX6_isAsSeen 93 = .ok (.iload 6, 2) := by decide +kernel
theorem dX6_isAsSeen_95 : decode cX6_isAsSeen 95 = .ok (.imul, 1) := by decide +kernel
theorem dX6_isAsSeen_96 : decode cX6_isAsSeen 96 = .ok (.iconst 2, 1) := by decide +kernel
theorem dX6_isAsSeen_97 : decode cX6_isAsSeen 97 = .ok (.iadd, 1) := by decide +kernel
theorem dX6_isAsSeen_98 : decode cX6_isAsSeen 98 = .ok (.iaload, 1) := by decide +kernel
theorem dX6_isAsSeen_99 : decode cX6_isAsSeen 99 = .ok (.if_icmp .ne 7, 3) := by decide +kernel
theorem dX6_isAsSeen_102 : decode cX6_isAsSeen 102 = .ok (.iconst 1, 1) := by decide +kernel
theorem dX6_isAsSeen_103 : decode cX6_isAsSeen 103 = .ok (.goto 4, 3) := by decide +kernel
theorem dX6_isAsSeen_106 : decode cX6_isAsSeen 106 = .ok (.iconst 0, 1) := by decide +kernel
theorem dX6_isAsSeen_107 : decode cX6_isAsSeen 107 = .ok (.istore_n 3, 1) := by decide +kernel
theorem dX6_isAsSeen_108 : decode cX6_isAsSeen 108 = .ok (.iinc 6 1, 3) := by decide +kernel
theorem dX6_isAsSeen_111 : decode cX6_isAsSeen 111 = .ok (.goto (-66), 3) := by decide +kernel
theorem dX6_isAsSeen_114 : decode cX6_isAsSeen 114 = .ok (.iinc 4 1, 3) := by decide +kernel
theorem dX6_isAsSeen_117 : decode cX6_isAsSeen 117 = .ok (.goto (-105), 3) := by decide +kernel
theorem dX6_isAsSeen_120 : decode cX6_isAsSeen 120 = .ok (.iload_n 3, 1) := by decide +kernel
theorem dX6_isAsSeen_121 : decode cX6_isAsSeen 121 = .ok (.ireturn, 1) := by decide +kernel
theorem dX6_kinds_0 : decode cX6_kinds 0 = .ok (.aload_n 0, 1) := by decide +kernel
theorem dX6_kinds_1 : decode cX6_kinds 1 = .ok (.iload_n 1, 1) := by decide +kernel
theorem dX6_kinds_2 : decode cX6_kinds 2 = .ok (.invokevirtual 137, 3) := by decide +kernel
theorem dX6_kinds_5 : decode cX6_kinds 5 = .ok (.ifCond .ne 5, 3) := by decide +kernel
theorem dX6_kinds_8 : decode cX6_kinds 8 = .ok (.iconst (-1), 1) := by decide +kernel
theorem dX6_kinds_9 : decode cX6_kinds 9 = .ok (.ireturn, 1) := by decide +kernel
theorem dX6_kinds_10 : decode cX6_kinds 10 = .ok (.iconst 0, 1) := by decide +kernel
theorem dX6_kinds_11 : decode cX6_kinds 11 = .ok (.istore_n 2, 1) := by decide +kernel
theorem dX6_kinds_12 : decode cX6_kinds 12 = .ok (.aload_n 0, 1) := by decide +kernel
theorem dX6_kinds_13 : decode cX6_kinds 13 = .ok (.iconst 0, 1) := by decide +kernel
theorem dX6_kinds_14 : decode cX6_kinds 14 = .ok (.bipush 115, 2) := by decide +kernel
theorem dX6_kinds_16 : decode cX6_kinds 16 = .ok (.invokevirtual 161, 3) := by decide +kernel
theorem dX6_kinds_19 : decode cX6_kinds 19 = .ok (.iconst 0, 1) := by decide +kernel
theorem dX6_kinds_20 : decode cX6_kinds 20 = .ok (.istore_n 3, 1) := by decide +kernel
theorem dX6_kinds_21 : decode cX6_kinds 21 = .ok (.iload_n 3, 1) := by decide +kernel
theorem dX6_kinds_22 : decode cX6_kinds 22 = .ok (.iconst 4, 1) := by decide +kernel
theorem dX6_kinds_23 : decode cX6_kinds 23 = .ok (.if_icmp .ge 39, 3) := by decide +kernel
theorem dX6_kinds_26 : decode cX6_kinds 26 = .ok (.aload_n 0, 1) := by decide +kernel
theorem dX6_kinds_27 : decode cX6_kinds 27 = .ok (.getfield 7, 3) := by decide +kernel
theorem dX6_kinds_30 : decode cX6_kinds 30 = .ok (.bipush 115, 2) := by decide +kernel
theorem dX6_kinds_32 : decode cX6_kinds 32 = .ok (.iload_n 1, 1) := by decide +kernel
theorem dX6_kinds_33 : decode cX6_kinds 33 = .ok (.iadd, 1) := by decide +kernel
theorem dX6_kinds_34 : decode cX6_kinds 34 = .ok (.iload_n 3, 1) := by decide +kernel
theorem dX6_kinds_35 : decode cX6_kinds 35 = .ok (.iastore, 1) := by decide +kernel
theorem dX6_kinds_36 : decode cX6_kinds 36 = .ok (.iload_n 2, 1) := by decide +kernel
theorem dX6_kinds_37 : decode cX6_kinds 37 = .ok (.aload_n 0, 1) := by decide +kernel
theorem dX6_kinds_38 : decode cX6_kinds 38 = .ok (.bipush 115, 2) := by decide +kernel
theorem dX6_kinds_40 : decode cX6_kinds 40 = .ok (.iconst 0, 1) := by decide +kernel
theorem dX6_kinds_41 : decode cX6_kinds 41 = .ok (.invokevirtual 208, 3) := by decide +kernel
theorem dX6_kinds_44 : decode cX6_kinds 44 = .ok (.ifCond .eq 9, 3) := by decide +kernel
theorem dX6_kinds_47 : decode cX6_kinds 47 = .ok (.iconst 1, 1) := by decide +kernel
theorem dX6_kinds_48 : decode cX6_kinds 48 = .ok (.iload_n 3, 1) := by decide +kernel
theorem dX6_kinds_49 : decode cX6_kinds 49 = .ok (.ishl, 1) := by decide +kernel
theorem dX6_kinds_50 : decode cX6_kinds 50 = .ok (.goto 4, 3) := by decide +kernel
theorem dX6_kinds_53 : decode cX6_kinds 53 = .ok (.iconst 0, 1) := by decide +kernel
theorem dX6_kinds_54 : decode cX6_kinds 54 = .ok (.ior, 1) := by decide +kernel
theorem dX6_kinds_55 : decode cX6_kinds 55 = .ok (.istore_n 2, 1) := by decide +kernel
theorem dX6_kinds_56 : decode cX6_kinds 56 = .ok (.iinc 3 1, 3) := by decide +kernel
theorem dX6_kinds_59 : decode cX6_kinds 59 = .ok (.goto (-38), 3) := by decide +kernel
theorem dX6_kinds_62 : decode cX6_kinds 62 = .ok (.iload_n 2, 1) := by decide +kernel
theorem dX6_kinds_63 : decode cX6_kinds 63 = .ok (.ireturn, 1) := by decide +kernel
theorem dX6_periods_0 : decode cX6_periods 0 = .ok (.aload_n 0, 1) := by decide +kernel
theorem dX6_periods_1 : decode cX6_periods 1 = .ok (.iload_n 1, 1) := by decide +kernel
theorem dX6_periods_2 : decode cX6_periods 2 = .ok (.invokevirtual 137, 3) := by decide +kernel
theorem dX6_periods_5 : decode cX6_periods 5 = .ok (.ifCond .ne 5, 3) := by decide +kernel
theorem dX6_periods_8 : decode cX6_periods 8 = .ok (.iconst (-1), 1) := by decide +kernel
theorem dX6_periods_9 : decode cX6_periods 9 = .ok (.ireturn, 1) := by decide +kernel
theorem dX6_periods_10 : decode cX6_periods 10 = .ok (.iconst 0, 1) := by decide +kernel
theorem dX6_periods_11 : decode cX6_periods 11 = .ok (.istore_n 2, 1) := by decide +kernel
theorem dX6_periods_12 : decode cX6_periods 12 = .ok (.iconst 2, 1) := by decide +kernel
theorem dX6_periods_13 : decode cX6_periods 13 = .ok (.istore_n 3, 1) := by decide +kernel
theorem dX6_periods_14 : decode cX6_periods 14 = .ok (.iload_n 3, 1) := by decide +kernel
theorem dX6_periods_15 : decode cX6_periods 15 = .ok (.bipush 30, 2) := by decide +kernel
theorem dX6_periods_17 : decode cX6_periods 17 = .ok (.if_icmp .gt 44, 3) := by decide +kernel
theorem dX6_periods_20 : decode cX6_periods 20 = .ok (.aload_n 0, 1) := by decide +kernel
theorem dX6_periods_21 : decode cX6_periods 21 = .ok (.iconst 0, 1) := by decide +kernel
theorem dX6_periods_22 : decode cX6_periods 22 = .ok (.bipush 115, 2) := by decide +kernel
theorem dX6_periods_24 : decode cX6_periods 24 = .ok (.invokevirtual 161, 3) := by decide +kernel
theorem dX6_periods_27 : decode cX6_periods 27 = .ok (.aload_n 0, 1) := by decide +kernel
theorem dX6_periods_28 : decode cX6_periods 28 = .ok (.bipush 115, 2) := by decide +kernel
theorem dX6_periods_30 : decode cX6_periods 30 = .ok (.iload_n 1, 1) := by decide +kernel
theorem dX6_periods_31 : decode cX6_periods 31 = .ok (.iload_n 3, 1) := by decide +kernel
theorem dX6_periods_32 : decode cX6_periods 32 = .ok (.invokevirtual 185, 3) := by decide +kernel
theorem dX6_periods_35 : decode cX6_periods 35 = .ok (.iload_n 2, 1) := by decide +kernel
theorem dX6_periods_36 : decode cX6_periods 36 = .ok (.aload_n 0, 1) := by decide +kernel
theorem dX6_periods_37 : decode cX6_periods 37 = .ok (.bipush 115, 2) := by decide +kernel
theorem dX6_periods_39 : decode cX6_periods 39 = .ok (.iconst 0, 1) := by decide +kernel
theorem dX6_periods_40 : decode cX6_periods 40 = .ok (.invokevirtual 208, 3) := by decide +kernel
theorem dX6_periods_43 : decode cX6_periods 43 = .ok (.ifCond .eq 9, 3) := by decide +kernel
theorem dX6_periods_46 : decode cX6_periods 46 = .ok (.iconst 1, 1) := by decide +kernel
theorem dX6_periods_47 : decode cX6_periods 47 = .ok (.iload_n 3, 1) := by decide +kernel
theorem dX6_periods_48 : decode cX6_periods 48 = .ok (.ishl, 1) := by decide +kernel
theorem dX6_periods_49 : decode cX6_periods 49 = .ok (.goto 4, 3) := by decide +kernel
theorem dX6_periods_52 : decode cX6_periods 52 = .ok (.iconst 0, 1) := by decide +kernel
theorem dX6_periods_53 : decode cX6_periods 53 = .ok (.ior, 1) := by decide +kernel
theorem dX6_periods_54 : decode cX6_periods 54 = .ok (.istore_n 2, 1) := by decide +kernel
theorem dX6_periods_55 : decode cX6_periods 55 = .ok (.iinc 3 1, 3) := by decide +kernel
theorem dX6_periods_58 : decode cX6_periods 58 = .ok (.goto (-44), 3) := by decide +kernel
theorem dX6_periods_61 : decode cX6_periods 61 = .ok (.iload_n 2, 1) := by decide +kernel
theorem dX6_periods_62 : decode cX6_periods 62 = .ok (.ireturn, 1) := by decide +kernel
theorem dX6_handsOf_0 : decode cX6_handsOf 0 = .ok (.iconst 0, 1) := by decide +kernel
theorem dX6_handsOf_1 : decode cX6_handsOf 1 = .ok (.istore_n 2, 1) := by decide +kernel
theorem dX6_handsOf_2 : decode cX6_handsOf 2 = .ok (.aload_n 0, 1) := by decide +kernel
theorem dX6_handsOf_3 : decode cX6_handsOf 3 = .ok (.iconst 0, 1) := by decide +kernel
theorem dX6_handsOf_4 : decode cX6_handsOf 4 = .ok (.bipush 115, 2) := by decide +kernel
theorem dX6_handsOf_6 : decode cX6_handsOf 6 = .ok (.invokevirtual 161, 3) := by decide +kernel
theorem dX6_handsOf_9 : decode cX6_handsOf 9 = .ok (.iconst 0, 1) := by decide +kernel
theorem dX6_handsOf_10 : decode cX6_handsOf 10 = .ok (.istore_n 3, 1) := by decide +kernel
theorem dX6_handsOf_11 : decode cX6_handsOf 11 = .ok (.iload_n 3, 1) := by decide +kernel
theorem dX6_handsOf_12 : decode cX6_handsOf 12 = .ok (.aload_n 0, 1) := by decide +kernel
theorem dX6_handsOf_13 : decode cX6_handsOf 13 = .ok (.getfield 7, 3) := by decide +kernel
theorem dX6_handsOf_16 : decode cX6_handsOf 16 = .ok (.iconst 5, 1) := by decide +kernel
theorem dX6_handsOf_17 : decode cX6_handsOf 17 = .ok (.iload_n 1, 1) := by decide +kernel
theorem dX6_handsOf_18 : decode cX6_handsOf 18 = .ok (.iadd, 1) := by decide +kernel
theorem dX6_handsOf_19 : decode cX6_handsOf 19 = .ok (.iaload, 1) := by decide +kernel
theorem dX6_handsOf_20 : decode cX6_handsOf 20 = .ok (.if_icmp .ge 39, 3) := by decide +kernel
theorem dX6_handsOf_23 : decode cX6_handsOf 23 = .ok (.aload_n 0, 1) := by decide +kernel
theorem dX6_handsOf_24 : decode cX6_handsOf 24 = .ok (.getfield 7, 3) := by decide +kernel
theorem dX6_handsOf_27 : decode cX6_handsOf 27 = .ok (.bipush 125, 2) := by decide +kernel
theorem dX6_handsOf_29 : decode cX6_handsOf 29 = .ok (.iload_n 1, 1) := by decide +kernel
theorem dX6_handsOf_30 : decode cX6_handsOf 30 = .ok (.iadd, 1) := by decide +kernel
theorem dX6_handsOf_31 : decode cX6_handsOf 31 = .ok (.iload_n 3, 1) := by decide +kernel
theorem dX6_handsOf_32 : decode cX6_handsOf 32 = .ok (.iastore, 1) := by decide +kernel
theorem dX6_handsOf_33 : decode cX6_handsOf 33 = .ok (.iload_n 2, 1) := by decide +kernel
theorem dX6_handsOf_34 : decode cX6_handsOf 34 = .ok (.aload_n 0, 1) := by decide +kernel
theorem dX6_handsOf_35 : decode cX6_handsOf 35 = .ok (.bipush 115, 2) := by decide +kernel
theorem dX6_handsOf_37 : decode cX6_handsOf 37 = .ok (.iload_n 3, 1) := by decide +kernel
theorem dX6_handsOf_38 : decode cX6_handsOf 38 = .ok (.invokevirtual 208, 3) := by decide +kernel
theorem dX6_handsOf_41 : decode cX6_handsOf 41 = .ok (.ifCond .eq 9, 3) := by decide +kernel
theorem dX6_handsOf_44 : decode cX6_handsOf 44 = .ok (.iconst 1, 1) := by decide +kernel
theorem dX6_handsOf_45 : decode cX6_handsOf 45 = .ok (.iload_n 3, 1) := by decide +kernel
theorem dX6_handsOf_46 : decode cX6_handsOf 46 = .ok (.ishl, 1) := by decide +kernel
theorem dX6_handsOf_47 : decode cX6_handsOf 47 = .ok (.goto 4, 3) := by decide +kernel
theorem dX6_handsOf_50 : decode cX6_handsOf 50 = .ok (.iconst 0, 1) := by decide +kernel
theorem dX6_handsOf_51 : decode cX6_handsOf 51 = .ok (.ior, 1) := by decide +kernel
theorem dX6_handsOf_52 : decode cX6_handsOf 52 = .ok (.istore_n 2, 1) := by decide +kernel
theorem dX6_handsOf_53 : decode cX6_handsOf 53 = .ok (.iinc 3 1, 3) := by decide +kernel
theorem dX6_handsOf_56 : decode cX6_handsOf 56 = .ok (.goto (-45), 3) := by decide +kernel
theorem dX6_handsOf_59 : decode cX6_handsOf 59 = .ok (.iload_n 2, 1) := by decide +kernel
theorem dX6_handsOf_60 : decode cX6_handsOf 60 = .ok (.ireturn, 1) := by decide +kernel
theorem dX6_hands_0 : decode cX6_hands 0 = .ok (.aload_n 0, 1) := by decide +kernel
theorem dX6_hands_1 : decode cX6_hands 1 = .ok (.iload_n 1, 1) := by decide +kernel
theorem dX6_hands_2 : decode cX6_hands 2 = .ok (.invokevirtual 137, 3) := by decide +kernel
theorem dX6_hands_5 : decode cX6_hands 5 = .ok (.ifCond .eq 11, 3) := by decide +kernel
theorem dX6_hands_8 : decode cX6_hands 8 = .ok (.aload_n 0, 1) := by decide +kernel
theorem dX6_hands_9 : decode cX6_hands 9 = .ok (.iload_n 1, 1) := by decide +kernel
theorem dX6_hands_10 : decode cX6_hands 10 = .ok (.invokevirtual 211, 3) := by decide +kernel
theorem dX6_hands_13 : decode cX6_hands 13 = .ok (.goto 4, 3) := by decide +kernel
theorem dX6_hands_16 : decode cX6_hands 16 = .ok (.iconst (-1), 1) := by decide +kernel
theorem dX6_hands_17 : decode cX6_hands 17 = .ok (.ireturn, 1) := by decide +kernel
theorem dX6_ask_0 : decode cX6_ask 0 = .ok (.aload_n 0, 1) := by decide +kernel
theorem dX6_ask_1 : decode cX6_ask 1 = .ok (.iload_n 1, 1) := by decide +kernel
theorem dX6_ask_2 : decode cX6_ask 2 = .ok (.invokevirtual 137, 3) := by decide +kernel
theorem dX6_ask_5 : decode cX6_ask 5 = .ok (.ifCond .eq 13, 3) := by decide +kernel
theorem dX6_ask_8 : decode cX6_ask 8 = .ok (.iload_n 2, 1) := by decide +kernel
theorem dX6_ask_9 : decode cX6_ask 9 = .ok (.i2l, 1) := by decide +kernel
theorem dX6_ask_10 : decode cX6_ask 10 = .ok (.lconst 0, 1) := by decide +kernel
theorem dX6_ask_11 : decode cX6_ask 11 = .ok (.lconst 1, 1) := by decide +kernel
theorem dX6_ask_12 : decode cX6_ask 12 = .ok (.invokestatic 50, 3) := by decide +kernel
theorem dX6_ask_15 : decode cX6_ask 15 = .ok (.ifCond .ne 5, 3) := by decide +kernel
theorem dX6_ask_18 : decode cX6_ask 18 = .ok (.iconst (-1), 1) := by decide +kernel
theorem dX6_ask_19 : decode cX6_ask 19 = .ok (.ireturn, 1) := by decide +kernel
theorem dX6_ask_20 : decode cX6_ask 20 = .ok (.aload_n 0, 1) := by decide +kernel
theorem dX6_ask_21 : decode cX6_ask 21 = .ok (.iload_n 1, 1) := by decide +kernel
theorem dX6_ask_22 : decode cX6_ask 22 = .ok (.invokevirtual 211, 3) := by decide +kernel
theorem dX6_ask_25 : decode cX6_ask 25 = .ok (.istore_n 3, 1) := by decide +kernel
theorem dX6_ask_26 : decode cX6_ask 26 = .ok (.iload_n 3, 1) := by decide +kernel
theorem dX6_ask_27 : decode cX6_ask 27 = .ok (.invokestatic 127, 3) := by decide +kernel
theorem dX6_ask_30 : decode cX6_ask 30 = .ok (.istore 4, 2) := by decide +kernel
theorem dX6_ask_32 : decode cX6_ask 32 = .ok (.iload 4, 2) := by decide +kernel
theorem dX6_ask_34 : decode cX6_ask 34 = .ok (.istore 5, 2) := by decide +kernel
theorem dX6_ask_36 : decode cX6_ask 36 = .ok (.bipush (-4), 2) := by decide +kernel
theorem dX6_ask_38 : decode cX6_ask 38 = .ok (.istore 6, 2) := by decide +kernel
theorem dX6_ask_40 : decode cX6_ask 40 = .ok (.iconst 0, 1) := by decide +kernel
theorem dX6_ask_41 : decode cX6_ask 41 = .ok (.istore 7, 2) := by decide +kernel
theorem dX6_ask_43 : decode cX6_ask 43 = .ok (.iload 7, 2) := by decide +kernel
theorem dX6_ask_45 : decode cX6_ask 45 = .ok (.bipush 60, 2) := by decide +kernel
theorem dX6_ask_47 : decode cX6_ask 47 = .ok (.if_icmp .gt 124, 3) := by decide +kernel
theorem dX6_ask_50 : decode cX6_ask 50 = .ok (.iconst 0, 1) := by decide +kernel
theorem dX6_ask_51 : decode cX6_ask 51 = .ok (.istore 8, 2) := by decide +kernel
theorem dX6_ask_53 : decode cX6_ask 53 = .ok (.iconst 0, 1) := by decide +kernel
theorem dX6_ask_54 : decode cX6_ask 54 = .ok (.istore 9, 2) := by decide +kernel
theorem dX6_ask_56 : decode cX6_ask 56 = .ok (.iload 9, 2) := by decide +kernel
theorem dX6_ask_58 : decode cX6_ask 58 = .ok (.aload_n 0, 1) := by decide +kernel
theorem dX6_ask_59 : decode cX6_ask 59 = .ok (.getfield 7, 3) := by decide +kernel
theorem dX6_ask_62 : decode cX6_ask 62 = .ok (.iconst 5, 1) := by decide +kernel
theorem dX6_ask_63 : decode cX6_ask 63 = .ok (.iload_n 1, 1) := by decide +kernel
theorem dX6_ask_64 : decode cX6_ask 64 = .ok (.iadd, 1) := by decide +kernel
theorem dX6_ask_65 : decode cX6_ask 65 = .ok (.iaload, 1) := by decide +kernel
theorem dX6_ask_66 : decode cX6_ask 66 = .ok (.if_icmp .ge 45, 3) := by decide +kernel
theorem dX6_ask_69 : decode cX6_ask 69 = .ok (.iload 8, 2) := by decide +kernel
theorem dX6_ask_71 : decode cX6_ask 71 = .ok (.iload_n 3, 1) := by decide +kernel
theorem dX6_ask_72 : decode cX6_ask 72 = .ok (.iload 9, 2) := by decide +kernel
theorem dX6_ask_74 : decode cX6_ask 74 = .ok (.ishr, 1) := by decide +kernel
theorem dX6_ask_75 : decode cX6_ask 75 = .ok (.iconst 1, 1) := by decide +kernel
theorem dX6_ask_76 : decode cX6_ask 76 = .ok (.iand, 1) := by decide +kernel
theorem dX6_ask_77 : decode cX6_ask 77 = .ok (.iconst 1, 1) := by decide +kernel
theorem dX6_ask_78 : decode cX6_ask 78 = .ok (.if_icmp .ne 23, 3) := by decide +kernel
theorem dX6_ask_81 : decode cX6_ask 81 = .ok (.aload_n 0, 1) := by decide +kernel
theorem dX6_ask_82 : decode cX6_ask 82 = .ok (.getfield 32, 3) := by decide +kernel
theorem dX6_ask_85 : decode cX6_ask 85 = .ok (.bipush 61, 2) := by decide +kernel
theorem dX6_ask_87 : decode cX6_ask 87 = .ok (.iload 9, 2) := by decide +kernel
theorem dX6_ask_89 : decode cX6_ask 89 = .ok (.imul, 1) := by decide +kernel
theorem dX6_ask_90 : decode cX6_ask 90 = .ok (.iload 7, 2) := by decide +kernel
theorem dX6_ask_92 : decode cX6_ask 92 = .ok (.iadd, 1) := by decide +kernel
theorem dX6_ask_93 : decode cX6_ask 93 = .ok (.iaload, 1) := by decide +kernel
theorem dX6_ask_94 : decode cX6_ask 94 = .ok (.iload_n 1, 1) := by decide +kernel
theorem dX6_ask_95 : decode cX6_ask 95 = .ok (.ishr, 1) := by decide +kernel
theorem dX6_ask_96 : decode cX6_ask 96 = .ok (.iconst 1, 1) := by decide +kernel
theorem dX6_ask_97 : decode cX6_ask 97 = .ok (.iand, 1) := by decide +kernel
theorem dX6_ask_98 : decode cX6_ask 98 = .ok (.goto 4, 3) := by decide +kernel
theorem dX6_ask_101 : decode cX6_ask 101 = .ok (.iconst 0, 1) := by decide +kernel
theorem dX6_ask_102 : decode cX6_ask 102 = .ok (.iadd, 1) := by decide +kernel
theorem dX6_ask_103 : decode cX6_ask 103 = .ok (.istore 8, 2) := by decide +kernel
theorem dX6_ask_105 : decode cX6_ask 105 = .ok (.iinc 9 1, 3) := by decide +kernel
theorem dX6_ask_108 : decode cX6_ask 108 = .ok (.goto (-52), 3) := by decide +kernel
theorem dX6_ask_111 : decode cX6_ask 111 = .ok (.iload 8, 2) := by decide +kernel
theorem dX6_ask_113 : decode cX6_ask 113 = .ok (.iload 4, 2) := by decide +kernel
theorem dX6_ask_115 : decode cX6_ask 115 = .ok (.iload 8, 2) := by decide +kernel
theorem dX6_ask_117 : decode cX6_ask 117 = .ok (.isub, 1) := by decide +kernel
theorem dX6_ask_118 : decode cX6_ask 118 = .ok (.if_icmp .le 8, 3) := by decide +kernel
theorem dX6_ask_121 : decode cX6_ask 121 = .ok (.iload 8, 2) := by decide +kernel
theorem dX6_ask_123 : decode cX6_ask 123 = .ok (.goto 8, 3) := by decide +kernel
theorem dX6_ask_126 : decode cX6_ask 126 = .ok (.iload 4, 2) := by decide +kernel
theorem dX6_ask_128 : decode cX6_ask 128 = .ok (.iload 8, 2) := by decide +kernel
theorem dX6_ask_130 : decode cX6_ask 130 = .ok (.isub, 1) := by decide +kernel
theorem dX6_ask_131 : decode cX6_ask 131 = .ok (.istore 9, 2) := by decide +kernel
theorem dX6_ask_133 : decode cX6_ask 133 = .ok (.iload 9, 2) := by decide +kernel
theorem dX6_ask_135 : decode cX6_ask 135 = .ok (.iload 5, 2) := by decide +kernel
theorem dX6_ask_137 : decode cX6_ask 137 = .ok (.if_icmp .ge 8, 3) := by decide +kernel
theorem dX6_ask_140 : decode cX6_ask 140 = .ok (.iload 7, 2) := by decide +kernel
theorem dX6_ask_142 : decode cX6_ask 142 = .ok (.goto 5, 3) := by decide +kernel
theorem dX6_ask_145 : decode cX6_ask 145 = .ok (.iload 6, 2) := by decide +kernel
theorem dX6_ask_147 : decode cX6_ask 147 = .ok (.istore 6, 2) := by decide +kernel
theorem dX6_ask_149 : decode cX6_ask 149 = .ok (.iload 9, 2) := by decide +kernel
theorem dX6_ask_151 : decode cX6_ask 151 = .ok (.iload 5, 2) := by decide +kernel
theorem dX6_ask_153 : decode cX6_ask 153 = .ok (.if_icmp .ge 8, 3) := by decide +kernel
theorem dX6_ask_156 : decode cX6_ask 156 = .ok (.iload 9, 2) := by decide +kernel
theorem dX6_ask_158 : decode cX6_ask 158 = .ok (.goto 5, 3) := by decide +kernel
theorem dX6_ask_161 : decode cX6_ask 161 = .ok (.iload 5, 2) := by decide +kernel
theorem dX6_ask_163 : decode cX6_ask 163 = .ok (.istore 5, 2) := by decide +kernel
theorem dX6_ask_165 : decode cX6_ask 165 = .ok (.iinc 7 1, 3) := by decide +kernel
theorem dX6_ask_168 : decode cX6_ask 168 = .ok (.goto (-125), 3) := by decide +kernel
theorem dX6_ask_171 : decode cX6_ask 171 = .ok (.iload 6, 2) := by decide +kernel
theorem dX6_ask_173 : decode cX6_ask 173 = .ok (.bipush (-4), 2) := by decide +kernel
theorem dX6_ask_175 : decode cX6_ask 175 = .ok (.if_icmp .eq 7, 3) := by decide +kernel
theorem dX6_ask_178 : decode cX6_ask 178 = .ok (.iload_n 2, 1) := by decide +kernel
theorem dX6_ask_179 : decode cX6_ask 179 = .ok (.ifCond .ne 8, 3) := by decide +kernel
theorem dX6_ask_182 : decode cX6_ask 182 = .ok (.iload 6, 2) := by decide +kernel
theorem dX6_ask_184 : decode cX6_ask 184 = .ok (.goto 5, 3) := by decide +kernel
theorem dX6_ask_187 : decode cX6_ask 187 = .ok (.iload 5, 2) := by decide +kernel
theorem dX6_ask_189 : decode cX6_ask 189 = .ok (.ireturn, 1) := by decide +kernel
theorem dX6_drift_0 : decode cX6_drift 0 = .ok (.iload_n 2, 1) := by decide +kernel
theorem dX6_drift_1 : decode cX6_drift 1 = .ok (.i2l, 1) := by decide +kernel
theorem dX6_drift_2 : decode cX6_drift 2 = .ok (.lconst 1, 1) := by decide +kernel
theorem dX6_drift_3 : decode cX6_drift 3 = .ok (.ldc2_w 177, 3) := by decide +kernel
theorem dX6_drift_6 : decode cX6_drift 6 = .ok (.invokestatic 50, 3) := by decide +kernel
theorem dX6_drift_9 : decode cX6_drift 9 = .ok (.ifCond .eq 13, 3) := by decide +kernel
theorem dX6_drift_12 : decode cX6_drift 12 = .ok (.iload_n 3, 1) := by decide +kernel
theorem dX6_drift_13 : decode cX6_drift 13 = .ok (.i2l, 1) := by decide +kernel
theorem dX6_drift_14 : decode cX6_drift 14 = .ok (.lconst 0, 1) := by decide +kernel
theorem dX6_drift_15 : decode cX6_drift 15 = .ok (.lconst 1, 1) := by decide +kernel
theorem dX6_drift_16 : decode cX6_drift 16 = .ok (.invokestatic 50, 3) := by decide +kernel
theorem dX6_drift_19 : decode cX6_drift 19 = .ok (.ifCond .ne 5, 3) := by decide +kernel
theorem dX6_drift_22 : decode cX6_drift 22 = .ok (.iconst (-1), 1) := by decide +kernel
theorem dX6_drift_23 : decode cX6_drift 23 = .ok (.ireturn, 1) := by decide +kernel
theorem dX6_drift_24 : decode cX6_drift 24 = .ok (.aload_n 0, 1) := by decide +kernel
theorem dX6_drift_25 : decode cX6_drift 25 = .ok (.getfield 7, 3) := by decide +kernel
theorem dX6_drift_28 : decode cX6_drift 28 = .ok (.bipush 20, 2) := by decide +kernel
theorem dX6_drift_30 : decode cX6_drift 30 = .ok (.iaload, 1) := by decide +kernel
theorem dX6_drift_31 : decode cX6_drift 31 = .ok (.ifCond .ne 6, 3) := by decide +kernel
theorem dX6_drift_34 : decode cX6_drift 34 = .ok (.bipush (-2), 2) := by decide +kernel
theorem dX6_drift_36 : decode cX6_drift 36 = .ok (.ireturn, 1) := by decide +kernel
theorem dX6_drift_37 : decode cX6_drift 37 = .ok (.aload_n 0, 1) := by decide +kernel
theorem dX6_drift_38 : decode cX6_drift 38 = .ok (.iconst 0, 1) := by decide +kernel
theorem dX6_drift_39 : decode cX6_drift 39 = .ok (.bipush 92, 2) := by decide +kernel
theorem dX6_drift_41 : decode cX6_drift 41 = .ok (.invokevirtual 161, 3) := by decide +kernel
theorem dX6_drift_44 : decode cX6_drift 44 = .ok (.iconst 0, 1) := by decide +kernel
theorem dX6_drift_45 : decode cX6_drift 45 = .ok (.istore 4, 2) := by decide +kernel
theorem dX6_drift_47 : decode cX6_drift 47 = .ok (.iload_n 1, 1) := by decide +kernel
theorem dX6_drift_48 : decode cX6_drift 48 = .ok (.istore 5, 2) := by decide +kernel
theorem dX6_drift_50 : decode cX6_drift 50 = .ok (.iconst 0, 1) := by decide +kernel
theorem dX6_drift_51 : decode cX6_drift 51 = .ok (.istore 6, 2) := by decide +kernel
theorem dX6_drift_53 : decode cX6_drift 53 = .ok (.iload 6, 2) := by decide +kernel
theorem dX6_drift_55 : decode cX6_drift 55 = .ok (.iload_n 2, 1) := by decide +kernel
theorem dX6_drift_56 : decode cX6_drift 56 = .ok (.if_icmp .ge 71, 3) := by decide +kernel
theorem dX6_drift_59 : decode cX6_drift 59 = .ok (.iload 5, 2) := by decide +kernel
theorem dX6_drift_61 : decode cX6_drift 61 = .ok (.ldc 214, 2) := by decide +kernel
theorem dX6_drift_63 : decode cX6_drift 63 = .ok (.imul, 1) := by decide +kernel
theorem dX6_drift_64 : decode cX6_drift 64 = .ok (.sipush 12345, 3) := by decide +kernel
theorem dX6_drift_67 : decode cX6_drift 67 = .ok (.iadd, 1) := by decide +kernel
theorem dX6_drift_68 : decode cX6_drift 68 = .ok (.istore 5, 2) := by decide +kernel
theorem dX6_drift_70 : decode cX6_drift 70 = .ok (.iload 5, 2) := by decide +kernel
theorem dX6_drift_72 : decode cX6_drift 72 = .ok (.bipush 16, 2) := by decide +kernel
theorem dX6_drift_74 : decode cX6_drift 74 = .ok (.ishr, 1) := by decide +kernel
theorem dX6_drift_75 : decode cX6_drift 75 = .ok (.sipush 32767, 3) := by decide +kernel
theorem dX6_drift_78 : decode cX6_drift 78 = .ok (.iand, 1) := by decide +kernel
theorem dX6_drift_79 : decode cX6_drift 79 = .ok (.istore 7, 2) := by decide +kernel
theorem dX6_drift_81 : decode cX6_drift 81 = .ok (.aload_n 0, 1) := by decide +kernel
theorem dX6_drift_82 : decode cX6_drift 82 = .ok (.bipush 92, 2) := by decide +kernel
theorem dX6_drift_84 : decode cX6_drift 84 = .ok (.iload 7, 2) := by decide +kernel
theorem dX6_drift_86 : decode cX6_drift 86 = .ok (.aload_n 0, 1) := by decide +kernel
theorem dX6_drift_87 : decode cX6_drift 87 = .ok (.getfield 7, 3) := by decide +kernel
theorem dX6_drift_90 : decode cX6_drift 90 = .ok (.bipush 20, 2) := by decide +kernel
theorem dX6_drift_92 : decode cX6_drift 92 = .ok (.iaload, 1) := by decide +kernel
theorem dX6_drift_93 : decode cX6_drift 93 = .ok (.irem, 1) := by decide +kernel
theorem dX6_drift_94 : decode cX6_drift 94 = .ok (.iconst 1, 1) := by decide +kernel
theorem dX6_drift_95 : decode cX6_drift 95 = .ok (.iload 7, 2) := by decide +kernel
theorem dX6_drift_97 : decode cX6_drift 97 = .ok (.bipush 8, 2) := by decide +kernel
theorem dX6_drift_99 : decode cX6_drift 99 = .ok (.idiv, 1) := by decide +kernel
theorem dX6_drift_100 : decode cX6_drift 100 = .ok (.iconst 5, 1) := by decide +kernel
theorem dX6_drift_101 : decode cX6_drift 101 = .ok (.irem, 1) := by decide +kernel
theorem dX6_drift_102 : decode cX6_drift 102 = .ok (.iadd, 1) := by decide +kernel
theorem dX6_drift_103 : decode cX6_drift 103 = .ok (.invokevirtual 130, 3) := by decide +kernel
theorem dX6_drift_106 : decode cX6_drift 106 = .ok (.iload 4, 2) := by decide +kernel
theorem dX6_drift_108 : decode cX6_drift 108 = .ok (.aload_n 0, 1) := by decide +kernel
theorem dX6_drift_109 : decode cX6_drift 109 = .ok (.bipush 92, 2) := by decide +kernel
theorem dX6_drift_111 : decode cX6_drift 111 = .ok (.iconst 0, 1) := by decide +kernel
theorem dX6_drift_112 : decode cX6_drift 112 = .ok (.invokevirtual 157, 3) := by decide +kernel
theorem dX6_drift_115 : decode cX6_drift 115 = .ok (.invokestatic 127, 3) := by decide +kernel
theorem dX6_drift_118 : decode cX6_drift 118 = .ok (.iadd, 1) := by decide +kernel
theorem dX6_drift_119 : decode cX6_drift 119 = .ok (.istore 4, 2) := by decide +kernel
theorem dX6_drift_121 : decode cX6_drift 121 = .ok (.iinc 6 1, 3) := by decide +kernel
theorem dX6_drift_124 : decode cX6_drift 124 = .ok (.goto (-71), 3) := by decide +kernel
theorem dX6_drift_127 : decode cX6_drift 127 = .ok (.iload_n 3, 1) := by decide +kernel
theorem dX6_drift_128 : decode cX6_drift 128 = .ok (.ifCond .ne 8, 3) := by decide +kernel
theorem dX6_drift_131 : decode cX6_drift 131 = .ok (.iload 4, 2) := by decide +kernel
theorem dX6_drift_133 : decode cX6_drift 133 = .ok (.goto 11, 3) := by decide +kernel
theorem dX6_drift_136 : decode cX6_drift 136 = .ok (.aload_n 0, 1) := by decide +kernel
theorem dX6_drift_137 : decode cX6_drift 137 = .ok (.bipush 92, 2) := by decide +kernel
theorem dX6_drift_139 : decode cX6_drift 139 = .ok (.bipush 10, 2) := by decide +kernel
theorem dX6_drift_141 : decode cX6_drift 141 = .ok (.invokevirtual 134, 3) := by decide +kernel
theorem dX6_drift_144 : decode cX6_drift 144 = .ok (.ireturn, 1) := by decide +kernel
theorem dX6_keep_0 : decode cX6_keep 0 = .ok (.iload_n 1, 1) := by decide +kernel
theorem dX6_keep_1 : decode cX6_keep 1 = .ok (.i2l, 1) := by decide +kernel
theorem dX6_keep_2 : decode cX6_keep 2 = .ok (.lconst 0, 1) := by decide +kernel
theorem dX6_keep_3 : decode cX6_keep 3 = .ok (.lconst 1, 1) := by decide +kernel
theorem dX6_keep_4 : decode cX6_keep 4 = .ok (.invokestatic 50, 3) := by decide +kernel
theorem dX6_keep_7 : decode cX6_keep 7 = .ok (.ifCond .ne 5, 3) := by decide +kernel
theorem dX6_keep_10 : decode cX6_keep 10 = .ok (.iconst (-1), 1) := by decide +kernel
theorem dX6_keep_11 : decode cX6_keep 11 = .ok (.ireturn, 1) := by decide +kernel
theorem dX6_keep_12 : decode cX6_keep 12 = .ok (.aload_n 0, 1) := by decide +kernel
theorem dX6_keep_13 : decode cX6_keep 13 = .ok (.iconst 0, 1) := by decide +kernel
theorem dX6_keep_14 : decode cX6_keep 14 = .ok (.bipush 23, 2) := by decide +kernel
theorem dX6_keep_16 : decode cX6_keep 16 = .ok (.iload_n 1, 1) := by decide +kernel
theorem dX6_keep_17 : decode cX6_keep 17 = .ok (.iconst 1, 1) := by decide +kernel
theorem dX6_keep_18 : decode cX6_keep 18 = .ok (.iadd, 1) := by decide +kernel
theorem dX6_keep_19 : decode cX6_keep 19 = .ok (.imul, 1) := by decide +kernel
theorem dX6_keep_20 : decode cX6_keep 20 = .ok (.invokevirtual 161, 3) := by decide +kernel
theorem dX6_keep_23 : decode cX6_keep 23 = .ok (.aload_n 0, 1) := by decide +kernel
theorem dX6_keep_24 : decode cX6_keep 24 = .ok (.getfield 35, 3) := by decide +kernel
theorem dX6_keep_27 : decode cX6_keep 27 = .ok (.iload_n 1, 1) := by decide +kernel
theorem dX6_keep_28 : decode cX6_keep 28 = .ok (.baload, 1) := by decide +kernel
theorem dX6_keep_29 : decode cX6_keep 29 = .ok (.ifCond .eq 7, 3) := by decide +kernel
theorem dX6_keep_32 : decode cX6_keep 32 = .ok (.iconst 1, 1) := by decide +kernel
theorem dX6_keep_33 : decode cX6_keep 33 = .ok (.goto 4, 3) := by decide +kernel
theorem dX6_keep_36 : decode cX6_keep 36 = .ok (.iconst 0, 1) := by decide +kernel
theorem dX6_keep_37 : decode cX6_keep 37 = .ok (.istore_n 2, 1) := by decide +kernel
theorem dX6_keep_38 : decode cX6_keep 38 = .ok (.aload_n 0, 1) := by decide +kernel
theorem dX6_keep_39 : decode cX6_keep 39 = .ok (.getfield 35, 3) := by decide +kernel
theorem dX6_keep_42 : decode cX6_keep 42 = .ok (.iload_n 1, 1) := by decide +kernel
theorem dX6_keep_43 : decode cX6_keep 43 = .ok (.iconst 1, 1) := by decide +kernel
theorem dX6_keep_44 : decode cX6_keep 44 = .ok (.bastore, 1) := by decide +kernel
theorem dX6_keep_45 : decode cX6_keep 45 = .ok (.iload_n 2, 1) := by decide +kernel
theorem dX6_keep_46 : decode cX6_keep 46 = .ok (.ireturn, 1) := by decide +kernel
theorem dX6_back_0 : decode cX6_back 0 = .ok (.iload_n 1, 1) := by decide +kernel
theorem dX6_back_1 : decode cX6_back 1 = .ok (.i2l, 1) := by decide +kernel
theorem dX6_back_2 : decode cX6_back 2 = .ok (.lconst 0, 1) := by decide +kernel
theorem dX6_back_3 : decode cX6_back 3 = .ok (.lconst 1, 1) := by decide +kernel
theorem dX6_back_4 : decode cX6_back 4 = .ok (.invokestatic 50, 3) := by decide +kernel
theorem dX6_back_7 : decode cX6_back 7 = .ok (.ifCond .ne 5, 3) := by decide +kernel
theorem dX6_back_10 : decode cX6_back 10 = .ok (.iconst (-1), 1) := by decide +kernel
theorem dX6_back_11 : decode cX6_back 11 = .ok (.ireturn, 1) := by decide +kernel
theorem dX6_back_12 : decode cX6_back 12 = .ok (.aload_n 0, 1) := by decide +kernel
theorem dX6_back_13 : decode cX6_back 13 = .ok (.getfield 35, 3) := by decide +kernel
theorem dX6_back_16 : decode cX6_back 16 = .ok (.iload_n 1, 1) := by decide +kernel
theorem dX6_back_17 : decode cX6_back 17 = .ok (.baload, 1) := by decide +kernel
theorem dX6_back_18 : decode cX6_back 18 = .ok (.ifCond .ne 6, 3) := by decide +kernel
theorem dX6_back_21 : decode cX6_back 21 = .ok (.bipush (-2), 2) := by decide +kernel
theorem dX6_back_23 : decode cX6_back 23 = .ok (.ireturn, 1) := by decide +kernel
theorem dX6_back_24 : decode cX6_back 24 = .ok (.aload_n 0, 1) := by decide +kernel
theorem dX6_back_25 : decode cX6_back 25 = .ok (.bipush 23, 2) := by decide +kernel
theorem dX6_back_27 : decode cX6_back 27 = .ok (.iload_n 1, 1) := by decide +kernel
theorem dX6_back_28 : decode cX6_back 28 = .ok (.iconst 1, 1) := by decide +kernel
theorem dX6_back_29 : decode cX6_back 29 = .ok (.iadd, 1) := by decide +kernel
theorem dX6_back_30 : decode cX6_back 30 = .ok (.imul, 1) := by decide +kernel
theorem dX6_back_31 : decode cX6_back 31 = .ok (.iconst 0, 1) := by decide +kernel
theorem dX6_back_32 : decode cX6_back 32 = .ok (.invokevirtual 161, 3) := by decide +kernel
theorem dX6_back_35 : decode cX6_back 35 = .ok (.aload_n 0, 1) := by decide +kernel
theorem dX6_back_36 : decode cX6_back 36 = .ok (.getfield 7, 3) := by decide +kernel
theorem dX6_back_39 : decode cX6_back 39 = .ok (.bipush 22, 2) := by decide +kernel
theorem dX6_back_41 : decode cX6_back 41 = .ok (.iaload, 1) := by decide +kernel
theorem dX6_back_42 : decode cX6_back 42 = .ok (.ireturn, 1) := by decide +kernel
theorem dX6_sheet_0 : decode cX6_sheet 0 = .ok (.iload_n 1, 1) := by decide +kernel
theorem dX6_sheet_1 : decode cX6_sheet 1 = .ok (.i2l, 1) := by decide +kernel
theorem dX6_sheet_2 : decode cX6_sheet 2 = .ok (.lconst 0, 1) := by decide +kernel
theorem dX6_sheet_3 : decode cX6_sheet 3 = .ok (.ldc2_w 141, 3) := by decide +kernel
theorem dX6_sheet_6 : decode cX6_sheet 6 = .ok (.invokestatic 50, 3) := by decide +kernel
theorem dX6_sheet_9 : decode cX6_sheet 9 = .ok (.ifCond .eq 21, 3) := by decide +kernel
theorem dX6_sheet_12 : decode cX6_sheet 12 = .ok (.iload_n 2, 1) := by decide +kernel
theorem dX6_sheet_13 : decode cX6_sheet 13 = .ok (.i2l, 1) := by decide +kernel
theorem dX6_sheet_14 : decode cX6_sheet 14 = .ok (.lconst 0, 1) := by decide +kernel
theorem dX6_sheet_15 : decode cX6_sheet 15 = .ok (.ldc2_w 143, 3) := by decide +kernel
theorem dX6_sheet_18 : decode cX6_sheet 18 = .ok (.invokestatic 50, 3) := by decide +kernel
theorem dX6_sheet_21 : decode cX6_sheet 21 = .ok (.ifCond .eq 9, 3) := by decide +kernel
theorem dX6_sheet_24 : decode cX6_sheet 24 = .ok (.iload_n 3, 1) := by decide +kernel
theorem dX6_sheet_25 : decode cX6_sheet 25 = .ok (.bipush 40, 2) := by decide +kernel
theorem dX6_sheet_27 : decode cX6_sheet 27 = .ok (.if_icmp .le 5, 3) := by decide +kernel
theorem dX6_sheet_30 : decode cX6_sheet 30 = .ok (.iconst (-1), 1) := by decide +kernel
theorem dX6_sheet_31 : decode cX6_sheet 31 = .ok (.ireturn, 1) := by decide +kernel
theorem dX6_sheet_32 : decode cX6_sheet 32 = .ok (.iload_n 3, 1) := by decide +kernel
theorem dX6_sheet_33 : decode cX6_sheet 33 = .ok (.ifCond .ge 6, 3) := by decide +kernel
theorem dX6_sheet_36 : decode cX6_sheet 36 = .ok (.bipush (-14), 2) := by decide +kernel
theorem dX6_sheet_38 : decode cX6_sheet 38 = .ok (.ireturn, 1) := by decide +kernel
theorem dX6_sheet_39 : decode cX6_sheet 39 = .ok (.aload_n 0, 1) := by decide +kernel
theorem dX6_sheet_40 : decode cX6_sheet 40 = .ok (.getfield 39, 3) := by decide +kernel
theorem dX6_sheet_43 : decode cX6_sheet 43 = .ok (.iload_n 1, 1) := by decide +kernel
theorem dX6_sheet_44 : decode cX6_sheet 44 = .ok (.iload_n 2, 1) := by decide +kernel
theorem dX6_sheet_45 : decode cX6_sheet 45 = .ok (.iastore, 1) := by decide +kernel
theorem dX6_sheet_46 : decode cX6_sheet 46 = .ok (.aload_n 0, 1) := by decide +kernel
theorem dX6_sheet_47 : decode cX6_sheet 47 = .ok (.getfield 42, 3) := by decide +kernel
theorem dX6_sheet_50 : decode cX6_sheet 50 = .ok (.iload_n 1, 1) := by decide +kernel
theorem dX6_sheet_51 : decode cX6_sheet 51 = .ok (.iload_n 3, 1) := by decide +kernel
theorem dX6_sheet_52 : decode cX6_sheet 52 = .ok (.iastore, 1) := by decide +kernel
theorem dX6_sheet_53 : decode cX6_sheet 53 = .ok (.iconst 0, 1) := by decide +kernel
theorem dX6_sheet_54 : decode cX6_sheet 54 = .ok (.istore 4, 2) := by decide +kernel
theorem dX6_sheet_56 : decode cX6_sheet 56 = .ok (.iload 4, 2) := by decide +kernel
theorem dX6_sheet_58 : decode cX6_sheet 58 = .ok (.bipush 40, 2) := by decide +kernel
theorem dX6_sheet_60 : decode cX6_sheet 60 = .ok (.if_icmp .ge 22, 3) := by decide +kernel
theorem dX6_sheet_63 : decode cX6_sheet 63 = .ok (.aload_n 0, 1) := by decide +kernel
theorem dX6_sheet_64 : decode cX6_sheet 64 = .ok (.getfield 45, 3) := by decide +kernel
theorem dX6_sheet_67 : decode cX6_sheet 67 = .ok (.bipush 40, 2) := by decide +kernel
theorem dX6_sheet_69 : decode cX6_sheet 69 = .ok (.iload_n 1, 1) := by decide +kernel
theorem dX6_sheet_70 : decode cX6_sheet 70 = .ok (.imul, 1) := by decide +kernel
theorem dX6_sheet_71 : decode cX6_sheet 71 = .ok (.iload 4, 2) := by decide +kernel
theorem dX6_sheet_73 : decode cX6_sheet 73 = .ok (.iadd, 1) := by decide +kernel
theorem dX6_sheet_74 : decode cX6_sheet 74 = .ok (.iconst 0, 1) := by decide +kernel
theorem dX6_sheet_75 : decode cX6_sheet 75 = .ok (.iastore, 1) := by decide +kernel
theorem dX6_sheet_76 : decode cX6_sheet 76 = .ok (.iinc 4 1, 3) := by decide +kernel
theorem dX6_sheet_79 : decode cX6_sheet 79 = .ok (.goto (-23), 3) := by decide +kernel
theorem dX6_sheet_82 : decode cX6_sheet 82 = .ok (.iconst 1, 1) := by decide +kernel
theorem dX6_sheet_83 : decode cX6_sheet 83 = .ok (.ireturn, 1) := by decide +kernel
theorem dX6_lay_0 : decode cX6_lay 0 = .ok (.iload_n 1, 1) := by decide +kernel
theorem dX6_lay_1 : decode cX6_lay 1 = .ok (.i2l, 1) := by decide +kernel
theorem dX6_lay_2 : decode cX6_lay 2 = .ok (.lconst 0, 1) := by decide +kernel
theorem dX6_lay_3 : decode cX6_lay 3 = .ok (.ldc2_w 141, 3) := by decide +kernel
theorem dX6_lay_6 : decode cX6_lay 6 = .ok (.invokestatic 50, 3) := by decide +kernel
theorem dX6_lay_9 : decode cX6_lay 9 = .ok (.ifCond .ne 5, 3) := by decide +kernel
theorem dX6_lay_12 : decode cX6_lay 12 = .ok (.iconst (-1), 1) := by decide +kernel
theorem dX6_lay_13 : decode cX6_lay 13 = .ok (.ireturn, 1) := by decide +kernel
theorem dX6_lay_14 : decode cX6_lay 14 = .ok (.aload_n 0, 1) := by decide +kernel
theorem dX6_lay_15 : decode cX6_lay 15 = .ok (.getfield 39, 3) := by decide +kernel
theorem dX6_lay_18 : decode cX6_lay 18 = .ok (.iload_n 1, 1) := by decide +kernel
theorem dX6_lay_19 : decode cX6_lay 19 = .ok (.iaload, 1) := by decide +kernel
theorem dX6_lay_20 : decode cX6_lay 20 = .ok (.bipush (-4), 2) := by decide +kernel
theorem dX6_lay_22 : decode cX6_lay 22 = .ok (.if_icmp .ne 6, 3) := by decide +kernel
theorem dX6_lay_25 : decode cX6_lay 25 = .ok (.bipush (-11), 2) := by decide +kernel
theorem dX6_lay_27 : decode cX6_lay 27 = .ok (.ireturn, 1) := by decide +kernel
theorem dX6_lay_28 : decode cX6_lay 28 = .ok (.iload_n 2, 1) := by decide +kernel
theorem dX6_lay_29 : decode cX6_lay 29 = .ok (.i2l, 1) := by decide +kernel
theorem dX6_lay_30 : decode cX6_lay 30 = .ok (.lconst 0, 1) := by decide +kernel
theorem dX6_lay_31 : decode cX6_lay 31 = .ok (.aload_n 0, 1) := by decide +kernel
theorem dX6_lay_32 : decode cX6_lay 32 = .ok (.getfield 42, 3) := by decide +kernel
theorem dX6_lay_35 : decode cX6_lay 35 = .ok (.iload_n 1, 1) := by decide +kernel
theorem dX6_lay_36 : decode cX6_lay 36 = .ok (.iaload, 1) := by decide +kernel
theorem dX6_lay_37 : decode cX6_lay 37 = .ok (.iconst 1, 1) := by decide +kernel
theorem dX6_lay_38 : decode cX6_lay 38 = .ok (.isub, 1) := by decide +kernel
theorem dX6_lay_39 : decode cX6_lay 39 = .ok (.i2l, 1) := by decide +kernel
theorem dX6_lay_40 : decode cX6_lay 40 = .ok (.invokestatic 50, 3) := by decide +kernel
theorem dX6_lay_43 : decode cX6_lay 43 = .ok (.ifCond .ne 6, 3) := by decide +kernel
theorem dX6_lay_46 : decode cX6_lay 46 = .ok (.bipush (-12), 2) := by decide +kernel
theorem dX6_lay_48 : decode cX6_lay 48 = .ok (.ireturn, 1) := by decide +kernel
theorem dX6_lay_49 : decode cX6_lay 49 = .ok (.aload_n 0, 1) := by decide +kernel
theorem dX6_lay_50 : decode cX6_lay 50 = .ok (.getfield 45, 3) := by decide +kernel
theorem dX6_lay_53 : decode cX6_lay 53 = .ok (.bipush 40, 2) := by decide +kernel
theorem dX6_lay_55 : decode cX6_lay 55 = .ok (.iload_n 1, 1) := by decide +kernel
theorem dX6_lay_56 : decode cX6_lay 56 = .ok (.imul, 1) := by decide +kernel
theorem dX6_lay_57 : decode cX6_lay 57 = .ok (.iload_n 2, 1) := by decide +kernel
theorem dX6_lay_58 : decode cX6_lay 58 = .ok (.iadd, 1) := by decide +kernel
theorem dX6_lay_59 : decode cX6_lay 59 = .ok (.aload_n 0, 1) := by decide +kernel
theorem dX6_lay_60 : decode cX6_lay 60 = .ok (.getfield 39, 3) := by decide +kernel
theorem dX6_lay_63 : decode cX6_lay 63 = .ok (.iload_n 1, 1) := by decide +kernel
theorem dX6_lay_64 : decode cX6_lay 64 = .ok (.iaload, 1) := by decide +kernel
theorem dX6_lay_65 : decode cX6_lay 65 = .ok (.ifCond .ne 13, 3) := by decide +kernel
theorem dX6_lay_68 : decode cX6_lay 68 = .ok (.iload_n 3, 1) := by decide +kernel
theorem dX6_lay_69 : decode cX6_lay 69 = .ok (.bipush 24, 2) := by decide +kernel
theorem dX6_lay_71 : decode cX6_lay 71 = .ok (.ishl, 1) := by decide +kernel
theorem dX6_lay_72 : decode cX6_lay 72 = .ok (.bipush 24, 2) := by decide +kernel
theorem dX6_lay_74 : decode cX6_lay 74 = .ok (.ishr, 1) := by decide +kernel
theorem dX6_lay_75 : decode cX6_lay 75 = .ok (.goto 24, 3) := by decide +kernel
theorem dX6_lay_78 : decode cX6_lay 78 = .ok (.aload_n 0, 1) := by decide +kernel
theorem dX6_lay_79 : decode cX6_lay 79 = .ok (.getfield 39, 3) := by decide +kernel
theorem dX6_lay_82 : decode cX6_lay 82 = .ok (.iload_n 1, 1) := by decide +kernel
theorem dX6_lay_83 : decode cX6_lay 83 = .ok (.iaload, 1) := by decide +kernel
theorem dX6_lay_84 : decode cX6_lay 84 = .ok (.iconst 1, 1) := by decide +kernel
theorem dX6_lay_85 : decode cX6_lay 85 = .ok (.if_icmp .ne 13, 3) := by decide +kernel
theorem dX6_lay_88 : decode cX6_lay 88 = .ok (.iload_n 3, 1) := by decide +kernel
theorem dX6_lay_89 : decode cX6_lay 89 = .ok (.bipush 16, 2) := by decide +kernel
theorem dX6_lay_91 : decode cX6_lay 91 = .ok (.ishl, 1) := by decide +kernel
theorem dX6_lay_92 : decode cX6_lay 92 = .ok (.bipush 16, 2) := by decide +kernel
theorem dX6_lay_94 : decode cX6_lay 94 = .ok (.ishr, 1) := by decide +kernel
theorem dX6_lay_95 : decode cX6_lay 95 = .ok (.goto 4, 3) := by decide +kernel
theorem dX6_lay_98 : decode cX6_lay 98 = .ok (.iload_n 3, 1) := by decide +kernel
theorem dX6_lay_99 : decode cX6_lay 99 = .ok (.iastore, 1) := by decide +kernel
theorem dX6_lay_100 : decode cX6_lay 100 = .ok (.iconst 1, 1) := by decide +kernel
theorem dX6_lay_101 : decode cX6_lay 101 = .ok (.ireturn, 1) := by decide +kernel
theorem dX6_read_0 : decode cX6_read 0 = .ok (.iload_n 1, 1) := by decide +kernel
theorem dX6_read_1 : decode cX6_read 1 = .ok (.i2l, 1) := by decide +kernel
theorem dX6_read_2 : decode cX6_read 2 = .ok (.lconst 0, 1) := by decide +kernel
theorem dX6_read_3 : decode cX6_read 3 = .ok (.ldc2_w 141, 3) := by decide +kernel
theorem dX6_read_6 : decode cX6_read 6 = .ok (.invokestatic 50, 3) := by decide +kernel
theorem dX6_read_9 : decode cX6_read 9 = .ok (.ifCond .eq 28, 3) := by decide +kernel
theorem dX6_read_12 : decode cX6_read 12 = .ok (.iload_n 2, 1) := by decide +kernel
theorem dX6_read_13 : decode cX6_read 13 = .ok (.i2l, 1) := by decide +kernel
theorem dX6_read_14 : decode cX6_read 14 = .ok (.lconst 0, 1) := by decide +kernel
theorem dX6_read_15 : decode cX6_read 15 = .ok (.ldc2_w 143, 3) := by decide +kernel
theorem dX6_read_18 : decode cX6_read 18 = .ok (.invokestatic 50, 3) := by decide +kernel
theorem dX6_read_21 : decode cX6_read 21 = .ok (.ifCond .eq 16, 3) := by decide +kernel
theorem dX6_read_24 : decode cX6_read 24 = .ok (.iload 4, 2) := by decide +kernel
theorem dX6_read_26 : decode cX6_read 26 = .ok (.i2l, 1) := by decide +kernel
theorem dX6_read_27 : decode cX6_read 27 = .ok (.lconst 0, 1) := by decide +kernel
theorem dX6_read_28 : decode cX6_read 28 = .ok (.ldc2_w 215, 3) := by decide +kernel
theorem dX6_read_31 : decode cX6_read 31 = .ok (.invokestatic 50, 3) := by decide +kernel
theorem dX6_read_34 : decode cX6_read 34 = .ok (.ifCond .ne 5, 3) := by decide +kernel
theorem dX6_read_37 : decode cX6_read 37 = .ok (.iconst (-1), 1) := by decide +kernel
theorem dX6_read_38 : decode cX6_read 38 = .ok (.ireturn, 1) := by decide +kernel
theorem dX6_read_39 : decode cX6_read 39 = .ok (.aload_n 0, 1) := by decide +kernel
theorem dX6_read_40 : decode cX6_read 40 = .ok (.iconst 0, 1) := by decide +kernel
theorem dX6_read_41 : decode cX6_read 41 = .ok (.bipush 69, 2) := by decide +kernel
theorem dX6_read_43 : decode cX6_read 43 = .ok (.invokevirtual 161, 3) := by decide +kernel
theorem dX6_read_46 : decode cX6_read 46 = .ok (.iconst 0, 1) := by decide +kernel
theorem dX6_read_47 : decode cX6_read 47 = .ok (.istore 5, 2) := by decide +kernel
theorem dX6_read_49 : decode cX6_read 49 = .ok (.iconst 0, 1) := by decide +kernel
theorem dX6_read_50 : decode cX6_read 50 = .ok (.istore 6, 2) := by decide +kernel
theorem dX6_read_52 : decode cX6_read 52 = .ok (.iconst 0, 1) := by decide +kernel
theorem dX6_read_53 : decode cX6_read 53 = .ok (.istore 7, 2) := by decide +kernel
theorem dX6_read_55 : decode cX6_read 55 = .ok (.iload 7, 2) := by decide +kernel
theorem dX6_read_57 : decode cX6_read 57 = .ok (.iconst 2, 1) := by decide +kernel
theorem dX6_read_58 : decode cX6_read 58 = .ok (.iload 4, 2) := by decide +kernel
theorem dX6_read_60 : decode cX6_read 60 = .ok (.imul, 1) := by decide +kernel
theorem dX6_read_61 : decode cX6_read 61 = .ok (.if_icmp .ge 136, 3) := by decide +kernel
theorem dX6_read_64 : decode cX6_read 64 = .ok (.iload 5, 2) := by decide +kernel
theorem dX6_read_66 : decode cX6_read 66 = .ok (.ifCond .ne 131, 3) := by decide +kernel
theorem dX6_read_69 : decode cX6_read 69 = .ok (.aload_n 0, 1) := by decide +kernel
theorem dX6_read_70 : decode cX6_read 70 = .ok (.getfield 39, 3) := by decide +kernel
theorem dX6_read_73 : decode cX6_read 73 = .ok (.iload_n 1, 1) := by decide +kernel
theorem dX6_read_74 : decode cX6_read 74 = .ok (.iaload, 1) := by decide +kernel
theorem dX6_read_75 : decode cX6_read 75 = .ok (.bipush (-4), 2) := by decide +kernel
theorem dX6_read_77 : decode cX6_read 77 = .ok (.if_icmp .ne 7, 3) := by decide +kernel
theorem dX6_read_80 : decode cX6_read 80 = .ok (.iconst 1, 1) := by decide +kernel
theorem dX6_read_81 : decode cX6_read 81 = .ok (.goto 44, 3) := by decide +kernel
theorem dX6_read_84 : decode cX6_read 84 = .ok (.aload_n 0, 1) := by decide +kernel
theorem dX6_read_85 : decode cX6_read 85 = .ok (.getfield 39, 3) := by decide +kernel
theorem dX6_read_88 : decode cX6_read 88 = .ok (.iload_n 1, 1) := by decide +kernel
theorem dX6_read_89 : decode cX6_read 89 = .ok (.iaload, 1) := by decide +kernel
theorem dX6_read_90 : decode cX6_read 90 = .ok (.iload_n 2, 1) := by decide +kernel
theorem dX6_read_91 : decode cX6_read 91 = .ok (.if_icmp .eq 7, 3) := by decide +kernel
theorem dX6_read_94 : decode cX6_read 94 = .ok (.iconst 3, 1) := by decide +kernel
theorem dX6_read_95 : decode cX6_read 95 = .ok (.goto 30, 3) := by decide +kernel
theorem dX6_read_98 : decode cX6_read 98 = .ok (.iload_n 3, 1) := by decide +kernel
theorem dX6_read_99 : decode cX6_read 99 = .ok (.i2l, 1) := by decide +kernel
theorem dX6_read_100 : decode cX6_read 100 = .ok (.iload 7, 2) := by decide +kernel
theorem dX6_read_102 : decode cX6_read 102 = .ok (.i2l, 1) := by decide +kernel
theorem dX6_read_103 : decode cX6_read 103 = .ok (.ladd, 1) := by decide +kernel
theorem dX6_read_104 : decode cX6_read 104 = .ok (.lconst 0, 1) := by decide +kernel
theorem dX6_read_105 : decode cX6_read 105 = .ok (.aload_n 0, 1) := by decide +kernel
theorem dX6_read_106 : decode cX6_read 106 = .ok (.getfield 42, 3) := by decide +kernel
theorem dX6_read_109 : decode cX6_read 109 = .ok (.iload_n 1, 1) := by decide +kernel
theorem dX6_read_110 : decode cX6_read 110 = .ok (.iaload, 1) := by decide +kernel
theorem dX6_read_111 : decode cX6_read 111 = .ok (.iconst 1, 1) := by decide +kernel
theorem dX6_read_112 : decode cX6_read 112 = .ok (.isub, 1) := by decide +kernel
theorem dX6_read_113 : decode cX6_read 113 = .ok (.i2l, 1) := by decide +kernel
theorem dX6_read_114 : decode cX6_read 114 = .ok (.invokestatic 50, 3) := by decide +kernel
theorem dX6_read_117 : decode cX6_read 117 = .ok (.ifCond .ne 7, 3) := by decide +kernel
theorem dX6_read_120 : decode cX6_read 120 = .ok (.iconst 2, 1) := by decide +kernel
theorem dX6_read_121 : decode cX6_read 121 = .ok (.goto 4, 3) := by decide +kernel
theorem dX6_read_124 : decode cX6_read 124 = .ok (.iconst 0, 1) := by decide +kernel
theorem dX6_read_125 : decode cX6_read 125 = .ok (.istore 5, 2) := by decide +kernel
theorem dX6_read_127 : decode cX6_read 127 = .ok (.iload 5, 2) := by decide +kernel
theorem dX6_read_129 : decode cX6_read 129 = .ok (.ifCond .ne 62, 3) := by decide +kernel
theorem dX6_read_132 : decode cX6_read 132 = .ok (.iload 7, 2) := by decide +kernel
theorem dX6_read_134 : decode cX6_read 134 = .ok (.iconst 2, 1) := by decide +kernel
theorem dX6_read_135 : decode cX6_read 135 = .ok (.irem, 1) := by decide +kernel
theorem dX6_read_136 : decode cX6_read 136 = .ok (.iconst 1, 1) := by decide +kernel
theorem dX6_read_137 : decode cX6_read 137 = .ok (.if_icmp .ne 54, 3) := by decide +kernel
theorem dX6_read_140 : decode cX6_read 140 = .ok (.bipush 40, 2) := by decide +kernel
theorem dX6_read_142 : decode cX6_read 142 = .ok (.iload_n 1, 1) := by decide +kernel
theorem dX6_read_143 : decode cX6_read 143 = .ok (.imul, 1) := by decide +kernel
theorem dX6_read_144 : decode cX6_read 144 = .ok (.iload_n 3, 1) := by decide +kernel
theorem dX6_read_145 : decode cX6_read 145 = .ok (.iadd, 1) := by decide +kernel
theorem dX6_read_146 : decode cX6_read 146 = .ok (.iload 7, 2) := by decide +kernel
theorem dX6_read_148 : decode cX6_read 148 = .ok (.iadd, 1) := by decide +kernel
theorem dX6_read_149 : decode cX6_read 149 = .ok (.istore 8, 2) := by decide +kernel
theorem dX6_read_151 : decode cX6_read 151 = .ok (.aload_n 0, 1) := by decide +kernel
theorem dX6_read_152 : decode cX6_read 152 = .ok (.aload_n 0, 1) := by decide +kernel
theorem dX6_read_153 : decode cX6_read 153 = .ok (.getfield 45, 3) := by decide +kernel
theorem dX6_read_156 : decode cX6_read 156 = .ok (.iload 8, 2) := by decide +kernel
theorem dX6_read_158 : decode cX6_read 158 = .ok (.iconst 1, 1) := by decide +kernel
theorem dX6_read_159 : decode cX6_read 159 = .ok (.isub, 1) := by decide +kernel
theorem dX6_read_160 : decode cX6_read 160 = .ok (.iaload, 1) := by decide +kernel
theorem dX6_read_161 : decode cX6_read 161 = .ok (.iconst 2, 1) := by decide +kernel
theorem dX6_read_162 : decode cX6_read 162 = .ok (.aload_n 0, 1) := by decide +kernel
theorem dX6_read_163 : decode cX6_read 163 = .ok (.getfield 45, 3) := by decide +kernel
theorem dX6_read_166 : decode cX6_read 166 = .ok (.iload 8, 2) := by decide +kernel
theorem dX6_read_168 : decode cX6_read 168 = .ok (.iaload, 1) := by decide +kernel
theorem dX6_read_169 : decode cX6_read 169 = .ok (.invokevirtual 149, 3) := by decide +kernel
theorem dX6_read_172 : decode cX6_read 172 = .ok (.ifCond .ge 16, 3) := by decide +kernel
theorem dX6_read_175 : decode cX6_read 175 = .ok (.aload_n 0, 1) := by decide +kernel
theorem dX6_read_176 : decode cX6_read 176 = .ok (.bipush 69, 2) := by decide +kernel
theorem dX6_read_178 : decode cX6_read 178 = .ok (.iconst 0, 1) := by decide +kernel
theorem dX6_read_179 : decode cX6_read 179 = .ok (.invokevirtual 161, 3) := by decide +kernel
theorem dX6_read_182 : decode cX6_read 182 = .ok (.bipush (-20), 2) := by decide +kernel
theorem dX6_read_184 : decode cX6_read 184 = .ok (.iload 6, 2) := by decide +kernel
theorem dX6_read_186 : decode cX6_read 186 = .ok (.isub, 1) := by decide +kernel
theorem dX6_read_187 : decode cX6_read 187 = .ok (.ireturn, 1) := by decide +kernel
theorem dX6_read_188 : decode cX6_read 188 = .ok (.iinc 6 1, 3) := by decide +kernel
theorem dX6_read_191 : decode cX6_read 191 = .ok (.iinc 7 1, 3) := by decide +kernel
theorem dX6_read_194 : decode cX6_read 194 = .ok (.goto (-139), 3) := by decide +kernel
theorem dX6_read_197 : decode cX6_read 197 = .ok (.aload_n 0, 1) := by decide +kernel
theorem dX6_read_198 : decode cX6_read 198 = .ok (.iload 5, 2) := by decide +kernel
theorem dX6_read_200 : decode cX6_read 200 = .ok (.putfield 217, 3) := by decide +kernel
theorem dX6_read_203 : decode cX6_read 203 = .ok (.iload 6, 2) := by decide +kernel
theorem dX6_read_205 : decode cX6_read 205 = .ok (.ireturn, 1) := by decide +kernel
theorem dX6_torn_0 : decode cX6_torn 0 = .ok (.aload_n 0, 1) := by decide +kernel
theorem dX6_torn_1 : decode cX6_torn 1 = .ok (.getfield 217, 3) := by decide +kernel
theorem dX6_torn_4 : decode cX6_torn 4 = .ok (.ireturn, 1) := by decide +kernel
theorem dX6_count_0 : decode cX6_count 0 = .ok (.iload_n 1, 1) := by decide +kernel
theorem dX6_count_1 : decode cX6_count 1 = .ok (.tableswitch 116 0 5 #[39, 44, 74, 79, 102, 109], 39) := by decide +kernel
theorem dX6_count_40 : decode cX6_count 40 = .ok (.aload_n 0, 1) := by decide +kernel
theorem dX6_count_41 : decode cX6_count 41 = .ok (.getfield 117, 3) := by decide +kernel
theorem dX6_count_44 : decode cX6_count 44 = .ok (.ireturn, 1) := by decide +kernel
theorem dX6_count_45 : decode cX6_count 45 = .ok (.aload_n 0, 1) := by decide +kernel
theorem dX6_count_46 : decode cX6_count 46 = .ok (.getfield 35, 3) := by decide +kernel
theorem dX6_count_49 : decode cX6_count 49 = .ok (.iconst 0, 1) := by decide +kernel
theorem dX6_count_50 : decode cX6_count 50 = .ok (.baload, 1) := by decide +kernel
theorem dX6_count_51 : decode cX6_count 51 = .ok (.ifCond .eq 7, 3) := by decide +kernel
theorem dX6_count_54 : decode cX6_count 54 = .ok (.iconst 1, 1) := by decide +kernel
theorem dX6_count_55 : decode cX6_count 55 = .ok (.goto 4, 3) := by decide +kernel
theorem dX6_count_58 : decode cX6_count 58 = .ok (.iconst 0, 1) := by decide +kernel
theorem dX6_count_59 : decode cX6_count 59 = .ok (.aload_n 0, 1) := by decide +kernel
theorem dX6_count_60 : decode cX6_count 60 = .ok (.getfield 35, 3) := by decide +kernel
theorem dX6_count_63 : decode cX6_count 63 = .ok (.iconst 1, 1) := by decide +kernel
theorem dX6_count_64 : decode cX6_count 64 = .ok (.baload, 1) := by decide +kernel
theorem dX6_count_65 : decode cX6_count 65 = .ok (.ifCond .eq 7, 3) := by decide +kernel
theorem dX6_count_68 : decode cX6_count 68 = .ok (.iconst 1, 1) := by decide +kernel
theorem dX6_count_69 : decode cX6_count 69 = .ok (.goto 4, 3) := by decide +kernel
theorem dX6_count_72 : decode cX6_count 72 = .ok (.iconst 0, 1) := by decide +kernel
theorem dX6_count_73 : decode cX6_count 73 = .ok (.iadd, 1) := by decide +kernel
theorem dX6_count_74 : decode cX6_count 74 = .ok (.ireturn, 1) := by decide +kernel
theorem dX6_count_75 : decode cX6_count 75 = .ok (.aload_n 0, 1) := by decide +kernel
theorem dX6_count_76 : decode cX6_count 76 = .ok (.getfield 54, 3) := by decide +kernel
theorem dX6_count_79 : decode cX6_count 79 = .ok (.ireturn, 1) := by decide +kernel
theorem dX6_count_80 : decode cX6_count 80 = .ok (.aload_n 0, 1) := by decide +kernel
theorem dX6_count_81 : decode cX6_count 81 = .ok (.getfield 39, 3) := by decide +kernel
theorem dX6_count_84 : decode cX6_count 84 = .ok (.iconst 0, 1) := by decide +kernel
theorem dX6_count_85 : decode cX6_count 85 = .ok (.iaload, 1) := by decide +kernel
theorem dX6_count_86 : decode cX6_count 86 = .ok (.bipush (-4), 2) := by decide +kernel
theorem dX6_count_88 : decode cX6_count 88 = .ok (.if_icmp .ne 8, 3) := by decide +kernel
theorem dX6_count_91 : decode cX6_count 91 = .ok (.bipush (-4), 2) := by decide +kernel
theorem dX6_count_93 : decode cX6_count 93 = .ok (.goto 9, 3) := by decide +kernel
theorem dX6_count_96 : decode cX6_count 96 = .ok (.aload_n 0, 1) := by decide +kernel
theorem dX6_count_97 : decode cX6_count 97 = .ok (.getfield 42, 3) := by decide +kernel
theorem dX6_count_100 : decode cX6_count 100 = .ok (.iconst 0, 1) := by decide +kernel
theorem dX6_count_101 : decode cX6_count 101 = .ok (.iaload, 1) := by decide +kernel
theorem dX6_count_102 : decode cX6_count 102 = .ok (.ireturn, 1) := by decide +kernel
theorem dX6_count_103 : decode cX6_count 103 = .ok (.aload_n 0, 1) := by decide +kernel
theorem dX6_count_104 : decode cX6_count 104 = .ok (.iconst 0, 1) := by decide +kernel
theorem dX6_count_105 : decode cX6_count 105 = .ok (.iconst 5, 1) := by decide +kernel
theorem dX6_count_106 : decode cX6_count 106 = .ok (.invokevirtual 134, 3) := by decide +kernel
theorem dX6_count_109 : decode cX6_count 109 = .ok (.ireturn, 1) := by decide +kernel
theorem dX6_count_110 : decode cX6_count 110 = .ok (.aload_n 0, 1) := by decide +kernel
theorem dX6_count_111 : decode cX6_count 111 = .ok (.iconst 0, 1) := by decide +kernel
theorem dX6_count_112 : decode cX6_count 112 = .ok (.iconst 0, 1) := by decide +kernel
theorem dX6_count_113 : decode cX6_count 113 = .ok (.invokevirtual 134, 3) := by decide +kernel
theorem dX6_count_116 : decode cX6_count 116 = .ok (.ireturn, 1) := by decide +kernel
theorem dX6_count_117 : decode cX6_count 117 = .ok (.iconst (-1), 1) := by decide +kernel
theorem dX6_count_118 : decode cX6_count 118 = .ok (.ireturn, 1) := by decide +kernel
end
section
theorem dL_law_0 : decode cL_law 0 = .ok (.new 7, 3) := by decide +kernel
theorem dL_law_3 : decode cL_law 3 = .ok (.dup, 1) := by decide +kernel
theorem dL_law_4 : decode cL_law 4 = .ok (.invokespecial 9, 3) := by decide +kernel
theorem dL_law_7 : decode cL_law 7 = .ok (.astore_n 1, 1) := by decide +kernel
theorem dL_law_8 : decode cL_law 8 = .ok (.new 10, 3) := by decide +kernel
theorem dL_law_11 : decode cL_law 11 = .ok (.dup, 1) := by decide +kernel
theorem dL_law_12 : decode cL_law 12 = .ok (.invokespecial 12, 3) := by decide +kernel
theorem dL_law_15 : decode cL_law 15 = .ok (.astore_n 2, 1) := by decide +kernel
theorem dL_law_16 : decode cL_law 16 = .ok (.iconst 0, 1) := by decide +kernel
theorem dL_law_17 : decode cL_law 17 = .ok (.istore_n 3, 1) := by decide +kernel
theorem dL_law_18 : decode cL_law 18 = .ok (.iload_n 3, 1) := by decide +kernel
theorem dL_law_19 : decode cL_law 19 = .ok (.aload_n 0, 1) := by decide +kernel
theorem dL_law_20 : decode cL_law 20 = .ok (.arraylength, 1) := by decide +kernel
theorem dL_law_21 : decode cL_law 21 = .ok (.iconst 5, 1) := by decide +kernel
theorem dL_law_22 : decode cL_law 22 = .ok (.isub, 1) := by decide +kernel
theorem dL_law_23 : decode cL_law 23 = .ok (.if_icmp .gt 1289, 3) := by decide +kernel
theorem dL_law_26 : decode cL_law 26 = .ok (.aload_n 0, 1) := by decide +kernel
theorem dL_law_27 : decode cL_law 27 = .ok (.iload_n 3, 1) := by decide +kernel
theorem dL_law_28 : decode cL_law 28 = .ok (.iaload, 1) := by decide +kernel
theorem dL_law_29 : decode cL_law 29 = .ok (.bipush 63, 2) := by decide +kernel
theorem dL_law_31 : decode cL_law 31 = .ok (.iand, 1) := by decide +kernel
theorem dL_law_32 : decode cL_law 32 = .ok (.tableswitch 1274 0 37 #[168, 191, 214, 227, 240, 263, 296, 339, 362, 395, 418, 451, 474, 507, 550, 573, 586, 599, 632, 665, 698, 721, 744, 798, 842, 885, 908, 931, 954, 977, 1010, 1053, 1076, 1099, 1142, 1185, 1238, 1251], 168) := by decide +kernel
theorem dL_law_200 : decode cL_law 200 = .ok (.aload_n 1, 1) := by decide +kernel
theorem dL_law_201 : decode cL_law 201 = .ok (.aload_n 0, 1) := by decide +kernel
theorem dL_law_202 : decode cL_law 202 = .ok (.iload_n 3, 1) := by decide +kernel
theorem dL_law_203 : decode cL_law 203 = .ok (.iconst 1, 1) := by decide +kernel
theorem dL_law_204 : decode cL_law 204 = .ok (.iadd, 1) := by decide +kernel
theorem dL_law_205 : decode cL_law 205 = .ok (.iaload, 1) := by decide +kernel
theorem dL_law_206 : decode cL_law 206 = .ok (.invokevirtual 13, 3) := by decide +kernel
theorem dL_law_209 : decode cL_law 209 = .ok (.aload_n 2, 1) := by decide +kernel
theorem dL_law_210 : decode cL_law 210 = .ok (.aload_n 0, 1) := by decide +kernel
theorem dL_law_211 : decode cL_law 211 = .ok (.iload_n 3, 1) := by decide +kernel
theorem dL_law_212 : decode cL_law 212 = .ok (.iconst 1, 1) := by decide +kernel
theorem dL_law_213 : decode cL_law 213 = .ok (.iadd, 1) := by decide +kernel
theorem dL_law_214 : decode cL_law 214 = .ok (.iaload, 1) := by decide +kernel
theorem dL_law_215 : decode cL_law 215 = .ok (.invokevirtual 17, 3) := by decide +kernel
theorem dL_law_218 : decode cL_law 218 = .ok (.if_icmp .eq 1088, 3) := by decide +kernel
theorem dL_law_221 : decode cL_law 221 = .ok (.iconst 0, 1) := by decide +kernel
theorem dL_law_222 : decode cL_law 222 = .ok (.ireturn, 1) := by decide +kernel
theorem dL_law_223 : decode cL_law 223 = .ok (.aload_n 1, 1) := by decide +kernel
theorem dL_law_224 : decode cL_law 224 = .ok (.aload_n 0, 1) := by decide +kernel
theorem dL_law_225 : decode cL_law 225 = .ok (.iload_n 3, 1) := by decide +kernel
theorem dL_law_226 : decode cL_law 226 = .ok (.iconst 1, 1) := by decide +kernel
theorem dL_law_227 : decode cL_law 227 = .ok (.iadd, 1) := by decide +kernel
theorem dL_law_228 : decode cL_law 228 = .ok (.iaload, 1) := by decide +kernel
theorem dL_law_229 : decode cL_law 229 = .ok (.invokevirtual 18, 3) := by decide +kernel
theorem dL_law_232 : decode cL_law 232 = .ok (.aload_n 2, 1) := by decide +kernel
theorem dL_law_233 : decode cL_law 233 = .ok (.aload_n 0, 1) := by decide +kernel
theorem dL_law_234 : decode cL_law 234 = .ok (.iload_n 3, 1) := by decide +kernel
theorem dL_law_235 : decode cL_law 235 = .ok (.iconst 1, 1) := by decide +kernel
theorem dL_law_236 : decode cL_law 236 = .ok (.iadd, 1) := by decide +kernel
theorem dL_law_237 : decode cL_law 237 = .ok (.iaload, 1) := by decide +kernel
theorem dL_law_238 : decode cL_law 238 = .ok (.invokevirtual 21, 3) := by decide +kernel
theorem dL_law_241 : decode cL_law 241 = .ok (.if_icmp .eq 1065, 3) := by decide +kernel
theorem dL_law_244 : decode cL_law 244 = .ok (.iconst 0, 1) := by decide +kernel
theorem dL_law_245 : decode cL_law 245 = .ok (.ireturn, 1) := by decide +kernel
theorem dL_law_246 : decode cL_law 246 = .ok (.aload_n 1, 1) := by decide +kernel
theorem dL_law_247 : decode cL_law 247 = .ok (.invokevirtual 22, 3) := by decide +kernel
theorem dL_law_250 : decode cL_law 250 = .ok (.aload_n 2, 1) := by decide +kernel
theorem dL_law_251 : decode cL_law 251 = .ok (.invokevirtual 26, 3) := by decide +kernel
theorem dL_law_254 : decode cL_law 254 = .ok (.if_icmp .eq 1052, 3) := by decide +kernel
theorem dL_law_257 : decode cL_law 257 = .ok (.iconst 0, 1) := by decide +kernel
theorem dL_law_258 : decode cL_law 258 = .ok (.ireturn, 1) := by decide +kernel
theorem dL_law_259 : decode cL_law 259 = .ok (.aload_n 1, 1) := by decide +kernel
theorem dL_law_260 : decode cL_law 260 = .ok (.invokevirtual 27, 3) := by decide +kernel
theorem dL_law_263 : decode cL_law 263 = .ok (.aload_n 2, 1) := by decide +kernel
theorem dL_law_264 : decode cL_law 264 = .ok (.invokevirtual 30, 3) := by decide +kernel
theorem dL_law_267 : decode cL_law 267 = .ok (.if_icmp .eq 1039, 3) := by decide +kernel
theorem dL_law_270 : decode cL_law 270 = .ok (.iconst 0, 1) := by decide +kernel
theorem dL_law_271 : decode cL_law 271 = .ok (.ireturn, 1) := by decide +kernel
theorem dL_law_272 : decode cL_law 272 = .ok (.aload_n 1, 1) := by decide +kernel
theorem dL_law_273 : decode cL_law 273 = .ok (.aload_n 0, 1) := by decide +kernel
theorem dL_law_274 : decode cL_law 274 = .ok (.iload_n 3, 1) := by decide +kernel
theorem dL_law_275 : decode cL_law 275 = .ok (.iconst 1, 1) := by decide +kernel
theorem dL_law_276 : decode cL_law 276 = .ok (.iadd, 1) := by decide +kernel
theorem dL_law_277 : decode cL_law 277 = .ok (.iaload, 1) := by decide +kernel
theorem dL_law_278 : decode cL_law 278 = .ok (.invokevirtual 31, 3) := by decide +kernel
theorem dL_law_281 : decode cL_law 281 = .ok (.aload_n 2, 1) := by decide +kernel
theorem dL_law_282 : decode cL_law 282 = .ok (.aload_n 0, 1) := by decide +kernel
theorem dL_law_283 : decode cL_law 283 = .ok (.iload_n 3, 1) := by decide +kernel
theorem dL_law_284 : decode cL_law 284 = .ok (.iconst 1, 1) := by decide +kernel
theorem dL_law_285 : decode cL_law 285 = .ok (.iadd, 1) := by decide +kernel
theorem dL_law_286 : decode cL_law 286 = .ok (.iaload, 1) := by decide +kernel
theorem dL_law_287 : decode cL_law 287 = .ok (.invokevirtual 34, 3) := by decide +kernel
theorem dL_law_290 : decode cL_law 290 = .ok (.if_icmp .eq 1016, 3) := by decide +kernel
theorem dL_law_293 : decode cL_law 293 = .ok (.iconst 0, 1) := by decide +kernel
theorem dL_law_294 : decode cL_law 294 = .ok (.ireturn, 1) := by decide +kernel
theorem dL_law_295 : decode cL_law 295 = .ok (.aload_n 1, 1) := by decide +kernel
theorem dL_law_296 : decode cL_law 296 = .ok (.aload_n 0, 1) := by decide +kernel
theorem dL_law_297 : decode cL_law 297 = .ok (.iload_n 3, 1) := by decide +kernel
theorem dL_law_298 : decode cL_law 298 = .ok (.iconst 1, 1) := by decide +kernel
theorem dL_law_299 : decode cL_law 299 = .ok (.iadd, 1) := by decide +kernel
theorem dL_law_300 : decode cL_law 300 = .ok (.iaload, 1) := by decide +kernel
theorem dL_law_301 : decode cL_law 301 = .ok (.aload_n 0, 1) := by decide +kernel
theorem dL_law_302 : decode cL_law 302 = .ok (.iload_n 3, 1) := by decide +kernel
theorem dL_law_303 : decode cL_law 303 = .ok (.iconst 2, 1) := by decide +kernel
theorem dL_law_304 : decode cL_law 304 = .ok (.iadd, 1) := by decide +kernel
theorem dL_law_305 : decode cL_law 305 = .ok (.iaload, 1) := by decide +kernel
theorem dL_law_306 : decode cL_law 306 = .ok (.invokevirtual 35, 3) := by decide +kernel
theorem dL_law_309 : decode cL_law 309 = .ok (.aload_n 2, 1) := by decide +kernel
theorem dL_law_310 : decode cL_law 310 = .ok (.aload_n 0, 1) := by decide +kernel
theorem dL_law_311 : decode cL_law 311 = .ok (.iload_n 3, 1) := by decide +kernel
theorem dL_law_312 : decode cL_law 312 = .ok (.iconst 1, 1) := by decide +kernel
theorem dL_law_313 : decode cL_law 313 = .ok (.iadd, 1) := by decide +kernel
theorem dL_law_314 : decode cL_law 314 = .ok (.iaload, 1) := by decide +kernel
theorem dL_law_315 : decode cL_law 315 = .ok (.aload_n 0, 1) := by decide +kernel
theorem dL_law_316 : decode cL_law 316 = .ok (.iload_n 3, 1) := by decide +kernel
theorem dL_law_317 : decode cL_law 317 = .ok (.iconst 2, 1) := by decide +kernel
theorem dL_law_318 : decode cL_law 318 = .ok (.iadd, 1) := by decide +kernel
theorem dL_law_319 : decode cL_law 319 = .ok (.iaload, 1) := by decide +kernel
theorem dL_law_320 : decode cL_law 320 = .ok (.invokevirtual 39, 3) := by decide +kernel
theorem dL_law_323 : decode cL_law 323 = .ok (.if_icmp .eq 983, 3) := by decide +kernel
theorem dL_law_326 : decode cL_law 326 = .ok (.iconst 0, 1) := by decide +kernel
theorem dL_law_327 : decode cL_law 327 = .ok (.ireturn, 1) := by decide +kernel
theorem dL_law_328 : decode cL_law 328 = .ok (.aload_n 1, 1) := by decide +kernel
theorem dL_law_329 : decode cL_law 329 = .ok (.aload_n 0, 1) := by decide +kernel
theorem dL_law_330 : decode cL_law 330 = .ok (.iload_n 3, 1) := by decide +kernel
theorem dL_law_331 : decode cL_law 331 = .ok (.iconst 1, 1) := by decide +kernel
theorem dL_law_332 : decode cL_law 332 = .ok (.iadd, 1) := by decide +kernel
theorem dL_law_333 : decode cL_law 333 = .ok (.iaload, 1) := by decide +kernel
theorem dL_law_334 : decode cL_law 334 = .ok (.aload_n 0, 1) := by decide +kernel
theorem dL_law_335 : decode cL_law 335 = .ok (.iload_n 3, 1) := by decide +kernel
theorem dL_law_336 : decode cL_law 336 = .ok (.iconst 2, 1) := by decide +kernel
theorem dL_law_337 : decode cL_law 337 = .ok (.iadd, 1) := by decide +kernel
theorem dL_law_338 : decode cL_law 338 = .ok (.iaload, 1) := by decide +kernel
theorem dL_law_339 : decode cL_law 339 = .ok (.aload_n 0, 1) := by decide +kernel
theorem dL_law_340 : decode cL_law 340 = .ok (.iload_n 3, 1) := by decide +kernel
theorem dL_law_341 : decode cL_law 341 = .ok (.iconst 3, 1) := by decide +kernel
theorem dL_law_342 : decode cL_law 342 = .ok (.iadd, 1) := by decide +kernel
theorem dL_law_343 : decode cL_law 343 = .ok (.iaload, 1) := by decide +kernel
theorem dL_law_344 : decode cL_law 344 = .ok (.invokevirtual 40, 3) := by decide +kernel
theorem dL_law_347 : decode cL_law 347 = .ok (.aload_n 2, 1) := by decide +kernel
theorem dL_law_348 : decode cL_law 348 = .ok (.aload_n 0, 1) := by decide +kernel
theorem dL_law_349 : decode cL_law 349 = .ok (.iload_n 3, 1) := by decide +kernel
theorem dL_law_350 : decode cL_law 350 = .ok (.iconst 1, 1) := by decide +kernel
theorem dL_law_351 : decode cL_law 351 = .ok (.iadd, 1) := by decide +kernel
theorem dL_law_352 : decode cL_law 352 = .ok (.iaload, 1) := by decide +kernel
theorem dL_law_353 : decode cL_law 353 = .ok (.aload_n 0, 1) := by decide +kernel
theorem dL_law_354 : decode cL_law 354 = .ok (.iload_n 3, 1) := by decide +kernel
theorem dL_law_355 : decode cL_law 355 = .ok (.iconst 2, 1) := by decide +kernel
theorem dL_law_356 : decode cL_law 356 = .ok (.iadd, 1) := by decide +kernel
theorem dL_law_357 : decode cL_law 357 = .ok (.iaload, 1) := by decide +kernel
theorem dL_law_358 : decode cL_law 358 = .ok (.aload_n 0, 1) := by decide +kernel
theorem dL_law_359 : decode cL_law 359 = .ok (.iload_n 3, 1) := by decide +kernel
theorem dL_law_360 : decode cL_law 360 = .ok (.iconst 3, 1) := by decide +kernel
theorem dL_law_361 : decode cL_law 361 = .ok (.iadd, 1) := by decide +kernel
theorem dL_law_362 : decode cL_law 362 = .ok (.iaload, 1) := by decide +kernel
theorem dL_law_363 : decode cL_law 363 = .ok (.invokevirtual 44, 3) := by decide +kernel
theorem dL_law_366 : decode cL_law 366 = .ok (.if_icmp .eq 940, 3) := by decide +kernel
theorem dL_law_369 : decode cL_law 369 = .ok (.iconst 0, 1) := by decide +kernel
theorem dL_law_370 : decode cL_law 370 = .ok (.ireturn, 1) := by decide +kernel
theorem dL_law_371 : decode cL_law 371 = .ok (.aload_n 1, 1) := by decide +kernel
theorem dL_law_372 : decode cL_law 372 = .ok (.aload_n 0, 1) := by decide +kernel
theorem dL_law_373 : decode cL_law 373 = .ok (.iload_n 3, 1) := by decide +kernel
theorem dL_law_374 : decode cL_law 374 = .ok (.iconst 1, 1) := by decide +kernel
theorem dL_law_375 : decode cL_law 375 = .ok (.iadd, 1) := by decide +kernel
theorem dL_law_376 : decode cL_law 376 = .ok (.iaload, 1) := by decide +kernel
theorem dL_law_377 : decode cL_law 377 = .ok (.invokevirtual 45, 3) := by decide +kernel
theorem dL_law_380 : decode cL_law 380 = .ok (.aload_n 2, 1) := by decide +kernel
theorem dL_law_381 : decode cL_law 381 = .ok (.aload_n 0, 1) := by decide +kernel
theorem dL_law_382 : decode cL_law 382 = .ok (.iload_n 3, 1) := by decide +kernel
theorem dL_law_383 : decode cL_law 383 = .ok (.iconst 1, 1) := by decide +kernel
theorem dL_law_384 : decode cL_law 384 = .ok (.iadd, 1) := by decide +kernel
theorem dL_law_385 : decode cL_law 385 = .ok (.iaload, 1) := by decide +kernel
theorem dL_law_386 : decode cL_law 386 = .ok (.invokevirtual 48, 3) := by decide +kernel
theorem dL_law_389 : decode cL_law 389 = .ok (.if_icmp .eq 917, 3) := by decide +kernel
theorem dL_law_392 : decode cL_law 392 = .ok (.iconst 0, 1) := by decide +kernel
theorem dL_law_393 : decode cL_law 393 = .ok (.ireturn, 1) := by decide +kernel
theorem dL_law_394 : decode cL_law 394 = .ok (.aload_n 1, 1) := by decide +kernel
theorem dL_law_395 : decode cL_law 395 = .ok (.aload_n 0, 1) := by decide +kernel
theorem dL_law_396 : decode cL_law 396 = .ok (.iload_n 3, 1) := by decide +kernel
theorem dL_law_397 : decode cL_law 397 = .ok (.iconst 1, 1) := by decide +kernel
theorem dL_law_398 : decode cL_law 398 = .ok (.iadd, 1) := by decide +kernel
theorem dL_law_399 : decode cL_law 399 = .ok (.iaload, 1) := by decide +kernel
theorem dL_law_400 : decode cL_law 400 = .ok (.aload_n 0, 1) := by decide +kernel
theorem dL_law_401 : decode cL_law 401 = .ok (.iload_n 3, 1) := by decide +kernel
theorem dL_law_402 : decode cL_law 402 = .ok (.iconst 2, 1) := by decide +kernel
theorem dL_law_403 : decode cL_law 403 = .ok (.iadd, 1) := by decide +kernel
theorem dL_law_404 : decode cL_law 404 = .ok (.iaload, 1) := by decide +kernel
theorem dL_law_405 : decode cL_law 405 = .ok (.invokevirtual 49, 3) := by decide +kernel
theorem dL_law_408 : decode cL_law 408 = .ok (.aload_n 2, 1) := by decide +kernel
theorem dL_law_409 : decode cL_law 409 = .ok (.aload_n 0, 1) := by decide +kernel
theorem dL_law_410 : decode cL_law 410 = .ok (.iload_n 3, 1) := by decide +kernel
theorem dL_law_411 : decode cL_law 411 = .ok (.iconst 1, 1) := by decide +kernel
theorem dL_law_412 : decode cL_law 412 = .ok (.iadd, 1) := by decide +kernel
theorem dL_law_413 : decode cL_law 413 = .ok (.iaload, 1) := by decide +kernel
theorem dL_law_414 : decode cL_law 414 = .ok (.aload_n 0, 1) := by decide +kernel
theorem dL_law_415 : decode cL_law 415 = .ok (.iload_n 3, 1) := by decide +kernel
theorem dL_law_416 : decode cL_law 416 = .ok (.iconst 2, 1) := by decide +kernel
theorem dL_law_417 : decode cL_law 417 = .ok (.iadd, 1) := by decide +kernel
theorem dL_law_418 : decode cL_law 418 = .ok (.iaload, 1) := by decide +kernel
theorem dL_law_419 : decode cL_law 419 = .ok (.invokevirtual 52, 3) := by decide +kernel
theorem dL_law_422 : decode cL_law 422 = .ok (.if_icmp .eq 884, 3) := by decide +kernel
theorem dL_law_425 : decode cL_law 425 = .ok (.iconst 0, 1) := by decide +kernel
theorem dL_law_426 : decode cL_law 426 = .ok (.ireturn, 1) := by decide +kernel
theorem dL_law_427 : decode cL_law 427 = .ok (.aload_n 1, 1) := by decide +kernel
theorem dL_law_428 : decode cL_law 428 = .ok (.aload_n 0, 1) := by decide +kernel
theorem dL_law_429 : decode cL_law 429 = .ok (.iload_n 3, 1) := by decide +kernel
theorem dL_law_430 : decode cL_law 430 = .ok (.iconst 1, 1) := by decide +kernel
theorem dL_law_431 : decode cL_law 431 = .ok (.iadd, 1) := by decide +kernel
theorem dL_law_432 : decode cL_law 432 = .ok (.iaload, 1) := by decide +kernel
theorem dL_law_433 : decode cL_law 433 = .ok (.invokevirtual 53, 3) := by decide +kernel
theorem dL_law_436 : decode cL_law 436 = .ok (.aload_n 2, 1) := by decide +kernel
theorem dL_law_437 : decode cL_law 437 = .ok (.aload_n 0, 1) := by decide +kernel
theorem dL_law_438 : decode cL_law 438 = .ok (.iload_n 3, 1) := by decide +kernel
theorem dL_law_439 : decode cL_law 439 = .ok (.iconst 1, 1) := by decide +kernel
theorem dL_law_440 : decode cL_law 440 = .ok (.iadd, 1) := by decide +kernel
theorem dL_law_441 : decode cL_law 441 = .ok (.iaload, 1) := by decide +kernel
theorem dL_law_442 : decode cL_law 442 = .ok (.invokevirtual 56, 3) := by decide +kernel
theorem dL_law_445 : decode cL_law 445 = .ok (.if_icmp .eq 861, 3) := by decide +kernel
theorem dL_law_448 : decode cL_law 448 = .ok (.iconst 0, 1) := by decide +kernel
theorem dL_law_449 : decode cL_law 449 = .ok (.ireturn, 1) := by decide +kernel
theorem dL_law_450 : decode cL_law 450 = .ok (.aload_n 1, 1) := by decide +kernel
theorem dL_law_451 : decode cL_law 451 = .ok (.aload_n 0, 1) := by decide +kernel
theorem dL_law_452 : decode cL_law 452 = .ok (.iload_n 3, 1) := by decide +kernel
theorem dL_law_453 : decode cL_law 453 = .ok (.iconst 1, 1) := by decide +kernel
theorem dL_law_454 : decode cL_law 454 = .ok (.iadd, 1) := by decide +kernel
theorem dL_law_455 : decode cL_law 455 = .ok (.iaload, 1) := by decide +kernel
theorem dL_law_456 : decode cL_law 456 = .ok (.aload_n 0, 1) := by decide +kernel
theorem dL_law_457 : decode cL_law 457 = .ok (.iload_n 3, 1) := by decide +kernel
theorem dL_law_458 : decode cL_law 458 = .ok (.iconst 2, 1) := by decide +kernel
theorem dL_law_459 : decode cL_law 459 = .ok (.iadd, 1) := by decide +kernel
theorem dL_law_460 : decode cL_law 460 = .ok (.iaload, 1) := by decide +kernel
theorem dL_law_461 : decode cL_law 461 = .ok (.invokevirtual 57, 3) := by decide +kernel
theorem dL_law_464 : decode cL_law 464 = .ok (.aload_n 2, 1) := by decide +kernel
theorem dL_law_465 : decode cL_law 465 = .ok (.aload_n 0, 1) := by decide +kernel
theorem dL_law_466 : decode cL_law 466 = .ok (.iload_n 3, 1) := by decide +kernel
theorem dL_law_467 : decode cL_law 467 = .ok (.iconst 1, 1) := by decide +kernel
theorem dL_law_468 : decode cL_law 468 = .ok (.iadd, 1) := by decide +kernel
theorem dL_law_469 : decode cL_law 469 = .ok (.iaload, 1) := by decide +kernel
theorem dL_law_470 : decode cL_law 470 = .ok (.aload_n 0, 1) := by decide +kernel
theorem dL_law_471 : decode cL_law 471 = .ok (.iload_n 3, 1) := by decide +kernel
theorem dL_law_472 : decode cL_law 472 = .ok (.iconst 2, 1) := by decide +kernel
theorem dL_law_473 : decode cL_law 473 = .ok (.iadd, 1) := by decide +kernel
theorem dL_law_474 : decode cL_law 474 = .ok (.iaload, 1) := by decide +kernel
theorem dL_law_475 : decode cL_law 475 = .ok (.invokevirtual 60, 3) := by decide +kernel
theorem dL_law_478 : decode cL_law 478 = .ok (.if_icmp .eq 828, 3) := by decide +kernel
theorem dL_law_481 : decode cL_law 481 = .ok (.iconst 0, 1) := by decide +kernel
theorem dL_law_482 : decode cL_law 482 = .ok (.ireturn, 1) := by decide +kernel
theorem dL_law_483 : decode cL_law 483 = .ok (.aload_n 1, 1) := by decide +kernel
theorem dL_law_484 : decode cL_law 484 = .ok (.aload_n 0, 1) := by decide +kernel
theorem dL_law_485 : decode cL_law 485 = .ok (.iload_n 3, 1) := by decide +kernel
theorem dL_law_486 : decode cL_law 486 = .ok (.iconst 1, 1) := by decide +kernel
theorem dL_law_487 : decode cL_law 487 = .ok (.iadd, 1) := by decide +kernel
theorem dL_law_488 : decode cL_law 488 = .ok (.iaload, 1) := by decide +kernel
theorem dL_law_489 : decode cL_law 489 = .ok (.invokevirtual 61, 3) := by decide +kernel
theorem dL_law_492 : decode cL_law 492 = .ok (.aload_n 2, 1) := by decide +kernel
theorem dL_law_493 : decode cL_law 493 = .ok (.aload_n 0, 1) := by decide +kernel
theorem dL_law_494 : decode cL_law 494 = .ok (.iload_n 3, 1) := by decide +kernel
theorem dL_law_495 : decode cL_law 495 = .ok (.iconst 1, 1) := by decide +kernel
theorem dL_law_496 : decode cL_law 496 = .ok (.iadd, 1) := by decide +kernel
theorem dL_law_497 : decode cL_law 497 = .ok (.iaload, 1) := by decide +kernel
theorem dL_law_498 : decode cL_law 498 = .ok (.invokevirtual 64, 3) := by decide +kernel
theorem dL_law_501 : decode cL_law 501 = .ok (.if_icmp .eq 805, 3) := by decide +kernel
theorem dL_law_504 : decode cL_law 504 = .ok (.iconst 0, 1) := by decide +kernel
theorem dL_law_505 : decode cL_law 505 = .ok (.ireturn, 1) := by decide +kernel
theorem dL_law_506 : decode cL_law 506 = .ok (.aload_n 1, 1) := by decide +kernel
theorem dL_law_507 : decode cL_law 507 = .ok (.aload_n 0, 1) := by decide +kernel
theorem dL_law_508 : decode cL_law 508 = .ok (.iload_n 3, 1) := by decide +kernel
theorem dL_law_509 : decode cL_law 509 = .ok (.iconst 1, 1) := by decide +kernel
theorem dL_law_510 : decode cL_law 510 = .ok (.iadd, 1) := by decide +kernel
theorem dL_law_511 : decode cL_law 511 = .ok (.iaload, 1) := by decide +kernel
theorem dL_law_512 : decode cL_law 512 = .ok (.aload_n 0, 1) := by decide +kernel
theorem dL_law_513 : decode cL_law 513 = .ok (.iload_n 3, 1) := by decide +kernel
theorem dL_law_514 : decode cL_law 514 = .ok (.iconst 2, 1) := by decide +kernel
theorem dL_law_515 : decode cL_law 515 = .ok (.iadd, 1) := by decide +kernel
theorem dL_law_516 : decode cL_law 516 = .ok (.iaload, 1) := by decide +kernel
theorem dL_law_517 : decode cL_law 517 = .ok (.invokevirtual 65, 3) := by decide +kernel
theorem dL_law_520 : decode cL_law 520 = .ok (.aload_n 2, 1) := by decide +kernel
theorem dL_law_521 : decode cL_law 521 = .ok (.aload_n 0, 1) := by decide +kernel
theorem dL_law_522 : decode cL_law 522 = .ok (.iload_n 3, 1) := by decide +kernel
theorem dL_law_523 : decode cL_law 523 = .ok (.iconst 1, 1) := by decide +kernel
theorem dL_law_524 : decode cL_law 524 = .ok (.iadd, 1) := by decide +kernel
theorem dL_law_525 : decode cL_law 525 = .ok (.iaload, 1) := by decide +kernel
theorem dL_law_526 : decode cL_law 526 = .ok (.aload_n 0, 1) := by decide +kernel
theorem dL_law_527 : decode cL_law 527 = .ok (.iload_n 3, 1) := by decide +kernel
theorem dL_law_528 : decode cL_law 528 = .ok (.iconst 2, 1) := by decide +kernel
theorem dL_law_529 : decode cL_law 529 = .ok (.iadd, 1) := by decide +kernel
theorem dL_law_530 : decode cL_law 530 = .ok (.iaload, 1) := by decide +kernel
theorem dL_law_531 : decode cL_law 531 = .ok (.invokevirtual 68, 3) := by decide +kernel
theorem dL_law_534 : decode cL_law 534 = .ok (.if_icmp .eq 772, 3) := by decide +kernel
theorem dL_law_537 : decode cL_law 537 = .ok (.iconst 0, 1) := by decide +kernel
theorem dL_law_538 : decode cL_law 538 = .ok (.ireturn, 1) := by decide +kernel
theorem dL_law_539 : decode cL_law 539 = .ok (.aload_n 1, 1) := by decide +kernel
theorem dL_law_540 : decode cL_law 540 = .ok (.aload_n 0, 1) := by decide +kernel
theorem dL_law_541 : decode cL_law 541 = .ok (.iload_n 3, 1) := by decide +kernel
theorem dL_law_542 : decode cL_law 542 = .ok (.iconst 1, 1) := by decide +kernel
theorem dL_law_543 : decode cL_law 543 = .ok (.iadd, 1) := by decide +kernel
theorem dL_law_544 : decode cL_law 544 = .ok (.iaload, 1) := by decide +kernel
theorem dL_law_545 : decode cL_law 545 = .ok (.aload_n 0, 1) := by decide +kernel
theorem dL_law_546 : decode cL_law 546 = .ok (.iload_n 3, 1) := by decide +kernel
theorem dL_law_547 : decode cL_law 547 = .ok (.iconst 2, 1) := by decide +kernel
theorem dL_law_548 : decode cL_law 548 = .ok (.iadd, 1) := by decide +kernel
theorem dL_law_549 : decode cL_law 549 = .ok (.iaload, 1) := by decide +kernel
theorem dL_law_550 : decode cL_law 550 = .ok (.aload_n 0, 1) := by decide +kernel
theorem dL_law_551 : decode cL_law 551 = .ok (.iload_n 3, 1) := by decide +kernel
theorem dL_law_552 : decode cL_law 552 = .ok (.iconst 3, 1) := by decide +kernel
theorem dL_law_553 : decode cL_law 553 = .ok (.iadd, 1) := by decide +kernel
theorem dL_law_554 : decode cL_law 554 = .ok (.iaload, 1) := by decide +kernel
theorem dL_law_555 : decode cL_law 555 = .ok (.invokevirtual 69, 3) := by decide +kernel
theorem dL_law_558 : decode cL_law 558 = .ok (.aload_n 2, 1) := by decide +kernel
theorem dL_law_559 : decode cL_law 559 = .ok (.aload_n 0, 1) := by decide +kernel
theorem dL_law_560 : decode cL_law 560 = .ok (.iload_n 3, 1) := by decide +kernel
theorem dL_law_561 : decode cL_law 561 = .ok (.iconst 1, 1) := by decide +kernel
theorem dL_law_562 : decode cL_law 562 = .ok (.iadd, 1) := by decide +kernel
theorem dL_law_563 : decode cL_law 563 = .ok (.iaload, 1) := by decide +kernel
theorem dL_law_564 : decode cL_law 564 = .ok (.aload_n 0, 1) := by decide +kernel
theorem dL_law_565 : decode cL_law 565 = .ok (.iload_n 3, 1) := by decide +kernel
theorem dL_law_566 : decode cL_law 566 = .ok (.iconst 2, 1) := by decide +kernel
theorem dL_law_567 : decode cL_law 567 = .ok (.iadd, 1) := by decide +kernel
theorem dL_law_568 : decode cL_law 568 = .ok (.iaload, 1) := by decide +kernel
theorem dL_law_569 : decode cL_law 569 = .ok (.aload_n 0, 1) := by decide +kernel
theorem dL_law_570 : decode cL_law 570 = .ok (.iload_n 3, 1) := by decide +kernel
theorem dL_law_571 : decode cL_law 571 = .ok (.iconst 3, 1) := by decide +kernel
theorem dL_law_572 : decode cL_law 572 = .ok (.iadd, 1) := by decide +kernel
theorem dL_law_573 : decode cL_law 573 = .ok (.iaload, 1) := by decide +kernel
theorem dL_law_574 : decode cL_law 574 = .ok (.invokevirtual 72, 3) := by decide +kernel
theorem dL_law_577 : decode cL_law 577 = .ok (.if_icmp .eq 729, 3) := by decide +kernel
theorem dL_law_580 : decode cL_law 580 = .ok (.iconst 0, 1) := by decide +kernel
theorem dL_law_581 : decode cL_law 581 = .ok (.ireturn, 1) := by decide +kernel
theorem dL_law_582 : decode cL_law 582 = .ok (.aload_n 1, 1) := by decide +kernel
theorem dL_law_583 : decode cL_law 583 = .ok (.aload_n 0, 1) := by decide +kernel
theorem dL_law_584 : decode cL_law 584 = .ok (.iload_n 3, 1) := by decide +kernel
theorem dL_law_585 : decode cL_law 585 = .ok (.iconst 1, 1) := by decide +kernel
theorem dL_law_586 : decode cL_law 586 = .ok (.iadd, 1) := by decide +kernel
theorem dL_law_587 : decode cL_law 587 = .ok (.iaload, 1) := by decide +kernel
theorem dL_law_588 : decode cL_law 588 = .ok (.invokevirtual 73, 3) := by decide +kernel
theorem dL_law_591 : decode cL_law 591 = .ok (.aload_n 2, 1) := by decide +kernel
theorem dL_law_592 : decode cL_law 592 = .ok (.aload_n 0, 1) := by decide +kernel
theorem dL_law_593 : decode cL_law 593 = .ok (.iload_n 3, 1) := by decide +kernel
theorem dL_law_594 : decode cL_law 594 = .ok (.iconst 1, 1) := by decide +kernel
theorem dL_law_595 : decode cL_law 595 = .ok (.iadd, 1) := by decide +kernel
theorem dL_law_596 : decode cL_law 596 = .ok (.iaload, 1) := by decide +kernel
theorem dL_law_597 : decode cL_law 597 = .ok (.invokevirtual 76, 3) := by decide +kernel
theorem dL_law_600 : decode cL_law 600 = .ok (.if_icmp .eq 706, 3) := by decide +kernel
theorem dL_law_603 : decode cL_law 603 = .ok (.iconst 0, 1) := by decide +kernel
theorem dL_law_604 : decode cL_law 604 = .ok (.ireturn, 1) := by decide +kernel
theorem dL_law_605 : decode cL_law 605 = .ok (.aload_n 1, 1) := by decide +kernel
theorem dL_law_606 : decode cL_law 606 = .ok (.invokevirtual 77, 3) := by decide +kernel
theorem dL_law_609 : decode cL_law 609 = .ok (.aload_n 2, 1) := by decide +kernel
theorem dL_law_610 : decode cL_law 610 = .ok (.invokevirtual 80, 3) := by decide +kernel
theorem dL_law_613 : decode cL_law 613 = .ok (.if_icmp .eq 693, 3) := by decide +kernel
theorem dL_law_616 : decode cL_law 616 = .ok (.iconst 0, 1) := by decide +kernel
theorem dL_law_617 : decode cL_law 617 = .ok (.ireturn, 1) := by decide +kernel
theorem dL_law_618 : decode cL_law 618 = .ok (.aload_n 1, 1) := by decide +kernel
theorem dL_law_619 : decode cL_law 619 = .ok (.invokevirtual 81, 3) := by decide +kernel
theorem dL_law_622 : decode cL_law 622 = .ok (.aload_n 2, 1) := by decide +kernel
theorem dL_law_623 : decode cL_law 623 = .ok (.invokevirtual 84, 3) := by decide +kernel
theorem dL_law_626 : decode cL_law 626 = .ok (.if_icmp .eq 680, 3) := by decide +kernel
theorem dL_law_629 : decode cL_law 629 = .ok (.iconst 0, 1) := by decide +kernel
theorem dL_law_630 : decode cL_law 630 = .ok (.ireturn, 1) := by decide +kernel
theorem dL_law_631 : decode cL_law 631 = .ok (.aload_n 1, 1) := by decide +kernel
theorem dL_law_632 : decode cL_law 632 = .ok (.aload_n 0, 1) := by decide +kernel
theorem dL_law_633 : decode cL_law 633 = .ok (.iload_n 3, 1) := by decide +kernel
theorem dL_law_634 : decode cL_law 634 = .ok (.iconst 1, 1) := by decide +kernel
theorem dL_law_635 : decode cL_law 635 = .ok (.iadd, 1) := by decide +kernel
theorem dL_law_636 : decode cL_law 636 = .ok (.iaload, 1) := by decide +kernel
theorem dL_law_637 : decode cL_law 637 = .ok (.aload_n 0, 1) := by decide +kernel
theorem dL_law_638 : decode cL_law 638 = .ok (.iload_n 3, 1) := by decide +kernel
theorem dL_law_639 : decode cL_law 639 = .ok (.iconst 2, 1) := by decide +kernel
theorem dL_law_640 : decode cL_law 640 = .ok (.iadd, 1) := by decide +kernel
theorem dL_law_641 : decode cL_law 641 = .ok (.iaload, 1) := by decide +kernel
theorem dL_law_642 : decode cL_law 642 = .ok (.invokevirtual 85, 3) := by decide +kernel
theorem dL_law_645 : decode cL_law 645 = .ok (.aload_n 2, 1) := by decide +kernel
theorem dL_law_646 : decode cL_law 646 = .ok (.aload_n 0, 1) := by decide +kernel
theorem dL_law_647 : decode cL_law 647 = .ok (.iload_n 3, 1) := by decide +kernel
theorem dL_law_648 : decode cL_law 648 = .ok (.iconst 1, 1) := by decide +kernel
theorem dL_law_649 : decode cL_law 649 = .ok (.iadd, 1) := by decide +kernel
theorem dL_law_650 : decode cL_law 650 = .ok (.iaload, 1) := by decide +kernel
theorem dL_law_651 : decode cL_law 651 = .ok (.aload_n 0, 1) := by decide +kernel
theorem dL_law_652 : decode cL_law 652 = .ok (.iload_n 3, 1) := by decide +kernel
theorem dL_law_653 : decode cL_law 653 = .ok (.iconst 2, 1) := by decide +kernel
theorem dL_law_654 : decode cL_law 654 = .ok (.iadd, 1) := by decide +kernel
theorem dL_law_655 : decode cL_law 655 = .ok (.iaload, 1) := by decide +kernel
theorem dL_law_656 : decode cL_law 656 = .ok (.invokevirtual 88, 3) := by decide +kernel
theorem dL_law_659 : decode cL_law 659 = .ok (.if_icmp .eq 647, 3) := by decide +kernel
theorem dL_law_662 : decode cL_law 662 = .ok (.iconst 0, 1) := by decide +kernel
theorem dL_law_663 : decode cL_law 663 = .ok (.ireturn, 1) := by decide +kernel
theorem dL_law_664 : decode cL_law 664 = .ok (.aload_n 1, 1) := by decide +kernel
theorem dL_law_665 : decode cL_law 665 = .ok (.aload_n 0, 1) := by decide +kernel
theorem dL_law_666 : decode cL_law 666 = .ok (.iload_n 3, 1) := by decide +kernel
theorem dL_law_667 : decode cL_law 667 = .ok (.iconst 1, 1) := by decide +kernel
theorem dL_law_668 : decode cL_law 668 = .ok (.iadd, 1) := by decide +kernel
theorem dL_law_669 : decode cL_law 669 = .ok (.iaload, 1) := by decide +kernel
theorem dL_law_670 : decode cL_law 670 = .ok (.aload_n 0, 1) := by decide +kernel
theorem dL_law_671 : decode cL_law 671 = .ok (.iload_n 3, 1) := by decide +kernel
theorem dL_law_672 : decode cL_law 672 = .ok (.iconst 2, 1) := by decide +kernel
theorem dL_law_673 : decode cL_law 673 = .ok (.iadd, 1) := by decide +kernel
theorem dL_law_674 : decode cL_law 674 = .ok (.iaload, 1) := by decide +kernel
theorem dL_law_675 : decode cL_law 675 = .ok (.invokevirtual 89, 3) := by decide +kernel
theorem dL_law_678 : decode cL_law 678 = .ok (.aload_n 2, 1) := by decide +kernel
theorem dL_law_679 : decode cL_law 679 = .ok (.aload_n 0, 1) := by decide +kernel
theorem dL_law_680 : decode cL_law 680 = .ok (.iload_n 3, 1) := by decide +kernel
theorem dL_law_681 : decode cL_law 681 = .ok (.iconst 1, 1) := by decide +kernel
theorem dL_law_682 : decode cL_law 682 = .ok (.iadd, 1) := by decide +kernel
theorem dL_law_683 : decode cL_law 683 = .ok (.iaload, 1) := by decide +kernel
theorem dL_law_684 : decode cL_law 684 = .ok (.aload_n 0, 1) := by decide +kernel
theorem dL_law_685 : decode cL_law 685 = .ok (.iload_n 3, 1) := by decide +kernel
theorem dL_law_686 : decode cL_law 686 = .ok (.iconst 2, 1) := by decide +kernel
theorem dL_law_687 : decode cL_law 687 = .ok (.iadd, 1) := by decide +kernel
theorem dL_law_688 : decode cL_law 688 = .ok (.iaload, 1) := by decide +kernel
theorem dL_law_689 : decode cL_law 689 = .ok (.invokevirtual 92, 3) := by decide +kernel
theorem dL_law_692 : decode cL_law 692 = .ok (.if_icmp .eq 614, 3) := by decide +kernel
theorem dL_law_695 : decode cL_law 695 = .ok (.iconst 0, 1) := by decide +kernel
theorem dL_law_696 : decode cL_law 696 = .ok (.ireturn, 1) := by decide +kernel
theorem dL_law_697 : decode cL_law 697 = .ok (.aload_n 1, 1) := by decide +kernel
theorem dL_law_698 : decode cL_law 698 = .ok (.aload_n 0, 1) := by decide +kernel
theorem dL_law_699 : decode cL_law 699 = .ok (.iload_n 3, 1) := by decide +kernel
theorem dL_law_700 : decode cL_law 700 = .ok (.iconst 1, 1) := by decide +kernel
theorem dL_law_701 : decode cL_law 701 = .ok (.iadd, 1) := by decide +kernel
theorem dL_law_702 : decode cL_law 702 = .ok (.iaload, 1) := by decide +kernel
theorem dL_law_703 : decode cL_law 703 = .ok (.aload_n 0, 1) := by decide +kernel
theorem dL_law_704 : decode cL_law 704 = .ok (.iload_n 3, 1) := by decide +kernel
theorem dL_law_705 : decode cL_law 705 = .ok (.iconst 2, 1) := by decide +kernel
theorem dL_law_706 : decode cL_law 706 = .ok (.iadd, 1) := by decide +kernel
theorem dL_law_707 : decode cL_law 707 = .ok (.iaload, 1) := by decide +kernel
theorem dL_law_708 : decode cL_law 708 = .ok (.invokevirtual 93, 3) := by decide +kernel
theorem dL_law_711 : decode cL_law 711 = .ok (.aload_n 2, 1) := by decide +kernel
theorem dL_law_712 : decode cL_law 712 = .ok (.aload_n 0, 1) := by decide +kernel
theorem dL_law_713 : decode cL_law 713 = .ok (.iload_n 3, 1) := by decide +kernel
theorem dL_law_714 : decode cL_law 714 = .ok (.iconst 1, 1) := by decide +kernel
theorem dL_law_715 : decode cL_law 715 = .ok (.iadd, 1) := by decide +kernel
theorem dL_law_716 : decode cL_law 716 = .ok (.iaload, 1) := by decide +kernel
theorem dL_law_717 : decode cL_law 717 = .ok (.aload_n 0, 1) := by decide +kernel
theorem dL_law_718 : decode cL_law 718 = .ok (.iload_n 3, 1) := by decide +kernel
theorem dL_law_719 : decode cL_law 719 = .ok (.iconst 2, 1) := by decide +kernel
theorem dL_law_720 : decode cL_law 720 = .ok (.iadd, 1) := by decide +kernel
theorem dL_law_721 : decode cL_law 721 = .ok (.iaload, 1) := by decide +kernel
theorem dL_law_722 : decode cL_law 722 = .ok (.invokevirtual 96, 3) := by decide +kernel
theorem dL_law_725 : decode cL_law 725 = .ok (.if_icmp .eq 581, 3) := by decide +kernel
theorem dL_law_728 : decode cL_law 728 = .ok (.iconst 0, 1) := by decide +kernel
theorem dL_law_729 : decode cL_law 729 = .ok (.ireturn, 1) := by decide +kernel
theorem dL_law_730 : decode cL_law 730 = .ok (.aload_n 1, 1) := by decide +kernel
theorem dL_law_731 : decode cL_law 731 = .ok (.aload_n 0, 1) := by decide +kernel
theorem dL_law_732 : decode cL_law 732 = .ok (.iload_n 3, 1) := by decide +kernel
theorem dL_law_733 : decode cL_law 733 = .ok (.iconst 1, 1) := by decide +kernel
theorem dL_law_734 : decode cL_law 734 = .ok (.iadd, 1) := by decide +kernel
theorem dL_law_735 : decode cL_law 735 = .ok (.iaload, 1) := by decide +kernel
theorem dL_law_736 : decode cL_law 736 = .ok (.invokevirtual 97, 3) := by decide +kernel
theorem dL_law_739 : decode cL_law 739 = .ok (.aload_n 2, 1) := by decide +kernel
theorem dL_law_740 : decode cL_law 740 = .ok (.aload_n 0, 1) := by decide +kernel
theorem dL_law_741 : decode cL_law 741 = .ok (.iload_n 3, 1) := by decide +kernel
theorem dL_law_742 : decode cL_law 742 = .ok (.iconst 1, 1) := by decide +kernel
theorem dL_law_743 : decode cL_law 743 = .ok (.iadd, 1) := by decide +kernel
theorem dL_law_744 : decode cL_law 744 = .ok (.iaload, 1) := by decide +kernel
theorem dL_law_745 : decode cL_law 745 = .ok (.invokevirtual 100, 3) := by decide +kernel
theorem dL_law_748 : decode cL_law 748 = .ok (.if_icmp .eq 558, 3) := by decide +kernel
theorem dL_law_751 : decode cL_law 751 = .ok (.iconst 0, 1) := by decide +kernel
theorem dL_law_752 : decode cL_law 752 = .ok (.ireturn, 1) := by decide +kernel
theorem dL_law_753 : decode cL_law 753 = .ok (.aload_n 1, 1) := by decide +kernel
theorem dL_law_754 : decode cL_law 754 = .ok (.aload_n 0, 1) := by decide +kernel
theorem dL_law_755 : decode cL_law 755 = .ok (.iload_n 3, 1) := by decide +kernel
theorem dL_law_756 : decode cL_law 756 = .ok (.iconst 1, 1) := by decide +kernel
theorem dL_law_757 : decode cL_law 757 = .ok (.iadd, 1) := by decide +kernel
theorem dL_law_758 : decode cL_law 758 = .ok (.iaload, 1) := by decide +kernel
theorem dL_law_759 : decode cL_law 759 = .ok (.invokevirtual 101, 3) := by decide +kernel
theorem dL_law_762 : decode cL_law 762 = .ok (.aload_n 2, 1) := by decide +kernel
theorem dL_law_763 : decode cL_law 763 = .ok (.aload_n 0, 1) := by decide +kernel
theorem dL_law_764 : decode cL_law 764 = .ok (.iload_n 3, 1) := by decide +kernel
theorem dL_law_765 : decode cL_law 765 = .ok (.iconst 1, 1) := by decide +kernel
theorem dL_law_766 : decode cL_law 766 = .ok (.iadd, 1) := by decide +kernel
theorem dL_law_767 : decode cL_law 767 = .ok (.iaload, 1) := by decide +kernel
theorem dL_law_768 : decode cL_law 768 = .ok (.invokevirtual 104, 3) := by decide +kernel
theorem dL_law_771 : decode cL_law 771 = .ok (.if_icmp .eq 535, 3) := by decide +kernel
theorem dL_law_774 : decode cL_law 774 = .ok (.iconst 0, 1) := by decide +kernel
theorem dL_law_775 : decode cL_law 775 = .ok (.ireturn, 1) := by decide +kernel
theorem dL_law_776 : decode cL_law 776 = .ok (.aload_n 1, 1) := by decide +kernel
theorem dL_law_777 : decode cL_law 777 = .ok (.aload_n 0, 1) := by decide +kernel
theorem dL_law_778 : decode cL_law 778 = .ok (.iload_n 3, 1) := by decide +kernel
theorem dL_law_779 : decode cL_law 779 = .ok (.iconst 1, 1) := by decide +kernel
theorem dL_law_780 : decode cL_law 780 = .ok (.iadd, 1) := by decide +kernel
theorem dL_law_781 : decode cL_law 781 = .ok (.iaload, 1) := by decide +kernel
theorem dL_law_782 : decode cL_law 782 = .ok (.aload_n 0, 1) := by decide +kernel
theorem dL_law_783 : decode cL_law 783 = .ok (.iload_n 3, 1) := by decide +kernel
theorem dL_law_784 : decode cL_law 784 = .ok (.iconst 2, 1) := by decide +kernel
theorem dL_law_785 : decode cL_law 785 = .ok (.iadd, 1) := by decide +kernel
theorem dL_law_786 : decode cL_law 786 = .ok (.iaload, 1) := by decide +kernel
theorem dL_law_787 : decode cL_law 787 = .ok (.aload_n 0, 1) := by decide +kernel
theorem dL_law_788 : decode cL_law 788 = .ok (.iload_n 3, 1) := by decide +kernel
theorem dL_law_789 : decode cL_law 789 = .ok (.iconst 3, 1) := by decide +kernel
theorem dL_law_790 : decode cL_law 790 = .ok (.iadd, 1) := by decide +kernel
theorem dL_law_791 : decode cL_law 791 = .ok (.iaload, 1) := by decide +kernel
theorem dL_law_792 : decode cL_law 792 = .ok (.aload_n 0, 1) := by decide +kernel
theorem dL_law_793 : decode cL_law 793 = .ok (.iload_n 3, 1) := by decide +kernel
theorem dL_law_794 : decode cL_law 794 = .ok (.iconst 4, 1) := by decide +kernel
theorem dL_law_795 : decode cL_law 795 = .ok (.iadd, 1) := by decide +kernel
theorem dL_law_796 : decode cL_law 796 = .ok (.iaload, 1) := by decide +kernel
theorem dL_law_797 : decode cL_law 797 = .ok (.invokevirtual 105, 3) := by decide +kernel
theorem dL_law_800 : decode cL_law 800 = .ok (.aload_n 2, 1) := by decide +kernel
theorem dL_law_801 : decode cL_law 801 = .ok (.aload_n 0, 1) := by decide +kernel
theorem dL_law_802 : decode cL_law 802 = .ok (.iload_n 3, 1) := by decide +kernel
theorem dL_law_803 : decode cL_law 803 = .ok (.iconst 1, 1) := by decide +kernel
theorem dL_law_804 : decode cL_law 804 = .ok (.iadd, 1) := by decide +kernel
theorem dL_law_805 : decode cL_law 805 = .ok (.iaload, 1) := by decide +kernel
theorem dL_law_806 : decode cL_law 806 = .ok (.aload_n 0, 1) := by decide +kernel
theorem dL_law_807 : decode cL_law 807 = .ok (.iload_n 3, 1) := by decide +kernel
theorem dL_law_808 : decode cL_law 808 = .ok (.iconst 2, 1) := by decide +kernel
theorem dL_law_809 : decode cL_law 809 = .ok (.iadd, 1) := by decide +kernel
theorem dL_law_810 : decode cL_law 810 = .ok (.iaload, 1) := by decide +kernel
theorem dL_law_811 : decode cL_law 811 = .ok (.aload_n 0, 1) := by decide +kernel
theorem dL_law_812 : decode cL_law 812 = .ok (.iload_n 3, 1) := by decide +kernel
theorem dL_law_813 : decode cL_law 813 = .ok (.iconst 3, 1) := by decide +kernel
theorem dL_law_814 : decode cL_law 814 = .ok (.iadd, 1) := by decide +kernel
theorem dL_law_815 : decode cL_law 815 = .ok (.iaload, 1) := by decide +kernel
theorem dL_law_816 : decode cL_law 816 = .ok (.aload_n 0, 1) := by decide +kernel
theorem dL_law_817 : decode cL_law 817 = .ok (.iload_n 3, 1) := by decide +kernel
theorem dL_law_818 : decode cL_law 818 = .ok (.iconst 4, 1) := by decide +kernel
theorem dL_law_819 : decode cL_law 819 = .ok (.iadd, 1) := by decide +kernel
theorem dL_law_820 : decode cL_law 820 = .ok (.iaload, 1) := by decide +kernel
theorem dL_law_821 : decode cL_law 821 = .ok (.invokevirtual 109, 3) := by decide +kernel
theorem dL_law_824 : decode cL_law 824 = .ok (.lcmp, 1) := by decide +kernel
theorem dL_law_825 : decode cL_law 825 = .ok (.ifCond .eq 481, 3) := by decide +kernel
theorem dL_law_828 : decode cL_law 828 = .ok (.iconst 0, 1) := by decide +kernel
theorem dL_law_829 : decode cL_law 829 = .ok (.ireturn, 1) := by decide +kernel
theorem dL_law_830 : decode cL_law 830 = .ok (.aload_n 1, 1) := by decide +kernel
theorem dL_law_831 : decode cL_law 831 = .ok (.aload_n 0, 1) := by decide +kernel
theorem dL_law_832 : decode cL_law 832 = .ok (.iload_n 3, 1) := by decide +kernel
theorem dL_law_833 : decode cL_law 833 = .ok (.iconst 1, 1) := by decide +kernel
theorem dL_law_834 : decode cL_law 834 = .ok (.iadd, 1) := by decide +kernel
theorem dL_law_835 : decode cL_law 835 = .ok (.iaload, 1) := by decide +kernel
theorem dL_law_836 : decode cL_law 836 = .ok (.aload_n 0, 1) := by decide +kernel
theorem dL_law_837 : decode cL_law 837 = .ok (.iload_n 3, 1) := by decide +kernel
theorem dL_law_838 : decode cL_law 838 = .ok (.iconst 2, 1) := by decide +kernel
theorem dL_law_839 : decode cL_law 839 = .ok (.iadd, 1) := by decide +kernel
theorem dL_law_840 : decode cL_law 840 = .ok (.iaload, 1) := by decide +kernel
theorem dL_law_841 : decode cL_law 841 = .ok (.aload_n 0, 1) := by decide +kernel
theorem dL_law_842 : decode cL_law 842 = .ok (.iload_n 3, 1) := by decide +kernel
theorem dL_law_843 : decode cL_law 843 = .ok (.iconst 3, 1) := by decide +kernel
theorem dL_law_844 : decode cL_law 844 = .ok (.iadd, 1) := by decide +kernel
theorem dL_law_845 : decode cL_law 845 = .ok (.iaload, 1) := by decide +kernel
theorem dL_law_846 : decode cL_law 846 = .ok (.invokevirtual 110, 3) := by decide +kernel
theorem dL_law_849 : decode cL_law 849 = .ok (.aload_n 2, 1) := by decide +kernel
theorem dL_law_850 : decode cL_law 850 = .ok (.aload_n 0, 1) := by decide +kernel
theorem dL_law_851 : decode cL_law 851 = .ok (.iload_n 3, 1) := by decide +kernel
theorem dL_law_852 : decode cL_law 852 = .ok (.iconst 1, 1) := by decide +kernel
theorem dL_law_853 : decode cL_law 853 = .ok (.iadd, 1) := by decide +kernel
theorem dL_law_854 : decode cL_law 854 = .ok (.iaload, 1) := by decide +kernel
theorem dL_law_855 : decode cL_law 855 = .ok (.aload_n 0, 1) := by decide +kernel
theorem dL_law_856 : decode cL_law 856 = .ok (.iload_n 3, 1) := by decide +kernel
theorem dL_law_857 : decode cL_law 857 = .ok (.iconst 2, 1) := by decide +kernel
theorem dL_law_858 : decode cL_law 858 = .ok (.iadd, 1) := by decide +kernel
theorem dL_law_859 : decode cL_law 859 = .ok (.iaload, 1) := by decide +kernel
theorem dL_law_860 : decode cL_law 860 = .ok (.aload_n 0, 1) := by decide +kernel
theorem dL_law_861 : decode cL_law 861 = .ok (.iload_n 3, 1) := by decide +kernel
theorem dL_law_862 : decode cL_law 862 = .ok (.iconst 3, 1) := by decide +kernel
theorem dL_law_863 : decode cL_law 863 = .ok (.iadd, 1) := by decide +kernel
theorem dL_law_864 : decode cL_law 864 = .ok (.iaload, 1) := by decide +kernel
theorem dL_law_865 : decode cL_law 865 = .ok (.invokevirtual 114, 3) := by decide +kernel
theorem dL_law_868 : decode cL_law 868 = .ok (.lcmp, 1) := by decide +kernel
theorem dL_law_869 : decode cL_law 869 = .ok (.ifCond .eq 437, 3) := by decide +kernel
theorem dL_law_872 : decode cL_law 872 = .ok (.iconst 0, 1) := by decide +kernel
theorem dL_law_873 : decode cL_law 873 = .ok (.ireturn, 1) := by decide +kernel
theorem dL_law_874 : decode cL_law 874 = .ok (.aload_n 1, 1) := by decide +kernel
theorem dL_law_875 : decode cL_law 875 = .ok (.aload_n 0, 1) := by decide +kernel
theorem dL_law_876 : decode cL_law 876 = .ok (.iload_n 3, 1) := by decide +kernel
theorem dL_law_877 : decode cL_law 877 = .ok (.iconst 1, 1) := by decide +kernel
theorem dL_law_878 : decode cL_law 878 = .ok (.iadd, 1) := by decide +kernel
theorem dL_law_879 : decode cL_law 879 = .ok (.iaload, 1) := by decide +kernel
theorem dL_law_880 : decode cL_law 880 = .ok (.aload_n 0, 1) := by decide +kernel
theorem dL_law_881 : decode cL_law 881 = .ok (.iload_n 3, 1) := by decide +kernel
theorem dL_law_882 : decode cL_law 882 = .ok (.iconst 2, 1) := by decide +kernel
theorem dL_law_883 : decode cL_law 883 = .ok (.iadd, 1) := by decide +kernel
theorem dL_law_884 : decode cL_law 884 = .ok (.iaload, 1) := by decide +kernel
theorem dL_law_885 : decode cL_law 885 = .ok (.aload_n 0, 1) := by decide +kernel
theorem dL_law_886 : decode cL_law 886 = .ok (.iload_n 3, 1) := by decide +kernel
theorem dL_law_887 : decode cL_law 887 = .ok (.iconst 3, 1) := by decide +kernel
theorem dL_law_888 : decode cL_law 888 = .ok (.iadd, 1) := by decide +kernel
theorem dL_law_889 : decode cL_law 889 = .ok (.iaload, 1) := by decide +kernel
theorem dL_law_890 : decode cL_law 890 = .ok (.invokevirtual 115, 3) := by decide +kernel
theorem dL_law_893 : decode cL_law 893 = .ok (.aload_n 2, 1) := by decide +kernel
theorem dL_law_894 : decode cL_law 894 = .ok (.aload_n 0, 1) := by decide +kernel
theorem dL_law_895 : decode cL_law 895 = .ok (.iload_n 3, 1) := by decide +kernel
theorem dL_law_896 : decode cL_law 896 = .ok (.iconst 1, 1) := by decide +kernel
theorem dL_law_897 : decode cL_law 897 = .ok (.iadd, 1) := by decide +kernel
theorem dL_law_898 : decode cL_law 898 = .ok (.iaload, 1) := by decide +kernel
theorem dL_law_899 : decode cL_law 899 = .ok (.aload_n 0, 1) := by decide +kernel
theorem dL_law_900 : decode cL_law 900 = .ok (.iload_n 3, 1) := by decide +kernel
theorem dL_law_901 : decode cL_law 901 = .ok (.iconst 2, 1) := by decide +kernel
theorem dL_law_902 : decode cL_law 902 = .ok (.iadd, 1) := by decide +kernel
theorem dL_law_903 : decode cL_law 903 = .ok (.iaload, 1) := by decide +kernel
theorem dL_law_904 : decode cL_law 904 = .ok (.aload_n 0, 1) := by decide +kernel
theorem dL_law_905 : decode cL_law 905 = .ok (.iload_n 3, 1) := by decide +kernel
theorem dL_law_906 : decode cL_law 906 = .ok (.iconst 3, 1) := by decide +kernel
theorem dL_law_907 : decode cL_law 907 = .ok (.iadd, 1) := by decide +kernel
theorem dL_law_908 : decode cL_law 908 = .ok (.iaload, 1) := by decide +kernel
theorem dL_law_909 : decode cL_law 909 = .ok (.invokevirtual 118, 3) := by decide +kernel
theorem dL_law_912 : decode cL_law 912 = .ok (.if_icmp .eq 394, 3) := by decide +kernel
theorem dL_law_915 : decode cL_law 915 = .ok (.iconst 0, 1) := by decide +kernel
theorem dL_law_916 : decode cL_law 916 = .ok (.ireturn, 1) := by decide +kernel
theorem dL_law_917 : decode cL_law 917 = .ok (.aload_n 1, 1) := by decide +kernel
theorem dL_law_918 : decode cL_law 918 = .ok (.aload_n 0, 1) := by decide +kernel
theorem dL_law_919 : decode cL_law 919 = .ok (.iload_n 3, 1) := by decide +kernel
theorem dL_law_920 : decode cL_law 920 = .ok (.iconst 1, 1) := by decide +kernel
theorem dL_law_921 : decode cL_law 921 = .ok (.iadd, 1) := by decide +kernel
theorem dL_law_922 : decode cL_law 922 = .ok (.iaload, 1) := by decide +kernel
theorem dL_law_923 : decode cL_law 923 = .ok (.invokevirtual 119, 3) := by decide +kernel
theorem dL_law_926 : decode cL_law 926 = .ok (.aload_n 2, 1) := by decide +kernel
theorem dL_law_927 : decode cL_law 927 = .ok (.aload_n 0, 1) := by decide +kernel
theorem dL_law_928 : decode cL_law 928 = .ok (.iload_n 3, 1) := by decide +kernel
theorem dL_law_929 : decode cL_law 929 = .ok (.iconst 1, 1) := by decide +kernel
theorem dL_law_930 : decode cL_law 930 = .ok (.iadd, 1) := by decide +kernel
theorem dL_law_931 : decode cL_law 931 = .ok (.iaload, 1) := by decide +kernel
theorem dL_law_932 : decode cL_law 932 = .ok (.invokevirtual 122, 3) := by decide +kernel
theorem dL_law_935 : decode cL_law 935 = .ok (.if_icmp .eq 371, 3) := by decide +kernel
theorem dL_law_938 : decode cL_law 938 = .ok (.iconst 0, 1) := by decide +kernel
theorem dL_law_939 : decode cL_law 939 = .ok (.ireturn, 1) := by decide +kernel
theorem dL_law_940 : decode cL_law 940 = .ok (.aload_n 1, 1) := by decide +kernel
theorem dL_law_941 : decode cL_law 941 = .ok (.aload_n 0, 1) := by decide +kernel
theorem dL_law_942 : decode cL_law 942 = .ok (.iload_n 3, 1) := by decide +kernel
theorem dL_law_943 : decode cL_law 943 = .ok (.iconst 1, 1) := by decide +kernel
theorem dL_law_944 : decode cL_law 944 = .ok (.iadd, 1) := by decide +kernel
theorem dL_law_945 : decode cL_law 945 = .ok (.iaload, 1) := by decide +kernel
theorem dL_law_946 : decode cL_law 946 = .ok (.invokevirtual 123, 3) := by decide +kernel
theorem dL_law_949 : decode cL_law 949 = .ok (.aload_n 2, 1) := by decide +kernel
theorem dL_law_950 : decode cL_law 950 = .ok (.aload_n 0, 1) := by decide +kernel
theorem dL_law_951 : decode cL_law 951 = .ok (.iload_n 3, 1) := by decide +kernel
theorem dL_law_952 : decode cL_law 952 = .ok (.iconst 1, 1) := by decide +kernel
theorem dL_law_953 : decode cL_law 953 = .ok (.iadd, 1) := by decide +kernel
theorem dL_law_954 : decode cL_law 954 = .ok (.iaload, 1) := by decide +kernel
theorem dL_law_955 : decode cL_law 955 = .ok (.invokevirtual 126, 3) := by decide +kernel
theorem dL_law_958 : decode cL_law 958 = .ok (.if_icmp .eq 348, 3) := by decide +kernel
theorem dL_law_961 : decode cL_law 961 = .ok (.iconst 0, 1) := by decide +kernel
theorem dL_law_962 : decode cL_law 962 = .ok (.ireturn, 1) := by decide +kernel
theorem dL_law_963 : decode cL_law 963 = .ok (.aload_n 1, 1) := by decide +kernel
theorem dL_law_964 : decode cL_law 964 = .ok (.aload_n 0, 1) := by decide +kernel
theorem dL_law_965 : decode cL_law 965 = .ok (.iload_n 3, 1) := by decide +kernel
theorem dL_law_966 : decode cL_law 966 = .ok (.iconst 1, 1) := by decide +kernel
theorem dL_law_967 : decode cL_law 967 = .ok (.iadd, 1) := by decide +kernel
theorem dL_law_968 : decode cL_law 968 = .ok (.iaload, 1) := by decide +kernel
theorem dL_law_969 : decode cL_law 969 = .ok (.invokevirtual 127, 3) := by decide +kernel
theorem dL_law_972 : decode cL_law 972 = .ok (.aload_n 2, 1) := by decide +kernel
theorem dL_law_973 : decode cL_law 973 = .ok (.aload_n 0, 1) := by decide +kernel
theorem dL_law_974 : decode cL_law 974 = .ok (.iload_n 3, 1) := by decide +kernel
theorem dL_law_975 : decode cL_law 975 = .ok (.iconst 1, 1) := by decide +kernel
theorem dL_law_976 : decode cL_law 976 = .ok (.iadd, 1) := by decide +kernel
theorem dL_law_977 : decode cL_law 977 = .ok (.iaload, 1) := by decide +kernel
theorem dL_law_978 : decode cL_law 978 = .ok (.invokevirtual 130, 3) := by decide +kernel
theorem dL_law_981 : decode cL_law 981 = .ok (.if_icmp .eq 325, 3) := by decide +kernel
theorem dL_law_984 : decode cL_law 984 = .ok (.iconst 0, 1) := by decide +kernel
theorem dL_law_985 : decode cL_law 985 = .ok (.ireturn, 1) := by decide +kernel
theorem dL_law_986 : decode cL_law 986 = .ok (.aload_n 1, 1) := by decide +kernel
theorem dL_law_987 : decode cL_law 987 = .ok (.aload_n 0, 1) := by decide +kernel
theorem dL_law_988 : decode cL_law 988 = .ok (.iload_n 3, 1) := by decide +kernel
theorem dL_law_989 : decode cL_law 989 = .ok (.iconst 1, 1) := by decide +kernel
theorem dL_law_990 : decode cL_law 990 = .ok (.iadd, 1) := by decide +kernel
theorem dL_law_991 : decode cL_law 991 = .ok (.iaload, 1) := by decide +kernel
theorem dL_law_992 : decode cL_law 992 = .ok (.invokevirtual 131, 3) := by decide +kernel
theorem dL_law_995 : decode cL_law 995 = .ok (.aload_n 2, 1) := by decide +kernel
theorem dL_law_996 : decode cL_law 996 = .ok (.aload_n 0, 1) := by decide +kernel
theorem dL_law_997 : decode cL_law 997 = .ok (.iload_n 3, 1) := by decide +kernel
theorem dL_law_998 : decode cL_law 998 = .ok (.iconst 1, 1) := by decide +kernel
theorem dL_law_999 : decode cL_law 999 = .ok (.iadd, 1) := by decide +kernel
theorem dL_law_1000 : decode cL_law 1000 = .ok (.iaload, 1) := by decide +kernel
theorem dL_law_1001 : decode cL_law 1001 = .ok (.invokevirtual 134, 3) := by decide +kernel
theorem dL_law_1004 : decode cL_law 1004 = .ok (.if_icmp .eq 302, 3) := by decide +kernel
theorem dL_law_1007 : decode cL_law 1007 = .ok (.iconst 0, 1) := by decide +kernel
theorem dL_law_1008 : decode cL_law 1008 = .ok (.ireturn, 1) := by decide +kernel
theorem dL_law_1009 : decode cL_law 1009 = .ok (.aload_n 1, 1) := by decide +kernel
theorem dL_law_1010 : decode cL_law 1010 = .ok (.aload_n 0, 1) := by decide +kernel
theorem dL_law_1011 : decode cL_law 1011 = .ok (.iload_n 3, 1) := by decide +kernel
theorem dL_law_1012 : decode cL_law 1012 = .ok (.iconst 1, 1) := by decide +kernel
theorem dL_law_1013 : decode cL_law 1013 = .ok (.iadd, 1) := by decide +kernel
theorem dL_law_1014 : decode cL_law 1014 = .ok (.iaload, 1) := by decide +kernel
theorem dL_law_1015 : decode cL_law 1015 = .ok (.aload_n 0, 1) := by decide +kernel
theorem dL_law_1016 : decode cL_law 1016 = .ok (.iload_n 3, 1) := by decide +kernel
theorem dL_law_1017 : decode cL_law 1017 = .ok (.iconst 2, 1) := by decide +kernel
theorem dL_law_1018 : decode cL_law 1018 = .ok (.iadd, 1) := by decide +kernel
theorem dL_law_1019 : decode cL_law 1019 = .ok (.iaload, 1) := by decide +kernel
theorem dL_law_1020 : decode cL_law 1020 = .ok (.invokevirtual 135, 3) := by decide +kernel
theorem dL_law_1023 : decode cL_law 1023 = .ok (.aload_n 2, 1) := by decide +kernel
theorem dL_law_1024 : decode cL_law 1024 = .ok (.aload_n 0, 1) := by decide +kernel
theorem dL_law_1025 : decode cL_law 1025 = .ok (.iload_n 3, 1) := by decide +kernel
theorem dL_law_1026 : decode cL_law 1026 = .ok (.iconst 1, 1) := by decide +kernel
theorem dL_law_1027 : decode cL_law 1027 = .ok (.iadd, 1) := by decide +kernel
theorem dL_law_1028 : decode cL_law 1028 = .ok (.iaload, 1) := by decide +kernel
theorem dL_law_1029 : decode cL_law 1029 = .ok (.aload_n 0, 1) := by decide +kernel
theorem dL_law_1030 : decode cL_law 1030 = .ok (.iload_n 3, 1) := by decide +kernel
theorem dL_law_1031 : decode cL_law 1031 = .ok (.iconst 2, 1) := by decide +kernel
theorem dL_law_1032 : decode cL_law 1032 = .ok (.iadd, 1) := by decide +kernel
theorem dL_law_1033 : decode cL_law 1033 = .ok (.iaload, 1) := by decide +kernel
theorem dL_law_1034 : decode cL_law 1034 = .ok (.invokevirtual 138, 3) := by decide +kernel
theorem dL_law_1037 : decode cL_law 1037 = .ok (.if_icmp .eq 269, 3) := by decide +kernel
theorem dL_law_1040 : decode cL_law 1040 = .ok (.iconst 0, 1) := by decide +kernel
theorem dL_law_1041 : decode cL_law 1041 = .ok (.ireturn, 1) := by decide +kernel
theorem dL_law_1042 : decode cL_law 1042 = .ok (.aload_n 1, 1) := by decide +kernel
theorem dL_law_1043 : decode cL_law 1043 = .ok (.aload_n 0, 1) := by decide +kernel
theorem dL_law_1044 : decode cL_law 1044 = .ok (.iload_n 3, 1) := by decide +kernel
theorem dL_law_1045 : decode cL_law 1045 = .ok (.iconst 1, 1) := by decide +kernel
theorem dL_law_1046 : decode cL_law 1046 = .ok (.iadd, 1) := by decide +kernel
theorem dL_law_1047 : decode cL_law 1047 = .ok (.iaload, 1) := by decide +kernel
theorem dL_law_1048 : decode cL_law 1048 = .ok (.aload_n 0, 1) := by decide +kernel
theorem dL_law_1049 : decode cL_law 1049 = .ok (.iload_n 3, 1) := by decide +kernel
theorem dL_law_1050 : decode cL_law 1050 = .ok (.iconst 2, 1) := by decide +kernel
theorem dL_law_1051 : decode cL_law 1051 = .ok (.iadd, 1) := by decide +kernel
theorem dL_law_1052 : decode cL_law 1052 = .ok (.iaload, 1) := by decide +kernel
theorem dL_law_1053 : decode cL_law 1053 = .ok (.aload_n 0, 1) := by decide +kernel
theorem dL_law_1054 : decode cL_law 1054 = .ok (.iload_n 3, 1) := by decide +kernel
theorem dL_law_1055 : decode cL_law 1055 = .ok (.iconst 3, 1) := by decide +kernel
theorem dL_law_1056 : decode cL_law 1056 = .ok (.iadd, 1) := by decide +kernel
theorem dL_law_1057 : decode cL_law 1057 = .ok (.iaload, 1) := by decide +kernel
theorem dL_law_1058 : decode cL_law 1058 = .ok (.invokevirtual 139, 3) := by decide +kernel
theorem dL_law_1061 : decode cL_law 1061 = .ok (.aload_n 2, 1) := by decide +kernel
theorem dL_law_1062 : decode cL_law 1062 = .ok (.aload_n 0, 1) := by decide +kernel
theorem dL_law_1063 : decode cL_law 1063 = .ok (.iload_n 3, 1) := by decide +kernel
theorem dL_law_1064 : decode cL_law 1064 = .ok (.iconst 1, 1) := by decide +kernel
theorem dL_law_1065 : decode cL_law 1065 = .ok (.iadd, 1) := by decide +kernel
theorem dL_law_1066 : decode cL_law 1066 = .ok (.iaload, 1) := by decide +kernel
theorem dL_law_1067 : decode cL_law 1067 = .ok (.aload_n 0, 1) := by decide +kernel
theorem dL_law_1068 : decode cL_law 1068 = .ok (.iload_n 3, 1) := by decide +kernel
theorem dL_law_1069 : decode cL_law 1069 = .ok (.iconst 2, 1) := by decide +kernel
theorem dL_law_1070 : decode cL_law 1070 = .ok (.iadd, 1) := by decide +kernel
theorem dL_law_1071 : decode cL_law 1071 = .ok (.iaload, 1) := by decide +kernel
theorem dL_law_1072 : decode cL_law 1072 = .ok (.aload_n 0, 1) := by decide +kernel
theorem dL_law_1073 : decode cL_law 1073 = .ok (.iload_n 3, 1) := by decide +kernel
theorem dL_law_1074 : decode cL_law 1074 = .ok (.iconst 3, 1) := by decide +kernel
theorem dL_law_1075 : decode cL_law 1075 = .ok (.iadd, 1) := by decide +kernel
theorem dL_law_1076 : decode cL_law 1076 = .ok (.iaload, 1) := by decide +kernel
theorem dL_law_1077 : decode cL_law 1077 = .ok (.invokevirtual 142, 3) := by decide +kernel
theorem dL_law_1080 : decode cL_law 1080 = .ok (.if_icmp .eq 226, 3) := by decide +kernel
theorem dL_law_1083 : decode cL_law 1083 = .ok (.iconst 0, 1) := by decide +kernel
theorem dL_law_1084 : decode cL_law 1084 = .ok (.ireturn, 1) := by decide +kernel
theorem dL_law_1085 : decode cL_law 1085 = .ok (.aload_n 1, 1) := by decide +kernel
theorem dL_law_1086 : decode cL_law 1086 = .ok (.aload_n 0, 1) := by decide +kernel
theorem dL_law_1087 : decode cL_law 1087 = .ok (.iload_n 3, 1) := by decide +kernel
theorem dL_law_1088 : decode cL_law 1088 = .ok (.iconst 1, 1) := by decide +kernel
theorem dL_law_1089 : decode cL_law 1089 = .ok (.iadd, 1) := by decide +kernel
theorem dL_law_1090 : decode cL_law 1090 = .ok (.iaload, 1) := by decide +kernel
theorem dL_law_1091 : decode cL_law 1091 = .ok (.invokevirtual 143, 3) := by decide +kernel
theorem dL_law_1094 : decode cL_law 1094 = .ok (.aload_n 2, 1) := by decide +kernel
theorem dL_law_1095 : decode cL_law 1095 = .ok (.aload_n 0, 1) := by decide +kernel
theorem dL_law_1096 : decode cL_law 1096 = .ok (.iload_n 3, 1) := by decide +kernel
theorem dL_law_1097 : decode cL_law 1097 = .ok (.iconst 1, 1) := by decide +kernel
theorem dL_law_1098 : decode cL_law 1098 = .ok (.iadd, 1) := by decide +kernel
theorem dL_law_1099 : decode cL_law 1099 = .ok (.iaload, 1) := by decide +kernel
theorem dL_law_1100 : decode cL_law 1100 = .ok (.invokevirtual 146, 3) := by decide +kernel
theorem dL_law_1103 : decode cL_law 1103 = .ok (.if_icmp .eq 203, 3) := by decide +kernel
theorem dL_law_1106 : decode cL_law 1106 = .ok (.iconst 0, 1) := by decide +kernel
theorem dL_law_1107 : decode cL_law 1107 = .ok (.ireturn, 1) := by decide +kernel
theorem dL_law_1108 : decode cL_law 1108 = .ok (.aload_n 1, 1) := by decide +kernel
theorem dL_law_1109 : decode cL_law 1109 = .ok (.aload_n 0, 1) := by decide +kernel
theorem dL_law_1110 : decode cL_law 1110 = .ok (.iload_n 3, 1) := by decide +kernel
theorem dL_law_1111 : decode cL_law 1111 = .ok (.iconst 1, 1) := by decide +kernel
theorem dL_law_1112 : decode cL_law 1112 = .ok (.iadd, 1) := by decide +kernel
theorem dL_law_1113 : decode cL_law 1113 = .ok (.iaload, 1) := by decide +kernel
theorem dL_law_1114 : decode cL_law 1114 = .ok (.invokevirtual 147, 3) := by decide +kernel
theorem dL_law_1117 : decode cL_law 1117 = .ok (.aload_n 2, 1) := by decide +kernel
theorem dL_law_1118 : decode cL_law 1118 = .ok (.aload_n 0, 1) := by decide +kernel
theorem dL_law_1119 : decode cL_law 1119 = .ok (.iload_n 3, 1) := by decide +kernel
theorem dL_law_1120 : decode cL_law 1120 = .ok (.iconst 1, 1) := by decide +kernel
theorem dL_law_1121 : decode cL_law 1121 = .ok (.iadd, 1) := by decide +kernel
theorem dL_law_1122 : decode cL_law 1122 = .ok (.iaload, 1) := by decide +kernel
theorem dL_law_1123 : decode cL_law 1123 = .ok (.invokevirtual 150, 3) := by decide +kernel
theorem dL_law_1126 : decode cL_law 1126 = .ok (.if_icmp .eq 180, 3) := by decide +kernel
theorem dL_law_1129 : decode cL_law 1129 = .ok (.iconst 0, 1) := by decide +kernel
theorem dL_law_1130 : decode cL_law 1130 = .ok (.ireturn, 1) := by decide +kernel
theorem dL_law_1131 : decode cL_law 1131 = .ok (.aload_n 1, 1) := by decide +kernel
theorem dL_law_1132 : decode cL_law 1132 = .ok (.aload_n 0, 1) := by decide +kernel
theorem dL_law_1133 : decode cL_law 1133 = .ok (.iload_n 3, 1) := by decide +kernel
theorem dL_law_1134 : decode cL_law 1134 = .ok (.iconst 1, 1) := by decide +kernel
theorem dL_law_1135 : decode cL_law 1135 = .ok (.iadd, 1) := by decide +kernel
theorem dL_law_1136 : decode cL_law 1136 = .ok (.iaload, 1) := by decide +kernel
theorem dL_law_1137 : decode cL_law 1137 = .ok (.aload_n 0, 1) := by decide +kernel
theorem dL_law_1138 : decode cL_law 1138 = .ok (.iload_n 3, 1) := by decide +kernel
theorem dL_law_1139 : decode cL_law 1139 = .ok (.iconst 2, 1) := by decide +kernel
theorem dL_law_1140 : decode cL_law 1140 = .ok (.iadd, 1) := by decide +kernel
theorem dL_law_1141 : decode cL_law 1141 = .ok (.iaload, 1) := by decide +kernel
theorem dL_law_1142 : decode cL_law 1142 = .ok (.aload_n 0, 1) := by decide +kernel
theorem dL_law_1143 : decode cL_law 1143 = .ok (.iload_n 3, 1) := by decide +kernel
theorem dL_law_1144 : decode cL_law 1144 = .ok (.iconst 3, 1) := by decide +kernel
theorem dL_law_1145 : decode cL_law 1145 = .ok (.iadd, 1) := by decide +kernel
theorem dL_law_1146 : decode cL_law 1146 = .ok (.iaload, 1) := by decide +kernel
theorem dL_law_1147 : decode cL_law 1147 = .ok (.invokevirtual 151, 3) := by decide +kernel
theorem dL_law_1150 : decode cL_law 1150 = .ok (.aload_n 2, 1) := by decide +kernel
theorem dL_law_1151 : decode cL_law 1151 = .ok (.aload_n 0, 1) := by decide +kernel
theorem dL_law_1152 : decode cL_law 1152 = .ok (.iload_n 3, 1) := by decide +kernel
theorem dL_law_1153 : decode cL_law 1153 = .ok (.iconst 1, 1) := by decide +kernel
theorem dL_law_1154 : decode cL_law 1154 = .ok (.iadd, 1) := by decide +kernel
theorem dL_law_1155 : decode cL_law 1155 = .ok (.iaload, 1) := by decide +kernel
theorem dL_law_1156 : decode cL_law 1156 = .ok (.aload_n 0, 1) := by decide +kernel
theorem dL_law_1157 : decode cL_law 1157 = .ok (.iload_n 3, 1) := by decide +kernel
theorem dL_law_1158 : decode cL_law 1158 = .ok (.iconst 2, 1) := by decide +kernel
theorem dL_law_1159 : decode cL_law 1159 = .ok (.iadd, 1) := by decide +kernel
theorem dL_law_1160 : decode cL_law 1160 = .ok (.iaload, 1) := by decide +kernel
theorem dL_law_1161 : decode cL_law 1161 = .ok (.aload_n 0, 1) := by decide +kernel
theorem dL_law_1162 : decode cL_law 1162 = .ok (.iload_n 3, 1) := by decide +kernel
theorem dL_law_1163 : decode cL_law 1163 = .ok (.iconst 3, 1) := by decide +kernel
theorem dL_law_1164 : decode cL_law 1164 = .ok (.iadd, 1) := by decide +kernel
theorem dL_law_1165 : decode cL_law 1165 = .ok (.iaload, 1) := by decide +kernel
theorem dL_law_1166 : decode cL_law 1166 = .ok (.invokevirtual 154, 3) := by decide +kernel
theorem dL_law_1169 : decode cL_law 1169 = .ok (.if_icmp .eq 137, 3) := by decide +kernel
theorem dL_law_1172 : decode cL_law 1172 = .ok (.iconst 0, 1) := by decide +kernel
theorem dL_law_1173 : decode cL_law 1173 = .ok (.ireturn, 1) := by decide +kernel
theorem dL_law_1174 : decode cL_law 1174 = .ok (.aload_n 1, 1) := by decide +kernel
theorem dL_law_1175 : decode cL_law 1175 = .ok (.aload_n 0, 1) := by decide +kernel
theorem dL_law_1176 : decode cL_law 1176 = .ok (.iload_n 3, 1) := by decide +kernel
theorem dL_law_1177 : decode cL_law 1177 = .ok (.iconst 1, 1) := by decide +kernel
theorem dL_law_1178 : decode cL_law 1178 = .ok (.iadd, 1) := by decide +kernel
theorem dL_law_1179 : decode cL_law 1179 = .ok (.iaload, 1) := by decide +kernel
theorem dL_law_1180 : decode cL_law 1180 = .ok (.aload_n 0, 1) := by decide +kernel
theorem dL_law_1181 : decode cL_law 1181 = .ok (.iload_n 3, 1) := by decide +kernel
theorem dL_law_1182 : decode cL_law 1182 = .ok (.iconst 2, 1) := by decide +kernel
theorem dL_law_1183 : decode cL_law 1183 = .ok (.iadd, 1) := by decide +kernel
theorem dL_law_1184 : decode cL_law 1184 = .ok (.iaload, 1) := by decide +kernel
theorem dL_law_1185 : decode cL_law 1185 = .ok (.aload_n 0, 1) := by decide +kernel
theorem dL_law_1186 : decode cL_law 1186 = .ok (.iload_n 3, 1) := by decide +kernel
theorem dL_law_1187 : decode cL_law 1187 = .ok (.iconst 3, 1) := by decide +kernel
theorem dL_law_1188 : decode cL_law 1188 = .ok (.iadd, 1) := by decide +kernel
theorem dL_law_1189 : decode cL_law 1189 = .ok (.iaload, 1) := by decide +kernel
theorem dL_law_1190 : decode cL_law 1190 = .ok (.invokevirtual 155, 3) := by decide +kernel
theorem dL_law_1193 : decode cL_law 1193 = .ok (.aload_n 2, 1) := by decide +kernel
theorem dL_law_1194 : decode cL_law 1194 = .ok (.aload_n 0, 1) := by decide +kernel
theorem dL_law_1195 : decode cL_law 1195 = .ok (.iload_n 3, 1) := by decide +kernel
theorem dL_law_1196 : decode cL_law 1196 = .ok (.iconst 1, 1) := by decide +kernel
theorem dL_law_1197 : decode cL_law 1197 = .ok (.iadd, 1) := by decide +kernel
theorem dL_law_1198 : decode cL_law 1198 = .ok (.iaload, 1) := by decide +kernel
theorem dL_law_1199 : decode cL_law 1199 = .ok (.aload_n 0, 1) := by decide +kernel
theorem dL_law_1200 : decode cL_law 1200 = .ok (.iload_n 3, 1) := by decide +kernel
theorem dL_law_1201 : decode cL_law 1201 = .ok (.iconst 2, 1) := by decide +kernel
theorem dL_law_1202 : decode cL_law 1202 = .ok (.iadd, 1) := by decide +kernel
theorem dL_law_1203 : decode cL_law 1203 = .ok (.iaload, 1) := by decide +kernel
theorem dL_law_1204 : decode cL_law 1204 = .ok (.aload_n 0, 1) := by decide +kernel
theorem dL_law_1205 : decode cL_law 1205 = .ok (.iload_n 3, 1) := by decide +kernel
theorem dL_law_1206 : decode cL_law 1206 = .ok (.iconst 3, 1) := by decide +kernel
theorem dL_law_1207 : decode cL_law 1207 = .ok (.iadd, 1) := by decide +kernel
theorem dL_law_1208 : decode cL_law 1208 = .ok (.iaload, 1) := by decide +kernel
theorem dL_law_1209 : decode cL_law 1209 = .ok (.invokevirtual 158, 3) := by decide +kernel
theorem dL_law_1212 : decode cL_law 1212 = .ok (.if_icmp .eq 94, 3) := by decide +kernel
theorem dL_law_1215 : decode cL_law 1215 = .ok (.iconst 0, 1) := by decide +kernel
theorem dL_law_1216 : decode cL_law 1216 = .ok (.ireturn, 1) := by decide +kernel
theorem dL_law_1217 : decode cL_law 1217 = .ok (.aload_n 1, 1) := by decide +kernel
theorem dL_law_1218 : decode cL_law 1218 = .ok (.aload_n 0, 1) := by decide +kernel
theorem dL_law_1219 : decode cL_law 1219 = .ok (.iload_n 3, 1) := by decide +kernel
theorem dL_law_1220 : decode cL_law 1220 = .ok (.iconst 1, 1) := by decide +kernel
theorem dL_law_1221 : decode cL_law 1221 = .ok (.iadd, 1) := by decide +kernel
theorem dL_law_1222 : decode cL_law 1222 = .ok (.iaload, 1) := by decide +kernel
theorem dL_law_1223 : decode cL_law 1223 = .ok (.aload_n 0, 1) := by decide +kernel
theorem dL_law_1224 : decode cL_law 1224 = .ok (.iload_n 3, 1) := by decide +kernel
theorem dL_law_1225 : decode cL_law 1225 = .ok (.iconst 2, 1) := by decide +kernel
theorem dL_law_1226 : decode cL_law 1226 = .ok (.iadd, 1) := by decide +kernel
theorem dL_law_1227 : decode cL_law 1227 = .ok (.iaload, 1) := by decide +kernel
theorem dL_law_1228 : decode cL_law 1228 = .ok (.aload_n 0, 1) := by decide +kernel
theorem dL_law_1229 : decode cL_law 1229 = .ok (.iload_n 3, 1) := by decide +kernel
theorem dL_law_1230 : decode cL_law 1230 = .ok (.iconst 3, 1) := by decide +kernel
theorem dL_law_1231 : decode cL_law 1231 = .ok (.iadd, 1) := by decide +kernel
theorem dL_law_1232 : decode cL_law 1232 = .ok (.iaload, 1) := by decide +kernel
theorem dL_law_1233 : decode cL_law 1233 = .ok (.aload_n 0, 1) := by decide +kernel
theorem dL_law_1234 : decode cL_law 1234 = .ok (.iload_n 3, 1) := by decide +kernel
theorem dL_law_1235 : decode cL_law 1235 = .ok (.iconst 4, 1) := by decide +kernel
theorem dL_law_1236 : decode cL_law 1236 = .ok (.iadd, 1) := by decide +kernel
theorem dL_law_1237 : decode cL_law 1237 = .ok (.iaload, 1) := by decide +kernel
theorem dL_law_1238 : decode cL_law 1238 = .ok (.invokevirtual 159, 3) := by decide +kernel
theorem dL_law_1241 : decode cL_law 1241 = .ok (.aload_n 2, 1) := by decide +kernel
theorem dL_law_1242 : decode cL_law 1242 = .ok (.aload_n 0, 1) := by decide +kernel
theorem dL_law_1243 : decode cL_law 1243 = .ok (.iload_n 3, 1) := by decide +kernel
theorem dL_law_1244 : decode cL_law 1244 = .ok (.iconst 1, 1) := by decide +kernel
theorem dL_law_1245 : decode cL_law 1245 = .ok (.iadd, 1) := by decide +kernel
theorem dL_law_1246 : decode cL_law 1246 = .ok (.iaload, 1) := by decide +kernel
theorem dL_law_1247 : decode cL_law 1247 = .ok (.aload_n 0, 1) := by decide +kernel
theorem dL_law_1248 : decode cL_law 1248 = .ok (.iload_n 3, 1) := by decide +kernel
theorem dL_law_1249 : decode cL_law 1249 = .ok (.iconst 2, 1) := by decide +kernel
theorem dL_law_1250 : decode cL_law 1250 = .ok (.iadd, 1) := by decide +kernel
theorem dL_law_1251 : decode cL_law 1251 = .ok (.iaload, 1) := by decide +kernel
theorem dL_law_1252 : decode cL_law 1252 = .ok (.aload_n 0, 1) := by decide +kernel
theorem dL_law_1253 : decode cL_law 1253 = .ok (.iload_n 3, 1) := by decide +kernel
theorem dL_law_1254 : decode cL_law 1254 = .ok (.iconst 3, 1) := by decide +kernel
theorem dL_law_1255 : decode cL_law 1255 = .ok (.iadd, 1) := by decide +kernel
theorem dL_law_1256 : decode cL_law 1256 = .ok (.iaload, 1) := by decide +kernel
theorem dL_law_1257 : decode cL_law 1257 = .ok (.aload_n 0, 1) := by decide +kernel
theorem dL_law_1258 : decode cL_law 1258 = .ok (.iload_n 3, 1) := by decide +kernel
theorem dL_law_1259 : decode cL_law 1259 = .ok (.iconst 4, 1) := by decide +kernel
theorem dL_law_1260 : decode cL_law 1260 = .ok (.iadd, 1) := by decide +kernel
theorem dL_law_1261 : decode cL_law 1261 = .ok (.iaload, 1) := by decide +kernel
theorem dL_law_1262 : decode cL_law 1262 = .ok (.invokevirtual 163, 3) := by decide +kernel
theorem dL_law_1265 : decode cL_law 1265 = .ok (.if_icmp .eq 41, 3) := by decide +kernel
theorem dL_law_1268 : decode cL_law 1268 = .ok (.iconst 0, 1) := by decide +kernel
theorem dL_law_1269 : decode cL_law 1269 = .ok (.ireturn, 1) := by decide +kernel
theorem dL_law_1270 : decode cL_law 1270 = .ok (.aload_n 1, 1) := by decide +kernel
theorem dL_law_1271 : decode cL_law 1271 = .ok (.invokevirtual 164, 3) := by decide +kernel
theorem dL_law_1274 : decode cL_law 1274 = .ok (.aload_n 2, 1) := by decide +kernel
theorem dL_law_1275 : decode cL_law 1275 = .ok (.invokevirtual 167, 3) := by decide +kernel
theorem dL_law_1278 : decode cL_law 1278 = .ok (.if_icmp .eq 28, 3) := by decide +kernel
theorem dL_law_1281 : decode cL_law 1281 = .ok (.iconst 0, 1) := by decide +kernel
theorem dL_law_1282 : decode cL_law 1282 = .ok (.ireturn, 1) := by decide +kernel
theorem dL_law_1283 : decode cL_law 1283 = .ok (.aload_n 1, 1) := by decide +kernel
theorem dL_law_1284 : decode cL_law 1284 = .ok (.aload_n 0, 1) := by decide +kernel
theorem dL_law_1285 : decode cL_law 1285 = .ok (.iload_n 3, 1) := by decide +kernel
theorem dL_law_1286 : decode cL_law 1286 = .ok (.iconst 1, 1) := by decide +kernel
theorem dL_law_1287 : decode cL_law 1287 = .ok (.iadd, 1) := by decide +kernel
theorem dL_law_1288 : decode cL_law 1288 = .ok (.iaload, 1) := by decide +kernel
theorem dL_law_1289 : decode cL_law 1289 = .ok (.invokevirtual 168, 3) := by decide +kernel
theorem dL_law_1292 : decode cL_law 1292 = .ok (.aload_n 2, 1) := by decide +kernel
theorem dL_law_1293 : decode cL_law 1293 = .ok (.aload_n 0, 1) := by decide +kernel
theorem dL_law_1294 : decode cL_law 1294 = .ok (.iload_n 3, 1) := by decide +kernel
theorem dL_law_1295 : decode cL_law 1295 = .ok (.iconst 1, 1) := by decide +kernel
theorem dL_law_1296 : decode cL_law 1296 = .ok (.iadd, 1) := by decide +kernel
theorem dL_law_1297 : decode cL_law 1297 = .ok (.iaload, 1) := by decide +kernel
theorem dL_law_1298 : decode cL_law 1298 = .ok (.invokevirtual 171, 3) := by decide +kernel
theorem dL_law_1301 : decode cL_law 1301 = .ok (.if_icmp .eq 5, 3) := by decide +kernel
theorem dL_law_1304 : decode cL_law 1304 = .ok (.iconst 0, 1) := by decide +kernel
theorem dL_law_1305 : decode cL_law 1305 = .ok (.ireturn, 1) := by decide +kernel
theorem dL_law_1306 : decode cL_law 1306 = .ok (.iinc 3 5, 3) := by decide +kernel
theorem dL_law_1309 : decode cL_law 1309 = .ok (.goto (-1291), 3) := by decide +kernel
theorem dL_law_1312 : decode cL_law 1312 = .ok (.iconst 1, 1) := by decide +kernel
theorem dL_law_1313 : decode cL_law 1313 = .ok (.ireturn, 1) := by decide +kernel
end
section
/-! ===== the world: one fixed shape of cells; what changes in it is a memory of ints ===== -/
abbrev Mem : Type := Nat → Nat → Int32
abbrev SC : Type := (FieldType × Nat × Option (List Nat)) ⊕ (Nat × List (Option Nat))
abbrev MI : Type := MethodName × ByteArray × Nat × Option FieldType
abbrev GX : Type := Launch × va_G × (Nat → Nat) × (Nat → ClassId) × Nat × (Nat → Nat)
/-- 0 the BeamClocks; 1, 6, 11, 16 its Beams (now, trial, two images), each with four rows behind it; 21 images, 22 kept, 23 reader, 24 its tape, 25 seen, 26 27 28 its rows, 29 sheets, 30 best, 31 33 35 37 the Sheets, a row behind each, 39 heard; 40 the model, 41 state, 42 readPage, 43 tape, 44 ends, 45 letters, 46 seen, 47 beatBy, 48 isKept, 49 lanes, 50 lengths, 51 cells -/
def Sh : List SC := [
  .inr (5, [some 1, some 6, some 21, some 22, some 23, some 25, some 29, some 30, some 39, none, none]),
  .inr (0, [some 2, some 3, some 4, some 5, none, none, none]), .inl (.int, 5, none), .inl (.int, 5, none), .inl (.int, 5, none), .inl (.int, 5, none),
  .inr (0, [some 7, some 8, some 9, some 10, none, none, none]), .inl (.int, 5, none), .inl (.int, 5, none), .inl (.int, 5, none), .inl (.int, 5, none),
  .inr (0, [some 12, some 13, some 14, some 15, none, none, none]), .inl (.int, 5, none), .inl (.int, 5, none), .inl (.int, 5, none), .inl (.int, 5, none),
  .inr (0, [some 17, some 18, some 19, some 20, none, none, none]), .inl (.int, 5, none), .inl (.int, 5, none), .inl (.int, 5, none), .inl (.int, 5, none),
  .inl (.object "BeamClocks$Beam", 2, some [11, 16]), .inl (.boolean, 2, none),
  .inr (2, [some 24, none, none, none, none, none, none, none, none]), .inl (.byte, 160, none),
  .inr (3, [some 26, some 27, some 28, none]), .inl (.int, 6, none), .inl (.int, 6, none), .inl (.int, 6, none),
  .inl (.object "BeamClocks$Sheet", 4, some [31, 33, 35, 37]), .inr (1, [none, none, none]),
  .inr (4, [some 32, none, none]), .inl (.int, 40, none),
  .inr (4, [some 34, none, none]), .inl (.int, 40, none),
  .inr (4, [some 36, none, none]), .inl (.int, 40, none),
  .inr (4, [some 38, none, none]), .inl (.int, 40, none),
  .inl (.int, 61, none),
  .inr (6, [some 41, some 42, none, some 43, none, none, none, none, none, none, none, none, some 44, some 45, none, none, none, none, some 46, none, some 47, some 48, some 49, some 50, some 51, none]),
  .inl (.int, 138, none), .inl (.int, 23, none), .inl (.int, 160, none), .inl (.int, 6, none), .inl (.int, 21, none), .inl (.int, 18, none), .inl (.int, 1830, none), .inl (.boolean, 2, none), .inl (.int, 4, none), .inl (.int, 4, none), .inl (.int, 160, none)]
def um0 (mem : Mem) (k : Nat) (f : Nat → Int32) : Mem := fun c => if c = k then f else mem c
def um (mem : Mem) (k i : Nat) (x : Int32) : Mem := um0 mem k (upd (mem k) i x)
def lf (al : Nat → Nat) (v : Value) : Value := match v with
  | .ref k => .ref (al k)
  | w => w
theorem lf_cat (al : Nat → Nat) (v : Value) : (lf al v).category = v.category := by cases v <;> rfl
def lp (al : Nat → Nat) (q : Nat × Value) : Nat × Value := (q.1, lf al q.2)
def fv (al : Nat → Nat) (f : Nat → Int32) (j : Nat) (o : Option Nat) : Value := match o with
  | none => .int (f j)
  | some t => .ref (al t)
def ce (G : GX) (mem : Mem) (k : Nat) (c : SC) : va_E := match c with
  | .inl (_, n, none) => .inl (G.2.2.2.1 k, n, .inl (mem k))
  | .inl (_, n, some ts) => .inl (G.2.2.2.1 k, n, .inr (.inr (.inr (.inr (fun j => (ts[j]?).map G.2.2.1)))))
  | .inr (ci, fs) => .inr (ci, fs.mapIdx (fv G.2.2.1 (mem k)))
def wl (G : GX) (mem : Mem) : va_W := Sh.mapIdx (fun k c => (G.2.2.1 k, ce G mem k c))
theorem wl_get {G : GX} {mem : Mem} {k : Nat} {c : SC} (h : Sh[k]? = some c) : (wl G mem)[k]? = some (G.2.2.1 k, ce G mem k c) := by
  unfold wl
  rw [List.getElem?_mapIdx, h]
  rfl
theorem wl_inv {G : GX} {mem : Mem} {k : Nat} {q : Nat × va_E} (h : (wl G mem)[k]? = some q) : ∃ c : SC, Sh[k]? = some c ∧ q = (G.2.2.1 k, ce G mem k c) := by
  unfold wl at h
  rw [List.getElem?_mapIdx] at h
  cases hc : Sh[k]? with
  | none => rw [hc] at h; cases h
  | some c => rw [hc] at h; exact ⟨c, rfl, (Option.some.inj h).symm⟩
theorem ce_um0 {G : GX} {mem : Mem} {k k2 : Nat} {f : Nat → Int32} {c : SC} (h : k2 ≠ k) : ce G (um0 mem k f) k2 c = ce G mem k2 c := by
  have e : um0 mem k f k2 = mem k2 := if_neg h
  unfold ce
  rcases c with ⟨t, n, _ | ts⟩ | ⟨ci, fs⟩ <;> simp only [e]
theorem wl_set {G : GX} {mem : Mem} {k : Nat} {c : SC} {f : Nat → Int32} {e : va_E} (h : Sh[k]? = some c) (he : ce G (um0 mem k f) k c = e) : (wl G mem).set k (G.2.2.1 k, e) = wl G (um0 mem k f) := by
  apply List.ext_getElem?
  intro j
  rw [List.getElem?_set]
  by_cases hj : k = j
  · subst hj
    have hk : k < (wl G mem).length := (List.getElem?_eq_some_iff.mp (wl_get h)).1
    rw [if_pos rfl, if_pos hk, wl_get h, he]
  · rw [if_neg hj]
    cases hc : Sh[j]? with
    | none =>
      have h1 : ∀ mem : Mem, (wl G mem)[j]? = none := fun mem => by
        unfold wl
        rw [List.getElem?_mapIdx, hc]
        rfl
      rw [h1, h1]
    | some c2 => rw [wl_get hc, wl_get hc, ce_um0 (fun q => hj q.symm)]
theorem um0_self (mem : Mem) (k : Nat) (f : Nat → Int32) : um0 mem k f k = f := if_pos rfl
theorem um_eq (mem : Mem) (k i : Nat) (x : Int32) : um mem k i x k = upd (mem k) i x := if_pos rfl
/-! ===== what holds at a method's entry, of the state ===== -/
def A0 (G : GX) : Nat → Prop := fun q => G.2.2.2.2.1 ≤ q
def AL (G : GX) : Prop := (∀ i j, i < Sh.length → j < Sh.length → G.2.2.1 i = G.2.2.1 j → i = j) ∧ ∀ i, i < Sh.length → G.2.2.2.2.1 ≤ G.2.2.1 i
def NW (U : State) : Prop := va_Nw (.methodLinkNest RX2 79 yX5_isWithin RX5) U ∧ va_Nw (.methodLinkNest RX0 77 yX5_isBitSet RX5) U ∧ va_Nw (.methodLinkNest RX0 40 yX5_isWithin RX5) U
def sIdx : List Nat := [93, 99, 101, 103, 105]
def sTxt : List String := ["plain", "soft", "heavy", "shy", "push"]
def sLen : List Nat := [5, 4, 5, 3, 4]
def sByt : List (List Int32) := [[112, 108, 97, 105, 110], [115, 111, 102, 116], [104, 101, 97, 118, 121], [115, 104, 121], [112, 117, 115, 104]]
def SR (G : GX) (U : State) : Prop := ∀ i, i < 5 → vk_R RX2 (sIdx.getD i 0) (sTxt.getD i "") (G.2.2.1 (100 + i)) U
def SS (G : GX) (U : State) (H : Heap) : Prop := vk_S 5 sLen sByt (fun i => G.2.2.1 (100 + i)) G.2.2.2.2.2 (A0 G) U H ∧ va_Z "java/lang/String" "COMPACT_STRINGS" "Z" (.int 1) (A0 G) U H ∧ va_Zq "jdk/internal/util/Preconditions" "SIOOBE_FORMATTER" "Ljava/util/function/BiFunction;" (A0 G) U H
def IS (G : GX) (U : State) : Prop := AL G ∧ va_K G.2.1 vwCl [] U ∧ (∀ (k : Nat) (ty : FieldType) (n : Nat) (o : Option (List Nat)), Sh[k]? = some (.inl (ty, n, o)) → ArrOfT U (G.2.2.2.1 k) ty ∧ va_RA U (G.2.2.2.1 k) ty) ∧ NW U ∧ SR G U ∧ SS G U U.heap
theorem IS.go {G : GX} {s U : State} (h : IS G s) (hW : s.WarmedH U.vm) (hH : ∀ a : Nat, a < s.heap.size → ¬ A0 G a → U.heap[a]? = s.heap[a]?) : IS G U := by
  obtain ⟨h1, h2, h3, ⟨n1, n2, n3⟩, h5, h6, h7, h8⟩ := h
  exact ⟨h1, h2.moved hW.alike, fun k ty n o hk => ⟨arrOfT_moved hW.alike (h3 k ty n o hk).1, (h3 k ty n o hk).2.moved hW.alike⟩, ⟨va_Nw.warmM hW n1, va_Nw.warmM hW n2, va_Nw.warmM hW n3⟩, fun i hi => vk_R.warm hW (h5 i hi), (h6.kept hH).moved hW.alike, (h7.kept hH).moved hW.alike, (h8.kept hH).moved hW.alike⟩
theorem IS.call {G : GX} {U : State} {g : JFrame} {mk : MethodId} {a : Array Value} (h : IS G U) : IS G (U.calling g mk a) := by
  obtain ⟨h1, h2, h3, ⟨n1, n2, n3⟩, h5, h6, h7, h8⟩ := h
  have hv : (U.calling g mk a).vm = U.vm := rfl
  have hal : U.vm.Alike (U.calling g mk a).vm := Vm.Alike.refl U.vm
  exact ⟨h1, h2.moved hal, fun k ty n o hk => ⟨arrOfT_moved hal (h3 k ty n o hk).1, (h3 k ty n o hk).2.moved hal⟩, ⟨va_Nw.same rfl hv.symm n1, va_Nw.same rfl hv.symm n2, va_Nw.same rfl hv.symm n3⟩, fun i hi => vk_R.same hv (h5 i hi), h6.moved hal, h7.moved hal, h8.moved hal⟩
theorem IS.D {G : GX} {s : State} (h : IS G s) (mem : Mem) : va_D (A0 G) (wl G mem) := by
  obtain ⟨⟨h1, h2⟩, -⟩ := h
  have hlt : ∀ (k : Nat) (c : SC), Sh[k]? = some c → k < Sh.length := fun k c hk => (List.getElem?_eq_some_iff.mp hk).1
  refine ⟨fun i j p q hp hq e => ?_, fun k q hk => ?_⟩
  · obtain ⟨c, e1, rfl⟩ := wl_inv hp
    obtain ⟨c2, e2, rfl⟩ := wl_inv hq
    exact h1 i j (hlt _ _ e1) (hlt _ _ e2) e
  · obtain ⟨c, e1, rfl⟩ := wl_inv hk
    exact h2 k (hlt _ _ e1)
theorem IS.K {G : GX} {s : State} (h : IS G s) {k : Nat} {ty : FieldType} {n : Nat} {o : Option (List Nat)} (hk : Sh[k]? = some (.inl (ty, n, o))) : va_K G.2.1 vwCl [(G.2.2.2.1 k, ty)] s := by
  obtain ⟨-, h2, h3, -⟩ := h
  refine ⟨h2.1, fun j q hj => ?_⟩
  match j, hj with
  | 0, hj => cases hj; exact h3 k ty n o hk
  | j + 1, hj => simp at hj
theorem IS.K2 {G : GX} {s : State} (h : IS G s) {k k2 : Nat} {ty ty2 : FieldType} {n n2 : Nat} {o o2 : Option (List Nat)} (hk : Sh[k]? = some (.inl (ty, n, o))) (hk2 : Sh[k2]? = some (.inl (ty2, n2, o2))) : va_K G.2.1 vwCl [(G.2.2.2.1 k, ty), (G.2.2.2.1 k2, ty2)] s := (h.K hk).app (h.K hk2)
/-! ===== the words ===== -/
def Tb : List Cond := lw_tbl.filter goodWord
theorem inTb {w : Cond} (h : w ∈ lw_tbl) (hg : goodWord w = true) : w ∈ Tb := List.mem_filter.mpr ⟨h, hg⟩
def wsG (M : MI) : List Cond := .code M.1 M.2.1 M.2.2.1 M.2.2.2 :: Tb
theorem goodG {M : MI} (hc : Cond.code M.1 M.2.1 M.2.2.1 M.2.2.2 ∈ Tb) : GoodIn Tb (wsG M) := by
  intro w hw
  have h : w ∈ Tb := by
    rcases List.mem_cons.mp hw with e | e
    · rw [e]; exact hc
    · exact e
  exact ⟨h, good_of_word (List.mem_filter.mp h).2⟩
def rmd (d : Nat) : Room := { frames := d, cells := 0, slots := 0, locals := 40 * d }
/-! ===== the judgement: from here the method comes to its return with Φ ===== -/
def Fx (M : MI) (p : Program) (s : State) (m : MethodId) (args : Array Value) (meth : Method) (c : Code) : Prop := p.tables.exec = Jvm.exec ∧ c.code = M.2.1 ∧ meth.sig.returnType = M.2.2.2 ∧ c.maxLocals = M.2.2.1 ∧ s.vm.findClass M.1.cls = some m.cls ∧ (∀ w ∈ Tb, w.before args s = true) ∧ meth.locks = false
def QG (G : GX) (Φ : Option Value → Mem → Prop) : Array Value → State → Outcome → State → Prop := fun _ st oc t => (∃ (v : Option Value) (mem : Mem), oc = .returned (v.map (lf G.2.2.1)) ∧ Φ v mem ∧ va_P G.2.1 vwCl (wl G mem) t.heap) ∧ va_F (A0 G) st t
def Go (G : GX) (d : Nat) (M : MI) (pc : Nat) (L : List (Nat × Value)) (st : List Value) (mem : Mem) (Φ : Option Value → Mem → Prop) : Prop :=
  ∀ (p : Program) (e : Env) (s : State) (m : MethodId) (args : Array Value) (below : List Frame) (meth : Method) (c : Code) (H : Heap) (locs : List Loc) (ls : Array Slot), Fx M p s m args meth c → IS G s → va_P G.2.1 vwCl (wl G mem) H → va_S (A0 G) s.heap H locs → lv_has ls M.2.2.1 (L.map (lp G.2.2.1)) →
    W p G.1 e (rmd d) s m args below meth c H locs 0 0 (MQ below (QG G Φ) args s 0 0 (A0 G)) (F0 m pc ls (st.map (lf G.2.2.1)))
/-- a method's contract -/
def Cn (G : GX) (d : Nat) (M : MI) (as : List Value) (mem : Mem) (Φ : Option Value → Mem → Prop) : Prop :=
  Met G.1 M.1 (wsG M) (rmd d) (va_Pc (as.map (lf G.2.2.1)) (fun U => IS G U ∧ va_P G.2.1 vwCl (wl G mem) U.heap)) (QG G Φ) 0 0 (A0 G)
theorem lv_args_map (al : Nat → Nat) : ∀ (as : List Value) (i : Nat), lv_args i (as.map (lf al)) = (lv_args i as).map (lp al)
  | [], i => rfl
  | v :: vs, i => by
    show (i, lf al v) :: lv_args (if (lf al v).category = 2 then i + 2 else i + 1) (vs.map (lf al)) = (i, lf al v) :: (lv_args (if v.category = 2 then i + 2 else i + 1) vs).map (lp al)
    rw [lf_cat, lv_args_map al vs]
theorem lg_len (al : Nat → Nat) : ∀ (as : List Value), (lg_sl (as.map (lf al))).length = (lg_sl as).length
  | [] => rfl
  | v :: vs => by
    have ih := lg_len al vs
    unfold lg_sl at ih ⊢
    rw [List.map_cons, List.flatMap_cons, List.flatMap_cons, List.length_append, List.length_append, ih, lf_cat]
    by_cases h : v.category = 2
    · rw [if_pos h, if_pos h]
      rfl
    · rw [if_neg h, if_neg h]
      rfl
theorem cn_of {G : GX} {d : Nat} {M : MI} {as : List Value} {mem : Mem} {Φ : Option Value → Mem → Prop} (hpl : plainName M.1.cls = true) (hlen : (lg_sl as).length ≤ M.2.2.1) (go : Go G d M 0 (lv_args 0 as) [] mem Φ) : Cn G d M as mem Φ := by
  refine Met.ofW (cc := M.2.1) (maxL := M.2.2.1) (ret := M.2.2.2) hpl rfl ?_
  intro p e s m args below meth c s₁ B hml hv
  obtain ⟨rfl, hI, hP⟩ := hv
  have hts := atoms_spec (ws := wsG M) B.pre
  have hl := lv_entry (as.map (lf G.2.2.1)) (n := M.2.2.1) (by rw [lg_len]; exact hlen)
  rw [lg_entry_eq]
  rw [lv_args_map] at hl
  exact go p e s m _ below meth c s.heap [] _ ⟨B.exec, B.bytes, B.returns, hml, findClass_of_methodNamed B.named, fun w hw => hts w (List.mem_cons_of_mem _ hw), B.notSynchronized⟩ hI hP va_S.rf hl
theorem Cn.imp {G : GX} {d : Nat} {M : MI} {as : List Value} {mem : Mem} {Φ Ψ : Option Value → Mem → Prop} (h : Cn G d M as mem Φ) (hi : ∀ v m2, Φ v m2 → Ψ v m2) : Cn G d M as mem Ψ := by
  intro p e ha hc hk s m args below hf happ hP hK
  obtain ⟨k, o, h1, h2, h3, ⟨⟨v, m2, e1, e2, e3⟩, hF⟩, hL⟩ := h p e ha hc hk s m args below hf happ hP hK
  exact ⟨k, o, h1, h2, h3, ⟨⟨v, m2, e1, hi v m2 e2, e3⟩, hF⟩, hL⟩
section GR
variable {G : GX} {d : Nat} {M : MI} {pc : Nat} {L L2 : List (Nat × Value)} {st : List Value} {mem : Mem} {Φ : Option Value → Mem → Prop}
theorem Go.loc (h : ∀ q ∈ L2, q ∈ L) (k : Go G d M pc L2 st mem Φ) : Go G d M pc L st mem Φ := fun p e s m args below meth c H locs ls F I P S hl => k p e s m args below meth c H locs ls F I P S ⟨hl.1, hl.2.1, fun q hq => by
  obtain ⟨r, hr, rfl⟩ := List.mem_map.mp hq
  exact hl.2.2 _ (List.mem_map.mpr ⟨r, h r hr, rfl⟩)⟩
theorem lp_at {al : Nat → Nat} {ls : Array Slot} {n j i : Nat} {v : Value} (hl : lv_has ls n (L.map (lp al))) (h : L[j]? = some (i, v)) : ls[i]? = some (.val (lf al v)) := lv_at hl j (by rw [List.getElem?_map, h]; rfl)
theorem st1 (al : Nat → Nat) (i : Nat) (v : Value) (h : (i, v) :: L.filter (fun q => !(q.1 == i) && !(q.1 + 1 == i && q.2.category == 2)) = L2) : (i, lf al v) :: (L.map (lp al)).filter (fun q => !(q.1 == i) && !(q.1 + 1 == i && q.2.category == 2)) = L2.map (lp al) := by
  rw [← h, List.map_cons, List.filter_map]
  congr 2
  apply List.filter_congr
  intro q _
  simp only [Function.comp, lp, lf_cat]
theorem st2 (al : Nat → Nat) (i : Nat) (v : Value) (h : (i, v) :: L.filter (fun q => !(q.1 == i) && (!(q.1 == i + 1) && !(q.1 + 1 == i && q.2.category == 2))) = L2) : (i, lf al v) :: (L.map (lp al)).filter (fun q => !(q.1 == i) && (!(q.1 == i + 1) && !(q.1 + 1 == i && q.2.category == 2))) = L2.map (lp al) := by
  rw [← h, List.map_cons, List.filter_map]
  congr 2
  apply List.filter_congr
  intro q _
  simp only [Function.comp, lp, lf_cat]
theorem go_iconst {n : Int} {v : Int32} (hd : decode M.2.1 pc = .ok (.iconst n, 1)) (hv : Int32.ofInt n = v) (k : Go G d M (pc + 1) L (.int v :: st) mem Φ) : Go G d M pc L (st) mem Φ := fun p e s m args below meth c H locs ls F I P S hl => lv_iconst F.1 F.2.1 hd hv (k p e s m args below meth c H locs ls F I P S hl)
theorem go_bipush {n : Int} {v : Int32} (hd : decode M.2.1 pc = .ok (.bipush n, 2)) (hv : (Int8.ofInt n).toInt32 = v) (k : Go G d M (pc + 2) L (.int v :: st) mem Φ) : Go G d M pc L (st) mem Φ := fun p e s m args below meth c H locs ls F I P S hl => lv_bipush F.1 F.2.1 hd hv (k p e s m args below meth c H locs ls F I P S hl)
theorem go_sipush {n : Int} {v : Int32} (hd : decode M.2.1 pc = .ok (.sipush n, 3)) (hv : (Int16.ofInt n).toInt32 = v) (k : Go G d M (pc + 3) L (.int v :: st) mem Φ) : Go G d M pc L (st) mem Φ := fun p e s m args below meth c H locs ls F I P S hl => lv_sipush F.1 F.2.1 hd hv (k p e s m args below meth c H locs ls F I P S hl)
theorem go_lconst {n : Fin 2} {v : Int64} (hd : decode M.2.1 pc = .ok (.lconst n, 1)) (hv : Int64.ofNat (n : Nat) = v) (k : Go G d M (pc + 1) L (.long v :: st) mem Φ) : Go G d M pc L (st) mem Φ := fun p e s m args below meth c H locs ls F I P S hl => lv_lconst F.1 F.2.1 hd hv (k p e s m args below meth c H locs ls F I P S hl)
theorem go_iadd {x y : Int32} (hd : decode M.2.1 pc = .ok (.iadd, 1)) (k : Go G d M (pc + 1) L (.int (x + y) :: st) mem Φ) : Go G d M pc L (.int y :: .int x :: st) mem Φ := fun p e s m args below meth c H locs ls F I P S hl => lv_iadd F.1 F.2.1 hd (k p e s m args below meth c H locs ls F I P S hl)
theorem go_isub {x y : Int32} (hd : decode M.2.1 pc = .ok (.isub, 1)) (k : Go G d M (pc + 1) L (.int (x - y) :: st) mem Φ) : Go G d M pc L (.int y :: .int x :: st) mem Φ := fun p e s m args below meth c H locs ls F I P S hl => lv_isub F.1 F.2.1 hd (k p e s m args below meth c H locs ls F I P S hl)
theorem go_imul {x y : Int32} (hd : decode M.2.1 pc = .ok (.imul, 1)) (k : Go G d M (pc + 1) L (.int (x * y) :: st) mem Φ) : Go G d M pc L (.int y :: .int x :: st) mem Φ := fun p e s m args below meth c H locs ls F I P S hl => lv_imul F.1 F.2.1 hd (k p e s m args below meth c H locs ls F I P S hl)
theorem go_iand {x y : Int32} (hd : decode M.2.1 pc = .ok (.iand, 1)) (k : Go G d M (pc + 1) L (.int (x &&& y) :: st) mem Φ) : Go G d M pc L (.int y :: .int x :: st) mem Φ := fun p e s m args below meth c H locs ls F I P S hl => lv_iand F.1 F.2.1 hd (k p e s m args below meth c H locs ls F I P S hl)
theorem go_ior {x y : Int32} (hd : decode M.2.1 pc = .ok (.ior, 1)) (k : Go G d M (pc + 1) L (.int (x ||| y) :: st) mem Φ) : Go G d M pc L (.int y :: .int x :: st) mem Φ := fun p e s m args below meth c H locs ls F I P S hl => lv_ior F.1 F.2.1 hd (k p e s m args below meth c H locs ls F I P S hl)
theorem go_ixor {x y : Int32} (hd : decode M.2.1 pc = .ok (.ixor, 1)) (k : Go G d M (pc + 1) L (.int (x ^^^ y) :: st) mem Φ) : Go G d M pc L (.int y :: .int x :: st) mem Φ := fun p e s m args below meth c H locs ls F I P S hl => lv_ixor F.1 F.2.1 hd (k p e s m args below meth c H locs ls F I P S hl)
theorem go_ishl {x y : Int32} (hd : decode M.2.1 pc = .ok (.ishl, 1)) (k : Go G d M (pc + 1) L (.int (x <<< (y &&& 31)) :: st) mem Φ) : Go G d M pc L (.int y :: .int x :: st) mem Φ := fun p e s m args below meth c H locs ls F I P S hl => lv_ishl F.1 F.2.1 hd (k p e s m args below meth c H locs ls F I P S hl)
theorem go_ishr {x y : Int32} (hd : decode M.2.1 pc = .ok (.ishr, 1)) (k : Go G d M (pc + 1) L (.int (x >>> (y &&& 31)) :: st) mem Φ) : Go G d M pc L (.int y :: .int x :: st) mem Φ := fun p e s m args below meth c H locs ls F I P S hl => lv_ishr F.1 F.2.1 hd (k p e s m args below meth c H locs ls F I P S hl)
theorem go_iushr {x y : Int32} (hd : decode M.2.1 pc = .ok (.iushr, 1)) (k : Go G d M (pc + 1) L (.int ((x.toUInt32 >>> (y.toUInt32 &&& Int32.toUInt32 31)).toInt32) :: st) mem Φ) : Go G d M pc L (.int y :: .int x :: st) mem Φ := fun p e s m args below meth c H locs ls F I P S hl => lv_iushr F.1 F.2.1 hd rfl (k p e s m args below meth c H locs ls F I P S hl)
theorem go_idiv {x y : Int32} (hd : decode M.2.1 pc = .ok (.idiv, 1)) (hne : ¬ y = 0) (k : Go G d M (pc + 1) L (.int (x / y) :: st) mem Φ) : Go G d M pc L (.int y :: .int x :: st) mem Φ := fun p e s m args below meth c H locs ls F I P S hl => lv_idiv F.1 F.2.1 hd hne (k p e s m args below meth c H locs ls F I P S hl)
theorem go_irem {x y : Int32} (hd : decode M.2.1 pc = .ok (.irem, 1)) (hne : ¬ y = 0) (k : Go G d M (pc + 1) L (.int (x - x / y * y) :: st) mem Φ) : Go G d M pc L (.int y :: .int x :: st) mem Φ := fun p e s m args below meth c H locs ls F I P S hl => lv_irem F.1 F.2.1 hd hne (k p e s m args below meth c H locs ls F I P S hl)
theorem go_ladd {x y : Int64} (hd : decode M.2.1 pc = .ok (.ladd, 1)) (k : Go G d M (pc + 1) L (.long (x + y) :: st) mem Φ) : Go G d M pc L (.long y :: .long x :: st) mem Φ := fun p e s m args below meth c H locs ls F I P S hl => lv_ladd F.1 F.2.1 hd (k p e s m args below meth c H locs ls F I P S hl)
theorem go_lmul {x y : Int64} (hd : decode M.2.1 pc = .ok (.lmul, 1)) (k : Go G d M (pc + 1) L (.long (x * y) :: st) mem Φ) : Go G d M pc L (.long y :: .long x :: st) mem Φ := fun p e s m args below meth c H locs ls F I P S hl => lv_lmul F.1 F.2.1 hd (k p e s m args below meth c H locs ls F I P S hl)
theorem go_ldiv {x y : Int64} (hd : decode M.2.1 pc = .ok (.ldiv, 1)) (hne : ¬ y = 0) (k : Go G d M (pc + 1) L (.long (x / y) :: st) mem Φ) : Go G d M pc L (.long y :: .long x :: st) mem Φ := fun p e s m args below meth c H locs ls F I P S hl => lv_ldiv F.1 F.2.1 hd hne (k p e s m args below meth c H locs ls F I P S hl)
theorem go_lrem {x y : Int64} (hd : decode M.2.1 pc = .ok (.lrem, 1)) (hne : ¬ y = 0) (k : Go G d M (pc + 1) L (.long (x - x / y * y) :: st) mem Φ) : Go G d M pc L (.long y :: .long x :: st) mem Φ := fun p e s m args below meth c H locs ls F I P S hl => lv_lrem F.1 F.2.1 hd hne (k p e s m args below meth c H locs ls F I P S hl)
theorem go_lcmp {x y : Int64} (hd : decode M.2.1 pc = .ok (.lcmp, 1)) (k : Go G d M (pc + 1) L (.int (lg_cmp x y) :: st) mem Φ) : Go G d M pc L (.long y :: .long x :: st) mem Φ := fun p e s m args below meth c H locs ls F I P S hl => W.lcmp F.1 F.2.1 hd (k p e s m args below meth c H locs ls F I P S hl)
theorem go_i2l {x : Int32} (hd : decode M.2.1 pc = .ok (.i2l, 1)) (k : Go G d M (pc + 1) L (.long x.toInt64 :: st) mem Φ) : Go G d M pc L (.int x :: st) mem Φ := fun p e s m args below meth c H locs ls F I P S hl => lv_i2l F.1 F.2.1 hd rfl (k p e s m args below meth c H locs ls F I P S hl)
theorem go_i2b {x : Int32} (hd : decode M.2.1 pc = .ok (.i2b, 1)) (k : Go G d M (pc + 1) L (.int x.toInt8.toInt32 :: st) mem Φ) : Go G d M pc L (.int x :: st) mem Φ := fun p e s m args below meth c H locs ls F I P S hl => lv_i2b F.1 F.2.1 hd rfl (k p e s m args below meth c H locs ls F I P S hl)
theorem go_i2s {x : Int32} (hd : decode M.2.1 pc = .ok (.i2s, 1)) (k : Go G d M (pc + 1) L (.int x.toInt16.toInt32 :: st) mem Φ) : Go G d M pc L (.int x :: st) mem Φ := fun p e s m args below meth c H locs ls F I P S hl => lv_i2s F.1 F.2.1 hd rfl (k p e s m args below meth c H locs ls F I P S hl)
theorem go_i2c {x : Int32} (hd : decode M.2.1 pc = .ok (.i2c, 1)) (k : Go G d M (pc + 1) L (.int (x.toUInt32 % 65536).toInt32 :: st) mem Φ) : Go G d M pc L (.int x :: st) mem Φ := fun p e s m args below meth c H locs ls F I P S hl => lv_i2c F.1 F.2.1 hd rfl (k p e s m args below meth c H locs ls F I P S hl)
theorem go_dup {v : Value} (hd : decode M.2.1 pc = .ok (.dup, 1)) (hc : v.category = 1) (k : Go G d M (pc + 1) L (v :: v :: st) mem Φ) : Go G d M pc L (v :: st) mem Φ := fun p e s m args below meth c H locs ls F I P S hl => lv_dup F.1 F.2.1 hd ((lf_cat _ v).trans hc) (k p e s m args below meth c H locs ls F I P S hl)
theorem go_pop {v : Value} (hd : decode M.2.1 pc = .ok (.pop, 1)) (hc : v.category = 1) (k : Go G d M (pc + 1) L (st) mem Φ) : Go G d M pc L (v :: st) mem Φ := fun p e s m args below meth c H locs ls F I P S hl => lv_pop F.1 F.2.1 hd ((lf_cat _ v).trans hc) (k p e s m args below meth c H locs ls F I P S hl)
theorem go_dup2 {v w : Value} (hd : decode M.2.1 pc = .ok (.dup2, 1)) (hc : v.category = 1) (hc2 : w.category = 1) (k : Go G d M (pc + 1) L (v :: w :: v :: w :: st) mem Φ) : Go G d M pc L (v :: w :: st) mem Φ := fun p e s m args below meth c H locs ls F I P S hl => lv_dup2_11 F.1 F.2.1 hd ((lf_cat _ v).trans hc) ((lf_cat _ w).trans hc2) (k p e s m args below meth c H locs ls F I P S hl)
theorem go_iload_n {i : Fin 4} {x : Int32} (hd : decode M.2.1 pc = .ok (.iload_n i, 1)) (j : Nat) (hj : L[j]? = some ((i : Nat), .int x)) (k : Go G d M (pc + 1) L (.int x :: st) mem Φ) : Go G d M pc L st mem Φ := fun p e s m args below meth c H locs ls F I P S hl => lv_iload_n F.1 F.2.1 hd rfl (lp_at hl hj) (k p e s m args below meth c H locs ls F I P S hl)
theorem go_iload {i : Nat} {x : Int32} (hd : decode M.2.1 pc = .ok (.iload i, 2)) (j : Nat) (hj : L[j]? = some (i, .int x)) (k : Go G d M (pc + 2) L (.int x :: st) mem Φ) : Go G d M pc L st mem Φ := fun p e s m args below meth c H locs ls F I P S hl => lv_iload F.1 F.2.1 hd (lp_at hl hj) (k p e s m args below meth c H locs ls F I P S hl)
theorem go_istore_n {i : Fin 4} {x : Int32} (hd : decode M.2.1 pc = .ok (.istore_n i, 1)) (hn : (i : Nat) < M.2.2.1) (hL : ((i : Nat), (.int x : Value)) :: L.filter (fun q => !(q.1 == (i : Nat)) && !(q.1 + 1 == (i : Nat) && q.2.category == 2)) = L2) (k : Go G d M (pc + 1) L2 st mem Φ) : Go G d M pc L (.int x :: st) mem Φ := fun p e s m args below meth c H locs ls F I P S hl => lv_istore_n F.1 F.2.1 hd rfl hl hn (st1 _ _ _ hL) (fun ls hl => k p e s m args below meth c H locs ls F I P S hl)
theorem go_istore {i : Nat} {x : Int32} (hd : decode M.2.1 pc = .ok (.istore i, 2)) (hn : i < M.2.2.1) (hL : (i, (.int x : Value)) :: L.filter (fun q => !(q.1 == i) && !(q.1 + 1 == i && q.2.category == 2)) = L2) (k : Go G d M (pc + 2) L2 st mem Φ) : Go G d M pc L (.int x :: st) mem Φ := fun p e s m args below meth c H locs ls F I P S hl => lv_istore F.1 F.2.1 hd hl hn (st1 _ _ _ hL) (fun ls hl => k p e s m args below meth c H locs ls F I P S hl)
theorem go_lload_n {i : Fin 4} {x : Int64} (hd : decode M.2.1 pc = .ok (.lload_n i, 1)) (j : Nat) (hj : L[j]? = some ((i : Nat), .long x)) (k : Go G d M (pc + 1) L (.long x :: st) mem Φ) : Go G d M pc L st mem Φ := fun p e s m args below meth c H locs ls F I P S hl => lv_lload_n F.1 F.2.1 hd rfl (lp_at hl hj) (k p e s m args below meth c H locs ls F I P S hl)
theorem go_lload {i : Nat} {x : Int64} (hd : decode M.2.1 pc = .ok (.lload i, 2)) (j : Nat) (hj : L[j]? = some (i, .long x)) (k : Go G d M (pc + 2) L (.long x :: st) mem Φ) : Go G d M pc L st mem Φ := fun p e s m args below meth c H locs ls F I P S hl => lv_lload F.1 F.2.1 hd (lp_at hl hj) (k p e s m args below meth c H locs ls F I P S hl)
theorem go_lstore_n {i : Fin 4} {x : Int64} (hd : decode M.2.1 pc = .ok (.lstore_n i, 1)) (hn : (i : Nat) + 1 < M.2.2.1) (hL : ((i : Nat), (.long x : Value)) :: L.filter (fun q => !(q.1 == (i : Nat)) && (!(q.1 == (i : Nat) + 1) && !(q.1 + 1 == (i : Nat) && q.2.category == 2))) = L2) (k : Go G d M (pc + 1) L2 st mem Φ) : Go G d M pc L (.long x :: st) mem Φ := fun p e s m args below meth c H locs ls F I P S hl => lv_lstore_n F.1 F.2.1 hd rfl hl hn (st2 _ _ _ hL) (fun ls hl => k p e s m args below meth c H locs ls F I P S hl)
theorem go_lstore {i : Nat} {x : Int64} (hd : decode M.2.1 pc = .ok (.lstore i, 2)) (hn : i + 1 < M.2.2.1) (hL : (i, (.long x : Value)) :: L.filter (fun q => !(q.1 == i) && (!(q.1 == i + 1) && !(q.1 + 1 == i && q.2.category == 2))) = L2) (k : Go G d M (pc + 2) L2 st mem Φ) : Go G d M pc L (.long x :: st) mem Φ := fun p e s m args below meth c H locs ls F I P S hl => lv_lstore F.1 F.2.1 hd hl hn (st2 _ _ _ hL) (fun ls hl => k p e s m args below meth c H locs ls F I P S hl)
theorem go_aload_n {i : Fin 4} {x : Nat} (hd : decode M.2.1 pc = .ok (.aload_n i, 1)) (j : Nat) (hj : L[j]? = some ((i : Nat), .ref x)) (k : Go G d M (pc + 1) L (.ref x :: st) mem Φ) : Go G d M pc L st mem Φ := fun p e s m args below meth c H locs ls F I P S hl => lv_aload_n F.1 F.2.1 hd rfl (lp_at hl hj) (k p e s m args below meth c H locs ls F I P S hl)
theorem go_aload {i : Nat} {x : Nat} (hd : decode M.2.1 pc = .ok (.aload i, 2)) (j : Nat) (hj : L[j]? = some (i, .ref x)) (k : Go G d M (pc + 2) L (.ref x :: st) mem Φ) : Go G d M pc L st mem Φ := fun p e s m args below meth c H locs ls F I P S hl => lv_aload F.1 F.2.1 hd (lp_at hl hj) (k p e s m args below meth c H locs ls F I P S hl)
theorem go_astore_n {i : Fin 4} {x : Nat} (hd : decode M.2.1 pc = .ok (.astore_n i, 1)) (hn : (i : Nat) < M.2.2.1) (hL : ((i : Nat), (.ref x : Value)) :: L.filter (fun q => !(q.1 == (i : Nat)) && !(q.1 + 1 == (i : Nat) && q.2.category == 2)) = L2) (k : Go G d M (pc + 1) L2 st mem Φ) : Go G d M pc L (.ref x :: st) mem Φ := fun p e s m args below meth c H locs ls F I P S hl => lv_astore_n F.1 F.2.1 hd rfl hl hn (st1 _ _ _ hL) (fun ls hl => k p e s m args below meth c H locs ls F I P S hl)
theorem go_astore {i : Nat} {x : Nat} (hd : decode M.2.1 pc = .ok (.astore i, 2)) (hn : i < M.2.2.1) (hL : (i, (.ref x : Value)) :: L.filter (fun q => !(q.1 == i) && !(q.1 + 1 == i && q.2.category == 2)) = L2) (k : Go G d M (pc + 2) L2 st mem Φ) : Go G d M pc L (.ref x :: st) mem Φ := fun p e s m args below meth c H locs ls F I P S hl => lv_astore F.1 F.2.1 hd hl hn (st1 _ _ _ hL) (fun ls hl => k p e s m args below meth c H locs ls F I P S hl)
theorem go_iinc {i : Nat} {n : Int} {x v : Int32} (hd : decode M.2.1 pc = .ok (.iinc i n, 3)) (j : Nat) (hj : L[j]? = some (i, .int x)) (hv : x + Int32.ofInt n = v) (hn : i < M.2.2.1) (hL : (i, (.int v : Value)) :: L.filter (fun q => !(q.1 == i) && !(q.1 + 1 == i && q.2.category == 2)) = L2) (k : Go G d M (pc + 3) L2 st mem Φ) : Go G d M pc L st mem Φ := fun p e s m args below meth c H locs ls F I P S hl => lv_iinc F.1 F.2.1 hd hl (k := j) (by rw [List.getElem?_map, hj]; rfl) hv hn (st1 _ _ _ hL) (fun ls hl => k p e s m args below meth c H locs ls F I P S hl)
theorem go_goto {off : Int} (tgt : Nat) (hd : decode M.2.1 pc = .ok (.goto off, 3)) (ht : (pc : Int) + off = (tgt : Int)) (k : Go G d M tgt L st mem Φ) : Go G d M pc L st mem Φ := fun p e s m args below meth c H locs ls F I P S hl => lv_goto F.1 F.2.1 hd ht (k p e s m args below meth c H locs ls F I P S hl)
theorem go_if_eq {x : Int32} {off : Int} (tgt : Nat) (hd : decode M.2.1 pc = .ok (.ifCond .eq off, 3)) (ht : (pc : Int) + off = (tgt : Int)) (kt : x = 0 → Go G d M tgt L st mem Φ) (kf : ¬ x = 0 → Go G d M (pc + 3) L st mem Φ) : Go G d M pc L (.int x :: st) mem Φ := fun p e s m args below meth c H locs ls F I P S hl => lv_if_eq F.1 F.2.1 hd ht (fun q => kt q p e s m args below meth c H locs ls F I P S hl) (fun q => kf q p e s m args below meth c H locs ls F I P S hl)
theorem go_icmp_eq {x y : Int32} {off : Int} (tgt : Nat) (hd : decode M.2.1 pc = .ok (.if_icmp .eq off, 3)) (ht : (pc : Int) + off = (tgt : Int)) (kt : x = y → Go G d M tgt L st mem Φ) (kf : ¬ x = y → Go G d M (pc + 3) L st mem Φ) : Go G d M pc L (.int y :: .int x :: st) mem Φ := fun p e s m args below meth c H locs ls F I P S hl => lv_icmp_eq F.1 F.2.1 hd ht (fun q => kt q p e s m args below meth c H locs ls F I P S hl) (fun q => kf q p e s m args below meth c H locs ls F I P S hl)
theorem go_if_ne {x : Int32} {off : Int} (tgt : Nat) (hd : decode M.2.1 pc = .ok (.ifCond .ne off, 3)) (ht : (pc : Int) + off = (tgt : Int)) (kt : ¬ x = 0 → Go G d M tgt L st mem Φ) (kf : x = 0 → Go G d M (pc + 3) L st mem Φ) : Go G d M pc L (.int x :: st) mem Φ := fun p e s m args below meth c H locs ls F I P S hl => lv_if_ne F.1 F.2.1 hd ht (fun q => kt q p e s m args below meth c H locs ls F I P S hl) (fun q => kf q p e s m args below meth c H locs ls F I P S hl)
theorem go_icmp_ne {x y : Int32} {off : Int} (tgt : Nat) (hd : decode M.2.1 pc = .ok (.if_icmp .ne off, 3)) (ht : (pc : Int) + off = (tgt : Int)) (kt : ¬ x = y → Go G d M tgt L st mem Φ) (kf : x = y → Go G d M (pc + 3) L st mem Φ) : Go G d M pc L (.int y :: .int x :: st) mem Φ := fun p e s m args below meth c H locs ls F I P S hl => lv_icmp_ne F.1 F.2.1 hd ht (fun q => kt q p e s m args below meth c H locs ls F I P S hl) (fun q => kf q p e s m args below meth c H locs ls F I P S hl)
theorem go_if_lt {x : Int32} {off : Int} (tgt : Nat) (hd : decode M.2.1 pc = .ok (.ifCond .lt off, 3)) (ht : (pc : Int) + off = (tgt : Int)) (kt : x < 0 → Go G d M tgt L st mem Φ) (kf : ¬ x < 0 → Go G d M (pc + 3) L st mem Φ) : Go G d M pc L (.int x :: st) mem Φ := fun p e s m args below meth c H locs ls F I P S hl => lv_if_lt F.1 F.2.1 hd ht (fun q => kt q p e s m args below meth c H locs ls F I P S hl) (fun q => kf q p e s m args below meth c H locs ls F I P S hl)
theorem go_icmp_lt {x y : Int32} {off : Int} (tgt : Nat) (hd : decode M.2.1 pc = .ok (.if_icmp .lt off, 3)) (ht : (pc : Int) + off = (tgt : Int)) (kt : x < y → Go G d M tgt L st mem Φ) (kf : ¬ x < y → Go G d M (pc + 3) L st mem Φ) : Go G d M pc L (.int y :: .int x :: st) mem Φ := fun p e s m args below meth c H locs ls F I P S hl => lv_icmp_lt F.1 F.2.1 hd ht (fun q => kt q p e s m args below meth c H locs ls F I P S hl) (fun q => kf q p e s m args below meth c H locs ls F I P S hl)
theorem go_if_ge {x : Int32} {off : Int} (tgt : Nat) (hd : decode M.2.1 pc = .ok (.ifCond .ge off, 3)) (ht : (pc : Int) + off = (tgt : Int)) (kt : 0 ≤ x → Go G d M tgt L st mem Φ) (kf : ¬ 0 ≤ x → Go G d M (pc + 3) L st mem Φ) : Go G d M pc L (.int x :: st) mem Φ := fun p e s m args below meth c H locs ls F I P S hl => lv_if_ge F.1 F.2.1 hd ht (fun q => kt q p e s m args below meth c H locs ls F I P S hl) (fun q => kf q p e s m args below meth c H locs ls F I P S hl)
theorem go_icmp_ge {x y : Int32} {off : Int} (tgt : Nat) (hd : decode M.2.1 pc = .ok (.if_icmp .ge off, 3)) (ht : (pc : Int) + off = (tgt : Int)) (kt : y ≤ x → Go G d M tgt L st mem Φ) (kf : ¬ y ≤ x → Go G d M (pc + 3) L st mem Φ) : Go G d M pc L (.int y :: .int x :: st) mem Φ := fun p e s m args below meth c H locs ls F I P S hl => lv_icmp_ge F.1 F.2.1 hd ht (fun q => kt q p e s m args below meth c H locs ls F I P S hl) (fun q => kf q p e s m args below meth c H locs ls F I P S hl)
theorem go_if_gt {x : Int32} {off : Int} (tgt : Nat) (hd : decode M.2.1 pc = .ok (.ifCond .gt off, 3)) (ht : (pc : Int) + off = (tgt : Int)) (kt : 0 < x → Go G d M tgt L st mem Φ) (kf : ¬ 0 < x → Go G d M (pc + 3) L st mem Φ) : Go G d M pc L (.int x :: st) mem Φ := fun p e s m args below meth c H locs ls F I P S hl => lv_if_gt F.1 F.2.1 hd ht (fun q => kt q p e s m args below meth c H locs ls F I P S hl) (fun q => kf q p e s m args below meth c H locs ls F I P S hl)
theorem go_icmp_gt {x y : Int32} {off : Int} (tgt : Nat) (hd : decode M.2.1 pc = .ok (.if_icmp .gt off, 3)) (ht : (pc : Int) + off = (tgt : Int)) (kt : y < x → Go G d M tgt L st mem Φ) (kf : ¬ y < x → Go G d M (pc + 3) L st mem Φ) : Go G d M pc L (.int y :: .int x :: st) mem Φ := fun p e s m args below meth c H locs ls F I P S hl => lv_icmp_gt F.1 F.2.1 hd ht (fun q => kt q p e s m args below meth c H locs ls F I P S hl) (fun q => kf q p e s m args below meth c H locs ls F I P S hl)
theorem go_if_le {x : Int32} {off : Int} (tgt : Nat) (hd : decode M.2.1 pc = .ok (.ifCond .le off, 3)) (ht : (pc : Int) + off = (tgt : Int)) (kt : x ≤ 0 → Go G d M tgt L st mem Φ) (kf : ¬ x ≤ 0 → Go G d M (pc + 3) L st mem Φ) : Go G d M pc L (.int x :: st) mem Φ := fun p e s m args below meth c H locs ls F I P S hl => lv_if_le F.1 F.2.1 hd ht (fun q => kt q p e s m args below meth c H locs ls F I P S hl) (fun q => kf q p e s m args below meth c H locs ls F I P S hl)
theorem go_icmp_le {x y : Int32} {off : Int} (tgt : Nat) (hd : decode M.2.1 pc = .ok (.if_icmp .le off, 3)) (ht : (pc : Int) + off = (tgt : Int)) (kt : x ≤ y → Go G d M tgt L st mem Φ) (kf : ¬ x ≤ y → Go G d M (pc + 3) L st mem Φ) : Go G d M pc L (.int y :: .int x :: st) mem Φ := fun p e s m args below meth c H locs ls F I P S hl => lv_icmp_le F.1 F.2.1 hd ht (fun q => kt q p e s m args below meth c H locs ls F I P S hl) (fun q => kf q p e s m args below meth c H locs ls F I P S hl)
theorem go_tabOut {df lo hi : Int} {offs : Array Int} {len : Nat} {x : Int32} (tgt : Nat) (hd : decode M.2.1 pc = .ok (.tableswitch df lo hi offs, len)) (h : x.toInt < lo ∨ hi < x.toInt) (ht : (pc : Int) + df = (tgt : Int)) (k : Go G d M tgt L st mem Φ) : Go G d M pc L (.int x :: st) mem Φ := fun p e s m args below meth c H locs ls F I P S hl => lv_tableOut F.1 F.2.1 hd h ht (k p e s m args below meth c H locs ls F I P S hl)
theorem go_tabIn {df lo hi : Int} {offs : Array Int} {len : Nat} {x : Int32} {off : Int} (tgt : Nat) (hd : decode M.2.1 pc = .ok (.tableswitch df lo hi offs, len)) (h1 : ¬ x.toInt < lo) (h2 : ¬ hi < x.toInt) (ho : offs[(x.toInt - lo).toNat]? = some off) (ht : (pc : Int) + off = (tgt : Int)) (k : Go G d M tgt L st mem Φ) : Go G d M pc L (.int x :: st) mem Φ := fun p e s m args below meth c H locs ls F I P S hl => lv_tableIn F.1 F.2.1 hd h1 h2 ho ht (k p e s m args below meth c H locs ls F I P S hl)
theorem go_lookup {df : Int} {ps : Array (Int × Int)} {len : Nat} {x : Int32} {off : Int} (tgt : Nat) (hd : decode M.2.1 pc = .ok (.lookupswitch df ps, len)) (hp : (ps.toList.zip (ps.toList.drop 1)).all (fun (a, next) => a.1 < next.1) = true) (ho : Op.lookupswitch.offset ps.toList df x.toInt = off) (ht : (pc : Int) + off = (tgt : Int)) (k : Go G d M tgt L st mem Φ) : Go G d M pc L (.int x :: st) mem Φ := fun p e s m args below meth c H locs ls F I P S hl => lv_lookup F.1 F.2.1 hd hp ho ht (k p e s m args below meth c H locs ls F I P S hl)
theorem go_ldcw {idx : Nat} {v : Int32} (hw : Cond.constant M.1.cls idx v ∈ Tb) (hd : decode M.2.1 pc = .ok (.ldc_w idx, 3)) (k : Go G d M (pc + 3) L (.int v :: st) mem Φ) : Go G d M pc L st mem Φ := fun p e s m args below meth c H locs ls F I P S hl => lv_ldcw F.1 F.2.1 F.2.2.2.2.1 (F.2.2.2.2.2.1 _ hw) hd (k p e s m args below meth c H locs ls F I P S hl)
theorem go_ldc {idx : Nat} {v : Int32} (hw : Cond.constant M.1.cls idx v ∈ Tb) (hd : decode M.2.1 pc = .ok (.ldc idx, 2)) (k : Go G d M (pc + 2) L (.int v :: st) mem Φ) : Go G d M pc L st mem Φ := fun p e s m args below meth c H locs ls F I P S hl => lv_ldc F.1 F.2.1 F.2.2.2.2.1 (F.2.2.2.2.2.1 _ hw) hd (k p e s m args below meth c H locs ls F I P S hl)
theorem go_ldc2 {idx : Nat} {v : Int64} (hw : Cond.constantLong M.1.cls idx v ∈ Tb) (hd : decode M.2.1 pc = .ok (.ldc2_w idx, 3)) (k : Go G d M (pc + 3) L (.long v :: st) mem Φ) : Go G d M pc L st mem Φ := fun p e s m args below meth c H locs ls F I P S hl => lv_ldc2 F.1 F.2.1 F.2.2.2.2.1 (F.2.2.2.2.2.1 _ hw) hd (k p e s m args below meth c H locs ls F I P S hl)
theorem go_iret {v : Int32} (hr : M.2.2.2 = some .int) (hd : decode M.2.1 pc = .ok (.ireturn, 1)) (h : Φ (some (.int v)) mem) : Go G d M pc L [.int v] mem Φ := fun p e s m args below meth c H locs ls F I P S hl => W.iret F.1 F.2.1 (F.2.2.1.trans hr) (fun t ht hW => ⟨⟨some (.int v), mem, rfl, h, by rw [ht]; exact P⟩, S.F ht⟩) S.2.2 hd (hlocks := F.2.2.2.2.2.2)
theorem go_zret {v : Int32} {ty : FieldType} (hr : M.2.2.2 = some ty) (hn : narrow ty (.int v) = .int v) (hd : decode M.2.1 pc = .ok (.ireturn, 1)) (h : Φ (some (.int v)) mem) : Go G d M pc L [.int v] mem Φ := fun p e s m args below meth c H locs ls F I P S hl => W.zret F.1 F.2.1 (F.2.2.1.trans hr) hn (fun t ht hW => ⟨⟨some (.int v), mem, rfl, h, by rw [ht]; exact P⟩, S.F ht⟩) S.2.2 hd (hlocks := F.2.2.2.2.2.2)
theorem go_lret {v : Int64} (hr : M.2.2.2 = some .long) (hd : decode M.2.1 pc = .ok (.lreturn, 1)) (h : Φ (some (.long v)) mem) : Go G d M pc L [.long v] mem Φ := fun p e s m args below meth c H locs ls F I P S hl => W.lret F.1 F.2.1 (F.2.2.1.trans hr) (fun t ht hW => ⟨⟨some (.long v), mem, rfl, h, by rw [ht]; exact P⟩, S.F ht⟩) S.2.2 hd (hlocks := F.2.2.2.2.2.2)
theorem go_vret (hr : M.2.2.2 = none) (hd : decode M.2.1 pc = .ok (.return_, 1)) (h : Φ (none) mem) : Go G d M pc L [] mem Φ := fun p e s m args below meth c H locs ls F I P S hl => W.vret F.1 F.2.1 (F.2.2.1.trans hr) (fun t ht hW => ⟨⟨none, mem, rfl, h, by rw [ht]; exact P⟩, S.F ht⟩) S.2.2 hd (hlocks := F.2.2.2.2.2.2)
theorem go_aret {q : Nat} {C : String} (hr : M.2.2.2 = some (.object C)) (hd : decode M.2.1 pc = .ok (.areturn, 1)) (h : Φ (some (.ref q)) mem) : Go G d M pc L [.ref q] mem Φ := fun p e s m args below meth c H locs ls F I P S hl => W.aret F.1 F.2.1 (F.2.2.1.trans hr) (Or.inl ⟨_, rfl⟩) (Or.inr ⟨_, rfl⟩) (fun t ht hW => ⟨⟨some (.ref q), mem, rfl, h, by rw [ht]; exact P⟩, S.F ht⟩) S.2.2 hd (hlocks := F.2.2.2.2.2.2)
theorem go_iaload {q n : Nat} {i : Int32} (hs : Sh[q]? = some (.inl (.int, n, none))) (hin : vp_in i n) (hd : decode M.2.1 pc = .ok (.iaload, 1)) (k : Go G d M (pc + 1) L (.int (mem q i.toNatClampNeg) :: st) mem Φ) : Go G d M pc L (.int i :: .ref q :: st) mem Φ := fun p e s m args below meth c H locs ls F I P S hl => va_iald F.1 F.2.1 (I.K hs) P q 0 (wl_get hs) rfl hin hd (k p e s m args below meth c H locs ls F I P S hl)
theorem go_baload {q n : Nat} {i : Int32} (hs : Sh[q]? = some (.inl (.byte, n, none))) (hin : vp_in i n) (hd : decode M.2.1 pc = .ok (.baload, 1)) (k : Go G d M (pc + 1) L (.int (mem q i.toNatClampNeg) :: st) mem Φ) : Go G d M pc L (.int i :: .ref q :: st) mem Φ := fun p e s m args below meth c H locs ls F I P S hl => va_bald F.1 F.2.1 (I.K hs) P q 0 (wl_get hs) rfl hin hd (k p e s m args below meth c H locs ls F I P S hl)
theorem go_zaload {q n : Nat} {i : Int32} (hs : Sh[q]? = some (.inl (.boolean, n, none))) (hin : vp_in i n) (hd : decode M.2.1 pc = .ok (.baload, 1)) (k : Go G d M (pc + 1) L (.int (mem q i.toNatClampNeg) :: st) mem Φ) : Go G d M pc L (.int i :: .ref q :: st) mem Φ := fun p e s m args below meth c H locs ls F I P S hl => va_zald F.1 F.2.1 (I.K hs) P q 0 (wl_get hs) rfl hin hd (k p e s m args below meth c H locs ls F I P S hl)
theorem go_iastore {q n : Nat} {i x : Int32} (hs : Sh[q]? = some (.inl (.int, n, none))) (hin : vp_in i n) (hd : decode M.2.1 pc = .ok (.iastore, 1)) (k : Go G d M (pc + 1) L st (um mem q i.toNatClampNeg (x)) Φ) : Go G d M pc L (.int x :: .int i :: .ref q :: st) mem Φ := fun p e s m args below meth c H locs ls F I P S hl => by
  refine va_iast F.1 F.2.1 (I.K hs) P (I.D mem) S q 0 (wl_get hs) rfl hin hd (fun H1 locs1 P1 D1 S1 => ?_)
  rw [wl_set (f := upd (mem q) i.toNatClampNeg (x)) hs (by show Sum.inl _ = _; rw [um0_self])] at P1
  exact k p e s m args below meth c H1 locs1 ls F I P1 S1 hl
theorem go_bastore {q n : Nat} {i x : Int32} (hs : Sh[q]? = some (.inl (.byte, n, none))) (hin : vp_in i n) (hd : decode M.2.1 pc = .ok (.bastore, 1)) (k : Go G d M (pc + 1) L st (um mem q i.toNatClampNeg (vp_nar .byte x)) Φ) : Go G d M pc L (.int x :: .int i :: .ref q :: st) mem Φ := fun p e s m args below meth c H locs ls F I P S hl => by
  refine va_bast F.1 F.2.1 (I.K hs) P (I.D mem) S q 0 (wl_get hs) rfl hin hd (fun H1 locs1 P1 D1 S1 => ?_)
  rw [wl_set (f := upd (mem q) i.toNatClampNeg (vp_nar .byte x)) hs (by show Sum.inl _ = _; rw [um0_self])] at P1
  exact k p e s m args below meth c H1 locs1 ls F I P1 S1 hl
theorem go_zastore {q n : Nat} {i x : Int32} (hs : Sh[q]? = some (.inl (.boolean, n, none))) (hin : vp_in i n) (hd : decode M.2.1 pc = .ok (.bastore, 1)) (k : Go G d M (pc + 1) L st (um mem q i.toNatClampNeg (vp_nar .boolean x)) Φ) : Go G d M pc L (.int x :: .int i :: .ref q :: st) mem Φ := fun p e s m args below meth c H locs ls F I P S hl => by
  refine va_zast F.1 F.2.1 (I.K hs) P (I.D mem) S q 0 (wl_get hs) rfl hin hd (fun H1 locs1 P1 D1 S1 => ?_)
  rw [wl_set (f := upd (mem q) i.toNatClampNeg (vp_nar .boolean x)) hs (by show Sum.inl _ = _; rw [um0_self])] at P1
  exact k p e s m args below meth c H1 locs1 ls F I P1 S1 hl
theorem go_aaload {q n t : Nat} {C : String} {ts : List Nat} {i : Int32} (hs : Sh[q]? = some (.inl (.object C, n, some ts))) (hin : vp_in i n) (ht : ts[i.toNatClampNeg]? = some t) (hd : decode M.2.1 pc = .ok (.aaload, 1)) (k : Go G d M (pc + 1) L (.ref t :: st) mem Φ) : Go G d M pc L (.int i :: .ref q :: st) mem Φ := fun p e s m args below meth c H locs ls F I P S hl => by
  refine va_aldq F.1 F.2.1 (I.K hs) P q 0 (wl_get hs) rfl hin hd ?_
  rw [ht]
  exact k p e s m args below meth c H locs ls F I P S hl
theorem go_alen {q n : Nat} {ty : FieldType} (hs : Sh[q]? = some (.inl (ty, n, none))) {v : Int32} (hv : Int32.ofNat n = v) (hd : decode M.2.1 pc = .ok (.arraylength, 1)) (k : Go G d M (pc + 1) L (.int v :: st) mem Φ) : Go G d M pc L (.ref q :: st) mem Φ := fun p e s m args below meth c H locs ls F I P S hl => va_alen F.1 F.2.1 (I.K hs) P q 0 (wl_get hs) rfl hv hd (k p e s m args below meth c H locs ls F I P S hl)
theorem fs_get {al : Nat → Nat} {f : Nat → Int32} {fs : List (Option Nat)} {k : Nat} {o : Option Nat} (h : fs[k]? = some o) : (fs.mapIdx (fv al f))[k]? = some (fv al f k o) := by
  rw [List.getElem?_mapIdx, h]
  rfl
theorem fs_set {al : Nat → Nat} {f : Nat → Int32} {fs : List (Option Nat)} {k : Nat} {x : Int32} (h : fs[k]? = some none) : (fs.mapIdx (fv al f)).set k (.int x) = fs.mapIdx (fv al (upd f k x)) := by
  apply List.ext_getElem?
  intro j
  rw [List.getElem?_set, List.getElem?_mapIdx, List.getElem?_mapIdx]
  by_cases hj : k = j
  · subst hj
    have hk : k < (fs.mapIdx (fv al f)).length := by rw [List.length_mapIdx]; exact (List.getElem?_eq_some_iff.mp h).1
    rw [if_pos rfl, if_pos hk, h]
    show some (Value.int x) = some (Value.int (upd f k x k))
    rw [show upd f k x k = x from if_pos rfl]
  · rw [if_neg hj]
    cases hc : fs[j]? with
    | none => rfl
    | some o =>
      cases o with
      | none =>
        show some (Value.int (f j)) = some (Value.int (upd f k x j))
        rw [show upd f k x j = f j from if_neg (fun q => hj q.symm)]
      | some t => rfl
theorem go_getI {q ci idx kf N : Nat} {fs : List (Option Nat)} {C : String} {T : u_T} (hs : Sh[q]? = some (.inr (ci, fs))) (hf : fs[kf]? = some none) (hc : vwCl[ci]? = some (C, T, N)) (hin : ∀ w ∈ u_ws C T N, w ∈ Tb) (hk : kf < N) (hw : Cond.fieldLink M.1.cls idx (T kf).1 (T kf).2.1 (T kf).2.2.1 ∈ Tb) (hd : decode M.2.1 pc = .ok (.getfield idx, 3)) (k : Go G d M (pc + 3) L (.int (mem q kf) :: st) mem Φ) : Go G d M pc L (.ref q :: st) mem Φ := fun p e s m args below meth c H locs ls F I P S hl => va_get (C := C) (T := T) (N := N) F.1 F.2.1 F.2.2.2.2.2.1 hin F.2.2.2.2.1 I.2.1 P q (wl_get hs) hc kf hk (F.2.2.2.2.2.1 _ hw) (fun _ h9 => h9) (fs_get hf) hd (k p e s m args below meth c H locs ls F I P S hl)
theorem go_getR {q ci idx kf N t : Nat} {fs : List (Option Nat)} {C : String} {T : u_T} (hs : Sh[q]? = some (.inr (ci, fs))) (hf : fs[kf]? = some (some t)) (hc : vwCl[ci]? = some (C, T, N)) (hin : ∀ w ∈ u_ws C T N, w ∈ Tb) (hk : kf < N) (hw : Cond.fieldLink M.1.cls idx (T kf).1 (T kf).2.1 (T kf).2.2.1 ∈ Tb) (hd : decode M.2.1 pc = .ok (.getfield idx, 3)) (k : Go G d M (pc + 3) L (.ref t :: st) mem Φ) : Go G d M pc L (.ref q :: st) mem Φ := fun p e s m args below meth c H locs ls F I P S hl => va_get (C := C) (T := T) (N := N) F.1 F.2.1 F.2.2.2.2.2.1 hin F.2.2.2.2.1 I.2.1 P q (wl_get hs) hc kf hk (F.2.2.2.2.2.1 _ hw) (fun _ h9 => h9) (fs_get hf) hd (k p e s m args below meth c H locs ls F I P S hl)
theorem go_putI {q ci idx kf N : Nat} {x : Int32} {fs : List (Option Nat)} {C : String} {T : u_T} {tyT : Nat → FieldType} (hs : Sh[q]? = some (.inr (ci, fs))) (hf : fs[kf]? = some none) (hc : vwCl[ci]? = some (C, T, N)) (hin : ∀ w ∈ u_ws C T N, w ∈ Tb) (hty : ∀ k, k < N → parseFieldDescriptor (T k).2.2.1 = some (tyT k)) (hnm : ∀ a, a < N → ∀ b, b < N → a ≠ b → (T a).2.1 ≠ (T b).2.1) (hk : kf < N) (hfin : (T kf).2.2.2 = false) (hw : Cond.fieldLink M.1.cls idx (T kf).1 (T kf).2.1 (T kf).2.2.1 ∈ Tb) (hn : narrow (tyT kf) (.int x) = .int x) (hfit : fits (tyT kf) (.int x) = true) (hd : decode M.2.1 pc = .ok (.putfield idx, 3)) (k : Go G d M (pc + 3) L st (um mem q kf x) Φ) : Go G d M pc L (.int x :: .ref q :: st) mem Φ := fun p e s m args below meth c H locs ls F I P S hl => by
  refine va_put (C := C) (T := T) (N := N) F.1 F.2.1 F.2.2.2.2.2.1 hin tyT hty hnm F.2.2.2.2.1 I.2.1 P (I.D mem) S q (wl_get hs) hc kf hk (F.2.2.2.2.2.1 _ hw) (fun _ h9 => h9) hfin (hty kf hk) hn hfit (by rw [List.length_mapIdx]; exact (List.getElem?_eq_some_iff.mp hf).1) hd (fun H1 locs1 P1 D1 S1 => ?_)
  rw [wl_set (f := upd (mem q) kf x) hs (by show Sum.inr _ = Sum.inr (ci, (fs.mapIdx (fv G.2.2.1 (mem q))).set kf (.int x)); rw [um0_self, fs_set hf])] at P1
  exact k p e s m args below meth c H1 locs1 ls F I P1 S1 hl
theorem go_copyi {idx q0 q1 n0 n1 : Nat} {sp dp n : Int32} (hw : Cond.methodLink M.1.cls idx arraycopyName ∈ Tb) (hnat : Cond.native arraycopyName ∈ Tb) (hstat : Cond.static arraycopyName ∈ Tb) (hini : Cond.initialized "java/lang/System" ∈ Tb) (hs0 : Sh[q0]? = some (.inl (.int, n0, none))) (hs1 : Sh[q1]? = some (.inl (.int, n1, none))) (h1 : ¬ sp < 0) (h2 : ¬ dp < 0) (h3 : ¬ n < 0) (h4 : sp.toNatClampNeg + n.toNatClampNeg ≤ n0) (h5 : dp.toNatClampNeg + n.toNatClampNeg ≤ n1) (hst : (st.map fun v => v.category).sum = 0) (hd : decode M.2.1 pc = .ok (.invokestatic idx, 3)) (k : Go G (d + 1) M (pc + 3) L st (um0 mem q1 (va_cpy (mem q0) (mem q1) sp.toNatClampNeg dp.toNatClampNeg n.toNatClampNeg)) Φ) : Go G (d + 1) M pc L (.int n :: .int dp :: .ref q1 :: .int sp :: .ref q0 :: st) mem Φ := fun p e s m args below meth c H locs ls F I P S hl => by
  refine va_copyi F.1 F.2.1 (F.2.2.2.1.trans hl.1.symm) F.2.2.2.2.1 (F.2.2.2.2.2.1 _ hw) (F.2.2.2.2.2.1 _ hnat) (F.2.2.2.2.2.1 _ hstat) (F.2.2.2.2.2.1 _ hini) (I.K2 hs0 hs1) P (I.D mem) S q0 q1 0 1 (wl_get hs0) (wl_get hs1) rfl rfl rfl h1 h2 h3 h4 h5 (fun i _ => rfl) (Nat.succ_le_succ (Nat.zero_le d)) ?_ hd (fun H1 locs1 P1 D1 S1 => ?_)
  · rw [List.map_map, show ((fun v : Value => v.category) ∘ lf G.2.2.1) = (fun v => v.category) from funext (fun v => lf_cat _ v), hst]
    refine Nat.le_trans (m := 40) (Nat.le_of_ble_eq_true rfl) ?_
    show 40 ≤ 40 * (d + 1)
    omega
  · rw [wl_set (f := va_cpy (mem q0) (mem q1) sp.toNatClampNeg dp.toNatClampNeg n.toNatClampNeg) hs1 (by show Sum.inl _ = _; rw [um0_self])] at P1
    exact k p e s m args below meth c H1 locs1 ls F I P1 S1 hl
/-- what a method must be to be called -/
def Mok (M : MI) (n : Nat) : Prop := Cond.code M.1 M.2.1 M.2.2.1 M.2.2.2 ∈ Tb ∧ Cond.initialized M.1.cls ∈ Tb ∧ (M.1.cls ≠ "java/lang/invoke/MethodHandle" ∧ M.1.cls ≠ "java/lang/invoke/VarHandle" ∧ (parseMethodDescriptor M.1.desc).map (fun d => d.parameters.length) = some n) ∧ M.2.2.1 ≤ 21
theorem catm (al : Nat → Nat) (st : List Value) : ((st.map (lf al)).map fun v => v.category) = st.map fun v => v.category := by
  rw [List.map_map]
  exact congrArg (fun f => st.map f) (funext (fun v => lf_cat al v))
theorem go_back {G : GX} {d : Nat} {M : MI} {L : List (Nat × Value)} {st : List Value} {Φ Ψ : Option Value → Mem → Prop} {p : Program} {e : Env} {s : State} {m : MethodId} {args a : Array Value} {below : List Frame} {meth : Method} {c : Code} {H : Heap} {locs : List Loc} {ls : Array Slot} {pc : Nat} {st0 : List Value} (F : Fx M p s m args meth c) (I : IS G s) (S : va_S (A0 G) s.heap H locs) (hl : lv_has ls M.2.2.1 (L.map (lp G.2.2.1)))
    (hr : va_Run p G.1 e (rmd d) s m args below meth c H locs 0 0 0 0 (F0 m pc ls st0) (st.map (lf G.2.2.1)) (QG G Ψ a) (A0 G)) (k : ∀ v m2, Ψ v m2 → Go G d M (pc + 3) L (v.toList ++ st) m2 Φ) : W p G.1 e (rmd d) s m args below meth c H locs 0 0 (MQ below (QG G Φ) args s 0 0 (A0 G)) (F0 m pc ls st0) := by
  intro T hT X
  obtain ⟨v, st₀, t, T2, L2, h0, X2, hL, e1, e2, ⟨⟨w, m2, hv, hp, hP⟩, hz, hq⟩, hgo⟩ := hr T hT X
  have hv2 : v = w.map (lf G.2.2.1) := by injection hv
  have S2 : va_S (A0 G) s.heap t.heap (locs ++ L2) := ⟨Nat.le_trans S.1 (by rw [← h0]; exact hz), fun q h1 h2 => by rw [hq q (by rw [h0]; exact Nat.lt_of_lt_of_le h1 S.1) h2, h0]; exact S.2.1 q h1 h2, fun q hq2 => (List.mem_append.mp hq2).elim (S.2.2 q) (hL q)⟩
  have hst : v.toList ++ st.map (lf G.2.2.1) = (w.toList ++ st).map (lf G.2.2.1) := by
    rw [hv2]
    cases w <;> rfl
  obtain ⟨t2, a1, b1⟩ := k w m2 hp p e s m args below meth c t.heap (locs ++ L2) ls F I hP S2 hl T2 e1 X2
  refine ⟨t2, hgo t2 ?_, b1⟩
  rw [hst]
  exact a1
theorem pc_ok {G : GX} {mem : Mem} {s : State} {H : Heap} {locs : List Loc} {As : List Value} (I : IS G s) (P : va_P G.2.1 vwCl (wl G mem) H) (S : va_S (A0 G) s.heap H locs) : PreS s H (va_Pc (As.map (lf G.2.2.1)) (fun U => IS G U ∧ va_P G.2.1 vwCl (wl G mem) U.heap)) (As.map (lf G.2.2.1)) :=
  ⟨fun _ _ _ _ q => ⟨q.1, q.2.1.call, q.2.2⟩, fun U hU hW => ⟨rfl, I.go hW (fun a h1 h2 => by rw [hU]; exact S.2.1 a h1 h2), by rw [hU]; exact P⟩⟩
theorem room_ok {d n : Nat} (h : n ≤ 21) : (rmd d).frames + 1 ≤ (rmd (d + 1)).frames ∧ 8 + (n + 11) + (rmd d).locals ≤ (rmd (d + 1)).locals := by
  refine ⟨Nat.le_refl _, ?_⟩
  show 8 + (n + 11) + 40 * d ≤ 40 * (d + 1)
  omega
/-- invokestatic -/
theorem go_callS {M2 : MI} {n idx : Nat} {As stk : List Value} {Ψ : Option Value → Mem → Prop} (hM : Cn G d M2 As mem Ψ) (ok : Mok M2 n) (hsta : Cond.static M2.1 ∈ Tb) (hw : Cond.methodLink M.1.cls idx M2.1 ∈ Tb) (hn : As.length = n) (hstk : As.reverse ++ st = stk) (hW : (st.map fun v => v.category).sum ≤ 8) (hd : decode M.2.1 pc = .ok (.invokestatic idx, 3)) (k : ∀ v m2, Ψ v m2 → Go G (d + 1) M (pc + 3) L (v.toList ++ st) m2 Φ) : Go G (d + 1) M pc L stk mem Φ := fun p e s m args below meth c H locs ls F I P S hl => by
  have hT := F.2.2.2.2.2.1
  refine go_back F I S hl (va_runS (g := F0 m pc ls (stk.map (lf G.2.2.1))) ⟨F.1, F.2.1, F.2.2.2.1, F.2.2.2.2.1, hT⟩ hM ⟨callB_of n hT (goodG ok.1) rfl rfl rfl (hT _ ok.2.1) (hT _ hw) ok.2.2.1 (room_ok ok.2.2.2), hT _ hsta⟩ (pc_ok I P S) rfl (by rw [List.length_map]; exact hn) hl.1 ?_ (lv_room (by rw [catm]; exact hW)) hd ⟨Nat.le_refl _, Nat.le_refl _⟩) k
  show stk.map _ = _
  rw [← hstk, List.map_append, List.map_reverse]
/-- invokestatic of a nest mate's private method -/
theorem go_callSN {M2 : MI} {n idx : Nat} {As stk : List Value} {host : String} {Ψ : Option Value → Mem → Prop} (hM : Cn G d M2 As mem Ψ) (ok : Mok M2 n) (hsta : Cond.static M2.1 ∈ Tb) (hw : ∀ U : State, NW U → va_Nw (.methodLinkNest M.1.cls idx M2.1 host) U) (hn : As.length = n) (hstk : As.reverse ++ st = stk) (hW : (st.map fun v => v.category).sum ≤ 8) (hd : decode M.2.1 pc = .ok (.invokestatic idx, 3)) (k : ∀ v m2, Ψ v m2 → Go G (d + 1) M (pc + 3) L (v.toList ++ st) m2 Φ) : Go G (d + 1) M pc L stk mem Φ := fun p e s m args below meth c H locs ls F I P S hl => by
  have hT := F.2.2.2.2.2.1
  refine go_back F I S hl (va_runSN (g := F0 m pc ls (stk.map (lf G.2.2.1))) ⟨F.1, F.2.1, F.2.2.2.1, F.2.2.2.2.1, hT⟩ hM ⟨va_cnB n hT (goodG ok.1) rfl rfl rfl (hw s I.2.2.2.1) (hT _ ok.2.1) ok.2.2.1 (room_ok ok.2.2.2), hT _ hsta, trivial⟩ (pc_ok I P S) rfl (by rw [List.length_map]; exact hn) hl.1 ?_ (lv_room (by rw [catm]; exact hW)) hd ⟨Nat.le_refl _, Nat.le_refl _⟩) k
  show stk.map _ = _
  rw [← hstk, List.map_append, List.map_reverse]
/-- invokevirtual on an object of the world -/
theorem go_callV {M2 : MI} {n idx q ci N : Nat} {fs : List (Option Nat)} {T : u_T} {As stk : List Value} {Ψ : Option Value → Mem → Prop} (hM : Cn G d M2 (.ref q :: As) mem Ψ) (hs : Sh[q]? = some (.inr (ci, fs))) (hc : vwCl[ci]? = some (M2.1.cls, T, N)) (ok : Mok M2 n) (hin : Cond.instanceMethod M2.1 ∈ Tb) (hsel : Cond.selects M2.1.cls M2.1 M2.1 ∈ Tb) (hw : Cond.methodLink M.1.cls idx M2.1 ∈ Tb) (hn : As.length = n) (hstk : As.reverse ++ .ref q :: st = stk) (hW : (st.map fun v => v.category).sum ≤ 8) (hd : decode M.2.1 pc = .ok (.invokevirtual idx, 3)) (k : ∀ v m2, Ψ v m2 → Go G (d + 1) M (pc + 3) L (v.toList ++ st) m2 Φ) : Go G (d + 1) M pc L stk mem Φ := fun p e s m args below meth c H locs ls F I P S hl => by
  have hT := F.2.2.2.2.2.1
  have hp := pc_ok (As := .ref q :: As) I P S
  refine go_back F I S hl (va_runV (g := F0 m pc ls (stk.map (lf G.2.2.1))) (C := M2.1.cls) (b := G.2.2.1 q) (As := As.map (lf G.2.2.1)) ⟨F.1, F.2.1, F.2.2.2.1, F.2.2.2.2.1, hT⟩ hM ⟨callB_of n hT (goodG ok.1) rfl rfl rfl (hT _ ok.2.1) (hT _ hw) ok.2.2.1 (room_ok ok.2.2.2), hT _ hin, hT _ hsel⟩ ⟨hp.1, va_recv (q := (M2.1.cls, T, N)) I.2.1 P hc (wl_get hs), hp.2⟩ rfl (by rw [List.length_map]; exact hn) hl.1 ?_ (lv_room (by rw [catm]; exact hW)) hd ⟨Nat.le_refl _, Nat.le_refl _⟩) k
  show stk.map _ = _
  rw [← hstk, List.map_append, List.map_reverse]
  rfl
theorem Go.pick (ks : List Nat) (h : lv_pick L ks = L2) (k : Go G d M pc L2 st mem Φ) : Go G d M pc L st mem Φ := Go.loc (fun q hq => by
  rw [← h] at hq
  obtain ⟨j, -, hj⟩ := List.mem_filterMap.mp hq
  exact List.mem_of_getElem? hj) k
theorem go_tabEq {df lo hi : Int} {offs : Array Int} {len : Nat} {x v : Int32} {off : Int} (hx : x = v) (tgt : Nat) (hd : decode M.2.1 pc = .ok (.tableswitch df lo hi offs, len)) (h1 : ¬ v.toInt < lo) (h2 : ¬ hi < v.toInt) (ho : offs[(v.toInt - lo).toNat]? = some off) (ht : (pc : Int) + off = (tgt : Int)) (k : Go G d M tgt L st mem Φ) : Go G d M pc L (.int x :: st) mem Φ := by
  subst hx
  exact go_tabIn tgt hd h1 h2 ho ht k
theorem go_lookEq {df : Int} {ps : Array (Int × Int)} {len : Nat} {x v : Int32} {off : Int} (hx : x = v) (tgt : Nat) (hd : decode M.2.1 pc = .ok (.lookupswitch df ps, len)) (hp : (ps.toList.zip (ps.toList.drop 1)).all (fun (a, next) => a.1 < next.1) = true) (ho : Op.lookupswitch.offset ps.toList df v.toInt = off) (ht : (pc : Int) + off = (tgt : Int)) (k : Go G d M tgt L st mem Φ) : Go G d M pc L (.int x :: st) mem Φ := by
  subst hx
  exact go_lookup tgt hd hp ho ht k
theorem neI {x v : Int32} {z : Int} (h : ¬ x = v) (hv : v.toInt = z) : ¬ x.toInt = z := fun e => h (Int32.toInt_inj.mp (e.trans hv.symm))
end GR
end
section
abbrev mJ0_charAt_5068e : MI := (yJ0_charAt_5068e, cJ0_charAt_5068e, 2, some .char)
theorem okJ0_charAt_5068e : Mok mJ0_charAt_5068e 1 := ⟨inTb (List.mem_of_getElem? (i := 303) (by decide +kernel)) (by decide +kernel), inTb (List.mem_of_getElem? (i := 55) (by decide +kernel)) (by decide +kernel), ⟨by decide +kernel, by decide +kernel, by decide +kernel⟩, by decide⟩
theorem insJ0_charAt_5068e : Cond.instanceMethod yJ0_charAt_5068e ∈ Tb := inTb (List.mem_of_getElem? (i := 301) (by decide +kernel)) (by decide +kernel)
theorem selJ0_charAt_5068e : Cond.selects RJ0 yJ0_charAt_5068e yJ0_charAt_5068e ∈ Tb := inTb (List.mem_of_getElem? (i := 302) (by decide +kernel)) (by decide +kernel)
abbrev mJ0_checkIndex_df160 : MI := (yJ0_checkIndex_df160, cJ0_checkIndex_df160, 2, none)
theorem okJ0_checkIndex_df160 : Mok mJ0_checkIndex_df160 2 := ⟨inTb (List.mem_of_getElem? (i := 313) (by decide +kernel)) (by decide +kernel), inTb (List.mem_of_getElem? (i := 55) (by decide +kernel)) (by decide +kernel), ⟨by decide +kernel, by decide +kernel, by decide +kernel⟩, by decide⟩
theorem staJ0_checkIndex_df160 : Cond.static yJ0_checkIndex_df160 ∈ Tb := inTb (List.mem_of_getElem? (i := 312) (by decide +kernel)) (by decide +kernel)
abbrev mJ0_coder_7d493 : MI := (yJ0_coder_7d493, cJ0_coder_7d493, 1, some .byte)
theorem okJ0_coder_7d493 : Mok mJ0_coder_7d493 0 := ⟨inTb (List.mem_of_getElem? (i := 297) (by decide +kernel)) (by decide +kernel), inTb (List.mem_of_getElem? (i := 55) (by decide +kernel)) (by decide +kernel), ⟨by decide +kernel, by decide +kernel, by decide +kernel⟩, by decide⟩
theorem insJ0_coder_7d493 : Cond.instanceMethod yJ0_coder_7d493 ∈ Tb := inTb (List.mem_of_getElem? (i := 295) (by decide +kernel)) (by decide +kernel)
theorem selJ0_coder_7d493 : Cond.selects RJ0 yJ0_coder_7d493 yJ0_coder_7d493 ∈ Tb := inTb (List.mem_of_getElem? (i := 296) (by decide +kernel)) (by decide +kernel)
abbrev mJ0_isLatin1_aae02 : MI := (yJ0_isLatin1_aae02, cJ0_isLatin1_aae02, 1, some .boolean)
theorem okJ0_isLatin1_aae02 : Mok mJ0_isLatin1_aae02 0 := ⟨inTb (List.mem_of_getElem? (i := 307) (by decide +kernel)) (by decide +kernel), inTb (List.mem_of_getElem? (i := 55) (by decide +kernel)) (by decide +kernel), ⟨by decide +kernel, by decide +kernel, by decide +kernel⟩, by decide⟩
theorem insJ0_isLatin1_aae02 : Cond.instanceMethod yJ0_isLatin1_aae02 ∈ Tb := inTb (List.mem_of_getElem? (i := 305) (by decide +kernel)) (by decide +kernel)
theorem selJ0_isLatin1_aae02 : Cond.selects RJ0 yJ0_isLatin1_aae02 yJ0_isLatin1_aae02 ∈ Tb := inTb (List.mem_of_getElem? (i := 306) (by decide +kernel)) (by decide +kernel)
abbrev mJ0_length_8abf5 : MI := (yJ0_length_8abf5, cJ0_length_8abf5, 1, some .int)
theorem okJ0_length_8abf5 : Mok mJ0_length_8abf5 0 := ⟨inTb (List.mem_of_getElem? (i := 293) (by decide +kernel)) (by decide +kernel), inTb (List.mem_of_getElem? (i := 55) (by decide +kernel)) (by decide +kernel), ⟨by decide +kernel, by decide +kernel, by decide +kernel⟩, by decide⟩
theorem insJ0_length_8abf5 : Cond.instanceMethod yJ0_length_8abf5 ∈ Tb := inTb (List.mem_of_getElem? (i := 291) (by decide +kernel)) (by decide +kernel)
theorem selJ0_length_8abf5 : Cond.selects RJ0 yJ0_length_8abf5 yJ0_length_8abf5 ∈ Tb := inTb (List.mem_of_getElem? (i := 292) (by decide +kernel)) (by decide +kernel)
abbrev mJ1_charAt_3b067 : MI := (yJ1_charAt_3b067, cJ1_charAt_3b067, 2, some .char)
theorem okJ1_charAt_3b067 : Mok mJ1_charAt_3b067 2 := ⟨inTb (List.mem_of_getElem? (i := 310) (by decide +kernel)) (by decide +kernel), inTb (List.mem_of_getElem? (i := 56) (by decide +kernel)) (by decide +kernel), ⟨by decide +kernel, by decide +kernel, by decide +kernel⟩, by decide⟩
theorem staJ1_charAt_3b067 : Cond.static yJ1_charAt_3b067 ∈ Tb := inTb (List.mem_of_getElem? (i := 309) (by decide +kernel)) (by decide +kernel)
abbrev mJ2_charAt_3b067 : MI := (yJ2_charAt_3b067, cJ2_charAt_3b067, 2, some .char)
theorem okJ2_charAt_3b067 : Mok mJ2_charAt_3b067 2 := ⟨inTb (List.mem_of_getElem? (i := 321) (by decide +kernel)) (by decide +kernel), inTb (List.mem_of_getElem? (i := 58) (by decide +kernel)) (by decide +kernel), ⟨by decide +kernel, by decide +kernel, by decide +kernel⟩, by decide⟩
theorem staJ2_charAt_3b067 : Cond.static yJ2_charAt_3b067 ∈ Tb := inTb (List.mem_of_getElem? (i := 320) (by decide +kernel)) (by decide +kernel)
abbrev mJ2_checkIndex_2214a : MI := (yJ2_checkIndex_2214a, cJ2_checkIndex_2214a, 2, none)
theorem okJ2_checkIndex_2214a : Mok mJ2_checkIndex_2214a 2 := ⟨inTb (List.mem_of_getElem? (i := 324) (by decide +kernel)) (by decide +kernel), inTb (List.mem_of_getElem? (i := 58) (by decide +kernel)) (by decide +kernel), ⟨by decide +kernel, by decide +kernel, by decide +kernel⟩, by decide⟩
theorem staJ2_checkIndex_2214a : Cond.static yJ2_checkIndex_2214a ∈ Tb := inTb (List.mem_of_getElem? (i := 323) (by decide +kernel)) (by decide +kernel)
abbrev mJ2_getChar_3b067 : MI := (yJ2_getChar_3b067, cJ2_getChar_3b067, 2, some .char)
theorem okJ2_getChar_3b067 : Mok mJ2_getChar_3b067 2 := ⟨inTb (List.mem_of_getElem? (i := 331) (by decide +kernel)) (by decide +kernel), inTb (List.mem_of_getElem? (i := 58) (by decide +kernel)) (by decide +kernel), ⟨by decide +kernel, by decide +kernel, by decide +kernel⟩, by decide⟩
theorem staJ2_getChar_3b067 : Cond.static yJ2_getChar_3b067 ∈ Tb := inTb (List.mem_of_getElem? (i := 330) (by decide +kernel)) (by decide +kernel)
abbrev mJ2_length_9d52b : MI := (yJ2_length_9d52b, cJ2_length_9d52b, 1, some .int)
theorem okJ2_length_9d52b : Mok mJ2_length_9d52b 1 := ⟨inTb (List.mem_of_getElem? (i := 327) (by decide +kernel)) (by decide +kernel), inTb (List.mem_of_getElem? (i := 58) (by decide +kernel)) (by decide +kernel), ⟨by decide +kernel, by decide +kernel, by decide +kernel⟩, by decide⟩
theorem staJ2_length_9d52b : Cond.static yJ2_length_9d52b ∈ Tb := inTb (List.mem_of_getElem? (i := 326) (by decide +kernel)) (by decide +kernel)
abbrev mJ3_checkIndex_8e157 : MI := (yJ3_checkIndex_8e157, cJ3_checkIndex_8e157, 3, some .int)
theorem okJ3_checkIndex_8e157 : Mok mJ3_checkIndex_8e157 3 := ⟨inTb (List.mem_of_getElem? (i := 318) (by decide +kernel)) (by decide +kernel), inTb (List.mem_of_getElem? (i := 57) (by decide +kernel)) (by decide +kernel), ⟨by decide +kernel, by decide +kernel, by decide +kernel⟩, by decide⟩
theorem staJ3_checkIndex_8e157 : Cond.static yJ3_checkIndex_8e157 ∈ Tb := inTb (List.mem_of_getElem? (i := 317) (by decide +kernel)) (by decide +kernel)
abbrev mJ6_bitCount_0f7a4 : MI := (yJ6_bitCount_0f7a4, cJ6_bitCount_0f7a4, 1, some .int)
theorem okJ6_bitCount_0f7a4 : Mok mJ6_bitCount_0f7a4 1 := ⟨inTb (List.mem_of_getElem? (i := 403) (by decide +kernel)) (by decide +kernel), inTb (List.mem_of_getElem? (i := 60) (by decide +kernel)) (by decide +kernel), ⟨by decide +kernel, by decide +kernel, by decide +kernel⟩, by decide⟩
theorem staJ6_bitCount_0f7a4 : Cond.static yJ6_bitCount_0f7a4 ∈ Tb := inTb (List.mem_of_getElem? (i := 402) (by decide +kernel)) (by decide +kernel)
abbrev mJ7_fill_53178 : MI := (yJ7_fill_53178, cJ7_fill_53178, 4, none)
theorem okJ7_fill_53178 : Mok mJ7_fill_53178 2 := ⟨inTb (List.mem_of_getElem? (i := 649) (by decide +kernel)) (by decide +kernel), inTb (List.mem_of_getElem? (i := 62) (by decide +kernel)) (by decide +kernel), ⟨by decide +kernel, by decide +kernel, by decide +kernel⟩, by decide⟩
theorem staJ7_fill_53178 : Cond.static yJ7_fill_53178 ∈ Tb := inTb (List.mem_of_getElem? (i := 648) (by decide +kernel)) (by decide +kernel)
abbrev mJ9_max_7cf53 : MI := (yJ9_max_7cf53, cJ9_max_7cf53, 2, some .int)
theorem okJ9_max_7cf53 : Mok mJ9_max_7cf53 2 := ⟨inTb (List.mem_of_getElem? (i := 427) (by decide +kernel)) (by decide +kernel), inTb (List.mem_of_getElem? (i := 61) (by decide +kernel)) (by decide +kernel), ⟨by decide +kernel, by decide +kernel, by decide +kernel⟩, by decide⟩
theorem staJ9_max_7cf53 : Cond.static yJ9_max_7cf53 ∈ Tb := inTb (List.mem_of_getElem? (i := 426) (by decide +kernel)) (by decide +kernel)
abbrev mJ9_min_7cf53 : MI := (yJ9_min_7cf53, cJ9_min_7cf53, 2, some .int)
theorem okJ9_min_7cf53 : Mok mJ9_min_7cf53 2 := ⟨inTb (List.mem_of_getElem? (i := 424) (by decide +kernel)) (by decide +kernel), inTb (List.mem_of_getElem? (i := 61) (by decide +kernel)) (by decide +kernel), ⟨by decide +kernel, by decide +kernel, by decide +kernel⟩, by decide⟩
theorem staJ9_min_7cf53 : Cond.static yJ9_min_7cf53 ∈ Tb := inTb (List.mem_of_getElem? (i := 423) (by decide +kernel)) (by decide +kernel)
abbrev mX0_addClock : MI := (yX0_addClock, cX0_addClock, 4, none)
theorem okX0_addClock : Mok mX0_addClock 3 := ⟨inTb (List.mem_of_getElem? (i := 365) (by decide +kernel)) (by decide +kernel), inTb (List.mem_of_getElem? (i := 49) (by decide +kernel)) (by decide +kernel), ⟨by decide +kernel, by decide +kernel, by decide +kernel⟩, by decide⟩
theorem insX0_addClock : Cond.instanceMethod yX0_addClock ∈ Tb := inTb (List.mem_of_getElem? (i := 363) (by decide +kernel)) (by decide +kernel)
theorem selX0_addClock : Cond.selects RX0 yX0_addClock yX0_addClock ∈ Tb := inTb (List.mem_of_getElem? (i := 364) (by decide +kernel)) (by decide +kernel)
abbrev mX0_alterHand : MI := (yX0_alterHand, cX0_alterHand, 4, some .int)
theorem okX0_alterHand : Mok mX0_alterHand 2 := ⟨inTb (List.mem_of_getElem? (i := 453) (by decide +kernel)) (by decide +kernel), inTb (List.mem_of_getElem? (i := 49) (by decide +kernel)) (by decide +kernel), ⟨by decide +kernel, by decide +kernel, by decide +kernel⟩, by decide⟩
theorem insX0_alterHand : Cond.instanceMethod yX0_alterHand ∈ Tb := inTb (List.mem_of_getElem? (i := 451) (by decide +kernel)) (by decide +kernel)
theorem selX0_alterHand : Cond.selects RX0 yX0_alterHand yX0_alterHand ∈ Tb := inTb (List.mem_of_getElem? (i := 452) (by decide +kernel)) (by decide +kernel)
abbrev mX0_alterKind : MI := (yX0_alterKind, cX0_alterKind, 4, some .int)
theorem okX0_alterKind : Mok mX0_alterKind 2 := ⟨inTb (List.mem_of_getElem? (i := 444) (by decide +kernel)) (by decide +kernel), inTb (List.mem_of_getElem? (i := 49) (by decide +kernel)) (by decide +kernel), ⟨by decide +kernel, by decide +kernel, by decide +kernel⟩, by decide⟩
theorem insX0_alterKind : Cond.instanceMethod yX0_alterKind ∈ Tb := inTb (List.mem_of_getElem? (i := 442) (by decide +kernel)) (by decide +kernel)
theorem selX0_alterKind : Cond.selects RX0 yX0_alterKind yX0_alterKind ∈ Tb := inTb (List.mem_of_getElem? (i := 443) (by decide +kernel)) (by decide +kernel)
abbrev mX0_alterPeriod : MI := (yX0_alterPeriod, cX0_alterPeriod, 4, some .int)
theorem okX0_alterPeriod : Mok mX0_alterPeriod 2 := ⟨inTb (List.mem_of_getElem? (i := 449) (by decide +kernel)) (by decide +kernel), inTb (List.mem_of_getElem? (i := 49) (by decide +kernel)) (by decide +kernel), ⟨by decide +kernel, by decide +kernel, by decide +kernel⟩, by decide⟩
theorem insX0_alterPeriod : Cond.instanceMethod yX0_alterPeriod ∈ Tb := inTb (List.mem_of_getElem? (i := 447) (by decide +kernel)) (by decide +kernel)
theorem selX0_alterPeriod : Cond.selects RX0 yX0_alterPeriod yX0_alterPeriod ∈ Tb := inTb (List.mem_of_getElem? (i := 448) (by decide +kernel)) (by decide +kernel)
abbrev mX0_empty : MI := (yX0_empty, cX0_empty, 1, none)
theorem okX0_empty : Mok mX0_empty 0 := ⟨inTb (List.mem_of_getElem? (i := 259) (by decide +kernel)) (by decide +kernel), inTb (List.mem_of_getElem? (i := 49) (by decide +kernel)) (by decide +kernel), ⟨by decide +kernel, by decide +kernel, by decide +kernel⟩, by decide⟩
theorem insX0_empty : Cond.instanceMethod yX0_empty ∈ Tb := inTb (List.mem_of_getElem? (i := 257) (by decide +kernel)) (by decide +kernel)
theorem selX0_empty : Cond.selects RX0 yX0_empty yX0_empty ∈ Tb := inTb (List.mem_of_getElem? (i := 258) (by decide +kernel)) (by decide +kernel)
abbrev mX0_everyClock : MI := (yX0_everyClock, cX0_everyClock, 1, some .int)
theorem okX0_everyClock : Mok mX0_everyClock 0 := ⟨inTb (List.mem_of_getElem? (i := 492) (by decide +kernel)) (by decide +kernel), inTb (List.mem_of_getElem? (i := 49) (by decide +kernel)) (by decide +kernel), ⟨by decide +kernel, by decide +kernel, by decide +kernel⟩, by decide⟩
theorem insX0_everyClock : Cond.instanceMethod yX0_everyClock ∈ Tb := inTb (List.mem_of_getElem? (i := 490) (by decide +kernel)) (by decide +kernel)
theorem selX0_everyClock : Cond.selects RX0 yX0_everyClock yX0_everyClock ∈ Tb := inTb (List.mem_of_getElem? (i := 491) (by decide +kernel)) (by decide +kernel)
abbrev mX0_firstTogether : MI := (yX0_firstTogether, cX0_firstTogether, 4, some .int)
theorem okX0_firstTogether : Mok mX0_firstTogether 1 := ⟨inTb (List.mem_of_getElem? (i := 514) (by decide +kernel)) (by decide +kernel), inTb (List.mem_of_getElem? (i := 49) (by decide +kernel)) (by decide +kernel), ⟨by decide +kernel, by decide +kernel, by decide +kernel⟩, by decide⟩
theorem insX0_firstTogether : Cond.instanceMethod yX0_firstTogether ∈ Tb := inTb (List.mem_of_getElem? (i := 512) (by decide +kernel)) (by decide +kernel)
theorem selX0_firstTogether : Cond.selects RX0 yX0_firstTogether yX0_firstTogether ∈ Tb := inTb (List.mem_of_getElem? (i := 513) (by decide +kernel)) (by decide +kernel)
abbrev mX0_goesOn : MI := (yX0_goesOn, cX0_goesOn, 2, some .boolean)
theorem okX0_goesOn : Mok mX0_goesOn 1 := ⟨inTb (List.mem_of_getElem? (i := 421) (by decide +kernel)) (by decide +kernel), inTb (List.mem_of_getElem? (i := 49) (by decide +kernel)) (by decide +kernel), ⟨by decide +kernel, by decide +kernel, by decide +kernel⟩, by decide⟩
theorem insX0_goesOn : Cond.instanceMethod yX0_goesOn ∈ Tb := inTb (List.mem_of_getElem? (i := 419) (by decide +kernel)) (by decide +kernel)
theorem selX0_goesOn : Cond.selects RX0 yX0_goesOn yX0_goesOn ∈ Tb := inTb (List.mem_of_getElem? (i := 420) (by decide +kernel)) (by decide +kernel)
abbrev mX0_hasHandsOf : MI := (yX0_hasHandsOf, cX0_hasHandsOf, 3, some .boolean)
theorem okX0_hasHandsOf : Mok mX0_hasHandsOf 1 := ⟨inTb (List.mem_of_getElem? (i := 523) (by decide +kernel)) (by decide +kernel), inTb (List.mem_of_getElem? (i := 49) (by decide +kernel)) (by decide +kernel), ⟨by decide +kernel, by decide +kernel, by decide +kernel⟩, by decide⟩
theorem insX0_hasHandsOf : Cond.instanceMethod yX0_hasHandsOf ∈ Tb := inTb (List.mem_of_getElem? (i := 521) (by decide +kernel)) (by decide +kernel)
theorem selX0_hasHandsOf : Cond.selects RX0 yX0_hasHandsOf yX0_hasHandsOf ∈ Tb := inTb (List.mem_of_getElem? (i := 522) (by decide +kernel)) (by decide +kernel)
abbrev mX0_init : MI := (yX0_init, cX0_init, 1, none)
theorem okX0_init : Mok mX0_init 0 := ⟨inTb (List.mem_of_getElem? (i := 75) (by decide +kernel)) (by decide +kernel), inTb (List.mem_of_getElem? (i := 49) (by decide +kernel)) (by decide +kernel), ⟨by decide +kernel, by decide +kernel, by decide +kernel⟩, by decide⟩
theorem insX0_init : Cond.instanceMethod yX0_init ∈ Tb := inTb (List.mem_of_getElem? (i := 74) (by decide +kernel)) (by decide +kernel)
abbrev mX0_moveHands : MI := (yX0_moveHands, cX0_moveHands, 3, some .int)
theorem okX0_moveHands : Mok mX0_moveHands 0 := ⟨inTb (List.mem_of_getElem? (i := 396) (by decide +kernel)) (by decide +kernel), inTb (List.mem_of_getElem? (i := 49) (by decide +kernel)) (by decide +kernel), ⟨by decide +kernel, by decide +kernel, by decide +kernel⟩, by decide⟩
theorem insX0_moveHands : Cond.instanceMethod yX0_moveHands ∈ Tb := inTb (List.mem_of_getElem? (i := 395) (by decide +kernel)) (by decide +kernel)
theorem selX0_moveHands : Cond.selects RX0 yX0_moveHands yX0_moveHands ∈ Tb := inTb (List.mem_of_getElem? (i := 13) (by decide +kernel)) (by decide +kernel)
abbrev mX0_shake : MI := (yX0_shake, cX0_shake, 4, none)
theorem okX0_shake : Mok mX0_shake 1 := ⟨inTb (List.mem_of_getElem? (i := 400) (by decide +kernel)) (by decide +kernel), inTb (List.mem_of_getElem? (i := 49) (by decide +kernel)) (by decide +kernel), ⟨by decide +kernel, by decide +kernel, by decide +kernel⟩, by decide⟩
theorem insX0_shake : Cond.instanceMethod yX0_shake ∈ Tb := inTb (List.mem_of_getElem? (i := 399) (by decide +kernel)) (by decide +kernel)
theorem selX0_shake : Cond.selects RX0 yX0_shake yX0_shake ∈ Tb := inTb (List.mem_of_getElem? (i := 14) (by decide +kernel)) (by decide +kernel)
abbrev mX0_shift : MI := (yX0_shift, cX0_shift, 4, none)
theorem okX0_shift : Mok mX0_shift 2 := ⟨inTb (List.mem_of_getElem? (i := 413) (by decide +kernel)) (by decide +kernel), inTb (List.mem_of_getElem? (i := 49) (by decide +kernel)) (by decide +kernel), ⟨by decide +kernel, by decide +kernel, by decide +kernel⟩, by decide⟩
theorem insX0_shift : Cond.instanceMethod yX0_shift ∈ Tb := inTb (List.mem_of_getElem? (i := 411) (by decide +kernel)) (by decide +kernel)
theorem selX0_shift : Cond.selects RX0 yX0_shift yX0_shift ∈ Tb := inTb (List.mem_of_getElem? (i := 412) (by decide +kernel)) (by decide +kernel)
abbrev mX0_shove : MI := (yX0_shove, cX0_shove, 3, some .int)
theorem okX0_shove : Mok mX0_shove 2 := ⟨inTb (List.mem_of_getElem? (i := 417) (by decide +kernel)) (by decide +kernel), inTb (List.mem_of_getElem? (i := 49) (by decide +kernel)) (by decide +kernel), ⟨by decide +kernel, by decide +kernel, by decide +kernel⟩, by decide⟩
theorem insX0_shove : Cond.instanceMethod yX0_shove ∈ Tb := inTb (List.mem_of_getElem? (i := 415) (by decide +kernel)) (by decide +kernel)
theorem selX0_shove : Cond.selects RX0 yX0_shove yX0_shove ∈ Tb := inTb (List.mem_of_getElem? (i := 416) (by decide +kernel)) (by decide +kernel)
abbrev mX0_step : MI := (yX0_step, cX0_step, 3, some .int)
theorem okX0_step : Mok mX0_step 1 := ⟨inTb (List.mem_of_getElem? (i := 392) (by decide +kernel)) (by decide +kernel), inTb (List.mem_of_getElem? (i := 49) (by decide +kernel)) (by decide +kernel), ⟨by decide +kernel, by decide +kernel, by decide +kernel⟩, by decide⟩
theorem insX0_step : Cond.instanceMethod yX0_step ∈ Tb := inTb (List.mem_of_getElem? (i := 390) (by decide +kernel)) (by decide +kernel)
theorem selX0_step : Cond.selects RX0 yX0_step yX0_step ∈ Tb := inTb (List.mem_of_getElem? (i := 391) (by decide +kernel)) (by decide +kernel)
abbrev mX0_stepHeld : MI := (yX0_stepHeld, cX0_stepHeld, 5, some .int)
theorem okX0_stepHeld : Mok mX0_stepHeld 2 := ⟨inTb (List.mem_of_getElem? (i := 483) (by decide +kernel)) (by decide +kernel), inTb (List.mem_of_getElem? (i := 49) (by decide +kernel)) (by decide +kernel), ⟨by decide +kernel, by decide +kernel, by decide +kernel⟩, by decide⟩
theorem insX0_stepHeld : Cond.instanceMethod yX0_stepHeld ∈ Tb := inTb (List.mem_of_getElem? (i := 481) (by decide +kernel)) (by decide +kernel)
theorem selX0_stepHeld : Cond.selects RX0 yX0_stepHeld yX0_stepHeld ∈ Tb := inTb (List.mem_of_getElem? (i := 482) (by decide +kernel)) (by decide +kernel)
abbrev mX0_stepMany : MI := (yX0_stepMany, cX0_stepMany, 2, some .int)
theorem okX0_stepMany : Mok mX0_stepMany 1 := ⟨inTb (List.mem_of_getElem? (i := 479) (by decide +kernel)) (by decide +kernel), inTb (List.mem_of_getElem? (i := 49) (by decide +kernel)) (by decide +kernel), ⟨by decide +kernel, by decide +kernel, by decide +kernel⟩, by decide⟩
theorem insX0_stepMany : Cond.instanceMethod yX0_stepMany ∈ Tb := inTb (List.mem_of_getElem? (i := 477) (by decide +kernel)) (by decide +kernel)
theorem selX0_stepMany : Cond.selects RX0 yX0_stepMany yX0_stepMany ∈ Tb := inTb (List.mem_of_getElem? (i := 478) (by decide +kernel)) (by decide +kernel)
abbrev mX0_sumOfHands : MI := (yX0_sumOfHands, cX0_sumOfHands, 3, some .int)
theorem okX0_sumOfHands : Mok mX0_sumOfHands 0 := ⟨inTb (List.mem_of_getElem? (i := 498) (by decide +kernel)) (by decide +kernel), inTb (List.mem_of_getElem? (i := 49) (by decide +kernel)) (by decide +kernel), ⟨by decide +kernel, by decide +kernel, by decide +kernel⟩, by decide⟩
theorem insX0_sumOfHands : Cond.instanceMethod yX0_sumOfHands ∈ Tb := inTb (List.mem_of_getElem? (i := 496) (by decide +kernel)) (by decide +kernel)
theorem selX0_sumOfHands : Cond.selects RX0 yX0_sumOfHands yX0_sumOfHands ∈ Tb := inTb (List.mem_of_getElem? (i := 497) (by decide +kernel)) (by decide +kernel)
abbrev mX0_takeAway : MI := (yX0_takeAway, cX0_takeAway, 3, none)
theorem okX0_takeAway : Mok mX0_takeAway 1 := ⟨inTb (List.mem_of_getElem? (i := 573) (by decide +kernel)) (by decide +kernel), inTb (List.mem_of_getElem? (i := 49) (by decide +kernel)) (by decide +kernel), ⟨by decide +kernel, by decide +kernel, by decide +kernel⟩, by decide⟩
theorem insX0_takeAway : Cond.instanceMethod yX0_takeAway ∈ Tb := inTb (List.mem_of_getElem? (i := 571) (by decide +kernel)) (by decide +kernel)
theorem selX0_takeAway : Cond.selects RX0 yX0_takeAway yX0_takeAway ∈ Tb := inTb (List.mem_of_getElem? (i := 572) (by decide +kernel)) (by decide +kernel)
abbrev mX0_takeFrom : MI := (yX0_takeFrom, cX0_takeFrom, 2, none)
theorem okX0_takeFrom : Mok mX0_takeFrom 1 := ⟨inTb (List.mem_of_getElem? (i := 369) (by decide +kernel)) (by decide +kernel), inTb (List.mem_of_getElem? (i := 49) (by decide +kernel)) (by decide +kernel), ⟨by decide +kernel, by decide +kernel, by decide +kernel⟩, by decide⟩
theorem insX0_takeFrom : Cond.instanceMethod yX0_takeFrom ∈ Tb := inTb (List.mem_of_getElem? (i := 367) (by decide +kernel)) (by decide +kernel)
theorem selX0_takeFrom : Cond.selects RX0 yX0_takeFrom yX0_takeFrom ∈ Tb := inTb (List.mem_of_getElem? (i := 368) (by decide +kernel)) (by decide +kernel)
abbrev mX0_takesHand : MI := (yX0_takesHand, cX0_takesHand, 3, some .boolean)
theorem okX0_takesHand : Mok mX0_takesHand 2 := ⟨inTb (List.mem_of_getElem? (i := 699) (by decide +kernel)) (by decide +kernel), inTb (List.mem_of_getElem? (i := 49) (by decide +kernel)) (by decide +kernel), ⟨by decide +kernel, by decide +kernel, by decide +kernel⟩, by decide⟩
theorem insX0_takesHand : Cond.instanceMethod yX0_takesHand ∈ Tb := inTb (List.mem_of_getElem? (i := 697) (by decide +kernel)) (by decide +kernel)
theorem selX0_takesHand : Cond.selects RX0 yX0_takesHand yX0_takesHand ∈ Tb := inTb (List.mem_of_getElem? (i := 698) (by decide +kernel)) (by decide +kernel)
abbrev mX1_answer : MI := (yX1_answer, cX1_answer, 2, some .int)
theorem okX1_answer : Mok mX1_answer 1 := ⟨inTb (List.mem_of_getElem? (i := 545) (by decide +kernel)) (by decide +kernel), inTb (List.mem_of_getElem? (i := 52) (by decide +kernel)) (by decide +kernel), ⟨by decide +kernel, by decide +kernel, by decide +kernel⟩, by decide⟩
theorem insX1_answer : Cond.instanceMethod yX1_answer ∈ Tb := inTb (List.mem_of_getElem? (i := 543) (by decide +kernel)) (by decide +kernel)
theorem selX1_answer : Cond.selects RX1 yX1_answer yX1_answer ∈ Tb := inTb (List.mem_of_getElem? (i := 544) (by decide +kernel)) (by decide +kernel)
abbrev mX1_init : MI := (yX1_init, cX1_init, 1, none)
theorem okX1_init : Mok mX1_init 0 := ⟨inTb (List.mem_of_getElem? (i := 177) (by decide +kernel)) (by decide +kernel), inTb (List.mem_of_getElem? (i := 52) (by decide +kernel)) (by decide +kernel), ⟨by decide +kernel, by decide +kernel, by decide +kernel⟩, by decide⟩
theorem insX1_init : Cond.instanceMethod yX1_init ∈ Tb := inTb (List.mem_of_getElem? (i := 176) (by decide +kernel)) (by decide +kernel)
abbrev mX1_offer : MI := (yX1_offer, cX1_offer, 4, none)
theorem okX1_offer : Mok mX1_offer 2 := ⟨inTb (List.mem_of_getElem? (i := 540) (by decide +kernel)) (by decide +kernel), inTb (List.mem_of_getElem? (i := 52) (by decide +kernel)) (by decide +kernel), ⟨by decide +kernel, by decide +kernel, by decide +kernel⟩, by decide⟩
theorem insX1_offer : Cond.instanceMethod yX1_offer ∈ Tb := inTb (List.mem_of_getElem? (i := 538) (by decide +kernel)) (by decide +kernel)
theorem selX1_offer : Cond.selects RX1 yX1_offer yX1_offer ∈ Tb := inTb (List.mem_of_getElem? (i := 539) (by decide +kernel)) (by decide +kernel)
abbrev mX1_restart : MI := (yX1_restart, cX1_restart, 2, none)
theorem okX1_restart : Mok mX1_restart 1 := ⟨inTb (List.mem_of_getElem? (i := 531) (by decide +kernel)) (by decide +kernel), inTb (List.mem_of_getElem? (i := 52) (by decide +kernel)) (by decide +kernel), ⟨by decide +kernel, by decide +kernel, by decide +kernel⟩, by decide⟩
theorem insX1_restart : Cond.instanceMethod yX1_restart ∈ Tb := inTb (List.mem_of_getElem? (i := 529) (by decide +kernel)) (by decide +kernel)
theorem selX1_restart : Cond.selects RX1 yX1_restart yX1_restart ∈ Tb := inTb (List.mem_of_getElem? (i := 530) (by decide +kernel)) (by decide +kernel)
abbrev mX2_init : MI := (yX2_init, cX2_init, 1, none)
theorem okX2_init : Mok mX2_init 0 := ⟨inTb (List.mem_of_getElem? (i := 114) (by decide +kernel)) (by decide +kernel), inTb (List.mem_of_getElem? (i := 50) (by decide +kernel)) (by decide +kernel), ⟨by decide +kernel, by decide +kernel, by decide +kernel⟩, by decide⟩
theorem insX2_init : Cond.instanceMethod yX2_init ∈ Tb := inTb (List.mem_of_getElem? (i := 113) (by decide +kernel)) (by decide +kernel)
abbrev mX2_isName : MI := (yX2_isName, cX2_isName, 3, some .boolean)
theorem okX2_isName : Mok mX2_isName 1 := ⟨inTb (List.mem_of_getElem? (i := 289) (by decide +kernel)) (by decide +kernel), inTb (List.mem_of_getElem? (i := 50) (by decide +kernel)) (by decide +kernel), ⟨by decide +kernel, by decide +kernel, by decide +kernel⟩, by decide⟩
theorem insX2_isName : Cond.instanceMethod yX2_isName ∈ Tb := inTb (List.mem_of_getElem? (i := 288) (by decide +kernel)) (by decide +kernel)
theorem selX2_isName : Cond.selects RX2 yX2_isName yX2_isName ∈ Tb := inTb (List.mem_of_getElem? (i := 5) (by decide +kernel)) (by decide +kernel)
abbrev mX2_lineNamed : MI := (yX2_lineNamed, cX2_lineNamed, 1, some .int)
theorem okX2_lineNamed : Mok mX2_lineNamed 0 := ⟨inTb (List.mem_of_getElem? (i := 284) (by decide +kernel)) (by decide +kernel), inTb (List.mem_of_getElem? (i := 50) (by decide +kernel)) (by decide +kernel), ⟨by decide +kernel, by decide +kernel, by decide +kernel⟩, by decide⟩
theorem insX2_lineNamed : Cond.instanceMethod yX2_lineNamed ∈ Tb := inTb (List.mem_of_getElem? (i := 283) (by decide +kernel)) (by decide +kernel)
theorem selX2_lineNamed : Cond.selects RX2 yX2_lineNamed yX2_lineNamed ∈ Tb := inTb (List.mem_of_getElem? (i := 4) (by decide +kernel)) (by decide +kernel)
abbrev mX2_nextToken : MI := (yX2_nextToken, cX2_nextToken, 1, none)
theorem okX2_nextToken : Mok mX2_nextToken 0 := ⟨inTb (List.mem_of_getElem? (i := 267) (by decide +kernel)) (by decide +kernel), inTb (List.mem_of_getElem? (i := 50) (by decide +kernel)) (by decide +kernel), ⟨by decide +kernel, by decide +kernel, by decide +kernel⟩, by decide⟩
theorem insX2_nextToken : Cond.instanceMethod yX2_nextToken ∈ Tb := inTb (List.mem_of_getElem? (i := 266) (by decide +kernel)) (by decide +kernel)
theorem selX2_nextToken : Cond.selects RX2 yX2_nextToken yX2_nextToken ∈ Tb := inTb (List.mem_of_getElem? (i := 0) (by decide +kernel)) (by decide +kernel)
abbrev mX2_numberRead : MI := (yX2_numberRead, cX2_numberRead, 3, some .int)
theorem okX2_numberRead : Mok mX2_numberRead 0 := ⟨inTb (List.mem_of_getElem? (i := 353) (by decide +kernel)) (by decide +kernel), inTb (List.mem_of_getElem? (i := 50) (by decide +kernel)) (by decide +kernel), ⟨by decide +kernel, by decide +kernel, by decide +kernel⟩, by decide⟩
theorem insX2_numberRead : Cond.instanceMethod yX2_numberRead ∈ Tb := inTb (List.mem_of_getElem? (i := 352) (by decide +kernel)) (by decide +kernel)
theorem selX2_numberRead : Cond.selects RX2 yX2_numberRead yX2_numberRead ∈ Tb := inTb (List.mem_of_getElem? (i := 8) (by decide +kernel)) (by decide +kernel)
abbrev mX2_passBytes : MI := (yX2_passBytes, cX2_passBytes, 3, none)
theorem okX2_passBytes : Mok mX2_passBytes 2 := ⟨inTb (List.mem_of_getElem? (i := 272) (by decide +kernel)) (by decide +kernel), inTb (List.mem_of_getElem? (i := 50) (by decide +kernel)) (by decide +kernel), ⟨by decide +kernel, by decide +kernel, by decide +kernel⟩, by decide⟩
theorem insX2_passBytes : Cond.instanceMethod yX2_passBytes ∈ Tb := inTb (List.mem_of_getElem? (i := 271) (by decide +kernel)) (by decide +kernel)
theorem selX2_passBytes : Cond.selects RX2 yX2_passBytes yX2_passBytes ∈ Tb := inTb (List.mem_of_getElem? (i := 1) (by decide +kernel)) (by decide +kernel)
abbrev mX2_readClock : MI := (yX2_readClock, cX2_readClock, 5, none)
theorem okX2_readClock : Mok mX2_readClock 2 := ⟨inTb (List.mem_of_getElem? (i := 361) (by decide +kernel)) (by decide +kernel), inTb (List.mem_of_getElem? (i := 50) (by decide +kernel)) (by decide +kernel), ⟨by decide +kernel, by decide +kernel, by decide +kernel⟩, by decide⟩
theorem insX2_readClock : Cond.instanceMethod yX2_readClock ∈ Tb := inTb (List.mem_of_getElem? (i := 360) (by decide +kernel)) (by decide +kernel)
theorem selX2_readClock : Cond.selects RX2 yX2_readClock yX2_readClock ∈ Tb := inTb (List.mem_of_getElem? (i := 10) (by decide +kernel)) (by decide +kernel)
abbrev mX2_readLine : MI := (yX2_readLine, cX2_readLine, 3, none)
theorem okX2_readLine : Mok mX2_readLine 1 := ⟨inTb (List.mem_of_getElem? (i := 280) (by decide +kernel)) (by decide +kernel), inTb (List.mem_of_getElem? (i := 50) (by decide +kernel)) (by decide +kernel), ⟨by decide +kernel, by decide +kernel, by decide +kernel⟩, by decide⟩
theorem insX2_readLine : Cond.instanceMethod yX2_readLine ∈ Tb := inTb (List.mem_of_getElem? (i := 279) (by decide +kernel)) (by decide +kernel)
theorem selX2_readLine : Cond.selects RX2 yX2_readLine yX2_readLine ∈ Tb := inTb (List.mem_of_getElem? (i := 3) (by decide +kernel)) (by decide +kernel)
abbrev mX2_readNumber : MI := (yX2_readNumber, cX2_readNumber, 4, some .int)
theorem okX2_readNumber : Mok mX2_readNumber 2 := ⟨inTb (List.mem_of_getElem? (i := 349) (by decide +kernel)) (by decide +kernel), inTb (List.mem_of_getElem? (i := 50) (by decide +kernel)) (by decide +kernel), ⟨by decide +kernel, by decide +kernel, by decide +kernel⟩, by decide⟩
theorem insX2_readNumber : Cond.instanceMethod yX2_readNumber ∈ Tb := inTb (List.mem_of_getElem? (i := 348) (by decide +kernel)) (by decide +kernel)
theorem selX2_readNumber : Cond.selects RX2 yX2_readNumber yX2_readNumber ∈ Tb := inTb (List.mem_of_getElem? (i := 7) (by decide +kernel)) (by decide +kernel)
abbrev mX2_readPush : MI := (yX2_readPush, cX2_readPush, 2, none)
theorem okX2_readPush : Mok mX2_readPush 1 := ⟨inTb (List.mem_of_getElem? (i := 345) (by decide +kernel)) (by decide +kernel), inTb (List.mem_of_getElem? (i := 50) (by decide +kernel)) (by decide +kernel), ⟨by decide +kernel, by decide +kernel, by decide +kernel⟩, by decide⟩
theorem insX2_readPush : Cond.instanceMethod yX2_readPush ∈ Tb := inTb (List.mem_of_getElem? (i := 344) (by decide +kernel)) (by decide +kernel)
theorem selX2_readPush : Cond.selects RX2 yX2_readPush yX2_readPush ∈ Tb := inTb (List.mem_of_getElem? (i := 6) (by decide +kernel)) (by decide +kernel)
abbrev mX2_readSemicolon : MI := (yX2_readSemicolon, cX2_readSemicolon, 1, none)
theorem okX2_readSemicolon : Mok mX2_readSemicolon 0 := ⟨inTb (List.mem_of_getElem? (i := 357) (by decide +kernel)) (by decide +kernel), inTb (List.mem_of_getElem? (i := 50) (by decide +kernel)) (by decide +kernel), ⟨by decide +kernel, by decide +kernel, by decide +kernel⟩, by decide⟩
theorem insX2_readSemicolon : Cond.instanceMethod yX2_readSemicolon ∈ Tb := inTb (List.mem_of_getElem? (i := 356) (by decide +kernel)) (by decide +kernel)
theorem selX2_readSemicolon : Cond.selects RX2 yX2_readSemicolon yX2_readSemicolon ∈ Tb := inTb (List.mem_of_getElem? (i := 9) (by decide +kernel)) (by decide +kernel)
abbrev mX2_readText : MI := (yX2_readText, cX2_readText, 3, none)
theorem okX2_readText : Mok mX2_readText 1 := ⟨inTb (List.mem_of_getElem? (i := 263) (by decide +kernel)) (by decide +kernel), inTb (List.mem_of_getElem? (i := 50) (by decide +kernel)) (by decide +kernel), ⟨by decide +kernel, by decide +kernel, by decide +kernel⟩, by decide⟩
theorem insX2_readText : Cond.instanceMethod yX2_readText ∈ Tb := inTb (List.mem_of_getElem? (i := 261) (by decide +kernel)) (by decide +kernel)
theorem selX2_readText : Cond.selects RX2 yX2_readText yX2_readText ∈ Tb := inTb (List.mem_of_getElem? (i := 262) (by decide +kernel)) (by decide +kernel)
abbrev mX2_refuse : MI := (yX2_refuse, cX2_refuse, 2, none)
theorem okX2_refuse : Mok mX2_refuse 1 := ⟨inTb (List.mem_of_getElem? (i := 276) (by decide +kernel)) (by decide +kernel), inTb (List.mem_of_getElem? (i := 50) (by decide +kernel)) (by decide +kernel), ⟨by decide +kernel, by decide +kernel, by decide +kernel⟩, by decide⟩
theorem insX2_refuse : Cond.instanceMethod yX2_refuse ∈ Tb := inTb (List.mem_of_getElem? (i := 275) (by decide +kernel)) (by decide +kernel)
theorem selX2_refuse : Cond.selects RX2 yX2_refuse yX2_refuse ∈ Tb := inTb (List.mem_of_getElem? (i := 2) (by decide +kernel)) (by decide +kernel)
abbrev mX3_add : MI := (yX3_add, cX3_add, 4, none)
theorem okX3_add : Mok mX3_add 3 := ⟨inTb (List.mem_of_getElem? (i := 604) (by decide +kernel)) (by decide +kernel), inTb (List.mem_of_getElem? (i := 51) (by decide +kernel)) (by decide +kernel), ⟨by decide +kernel, by decide +kernel, by decide +kernel⟩, by decide⟩
theorem insX3_add : Cond.instanceMethod yX3_add ∈ Tb := inTb (List.mem_of_getElem? (i := 602) (by decide +kernel)) (by decide +kernel)
theorem selX3_add : Cond.selects RX3 yX3_add yX3_add ∈ Tb := inTb (List.mem_of_getElem? (i := 603) (by decide +kernel)) (by decide +kernel)
abbrev mX3_fits : MI := (yX3_fits, cX3_fits, 4, some .boolean)
theorem okX3_fits : Mok mX3_fits 1 := ⟨inTb (List.mem_of_getElem? (i := 616) (by decide +kernel)) (by decide +kernel), inTb (List.mem_of_getElem? (i := 51) (by decide +kernel)) (by decide +kernel), ⟨by decide +kernel, by decide +kernel, by decide +kernel⟩, by decide⟩
theorem insX3_fits : Cond.instanceMethod yX3_fits ∈ Tb := inTb (List.mem_of_getElem? (i := 614) (by decide +kernel)) (by decide +kernel)
theorem selX3_fits : Cond.selects RX3 yX3_fits yX3_fits ∈ Tb := inTb (List.mem_of_getElem? (i := 615) (by decide +kernel)) (by decide +kernel)
abbrev mX3_fitsIn : MI := (yX3_fitsIn, cX3_fitsIn, 4, some .boolean)
theorem okX3_fitsIn : Mok mX3_fitsIn 2 := ⟨inTb (List.mem_of_getElem? (i := 626) (by decide +kernel)) (by decide +kernel), inTb (List.mem_of_getElem? (i := 51) (by decide +kernel)) (by decide +kernel), ⟨by decide +kernel, by decide +kernel, by decide +kernel⟩, by decide⟩
theorem insX3_fitsIn : Cond.instanceMethod yX3_fitsIn ∈ Tb := inTb (List.mem_of_getElem? (i := 625) (by decide +kernel)) (by decide +kernel)
theorem selX3_fitsIn : Cond.selects RX3 yX3_fitsIn yX3_fitsIn ∈ Tb := inTb (List.mem_of_getElem? (i := 20) (by decide +kernel)) (by decide +kernel)
abbrev mX3_init : MI := (yX3_init, cX3_init, 1, none)
theorem okX3_init : Mok mX3_init 0 := ⟨inTb (List.mem_of_getElem? (i := 155) (by decide +kernel)) (by decide +kernel), inTb (List.mem_of_getElem? (i := 51) (by decide +kernel)) (by decide +kernel), ⟨by decide +kernel, by decide +kernel, by decide +kernel⟩, by decide⟩
theorem insX3_init : Cond.instanceMethod yX3_init ∈ Tb := inTb (List.mem_of_getElem? (i := 154) (by decide +kernel)) (by decide +kernel)
abbrev mX3_lastTick : MI := (yX3_lastTick, cX3_lastTick, 3, some .int)
theorem okX3_lastTick : Mok mX3_lastTick 0 := ⟨inTb (List.mem_of_getElem? (i := 620) (by decide +kernel)) (by decide +kernel), inTb (List.mem_of_getElem? (i := 51) (by decide +kernel)) (by decide +kernel), ⟨by decide +kernel, by decide +kernel, by decide +kernel⟩, by decide⟩
theorem insX3_lastTick : Cond.instanceMethod yX3_lastTick ∈ Tb := inTb (List.mem_of_getElem? (i := 619) (by decide +kernel)) (by decide +kernel)
theorem selX3_lastTick : Cond.selects RX3 yX3_lastTick yX3_lastTick ∈ Tb := inTb (List.mem_of_getElem? (i := 19) (by decide +kernel)) (by decide +kernel)
abbrev mX4_begin : MI := (yX4_begin, cX4_begin, 3, none)
theorem okX4_begin : Mok mX4_begin 2 := ⟨inTb (List.mem_of_getElem? (i := 673) (by decide +kernel)) (by decide +kernel), inTb (List.mem_of_getElem? (i := 53) (by decide +kernel)) (by decide +kernel), ⟨by decide +kernel, by decide +kernel, by decide +kernel⟩, by decide⟩
theorem insX4_begin : Cond.instanceMethod yX4_begin ∈ Tb := inTb (List.mem_of_getElem? (i := 671) (by decide +kernel)) (by decide +kernel)
theorem selX4_begin : Cond.selects RX4 yX4_begin yX4_begin ∈ Tb := inTb (List.mem_of_getElem? (i := 672) (by decide +kernel)) (by decide +kernel)
abbrev mX4_faultAt : MI := (yX4_faultAt, cX4_faultAt, 2, some .int)
theorem okX4_faultAt : Mok mX4_faultAt 1 := ⟨inTb (List.mem_of_getElem? (i := 682) (by decide +kernel)) (by decide +kernel), inTb (List.mem_of_getElem? (i := 53) (by decide +kernel)) (by decide +kernel), ⟨by decide +kernel, by decide +kernel, by decide +kernel⟩, by decide⟩
theorem insX4_faultAt : Cond.instanceMethod yX4_faultAt ∈ Tb := inTb (List.mem_of_getElem? (i := 680) (by decide +kernel)) (by decide +kernel)
theorem selX4_faultAt : Cond.selects RX4 yX4_faultAt yX4_faultAt ∈ Tb := inTb (List.mem_of_getElem? (i := 681) (by decide +kernel)) (by decide +kernel)
abbrev mX4_faultOfPair : MI := (yX4_faultOfPair, cX4_faultOfPair, 4, some .int)
theorem okX4_faultOfPair : Mok mX4_faultOfPair 2 := ⟨inTb (List.mem_of_getElem? (i := 694) (by decide +kernel)) (by decide +kernel), inTb (List.mem_of_getElem? (i := 53) (by decide +kernel)) (by decide +kernel), ⟨by decide +kernel, by decide +kernel, by decide +kernel⟩, by decide⟩
theorem insX4_faultOfPair : Cond.instanceMethod yX4_faultOfPair ∈ Tb := inTb (List.mem_of_getElem? (i := 692) (by decide +kernel)) (by decide +kernel)
theorem selX4_faultOfPair : Cond.selects RX4 yX4_faultOfPair yX4_faultOfPair ∈ Tb := inTb (List.mem_of_getElem? (i := 693) (by decide +kernel)) (by decide +kernel)
abbrev mX4_init : MI := (yX4_init, cX4_init, 1, none)
theorem okX4_init : Mok mX4_init 0 := ⟨inTb (List.mem_of_getElem? (i := 192) (by decide +kernel)) (by decide +kernel), inTb (List.mem_of_getElem? (i := 53) (by decide +kernel)) (by decide +kernel), ⟨by decide +kernel, by decide +kernel, by decide +kernel⟩, by decide⟩
theorem insX4_init : Cond.instanceMethod yX4_init ∈ Tb := inTb (List.mem_of_getElem? (i := 191) (by decide +kernel)) (by decide +kernel)
abbrev mX4_put : MI := (yX4_put, cX4_put, 3, none)
theorem okX4_put : Mok mX4_put 2 := ⟨inTb (List.mem_of_getElem? (i := 686) (by decide +kernel)) (by decide +kernel), inTb (List.mem_of_getElem? (i := 53) (by decide +kernel)) (by decide +kernel), ⟨by decide +kernel, by decide +kernel, by decide +kernel⟩, by decide⟩
theorem insX4_put : Cond.instanceMethod yX4_put ∈ Tb := inTb (List.mem_of_getElem? (i := 684) (by decide +kernel)) (by decide +kernel)
theorem selX4_put : Cond.selects RX4 yX4_put yX4_put ∈ Tb := inTb (List.mem_of_getElem? (i := 685) (by decide +kernel)) (by decide +kernel)
abbrev mX5_again : MI := (yX5_again, cX5_again, 2, some .int)
theorem okX5_again : Mok mX5_again 0 := ⟨inTb (List.mem_of_getElem? (i := 519) (by decide +kernel)) (by decide +kernel), inTb (List.mem_of_getElem? (i := 48) (by decide +kernel)) (by decide +kernel), ⟨by decide +kernel, by decide +kernel, by decide +kernel⟩, by decide⟩
theorem insX5_again : Cond.instanceMethod yX5_again ∈ Tb := inTb (List.mem_of_getElem? (i := 517) (by decide +kernel)) (by decide +kernel)
theorem selX5_again : Cond.selects RX5 yX5_again yX5_again ∈ Tb := inTb (List.mem_of_getElem? (i := 518) (by decide +kernel)) (by decide +kernel)
abbrev mX5_ahead : MI := (yX5_ahead, cX5_ahead, 4, some .int)
theorem okX5_ahead : Mok mX5_ahead 3 := ⟨inTb (List.mem_of_getElem? (i := 502) (by decide +kernel)) (by decide +kernel), inTb (List.mem_of_getElem? (i := 48) (by decide +kernel)) (by decide +kernel), ⟨by decide +kernel, by decide +kernel, by decide +kernel⟩, by decide⟩
theorem insX5_ahead : Cond.instanceMethod yX5_ahead ∈ Tb := inTb (List.mem_of_getElem? (i := 500) (by decide +kernel)) (by decide +kernel)
theorem selX5_ahead : Cond.selects RX5 yX5_ahead yX5_ahead ∈ Tb := inTb (List.mem_of_getElem? (i := 501) (by decide +kernel)) (by decide +kernel)
abbrev mX5_alter : MI := (yX5_alter, cX5_alter, 4, some .int)
theorem okX5_alter : Mok mX5_alter 3 := ⟨inTb (List.mem_of_getElem? (i := 440) (by decide +kernel)) (by decide +kernel), inTb (List.mem_of_getElem? (i := 48) (by decide +kernel)) (by decide +kernel), ⟨by decide +kernel, by decide +kernel, by decide +kernel⟩, by decide⟩
theorem insX5_alter : Cond.instanceMethod yX5_alter ∈ Tb := inTb (List.mem_of_getElem? (i := 438) (by decide +kernel)) (by decide +kernel)
theorem selX5_alter : Cond.selects RX5 yX5_alter yX5_alter ∈ Tb := inTb (List.mem_of_getElem? (i := 439) (by decide +kernel)) (by decide +kernel)
abbrev mX5_ask : MI := (yX5_ask, cX5_ask, 9, some .int)
theorem okX5_ask : Mok mX5_ask 2 := ⟨inTb (List.mem_of_getElem? (i := 642) (by decide +kernel)) (by decide +kernel), inTb (List.mem_of_getElem? (i := 48) (by decide +kernel)) (by decide +kernel), ⟨by decide +kernel, by decide +kernel, by decide +kernel⟩, by decide⟩
theorem insX5_ask : Cond.instanceMethod yX5_ask ∈ Tb := inTb (List.mem_of_getElem? (i := 640) (by decide +kernel)) (by decide +kernel)
theorem selX5_ask : Cond.selects RX5 yX5_ask yX5_ask ∈ Tb := inTb (List.mem_of_getElem? (i := 641) (by decide +kernel)) (by decide +kernel)
abbrev mX5_away : MI := (yX5_away, cX5_away, 4, some .int)
theorem okX5_away : Mok mX5_away 1 := ⟨inTb (List.mem_of_getElem? (i := 569) (by decide +kernel)) (by decide +kernel), inTb (List.mem_of_getElem? (i := 48) (by decide +kernel)) (by decide +kernel), ⟨by decide +kernel, by decide +kernel, by decide +kernel⟩, by decide⟩
theorem insX5_away : Cond.instanceMethod yX5_away ∈ Tb := inTb (List.mem_of_getElem? (i := 567) (by decide +kernel)) (by decide +kernel)
theorem selX5_away : Cond.selects RX5 yX5_away yX5_away ∈ Tb := inTb (List.mem_of_getElem? (i := 568) (by decide +kernel)) (by decide +kernel)
abbrev mX5_back : MI := (yX5_back, cX5_back, 2, some .int)
theorem okX5_back : Mok mX5_back 1 := ⟨inTb (List.mem_of_getElem? (i := 662) (by decide +kernel)) (by decide +kernel), inTb (List.mem_of_getElem? (i := 48) (by decide +kernel)) (by decide +kernel), ⟨by decide +kernel, by decide +kernel, by decide +kernel⟩, by decide⟩
theorem insX5_back : Cond.instanceMethod yX5_back ∈ Tb := inTb (List.mem_of_getElem? (i := 660) (by decide +kernel)) (by decide +kernel)
theorem selX5_back : Cond.selects RX5 yX5_back yX5_back ∈ Tb := inTb (List.mem_of_getElem? (i := 661) (by decide +kernel)) (by decide +kernel)
abbrev mX5_beats : MI := (yX5_beats, cX5_beats, 2, some .int)
theorem okX5_beats : Mok mX5_beats 1 := ⟨inTb (List.mem_of_getElem? (i := 506) (by decide +kernel)) (by decide +kernel), inTb (List.mem_of_getElem? (i := 48) (by decide +kernel)) (by decide +kernel), ⟨by decide +kernel, by decide +kernel, by decide +kernel⟩, by decide⟩
theorem insX5_beats : Cond.instanceMethod yX5_beats ∈ Tb := inTb (List.mem_of_getElem? (i := 504) (by decide +kernel)) (by decide +kernel)
theorem selX5_beats : Cond.selects RX5 yX5_beats yX5_beats ∈ Tb := inTb (List.mem_of_getElem? (i := 505) (by decide +kernel)) (by decide +kernel)
abbrev mX5_clock : MI := (yX5_clock, cX5_clock, 3, some .int)
theorem okX5_clock : Mok mX5_clock 2 := ⟨inTb (List.mem_of_getElem? (i := 431) (by decide +kernel)) (by decide +kernel), inTb (List.mem_of_getElem? (i := 48) (by decide +kernel)) (by decide +kernel), ⟨by decide +kernel, by decide +kernel, by decide +kernel⟩, by decide⟩
theorem insX5_clock : Cond.instanceMethod yX5_clock ∈ Tb := inTb (List.mem_of_getElem? (i := 429) (by decide +kernel)) (by decide +kernel)
theorem selX5_clock : Cond.selects RX5 yX5_clock yX5_clock ∈ Tb := inTb (List.mem_of_getElem? (i := 430) (by decide +kernel)) (by decide +kernel)
abbrev mX5_commonDivisor : MI := (yX5_commonDivisor, cX5_commonDivisor, 11, some .long)
theorem okX5_commonDivisor : Mok mX5_commonDivisor 2 := ⟨inTb (List.mem_of_getElem? (i := 592) (by decide +kernel)) (by decide +kernel), inTb (List.mem_of_getElem? (i := 48) (by decide +kernel)) (by decide +kernel), ⟨by decide +kernel, by decide +kernel, by decide +kernel⟩, by decide⟩
theorem staX5_commonDivisor : Cond.static yX5_commonDivisor ∈ Tb := inTb (List.mem_of_getElem? (i := 591) (by decide +kernel)) (by decide +kernel)
abbrev mX5_count : MI := (yX5_count, cX5_count, 2, some .int)
theorem okX5_count : Mok mX5_count 1 := ⟨inTb (List.mem_of_getElem? (i := 708) (by decide +kernel)) (by decide +kernel), inTb (List.mem_of_getElem? (i := 48) (by decide +kernel)) (by decide +kernel), ⟨by decide +kernel, by decide +kernel, by decide +kernel⟩, by decide⟩
theorem insX5_count : Cond.instanceMethod yX5_count ∈ Tb := inTb (List.mem_of_getElem? (i := 706) (by decide +kernel)) (by decide +kernel)
theorem selX5_count : Cond.selects RX5 yX5_count yX5_count ∈ Tb := inTb (List.mem_of_getElem? (i := 707) (by decide +kernel)) (by decide +kernel)
abbrev mX5_cut : MI := (yX5_cut, cX5_cut, 3, some .int)
theorem okX5_cut : Mok mX5_cut 1 := ⟨inTb (List.mem_of_getElem? (i := 466) (by decide +kernel)) (by decide +kernel), inTb (List.mem_of_getElem? (i := 48) (by decide +kernel)) (by decide +kernel), ⟨by decide +kernel, by decide +kernel, by decide +kernel⟩, by decide⟩
theorem insX5_cut : Cond.instanceMethod yX5_cut ∈ Tb := inTb (List.mem_of_getElem? (i := 464) (by decide +kernel)) (by decide +kernel)
theorem selX5_cut : Cond.selects RX5 yX5_cut yX5_cut ∈ Tb := inTb (List.mem_of_getElem? (i := 465) (by decide +kernel)) (by decide +kernel)
abbrev mX5_drift : MI := (yX5_drift, cX5_drift, 8, some .int)
theorem okX5_drift : Mok mX5_drift 3 := ⟨inTb (List.mem_of_getElem? (i := 653) (by decide +kernel)) (by decide +kernel), inTb (List.mem_of_getElem? (i := 48) (by decide +kernel)) (by decide +kernel), ⟨by decide +kernel, by decide +kernel, by decide +kernel⟩, by decide⟩
theorem insX5_drift : Cond.instanceMethod yX5_drift ∈ Tb := inTb (List.mem_of_getElem? (i := 651) (by decide +kernel)) (by decide +kernel)
theorem selX5_drift : Cond.selects RX5 yX5_drift yX5_drift ∈ Tb := inTb (List.mem_of_getElem? (i := 652) (by decide +kernel)) (by decide +kernel)
abbrev mX5_end : MI := (yX5_end, cX5_end, 3, some .int)
theorem okX5_end : Mok mX5_end 1 := ⟨inTb (List.mem_of_getElem? (i := 251) (by decide +kernel)) (by decide +kernel), inTb (List.mem_of_getElem? (i := 48) (by decide +kernel)) (by decide +kernel), ⟨by decide +kernel, by decide +kernel, by decide +kernel⟩, by decide⟩
theorem insX5_end : Cond.instanceMethod yX5_end ∈ Tb := inTb (List.mem_of_getElem? (i := 249) (by decide +kernel)) (by decide +kernel)
theorem selX5_end : Cond.selects RX5 yX5_end yX5_end ∈ Tb := inTb (List.mem_of_getElem? (i := 250) (by decide +kernel)) (by decide +kernel)
abbrev mX5_fault : MI := (yX5_fault, cX5_fault, 1, some .int)
theorem okX5_fault : Mok mX5_fault 0 := ⟨inTb (List.mem_of_getElem? (i := 376) (by decide +kernel)) (by decide +kernel), inTb (List.mem_of_getElem? (i := 48) (by decide +kernel)) (by decide +kernel), ⟨by decide +kernel, by decide +kernel, by decide +kernel⟩, by decide⟩
theorem insX5_fault : Cond.instanceMethod yX5_fault ∈ Tb := inTb (List.mem_of_getElem? (i := 374) (by decide +kernel)) (by decide +kernel)
theorem selX5_fault : Cond.selects RX5 yX5_fault yX5_fault ∈ Tb := inTb (List.mem_of_getElem? (i := 375) (by decide +kernel)) (by decide +kernel)
abbrev mX5_feed : MI := (yX5_feed, cX5_feed, 2, some .int)
theorem okX5_feed : Mok mX5_feed 1 := ⟨inTb (List.mem_of_getElem? (i := 244) (by decide +kernel)) (by decide +kernel), inTb (List.mem_of_getElem? (i := 48) (by decide +kernel)) (by decide +kernel), ⟨by decide +kernel, by decide +kernel, by decide +kernel⟩, by decide⟩
theorem insX5_feed : Cond.instanceMethod yX5_feed ∈ Tb := inTb (List.mem_of_getElem? (i := 242) (by decide +kernel)) (by decide +kernel)
theorem selX5_feed : Cond.selects RX5 yX5_feed yX5_feed ∈ Tb := inTb (List.mem_of_getElem? (i := 243) (by decide +kernel)) (by decide +kernel)
abbrev mX5_force : MI := (yX5_force, cX5_force, 3, some .int)
theorem okX5_force : Mok mX5_force 1 := ⟨inTb (List.mem_of_getElem? (i := 565) (by decide +kernel)) (by decide +kernel), inTb (List.mem_of_getElem? (i := 48) (by decide +kernel)) (by decide +kernel), ⟨by decide +kernel, by decide +kernel, by decide +kernel⟩, by decide⟩
theorem insX5_force : Cond.instanceMethod yX5_force ∈ Tb := inTb (List.mem_of_getElem? (i := 563) (by decide +kernel)) (by decide +kernel)
theorem selX5_force : Cond.selects RX5 yX5_force yX5_force ∈ Tb := inTb (List.mem_of_getElem? (i := 564) (by decide +kernel)) (by decide +kernel)
abbrev mX5_forget : MI := (yX5_forget, cX5_forget, 3, some .int)
theorem okX5_forget : Mok mX5_forget 1 := ⟨inTb (List.mem_of_getElem? (i := 608) (by decide +kernel)) (by decide +kernel), inTb (List.mem_of_getElem? (i := 48) (by decide +kernel)) (by decide +kernel), ⟨by decide +kernel, by decide +kernel, by decide +kernel⟩, by decide⟩
theorem insX5_forget : Cond.instanceMethod yX5_forget ∈ Tb := inTb (List.mem_of_getElem? (i := 606) (by decide +kernel)) (by decide +kernel)
theorem selX5_forget : Cond.selects RX5 yX5_forget yX5_forget ∈ Tb := inTb (List.mem_of_getElem? (i := 607) (by decide +kernel)) (by decide +kernel)
abbrev mX5_fraction : MI := (yX5_fraction, cX5_fraction, 7, some .long)
theorem okX5_fraction : Mok mX5_fraction 3 := ⟨inTb (List.mem_of_getElem? (i := 589) (by decide +kernel)) (by decide +kernel), inTb (List.mem_of_getElem? (i := 48) (by decide +kernel)) (by decide +kernel), ⟨by decide +kernel, by decide +kernel, by decide +kernel⟩, by decide⟩
theorem staX5_fraction : Cond.static yX5_fraction ∈ Tb := inTb (List.mem_of_getElem? (i := 588) (by decide +kernel)) (by decide +kernel)
abbrev mX5_hand : MI := (yX5_hand, cX5_hand, 4, some .int)
theorem okX5_hand : Mok mX5_hand 2 := ⟨inTb (List.mem_of_getElem? (i := 549) (by decide +kernel)) (by decide +kernel), inTb (List.mem_of_getElem? (i := 48) (by decide +kernel)) (by decide +kernel), ⟨by decide +kernel, by decide +kernel, by decide +kernel⟩, by decide⟩
theorem insX5_hand : Cond.instanceMethod yX5_hand ∈ Tb := inTb (List.mem_of_getElem? (i := 547) (by decide +kernel)) (by decide +kernel)
theorem selX5_hand : Cond.selects RX5 yX5_hand yX5_hand ∈ Tb := inTb (List.mem_of_getElem? (i := 548) (by decide +kernel)) (by decide +kernel)
abbrev mX5_hands : MI := (yX5_hands, cX5_hands, 2, some .int)
theorem okX5_hands : Mok mX5_hands 1 := ⟨inTb (List.mem_of_getElem? (i := 634) (by decide +kernel)) (by decide +kernel), inTb (List.mem_of_getElem? (i := 48) (by decide +kernel)) (by decide +kernel), ⟨by decide +kernel, by decide +kernel, by decide +kernel⟩, by decide⟩
theorem insX5_hands : Cond.instanceMethod yX5_hands ∈ Tb := inTb (List.mem_of_getElem? (i := 632) (by decide +kernel)) (by decide +kernel)
theorem selX5_hands : Cond.selects RX5 yX5_hands yX5_hands ∈ Tb := inTb (List.mem_of_getElem? (i := 633) (by decide +kernel)) (by decide +kernel)
abbrev mX5_handsAsSeen : MI := (yX5_handsAsSeen, cX5_handsAsSeen, 4, some .int)
theorem okX5_handsAsSeen : Mok mX5_handsAsSeen 1 := ⟨inTb (List.mem_of_getElem? (i := 638) (by decide +kernel)) (by decide +kernel), inTb (List.mem_of_getElem? (i := 48) (by decide +kernel)) (by decide +kernel), ⟨by decide +kernel, by decide +kernel, by decide +kernel⟩, by decide⟩
theorem insX5_handsAsSeen : Cond.instanceMethod yX5_handsAsSeen ∈ Tb := inTb (List.mem_of_getElem? (i := 637) (by decide +kernel)) (by decide +kernel)
theorem selX5_handsAsSeen : Cond.selects RX5 yX5_handsAsSeen yX5_handsAsSeen ∈ Tb := inTb (List.mem_of_getElem? (i := 21) (by decide +kernel)) (by decide +kernel)
abbrev mX5_hang : MI := (yX5_hang, cX5_hang, 3, some .int)
theorem okX5_hang : Mok mX5_hang 2 := ⟨inTb (List.mem_of_getElem? (i := 461) (by decide +kernel)) (by decide +kernel), inTb (List.mem_of_getElem? (i := 48) (by decide +kernel)) (by decide +kernel), ⟨by decide +kernel, by decide +kernel, by decide +kernel⟩, by decide⟩
theorem insX5_hang : Cond.instanceMethod yX5_hang ∈ Tb := inTb (List.mem_of_getElem? (i := 459) (by decide +kernel)) (by decide +kernel)
theorem selX5_hang : Cond.selects RX5 yX5_hang yX5_hang ∈ Tb := inTb (List.mem_of_getElem? (i := 460) (by decide +kernel)) (by decide +kernel)
abbrev mX5_imagesKept : MI := (yX5_imagesKept, cX5_imagesKept, 3, some .int)
theorem okX5_imagesKept : Mok mX5_imagesKept 0 := ⟨inTb (List.mem_of_getElem? (i := 712) (by decide +kernel)) (by decide +kernel), inTb (List.mem_of_getElem? (i := 48) (by decide +kernel)) (by decide +kernel), ⟨by decide +kernel, by decide +kernel, by decide +kernel⟩, by decide⟩
theorem insX5_imagesKept : Cond.instanceMethod yX5_imagesKept ∈ Tb := inTb (List.mem_of_getElem? (i := 711) (by decide +kernel)) (by decide +kernel)
theorem selX5_imagesKept : Cond.selects RX5 yX5_imagesKept yX5_imagesKept ∈ Tb := inTb (List.mem_of_getElem? (i := 23) (by decide +kernel)) (by decide +kernel)
abbrev mX5_init : MI := (yX5_init, cX5_init, 2, none)
theorem okX5_init : Mok mX5_init 0 := ⟨inTb (List.mem_of_getElem? (i := 67) (by decide +kernel)) (by decide +kernel), inTb (List.mem_of_getElem? (i := 48) (by decide +kernel)) (by decide +kernel), ⟨by decide +kernel, by decide +kernel, by decide +kernel⟩, by decide⟩
theorem insX5_init : Cond.instanceMethod yX5_init ∈ Tb := inTb (List.mem_of_getElem? (i := 66) (by decide +kernel)) (by decide +kernel)
abbrev mX5_isBitSet : MI := (yX5_isBitSet, cX5_isBitSet, 2, some .boolean)
theorem okX5_isBitSet : Mok mX5_isBitSet 2 := ⟨inTb (List.mem_of_getElem? (i := 409) (by decide +kernel)) (by decide +kernel), inTb (List.mem_of_getElem? (i := 48) (by decide +kernel)) (by decide +kernel), ⟨by decide +kernel, by decide +kernel, by decide +kernel⟩, by decide⟩
theorem staX5_isBitSet : Cond.static yX5_isBitSet ∈ Tb := inTb (List.mem_of_getElem? (i := 408) (by decide +kernel)) (by decide +kernel)
abbrev mX5_isClock : MI := (yX5_isClock, cX5_isClock, 2, some .boolean)
theorem okX5_isClock : Mok mX5_isClock 1 := ⟨inTb (List.mem_of_getElem? (i := 435) (by decide +kernel)) (by decide +kernel), inTb (List.mem_of_getElem? (i := 48) (by decide +kernel)) (by decide +kernel), ⟨by decide +kernel, by decide +kernel, by decide +kernel⟩, by decide⟩
theorem insX5_isClock : Cond.instanceMethod yX5_isClock ∈ Tb := inTb (List.mem_of_getElem? (i := 434) (by decide +kernel)) (by decide +kernel)
theorem selX5_isClock : Cond.selects RX5 yX5_isClock yX5_isClock ∈ Tb := inTb (List.mem_of_getElem? (i := 15) (by decide +kernel)) (by decide +kernel)
abbrev mX5_isSheet : MI := (yX5_isSheet, cX5_isSheet, 1, some .boolean)
theorem okX5_isSheet : Mok mX5_isSheet 1 := ⟨inTb (List.mem_of_getElem? (i := 669) (by decide +kernel)) (by decide +kernel), inTb (List.mem_of_getElem? (i := 48) (by decide +kernel)) (by decide +kernel), ⟨by decide +kernel, by decide +kernel, by decide +kernel⟩, by decide⟩
theorem staX5_isSheet : Cond.static yX5_isSheet ∈ Tb := inTb (List.mem_of_getElem? (i := 668) (by decide +kernel)) (by decide +kernel)
abbrev mX5_isWithin : MI := (yX5_isWithin, cX5_isWithin, 3, some .boolean)
theorem okX5_isWithin : Mok mX5_isWithin 3 := ⟨inTb (List.mem_of_getElem? (i := 247) (by decide +kernel)) (by decide +kernel), inTb (List.mem_of_getElem? (i := 48) (by decide +kernel)) (by decide +kernel), ⟨by decide +kernel, by decide +kernel, by decide +kernel⟩, by decide⟩
theorem staX5_isWithin : Cond.static yX5_isWithin ∈ Tb := inTb (List.mem_of_getElem? (i := 246) (by decide +kernel)) (by decide +kernel)
abbrev mX5_keep : MI := (yX5_keep, cX5_keep, 3, some .int)
theorem okX5_keep : Mok mX5_keep 1 := ⟨inTb (List.mem_of_getElem? (i := 658) (by decide +kernel)) (by decide +kernel), inTb (List.mem_of_getElem? (i := 48) (by decide +kernel)) (by decide +kernel), ⟨by decide +kernel, by decide +kernel, by decide +kernel⟩, by decide⟩
theorem insX5_keep : Cond.instanceMethod yX5_keep ∈ Tb := inTb (List.mem_of_getElem? (i := 656) (by decide +kernel)) (by decide +kernel)
theorem selX5_keep : Cond.selects RX5 yX5_keep yX5_keep ∈ Tb := inTb (List.mem_of_getElem? (i := 657) (by decide +kernel)) (by decide +kernel)
abbrev mX5_kind : MI := (yX5_kind, cX5_kind, 4, some .int)
theorem okX5_kind : Mok mX5_kind 2 := ⟨inTb (List.mem_of_getElem? (i := 557) (by decide +kernel)) (by decide +kernel), inTb (List.mem_of_getElem? (i := 48) (by decide +kernel)) (by decide +kernel), ⟨by decide +kernel, by decide +kernel, by decide +kernel⟩, by decide⟩
theorem insX5_kind : Cond.instanceMethod yX5_kind ∈ Tb := inTb (List.mem_of_getElem? (i := 555) (by decide +kernel)) (by decide +kernel)
theorem selX5_kind : Cond.selects RX5 yX5_kind yX5_kind ∈ Tb := inTb (List.mem_of_getElem? (i := 556) (by decide +kernel)) (by decide +kernel)
abbrev mX5_kinds : MI := (yX5_kinds, cX5_kinds, 4, some .int)
theorem okX5_kinds : Mok mX5_kinds 1 := ⟨inTb (List.mem_of_getElem? (i := 612) (by decide +kernel)) (by decide +kernel), inTb (List.mem_of_getElem? (i := 48) (by decide +kernel)) (by decide +kernel), ⟨by decide +kernel, by decide +kernel, by decide +kernel⟩, by decide⟩
theorem insX5_kinds : Cond.instanceMethod yX5_kinds ∈ Tb := inTb (List.mem_of_getElem? (i := 610) (by decide +kernel)) (by decide +kernel)
theorem selX5_kinds : Cond.selects RX5 yX5_kinds yX5_kinds ∈ Tb := inTb (List.mem_of_getElem? (i := 611) (by decide +kernel)) (by decide +kernel)
abbrev mX5_knock : MI := (yX5_knock, cX5_knock, 3, some .int)
theorem okX5_knock : Mok mX5_knock 2 := ⟨inTb (List.mem_of_getElem? (i := 470) (by decide +kernel)) (by decide +kernel), inTb (List.mem_of_getElem? (i := 48) (by decide +kernel)) (by decide +kernel), ⟨by decide +kernel, by decide +kernel, by decide +kernel⟩, by decide⟩
theorem insX5_knock : Cond.instanceMethod yX5_knock ∈ Tb := inTb (List.mem_of_getElem? (i := 468) (by decide +kernel)) (by decide +kernel)
theorem selX5_knock : Cond.selects RX5 yX5_knock yX5_knock ∈ Tb := inTb (List.mem_of_getElem? (i := 469) (by decide +kernel)) (by decide +kernel)
abbrev mX5_lay : MI := (yX5_lay, cX5_lay, 5, some .int)
theorem okX5_lay : Mok mX5_lay 3 := ⟨inTb (List.mem_of_getElem? (i := 678) (by decide +kernel)) (by decide +kernel), inTb (List.mem_of_getElem? (i := 48) (by decide +kernel)) (by decide +kernel), ⟨by decide +kernel, by decide +kernel, by decide +kernel⟩, by decide⟩
theorem insX5_lay : Cond.instanceMethod yX5_lay ∈ Tb := inTb (List.mem_of_getElem? (i := 676) (by decide +kernel)) (by decide +kernel)
theorem selX5_lay : Cond.selects RX5 yX5_lay yX5_lay ∈ Tb := inTb (List.mem_of_getElem? (i := 677) (by decide +kernel)) (by decide +kernel)
abbrev mX5_listenForAll : MI := (yX5_listenForAll, cX5_listenForAll, 5, none)
theorem okX5_listenForAll : Mok mX5_listenForAll 2 := ⟨inTb (List.mem_of_getElem? (i := 646) (by decide +kernel)) (by decide +kernel), inTb (List.mem_of_getElem? (i := 48) (by decide +kernel)) (by decide +kernel), ⟨by decide +kernel, by decide +kernel, by decide +kernel⟩, by decide⟩
theorem insX5_listenForAll : Cond.instanceMethod yX5_listenForAll ∈ Tb := inTb (List.mem_of_getElem? (i := 645) (by decide +kernel)) (by decide +kernel)
theorem selX5_listenForAll : Cond.selects RX5 yX5_listenForAll yX5_listenForAll ∈ Tb := inTb (List.mem_of_getElem? (i := 22) (by decide +kernel)) (by decide +kernel)
abbrev mX5_luck : MI := (yX5_luck, cX5_luck, 8, some .long)
theorem okX5_luck : Mok mX5_luck 4 := ⟨inTb (List.mem_of_getElem? (i := 577) (by decide +kernel)) (by decide +kernel), inTb (List.mem_of_getElem? (i := 48) (by decide +kernel)) (by decide +kernel), ⟨by decide +kernel, by decide +kernel, by decide +kernel⟩, by decide⟩
theorem insX5_luck : Cond.instanceMethod yX5_luck ∈ Tb := inTb (List.mem_of_getElem? (i := 575) (by decide +kernel)) (by decide +kernel)
theorem selX5_luck : Cond.selects RX5 yX5_luck yX5_luck ∈ Tb := inTb (List.mem_of_getElem? (i := 576) (by decide +kernel)) (by decide +kernel)
abbrev mX5_mean : MI := (yX5_mean, cX5_mean, 7, some .long)
theorem okX5_mean : Mok mX5_mean 3 := ⟨inTb (List.mem_of_getElem? (i := 596) (by decide +kernel)) (by decide +kernel), inTb (List.mem_of_getElem? (i := 48) (by decide +kernel)) (by decide +kernel), ⟨by decide +kernel, by decide +kernel, by decide +kernel⟩, by decide⟩
theorem insX5_mean : Cond.instanceMethod yX5_mean ∈ Tb := inTb (List.mem_of_getElem? (i := 594) (by decide +kernel)) (by decide +kernel)
theorem selX5_mean : Cond.selects RX5 yX5_mean yX5_mean ∈ Tb := inTb (List.mem_of_getElem? (i := 595) (by decide +kernel)) (by decide +kernel)
abbrev mX5_period : MI := (yX5_period, cX5_period, 4, some .int)
theorem okX5_period : Mok mX5_period 2 := ⟨inTb (List.mem_of_getElem? (i := 527) (by decide +kernel)) (by decide +kernel), inTb (List.mem_of_getElem? (i := 48) (by decide +kernel)) (by decide +kernel), ⟨by decide +kernel, by decide +kernel, by decide +kernel⟩, by decide⟩
theorem insX5_period : Cond.instanceMethod yX5_period ∈ Tb := inTb (List.mem_of_getElem? (i := 525) (by decide +kernel)) (by decide +kernel)
theorem selX5_period : Cond.selects RX5 yX5_period yX5_period ∈ Tb := inTb (List.mem_of_getElem? (i := 526) (by decide +kernel)) (by decide +kernel)
abbrev mX5_periods : MI := (yX5_periods, cX5_periods, 4, some .int)
theorem okX5_periods : Mok mX5_periods 1 := ⟨inTb (List.mem_of_getElem? (i := 630) (by decide +kernel)) (by decide +kernel), inTb (List.mem_of_getElem? (i := 48) (by decide +kernel)) (by decide +kernel), ⟨by decide +kernel, by decide +kernel, by decide +kernel⟩, by decide⟩
theorem insX5_periods : Cond.instanceMethod yX5_periods ∈ Tb := inTb (List.mem_of_getElem? (i := 628) (by decide +kernel)) (by decide +kernel)
theorem selX5_periods : Cond.selects RX5 yX5_periods yX5_periods ∈ Tb := inTb (List.mem_of_getElem? (i := 629) (by decide +kernel)) (by decide +kernel)
abbrev mX5_powerOf : MI := (yX5_powerOf, cX5_powerOf, 5, some .long)
theorem okX5_powerOf : Mok mX5_powerOf 2 := ⟨inTb (List.mem_of_getElem? (i := 586) (by decide +kernel)) (by decide +kernel), inTb (List.mem_of_getElem? (i := 48) (by decide +kernel)) (by decide +kernel), ⟨by decide +kernel, by decide +kernel, by decide +kernel⟩, by decide⟩
theorem staX5_powerOf : Cond.static yX5_powerOf ∈ Tb := inTb (List.mem_of_getElem? (i := 585) (by decide +kernel)) (by decide +kernel)
abbrev mX5_push : MI := (yX5_push, cX5_push, 3, some .int)
theorem okX5_push : Mok mX5_push 1 := ⟨inTb (List.mem_of_getElem? (i := 457) (by decide +kernel)) (by decide +kernel), inTb (List.mem_of_getElem? (i := 48) (by decide +kernel)) (by decide +kernel), ⟨by decide +kernel, by decide +kernel, by decide +kernel⟩, by decide⟩
theorem insX5_push : Cond.instanceMethod yX5_push ∈ Tb := inTb (List.mem_of_getElem? (i := 455) (by decide +kernel)) (by decide +kernel)
theorem selX5_push : Cond.selects RX5 yX5_push yX5_push ∈ Tb := inTb (List.mem_of_getElem? (i := 456) (by decide +kernel)) (by decide +kernel)
abbrev mX5_read : MI := (yX5_read, cX5_read, 9, some .int)
theorem okX5_read : Mok mX5_read 4 := ⟨inTb (List.mem_of_getElem? (i := 690) (by decide +kernel)) (by decide +kernel), inTb (List.mem_of_getElem? (i := 48) (by decide +kernel)) (by decide +kernel), ⟨by decide +kernel, by decide +kernel, by decide +kernel⟩, by decide⟩
theorem insX5_read : Cond.instanceMethod yX5_read ∈ Tb := inTb (List.mem_of_getElem? (i := 688) (by decide +kernel)) (by decide +kernel)
theorem selX5_read : Cond.selects RX5 yX5_read yX5_read ∈ Tb := inTb (List.mem_of_getElem? (i := 689) (by decide +kernel)) (by decide +kernel)
abbrev mX5_rule : MI := (yX5_rule, cX5_rule, 2, some .int)
theorem okX5_rule : Mok mX5_rule 1 := ⟨inTb (List.mem_of_getElem? (i := 380) (by decide +kernel)) (by decide +kernel), inTb (List.mem_of_getElem? (i := 48) (by decide +kernel)) (by decide +kernel), ⟨by decide +kernel, by decide +kernel, by decide +kernel⟩, by decide⟩
theorem insX5_rule : Cond.instanceMethod yX5_rule ∈ Tb := inTb (List.mem_of_getElem? (i := 378) (by decide +kernel)) (by decide +kernel)
theorem selX5_rule : Cond.selects RX5 yX5_rule yX5_rule ∈ Tb := inTb (List.mem_of_getElem? (i := 379) (by decide +kernel)) (by decide +kernel)
abbrev mX5_runs : MI := (yX5_runs, cX5_runs, 11, some .int)
theorem okX5_runs : Mok mX5_runs 2 := ⟨inTb (List.mem_of_getElem? (i := 488) (by decide +kernel)) (by decide +kernel), inTb (List.mem_of_getElem? (i := 48) (by decide +kernel)) (by decide +kernel), ⟨by decide +kernel, by decide +kernel, by decide +kernel⟩, by decide⟩
theorem insX5_runs : Cond.instanceMethod yX5_runs ∈ Tb := inTb (List.mem_of_getElem? (i := 486) (by decide +kernel)) (by decide +kernel)
theorem selX5_runs : Cond.selects RX5 yX5_runs yX5_runs ∈ Tb := inTb (List.mem_of_getElem? (i := 487) (by decide +kernel)) (by decide +kernel)
abbrev mX5_see : MI := (yX5_see, cX5_see, 4, some .int)
theorem okX5_see : Mok mX5_see 3 := ⟨inTb (List.mem_of_getElem? (i := 600) (by decide +kernel)) (by decide +kernel), inTb (List.mem_of_getElem? (i := 48) (by decide +kernel)) (by decide +kernel), ⟨by decide +kernel, by decide +kernel, by decide +kernel⟩, by decide⟩
theorem insX5_see : Cond.instanceMethod yX5_see ∈ Tb := inTb (List.mem_of_getElem? (i := 598) (by decide +kernel)) (by decide +kernel)
theorem selX5_see : Cond.selects RX5 yX5_see yX5_see ∈ Tb := inTb (List.mem_of_getElem? (i := 599) (by decide +kernel)) (by decide +kernel)
abbrev mX5_sheet : MI := (yX5_sheet, cX5_sheet, 4, some .int)
theorem okX5_sheet : Mok mX5_sheet 3 := ⟨inTb (List.mem_of_getElem? (i := 666) (by decide +kernel)) (by decide +kernel), inTb (List.mem_of_getElem? (i := 48) (by decide +kernel)) (by decide +kernel), ⟨by decide +kernel, by decide +kernel, by decide +kernel⟩, by decide⟩
theorem insX5_sheet : Cond.instanceMethod yX5_sheet ∈ Tb := inTb (List.mem_of_getElem? (i := 664) (by decide +kernel)) (by decide +kernel)
theorem selX5_sheet : Cond.selects RX5 yX5_sheet yX5_sheet ∈ Tb := inTb (List.mem_of_getElem? (i := 665) (by decide +kernel)) (by decide +kernel)
abbrev mX5_sumOf : MI := (yX5_sumOf, cX5_sumOf, 4, some .int)
theorem okX5_sumOf : Mok mX5_sumOf 1 := ⟨inTb (List.mem_of_getElem? (i := 384) (by decide +kernel)) (by decide +kernel), inTb (List.mem_of_getElem? (i := 48) (by decide +kernel)) (by decide +kernel), ⟨by decide +kernel, by decide +kernel, by decide +kernel⟩, by decide⟩
theorem insX5_sumOf : Cond.instanceMethod yX5_sumOf ∈ Tb := inTb (List.mem_of_getElem? (i := 383) (by decide +kernel)) (by decide +kernel)
theorem selX5_sumOf : Cond.selects RX5 yX5_sumOf yX5_sumOf ∈ Tb := inTb (List.mem_of_getElem? (i := 11) (by decide +kernel)) (by decide +kernel)
abbrev mX5_text : MI := (yX5_text, cX5_text, 2, some .int)
theorem okX5_text : Mok mX5_text 0 := ⟨inTb (List.mem_of_getElem? (i := 255) (by decide +kernel)) (by decide +kernel), inTb (List.mem_of_getElem? (i := 48) (by decide +kernel)) (by decide +kernel), ⟨by decide +kernel, by decide +kernel, by decide +kernel⟩, by decide⟩
theorem insX5_text : Cond.instanceMethod yX5_text ∈ Tb := inTb (List.mem_of_getElem? (i := 253) (by decide +kernel)) (by decide +kernel)
theorem selX5_text : Cond.selects RX5 yX5_text yX5_text ∈ Tb := inTb (List.mem_of_getElem? (i := 254) (by decide +kernel)) (by decide +kernel)
abbrev mX5_ticks : MI := (yX5_ticks, cX5_ticks, 2, some .int)
theorem okX5_ticks : Mok mX5_ticks 1 := ⟨inTb (List.mem_of_getElem? (i := 475) (by decide +kernel)) (by decide +kernel), inTb (List.mem_of_getElem? (i := 48) (by decide +kernel)) (by decide +kernel), ⟨by decide +kernel, by decide +kernel, by decide +kernel⟩, by decide⟩
theorem insX5_ticks : Cond.instanceMethod yX5_ticks ∈ Tb := inTb (List.mem_of_getElem? (i := 473) (by decide +kernel)) (by decide +kernel)
theorem selX5_ticks : Cond.selects RX5 yX5_ticks yX5_ticks ∈ Tb := inTb (List.mem_of_getElem? (i := 474) (by decide +kernel)) (by decide +kernel)
abbrev mX5_together : MI := (yX5_together, cX5_together, 1, some .int)
theorem okX5_together : Mok mX5_together 0 := ⟨inTb (List.mem_of_getElem? (i := 510) (by decide +kernel)) (by decide +kernel), inTb (List.mem_of_getElem? (i := 48) (by decide +kernel)) (by decide +kernel), ⟨by decide +kernel, by decide +kernel, by decide +kernel⟩, by decide⟩
theorem insX5_together : Cond.instanceMethod yX5_together ∈ Tb := inTb (List.mem_of_getElem? (i := 508) (by decide +kernel)) (by decide +kernel)
theorem selX5_together : Cond.selects RX5 yX5_together yX5_together ∈ Tb := inTb (List.mem_of_getElem? (i := 509) (by decide +kernel)) (by decide +kernel)
abbrev mX5_torn : MI := (yX5_torn, cX5_torn, 1, some .int)
theorem okX5_torn : Mok mX5_torn 0 := ⟨inTb (List.mem_of_getElem? (i := 704) (by decide +kernel)) (by decide +kernel), inTb (List.mem_of_getElem? (i := 48) (by decide +kernel)) (by decide +kernel), ⟨by decide +kernel, by decide +kernel, by decide +kernel⟩, by decide⟩
theorem insX5_torn : Cond.instanceMethod yX5_torn ∈ Tb := inTb (List.mem_of_getElem? (i := 702) (by decide +kernel)) (by decide +kernel)
theorem selX5_torn : Cond.selects RX5 yX5_torn yX5_torn ∈ Tb := inTb (List.mem_of_getElem? (i := 703) (by decide +kernel)) (by decide +kernel)
abbrev mX5_tryHand : MI := (yX5_tryHand, cX5_tryHand, 3, some (.object "BeamClocks$Beam"))
theorem okX5_tryHand : Mok mX5_tryHand 2 := ⟨inTb (List.mem_of_getElem? (i := 553) (by decide +kernel)) (by decide +kernel), inTb (List.mem_of_getElem? (i := 48) (by decide +kernel)) (by decide +kernel), ⟨by decide +kernel, by decide +kernel, by decide +kernel⟩, by decide⟩
theorem insX5_tryHand : Cond.instanceMethod yX5_tryHand ∈ Tb := inTb (List.mem_of_getElem? (i := 552) (by decide +kernel)) (by decide +kernel)
theorem selX5_tryHand : Cond.selects RX5 yX5_tryHand yX5_tryHand ∈ Tb := inTb (List.mem_of_getElem? (i := 17) (by decide +kernel)) (by decide +kernel)
abbrev mX5_tryKind : MI := (yX5_tryKind, cX5_tryKind, 3, some (.object "BeamClocks$Beam"))
theorem okX5_tryKind : Mok mX5_tryKind 2 := ⟨inTb (List.mem_of_getElem? (i := 561) (by decide +kernel)) (by decide +kernel), inTb (List.mem_of_getElem? (i := 48) (by decide +kernel)) (by decide +kernel), ⟨by decide +kernel, by decide +kernel, by decide +kernel⟩, by decide⟩
theorem insX5_tryKind : Cond.instanceMethod yX5_tryKind ∈ Tb := inTb (List.mem_of_getElem? (i := 560) (by decide +kernel)) (by decide +kernel)
theorem selX5_tryKind : Cond.selects RX5 yX5_tryKind yX5_tryKind ∈ Tb := inTb (List.mem_of_getElem? (i := 18) (by decide +kernel)) (by decide +kernel)
abbrev mX5_tryNow : MI := (yX5_tryNow, cX5_tryNow, 1, some (.object "BeamClocks$Beam"))
theorem okX5_tryNow : Mok mX5_tryNow 0 := ⟨inTb (List.mem_of_getElem? (i := 388) (by decide +kernel)) (by decide +kernel), inTb (List.mem_of_getElem? (i := 48) (by decide +kernel)) (by decide +kernel), ⟨by decide +kernel, by decide +kernel, by decide +kernel⟩, by decide⟩
theorem insX5_tryNow : Cond.instanceMethod yX5_tryNow ∈ Tb := inTb (List.mem_of_getElem? (i := 387) (by decide +kernel)) (by decide +kernel)
theorem selX5_tryNow : Cond.selects RX5 yX5_tryNow yX5_tryNow ∈ Tb := inTb (List.mem_of_getElem? (i := 12) (by decide +kernel)) (by decide +kernel)
abbrev mX5_tryPeriod : MI := (yX5_tryPeriod, cX5_tryPeriod, 3, some (.object "BeamClocks$Beam"))
theorem okX5_tryPeriod : Mok mX5_tryPeriod 2 := ⟨inTb (List.mem_of_getElem? (i := 535) (by decide +kernel)) (by decide +kernel), inTb (List.mem_of_getElem? (i := 48) (by decide +kernel)) (by decide +kernel), ⟨by decide +kernel, by decide +kernel, by decide +kernel⟩, by decide⟩
theorem insX5_tryPeriod : Cond.instanceMethod yX5_tryPeriod ∈ Tb := inTb (List.mem_of_getElem? (i := 534) (by decide +kernel)) (by decide +kernel)
theorem selX5_tryPeriod : Cond.selects RX5 yX5_tryPeriod yX5_tryPeriod ∈ Tb := inTb (List.mem_of_getElem? (i := 16) (by decide +kernel)) (by decide +kernel)
abbrev mX5_weightOf : MI := (yX5_weightOf, cX5_weightOf, 4, some .long)
theorem okX5_weightOf : Mok mX5_weightOf 3 := ⟨inTb (List.mem_of_getElem? (i := 583) (by decide +kernel)) (by decide +kernel), inTb (List.mem_of_getElem? (i := 48) (by decide +kernel)) (by decide +kernel), ⟨by decide +kernel, by decide +kernel, by decide +kernel⟩, by decide⟩
theorem staX5_weightOf : Cond.static yX5_weightOf ∈ Tb := inTb (List.mem_of_getElem? (i := 582) (by decide +kernel)) (by decide +kernel)
abbrev mX6_again : MI := (yX6_again, cX6_again, 4, some .int)
theorem okX6_again : Mok mX6_again 0 := ⟨inTb (List.mem_of_getElem? (i := 956) (by decide +kernel)) (by decide +kernel), inTb (List.mem_of_getElem? (i := 54) (by decide +kernel)) (by decide +kernel), ⟨by decide +kernel, by decide +kernel, by decide +kernel⟩, by decide⟩
theorem insX6_again : Cond.instanceMethod yX6_again ∈ Tb := inTb (List.mem_of_getElem? (i := 954) (by decide +kernel)) (by decide +kernel)
theorem selX6_again : Cond.selects RX6 yX6_again yX6_again ∈ Tb := inTb (List.mem_of_getElem? (i := 955) (by decide +kernel)) (by decide +kernel)
abbrev mX6_ahead : MI := (yX6_ahead, cX6_ahead, 4, some .int)
theorem okX6_ahead : Mok mX6_ahead 3 := ⟨inTb (List.mem_of_getElem? (i := 940) (by decide +kernel)) (by decide +kernel), inTb (List.mem_of_getElem? (i := 54) (by decide +kernel)) (by decide +kernel), ⟨by decide +kernel, by decide +kernel, by decide +kernel⟩, by decide⟩
theorem insX6_ahead : Cond.instanceMethod yX6_ahead ∈ Tb := inTb (List.mem_of_getElem? (i := 938) (by decide +kernel)) (by decide +kernel)
theorem selX6_ahead : Cond.selects RX6 yX6_ahead yX6_ahead ∈ Tb := inTb (List.mem_of_getElem? (i := 939) (by decide +kernel)) (by decide +kernel)
abbrev mX6_allOn : MI := (yX6_allOn, cX6_allOn, 3, some .int)
theorem okX6_allOn : Mok mX6_allOn 1 := ⟨inTb (List.mem_of_getElem? (i := 936) (by decide +kernel)) (by decide +kernel), inTb (List.mem_of_getElem? (i := 54) (by decide +kernel)) (by decide +kernel), ⟨by decide +kernel, by decide +kernel, by decide +kernel⟩, by decide⟩
theorem insX6_allOn : Cond.instanceMethod yX6_allOn ∈ Tb := inTb (List.mem_of_getElem? (i := 935) (by decide +kernel)) (by decide +kernel)
theorem selX6_allOn : Cond.selects RX6 yX6_allOn yX6_allOn ∈ Tb := inTb (List.mem_of_getElem? (i := 40) (by decide +kernel)) (by decide +kernel)
abbrev mX6_alter : MI := (yX6_alter, cX6_alter, 4, some .int)
theorem okX6_alter : Mok mX6_alter 3 := ⟨inTb (List.mem_of_getElem? (i := 878) (by decide +kernel)) (by decide +kernel), inTb (List.mem_of_getElem? (i := 54) (by decide +kernel)) (by decide +kernel), ⟨by decide +kernel, by decide +kernel, by decide +kernel⟩, by decide⟩
theorem insX6_alter : Cond.instanceMethod yX6_alter ∈ Tb := inTb (List.mem_of_getElem? (i := 876) (by decide +kernel)) (by decide +kernel)
theorem selX6_alter : Cond.selects RX6 yX6_alter yX6_alter ∈ Tb := inTb (List.mem_of_getElem? (i := 877) (by decide +kernel)) (by decide +kernel)
abbrev mX6_alters : MI := (yX6_alters, cX6_alters, 6, some .int)
theorem okX6_alters : Mok mX6_alters 3 := ⟨inTb (List.mem_of_getElem? (i := 882) (by decide +kernel)) (by decide +kernel), inTb (List.mem_of_getElem? (i := 54) (by decide +kernel)) (by decide +kernel), ⟨by decide +kernel, by decide +kernel, by decide +kernel⟩, by decide⟩
theorem insX6_alters : Cond.instanceMethod yX6_alters ∈ Tb := inTb (List.mem_of_getElem? (i := 881) (by decide +kernel)) (by decide +kernel)
theorem selX6_alters : Cond.selects RX6 yX6_alters yX6_alters ∈ Tb := inTb (List.mem_of_getElem? (i := 35) (by decide +kernel)) (by decide +kernel)
abbrev mX6_ask : MI := (yX6_ask, cX6_ask, 10, some .int)
theorem okX6_ask : Mok mX6_ask 2 := ⟨inTb (List.mem_of_getElem? (i := 1035) (by decide +kernel)) (by decide +kernel), inTb (List.mem_of_getElem? (i := 54) (by decide +kernel)) (by decide +kernel), ⟨by decide +kernel, by decide +kernel, by decide +kernel⟩, by decide⟩
theorem insX6_ask : Cond.instanceMethod yX6_ask ∈ Tb := inTb (List.mem_of_getElem? (i := 1033) (by decide +kernel)) (by decide +kernel)
theorem selX6_ask : Cond.selects RX6 yX6_ask yX6_ask ∈ Tb := inTb (List.mem_of_getElem? (i := 1034) (by decide +kernel)) (by decide +kernel)
abbrev mX6_away : MI := (yX6_away, cX6_away, 6, some .int)
theorem okX6_away : Mok mX6_away 1 := ⟨inTb (List.mem_of_getElem? (i := 984) (by decide +kernel)) (by decide +kernel), inTb (List.mem_of_getElem? (i := 54) (by decide +kernel)) (by decide +kernel), ⟨by decide +kernel, by decide +kernel, by decide +kernel⟩, by decide⟩
theorem insX6_away : Cond.instanceMethod yX6_away ∈ Tb := inTb (List.mem_of_getElem? (i := 982) (by decide +kernel)) (by decide +kernel)
theorem selX6_away : Cond.selects RX6 yX6_away yX6_away ∈ Tb := inTb (List.mem_of_getElem? (i := 983) (by decide +kernel)) (by decide +kernel)
abbrev mX6_back : MI := (yX6_back, cX6_back, 2, some .int)
theorem okX6_back : Mok mX6_back 1 := ⟨inTb (List.mem_of_getElem? (i := 1048) (by decide +kernel)) (by decide +kernel), inTb (List.mem_of_getElem? (i := 54) (by decide +kernel)) (by decide +kernel), ⟨by decide +kernel, by decide +kernel, by decide +kernel⟩, by decide⟩
theorem insX6_back : Cond.instanceMethod yX6_back ∈ Tb := inTb (List.mem_of_getElem? (i := 1046) (by decide +kernel)) (by decide +kernel)
theorem selX6_back : Cond.selects RX6 yX6_back yX6_back ∈ Tb := inTb (List.mem_of_getElem? (i := 1047) (by decide +kernel)) (by decide +kernel)
abbrev mX6_beats : MI := (yX6_beats, cX6_beats, 2, some .int)
theorem okX6_beats : Mok mX6_beats 1 := ⟨inTb (List.mem_of_getElem? (i := 944) (by decide +kernel)) (by decide +kernel), inTb (List.mem_of_getElem? (i := 54) (by decide +kernel)) (by decide +kernel), ⟨by decide +kernel, by decide +kernel, by decide +kernel⟩, by decide⟩
theorem insX6_beats : Cond.instanceMethod yX6_beats ∈ Tb := inTb (List.mem_of_getElem? (i := 942) (by decide +kernel)) (by decide +kernel)
theorem selX6_beats : Cond.selects RX6 yX6_beats yX6_beats ∈ Tb := inTb (List.mem_of_getElem? (i := 943) (by decide +kernel)) (by decide +kernel)
abbrev mX6_beatsOn : MI := (yX6_beatsOn, cX6_beatsOn, 5, some .int)
theorem okX6_beatsOn : Mok mX6_beatsOn 1 := ⟨inTb (List.mem_of_getElem? (i := 862) (by decide +kernel)) (by decide +kernel), inTb (List.mem_of_getElem? (i := 54) (by decide +kernel)) (by decide +kernel), ⟨by decide +kernel, by decide +kernel, by decide +kernel⟩, by decide⟩
theorem insX6_beatsOn : Cond.instanceMethod yX6_beatsOn ∈ Tb := inTb (List.mem_of_getElem? (i := 861) (by decide +kernel)) (by decide +kernel)
theorem selX6_beatsOn : Cond.selects RX6 yX6_beatsOn yX6_beatsOn ∈ Tb := inTb (List.mem_of_getElem? (i := 32) (by decide +kernel)) (by decide +kernel)
abbrev mX6_bitsOf : MI := (yX6_bitsOf, cX6_bitsOf, 3, some .int)
theorem okX6_bitsOf : Mok mX6_bitsOf 1 := ⟨inTb (List.mem_of_getElem? (i := 919) (by decide +kernel)) (by decide +kernel), inTb (List.mem_of_getElem? (i := 54) (by decide +kernel)) (by decide +kernel), ⟨by decide +kernel, by decide +kernel, by decide +kernel⟩, by decide⟩
theorem staX6_bitsOf : Cond.static yX6_bitsOf ∈ Tb := inTb (List.mem_of_getElem? (i := 918) (by decide +kernel)) (by decide +kernel)
abbrev mX6_byHeld : MI := (yX6_byHeld, cX6_byHeld, 15, some .long)
theorem okX6_byHeld : Mok mX6_byHeld 4 := ⟨inTb (List.mem_of_getElem? (i := 994) (by decide +kernel)) (by decide +kernel), inTb (List.mem_of_getElem? (i := 54) (by decide +kernel)) (by decide +kernel), ⟨by decide +kernel, by decide +kernel, by decide +kernel⟩, by decide⟩
theorem insX6_byHeld : Cond.instanceMethod yX6_byHeld ∈ Tb := inTb (List.mem_of_getElem? (i := 993) (by decide +kernel)) (by decide +kernel)
theorem selX6_byHeld : Cond.selects RX6 yX6_byHeld yX6_byHeld ∈ Tb := inTb (List.mem_of_getElem? (i := 44) (by decide +kernel)) (by decide +kernel)
abbrev mX6_byteAt : MI := (yX6_byteAt, cX6_byteAt, 2, some .int)
theorem okX6_byteAt : Mok mX6_byteAt 1 := ⟨inTb (List.mem_of_getElem? (i := 821) (by decide +kernel)) (by decide +kernel), inTb (List.mem_of_getElem? (i := 54) (by decide +kernel)) (by decide +kernel), ⟨by decide +kernel, by decide +kernel, by decide +kernel⟩, by decide⟩
theorem insX6_byteAt : Cond.instanceMethod yX6_byteAt ∈ Tb := inTb (List.mem_of_getElem? (i := 820) (by decide +kernel)) (by decide +kernel)
theorem selX6_byteAt : Cond.selects RX6 yX6_byteAt yX6_byteAt ∈ Tb := inTb (List.mem_of_getElem? (i := 25) (by decide +kernel)) (by decide +kernel)
abbrev mX6_clock : MI := (yX6_clock, cX6_clock, 3, some .int)
theorem okX6_clock : Mok mX6_clock 2 := ⟨inTb (List.mem_of_getElem? (i := 866) (by decide +kernel)) (by decide +kernel), inTb (List.mem_of_getElem? (i := 54) (by decide +kernel)) (by decide +kernel), ⟨by decide +kernel, by decide +kernel, by decide +kernel⟩, by decide⟩
theorem insX6_clock : Cond.instanceMethod yX6_clock ∈ Tb := inTb (List.mem_of_getElem? (i := 864) (by decide +kernel)) (by decide +kernel)
theorem selX6_clock : Cond.selects RX6 yX6_clock yX6_clock ∈ Tb := inTb (List.mem_of_getElem? (i := 865) (by decide +kernel)) (by decide +kernel)
abbrev mX6_copies : MI := (yX6_copies, cX6_copies, 4, none)
theorem okX6_copies : Mok mX6_copies 2 := ⟨inTb (List.mem_of_getElem? (i := 932) (by decide +kernel)) (by decide +kernel), inTb (List.mem_of_getElem? (i := 54) (by decide +kernel)) (by decide +kernel), ⟨by decide +kernel, by decide +kernel, by decide +kernel⟩, by decide⟩
theorem insX6_copies : Cond.instanceMethod yX6_copies ∈ Tb := inTb (List.mem_of_getElem? (i := 931) (by decide +kernel)) (by decide +kernel)
theorem selX6_copies : Cond.selects RX6 yX6_copies yX6_copies ∈ Tb := inTb (List.mem_of_getElem? (i := 39) (by decide +kernel)) (by decide +kernel)
abbrev mX6_count : MI := (yX6_count, cX6_count, 2, some .int)
theorem okX6_count : Mok mX6_count 1 := ⟨inTb (List.mem_of_getElem? (i := 1069) (by decide +kernel)) (by decide +kernel), inTb (List.mem_of_getElem? (i := 54) (by decide +kernel)) (by decide +kernel), ⟨by decide +kernel, by decide +kernel, by decide +kernel⟩, by decide⟩
theorem insX6_count : Cond.instanceMethod yX6_count ∈ Tb := inTb (List.mem_of_getElem? (i := 1067) (by decide +kernel)) (by decide +kernel)
theorem selX6_count : Cond.selects RX6 yX6_count yX6_count ∈ Tb := inTb (List.mem_of_getElem? (i := 1068) (by decide +kernel)) (by decide +kernel)
abbrev mX6_cut : MI := (yX6_cut, cX6_cut, 3, some .int)
theorem okX6_cut : Mok mX6_cut 1 := ⟨inTb (List.mem_of_getElem? (i := 899) (by decide +kernel)) (by decide +kernel), inTb (List.mem_of_getElem? (i := 54) (by decide +kernel)) (by decide +kernel), ⟨by decide +kernel, by decide +kernel, by decide +kernel⟩, by decide⟩
theorem insX6_cut : Cond.instanceMethod yX6_cut ∈ Tb := inTb (List.mem_of_getElem? (i := 897) (by decide +kernel)) (by decide +kernel)
theorem selX6_cut : Cond.selects RX6 yX6_cut yX6_cut ∈ Tb := inTb (List.mem_of_getElem? (i := 898) (by decide +kernel)) (by decide +kernel)
abbrev mX6_drift : MI := (yX6_drift, cX6_drift, 8, some .int)
theorem okX6_drift : Mok mX6_drift 3 := ⟨inTb (List.mem_of_getElem? (i := 1039) (by decide +kernel)) (by decide +kernel), inTb (List.mem_of_getElem? (i := 54) (by decide +kernel)) (by decide +kernel), ⟨by decide +kernel, by decide +kernel, by decide +kernel⟩, by decide⟩
theorem insX6_drift : Cond.instanceMethod yX6_drift ∈ Tb := inTb (List.mem_of_getElem? (i := 1037) (by decide +kernel)) (by decide +kernel)
theorem selX6_drift : Cond.selects RX6 yX6_drift yX6_drift ∈ Tb := inTb (List.mem_of_getElem? (i := 1038) (by decide +kernel)) (by decide +kernel)
abbrev mX6_end : MI := (yX6_end, cX6_end, 3, some .int)
theorem okX6_end : Mok mX6_end 1 := ⟨inTb (List.mem_of_getElem? (i := 809) (by decide +kernel)) (by decide +kernel), inTb (List.mem_of_getElem? (i := 54) (by decide +kernel)) (by decide +kernel), ⟨by decide +kernel, by decide +kernel, by decide +kernel⟩, by decide⟩
theorem insX6_end : Cond.instanceMethod yX6_end ∈ Tb := inTb (List.mem_of_getElem? (i := 807) (by decide +kernel)) (by decide +kernel)
theorem selX6_end : Cond.selects RX6 yX6_end yX6_end ∈ Tb := inTb (List.mem_of_getElem? (i := 808) (by decide +kernel)) (by decide +kernel)
abbrev mX6_fails : MI := (yX6_fails, cX6_fails, 2, none)
theorem okX6_fails : Mok mX6_fails 1 := ⟨inTb (List.mem_of_getElem? (i := 829) (by decide +kernel)) (by decide +kernel), inTb (List.mem_of_getElem? (i := 54) (by decide +kernel)) (by decide +kernel), ⟨by decide +kernel, by decide +kernel, by decide +kernel⟩, by decide⟩
theorem insX6_fails : Cond.instanceMethod yX6_fails ∈ Tb := inTb (List.mem_of_getElem? (i := 828) (by decide +kernel)) (by decide +kernel)
theorem selX6_fails : Cond.selects RX6 yX6_fails yX6_fails ∈ Tb := inTb (List.mem_of_getElem? (i := 26) (by decide +kernel)) (by decide +kernel)
abbrev mX6_fault : MI := (yX6_fault, cX6_fault, 1, some .int)
theorem okX6_fault : Mok mX6_fault 0 := ⟨inTb (List.mem_of_getElem? (i := 850) (by decide +kernel)) (by decide +kernel), inTb (List.mem_of_getElem? (i := 54) (by decide +kernel)) (by decide +kernel), ⟨by decide +kernel, by decide +kernel, by decide +kernel⟩, by decide⟩
theorem insX6_fault : Cond.instanceMethod yX6_fault ∈ Tb := inTb (List.mem_of_getElem? (i := 848) (by decide +kernel)) (by decide +kernel)
theorem selX6_fault : Cond.selects RX6 yX6_fault yX6_fault ∈ Tb := inTb (List.mem_of_getElem? (i := 849) (by decide +kernel)) (by decide +kernel)
abbrev mX6_feed : MI := (yX6_feed, cX6_feed, 2, some .int)
theorem okX6_feed : Mok mX6_feed 1 := ⟨inTb (List.mem_of_getElem? (i := 801) (by decide +kernel)) (by decide +kernel), inTb (List.mem_of_getElem? (i := 54) (by decide +kernel)) (by decide +kernel), ⟨by decide +kernel, by decide +kernel, by decide +kernel⟩, by decide⟩
theorem insX6_feed : Cond.instanceMethod yX6_feed ∈ Tb := inTb (List.mem_of_getElem? (i := 799) (by decide +kernel)) (by decide +kernel)
theorem selX6_feed : Cond.selects RX6 yX6_feed yX6_feed ∈ Tb := inTb (List.mem_of_getElem? (i := 800) (by decide +kernel)) (by decide +kernel)
abbrev mX6_force : MI := (yX6_force, cX6_force, 2, some .int)
theorem okX6_force : Mok mX6_force 1 := ⟨inTb (List.mem_of_getElem? (i := 980) (by decide +kernel)) (by decide +kernel), inTb (List.mem_of_getElem? (i := 54) (by decide +kernel)) (by decide +kernel), ⟨by decide +kernel, by decide +kernel, by decide +kernel⟩, by decide⟩
theorem insX6_force : Cond.instanceMethod yX6_force ∈ Tb := inTb (List.mem_of_getElem? (i := 978) (by decide +kernel)) (by decide +kernel)
theorem selX6_force : Cond.selects RX6 yX6_force yX6_force ∈ Tb := inTb (List.mem_of_getElem? (i := 979) (by decide +kernel)) (by decide +kernel)
abbrev mX6_forget : MI := (yX6_forget, cX6_forget, 3, some .int)
theorem okX6_forget : Mok mX6_forget 1 := ⟨inTb (List.mem_of_getElem? (i := 1011) (by decide +kernel)) (by decide +kernel), inTb (List.mem_of_getElem? (i := 54) (by decide +kernel)) (by decide +kernel), ⟨by decide +kernel, by decide +kernel, by decide +kernel⟩, by decide⟩
theorem insX6_forget : Cond.instanceMethod yX6_forget ∈ Tb := inTb (List.mem_of_getElem? (i := 1009) (by decide +kernel)) (by decide +kernel)
theorem selX6_forget : Cond.selects RX6 yX6_forget yX6_forget ∈ Tb := inTb (List.mem_of_getElem? (i := 1010) (by decide +kernel)) (by decide +kernel)
abbrev mX6_hand : MI := (yX6_hand, cX6_hand, 3, some .int)
theorem okX6_hand : Mok mX6_hand 2 := ⟨inTb (List.mem_of_getElem? (i := 968) (by decide +kernel)) (by decide +kernel), inTb (List.mem_of_getElem? (i := 54) (by decide +kernel)) (by decide +kernel), ⟨by decide +kernel, by decide +kernel, by decide +kernel⟩, by decide⟩
theorem insX6_hand : Cond.instanceMethod yX6_hand ∈ Tb := inTb (List.mem_of_getElem? (i := 966) (by decide +kernel)) (by decide +kernel)
theorem selX6_hand : Cond.selects RX6 yX6_hand yX6_hand ∈ Tb := inTb (List.mem_of_getElem? (i := 967) (by decide +kernel)) (by decide +kernel)
abbrev mX6_hands : MI := (yX6_hands, cX6_hands, 2, some .int)
theorem okX6_hands : Mok mX6_hands 1 := ⟨inTb (List.mem_of_getElem? (i := 1027) (by decide +kernel)) (by decide +kernel), inTb (List.mem_of_getElem? (i := 54) (by decide +kernel)) (by decide +kernel), ⟨by decide +kernel, by decide +kernel, by decide +kernel⟩, by decide⟩
theorem insX6_hands : Cond.instanceMethod yX6_hands ∈ Tb := inTb (List.mem_of_getElem? (i := 1025) (by decide +kernel)) (by decide +kernel)
theorem selX6_hands : Cond.selects RX6 yX6_hands yX6_hands ∈ Tb := inTb (List.mem_of_getElem? (i := 1026) (by decide +kernel)) (by decide +kernel)
abbrev mX6_handsOf : MI := (yX6_handsOf, cX6_handsOf, 4, some .int)
theorem okX6_handsOf : Mok mX6_handsOf 1 := ⟨inTb (List.mem_of_getElem? (i := 1031) (by decide +kernel)) (by decide +kernel), inTb (List.mem_of_getElem? (i := 54) (by decide +kernel)) (by decide +kernel), ⟨by decide +kernel, by decide +kernel, by decide +kernel⟩, by decide⟩
theorem insX6_handsOf : Cond.instanceMethod yX6_handsOf ∈ Tb := inTb (List.mem_of_getElem? (i := 1030) (by decide +kernel)) (by decide +kernel)
theorem selX6_handsOf : Cond.selects RX6 yX6_handsOf yX6_handsOf ∈ Tb := inTb (List.mem_of_getElem? (i := 46) (by decide +kernel)) (by decide +kernel)
abbrev mX6_hang : MI := (yX6_hang, cX6_hang, 4, some .int)
theorem okX6_hang : Mok mX6_hang 2 := ⟨inTb (List.mem_of_getElem? (i := 895) (by decide +kernel)) (by decide +kernel), inTb (List.mem_of_getElem? (i := 54) (by decide +kernel)) (by decide +kernel), ⟨by decide +kernel, by decide +kernel, by decide +kernel⟩, by decide⟩
theorem insX6_hang : Cond.instanceMethod yX6_hang ∈ Tb := inTb (List.mem_of_getElem? (i := 893) (by decide +kernel)) (by decide +kernel)
theorem selX6_hang : Cond.selects RX6 yX6_hang yX6_hang ∈ Tb := inTb (List.mem_of_getElem? (i := 894) (by decide +kernel)) (by decide +kernel)
abbrev mX6_in : MI := (yX6_in, cX6_in, 6, some .boolean)
theorem okX6_in : Mok mX6_in 3 := ⟨inTb (List.mem_of_getElem? (i := 805) (by decide +kernel)) (by decide +kernel), inTb (List.mem_of_getElem? (i := 54) (by decide +kernel)) (by decide +kernel), ⟨by decide +kernel, by decide +kernel, by decide +kernel⟩, by decide⟩
theorem staX6_in : Cond.static yX6_in ∈ Tb := inTb (List.mem_of_getElem? (i := 804) (by decide +kernel)) (by decide +kernel)
abbrev mX6_init : MI := (yX6_init, cX6_init, 1, none)
theorem okX6_init : Mok mX6_init 0 := ⟨inTb (List.mem_of_getElem? (i := 717) (by decide +kernel)) (by decide +kernel), inTb (List.mem_of_getElem? (i := 54) (by decide +kernel)) (by decide +kernel), ⟨by decide +kernel, by decide +kernel, by decide +kernel⟩, by decide⟩
theorem insX6_init : Cond.instanceMethod yX6_init ∈ Tb := inTb (List.mem_of_getElem? (i := 716) (by decide +kernel)) (by decide +kernel)
abbrev mX6_isAsSeen : MI := (yX6_isAsSeen, cX6_isAsSeen, 7, some .boolean)
theorem okX6_isAsSeen : Mok mX6_isAsSeen 2 := ⟨inTb (List.mem_of_getElem? (i := 1019) (by decide +kernel)) (by decide +kernel), inTb (List.mem_of_getElem? (i := 54) (by decide +kernel)) (by decide +kernel), ⟨by decide +kernel, by decide +kernel, by decide +kernel⟩, by decide⟩
theorem insX6_isAsSeen : Cond.instanceMethod yX6_isAsSeen ∈ Tb := inTb (List.mem_of_getElem? (i := 1018) (by decide +kernel)) (by decide +kernel)
theorem selX6_isAsSeen : Cond.selects RX6 yX6_isAsSeen yX6_isAsSeen ∈ Tb := inTb (List.mem_of_getElem? (i := 45) (by decide +kernel)) (by decide +kernel)
abbrev mX6_isClock : MI := (yX6_isClock, cX6_isClock, 2, some .boolean)
theorem okX6_isClock : Mok mX6_isClock 1 := ⟨inTb (List.mem_of_getElem? (i := 870) (by decide +kernel)) (by decide +kernel), inTb (List.mem_of_getElem? (i := 54) (by decide +kernel)) (by decide +kernel), ⟨by decide +kernel, by decide +kernel, by decide +kernel⟩, by decide⟩
theorem insX6_isClock : Cond.instanceMethod yX6_isClock ∈ Tb := inTb (List.mem_of_getElem? (i := 869) (by decide +kernel)) (by decide +kernel)
theorem selX6_isClock : Cond.selects RX6 yX6_isClock yX6_isClock ∈ Tb := inTb (List.mem_of_getElem? (i := 33) (by decide +kernel)) (by decide +kernel)
abbrev mX6_isOnward : MI := (yX6_isOnward, cX6_isOnward, 3, some .boolean)
theorem okX6_isOnward : Mok mX6_isOnward 2 := ⟨inTb (List.mem_of_getElem? (i := 874) (by decide +kernel)) (by decide +kernel), inTb (List.mem_of_getElem? (i := 54) (by decide +kernel)) (by decide +kernel), ⟨by decide +kernel, by decide +kernel, by decide +kernel⟩, by decide⟩
theorem insX6_isOnward : Cond.instanceMethod yX6_isOnward ∈ Tb := inTb (List.mem_of_getElem? (i := 873) (by decide +kernel)) (by decide +kernel)
theorem selX6_isOnward : Cond.selects RX6 yX6_isOnward yX6_isOnward ∈ Tb := inTb (List.mem_of_getElem? (i := 34) (by decide +kernel)) (by decide +kernel)
abbrev mX6_keep : MI := (yX6_keep, cX6_keep, 3, some .int)
theorem okX6_keep : Mok mX6_keep 1 := ⟨inTb (List.mem_of_getElem? (i := 1044) (by decide +kernel)) (by decide +kernel), inTb (List.mem_of_getElem? (i := 54) (by decide +kernel)) (by decide +kernel), ⟨by decide +kernel, by decide +kernel, by decide +kernel⟩, by decide⟩
theorem insX6_keep : Cond.instanceMethod yX6_keep ∈ Tb := inTb (List.mem_of_getElem? (i := 1042) (by decide +kernel)) (by decide +kernel)
theorem selX6_keep : Cond.selects RX6 yX6_keep yX6_keep ∈ Tb := inTb (List.mem_of_getElem? (i := 1043) (by decide +kernel)) (by decide +kernel)
abbrev mX6_kind : MI := (yX6_kind, cX6_kind, 3, some .int)
theorem okX6_kind : Mok mX6_kind 2 := ⟨inTb (List.mem_of_getElem? (i := 976) (by decide +kernel)) (by decide +kernel), inTb (List.mem_of_getElem? (i := 54) (by decide +kernel)) (by decide +kernel), ⟨by decide +kernel, by decide +kernel, by decide +kernel⟩, by decide⟩
theorem insX6_kind : Cond.instanceMethod yX6_kind ∈ Tb := inTb (List.mem_of_getElem? (i := 974) (by decide +kernel)) (by decide +kernel)
theorem selX6_kind : Cond.selects RX6 yX6_kind yX6_kind ∈ Tb := inTb (List.mem_of_getElem? (i := 975) (by decide +kernel)) (by decide +kernel)
abbrev mX6_kinds : MI := (yX6_kinds, cX6_kinds, 4, some .int)
theorem okX6_kinds : Mok mX6_kinds 1 := ⟨inTb (List.mem_of_getElem? (i := 1015) (by decide +kernel)) (by decide +kernel), inTb (List.mem_of_getElem? (i := 54) (by decide +kernel)) (by decide +kernel), ⟨by decide +kernel, by decide +kernel, by decide +kernel⟩, by decide⟩
theorem insX6_kinds : Cond.instanceMethod yX6_kinds ∈ Tb := inTb (List.mem_of_getElem? (i := 1013) (by decide +kernel)) (by decide +kernel)
theorem selX6_kinds : Cond.selects RX6 yX6_kinds yX6_kinds ∈ Tb := inTb (List.mem_of_getElem? (i := 1014) (by decide +kernel)) (by decide +kernel)
abbrev mX6_knock : MI := (yX6_knock, cX6_knock, 3, some .int)
theorem okX6_knock : Mok mX6_knock 2 := ⟨inTb (List.mem_of_getElem? (i := 903) (by decide +kernel)) (by decide +kernel), inTb (List.mem_of_getElem? (i := 54) (by decide +kernel)) (by decide +kernel), ⟨by decide +kernel, by decide +kernel, by decide +kernel⟩, by decide⟩
theorem insX6_knock : Cond.instanceMethod yX6_knock ∈ Tb := inTb (List.mem_of_getElem? (i := 901) (by decide +kernel)) (by decide +kernel)
theorem selX6_knock : Cond.selects RX6 yX6_knock yX6_knock ∈ Tb := inTb (List.mem_of_getElem? (i := 902) (by decide +kernel)) (by decide +kernel)
abbrev mX6_lay : MI := (yX6_lay, cX6_lay, 4, some .int)
theorem okX6_lay : Mok mX6_lay 3 := ⟨inTb (List.mem_of_getElem? (i := 1056) (by decide +kernel)) (by decide +kernel), inTb (List.mem_of_getElem? (i := 54) (by decide +kernel)) (by decide +kernel), ⟨by decide +kernel, by decide +kernel, by decide +kernel⟩, by decide⟩
theorem insX6_lay : Cond.instanceMethod yX6_lay ∈ Tb := inTb (List.mem_of_getElem? (i := 1054) (by decide +kernel)) (by decide +kernel)
theorem selX6_lay : Cond.selects RX6 yX6_lay yX6_lay ∈ Tb := inTb (List.mem_of_getElem? (i := 1055) (by decide +kernel)) (by decide +kernel)
abbrev mX6_lowest : MI := (yX6_lowest, cX6_lowest, 11, some .long)
theorem okX6_lowest : Mok mX6_lowest 3 := ⟨inTb (List.mem_of_getElem? (i := 997) (by decide +kernel)) (by decide +kernel), inTb (List.mem_of_getElem? (i := 54) (by decide +kernel)) (by decide +kernel), ⟨by decide +kernel, by decide +kernel, by decide +kernel⟩, by decide⟩
theorem staX6_lowest : Cond.static yX6_lowest ∈ Tb := inTb (List.mem_of_getElem? (i := 996) (by decide +kernel)) (by decide +kernel)
abbrev mX6_luck : MI := (yX6_luck, cX6_luck, 5, some .long)
theorem okX6_luck : Mok mX6_luck 4 := ⟨inTb (List.mem_of_getElem? (i := 988) (by decide +kernel)) (by decide +kernel), inTb (List.mem_of_getElem? (i := 54) (by decide +kernel)) (by decide +kernel), ⟨by decide +kernel, by decide +kernel, by decide +kernel⟩, by decide⟩
theorem insX6_luck : Cond.instanceMethod yX6_luck ∈ Tb := inTb (List.mem_of_getElem? (i := 986) (by decide +kernel)) (by decide +kernel)
theorem selX6_luck : Cond.selects RX6 yX6_luck yX6_luck ∈ Tb := inTb (List.mem_of_getElem? (i := 987) (by decide +kernel)) (by decide +kernel)
abbrev mX6_mean : MI := (yX6_mean, cX6_mean, 4, some .long)
theorem okX6_mean : Mok mX6_mean 3 := ⟨inTb (List.mem_of_getElem? (i := 1002) (by decide +kernel)) (by decide +kernel), inTb (List.mem_of_getElem? (i := 54) (by decide +kernel)) (by decide +kernel), ⟨by decide +kernel, by decide +kernel, by decide +kernel⟩, by decide⟩
theorem insX6_mean : Cond.instanceMethod yX6_mean ∈ Tb := inTb (List.mem_of_getElem? (i := 1000) (by decide +kernel)) (by decide +kernel)
theorem selX6_mean : Cond.selects RX6 yX6_mean yX6_mean ∈ Tb := inTb (List.mem_of_getElem? (i := 1001) (by decide +kernel)) (by decide +kernel)
abbrev mX6_meetOn : MI := (yX6_meetOn, cX6_meetOn, 4, some .int)
theorem okX6_meetOn : Mok mX6_meetOn 1 := ⟨inTb (List.mem_of_getElem? (i := 952) (by decide +kernel)) (by decide +kernel), inTb (List.mem_of_getElem? (i := 54) (by decide +kernel)) (by decide +kernel), ⟨by decide +kernel, by decide +kernel, by decide +kernel⟩, by decide⟩
theorem insX6_meetOn : Cond.instanceMethod yX6_meetOn ∈ Tb := inTb (List.mem_of_getElem? (i := 951) (by decide +kernel)) (by decide +kernel)
theorem selX6_meetOn : Cond.selects RX6 yX6_meetOn yX6_meetOn ∈ Tb := inTb (List.mem_of_getElem? (i := 41) (by decide +kernel)) (by decide +kernel)
abbrev mX6_nameHere : MI := (yX6_nameHere, cX6_nameHere, 4, some .int)
theorem okX6_nameHere : Mok mX6_nameHere 0 := ⟨inTb (List.mem_of_getElem? (i := 837) (by decide +kernel)) (by decide +kernel), inTb (List.mem_of_getElem? (i := 54) (by decide +kernel)) (by decide +kernel), ⟨by decide +kernel, by decide +kernel, by decide +kernel⟩, by decide⟩
theorem insX6_nameHere : Cond.instanceMethod yX6_nameHere ∈ Tb := inTb (List.mem_of_getElem? (i := 836) (by decide +kernel)) (by decide +kernel)
theorem selX6_nameHere : Cond.selects RX6 yX6_nameHere yX6_nameHere ∈ Tb := inTb (List.mem_of_getElem? (i := 28) (by decide +kernel)) (by decide +kernel)
abbrev mX6_number : MI := (yX6_number, cX6_number, 4, some .int)
theorem okX6_number : Mok mX6_number 2 := ⟨inTb (List.mem_of_getElem? (i := 846) (by decide +kernel)) (by decide +kernel), inTb (List.mem_of_getElem? (i := 54) (by decide +kernel)) (by decide +kernel), ⟨by decide +kernel, by decide +kernel, by decide +kernel⟩, by decide⟩
theorem insX6_number : Cond.instanceMethod yX6_number ∈ Tb := inTb (List.mem_of_getElem? (i := 845) (by decide +kernel)) (by decide +kernel)
theorem selX6_number : Cond.selects RX6 yX6_number yX6_number ∈ Tb := inTb (List.mem_of_getElem? (i := 30) (by decide +kernel)) (by decide +kernel)
abbrev mX6_period : MI := (yX6_period, cX6_period, 7, some .int)
theorem okX6_period : Mok mX6_period 2 := ⟨inTb (List.mem_of_getElem? (i := 960) (by decide +kernel)) (by decide +kernel), inTb (List.mem_of_getElem? (i := 54) (by decide +kernel)) (by decide +kernel), ⟨by decide +kernel, by decide +kernel, by decide +kernel⟩, by decide⟩
theorem insX6_period : Cond.instanceMethod yX6_period ∈ Tb := inTb (List.mem_of_getElem? (i := 958) (by decide +kernel)) (by decide +kernel)
theorem selX6_period : Cond.selects RX6 yX6_period yX6_period ∈ Tb := inTb (List.mem_of_getElem? (i := 959) (by decide +kernel)) (by decide +kernel)
abbrev mX6_periodOn : MI := (yX6_periodOn, cX6_periodOn, 4, none)
theorem okX6_periodOn : Mok mX6_periodOn 3 := ⟨inTb (List.mem_of_getElem? (i := 964) (by decide +kernel)) (by decide +kernel), inTb (List.mem_of_getElem? (i := 54) (by decide +kernel)) (by decide +kernel), ⟨by decide +kernel, by decide +kernel, by decide +kernel⟩, by decide⟩
theorem insX6_periodOn : Cond.instanceMethod yX6_periodOn ∈ Tb := inTb (List.mem_of_getElem? (i := 963) (by decide +kernel)) (by decide +kernel)
theorem selX6_periodOn : Cond.selects RX6 yX6_periodOn yX6_periodOn ∈ Tb := inTb (List.mem_of_getElem? (i := 42) (by decide +kernel)) (by decide +kernel)
abbrev mX6_periods : MI := (yX6_periods, cX6_periods, 4, some .int)
theorem okX6_periods : Mok mX6_periods 1 := ⟨inTb (List.mem_of_getElem? (i := 1023) (by decide +kernel)) (by decide +kernel), inTb (List.mem_of_getElem? (i := 54) (by decide +kernel)) (by decide +kernel), ⟨by decide +kernel, by decide +kernel, by decide +kernel⟩, by decide⟩
theorem insX6_periods : Cond.instanceMethod yX6_periods ∈ Tb := inTb (List.mem_of_getElem? (i := 1021) (by decide +kernel)) (by decide +kernel)
theorem selX6_periods : Cond.selects RX6 yX6_periods yX6_periods ∈ Tb := inTb (List.mem_of_getElem? (i := 1022) (by decide +kernel)) (by decide +kernel)
abbrev mX6_push : MI := (yX6_push, cX6_push, 3, some .int)
theorem okX6_push : Mok mX6_push 1 := ⟨inTb (List.mem_of_getElem? (i := 890) (by decide +kernel)) (by decide +kernel), inTb (List.mem_of_getElem? (i := 54) (by decide +kernel)) (by decide +kernel), ⟨by decide +kernel, by decide +kernel, by decide +kernel⟩, by decide⟩
theorem insX6_push : Cond.instanceMethod yX6_push ∈ Tb := inTb (List.mem_of_getElem? (i := 888) (by decide +kernel)) (by decide +kernel)
theorem selX6_push : Cond.selects RX6 yX6_push yX6_push ∈ Tb := inTb (List.mem_of_getElem? (i := 889) (by decide +kernel)) (by decide +kernel)
abbrev mX6_pushedOn : MI := (yX6_pushedOn, cX6_pushedOn, 9, none)
theorem okX6_pushedOn : Mok mX6_pushedOn 3 := ⟨inTb (List.mem_of_getElem? (i := 907) (by decide +kernel)) (by decide +kernel), inTb (List.mem_of_getElem? (i := 54) (by decide +kernel)) (by decide +kernel), ⟨by decide +kernel, by decide +kernel, by decide +kernel⟩, by decide⟩
theorem insX6_pushedOn : Cond.instanceMethod yX6_pushedOn ∈ Tb := inTb (List.mem_of_getElem? (i := 906) (by decide +kernel)) (by decide +kernel)
theorem selX6_pushedOn : Cond.selects RX6 yX6_pushedOn yX6_pushedOn ∈ Tb := inTb (List.mem_of_getElem? (i := 36) (by decide +kernel)) (by decide +kernel)
abbrev mX6_read : MI := (yX6_read, cX6_read, 9, some .int)
theorem okX6_read : Mok mX6_read 4 := ⟨inTb (List.mem_of_getElem? (i := 1060) (by decide +kernel)) (by decide +kernel), inTb (List.mem_of_getElem? (i := 54) (by decide +kernel)) (by decide +kernel), ⟨by decide +kernel, by decide +kernel, by decide +kernel⟩, by decide⟩
theorem insX6_read : Cond.instanceMethod yX6_read ∈ Tb := inTb (List.mem_of_getElem? (i := 1058) (by decide +kernel)) (by decide +kernel)
theorem selX6_read : Cond.selects RX6 yX6_read yX6_read ∈ Tb := inTb (List.mem_of_getElem? (i := 1059) (by decide +kernel)) (by decide +kernel)
abbrev mX6_readLine : MI := (yX6_readLine, cX6_readLine, 2, none)
theorem okX6_readLine : Mok mX6_readLine 0 := ⟨inTb (List.mem_of_getElem? (i := 833) (by decide +kernel)) (by decide +kernel), inTb (List.mem_of_getElem? (i := 54) (by decide +kernel)) (by decide +kernel), ⟨by decide +kernel, by decide +kernel, by decide +kernel⟩, by decide⟩
theorem insX6_readLine : Cond.instanceMethod yX6_readLine ∈ Tb := inTb (List.mem_of_getElem? (i := 832) (by decide +kernel)) (by decide +kernel)
theorem selX6_readLine : Cond.selects RX6 yX6_readLine yX6_readLine ∈ Tb := inTb (List.mem_of_getElem? (i := 27) (by decide +kernel)) (by decide +kernel)
abbrev mX6_readMore : MI := (yX6_readMore, cX6_readMore, 3, none)
theorem okX6_readMore : Mok mX6_readMore 1 := ⟨inTb (List.mem_of_getElem? (i := 842) (by decide +kernel)) (by decide +kernel), inTb (List.mem_of_getElem? (i := 54) (by decide +kernel)) (by decide +kernel), ⟨by decide +kernel, by decide +kernel, by decide +kernel⟩, by decide⟩
theorem insX6_readMore : Cond.instanceMethod yX6_readMore ∈ Tb := inTb (List.mem_of_getElem? (i := 841) (by decide +kernel)) (by decide +kernel)
theorem selX6_readMore : Cond.selects RX6 yX6_readMore yX6_readMore ∈ Tb := inTb (List.mem_of_getElem? (i := 29) (by decide +kernel)) (by decide +kernel)
abbrev mX6_rule : MI := (yX6_rule, cX6_rule, 2, some .int)
theorem okX6_rule : Mok mX6_rule 1 := ⟨inTb (List.mem_of_getElem? (i := 854) (by decide +kernel)) (by decide +kernel), inTb (List.mem_of_getElem? (i := 54) (by decide +kernel)) (by decide +kernel), ⟨by decide +kernel, by decide +kernel, by decide +kernel⟩, by decide⟩
theorem insX6_rule : Cond.instanceMethod yX6_rule ∈ Tb := inTb (List.mem_of_getElem? (i := 852) (by decide +kernel)) (by decide +kernel)
theorem selX6_rule : Cond.selects RX6 yX6_rule yX6_rule ∈ Tb := inTb (List.mem_of_getElem? (i := 853) (by decide +kernel)) (by decide +kernel)
abbrev mX6_runs : MI := (yX6_runs, cX6_runs, 4, some .int)
theorem okX6_runs : Mok mX6_runs 2 := ⟨inTb (List.mem_of_getElem? (i := 923) (by decide +kernel)) (by decide +kernel), inTb (List.mem_of_getElem? (i := 54) (by decide +kernel)) (by decide +kernel), ⟨by decide +kernel, by decide +kernel, by decide +kernel⟩, by decide⟩
theorem insX6_runs : Cond.instanceMethod yX6_runs ∈ Tb := inTb (List.mem_of_getElem? (i := 921) (by decide +kernel)) (by decide +kernel)
theorem selX6_runs : Cond.selects RX6 yX6_runs yX6_runs ∈ Tb := inTb (List.mem_of_getElem? (i := 922) (by decide +kernel)) (by decide +kernel)
abbrev mX6_see : MI := (yX6_see, cX6_see, 4, some .int)
theorem okX6_see : Mok mX6_see 3 := ⟨inTb (List.mem_of_getElem? (i := 1006) (by decide +kernel)) (by decide +kernel), inTb (List.mem_of_getElem? (i := 54) (by decide +kernel)) (by decide +kernel), ⟨by decide +kernel, by decide +kernel, by decide +kernel⟩, by decide⟩
theorem insX6_see : Cond.instanceMethod yX6_see ∈ Tb := inTb (List.mem_of_getElem? (i := 1004) (by decide +kernel)) (by decide +kernel)
theorem selX6_see : Cond.selects RX6 yX6_see yX6_see ∈ Tb := inTb (List.mem_of_getElem? (i := 1005) (by decide +kernel)) (by decide +kernel)
abbrev mX6_sheet : MI := (yX6_sheet, cX6_sheet, 5, some .int)
theorem okX6_sheet : Mok mX6_sheet 3 := ⟨inTb (List.mem_of_getElem? (i := 1052) (by decide +kernel)) (by decide +kernel), inTb (List.mem_of_getElem? (i := 54) (by decide +kernel)) (by decide +kernel), ⟨by decide +kernel, by decide +kernel, by decide +kernel⟩, by decide⟩
theorem insX6_sheet : Cond.instanceMethod yX6_sheet ∈ Tb := inTb (List.mem_of_getElem? (i := 1050) (by decide +kernel)) (by decide +kernel)
theorem selX6_sheet : Cond.selects RX6 yX6_sheet yX6_sheet ∈ Tb := inTb (List.mem_of_getElem? (i := 1051) (by decide +kernel)) (by decide +kernel)
abbrev mX6_soonestAt : MI := (yX6_soonestAt, cX6_soonestAt, 10, some .int)
theorem okX6_soonestAt : Mok mX6_soonestAt 5 := ⟨inTb (List.mem_of_getElem? (i := 972) (by decide +kernel)) (by decide +kernel), inTb (List.mem_of_getElem? (i := 54) (by decide +kernel)) (by decide +kernel), ⟨by decide +kernel, by decide +kernel, by decide +kernel⟩, by decide⟩
theorem insX6_soonestAt : Cond.instanceMethod yX6_soonestAt ∈ Tb := inTb (List.mem_of_getElem? (i := 971) (by decide +kernel)) (by decide +kernel)
theorem selX6_soonestAt : Cond.selects RX6 yX6_soonestAt yX6_soonestAt ∈ Tb := inTb (List.mem_of_getElem? (i := 43) (by decide +kernel)) (by decide +kernel)
abbrev mX6_step : MI := (yX6_step, cX6_step, 2, none)
theorem okX6_step : Mok mX6_step 0 := ⟨inTb (List.mem_of_getElem? (i := 817) (by decide +kernel)) (by decide +kernel), inTb (List.mem_of_getElem? (i := 54) (by decide +kernel)) (by decide +kernel), ⟨by decide +kernel, by decide +kernel, by decide +kernel⟩, by decide⟩
theorem insX6_step : Cond.instanceMethod yX6_step ∈ Tb := inTb (List.mem_of_getElem? (i := 816) (by decide +kernel)) (by decide +kernel)
theorem selX6_step : Cond.selects RX6 yX6_step yX6_step ∈ Tb := inTb (List.mem_of_getElem? (i := 24) (by decide +kernel)) (by decide +kernel)
abbrev mX6_sumOn : MI := (yX6_sumOn, cX6_sumOn, 5, some .int)
theorem okX6_sumOn : Mok mX6_sumOn 2 := ⟨inTb (List.mem_of_getElem? (i := 858) (by decide +kernel)) (by decide +kernel), inTb (List.mem_of_getElem? (i := 54) (by decide +kernel)) (by decide +kernel), ⟨by decide +kernel, by decide +kernel, by decide +kernel⟩, by decide⟩
theorem insX6_sumOn : Cond.instanceMethod yX6_sumOn ∈ Tb := inTb (List.mem_of_getElem? (i := 857) (by decide +kernel)) (by decide +kernel)
theorem selX6_sumOn : Cond.selects RX6 yX6_sumOn yX6_sumOn ∈ Tb := inTb (List.mem_of_getElem? (i := 31) (by decide +kernel)) (by decide +kernel)
abbrev mX6_text : MI := (yX6_text, cX6_text, 3, some .int)
theorem okX6_text : Mok mX6_text 0 := ⟨inTb (List.mem_of_getElem? (i := 813) (by decide +kernel)) (by decide +kernel), inTb (List.mem_of_getElem? (i := 54) (by decide +kernel)) (by decide +kernel), ⟨by decide +kernel, by decide +kernel, by decide +kernel⟩, by decide⟩
theorem insX6_text : Cond.instanceMethod yX6_text ∈ Tb := inTb (List.mem_of_getElem? (i := 811) (by decide +kernel)) (by decide +kernel)
theorem selX6_text : Cond.selects RX6 yX6_text yX6_text ∈ Tb := inTb (List.mem_of_getElem? (i := 812) (by decide +kernel)) (by decide +kernel)
abbrev mX6_tickOn : MI := (yX6_tickOn, cX6_tickOn, 6, some .int)
theorem okX6_tickOn : Mok mX6_tickOn 2 := ⟨inTb (List.mem_of_getElem? (i := 916) (by decide +kernel)) (by decide +kernel), inTb (List.mem_of_getElem? (i := 54) (by decide +kernel)) (by decide +kernel), ⟨by decide +kernel, by decide +kernel, by decide +kernel⟩, by decide⟩
theorem insX6_tickOn : Cond.instanceMethod yX6_tickOn ∈ Tb := inTb (List.mem_of_getElem? (i := 915) (by decide +kernel)) (by decide +kernel)
theorem selX6_tickOn : Cond.selects RX6 yX6_tickOn yX6_tickOn ∈ Tb := inTb (List.mem_of_getElem? (i := 37) (by decide +kernel)) (by decide +kernel)
abbrev mX6_ticks : MI := (yX6_ticks, cX6_ticks, 4, some .int)
theorem okX6_ticks : Mok mX6_ticks 1 := ⟨inTb (List.mem_of_getElem? (i := 911) (by decide +kernel)) (by decide +kernel), inTb (List.mem_of_getElem? (i := 54) (by decide +kernel)) (by decide +kernel), ⟨by decide +kernel, by decide +kernel, by decide +kernel⟩, by decide⟩
theorem insX6_ticks : Cond.instanceMethod yX6_ticks ∈ Tb := inTb (List.mem_of_getElem? (i := 909) (by decide +kernel)) (by decide +kernel)
theorem selX6_ticks : Cond.selects RX6 yX6_ticks yX6_ticks ∈ Tb := inTb (List.mem_of_getElem? (i := 910) (by decide +kernel)) (by decide +kernel)
abbrev mX6_ticksGo : MI := (yX6_ticksGo, cX6_ticksGo, 7, some .int)
theorem okX6_ticksGo : Mok mX6_ticksGo 2 := ⟨inTb (List.mem_of_getElem? (i := 928) (by decide +kernel)) (by decide +kernel), inTb (List.mem_of_getElem? (i := 54) (by decide +kernel)) (by decide +kernel), ⟨by decide +kernel, by decide +kernel, by decide +kernel⟩, by decide⟩
theorem insX6_ticksGo : Cond.instanceMethod yX6_ticksGo ∈ Tb := inTb (List.mem_of_getElem? (i := 927) (by decide +kernel)) (by decide +kernel)
theorem selX6_ticksGo : Cond.selects RX6 yX6_ticksGo yX6_ticksGo ∈ Tb := inTb (List.mem_of_getElem? (i := 38) (by decide +kernel)) (by decide +kernel)
abbrev mX6_together : MI := (yX6_together, cX6_together, 2, some .int)
theorem okX6_together : Mok mX6_together 0 := ⟨inTb (List.mem_of_getElem? (i := 948) (by decide +kernel)) (by decide +kernel), inTb (List.mem_of_getElem? (i := 54) (by decide +kernel)) (by decide +kernel), ⟨by decide +kernel, by decide +kernel, by decide +kernel⟩, by decide⟩
theorem insX6_together : Cond.instanceMethod yX6_together ∈ Tb := inTb (List.mem_of_getElem? (i := 946) (by decide +kernel)) (by decide +kernel)
theorem selX6_together : Cond.selects RX6 yX6_together yX6_together ∈ Tb := inTb (List.mem_of_getElem? (i := 947) (by decide +kernel)) (by decide +kernel)
abbrev mX6_torn : MI := (yX6_torn, cX6_torn, 1, some .int)
theorem okX6_torn : Mok mX6_torn 0 := ⟨inTb (List.mem_of_getElem? (i := 1065) (by decide +kernel)) (by decide +kernel), inTb (List.mem_of_getElem? (i := 54) (by decide +kernel)) (by decide +kernel), ⟨by decide +kernel, by decide +kernel, by decide +kernel⟩, by decide⟩
theorem insX6_torn : Cond.instanceMethod yX6_torn ∈ Tb := inTb (List.mem_of_getElem? (i := 1063) (by decide +kernel)) (by decide +kernel)
theorem selX6_torn : Cond.selects RX6 yX6_torn yX6_torn ∈ Tb := inTb (List.mem_of_getElem? (i := 1064) (by decide +kernel)) (by decide +kernel)
theorem lkX5_59 : Cond.methodLink RX5 59 yX5_isWithin ∈ Tb := inTb (List.mem_of_getElem? (i := 245) (by decide +kernel)) (by decide +kernel)
theorem lkX5_71 : Cond.methodLink RX5 71 yX0_empty ∈ Tb := inTb (List.mem_of_getElem? (i := 256) (by decide +kernel)) (by decide +kernel)
theorem lkX5_74 : Cond.methodLink RX5 74 yX2_readText ∈ Tb := inTb (List.mem_of_getElem? (i := 260) (by decide +kernel)) (by decide +kernel)
theorem lkX5_87 : Cond.methodLink RX5 87 yX0_takeFrom ∈ Tb := inTb (List.mem_of_getElem? (i := 366) (by decide +kernel)) (by decide +kernel)
theorem lkX5_108 : Cond.methodLink RX5 108 yX5_sumOf ∈ Tb := inTb (List.mem_of_getElem? (i := 381) (by decide +kernel)) (by decide +kernel)
theorem lkX5_112 : Cond.methodLink RX5 112 yX5_tryNow ∈ Tb := inTb (List.mem_of_getElem? (i := 385) (by decide +kernel)) (by decide +kernel)
theorem lkX5_116 : Cond.methodLink RX5 116 yX0_step ∈ Tb := inTb (List.mem_of_getElem? (i := 389) (by decide +kernel)) (by decide +kernel)
theorem lkX5_123 : Cond.methodLink RX5 123 yX5_isClock ∈ Tb := inTb (List.mem_of_getElem? (i := 432) (by decide +kernel)) (by decide +kernel)
theorem lkX5_133 : Cond.methodLink RX5 133 yX0_goesOn ∈ Tb := inTb (List.mem_of_getElem? (i := 436) (by decide +kernel)) (by decide +kernel)
theorem lkX5_136 : Cond.methodLink RX5 136 yX0_alterKind ∈ Tb := inTb (List.mem_of_getElem? (i := 441) (by decide +kernel)) (by decide +kernel)
theorem lkX5_140 : Cond.methodLink RX5 140 yX0_alterPeriod ∈ Tb := inTb (List.mem_of_getElem? (i := 446) (by decide +kernel)) (by decide +kernel)
theorem lkX5_143 : Cond.methodLink RX5 143 yX0_alterHand ∈ Tb := inTb (List.mem_of_getElem? (i := 450) (by decide +kernel)) (by decide +kernel)
theorem lkX5_146 : Cond.methodLink RX5 146 yX0_addClock ∈ Tb := inTb (List.mem_of_getElem? (i := 462) (by decide +kernel)) (by decide +kernel)
theorem lkX5_150 : Cond.methodLink RX5 150 yX0_shift ∈ Tb := inTb (List.mem_of_getElem? (i := 471) (by decide +kernel)) (by decide +kernel)
theorem lkX5_154 : Cond.methodLink RX5 154 yX0_stepMany ∈ Tb := inTb (List.mem_of_getElem? (i := 476) (by decide +kernel)) (by decide +kernel)
theorem lkX5_158 : Cond.methodLink RX5 158 yX0_everyClock ∈ Tb := inTb (List.mem_of_getElem? (i := 489) (by decide +kernel)) (by decide +kernel)
theorem lkX5_162 : Cond.methodLink RX5 162 yJ6_bitCount_0f7a4 ∈ Tb := inTb (List.mem_of_getElem? (i := 493) (by decide +kernel)) (by decide +kernel)
theorem lkX5_167 : Cond.methodLink RX5 167 yJ9_max_7cf53 ∈ Tb := inTb (List.mem_of_getElem? (i := 494) (by decide +kernel)) (by decide +kernel)
theorem lkX5_172 : Cond.methodLink RX5 172 yX0_sumOfHands ∈ Tb := inTb (List.mem_of_getElem? (i := 495) (by decide +kernel)) (by decide +kernel)
theorem lkX5_175 : Cond.methodLink RX5 175 yX0_firstTogether ∈ Tb := inTb (List.mem_of_getElem? (i := 511) (by decide +kernel)) (by decide +kernel)
theorem lkX5_178 : Cond.methodLink RX5 178 yX0_hasHandsOf ∈ Tb := inTb (List.mem_of_getElem? (i := 520) (by decide +kernel)) (by decide +kernel)
theorem lkX5_182 : Cond.methodLink RX5 182 yX1_restart ∈ Tb := inTb (List.mem_of_getElem? (i := 528) (by decide +kernel)) (by decide +kernel)
theorem lkX5_186 : Cond.methodLink RX5 186 yX5_tryPeriod ∈ Tb := inTb (List.mem_of_getElem? (i := 532) (by decide +kernel)) (by decide +kernel)
theorem lkX5_190 : Cond.methodLink RX5 190 yX1_offer ∈ Tb := inTb (List.mem_of_getElem? (i := 537) (by decide +kernel)) (by decide +kernel)
theorem lkX5_194 : Cond.methodLink RX5 194 yX1_answer ∈ Tb := inTb (List.mem_of_getElem? (i := 542) (by decide +kernel)) (by decide +kernel)
theorem lkX5_197 : Cond.methodLink RX5 197 yX5_tryHand ∈ Tb := inTb (List.mem_of_getElem? (i := 550) (by decide +kernel)) (by decide +kernel)
theorem lkX5_200 : Cond.methodLink RX5 200 yX5_tryKind ∈ Tb := inTb (List.mem_of_getElem? (i := 558) (by decide +kernel)) (by decide +kernel)
theorem lkX5_203 : Cond.methodLink RX5 203 yX0_takeAway ∈ Tb := inTb (List.mem_of_getElem? (i := 570) (by decide +kernel)) (by decide +kernel)
theorem lkX5_208 : Cond.methodLink RX5 208 yX0_stepHeld ∈ Tb := inTb (List.mem_of_getElem? (i := 579) (by decide +kernel)) (by decide +kernel)
theorem lkX5_211 : Cond.methodLink RX5 211 yX5_isBitSet ∈ Tb := inTb (List.mem_of_getElem? (i := 580) (by decide +kernel)) (by decide +kernel)
theorem lkX5_215 : Cond.methodLink RX5 215 yX5_weightOf ∈ Tb := inTb (List.mem_of_getElem? (i := 581) (by decide +kernel)) (by decide +kernel)
theorem lkX5_219 : Cond.methodLink RX5 219 yX5_powerOf ∈ Tb := inTb (List.mem_of_getElem? (i := 584) (by decide +kernel)) (by decide +kernel)
theorem lkX5_223 : Cond.methodLink RX5 223 yX5_fraction ∈ Tb := inTb (List.mem_of_getElem? (i := 587) (by decide +kernel)) (by decide +kernel)
theorem lkX5_227 : Cond.methodLink RX5 227 yX3_add ∈ Tb := inTb (List.mem_of_getElem? (i := 601) (by decide +kernel)) (by decide +kernel)
theorem lkX5_230 : Cond.methodLink RX5 230 yX3_fits ∈ Tb := inTb (List.mem_of_getElem? (i := 613) (by decide +kernel)) (by decide +kernel)
theorem lkX5_233 : Cond.methodLink RX5 233 yX5_handsAsSeen ∈ Tb := inTb (List.mem_of_getElem? (i := 635) (by decide +kernel)) (by decide +kernel)
theorem lkX5_236 : Cond.methodLink RX5 236 yX5_listenForAll ∈ Tb := inTb (List.mem_of_getElem? (i := 643) (by decide +kernel)) (by decide +kernel)
theorem lkX5_240 : Cond.methodLink RX5 240 yX5_isSheet ∈ Tb := inTb (List.mem_of_getElem? (i := 667) (by decide +kernel)) (by decide +kernel)
theorem lkX5_243 : Cond.methodLink RX5 243 yX4_begin ∈ Tb := inTb (List.mem_of_getElem? (i := 670) (by decide +kernel)) (by decide +kernel)
theorem lkX5_246 : Cond.methodLink RX5 246 yX4_faultAt ∈ Tb := inTb (List.mem_of_getElem? (i := 679) (by decide +kernel)) (by decide +kernel)
theorem lkX5_249 : Cond.methodLink RX5 249 yX4_put ∈ Tb := inTb (List.mem_of_getElem? (i := 683) (by decide +kernel)) (by decide +kernel)
theorem lkX5_252 : Cond.methodLink RX5 252 yX4_faultOfPair ∈ Tb := inTb (List.mem_of_getElem? (i := 691) (by decide +kernel)) (by decide +kernel)
theorem lkX5_258 : Cond.methodLink RX5 258 yX0_takesHand ∈ Tb := inTb (List.mem_of_getElem? (i := 696) (by decide +kernel)) (by decide +kernel)
theorem lkX5_264 : Cond.methodLink RX5 264 yX5_imagesKept ∈ Tb := inTb (List.mem_of_getElem? (i := 709) (by decide +kernel)) (by decide +kernel)
theorem lkX5_273 : Cond.methodLink RX5 273 yJ9_min_7cf53 ∈ Tb := inTb (List.mem_of_getElem? (i := 536) (by decide +kernel)) (by decide +kernel)
theorem lkX5_276 : Cond.methodLink RX5 276 yJ7_fill_53178 ∈ Tb := inTb (List.mem_of_getElem? (i := 647) (by decide +kernel)) (by decide +kernel)
theorem lkX5_282 : Cond.methodLink RX5 282 yX5_commonDivisor ∈ Tb := inTb (List.mem_of_getElem? (i := 590) (by decide +kernel)) (by decide +kernel)
theorem lkX0_34 : Cond.methodLink RX0 34 arraycopyName ∈ Tb := inTb (List.mem_of_getElem? (i := 370) (by decide +kernel)) (by decide +kernel)
theorem lkX0_44 : Cond.methodLink RX0 44 yX0_alterHand ∈ Tb := inTb (List.mem_of_getElem? (i := 700) (by decide +kernel)) (by decide +kernel)
theorem lkX0_48 : Cond.methodLink RX0 48 yX0_shove ∈ Tb := inTb (List.mem_of_getElem? (i := 414) (by decide +kernel)) (by decide +kernel)
theorem lkX0_51 : Cond.methodLink RX0 51 yX0_goesOn ∈ Tb := inTb (List.mem_of_getElem? (i := 418) (by decide +kernel)) (by decide +kernel)
theorem lkX0_55 : Cond.methodLink RX0 55 yJ9_min_7cf53 ∈ Tb := inTb (List.mem_of_getElem? (i := 422) (by decide +kernel)) (by decide +kernel)
theorem lkX0_60 : Cond.methodLink RX0 60 yJ9_max_7cf53 ∈ Tb := inTb (List.mem_of_getElem? (i := 425) (by decide +kernel)) (by decide +kernel)
theorem lkX0_63 : Cond.methodLink RX0 63 yX0_moveHands ∈ Tb := inTb (List.mem_of_getElem? (i := 393) (by decide +kernel)) (by decide +kernel)
theorem lkX0_67 : Cond.methodLink RX0 67 yX0_shake ∈ Tb := inTb (List.mem_of_getElem? (i := 397) (by decide +kernel)) (by decide +kernel)
theorem lkX0_71 : Cond.methodLink RX0 71 yJ6_bitCount_0f7a4 ∈ Tb := inTb (List.mem_of_getElem? (i := 401) (by decide +kernel)) (by decide +kernel)
theorem lkX0_81 : Cond.methodLink RX0 81 yX0_shift ∈ Tb := inTb (List.mem_of_getElem? (i := 410) (by decide +kernel)) (by decide +kernel)
theorem lkX0_85 : Cond.methodLink RX0 85 yX0_stepHeld ∈ Tb := inTb (List.mem_of_getElem? (i := 480) (by decide +kernel)) (by decide +kernel)
theorem lkX0_88 : Cond.methodLink RX0 88 yX0_step ∈ Tb := inTb (List.mem_of_getElem? (i := 484) (by decide +kernel)) (by decide +kernel)
theorem lkX0_92 : Cond.methodLink RX0 92 yX0_everyClock ∈ Tb := inTb (List.mem_of_getElem? (i := 515) (by decide +kernel)) (by decide +kernel)
theorem lkX1_21 : Cond.methodLink RX1 21 yX0_firstTogether ∈ Tb := inTb (List.mem_of_getElem? (i := 541) (by decide +kernel)) (by decide +kernel)
theorem lkX2_32 : Cond.methodLink RX2 32 yX2_nextToken ∈ Tb := inTb (List.mem_of_getElem? (i := 264) (by decide +kernel)) (by decide +kernel)
theorem lkX2_38 : Cond.methodLink RX2 38 yX2_readLine ∈ Tb := inTb (List.mem_of_getElem? (i := 277) (by decide +kernel)) (by decide +kernel)
theorem lkX2_42 : Cond.methodLink RX2 42 yX2_lineNamed ∈ Tb := inTb (List.mem_of_getElem? (i := 281) (by decide +kernel)) (by decide +kernel)
theorem lkX2_46 : Cond.methodLink RX2 46 yX2_refuse ∈ Tb := inTb (List.mem_of_getElem? (i := 273) (by decide +kernel)) (by decide +kernel)
theorem lkX2_50 : Cond.methodLink RX2 50 yX2_readPush ∈ Tb := inTb (List.mem_of_getElem? (i := 342) (by decide +kernel)) (by decide +kernel)
theorem lkX2_53 : Cond.methodLink RX2 53 yX2_readClock ∈ Tb := inTb (List.mem_of_getElem? (i := 358) (by decide +kernel)) (by decide +kernel)
theorem lkX2_57 : Cond.methodLink RX2 57 yX2_readNumber ∈ Tb := inTb (List.mem_of_getElem? (i := 346) (by decide +kernel)) (by decide +kernel)
theorem lkX2_66 : Cond.methodLink RX2 66 yX2_readSemicolon ∈ Tb := inTb (List.mem_of_getElem? (i := 354) (by decide +kernel)) (by decide +kernel)
theorem lkX2_72 : Cond.methodLink RX2 72 yX0_addClock ∈ Tb := inTb (List.mem_of_getElem? (i := 362) (by decide +kernel)) (by decide +kernel)
theorem lkX2_76 : Cond.methodLink RX2 76 yX2_numberRead ∈ Tb := inTb (List.mem_of_getElem? (i := 350) (by decide +kernel)) (by decide +kernel)
theorem lkX2_89 : Cond.methodLink RX2 89 yX2_passBytes ∈ Tb := inTb (List.mem_of_getElem? (i := 269) (by decide +kernel)) (by decide +kernel)
theorem lkX2_95 : Cond.methodLink RX2 95 yX2_isName ∈ Tb := inTb (List.mem_of_getElem? (i := 286) (by decide +kernel)) (by decide +kernel)
theorem lkX2_106 : Cond.methodLink RX2 106 yJ0_length_8abf5 ∈ Tb := inTb (List.mem_of_getElem? (i := 290) (by decide +kernel)) (by decide +kernel)
theorem lkX2_110 : Cond.methodLink RX2 110 yJ0_charAt_5068e ∈ Tb := inTb (List.mem_of_getElem? (i := 300) (by decide +kernel)) (by decide +kernel)
theorem lkX3_25 : Cond.methodLink RX3 25 yX3_lastTick ∈ Tb := inTb (List.mem_of_getElem? (i := 617) (by decide +kernel)) (by decide +kernel)
theorem lkX3_29 : Cond.methodLink RX3 29 yX0_step ∈ Tb := inTb (List.mem_of_getElem? (i := 622) (by decide +kernel)) (by decide +kernel)
theorem lkX3_35 : Cond.methodLink RX3 35 yX3_fitsIn ∈ Tb := inTb (List.mem_of_getElem? (i := 623) (by decide +kernel)) (by decide +kernel)
theorem lkX3_39 : Cond.methodLink RX3 39 yJ9_max_7cf53 ∈ Tb := inTb (List.mem_of_getElem? (i := 621) (by decide +kernel)) (by decide +kernel)
theorem lkX4_22 : Cond.methodLink RX4 22 yJ7_fill_53178 ∈ Tb := inTb (List.mem_of_getElem? (i := 674) (by decide +kernel)) (by decide +kernel)
theorem lkX4_28 : Cond.methodLink RX4 28 yX4_faultAt ∈ Tb := inTb (List.mem_of_getElem? (i := 695) (by decide +kernel)) (by decide +kernel)
theorem lkL_9 : Cond.methodLink RL 9 yX5_init ∈ Tb := inTb (List.mem_of_getElem? (i := 65) (by decide +kernel)) (by decide +kernel)
theorem lkL_12 : Cond.methodLink RL 12 yX6_init ∈ Tb := inTb (List.mem_of_getElem? (i := 715) (by decide +kernel)) (by decide +kernel)
theorem lkL_13 : Cond.methodLink RL 13 yX5_feed ∈ Tb := inTb (List.mem_of_getElem? (i := 241) (by decide +kernel)) (by decide +kernel)
theorem lkL_17 : Cond.methodLink RL 17 yX6_feed ∈ Tb := inTb (List.mem_of_getElem? (i := 798) (by decide +kernel)) (by decide +kernel)
theorem lkL_18 : Cond.methodLink RL 18 yX5_end ∈ Tb := inTb (List.mem_of_getElem? (i := 248) (by decide +kernel)) (by decide +kernel)
theorem lkL_21 : Cond.methodLink RL 21 yX6_end ∈ Tb := inTb (List.mem_of_getElem? (i := 806) (by decide +kernel)) (by decide +kernel)
theorem lkL_22 : Cond.methodLink RL 22 yX5_text ∈ Tb := inTb (List.mem_of_getElem? (i := 252) (by decide +kernel)) (by decide +kernel)
theorem lkL_26 : Cond.methodLink RL 26 yX6_text ∈ Tb := inTb (List.mem_of_getElem? (i := 810) (by decide +kernel)) (by decide +kernel)
theorem lkL_27 : Cond.methodLink RL 27 yX5_fault ∈ Tb := inTb (List.mem_of_getElem? (i := 373) (by decide +kernel)) (by decide +kernel)
theorem lkL_30 : Cond.methodLink RL 30 yX6_fault ∈ Tb := inTb (List.mem_of_getElem? (i := 847) (by decide +kernel)) (by decide +kernel)
theorem lkL_31 : Cond.methodLink RL 31 yX5_rule ∈ Tb := inTb (List.mem_of_getElem? (i := 377) (by decide +kernel)) (by decide +kernel)
theorem lkL_34 : Cond.methodLink RL 34 yX6_rule ∈ Tb := inTb (List.mem_of_getElem? (i := 851) (by decide +kernel)) (by decide +kernel)
theorem lkL_35 : Cond.methodLink RL 35 yX5_clock ∈ Tb := inTb (List.mem_of_getElem? (i := 428) (by decide +kernel)) (by decide +kernel)
theorem lkL_39 : Cond.methodLink RL 39 yX6_clock ∈ Tb := inTb (List.mem_of_getElem? (i := 863) (by decide +kernel)) (by decide +kernel)
theorem lkL_40 : Cond.methodLink RL 40 yX5_alter ∈ Tb := inTb (List.mem_of_getElem? (i := 437) (by decide +kernel)) (by decide +kernel)
theorem lkL_44 : Cond.methodLink RL 44 yX6_alter ∈ Tb := inTb (List.mem_of_getElem? (i := 875) (by decide +kernel)) (by decide +kernel)
theorem lkL_45 : Cond.methodLink RL 45 yX5_push ∈ Tb := inTb (List.mem_of_getElem? (i := 454) (by decide +kernel)) (by decide +kernel)
theorem lkL_48 : Cond.methodLink RL 48 yX6_push ∈ Tb := inTb (List.mem_of_getElem? (i := 887) (by decide +kernel)) (by decide +kernel)
theorem lkL_49 : Cond.methodLink RL 49 yX5_hang ∈ Tb := inTb (List.mem_of_getElem? (i := 458) (by decide +kernel)) (by decide +kernel)
theorem lkL_52 : Cond.methodLink RL 52 yX6_hang ∈ Tb := inTb (List.mem_of_getElem? (i := 892) (by decide +kernel)) (by decide +kernel)
theorem lkL_53 : Cond.methodLink RL 53 yX5_cut ∈ Tb := inTb (List.mem_of_getElem? (i := 463) (by decide +kernel)) (by decide +kernel)
theorem lkL_56 : Cond.methodLink RL 56 yX6_cut ∈ Tb := inTb (List.mem_of_getElem? (i := 896) (by decide +kernel)) (by decide +kernel)
theorem lkL_57 : Cond.methodLink RL 57 yX5_knock ∈ Tb := inTb (List.mem_of_getElem? (i := 467) (by decide +kernel)) (by decide +kernel)
theorem lkL_60 : Cond.methodLink RL 60 yX6_knock ∈ Tb := inTb (List.mem_of_getElem? (i := 900) (by decide +kernel)) (by decide +kernel)
theorem lkL_61 : Cond.methodLink RL 61 yX5_ticks ∈ Tb := inTb (List.mem_of_getElem? (i := 472) (by decide +kernel)) (by decide +kernel)
theorem lkL_64 : Cond.methodLink RL 64 yX6_ticks ∈ Tb := inTb (List.mem_of_getElem? (i := 908) (by decide +kernel)) (by decide +kernel)
theorem lkL_65 : Cond.methodLink RL 65 yX5_runs ∈ Tb := inTb (List.mem_of_getElem? (i := 485) (by decide +kernel)) (by decide +kernel)
theorem lkL_68 : Cond.methodLink RL 68 yX6_runs ∈ Tb := inTb (List.mem_of_getElem? (i := 920) (by decide +kernel)) (by decide +kernel)
theorem lkL_69 : Cond.methodLink RL 69 yX5_ahead ∈ Tb := inTb (List.mem_of_getElem? (i := 499) (by decide +kernel)) (by decide +kernel)
theorem lkL_72 : Cond.methodLink RL 72 yX6_ahead ∈ Tb := inTb (List.mem_of_getElem? (i := 937) (by decide +kernel)) (by decide +kernel)
theorem lkL_73 : Cond.methodLink RL 73 yX5_beats ∈ Tb := inTb (List.mem_of_getElem? (i := 503) (by decide +kernel)) (by decide +kernel)
theorem lkL_76 : Cond.methodLink RL 76 yX6_beats ∈ Tb := inTb (List.mem_of_getElem? (i := 941) (by decide +kernel)) (by decide +kernel)
theorem lkL_77 : Cond.methodLink RL 77 yX5_together ∈ Tb := inTb (List.mem_of_getElem? (i := 507) (by decide +kernel)) (by decide +kernel)
theorem lkL_80 : Cond.methodLink RL 80 yX6_together ∈ Tb := inTb (List.mem_of_getElem? (i := 945) (by decide +kernel)) (by decide +kernel)
theorem lkL_81 : Cond.methodLink RL 81 yX5_again ∈ Tb := inTb (List.mem_of_getElem? (i := 516) (by decide +kernel)) (by decide +kernel)
theorem lkL_84 : Cond.methodLink RL 84 yX6_again ∈ Tb := inTb (List.mem_of_getElem? (i := 953) (by decide +kernel)) (by decide +kernel)
theorem lkL_85 : Cond.methodLink RL 85 yX5_period ∈ Tb := inTb (List.mem_of_getElem? (i := 524) (by decide +kernel)) (by decide +kernel)
theorem lkL_88 : Cond.methodLink RL 88 yX6_period ∈ Tb := inTb (List.mem_of_getElem? (i := 957) (by decide +kernel)) (by decide +kernel)
theorem lkL_89 : Cond.methodLink RL 89 yX5_hand ∈ Tb := inTb (List.mem_of_getElem? (i := 546) (by decide +kernel)) (by decide +kernel)
theorem lkL_92 : Cond.methodLink RL 92 yX6_hand ∈ Tb := inTb (List.mem_of_getElem? (i := 965) (by decide +kernel)) (by decide +kernel)
theorem lkL_93 : Cond.methodLink RL 93 yX5_kind ∈ Tb := inTb (List.mem_of_getElem? (i := 554) (by decide +kernel)) (by decide +kernel)
theorem lkL_96 : Cond.methodLink RL 96 yX6_kind ∈ Tb := inTb (List.mem_of_getElem? (i := 973) (by decide +kernel)) (by decide +kernel)
theorem lkL_97 : Cond.methodLink RL 97 yX5_force ∈ Tb := inTb (List.mem_of_getElem? (i := 562) (by decide +kernel)) (by decide +kernel)
theorem lkL_100 : Cond.methodLink RL 100 yX6_force ∈ Tb := inTb (List.mem_of_getElem? (i := 977) (by decide +kernel)) (by decide +kernel)
theorem lkL_101 : Cond.methodLink RL 101 yX5_away ∈ Tb := inTb (List.mem_of_getElem? (i := 566) (by decide +kernel)) (by decide +kernel)
theorem lkL_104 : Cond.methodLink RL 104 yX6_away ∈ Tb := inTb (List.mem_of_getElem? (i := 981) (by decide +kernel)) (by decide +kernel)
theorem lkL_105 : Cond.methodLink RL 105 yX5_luck ∈ Tb := inTb (List.mem_of_getElem? (i := 574) (by decide +kernel)) (by decide +kernel)
theorem lkL_109 : Cond.methodLink RL 109 yX6_luck ∈ Tb := inTb (List.mem_of_getElem? (i := 985) (by decide +kernel)) (by decide +kernel)
theorem lkL_110 : Cond.methodLink RL 110 yX5_mean ∈ Tb := inTb (List.mem_of_getElem? (i := 593) (by decide +kernel)) (by decide +kernel)
theorem lkL_114 : Cond.methodLink RL 114 yX6_mean ∈ Tb := inTb (List.mem_of_getElem? (i := 999) (by decide +kernel)) (by decide +kernel)
theorem lkL_115 : Cond.methodLink RL 115 yX5_see ∈ Tb := inTb (List.mem_of_getElem? (i := 597) (by decide +kernel)) (by decide +kernel)
theorem lkL_118 : Cond.methodLink RL 118 yX6_see ∈ Tb := inTb (List.mem_of_getElem? (i := 1003) (by decide +kernel)) (by decide +kernel)
theorem lkL_119 : Cond.methodLink RL 119 yX5_forget ∈ Tb := inTb (List.mem_of_getElem? (i := 605) (by decide +kernel)) (by decide +kernel)
theorem lkL_122 : Cond.methodLink RL 122 yX6_forget ∈ Tb := inTb (List.mem_of_getElem? (i := 1008) (by decide +kernel)) (by decide +kernel)
theorem lkL_123 : Cond.methodLink RL 123 yX5_kinds ∈ Tb := inTb (List.mem_of_getElem? (i := 609) (by decide +kernel)) (by decide +kernel)
theorem lkL_126 : Cond.methodLink RL 126 yX6_kinds ∈ Tb := inTb (List.mem_of_getElem? (i := 1012) (by decide +kernel)) (by decide +kernel)
theorem lkL_127 : Cond.methodLink RL 127 yX5_periods ∈ Tb := inTb (List.mem_of_getElem? (i := 627) (by decide +kernel)) (by decide +kernel)
theorem lkL_130 : Cond.methodLink RL 130 yX6_periods ∈ Tb := inTb (List.mem_of_getElem? (i := 1020) (by decide +kernel)) (by decide +kernel)
theorem lkL_131 : Cond.methodLink RL 131 yX5_hands ∈ Tb := inTb (List.mem_of_getElem? (i := 631) (by decide +kernel)) (by decide +kernel)
theorem lkL_134 : Cond.methodLink RL 134 yX6_hands ∈ Tb := inTb (List.mem_of_getElem? (i := 1024) (by decide +kernel)) (by decide +kernel)
theorem lkL_135 : Cond.methodLink RL 135 yX5_ask ∈ Tb := inTb (List.mem_of_getElem? (i := 639) (by decide +kernel)) (by decide +kernel)
theorem lkL_138 : Cond.methodLink RL 138 yX6_ask ∈ Tb := inTb (List.mem_of_getElem? (i := 1032) (by decide +kernel)) (by decide +kernel)
theorem lkL_139 : Cond.methodLink RL 139 yX5_drift ∈ Tb := inTb (List.mem_of_getElem? (i := 650) (by decide +kernel)) (by decide +kernel)
theorem lkL_142 : Cond.methodLink RL 142 yX6_drift ∈ Tb := inTb (List.mem_of_getElem? (i := 1036) (by decide +kernel)) (by decide +kernel)
theorem lkL_143 : Cond.methodLink RL 143 yX5_keep ∈ Tb := inTb (List.mem_of_getElem? (i := 655) (by decide +kernel)) (by decide +kernel)
theorem lkL_146 : Cond.methodLink RL 146 yX6_keep ∈ Tb := inTb (List.mem_of_getElem? (i := 1041) (by decide +kernel)) (by decide +kernel)
theorem lkL_147 : Cond.methodLink RL 147 yX5_back ∈ Tb := inTb (List.mem_of_getElem? (i := 659) (by decide +kernel)) (by decide +kernel)
theorem lkL_150 : Cond.methodLink RL 150 yX6_back ∈ Tb := inTb (List.mem_of_getElem? (i := 1045) (by decide +kernel)) (by decide +kernel)
theorem lkL_151 : Cond.methodLink RL 151 yX5_sheet ∈ Tb := inTb (List.mem_of_getElem? (i := 663) (by decide +kernel)) (by decide +kernel)
theorem lkL_154 : Cond.methodLink RL 154 yX6_sheet ∈ Tb := inTb (List.mem_of_getElem? (i := 1049) (by decide +kernel)) (by decide +kernel)
theorem lkL_155 : Cond.methodLink RL 155 yX5_lay ∈ Tb := inTb (List.mem_of_getElem? (i := 675) (by decide +kernel)) (by decide +kernel)
theorem lkL_158 : Cond.methodLink RL 158 yX6_lay ∈ Tb := inTb (List.mem_of_getElem? (i := 1053) (by decide +kernel)) (by decide +kernel)
theorem lkL_159 : Cond.methodLink RL 159 yX5_read ∈ Tb := inTb (List.mem_of_getElem? (i := 687) (by decide +kernel)) (by decide +kernel)
theorem lkL_163 : Cond.methodLink RL 163 yX6_read ∈ Tb := inTb (List.mem_of_getElem? (i := 1057) (by decide +kernel)) (by decide +kernel)
theorem lkL_164 : Cond.methodLink RL 164 yX5_torn ∈ Tb := inTb (List.mem_of_getElem? (i := 701) (by decide +kernel)) (by decide +kernel)
theorem lkL_167 : Cond.methodLink RL 167 yX6_torn ∈ Tb := inTb (List.mem_of_getElem? (i := 1062) (by decide +kernel)) (by decide +kernel)
theorem lkL_168 : Cond.methodLink RL 168 yX5_count ∈ Tb := inTb (List.mem_of_getElem? (i := 705) (by decide +kernel)) (by decide +kernel)
theorem lkL_171 : Cond.methodLink RL 171 yX6_count ∈ Tb := inTb (List.mem_of_getElem? (i := 1066) (by decide +kernel)) (by decide +kernel)
theorem lkX6_50 : Cond.methodLink RX6 50 yX6_in ∈ Tb := inTb (List.mem_of_getElem? (i := 803) (by decide +kernel)) (by decide +kernel)
theorem lkX6_72 : Cond.methodLink RX6 72 yX6_byteAt ∈ Tb := inTb (List.mem_of_getElem? (i := 818) (by decide +kernel)) (by decide +kernel)
theorem lkX6_87 : Cond.methodLink RX6 87 yX6_fails ∈ Tb := inTb (List.mem_of_getElem? (i := 826) (by decide +kernel)) (by decide +kernel)
theorem lkX6_91 : Cond.methodLink RX6 91 yX6_step ∈ Tb := inTb (List.mem_of_getElem? (i := 814) (by decide +kernel)) (by decide +kernel)
theorem lkX6_94 : Cond.methodLink RX6 94 yX6_number ∈ Tb := inTb (List.mem_of_getElem? (i := 843) (by decide +kernel)) (by decide +kernel)
theorem lkX6_98 : Cond.methodLink RX6 98 yX6_nameHere ∈ Tb := inTb (List.mem_of_getElem? (i := 834) (by decide +kernel)) (by decide +kernel)
theorem lkX6_108 : Cond.methodLink RX6 108 yX6_readMore ∈ Tb := inTb (List.mem_of_getElem? (i := 839) (by decide +kernel)) (by decide +kernel)
theorem lkX6_111 : Cond.methodLink RX6 111 yX6_readLine ∈ Tb := inTb (List.mem_of_getElem? (i := 830) (by decide +kernel)) (by decide +kernel)
theorem lkX6_120 : Cond.methodLink RX6 120 yX6_isOnward ∈ Tb := inTb (List.mem_of_getElem? (i := 871) (by decide +kernel)) (by decide +kernel)
theorem lkX6_124 : Cond.methodLink RX6 124 yX6_beatsOn ∈ Tb := inTb (List.mem_of_getElem? (i := 859) (by decide +kernel)) (by decide +kernel)
theorem lkX6_127 : Cond.methodLink RX6 127 yX6_bitsOf ∈ Tb := inTb (List.mem_of_getElem? (i := 917) (by decide +kernel)) (by decide +kernel)
theorem lkX6_130 : Cond.methodLink RX6 130 yX6_pushedOn ∈ Tb := inTb (List.mem_of_getElem? (i := 904) (by decide +kernel)) (by decide +kernel)
theorem lkX6_134 : Cond.methodLink RX6 134 yX6_sumOn ∈ Tb := inTb (List.mem_of_getElem? (i := 855) (by decide +kernel)) (by decide +kernel)
theorem lkX6_137 : Cond.methodLink RX6 137 yX6_isClock ∈ Tb := inTb (List.mem_of_getElem? (i := 867) (by decide +kernel)) (by decide +kernel)
theorem lkX6_149 : Cond.methodLink RX6 149 yX6_alters ∈ Tb := inTb (List.mem_of_getElem? (i := 879) (by decide +kernel)) (by decide +kernel)
theorem lkX6_157 : Cond.methodLink RX6 157 yX6_tickOn ∈ Tb := inTb (List.mem_of_getElem? (i := 913) (by decide +kernel)) (by decide +kernel)
theorem lkX6_161 : Cond.methodLink RX6 161 yX6_copies ∈ Tb := inTb (List.mem_of_getElem? (i := 929) (by decide +kernel)) (by decide +kernel)
theorem lkX6_174 : Cond.methodLink RX6 174 yX6_allOn ∈ Tb := inTb (List.mem_of_getElem? (i := 933) (by decide +kernel)) (by decide +kernel)
theorem lkX6_179 : Cond.methodLink RX6 179 yX6_ticksGo ∈ Tb := inTb (List.mem_of_getElem? (i := 925) (by decide +kernel)) (by decide +kernel)
theorem lkX6_182 : Cond.methodLink RX6 182 yX6_meetOn ∈ Tb := inTb (List.mem_of_getElem? (i := 949) (by decide +kernel)) (by decide +kernel)
theorem lkX6_185 : Cond.methodLink RX6 185 yX6_periodOn ∈ Tb := inTb (List.mem_of_getElem? (i := 961) (by decide +kernel)) (by decide +kernel)
theorem lkX6_188 : Cond.methodLink RX6 188 yX6_soonestAt ∈ Tb := inTb (List.mem_of_getElem? (i := 969) (by decide +kernel)) (by decide +kernel)
theorem lkX6_194 : Cond.methodLink RX6 194 yX6_lowest ∈ Tb := inTb (List.mem_of_getElem? (i := 995) (by decide +kernel)) (by decide +kernel)
theorem lkX6_200 : Cond.methodLink RX6 200 yX6_byHeld ∈ Tb := inTb (List.mem_of_getElem? (i := 991) (by decide +kernel)) (by decide +kernel)
theorem lkX6_208 : Cond.methodLink RX6 208 yX6_isAsSeen ∈ Tb := inTb (List.mem_of_getElem? (i := 1016) (by decide +kernel)) (by decide +kernel)
theorem lkX6_211 : Cond.methodLink RX6 211 yX6_handsOf ∈ Tb := inTb (List.mem_of_getElem? (i := 1028) (by decide +kernel)) (by decide +kernel)
theorem lkJ0_335 : Cond.methodLink RJ0 335 yJ0_coder_7d493 ∈ Tb := inTb (List.mem_of_getElem? (i := 294) (by decide +kernel)) (by decide +kernel)
theorem lkJ0_492 : Cond.methodLink RJ0 492 yJ0_isLatin1_aae02 ∈ Tb := inTb (List.mem_of_getElem? (i := 304) (by decide +kernel)) (by decide +kernel)
theorem lkJ0_495 : Cond.methodLink RJ0 495 yJ1_charAt_3b067 ∈ Tb := inTb (List.mem_of_getElem? (i := 308) (by decide +kernel)) (by decide +kernel)
theorem lkJ0_498 : Cond.methodLink RJ0 498 yJ2_charAt_3b067 ∈ Tb := inTb (List.mem_of_getElem? (i := 319) (by decide +kernel)) (by decide +kernel)
theorem lkJ0_1059 : Cond.methodLink RJ0 1059 yJ3_checkIndex_8e157 ∈ Tb := inTb (List.mem_of_getElem? (i := 316) (by decide +kernel)) (by decide +kernel)
theorem lkJ1_9 : Cond.methodLink RJ1 9 yJ0_checkIndex_df160 ∈ Tb := inTb (List.mem_of_getElem? (i := 311) (by decide +kernel)) (by decide +kernel)
theorem lkJ2_48 : Cond.methodLink RJ2 48 yJ2_length_9d52b ∈ Tb := inTb (List.mem_of_getElem? (i := 325) (by decide +kernel)) (by decide +kernel)
theorem lkJ2_67 : Cond.methodLink RJ2 67 yJ2_checkIndex_2214a ∈ Tb := inTb (List.mem_of_getElem? (i := 322) (by decide +kernel)) (by decide +kernel)
theorem lkJ2_71 : Cond.methodLink RJ2 71 yJ2_getChar_3b067 ∈ Tb := inTb (List.mem_of_getElem? (i := 329) (by decide +kernel)) (by decide +kernel)
theorem lkJ2_414 : Cond.methodLink RJ2 414 yJ0_checkIndex_df160 ∈ Tb := inTb (List.mem_of_getElem? (i := 328) (by decide +kernel)) (by decide +kernel)
theorem flX5_12 : Cond.fieldLink RX5 12 (TX5 0).1 (TX5 0).2.1 (TX5 0).2.2.1 ∈ Tb := inTb (List.mem_of_getElem? (i := 207) (by decide +kernel)) (by decide +kernel)
theorem flX5_16 : Cond.fieldLink RX5 16 (TX5 1).1 (TX5 1).2.1 (TX5 1).2.2.1 ∈ Tb := inTb (List.mem_of_getElem? (i := 208) (by decide +kernel)) (by decide +kernel)
theorem flX5_19 : Cond.fieldLink RX5 19 (TX5 2).1 (TX5 2).2.1 (TX5 2).2.2.1 ∈ Tb := inTb (List.mem_of_getElem? (i := 209) (by decide +kernel)) (by decide +kernel)
theorem flX5_23 : Cond.fieldLink RX5 23 (TX5 3).1 (TX5 3).2.1 (TX5 3).2.2.1 ∈ Tb := inTb (List.mem_of_getElem? (i := 210) (by decide +kernel)) (by decide +kernel)
theorem flX5_30 : Cond.fieldLink RX5 30 (TX5 4).1 (TX5 4).2.1 (TX5 4).2.2.1 ∈ Tb := inTb (List.mem_of_getElem? (i := 211) (by decide +kernel)) (by decide +kernel)
theorem flX5_37 : Cond.fieldLink RX5 37 (TX5 5).1 (TX5 5).2.1 (TX5 5).2.2.1 ∈ Tb := inTb (List.mem_of_getElem? (i := 212) (by decide +kernel)) (by decide +kernel)
theorem flX5_43 : Cond.fieldLink RX5 43 (TX5 6).1 (TX5 6).2.1 (TX5 6).2.2.1 ∈ Tb := inTb (List.mem_of_getElem? (i := 213) (by decide +kernel)) (by decide +kernel)
theorem flX5_50 : Cond.fieldLink RX5 50 (TX5 7).1 (TX5 7).2.1 (TX5 7).2.2.1 ∈ Tb := inTb (List.mem_of_getElem? (i := 214) (by decide +kernel)) (by decide +kernel)
theorem flX5_54 : Cond.fieldLink RX5 54 (TX5 8).1 (TX5 8).2.1 (TX5 8).2.2.1 ∈ Tb := inTb (List.mem_of_getElem? (i := 215) (by decide +kernel)) (by decide +kernel)
theorem flX5_63 : Cond.fieldLink RX5 63 (TX2 1).1 (TX2 1).2.1 (TX2 1).2.2.1 ∈ Tb := inTb (List.mem_of_getElem? (i := 118) (by decide +kernel)) (by decide +kernel)
theorem flX5_67 : Cond.fieldLink RX5 67 (TX2 0).1 (TX2 0).2.1 (TX2 0).2.2.1 ∈ Tb := inTb (List.mem_of_getElem? (i := 117) (by decide +kernel)) (by decide +kernel)
theorem flX5_78 : Cond.fieldLink RX5 78 (TX2 2).1 (TX2 2).2.1 (TX2 2).2.2.1 ∈ Tb := inTb (List.mem_of_getElem? (i := 121) (by decide +kernel)) (by decide +kernel)
theorem flX5_81 : Cond.fieldLink RX5 81 (TX5 9).1 (TX5 9).2.1 (TX5 9).2.2.1 ∈ Tb := inTb (List.mem_of_getElem? (i := 216) (by decide +kernel)) (by decide +kernel)
theorem flX5_84 : Cond.fieldLink RX5 84 (TX2 3).1 (TX2 3).2.1 (TX2 3).2.2.1 ∈ Tb := inTb (List.mem_of_getElem? (i := 123) (by decide +kernel)) (by decide +kernel)
theorem flX5_90 : Cond.fieldLink RX5 90 (TX3 3).1 (TX3 3).2.1 (TX3 3).2.2.1 ∈ Tb := inTb (List.mem_of_getElem? (i := 161) (by decide +kernel)) (by decide +kernel)
theorem flX5_93 : Cond.fieldLink RX5 93 (TX2 4).1 (TX2 4).2.1 (TX2 4).2.2.1 ∈ Tb := inTb (List.mem_of_getElem? (i := 125) (by decide +kernel)) (by decide +kernel)
theorem flX5_96 : Cond.fieldLink RX5 96 (TX0 4).1 (TX0 4).2.1 (TX0 4).2.2.1 ∈ Tb := inTb (List.mem_of_getElem? (i := 87) (by decide +kernel)) (by decide +kernel)
theorem flX5_99 : Cond.fieldLink RX5 99 (TX0 5).1 (TX0 5).2.1 (TX0 5).2.2.1 ∈ Tb := inTb (List.mem_of_getElem? (i := 90) (by decide +kernel)) (by decide +kernel)
theorem flX5_102 : Cond.fieldLink RX5 102 (TX0 6).1 (TX0 6).2.1 (TX0 6).2.2.1 ∈ Tb := inTb (List.mem_of_getElem? (i := 92) (by decide +kernel)) (by decide +kernel)
theorem flX5_105 : Cond.fieldLink RX5 105 (TX0 3).1 (TX0 3).2.1 (TX0 3).2.2.1 ∈ Tb := inTb (List.mem_of_getElem? (i := 84) (by decide +kernel)) (by decide +kernel)
theorem flX5_120 : Cond.fieldLink RX5 120 (TX0 2).1 (TX0 2).2.1 (TX0 2).2.2.1 ∈ Tb := inTb (List.mem_of_getElem? (i := 82) (by decide +kernel)) (by decide +kernel)
theorem flX5_127 : Cond.fieldLink RX5 127 (TX0 0).1 (TX0 0).2.1 (TX0 0).2.2.1 ∈ Tb := inTb (List.mem_of_getElem? (i := 78) (by decide +kernel)) (by decide +kernel)
theorem flX5_130 : Cond.fieldLink RX5 130 (TX0 1).1 (TX0 1).2.1 (TX0 1).2.2.1 ∈ Tb := inTb (List.mem_of_getElem? (i := 80) (by decide +kernel)) (by decide +kernel)
theorem flX5_255 : Cond.fieldLink RX5 255 (TX4 0).1 (TX4 0).2.1 (TX4 0).2.2.1 ∈ Tb := inTb (List.mem_of_getElem? (i := 195) (by decide +kernel)) (by decide +kernel)
theorem flX5_261 : Cond.fieldLink RX5 261 (TX5 10).1 (TX5 10).2.1 (TX5 10).2.2.1 ∈ Tb := inTb (List.mem_of_getElem? (i := 217) (by decide +kernel)) (by decide +kernel)
theorem flX5_267 : Cond.fieldLink RX5 267 (TX4 1).1 (TX4 1).2.1 (TX4 1).2.2.1 ∈ Tb := inTb (List.mem_of_getElem? (i := 197) (by decide +kernel)) (by decide +kernel)
theorem flX5_270 : Cond.fieldLink RX5 270 (TX4 2).1 (TX4 2).2.1 (TX4 2).2.2.1 ∈ Tb := inTb (List.mem_of_getElem? (i := 199) (by decide +kernel)) (by decide +kernel)
theorem flX0_9 : Cond.fieldLink RX0 9 (TX0 0).1 (TX0 0).2.1 (TX0 0).2.2.1 ∈ Tb := inTb (List.mem_of_getElem? (i := 77) (by decide +kernel)) (by decide +kernel)
theorem flX0_15 : Cond.fieldLink RX0 15 (TX0 1).1 (TX0 1).2.1 (TX0 1).2.2.1 ∈ Tb := inTb (List.mem_of_getElem? (i := 79) (by decide +kernel)) (by decide +kernel)
theorem flX0_18 : Cond.fieldLink RX0 18 (TX0 2).1 (TX0 2).2.1 (TX0 2).2.2.1 ∈ Tb := inTb (List.mem_of_getElem? (i := 81) (by decide +kernel)) (by decide +kernel)
theorem flX0_21 : Cond.fieldLink RX0 21 (TX0 3).1 (TX0 3).2.1 (TX0 3).2.2.1 ∈ Tb := inTb (List.mem_of_getElem? (i := 83) (by decide +kernel)) (by decide +kernel)
theorem flX0_24 : Cond.fieldLink RX0 24 (TX0 5).1 (TX0 5).2.1 (TX0 5).2.2.1 ∈ Tb := inTb (List.mem_of_getElem? (i := 88) (by decide +kernel)) (by decide +kernel)
theorem flX0_28 : Cond.fieldLink RX0 28 (TX0 4).1 (TX0 4).2.1 (TX0 4).2.2.1 ∈ Tb := inTb (List.mem_of_getElem? (i := 85) (by decide +kernel)) (by decide +kernel)
theorem flX0_31 : Cond.fieldLink RX0 31 (TX0 6).1 (TX0 6).2.1 (TX0 6).2.2.1 ∈ Tb := inTb (List.mem_of_getElem? (i := 91) (by decide +kernel)) (by decide +kernel)
theorem flX1_9 : Cond.fieldLink RX1 9 (TX1 0).1 (TX1 0).2.1 (TX1 0).2.2.1 ∈ Tb := inTb (List.mem_of_getElem? (i := 179) (by decide +kernel)) (by decide +kernel)
theorem flX1_15 : Cond.fieldLink RX1 15 (TX1 1).1 (TX1 1).2.1 (TX1 1).2.2.1 ∈ Tb := inTb (List.mem_of_getElem? (i := 180) (by decide +kernel)) (by decide +kernel)
theorem flX1_18 : Cond.fieldLink RX1 18 (TX1 2).1 (TX1 2).2.1 (TX1 2).2.2.1 ∈ Tb := inTb (List.mem_of_getElem? (i := 181) (by decide +kernel)) (by decide +kernel)
theorem flX2_9 : Cond.fieldLink RX2 9 (TX2 0).1 (TX2 0).2.1 (TX2 0).2.2.1 ∈ Tb := inTb (List.mem_of_getElem? (i := 116) (by decide +kernel)) (by decide +kernel)
theorem flX2_15 : Cond.fieldLink RX2 15 (TX2 2).1 (TX2 2).2.1 (TX2 2).2.2.1 ∈ Tb := inTb (List.mem_of_getElem? (i := 120) (by decide +kernel)) (by decide +kernel)
theorem flX2_19 : Cond.fieldLink RX2 19 (TX2 3).1 (TX2 3).2.1 (TX2 3).2.2.1 ∈ Tb := inTb (List.mem_of_getElem? (i := 122) (by decide +kernel)) (by decide +kernel)
theorem flX2_22 : Cond.fieldLink RX2 22 (TX2 4).1 (TX2 4).2.1 (TX2 4).2.2.1 ∈ Tb := inTb (List.mem_of_getElem? (i := 124) (by decide +kernel)) (by decide +kernel)
theorem flX2_25 : Cond.fieldLink RX2 25 (TX2 5).1 (TX2 5).2.1 (TX2 5).2.2.1 ∈ Tb := inTb (List.mem_of_getElem? (i := 126) (by decide +kernel)) (by decide +kernel)
theorem flX2_28 : Cond.fieldLink RX2 28 (TX2 8).1 (TX2 8).2.1 (TX2 8).2.2.1 ∈ Tb := inTb (List.mem_of_getElem? (i := 129) (by decide +kernel)) (by decide +kernel)
theorem flX2_35 : Cond.fieldLink RX2 35 (TX2 6).1 (TX2 6).2.1 (TX2 6).2.2.1 ∈ Tb := inTb (List.mem_of_getElem? (i := 127) (by decide +kernel)) (by decide +kernel)
theorem flX2_61 : Cond.fieldLink RX2 61 (TX0 5).1 (TX0 5).2.1 (TX0 5).2.2.1 ∈ Tb := inTb (List.mem_of_getElem? (i := 89) (by decide +kernel)) (by decide +kernel)
theorem flX2_69 : Cond.fieldLink RX2 69 (TX0 4).1 (TX0 4).2.1 (TX0 4).2.2.1 ∈ Tb := inTb (List.mem_of_getElem? (i := 86) (by decide +kernel)) (by decide +kernel)
theorem flX2_83 : Cond.fieldLink RX2 83 (TX2 1).1 (TX2 1).2.1 (TX2 1).2.2.1 ∈ Tb := inTb (List.mem_of_getElem? (i := 119) (by decide +kernel)) (by decide +kernel)
theorem flX2_86 : Cond.fieldLink RX2 86 (TX2 7).1 (TX2 7).2.1 (TX2 7).2.2.1 ∈ Tb := inTb (List.mem_of_getElem? (i := 128) (by decide +kernel)) (by decide +kernel)
theorem flX3_9 : Cond.fieldLink RX3 9 (TX3 0).1 (TX3 0).2.1 (TX3 0).2.2.1 ∈ Tb := inTb (List.mem_of_getElem? (i := 157) (by decide +kernel)) (by decide +kernel)
theorem flX3_15 : Cond.fieldLink RX3 15 (TX3 1).1 (TX3 1).2.1 (TX3 1).2.2.1 ∈ Tb := inTb (List.mem_of_getElem? (i := 158) (by decide +kernel)) (by decide +kernel)
theorem flX3_18 : Cond.fieldLink RX3 18 (TX3 2).1 (TX3 2).2.1 (TX3 2).2.2.1 ∈ Tb := inTb (List.mem_of_getElem? (i := 159) (by decide +kernel)) (by decide +kernel)
theorem flX3_21 : Cond.fieldLink RX3 21 (TX3 3).1 (TX3 3).2.1 (TX3 3).2.2.1 ∈ Tb := inTb (List.mem_of_getElem? (i := 160) (by decide +kernel)) (by decide +kernel)
theorem flX4_9 : Cond.fieldLink RX4 9 (TX4 0).1 (TX4 0).2.1 (TX4 0).2.2.1 ∈ Tb := inTb (List.mem_of_getElem? (i := 194) (by decide +kernel)) (by decide +kernel)
theorem flX4_15 : Cond.fieldLink RX4 15 (TX4 1).1 (TX4 1).2.1 (TX4 1).2.2.1 ∈ Tb := inTb (List.mem_of_getElem? (i := 196) (by decide +kernel)) (by decide +kernel)
theorem flX4_19 : Cond.fieldLink RX4 19 (TX4 2).1 (TX4 2).2.1 (TX4 2).2.2.1 ∈ Tb := inTb (List.mem_of_getElem? (i := 198) (by decide +kernel)) (by decide +kernel)
theorem flX6_7 : Cond.fieldLink RX6 7 (TX6 0).1 (TX6 0).2.1 (TX6 0).2.2.1 ∈ Tb := inTb (List.mem_of_getElem? (i := 719) (by decide +kernel)) (by decide +kernel)
theorem flX6_13 : Cond.fieldLink RX6 13 (TX6 1).1 (TX6 1).2.1 (TX6 1).2.2.1 ∈ Tb := inTb (List.mem_of_getElem? (i := 720) (by decide +kernel)) (by decide +kernel)
theorem flX6_16 : Cond.fieldLink RX6 16 (TX6 3).1 (TX6 3).2.1 (TX6 3).2.2.1 ∈ Tb := inTb (List.mem_of_getElem? (i := 722) (by decide +kernel)) (by decide +kernel)
theorem flX6_19 : Cond.fieldLink RX6 19 (TX6 12).1 (TX6 12).2.1 (TX6 12).2.2.1 ∈ Tb := inTb (List.mem_of_getElem? (i := 731) (by decide +kernel)) (by decide +kernel)
theorem flX6_22 : Cond.fieldLink RX6 22 (TX6 13).1 (TX6 13).2.1 (TX6 13).2.2.1 ∈ Tb := inTb (List.mem_of_getElem? (i := 732) (by decide +kernel)) (by decide +kernel)
theorem flX6_25 : Cond.fieldLink RX6 25 (TX6 14).1 (TX6 14).2.1 (TX6 14).2.2.1 ∈ Tb := inTb (List.mem_of_getElem? (i := 733) (by decide +kernel)) (by decide +kernel)
theorem flX6_29 : Cond.fieldLink RX6 29 (TX6 18).1 (TX6 18).2.1 (TX6 18).2.2.1 ∈ Tb := inTb (List.mem_of_getElem? (i := 737) (by decide +kernel)) (by decide +kernel)
theorem flX6_32 : Cond.fieldLink RX6 32 (TX6 20).1 (TX6 20).2.1 (TX6 20).2.2.1 ∈ Tb := inTb (List.mem_of_getElem? (i := 739) (by decide +kernel)) (by decide +kernel)
theorem flX6_35 : Cond.fieldLink RX6 35 (TX6 21).1 (TX6 21).2.1 (TX6 21).2.2.1 ∈ Tb := inTb (List.mem_of_getElem? (i := 740) (by decide +kernel)) (by decide +kernel)
theorem flX6_39 : Cond.fieldLink RX6 39 (TX6 22).1 (TX6 22).2.1 (TX6 22).2.2.1 ∈ Tb := inTb (List.mem_of_getElem? (i := 741) (by decide +kernel)) (by decide +kernel)
theorem flX6_42 : Cond.fieldLink RX6 42 (TX6 23).1 (TX6 23).2.1 (TX6 23).2.2.1 ∈ Tb := inTb (List.mem_of_getElem? (i := 742) (by decide +kernel)) (by decide +kernel)
theorem flX6_45 : Cond.fieldLink RX6 45 (TX6 24).1 (TX6 24).2.1 (TX6 24).2.2.1 ∈ Tb := inTb (List.mem_of_getElem? (i := 743) (by decide +kernel)) (by decide +kernel)
theorem flX6_54 : Cond.fieldLink RX6 54 (TX6 4).1 (TX6 4).2.1 (TX6 4).2.2.1 ∈ Tb := inTb (List.mem_of_getElem? (i := 723) (by decide +kernel)) (by decide +kernel)
theorem flX6_57 : Cond.fieldLink RX6 57 (TX6 6).1 (TX6 6).2.1 (TX6 6).2.2.1 ∈ Tb := inTb (List.mem_of_getElem? (i := 725) (by decide +kernel)) (by decide +kernel)
theorem flX6_60 : Cond.fieldLink RX6 60 (TX6 9).1 (TX6 9).2.1 (TX6 9).2.2.1 ∈ Tb := inTb (List.mem_of_getElem? (i := 728) (by decide +kernel)) (by decide +kernel)
theorem flX6_63 : Cond.fieldLink RX6 63 (TX6 7).1 (TX6 7).2.1 (TX6 7).2.2.1 ∈ Tb := inTb (List.mem_of_getElem? (i := 726) (by decide +kernel)) (by decide +kernel)
theorem flX6_66 : Cond.fieldLink RX6 66 (TX6 10).1 (TX6 10).2.1 (TX6 10).2.2.1 ∈ Tb := inTb (List.mem_of_getElem? (i := 729) (by decide +kernel)) (by decide +kernel)
theorem flX6_69 : Cond.fieldLink RX6 69 (TX6 8).1 (TX6 8).2.1 (TX6 8).2.2.1 ∈ Tb := inTb (List.mem_of_getElem? (i := 727) (by decide +kernel)) (by decide +kernel)
theorem flX6_76 : Cond.fieldLink RX6 76 (TX6 11).1 (TX6 11).2.1 (TX6 11).2.2.1 ∈ Tb := inTb (List.mem_of_getElem? (i := 730) (by decide +kernel)) (by decide +kernel)
theorem flX6_104 : Cond.fieldLink RX6 104 (TX6 2).1 (TX6 2).2.1 (TX6 2).2.2.1 ∈ Tb := inTb (List.mem_of_getElem? (i := 721) (by decide +kernel)) (by decide +kernel)
theorem flX6_114 : Cond.fieldLink RX6 114 (TX6 5).1 (TX6 5).2.1 (TX6 5).2.2.1 ∈ Tb := inTb (List.mem_of_getElem? (i := 724) (by decide +kernel)) (by decide +kernel)
theorem flX6_117 : Cond.fieldLink RX6 117 (TX6 19).1 (TX6 19).2.1 (TX6 19).2.2.1 ∈ Tb := inTb (List.mem_of_getElem? (i := 738) (by decide +kernel)) (by decide +kernel)
theorem flX6_165 : Cond.fieldLink RX6 165 (TX6 15).1 (TX6 15).2.1 (TX6 15).2.2.1 ∈ Tb := inTb (List.mem_of_getElem? (i := 734) (by decide +kernel)) (by decide +kernel)
theorem flX6_168 : Cond.fieldLink RX6 168 (TX6 16).1 (TX6 16).2.1 (TX6 16).2.2.1 ∈ Tb := inTb (List.mem_of_getElem? (i := 735) (by decide +kernel)) (by decide +kernel)
theorem flX6_171 : Cond.fieldLink RX6 171 (TX6 17).1 (TX6 17).2.1 (TX6 17).2.2.1 ∈ Tb := inTb (List.mem_of_getElem? (i := 736) (by decide +kernel)) (by decide +kernel)
theorem flX6_217 : Cond.fieldLink RX6 217 (TX6 25).1 (TX6 25).2.1 (TX6 25).2.2.1 ∈ Tb := inTb (List.mem_of_getElem? (i := 744) (by decide +kernel)) (by decide +kernel)
theorem flJ0_9 : Cond.fieldLink RJ0 9 "java/lang/String" "value" "[B" ∈ Tb := inTb (List.mem_of_getElem? (i := 1070) (by decide +kernel)) (by decide +kernel)
theorem flJ0_15 : Cond.fieldLink RJ0 15 "java/lang/String" "coder" "B" ∈ Tb := inTb (List.mem_of_getElem? (i := 1071) (by decide +kernel)) (by decide +kernel)
theorem flJ0_38 : Cond.fieldLink RJ0 38 "java/lang/String" "COMPACT_STRINGS" "Z" ∈ Tb := inTb (List.mem_of_getElem? (i := 298) (by decide +kernel)) (by decide +kernel)
theorem flJ0_1053 : Cond.fieldLink RJ0 1053 "jdk/internal/util/Preconditions" "SIOOBE_FORMATTER" "Ljava/util/function/BiFunction;" ∈ Tb := inTb (List.mem_of_getElem? (i := 314) (by decide +kernel)) (by decide +kernel)
theorem flJ2_44 : Cond.fieldLink RJ2 44 "java/lang/StringUTF16" "$assertionsDisabled" "Z" ∈ Tb := inTb (List.mem_of_getElem? (i := 332) (by decide +kernel)) (by decide +kernel)
theorem flJ2_59 : Cond.fieldLink RJ2 59 "java/lang/StringUTF16" "HI_BYTE_SHIFT" "I" ∈ Tb := inTb (List.mem_of_getElem? (i := 334) (by decide +kernel)) (by decide +kernel)
theorem flJ2_63 : Cond.fieldLink RJ2 63 "java/lang/StringUTF16" "LO_BYTE_SHIFT" "I" ∈ Tb := inTb (List.mem_of_getElem? (i := 336) (by decide +kernel)) (by decide +kernel)
theorem kcX5_239 : Cond.constant RX5 239 (1103515245) ∈ Tb := inTb (List.mem_of_getElem? (i := 654) (by decide +kernel)) (by decide +kernel)
theorem kcX6_214 : Cond.constant RX6 214 (1103515245) ∈ Tb := inTb (List.mem_of_getElem? (i := 1040) (by decide +kernel)) (by decide +kernel)
theorem kcJ6_265 : Cond.constant RJ6 265 (1431655765) ∈ Tb := inTb (List.mem_of_getElem? (i := 404) (by decide +kernel)) (by decide +kernel)
theorem kcJ6_266 : Cond.constant RJ6 266 (858993459) ∈ Tb := inTb (List.mem_of_getElem? (i := 405) (by decide +kernel)) (by decide +kernel)
theorem kcJ6_267 : Cond.constant RJ6 267 (252645135) ∈ Tb := inTb (List.mem_of_getElem? (i := 406) (by decide +kernel)) (by decide +kernel)
theorem klX5_206 : Cond.constantLong RX5 206 (-1) ∈ Tb := inTb (List.mem_of_getElem? (i := 578) (by decide +kernel)) (by decide +kernel)
theorem klX6_48 : Cond.constantLong RX6 48 (127) ∈ Tb := inTb (List.mem_of_getElem? (i := 802) (by decide +kernel)) (by decide +kernel)
theorem klX6_79 : Cond.constantLong RX6 79 (97) ∈ Tb := inTb (List.mem_of_getElem? (i := 822) (by decide +kernel)) (by decide +kernel)
theorem klX6_81 : Cond.constantLong RX6 81 (122) ∈ Tb := inTb (List.mem_of_getElem? (i := 823) (by decide +kernel)) (by decide +kernel)
theorem klX6_83 : Cond.constantLong RX6 83 (48) ∈ Tb := inTb (List.mem_of_getElem? (i := 824) (by decide +kernel)) (by decide +kernel)
theorem klX6_85 : Cond.constantLong RX6 85 (57) ∈ Tb := inTb (List.mem_of_getElem? (i := 825) (by decide +kernel)) (by decide +kernel)
theorem klX6_102 : Cond.constantLong RX6 102 (4) ∈ Tb := inTb (List.mem_of_getElem? (i := 838) (by decide +kernel)) (by decide +kernel)
theorem klX6_141 : Cond.constantLong RX6 141 (3) ∈ Tb := inTb (List.mem_of_getElem? (i := 883) (by decide +kernel)) (by decide +kernel)
theorem klX6_143 : Cond.constantLong RX6 143 (2) ∈ Tb := inTb (List.mem_of_getElem? (i := 884) (by decide +kernel)) (by decide +kernel)
theorem klX6_145 : Cond.constantLong RX6 145 (30) ∈ Tb := inTb (List.mem_of_getElem? (i := 885) (by decide +kernel)) (by decide +kernel)
theorem klX6_147 : Cond.constantLong RX6 147 (29) ∈ Tb := inTb (List.mem_of_getElem? (i := 886) (by decide +kernel)) (by decide +kernel)
theorem klX6_153 : Cond.constantLong RX6 153 (5) ∈ Tb := inTb (List.mem_of_getElem? (i := 891) (by decide +kernel)) (by decide +kernel)
theorem klX6_155 : Cond.constantLong RX6 155 (100) ∈ Tb := inTb (List.mem_of_getElem? (i := 912) (by decide +kernel)) (by decide +kernel)
theorem klX6_177 : Cond.constantLong RX6 177 (300) ∈ Tb := inTb (List.mem_of_getElem? (i := 924) (by decide +kernel)) (by decide +kernel)
theorem klX6_192 : Cond.constantLong RX6 192 (10) ∈ Tb := inTb (List.mem_of_getElem? (i := 989) (by decide +kernel)) (by decide +kernel)
theorem klX6_198 : Cond.constantLong RX6 198 (8) ∈ Tb := inTb (List.mem_of_getElem? (i := 990) (by decide +kernel)) (by decide +kernel)
theorem klX6_204 : Cond.constantLong RX6 204 (-1) ∈ Tb := inTb (List.mem_of_getElem? (i := 998) (by decide +kernel)) (by decide +kernel)
theorem klX6_206 : Cond.constantLong RX6 206 (60) ∈ Tb := inTb (List.mem_of_getElem? (i := 1007) (by decide +kernel)) (by decide +kernel)
theorem klX6_215 : Cond.constantLong RX6 215 (20) ∈ Tb := inTb (List.mem_of_getElem? (i := 1061) (by decide +kernel)) (by decide +kernel)
theorem natCopy : Cond.native arraycopyName ∈ Tb := inTb (List.mem_of_getElem? (i := 372) (by decide +kernel)) (by decide +kernel)
theorem staCopy : Cond.static arraycopyName ∈ Tb := inTb (List.mem_of_getElem? (i := 371) (by decide +kernel)) (by decide +kernel)
theorem iniSys : Cond.initialized "java/lang/System" ∈ Tb := inTb (List.mem_of_getElem? (i := 59) (by decide +kernel)) (by decide +kernel)
theorem uwX0 : ∀ w ∈ u_ws RX0 TX0 7, w ∈ Tb := fun w hw => inTb ((by decide +kernel : ∀ w ∈ u_ws RX0 TX0 7, w ∈ lw_tbl) w hw) ((by decide +kernel : ∀ w ∈ u_ws RX0 TX0 7, goodWord w = true) w hw)
theorem uwX1 : ∀ w ∈ u_ws RX1 TX1 3, w ∈ Tb := fun w hw => inTb ((by decide +kernel : ∀ w ∈ u_ws RX1 TX1 3, w ∈ lw_tbl) w hw) ((by decide +kernel : ∀ w ∈ u_ws RX1 TX1 3, goodWord w = true) w hw)
theorem uwX2 : ∀ w ∈ u_ws RX2 TX2 9, w ∈ Tb := fun w hw => inTb ((by decide +kernel : ∀ w ∈ u_ws RX2 TX2 9, w ∈ lw_tbl) w hw) ((by decide +kernel : ∀ w ∈ u_ws RX2 TX2 9, goodWord w = true) w hw)
theorem uwX3 : ∀ w ∈ u_ws RX3 TX3 4, w ∈ Tb := fun w hw => inTb ((by decide +kernel : ∀ w ∈ u_ws RX3 TX3 4, w ∈ lw_tbl) w hw) ((by decide +kernel : ∀ w ∈ u_ws RX3 TX3 4, goodWord w = true) w hw)
theorem uwX4 : ∀ w ∈ u_ws RX4 TX4 3, w ∈ Tb := fun w hw => inTb ((by decide +kernel : ∀ w ∈ u_ws RX4 TX4 3, w ∈ lw_tbl) w hw) ((by decide +kernel : ∀ w ∈ u_ws RX4 TX4 3, goodWord w = true) w hw)
theorem uwX5 : ∀ w ∈ u_ws RX5 TX5 11, w ∈ Tb := fun w hw => inTb ((by decide +kernel : ∀ w ∈ u_ws RX5 TX5 11, w ∈ lw_tbl) w hw) ((by decide +kernel : ∀ w ∈ u_ws RX5 TX5 11, goodWord w = true) w hw)
theorem uwX6 : ∀ w ∈ u_ws RX6 TX6 26, w ∈ Tb := fun w hw => inTb ((by decide +kernel : ∀ w ∈ u_ws RX6 TX6 26, w ∈ lw_tbl) w hw) ((by decide +kernel : ∀ w ∈ u_ws RX6 TX6 26, goodWord w = true) w hw)
end
section
/-! ===== small words ===== -/
def bI (c : Prop) [Decidable c] : Int32 := if c then 1 else 0
theorem bIt {c : Prop} [Decidable c] (h : c) : bI c = 1 := if_pos h
theorem bIf {c : Prop} [Decidable c] (h : ¬ c) : bI c = 0 := if_neg h
theorem bI0 {c : Prop} [Decidable c] : bI c = 0 ↔ ¬ c := by
  by_cases h : c
  · rw [bIt h]; exact ⟨fun e => absurd e (by decide), fun e => absurd h e⟩
  · rw [bIf h]; exact ⟨fun _ => h, fun _ => rfl⟩
theorem bI1 {c : Prop} [Decidable c] : ¬ bI c = 0 ↔ c := by
  by_cases h : c
  · rw [bIt h]; exact ⟨fun _ => h, fun _ => by decide⟩
  · rw [bIf h]; exact ⟨fun e => absurd rfl e, fun e => absurd e h⟩
theorem nbI (c : Prop) [Decidable c] : narrow .boolean (.int (bI c)) = .int (bI c) := by
  unfold bI
  split <;> rfl
theorem fbI (c : Prop) [Decidable c] : fits .boolean (.int (bI c)) = true := by
  unfold bI
  split <;> rfl
theorem bI_congr {c e : Prop} [Decidable c] [Decidable e] (h : c ↔ e) : bI c = bI e := by
  by_cases q : c
  · rw [bIt q, bIt (h.mp q)]
  · rw [bIf q, bIf (fun z => q (h.mpr z))]
def Ri (F : Int32) (R : Mem → Prop) : Option Value → Mem → Prop := fun v m2 => v = some (.int F) ∧ R m2
def Rl (F : Int64) (R : Mem → Prop) : Option Value → Mem → Prop := fun v m2 => v = some (.long F) ∧ R m2
def Rr (q : Nat) (R : Mem → Prop) : Option Value → Mem → Prop := fun v m2 => v = some (.ref q) ∧ R m2
def Rv (R : Mem → Prop) : Option Value → Mem → Prop := fun v m2 => v = none ∧ R m2
theorem Ri.mk {F F2 : Int32} {R : Mem → Prop} {m2 : Mem} (h : F2 = F) (hR : R m2) : Ri F R (some (.int F2)) m2 := ⟨by rw [h], hR⟩
theorem Rl.mk {F F2 : Int64} {R : Mem → Prop} {m2 : Mem} (h : F2 = F) (hR : R m2) : Rl F R (some (.long F2)) m2 := ⟨by rw [h], hR⟩
section GT
variable {G : GX} {d : Nat} {M : MI} {pc : Nat} {L L2 : List (Nat × Value)} {st st2 : List Value} {mem : Mem} {Φ : Option Value → Mem → Prop}
theorem go_stk (h : st = st2) (k : Go G d M pc L st2 mem Φ) : Go G d M pc L st mem Φ := h ▸ k
theorem go_topi {x : Int32} (k : ∀ y : Int32, y = x → Go G d M pc L (.int y :: st) mem Φ) : Go G d M pc L (.int x :: st) mem Φ := k x rfl
theorem go_mem (k : ∀ m2 : Mem, m2 = mem → Go G d M pc L st m2 Φ) : Go G d M pc L st mem Φ := k mem rfl
theorem go_topl {x : Int64} (k : ∀ y : Int64, y = x → Go G d M pc L (.long y :: st) mem Φ) : Go G d M pc L (.long x :: st) mem Φ := k x rfl
end GT
def BeamAt (b : Nat) : Prop := Sh[b]? = some (.inr (0, [some (b + 1), some (b + 2), some (b + 3), some (b + 4), none, none, none])) ∧ Sh[b + 1]? = some (.inl (.int, 5, none)) ∧ Sh[b + 2]? = some (.inl (.int, 5, none)) ∧ Sh[b + 3]? = some (.inl (.int, 5, none)) ∧ Sh[b + 4]? = some (.inl (.int, 5, none))
def SheetAt (s : Nat) : Prop := Sh[s]? = some (.inr (4, [some (s + 1), none, none])) ∧ Sh[s + 1]? = some (.inl (.int, 40, none))
theorem bA1 : BeamAt 1 := ⟨rfl, rfl, rfl, rfl, rfl⟩
theorem bA6 : BeamAt 6 := ⟨rfl, rfl, rfl, rfl, rfl⟩
theorem bA11 : BeamAt 11 := ⟨rfl, rfl, rfl, rfl, rfl⟩
theorem bA16 : BeamAt 16 := ⟨rfl, rfl, rfl, rfl, rfl⟩
theorem sA31 : SheetAt 31 := ⟨rfl, rfl⟩
theorem sA33 : SheetAt 33 := ⟨rfl, rfl⟩
theorem sA35 : SheetAt 35 := ⟨rfl, rfl⟩
theorem sA37 : SheetAt 37 := ⟨rfl, rfl⟩
theorem um_same {mem : Mem} {k i : Nat} {x : Int32} : um mem k i x k i = x := by
  unfold um
  rw [um0_self]
  exact if_pos rfl
theorem um_ne {mem : Mem} {k i k2 : Nat} {x : Int32} (h : k2 ≠ k) : um mem k i x k2 = mem k2 := if_neg h
theorem um_at {mem : Mem} {k i j : Nat} {x : Int32} : um mem k i x k j = if j = i then x else mem k j := by
  unfold um
  rw [um0_self]
  rfl
theorem um0_ne {mem : Mem} {k k2 : Nat} {f : Nat → Int32} (h : k2 ≠ k) : um0 mem k f k2 = mem k2 := if_neg h
end
section
/-! plain facts on numbers and arrays, to paste: each family by itself; over the kit's rows on nI and upd -/
/-! ===== order of ints, in all its forms, and through longs ===== -/
theorem fa_lt (a b : Int32) : a < b ↔ a.toInt < b.toInt := Int32.lt_iff_toInt_lt
theorem fa_le (a b : Int32) : a ≤ b ↔ a.toInt ≤ b.toInt := Int32.le_iff_toInt_le
theorem fa_eq (a b : Int32) : a = b ↔ a.toInt = b.toInt := Int32.toInt_inj.symm
theorem fa_lt64 (a b : Int64) : a < b ↔ a.toInt < b.toInt := Int64.lt_iff_toInt_lt
theorem fa_le64 (a b : Int64) : a ≤ b ↔ a.toInt ≤ b.toInt := Int64.le_iff_toInt_le
theorem fa_eq64 (a b : Int64) : a = b ↔ a.toInt = b.toInt := Int64.toInt_inj.symm
/-- a comparison of two ints taken as longs -/
theorem fa_wide_lt (a b : Int32) : a.toInt64 < b.toInt64 ↔ a < b := by rw [fa_lt64, fa_lt, Int32.toInt_toInt64, Int32.toInt_toInt64]
theorem fa_wide_le (a b : Int32) : a.toInt64 ≤ b.toInt64 ↔ a ≤ b := by rw [fa_le64, fa_le, Int32.toInt_toInt64, Int32.toInt_toInt64]
theorem fa_wide_eq (a b : Int32) : a.toInt64 = b.toInt64 ↔ a = b := by rw [fa_eq64, fa_eq, Int32.toInt_toInt64, Int32.toInt_toInt64]
/-- one strict comparison gives all the others -/
theorem fa_of_lt {a b : Int32} (h : a < b) : a ≤ b ∧ ¬ b ≤ a ∧ ¬ b < a ∧ a ≠ b ∧ b ≠ a := by
  rw [fa_lt] at h
  refine ⟨?_, ?_, ?_, ?_, ?_⟩
  · rw [fa_le]; omega
  · rw [fa_le]; omega
  · rw [fa_lt]; omega
  · intro e; rw [fa_eq] at e; omega
  · intro e; rw [fa_eq] at e; omega
theorem fa_of_nlt {a b : Int32} (h : ¬ a < b) : b ≤ a := by
  rw [fa_lt] at h
  rw [fa_le]
  omega
theorem fa_of_nle {a b : Int32} (h : ¬ a ≤ b) : b < a := by
  rw [fa_le] at h
  rw [fa_lt]
  omega
theorem fa_le_ne {a b : Int32} (h : a ≤ b) (h2 : a ≠ b) : a < b := by
  rw [fa_le] at h
  rw [fa_lt]
  have h3 : a.toInt ≠ b.toInt := fun e => h2 ((fa_eq a b).mpr e)
  omega
theorem fa_three (a b : Int32) : a < b ∨ a = b ∨ b < a := by
  rw [fa_lt, fa_lt, fa_eq]
  omega
theorem fa_trans {a b c : Int32} (h : a < b) (h2 : b ≤ c) : a < c := by
  rw [fa_lt] at *
  rw [fa_le] at h2
  omega
/-! ===== small literals as numbers ===== -/
theorem fa_lit (n : Nat) : (OfNat.ofNat n : Int32) = nI n := rfl
theorem fa_litL (n : Nat) : (OfNat.ofNat n : Int64) = lN n := rfl
/-! ===== bits of a number: 'or', masks, one bit ===== -/
theorem fa_and (a b : Nat) : nI a &&& nI b = nI (a &&& b) := by
  apply Int32.toBitVec_inj.1
  show BitVec.ofNat 32 a &&& BitVec.ofNat 32 b = BitVec.ofNat 32 (a &&& b)
  apply BitVec.eq_of_getLsbD_eq
  intro i hi
  simp [hi]
theorem fa_or (a b : Nat) : nI a ||| nI b = nI (a ||| b) := by
  apply Int32.toBitVec_inj.1
  show BitVec.ofNat 32 a ||| BitVec.ofNat 32 b = BitVec.ofNat 32 (a ||| b)
  apply BitVec.eq_of_getLsbD_eq
  intro i hi
  simp [hi]
/-- a remainder by a power of two, as a mask -/
theorem fa_mask (n k : Nat) : nI n &&& nI (2 ^ k - 1) = nI (n % 2 ^ k) := by rw [fa_and, Nat.and_two_pow_sub_one_eq_mod]
/-- 'or' of a high part and a low one that don't meet is their sum -/
theorem fa_or_sum {a k : Nat} (b : Nat) (h : a < 2 ^ k) : nI (2 ^ k * b) ||| nI a = nI (2 ^ k * b + a) := by rw [fa_or, Nat.two_pow_add_eq_or_of_lt h]
/-- one bit, by 'and' with a power of two -/
theorem fa_bit {n j : Nat} (hj : j < 31) : nI n &&& nI (2 ^ j) = 0 ↔ n.testBit j = false := by
  have h2 : (2 : Nat) ^ j < 2 ^ 31 := Nat.pow_lt_pow_right (by decide) hj
  have hle : n &&& 2 ^ j ≤ 2 ^ j := Nat.and_le_right
  have e : n &&& 2 ^ j = 0 ↔ n.testBit j = false := by
    constructor
    · intro h
      have h1 : (n &&& 2 ^ j).testBit j = false := by rw [h]; simp
      rw [Nat.testBit_and] at h1
      first | simpa using h1 | simpa [Nat.testBit_two_pow_self] using h1 | simpa [Nat.testBit_two_pow] using h1
    · intro h
      apply Nat.eq_of_testBit_eq
      intro i
      rw [Nat.testBit_and]
      by_cases hi : j = i
      · subst hi; simp [h]
      · first | (simp [Nat.testBit_two_pow, hi]; done) | (simp [Nat.testBit_two_pow_of_ne hi]; done)
  rw [fa_and]
  constructor
  · intro h
    apply e.mp
    rcases Nat.eq_zero_or_pos (n &&& 2 ^ j) with z | z
    · exact z
    · exact absurd h (nI_ne0 z (Nat.lt_of_le_of_lt hle h2))
  · intro h
    rw [e.mpr h]; exact nI_0
/-- a remainder by a power of two of a number that isn't negative, as Java divides -/
theorem fa_rem {a k : Nat} (ha : a < 2 ^ 31) (hk : k < 31) : nI a - nI a / nI (2 ^ k) * nI (2 ^ k) = nI (a % 2 ^ k) := pk_rem ha (Nat.two_pow_pos k) (Nat.pow_lt_pow_right (by decide) hk)
/-! ===== cuts to a byte, a short ===== -/
theorem fa_byte_xor (x y : Int32) : (x ^^^ y).toInt8 = x.toInt8 ^^^ y.toInt8 := by
  apply Int8.toBitVec_inj.1
  apply BitVec.eq_of_getLsbD_eq
  intro i hi
  first | (simp [hi]; done) | (simp [hi, BitVec.getLsbD_setWidth, BitVec.getLsbD_signExtend]; done)
theorem fa_short_xor (x y : Int32) : (x ^^^ y).toInt16 = x.toInt16 ^^^ y.toInt16 := by
  apply Int16.toBitVec_inj.1
  apply BitVec.eq_of_getLsbD_eq
  intro i hi
  first | (simp [hi]; done) | (simp [hi, BitVec.getLsbD_setWidth, BitVec.getLsbD_signExtend]; done)
/-- the cut to a byte sees the low byte alone -/
theorem fa_byte_low (x : Int32) : (x &&& 255).toInt8 = x.toInt8 := by
  apply Int8.toBitVec_inj.1
  apply BitVec.eq_of_getLsbD_eq
  intro i hi
  have h2 : (255 : Int32).toBitVec.getLsbD i = true := by
    have : ∀ j : Fin 8, (255 : Int32).toBitVec.getLsbD j.val = true := by decide +kernel
    exact this ⟨i, hi⟩
  have h4 : (x &&& 255).toBitVec.getLsbD i = x.toBitVec.getLsbD i := by
    show (x.toBitVec &&& (255 : Int32).toBitVec).getLsbD i = _
    rw [BitVec.getLsbD_and, h2, Bool.and_true]
  have h3 : i < 32 := by omega
  first
    | (show (((x &&& 255).toBitVec).signExtend 8).getLsbD i = (x.toBitVec.signExtend 8).getLsbD i; rw [BitVec.getLsbD_signExtend, BitVec.getLsbD_signExtend, if_pos h3, if_pos h3, h4])
    | (show (((x &&& 255).toBitVec).setWidth 8).getLsbD i = (x.toBitVec.setWidth 8).getLsbD i; rw [BitVec.getLsbD_setWidth, BitVec.getLsbD_setWidth, h4])
    | (simp [hi, h3, h4]; done)
theorem fa_short_low (x : Int32) : (x &&& 65535).toInt16 = x.toInt16 := by
  apply Int16.toBitVec_inj.1
  apply BitVec.eq_of_getLsbD_eq
  intro i hi
  have h2 : (65535 : Int32).toBitVec.getLsbD i = true := by
    have : ∀ j : Fin 16, (65535 : Int32).toBitVec.getLsbD j.val = true := by decide +kernel
    exact this ⟨i, hi⟩
  have h4 : (x &&& 65535).toBitVec.getLsbD i = x.toBitVec.getLsbD i := by
    show (x.toBitVec &&& (65535 : Int32).toBitVec).getLsbD i = _
    rw [BitVec.getLsbD_and, h2, Bool.and_true]
  have h3 : i < 32 := by omega
  first
    | (show (((x &&& 65535).toBitVec).signExtend 16).getLsbD i = (x.toBitVec.signExtend 16).getLsbD i; rw [BitVec.getLsbD_signExtend, BitVec.getLsbD_signExtend, if_pos h3, if_pos h3, h4])
    | (show (((x &&& 65535).toBitVec).setWidth 16).getLsbD i = (x.toBitVec.setWidth 16).getLsbD i; rw [BitVec.getLsbD_setWidth, BitVec.getLsbD_setWidth, h4])
    | (simp [hi, h3, h4]; done)
/-- a small number is its own byte, its own short -/
theorem fa_byte_small {n : Nat} (h : n < 128) : (nI n).toInt8.toInt32 = nI n := by
  have : ∀ j : Fin 128, (nI j.val).toInt8.toInt32 = nI j.val := by decide +kernel
  exact this ⟨n, h⟩
/-! ===== absolute difference ===== -/
theorem fa_absdiff {a b : Nat} (ha : a < 2 ^ 31) (hb : b < 2 ^ 31) : (if nI a < nI b then nI b - nI a else nI a - nI b) = nI (if a < b then b - a else a - b) := by
  by_cases h : a < b
  · rw [if_pos (nI_lt h hb), if_pos h]
    exact pk_sub (Nat.le_of_lt h)
  · rw [if_neg (nI_nlt (Nat.le_of_not_lt h) ha), if_neg h]
    exact pk_sub (Nat.le_of_not_lt h)
/-! ===== an array behind i stores, a conditional store, a row copied ===== -/
/-- f where k < i, what stood there else -/
def fa_fill {α : Type} (f g : Nat → α) (i : Nat) : Nat → α := fun k => if k < i then f k else g k
theorem fa_fill_0 {α : Type} (f g : Nat → α) : fa_fill f g 0 = g := funext fun k => if_neg (Nat.not_lt_zero k)
theorem fa_fill_in {α : Type} {f g : Nat → α} {i k : Nat} (h : k < i) : fa_fill f g i k = f k := if_pos h
theorem fa_fill_out {α : Type} {f g : Nat → α} {i k : Nat} (h : i ≤ k) : fa_fill f g i k = g k := if_neg (Nat.not_lt.mpr h)
theorem fa_fill_succ (f g : Nat → Int32) (i : Nat) : upd (fa_fill f g i) i (f i) = fa_fill f g (i + 1) := by
  funext k
  by_cases e : k = i
  · subst e
    rw [pk_us]
    exact (if_pos (Nat.lt_succ_self k)).symm
  · rw [pk_un e]
    by_cases h : k < i
    · rw [fa_fill_in h, fa_fill_in (Nat.lt_succ_of_lt h)]
    · rw [fa_fill_out (Nat.le_of_not_lt h), fa_fill_out (by omega)]
/-- a store that changes nothing -/
theorem fa_upd_same {f : Nat → Int32} {i : Nat} {x : Int32} (h : f i = x) : upd f i x = f := by
  funext k
  by_cases e : k = i
  · subst e
    rw [pk_us, h]
  · rw [pk_un e]
/-- a store under a condition, told as one -/
theorem fa_upd_if (c : Prop) [Decidable c] (f : Nat → Int32) (i : Nat) (x : Int32) : (if c then upd f i x else f) = upd f i (if c then x else f i) := by
  by_cases h : c
  · rw [if_pos h, if_pos h]
  · rw [if_neg h, if_neg h, fa_upd_same rfl]
/-- two stores at one place, at two -/
theorem fa_upd_twice (f : Nat → Int32) (i : Nat) (x y : Int32) : upd (upd f i x) i y = upd f i y := by
  funext k
  by_cases e : k = i
  · subst e
    rw [pk_us, pk_us]
  · rw [pk_un e, pk_un e, pk_un e]
theorem fa_upd_swap (f : Nat → Int32) {i j : Nat} (h : i ≠ j) (x y : Int32) : upd (upd f i x) j y = upd (upd f j y) i x := by
  funext k
  by_cases e : k = i
  · subst e
    rw [pk_un h, pk_us, pk_us]
  · by_cases e2 : k = j
    · subst e2
      rw [pk_us, pk_un e, pk_us]
    · rw [pk_un e2, pk_un e, pk_un e, pk_un e2]
/-! ===== the first index with a property; a count ===== -/
/-- the first k < n with p k, n if there is none -/
def fa_first (p : Nat → Bool) : Nat → Nat
  | 0 => 0
  | n + 1 => if fa_first p n < n then fa_first p n else if p n then n else n + 1
theorem fa_first_le (p : Nat → Bool) : ∀ n, fa_first p n ≤ n
  | 0 => Nat.le_refl 0
  | n + 1 => by
    have ih := fa_first_le p n
    unfold fa_first
    split
    · omega
    · split
      · omega
      · omega
theorem fa_first_no (p : Nat → Bool) : ∀ n k, k < fa_first p n → p k = false
  | 0, k, h => absurd h (Nat.not_lt_zero k)
  | n + 1, k, h => by
    have ih := fa_first_no p n
    have hl := fa_first_le p n
    unfold fa_first at h
    split at h
    · exact ih k h
    · rename_i h1
      split at h
      · exact ih k (by omega)
      · rename_i h2
        by_cases e : k = n
        · subst e
          exact Bool.eq_false_iff.mpr h2
        · exact ih k (by omega)
theorem fa_first_yes (p : Nat → Bool) : ∀ n, fa_first p n < n → p (fa_first p n) = true
  | 0, h => absurd h (Nat.not_lt_zero _)
  | n + 1, h => by
    have ih := fa_first_yes p n
    have hl := fa_first_le p n
    unfold fa_first at h ⊢
    split at h
    · rename_i h1
      rw [if_pos h1]
      exact ih h1
    · rename_i h1
      rw [if_neg h1]
      split at h
      · rename_i h2
        rw [if_pos h2]
        exact h2
      · omega
/-- how many k < n have p k -/
def fa_cnt (p : Nat → Bool) : Nat → Nat
  | 0 => 0
  | n + 1 => fa_cnt p n + if p n then 1 else 0
theorem fa_cnt_le (p : Nat → Bool) : ∀ n, fa_cnt p n ≤ n
  | 0 => Nat.le_refl 0
  | n + 1 => by
    have ih := fa_cnt_le p n
    unfold fa_cnt
    split
    · omega
    · omega
theorem fa_cnt_yes {p : Nat → Bool} {n : Nat} (h : p n = true) : fa_cnt p (n + 1) = fa_cnt p n + 1 := by rw [fa_cnt, if_pos h]
theorem fa_cnt_no {p : Nat → Bool} {n : Nat} (h : p n = false) : fa_cnt p (n + 1) = fa_cnt p n := by rw [fa_cnt, if_neg (by rw [h]; decide)]; rfl
theorem fa_cnt_cong {p q : Nat → Bool} : ∀ {n : Nat}, (∀ k, k < n → p k = q k) → fa_cnt p n = fa_cnt q n
  | 0, _ => rfl
  | n + 1, h => by rw [fa_cnt, fa_cnt, fa_cnt_cong (fun k hk => h k (Nat.lt_succ_of_lt hk)), h n (Nat.lt_succ_self n)]
/-! ===== an answer carried into a post; a branch on a boolean answer ===== -/
theorem fa_post {α : Type} {P : α → Prop} {x y : α} (h : x = y) (hp : P y) : P x := h ▸ hp
theorem fa_post2 {α β : Type} {P : α → β → Prop} {x y : α} {u v : β} (h : x = y) (h2 : u = v) (hp : P y v) : P x u := h ▸ h2 ▸ hp
theorem fa_bool {r : Int32} {b : Bool} (h : r = if b then 1 else 0) : (r = 0 ↔ b = false) ∧ (¬ r = 0 ↔ b = true) := by
  subst h
  cases b
  · exact ⟨⟨fun _ => rfl, fun _ => rfl⟩, ⟨fun h => absurd rfl h, fun h => absurd h (by decide)⟩⟩
  · exact ⟨⟨fun h => absurd h (by decide), fun h => absurd h (by decide)⟩, ⟨fun _ => rfl, fun _ => by decide⟩⟩
/-- a boolean's narrowing changes nothing -/
theorem fa_bool_and {r : Int32} (h : r = 0 ∨ r = 1) : r &&& 1 = r := by
  rcases h with rfl | rfl
  · decide
  · decide
theorem fa_bool_prop {c : Prop} [Decidable c] {r : Int32} (h : r = if c then 1 else 0) : (r = 0 ↔ ¬ c) ∧ (¬ r = 0 ↔ c) := by
  subst h
  by_cases hc : c
  · rw [if_pos hc]
    exact ⟨⟨fun h => absurd h (by decide), fun h => absurd hc h⟩, ⟨fun _ => hc, fun _ => by decide⟩⟩
  · rw [if_neg hc]
    exact ⟨⟨fun _ => hc, fun _ => rfl⟩, ⟨fun h => absurd rfl h, fun h => absurd h hc⟩⟩
/-! plain facts to paste, each family by itself; over the kit's nI, lN and upd -/
/-! ===== drawers: more things than places ===== -/
theorem fb_holes : ∀ (m n : Nat) (f : Nat → Nat), (∀ i, i < n → f i < m) → (∀ i j, i < j → j < n → f i ≠ f j) → n ≤ m := by
  intro m
  induction m with
  | zero =>
    intro n f h1 _
    rcases Nat.eq_zero_or_pos n with h | h
    · omega
    · exact absurd (h1 0 h) (Nat.not_lt_zero _)
  | succ m ih =>
    intro n f h1 h2
    by_cases hx : ∃ i, i < n ∧ f i = m
    · obtain ⟨a, ha, hfa⟩ := hx
      have hg := ih (n - 1) (fun i => if i < a then f i else f (i + 1)) (by
        intro i hi
        by_cases q : i < a
        · simp only [if_pos q]
          have b1 := h1 i (by omega)
          have b2 := h2 i a q ha
          omega
        · simp only [if_neg q]
          have b1 := h1 (i + 1) (by omega)
          have b2 := h2 a (i + 1) (by omega) (by omega)
          omega) (by
        intro i j hij hj
        by_cases q : i < a
        · by_cases r : j < a
          · simp only [if_pos q, if_pos r]
            exact h2 i j hij (by omega)
          · simp only [if_pos q, if_neg r]
            exact h2 i (j + 1) (by omega) (by omega)
        · have r : ¬ j < a := by omega
          simp only [if_neg q, if_neg r]
          exact h2 (i + 1) (j + 1) (by omega) (by omega))
      omega
    · have hg := ih n f (fun i hi => by
        have b1 := h1 i hi
        have b2 : f i ≠ m := fun e => hx ⟨i, hi, e⟩
        omega) h2
      omega
/-- two of them in one place -/
theorem fb_twice {m n : Nat} {f : Nat → Nat} (h : ∀ i, i < n → f i < m) (hm : m < n) : ∃ i j, i < j ∧ j < n ∧ f i = f j := by
  refine Classical.byContradiction fun hx => ?_
  have := fb_holes m n f h (fun i j hij hj e => hx ⟨i, j, hij, hj, e⟩)
  omega
/-- as many as places, none twice: each place is taken -/
theorem fb_onto {n : Nat} {f : Nat → Nat} (h : ∀ i, i < n → f i < n) (h2 : ∀ i j, i < j → j < n → f i ≠ f j) {y : Nat} (hy : y < n) : ∃ i, i < n ∧ f i = y := by
  refine Classical.byContradiction fun hx => ?_
  have hne : ∀ i, i < n → f i ≠ y := fun i hi e => hx ⟨i, hi, e⟩
  have := fb_holes (n - 1) n (fun i => if f i < y then f i else f i - 1) (by
    intro i hi
    have b1 := h i hi
    have b2 := hne i hi
    by_cases q : f i < y
    · simp only [if_pos q]; omega
    · simp only [if_neg q]; omega) (by
    intro i j hij hj
    have b1 := hne i (by omega)
    have b2 := hne j hj
    have b3 := h2 i j hij hj
    by_cases q : f i < y
    · by_cases r : f j < y
      · simp only [if_pos q, if_pos r]; exact b3
      · simp only [if_pos q, if_neg r]; omega
    · by_cases r : f j < y
      · simp only [if_neg q, if_pos r]; omega
      · simp only [if_neg q, if_neg r]; omega)
  omega
/-! ===== how many places have a property ===== -/
def fb_ct (p : Nat → Bool) : Nat → Nat
  | 0 => 0
  | n + 1 => fb_ct p n + (if p n then 1 else 0)
theorem fb_ct_succ (p : Nat → Bool) (n : Nat) : fb_ct p (n + 1) = fb_ct p n + (if p n then 1 else 0) := rfl
theorem fb_ct_le (p : Nat → Bool) : ∀ n, fb_ct p n ≤ n
  | 0 => Nat.le_refl _
  | n + 1 => by
    have h := fb_ct_le p n
    rw [fb_ct_succ]
    split <;> omega
theorem fb_ct_step (p : Nat → Bool) (m : Nat) : ∀ n, fb_ct p m ≤ fb_ct p (m + n)
  | 0 => Nat.le_refl _
  | n + 1 => by
    have h := fb_ct_step p m n
    show fb_ct p m ≤ fb_ct p (m + n + 1)
    rw [fb_ct_succ]
    omega
theorem fb_ct_mono (p : Nat → Bool) {m n : Nat} (h : m ≤ n) : fb_ct p m ≤ fb_ct p n := by
  have := fb_ct_step p m (n - m)
  rwa [Nat.add_sub_cancel' h] at this
theorem fb_ct_cong {p q : Nat → Bool} : ∀ {n : Nat}, (∀ k, k < n → p k = q k) → fb_ct p n = fb_ct q n
  | 0, _ => rfl
  | n + 1, h => by
    rw [fb_ct_succ, fb_ct_succ, fb_ct_cong (fun k hk => h k (by omega)), h n (by omega)]
/-- one place changed -/
theorem fb_ct_out (p : Nat → Bool) (b : Bool) {i n : Nat} (h : n ≤ i) : fb_ct (fun k => if k = i then b else p k) n = fb_ct p n :=
  fb_ct_cong fun k hk => if_neg (by omega)
theorem fb_ct_upd (p : Nat → Bool) (b : Bool) {i : Nat} : ∀ {n : Nat}, i < n → fb_ct (fun k => if k = i then b else p k) n + (if p i then 1 else 0) = fb_ct p n + (if b then 1 else 0)
  | 0, h => absurd h (Nat.not_lt_zero i)
  | n + 1, h => by
    rw [fb_ct_succ, fb_ct_succ]
    rcases Nat.lt_or_ge i n with q | q
    · have := fb_ct_upd p b q
      have e : (if n = i then b else p n) = p n := if_neg (by omega)
      rw [e]
      omega
    · have e : i = n := by omega
      subst e
      rw [fb_ct_out p b (Nat.le_refl _)]
      simp only [if_true]
      omega
theorem fb_ct_sub {p q : Nat → Bool} : ∀ {n : Nat}, (∀ k, k < n → p k = true → q k = true) → fb_ct p n ≤ fb_ct q n
  | 0, _ => Nat.le_refl _
  | n + 1, h => by
    have h1 := fb_ct_sub (n := n) (p := p) (q := q) (fun k hk => h k (by omega))
    have h2 := h n (by omega)
    rw [fb_ct_succ, fb_ct_succ]
    cases hp : p n <;> cases hq : q n <;> simp_all <;> omega
theorem fb_ct_or {p q : Nat → Bool} : ∀ {n : Nat}, (∀ k, k < n → ¬ (p k = true ∧ q k = true)) → fb_ct (fun k => p k || q k) n = fb_ct p n + fb_ct q n
  | 0, _ => rfl
  | n + 1, h => by
    have h1 := fb_ct_or (n := n) (p := p) (q := q) (fun k hk => h k (by omega))
    have h2 := h n (by omega)
    rw [fb_ct_succ, fb_ct_succ, fb_ct_succ, h1]
    cases hp : p n <;> cases hq : q n <;> simp_all <;> omega
theorem fb_ct_not (p : Nat → Bool) : ∀ n, fb_ct p n + fb_ct (fun k => !p k) n = n
  | 0 => rfl
  | n + 1 => by
    have h := fb_ct_not p n
    rw [fb_ct_succ, fb_ct_succ]
    cases p n <;> simp <;> omega
theorem fb_ct_split (p : Nat → Bool) (m : Nat) : ∀ n, fb_ct p (m + n) = fb_ct p m + fb_ct (fun k => p (m + k)) n
  | 0 => rfl
  | n + 1 => by
    have h := fb_ct_split p m n
    show fb_ct p (m + n + 1) = _
    rw [fb_ct_succ, fb_ct_succ, h, Nat.add_assoc]
theorem fb_ct_zero {p : Nat → Bool} : ∀ {n : Nat}, fb_ct p n = 0 ↔ ∀ k, k < n → p k = false
  | 0 => ⟨fun _ k hk => absurd hk (Nat.not_lt_zero k), fun _ => rfl⟩
  | n + 1 => by
    have h := fb_ct_zero (p := p) (n := n)
    rw [fb_ct_succ]
    constructor
    · intro e k hk
      have e1 : fb_ct p n = 0 := by omega
      rcases Nat.lt_or_ge k n with q | q
      · exact h.mp e1 k q
      · have ek : k = n := by omega
        subst ek
        cases hp : p k
        · rfl
        · simp [hp] at e
    · intro a
      rw [h.mpr (fun k hk => a k (by omega)), a n (by omega)]
      rfl
theorem fb_ct_pos {p : Nat → Bool} {n : Nat} : 0 < fb_ct p n ↔ ∃ k, k < n ∧ p k = true := by
  constructor
  · intro h
    refine Classical.byContradiction fun hx => ?_
    have := fb_ct_zero.mpr (fun k hk => by
      cases hp : p k
      · rfl
      · exact absurd ⟨k, hk, hp⟩ hx : ∀ k, k < n → p k = false)
    omega
  · rintro ⟨k, hk, hp⟩
    rcases Nat.eq_zero_or_pos (fb_ct p n) with e | e
    · have := fb_ct_zero.mp e k hk
      rw [this] at hp
      cases hp
    · exact e
theorem fb_ct_all {p : Nat → Bool} {n : Nat} : fb_ct p n = n ↔ ∀ k, k < n → p k = true := by
  have h := fb_ct_not p n
  constructor
  · intro e k hk
    have z : fb_ct (fun k => !p k) n = 0 := by omega
    have := fb_ct_zero.mp z k hk
    cases hp : p k
    · simp [hp] at this
    · rfl
  · intro a
    have z : fb_ct (fun k => !p k) n = 0 := fb_ct_zero.mpr (fun k hk => by simp [a k hk])
    omega
/-- the k-th place with the property -/
theorem fb_ct_kth {p : Nat → Bool} {k : Nat} : ∀ {n : Nat}, k < fb_ct p n → ∃ i, i < n ∧ p i = true ∧ fb_ct p i = k
  | 0, h => absurd h (Nat.not_lt_zero k)
  | n + 1, h => by
    rcases Nat.lt_or_ge k (fb_ct p n) with q | q
    · obtain ⟨i, h1, h2⟩ := fb_ct_kth q
      exact ⟨i, by omega, h2⟩
    · rw [fb_ct_succ] at h
      cases hp : p n
      · simp [hp] at h; omega
      · simp [hp] at h
        exact ⟨n, by omega, hp, by omega⟩
theorem fb_ct_kth_one {p : Nat → Bool} {i j : Nat} (hi : p i = true) (hj : p j = true) (e : fb_ct p i = fb_ct p j) : i = j := by
  have key : ∀ a b : Nat, a < b → p a = true → fb_ct p a < fb_ct p b := by
    intro a b hab ha
    have h := fb_ct_mono p (show a + 1 ≤ b from hab)
    rw [fb_ct_succ, ha] at h
    simp at h
    omega
  rcases Nat.lt_trichotomy i j with q | q | q
  · have := key i j q hi; omega
  · exact q
  · have := key j i q hj; omega
/-! ===== sums over a range: one place changed, parts, bounds ===== -/
def fb_sm (f : Nat → Nat) : Nat → Nat
  | 0 => 0
  | n + 1 => fb_sm f n + f n
theorem fb_sm_succ (f : Nat → Nat) (n : Nat) : fb_sm f (n + 1) = fb_sm f n + f n := rfl
theorem fb_sm_cong {f g : Nat → Nat} : ∀ {n : Nat}, (∀ k, k < n → f k = g k) → fb_sm f n = fb_sm g n
  | 0, _ => rfl
  | n + 1, h => by rw [fb_sm_succ, fb_sm_succ, fb_sm_cong (fun k hk => h k (by omega)), h n (by omega)]
theorem fb_sm_out (f : Nat → Nat) (v : Nat) {i n : Nat} (h : n ≤ i) : fb_sm (fun k => if k = i then v else f k) n = fb_sm f n :=
  fb_sm_cong fun k hk => if_neg (by omega)
theorem fb_sm_upd (f : Nat → Nat) (v : Nat) {i : Nat} : ∀ {n : Nat}, i < n → fb_sm (fun k => if k = i then v else f k) n + f i = fb_sm f n + v
  | 0, h => absurd h (Nat.not_lt_zero i)
  | n + 1, h => by
    rw [fb_sm_succ, fb_sm_succ]
    rcases Nat.lt_or_ge i n with q | q
    · have := fb_sm_upd f v q
      have e : (if n = i then v else f n) = f n := if_neg (by omega)
      rw [e]
      omega
    · have e : i = n := by omega
      subst e
      rw [fb_sm_out f v (Nat.le_refl _)]
      simp only [if_true]
      omega
theorem fb_sm_add (f g : Nat → Nat) : ∀ n, fb_sm (fun k => f k + g k) n = fb_sm f n + fb_sm g n
  | 0 => rfl
  | n + 1 => by
    have h := fb_sm_add f g n
    rw [fb_sm_succ, fb_sm_succ, fb_sm_succ, h]
    omega
theorem fb_sm_le {f g : Nat → Nat} : ∀ {n : Nat}, (∀ k, k < n → f k ≤ g k) → fb_sm f n ≤ fb_sm g n
  | 0, _ => Nat.le_refl _
  | n + 1, h => by
    have h1 := fb_sm_le (n := n) (f := f) (g := g) (fun k hk => h k (by omega))
    have h2 := h n (by omega)
    rw [fb_sm_succ, fb_sm_succ]
    omega
theorem fb_sm_const (c : Nat) : ∀ n, fb_sm (fun _ => c) n = n * c
  | 0 => by rw [Nat.zero_mul]; rfl
  | n + 1 => by rw [fb_sm_succ, fb_sm_const c n, Nat.succ_mul]
theorem fb_sm_bound {f : Nat → Nat} {c n : Nat} (h : ∀ k, k < n → f k ≤ c) : fb_sm f n ≤ n * c := by
  rw [← fb_sm_const c n]
  exact fb_sm_le h
theorem fb_sm_mono (f : Nat → Nat) (m : Nat) : ∀ n, fb_sm f m ≤ fb_sm f (m + n)
  | 0 => Nat.le_refl _
  | n + 1 => by
    have h := fb_sm_mono f m n
    show fb_sm f m ≤ fb_sm f (m + n + 1)
    rw [fb_sm_succ]
    omega
theorem fb_sm_part (f : Nat → Nat) {i n : Nat} (h : i < n) : fb_sm f i + f i ≤ fb_sm f n := by
  have := fb_sm_mono f (i + 1) (n - (i + 1))
  rw [fb_sm_succ, show i + 1 + (n - (i + 1)) = n by omega] at this
  exact this
theorem fb_sm_split (f : Nat → Nat) (m : Nat) : ∀ n, fb_sm f (m + n) = fb_sm f m + fb_sm (fun k => f (m + k)) n
  | 0 => rfl
  | n + 1 => by
    have h := fb_sm_split f m n
    show fb_sm f (m + n + 1) = _
    rw [fb_sm_succ, fb_sm_succ, h, Nat.add_assoc]
theorem fb_sm_zero {f : Nat → Nat} {n : Nat} (h : fb_sm f n = 0) : ∀ k, k < n → f k = 0 := fun k hk => by
  have := fb_sm_part f hk
  omega
/-- the same over whole numbers -/
def fb_si (f : Nat → Int) : Nat → Int
  | 0 => 0
  | n + 1 => fb_si f n + f n
theorem fb_si_succ (f : Nat → Int) (n : Nat) : fb_si f (n + 1) = fb_si f n + f n := rfl
theorem fb_si_cong {f g : Nat → Int} : ∀ {n : Nat}, (∀ k, k < n → f k = g k) → fb_si f n = fb_si g n
  | 0, _ => rfl
  | n + 1, h => by rw [fb_si_succ, fb_si_succ, fb_si_cong (fun k hk => h k (by omega)), h n (by omega)]
theorem fb_si_out (f : Nat → Int) (v : Int) {i n : Nat} (h : n ≤ i) : fb_si (fun k => if k = i then v else f k) n = fb_si f n :=
  fb_si_cong fun k hk => if_neg (by omega)
theorem fb_si_upd (f : Nat → Int) (v : Int) {i : Nat} : ∀ {n : Nat}, i < n → fb_si (fun k => if k = i then v else f k) n = fb_si f n - f i + v
  | 0, h => absurd h (Nat.not_lt_zero i)
  | n + 1, h => by
    rw [fb_si_succ, fb_si_succ]
    rcases Nat.lt_or_ge i n with q | q
    · have := fb_si_upd f v q
      have e : (if n = i then v else f n) = f n := if_neg (by omega)
      rw [e]
      omega
    · have e : i = n := by omega
      subst e
      rw [fb_si_out f v (Nat.le_refl _)]
      simp only [if_true]
      omega
theorem fb_si_add (f g : Nat → Int) : ∀ n, fb_si (fun k => f k + g k) n = fb_si f n + fb_si g n
  | 0 => rfl
  | n + 1 => by
    have h := fb_si_add f g n
    rw [fb_si_succ, fb_si_succ, fb_si_succ, h]
    omega
theorem fb_si_sub (f g : Nat → Int) : ∀ n, fb_si (fun k => f k - g k) n = fb_si f n - fb_si g n
  | 0 => rfl
  | n + 1 => by
    have h := fb_si_sub f g n
    rw [fb_si_succ, fb_si_succ, fb_si_succ, h]
    omega
theorem fb_si_mul (c : Int) (f : Nat → Int) : ∀ n, fb_si (fun k => c * f k) n = c * fb_si f n
  | 0 => (Int.mul_zero c).symm
  | n + 1 => by
    have h := fb_si_mul c f n
    rw [fb_si_succ, fb_si_succ, h, Int.mul_add]
theorem fb_si_split (f : Nat → Int) (m : Nat) : ∀ n, fb_si f (m + n) = fb_si f m + fb_si (fun k => f (m + k)) n
  | 0 => (Int.add_zero _).symm
  | n + 1 => by
    have h := fb_si_split f m n
    show fb_si f (m + n + 1) = _
    rw [fb_si_succ, fb_si_succ, h, Int.add_assoc]
theorem fb_si_nat (f : Nat → Nat) : ∀ n, fb_si (fun k => (f k : Int)) n = (fb_sm f n : Int)
  | 0 => rfl
  | n + 1 => by
    have h := fb_si_nat f n
    rw [fb_si_succ, fb_sm_succ, h]
    omega
theorem fb_si_bound {f : Nat → Int} {c : Int} (hc : 0 ≤ c) : ∀ {n : Nat}, (∀ k, k < n → -c ≤ f k ∧ f k ≤ c) → -(n * c) ≤ fb_si f n ∧ fb_si f n ≤ n * c
  | 0, _ => by simp [fb_si]
  | n + 1, h => by
    have h1 := fb_si_bound (n := n) (f := f) hc (fun k hk => h k (by omega))
    have h2 := h n (by omega)
    have e : ((n + 1 : Nat) : Int) * c = n * c + c := by rw [Int.natCast_add, Int.add_mul]; simp
    rw [fb_si_succ, e]
    omega
/-! ===== bits of a long that isn't negative ===== -/
theorem fb_andL (a b : Nat) : lN a &&& lN b = lN (a &&& b) := by
  apply Int64.toBitVec_inj.1
  show BitVec.ofNat 64 a &&& BitVec.ofNat 64 b = BitVec.ofNat 64 (a &&& b)
  apply BitVec.eq_of_getLsbD_eq
  intro i hi
  simp [hi]
theorem fb_orL (a b : Nat) : lN a ||| lN b = lN (a ||| b) := by
  apply Int64.toBitVec_inj.1
  show BitVec.ofNat 64 a ||| BitVec.ofNat 64 b = BitVec.ofNat 64 (a ||| b)
  apply BitVec.eq_of_getLsbD_eq
  intro i hi
  simp [hi]
theorem fb_xorL (a b : Nat) : lN a ^^^ lN b = lN (a ^^^ b) := by
  apply Int64.toBitVec_inj.1
  show BitVec.ofNat 64 a ^^^ BitVec.ofNat 64 b = BitVec.ofNat 64 (a ^^^ b)
  apply BitVec.eq_of_getLsbD_eq
  intro i hi
  simp [hi]
theorem fb_xorI (a b : Nat) : nI a ^^^ nI b = nI (a ^^^ b) := by
  apply Int32.toBitVec_inj.1
  show BitVec.ofNat 32 a ^^^ BitVec.ofNat 32 b = BitVec.ofNat 32 (a ^^^ b)
  apply BitVec.eq_of_getLsbD_eq
  intro i hi
  simp [hi]
theorem fb_maskL (n k : Nat) : lN n &&& lN (2 ^ k - 1) = lN (n % 2 ^ k) := by rw [fb_andL, Nat.and_two_pow_sub_one_eq_mod]
theorem fb_or_sumL {a k : Nat} (b : Nat) (h : a < 2 ^ k) : lN (2 ^ k * b) ||| lN a = lN (2 ^ k * b + a) := by rw [fb_orL, Nat.two_pow_add_eq_or_of_lt h]
theorem fb_lN_inj {a b : Nat} (ha : a < 2 ^ 63) (hb : b < 2 ^ 63) : lN a = lN b ↔ a = b := by
  constructor
  · intro h
    have h1 : (BitVec.ofNat 64 a).toNat = (BitVec.ofNat 64 b).toNat := congrArg (fun x : Int64 => x.toBitVec.toNat) h
    rw [BitVec.toNat_ofNat, BitVec.toNat_ofNat, Nat.mod_eq_of_lt (by omega), Nat.mod_eq_of_lt (by omega)] at h1
    exact h1
  · rintro rfl; rfl
theorem fb_bit_nat (n j : Nat) : n &&& 2 ^ j = 0 ↔ n.testBit j = false := by
  constructor
  · intro h
    have h1 : (n &&& 2 ^ j).testBit j = false := by rw [h]; simp
    rw [Nat.testBit_and] at h1
    simpa using h1
  · intro h
    apply Nat.eq_of_testBit_eq
    intro i
    rw [Nat.testBit_and]
    by_cases hi : j = i
    · subst hi; simp [h]
    · first | (simp [Nat.testBit_two_pow, hi]; done) | (simp [Nat.testBit_two_pow_of_ne hi]; done)
/-- one bit of a long -/
theorem fb_bitL {n j : Nat} (hj : j < 63) : lN n &&& lN (2 ^ j) = 0 ↔ n.testBit j = false := by
  have h2 : (2 : Nat) ^ j < 2 ^ 63 := Nat.pow_lt_pow_right (by decide) hj
  have hle : n &&& 2 ^ j ≤ 2 ^ j := Nat.and_le_right
  rw [fb_andL, ← fb_bit_nat, show (0 : Int64) = lN 0 from rfl]
  exact fb_lN_inj (by omega) (by decide)
/-- a bit set, a bit taken off -/
theorem fb_bit_set (n j i : Nat) : (n ||| 2 ^ j).testBit i = (n.testBit i || decide (i = j)) := by
  rw [Nat.testBit_or]
  by_cases h : j = i
  · subst h; simp
  · have h2 : ¬ i = j := fun e => h e.symm
    first | (simp [Nat.testBit_two_pow, h, h2]; done) | (simp [Nat.testBit_two_pow_of_ne h, h2]; done)
theorem fb_bit_flip (n j i : Nat) : (n ^^^ 2 ^ j).testBit i = (n.testBit i ^^ decide (i = j)) := by
  rw [Nat.testBit_xor]
  by_cases h : j = i
  · subst h; simp
  · have h2 : ¬ i = j := fun e => h e.symm
    first | (simp [Nat.testBit_two_pow, h, h2]; done) | (simp [Nat.testBit_two_pow_of_ne h, h2]; done)
/-! ===== a stretch of an array written over by a function ===== -/
def fb_put {α : Type} (f g : Nat → α) (a n : Nat) : Nat → α := fun k => if a ≤ k ∧ k < a + n then g (k - a) else f k
theorem fb_put_0 {α : Type} (f g : Nat → α) (a : Nat) : fb_put f g a 0 = f := funext fun k => if_neg (by omega)
theorem fb_put_in {α : Type} {f g : Nat → α} {a n k : Nat} (h1 : a ≤ k) (h2 : k < a + n) : fb_put f g a n k = g (k - a) := if_pos ⟨h1, h2⟩
theorem fb_put_out {α : Type} {f g : Nat → α} {a n k : Nat} (h : k < a ∨ a + n ≤ k) : fb_put f g a n k = f k := if_neg (by omega)
theorem fb_put_succ (f g : Nat → Int32) (a n : Nat) : upd (fb_put f g a n) (a + n) (g n) = fb_put f g a (n + 1) := by
  funext k
  by_cases h : k = a + n
  · subst h
    simp [upd, fb_put]
  · by_cases h1 : a ≤ k ∧ k < a + n
    · have h2 : a ≤ k ∧ k < a + (n + 1) := by omega
      simp only [upd, fb_put, if_neg h, if_pos h1, if_pos h2]
    · have h2 : ¬ (a ≤ k ∧ k < a + (n + 1)) := by omega
      simp only [upd, fb_put, if_neg h, if_neg h1, if_neg h2]
/-- .. from the far end down -/
theorem fb_put_down (f g : Nat → Int32) {a n m : Nat} (h : m < n) : upd (fb_put f (fun k => g (k + (m + 1))) (a + (m + 1)) (n - (m + 1))) (a + m) (g m) = fb_put f (fun k => g (k + m)) (a + m) (n - m) := by
  funext k
  by_cases h0 : k = a + m
  · subst h0
    simp only [upd, if_true]
    rw [fb_put_in (by omega) (by omega)]
    exact congrArg g (by omega)
  · simp only [upd, if_neg h0]
    by_cases h1 : a + (m + 1) ≤ k ∧ k < a + (m + 1) + (n - (m + 1))
    · rw [fb_put_in h1.1 h1.2, fb_put_in (by omega) (by omega)]
      exact congrArg g (by omega)
    · rw [fb_put_out (by omega), fb_put_out (by omega)]
theorem fb_put_cong {α : Type} {f f2 g g2 : Nat → α} {a n : Nat} (hf : ∀ k, (k < a ∨ a + n ≤ k) → f k = f2 k) (hg : ∀ k, k < n → g k = g2 k) : fb_put f g a n = fb_put f2 g2 a n := by
  funext k
  by_cases h : a ≤ k ∧ k < a + n
  · rw [fb_put_in h.1 h.2, fb_put_in h.1 h.2, hg _ (by omega)]
  · rw [fb_put_out (by omega), fb_put_out (by omega), hf _ (by omega)]
/-! ===== the least, the first, the best so far; that there is one alone ===== -/
theorem fb_first {p : Nat → Prop} [DecidablePred p] : ∀ {n : Nat}, (∃ i, i < n ∧ p i) → ∃ i, i < n ∧ p i ∧ ∀ j, j < i → ¬ p j
  | 0, h => by obtain ⟨i, hi, -⟩ := h; exact absurd hi (Nat.not_lt_zero i)
  | n + 1, h => by
    by_cases q : ∃ i, i < n ∧ p i
    · obtain ⟨i, h1, h2⟩ := fb_first q
      exact ⟨i, by omega, h2⟩
    · obtain ⟨i, h1, h2⟩ := h
      have e : i = n := by
        rcases Nat.lt_or_ge i n with r | r
        · exact absurd ⟨i, r, h2⟩ q
        · omega
      subst e
      exact ⟨i, by omega, h2, fun j hj hp => q ⟨j, hj, hp⟩⟩
theorem fb_first_one {p : Nat → Prop} {i j : Nat} (hi : p i) (hi2 : ∀ k, k < i → ¬ p k) (hj : p j) (hj2 : ∀ k, k < j → ¬ p k) : i = j := by
  rcases Nat.lt_trichotomy i j with q | q | q
  · exact absurd hi (hj2 i q)
  · exact q
  · exact absurd hj (hi2 j q)
theorem fb_last {p : Nat → Prop} [DecidablePred p] : ∀ {n : Nat}, (∃ i, i < n ∧ p i) → ∃ i, i < n ∧ p i ∧ ∀ j, i < j → j < n → ¬ p j
  | 0, h => by obtain ⟨i, hi, -⟩ := h; exact absurd hi (Nat.not_lt_zero i)
  | n + 1, h => by
    by_cases q : p n
    · exact ⟨n, by omega, q, fun j h1 h2 => by omega⟩
    · obtain ⟨i, h1, h2⟩ := h
      have hi : i < n := by
        rcases Nat.lt_or_ge i n with r | r
        · exact r
        · have e : i = n := by omega
          subst e
          exact absurd h2 q
      obtain ⟨i2, a1, a2, a3⟩ := fb_last (n := n) ⟨i, hi, h2⟩
      refine ⟨i2, by omega, a2, fun j b1 b2 => ?_⟩
      rcases Nat.lt_or_ge j n with r | r
      · exact a3 j b1 r
      · have e : j = n := by omega
        subst e
        exact q
/-- the first greatest -/
theorem fb_best (f : Nat → Int) : ∀ {n : Nat}, 0 < n → ∃ i, i < n ∧ (∀ j, j < n → f j ≤ f i) ∧ ∀ j, j < i → f j < f i
  | 0, h => absurd h (Nat.lt_irrefl 0)
  | 1, _ => ⟨0, by omega, fun j hj => by have e : j = 0 := by omega
                                         subst e; exact Int.le_refl _, fun j hj => absurd hj (Nat.not_lt_zero j)⟩
  | n + 2, _ => by
    obtain ⟨i, h1, h2, h3⟩ := fb_best f (n := n + 1) (by omega)
    by_cases q : f i < f (n + 1)
    · refine ⟨n + 1, by omega, fun j hj => ?_, fun j hj => ?_⟩
      · rcases Nat.lt_or_ge j (n + 1) with r | r
        · have := h2 j r; omega
        · have e : j = n + 1 := by omega
          subst e; exact Int.le_refl _
      · have := h2 j hj; omega
    · refine ⟨i, by omega, fun j hj => ?_, h3⟩
      rcases Nat.lt_or_ge j (n + 1) with r | r
      · exact h2 j r
      · have e : j = n + 1 := by omega
        subst e; omega
theorem fb_best_one {f : Nat → Int} {n i j : Nat} (hi : i < n) (hi2 : ∀ k, k < n → f k ≤ f i) (hi3 : ∀ k, k < i → f k < f i) (hj : j < n) (hj2 : ∀ k, k < n → f k ≤ f j) (hj3 : ∀ k, k < j → f k < f j) : i = j := by
  rcases Nat.lt_trichotomy i j with q | q | q
  · have a := hj3 i q
    have b := hi2 j hj
    omega
  · exact q
  · have a := hi3 j q
    have b := hj2 i hi
    omega
/-- the first least -/
theorem fb_low (f : Nat → Int) {n : Nat} (h : 0 < n) : ∃ i, i < n ∧ (∀ j, j < n → f i ≤ f j) ∧ ∀ j, j < i → f i < f j := by
  obtain ⟨i, h1, h2, h3⟩ := fb_best (fun k => -f k) h
  exact ⟨i, h1, fun j hj => by have := h2 j hj; omega, fun j hj => by have := h3 j hj; omega⟩
/-! ===== signed ints as whole numbers, within bounds ===== -/
theorem fb_rng (x : Int32) : -2147483648 ≤ x.toInt ∧ x.toInt < 2147483648 := by
  have h1 := Int32.le_toInt x
  have h2 := Int32.toInt_lt x
  omega
theorem fb_bmod {z : Int} (h1 : -2147483648 ≤ z) (h2 : z < 2147483648) : z.bmod (2 ^ 32) = z := by
  rw [Int.bmod_eq_of_le (by omega) (by omega)]
theorem fb_addI {x y : Int32} (h1 : -2147483648 ≤ x.toInt + y.toInt) (h2 : x.toInt + y.toInt < 2147483648) : (x + y).toInt = x.toInt + y.toInt := by
  rw [Int32.toInt_add, fb_bmod h1 h2]
theorem fb_subI {x y : Int32} (h1 : -2147483648 ≤ x.toInt - y.toInt) (h2 : x.toInt - y.toInt < 2147483648) : (x - y).toInt = x.toInt - y.toInt := by
  rw [Int32.toInt_sub, fb_bmod h1 h2]
theorem fb_mulI {x y : Int32} (h1 : -2147483648 ≤ x.toInt * y.toInt) (h2 : x.toInt * y.toInt < 2147483648) : (x * y).toInt = x.toInt * y.toInt := by
  rw [Int32.toInt_mul, fb_bmod h1 h2]
theorem fb_negI {x : Int32} (h : x.toInt ≠ -2147483648) : (-x).toInt = -x.toInt := by
  have := fb_rng x
  rw [Int32.toInt_neg, fb_bmod (by omega) (by omega)]
theorem fb_ofI {z : Int} (h1 : -2147483648 ≤ z) (h2 : z < 2147483648) : (Int32.ofInt z).toInt = z := by
  rw [Int32.toInt_ofInt, fb_bmod h1 h2]
theorem fb_asI (x : Int32) : Int32.ofInt x.toInt = x := Int32.ofInt_toInt x
theorem fb_rngL (x : Int64) : -9223372036854775808 ≤ x.toInt ∧ x.toInt < 9223372036854775808 := by
  have h1 := Int64.le_toInt x
  have h2 := Int64.toInt_lt x
  omega
theorem fb_bmodL {z : Int} (h1 : -9223372036854775808 ≤ z) (h2 : z < 9223372036854775808) : z.bmod (2 ^ 64) = z := by
  rw [Int.bmod_eq_of_le (by omega) (by omega)]
theorem fb_addL {x y : Int64} (h1 : -9223372036854775808 ≤ x.toInt + y.toInt) (h2 : x.toInt + y.toInt < 9223372036854775808) : (x + y).toInt = x.toInt + y.toInt := by
  rw [Int64.toInt_add, fb_bmodL h1 h2]
theorem fb_subL {x y : Int64} (h1 : -9223372036854775808 ≤ x.toInt - y.toInt) (h2 : x.toInt - y.toInt < 9223372036854775808) : (x - y).toInt = x.toInt - y.toInt := by
  rw [Int64.toInt_sub, fb_bmodL h1 h2]
theorem fb_mulL {x y : Int64} (h1 : -9223372036854775808 ≤ x.toInt * y.toInt) (h2 : x.toInt * y.toInt < 9223372036854775808) : (x * y).toInt = x.toInt * y.toInt := by
  rw [Int64.toInt_mul, fb_bmodL h1 h2]
/-! ===== cuts of what is narrow already ===== -/
theorem fb_byte {x : Int32} (h1 : -128 ≤ x.toInt) (h2 : x.toInt < 128) : x.toInt8.toInt32 = x := by
  apply Int32.toInt_inj.1
  rw [Int8.toInt_toInt32, Int32.toInt_toInt8, Int.bmod_eq_of_le (by omega) (by omega)]
theorem fb_short {x : Int32} (h1 : -32768 ≤ x.toInt) (h2 : x.toInt < 32768) : x.toInt16.toInt32 = x := by
  apply Int32.toInt_inj.1
  rw [Int16.toInt_toInt32, Int32.toInt_toInt16, Int.bmod_eq_of_le (by omega) (by omega)]
theorem fb_byte_rng (x : Int32) : -128 ≤ x.toInt8.toInt32.toInt ∧ x.toInt8.toInt32.toInt < 128 := by
  rw [Int8.toInt_toInt32]
  have h1 := Int8.le_toInt x.toInt8
  have h2 := Int8.toInt_lt x.toInt8
  omega
theorem fb_short_rng (x : Int32) : -32768 ≤ x.toInt16.toInt32.toInt ∧ x.toInt16.toInt32.toInt < 32768 := by
  rw [Int16.toInt_toInt32]
  have h1 := Int16.le_toInt x.toInt16
  have h2 := Int16.toInt_lt x.toInt16
  omega
theorem fb_byte_twice (x : Int32) : x.toInt8.toInt32.toInt8.toInt32 = x.toInt8.toInt32 := fb_byte (fb_byte_rng x).1 (fb_byte_rng x).2
theorem fb_short_twice (x : Int32) : x.toInt16.toInt32.toInt16.toInt32 = x.toInt16.toInt32 := fb_short (fb_short_rng x).1 (fb_short_rng x).2
theorem fb_char {n : Nat} (h : n < 65536) : (nI n).toUInt32.toUInt16.toUInt32.toInt32 = nI n := by
  apply Int32.toBitVec_inj.1
  apply BitVec.eq_of_toNat_eq
  have e1 : (nI n).toBitVec.toNat = n := by
    show (BitVec.ofNat 32 n).toNat = n
    rw [BitVec.toNat_ofNat, Nat.mod_eq_of_lt (by omega)]
  have e2 : ((nI n).toUInt32.toUInt16.toUInt32).toNat = n := by
    rw [UInt16.toNat_toUInt32, UInt32.toNat_toUInt16]
    show (nI n).toBitVec.toNat % 2 ^ 16 = n
    rw [e1, Nat.mod_eq_of_lt (by omega)]
  rw [e1]
  exact e2
end
section
theorem code_max : Cond.code Lib.Math.max.name Lib.Math.max.code 2 (some .int) ∈ Tb := inTb (List.mem_of_getElem? (i := 427) (by decide +kernel)) (by decide +kernel)
theorem sta_max : Cond.static Lib.Math.max.name ∈ Tb := inTb (List.mem_of_getElem? (i := 426) (by decide +kernel)) (by decide +kernel)
theorem code_min : Cond.code Lib.Math.min.name Lib.Math.min.code 2 (some .int) ∈ Tb := inTb (List.mem_of_getElem? (i := 424) (by decide +kernel)) (by decide +kernel)
theorem sta_min : Cond.static Lib.Math.min.name ∈ Tb := inTb (List.mem_of_getElem? (i := 423) (by decide +kernel)) (by decide +kernel)
theorem ini_math : Cond.initialized "java/lang/Math" ∈ Tb := inTb (List.mem_of_getElem? (i := 61) (by decide +kernel)) (by decide +kernel)
section GM
variable {G : GX} {d : Nat} {M : MI} {pc : Nat} {L L2 : List (Nat × Value)} {st st2 : List Value} {mem : Mem} {Φ : Option Value → Mem → Prop}
theorem go_mmax {idx : Nat} {x y : Int32} (hw : Cond.methodLink M.1.cls idx yJ9_max_7cf53 ∈ Tb) (hW : (st.map fun v => v.category).sum ≤ 8) (hd : decode M.2.1 pc = .ok (.invokestatic idx, 3)) (k : Go G (d + 1) M (pc + 3) L (.int (if x < y then y else x) :: st) mem Φ) : Go G (d + 1) M pc L (.int y :: .int x :: st) mem Φ := fun p e s m args below meth c H locs ls F I P S hl => by
  refine va_mmax F.1 F.2.1 (F.2.2.2.1.trans hl.1.symm) F.2.2.2.2.1 (F.2.2.2.2.2.1 _ hw) (F.2.2.2.2.2.1 _ sta_max) (F.2.2.2.2.2.1 _ ini_math) (F.2.2.2.2.2.1 _ code_max) (Nat.succ_le_succ (Nat.zero_le d)) ?_ (Nat.le_refl _) (Nat.le_refl _) hd (k p e s m args below meth c H locs ls F I P S hl)
  rw [catm]
  show _ + 13 ≤ 40 * (d + 1)
  omega
theorem go_mmin {idx : Nat} {x y : Int32} (hw : Cond.methodLink M.1.cls idx yJ9_min_7cf53 ∈ Tb) (hW : (st.map fun v => v.category).sum ≤ 8) (hd : decode M.2.1 pc = .ok (.invokestatic idx, 3)) (k : Go G (d + 1) M (pc + 3) L (.int (if y < x then y else x) :: st) mem Φ) : Go G (d + 1) M pc L (.int y :: .int x :: st) mem Φ := fun p e s m args below meth c H locs ls F I P S hl => by
  refine va_mmin F.1 F.2.1 (F.2.2.2.1.trans hl.1.symm) F.2.2.2.2.1 (F.2.2.2.2.2.1 _ hw) (F.2.2.2.2.2.1 _ sta_min) (F.2.2.2.2.2.1 _ ini_math) (F.2.2.2.2.2.1 _ code_min) (Nat.succ_le_succ (Nat.zero_le d)) ?_ (Nat.le_refl _) (Nat.le_refl _) hd (k p e s m args below meth c H locs ls F I P S hl)
  rw [catm]
  show _ + 13 ≤ 40 * (d + 1)
  omega
end GM
end
section
/-! ===== a beam in plain numbers: how many clocks, kind, period, hand, beaten by clock, push, tick ===== -/
abbrev Bm : Type := Nat × (Nat → Nat) × (Nat → Nat) × (Nat → Nat) × (Nat → Nat) × Nat × Nat
abbrev xn (X : Bm) : Nat := X.1
abbrev xk (X : Bm) : Nat → Nat := X.2.1
abbrev xp (X : Bm) : Nat → Nat := X.2.2.1
abbrev xh (X : Bm) : Nat → Nat := X.2.2.2.1
abbrev xe (X : Bm) : Nat → Nat := X.2.2.2.2.1
abbrev xu (X : Bm) : Nat := X.2.2.2.2.2.1
abbrev xt (X : Bm) : Nat := X.2.2.2.2.2.2
def whF (f : Nat → Bool) : Nat → Nat
  | 0 => 0
  | i + 1 => whF f i + (if f i = true then 2 ^ i else 0)
def ctF (f : Nat → Bool) : Nat → Nat
  | 0 => 0
  | i + 1 => ctF f i + (if f i = true then 1 else 0)
/-- a clock beats; g is the one that is gone (9: none) -/
def bt (g : Nat) (X : Bm) (c : Nat) : Bool := decide (c ≠ g ∧ xh X c + 1 = xp X c)
def who (g : Nat) (X : Bm) : Nat := whF (bt g X) (xn X)
def many (g : Nat) (X : Bm) : Nat := ctF (bt g X) (xn X)
def shvN (k m u : Nat) : Nat := if k = 0 then m * u else if k = 2 then (m - 1) * u else m * u / 2
/-- a pushed hand -/
def shN (k p h m u : Nat) : Nat := if k ≠ 3 ∧ p ≤ 2 * h then (if p - 1 < h + shvN k m u then p - 1 else h + shvN k m u) else h - shvN k m u
def mvh (g : Nat) (X : Bm) (c : Nat) : Nat := if bt g X c = true then 0 else xh X c + 1
def mve (g : Nat) (X : Bm) (c : Nat) : Nat := if bt g X c = true then xe X c + 1 else xe X c
/-- the hands moved on, nobody pushed yet, the tick not counted yet -/
def movX (g : Nat) (X : Bm) : Bm := (xn X, xk X, xp X, mvh g X, mve g X, xu X, xt X)
def tkh (g : Nat) (held : Bool) (X : Bm) (c : Nat) : Nat := if bt g X c = true then 0 else if held = true ∨ many g X = 0 then xh X c + 1 else shN (xk X c) (xp X c) (xh X c + 1) (many g X) (xu X)
/-- a tick -/
def tkX (g : Nat) (held : Bool) (X : Bm) : Bm := (xn X, xk X, xp X, tkh g held X, mve g X, xu X, xt X + 1)
/-- as it must be; the gone one's hand may be up to B -/
def VX (g B : Nat) (X : Bm) : Prop := xn X ≤ 5 ∧ xu X ≤ 5 ∧ ∀ c, c < xn X → xk X c ≤ 3 ∧ 2 ≤ xp X c ∧ xp X c ≤ 30 ∧ (c ≠ g → xh X c < xp X c) ∧ (c = g → xh X c ≤ B)
theorem five {P : Nat → Prop} (h0 : P 0) (h1 : P 1) (h2 : P 2) (h3 : P 3) (h4 : P 4) {i : Nat} (hi : i < 5) : P i := by
  rcases (show i = 0 ∨ i = 1 ∨ i = 2 ∨ i = 3 ∨ i = 4 by omega) with rfl | rfl | rfl | rfl | rfl
  · exact h0
  · exact h1
  · exact h2
  · exact h3
  · exact h4
theorem six {P : Nat → Prop} (h0 : P 0) (h1 : P 1) (h2 : P 2) (h3 : P 3) (h4 : P 4) (h5 : P 5) {i : Nat} (hi : i ≤ 5) : P i := by
  rcases (show i = 0 ∨ i = 1 ∨ i = 2 ∨ i = 3 ∨ i = 4 ∨ i = 5 by omega) with rfl | rfl | rfl | rfl | rfl | rfl
  · exact h0
  · exact h1
  · exact h2
  · exact h3
  · exact h4
  · exact h5
theorem whF_lt (f : Nat → Bool) : ∀ i, whF f i < 2 ^ i
  | 0 => Nat.lt_succ_self 0
  | i + 1 => by
    have ih := whF_lt f i
    have e : 2 ^ (i + 1) = 2 ^ i + 2 ^ i := by rw [Nat.pow_succ]; omega
    unfold whF
    split <;> omega
theorem ctF_le (f : Nat → Bool) : ∀ i, ctF f i ≤ i
  | 0 => Nat.le_refl _
  | i + 1 => by
    have ih := ctF_le f i
    unfold ctF
    split <;> omega
theorem whF_cong {f g : Nat → Bool} : ∀ i, (∀ j, j < i → f j = g j) → whF f i = whF g i
  | 0, _ => rfl
  | i + 1, h => by
    unfold whF
    rw [whF_cong i (fun j hj => h j (by omega)), h i (by omega)]
theorem ctF_cong {f g : Nat → Bool} : ∀ i, (∀ j, j < i → f j = g j) → ctF f i = ctF g i
  | 0, _ => rfl
  | i + 1, h => by
    unfold ctF
    rw [ctF_cong i (fun j hj => h j (by omega)), h i (by omega)]
theorem whF_bit (f : Nat → Bool) {i c : Nat} (hi : i ≤ 5) (hc : c < i) : whF f i / 2 ^ c % 2 = if f c = true then 1 else 0 := by
  refine six (P := fun i => ∀ c, c < i → whF f i / 2 ^ c % 2 = if f c = true then 1 else 0) ?_ ?_ ?_ ?_ ?_ ?_ hi c hc
  · intro c h; omega
  · intro c h
    obtain rfl : c = 0 := by omega
    cases h0 : f 0 <;> simp [whF, h0]
  · intro c h
    rcases (show c = 0 ∨ c = 1 by omega) with rfl | rfl <;> cases h0 : f 0 <;> cases h1 : f 1 <;> simp [whF, h0, h1]
  · intro c h
    rcases (show c = 0 ∨ c = 1 ∨ c = 2 by omega) with rfl | rfl | rfl <;> cases h0 : f 0 <;> cases h1 : f 1 <;> cases h2 : f 2 <;> simp [whF, h0, h1, h2]
  · intro c h
    rcases (show c = 0 ∨ c = 1 ∨ c = 2 ∨ c = 3 by omega) with rfl | rfl | rfl | rfl <;> cases h0 : f 0 <;> cases h1 : f 1 <;> cases h2 : f 2 <;> cases h3 : f 3 <;> simp [whF, h0, h1, h2, h3]
  · intro c h
    rcases (show c = 0 ∨ c = 1 ∨ c = 2 ∨ c = 3 ∨ c = 4 by omega) with rfl | rfl | rfl | rfl | rfl <;> cases h0 : f 0 <;> cases h1 : f 1 <;> cases h2 : f 2 <;> cases h3 : f 3 <;> cases h4 : f 4 <;> simp [whF, h0, h1, h2, h3, h4]
def popN (w : Nat) : Nat := w % 2 + w / 2 % 2 + w / 4 % 2 + w / 8 % 2 + w / 16 % 2
theorem whF_pop (f : Nat → Bool) {i : Nat} (hi : i ≤ 5) : popN (whF f i) = ctF f i := by
  refine six (P := fun i => popN (whF f i) = ctF f i) ?_ ?_ ?_ ?_ ?_ ?_ hi <;> cases h0 : f 0 <;> cases h1 : f 1 <;> cases h2 : f 2 <;> cases h3 : f 3 <;> cases h4 : f 4 <;> simp [whF, ctF, popN, h0, h1, h2, h3, h4]
theorem whF_zero (f : Nat → Bool) : ∀ i, whF f i = 0 ↔ ctF f i = 0
  | 0 => by simp [whF, ctF]
  | i + 1 => by
    have ih := whF_zero f i
    have hp : 0 < 2 ^ i := Nat.two_pow_pos i
    unfold whF ctF
    by_cases h : f i = true
    · rw [if_pos h, if_pos h]; omega
    · rw [if_neg h, if_neg h]; omega
theorem ctF_zero (f : Nat → Bool) : ∀ i, ctF f i = 0 ↔ ∀ c, c < i → f c = false
  | 0 => ⟨fun _ c h => by omega, fun _ => rfl⟩
  | i + 1 => by
    have ih := ctF_zero f i
    unfold ctF
    by_cases h : f i = true
    · rw [if_pos h]
      refine ⟨fun e => by omega, fun e => ?_⟩
      rw [e i (by omega)] at h
      cases h
    · rw [if_neg h, Nat.add_zero, ih]
      refine ⟨fun e c hc => ?_, fun e c hc => e c (by omega)⟩
      rcases Nat.lt_or_ge c i with q | q
      · exact e c q
      · obtain rfl : c = i := by omega
        cases hf : f c
        · rfl
        · exact absurd hf h
theorem whF_all (f : Nat → Bool) : ∀ i, whF f i + 1 = 2 ^ i ↔ ∀ c, c < i → f c = true
  | 0 => ⟨fun _ c h => by omega, fun _ => rfl⟩
  | i + 1 => by
    have ih := whF_all f i
    have hl := whF_lt f i
    have e : 2 ^ (i + 1) = 2 ^ i + 2 ^ i := by rw [Nat.pow_succ]; omega
    unfold whF
    by_cases h : f i = true
    · rw [if_pos h, e]
      refine ⟨fun q c hc => ?_, fun q => ?_⟩
      · rcases Nat.lt_or_ge c i with z | z
        · exact ih.mp (by omega) c z
        · obtain rfl : c = i := by omega
          exact h
      · have := ih.mpr (fun c hc => q c (by omega))
        omega
    · rw [if_neg h]
      refine ⟨fun q => by omega, fun q => absurd (q i (by omega)) h⟩
/-! bits of small numbers, by trying all -/
theorem bit_or : ∀ i, i < 5 → ∀ w, w < 32 → w < 2 ^ i → nI w ||| ((1 : Int32) <<< (nI i &&& 31)) = nI (w + 2 ^ i) := by decide +kernel
theorem bit_at : ∀ w, w < 32 → ∀ c, c < 5 → ((nI w >>> (nI c &&& 31)) &&& 1) = nI (w / 2 ^ c % 2) := by decide +kernel
def bcI (a0 : Int32) : Int32 :=
  let y1 := (a0 - ((((a0).toUInt32 >>> ((1 : Int32).toUInt32 &&& Int32.toUInt32 31)).toInt32) &&& 1431655765))
  let y2 := ((y1 &&& 858993459) + ((((y1).toUInt32 >>> ((2 : Int32).toUInt32 &&& Int32.toUInt32 31)).toInt32) &&& 858993459))
  let y3 := ((y2 + (((y2).toUInt32 >>> ((4 : Int32).toUInt32 &&& Int32.toUInt32 31)).toInt32)) &&& 252645135)
  let y4 := (y3 + (((y3).toUInt32 >>> ((8 : Int32).toUInt32 &&& Int32.toUInt32 31)).toInt32))
  let y5 := (y4 + (((y4).toUInt32 >>> ((16 : Int32).toUInt32 &&& Int32.toUInt32 31)).toInt32))
  y5 &&& 63
theorem bc_small : ∀ w, w < 32 → bcI (nI w) = nI (popN w) := by decide +kernel
theorem who_lt {g B : Nat} {X : Bm} (h : VX g B X) : who g X < 32 := by
  have h1 := whF_lt (bt g X) (xn X)
  have h2 : 2 ^ (xn X) ≤ 2 ^ 5 := Nat.pow_le_pow_right (by decide) h.1
  unfold who
  omega
theorem who_bc {g B : Nat} {X : Bm} (h : VX g B X) : bcI (nI (who g X)) = nI (many g X) := by
  rw [bc_small _ (who_lt h)]
  unfold who many
  rw [whF_pop _ h.1]
theorem who_bit {g B : Nat} {X : Bm} (h : VX g B X) {c : Nat} (hc : c < xn X) : ((nI (who g X) >>> (nI c &&& 31)) &&& 1) = if bt g X c = true then 1 else 0 := by
  rw [bit_at _ (who_lt h) c (by have := h.1; omega)]
  unfold who
  rw [whF_bit _ h.1 hc]
  split <;> decide
theorem who0 {g : Nat} {X : Bm} : who g X = 0 ↔ many g X = 0 := whF_zero _ _
theorem many_le {g B : Nat} {X : Bm} (h : VX g B X) : many g X ≤ 5 := Nat.le_trans (ctF_le _ _) h.1
theorem bt_iff {g : Nat} {X : Bm} {c : Nat} : bt g X c = true ↔ (c ≠ g ∧ xh X c + 1 = xp X c) := by
  unfold bt
  exact decide_eq_true_iff
theorem shN_lt {k p h m u : Nat} (hp : 2 ≤ p) (hh : h < p) : shN k p h m u < p := by
  unfold shN
  split
  · split <;> omega
  · omega
theorem shN_le {k p h m u : Nat} : shN k p h m u ≤ h + p ∧ (h < p → shN k p h m u ≤ p) ∧ shN k p h m u ≤ max h p := by
  unfold shN
  split
  · split <;> omega
  · omega
theorem VX_tk {g B : Nat} {X : Bm} (h : VX g B X) (hB : 30 ≤ B) (held : Bool) : VX g (B + 1) (tkX g held X) := by
  obtain ⟨h1, h2, h3⟩ := h
  refine ⟨h1, h2, fun c hc => ?_⟩
  obtain ⟨a1, a2, a3, a4, a5⟩ := h3 c hc
  refine ⟨a1, a2, a3, fun q => ?_, fun q => ?_⟩
  · have a4 := a4 q
    show tkh g held X c < xp X c
    unfold tkh
    by_cases hb : bt g X c = true
    · rw [if_pos hb]; omega
    · rw [if_neg hb]
      have hb2 : ¬ (xh X c + 1 = xp X c) := fun e => hb (bt_iff.mpr ⟨q, e⟩)
      split
      · omega
      · exact shN_lt a2 (by omega)
  · have a5 := a5 q
    show tkh g held X c ≤ B + 1
    unfold tkh
    by_cases hb : bt g X c = true
    · rw [if_pos hb]; omega
    · rw [if_neg hb]
      split
      · omega
      · have := (shN_le (k := xk X c) (p := xp X c) (h := xh X c + 1) (m := many g X) (u := xu X)).2.2
        omega
theorem VX_wk {g B B2 : Nat} {X : Bm} (h : VX g B X) (hB : B ≤ B2) : VX g B2 X := ⟨h.1, h.2.1, fun c hc => ⟨(h.2.2 c hc).1, (h.2.2 c hc).2.1, (h.2.2 c hc).2.2.1, (h.2.2 c hc).2.2.2.1, fun q => Nat.le_trans ((h.2.2 c hc).2.2.2.2 q) hB⟩⟩
/-- with none gone -/
theorem VX9 {B B2 : Nat} {X : Bm} (h : VX 9 B X) : VX 9 B2 X := ⟨h.1, h.2.1, fun c hc => ⟨(h.2.2 c hc).1, (h.2.2 c hc).2.1, (h.2.2 c hc).2.2.1, (h.2.2 c hc).2.2.2.1, fun q => by have := h.1; omega⟩⟩
theorem VX9_tk {B : Nat} {X : Bm} (h : VX 9 B X) (held : Bool) : VX 9 B (tkX 9 held X) := VX9 (VX_tk (VX9 (B2 := 30) h) (Nat.le_refl _) held)
/-! ===== what holds such a beam ===== -/
def RepB (mem : Mem) (b : Nat) (X : Bm) : Prop := mem b 4 = nI (xn X) ∧ mem b 5 = nI (xu X) ∧ mem b 6 = nI (xt X) ∧ ∀ c, c < xn X → mem (b + 1) c = nI (xk X c) ∧ mem (b + 2) c = nI (xp X c) ∧ mem (b + 3) c = nI (xh X c) ∧ mem (b + 4) c = nI (xe X c)
def RepM (mem : Mem) (P : Nat) (X : Bm) : Prop := mem 41 (P + 20) = nI (xn X) ∧ mem 41 (P + 21) = nI (xu X) - 1 ∧ mem 41 (P + 22) = nI (xt X) ∧ ∀ c, c < xn X → mem 41 (P + c) = nI (xk X c) ∧ mem 41 (P + 5 + c) = nI (xp X c) ∧ mem 41 (P + 10 + c) = nI (xh X c) ∧ mem 41 (P + 15 + c) = nI (xe X c)
/-- but for the beam's own cells nothing changed -/
def FrB (b : Nat) (mem m2 : Mem) : Prop := ∀ k, (k < b ∨ b + 4 < k) → m2 k = mem k
theorem FrB.rf {b : Nat} {mem : Mem} : FrB b mem mem := fun _ _ => rfl
theorem FrB.tr {b : Nat} {m1 m2 m3 : Mem} (h : FrB b m1 m2) (h2 : FrB b m2 m3) : FrB b m1 m3 := fun k hk => (h2 k hk).trans (h k hk)
/-- but for a page of the state nothing changed -/
def FrM (P : Nat) (mem m2 : Mem) : Prop := (∀ k, k ≠ 41 → m2 k = mem k) ∧ ∀ j, (j < P ∨ P + 23 ≤ j) → m2 41 j = mem 41 j
theorem FrM.rf {P : Nat} {mem : Mem} : FrM P mem mem := ⟨fun _ _ => rfl, fun _ _ => rfl⟩
theorem FrM.tr {P : Nat} {m1 m2 m3 : Mem} (h : FrM P m1 m2) (h2 : FrM P m2 m3) : FrM P m1 m3 := ⟨fun k hk => (h2.1 k hk).trans (h.1 k hk), fun j hj => (h2.2 j hj).trans (h.2 j hj)⟩
theorem nle {a b : Nat} (ha : a < 2000000000) (hb : b < 2000000000) : nI a ≤ nI b ↔ a ≤ b := nI_leI (by omega) (by omega)
theorem nlt {a b : Nat} (ha : a < 2000000000) (hb : b < 2000000000) : nI a < nI b ↔ a < b := nI_ltI (by omega) (by omega)
theorem neq {a b : Nat} (ha : a < 2000000000) (hb : b < 2000000000) : nI a = nI b ↔ a = b := nI_eq (by omega) (by omega)
theorem ncl {a : Nat} (ha : a < 2000000000) : (nI a).toNatClampNeg = a := nI_clamp (by omega)
theorem nin {a n : Nat} (h : a < n) (hn : n < 2000000000) : vp_in (nI a) n := vp_in_nI h (by omega)
end
section
set_option maxRecDepth 100000 in
theorem sX5_isWithin_0 {G : GX} {d : Nat} {mem : Mem} {Φ : Option Value → Mem → Prop} (a0 : Int32) (a1 : Int32) (a2 : Int32) (h : ((a0 < a1 → Φ (some (.int 0)) mem) ∧ (¬ a0 < a1 → ((a2 < a0 → Φ (some (.int 0)) mem) ∧ (¬ a2 < a0 → Φ (some (.int 1)) mem))))) : Go G (d + 0) mX5_isWithin 0 [(0, .int a0), (1, .int a1), (2, .int a2)] [] mem Φ := by
  refine go_iload_n dX5_isWithin_0 0 rfl ?_
  refine go_iload_n dX5_isWithin_1 1 rfl ?_
  refine go_icmp_lt 14 dX5_isWithin_2 (by decide) (fun q => ?_) (fun q => ?_)
  · have h := h.1 q
    refine go_iconst (v := 0) dX5_isWithin_14 (by decide) ?_
    exact go_zret (ty := .boolean) rfl rfl dX5_isWithin_15 h
  · have h := h.2 q
    refine go_iload_n dX5_isWithin_5 0 rfl ?_
    refine go_iload_n dX5_isWithin_6 2 rfl ?_
    refine go_icmp_gt 14 dX5_isWithin_7 (by decide) (fun q => ?_) (fun q => ?_)
    · have h := h.1 q
      refine go_iconst (v := 0) dX5_isWithin_14 (by decide) ?_
      exact go_zret (ty := .boolean) rfl rfl dX5_isWithin_15 h
    · have h := h.2 q
      refine go_iconst (v := 1) dX5_isWithin_10 (by decide) ?_
      refine go_goto 15 dX5_isWithin_11 (by decide) ?_
      exact go_zret (ty := .boolean) rfl rfl dX5_isWithin_15 h

set_option maxRecDepth 100000 in
theorem sX5_isBitSet_0 {G : GX} {d : Nat} {mem : Mem} {Φ : Option Value → Mem → Prop} (a0 : Int32) (a1 : Int32) (h : ((((a0 >>> (a1 &&& 31)) &&& 1) = 0 → Φ (some (.int 0)) mem) ∧ (¬ ((a0 >>> (a1 &&& 31)) &&& 1) = 0 → Φ (some (.int 1)) mem))) : Go G (d + 0) mX5_isBitSet 0 [(0, .int a0), (1, .int a1)] [] mem Φ := by
  refine go_iload_n dX5_isBitSet_0 0 rfl ?_
  refine go_iload_n dX5_isBitSet_1 1 rfl ?_
  refine go_ishr dX5_isBitSet_2 ?_
  refine go_iconst (v := 1) dX5_isBitSet_3 (by decide) ?_
  refine go_iand dX5_isBitSet_4 ?_
  refine go_if_eq 12 dX5_isBitSet_5 (by decide) (fun q => ?_) (fun q => ?_)
  · have h := h.1 q
    refine go_iconst (v := 0) dX5_isBitSet_12 (by decide) ?_
    exact go_zret (ty := .boolean) rfl rfl dX5_isBitSet_13 h
  · have h := h.2 q
    refine go_iconst (v := 1) dX5_isBitSet_8 (by decide) ?_
    refine go_goto 13 dX5_isBitSet_9 (by decide) ?_
    exact go_zret (ty := .boolean) rfl rfl dX5_isBitSet_13 h

set_option maxRecDepth 100000 in
theorem sX5_isSheet_0 {G : GX} {d : Nat} {mem : Mem} {Φ : Option Value → Mem → Prop} (a0 : Int32) (h : ((a0 < 0 → Φ (some (.int 0)) mem) ∧ (¬ a0 < 0 → ((4 ≤ a0 → Φ (some (.int 0)) mem) ∧ (¬ 4 ≤ a0 → Φ (some (.int 1)) mem))))) : Go G (d + 0) mX5_isSheet 0 [(0, .int a0)] [] mem Φ := by
  refine go_iload_n dX5_isSheet_0 0 rfl ?_
  refine go_if_lt 13 dX5_isSheet_1 (by decide) (fun q => ?_) (fun q => ?_)
  · have h := h.1 q
    refine go_iconst (v := 0) dX5_isSheet_13 (by decide) ?_
    exact go_zret (ty := .boolean) rfl rfl dX5_isSheet_14 h
  · have h := h.2 q
    refine go_iload_n dX5_isSheet_4 0 rfl ?_
    refine go_iconst (v := 4) dX5_isSheet_5 (by decide) ?_
    refine go_icmp_ge 13 dX5_isSheet_6 (by decide) (fun q => ?_) (fun q => ?_)
    · have h := h.1 q
      refine go_iconst (v := 0) dX5_isSheet_13 (by decide) ?_
      exact go_zret (ty := .boolean) rfl rfl dX5_isSheet_14 h
    · have h := h.2 q
      refine go_iconst (v := 1) dX5_isSheet_9 (by decide) ?_
      refine go_goto 14 dX5_isSheet_10 (by decide) ?_
      exact go_zret (ty := .boolean) rfl rfl dX5_isSheet_14 h

set_option maxRecDepth 100000 in
theorem sX5_isClock_0 {G : GX} {d : Nat} {mem : Mem} {Φ : Option Value → Mem → Prop} (a1 : Int32) (h : ((a1 < 0 → Φ (some (.int 0)) mem) ∧ (¬ a1 < 0 → (((mem 1 4) ≤ a1 → Φ (some (.int 0)) mem) ∧ (¬ (mem 1 4) ≤ a1 → Φ (some (.int 1)) mem))))) : Go G (d + 0) mX5_isClock 0 [(0, .ref 0), (1, .int a1)] [] mem Φ := by
  refine go_iload_n dX5_isClock_0 1 rfl ?_
  refine go_if_lt 19 dX5_isClock_1 (by decide) (fun q => ?_) (fun q => ?_)
  · have h := h.1 q
    refine go_iconst (v := 0) dX5_isClock_19 (by decide) ?_
    exact go_zret (ty := .boolean) rfl rfl dX5_isClock_20 h
  · have h := h.2 q
    refine go_iload_n dX5_isClock_4 1 rfl ?_
    refine go_aload_n dX5_isClock_5 0 rfl ?_
    refine go_getR (kf := 0) (t := 1) rfl rfl rfl uwX5 (by decide) flX5_12 dX5_isClock_6 ?_
    refine go_getI (kf := 4) rfl rfl rfl uwX0 (by decide) flX5_96 dX5_isClock_9 ?_
    refine go_icmp_ge 19 dX5_isClock_12 (by decide) (fun q => ?_) (fun q => ?_)
    · have h := h.1 q
      refine go_iconst (v := 0) dX5_isClock_19 (by decide) ?_
      exact go_zret (ty := .boolean) rfl rfl dX5_isClock_20 h
    · have h := h.2 q
      refine go_iconst (v := 1) dX5_isClock_15 (by decide) ?_
      refine go_goto 20 dX5_isClock_16 (by decide) ?_
      exact go_zret (ty := .boolean) rfl rfl dX5_isClock_20 h

set_option maxRecDepth 100000 in
theorem sJ6_bitCount_0f7a4_0 {G : GX} {d : Nat} {mem : Mem} {Φ : Option Value → Mem → Prop} (a0 : Int32) (h : ∀ y1 : Int32, y1 = (a0 - ((((a0).toUInt32 >>> ((1 : Int32).toUInt32 &&& Int32.toUInt32 31)).toInt32) &&& 1431655765)) → ∀ y2 : Int32, y2 = ((y1 &&& 858993459) + ((((y1).toUInt32 >>> ((2 : Int32).toUInt32 &&& Int32.toUInt32 31)).toInt32) &&& 858993459)) → ∀ y3 : Int32, y3 = ((y2 + (((y2).toUInt32 >>> ((4 : Int32).toUInt32 &&& Int32.toUInt32 31)).toInt32)) &&& 252645135) → ∀ y4 : Int32, y4 = (y3 + (((y3).toUInt32 >>> ((8 : Int32).toUInt32 &&& Int32.toUInt32 31)).toInt32)) → ∀ y5 : Int32, y5 = (y4 + (((y4).toUInt32 >>> ((16 : Int32).toUInt32 &&& Int32.toUInt32 31)).toInt32)) → Φ (some (.int (y5 &&& 63))) mem) : Go G (d + 0) mJ6_bitCount_0f7a4 0 [(0, .int a0)] [] mem Φ := by
  refine go_iload_n dJ6_bitCount_0f7a4_0 0 rfl ?_
  refine go_iload_n dJ6_bitCount_0f7a4_1 0 rfl ?_
  refine go_iconst (v := 1) dJ6_bitCount_0f7a4_2 (by decide) ?_
  refine go_iushr dJ6_bitCount_0f7a4_3 ?_
  refine go_ldcw kcJ6_265 dJ6_bitCount_0f7a4_4 ?_
  refine go_iand dJ6_bitCount_0f7a4_7 ?_
  refine go_isub dJ6_bitCount_0f7a4_8 ?_
  refine go_topi (fun y1 qy1 => ?_)
  have h := h y1 qy1
  refine go_istore_n (L2 := [(0, .int y1)]) dJ6_bitCount_0f7a4_9 (by decide) rfl ?_
  refine go_iload_n dJ6_bitCount_0f7a4_10 0 rfl ?_
  refine go_ldcw kcJ6_266 dJ6_bitCount_0f7a4_11 ?_
  refine go_iand dJ6_bitCount_0f7a4_14 ?_
  refine go_iload_n dJ6_bitCount_0f7a4_15 0 rfl ?_
  refine go_iconst (v := 2) dJ6_bitCount_0f7a4_16 (by decide) ?_
  refine go_iushr dJ6_bitCount_0f7a4_17 ?_
  refine go_ldcw kcJ6_266 dJ6_bitCount_0f7a4_18 ?_
  refine go_iand dJ6_bitCount_0f7a4_21 ?_
  refine go_iadd dJ6_bitCount_0f7a4_22 ?_
  refine go_topi (fun y2 qy2 => ?_)
  have h := h y2 qy2
  refine go_istore_n (L2 := [(0, .int y2)]) dJ6_bitCount_0f7a4_23 (by decide) rfl ?_
  refine go_iload_n dJ6_bitCount_0f7a4_24 0 rfl ?_
  refine go_iload_n dJ6_bitCount_0f7a4_25 0 rfl ?_
  refine go_iconst (v := 4) dJ6_bitCount_0f7a4_26 (by decide) ?_
  refine go_iushr dJ6_bitCount_0f7a4_27 ?_
  refine go_iadd dJ6_bitCount_0f7a4_28 ?_
  refine go_ldcw kcJ6_267 dJ6_bitCount_0f7a4_29 ?_
  refine go_iand dJ6_bitCount_0f7a4_32 ?_
  refine go_topi (fun y3 qy3 => ?_)
  have h := h y3 qy3
  refine go_istore_n (L2 := [(0, .int y3)]) dJ6_bitCount_0f7a4_33 (by decide) rfl ?_
  refine go_iload_n dJ6_bitCount_0f7a4_34 0 rfl ?_
  refine go_iload_n dJ6_bitCount_0f7a4_35 0 rfl ?_
  refine go_bipush (v := 8) dJ6_bitCount_0f7a4_36 (by decide) ?_
  refine go_iushr dJ6_bitCount_0f7a4_38 ?_
  refine go_iadd dJ6_bitCount_0f7a4_39 ?_
  refine go_topi (fun y4 qy4 => ?_)
  have h := h y4 qy4
  refine go_istore_n (L2 := [(0, .int y4)]) dJ6_bitCount_0f7a4_40 (by decide) rfl ?_
  refine go_iload_n dJ6_bitCount_0f7a4_41 0 rfl ?_
  refine go_iload_n dJ6_bitCount_0f7a4_42 0 rfl ?_
  refine go_bipush (v := 16) dJ6_bitCount_0f7a4_43 (by decide) ?_
  refine go_iushr dJ6_bitCount_0f7a4_45 ?_
  refine go_iadd dJ6_bitCount_0f7a4_46 ?_
  refine go_topi (fun y5 qy5 => ?_)
  have h := h y5 qy5
  refine go_istore_n (L2 := [(0, .int y5)]) dJ6_bitCount_0f7a4_47 (by decide) rfl ?_
  refine go_iload_n dJ6_bitCount_0f7a4_48 0 rfl ?_
  refine go_bipush (v := 63) dJ6_bitCount_0f7a4_49 (by decide) ?_
  refine go_iand dJ6_bitCount_0f7a4_51 ?_
  exact go_iret rfl dJ6_bitCount_0f7a4_52 h

set_option maxRecDepth 100000 in
theorem sX0_goesOn_0 {G : GX} {d : Nat} {mem : Mem} {Φ : Option Value → Mem → Prop} (b : Nat) (hB : BeamAt b) (a1 : Int32) (h : (vp_in a1 5) ∧ (((mem (b + 1) (a1 : Int32).toNatClampNeg) = 3 → Φ (some (.int 0)) mem) ∧ (¬ (mem (b + 1) (a1 : Int32).toNatClampNeg) = 3 → (((2 * (mem (b + 3) (a1 : Int32).toNatClampNeg)) < (mem (b + 2) (a1 : Int32).toNatClampNeg) → Φ (some (.int 0)) mem) ∧ (¬ (2 * (mem (b + 3) (a1 : Int32).toNatClampNeg)) < (mem (b + 2) (a1 : Int32).toNatClampNeg) → Φ (some (.int 1)) mem))))) : Go G (d + 0) mX0_goesOn 0 [(0, .ref b), (1, .int a1)] [] mem Φ := by
  refine go_aload_n dX0_goesOn_0 0 rfl ?_
  refine go_getR (kf := 0) (t := (b + 1)) hB.1 rfl rfl uwX0 (by decide) flX0_9 dX0_goesOn_1 ?_
  refine go_iload_n dX0_goesOn_4 1 rfl ?_
  obtain ⟨c1, h⟩ := h
  refine go_iaload hB.2.1 c1 dX0_goesOn_5 ?_
  refine go_iconst (v := 3) dX0_goesOn_6 (by decide) ?_
  refine go_icmp_eq 31 dX0_goesOn_7 (by decide) (fun q => ?_) (fun q => ?_)
  · have h := h.1 q
    refine go_iconst (v := 0) dX0_goesOn_31 (by decide) ?_
    exact go_zret (ty := .boolean) rfl rfl dX0_goesOn_32 h
  · have h := h.2 q
    refine go_iconst (v := 2) dX0_goesOn_10 (by decide) ?_
    refine go_aload_n dX0_goesOn_11 0 rfl ?_
    refine go_getR (kf := 2) (t := (b + 3)) hB.1 rfl rfl uwX0 (by decide) flX0_18 dX0_goesOn_12 ?_
    refine go_iload_n dX0_goesOn_15 1 rfl ?_
    refine go_iaload hB.2.2.2.1 c1 dX0_goesOn_16 ?_
    refine go_imul dX0_goesOn_17 ?_
    refine go_aload_n dX0_goesOn_18 0 rfl ?_
    refine go_getR (kf := 1) (t := (b + 2)) hB.1 rfl rfl uwX0 (by decide) flX0_15 dX0_goesOn_19 ?_
    refine go_iload_n dX0_goesOn_22 1 rfl ?_
    refine go_iaload hB.2.2.1 c1 dX0_goesOn_23 ?_
    refine go_icmp_lt 31 dX0_goesOn_24 (by decide) (fun q => ?_) (fun q => ?_)
    · have h := h.1 q
      refine go_iconst (v := 0) dX0_goesOn_31 (by decide) ?_
      exact go_zret (ty := .boolean) rfl rfl dX0_goesOn_32 h
    · have h := h.2 q
      refine go_iconst (v := 1) dX0_goesOn_27 (by decide) ?_
      refine go_goto 32 dX0_goesOn_28 (by decide) ?_
      exact go_zret (ty := .boolean) rfl rfl dX0_goesOn_32 h

set_option maxRecDepth 100000 in
theorem sX0_shove_0 {G : GX} {d : Nat} {mem : Mem} {Φ : Option Value → Mem → Prop} (b : Nat) (hB : BeamAt b) (a1 : Int32) (a2 : Int32) (h : (vp_in a1 5) ∧ (((mem (b + 1) (a1 : Int32).toNatClampNeg) = 0 → Φ (some (.int (a2 * (mem b 5)))) mem) ∧ (¬ (mem (b + 1) (a1 : Int32).toNatClampNeg) = 0 → (((mem (b + 1) (a1 : Int32).toNatClampNeg) = 2 → Φ (some (.int ((a2 - 1) * (mem b 5)))) mem) ∧ (¬ (mem (b + 1) (a1 : Int32).toNatClampNeg) = 2 → Φ (some (.int ((a2 * (mem b 5)) / 2))) mem))))) : Go G (d + 0) mX0_shove 0 [(0, .ref b), (1, .int a1), (2, .int a2)] [] mem Φ := by
  refine go_aload_n dX0_shove_0 0 rfl ?_
  refine go_getR (kf := 0) (t := (b + 1)) hB.1 rfl rfl uwX0 (by decide) flX0_9 dX0_shove_1 ?_
  refine go_iload_n dX0_shove_4 1 rfl ?_
  obtain ⟨c1, h⟩ := h
  refine go_iaload hB.2.1 c1 dX0_shove_5 ?_
  by_cases q0 : (mem (b + 1) (a1 : Int32).toNatClampNeg) = 0
  · have h := h.1 q0
    refine go_lookEq q0 32 dX0_shove_6 (by decide) rfl (by decide) ?_
    refine go_iload_n dX0_shove_32 2 rfl ?_
    refine go_aload_n dX0_shove_33 0 rfl ?_
    refine go_getI (kf := 5) hB.1 rfl rfl uwX0 (by decide) flX0_24 dX0_shove_34 ?_
    refine go_imul dX0_shove_37 ?_
    exact go_iret rfl dX0_shove_38 h
  have h := h.2 q0
  by_cases q2 : (mem (b + 1) (a1 : Int32).toNatClampNeg) = 2
  · have h := h.1 q2
    refine go_lookEq q2 39 dX0_shove_6 (by decide) rfl (by decide) ?_
    refine go_iload_n dX0_shove_39 2 rfl ?_
    refine go_iconst (v := 1) dX0_shove_40 (by decide) ?_
    refine go_isub dX0_shove_41 ?_
    refine go_aload_n dX0_shove_42 0 rfl ?_
    refine go_getI (kf := 5) hB.1 rfl rfl uwX0 (by decide) flX0_24 dX0_shove_43 ?_
    refine go_imul dX0_shove_46 ?_
    exact go_iret rfl dX0_shove_47 h
  have h := h.2 q2
  refine go_lookup (off := 42) 48 dX0_shove_6 (by decide) (by show Op.lookupswitch.offset [(0, 26), (2, 33)] _ _ = _; rw [lv_osw q0 (by decide), lv_osw q2 (by decide)]; rfl) (by decide) ?_
  refine go_iload_n dX0_shove_48 2 rfl ?_
  refine go_aload_n dX0_shove_49 0 rfl ?_
  refine go_getI (kf := 5) hB.1 rfl rfl uwX0 (by decide) flX0_24 dX0_shove_50 ?_
  refine go_imul dX0_shove_53 ?_
  refine go_iconst (v := 2) dX0_shove_54 (by decide) ?_
  refine go_idiv dX0_shove_55 (by decide) ?_
  exact go_iret rfl dX0_shove_56 h


theorem nlt32 {a b : Int32} (h : ¬ a < b) : b ≤ a := Int32.not_lt.mp h
theorem nle32 {a b : Int32} (h : ¬ a ≤ b) : b < a := Int32.not_le.mp h
theorem ltn {a b : Int32} (h : a < b) : ¬ b ≤ a := Int32.not_le.mpr h
theorem len_ (b a c : Int32) (h : a ≤ b) : ¬ b < a := Int32.not_lt.mpr h
theorem kX5_isWithin {G : GX} (d : Nat) {mem : Mem} (v lo hi : Int32) : Cn G (d + 0) mX5_isWithin [.int v, .int lo, .int hi] mem (Ri (bI (lo ≤ v ∧ v ≤ hi)) (fun m2 => m2 = mem)) := by
  refine cn_of (by decide +kernel) (Nat.le_of_ble_eq_true rfl) (sX5_isWithin_0 v lo hi ⟨fun q => Ri.mk (bIf (fun z => ltn q z.1)).symm rfl, fun q => ⟨fun r => Ri.mk (bIf (fun z => ltn r z.2)).symm rfl, fun r => Ri.mk (bIt ⟨nlt32 q, nlt32 r⟩).symm rfl⟩⟩)
theorem kX5_isBitSet {G : GX} (d : Nat) {mem : Mem} (v i : Int32) : Cn G (d + 0) mX5_isBitSet [.int v, .int i] mem (Ri (bI (¬ ((v >>> (i &&& 31)) &&& 1) = 0)) (fun m2 => m2 = mem)) := by
  refine cn_of (by decide +kernel) (Nat.le_of_ble_eq_true rfl) (sX5_isBitSet_0 v i ⟨fun q => Ri.mk (bIf (fun z => z q)).symm rfl, fun q => Ri.mk (bIt q).symm rfl⟩)
theorem kX5_isSheet {G : GX} (d : Nat) {mem : Mem} (k : Int32) : Cn G (d + 0) mX5_isSheet [.int k] mem (Ri (bI (0 ≤ k ∧ k < 4)) (fun m2 => m2 = mem)) := by
  refine cn_of (by decide +kernel) (Nat.le_of_ble_eq_true rfl) (sX5_isSheet_0 k ⟨fun q => Ri.mk (bIf (fun z => ltn q z.1)).symm rfl, fun q => ⟨fun r => Ri.mk (bIf (fun z => absurd z.2 (Int32.not_lt.mpr r))).symm rfl, fun r => Ri.mk (bIt ⟨nlt32 q, nle32 r⟩).symm rfl⟩⟩)
theorem kX5_isClock {G : GX} (d : Nat) {mem : Mem} (c : Int32) : Cn G (d + 0) mX5_isClock [.ref 0, .int c] mem (Ri (bI (0 ≤ c ∧ c < mem 1 4)) (fun m2 => m2 = mem)) := by
  refine cn_of (by decide +kernel) (Nat.le_of_ble_eq_true rfl) (sX5_isClock_0 c ⟨fun q => Ri.mk (bIf (fun z => ltn q z.1)).symm rfl, fun q => ⟨fun r => Ri.mk (bIf (fun z => absurd z.2 (Int32.not_lt.mpr r))).symm rfl, fun r => Ri.mk (bIt ⟨nlt32 q, nle32 r⟩).symm rfl⟩⟩)
theorem kJ6_bitCount_0f7a4 {G : GX} (d : Nat) {mem : Mem} (x : Int32) : Cn G (d + 0) mJ6_bitCount_0f7a4 [.int x] mem (Ri (bcI x) (fun m2 => m2 = mem)) := by
  refine cn_of (by decide +kernel) (Nat.le_of_ble_eq_true rfl) (sJ6_bitCount_0f7a4_0 x ?_)
  intro y1 h1 y2 h2 y3 h3 y4 h4 y5 h5
  subst h1; subst h2; subst h3; subst h4; subst h5
  exact Ri.mk rfl rfl
theorem kX0_goesOn {G : GX} (d : Nat) {mem : Mem} (b : Nat) (hB : BeamAt b) (c : Int32) (hc : vp_in c 5) : Cn G (d + 0) mX0_goesOn [.ref b, .int c] mem (Ri (bI (¬ mem (b + 1) c.toNatClampNeg = 3 ∧ mem (b + 2) c.toNatClampNeg ≤ 2 * mem (b + 3) c.toNatClampNeg)) (fun m2 => m2 = mem)) := by
  refine cn_of (by decide +kernel) (Nat.le_of_ble_eq_true rfl) (sX0_goesOn_0 b hB c ⟨hc, fun q => Ri.mk (bIf (fun z => z.1 q)).symm rfl, fun q => ⟨fun r => Ri.mk (bIf (fun z => ltn r z.2)).symm rfl, fun r => Ri.mk (bIt ⟨q, nlt32 r⟩).symm rfl⟩⟩)
def shv (k m u : Int32) : Int32 := if k = 0 then m * u else if k = 2 then (m - 1) * u else m * u / 2
theorem kX0_shove {G : GX} (d : Nat) {mem : Mem} (b : Nat) (hB : BeamAt b) (c m : Int32) (hc : vp_in c 5) : Cn G (d + 0) mX0_shove [.ref b, .int c, .int m] mem (Ri (shv (mem (b + 1) c.toNatClampNeg) m (mem b 5)) (fun m2 => m2 = mem)) := by
  refine cn_of (by decide +kernel) (Nat.le_of_ble_eq_true rfl) (sX0_shove_0 b hB c m ⟨hc, fun q => Ri.mk ?_ rfl, fun q => ⟨fun r => Ri.mk ?_ rfl, fun r => Ri.mk ?_ rfl⟩⟩)
  · unfold shv; rw [if_pos q]
  · unfold shv; rw [if_neg q, if_pos r]
  · unfold shv; rw [if_neg q, if_neg r]
theorem shv_n : ∀ k, k < 4 → ∀ m, m < 6 → ∀ u, u < 6 → 1 ≤ m → shv (nI k) (nI m) (nI u) = nI (shvN k m u) := by decide +kernel
theorem shvN_le : ∀ k, k < 4 → ∀ m, m < 6 → ∀ u, u < 6 → shvN k m u ≤ 25 := by decide +kernel
theorem sub_max {h y : Nat} (hh : h < 1000000) (hy : y < 1000000) : (if nI h - nI y < 0 then (0 : Int32) else nI h - nI y) = nI (h - y) := by
  by_cases q : h < y
  · rw [if_pos (pk_sneg (by omega) q), show h - y = 0 by omega, nI_0]
  · rw [pk_sub (by omega), if_neg (nI_pos (by omega))]
theorem shN_if {k p h m u : Nat} (hk : k ≤ 3) (hp : 2 ≤ p) (hp2 : p ≤ 30) (hh : h < 1000000) (hm : 1 ≤ m) (hm2 : m ≤ 5) (hu : u ≤ 5) :
    ((¬ (¬ nI k = 3 ∧ nI p ≤ 2 * nI h)) → (if nI h - shv (nI k) (nI m) (nI u) < 0 then (0 : Int32) else nI h - shv (nI k) (nI m) (nI u)) = nI (shN k p h m u)) ∧ ((¬ nI k = 3 ∧ nI p ≤ 2 * nI h) → (if nI p - 1 < nI h + shv (nI k) (nI m) (nI u) then nI p - 1 else nI h + shv (nI k) (nI m) (nI u)) = nI (shN k p h m u)) := by
  have hs := shvN_le k (by omega) m (by omega) u (by omega)
  rw [shv_n k (by omega) m (by omega) u (by omega) hm]
  generalize hy : shvN k m u = y at hs ⊢
  have e3 : nI k = 3 ↔ k = 3 := by rw [show (3 : Int32) = nI 3 from rfl]; exact neq (by omega) (by omega)
  have e2 : nI p ≤ 2 * nI h ↔ p ≤ 2 * h := by rw [show (2 : Int32) = nI 2 from rfl, pk_mul]; exact nle (by omega) (by omega)
  rw [e3, e2]
  have hq : ∀ z : Nat, shvN k m u = z → shN k p h m u = if k ≠ 3 ∧ p ≤ 2 * h then (if p - 1 < h + z then p - 1 else h + z) else h - z := fun z hz => by subst hz; rfl
  rw [hq y hy]
  refine ⟨fun q => ?_, fun q => ?_⟩
  · rw [if_neg q]
    exact sub_max hh (by omega)
  · rw [if_pos q, show nI p - 1 = nI (p - 1) from by rw [show (1 : Int32) = nI 1 from rfl, pk_sub (by omega)], nI_add]
    by_cases z : p - 1 < h + y
    · rw [if_pos z, if_pos ((nlt (by omega) (by omega)).mpr z)]
    · rw [if_neg z, if_neg (fun w => z ((nlt (by omega) (by omega)).mp w))]

set_option maxRecDepth 100000 in
theorem sX0_shift_0 {G : GX} {d : Nat} {mem : Mem} {Φ : Option Value → Mem → Prop} (b : Nat) (hB : BeamAt b) (a1 : Int32) (a2 : Int32) (h : (vp_in a1 5) ∧ ∀ y2 : Int32, y2 = (shv (mem (b + 1) (a1 : Int32).toNatClampNeg) a2 (mem b 5)) → ((¬ (¬ mem (b + 1) (a1 : Int32).toNatClampNeg = 3 ∧ mem (b + 2) (a1 : Int32).toNatClampNeg ≤ 2 * mem (b + 3) (a1 : Int32).toNatClampNeg) → ∀ m3 : Mem, m3 = (um mem (b + 3) (a1 : Int32).toNatClampNeg (if ((mem (b + 3) (a1 : Int32).toNatClampNeg) - y2) < 0 then 0 else ((mem (b + 3) (a1 : Int32).toNatClampNeg) - y2))) → Φ none m3) ∧ (¬ mem (b + 1) (a1 : Int32).toNatClampNeg = 3 ∧ mem (b + 2) (a1 : Int32).toNatClampNeg ≤ 2 * mem (b + 3) (a1 : Int32).toNatClampNeg → ∀ m4 : Mem, m4 = (um mem (b + 3) (a1 : Int32).toNatClampNeg (if ((mem (b + 2) (a1 : Int32).toNatClampNeg) - 1) < ((mem (b + 3) (a1 : Int32).toNatClampNeg) + y2) then ((mem (b + 2) (a1 : Int32).toNatClampNeg) - 1) else ((mem (b + 3) (a1 : Int32).toNatClampNeg) + y2))) → Φ none m4))) : Go G (d + 1) mX0_shift 0 [(0, .ref b), (1, .int a1), (2, .int a2)] [] mem Φ := by
  refine go_aload_n dX0_shift_0 0 rfl ?_
  refine go_iload_n dX0_shift_1 1 rfl ?_
  refine go_iload_n dX0_shift_2 2 rfl ?_
  obtain ⟨c1, h⟩ := h
  refine go_callV (st := []) (kX0_shove (d + 0) b hB a1 a2 c1) hB.1 rfl okX0_shove insX0_shove selX0_shove lkX0_48 rfl rfl (Nat.le_of_ble_eq_true rfl) dX0_shift_3 (fun v m2 q => ?_)
  rw [q.1, q.2]
  refine go_stk (st2 := [.int (shv (mem (b + 1) (a1 : Int32).toNatClampNeg) a2 (mem b 5))]) rfl ?_
  refine go_topi (fun y2 qy2 => ?_)
  have h := h y2 qy2
  refine go_istore_n (L2 := [(3, .int y2), (0, .ref b), (1, .int a1), (2, .int a2)]) dX0_shift_6 (by decide) rfl ?_
  refine go_aload_n dX0_shift_7 1 rfl ?_
  refine go_getR (kf := 2) (t := (b + 3)) hB.1 rfl rfl uwX0 (by decide) flX0_18 dX0_shift_8 ?_
  refine go_iload_n dX0_shift_11 2 rfl ?_
  refine go_aload_n dX0_shift_12 1 rfl ?_
  refine go_iload_n dX0_shift_13 2 rfl ?_
  refine go_callV (st := [.int a1, .ref (b + 3)]) (kX0_goesOn (d + 0) b hB a1 c1) hB.1 rfl okX0_goesOn insX0_goesOn selX0_goesOn lkX0_51 rfl rfl (Nat.le_of_ble_eq_true rfl) dX0_shift_14 (fun v m2 q => ?_)
  rw [q.1, q.2]
  refine go_stk (st2 := [.int (bI (¬ mem (b + 1) (a1 : Int32).toNatClampNeg = 3 ∧ mem (b + 2) (a1 : Int32).toNatClampNeg ≤ 2 * mem (b + 3) (a1 : Int32).toNatClampNeg)), .int a1, .ref (b + 3)]) rfl ?_
  refine go_if_eq 42 dX0_shift_17 (by decide) (fun q => ?_) (fun q => ?_)
  · have h := h.1 (bI0.mp q)
    refine go_aload_n dX0_shift_42 1 rfl ?_
    refine go_getR (kf := 2) (t := (b + 3)) hB.1 rfl rfl uwX0 (by decide) flX0_18 dX0_shift_43 ?_
    refine go_iload_n dX0_shift_46 2 rfl ?_
    refine go_iaload hB.2.2.2.1 c1 dX0_shift_47 ?_
    refine go_iload_n dX0_shift_48 0 rfl ?_
    refine go_isub dX0_shift_49 ?_
    refine go_iconst (v := 0) dX0_shift_50 (by decide) ?_
    refine go_mmax lkX0_60 (Nat.le_of_ble_eq_true rfl) dX0_shift_51 ?_
    refine go_iastore hB.2.2.2.1 c1 dX0_shift_54 ?_
    refine go_mem (fun m3 qm3 => ?_)
    have h := h m3 qm3
    exact go_vret rfl dX0_shift_55 h
  · have h := h.2 (bI1.mp q)
    refine go_aload_n dX0_shift_20 1 rfl ?_
    refine go_getR (kf := 2) (t := (b + 3)) hB.1 rfl rfl uwX0 (by decide) flX0_18 dX0_shift_21 ?_
    refine go_iload_n dX0_shift_24 2 rfl ?_
    refine go_iaload hB.2.2.2.1 c1 dX0_shift_25 ?_
    refine go_iload_n dX0_shift_26 0 rfl ?_
    refine go_iadd dX0_shift_27 ?_
    refine go_aload_n dX0_shift_28 1 rfl ?_
    refine go_getR (kf := 1) (t := (b + 2)) hB.1 rfl rfl uwX0 (by decide) flX0_15 dX0_shift_29 ?_
    refine go_iload_n dX0_shift_32 2 rfl ?_
    refine go_iaload hB.2.2.1 c1 dX0_shift_33 ?_
    refine go_iconst (v := 1) dX0_shift_34 (by decide) ?_
    refine go_isub dX0_shift_35 ?_
    refine go_mmin lkX0_55 (Nat.le_of_ble_eq_true rfl) dX0_shift_36 ?_
    refine go_goto 54 dX0_shift_39 (by decide) ?_
    refine go_iastore hB.2.2.2.1 c1 dX0_shift_54 ?_
    refine go_mem (fun m4 qm4 => ?_)
    have h := h m4 qm4
    exact go_vret rfl dX0_shift_55 h


theorem kX0_shift {G : GX} (d : Nat) {mem : Mem} (b : Nat) (hB : BeamAt b) (c m k p h u : Nat) (hc : c < 5) (hv : k ≤ 3 ∧ 2 ≤ p ∧ p ≤ 30 ∧ h < 1000000 ∧ 1 ≤ m ∧ m ≤ 5 ∧ u ≤ 5) (e1 : mem (b + 1) c = nI k) (e2 : mem (b + 2) c = nI p) (e3 : mem (b + 3) c = nI h) (e4 : mem b 5 = nI u) : Cn G (d + 1) mX0_shift [.ref b, .int (nI c), .int (nI m)] mem (Rv (fun m2 => m2 = um mem (b + 3) c (nI (shN k p h m u)))) := by
  refine cn_of (by decide +kernel) (Nat.le_of_ble_eq_true rfl) (sX0_shift_0 b hB (nI c) (nI m) ?_)
  rw [ncl (show c < 2000000000 by omega), e1, e2, e3, e4]
  refine ⟨nin hc (by omega), fun y2 hy => ?_⟩
  obtain ⟨h1, h2, h3, h4, h5, h6, h7⟩ := hv
  have hs := shN_if (k := k) (p := p) (h := h) (m := m) (u := u) h1 h2 h3 h4 h5 h6 h7
  subst hy
  refine ⟨fun q m3 hm3 => ⟨rfl, ?_⟩, fun q m3 hm3 => ⟨rfl, ?_⟩⟩
  · rw [hm3, hs.1 q]
  · rw [hm3, hs.2 q]

set_option maxRecDepth 100000 in
theorem sX0_moveHands_0 {G : GX} {d : Nat} {mem : Mem} {Φ : Option Value → Mem → Prop} (b : Nat) (hB : BeamAt b) (h : Go G (d + 0) mX0_moveHands 4 [(0, .ref b), (1, .int 0), (2, .int 0)] [] mem Φ) : Go G (d + 0) mX0_moveHands 0 [(0, .ref b)] [] mem Φ := by
  refine go_iconst (v := 0) dX0_moveHands_0 (by decide) ?_
  refine go_istore_n (L2 := [(1, .int 0), (0, .ref b)]) dX0_moveHands_1 (by decide) rfl ?_
  refine go_iconst (v := 0) dX0_moveHands_2 (by decide) ?_
  refine go_istore_n (L2 := [(2, .int 0), (1, .int 0), (0, .ref b)]) dX0_moveHands_3 (by decide) rfl ?_
  exact Go.pick [2, 1, 0] rfl h

set_option maxRecDepth 100000 in
theorem sX0_moveHands_4 {G : GX} {d : Nat} {mem : Mem} {Φ : Option Value → Mem → Prop} (b : Nat) (hB : BeamAt b) (w i : Nat) (h : (((mem b 4) ≤ (nI i) → Φ (some (.int (nI w))) mem) ∧ (¬ (mem b 4) ≤ (nI i) → (vp_in (nI i) 5) ∧ ∀ m2 : Mem, m2 = (um mem (b + 3) ((nI i) : Int32).toNatClampNeg ((mem (b + 3) ((nI i) : Int32).toNatClampNeg) + 1)) → (((m2 (b + 3) ((nI i) : Int32).toNatClampNeg) < (m2 (b + 2) ((nI i) : Int32).toNatClampNeg) → Go G (d + 0) mX0_moveHands 4 [(0, .ref b), (1, .int (nI w)), (2, .int ((nI i) + 1))] [] m2 Φ) ∧ (¬ (m2 (b + 3) ((nI i) : Int32).toNatClampNeg) < (m2 (b + 2) ((nI i) : Int32).toNatClampNeg) → ∀ m3 : Mem, m3 = (um m2 (b + 3) ((nI i) : Int32).toNatClampNeg 0) → ∀ m4 : Mem, m4 = (um m3 (b + 4) ((nI i) : Int32).toNatClampNeg ((m3 (b + 4) ((nI i) : Int32).toNatClampNeg) + 1)) → ∀ y5 : Int32, y5 = ((nI w) ||| (1 <<< ((nI i) &&& 31))) → Go G (d + 0) mX0_moveHands 4 [(0, .ref b), (1, .int y5), (2, .int ((nI i) + 1))] [] m4 Φ))))) : Go G (d + 0) mX0_moveHands 4 [(0, .ref b), (1, .int (nI w)), (2, .int (nI i))] [] mem Φ := by
  refine go_iload_n dX0_moveHands_4 2 rfl ?_
  refine go_aload_n dX0_moveHands_5 0 rfl ?_
  refine go_getI (kf := 4) hB.1 rfl rfl uwX0 (by decide) flX0_28 dX0_moveHands_6 ?_
  refine go_icmp_ge 66 dX0_moveHands_9 (by decide) (fun q => ?_) (fun q => ?_)
  · have h := h.1 q
    refine go_iload_n dX0_moveHands_66 1 rfl ?_
    exact go_iret rfl dX0_moveHands_67 h
  · have h := h.2 q
    refine go_aload_n dX0_moveHands_12 0 rfl ?_
    refine go_getR (kf := 2) (t := (b + 3)) hB.1 rfl rfl uwX0 (by decide) flX0_18 dX0_moveHands_13 ?_
    refine go_iload_n dX0_moveHands_16 2 rfl ?_
    refine go_dup2 dX0_moveHands_17 rfl rfl ?_
    obtain ⟨c1, h⟩ := h
    refine go_iaload hB.2.2.2.1 c1 dX0_moveHands_18 ?_
    refine go_iconst (v := 1) dX0_moveHands_19 (by decide) ?_
    refine go_iadd dX0_moveHands_20 ?_
    refine go_iastore hB.2.2.2.1 c1 dX0_moveHands_21 ?_
    refine go_mem (fun m2 qm2 => ?_)
    have h := h m2 qm2
    refine go_aload_n dX0_moveHands_22 0 rfl ?_
    refine go_getR (kf := 2) (t := (b + 3)) hB.1 rfl rfl uwX0 (by decide) flX0_18 dX0_moveHands_23 ?_
    refine go_iload_n dX0_moveHands_26 2 rfl ?_
    refine go_iaload hB.2.2.2.1 c1 dX0_moveHands_27 ?_
    refine go_aload_n dX0_moveHands_28 0 rfl ?_
    refine go_getR (kf := 1) (t := (b + 2)) hB.1 rfl rfl uwX0 (by decide) flX0_15 dX0_moveHands_29 ?_
    refine go_iload_n dX0_moveHands_32 2 rfl ?_
    refine go_iaload hB.2.2.1 c1 dX0_moveHands_33 ?_
    refine go_icmp_lt 60 dX0_moveHands_34 (by decide) (fun q => ?_) (fun q => ?_)
    · have h := h.1 q
      refine go_iinc (v := ((nI i) + 1)) (L2 := [(2, .int ((nI i) + 1)), (0, .ref b), (1, .int (nI w))]) dX0_moveHands_60 2 rfl rfl (by decide) rfl ?_
      refine go_goto 4 dX0_moveHands_63 (by decide) ?_
      exact Go.pick [1, 2, 0] rfl h
    · have h := h.2 q
      refine go_aload_n dX0_moveHands_37 0 rfl ?_
      refine go_getR (kf := 2) (t := (b + 3)) hB.1 rfl rfl uwX0 (by decide) flX0_18 dX0_moveHands_38 ?_
      refine go_iload_n dX0_moveHands_41 2 rfl ?_
      refine go_iconst (v := 0) dX0_moveHands_42 (by decide) ?_
      refine go_iastore hB.2.2.2.1 c1 dX0_moveHands_43 ?_
      refine go_mem (fun m3 qm3 => ?_)
      have h := h m3 qm3
      refine go_aload_n dX0_moveHands_44 0 rfl ?_
      refine go_getR (kf := 3) (t := (b + 4)) hB.1 rfl rfl uwX0 (by decide) flX0_21 dX0_moveHands_45 ?_
      refine go_iload_n dX0_moveHands_48 2 rfl ?_
      refine go_dup2 dX0_moveHands_49 rfl rfl ?_
      refine go_iaload hB.2.2.2.2 c1 dX0_moveHands_50 ?_
      refine go_iconst (v := 1) dX0_moveHands_51 (by decide) ?_
      refine go_iadd dX0_moveHands_52 ?_
      refine go_iastore hB.2.2.2.2 c1 dX0_moveHands_53 ?_
      refine go_mem (fun m4 qm4 => ?_)
      have h := h m4 qm4
      refine go_iload_n dX0_moveHands_54 1 rfl ?_
      refine go_iconst (v := 1) dX0_moveHands_55 (by decide) ?_
      refine go_iload_n dX0_moveHands_56 2 rfl ?_
      refine go_ishl dX0_moveHands_57 ?_
      refine go_ior dX0_moveHands_58 ?_
      refine go_topi (fun y5 qy5 => ?_)
      have h := h y5 qy5
      refine go_istore_n (L2 := [(1, .int y5), (0, .ref b), (2, .int (nI i))]) dX0_moveHands_59 (by decide) rfl ?_
      refine go_iinc (v := ((nI i) + 1)) (L2 := [(2, .int ((nI i) + 1)), (1, .int y5), (0, .ref b)]) dX0_moveHands_60 2 rfl rfl (by decide) rfl ?_
      refine go_goto 4 dX0_moveHands_63 (by decide) ?_
      exact Go.pick [2, 1, 0] rfl h

set_option maxRecDepth 100000 in
theorem sX0_shake_0 {G : GX} {d : Nat} {mem : Mem} {Φ : Option Value → Mem → Prop} (b : Nat) (hB : BeamAt b) (w : Nat) (h : ∀ y1 : Int32, y1 = (bcI (nI w)) → Go G (d + 2) mX0_shake 7 [(0, .ref b), (1, .int (nI w)), (2, .int y1), (3, .int 0)] [] mem Φ) : Go G (d + 2) mX0_shake 0 [(0, .ref b), (1, .int (nI w))] [] mem Φ := by
  refine go_iload_n dX0_shake_0 1 rfl ?_
  refine go_callS (st := []) (kJ6_bitCount_0f7a4 (d + 1) (nI w)) okJ6_bitCount_0f7a4 staJ6_bitCount_0f7a4 lkX0_71 rfl rfl (Nat.le_of_ble_eq_true rfl) dX0_shake_1 (fun v m2 q => ?_)
  rw [q.1, q.2]
  refine go_stk (st2 := [.int (bcI (nI w))]) rfl ?_
  refine go_topi (fun y1 qy1 => ?_)
  have h := h y1 qy1
  refine go_istore_n (L2 := [(2, .int y1), (0, .ref b), (1, .int (nI w))]) dX0_shake_4 (by decide) rfl ?_
  refine go_iconst (v := 0) dX0_shake_5 (by decide) ?_
  refine go_istore_n (L2 := [(3, .int 0), (2, .int y1), (0, .ref b), (1, .int (nI w))]) dX0_shake_6 (by decide) rfl ?_
  exact Go.pick [2, 3, 1, 0] rfl h

set_option maxRecDepth 100000 in
theorem sX0_shake_7 {G : GX} {d : Nat} {mem : Mem} {Φ : Option Value → Mem → Prop} (b : Nat) (hB : BeamAt b) (w m i kk pp hh uu : Nat) (h : (((mem b 4) ≤ (nI i) → Φ none mem) ∧ (¬ (mem b 4) ≤ (nI i) → ((¬ (((nI w) >>> ((nI i) &&& 31)) &&& 1) = 0 → Go G (d + 2) mX0_shake 7 [(0, .ref b), (1, .int (nI w)), (2, .int (nI m)), (3, .int ((nI i) + 1))] [] mem Φ) ∧ (¬ (¬ (((nI w) >>> ((nI i) &&& 31)) &&& 1) = 0) → (i < 5) ∧ (kk ≤ 3 ∧ 2 ≤ pp ∧ pp ≤ 30 ∧ hh < 1000000 ∧ 1 ≤ m ∧ m ≤ 5 ∧ uu ≤ 5) ∧ (mem (b + 1) i = nI kk) ∧ (mem (b + 2) i = nI pp) ∧ (mem (b + 3) i = nI hh) ∧ (mem b 5 = nI uu) ∧ Go G (d + 2) mX0_shake 7 [(0, .ref b), (1, .int (nI w)), (2, .int (nI m)), (3, .int ((nI i) + 1))] [] (um mem (b + 3) i (nI (shN kk pp hh m uu))) Φ))))) : Go G (d + 2) mX0_shake 7 [(0, .ref b), (1, .int (nI w)), (2, .int (nI m)), (3, .int (nI i))] [] mem Φ := by
  refine go_iload_n dX0_shake_7 3 rfl ?_
  refine go_aload_n dX0_shake_8 0 rfl ?_
  refine go_getI (kf := 4) hB.1 rfl rfl uwX0 (by decide) flX0_28 dX0_shake_9 ?_
  refine go_icmp_ge 35 dX0_shake_12 (by decide) (fun q => ?_) (fun q => ?_)
  · have h := h.1 q
    exact go_vret rfl dX0_shake_35 h
  · have h := h.2 q
    refine go_iload_n dX0_shake_15 1 rfl ?_
    refine go_iload_n dX0_shake_16 3 rfl ?_
    refine go_callSN (st := []) (kX5_isBitSet (d + 1) (nI w) (nI i)) okX5_isBitSet staX5_isBitSet (fun U h => h.2.1) rfl rfl (Nat.le_of_ble_eq_true rfl) dX0_shake_17 (fun v m2 q => ?_)
    rw [q.1, q.2]
    refine go_stk (st2 := [.int (bI (¬ (((nI w) >>> ((nI i) &&& 31)) &&& 1) = 0))]) rfl ?_
    refine go_if_ne 29 dX0_shake_20 (by decide) (fun q => ?_) (fun q => ?_)
    · have h := h.1 (bI1.mp q)
      refine go_iinc (v := ((nI i) + 1)) (L2 := [(3, .int ((nI i) + 1)), (0, .ref b), (1, .int (nI w)), (2, .int (nI m))]) dX0_shake_29 3 rfl rfl (by decide) rfl ?_
      refine go_goto 7 dX0_shake_32 (by decide) ?_
      exact Go.pick [1, 2, 3, 0] rfl h
    · have h := h.2 (bI0.mp q)
      refine go_aload_n dX0_shake_23 0 rfl ?_
      refine go_iload_n dX0_shake_24 3 rfl ?_
      refine go_iload_n dX0_shake_25 2 rfl ?_
      obtain ⟨c1, h⟩ := h
      obtain ⟨c2, h⟩ := h
      obtain ⟨c3, h⟩ := h
      obtain ⟨c4, h⟩ := h
      obtain ⟨c5, h⟩ := h
      obtain ⟨c6, h⟩ := h
      refine go_callV (st := []) (kX0_shift (d + 0) b hB i m kk pp hh uu c1 c2 c3 c4 c5 c6) hB.1 rfl okX0_shift insX0_shift selX0_shift lkX0_81 rfl rfl (Nat.le_of_ble_eq_true rfl) dX0_shake_26 (fun v m2 q => ?_)
      rw [q.1, q.2]
      refine go_stk (st2 := []) rfl ?_
      refine go_iinc (v := ((nI i) + 1)) (L2 := [(3, .int ((nI i) + 1)), (0, .ref b), (1, .int (nI w)), (2, .int (nI m))]) dX0_shake_29 3 rfl rfl (by decide) rfl ?_
      refine go_goto 7 dX0_shake_32 (by decide) ?_
      exact Go.pick [1, 2, 3, 0] rfl h
end
section

theorem fillS {m m2 : Mem} {k i n : Nat} {f g : Nat → Nat} (h : ∀ j, j < n → m k j = nI (if j < i then f j else g j)) (e : ∀ j, m2 k j = if j = i then nI (f i) else m k j) : ∀ j, j < n → m2 k j = nI (if j < i + 1 then f j else g j) := by
  intro j hj
  rw [e j]
  by_cases q : j = i
  · subst q
    rw [if_pos rfl, if_pos (Nat.lt_succ_self j)]
  · rw [if_neg q, h j hj]
    by_cases z : j < i
    · rw [if_pos z, if_pos (by omega)]
    · rw [if_neg z, if_neg (by omega)]
theorem fillK {m m2 : Mem} {k i n : Nat} {f g : Nat → Nat} (h : ∀ j, j < n → m k j = nI (if j < i then f j else g j)) (e : ∀ j, m2 k j = m k j) (hfg : f i = g i) : ∀ j, j < n → m2 k j = nI (if j < i + 1 then f j else g j) := by
  intro j hj
  rw [e j, h j hj]
  by_cases q : j = i
  · subst q
    rw [if_neg (Nat.lt_irrefl j), if_pos (Nat.lt_succ_self j), hfg]
  · by_cases z : j < i
    · rw [if_pos z, if_pos (by omega)]
    · rw [if_neg z, if_neg (by omega)]
theorem whF_t {f : Nat → Bool} {i : Nat} (h : f i = true) : whF f (i + 1) = whF f i + 2 ^ i := by
  show whF f i + (if f i = true then 2 ^ i else 0) = _
  rw [if_pos h]
theorem whF_f {f : Nat → Bool} {i : Nat} (h : ¬ f i = true) : whF f (i + 1) = whF f i := by
  show whF f i + (if f i = true then 2 ^ i else 0) = _
  rw [if_neg h, Nat.add_zero]
set_option maxHeartbeats 4000000 in
theorem lX0_moveHands {G : GX} {d : Nat} {Φ : Option Value → Mem → Prop} (b : Nat) (hB : BeamAt b) {X : Bm} {B : Nat} (hV : VX 9 B X) {mem0 : Mem} (hR : RepB mem0 b X)
    (hend : ∀ m : Mem, (∀ k, k ≠ b + 3 → k ≠ b + 4 → m k = mem0 k) → (∀ j, j < xn X → m (b + 3) j = nI (mvh 9 X j)) → (∀ j, j < xn X → m (b + 4) j = nI (mve 9 X j)) → Φ (some (.int (nI (who 9 X)))) m) :
    ∀ (r i : Nat) (m : Mem), i + r = xn X → (∀ k, k ≠ b + 3 → k ≠ b + 4 → m k = mem0 k) → (∀ j, j < xn X → m (b + 3) j = nI (if j < i then mvh 9 X j else xh X j)) → (∀ j, j < xn X → m (b + 4) j = nI (if j < i then mve 9 X j else xe X j)) → Go G (d + 0) mX0_moveHands 4 [(0, .ref b), (1, .int (nI (whF (bt 9 X) i))), (2, .int (nI i))] [] m Φ := by
  intro r
  have hn := hV.1
  induction r with
  | zero =>
    intro i m hi hf hj3 hj4
    have e4 : m b 4 = nI (xn X) := by rw [hf b (by omega) (by omega)]; exact hR.1
    have hi2 : i = xn X := by omega
    rw [hi2] at hj3 hj4 ⊢
    refine sX0_moveHands_4 b hB _ _ ⟨fun _ => hend m hf (fun j h => by rw [hj3 j h, if_pos h]) (fun j h => by rw [hj4 j h, if_pos h]), fun q => absurd (by rw [e4]; exact Int32.le_refl _) q⟩
  | succ r ih =>
    intro i m hi hf hj3 hj4
    have hin : i < xn X := by omega
    have e4 : m b 4 = nI (xn X) := by rw [hf b (by omega) (by omega)]; exact hR.1
    have ci : (nI i).toNatClampNeg = i := ncl (by omega)
    obtain ⟨a1, a2, a3, a4, a5⟩ := hV.2.2 i hin
    have a4 := a4 (by omega)
    have h3 : m (b + 3) i = nI (xh X i) := by rw [hj3 i hin, if_neg (Nat.lt_irrefl i)]
    have h4 : m (b + 4) i = nI (xe X i) := by rw [hj4 i hin, if_neg (Nat.lt_irrefl i)]
    have hp : m (b + 2) i = nI (xp X i) := by rw [hf (b + 2) (by omega) (by omega)]; exact (hR.2.2.2 i hin).2.1
    refine sX0_moveHands_4 b hB _ _ ⟨fun q => absurd ((nle (by omega) (by omega)).mp (e4 ▸ q)) (by omega), fun _ => ⟨nin (by omega) (by omega), ?_⟩⟩
    rw [ci]
    intro m2 hm2
    have r3 : m2 (b + 3) i = nI (xh X i + 1) := by rw [hm2, um_same, h3, nI_1]
    have r2 : m2 (b + 2) i = nI (xp X i) := by rw [hm2, um_ne (by omega)]; exact hp
    have f2 : ∀ k, k ≠ b + 3 → k ≠ b + 4 → m2 k = mem0 k := fun k h1 h2 => by rw [hm2, um_ne h1]; exact hf k h1 h2
    rw [r3, r2]
    refine ⟨fun q => ?_, fun q m3 hm3 m4 hm4 y5 hy5 => ?_⟩
    · have q2 := (nlt (by omega) (by omega)).mp q
      have hb : ¬ bt 9 X i = true := fun z => by have := (bt_iff.mp z).2; omega
      have k := ih (i + 1) m2 (by omega) f2 (fillS hj3 (fun j => by rw [hm2, um_at, h3, nI_1]; unfold mvh; rw [if_neg hb])) (fillK hj4 (fun j => by rw [hm2, um_ne (by omega)]) (by unfold mve; rw [if_neg hb]))
      rw [whF_f hb, ← nI_1] at k
      exact k
    · have q2 : ¬ xh X i + 1 < xp X i := fun z => q ((nlt (by omega) (by omega)).mpr z)
      have hb : bt 9 X i = true := bt_iff.mpr ⟨by omega, by omega⟩
      have r4 : m3 (b + 4) i = nI (xe X i) := by rw [hm3, um_ne (by omega), hm2, um_ne (by omega)]; exact h4
      have k := ih (i + 1) m4 (by omega) (fun k h1 h2 => by rw [hm4, um_ne h2, hm3, um_ne h1]; exact f2 k h1 h2) (fillS hj3 (fun j => by
        rw [hm4, um_ne (by omega), hm3, um_at, hm2, um_at]
        unfold mvh
        rw [if_pos hb]
        by_cases z : j = i
        · rw [if_pos z, if_pos z]; rfl
        · rw [if_neg z, if_neg z, if_neg z])) (fillS hj4 (fun j => by
        rw [hm4, um_at, r4, nI_1, hm3, um_ne (by omega), hm2, um_ne (by omega)]
        unfold mve
        rw [if_pos hb]))
      rw [whF_t hb, ← nI_1] at k
      rw [hy5, bit_or i (by omega) (whF (bt 9 X) i) (by have := whF_lt (bt 9 X) i; have : 2 ^ i ≤ 2 ^ 5 := Nat.pow_le_pow_right (by decide) (by omega); omega) (whF_lt _ _)]
      exact k
theorem kX0_moveHands {G : GX} (d : Nat) {mem : Mem} (b : Nat) (hB : BeamAt b) (X : Bm) (B : Nat) (hV : VX 9 B X) (hR : RepB mem b X) : Cn G (d + 0) mX0_moveHands [.ref b] mem (Ri (nI (who 9 X)) (fun m2 => RepB m2 b (movX 9 X) ∧ FrB b mem m2)) := by
  refine cn_of (by decide +kernel) (Nat.le_of_ble_eq_true rfl) (sX0_moveHands_0 b hB ?_)
  refine lX0_moveHands b hB hV hR (fun m hf h3 h4 => ⟨rfl, ⟨?_, fun k hk => hf k (by omega) (by omega)⟩⟩) (xn X) 0 mem (by omega) (fun _ _ _ => rfl) (fun j hj => by rw [if_neg (by omega)]; exact (hR.2.2.2 j hj).2.2.1) (fun j hj => by rw [if_neg (by omega)]; exact (hR.2.2.2 j hj).2.2.2)
  rw [RepB, hf b (by omega) (by omega)]
  exact ⟨hR.1, hR.2.1, hR.2.2.1, fun c hc => ⟨by rw [hf (b + 1) (by omega) (by omega)]; exact (hR.2.2.2 c hc).1, by rw [hf (b + 2) (by omega) (by omega)]; exact (hR.2.2.2 c hc).2.1, h3 c hc, h4 c hc⟩⟩
/-- pushed, not counted -/
def pshX (X : Bm) : Bm := (xn X, xk X, xp X, tkh 9 false X, mve 9 X, xu X, xt X)
set_option maxHeartbeats 4000000 in
theorem lX0_shake {G : GX} {d : Nat} {Φ : Option Value → Mem → Prop} (b : Nat) (hB : BeamAt b) {X : Bm} {B : Nat} (hV : VX 9 B X) (hm : many 9 X ≠ 0) {mem0 : Mem} (hR : RepB mem0 b (movX 9 X))
    (hend : ∀ m : Mem, (∀ k, k ≠ b + 3 → m k = mem0 k) → (∀ j, j < xn X → m (b + 3) j = nI (tkh 9 false X j)) → Φ none m) :
    ∀ (r i : Nat) (m : Mem), i + r = xn X → (∀ k, k ≠ b + 3 → m k = mem0 k) → (∀ j, j < xn X → m (b + 3) j = nI (if j < i then tkh 9 false X j else mvh 9 X j)) → Go G (d + 2) mX0_shake 7 [(0, .ref b), (1, .int (nI (who 9 X))), (2, .int (nI (many 9 X))), (3, .int (nI i))] [] m Φ := by
  intro r
  have hn := hV.1
  induction r with
  | zero =>
    intro i m hi hf hj3
    have e4 : m b 4 = nI (xn X) := by rw [hf b (by omega)]; exact hR.1
    have hi2 : i = xn X := by omega
    rw [hi2] at hj3 ⊢
    refine sX0_shake_7 b hB _ _ _ 0 0 0 0 ⟨fun _ => hend m hf (fun j h => by rw [hj3 j h, if_pos h]), fun q => absurd (by rw [e4]; exact Int32.le_refl _) q⟩
  | succ r ih =>
    intro i m hi hf hj3
    have hin : i < xn X := by omega
    have e4 : m b 4 = nI (xn X) := by rw [hf b (by omega)]; exact hR.1
    obtain ⟨a1, a2, a3, a4, a5⟩ := hV.2.2 i hin
    have a4 := a4 (by omega)
    have hml := many_le hV
    have h3 : m (b + 3) i = nI (mvh 9 X i) := by rw [hj3 i hin, if_neg (Nat.lt_irrefl i)]
    refine sX0_shake_7 b hB _ _ _ (xk X i) (xp X i) (xh X i + 1) (xu X) ⟨fun q => absurd ((nle (by omega) (by omega)).mp (e4 ▸ q)) (by omega), fun _ => ?_⟩
    rw [who_bit hV hin, nI_1]
    by_cases hb : bt 9 X i = true
    · rw [if_pos hb]
      refine ⟨fun _ => ?_, fun q => absurd (by decide) q⟩
      exact ih (i + 1) m (by omega) hf (fillK hj3 (fun _ => rfl) (by unfold tkh mvh; rw [if_pos hb, if_pos hb]))
    · rw [if_neg hb]
      refine ⟨fun q => absurd rfl q, fun _ => ⟨by omega, ⟨a1, a2, a3, by omega, by omega, hml, hV.2.1⟩, ?_, ?_, ?_, ?_, ?_⟩⟩
      · rw [hf (b + 1) (by omega)]; exact (hR.2.2.2 i hin).1
      · rw [hf (b + 2) (by omega)]; exact (hR.2.2.2 i hin).2.1
      · rw [h3]; unfold mvh; rw [if_neg hb]
      · rw [hf b (by omega)]; exact hR.2.1
      · refine ih (i + 1) _ (by omega) (fun k hk => by rw [um_ne hk]; exact hf k hk) (fillS hj3 (fun j => ?_))
        have e : tkh 9 false X i = shN (xk X i) (xp X i) (xh X i + 1) (many 9 X) (xu X) := by
          unfold tkh
          rw [if_neg hb, if_neg (fun z => z.elim (fun z => by cases z) hm)]
        rw [um_at, e]
theorem kX0_shake {G : GX} (d : Nat) {mem : Mem} (b : Nat) (hB : BeamAt b) (X : Bm) (B : Nat) (hV : VX 9 B X) (hm : many 9 X ≠ 0) (hR : RepB mem b (movX 9 X)) : Cn G (d + 2) mX0_shake [.ref b, .int (nI (who 9 X))] mem (Rv (fun m2 => RepB m2 b (pshX X) ∧ FrB b mem m2)) := by
  refine cn_of (by decide +kernel) (Nat.le_of_ble_eq_true rfl) (sX0_shake_0 b hB (who 9 X) ?_)
  intro y1 hy1
  rw [hy1, who_bc hV]
  refine lX0_shake b hB hV hm hR (fun m hf h3 => ⟨rfl, ⟨?_, fun k hk => hf k (by omega)⟩⟩) (xn X) 0 mem (by omega) (fun _ _ => rfl) (fun j hj => by rw [if_neg (by omega)]; exact (hR.2.2.2 j hj).2.2.1)
  rw [RepB, hf b (by omega)]
  exact ⟨hR.1, hR.2.1, hR.2.2.1, fun c hc => ⟨by rw [hf (b + 1) (by omega)]; exact (hR.2.2.2 c hc).1, by rw [hf (b + 2) (by omega)]; exact (hR.2.2.2 c hc).2.1, h3 c hc, by rw [hf (b + 4) (by omega)]; exact (hR.2.2.2 c hc).2.2.2⟩⟩

set_option maxRecDepth 100000 in
theorem sX0_step_0 {G : GX} {d : Nat} {mem : Mem} {Φ : Option Value → Mem → Prop} (b : Nat) (hB : BeamAt b) (X : Bm) (B : Nat) (held : Bool) (h : (VX 9 B X) ∧ (RepB mem b X) ∧ ∀ m3 : Mem, (RepB m3 b (movX 9 X) ∧ FrB b mem m3) → (((nI (who 9 X)) = 0 → Φ (some (.int (nI (who 9 X)))) (um m3 b 6 ((m3 b 6) + 1))) ∧ (¬ (nI (who 9 X)) = 0 → ((held = true → Φ (some (.int (nI (who 9 X)))) (um m3 b 6 ((m3 b 6) + 1))) ∧ (¬ (held = true) → (many 9 X ≠ 0) ∧ (RepB m3 b (movX 9 X)) ∧ ∀ m6 : Mem, (RepB m6 b (pshX X) ∧ FrB b m3 m6) → Φ (some (.int (nI (who 9 X)))) (um m6 b 6 ((m6 b 6) + 1))))))) : Go G (d + 3) mX0_step 0 [(0, .ref b), (1, .int (bI (held = true)))] [] mem Φ := by
  refine go_aload_n dX0_step_0 0 rfl ?_
  obtain ⟨c1, h⟩ := h
  obtain ⟨c2, h⟩ := h
  refine go_callV (st := []) (kX0_moveHands (d + 2) b hB X B c1 c2) hB.1 rfl okX0_moveHands insX0_moveHands selX0_moveHands lkX0_63 rfl rfl (Nat.le_of_ble_eq_true rfl) dX0_step_1 (fun v m3 q => ?_)
  rw [q.1]
  have h := h m3 q.2
  refine go_stk (st2 := [.int (nI (who 9 X))]) rfl ?_
  refine go_istore_n (L2 := [(2, .int (nI (who 9 X))), (0, .ref b), (1, .int (bI (held = true)))]) dX0_step_4 (by decide) rfl ?_
  refine go_iload_n dX0_step_5 0 rfl ?_
  refine go_if_eq 18 dX0_step_6 (by decide) (fun q => ?_) (fun q => ?_)
  · have h := h.1 q
    refine go_aload_n dX0_step_18 1 rfl ?_
    refine go_dup dX0_step_19 rfl ?_
    refine go_getI (kf := 6) hB.1 rfl rfl uwX0 (by decide) flX0_31 dX0_step_20 ?_
    refine go_iconst (v := 1) dX0_step_23 (by decide) ?_
    refine go_iadd dX0_step_24 ?_
    refine go_putI (kf := 6) hB.1 rfl rfl uwX0 tyX0_ok nmX0 (by decide) rfl flX0_31 rfl rfl dX0_step_25 ?_
    refine go_iload_n dX0_step_28 0 rfl ?_
    exact go_iret rfl dX0_step_29 h
  · have h := h.2 q
    refine go_iload_n dX0_step_9 2 rfl ?_
    refine go_if_ne 18 dX0_step_10 (by decide) (fun q => ?_) (fun q => ?_)
    · have h := h.1 (bI1.mp q)
      refine go_aload_n dX0_step_18 1 rfl ?_
      refine go_dup dX0_step_19 rfl ?_
      refine go_getI (kf := 6) hB.1 rfl rfl uwX0 (by decide) flX0_31 dX0_step_20 ?_
      refine go_iconst (v := 1) dX0_step_23 (by decide) ?_
      refine go_iadd dX0_step_24 ?_
      refine go_putI (kf := 6) hB.1 rfl rfl uwX0 tyX0_ok nmX0 (by decide) rfl flX0_31 rfl rfl dX0_step_25 ?_
      refine go_iload_n dX0_step_28 0 rfl ?_
      exact go_iret rfl dX0_step_29 h
    · have h := h.2 (bI0.mp q)
      refine go_aload_n dX0_step_13 1 rfl ?_
      refine go_iload_n dX0_step_14 0 rfl ?_
      obtain ⟨c4, h⟩ := h
      obtain ⟨c5, h⟩ := h
      refine go_callV (st := []) (kX0_shake (d + 0) b hB X B c1 c4 c5) hB.1 rfl okX0_shake insX0_shake selX0_shake lkX0_67 rfl rfl (Nat.le_of_ble_eq_true rfl) dX0_step_15 (fun v m6 q => ?_)
      rw [q.1]
      have h := h m6 q.2
      refine go_stk (st2 := []) rfl ?_
      refine go_aload_n dX0_step_18 1 rfl ?_
      refine go_dup dX0_step_19 rfl ?_
      refine go_getI (kf := 6) hB.1 rfl rfl uwX0 (by decide) flX0_31 dX0_step_20 ?_
      refine go_iconst (v := 1) dX0_step_23 (by decide) ?_
      refine go_iadd dX0_step_24 ?_
      refine go_putI (kf := 6) hB.1 rfl rfl uwX0 tyX0_ok nmX0 (by decide) rfl flX0_31 rfl rfl dX0_step_25 ?_
      refine go_iload_n dX0_step_28 0 rfl ?_
      exact go_iret rfl dX0_step_29 h


theorem tick_on {m m2 : Mem} {b : Nat} {X : Bm} (hR : RepB m b X) (e : m2 = um m b 6 (m b 6 + 1)) : RepB m2 b (xn X, xk X, xp X, xh X, xe X, xu X, xt X + 1) ∧ FrB b m m2 := by
  refine ⟨⟨?_, ?_, ?_, fun c hc => ?_⟩, fun k hk => by rw [e, um_ne (by omega)]⟩
  · rw [e, um_at, if_neg (by decide)]; exact hR.1
  · rw [e, um_at, if_neg (by decide)]; exact hR.2.1
  · rw [e, um_at, if_pos rfl, hR.2.2.1]; exact nI_1 _
  · rw [e, um_ne (by omega), um_ne (by omega), um_ne (by omega), um_ne (by omega)]
    exact hR.2.2.2 c hc
theorem tkh_quiet {g : Nat} {held : Bool} {X : Bm} (h : held = true ∨ many g X = 0) : tkh g held X = mvh g X := by
  funext c
  unfold tkh mvh
  rw [if_pos h]
theorem tkh_loud {g : Nat} {held : Bool} {X : Bm} (h : ¬ held = true) : tkh g held X = tkh g false X := by
  cases held
  · rfl
  · exact absurd rfl h
theorem kX0_step {G : GX} (d : Nat) {mem : Mem} (b : Nat) (hB : BeamAt b) (X : Bm) (held : Bool) (B : Nat) (hV : VX 9 B X) (hR : RepB mem b X) : Cn G (d + 3) mX0_step [.ref b, .int (bI (held = true))] mem (Ri (nI (who 9 X)) (fun m2 => RepB m2 b (tkX 9 held X) ∧ FrB b mem m2)) := by
  refine cn_of (by decide +kernel) (Nat.le_of_ble_eq_true rfl) (sX0_step_0 b hB X B held ⟨hV, hR, ?_⟩)
  intro m3 h3
  have hw := who_lt hV
  have quiet : ∀ m : Mem, (held = true ∨ many 9 X = 0) → m = um m3 b 6 (m3 b 6 + 1) → Ri (nI (who 9 X)) (fun m2 => RepB m2 b (tkX 9 held X) ∧ FrB b mem m2) (some (.int (nI (who 9 X)))) m := fun m hq e => by
    have t := tick_on h3.1 e
    refine ⟨rfl, ?_, h3.2.tr t.2⟩
    have e2 : tkX 9 held X = (xn X, xk X, xp X, mvh 9 X, mve 9 X, xu X, xt X + 1) := by unfold tkX; rw [tkh_quiet hq]
    rw [e2]
    exact t.1
  refine ⟨fun q => quiet _ (Or.inr (who0.mp ((neq (by omega) (by omega)).mp (q.trans nI_0.symm)))) rfl, fun q => ⟨fun z => quiet _ (Or.inl z) rfl, fun z => ?_⟩⟩
  have hm : many 9 X ≠ 0 := fun e => q (by rw [who0.mpr e]; exact nI_0)
  refine ⟨hm, h3.1, fun m7 h7 => ?_⟩
  have t := tick_on h7.1 rfl
  refine ⟨rfl, ?_, (h3.2.tr h7.2).tr t.2⟩
  have e2 : tkX 9 held X = (xn X, xk X, xp X, tkh 9 false X, mve 9 X, xu X, xt X + 1) := by unfold tkX; rw [tkh_loud z]
  rw [e2]
  exact t.1
end
