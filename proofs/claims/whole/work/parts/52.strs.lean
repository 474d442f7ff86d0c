
/-! ===== the five names that the class holds as strings ===== -/
section STRS
variable {G : GX} {d : Nat} {M : MI} {pc : Nat} {L L2 : List (Nat × Value)} {st st2 : List Value} {mem : Mem} {Φ : Option Value → Mem → Prop}
theorem go_ldcS (i : Nat) {idx : Nat} (hi : i < 5) (hx : sIdx.getD i 0 = idx) (hM : M.1.cls = RX2) (hd : decode M.2.1 pc = .ok (.ldc idx, 2)) (k : Go G d M (pc + 2) L (.ref (100 + i) :: st) mem Φ) : Go G d M pc L st mem Φ := fun p e s m args below meth c H locs ls F I P S hl => va_ldcS F.1 F.2.1 (own := RX2) (by rw [← hM]; exact F.2.2.2.2.1) (by rw [← hx]; exact I.2.2.2.2.1 i hi) hd (k p e s m args below meth c H locs ls F I P S hl)
theorem go_strV (i : Nat) {idx : Nat} (hi : i < 5) (hw : Cond.fieldLink M.1.cls idx "java/lang/String" "value" "[B" ∈ Tb) (hd : decode M.2.1 pc = .ok (.getfield idx, 3)) (k : Go G d M (pc + 3) L (.ref (110 + i) :: st) mem Φ) : Go G d M pc L (.ref (100 + i) :: st) mem Φ := fun p e s m args below meth c H locs ls F I P S hl => vk_getf F.1 F.2.1 ((I.2.2.2.2.2.1.1 i hi).2.2.1) S F.2.2.2.2.1 (F.2.2.2.2.2.1 _ hw) (fun x h => h) hd (k p e s m args below meth c H locs ls F I P S hl)
theorem go_strC (i : Nat) {idx : Nat} (hi : i < 5) (hw : Cond.fieldLink M.1.cls idx "java/lang/String" "coder" "B" ∈ Tb) (hd : decode M.2.1 pc = .ok (.getfield idx, 3)) (k : Go G d M (pc + 3) L (.int 0 :: st) mem Φ) : Go G d M pc L (.ref (100 + i) :: st) mem Φ := fun p e s m args below meth c H locs ls F I P S hl => vk_getf F.1 F.2.1 ((I.2.2.2.2.2.1.1 i hi).2.1) S F.2.2.2.2.1 (F.2.2.2.2.2.1 _ hw) (fun x h => h) hd (k p e s m args below meth c H locs ls F I P S hl)
theorem go_getsC {idx : Nat} (hw : Cond.fieldLink M.1.cls idx "java/lang/String" "COMPACT_STRINGS" "Z" ∈ Tb) (hd : decode M.2.1 pc = .ok (.getstatic idx, 3)) (k : Go G d M (pc + 3) L (.int 1 :: st) mem Φ) : Go G d M pc L st mem Φ := fun p e s m args below meth c H locs ls F I P S hl => va_gets F.1 F.2.1 I.2.2.2.2.2.2.1 S F.2.2.2.2.1 (F.2.2.2.2.2.1 _ hw) (fun x h => h) hd (k p e s m args below meth c H locs ls F I P S hl)
theorem go_getsF {idx : Nat} (hw : Cond.fieldLink M.1.cls idx "jdk/internal/util/Preconditions" "SIOOBE_FORMATTER" "Ljava/util/function/BiFunction;" ∈ Tb) (hd : decode M.2.1 pc = .ok (.getstatic idx, 3)) (k : ∀ v : Value, v = .null ∨ v = .ref 115 → Go G d M (pc + 3) L (v :: st) mem Φ) : Go G d M pc L st mem Φ := fun p e s m args below meth c H locs ls F I P S hl => by
  rcases I.2.2.2.2.2.2.2 with q | q
  · exact va_gets F.1 F.2.1 q S F.2.2.2.2.1 (F.2.2.2.2.2.1 _ hw) (fun x h => h) hd (k .null (Or.inl rfl) p e s m args below meth c H locs ls F I P S hl)
  · exact va_gets F.1 F.2.1 q S F.2.2.2.2.1 (F.2.2.2.2.2.1 _ hw) (fun x h => h) hd (k (.ref 115) (Or.inr rfl) p e s m args below meth c H locs ls F I P S hl)
theorem go_slen (i : Nat) (hi : i < 5) {v : Int32} (hv : Int32.ofNat (sLen.getD i 0) = v) (hd : decode M.2.1 pc = .ok (.arraylength, 1)) (k : Go G d M (pc + 1) L (.int v :: st) mem Φ) : Go G d M pc L (.ref (110 + i) :: st) mem Φ := fun p e s m args below meth c H locs ls F I P S hl => va_tlen F.1 F.2.1 ((I.2.2.2.2.2.1.1 i hi).2.2.2) S hv hd (k p e s m args below meth c H locs ls F I P S hl)
theorem go_sbal (i : Nat) (hi : i < 5) {j : Int32} (hin : vp_in j (sLen.getD i 0)) (hd : decode M.2.1 pc = .ok (.baload, 1)) (k : Go G d M (pc + 1) L (.int ((sByt.getD i []).getD j.toNatClampNeg 0) :: st) mem Φ) : Go G d M pc L (.int j :: .ref (110 + i) :: st) mem Φ := fun p e s m args below meth c H locs ls F I P S hl => va_tb F.1 F.2.1 ((I.2.2.2.2.2.1.1 i hi).2.2.2) S hin rfl hd (k p e s m args below meth c H locs ls F I P S hl)
theorem go_callVS (i : Nat) (hi : i < 5) {M2 : MI} {n idx : Nat} {As stk : List Value} {Ψ : Option Value → Mem → Prop} (hM : Cn G d M2 (.ref (100 + i) :: As) mem Ψ) (hc : M2.1.cls = "java/lang/String") (ok : Mok M2 n) (hin : Cond.instanceMethod M2.1 ∈ Tb) (hsel : Cond.selects "java/lang/String" M2.1 M2.1 ∈ Tb) (hw : Cond.methodLink M.1.cls idx M2.1 ∈ Tb) (hn : As.length = n) (hstk : As.reverse ++ .ref (100 + i) :: st = stk) (hW : (st.map fun v => v.category).sum ≤ 8) (hd : decode M.2.1 pc = .ok (.invokevirtual idx, 3)) (k : ∀ v m2, Ψ v m2 → Go G (d + 1) M (pc + 3) L (v.toList ++ st) m2 Φ) : Go G (d + 1) M pc L stk mem Φ := fun p e s m args below meth c H locs ls F I P S hl => by
  have hT := F.2.2.2.2.2.1
  have hp := pc_ok (As := .ref (100 + i) :: As) I P S
  refine go_back F I S hl (va_runV (g := F0 m pc ls (stk.map (lf G.2.2.1))) (C := "java/lang/String") (b := G.2.2.1 (100 + i)) (As := As.map (lf G.2.2.1)) ⟨F.1, F.2.1, F.2.2.2.1, F.2.2.2.2.1, hT⟩ hM ⟨callB_of n hT (goodG ok.1) rfl rfl rfl (hT _ ok.2.1) (hT _ hw) ok.2.2.1 (room_ok ok.2.2.2), hT _ hin, hT _ hsel⟩ ⟨hp.1, vk_recv (i := i) (adK := fun i => G.2.2.1 (100 + i)) I.2.2.2.2.2.1 hi S, hp.2⟩ rfl (by rw [List.length_map]; exact hn) hl.1 ?_ (lv_room (by rw [catm]; exact hW)) hd ⟨Nat.le_refl _, Nat.le_refl _⟩) k
  show stk.map _ = _
  rw [← hstk, List.map_append, List.map_reverse]
  rfl
end STRS
def sNm (i j : Nat) : Nat := letL.getD (endL.getD i 0 + j) 0
theorem sNm_b : ∀ i, i < 5 → ∀ j, j < sLen.getD i 0 → ((((sByt.getD i []).getD j 0) &&& 255).toUInt32 % 65536).toInt32 = nI (sNm i j) := by decide +kernel
theorem sNm_r : ∀ i, i < 5 → ∀ j, j < sLen.getD i 0 → sNm i j ≤ 127 := by decide +kernel
theorem sLen_b : ∀ i, i < 5 → sLen.getD i 0 ≤ 5 ∧ endL.getD (i + 1) 0 = endL.getD i 0 + sLen.getD i 0 ∧ endL.getD i 0 + sLen.getD i 0 ≤ 21 := by decide +kernel
theorem kJ3_checkIndex {G : GX} (d : Nat) {mem : Mem} (j n : Nat) (v : Value) (hv : v = .null ∨ v = .ref 115) (hn : n ≤ 5) (h : j < n) : Cn G (d + 0) mJ3_checkIndex_8e157 [.int (nI j), .int (nI n), v] mem (Ri (nI j) (fun m2 => m2 = mem)) := by
  refine cn_of (by decide +kernel) (by rcases hv with rfl | rfl <;> exact Nat.le_of_ble_eq_true rfl) ?_
  have hL : lv_args 0 [.int (nI j), .int (nI n), v] = [(0, .int (nI j)), (1, .int (nI n)), (2, v)] := by rcases hv with rfl | rfl <;> rfl
  rw [hL]
  refine go_iload_n dJ3_checkIndex_8e157_0 0 rfl (go_if_lt 9 dJ3_checkIndex_8e157_1 (by decide) (fun q => absurd q (nI_pos (by omega))) (fun _ => ?_))
  refine go_iload_n dJ3_checkIndex_8e157_4 0 rfl (go_iload_n dJ3_checkIndex_8e157_5 1 rfl (go_icmp_lt 16 dJ3_checkIndex_8e157_6 (by decide) (fun _ => ?_) (fun q => absurd ((nlt (by omega) (by omega)).mpr h) q)))
  exact go_iload_n dJ3_checkIndex_8e157_16 0 rfl (go_iret rfl dJ3_checkIndex_8e157_17 ⟨rfl, rfl⟩)
theorem kJ0_checkIndex {G : GX} (d : Nat) {mem : Mem} (j n : Nat) (hn : n ≤ 5) (h : j < n) : Cn G (d + 1) mJ0_checkIndex_df160 [.int (nI j), .int (nI n)] mem (Rv (fun m2 => m2 = mem)) := by
  refine cn_of (by decide +kernel) (Nat.le_of_ble_eq_true rfl) ?_
  refine go_iload_n dJ0_checkIndex_df160_0 0 rfl (go_iload_n dJ0_checkIndex_df160_1 1 rfl (go_getsF flJ0_1053 dJ0_checkIndex_df160_2 (fun v hv => ?_)))
  refine go_callS (kJ3_checkIndex d j n v hv hn h) okJ3_checkIndex_8e157 staJ3_checkIndex_8e157 lkJ0_1059 rfl rfl (by decide) dJ0_checkIndex_df160_5 (fun w m2 z => ?_)
  obtain ⟨rfl, rfl⟩ := z
  exact go_pop dJ0_checkIndex_df160_8 rfl (go_vret rfl dJ0_checkIndex_df160_9 ⟨rfl, rfl⟩)
theorem kJ1_charAt {G : GX} (d : Nat) {mem : Mem} (i j : Nat) (hi : i < 5) (hj : j < sLen.getD i 0) : Cn G (d + 2) mJ1_charAt_3b067 [.ref (110 + i), .int (nI j)] mem (Ri (nI (sNm i j)) (fun m2 => m2 = mem)) := by
  have hb := sLen_b i hi
  refine cn_of (by decide +kernel) (Nat.le_of_ble_eq_true rfl) ?_
  refine go_iload_n dJ1_charAt_3b067_0 1 rfl (go_aload_n dJ1_charAt_3b067_1 0 rfl (go_slen i hi (v := nI (sLen.getD i 0)) rfl dJ1_charAt_3b067_2 ?_))
  refine go_callS (kJ0_checkIndex d j (sLen.getD i 0) hb.1 hj) okJ0_checkIndex_df160 staJ0_checkIndex_df160 lkJ1_9 rfl rfl (by decide) dJ1_charAt_3b067_3 (fun w m2 z => ?_)
  obtain ⟨rfl, rfl⟩ := z
  refine go_aload_n dJ1_charAt_3b067_6 0 rfl (go_iload_n dJ1_charAt_3b067_7 1 rfl (go_sbal i hi (nin hj (by omega)) dJ1_charAt_3b067_8 ?_))
  rw [ncl (by omega)]
  refine go_sipush dJ1_charAt_3b067_9 (v := 255) (by decide) (go_iand dJ1_charAt_3b067_12 (go_i2c dJ1_charAt_3b067_13 ?_))
  rw [sNm_b i hi j hj]
  have hr := sNm_r i hi j hj
  refine go_zret (ty := .char) rfl ?_ dJ1_charAt_3b067_14 ⟨rfl, rfl⟩
  have : ∀ x, x < 128 → narrow .char (.int (nI x)) = .int (nI x) := by decide +kernel
  exact this _ (by omega)
theorem kJ0_isLatin1 {G : GX} (d : Nat) {mem : Mem} (i : Nat) (hi : i < 5) : Cn G (d + 0) mJ0_isLatin1_aae02 [.ref (100 + i)] mem (Ri 1 (fun m2 => m2 = mem)) := by
  refine cn_of (by decide +kernel) (Nat.le_of_ble_eq_true rfl) ?_
  refine go_getsC flJ0_38 dJ0_isLatin1_aae02_0 (go_if_eq 17 dJ0_isLatin1_aae02_3 (by decide) (fun q => absurd q (by decide)) (fun _ => ?_))
  refine go_aload_n dJ0_isLatin1_aae02_6 0 rfl (go_strC i hi flJ0_15 dJ0_isLatin1_aae02_7 (go_if_ne 17 dJ0_isLatin1_aae02_10 (by decide) (fun q => absurd rfl q) (fun _ => ?_)))
  exact go_iconst dJ0_isLatin1_aae02_13 (v := 1) (by decide) (go_goto 18 dJ0_isLatin1_aae02_14 (by decide) (go_zret (ty := .boolean) rfl (by decide +kernel) dJ0_isLatin1_aae02_18 ⟨rfl, rfl⟩))
theorem kJ0_coder {G : GX} (d : Nat) {mem : Mem} (i : Nat) (hi : i < 5) : Cn G (d + 0) mJ0_coder_7d493 [.ref (100 + i)] mem (Ri 0 (fun m2 => m2 = mem)) := by
  refine cn_of (by decide +kernel) (Nat.le_of_ble_eq_true rfl) ?_
  refine go_getsC flJ0_38 dJ0_coder_7d493_0 (go_if_eq 13 dJ0_coder_7d493_3 (by decide) (fun q => absurd q (by decide)) (fun _ => ?_))
  refine go_aload_n dJ0_coder_7d493_6 0 rfl (go_strC i hi flJ0_15 dJ0_coder_7d493_7 ?_)
  exact go_goto 14 dJ0_coder_7d493_10 (by decide) (go_zret (ty := .byte) rfl (by decide +kernel) dJ0_coder_7d493_14 ⟨rfl, rfl⟩)
theorem kJ0_length {G : GX} (d : Nat) {mem : Mem} (i : Nat) (hi : i < 5) : Cn G (d + 1) mJ0_length_8abf5 [.ref (100 + i)] mem (Ri (nI (sLen.getD i 0)) (fun m2 => m2 = mem)) := by
  refine cn_of (by decide +kernel) (Nat.le_of_ble_eq_true rfl) ?_
  refine go_aload_n dJ0_length_8abf5_0 0 rfl (go_strV i hi flJ0_9 dJ0_length_8abf5_1 (go_slen i hi (v := nI (sLen.getD i 0)) rfl dJ0_length_8abf5_4 (go_aload_n dJ0_length_8abf5_5 0 rfl ?_)))
  refine go_callVS i hi (kJ0_coder d i hi) rfl okJ0_coder_7d493 insJ0_coder_7d493 selJ0_coder_7d493 lkJ0_335 rfl rfl (Nat.le_of_ble_eq_true rfl) dJ0_length_8abf5_6 (fun w m2 z => ?_)
  obtain ⟨rfl, rfl⟩ := z
  refine go_ishr dJ0_length_8abf5_9 (go_iret rfl dJ0_length_8abf5_10 ⟨?_, rfl⟩)
  have e : ∀ x, x < 5 → (nI (sLen.getD x 0)) >>> ((0 : Int32) &&& 31) = nI (sLen.getD x 0) := by decide +kernel
  rw [e i hi]
theorem kJ0_charAt {G : GX} (d : Nat) {mem : Mem} (i j : Nat) (hi : i < 5) (hj : j < sLen.getD i 0) : Cn G (d + 3) mJ0_charAt_5068e [.ref (100 + i), .int (nI j)] mem (Ri (nI (sNm i j)) (fun m2 => m2 = mem)) := by
  refine cn_of (by decide +kernel) (Nat.le_of_ble_eq_true rfl) ?_
  refine go_aload_n dJ0_charAt_5068e_0 0 rfl (go_callVS i hi (kJ0_isLatin1 (d + 2) i hi) rfl okJ0_isLatin1_aae02 insJ0_isLatin1_aae02 selJ0_isLatin1_aae02 lkJ0_492 rfl rfl (by decide) dJ0_charAt_5068e_1 (fun w m2 z => ?_))
  obtain ⟨rfl, rfl⟩ := z
  refine go_if_eq 16 dJ0_charAt_5068e_4 (by decide) (fun q => absurd q (by decide)) (fun _ => ?_)
  refine go_aload_n dJ0_charAt_5068e_7 0 rfl (go_strV i hi flJ0_9 dJ0_charAt_5068e_8 (go_iload_n dJ0_charAt_5068e_11 1 rfl ?_))
  refine go_callS (kJ1_charAt d i j hi hj) okJ1_charAt_3b067 staJ1_charAt_3b067 lkJ0_495 rfl rfl (by decide) dJ0_charAt_5068e_12 (fun w m2 z => ?_)
  obtain ⟨rfl, rfl⟩ := z
  have hr := sNm_r i hi j hj
  refine go_zret (ty := .char) rfl ?_ dJ0_charAt_5068e_15 ⟨rfl, rfl⟩
  have : ∀ x, x < 128 → narrow .char (.int (nI x)) = .int (nI x) := by decide +kernel
  exact this _ (by omega)
