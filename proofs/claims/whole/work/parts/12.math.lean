theorem code_max : Cond.code Lib.Math.max.name Lib.Math.max.code 2 (some .int) ∈ Tb := inTb (List.mem_of_getElem? (i := 427) (by decide +kernel)) (by decide +kernel)
theorem sta_max : Cond.static Lib.Math.max.name ∈ Tb := inTb (List.mem_of_getElem? (i := 426) (by decide +kernel)) (by decide +kernel)
theorem code_min : Cond.code Lib.Math.min.name Lib.Math.min.code 2 (some .int) ∈ Tb := inTb (List.mem_of_getElem? (i := 424) (by decide +kernel)) (by decide +kernel)
theorem sta_min : Cond.static Lib.Math.min.name ∈ Tb := inTb (List.mem_of_getElem? (i := 423) (by decide +kernel)) (by decide +kernel)
theorem ini_math : Cond.initialized "java/lang/Math" ∈ Tb := inTb (List.mem_of_getElem? (i := 61) (by decide +kernel)) (by decide +kernel)
section GM
variable {G : GX} {d : Nat} {M : MI} {pc : Nat} {L L2 : List (Nat × Value)} {st st2 : List Value} {mem : Mem} {Φ : Option Value → Mem → Prop}
theorem go_mmax {idx : Nat} {x y : Int32} (hw : Cond.methodLink M.1.cls idx yJ9_max_7cf53 ∈ Tb) (hW : (st.map fun v => v.category).sum ≤ 8) (hd : decode M.2.1 pc = .ok (.invokestatic idx, 3)) (k : Go G (d + 1) M (pc + 3) L (.int (if x < y then y else x) :: st) mem Φ) : Go G (d + 1) M pc L (.int y :: .int x :: st) mem Φ := fun p e s m args below meth c H locs ls F I P S hl => by
  refine va_mmax F.1 F.2.1 (F.2.2.2.1.trans hl.1.symm) F.2.2.2.2.1 (F.2.2.2.2.2.1 _ hw) (F.2.2.2.2.2.1 _ sta_max) (F.2.2.2.2.2.1 _ ini_math) (F.2.2.2.2.2.1 _ code_max) (Nat.succ_le_succ (Nat.zero_le d)) ?_ (Nat.le_refl _) (Nat.le_refl _) hd (k p e s m args below meth c H locs ls F I P S hl)
  rw [catm]
  show _ + 13 ≤ 40 * (d + 1)
  omega
theorem go_mmin {idx : Nat} {x y : Int32} (hw : Cond.methodLink M.1.cls idx yJ9_min_7cf53 ∈ Tb) (hW : (st.map fun v => v.category).sum ≤ 8) (hd : decode M.2.1 pc = .ok (.invokestatic idx, 3)) (k : Go G (d + 1) M (pc + 3) L (.int (if y < x then y else x) :: st) mem Φ) : Go G (d + 1) M pc L (.int y :: .int x :: st) mem Φ := fun p e s m args below meth c H locs ls F I P S hl => by
  refine va_mmin F.1 F.2.1 (F.2.2.2.1.trans hl.1.symm) F.2.2.2.2.1 (F.2.2.2.2.2.1 _ hw) (F.2.2.2.2.2.1 _ sta_min) (F.2.2.2.2.2.1 _ ini_math) (F.2.2.2.2.2.1 _ code_min) (Nat.succ_le_succ (Nat.zero_le d)) ?_ (Nat.le_refl _) (Nat.le_refl _) hd (k p e s m args below meth c H locs ls F I P S hl)
  rw [catm]
  show _ + 13 ≤ 40 * (d + 1)
  omega
end GM
