
/-! how many bits are set -/
theorem and_split {a c : Nat} (ha : a < 256) (hc : c < 256) (y z : Nat) : (a + 256 * y) &&& (c + 256 * z) = (a &&& c) + 256 * (y &&& z) := by
  apply Nat.eq_of_testBit_eq
  intro i
  have hac : a &&& c < 2 ^ 8 := Nat.lt_of_le_of_lt Nat.and_le_left ha
  rw [Nat.testBit_and, Nat.add_comm a, Nat.add_comm c, Nat.add_comm (a &&& c), show (256 : Nat) = 2 ^ 8 from rfl, Nat.testBit_two_pow_mul_add _ ha, Nat.testBit_two_pow_mul_add _ hc, Nat.testBit_two_pow_mul_add _ hac]
  split
  · rw [Nat.testBit_and]
  · rw [Nat.testBit_and]
def s1N (a : Nat) : Nat := a - (a / 2 &&& 85)
def s2N (a : Nat) : Nat := (a &&& 51) + (a / 4 &&& 51)
def s3N (a : Nat) : Nat := (a + a / 16) &&& 15
theorem d1 : ∀ a, a < 256 → ∀ e, e < 2 → (a / 2 + 128 * e) &&& 85 = a / 2 &&& 85 := by decide +kernel
theorem d2 : ∀ a, a < 256 → ∀ e, e < 4 → (a / 4 + 64 * e) &&& 51 = a / 4 &&& 51 := by decide +kernel
theorem d3 : ∀ a, a < 69 → ∀ e, e < 5 → (a + a / 16 + 16 * e) &&& 15 = (a + a / 16) &&& 15 := by decide +kernel
theorem d4 : ∀ a, a < 256 → s1N a < 256 ∧ s2N (s1N a) < 69 ∧ s2N (s1N a) % 16 < 5 ∧ s3N (s2N (s1N a)) = pcF 8 a ∧ pcF 8 a ≤ 8 ∧ (a / 2 &&& 85) ≤ a := by decide +kernel
theorem S1_split {a : Nat} (ha : a < 256) (y M : Nat) : (a + 256 * y) - ((a + 256 * y) / 2 &&& (85 + 256 * M)) = s1N a + 256 * (y - (y / 2 &&& M)) ∧ ((a + 256 * y) / 2 &&& (85 + 256 * M)) ≤ a + 256 * y := by
  have e : (a + 256 * y) / 2 = (a / 2 + 128 * (y % 2)) + 256 * (y / 2) := by omega
  have h1 : (y / 2 &&& M) ≤ y := Nat.le_trans Nat.and_le_left (Nat.div_le_self _ _)
  have h2 := (d4 a ha).2.2.2.2.2
  rw [e, and_split (by omega) (by omega), d1 a ha _ (by omega)]
  unfold s1N
  omega
theorem S2_split {a : Nat} (ha : a < 256) (y M : Nat) : ((a + 256 * y) &&& (51 + 256 * M)) + ((a + 256 * y) / 4 &&& (51 + 256 * M)) = s2N a + 256 * ((y &&& M) + (y / 4 &&& M)) := by
  have e : (a + 256 * y) / 4 = (a / 4 + 64 * (y % 4)) + 256 * (y / 4) := by omega
  rw [e, and_split ha (by omega), and_split (a := a / 4 + 64 * (y % 4)) (by omega) (by omega), d2 a ha _ (by omega)]
  unfold s2N
  omega
theorem S3_split {a : Nat} (ha : a < 69) (y M : Nat) (hy : y % 16 < 5) : ((a + 256 * y) + (a + 256 * y) / 16) &&& (15 + 256 * M) = s3N a + 256 * ((y + y / 16) &&& M) := by
  have e : (a + 256 * y) + (a + 256 * y) / 16 = (a + a / 16 + 16 * (y % 16)) + 256 * (y + y / 16) := by omega
  rw [e, and_split (by omega) (by omega), d3 a ha _ hy]
  unfold s3N
  omega
theorem pcF_mod : ∀ (f w : Nat), pcF f w = pcF f (w % 2 ^ f)
  | 0, w => rfl
  | f + 1, w => by
    show w % 2 + pcF f (w / 2) = (w % 2 ^ (f + 1)) % 2 + pcF f ((w % 2 ^ (f + 1)) / 2)
    rw [pcF_mod f (w / 2), pcF_mod f ((w % 2 ^ (f + 1)) / 2)]
    have h1 : (w % 2 ^ (f + 1)) % 2 = w % 2 := Nat.mod_mod_of_dvd _ ⟨2 ^ f, by rw [Nat.pow_succ, Nat.mul_comm]⟩
    have h2 : (w % 2 ^ (f + 1)) / 2 % 2 ^ f = w / 2 % 2 ^ f := by
      rw [Nat.pow_succ, Nat.mul_comm (2 ^ f) 2, Nat.mod_mul_right_div_self, Nat.mod_mod]
    rw [h1, h2]
theorem pcF_add : ∀ (f g w : Nat), pcF (f + g) w = pcF f w + pcF g (w / 2 ^ f)
  | 0, g, w => by rw [Nat.zero_add, Nat.pow_zero, Nat.div_one]; show _ = 0 + _; rw [Nat.zero_add]
  | f + 1, g, w => by
    rw [show f + 1 + g = (f + g) + 1 by omega]
    show w % 2 + pcF (f + g) (w / 2) = w % 2 + pcF f (w / 2) + _
    rw [pcF_add f g (w / 2), Nat.div_div_eq_div_mul, Nat.pow_succ, Nat.mul_comm 2 (2 ^ f), Nat.add_assoc]
theorem bc_nat (a b c e : Nat) (ha : a < 256) (hb : b < 256) (hc : c < 256) (he : e < 64) :
    ∃ x1 x2 x3 : Nat, ((a + 256 * (b + 256 * (c + 256 * e))) / 2 &&& 1431655765) ≤ a + 256 * (b + 256 * (c + 256 * e)) ∧ x1 = (a + 256 * (b + 256 * (c + 256 * e))) - ((a + 256 * (b + 256 * (c + 256 * e))) / 2 &&& 1431655765) ∧ x2 = (x1 &&& 858993459) + (x1 / 4 &&& 858993459) ∧ x3 = (x2 + x2 / 16) &&& 252645135 ∧ x3 = pcF 8 a + 256 * (pcF 8 b + 256 * (pcF 8 c + 256 * pcF 8 e)) ∧ x1 < 2 ^ 31 ∧ x2 < 2 ^ 31 := by
  obtain ⟨a1, a2, a3, a4, a5, _⟩ := d4 a ha
  obtain ⟨b1, b2, b3, b4, b5, _⟩ := d4 b hb
  obtain ⟨c1, c2, c3, c4, c5, _⟩ := d4 c hc
  obtain ⟨e1, e2, e3, e4, e5, _⟩ := d4 e (by omega)
  have t1 := S1_split ha (b + 256 * (c + 256 * e)) 5592405
  rw [(S1_split hb (c + 256 * e) 21845).1, (S1_split hc e 85).1, show e - (e / 2 &&& 85) = s1N e from rfl] at t1
  have t2 := S2_split (a := s1N a) (by omega) (s1N b + 256 * (s1N c + 256 * s1N e)) 3355443
  rw [S2_split (a := s1N b) (by omega) (s1N c + 256 * s1N e) 13107, S2_split (a := s1N c) (by omega) (s1N e) 51, show (s1N e &&& 51) + (s1N e / 4 &&& 51) = s2N (s1N e) from rfl] at t2
  have t3 := S3_split a2 (s2N (s1N b) + 256 * (s2N (s1N c) + 256 * s2N (s1N e))) 986895 (by omega)
  rw [S3_split b2 (s2N (s1N c) + 256 * s2N (s1N e)) 3855 (by omega), S3_split c2 (s2N (s1N e)) 15 (by omega), show (s2N (s1N e) + s2N (s1N e) / 16) &&& 15 = s3N (s2N (s1N e)) from rfl, a4, b4, c4, e4] at t3
  have hs : s1N e ≤ e := Nat.sub_le _ _
  refine ⟨_, _, _, t1.2, t1.1.symm, t2.symm, t3.symm, rfl, ?_, ?_⟩
  · omega
  · omega
theorem bcI_by {a y1 y2 y3 y4 y5 : Int32} (h1 : (a - ((((a).toUInt32 >>> ((1 : Int32).toUInt32 &&& Int32.toUInt32 31)).toInt32) &&& 1431655765)) = y1) (h2 : ((y1 &&& 858993459) + ((((y1).toUInt32 >>> ((2 : Int32).toUInt32 &&& Int32.toUInt32 31)).toInt32) &&& 858993459)) = y2) (h3 : ((y2 + (((y2).toUInt32 >>> ((4 : Int32).toUInt32 &&& Int32.toUInt32 31)).toInt32)) &&& 252645135) = y3) (h4 : (y3 + (((y3).toUInt32 >>> ((8 : Int32).toUInt32 &&& Int32.toUInt32 31)).toInt32)) = y4) (h5 : (y4 + (((y4).toUInt32 >>> ((16 : Int32).toUInt32 &&& Int32.toUInt32 31)).toInt32)) = y5) : bcI a = y5 &&& 63 := by
  subst h1 h2 h3 h4 h5
  rfl
theorem pc_bytes (w : Nat) : pcF 32 w = pcF 8 (w % 256) + (pcF 8 (w / 256 % 256) + (pcF 8 (w / 65536 % 256) + pcF 8 (w / 16777216 % 256))) := by
  have m : ∀ w, pcF 8 w = pcF 8 (w % 256) := fun w => pcF_mod 8 w
  have k1 : pcF 32 w = pcF 8 w + pcF 24 (w / 256) := pcF_add 8 24 w
  have k2 : pcF 24 (w / 256) = pcF 8 (w / 256) + pcF 16 (w / 256 / 256) := pcF_add 8 16 (w / 256)
  have k3 : pcF 16 (w / 256 / 256) = pcF 8 (w / 256 / 256) + pcF 8 (w / 256 / 256 / 256) := pcF_add 8 8 (w / 256 / 256)
  rw [k1, k2, k3, m w, m (w / 256), m (w / 256 / 256), m (w / 256 / 256 / 256), Nat.div_div_eq_div_mul, Nat.div_div_eq_div_mul]
theorem bc_end {x3 p0 p1 p2 p3 : Nat} (h4 : x3 = p0 + 256 * (p1 + 256 * (p2 + 256 * p3))) (q0 : p0 ≤ 8) (q1 : p1 ≤ 8) (q2 : p2 ≤ 8) (q3 : p3 ≤ 8) : (x3 + x3 / 256 + (x3 + x3 / 256) / 65536) % 64 = p0 + (p1 + (p2 + p3)) := by
  have e1 : x3 / 256 = p1 + 256 * p2 + 65536 * p3 := by omega
  have e2 : (x3 + x3 / 256) / 65536 = p2 + p3 + 256 * p3 := by rw [e1]; omega
  rw [e2, e1, h4]
  omega
theorem bc_pc {w : Nat} (hw : w < 1073741824) : bcI (nI w) = nI (pcF 32 w) := by
  obtain ⟨x1, x2, x3, h0, h1, h2, h3, h4, l1, l2⟩ := bc_nat (w % 256) (w / 256 % 256) (w / 65536 % 256) (w / 16777216) (by omega) (by omega) (by omega) (by omega)
  have ew : w % 256 + 256 * (w / 256 % 256 + 256 * (w / 65536 % 256 + 256 * (w / 16777216))) = w := by omega
  rw [ew] at h0 h1
  have p8 : ∀ a, a < 256 → pcF 8 a ≤ 8 := fun a h => (d4 a h).2.2.2.2.1
  have q0 := p8 (w % 256) (by omega)
  have q1 := p8 (w / 256 % 256) (by omega)
  have q2 := p8 (w / 65536 % 256) (by omega)
  have q3 := p8 (w / 16777216) (by omega)
  have hx3 : x3 < 2 ^ 28 := by rw [h4]; omega
  have hend := bc_end h4 q0 q1 q2 q3
  have e63 : ∀ n, nI n &&& 63 = nI (n % 64) := fun n => fa_mask n 6
  rw [pc_bytes, Nat.mod_eq_of_lt (show w / 16777216 < 256 by omega), ← hend, ← e63]
  refine bcI_by (y1 := nI x1) (y2 := nI x2) (y3 := nI x3) (y4 := nI (x3 + x3 / 256)) ?_ ?_ ?_ ?_ ?_
  · rw [pk_ushrN (by omega) 1 1 (by decide), show (1431655765 : Int32) = nI 1431655765 from rfl, fa_and, h1]
    exact pk_sub h0
  · rw [pk_ushrN (by omega) 2 2 (by decide), show (858993459 : Int32) = nI 858993459 from rfl, fa_and, fa_and, nI_add, h2]
  · rw [pk_ushrN (by omega) 4 4 (by decide), show (252645135 : Int32) = nI 252645135 from rfl, nI_add, fa_and, h3]
  · rw [pk_ushrN (by omega) 8 8 (by decide), nI_add]
  · rw [pk_ushrN (by omega) 16 16 (by decide), nI_add]
