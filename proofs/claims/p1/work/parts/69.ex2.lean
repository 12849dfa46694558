/-! counting ones: java.lang.Long.bitCount, java.lang.Integer.bitCount -/
def bs (f : Nat → Bool) : Nat → Nat
  | 0 => 0
  | k + 1 => bs f k + (f k).toNat
theorem bs_le (f : Nat → Bool) (k : Nat) : bs f k ≤ k := by
  induction k with
  | zero => exact Nat.le_refl _
  | succ k ih => simp only [bs]; cases f k <;> simp only [Bool.toNat_true, Bool.toNat_false] <;> omega
theorem bs_cg {f g : Nat → Bool} {k : Nat} (h : ∀ i, i < k → f i = g i) : bs f k = bs g k := by
  induction k with
  | zero => rfl
  | succ k ih => simp only [bs]; rw [ih (fun i hi => h i (by omega)), h k (by omega)]
theorem bs_add (f : Nat → Bool) (a b : Nat) : bs f (a + b) = bs f a + bs (fun i => f (a + i)) b := by
  induction b with
  | zero => rfl
  | succ b ih => show bs f (a + b) + (f (a + b)).toNat = bs f a + (bs (fun i => f (a + i)) b + (f (a + b)).toNat); omega
def pc8 (b : Nat) : Nat := bs (fun i => b.testBit i) 8
def dg : Nat → Nat → Nat
  | 0, _ => 0
  | k + 1, n => 256 * dg k (n / 256) + pc8 (n % 256)
def m85 : Nat → Nat
  | 0 => 0
  | k + 1 => 256 * m85 k + 85
def m51 : Nat → Nat
  | 0 => 0
  | k + 1 => 256 * m51 k + 51
def m15 : Nat → Nat
  | 0 => 0
  | k + 1 => 256 * m15 k + 15
theorem and256 {a m : Nat} {c d : Nat} (hc : c < 256) (hd : d < 256) : (256 * a + c) &&& (256 * m + d) = 256 * (a &&& m) + (c &&& d) := by
  have h1 : ((256 * a + c) &&& (256 * m + d)) / 2 ^ 8 = a &&& m := by
    rw [Nat.and_div_two_pow]
    rw [show (256 * a + c) / 2 ^ 8 = a by omega, show (256 * m + d) / 2 ^ 8 = m by omega]
  have h2 : ((256 * a + c) &&& (256 * m + d)) % 2 ^ 8 = c &&& d := by
    rw [Nat.and_mod_two_pow]
    rw [show (256 * a + c) % 2 ^ 8 = c by omega, show (256 * m + d) % 2 ^ 8 = d by omega]
  generalize (256 * a + c) &&& (256 * m + d) = z at *
  omega
set_option maxRecDepth 100000 in
theorem byte1 : ∀ b, b < 256 → (b / 2 &&& 85) ≤ b ∧ (∀ r, r < 2 → (128 * r + b / 2) &&& 85 = b / 2 &&& 85) := by decide +kernel
set_option maxRecDepth 100000 in
theorem byte2 : ∀ c, c < 256 → (∀ r, r < 4 → (64 * r + c / 4) &&& 51 = c / 4 &&& 51) := by decide +kernel
set_option maxRecDepth 100000 in
theorem byte3 : ∀ b, b < 256 → ((b - (b / 2 &&& 85) &&& 51) + ((b - (b / 2 &&& 85)) / 4 &&& 51)) ≤ 68 ∧ ((b - (b / 2 &&& 85) &&& 51) + ((b - (b / 2 &&& 85)) / 4 &&& 51)) % 16 ≤ 4 ∧ (∀ r, r < 5 → (((b - (b / 2 &&& 85) &&& 51) + ((b - (b / 2 &&& 85)) / 4 &&& 51)) + 16 * r + ((b - (b / 2 &&& 85) &&& 51) + ((b - (b / 2 &&& 85)) / 4 &&& 51)) / 16) &&& 15 = pc8 b) := by decide +kernel
def x1 (k n : Nat) : Nat := n - (n / 2 &&& m85 k)
def x2 (k n : Nat) : Nat := (x1 k n &&& m51 k) + (x1 k n / 4 &&& m51 k)
def x3 (k n : Nat) : Nat := (x2 k n + x2 k n / 16) &&& m15 k
theorem x_all (k : Nat) : ∀ n, n < 256 ^ k → (n / 2 &&& m85 k) ≤ n ∧ x2 k n < 256 ^ k ∧ x2 k n + x2 k n / 16 < 256 ^ k ∧ x2 k n % 16 ≤ 4 ∧ x3 k n = dg k n := by
  induction k with
  | zero =>
    intro n hn
    have : n = 0 := by simp at hn; omega
    subst this
    decide
  | succ k ih =>
    intro n hn
    obtain ⟨y, b, hb, rfl⟩ : ∃ y b, b < 256 ∧ n = 256 * y + b := ⟨n / 256, n % 256, by omega, by omega⟩
    have hp : 256 ^ (k + 1) = 256 * 256 ^ k := by rw [Nat.pow_succ, Nat.mul_comm]
    rw [hp] at hn ⊢
    have hy : y < 256 ^ k := by omega
    obtain ⟨h1, h2, h3, h4, h5⟩ := ih y hy
    obtain ⟨b1, b2⟩ := byte1 b hb
    obtain ⟨c1, c2, c3⟩ := byte3 b hb
    have e1 : (256 * y + b) / 2 &&& m85 (k + 1) = 256 * (y / 2 &&& m85 k) + (b / 2 &&& 85) := by
      show _ &&& (256 * m85 k + 85) = _
      rw [show (256 * y + b) / 2 = 256 * (y / 2) + (128 * (y % 2) + b / 2) by omega, and256 (by omega) (by omega), b2 (y % 2) (by omega)]
    have e2 : x1 (k + 1) (256 * y + b) = 256 * x1 k y + (b - (b / 2 &&& 85)) := by unfold x1; rw [e1]; omega
    have hc : b - (b / 2 &&& 85) < 256 := by omega
    obtain ⟨c, hcc⟩ : ∃ c, c = b - (b / 2 &&& 85) := ⟨_, rfl⟩
    rw [← hcc] at e2 hc c1 c2 c3
    have d2 := byte2 c hc
    obtain ⟨z, hz⟩ : ∃ z, z = x1 k y := ⟨_, rfl⟩
    have e3 : x2 (k + 1) (256 * y + b) = 256 * x2 k y + ((c &&& 51) + (c / 4 &&& 51)) := by
      unfold x2
      rw [e2, ← hz]
      show ((256 * z + c) &&& (256 * m51 k + 51)) + ((256 * z + c) / 4 &&& (256 * m51 k + 51)) = _
      rw [show (256 * z + c) / 4 = 256 * (z / 4) + (64 * (z % 4) + c / 4) by omega, and256 hc (by omega), and256 (by omega) (by omega), d2 (z % 4) (by omega)]
      omega
    obtain ⟨d, hd⟩ : ∃ d, d = (c &&& 51) + (c / 4 &&& 51) := ⟨_, rfl⟩
    rw [← hd] at e3 c1 c2 c3
    obtain ⟨u, hu⟩ : ∃ u, u = x2 k y := ⟨_, rfl⟩
    rw [← hu] at e3 h2 h3 h4
    have e4 : x2 (k + 1) (256 * y + b) + x2 (k + 1) (256 * y + b) / 16 = 256 * (u + u / 16) + (d + 16 * (u % 16) + d / 16) := by rw [e3]; omega
    refine ⟨by rw [e1]; omega, by rw [e3]; omega, by rw [e4]; omega, by rw [e3]; omega, ?_⟩
    unfold x3
    rw [e4]
    show (256 * (u + u / 16) + (d + 16 * (u % 16) + d / 16)) &&& (256 * m15 k + 15) = 256 * dg k ((256 * y + b) / 256) + pc8 ((256 * y + b) % 256)
    rw [and256 (by omega) (by omega), c3 (u % 16) (by omega), show (256 * y + b) / 256 = y by omega, show (256 * y + b) % 256 = b by omega, ← h5]
    unfold x3
    rw [← hu]
theorem pc8_le (b : Nat) : pc8 b ≤ 8 := bs_le _ 8
theorem pc8_bs (n j : Nat) : pc8 (n / 2 ^ j % 256) = bs (fun i => n.testBit (j + i)) 8 := by
  unfold pc8
  apply bs_cg
  intro i hi
  rw [show (256 : Nat) = 2 ^ 8 from rfl, Nat.testBit_mod_two_pow, decide_eq_true hi, Bool.true_and, Nat.testBit_div_two_pow, Nat.add_comm]
theorem dg8 (n : Nat) : ∃ p0 p1 p2 p3 p4 p5 p6 p7 : Nat, (p0 ≤ 8 ∧ p1 ≤ 8 ∧ p2 ≤ 8 ∧ p3 ≤ 8 ∧ p4 ≤ 8 ∧ p5 ≤ 8 ∧ p6 ≤ 8 ∧ p7 ≤ 8) ∧ dg 8 n = p0 + 256 * (p1 + 256 * (p2 + 256 * (p3 + 256 * (p4 + 256 * (p5 + 256 * (p6 + 256 * p7)))))) ∧ bs (fun i => n.testBit i) 64 = p0 + p1 + p2 + p3 + p4 + p5 + p6 + p7 := by
  refine ⟨pc8 (n / 2 ^ 0 % 256), pc8 (n / 2 ^ 8 % 256), pc8 (n / 2 ^ 16 % 256), pc8 (n / 2 ^ 24 % 256), pc8 (n / 2 ^ 32 % 256), pc8 (n / 2 ^ 40 % 256), pc8 (n / 2 ^ 48 % 256), pc8 (n / 2 ^ 56 % 256), ⟨pc8_le _, pc8_le _, pc8_le _, pc8_le _, pc8_le _, pc8_le _, pc8_le _, pc8_le _⟩, ?_, ?_⟩
  · simp only [dg, Nat.div_div_eq_div_mul]
    simp only [show n / 2 ^ 0 = n by omega, show (2 : Nat) ^ 8 = 256 from rfl, show (2 : Nat) ^ 16 = 256 * 256 from rfl, show (2 : Nat) ^ 24 = 256 * 256 * 256 from rfl, show (2 : Nat) ^ 32 = 256 * 256 * 256 * 256 from rfl, show (2 : Nat) ^ 40 = 256 * 256 * 256 * 256 * 256 from rfl, show (2 : Nat) ^ 48 = 256 * 256 * 256 * 256 * 256 * 256 from rfl, show (2 : Nat) ^ 56 = 256 * 256 * 256 * 256 * 256 * 256 * 256 from rfl]
    omega
  · rw [pc8_bs, pc8_bs, pc8_bs, pc8_bs, pc8_bs, pc8_bs, pc8_bs, pc8_bs]
    rw [show (64 : Nat) = 56 + 8 from rfl, bs_add, show (56 : Nat) = 48 + 8 from rfl, bs_add _ 48 8, show (48 : Nat) = 40 + 8 from rfl, bs_add _ 40 8, show (40 : Nat) = 32 + 8 from rfl, bs_add _ 32 8, show (32 : Nat) = 24 + 8 from rfl, bs_add _ 24 8, show (24 : Nat) = 16 + 8 from rfl, bs_add _ 16 8, show (16 : Nat) = 8 + 8 from rfl, bs_add _ 8 8]
    simp only [Nat.zero_add]
theorem dg4 (n : Nat) : ∃ p0 p1 p2 p3 : Nat, (p0 ≤ 8 ∧ p1 ≤ 8 ∧ p2 ≤ 8 ∧ p3 ≤ 8) ∧ dg 4 n = p0 + 256 * (p1 + 256 * (p2 + 256 * p3)) ∧ bs (fun i => n.testBit i) 32 = p0 + p1 + p2 + p3 := by
  refine ⟨pc8 (n / 2 ^ 0 % 256), pc8 (n / 2 ^ 8 % 256), pc8 (n / 2 ^ 16 % 256), pc8 (n / 2 ^ 24 % 256), ⟨pc8_le _, pc8_le _, pc8_le _, pc8_le _⟩, ?_, ?_⟩
  · simp only [dg, Nat.div_div_eq_div_mul]
    simp only [show n / 2 ^ 0 = n by omega, show (2 : Nat) ^ 8 = 256 from rfl, show (2 : Nat) ^ 16 = 256 * 256 from rfl, show (2 : Nat) ^ 24 = 256 * 256 * 256 from rfl]
    omega
  · rw [pc8_bs, pc8_bs, pc8_bs, pc8_bs]
    rw [show (32 : Nat) = 24 + 8 from rfl, bs_add _ 24 8, show (24 : Nat) = 16 + 8 from rfl, bs_add _ 16 8, show (16 : Nat) = 8 + 8 from rfl, bs_add _ 8 8]
    simp only [Nat.zero_add]
theorem y_of (x : Int64) : x = lN x.toBitVec.toNat := Int64.toBitVec_inj.mp (by show _ = BitVec.ofNat 64 _; simp)
theorem y_tn {n : Nat} (h : n < 2 ^ 64) : (lN n).toBitVec.toNat = n := by show (BitVec.ofNat 64 n).toNat = n; rw [BitVec.toNat_ofNat, Nat.mod_eq_of_lt h]
theorem y_and {a b : Nat} (ha : a < 2 ^ 64) (hb : b < 2 ^ 64) : lN a &&& lN b = lN (a &&& b) := by
  apply Int64.toBitVec_inj.mp
  apply BitVec.eq_of_toNat_eq
  rw [Int64.toBitVec_and, BitVec.toNat_and, y_tn ha, y_tn hb, y_tn (Nat.and_lt_two_pow _ hb)]
theorem y_cu : ∀ k, k < 64 → ((nI k).toInt64.toUInt64 &&& Int64.toUInt64 63).toNat % 64 = k := by decide +kernel
theorem y_shr {n : Nat} (k : Nat) (hn : n < 2 ^ 64) (hk : k < 64) : ((lN n).toUInt64 >>> ((nI k).toInt64.toUInt64 &&& Int64.toUInt64 63)).toInt64 = lN (n / 2 ^ k) := by
  apply Int64.toBitVec_inj.mp
  apply BitVec.eq_of_toNat_eq
  show ((lN n).toUInt64 >>> ((nI k).toInt64.toUInt64 &&& Int64.toUInt64 63)).toNat = _
  rw [UInt64.toNat_shiftRight, y_cu k hk, Nat.shiftRight_eq_div_pow, y_tn (Nat.lt_of_le_of_lt (Nat.div_le_self _ _) hn)]
  show (lN n).toBitVec.toNat / 2 ^ k = _
  rw [y_tn hn]
theorem lb_tb (x : Int64) (i : Nat) : lb x i = x.toBitVec.toNat.testBit i := rfl
theorem m85_8 : m85 8 = 6148914691236517205 := by decide +kernel
theorem m51_8 : m51 8 = 3689348814741910323 := by decide +kernel
theorem m15_8 : m15 8 = 1085102592571150095 := by decide +kernel
theorem k85 : (6148914691236517205 : Int64) = lN 6148914691236517205 := rfl
theorem k51 : (3689348814741910323 : Int64) = lN 3689348814741910323 := rfl
theorem k15 : (1085102592571150095 : Int64) = lN 1085102592571150095 := rfl
theorem x_8 {n : Nat} (hn : n < 18446744073709551616) : (n / 2 &&& 6148914691236517205) ≤ n ∧ x2 8 n < 18446744073709551616 ∧ x2 8 n + x2 8 n / 16 < 18446744073709551616 ∧ x3 8 n = dg 8 n := by
  have h := x_all 8 n (by rw [show (256 : Nat) ^ 8 = 18446744073709551616 from by decide +kernel]; exact hn)
  rw [show (256 : Nat) ^ 8 = 18446744073709551616 from by decide +kernel, m85_8] at h
  exact ⟨h.1, h.2.1, h.2.2.1, h.2.2.2.2⟩
theorem sum_8 {p0 p1 p2 p3 p4 p5 p6 p7 d m1 m2 m3 : Nat} (hb : p0 ≤ 8 ∧ p1 ≤ 8 ∧ p2 ≤ 8 ∧ p3 ≤ 8 ∧ p4 ≤ 8 ∧ p5 ≤ 8 ∧ p6 ≤ 8 ∧ p7 ≤ 8) (hd : d = p0 + 256 * (p1 + 256 * (p2 + 256 * (p3 + 256 * (p4 + 256 * (p5 + 256 * (p6 + 256 * p7))))))) (hm1 : m1 = d + d / 256) (hm2 : m2 = m1 + m1 / 65536) (hm3 : m3 = m2 + m2 / 4294967296) : m1 < 18446744073709551616 ∧ m2 < 18446744073709551616 ∧ m3 % 128 = p0 + p1 + p2 + p3 + p4 + p5 + p6 + p7 := by
  have a1 : d / 256 = p1 + 256 * (p2 + 256 * (p3 + 256 * (p4 + 256 * (p5 + 256 * (p6 + 256 * p7))))) := by omega
  have a2 : m1 / 65536 = (p2 + p3) + 256 * ((p3 + p4) + 256 * ((p4 + p5) + 256 * ((p5 + p6) + 256 * ((p6 + p7) + 256 * p7)))) := by
    rw [hm1, a1, hd]; clear hm1 hm2 hm3 a1 hd; omega
  have a3 : m2 = (p0 + p1 + p2 + p3) + 256 * ((p1 + p2 + p3 + p4) + 256 * ((p2 + p3 + p4 + p5) + 256 * (p3 + p4 + p5 + p6))) + 4294967296 * ((p4 + p5 + p6 + p7) + 256 * ((p5 + p6 + p7) + 256 * ((p6 + p7) + 256 * p7))) := by
    rw [hm2, a2, hm1, a1, hd]; clear hm1 hm2 hm3 a1 a2 hd; omega
  have a4 : m2 / 4294967296 = (p4 + p5 + p6 + p7) + 256 * ((p5 + p6 + p7) + 256 * ((p6 + p7) + 256 * p7)) := by
    rw [a3]; clear hm1 hm2 hm3 a1 a2 a3 hd; omega
  refine ⟨?_, ?_, ?_⟩
  · rw [hm1, a1, hd]; clear hm1 hm2 hm3 a1 a2 a3 a4 hd; omega
  · rw [a3]; clear hm1 hm2 hm3 a1 a2 a3 a4 hd; omega
  · rw [hm3, a4, a3]; clear hm1 hm2 hm3 a1 a2 a3 a4 hd; omega
theorem and127 (m : Nat) : nI m &&& 127 = nI (m % 128) := by
  have e1 : nI m &&& 127 = nI ((nI m).toBitVec.toNat % 2 ^ 7) := pk_and _ 7 (by decide)
  have e2 : (nI m).toBitVec.toNat = m % 2 ^ 32 := by show (BitVec.ofNat 32 m).toNat = _; rw [BitVec.toNat_ofNat]
  rw [e2] at e1
  rw [show m % 128 = m % 2 ^ 32 % 2 ^ 7 by omega]
  exact e1
theorem bc_long {p v7 v8 v14 v21 v22 v28 v32 v39 v46 v53 : Int64} {r : Int32}
    (e7 : v7 = (p.toUInt64 >>> ((1 : Int32).toInt64.toUInt64 &&& Int64.toUInt64 63)).toInt64 &&& (6148914691236517205 : Int64)) (e8 : v8 = p - v7)
    (e14 : v14 = v8 &&& (3689348814741910323 : Int64)) (e21 : v21 = (v8.toUInt64 >>> ((2 : Int32).toInt64.toUInt64 &&& Int64.toUInt64 63)).toInt64 &&& (3689348814741910323 : Int64)) (e22 : v22 = v14 + v21)
    (e28 : v28 = v22 + (v22.toUInt64 >>> ((4 : Int32).toInt64.toUInt64 &&& Int64.toUInt64 63)).toInt64) (e32 : v32 = v28 &&& (1085102592571150095 : Int64))
    (e39 : v39 = v32 + (v32.toUInt64 >>> ((8 : Int32).toInt64.toUInt64 &&& Int64.toUInt64 63)).toInt64) (e46 : v46 = v39 + (v39.toUInt64 >>> ((16 : Int32).toInt64.toUInt64 &&& Int64.toUInt64 63)).toInt64)
    (e53 : v53 = v46 + (v46.toUInt64 >>> ((32 : Int32).toInt64.toUInt64 &&& Int64.toUInt64 63)).toInt64) (er : r = v53.toInt32 &&& 127) : r = nI (bs (lb p) 64) := by
  obtain ⟨n, hn⟩ : ∃ n, n = p.toBitVec.toNat := ⟨_, rfl⟩
  have hp : p = lN n := by rw [hn]; exact y_of p
  have hlt : n < 2 ^ 64 := by rw [hn]; exact p.toBitVec.isLt
  obtain ⟨a1, a2, a3, a5⟩ := x_8 (n := n) (by omega)
  have f7 : v7 = lN (n / 2 &&& 6148914691236517205) := by
    rw [e7, hp, show (1 : Int32) = nI 1 from rfl, y_shr 1 hlt (by decide), k85, Nat.pow_one]
    exact y_and (by omega) (by omega)
  have f8 : v8 = lN (x1 8 n) := by rw [e8, f7, hp, lN_sub a1]; unfold x1; rw [m85_8]
  have b1 : x1 8 n < 2 ^ 64 := Nat.lt_of_le_of_lt (Nat.sub_le _ _) hlt
  have f14 : v14 = lN (x1 8 n &&& m51 8) := by rw [e14, f8, k51, m51_8]; exact y_and b1 (by omega)
  have f21 : v21 = lN (x1 8 n / 4 &&& m51 8) := by
    rw [e21, f8, show (2 : Int32) = nI 2 from rfl, y_shr 2 b1 (by decide), k51, m51_8]
    exact y_and (Nat.lt_of_le_of_lt (Nat.div_le_self _ _) b1) (by omega)
  have f22 : v22 = lN (x2 8 n) := by rw [e22, f14, f21]; exact lN_add _ _
  have b2 : x2 8 n < 2 ^ 64 := a2
  have f28 : v28 = lN (x2 8 n + x2 8 n / 16) := by rw [e28, f22, show (4 : Int32) = nI 4 from rfl, y_shr 4 b2 (by decide)]; exact lN_add _ _
  have f32 : v32 = lN (dg 8 n) := by
    rw [e32, f28, k15, ← a5]
    unfold x3
    rw [m15_8]
    exact y_and a3 (by omega)
  obtain ⟨p0, p1, p2, p3, p4, p5, p6, p7, hb, hd, hs⟩ := dg8 n
  generalize dg 8 n = d at *
  obtain ⟨m1, hm1⟩ : ∃ z, z = d + d / 256 := ⟨_, rfl⟩
  obtain ⟨m2, hm2⟩ : ∃ z, z = m1 + m1 / 65536 := ⟨_, rfl⟩
  obtain ⟨m3, hm3⟩ : ∃ z, z = m2 + m2 / 4294967296 := ⟨_, rfl⟩
  obtain ⟨c2, c3, hmod⟩ := sum_8 hb hd hm1 hm2 hm3
  have c1 : d < 18446744073709551616 := by omega
  have f39 : v39 = lN m1 := by rw [e39, f32, show (8 : Int32) = nI 8 from rfl, y_shr 8 c1 (by decide), hm1]; exact lN_add _ _
  have f46 : v46 = lN m2 := by rw [e46, f39, show (16 : Int32) = nI 16 from rfl, y_shr 16 c2 (by decide), hm2]; exact lN_add _ _
  have f53 : v53 = lN m3 := by rw [e53, f46, show (32 : Int32) = nI 32 from rfl, y_shr 32 c3 (by decide), hm3]; exact lN_add _ _
  rw [er, f53, lN_i, and127, hmod, ← hs]
  congr 1
  apply bs_cg
  intro i _
  rw [lb_tb, hn]

theorem bs_z {f : Nat → Bool} {k : Nat} (h : ∀ i, i < k → f i = false) : bs f k = 0 := by
  induction k with
  | zero => rfl
  | succ k ih => simp only [bs]; rw [ih (fun i hi => h i (by omega)), h k (by omega)]; rfl
def shN (w h : Nat) (p : Int64) (way line : Nat) : Nat := bs (fun s => decide (lnT h way (s % w) (s / w) = line) && lb p s) (w * h)
theorem lb_bLN {w h way line s : Nat} (hb : 1 ≤ w ∧ w ≤ 6 ∧ 1 ≤ h ∧ h ≤ 6) (hw : way < 4) (hl : line < 11) (hs : s < 64) : ∀ n, n ≤ 4 * (w * h) → lb (bLN w h n (way * 11 + line)) s = decide (4 * s + way < n ∧ lnT h way (s % w) (s / w) = line) := by
  have h36 : w * h ≤ 6 * 6 := Nat.mul_le_mul (by omega) (by omega)
  intro n
  induction n with
  | zero =>
    intro _
    show lb (0 : Int64) s = _
    rw [lb_0, decide_eq_false (by omega)]
  | succ n ih =>
    intro hn
    have i1 := ih (by omega)
    have hxy : n / 4 < w * h := by omega
    have hx : n / 4 % w < w := Nat.mod_lt _ (by omega)
    have hy : n / 4 / w < h := Nat.div_lt_of_lt_mul hxy
    have hL := lnT_b (way := n % 4) hb hx hy
    simp only [bLN, vp_updL]
    by_cases e : way * 11 + line = n % 4 * 11 + lnT h (n % 4) (n / 4 % w) (n / 4 / w)
    · rw [if_pos e, ← e, lb_or, i1, lb_l1 (by omega) hs]
      have ew : n % 4 = way := by omega
      have el : lnT h (n % 4) (n / 4 % w) (n / 4 / w) = line := by omega
      by_cases es : s = n / 4
      · rw [decide_eq_true es, Bool.or_true]
        symm
        apply decide_eq_true
        refine ⟨by omega, ?_⟩
        rw [es, ← ew]
        exact el
      · rw [decide_eq_false es, Bool.or_false]
        apply decide_eq_decide.mpr
        constructor
        · rintro ⟨a, b⟩; exact ⟨by omega, b⟩
        · rintro ⟨a, b⟩; exact ⟨by omega, b⟩
    · rw [if_neg e, i1]
      apply decide_eq_decide.mpr
      constructor
      · rintro ⟨a, b⟩; exact ⟨by omega, b⟩
      · rintro ⟨a, b⟩
        refine ⟨?_, b⟩
        by_cases e2 : 4 * s + way = n
        · exfalso
          apply e
          have e3 : n % 4 = way := by omega
          have e4 : n / 4 = s := by omega
          rw [e3, e4, b]
        · omega
theorem sh_cls {w h way line : Nat} (hb : 1 ≤ w ∧ w ≤ 6 ∧ 1 ≤ h ∧ h ≤ 6) (hw : way < 4) (hl : line < 11) (p : Int64) : bs (lb (p &&& bLn w h (way * 11 + line))) 64 = shN w h p way line := by
  have h36 : w * h ≤ 6 * 6 := Nat.mul_le_mul (by omega) (by omega)
  have h1 : ∀ s, s < 64 → lb (p &&& bLn w h (way * 11 + line)) s = (lb p s && decide (4 * s + way < 4 * (w * h) ∧ lnT h way (s % w) (s / w) = line)) := fun s hs => by
    rw [lb_and]
    unfold bLn
    rw [lb_bLN hb hw hl hs _ (Nat.le_refl _)]
  rw [bs_cg h1, show (64 : Nat) = w * h + (64 - w * h) by omega, bs_add, bs_z (k := 64 - w * h) (fun i hi => by rw [decide_eq_false (by omega), Bool.and_false]), Nat.add_zero]
  unfold shN
  apply bs_cg
  intro s hs
  rw [Bool.and_comm]
  congr 1
  apply decide_eq_decide.mpr
  exact ⟨fun z => z.2, fun z => ⟨by omega, z⟩⟩
def lnC (w h way : Nat) : Nat := if way = 0 then h else if way = 1 then w else w + h - 1
theorem lnC_b {w h : Nat} (hb : 1 ≤ w ∧ w ≤ 6 ∧ 1 ≤ h ∧ h ≤ 6) (way : Nat) : lnC w h way ≤ 11 := by
  unfold lnC
  split
  · omega
  · split <;> omega
theorem cLn {w h : Nat} (hb : 1 ≤ w ∧ w ≤ 6 ∧ 1 ≤ h ∧ h ≤ 6) {way : Int32} (hw : 0 ≤ way.toInt) : (cLines w h way).toInt = (lnC w h way.toNatClampNeg : Int) := by
  have e := m_cl (x := way) hw
  unfold cLines lnC
  by_cases h0 : way.toInt = 0
  · have n0 : way.toNatClampNeg = 0 := by omega
    rw [if_pos h0, if_pos n0]; exact nI_toInt (by omega)
  · have n0 : ¬ way.toNatClampNeg = 0 := by omega
    rw [if_neg h0, if_neg n0]
    by_cases h1 : way.toInt = 1
    · have n1 : way.toNatClampNeg = 1 := by omega
      rw [if_pos h1, if_pos n1]; exact nI_toInt (by omega)
    · have n1 : ¬ way.toNatClampNeg = 1 := by omega
      rw [if_neg h1, if_neg n1]; exact nI_toInt (by omega)
theorem way_is {way : Int32} (h0 : 0 ≤ way.toInt) {c : Int32} {k : Nat} (hc : c.toInt = (k : Int)) : way = c ↔ way.toNatClampNeg = k := by
  have e := m_cl (x := way) h0
  constructor
  · intro z; subst z; omega
  · intro z; exact Int32.toInt_inj.mp (by omega)
theorem rLn {w h : Int32} (hw : 1 ≤ w.toInt ∧ w.toInt ≤ 6) (hh : 1 ≤ h.toInt ∧ h.toInt ≤ 6) {way : Int32} (h0 : 0 ≤ way.toInt) : (r_lines w h way).toInt = (lnC w.toNatClampNeg h.toNatClampNeg way.toNatClampNeg : Int) := by
  have e1 := m_cl (x := w) (by omega)
  have e2 := m_cl (x := h) (by omega)
  have k1 : (1 : Int32).toInt = 1 := rfl
  have a1 : (w + h).toInt = w.toInt + h.toInt := fb_addI (by omega) (by omega)
  have a2 : (w + h - 1).toInt = w.toInt + h.toInt - 1 := by rw [fb_subI (by omega) (by omega), a1]; rfl
  have w0 := way_is h0 (c := 0) (k := 0) rfl
  have w1 := way_is h0 (c := 1) (k := 1) rfl
  unfold r_lines lnC
  by_cases c0 : way = 0
  · rw [if_pos c0, if_pos (w0.mp c0)]; omega
  · have n0 : ¬ way.toNatClampNeg = 0 := fun z => c0 (w0.mpr z)
    rw [if_neg c0, if_neg n0]
    by_cases c1 : way = 1
    · rw [if_pos c1, if_pos (w1.mp c1)]; omega
    · have n1 : ¬ way.toNatClampNeg = 1 := fun z => c1 (w1.mpr z)
      rw [if_neg c1, if_neg n1]; omega
theorem r_lineN {b x y : Nat} {way : Int32} (hw : 0 ≤ way.toInt ∧ way.toInt ≤ 3) (hb : b ≤ 6) (hx : x < 6) (hy : y < b) : r_line (nI b) way (nI x) (nI y) = nI (lnT b way.toNatClampNeg x y) := by
  have w0 := way_is hw.1 (c := 0) (k := 0) rfl
  have w1 := way_is hw.1 (c := 1) (k := 1) rfl
  have w2 := way_is hw.1 (c := 2) (k := 2) rfl
  have k1 : (1 : Int32).toInt = 1 := rfl
  unfold r_line lnT
  by_cases c0 : way = 0
  · rw [if_pos c0, if_pos (w0.mp c0)]
  · have n0 : ¬ way.toNatClampNeg = 0 := fun z => c0 (w0.mpr z)
    rw [if_neg c0, if_neg n0]
    by_cases c1 : way = 1
    · rw [if_pos c1, if_pos (w1.mp c1)]
    · have n1 : ¬ way.toNatClampNeg = 1 := fun z => c1 (w1.mpr z)
      rw [if_neg c1, if_neg n1]
      by_cases c2 : way = 2
      · rw [if_pos c2, if_pos (w2.mp c2)]
        have a1 : (nI x - nI y).toInt = (x : Int) - y := pk_sub_toInt (by omega) (by omega)
        have ab : (nI b).toInt = (b : Int) := nI_toInt (by omega)
        have a2 : (nI x - nI y + nI b).toInt = (x : Int) - y + b := by rw [fb_addI (by omega) (by omega), a1, ab]
        apply Int32.toInt_inj.mp
        rw [fb_subI (by omega) (by omega), a2, nI_toInt (by omega)]
        omega
      · have n2 : ¬ way.toNatClampNeg = 2 := fun z => c2 (w2.mpr z)
        rw [if_neg c2, if_neg n2]
        exact nI_add _ _
theorem r_shN {w h way line : Int32} {p : Int64} (hw : 1 ≤ w.toInt ∧ w.toInt ≤ 6) (hh : 1 ≤ h.toInt ∧ h.toInt ≤ 6) (hy : 0 ≤ way.toInt ∧ way.toInt ≤ 3) (hl : 0 ≤ line.toInt) : ∀ n, n ≤ w.toNatClampNeg * h.toNatClampNeg → r_sh w h p way line n = nI (bs (fun s => decide (lnT h.toNatClampNeg way.toNatClampNeg (s % w.toNatClampNeg) (s / w.toNatClampNeg) = line.toNatClampNeg) && lb p s) n) := by
  obtain ⟨ha, hb, h36, -⟩ := wh36 hw hh
  have ew := cl_nI (w := w) (by omega)
  have eh := cl_nI (w := h) (by omega)
  have el := cl_nI (w := line) hl
  generalize w.toNatClampNeg = a at *
  generalize h.toNatClampNeg = b at *
  subst ew
  subst eh
  intro n
  induction n with
  | zero => intro _; rfl
  | succ n ih =>
    intro hn
    have hx : n % a < a := Nat.mod_lt _ (by omega)
    have hd : n / a < b := Nat.div_lt_of_lt_mul (by omega)
    have hT : lnT b way.toNatClampNeg (n % a) (n / a) < 11 := lnT_b (w := a) ⟨by omega, by omega, by omega, by omega⟩ hx hd
    have hcl : line.toNatClampNeg < 2 ^ 31 := by
      have := m_cl (x := line) hl
      have := Int32.toInt_lt line
      omega
    simp only [r_sh, bs]
    rw [ih (by omega), pk_rem (by omega) (by omega) (by omega), pk_div (by omega) (by omega) (by omega), r_lineN hy (by omega) (by omega) hd]
    by_cases c : lnT b way.toNatClampNeg (n % a) (n / a) = line.toNatClampNeg
    · rw [if_pos (by rw [c]; exact el), decide_eq_true c, Bool.true_and, one_lb p (by omega)]
      cases lb p n
      · exact nI_add _ 0
      · exact nI_1 _
    · rw [if_neg (fun z => c ((nI_eq (by omega) hcl).mp (z.trans el.symm))), decide_eq_false c, Bool.false_and]
      exact nI_add _ 0
theorem r_shS {w h way line : Int32} {p : Int64} (hw : 1 ≤ w.toInt ∧ w.toInt ≤ 6) (hh : 1 ≤ h.toInt ∧ h.toInt ≤ 6) (hy : 0 ≤ way.toInt ∧ way.toInt ≤ 3) (hl : 0 ≤ line.toInt) {r : Int32} (hr : r = r_sh w h p way line (w.toInt * h.toInt).toNat) : r = nI (shN w.toNatClampNeg h.toNatClampNeg p way.toNatClampNeg line.toNatClampNeg) := by
  obtain ⟨_, _, _, e⟩ := wh36 hw hh
  rw [hr, ← e, Int.toNat_natCast, r_shN hw hh hy hl _ (Nat.le_refl _)]
  rfl
def okL (w h : Nat) (way line : Int32) : Prop := (0 ≤ way.toInt ∧ way.toInt ≤ 3) ∧ 0 ≤ line.toInt ∧ line.toInt < (lnC w h way.toNatClampNeg : Int)
def shA (w h : Int32) (p : Int64) (way line : Int32) (x : Int32) : Prop := ((goodP w h p ∧ okL w.toNatClampNeg h.toNatClampNeg way line) ∧ x = nI (shN w.toNatClampNeg h.toNatClampNeg p way.toNatClampNeg line.toNatClampNeg)) ∨ (¬ (goodP w h p ∧ okL w.toNatClampNeg h.toNatClampNeg way line) ∧ x = -1)
theorem shA_eq {w h : Int32} {p : Int64} {way line x y : Int32} (hx : shA w h p way line x) (hy : shA w h p way line y) : x = y := by
  rcases hx with ⟨a, c⟩ | ⟨a, c⟩ <;> rcases hy with ⟨d, f⟩ | ⟨d, f⟩
  · rw [c, f]
  · exact absurd a d
  · exact absurd d a
  · rw [c, f]
def alike (w h : Nat) (p q : Int64) (way : Nat) : Prop := ∀ l, l < lnC w h way → shN w h p way l = shN w h q way l
def unl (w h : Nat) (p q : Int64) (set : Int32) (k : Nat) : Prop := gB set k = 1 ∧ ¬ alike w h p q k
def fstW (P : Nat → Prop) (no x : Int32) : Prop := (∃ k, k < 4 ∧ x = nI k ∧ P k ∧ ∀ j, j < k → ¬ P j) ∨ (x = no ∧ ∀ j, j < 4 → ¬ P j)
theorem fstW_eq {P : Nat → Prop} {no x y : Int32} (hx : fstW P no x) (hy : fstW P no y) : x = y := by
  rcases hx with ⟨k, a, b, c, d⟩ | ⟨a, b⟩ <;> rcases hy with ⟨k2, a2, b2, c2, d2⟩ | ⟨a2, b2⟩
  · have e : k = k2 := by
      rcases Nat.lt_trichotomy k k2 with h | h | h
      · exact absurd c (d2 k h)
      · exact h
      · exact absurd c2 (d k2 h)
    rw [b, b2, e]
  · exact absurd c (b2 k a)
  · exact absurd c2 (b k2 a2)
  · rw [a, a2]
def paA (w h : Int32) (p q : Int64) (ways x : Int32) : Prop := ((goodP w h p ∧ goodP w h q ∧ 0 ≤ ways.toInt ∧ ways.toInt ≤ 15) ∧ fstW (unl w.toNatClampNeg h.toNatClampNeg p q ways) (-2) x) ∨ (¬ (goodP w h p ∧ goodP w h q ∧ 0 ≤ ways.toInt ∧ ways.toInt ≤ 15) ∧ x = -1)
theorem paA_eq {w h : Int32} {p q : Int64} {ways x y : Int32} (hx : paA w h p q ways x) (hy : paA w h p q ways y) : x = y := by
  rcases hx with ⟨a, c⟩ | ⟨a, c⟩ <;> rcases hy with ⟨d, f⟩ | ⟨d, f⟩
  · exact fstW_eq c f
  · exact absurd a d
  · exact absurd d a
  · rw [c, f]
set_option maxHeartbeats 4000000 in
set_option maxRecDepth 100000 in
theorem c_J13_x (l : Launch) (p0 : Int64)  : Pu l yJ13_bitCount_95d88 wsJ13_bitCount_95d88 ({ frames := 0, cells := 0, slots := 0, locals := 0 }) [.long p0] (fun r => r = nI (bs (lb p0) 64)) := by
  refine Met.ofW (cc := cJ13_bitCount_95d88) (maxL := 2) (ret := (some .int)) (by decide) rfl ?_
  intro p e s m args below meth c s₁ B hml hv
  obtain ⟨rfl, -⟩ := hv
  have hx := B.exec
  have hb := B.bytes
  have hr := B.returns
  have hts := atoms_spec (ws := wsJ13_bitCount_95d88) B.pre
  have hown : s.vm.findClass RJ13 = some m.cls := findClass_of_methodNamed B.named
  have hlocks := B.notSynchronized
  have hS : va_S (fun _ => False) s.heap s.heap [] := va_S.rf
  have hl := lv_entry ([.long p0]) (n := 2) (Nat.le_of_ble_eq_true rfl)
  rw [lg_entry_eq]
  generalize (lg_sl ([.long p0]) ++ List.replicate (2 - (lg_sl ([.long p0])).length) Slot.unset).toArray = ls at hl ⊢
  have hl : lv_has ls 2 [(0, .long p0)] := hl
  have hS0 := hS
  have k_0 : (0 : Int32).toInt = 0 := by decide
  have k_1 : (1 : Int32).toInt = 1 := by decide
  have k_2 : (2 : Int32).toInt = 2 := by decide
  have k_4 : (4 : Int32).toInt = 4 := by decide
  have k_8 : (8 : Int32).toInt = 8 := by decide
  have k_16 : (16 : Int32).toInt = 16 := by decide
  have k_32 : (32 : Int32).toInt = 32 := by decide
  have k_127 : (127 : Int32).toInt = 127 := by decide
  have k_1085102592571150095L : (1085102592571150095 : Int64).toInt = 1085102592571150095 := by decide
  have k_3689348814741910323L : (3689348814741910323 : Int64).toInt = 3689348814741910323 := by decide
  have k_6148914691236517205L : (6148914691236517205 : Int64).toInt = 6148914691236517205 := by decide
  refine lv_lload_n hx hb dJ13_bitCount_95d88_0 rfl (lv_at hl 0 rfl) ?_
  refine lv_lload_n hx hb dJ13_bitCount_95d88_1 rfl (lv_at hl 0 rfl) ?_
  refine lv_iconst (v := 1) hx hb dJ13_bitCount_95d88_2 (by decide) ?_
  refine lv_lushr (v := (p0.toUInt64 >>> ((1 : Int32).toInt64.toUInt64 &&& Int64.toUInt64 63)).toInt64) hx hb dJ13_bitCount_95d88_3 rfl ?_
  refine lv_ldc2 hx hb hown (hts (.constantLong RJ13 314 (6148914691236517205)) (by decide +kernel)) dJ13_bitCount_95d88_4 ?_
  refine lv_land hx hb dJ13_bitCount_95d88_7 ?_
  refine lv_topl (fun v7 e7 => ?_)
  refine lv_lsub hx hb dJ13_bitCount_95d88_8 ?_
  refine lv_topl (fun v8 e8 => ?_)
  refine lv_lstore_n (lv' := [(0, .long v8)]) hx hb dJ13_bitCount_95d88_9 rfl hl (by decide) rfl (fun ls hl => ?_)
  refine lv_lload_n hx hb dJ13_bitCount_95d88_10 rfl (lv_at hl 0 rfl) ?_
  refine lv_ldc2 hx hb hown (hts (.constantLong RJ13 316 (3689348814741910323)) (by decide +kernel)) dJ13_bitCount_95d88_11 ?_
  refine lv_land hx hb dJ13_bitCount_95d88_14 ?_
  refine lv_topl (fun v14 e14 => ?_)
  refine lv_lload_n hx hb dJ13_bitCount_95d88_15 rfl (lv_at hl 0 rfl) ?_
  refine lv_iconst (v := 2) hx hb dJ13_bitCount_95d88_16 (by decide) ?_
  refine lv_lushr (v := (v8.toUInt64 >>> ((2 : Int32).toInt64.toUInt64 &&& Int64.toUInt64 63)).toInt64) hx hb dJ13_bitCount_95d88_17 rfl ?_
  refine lv_ldc2 hx hb hown (hts (.constantLong RJ13 316 (3689348814741910323)) (by decide +kernel)) dJ13_bitCount_95d88_18 ?_
  refine lv_land hx hb dJ13_bitCount_95d88_21 ?_
  refine lv_topl (fun v21 e21 => ?_)
  refine lv_ladd hx hb dJ13_bitCount_95d88_22 ?_
  refine lv_topl (fun v22 e22 => ?_)
  refine lv_lstore_n (lv' := [(0, .long v22)]) hx hb dJ13_bitCount_95d88_23 rfl hl (by decide) rfl (fun ls hl => ?_)
  refine lv_lload_n hx hb dJ13_bitCount_95d88_24 rfl (lv_at hl 0 rfl) ?_
  refine lv_lload_n hx hb dJ13_bitCount_95d88_25 rfl (lv_at hl 0 rfl) ?_
  refine lv_iconst (v := 4) hx hb dJ13_bitCount_95d88_26 (by decide) ?_
  refine lv_lushr (v := (v22.toUInt64 >>> ((4 : Int32).toInt64.toUInt64 &&& Int64.toUInt64 63)).toInt64) hx hb dJ13_bitCount_95d88_27 rfl ?_
  refine lv_ladd hx hb dJ13_bitCount_95d88_28 ?_
  refine lv_topl (fun v28 e28 => ?_)
  refine lv_ldc2 hx hb hown (hts (.constantLong RJ13 318 (1085102592571150095)) (by decide +kernel)) dJ13_bitCount_95d88_29 ?_
  refine lv_land hx hb dJ13_bitCount_95d88_32 ?_
  refine lv_topl (fun v32 e32 => ?_)
  refine lv_lstore_n (lv' := [(0, .long v32)]) hx hb dJ13_bitCount_95d88_33 rfl hl (by decide) rfl (fun ls hl => ?_)
  refine lv_lload_n hx hb dJ13_bitCount_95d88_34 rfl (lv_at hl 0 rfl) ?_
  refine lv_lload_n hx hb dJ13_bitCount_95d88_35 rfl (lv_at hl 0 rfl) ?_
  refine lv_bipush (v := 8) hx hb dJ13_bitCount_95d88_36 (by decide) ?_
  refine lv_lushr (v := (v32.toUInt64 >>> ((8 : Int32).toInt64.toUInt64 &&& Int64.toUInt64 63)).toInt64) hx hb dJ13_bitCount_95d88_38 rfl ?_
  refine lv_ladd hx hb dJ13_bitCount_95d88_39 ?_
  refine lv_topl (fun v39 e39 => ?_)
  refine lv_lstore_n (lv' := [(0, .long v39)]) hx hb dJ13_bitCount_95d88_40 rfl hl (by decide) rfl (fun ls hl => ?_)
  refine lv_lload_n hx hb dJ13_bitCount_95d88_41 rfl (lv_at hl 0 rfl) ?_
  refine lv_lload_n hx hb dJ13_bitCount_95d88_42 rfl (lv_at hl 0 rfl) ?_
  refine lv_bipush (v := 16) hx hb dJ13_bitCount_95d88_43 (by decide) ?_
  refine lv_lushr (v := (v39.toUInt64 >>> ((16 : Int32).toInt64.toUInt64 &&& Int64.toUInt64 63)).toInt64) hx hb dJ13_bitCount_95d88_45 rfl ?_
  refine lv_ladd hx hb dJ13_bitCount_95d88_46 ?_
  refine lv_topl (fun v46 e46 => ?_)
  refine lv_lstore_n (lv' := [(0, .long v46)]) hx hb dJ13_bitCount_95d88_47 rfl hl (by decide) rfl (fun ls hl => ?_)
  refine lv_lload_n hx hb dJ13_bitCount_95d88_48 rfl (lv_at hl 0 rfl) ?_
  refine lv_lload_n hx hb dJ13_bitCount_95d88_49 rfl (lv_at hl 0 rfl) ?_
  refine lv_bipush (v := 32) hx hb dJ13_bitCount_95d88_50 (by decide) ?_
  refine lv_lushr (v := (v46.toUInt64 >>> ((32 : Int32).toInt64.toUInt64 &&& Int64.toUInt64 63)).toInt64) hx hb dJ13_bitCount_95d88_52 rfl ?_
  refine lv_ladd hx hb dJ13_bitCount_95d88_53 ?_
  refine lv_topl (fun v53 e53 => ?_)
  refine lv_lstore_n (lv' := [(0, .long v53)]) hx hb dJ13_bitCount_95d88_54 rfl hl (by decide) rfl (fun ls hl => ?_)
  refine lv_lload_n hx hb dJ13_bitCount_95d88_55 rfl (lv_at hl 0 rfl) ?_
  refine lv_l2i (v := v53.toInt32) hx hb dJ13_bitCount_95d88_56 rfl ?_
  refine lv_bipush (v := 127) hx hb dJ13_bitCount_95d88_57 (by decide) ?_
  refine lv_iand hx hb dJ13_bitCount_95d88_59 ?_
  refine lv_topi (fun v59 e59 => ?_)
  exact W.iret (v := v59) hx hb hr (fun t ht hW => ⟨⟨_, (), rfl, (bc_long e7 e8 e14 e21 e22 e28 e32 e39 e46 e53 e59), trivial⟩, hS.F ht⟩) hS.2.2 dJ13_bitCount_95d88_60
set_option maxHeartbeats 4000000 in
set_option maxRecDepth 100000 in
theorem c_X0_onesOfLine_x (l : Launch) (D : va_G) (cy : Nat → ClassId) (A : Nat → Prop) (G : cG) (ws : va_W) (o : Nat) (way : Int32) (line : Int32) (p0 : Int64) {w h : Nat} (hD : va_D A ws) (hT : cT cy G ws) (hG_o : G o = some (2, w, h)) (hw1 : 0 ≤ way.toInt ∧ way.toInt ≤ 3) (hl1 : 0 ≤ line.toInt ∧ line.toInt < 11) : Ci l D cy A yX0_onesOfLine wsX0_onesOfLine ({ frames := 1, cells := 0, slots := 0, locals := 21 }) 0 0 ws [.ref o, .int way, .int line, .long p0] (fun r0 u => u = (G, ws) ∧ (r0 = nI (shN w h p0 way.toNatClampNeg line.toNatClampNeg))) := by
  refine Met.ofW (cc := cX0_onesOfLine) (maxL := 6) (ret := (some .int)) (by decide) rfl ?_
  intro p e s m args below meth c s₁ B hml hv
  obtain ⟨rfl, hP, hK, hA, hV⟩ := hv
  have hx := B.exec
  have hb := B.bytes
  have hr := B.returns
  have hts := atoms_spec (ws := wsX0_onesOfLine) B.pre
  have hown : s.vm.findClass RX0 = some m.cls := findClass_of_methodNamed B.named
  have hlocks := B.notSynchronized
  have hS : va_S A s.heap s.heap [] := va_S.rf
  have hl := lv_entry ([.ref o, .int way, .int line, .long p0]) (n := 6) (Nat.le_of_ble_eq_true rfl)
  rw [lg_entry_eq]
  generalize (lg_sl ([.ref o, .int way, .int line, .long p0]) ++ List.replicate (6 - (lg_sl ([.ref o, .int way, .int line, .long p0])).length) Slot.unset).toArray = ls at hl ⊢
  have hl : lv_has ls 6 [(0, .ref o), (1, .int way), (2, .int line), (3, .long p0)] := hl
  have k_0 : (0 : Int32).toInt = 0 := by decide
  have k_11 : (11 : Int32).toInt = 11 := by decide
  have hb9 := c_hb hT hG_o
  refine lv_iload_n hx hb dX0_onesOfLine_0 rfl (lv_at hl 1 rfl) ?_
  refine lv_bipush (v := 11) hx hb dX0_onesOfLine_1 (by decide) ?_
  refine lv_imul hx hb dX0_onesOfLine_3 ?_
  refine lv_topi (fun v3 e3 => ?_)
  have i3 : v3.toInt = way.toInt * 11 := by rw [e3]; exact mulcR rfl (by omega) (by omega)
  refine lv_iload_n hx hb dX0_onesOfLine_4 rfl (lv_at hl 2 rfl) ?_
  refine lv_iadd hx hb dX0_onesOfLine_5 ?_
  refine lv_topi (fun v5 e5 => ?_)
  have i5 : v5.toInt = v3.toInt + line.toInt := by rw [e5]; exact fb_addI (by omega) (by omega)
  refine lv_istore (lv' := [(5, .int v5), (0, .ref o), (1, .int way), (2, .int line), (3, .long p0)]) hx hb dX0_onesOfLine_6 hl (by decide) rfl (fun ls hl => ?_)
  have cw := m_cl (x := way) hw1.1
  have cl := m_cl (x := line) hl1.1
  have cp := m_cl (x := v5) (by omega)
  have f5 : v5.toNatClampNeg = way.toNatClampNeg * 11 + line.toNatClampNeg := by omega
  refine lv_iload hx hb dX0_onesOfLine_8 (lv_at hl 0 rfl) ?_
  refine lv_if_lt (tgt := 38) hx hb dX0_onesOfLine_10 (by decide) (fun c10 => ?_) (fun c10 => ?_)
  · skip
    have d10 := c10
    rw [fa_lt] at d10
    refine lv_iconst (v := 0) hx hb dX0_onesOfLine_38 (by decide) ?_
    exact W.iret (v := (0 : Int32)) hx hb hr (fun t ht hW => ⟨⟨_, (G, ws), rfl, ⟨rfl, (by exfalso; omega)⟩, by show va_P D vwCl ws t.heap; rw [ht]; exact hP, hD, hT⟩, hS.F ht⟩) hS.2.2 dX0_onesOfLine_39
  · skip
    have d10 := c10
    rw [fa_lt] at d10
    refine lv_iload hx hb dX0_onesOfLine_13 (lv_at hl 0 rfl) ?_
    refine lv_aload_n hx hb dX0_onesOfLine_15 rfl (lv_at hl 1 rfl) ?_
    obtain ⟨_, hM_o, hb_o, l_o, f_o, r_o, rfl, hG_l_o, hG_f_o, hG_r_o⟩ := hT _ _ hG_o
    refine t_get (v := .ref l_o) (C := RX0) (T := TX0) (N := 8) hx hb hts (by decide +kernel) hown hK hP hM_o rfl 5 (by decide) (hts (.fieldLink RX0 9 "ShadowBench$Board" "lines" "[J") (by decide +kernel)) (fun _ h9 => h9) rfl dX0_onesOfLine_16 ?_
    refine t_alen11 hx hb hK hP hT hG_l_o dX0_onesOfLine_19 ?_
    have i19 : (nI 44).toInt = 44 := nI_toInt (by omega)
    refine lv_icmp_ge (tgt := 38) hx hb dX0_onesOfLine_20 (by decide) (fun c20 => ?_) (fun c20 => ?_)
    · skip
      have d20 := c20
      rw [fa_le] at d20
      refine lv_iconst (v := 0) hx hb dX0_onesOfLine_38 (by decide) ?_
      exact W.iret (v := (0 : Int32)) hx hb hr (fun t ht hW => ⟨⟨_, (G, ws), rfl, ⟨rfl, (by exfalso; omega)⟩, by show va_P D vwCl ws t.heap; rw [ht]; exact hP, hD, hT⟩, hS.F ht⟩) hS.2.2 dX0_onesOfLine_39
    · skip
      have d20 := c20
      rw [fa_le] at d20
      refine lv_lload_n hx hb dX0_onesOfLine_23 rfl (lv_at hl 4 rfl) ?_
      refine lv_aload_n hx hb dX0_onesOfLine_24 rfl (lv_at hl 1 rfl) ?_
      refine t_get (v := .ref l_o) (C := RX0) (T := TX0) (N := 8) hx hb hts (by decide +kernel) hown hK hP hM_o rfl 5 (by decide) (hts (.fieldLink RX0 9 "ShadowBench$Board" "lines" "[J") (by decide +kernel)) (fun _ h9 => h9) rfl dX0_onesOfLine_25 ?_
      refine lv_iload hx hb dX0_onesOfLine_28 (lv_at hl 0 rfl) ?_
      refine t_lald11 hx hb hK hP hT hG_l_o (vp_in_iff.mpr ⟨by omega, by omega⟩) dX0_onesOfLine_30 ?_
      refine lv_topl (fun v30 e30 => ?_)
      refine lv_land hx hb dX0_onesOfLine_31 ?_
      refine lv_topl (fun v31 e31 => ?_)
      refine t_pu (As := [.long v31]) (rest := []) ⟨hx, hb, hml, hown, hts⟩ (c_J13_x l v31 ) (va_cwS 1 hts gX0_onesOfLine_J13_bitCount_95d88 rfl rfl rfl (by decide +kernel) ⟨Nat.le_of_ble_eq_true rfl, Nat.le_of_ble_eq_true rfl⟩) hP rfl hl.1 rfl (Nat.le_of_ble_eq_true rfl) dX0_onesOfLine_32 ⟨Nat.le_of_ble_eq_true rfl, Nat.le_of_ble_eq_true rfl⟩ hS (fun r32 H locs q32 hP hS => ?_)
      refine lv_goto (tgt := 39) hx hb dX0_onesOfLine_35 (by decide) ?_
      exact W.iret (v := r32) hx hb hr (fun t ht hW => ⟨⟨_, (G, ws), rfl, ⟨rfl, (by rw [q32, e31, e30, f5, sh_cls hb9 (by omega) (by omega)])⟩, by show va_P D vwCl ws t.heap; rw [ht]; exact hP, hD, hT⟩, hS.F ht⟩) hS.2.2 dX0_onesOfLine_39
set_option maxHeartbeats 4000000 in
set_option maxRecDepth 100000 in
theorem c_X0_hasUnlikeLine_x (l : Launch) (D : va_G) (cy : Nat → ClassId) (A : Nat → Prop) (G : cG) (ws : va_W) (o : Nat) (p0 : Int64) (p1 : Int64) (way : Nat) {w h : Nat} (hD : va_D A ws) (hT : cT cy G ws) (hG_o : G o = some (2, w, h)) (hw1 : way < 4) : Ci l D cy A yX0_hasUnlikeLine wsX0_hasUnlikeLine ({ frames := 2, cells := 0, slots := 0, locals := 46 }) 0 0 ws [.ref o, .long p0, .long p1, .int (nI way)] (fun r0 u => u = (G, ws) ∧ (Bo r0 (¬ alike w h p0 p1 way))) := by
  refine Met.ofW (cc := cX0_hasUnlikeLine) (maxL := 7) (ret := (some .boolean)) (by decide) rfl ?_
  intro p e s m args below meth c s₁ B hml hv
  obtain ⟨rfl, hP, hK, hA, hV⟩ := hv
  have hx := B.exec
  have hb := B.bytes
  have hr := B.returns
  have hts := atoms_spec (ws := wsX0_hasUnlikeLine) B.pre
  have hown : s.vm.findClass RX0 = some m.cls := findClass_of_methodNamed B.named
  have hlocks := B.notSynchronized
  have hS : va_S A s.heap s.heap [] := va_S.rf
  have hl := lv_entry ([.ref o, .long p0, .long p1, .int (nI way)]) (n := 7) (Nat.le_of_ble_eq_true rfl)
  rw [lg_entry_eq]
  generalize (lg_sl ([.ref o, .long p0, .long p1, .int (nI way)]) ++ List.replicate (7 - (lg_sl ([.ref o, .long p0, .long p1, .int (nI way)])).length) Slot.unset).toArray = ls at hl ⊢
  have hl : lv_has ls 7 [(0, .ref o), (1, .long p0), (3, .long p1), (5, .int (nI way))] := hl
  have k_0 : (0 : Int32).toInt = 0 := by decide
  have k_1 : (1 : Int32).toInt = 1 := by decide
  have hb9 := c_hb hT hG_o
  have iw : (nI way).toInt = (way : Int) := nI_toInt (by omega)
  have cw : (nI way).toNatClampNeg = way := nI_clamp (by omega)
  have lb9 := lnC_b hb9 way
  refine lv_iconst (v := 0) hx hb dX0_hasUnlikeLine_0 (by decide) ?_
  refine lv_istore (lv' := [(6, .int (0 : Int32)), (0, .ref o), (1, .long p0), (3, .long p1), (5, .int (nI way))]) hx hb dX0_hasUnlikeLine_1 hl (by decide) rfl (fun ls hl => ?_)
  have loop_3 : ∀ (n : Nat) (k : Nat), (k ≤ 11) → (∀ l, l < k → shN w h p0 way l = shN w h p1 way l) → 11 - k < n → ∀ (H : Heap) (locs : List Loc), va_P D vwCl ws H → va_S A s.heap H locs → ∀ (ls : Array Slot), lv_has ls 7 [(6, .int (nI k)), (0, .ref o), (1, .long p0), (3, .long p1), (5, .int (nI way))] → W p l e (headSpec wsX0_hasUnlikeLine ({ frames := 2, cells := 0, slots := 0, locals := 46 })).room s m #[Value.ref o, Value.long p0, Value.long p1, Value.int (nI way)] below meth c H locs 0 0 (MQ below (va_Qi (fun r0 u => u = (G, ws) ∧ (Bo r0 (¬ alike w h p0 p1 way))) (cB D cy A) A) #[Value.ref o, Value.long p0, Value.long p1, Value.int (nI way)] s 0 0 A) (F0 m 3 ls []) := by
    intro n
    induction n with
    | zero => intro k j3_0 j3_1 hn; exact absurd hn (Nat.not_lt_zero _)
    | succ n ih_3 =>
      intro k j3_0 j3_1 hn_3 H locs hP hS  ls hl
      have ik : (nI k).toInt = (k : Int) := nI_toInt (by omega)
      refine lv_iload hx hb dX0_hasUnlikeLine_3 (lv_at hl 0 rfl) ?_
      refine lv_aload_n hx hb dX0_hasUnlikeLine_5 rfl (lv_at hl 1 rfl) ?_
      refine lv_iload hx hb dX0_hasUnlikeLine_6 (lv_at hl 4 rfl) ?_
      obtain ⟨_, hM_o, hb_o, l_o, f_o, r_o, rfl, hG_l_o, hG_f_o, hG_r_o⟩ := hT _ _ hG_o
      refine t_calli (va_runV (g := F0 m 8 ls ([.int (nI way), .ref o, .int (nI k)])) (As := [.int (nI way)]) (rest := [.int (nI k)]) ⟨hx, hb, hml, hown, hts⟩ (c_X0_lineCount l D cy A G ws o (nI way) hD hT hG_o ) (cwV 1 hts gX0_hasUnlikeLine_X0_lineCount rfl rfl rfl (by decide +kernel) ⟨Nat.le_of_ble_eq_true rfl, Nat.le_of_ble_eq_true rfl⟩) (c_preV hM_o rfl hP hK hA hS hV) rfl rfl hl.1 rfl (lv_room (Nat.le_of_ble_eq_true rfl)) dX0_hasUnlikeLine_8 ⟨Nat.le_of_ble_eq_true rfl, Nat.le_of_ble_eq_true rfl⟩) hS (fun r8 u H locs q8 hP9 hD9 hT9 hS => ?_)
      obtain ⟨rfl, q8⟩ := q8
      have hP : va_P D vwCl ws H := hP9
      have z8 : r8.toInt = (lnC w h way : Int) := by rw [q8, cLn hb9 (by omega), cw]
      refine lv_icmp_ge (tgt := 43) hx hb dX0_hasUnlikeLine_11 (by decide) (fun c11 => ?_) (fun c11 => ?_)
      · skip
        have d11 := c11
        rw [fa_le] at d11
        refine lv_iconst (v := 0) hx hb dX0_hasUnlikeLine_43 (by decide) ?_
        exact W.zret (v := (0 : Int32)) hx hb hr (by decide) (fun t ht hW => ⟨⟨_, (G, ws), rfl, ⟨rfl, Or.inr ⟨rfl, (fun z9 => z9 (fun l9 h9 => j3_1 l9 (by omega)))⟩⟩, by show va_P D vwCl ws t.heap; rw [ht]; exact hP, hD, hT⟩, hS.F ht⟩) hS.2.2 dX0_hasUnlikeLine_44
      · skip
        have d11 := c11
        rw [fa_le] at d11
        refine lv_aload_n hx hb dX0_hasUnlikeLine_14 rfl (lv_at hl 1 rfl) ?_
        refine lv_iload hx hb dX0_hasUnlikeLine_15 (lv_at hl 4 rfl) ?_
        refine lv_iload hx hb dX0_hasUnlikeLine_17 (lv_at hl 0 rfl) ?_
        refine lv_lload_n hx hb dX0_hasUnlikeLine_19 rfl (lv_at hl 2 rfl) ?_
        refine t_calli (va_runV (g := F0 m 20 ls ([.long p0, .int (nI k), .int (nI way), .ref o])) (As := [.int (nI way), .int (nI k), .long p0]) (rest := []) ⟨hx, hb, hml, hown, hts⟩ (c_X0_onesOfLine_x l D cy A G ws o (nI way) (nI k) p0 hD hT hG_o (by omega) (by omega)) (cwV 3 hts gX0_hasUnlikeLine_X0_onesOfLine rfl rfl rfl (by decide +kernel) ⟨Nat.le_of_ble_eq_true rfl, Nat.le_of_ble_eq_true rfl⟩) (c_preV hM_o rfl hP hK hA hS hV) rfl rfl hl.1 rfl (lv_room (Nat.le_of_ble_eq_true rfl)) dX0_hasUnlikeLine_20 ⟨Nat.le_of_ble_eq_true rfl, Nat.le_of_ble_eq_true rfl⟩) hS (fun r20 u H locs q20 hP9 hD9 hT9 hS => ?_)
        obtain ⟨rfl, q20⟩ := q20
        have hP : va_P D vwCl ws H := hP9
        refine lv_aload_n hx hb dX0_hasUnlikeLine_23 rfl (lv_at hl 1 rfl) ?_
        refine lv_iload hx hb dX0_hasUnlikeLine_24 (lv_at hl 4 rfl) ?_
        refine lv_iload hx hb dX0_hasUnlikeLine_26 (lv_at hl 0 rfl) ?_
        refine lv_lload_n hx hb dX0_hasUnlikeLine_28 rfl (lv_at hl 3 rfl) ?_
        refine t_calli (va_runV (g := F0 m 29 ls ([.long p1, .int (nI k), .int (nI way), .ref o, .int r20])) (As := [.int (nI way), .int (nI k), .long p1]) (rest := [.int r20]) ⟨hx, hb, hml, hown, hts⟩ (c_X0_onesOfLine_x l D cy A G ws o (nI way) (nI k) p1 hD hT hG_o (by omega) (by omega)) (cwV 3 hts gX0_hasUnlikeLine_X0_onesOfLine rfl rfl rfl (by decide +kernel) ⟨Nat.le_of_ble_eq_true rfl, Nat.le_of_ble_eq_true rfl⟩) (c_preV hM_o rfl hP hK hA hS hV) rfl rfl hl.1 rfl (lv_room (Nat.le_of_ble_eq_true rfl)) dX0_hasUnlikeLine_29 ⟨Nat.le_of_ble_eq_true rfl, Nat.le_of_ble_eq_true rfl⟩) hS (fun r29 u H locs q29 hP9 hD9 hT9 hS => ?_)
        obtain ⟨rfl, q29⟩ := q29
        have hP : va_P D vwCl ws H := hP9
        have ck9 : (nI k).toNatClampNeg = k := nI_clamp (by omega)
        rw [cw, ck9] at q20 q29
        have b20 := bs_le (fun s => decide (lnT h way (s % w) (s / w) = k) && lb p0 s) (w * h)
        have b29 := bs_le (fun s => decide (lnT h way (s % w) (s / w) = k) && lb p1 s) (w * h)
        have m9 := cb_mul hb9
        have eq9 : r20 = r29 ↔ shN w h p0 way k = shN w h p1 way k := by rw [q20, q29]; exact nI_eq (by unfold shN; omega) (by unfold shN; omega)
        refine lv_icmp_eq (tgt := 37) hx hb dX0_hasUnlikeLine_32 (by decide) (fun c32 => ?_) (fun c32 => ?_)
        · skip
          have d32 := c32
          rw [fa_eq] at d32
          refine lv_iinc (v := (nI (k + 1))) (lv' := [(6, .int (nI (k + 1))), (0, .ref o), (1, .long p0), (3, .long p1), (5, .int (nI way))]) hx hb dX0_hasUnlikeLine_37 hl (k := 0) rfl (nI_1 _) (by decide) rfl (fun ls hl => ?_)
          refine lv_goto (tgt := 3) hx hb dX0_hasUnlikeLine_40 (by decide) ?_
          exact ih_3 (k + 1) (by omega) (fun l hl => by
            by_cases e9 : l = k
            · rw [e9]; exact eq9.mp c32
            · exact j3_1 l (by omega)) (by omega) _ _ hP hS  ls (lv_sub hl [0, 1, 2, 3, 4] rfl)
        · skip
          have d32 := c32
          rw [fa_eq] at d32
          refine lv_iconst (v := 1) hx hb dX0_hasUnlikeLine_35 (by decide) ?_
          exact W.zret (v := (1 : Int32)) hx hb hr (by decide) (fun t ht hW => ⟨⟨_, (G, ws), rfl, ⟨rfl, Or.inl ⟨rfl, (fun z9 => c32 (eq9.mpr (z9 k (by omega))))⟩⟩, by show va_P D vwCl ws t.heap; rw [ht]; exact hP, hD, hT⟩, hS.F ht⟩) hS.2.2 dX0_hasUnlikeLine_36
  exact loop_3 (11 + 1) 0 (by omega) (fun l hl => absurd hl (Nat.not_lt_zero _)) (by omega) _ _ hP hS  ls (lv_sub hl [0, 1, 2, 3, 4] rfl)
set_option maxHeartbeats 4000000 in
set_option maxRecDepth 100000 in
theorem c_X0_firstUnlikeWay_x (l : Launch) (D : va_G) (cy : Nat → ClassId) (A : Nat → Prop) (G : cG) (ws : va_W) (o : Nat) (p0 : Int64) (p1 : Int64) (set : Int32) {w h : Nat} (hD : va_D A ws) (hT : cT cy G ws) (hG_o : G o = some (2, w, h))  : Ci l D cy A yX0_firstUnlikeWay wsX0_firstUnlikeWay ({ frames := 3, cells := 0, slots := 0, locals := 72 }) 0 0 ws [.ref o, .long p0, .long p1, .int set] (fun r0 u => u = (G, ws) ∧ (fstW (unl w h p0 p1 set) (-1) r0)) := by
  refine Met.ofW (cc := cX0_firstUnlikeWay) (maxL := 7) (ret := (some .int)) (by decide) rfl ?_
  intro p e s m args below meth c s₁ B hml hv
  obtain ⟨rfl, hP, hK, hA, hV⟩ := hv
  have hx := B.exec
  have hb := B.bytes
  have hr := B.returns
  have hts := atoms_spec (ws := wsX0_firstUnlikeWay) B.pre
  have hown : s.vm.findClass RX0 = some m.cls := findClass_of_methodNamed B.named
  have hlocks := B.notSynchronized
  have hS : va_S A s.heap s.heap [] := va_S.rf
  have hl := lv_entry ([.ref o, .long p0, .long p1, .int set]) (n := 7) (Nat.le_of_ble_eq_true rfl)
  rw [lg_entry_eq]
  generalize (lg_sl ([.ref o, .long p0, .long p1, .int set]) ++ List.replicate (7 - (lg_sl ([.ref o, .long p0, .long p1, .int set])).length) Slot.unset).toArray = ls at hl ⊢
  have hl : lv_has ls 7 [(0, .ref o), (1, .long p0), (3, .long p1), (5, .int set)] := hl
  have k_m1 : (-1 : Int32).toInt = -1 := by decide
  have k_0 : (0 : Int32).toInt = 0 := by decide
  have k_1 : (1 : Int32).toInt = 1 := by decide
  have k_4 : (4 : Int32).toInt = 4 := by decide
  refine lv_iconst (v := 0) hx hb dX0_firstUnlikeWay_0 (by decide) ?_
  refine lv_istore (lv' := [(6, .int (0 : Int32)), (0, .ref o), (1, .long p0), (3, .long p1), (5, .int set)]) hx hb dX0_firstUnlikeWay_1 hl (by decide) rfl (fun ls hl => ?_)
  have loop_3 : ∀ (n : Nat) (k : Nat), (k ≤ 4) → (∀ j, j < k → ¬ unl w h p0 p1 set j) → 4 - k < n → ∀ (H : Heap) (locs : List Loc), va_P D vwCl ws H → va_S A s.heap H locs → ∀ (ls : Array Slot), lv_has ls 7 [(6, .int (nI k)), (0, .ref o), (1, .long p0), (3, .long p1), (5, .int set)] → W p l e (headSpec wsX0_firstUnlikeWay ({ frames := 3, cells := 0, slots := 0, locals := 72 })).room s m #[Value.ref o, Value.long p0, Value.long p1, Value.int set] below meth c H locs 0 0 (MQ below (va_Qi (fun r0 u => u = (G, ws) ∧ (fstW (unl w h p0 p1 set) (-1) r0)) (cB D cy A) A) #[Value.ref o, Value.long p0, Value.long p1, Value.int set] s 0 0 A) (F0 m 3 ls []) := by
    intro n
    induction n with
    | zero => intro k j3_0 j3_1 hn; exact absurd hn (Nat.not_lt_zero _)
    | succ n ih_3 =>
      intro k j3_0 j3_1 hn_3 H locs hP hS  ls hl
      have ik : (nI k).toInt = (k : Int) := nI_toInt (by omega)
      refine lv_iload hx hb dX0_firstUnlikeWay_3 (lv_at hl 0 rfl) ?_
      refine lv_iconst (v := 4) hx hb dX0_firstUnlikeWay_5 (by decide) ?_
      refine lv_icmp_ge (tgt := 40) hx hb dX0_firstUnlikeWay_6 (by decide) (fun c6 => ?_) (fun c6 => ?_)
      · skip
        have d6 := c6
        rw [fa_le] at d6
        refine lv_iconst (v := (-1)) hx hb dX0_firstUnlikeWay_40 (by decide) ?_
        exact W.iret (v := ((-1) : Int32)) hx hb hr (fun t ht hW => ⟨⟨_, (G, ws), rfl, ⟨rfl, (Or.inr ⟨rfl, fun j9 h9 => j3_1 j9 (by omega)⟩)⟩, by show va_P D vwCl ws t.heap; rw [ht]; exact hP, hD, hT⟩, hS.F ht⟩) hS.2.2 dX0_firstUnlikeWay_41
      · skip
        have d6 := c6
        rw [fa_le] at d6
        refine lv_iload hx hb dX0_firstUnlikeWay_9 (lv_at hl 4 rfl) ?_
        refine lv_iload hx hb dX0_firstUnlikeWay_11 (lv_at hl 0 rfl) ?_
        refine lv_ishr hx hb dX0_firstUnlikeWay_13 ?_
        refine lv_topi (fun v13 e13 => ?_)
        refine lv_iconst (v := 1) hx hb dX0_firstUnlikeWay_14 (by decide) ?_
        refine lv_iand hx hb dX0_firstUnlikeWay_15 ?_
        refine lv_topi (fun v15 e15 => ?_)
        refine lv_iconst (v := 1) hx hb dX0_firstUnlikeWay_16 (by decide) ?_
        have hB : gB set k = v15 := by rw [e15, e13]; rfl
        refine lv_icmp_ne (tgt := 34) hx hb dX0_firstUnlikeWay_17 (by decide) (fun c17 => ?_) (fun c17 => ?_)
        · skip
          have d17 := c17
          rw [fa_eq] at d17
          refine lv_iinc (v := (nI (k + 1))) (lv' := [(6, .int (nI (k + 1))), (0, .ref o), (1, .long p0), (3, .long p1), (5, .int set)]) hx hb dX0_firstUnlikeWay_34 hl (k := 0) rfl (nI_1 _) (by decide) rfl (fun ls hl => ?_)
          refine lv_goto (tgt := 3) hx hb dX0_firstUnlikeWay_37 (by decide) ?_
          exact ih_3 (k + 1) (by omega) (fun j hj => by
            by_cases e9 : j = k
            · rw [e9]; first | exact fun z9 => c17 (hB.symm.trans z9.1) | exact fun z9 => b28 z9.2
            · exact j3_1 j (by omega)) (by omega) _ _ hP hS  ls (lv_sub hl [0, 1, 2, 3, 4] rfl)
        · skip
          have d17 := c17
          rw [fa_eq] at d17
          refine lv_aload_n hx hb dX0_firstUnlikeWay_20 rfl (lv_at hl 1 rfl) ?_
          refine lv_lload_n hx hb dX0_firstUnlikeWay_21 rfl (lv_at hl 2 rfl) ?_
          refine lv_lload_n hx hb dX0_firstUnlikeWay_22 rfl (lv_at hl 3 rfl) ?_
          refine lv_iload hx hb dX0_firstUnlikeWay_23 (lv_at hl 0 rfl) ?_
          obtain ⟨_, hM_o, hb_o, l_o, f_o, r_o, rfl, hG_l_o, hG_f_o, hG_r_o⟩ := hT _ _ hG_o
          refine t_calli (va_runV (g := F0 m 25 ls ([.int (nI k), .long p1, .long p0, .ref o])) (As := [.long p0, .long p1, .int (nI k)]) (rest := []) ⟨hx, hb, hml, hown, hts⟩ (c_X0_hasUnlikeLine_x l D cy A G ws o p0 p1 k hD hT hG_o (by omega)) (cwV 3 hts gX0_firstUnlikeWay_X0_hasUnlikeLine rfl rfl rfl (by decide +kernel) ⟨Nat.le_of_ble_eq_true rfl, Nat.le_of_ble_eq_true rfl⟩) (c_preV hM_o rfl hP hK hA hS hV) rfl rfl hl.1 rfl (lv_room (Nat.le_of_ble_eq_true rfl)) dX0_firstUnlikeWay_25 ⟨Nat.le_of_ble_eq_true rfl, Nat.le_of_ble_eq_true rfl⟩) hS (fun r25 u H locs q25 hP9 hD9 hT9 hS => ?_)
          obtain ⟨rfl, q25⟩ := q25
          have hP : va_P D vwCl ws H := hP9
          refine lv_if_eq (tgt := 34) hx hb dX0_firstUnlikeWay_28 (by decide) (fun c28 => ?_) (fun c28 => ?_)
          · skip
            have b28 := bo_f q25 c28
            refine lv_iinc (v := (nI (k + 1))) (lv' := [(6, .int (nI (k + 1))), (0, .ref o), (1, .long p0), (3, .long p1), (5, .int set)]) hx hb dX0_firstUnlikeWay_34 hl (k := 0) rfl (nI_1 _) (by decide) rfl (fun ls hl => ?_)
            refine lv_goto (tgt := 3) hx hb dX0_firstUnlikeWay_37 (by decide) ?_
            exact ih_3 (k + 1) (by omega) (fun j hj => by
            by_cases e9 : j = k
            · rw [e9]; first | exact fun z9 => c17 (hB.symm.trans z9.1) | exact fun z9 => b28 z9.2
            · exact j3_1 j (by omega)) (by omega) _ _ hP hS  ls (lv_sub hl [0, 1, 2, 3, 4] rfl)
          · skip
            have b28 := bo_t q25 c28
            refine lv_iload hx hb dX0_firstUnlikeWay_31 (lv_at hl 0 rfl) ?_
            exact W.iret (v := (nI k)) hx hb hr (fun t ht hW => ⟨⟨_, (G, ws), rfl, ⟨rfl, (Or.inl ⟨k, (by omega), rfl, ⟨hB.trans c17, b28⟩, j3_1⟩)⟩, by show va_P D vwCl ws t.heap; rw [ht]; exact hP, hD, hT⟩, hS.F ht⟩) hS.2.2 dX0_firstUnlikeWay_33
  exact loop_3 (4 + 1) 0 (by omega) (fun j hj => absurd hj (Nat.not_lt_zero _)) (by omega) _ _ hP hS  ls (lv_sub hl [0, 1, 2, 3, 4] rfl)
set_option maxHeartbeats 4000000 in
set_option maxRecDepth 100000 in
theorem c_X9_shadow_x (l : Launch) (D : va_G) (cy : Nat → ClassId) (A : Nat → Prop) (G : cG) (ws : va_W) (o : Nat) (wide : Int32) (high : Int32) (p0 : Int64) (way : Int32) (line : Int32)  (hD : va_D A ws) (hT : cT cy G ws) (hG_o : G o = some (7, 0, 0))  : Ci l D cy A yX9_shadow wsX9_shadow ({ frames := 5, cells := 4, slots := 502, locals := 116 }) 4 502 ws [.ref o, .int wide, .int high, .long p0, .int way, .int line] (fun r0 u => cX none (chs [1, 8]) G ws u.1 u.2 ∧ (shA wide high p0 way line r0)) := by
  refine Met.ofW (cc := cX9_shadow) (maxL := 8) (ret := (some .int)) (by decide) rfl ?_
  intro p e s m args below meth c s₁ B hml hv
  obtain ⟨rfl, hP, hK, hA, hV⟩ := hv
  have hx := B.exec
  have hb := B.bytes
  have hr := B.returns
  have hts := atoms_spec (ws := wsX9_shadow) B.pre
  have hown : s.vm.findClass RX9 = some m.cls := findClass_of_methodNamed B.named
  have hlocks := B.notSynchronized
  have hS : va_S A s.heap s.heap [] := va_S.rf
  have hX : cX none (chs [1, 8]) G ws G ws := cX.rf
  have hl := lv_entry ([.ref o, .int wide, .int high, .long p0, .int way, .int line]) (n := 8) (Nat.le_of_ble_eq_true rfl)
  rw [lg_entry_eq]
  generalize (lg_sl ([.ref o, .int wide, .int high, .long p0, .int way, .int line]) ++ List.replicate (8 - (lg_sl ([.ref o, .int wide, .int high, .long p0, .int way, .int line])).length) Slot.unset).toArray = ls at hl ⊢
  have hl : lv_has ls 8 [(0, .ref o), (1, .int wide), (2, .int high), (3, .long p0), (5, .int way), (6, .int line)] := hl
  have k_m1 : (-1 : Int32).toInt = -1 := by decide
  have k_0 : (0 : Int32).toInt = 0 := by decide
  refine lv_aload_n hx hb dX9_shadow_0 rfl (lv_at hl 0 rfl) ?_
  refine lv_iload_n hx hb dX9_shadow_1 rfl (lv_at hl 1 rfl) ?_
  refine lv_iload_n hx hb dX9_shadow_2 rfl (lv_at hl 2 rfl) ?_
  obtain ⟨_, hM_o, bs_o, js_o, sh_o, wk_o, ll_o, jc_o, lc_o, mo_o, lb_o, rfl, hjc_o, hlc_o, hG_bs_o, hG_js_o, hG_sh_o, hG_wk_o, hmo_o, hG_ll_o, hlb_o⟩ := hT _ _ hG_o
  refine t_calla (va_runV (g := F0 m 3 ls ([.int high, .int wide, .ref o])) (As := [.int wide, .int high]) (rest := []) ⟨hx, hb, hml, hown, hts⟩ (c_X9_boardOf_x l D cy A G ws o wide high hD hT hG_o ) (cwV 2 hts gX9_shadow_X9_boardOf rfl rfl rfl (by decide +kernel) ⟨Nat.le_of_ble_eq_true rfl, Nat.le_of_ble_eq_true rfl⟩) (c_preV hM_o rfl hP hK hA hS hV) rfl rfl hl.1 rfl (lv_room (Nat.le_of_ble_eq_true rfl)) dX9_shadow_3 ⟨Nat.le_of_ble_eq_true rfl, Nat.le_of_ble_eq_true rfl⟩) hS (fun r3 u H locs q3 hP9 hD9 hT9 hS => ?_)
  obtain ⟨G3, w3⟩ := u
  obtain ⟨hX9, q3⟩ := q3
  have hX9 : cX none (chs [1, 8]) G ws G3 w3 := hX9
  have hP : va_P D vwCl w3 H := hP9
  have hD : va_D A w3 := hD9
  have hT : cT cy G3 w3 := hT9
  have hM_o := hX9.2.1 _ _ (cP.no hG_o rfl) hM_o
  have hG_o := hX9.1 _ _ hG_o
  have hG_bs_o := hX9.1 _ _ hG_bs_o
  have hG_js_o := hX9.1 _ _ hG_js_o
  have hG_sh_o := hX9.1 _ _ hG_sh_o
  have hG_wk_o := hX9.1 _ _ hG_wk_o
  have hG_ll_o := hX9.1 _ _ hG_ll_o
  have hX := hX.tr hX9
  rcases r3 with _ | x3
  · skip
    have vn3 := q3.2.1 rfl
    refine lv_astoreN (lv' := [(7, .null), (0, .ref o), (1, .int wide), (2, .int high), (3, .long p0), (5, .int way), (6, .int line)]) hx hb dX9_shadow_6 hl (by decide) rfl (fun ls hl => ?_)
    refine lv_aloadN hx hb dX9_shadow_8 (lv_at hl 0 rfl) ?_
    refine lv_ifnullN (tgt := 34) hx hb dX9_shadow_10 (by decide) ?_
    refine lv_iconst (v := (-1)) hx hb dX9_shadow_34 (by decide) ?_
    refine W.widen (k := 4) (n := 502) (Nat.le_of_ble_eq_true rfl) (Nat.le_of_ble_eq_true rfl) ?_
    exact W.iret (v := ((-1) : Int32)) hx hb hr (fun t ht hW => ⟨⟨_, (G3, w3), rfl, ⟨hX, (Or.inr ⟨(fun z9 => by first | exact vn3 z9.1.1 | exact b19 z9.1.2 | (have z8 := cL9 z9.2.1.1; have z7 := z9.2; unfold okL at z7; omega)), rfl⟩)⟩, by show va_P D vwCl w3 t.heap; rw [ht]; exact hP, hD, hT⟩, hS.F ht⟩) hS.2.2 dX9_shadow_35
  · skip
    have hG_x3 := q3.1 x3 rfl
    have vb3 := q3.2.2 x3 rfl
    refine lv_astore (lv' := [(7, .ref x3), (0, .ref o), (1, .int wide), (2, .int high), (3, .long p0), (5, .int way), (6, .int line)]) hx hb dX9_shadow_6 hl (by decide) rfl (fun ls hl => ?_)
    refine lv_aload hx hb dX9_shadow_8 (lv_at hl 0 rfl) ?_
    refine lv_ifnull hx hb dX9_shadow_10 ?_
    refine lv_aload hx hb dX9_shadow_13 (lv_at hl 0 rfl) ?_
    refine lv_lload_n hx hb dX9_shadow_15 rfl (lv_at hl 4 rfl) ?_
    obtain ⟨_, hM_x3, hb_x3, l_x3, f_x3, r_x3, rfl, hG_l_x3, hG_f_x3, hG_r_x3⟩ := hT _ _ hG_x3
    refine t_calli (va_runV (g := F0 m 16 ls ([.long p0, .ref x3])) (As := [.long p0]) (rest := []) ⟨hx, hb, hml, hown, hts⟩ (c_X0_isPicture_x l D cy A G3 w3 x3 p0 hD hT hG_x3 ) (cwV 1 hts gX9_shadow_X0_isPicture rfl rfl rfl (by decide +kernel) ⟨Nat.le_of_ble_eq_true rfl, Nat.le_of_ble_eq_true rfl⟩) (c_preV hM_x3 rfl hP hK hA hS hV) rfl rfl hl.1 rfl (lv_room (Nat.le_of_ble_eq_true rfl)) dX9_shadow_16 ⟨Nat.le_of_ble_eq_true rfl, Nat.le_of_ble_eq_true rfl⟩) hS (fun r16 u H locs q16 hP9 hD9 hT9 hS => ?_)
    obtain ⟨rfl, q16⟩ := q16
    have hP : va_P D vwCl w3 H := hP9
    refine lv_if_eq (tgt := 34) hx hb dX9_shadow_19 (by decide) (fun c19 => ?_) (fun c19 => ?_)
    · skip
      have b19 := bo_f q16 c19
      refine lv_iconst (v := (-1)) hx hb dX9_shadow_34 (by decide) ?_
      refine W.widen (k := 4) (n := 502) (Nat.le_of_ble_eq_true rfl) (Nat.le_of_ble_eq_true rfl) ?_
      exact W.iret (v := ((-1) : Int32)) hx hb hr (fun t ht hW => ⟨⟨_, (G3, w3), rfl, ⟨hX, (Or.inr ⟨(fun z9 => by first | exact vn3 z9.1.1 | exact b19 z9.1.2 | (have z8 := cL9 z9.2.1.1; have z7 := z9.2; unfold okL at z7; omega)), rfl⟩)⟩, by show va_P D vwCl w3 t.heap; rw [ht]; exact hP, hD, hT⟩, hS.F ht⟩) hS.2.2 dX9_shadow_35
    · skip
      have b19 := bo_t q16 c19
      have hb9 := c_hb hT hG_x3
      refine lv_aload hx hb dX9_shadow_22 (lv_at hl 0 rfl) ?_
      refine lv_iload hx hb dX9_shadow_24 (lv_at hl 5 rfl) ?_
      refine lv_iload hx hb dX9_shadow_26 (lv_at hl 6 rfl) ?_
      refine t_calli (va_runV (g := F0 m 28 ls ([.int line, .int way, .ref x3])) (As := [.int way, .int line]) (rest := []) ⟨hx, hb, hml, hown, hts⟩ (c_X0_isLine l D cy A G3 w3 x3 way line hD hT hG_x3 ) (cwV 2 hts gX9_shadow_X0_isLine rfl rfl rfl (by decide +kernel) ⟨Nat.le_of_ble_eq_true rfl, Nat.le_of_ble_eq_true rfl⟩) (c_preV hM_x3 rfl hP hK hA hS hV) rfl rfl hl.1 rfl (lv_room (Nat.le_of_ble_eq_true rfl)) dX9_shadow_28 ⟨Nat.le_of_ble_eq_true rfl, Nat.le_of_ble_eq_true rfl⟩) hS (fun r28 u H locs q28 hP9 hD9 hT9 hS => ?_)
      obtain ⟨rfl, q28⟩ := q28
      have hP : va_P D vwCl w3 H := hP9
      have cL9 := fun z9 : 0 ≤ way.toInt => cLn hb9 (way := way) z9
      refine lv_if_ne (tgt := 36) hx hb dX9_shadow_31 (by decide) (fun c31 => ?_) (fun c31 => ?_)
      · skip
        have b31 := bo_t q28 c31
        have cL8 := cL9 (by omega)
        refine lv_aload hx hb dX9_shadow_36 (lv_at hl 0 rfl) ?_
        refine lv_iload hx hb dX9_shadow_38 (lv_at hl 5 rfl) ?_
        refine lv_iload hx hb dX9_shadow_40 (lv_at hl 6 rfl) ?_
        refine lv_lload_n hx hb dX9_shadow_42 rfl (lv_at hl 4 rfl) ?_
        refine t_calli (va_runV (g := F0 m 43 ls ([.long p0, .int line, .int way, .ref x3])) (As := [.int way, .int line, .long p0]) (rest := []) ⟨hx, hb, hml, hown, hts⟩ (c_X0_onesOfLine_x l D cy A G3 w3 x3 way line p0 hD hT hG_x3 (by omega) (by have z9 := lnC_b hb9 way.toNatClampNeg; omega)) (cwV 3 hts gX9_shadow_X0_onesOfLine rfl rfl rfl (by decide +kernel) ⟨Nat.le_of_ble_eq_true rfl, Nat.le_of_ble_eq_true rfl⟩) (c_preV hM_x3 rfl hP hK hA hS hV) rfl rfl hl.1 rfl (lv_room (Nat.le_of_ble_eq_true rfl)) dX9_shadow_43 ⟨Nat.le_of_ble_eq_true rfl, Nat.le_of_ble_eq_true rfl⟩) hS (fun r43 u H locs q43 hP9 hD9 hT9 hS => ?_)
        obtain ⟨rfl, q43⟩ := q43
        have hP : va_P D vwCl w3 H := hP9
        refine W.widen (k := 4) (n := 502) (Nat.le_of_ble_eq_true rfl) (Nat.le_of_ble_eq_true rfl) ?_
        exact W.iret (v := r43) hx hb hr (fun t ht hW => ⟨⟨_, (G3, w3), rfl, ⟨hX, (Or.inl ⟨⟨⟨vb3, b19⟩, (by unfold okL; omega)⟩, q43⟩)⟩, by show va_P D vwCl w3 t.heap; rw [ht]; exact hP, hD, hT⟩, hS.F ht⟩) hS.2.2 dX9_shadow_46
      · skip
        have b31 := bo_f q28 c31
        refine lv_iconst (v := (-1)) hx hb dX9_shadow_34 (by decide) ?_
        refine W.widen (k := 4) (n := 502) (Nat.le_of_ble_eq_true rfl) (Nat.le_of_ble_eq_true rfl) ?_
        exact W.iret (v := ((-1) : Int32)) hx hb hr (fun t ht hW => ⟨⟨_, (G3, w3), rfl, ⟨hX, (Or.inr ⟨(fun z9 => by first | exact vn3 z9.1.1 | exact b19 z9.1.2 | (have z8 := cL9 z9.2.1.1; have z7 := z9.2; unfold okL at z7; omega)), rfl⟩)⟩, by show va_P D vwCl w3 t.heap; rw [ht]; exact hP, hD, hT⟩, hS.F ht⟩) hS.2.2 dX9_shadow_35
set_option maxHeartbeats 4000000 in
set_option maxRecDepth 100000 in
theorem c_X9_parts_x (l : Launch) (D : va_G) (cy : Nat → ClassId) (A : Nat → Prop) (G : cG) (ws : va_W) (o : Nat) (wide : Int32) (high : Int32) (p0 : Int64) (p1 : Int64) (ways : Int32)  (hD : va_D A ws) (hT : cT cy G ws) (hG_o : G o = some (7, 0, 0))  : Ci l D cy A yX9_parts wsX9_parts ({ frames := 5, cells := 4, slots := 502, locals := 116 }) 4 502 ws [.ref o, .int wide, .int high, .long p0, .long p1, .int ways] (fun r0 u => cX none (chs [1, 8]) G ws u.1 u.2 ∧ (paA wide high p0 p1 ways r0)) := by
  refine Met.ofW (cc := cX9_parts) (maxL := 10) (ret := (some .int)) (by decide) rfl ?_
  intro p e s m args below meth c s₁ B hml hv
  obtain ⟨rfl, hP, hK, hA, hV⟩ := hv
  have hx := B.exec
  have hb := B.bytes
  have hr := B.returns
  have hts := atoms_spec (ws := wsX9_parts) B.pre
  have hown : s.vm.findClass RX9 = some m.cls := findClass_of_methodNamed B.named
  have hlocks := B.notSynchronized
  have hS : va_S A s.heap s.heap [] := va_S.rf
  have hX : cX none (chs [1, 8]) G ws G ws := cX.rf
  have hl := lv_entry ([.ref o, .int wide, .int high, .long p0, .long p1, .int ways]) (n := 10) (Nat.le_of_ble_eq_true rfl)
  rw [lg_entry_eq]
  generalize (lg_sl ([.ref o, .int wide, .int high, .long p0, .long p1, .int ways]) ++ List.replicate (10 - (lg_sl ([.ref o, .int wide, .int high, .long p0, .long p1, .int ways])).length) Slot.unset).toArray = ls at hl ⊢
  have hl : lv_has ls 10 [(0, .ref o), (1, .int wide), (2, .int high), (3, .long p0), (5, .long p1), (7, .int ways)] := hl
  have k_m2 : (-2 : Int32).toInt = -2 := by decide
  have k_m1 : (-1 : Int32).toInt = -1 := by decide
  have k_0 : (0 : Int32).toInt = 0 := by decide
  have k_16 : (16 : Int32).toInt = 16 := by decide
  refine lv_aload_n hx hb dX9_parts_0 rfl (lv_at hl 0 rfl) ?_
  refine lv_iload_n hx hb dX9_parts_1 rfl (lv_at hl 1 rfl) ?_
  refine lv_iload_n hx hb dX9_parts_2 rfl (lv_at hl 2 rfl) ?_
  obtain ⟨_, hM_o, bs_o, js_o, sh_o, wk_o, ll_o, jc_o, lc_o, mo_o, lb_o, rfl, hjc_o, hlc_o, hG_bs_o, hG_js_o, hG_sh_o, hG_wk_o, hmo_o, hG_ll_o, hlb_o⟩ := hT _ _ hG_o
  refine t_calla (va_runV (g := F0 m 3 ls ([.int high, .int wide, .ref o])) (As := [.int wide, .int high]) (rest := []) ⟨hx, hb, hml, hown, hts⟩ (c_X9_boardOf_x l D cy A G ws o wide high hD hT hG_o ) (cwV 2 hts gX9_parts_X9_boardOf rfl rfl rfl (by decide +kernel) ⟨Nat.le_of_ble_eq_true rfl, Nat.le_of_ble_eq_true rfl⟩) (c_preV hM_o rfl hP hK hA hS hV) rfl rfl hl.1 rfl (lv_room (Nat.le_of_ble_eq_true rfl)) dX9_parts_3 ⟨Nat.le_of_ble_eq_true rfl, Nat.le_of_ble_eq_true rfl⟩) hS (fun r3 u H locs q3 hP9 hD9 hT9 hS => ?_)
  obtain ⟨G3, w3⟩ := u
  obtain ⟨hX9, q3⟩ := q3
  have hX9 : cX none (chs [1, 8]) G ws G3 w3 := hX9
  have hP : va_P D vwCl w3 H := hP9
  have hD : va_D A w3 := hD9
  have hT : cT cy G3 w3 := hT9
  have hM_o := hX9.2.1 _ _ (cP.no hG_o rfl) hM_o
  have hG_o := hX9.1 _ _ hG_o
  have hG_bs_o := hX9.1 _ _ hG_bs_o
  have hG_js_o := hX9.1 _ _ hG_js_o
  have hG_sh_o := hX9.1 _ _ hG_sh_o
  have hG_wk_o := hX9.1 _ _ hG_wk_o
  have hG_ll_o := hX9.1 _ _ hG_ll_o
  have hX := hX.tr hX9
  rcases r3 with _ | x3
  · skip
    have vn3 := q3.2.1 rfl
    refine lv_astoreN (lv' := [(8, .null), (0, .ref o), (1, .int wide), (2, .int high), (3, .long p0), (5, .long p1), (7, .int ways)]) hx hb dX9_parts_6 hl (by decide) rfl (fun ls hl => ?_)
    refine lv_aloadN hx hb dX9_parts_8 (lv_at hl 0 rfl) ?_
    refine lv_ifnullN (tgt := 44) hx hb dX9_parts_10 (by decide) ?_
    refine lv_iconst (v := (-1)) hx hb dX9_parts_44 (by decide) ?_
    refine W.widen (k := 4) (n := 502) (Nat.le_of_ble_eq_true rfl) (Nat.le_of_ble_eq_true rfl) ?_
    exact W.iret (v := ((-1) : Int32)) hx hb hr (fun t ht hW => ⟨⟨_, (G3, w3), rfl, ⟨hX, (Or.inr ⟨(fun z9 => by first | exact vn3 z9.1.1 | exact b19 z9.1.2 | exact b29 z9.2.1.2 | omega), rfl⟩)⟩, by show va_P D vwCl w3 t.heap; rw [ht]; exact hP, hD, hT⟩, hS.F ht⟩) hS.2.2 dX9_parts_45
  · skip
    have hG_x3 := q3.1 x3 rfl
    have vb3 := q3.2.2 x3 rfl
    refine lv_astore (lv' := [(8, .ref x3), (0, .ref o), (1, .int wide), (2, .int high), (3, .long p0), (5, .long p1), (7, .int ways)]) hx hb dX9_parts_6 hl (by decide) rfl (fun ls hl => ?_)
    refine lv_aload hx hb dX9_parts_8 (lv_at hl 0 rfl) ?_
    refine lv_ifnull hx hb dX9_parts_10 ?_
    refine lv_aload hx hb dX9_parts_13 (lv_at hl 0 rfl) ?_
    refine lv_lload_n hx hb dX9_parts_15 rfl (lv_at hl 4 rfl) ?_
    obtain ⟨_, hM_x3, hb_x3, l_x3, f_x3, r_x3, rfl, hG_l_x3, hG_f_x3, hG_r_x3⟩ := hT _ _ hG_x3
    refine t_calli (va_runV (g := F0 m 16 ls ([.long p0, .ref x3])) (As := [.long p0]) (rest := []) ⟨hx, hb, hml, hown, hts⟩ (c_X0_isPicture_x l D cy A G3 w3 x3 p0 hD hT hG_x3 ) (cwV 1 hts gX9_parts_X0_isPicture rfl rfl rfl (by decide +kernel) ⟨Nat.le_of_ble_eq_true rfl, Nat.le_of_ble_eq_true rfl⟩) (c_preV hM_x3 rfl hP hK hA hS hV) rfl rfl hl.1 rfl (lv_room (Nat.le_of_ble_eq_true rfl)) dX9_parts_16 ⟨Nat.le_of_ble_eq_true rfl, Nat.le_of_ble_eq_true rfl⟩) hS (fun r16 u H locs q16 hP9 hD9 hT9 hS => ?_)
    obtain ⟨rfl, q16⟩ := q16
    have hP : va_P D vwCl w3 H := hP9
    refine lv_if_eq (tgt := 44) hx hb dX9_parts_19 (by decide) (fun c19 => ?_) (fun c19 => ?_)
    · skip
      have b19 := bo_f q16 c19
      refine lv_iconst (v := (-1)) hx hb dX9_parts_44 (by decide) ?_
      refine W.widen (k := 4) (n := 502) (Nat.le_of_ble_eq_true rfl) (Nat.le_of_ble_eq_true rfl) ?_
      exact W.iret (v := ((-1) : Int32)) hx hb hr (fun t ht hW => ⟨⟨_, (G3, w3), rfl, ⟨hX, (Or.inr ⟨(fun z9 => by first | exact vn3 z9.1.1 | exact b19 z9.1.2 | exact b29 z9.2.1.2 | omega), rfl⟩)⟩, by show va_P D vwCl w3 t.heap; rw [ht]; exact hP, hD, hT⟩, hS.F ht⟩) hS.2.2 dX9_parts_45
    · skip
      have b19 := bo_t q16 c19
      refine lv_aload hx hb dX9_parts_22 (lv_at hl 0 rfl) ?_
      refine lv_lload hx hb dX9_parts_24 (lv_at hl 5 rfl) ?_
      refine t_calli (va_runV (g := F0 m 26 ls ([.long p1, .ref x3])) (As := [.long p1]) (rest := []) ⟨hx, hb, hml, hown, hts⟩ (c_X0_isPicture_x l D cy A G3 w3 x3 p1 hD hT hG_x3 ) (cwV 1 hts gX9_parts_X0_isPicture rfl rfl rfl (by decide +kernel) ⟨Nat.le_of_ble_eq_true rfl, Nat.le_of_ble_eq_true rfl⟩) (c_preV hM_x3 rfl hP hK hA hS hV) rfl rfl hl.1 rfl (lv_room (Nat.le_of_ble_eq_true rfl)) dX9_parts_26 ⟨Nat.le_of_ble_eq_true rfl, Nat.le_of_ble_eq_true rfl⟩) hS (fun r26 u H locs q26 hP9 hD9 hT9 hS => ?_)
      obtain ⟨rfl, q26⟩ := q26
      have hP : va_P D vwCl w3 H := hP9
      refine lv_if_eq (tgt := 44) hx hb dX9_parts_29 (by decide) (fun c29 => ?_) (fun c29 => ?_)
      · skip
        have b29 := bo_f q26 c29
        refine lv_iconst (v := (-1)) hx hb dX9_parts_44 (by decide) ?_
        refine W.widen (k := 4) (n := 502) (Nat.le_of_ble_eq_true rfl) (Nat.le_of_ble_eq_true rfl) ?_
        exact W.iret (v := ((-1) : Int32)) hx hb hr (fun t ht hW => ⟨⟨_, (G3, w3), rfl, ⟨hX, (Or.inr ⟨(fun z9 => by first | exact vn3 z9.1.1 | exact b19 z9.1.2 | exact b29 z9.2.1.2 | omega), rfl⟩)⟩, by show va_P D vwCl w3 t.heap; rw [ht]; exact hP, hD, hT⟩, hS.F ht⟩) hS.2.2 dX9_parts_45
      · skip
        have b29 := bo_t q26 c29
        refine lv_iload hx hb dX9_parts_32 (lv_at hl 6 rfl) ?_
        refine lv_if_lt (tgt := 44) hx hb dX9_parts_34 (by decide) (fun c34 => ?_) (fun c34 => ?_)
        · skip
          have d34 := c34
          rw [fa_lt] at d34
          refine lv_iconst (v := (-1)) hx hb dX9_parts_44 (by decide) ?_
          refine W.widen (k := 4) (n := 502) (Nat.le_of_ble_eq_true rfl) (Nat.le_of_ble_eq_true rfl) ?_
          exact W.iret (v := ((-1) : Int32)) hx hb hr (fun t ht hW => ⟨⟨_, (G3, w3), rfl, ⟨hX, (Or.inr ⟨(fun z9 => by first | exact vn3 z9.1.1 | exact b19 z9.1.2 | exact b29 z9.2.1.2 | omega), rfl⟩)⟩, by show va_P D vwCl w3 t.heap; rw [ht]; exact hP, hD, hT⟩, hS.F ht⟩) hS.2.2 dX9_parts_45
        · skip
          have d34 := c34
          rw [fa_lt] at d34
          refine lv_iload hx hb dX9_parts_37 (lv_at hl 6 rfl) ?_
          refine lv_bipush (v := 16) hx hb dX9_parts_39 (by decide) ?_
          refine lv_icmp_lt (tgt := 46) hx hb dX9_parts_41 (by decide) (fun c41 => ?_) (fun c41 => ?_)
          · skip
            have d41 := c41
            rw [fa_lt] at d41
            refine lv_aload hx hb dX9_parts_46 (lv_at hl 0 rfl) ?_
            refine lv_lload_n hx hb dX9_parts_48 rfl (lv_at hl 4 rfl) ?_
            refine lv_lload hx hb dX9_parts_49 (lv_at hl 5 rfl) ?_
            refine lv_iload hx hb dX9_parts_51 (lv_at hl 6 rfl) ?_
            refine t_calli (va_runV (g := F0 m 53 ls ([.int ways, .long p1, .long p0, .ref x3])) (As := [.long p0, .long p1, .int ways]) (rest := []) ⟨hx, hb, hml, hown, hts⟩ (c_X0_firstUnlikeWay_x l D cy A G3 w3 x3 p0 p1 ways hD hT hG_x3 ) (cwV 3 hts gX9_parts_X0_firstUnlikeWay rfl rfl rfl (by decide +kernel) ⟨Nat.le_of_ble_eq_true rfl, Nat.le_of_ble_eq_true rfl⟩) (c_preV hM_x3 rfl hP hK hA hS hV) rfl rfl hl.1 rfl (lv_room (Nat.le_of_ble_eq_true rfl)) dX9_parts_53 ⟨Nat.le_of_ble_eq_true rfl, Nat.le_of_ble_eq_true rfl⟩) hS (fun r53 u H locs q53 hP9 hD9 hT9 hS => ?_)
            obtain ⟨rfl, q53⟩ := q53
            have hP : va_P D vwCl w3 H := hP9
            refine lv_istore (lv' := [(9, .int r53), (8, .ref x3), (0, .ref o), (1, .int wide), (2, .int high), (3, .long p0), (5, .long p1), (7, .int ways)]) hx hb dX9_parts_56 hl (by decide) rfl (fun ls hl => ?_)
            refine lv_iload hx hb dX9_parts_58 (lv_at hl 0 rfl) ?_
            refine lv_if_ge (tgt := 68) hx hb dX9_parts_60 (by decide) (fun c60 => ?_) (fun c60 => ?_)
            · skip
              have d60 := c60
              rw [fa_le] at d60
              refine lv_iload hx hb dX9_parts_68 (lv_at hl 0 rfl) ?_
              refine W.widen (k := 4) (n := 502) (Nat.le_of_ble_eq_true rfl) (Nat.le_of_ble_eq_true rfl) ?_
              exact W.iret (v := r53) hx hb hr (fun t ht hW => ⟨⟨_, (G3, w3), rfl, ⟨hX, (Or.inl ⟨⟨⟨vb3, b19⟩, ⟨vb3, b29⟩, (by omega)⟩, (by rcases q53 with z9 | ⟨e9, z9⟩; exact Or.inl z9; (exfalso; rw [e9] at d60; have z8 : (-1 : Int32).toInt = -1 := rfl; omega))⟩)⟩, by show va_P D vwCl w3 t.heap; rw [ht]; exact hP, hD, hT⟩, hS.F ht⟩) hS.2.2 dX9_parts_70
            · skip
              have d60 := c60
              rw [fa_le] at d60
              refine lv_bipush (v := (-2)) hx hb dX9_parts_63 (by decide) ?_
              refine lv_goto (tgt := 70) hx hb dX9_parts_65 (by decide) ?_
              refine W.widen (k := 4) (n := 502) (Nat.le_of_ble_eq_true rfl) (Nat.le_of_ble_eq_true rfl) ?_
              exact W.iret (v := ((-2) : Int32)) hx hb hr (fun t ht hW => ⟨⟨_, (G3, w3), rfl, ⟨hX, (Or.inl ⟨⟨⟨vb3, b19⟩, ⟨vb3, b29⟩, (by omega)⟩, (by rcases q53 with ⟨k9, h9, e9, z9⟩ | ⟨e9, z9⟩; (exfalso; have z8 : (nI k9).toInt = (k9 : Int) := nI_toInt (by omega); rw [e9] at d60; omega); exact Or.inr ⟨rfl, z9⟩)⟩)⟩, by show va_P D vwCl w3 t.heap; rw [ht]; exact hP, hD, hT⟩, hS.F ht⟩) hS.2.2 dX9_parts_70
          · skip
            have d41 := c41
            rw [fa_lt] at d41
            refine lv_iconst (v := (-1)) hx hb dX9_parts_44 (by decide) ?_
            refine W.widen (k := 4) (n := 502) (Nat.le_of_ble_eq_true rfl) (Nat.le_of_ble_eq_true rfl) ?_
            exact W.iret (v := ((-1) : Int32)) hx hb hr (fun t ht hW => ⟨⟨_, (G3, w3), rfl, ⟨hX, (Or.inr ⟨(fun z9 => by first | exact vn3 z9.1.1 | exact b19 z9.1.2 | exact b29 z9.2.1.2 | omega), rfl⟩)⟩, by show va_P D vwCl w3 t.heap; rw [ht]; exact hP, hD, hT⟩, hS.F ht⟩) hS.2.2 dX9_parts_45
set_option maxHeartbeats 4000000 in
set_option maxRecDepth 100000 in
theorem c_X10_areAlike_x (l : Launch) (w : Int32) (h : Int32) (p0 : Int64) (q0 : Int64) (way : Int32) (hw : 1 ≤ w.toInt ∧ w.toInt ≤ 6) (hh : 1 ≤ h.toInt ∧ h.toInt ≤ 6) (hy : 0 ≤ way.toInt ∧ way.toInt ≤ 3) : Pu l yX10_areAlike wsX10_areAlike ({ frames := 2, cells := 0, slots := 0, locals := 50 }) [.int w, .int h, .long p0, .long q0, .int way] (fun r => Bo r (alike w.toNatClampNeg h.toNatClampNeg p0 q0 way.toNatClampNeg)) := by
  refine Met.ofW (cc := cX10_areAlike) (maxL := 9) (ret := (some .boolean)) (by decide) rfl ?_
  intro p e s m args below meth c s₁ B hml hv
  obtain ⟨rfl, -⟩ := hv
  have hx := B.exec
  have hb := B.bytes
  have hr := B.returns
  have hts := atoms_spec (ws := wsX10_areAlike) B.pre
  have hown : s.vm.findClass RX10 = some m.cls := findClass_of_methodNamed B.named
  have hlocks := B.notSynchronized
  have hS : va_S (fun _ => False) s.heap s.heap [] := va_S.rf
  have hl := lv_entry ([.int w, .int h, .long p0, .long q0, .int way]) (n := 9) (Nat.le_of_ble_eq_true rfl)
  rw [lg_entry_eq]
  generalize (lg_sl ([.int w, .int h, .long p0, .long q0, .int way]) ++ List.replicate (9 - (lg_sl ([.int w, .int h, .long p0, .long q0, .int way])).length) Slot.unset).toArray = ls at hl ⊢
  have hl : lv_has ls 9 [(0, .int w), (1, .int h), (2, .long p0), (4, .long q0), (6, .int way)] := hl
  have hS0 := hS
  have k_0 : (0 : Int32).toInt = 0 := by decide
  have k_1 : (1 : Int32).toInt = 1 := by decide
  have hlb := lines_lt hw hh way
  have hLn := rLn hw hh hy.1
  obtain ⟨hA9, hB9, h36, -⟩ := wh36 hw hh
  refine lv_iconst (v := 1) hx hb dX10_areAlike_0 (by decide) ?_
  refine lv_istore (lv' := [(7, .int (1 : Int32)), (0, .int w), (1, .int h), (2, .long p0), (4, .long q0), (6, .int way)]) hx hb dX10_areAlike_1 hl (by decide) rfl (fun ls hl => ?_)
  refine lv_iconst (v := 0) hx hb dX10_areAlike_3 (by decide) ?_
  refine lv_istore (lv' := [(8, .int (0 : Int32)), (7, .int (1 : Int32)), (0, .int w), (1, .int h), (2, .long p0), (4, .long q0), (6, .int way)]) hx hb dX10_areAlike_4 hl (by decide) rfl (fun ls hl => ?_)
  have loop_6 : ∀ (n : Nat) (k : Nat) (x7 : Int32), ((k : Int) ≤ (r_lines w h way).toInt) → ((x7 = 1 ∧ ∀ l, l < k → shN w.toNatClampNeg h.toNatClampNeg p0 way.toNatClampNeg l = shN w.toNatClampNeg h.toNatClampNeg q0 way.toNatClampNeg l) ∨ (x7 = 0 ∧ ¬ ∀ l, l < k → shN w.toNatClampNeg h.toNatClampNeg p0 way.toNatClampNeg l = shN w.toNatClampNeg h.toNatClampNeg q0 way.toNatClampNeg l)) → ((r_lines w h way).toInt - k).toNat < n → ∀ (H : Heap) (locs : List Loc), va_S (fun _ => False) s.heap H locs → ∀ (ls : Array Slot), lv_has ls 9 [(8, .int (nI k)), (7, .int x7), (0, .int w), (1, .int h), (2, .long p0), (4, .long q0), (6, .int way)] → W p l e (headSpec wsX10_areAlike ({ frames := 2, cells := 0, slots := 0, locals := 50 })).room s m #[Value.int w, Value.int h, Value.long p0, Value.long q0, Value.int way] below meth c H locs 0 0 (MQ below (va_Qi (fun r (_ : Unit) => Bo r (alike w.toNatClampNeg h.toNatClampNeg p0 q0 way.toNatClampNeg)) (fun _ _ => True) (fun _ => False)) #[Value.int w, Value.int h, Value.long p0, Value.long q0, Value.int way] s 0 0 (fun _ => False)) (F0 m 6 ls []) := by
    intro n
    induction n with
    | zero => intro k x7 j6_0 j6_1 hn; exact absurd hn (Nat.not_lt_zero _)
    | succ n ih_6 =>
      intro k x7 j6_0 j6_1 hn_6 H locs hS ls hl
      have ik : (nI k).toInt = (k : Int) := nI_toInt (by omega)
      refine lv_iload hx hb dX10_areAlike_6 (lv_at hl 0 rfl) ?_
      refine lv_iload_n hx hb dX10_areAlike_8 rfl (lv_at hl 2 rfl) ?_
      refine lv_iload_n hx hb dX10_areAlike_9 rfl (lv_at hl 3 rfl) ?_
      refine lv_iload hx hb dX10_areAlike_10 (lv_at hl 6 rfl) ?_
      refine pu_call (As := [.int w, .int h, .int way]) (rest := [.int (nI k)]) ⟨hx, hb, hml, hown, hts⟩ (c_X10_linesOf l w h way ) (va_cwS 3 hts gX10_areAlike_X10_linesOf rfl rfl rfl (by decide +kernel) ⟨Nat.le_of_ble_eq_true rfl, Nat.le_of_ble_eq_true rfl⟩) rfl hl.1 rfl (Nat.le_of_ble_eq_true rfl) dX10_areAlike_12 ⟨Nat.le_of_ble_eq_true rfl, Nat.le_of_ble_eq_true rfl⟩ hS (fun r12 H locs q12 hS => ?_)
      have i12 : r12.toInt = (r_lines w h way).toInt := congrArg Int32.toInt q12
      refine lv_icmp_ge (tgt := 60) hx hb dX10_areAlike_15 (by decide) (fun c15 => ?_) (fun c15 => ?_)
      · skip
        have d15 := c15
        rw [fa_le] at d15
        refine lv_iload hx hb dX10_areAlike_60 (lv_at hl 1 rfl) ?_
        exact W.zret (v := x7) hx hb hr (by rcases j6_1 with ⟨z, _⟩ | ⟨z, _⟩ <;> rw [z] <;> rfl) (fun t ht hW => ⟨⟨_, (), rfl, (by rcases j6_1 with ⟨z, y⟩ | ⟨z, y⟩; exact Or.inl ⟨z, fun l9 h9 => y l9 (by omega)⟩; exact Or.inr ⟨z, fun u => y (fun l9 h9 => u l9 (by omega))⟩), trivial⟩, hS.F ht⟩) hS.2.2 dX10_areAlike_62
      · skip
        have d15 := c15
        rw [fa_le] at d15
        refine lv_iload hx hb dX10_areAlike_18 (lv_at hl 1 rfl) ?_
        refine lv_if_eq (tgt := 51) hx hb dX10_areAlike_20 (by decide) (fun c20 => ?_) (fun c20 => ?_)
        · skip
          have d20 := c20
          rw [fa_eq] at d20
          refine lv_iconst (v := 0) hx hb dX10_areAlike_51 (by decide) ?_
          refine lv_istore (lv' := [(7, .int (0 : Int32)), (8, .int (nI k)), (0, .int w), (1, .int h), (2, .long p0), (4, .long q0), (6, .int way)]) hx hb dX10_areAlike_52 hl (by decide) rfl (fun ls hl => ?_)
          refine lv_iinc (v := (nI (k + 1))) (lv' := [(8, .int (nI (k + 1))), (7, .int (0 : Int32)), (0, .int w), (1, .int h), (2, .long p0), (4, .long q0), (6, .int way)]) hx hb dX10_areAlike_54 hl (k := 1) rfl (nI_1 _) (by decide) rfl (fun ls hl => ?_)
          refine lv_goto (tgt := 6) hx hb dX10_areAlike_57 (by decide) ?_
          exact ih_6 (k + 1) (0 : Int32) (by omega) (by
            first
            | exact Or.inl ⟨rfl, fun l hl => by
                by_cases e9 : l = k
                · rw [e9]; exact eq9.mp c44
                · rcases j6_1 with ⟨_, y⟩ | ⟨z, _⟩
                  · exact y l (by omega)
                  · exact absurd z c20⟩
            | exact Or.inr ⟨rfl, fun u => c44 (eq9.mpr (u k (by omega)))⟩
            | exact Or.inr ⟨rfl, fun u => by rcases j6_1 with ⟨z, _⟩ | ⟨_, y⟩; exact absurd (z.symm.trans c20) (by decide); exact y (fun l hl => u l (by omega))⟩) (by omega) _ _ hS ls (lv_sub hl [0, 1, 2, 3, 4, 5, 6] rfl)
        · skip
          have d20 := c20
          rw [fa_eq] at d20
          refine lv_iload_n hx hb dX10_areAlike_23 rfl (lv_at hl 2 rfl) ?_
          refine lv_iload_n hx hb dX10_areAlike_24 rfl (lv_at hl 3 rfl) ?_
          refine lv_lload_n hx hb dX10_areAlike_25 rfl (lv_at hl 4 rfl) ?_
          refine lv_iload hx hb dX10_areAlike_26 (lv_at hl 6 rfl) ?_
          refine lv_iload hx hb dX10_areAlike_28 (lv_at hl 0 rfl) ?_
          refine pu_call (As := [.int w, .int h, .long p0, .int way, .int (nI k)]) (rest := []) ⟨hx, hb, hml, hown, hts⟩ (c_X10_shadowOf l w h p0 way (nI k) hw hh) (va_cwS 5 hts gX10_areAlike_X10_shadowOf rfl rfl rfl (by decide +kernel) ⟨Nat.le_of_ble_eq_true rfl, Nat.le_of_ble_eq_true rfl⟩) rfl hl.1 rfl (Nat.le_of_ble_eq_true rfl) dX10_areAlike_30 ⟨Nat.le_of_ble_eq_true rfl, Nat.le_of_ble_eq_true rfl⟩ hS (fun r30 H locs q30 hS => ?_)
          refine lv_iload_n hx hb dX10_areAlike_33 rfl (lv_at hl 2 rfl) ?_
          refine lv_iload_n hx hb dX10_areAlike_34 rfl (lv_at hl 3 rfl) ?_
          refine lv_lload hx hb dX10_areAlike_35 (lv_at hl 5 rfl) ?_
          refine lv_iload hx hb dX10_areAlike_37 (lv_at hl 6 rfl) ?_
          refine lv_iload hx hb dX10_areAlike_39 (lv_at hl 0 rfl) ?_
          refine pu_call (As := [.int w, .int h, .long q0, .int way, .int (nI k)]) (rest := [.int r30]) ⟨hx, hb, hml, hown, hts⟩ (c_X10_shadowOf l w h q0 way (nI k) hw hh) (va_cwS 5 hts gX10_areAlike_X10_shadowOf rfl rfl rfl (by decide +kernel) ⟨Nat.le_of_ble_eq_true rfl, Nat.le_of_ble_eq_true rfl⟩) rfl hl.1 rfl (Nat.le_of_ble_eq_true rfl) dX10_areAlike_41 ⟨Nat.le_of_ble_eq_true rfl, Nat.le_of_ble_eq_true rfl⟩ hS (fun r41 H locs q41 hS => ?_)
          have ck9 : (nI k).toNatClampNeg = k := nI_clamp (by omega)
          have s30 := r_shS hw hh hy (by omega) q30
          have s41 := r_shS hw hh hy (by omega) q41
          rw [ck9] at s30 s41
          have b30 := bs_le (fun s => decide (lnT h.toNatClampNeg way.toNatClampNeg (s % w.toNatClampNeg) (s / w.toNatClampNeg) = k) && lb p0 s) (w.toNatClampNeg * h.toNatClampNeg)
          have b41 := bs_le (fun s => decide (lnT h.toNatClampNeg way.toNatClampNeg (s % w.toNatClampNeg) (s / w.toNatClampNeg) = k) && lb q0 s) (w.toNatClampNeg * h.toNatClampNeg)
          have eq9 : r30 = r41 ↔ shN w.toNatClampNeg h.toNatClampNeg p0 way.toNatClampNeg k = shN w.toNatClampNeg h.toNatClampNeg q0 way.toNatClampNeg k := by rw [s30, s41]; exact nI_eq (by unfold shN; omega) (by unfold shN; omega)
          refine lv_icmp_ne (tgt := 51) hx hb dX10_areAlike_44 (by decide) (fun c44 => ?_) (fun c44 => ?_)
          · skip
            have d44 := c44
            rw [fa_eq] at d44
            refine lv_iconst (v := 0) hx hb dX10_areAlike_51 (by decide) ?_
            refine lv_istore (lv' := [(7, .int (0 : Int32)), (8, .int (nI k)), (0, .int w), (1, .int h), (2, .long p0), (4, .long q0), (6, .int way)]) hx hb dX10_areAlike_52 hl (by decide) rfl (fun ls hl => ?_)
            refine lv_iinc (v := (nI (k + 1))) (lv' := [(8, .int (nI (k + 1))), (7, .int (0 : Int32)), (0, .int w), (1, .int h), (2, .long p0), (4, .long q0), (6, .int way)]) hx hb dX10_areAlike_54 hl (k := 1) rfl (nI_1 _) (by decide) rfl (fun ls hl => ?_)
            refine lv_goto (tgt := 6) hx hb dX10_areAlike_57 (by decide) ?_
            exact ih_6 (k + 1) (0 : Int32) (by omega) (by
            first
            | exact Or.inl ⟨rfl, fun l hl => by
                by_cases e9 : l = k
                · rw [e9]; exact eq9.mp c44
                · rcases j6_1 with ⟨_, y⟩ | ⟨z, _⟩
                  · exact y l (by omega)
                  · exact absurd z c20⟩
            | exact Or.inr ⟨rfl, fun u => c44 (eq9.mpr (u k (by omega)))⟩
            | exact Or.inr ⟨rfl, fun u => by rcases j6_1 with ⟨z, _⟩ | ⟨_, y⟩; exact absurd (z.symm.trans c20) (by decide); exact y (fun l hl => u l (by omega))⟩) (by omega) _ _ hS ls (lv_sub hl [0, 1, 2, 3, 4, 5, 6] rfl)
          · skip
            have d44 := c44
            rw [fa_eq] at d44
            refine lv_iconst (v := 1) hx hb dX10_areAlike_47 (by decide) ?_
            refine lv_goto (tgt := 52) hx hb dX10_areAlike_48 (by decide) ?_
            refine lv_istore (lv' := [(7, .int (1 : Int32)), (8, .int (nI k)), (0, .int w), (1, .int h), (2, .long p0), (4, .long q0), (6, .int way)]) hx hb dX10_areAlike_52 hl (by decide) rfl (fun ls hl => ?_)
            refine lv_iinc (v := (nI (k + 1))) (lv' := [(8, .int (nI (k + 1))), (7, .int (1 : Int32)), (0, .int w), (1, .int h), (2, .long p0), (4, .long q0), (6, .int way)]) hx hb dX10_areAlike_54 hl (k := 1) rfl (nI_1 _) (by decide) rfl (fun ls hl => ?_)
            refine lv_goto (tgt := 6) hx hb dX10_areAlike_57 (by decide) ?_
            exact ih_6 (k + 1) (1 : Int32) (by omega) (by
            first
            | exact Or.inl ⟨rfl, fun l hl => by
                by_cases e9 : l = k
                · rw [e9]; exact eq9.mp c44
                · rcases j6_1 with ⟨_, y⟩ | ⟨z, _⟩
                  · exact y l (by omega)
                  · exact absurd z c20⟩
            | exact Or.inr ⟨rfl, fun u => c44 (eq9.mpr (u k (by omega)))⟩
            | exact Or.inr ⟨rfl, fun u => by rcases j6_1 with ⟨z, _⟩ | ⟨_, y⟩; exact absurd (z.symm.trans c20) (by decide); exact y (fun l hl => u l (by omega))⟩) (by omega) _ _ hS ls (lv_sub hl [0, 1, 2, 3, 4, 5, 6] rfl)
  exact loop_6 ((r_lines w h way).toInt.toNat + 1) 0 (1 : Int32) (by omega) (Or.inl ⟨rfl, fun l hl => absurd hl (Nat.not_lt_zero _)⟩) (by omega) _ _ hS ls (lv_sub hl [0, 1, 2, 3, 4, 5, 6] rfl)

set_option maxHeartbeats 4000000 in
set_option maxRecDepth 100000 in
theorem c_X10_shadow_x (l : Launch) (D : va_G) (cy : Nat → ClassId) (mo : Nat) (a : Nat → Nat) (f : Nat → Int32) (g : Nat → Int64) (r : Nat → Nat → Int32) (q : Nat → Nat → Int64) (w : Int32) (h : Int32) (p0 : Int64) (way : Int32) (line : Int32) (hD : DM cy mo a)  : Mi l D cy mo a yX10_shadow wsX10_shadow ({ frames := 3, cells := 0, slots := 0, locals := 69 }) f g r q [.int w, .int h, .long p0, .int way, .int line] (fun r0 u => u = ((upd f 0 (0 : Int32)), g, r, q) ∧ (shA w h p0 way line r0)) := by
  refine Met.ofW (cc := cX10_shadow) (maxL := 8) (ret := (some .int)) (by decide) rfl ?_
  intro p e s m args below meth c s₁ B hml hv
  obtain ⟨rfl, hP, hK⟩ := hv
  have hx := B.exec
  have hb := B.bytes
  have hr := B.returns
  have hts := atoms_spec (ws := wsX10_shadow) B.pre
  have hin : ∀ w ∈ u_ws RX10 TX10 35, w ∈ wsX10_shadow := by decide +kernel
  have hown : s.vm.findClass RX10 = some m.cls := findClass_of_methodNamed B.named
  have hlocks := B.notSynchronized
  have hS : va_S (AM mo a) s.heap s.heap [] := va_S.rf
  have hl := lv_entry ([.ref mo, .int w, .int h, .long p0, .int way, .int line]) (n := 8) (Nat.le_of_ble_eq_true rfl)
  rw [lg_entry_eq]
  generalize (lg_sl ([.ref mo, .int w, .int h, .long p0, .int way, .int line]) ++ List.replicate (8 - (lg_sl ([.ref mo, .int w, .int h, .long p0, .int way, .int line])).length) Slot.unset).toArray = ls at hl ⊢
  have hl : lv_has ls 8 [(0, .ref mo), (1, .int w), (2, .int h), (3, .long p0), (5, .int way), (6, .int line)] := hl
  have k_m1 : (-1 : Int32).toInt = -1 := by decide
  have k_0 : (0 : Int32).toInt = 0 := by decide
  have k_1 : (1 : Int32).toInt = 1 := by decide
  have k_0L : (0 : Int64).toInt = 0 := by decide
  have k_3L : (3 : Int64).toInt = 3 := by decide
  refine lv_aload_n hx hb dX10_shadow_0 rfl (lv_at hl 0 rfl) ?_
  refine lv_iconst (v := 0) hx hb dX10_shadow_1 (by decide) ?_
  refine m_put (v := .int (0 : Int32)) (ty := .int) hx hb hts hin hown hK hP hD hS 0 (by decide) rfl (hts (.fieldLink RX10 79 "ShadowBenchModel" "thrown" "I") (by decide +kernel)) rfl (by decide +kernel) rfl rfl (upd f 0 (0 : Int32)) g rfl dX10_shadow_2 (fun H locs hP hS => ?_)
  refine lv_iload_n hx hb dX10_shadow_5 rfl (lv_at hl 1 rfl) ?_
  refine lv_iload_n hx hb dX10_shadow_6 rfl (lv_at hl 2 rfl) ?_
  refine lv_lload_n hx hb dX10_shadow_7 rfl (lv_at hl 3 rfl) ?_
  refine m_pu (As := [.int w, .int h, .long p0]) (rest := []) ⟨hx, hb, hml, hown, hts⟩ (c_X10_isPicture l w h p0 ) (va_cwS 3 hts gX10_shadow_X10_isPicture rfl rfl rfl (by decide +kernel) ⟨Nat.le_of_ble_eq_true rfl, Nat.le_of_ble_eq_true rfl⟩) hP rfl hl.1 rfl (Nat.le_of_ble_eq_true rfl) dX10_shadow_8 ⟨Nat.le_of_ble_eq_true rfl, Nat.le_of_ble_eq_true rfl⟩ hS (fun r8 H locs q8 hP hS => ?_)
  refine lv_if_eq (tgt := 48) hx hb dX10_shadow_11 (by decide) (fun c11 => ?_) (fun c11 => ?_)
  · skip
    have b11 := bo_f q8 c11
    refine lv_iconst (v := 0) hx hb dX10_shadow_48 (by decide) ?_
    refine lv_istore (lv' := [(7, .int (0 : Int32)), (0, .ref mo), (1, .int w), (2, .int h), (3, .long p0), (5, .int way), (6, .int line)]) hx hb dX10_shadow_49 hl (by decide) rfl (fun ls hl => ?_)
    refine lv_iload hx hb dX10_shadow_51 (lv_at hl 0 rfl) ?_
    refine lv_if_eq (tgt := 69) hx hb dX10_shadow_53 (by decide) (fun c53 => ?_) (fun c53 => ?_)
    · skip
      have d53 := c53
      rw [fa_eq] at d53
      refine lv_iconst (v := (-1)) hx hb dX10_shadow_69 (by decide) ?_
      exact W.iret (v := ((-1) : Int32)) hx hb hr (fun t ht hW => ⟨⟨_, ((upd f 0 (0 : Int32)), g, r, q), rfl, ⟨rfl, (Or.inr ⟨(fun z9 => by first | exact goodP_no b11 z9.1 | exact b24 z9.2.1 | (have z7 := z9.2; unfold okL at z7; first | omega | (have i38 : r38.toInt = (r_lines w h way).toInt := congrArg Int32.toInt q38; omega))), rfl⟩)⟩, by unfold mB; rw [ht]; exact hP⟩, hS.F ht⟩) hS.2.2 dX10_shadow_70
    · first | exact absurd c53 (by decide) | exact absurd (by decide) c53
  · skip
    have b11 := bo_t q8 c11
    refine lv_iload hx hb dX10_shadow_14 (lv_at hl 4 rfl) ?_
    refine lv_i2l (v := way.toInt64) hx hb dX10_shadow_16 rfl ?_
    refine lv_lconst (v := 0) hx hb dX10_shadow_17 (by decide) ?_
    refine lv_ldc2 hx hb hown (hts (.constantLong RX10 116 (3)) (by decide +kernel)) dX10_shadow_18 ?_
    refine m_pu (As := [.long (way.toInt64), .long (0 : Int64), .long (3 : Int64)]) (rest := []) ⟨hx, hb, hml, hown, hts⟩ (c_X10_isIn l way.toInt64 (0 : Int64) (3 : Int64) ) (va_cwS 3 hts gX10_shadow_X10_isIn rfl rfl rfl (by decide +kernel) ⟨Nat.le_of_ble_eq_true rfl, Nat.le_of_ble_eq_true rfl⟩) hP rfl hl.1 rfl (Nat.le_of_ble_eq_true rfl) dX10_shadow_21 ⟨Nat.le_of_ble_eq_true rfl, Nat.le_of_ble_eq_true rfl⟩ hS (fun r21 H locs q21 hP hS => ?_)
    have q21 := q21
    simp only [k64, show (0 : Int64).toInt = 0 from rfl, show (1 : Int64).toInt = 1 from rfl, show (2 : Int64).toInt = 2 from rfl, show (3 : Int64).toInt = 3 from rfl, show (6 : Int64).toInt = 6 from rfl] at q21
    refine lv_if_eq (tgt := 48) hx hb dX10_shadow_24 (by decide) (fun c24 => ?_) (fun c24 => ?_)
    · skip
      have b24 := bo_f q21 c24
      refine lv_iconst (v := 0) hx hb dX10_shadow_48 (by decide) ?_
      refine lv_istore (lv' := [(7, .int (0 : Int32)), (0, .ref mo), (1, .int w), (2, .int h), (3, .long p0), (5, .int way), (6, .int line)]) hx hb dX10_shadow_49 hl (by decide) rfl (fun ls hl => ?_)
      refine lv_iload hx hb dX10_shadow_51 (lv_at hl 0 rfl) ?_
      refine lv_if_eq (tgt := 69) hx hb dX10_shadow_53 (by decide) (fun c53 => ?_) (fun c53 => ?_)
      · skip
        have d53 := c53
        rw [fa_eq] at d53
        refine lv_iconst (v := (-1)) hx hb dX10_shadow_69 (by decide) ?_
        exact W.iret (v := ((-1) : Int32)) hx hb hr (fun t ht hW => ⟨⟨_, ((upd f 0 (0 : Int32)), g, r, q), rfl, ⟨rfl, (Or.inr ⟨(fun z9 => by first | exact goodP_no b11 z9.1 | exact b24 z9.2.1 | (have z7 := z9.2; unfold okL at z7; first | omega | (have i38 : r38.toInt = (r_lines w h way).toInt := congrArg Int32.toInt q38; omega))), rfl⟩)⟩, by unfold mB; rw [ht]; exact hP⟩, hS.F ht⟩) hS.2.2 dX10_shadow_70
      · first | exact absurd c53 (by decide) | exact absurd (by decide) c53
    · skip
      have b24 := bo_t q21 c24
      have y24 := b24
      try simp only [k64, show (0 : Int64).toInt = 0 from rfl, show (3 : Int64).toInt = 3 from rfl] at y24
      have hLn := rLn b11.1.1 b11.1.2 (way := way) (by omega)
      refine lv_iload hx hb dX10_shadow_27 (lv_at hl 5 rfl) ?_
      refine lv_if_lt (tgt := 48) hx hb dX10_shadow_29 (by decide) (fun c29 => ?_) (fun c29 => ?_)
      · skip
        have d29 := c29
        rw [fa_lt] at d29
        refine lv_iconst (v := 0) hx hb dX10_shadow_48 (by decide) ?_
        refine lv_istore (lv' := [(7, .int (0 : Int32)), (0, .ref mo), (1, .int w), (2, .int h), (3, .long p0), (5, .int way), (6, .int line)]) hx hb dX10_shadow_49 hl (by decide) rfl (fun ls hl => ?_)
        refine lv_iload hx hb dX10_shadow_51 (lv_at hl 0 rfl) ?_
        refine lv_if_eq (tgt := 69) hx hb dX10_shadow_53 (by decide) (fun c53 => ?_) (fun c53 => ?_)
        · skip
          have d53 := c53
          rw [fa_eq] at d53
          refine lv_iconst (v := (-1)) hx hb dX10_shadow_69 (by decide) ?_
          exact W.iret (v := ((-1) : Int32)) hx hb hr (fun t ht hW => ⟨⟨_, ((upd f 0 (0 : Int32)), g, r, q), rfl, ⟨rfl, (Or.inr ⟨(fun z9 => by first | exact goodP_no b11 z9.1 | exact b24 z9.2.1 | (have z7 := z9.2; unfold okL at z7; first | omega | (have i38 : r38.toInt = (r_lines w h way).toInt := congrArg Int32.toInt q38; omega))), rfl⟩)⟩, by unfold mB; rw [ht]; exact hP⟩, hS.F ht⟩) hS.2.2 dX10_shadow_70
        · first | exact absurd c53 (by decide) | exact absurd (by decide) c53
      · skip
        have d29 := c29
        rw [fa_lt] at d29
        refine lv_iload hx hb dX10_shadow_32 (lv_at hl 5 rfl) ?_
        refine lv_iload_n hx hb dX10_shadow_34 rfl (lv_at hl 1 rfl) ?_
        refine lv_iload_n hx hb dX10_shadow_35 rfl (lv_at hl 2 rfl) ?_
        refine lv_iload hx hb dX10_shadow_36 (lv_at hl 4 rfl) ?_
        refine m_pu (As := [.int w, .int h, .int way]) (rest := [.int line]) ⟨hx, hb, hml, hown, hts⟩ (c_X10_linesOf l w h way ) (va_cwS 3 hts gX10_shadow_X10_linesOf rfl rfl rfl (by decide +kernel) ⟨Nat.le_of_ble_eq_true rfl, Nat.le_of_ble_eq_true rfl⟩) hP rfl hl.1 rfl (Nat.le_of_ble_eq_true rfl) dX10_shadow_38 ⟨Nat.le_of_ble_eq_true rfl, Nat.le_of_ble_eq_true rfl⟩ hS (fun r38 H locs q38 hP hS => ?_)
        have i38 : r38.toInt = (r_lines w h way).toInt := congrArg Int32.toInt q38
        refine lv_icmp_ge (tgt := 48) hx hb dX10_shadow_41 (by decide) (fun c41 => ?_) (fun c41 => ?_)
        · skip
          have d41 := c41
          rw [fa_le] at d41
          refine lv_iconst (v := 0) hx hb dX10_shadow_48 (by decide) ?_
          refine lv_istore (lv' := [(7, .int (0 : Int32)), (0, .ref mo), (1, .int w), (2, .int h), (3, .long p0), (5, .int way), (6, .int line)]) hx hb dX10_shadow_49 hl (by decide) rfl (fun ls hl => ?_)
          refine lv_iload hx hb dX10_shadow_51 (lv_at hl 0 rfl) ?_
          refine lv_if_eq (tgt := 69) hx hb dX10_shadow_53 (by decide) (fun c53 => ?_) (fun c53 => ?_)
          · skip
            have d53 := c53
            rw [fa_eq] at d53
            refine lv_iconst (v := (-1)) hx hb dX10_shadow_69 (by decide) ?_
            exact W.iret (v := ((-1) : Int32)) hx hb hr (fun t ht hW => ⟨⟨_, ((upd f 0 (0 : Int32)), g, r, q), rfl, ⟨rfl, (Or.inr ⟨(fun z9 => by first | exact goodP_no b11 z9.1 | exact b24 z9.2.1 | (have z7 := z9.2; unfold okL at z7; first | omega | (have i38 : r38.toInt = (r_lines w h way).toInt := congrArg Int32.toInt q38; omega))), rfl⟩)⟩, by unfold mB; rw [ht]; exact hP⟩, hS.F ht⟩) hS.2.2 dX10_shadow_70
          · first | exact absurd c53 (by decide) | exact absurd (by decide) c53
        · skip
          have d41 := c41
          rw [fa_le] at d41
          refine lv_iconst (v := 1) hx hb dX10_shadow_44 (by decide) ?_
          refine lv_goto (tgt := 49) hx hb dX10_shadow_45 (by decide) ?_
          refine lv_istore (lv' := [(7, .int (1 : Int32)), (0, .ref mo), (1, .int w), (2, .int h), (3, .long p0), (5, .int way), (6, .int line)]) hx hb dX10_shadow_49 hl (by decide) rfl (fun ls hl => ?_)
          refine lv_iload hx hb dX10_shadow_51 (lv_at hl 0 rfl) ?_
          refine lv_if_eq (tgt := 69) hx hb dX10_shadow_53 (by decide) (fun c53 => ?_) (fun c53 => ?_)
          · first | exact absurd c53 (by decide) | exact absurd (by decide) c53
          · skip
            have d53 := c53
            rw [fa_eq] at d53
            have i38 : r38.toInt = (r_lines w h way).toInt := congrArg Int32.toInt q38
            refine lv_iload_n hx hb dX10_shadow_56 rfl (lv_at hl 2 rfl) ?_
            refine lv_iload_n hx hb dX10_shadow_57 rfl (lv_at hl 3 rfl) ?_
            refine lv_lload_n hx hb dX10_shadow_58 rfl (lv_at hl 4 rfl) ?_
            refine lv_iload hx hb dX10_shadow_59 (lv_at hl 5 rfl) ?_
            refine lv_iload hx hb dX10_shadow_61 (lv_at hl 6 rfl) ?_
            refine m_pu (As := [.int w, .int h, .long p0, .int way, .int line]) (rest := []) ⟨hx, hb, hml, hown, hts⟩ (c_X10_shadowOf l w h p0 way line b11.1.1 b11.1.2) (va_cwS 5 hts gX10_shadow_X10_shadowOf rfl rfl rfl (by decide +kernel) ⟨Nat.le_of_ble_eq_true rfl, Nat.le_of_ble_eq_true rfl⟩) hP rfl hl.1 rfl (Nat.le_of_ble_eq_true rfl) dX10_shadow_63 ⟨Nat.le_of_ble_eq_true rfl, Nat.le_of_ble_eq_true rfl⟩ hS (fun r63 H locs q63 hP hS => ?_)
            refine lv_goto (tgt := 70) hx hb dX10_shadow_66 (by decide) ?_
            exact W.iret (v := r63) hx hb hr (fun t ht hW => ⟨⟨_, ((upd f 0 (0 : Int32)), g, r, q), rfl, ⟨rfl, (Or.inl ⟨⟨goodP_of b11, (by unfold okL; omega)⟩, r_shS b11.1.1 b11.1.2 (by omega) (by omega) q63⟩)⟩, by unfold mB; rw [ht]; exact hP⟩, hS.F ht⟩) hS.2.2 dX10_shadow_70
set_option maxHeartbeats 4000000 in
set_option maxRecDepth 100000 in
theorem c_X10_parts_x (l : Launch) (D : va_G) (cy : Nat → ClassId) (mo : Nat) (a : Nat → Nat) (f : Nat → Int32) (g : Nat → Int64) (r : Nat → Nat → Int32) (q : Nat → Nat → Int64) (w : Int32) (h : Int32) (p0 : Int64) (p1 : Int64) (ways : Int32) (hD : DM cy mo a)  : Mi l D cy mo a yX10_parts wsX10_parts ({ frames := 3, cells := 0, slots := 0, locals := 78 }) f g r q [.int w, .int h, .long p0, .long p1, .int ways] (fun r0 u => u = ((upd f 0 (0 : Int32)), g, r, q) ∧ (paA w h p0 p1 ways r0)) := by
  refine Met.ofW (cc := cX10_parts) (maxL := 9) (ret := (some .int)) (by decide) rfl ?_
  intro p e s m args below meth c s₁ B hml hv
  obtain ⟨rfl, hP, hK⟩ := hv
  have hx := B.exec
  have hb := B.bytes
  have hr := B.returns
  have hts := atoms_spec (ws := wsX10_parts) B.pre
  have hin : ∀ w ∈ u_ws RX10 TX10 35, w ∈ wsX10_parts := by decide +kernel
  have hown : s.vm.findClass RX10 = some m.cls := findClass_of_methodNamed B.named
  have hlocks := B.notSynchronized
  have hS : va_S (AM mo a) s.heap s.heap [] := va_S.rf
  have hl := lv_entry ([.ref mo, .int w, .int h, .long p0, .long p1, .int ways]) (n := 9) (Nat.le_of_ble_eq_true rfl)
  rw [lg_entry_eq]
  generalize (lg_sl ([.ref mo, .int w, .int h, .long p0, .long p1, .int ways]) ++ List.replicate (9 - (lg_sl ([.ref mo, .int w, .int h, .long p0, .long p1, .int ways])).length) Slot.unset).toArray = ls at hl ⊢
  have hl : lv_has ls 9 [(0, .ref mo), (1, .int w), (2, .int h), (3, .long p0), (5, .long p1), (7, .int ways)] := hl
  have k_m2 : (-2 : Int32).toInt = -2 := by decide
  have k_m1 : (-1 : Int32).toInt = -1 := by decide
  have k_0 : (0 : Int32).toInt = 0 := by decide
  have k_1 : (1 : Int32).toInt = 1 := by decide
  have k_4 : (4 : Int32).toInt = 4 := by decide
  have k_0L : (0 : Int64).toInt = 0 := by decide
  have k_15L : (15 : Int64).toInt = 15 := by decide
  refine lv_aload_n hx hb dX10_parts_0 rfl (lv_at hl 0 rfl) ?_
  refine lv_iconst (v := 0) hx hb dX10_parts_1 (by decide) ?_
  refine m_put (v := .int (0 : Int32)) (ty := .int) hx hb hts hin hown hK hP hD hS 0 (by decide) rfl (hts (.fieldLink RX10 79 "ShadowBenchModel" "thrown" "I") (by decide +kernel)) rfl (by decide +kernel) rfl rfl (upd f 0 (0 : Int32)) g rfl dX10_parts_2 (fun H locs hP hS => ?_)
  refine lv_iload_n hx hb dX10_parts_5 rfl (lv_at hl 1 rfl) ?_
  refine lv_iload_n hx hb dX10_parts_6 rfl (lv_at hl 2 rfl) ?_
  refine lv_lload_n hx hb dX10_parts_7 rfl (lv_at hl 3 rfl) ?_
  refine m_pu (As := [.int w, .int h, .long p0]) (rest := []) ⟨hx, hb, hml, hown, hts⟩ (c_X10_isPicture l w h p0 ) (va_cwS 3 hts gX10_parts_X10_isPicture rfl rfl rfl (by decide +kernel) ⟨Nat.le_of_ble_eq_true rfl, Nat.le_of_ble_eq_true rfl⟩) hP rfl hl.1 rfl (Nat.le_of_ble_eq_true rfl) dX10_parts_8 ⟨Nat.le_of_ble_eq_true rfl, Nat.le_of_ble_eq_true rfl⟩ hS (fun r8 H locs q8 hP hS => ?_)
  refine lv_if_eq (tgt := 37) hx hb dX10_parts_11 (by decide) (fun c11 => ?_) (fun c11 => ?_)
  · skip
    have b11 := bo_f q8 c11
    refine lv_iconst (v := (-1)) hx hb dX10_parts_37 (by decide) ?_
    exact W.iret (v := ((-1) : Int32)) hx hb hr (fun t ht hW => ⟨⟨_, ((upd f 0 (0 : Int32)), g, r, q), rfl, ⟨rfl, (Or.inr ⟨(fun z9 => by first | exact goodP_no b11 z9.1 | exact goodP_no b21 z9.2.1 | (have y34 := b34; simp only [k64, show (0 : Int64).toInt = 0 from rfl, show (15 : Int64).toInt = 15 from rfl] at y34; exact y34 z9.2.2)), rfl⟩)⟩, by unfold mB; rw [ht]; exact hP⟩, hS.F ht⟩) hS.2.2 dX10_parts_38
  · skip
    have b11 := bo_t q8 c11
    refine lv_iload_n hx hb dX10_parts_14 rfl (lv_at hl 1 rfl) ?_
    refine lv_iload_n hx hb dX10_parts_15 rfl (lv_at hl 2 rfl) ?_
    refine lv_lload hx hb dX10_parts_16 (lv_at hl 4 rfl) ?_
    refine m_pu (As := [.int w, .int h, .long p1]) (rest := []) ⟨hx, hb, hml, hown, hts⟩ (c_X10_isPicture l w h p1 ) (va_cwS 3 hts gX10_parts_X10_isPicture rfl rfl rfl (by decide +kernel) ⟨Nat.le_of_ble_eq_true rfl, Nat.le_of_ble_eq_true rfl⟩) hP rfl hl.1 rfl (Nat.le_of_ble_eq_true rfl) dX10_parts_18 ⟨Nat.le_of_ble_eq_true rfl, Nat.le_of_ble_eq_true rfl⟩ hS (fun r18 H locs q18 hP hS => ?_)
    refine lv_if_eq (tgt := 37) hx hb dX10_parts_21 (by decide) (fun c21 => ?_) (fun c21 => ?_)
    · skip
      have b21 := bo_f q18 c21
      refine lv_iconst (v := (-1)) hx hb dX10_parts_37 (by decide) ?_
      exact W.iret (v := ((-1) : Int32)) hx hb hr (fun t ht hW => ⟨⟨_, ((upd f 0 (0 : Int32)), g, r, q), rfl, ⟨rfl, (Or.inr ⟨(fun z9 => by first | exact goodP_no b11 z9.1 | exact goodP_no b21 z9.2.1 | (have y34 := b34; simp only [k64, show (0 : Int64).toInt = 0 from rfl, show (15 : Int64).toInt = 15 from rfl] at y34; exact y34 z9.2.2)), rfl⟩)⟩, by unfold mB; rw [ht]; exact hP⟩, hS.F ht⟩) hS.2.2 dX10_parts_38
    · skip
      have b21 := bo_t q18 c21
      refine lv_iload hx hb dX10_parts_24 (lv_at hl 5 rfl) ?_
      refine lv_i2l (v := ways.toInt64) hx hb dX10_parts_26 rfl ?_
      refine lv_lconst (v := 0) hx hb dX10_parts_27 (by decide) ?_
      refine lv_ldc2 hx hb hown (hts (.constantLong RX10 228 (15)) (by decide +kernel)) dX10_parts_28 ?_
      refine m_pu (As := [.long (ways.toInt64), .long (0 : Int64), .long (15 : Int64)]) (rest := []) ⟨hx, hb, hml, hown, hts⟩ (c_X10_isIn l ways.toInt64 (0 : Int64) (15 : Int64) ) (va_cwS 3 hts gX10_parts_X10_isIn rfl rfl rfl (by decide +kernel) ⟨Nat.le_of_ble_eq_true rfl, Nat.le_of_ble_eq_true rfl⟩) hP rfl hl.1 rfl (Nat.le_of_ble_eq_true rfl) dX10_parts_31 ⟨Nat.le_of_ble_eq_true rfl, Nat.le_of_ble_eq_true rfl⟩ hS (fun r31 H locs q31 hP hS => ?_)
      have q31 := q31
      simp only [k64, show (0 : Int64).toInt = 0 from rfl, show (1 : Int64).toInt = 1 from rfl, show (2 : Int64).toInt = 2 from rfl, show (3 : Int64).toInt = 3 from rfl, show (6 : Int64).toInt = 6 from rfl] at q31
      refine lv_if_ne (tgt := 39) hx hb dX10_parts_34 (by decide) (fun c34 => ?_) (fun c34 => ?_)
      · skip
        have b34 := bo_t q31 c34
        have y34 := b34
        try simp only [k64, show (0 : Int64).toInt = 0 from rfl, show (15 : Int64).toInt = 15 from rfl] at y34
        refine lv_iconst (v := 0) hx hb dX10_parts_39 (by decide) ?_
        refine lv_istore (lv' := [(8, .int (0 : Int32)), (0, .ref mo), (1, .int w), (2, .int h), (3, .long p0), (5, .long p1), (7, .int ways)]) hx hb dX10_parts_40 hl (by decide) rfl (fun ls hl => ?_)
        have loop_42 : ∀ (n : Nat) (k : Nat), (k ≤ 4) → (∀ j, j < k → ¬ unl w.toNatClampNeg h.toNatClampNeg p0 p1 ways j) → 4 - k < n → ∀ (H : Heap) (locs : List Loc), va_P D vwCl (WM cy mo a (upd f 0 (0 : Int32)) g r q) H → va_S (AM mo a) s.heap H locs → ∀ (ls : Array Slot), lv_has ls 9 [(8, .int (nI k)), (0, .ref mo), (1, .int w), (2, .int h), (3, .long p0), (5, .long p1), (7, .int ways)] → W p l e (headSpec wsX10_parts ({ frames := 3, cells := 0, slots := 0, locals := 78 })).room s m #[Value.ref mo, Value.int w, Value.int h, Value.long p0, Value.long p1, Value.int ways] below meth c H locs 0 0 (MQ below (va_Qi (fun r0 u => u = ((upd f 0 (0 : Int32)), g, r, q) ∧ (paA w h p0 p1 ways r0)) (mB D cy mo a) (AM mo a)) #[Value.ref mo, Value.int w, Value.int h, Value.long p0, Value.long p1, Value.int ways] s 0 0 (AM mo a)) (F0 m 42 ls []) := by
          intro n
          induction n with
          | zero => intro k  j42_0 j42_1 hn; exact absurd hn (Nat.not_lt_zero _)
          | succ n ih_42 =>
            intro k  j42_0 j42_1 hn_42 H locs hP hS ls hl
            have ik : (nI k).toInt = (k : Int) := nI_toInt (by omega)
            refine lv_iload hx hb dX10_parts_42 (lv_at hl 0 rfl) ?_
            refine lv_iconst (v := 4) hx hb dX10_parts_44 (by decide) ?_
            refine lv_icmp_ge (tgt := 81) hx hb dX10_parts_45 (by decide) (fun c45 => ?_) (fun c45 => ?_)
            · skip
              have d45 := c45
              rw [fa_le] at d45
              refine lv_bipush (v := (-2)) hx hb dX10_parts_81 (by decide) ?_
              exact W.iret (v := ((-2) : Int32)) hx hb hr (fun t ht hW => ⟨⟨_, ((upd f 0 (0 : Int32)), g, r, q), rfl, ⟨rfl, (Or.inl ⟨⟨goodP_of b11, goodP_of b21, y34⟩, Or.inr ⟨rfl, fun j9 h9 => j42_1 j9 (by omega)⟩⟩)⟩, by unfold mB; rw [ht]; exact hP⟩, hS.F ht⟩) hS.2.2 dX10_parts_83
            · skip
              have d45 := c45
              rw [fa_le] at d45
              refine lv_iload hx hb dX10_parts_48 (lv_at hl 6 rfl) ?_
              refine lv_iload hx hb dX10_parts_50 (lv_at hl 0 rfl) ?_
              refine lv_ishr hx hb dX10_parts_52 ?_
              refine lv_topi (fun v52 e52 => ?_)
              refine lv_iconst (v := 1) hx hb dX10_parts_53 (by decide) ?_
              refine lv_iand hx hb dX10_parts_54 ?_
              refine lv_topi (fun v54 e54 => ?_)
              refine lv_iconst (v := 1) hx hb dX10_parts_55 (by decide) ?_
              have hB : gB ways k = v54 := by rw [e54, e52]; rfl
              refine lv_icmp_ne (tgt := 75) hx hb dX10_parts_56 (by decide) (fun c56 => ?_) (fun c56 => ?_)
              · skip
                have d56 := c56
                rw [fa_eq] at d56
                refine lv_iinc (v := (nI (k + 1))) (lv' := [(8, .int (nI (k + 1))), (0, .ref mo), (1, .int w), (2, .int h), (3, .long p0), (5, .long p1), (7, .int ways)]) hx hb dX10_parts_75 hl (k := 0) rfl (nI_1 _) (by decide) rfl (fun ls hl => ?_)
                refine lv_goto (tgt := 42) hx hb dX10_parts_78 (by decide) ?_
                exact ih_42 (k + 1) (by omega) (fun j hj => by
                                                                                          by_cases e9 : j = k
                                                                                          · rw [e9]; first | exact fun z9 => c56 (hB.symm.trans z9.1) | exact fun z9 => z9.2 b69
                                                                                          · exact j42_1 j (by omega)) (by omega) _ _ hP hS ls (lv_sub hl [0, 1, 2, 3, 4, 5, 6] rfl)
              · skip
                have d56 := c56
                rw [fa_eq] at d56
                refine lv_iload_n hx hb dX10_parts_59 rfl (lv_at hl 2 rfl) ?_
                refine lv_iload_n hx hb dX10_parts_60 rfl (lv_at hl 3 rfl) ?_
                refine lv_lload_n hx hb dX10_parts_61 rfl (lv_at hl 4 rfl) ?_
                refine lv_lload hx hb dX10_parts_62 (lv_at hl 5 rfl) ?_
                refine lv_iload hx hb dX10_parts_64 (lv_at hl 0 rfl) ?_
                refine m_pu (As := [.int w, .int h, .long p0, .long p1, .int (nI k)]) (rest := []) ⟨hx, hb, hml, hown, hts⟩ (c_X10_areAlike_x l w h p0 p1 (nI k) b11.1.1 b11.1.2 (by omega)) (va_cwS 5 hts gX10_parts_X10_areAlike rfl rfl rfl (by decide +kernel) ⟨Nat.le_of_ble_eq_true rfl, Nat.le_of_ble_eq_true rfl⟩) hP rfl hl.1 rfl (Nat.le_of_ble_eq_true rfl) dX10_parts_66 ⟨Nat.le_of_ble_eq_true rfl, Nat.le_of_ble_eq_true rfl⟩ hS (fun r66 H locs q66 hP hS => ?_)
                have ck9 : (nI k).toNatClampNeg = k := nI_clamp (by omega)
                rw [ck9] at q66
                refine lv_if_ne (tgt := 75) hx hb dX10_parts_69 (by decide) (fun c69 => ?_) (fun c69 => ?_)
                · skip
                  have b69 := bo_t q66 c69
                  refine lv_iinc (v := (nI (k + 1))) (lv' := [(8, .int (nI (k + 1))), (0, .ref mo), (1, .int w), (2, .int h), (3, .long p0), (5, .long p1), (7, .int ways)]) hx hb dX10_parts_75 hl (k := 0) rfl (nI_1 _) (by decide) rfl (fun ls hl => ?_)
                  refine lv_goto (tgt := 42) hx hb dX10_parts_78 (by decide) ?_
                  exact ih_42 (k + 1) (by omega) (fun j hj => by
                                                                                          by_cases e9 : j = k
                                                                                          · rw [e9]; first | exact fun z9 => c56 (hB.symm.trans z9.1) | exact fun z9 => z9.2 b69
                                                                                          · exact j42_1 j (by omega)) (by omega) _ _ hP hS ls (lv_sub hl [0, 1, 2, 3, 4, 5, 6] rfl)
                · skip
                  have b69 := bo_f q66 c69
                  refine lv_iload hx hb dX10_parts_72 (lv_at hl 0 rfl) ?_
                  exact W.iret (v := (nI k)) hx hb hr (fun t ht hW => ⟨⟨_, ((upd f 0 (0 : Int32)), g, r, q), rfl, ⟨rfl, (Or.inl ⟨⟨goodP_of b11, goodP_of b21, y34⟩, Or.inl ⟨k, (by omega), rfl, ⟨hB.trans c56, b69⟩, j42_1⟩⟩)⟩, by unfold mB; rw [ht]; exact hP⟩, hS.F ht⟩) hS.2.2 dX10_parts_74
        exact loop_42 (4 + 1) 0 (by omega) (fun j hj => absurd hj (Nat.not_lt_zero _)) (by omega) _ _ hP hS ls (lv_sub hl [0, 1, 2, 3, 4, 5, 6] rfl)
      · skip
        have b34 := bo_f q31 c34
        refine lv_iconst (v := (-1)) hx hb dX10_parts_37 (by decide) ?_
        exact W.iret (v := ((-1) : Int32)) hx hb hr (fun t ht hW => ⟨⟨_, ((upd f 0 (0 : Int32)), g, r, q), rfl, ⟨rfl, (Or.inr ⟨(fun z9 => by first | exact goodP_no b11 z9.1 | exact goodP_no b21 z9.2.1 | (have y34 := b34; simp only [k64, show (0 : Int64).toInt = 0 from rfl, show (15 : Int64).toInt = 15 from rfl] at y34; exact y34 z9.2.2)), rfl⟩)⟩, by unfold mB; rw [ht]; exact hP⟩, hS.F ht⟩) hS.2.2 dX10_parts_38

/-- squares side by side -/
def nbr (w t s : Nat) : Prop := (s = t + 1 ∧ t % w + 1 < w) ∨ (t = s + 1 ∧ s % w + 1 < w) ∨ s = t + w ∨ t = s + w
/-- what is reached from the first one in k steps -/
def jR (w h : Nat) (p : Int64) : Nat → Nat → Prop
  | 0, s => lb p s = true ∧ ∀ j, j < s → lb p j = false
  | k + 1, s => jR w h p k s ∨ (s < w * h ∧ lb p s = true ∧ ∃ t, t < w * h ∧ jR w h p k t ∧ nbr w t s)
def jOK (w h : Nat) (p : Int64) : Prop := ∀ s, s < w * h → lb p s = true → ∃ k, jR w h p k s
theorem jR_one {w h : Nat} {p : Int64} : ∀ {k s : Nat}, jR w h p k s → lb p s = true := by
  intro k
  induction k with
  | zero => intro s h1; exact h1.1
  | succ k ih => intro s h1; rcases h1 with h1 | h1; exact ih h1; exact h1.2.1
theorem jR_up {w h : Nat} {p : Int64} {k j s : Nat} (hj : k ≤ j) (h1 : jR w h p k s) : jR w h p j s := by
  induction j with
  | zero => have : k = 0 := by omega
            rw [this] at h1; exact h1
  | succ j ih =>
    by_cases e : k = j + 1
    · rw [← e]; exact h1
    · exact Or.inl (ih (by omega))
theorem jR_st {w h : Nat} {p : Int64} {m : Nat} (hs : ∀ s, jR w h p (m + 1) s → jR w h p m s) : ∀ j s, jR w h p j s → jR w h p m s := by
  intro j
  induction j with
  | zero => intro s h1; exact jR_up (Nat.zero_le _) h1
  | succ j ih =>
    intro s h1
    rcases h1 with h1 | ⟨a, b, t, c, d, e⟩
    · exact ih s h1
    · exact hs s (Or.inr ⟨a, b, t, c, ih t d, e⟩)
theorem bs_up {f g : Nat → Bool} {n : Nat} (h : ∀ i, i < n → f i = true → g i = true) : bs f n ≤ bs g n := by
  induction n with
  | zero => exact Nat.le_refl _
  | succ n ih =>
    have h1 := ih (fun i hi => h i (by omega))
    have h2 := h n (by omega)
    simp only [bs]
    cases hf : f n
    · simp only [Bool.toNat_false]; omega
    · rw [h2 hf]; simp only [Bool.toNat_true]; omega
theorem bs_more {f g : Nat → Bool} {n : Nat} (h : ∀ i, i < n → f i = true → g i = true) {k : Nat} (hk : k < n) (h0 : f k = false) (h1 : g k = true) : bs f n + 1 ≤ bs g n := by
  induction n with
  | zero => omega
  | succ n ih =>
    simp only [bs]
    by_cases e : k = n
    · subst e
      have := bs_up (f := f) (g := g) (n := k) (fun i hi => h i (by omega))
      rw [h0, h1]
      simp only [Bool.toNat_true, Bool.toNat_false]
      omega
    · have h2 := ih (fun i hi => h i (by omega)) (by omega)
      have h3 := h n (by omega)
      cases hf : f n
      · simp only [Bool.toNat_false]; omega
      · rw [h3 hf]; simp only [Bool.toNat_true]; omega
theorem bs_all {f : Nat → Bool} {n : Nat} (h : n ≤ bs f n) : ∀ i, i < n → f i = true := by
  induction n with
  | zero => intro i hi; omega
  | succ n ih =>
    simp only [bs] at h
    have h1 := bs_le f n
    intro i hi
    cases hf : f n
    · rw [hf] at h; simp only [Bool.toNat_false] at h; omega
    · rw [hf] at h
      simp only [Bool.toNat_true] at h
      by_cases e : i = n
      · rw [e]; exact hf
      · exact ih (by omega) i (by omega)
theorem j_full {w h : Nat} {p : Int64} (h0 : jOK w h p) : ∀ s, s < w * h → lb p s = true → jR w h p (w * h - 1) s := by
  classical
  intro s hs hp
  obtain ⟨i0, hi0, hi1⟩ := pk_least (fun i => lb p i = true) ⟨s, hp⟩
  have hfirst : jR w h p 0 i0 := ⟨hi0, fun j hj => by cases hb : lb p j; rfl; exact absurd hb (hi1 j hj)⟩
  have hi2 : i0 < w * h := by
    apply Nat.lt_of_not_le
    intro hge
    exact absurd hp (hi1 s (by omega))
  have key : ∀ k, (∃ m, m ≤ k ∧ ∀ s, jR w h p (m + 1) s → jR w h p m s) ∨ k + 1 ≤ bs (fun s => decide (jR w h p k s)) (w * h) := by
    intro k
    induction k with
    | zero =>
      right
      have := bs_more (f := fun _ => false) (g := fun s => decide (jR w h p 0 s)) (n := w * h) (fun i _ z => by cases z) hi2 rfl (decide_eq_true hfirst)
      omega
    | succ k ih =>
      rcases ih with ⟨m, hm, hst⟩ | ih
      · exact Or.inl ⟨m, by omega, hst⟩
      · by_cases hst : ∀ s, jR w h p (k + 1) s → jR w h p k s
        · exact Or.inl ⟨k, by omega, hst⟩
        · right
          have ⟨s1, h1⟩ := Classical.not_forall.mp hst
          have ⟨h2, h3⟩ := Classical.not_imp.mp h1
          have hs1 : s1 < w * h := by
            rcases h2 with h2 | h2
            · exact absurd h2 h3
            · exact h2.1
          have := bs_more (f := fun s => decide (jR w h p k s)) (g := fun s => decide (jR w h p (k + 1) s)) (n := w * h) (fun i _ z => decide_eq_true (Or.inl (of_decide_eq_true z))) hs1 (decide_eq_false h3) (decide_eq_true h2)
          omega
  rcases key (w * h - 1) with ⟨m, hm, hst⟩ | hk
  · obtain ⟨j, hj⟩ := h0 s hs hp
    exact jR_up hm (jR_st hst j s hj)
  · exact of_decide_eq_true (bs_all (f := fun s => decide (jR w h p (w * h - 1) s)) (n := w * h) (by omega) s hs)
/-- a closed set that holds the first one holds all that is reached -/
theorem j_closed {w h : Nat} {p : Int64} {M : Nat → Prop} {i0 : Nat} (hi : lb p i0 = true ∧ ∀ j, j < i0 → lb p j = false) (hM : M i0) (hc : ∀ s, s < w * h → lb p s = true → (∃ t, t < w * h ∧ M t ∧ nbr w t s) → M s) : ∀ k s, jR w h p k s → M s := by
  intro k
  induction k with
  | zero =>
    intro s h1
    have e : s = i0 := by
      rcases Nat.lt_trichotomy s i0 with z | z | z
      · have := hi.2 s z; rw [h1.1] at this; cases this
      · exact z
      · have := h1.2 i0 z; rw [hi.1] at this; cases this
    rw [e]; exact hM
  | succ k ih =>
    intro s h1
    rcases h1 with h1 | ⟨a, b, t, c, d, e⟩
    · exact ih s h1
    · exact hc s a b ⟨t, c, ih t d, e⟩
theorem lb_neg (x : Int64) {i : Nat} (hi : i < 64) : lb (-x) i = (lb x i ^^ decide (∃ j, j < i ∧ lb x j = true)) := by
  unfold lb
  rw [Int64.toBitVec_neg, BitVec.getLsbD_neg]
  simp [hi]
theorem j_low {p : Int64} {v v2 : Int64} (e1 : v = -p) (e2 : v2 = p &&& v) (w h : Nat) : ∀ i, i < 64 → (lb v2 i = true ↔ jR w h p 0 i) := by
  intro i hi
  rw [e2, e1, lb_and, lb_neg p hi]
  show _ ↔ (lb p i = true ∧ ∀ j, j < i → lb p j = false)
  cases hb : lb p i
  · simp
  · simp only [Bool.true_and, Bool.true_xor, true_and]
    rw [Bool.not_eq_true', decide_eq_false_iff_not]
    constructor
    · intro h1 j hj
      cases hc : lb p j
      · rfl
      · exact absurd ⟨j, hj, hc⟩ h1
    · rintro h1 ⟨j, hj, hc⟩
      rw [h1 j hj] at hc
      cases hc
theorem m_edge {w s : Nat} (hw : 1 ≤ w ∧ w ≤ 6) : (s % w + 1 < w ↔ ¬ (w - 1 ≤ s ∧ (s - (w - 1)) % w = 0)) ∧ (s % w + 1 < w ↔ ¬ (s + 1) % w = 0) ∧ (0 < s % w ↔ 1 ≤ s ∧ (s - 1) % w + 1 < w) := by
  have h : w = 1 ∨ w = 2 ∨ w = 3 ∨ w = 4 ∨ w = 5 ∨ w = 6 := by omega
  rcases h with rfl | rfl | rfl | rfl | rfl | rfl <;> omega
theorem j_step {w h m : Nat} {p x7 lf rt v50 v51 v60 v61 v64 v81 v90 v92 v93 : Int64} {v14 : Int32} (hb : 1 ≤ w ∧ w ≤ 6 ∧ 1 ≤ h ∧ h ≤ 6) (hp : isPic (w * h) p) (elf : lf = bLn w h 11) (e14 : v14 = nI w - 1) (ert : rt = lf <<< (v14.toInt64 &&& 63))
    (e50 : v50 = rt ^^^ (-1)) (e51 : v51 = x7 &&& v50) (e60 : v60 = lf ^^^ (-1)) (e61 : v61 = x7 &&& v60) (e64 : v64 = (v51 <<< ((1 : Int32).toInt64 &&& 63)) ||| (v61.toUInt64 >>> ((1 : Int32).toInt64.toUInt64 &&& Int64.toUInt64 63)).toInt64) (e81 : v81 = (x7 <<< ((nI w).toInt64 &&& 63)) ||| (x7.toUInt64 >>> ((nI w).toInt64.toUInt64 &&& Int64.toUInt64 63)).toInt64) (e90 : v90 = v64 ||| v81) (e92 : v92 = v90 &&& p) (e93 : v93 = x7 ||| v92)
    (hr : ∀ i, i < 64 → (lb x7 i = true ↔ jR w h p m i)) : ∀ i, i < 64 → (lb v93 i = true ↔ jR w h p (m + 1) i) := by
  have h36 : w * h ≤ 6 * 6 := Nat.mul_le_mul (by omega) (by omega)
  have hlt : ∀ t, lb p t = true → t < w * h := fun t ht => Nat.lt_of_not_le (fun z => by rw [pic_hi (by omega) hp z] at ht; cases ht)
  have hx : ∀ t, lb x7 t = true → t < w * h := fun t ht => by
    have h64 : t < 64 := Nat.lt_of_not_le (fun z => by rw [lb_big z] at ht; cases ht)
    exact hlt t (jR_one ((hr t h64).mp ht))
  have hL : ∀ t, t < w * h → lb lf t = decide (t % w = 0) := fun t ht => by
    rw [elf]
    unfold bLn
    have z := lb_bLN (way := 1) (line := 0) hb (by omega) (by omega) (show t < 64 by omega) (4 * (w * h)) (Nat.le_refl _)
    rw [show (1 * 11 + 0 : Nat) = 11 from rfl] at z
    rw [z]
    apply decide_eq_decide.mpr
    show (_ ∧ t % w = 0) ↔ _
    exact ⟨fun z => z.2, fun z => ⟨by omega, z⟩⟩
  have hR : ∀ t, t < w * h → lb rt t = decide (¬ t % w + 1 < w) := fun t ht => by
    have e : v14 = nI (w - 1) := by rw [e14, show (1 : Int32) = nI 1 from rfl]; exact pk_sub (by omega)
    rw [ert, e, lb_shl (w - 1) (by omega) lf (by omega)]
    have me := (m_edge (s := t) (show 1 ≤ w ∧ w ≤ 6 by omega)).1
    by_cases c1 : w - 1 ≤ t
    · rw [decide_eq_true c1, Bool.true_and, hL (t - (w - 1)) (by omega)]
      apply decide_eq_decide.mpr
      constructor
      · intro z y; exact (me.mp y) ⟨c1, z⟩
      · intro z; exact (Classical.not_not.mp (fun y => z (me.mpr y))).2
    · rw [decide_eq_false c1, Bool.false_and]
      symm
      apply decide_eq_false
      intro z
      exact z (me.mpr (fun y => c1 y.1))
  intro i hi
  have s1 : lb (v51 <<< ((1 : Int32).toInt64 &&& 63)) i = (decide (1 ≤ i) && lb v51 (i - 1)) := lb_shl 1 (by decide) v51 hi
  have s2 : lb (v61.toUInt64 >>> ((1 : Int32).toInt64.toUInt64 &&& Int64.toUInt64 63)).toInt64 i = lb v61 (1 + i) := lb_ushr 1 (by decide) v61 i
  have s3 := lb_shl w (by omega) x7 hi
  have s4 := lb_ushr w (by omega) x7 i
  have t1 : lb v51 (i - 1) = (lb x7 (i - 1) && !lb rt (i - 1)) := by
    rw [e51, e50, lb_and, lb_xor, lb_m1 (i - 1) (by omega), Bool.xor_true]
  have t2 : lb v61 (1 + i) = (lb x7 (1 + i) && !lb lf (1 + i)) := by
    by_cases c : 1 + i < 64
    · rw [e61, e60, lb_and, lb_xor, lb_m1 (1 + i) c, Bool.xor_true]
    · rw [lb_big (show 64 ≤ 1 + i by omega), lb_big (show 64 ≤ 1 + i by omega), Bool.false_and]
  rw [e93, lb_or, e92, lb_and, e90, lb_or, e64, lb_or, e81, lb_or, s1, s2, s3, s4, t1, t2]
  simp only [Bool.or_eq_true, Bool.and_eq_true, Bool.not_eq_true', decide_eq_true_eq]
  constructor
  · rintro (h1 | ⟨h2, h3⟩)
    · exact Or.inl ((hr i hi).mp h1)
    · refine Or.inr ⟨hlt i h3, h3, ?_⟩
      rcases h2 with (⟨c, d, e⟩ | ⟨d, e⟩) | (⟨c, d⟩ | d)
      · have hw := hx _ d
        rw [hR _ hw] at e
        exact ⟨i - 1, hw, (hr _ (by omega)).mp d, Or.inl ⟨by omega, Classical.not_not.mp (of_decide_eq_false e)⟩⟩
      · have hw := hx _ d
        rw [hL _ hw] at e
        have e2 := of_decide_eq_false e
        rw [Nat.add_comm] at e2
        exact ⟨1 + i, hw, (hr _ (by omega)).mp d, Or.inr (Or.inl ⟨by omega, (m_edge (show 1 ≤ w ∧ w ≤ 6 by omega)).2.1.mpr e2⟩)⟩
      · exact ⟨i - w, hx _ d, (hr _ (by omega)).mp d, Or.inr (Or.inr (Or.inl (by omega)))⟩
      · have hw := hx _ d
        exact ⟨w + i, hw, (hr _ (by omega)).mp d, Or.inr (Or.inr (Or.inr (by omega)))⟩
  · rintro (h1 | ⟨h1, h2, t, ht, h3, h4⟩)
    · exact Or.inl ((hr i hi).mpr h1)
    · refine Or.inr ⟨?_, h2⟩
      have hb7 := (hr t (by omega)).mpr h3
      rcases h4 with ⟨e, d⟩ | ⟨e, d⟩ | e | e
      · refine Or.inl (Or.inl ⟨by omega, ?_, ?_⟩)
        · rw [show i - 1 = t by omega]; exact hb7
        · rw [show i - 1 = t by omega, hR t ht]; exact decide_eq_false (fun z => z d)
      · refine Or.inl (Or.inr ⟨?_, ?_⟩)
        · rw [show 1 + i = t by omega]; exact hb7
        · rw [show 1 + i = t by omega, hL t ht, e]; exact decide_eq_false ((m_edge (show 1 ≤ w ∧ w ≤ 6 by omega)).2.1.mp d)
      · exact Or.inr (Or.inl ⟨by omega, by rw [show i - w = t by omega]; exact hb7⟩)
      · exact Or.inr (Or.inr (by rw [show w + i = t by omega]; exact hb7))
theorem j_yes {w h m : Nat} {p x : Int64} (hr : ∀ i, i < 64 → (lb x i = true ↔ jR w h p m i)) (e : x = p) (h36 : w * h ≤ 36) : jOK w h p := fun s hs hp => ⟨m, (hr s (by omega)).mp (by rw [e]; exact hp)⟩
theorem j_no {w h m : Nat} {p x : Int64} (hr : ∀ i, i < 64 → (lb x i = true ↔ jR w h p m i)) (e : ¬ x = p) (hp : isPic (w * h) p) (h36 : w * h ≤ 36) (hm : w * h - 1 ≤ m) : ¬ jOK w h p := fun hok => by
  apply e
  apply lb_ext
  intro i hi
  cases hb : lb p i
  · cases hc : lb x i
    · rfl
    · have := jR_one ((hr i hi).mp hc); rw [hb] at this; cases this
  · have hiw : i < w * h := Nat.lt_of_not_le (fun z => by rw [pic_hi h36 hp z] at hb; cases hb)
    exact (hr i hi).mpr (jR_up hm (j_full hok i hiw hb))

def joA (w h : Int32) (p : Int64) (x : Int32) : Prop := (goodP w h p ∧ ((jOK w.toNatClampNeg h.toNatClampNeg p ∧ x = 1) ∨ (¬ jOK w.toNatClampNeg h.toNatClampNeg p ∧ x = 0))) ∨ (¬ goodP w h p ∧ x = -1)
theorem joA_eq {w h : Int32} {p : Int64} {x y : Int32} (hx : joA w h p x) (hy : joA w h p y) : x = y := by
  rcases hx with ⟨a, ⟨b, c⟩ | ⟨b, c⟩⟩ | ⟨a, c⟩ <;> rcases hy with ⟨d, ⟨e, f⟩ | ⟨e, f⟩⟩ | ⟨d, f⟩
  · rw [c, f]
  · exact absurd b e
  · exact absurd a d
  · exact absurd e b
  · rw [c, f]
  · exact absurd a d
  · exact absurd d a
  · exact absurd d a
  · rw [c, f]
theorem j_none {w h : Nat} {p : Int64} (h0 : ∀ s, s < w * h → lb p s = false) : jOK w h p := fun s hs hp => by rw [h0 s hs] at hp; cases hp
set_option maxHeartbeats 4000000 in
set_option maxRecDepth 100000 in
theorem c_X0_hangsTogether_x (l : Launch) (D : va_G) (cy : Nat → ClassId) (A : Nat → Prop) (G : cG) (ws : va_W) (o : Nat) (p0 : Int64) {w h : Nat} (hD : va_D A ws) (hT : cT cy G ws) (hG_o : G o = some (2, w, h)) (hp9 : isPic (w * h) p0) : Ci l D cy A yX0_hangsTogether wsX0_hangsTogether ({ frames := 0, cells := 0, slots := 0, locals := 0 }) 0 0 ws [.ref o, .long p0] (fun r0 u => u = (G, ws) ∧ (Bo r0 (jOK w h p0))) := by
  refine Met.ofW (cc := cX0_hangsTogether) (maxL := 14) (ret := (some .boolean)) (by decide) rfl ?_
  intro p e s m args below meth c s₁ B hml hv
  obtain ⟨rfl, hP, hK, hA, hV⟩ := hv
  have hx := B.exec
  have hb := B.bytes
  have hr := B.returns
  have hts := atoms_spec (ws := wsX0_hangsTogether) B.pre
  have hown : s.vm.findClass RX0 = some m.cls := findClass_of_methodNamed B.named
  have hlocks := B.notSynchronized
  have hS : va_S A s.heap s.heap [] := va_S.rf
  have hl := lv_entry ([.ref o, .long p0]) (n := 14) (Nat.le_of_ble_eq_true rfl)
  rw [lg_entry_eq]
  generalize (lg_sl ([.ref o, .long p0]) ++ List.replicate (14 - (lg_sl ([.ref o, .long p0])).length) Slot.unset).toArray = ls at hl ⊢
  have hl : lv_has ls 14 [(0, .ref o), (1, .long p0)] := hl
  have k_0 : (0 : Int32).toInt = 0 := by decide
  have k_1 : (1 : Int32).toInt = 1 := by decide
  have k_11 : (11 : Int32).toInt = 11 := by decide
  have k_m1L : (-1 : Int64).toInt = -1 := by decide
  have hb9 := c_hb hT hG_o
  have m9 := cb_mul hb9
  refine lv_aload_n hx hb dX0_hangsTogether_0 rfl (lv_at hl 0 rfl) ?_
  obtain ⟨_, hM_o, hb_o, l_o, f_o, r_o, rfl, hG_l_o, hG_f_o, hG_r_o⟩ := hT _ _ hG_o
  refine t_get (v := .ref l_o) (C := RX0) (T := TX0) (N := 8) hx hb hts (by decide +kernel) hown hK hP hM_o rfl 5 (by decide) (hts (.fieldLink RX0 9 "ShadowBench$Board" "lines" "[J") (by decide +kernel)) (fun _ h9 => h9) rfl dX0_hangsTogether_1 ?_
  refine lv_bipush (v := 11) hx hb dX0_hangsTogether_4 (by decide) ?_
  refine t_lald11 hx hb hK hP hT hG_l_o (vp_in_iff.mpr ⟨by omega, by omega⟩) dX0_hangsTogether_6 ?_
  refine lv_topl (fun v6 e6 => ?_)
  refine lv_lstore_n (lv' := [(3, .long v6), (0, .ref o), (1, .long p0)]) hx hb dX0_hangsTogether_7 rfl hl (by decide) rfl (fun ls hl => ?_)
  refine lv_lload_n hx hb dX0_hangsTogether_8 rfl (lv_at hl 0 rfl) ?_
  refine lv_aload_n hx hb dX0_hangsTogether_9 rfl (lv_at hl 1 rfl) ?_
  refine t_get (v := .int (nI w)) (C := RX0) (T := TX0) (N := 8) hx hb hts (by decide +kernel) hown hK hP hM_o rfl 0 (by decide) (hts (.fieldLink RX0 13 "ShadowBench$Board" "wide" "I") (by decide +kernel)) (fun _ h9 => h9) rfl dX0_hangsTogether_10 ?_
  have i_w_o : (nI w).toInt = _ := nI_toInt (by omega)
  refine lv_iconst (v := 1) hx hb dX0_hangsTogether_13 (by decide) ?_
  refine lv_isub hx hb dX0_hangsTogether_14 ?_
  refine lv_topi (fun v14 e14 => ?_)
  refine lv_lshl (v := v6 <<< (v14.toInt64 &&& 63)) hx hb dX0_hangsTogether_15 rfl ?_
  refine lv_lstore (lv' := [(5, .long (v6 <<< (v14.toInt64 &&& 63))), (3, .long v6), (0, .ref o), (1, .long p0)]) hx hb dX0_hangsTogether_16 hl (by decide) rfl (fun ls hl => ?_)
  refine lv_lload_n hx hb dX0_hangsTogether_18 rfl (lv_at hl 3 rfl) ?_
  refine lv_lload_n hx hb dX0_hangsTogether_19 rfl (lv_at hl 3 rfl) ?_
  refine lv_lneg hx hb dX0_hangsTogether_20 ?_
  refine lv_topl (fun v20 e20 => ?_)
  refine lv_land hx hb dX0_hangsTogether_21 ?_
  refine lv_topl (fun v21 e21 => ?_)
  refine lv_lstore (lv' := [(7, .long v21), (5, .long (v6 <<< (v14.toInt64 &&& 63))), (3, .long v6), (0, .ref o), (1, .long p0)]) hx hb dX0_hangsTogether_22 hl (by decide) rfl (fun ls hl => ?_)
  refine lv_iconst (v := 1) hx hb dX0_hangsTogether_24 (by decide) ?_
  refine lv_istore (lv' := [(9, .int (1 : Int32)), (7, .long v21), (5, .long (v6 <<< (v14.toInt64 &&& 63))), (3, .long v6), (0, .ref o), (1, .long p0)]) hx hb dX0_hangsTogether_25 hl (by decide) rfl (fun ls hl => ?_)
  have loop_27 : ∀ (n : Nat) (k : Nat) (x7 : Int64), (1 ≤ k ∧ k ≤ 36) → (∀ i, i < 64 → (lb x7 i = true ↔ jR w h p0 (k - 1) i)) → 36 - k < n → ∀ (H : Heap) (locs : List Loc), va_P D vwCl ws H → va_S A s.heap H locs → ∀ (ls : Array Slot), lv_has ls 14 [(9, .int (nI k)), (7, .long x7), (5, .long (v6 <<< (v14.toInt64 &&& 63))), (3, .long v6), (0, .ref o), (1, .long p0)] → W p l e (headSpec wsX0_hangsTogether ({ frames := 0, cells := 0, slots := 0, locals := 0 })).room s m #[Value.ref o, Value.long p0] below meth c H locs 0 0 (MQ below (va_Qi (fun r0 u => u = (G, ws) ∧ (Bo r0 (jOK w h p0))) (cB D cy A) A) #[Value.ref o, Value.long p0] s 0 0 A) (F0 m 27 ls []) := by
    intro n
    induction n with
    | zero => intro k x7 j27_0 j27_1 hn; exact absurd hn (Nat.not_lt_zero _)
    | succ n ih_27 =>
      intro k x7 j27_0 j27_1 hn_27 H locs hP hS  ls hl
      have ik : (nI k).toInt = (k : Int) := nI_toInt (by omega)
      refine lv_iload hx hb dX0_hangsTogether_27 (lv_at hl 0 rfl) ?_
      refine lv_aload_n hx hb dX0_hangsTogether_29 rfl (lv_at hl 4 rfl) ?_
      refine t_get (v := .int (nI (w * h))) (C := RX0) (T := TX0) (N := 8) hx hb hts (by decide +kernel) hown hK hP hM_o rfl 2 (by decide) (hts (.fieldLink RX0 20 "ShadowBench$Board" "squares" "I") (by decide +kernel)) (fun _ h9 => h9) rfl dX0_hangsTogether_30 ?_
      have m_wh_o := cb_mul hb_o
      have i_wh_o : (nI (w * h)).toInt = _ := nI_toInt (by omega)
      refine lv_icmp_ge (tgt := 102) hx hb dX0_hangsTogether_33 (by decide) (fun c33 => ?_) (fun c33 => ?_)
      · skip
        have d33 := c33
        rw [fa_le] at d33
        refine lv_lload hx hb dX0_hangsTogether_102 (lv_at hl 1 rfl) ?_
        refine lv_lload_n hx hb dX0_hangsTogether_104 rfl (lv_at hl 5 rfl) ?_
        refine W.lcmp hx hb dX0_hangsTogether_105 ?_
        refine lv_if_ne (tgt := 113) hx hb dX0_hangsTogether_106 (by decide) (fun c106 => ?_) (fun c106 => ?_)
        · skip
          have d106 := c106
          rw [lg_cmp_eq, fa_eq64] at d106
          refine lv_iconst (v := 0) hx hb dX0_hangsTogether_113 (by decide) ?_
          exact W.zret (v := (0 : Int32)) hx hb hr (by decide) (fun t ht hW => ⟨⟨_, (G, ws), rfl, ⟨rfl, Or.inr ⟨rfl, (j_no j27_1 (fun z9 => c106 ((lg_cmp_eq _ _).mpr z9)) hp9 m9.2 (by first | omega | exact absurd c40 c106))⟩⟩, by show va_P D vwCl ws t.heap; rw [ht]; exact hP, hD, hT⟩, hS.F ht⟩) hS.2.2 dX0_hangsTogether_114
        · skip
          have d106 := c106
          rw [lg_cmp_eq, fa_eq64] at d106
          refine lv_iconst (v := 1) hx hb dX0_hangsTogether_109 (by decide) ?_
          refine lv_goto (tgt := 114) hx hb dX0_hangsTogether_110 (by decide) ?_
          exact W.zret (v := (1 : Int32)) hx hb hr (by decide) (fun t ht hW => ⟨⟨_, (G, ws), rfl, ⟨rfl, Or.inl ⟨rfl, (j_yes j27_1 ((lg_cmp_eq _ _).mp c106) m9.2)⟩⟩, by show va_P D vwCl ws t.heap; rw [ht]; exact hP, hD, hT⟩, hS.F ht⟩) hS.2.2 dX0_hangsTogether_114
      · skip
        have d33 := c33
        rw [fa_le] at d33
        refine lv_lload hx hb dX0_hangsTogether_36 (lv_at hl 1 rfl) ?_
        refine lv_lload_n hx hb dX0_hangsTogether_38 rfl (lv_at hl 5 rfl) ?_
        refine W.lcmp hx hb dX0_hangsTogether_39 ?_
        refine lv_if_eq (tgt := 102) hx hb dX0_hangsTogether_40 (by decide) (fun c40 => ?_) (fun c40 => ?_)
        · skip
          have d40 := c40
          rw [lg_cmp_eq, fa_eq64] at d40
          refine lv_lload hx hb dX0_hangsTogether_102 (lv_at hl 1 rfl) ?_
          refine lv_lload_n hx hb dX0_hangsTogether_104 rfl (lv_at hl 5 rfl) ?_
          refine W.lcmp hx hb dX0_hangsTogether_105 ?_
          refine lv_if_ne (tgt := 113) hx hb dX0_hangsTogether_106 (by decide) (fun c106 => ?_) (fun c106 => ?_)
          · skip
            have d106 := c106
            rw [lg_cmp_eq, fa_eq64] at d106
            refine lv_iconst (v := 0) hx hb dX0_hangsTogether_113 (by decide) ?_
            exact W.zret (v := (0 : Int32)) hx hb hr (by decide) (fun t ht hW => ⟨⟨_, (G, ws), rfl, ⟨rfl, Or.inr ⟨rfl, (j_no j27_1 (fun z9 => c106 ((lg_cmp_eq _ _).mpr z9)) hp9 m9.2 (by first | omega | exact absurd c40 c106))⟩⟩, by show va_P D vwCl ws t.heap; rw [ht]; exact hP, hD, hT⟩, hS.F ht⟩) hS.2.2 dX0_hangsTogether_114
          · skip
            have d106 := c106
            rw [lg_cmp_eq, fa_eq64] at d106
            refine lv_iconst (v := 1) hx hb dX0_hangsTogether_109 (by decide) ?_
            refine lv_goto (tgt := 114) hx hb dX0_hangsTogether_110 (by decide) ?_
            exact W.zret (v := (1 : Int32)) hx hb hr (by decide) (fun t ht hW => ⟨⟨_, (G, ws), rfl, ⟨rfl, Or.inl ⟨rfl, (j_yes j27_1 ((lg_cmp_eq _ _).mp c106) m9.2)⟩⟩, by show va_P D vwCl ws t.heap; rw [ht]; exact hP, hD, hT⟩, hS.F ht⟩) hS.2.2 dX0_hangsTogether_114
        · skip
          have d40 := c40
          rw [lg_cmp_eq, fa_eq64] at d40
          refine lv_lload hx hb dX0_hangsTogether_43 (lv_at hl 1 rfl) ?_
          refine lv_lload hx hb dX0_hangsTogether_45 (lv_at hl 2 rfl) ?_
          refine lv_ldc2 hx hb hown (hts (.constantLong RX0 73 (-1)) (by decide +kernel)) dX0_hangsTogether_47 ?_
          refine lv_lxor hx hb dX0_hangsTogether_50 ?_
          refine lv_topl (fun v50 e50 => ?_)
          refine lv_land hx hb dX0_hangsTogether_51 ?_
          refine lv_topl (fun v51 e51 => ?_)
          refine lv_iconst (v := 1) hx hb dX0_hangsTogether_52 (by decide) ?_
          refine lv_lshl (v := v51 <<< ((1 : Int32).toInt64 &&& 63)) hx hb dX0_hangsTogether_53 rfl ?_
          refine lv_lload hx hb dX0_hangsTogether_54 (lv_at hl 1 rfl) ?_
          refine lv_lload_n hx hb dX0_hangsTogether_56 rfl (lv_at hl 3 rfl) ?_
          refine lv_ldc2 hx hb hown (hts (.constantLong RX0 73 (-1)) (by decide +kernel)) dX0_hangsTogether_57 ?_
          refine lv_lxor hx hb dX0_hangsTogether_60 ?_
          refine lv_topl (fun v60 e60 => ?_)
          refine lv_land hx hb dX0_hangsTogether_61 ?_
          refine lv_topl (fun v61 e61 => ?_)
          refine lv_iconst (v := 1) hx hb dX0_hangsTogether_62 (by decide) ?_
          refine lv_lushr (v := (v61.toUInt64 >>> ((1 : Int32).toInt64.toUInt64 &&& Int64.toUInt64 63)).toInt64) hx hb dX0_hangsTogether_63 rfl ?_
          refine lv_lor hx hb dX0_hangsTogether_64 ?_
          refine lv_topl (fun v64 e64 => ?_)
          refine lv_lstore (lv' := [(10, .long v64), (9, .int (nI k)), (7, .long x7), (5, .long (v6 <<< (v14.toInt64 &&& 63))), (3, .long v6), (0, .ref o), (1, .long p0)]) hx hb dX0_hangsTogether_65 hl (by decide) rfl (fun ls hl => ?_)
          refine lv_lload hx hb dX0_hangsTogether_67 (lv_at hl 2 rfl) ?_
          refine lv_aload_n hx hb dX0_hangsTogether_69 rfl (lv_at hl 5 rfl) ?_
          refine t_get (v := .int (nI w)) (C := RX0) (T := TX0) (N := 8) hx hb hts (by decide +kernel) hown hK hP hM_o rfl 0 (by decide) (hts (.fieldLink RX0 13 "ShadowBench$Board" "wide" "I") (by decide +kernel)) (fun _ h9 => h9) rfl dX0_hangsTogether_70 ?_
          refine lv_lshl (v := x7 <<< ((nI w).toInt64 &&& 63)) hx hb dX0_hangsTogether_73 rfl ?_
          refine lv_lload hx hb dX0_hangsTogether_74 (lv_at hl 2 rfl) ?_
          refine lv_aload_n hx hb dX0_hangsTogether_76 rfl (lv_at hl 5 rfl) ?_
          refine t_get (v := .int (nI w)) (C := RX0) (T := TX0) (N := 8) hx hb hts (by decide +kernel) hown hK hP hM_o rfl 0 (by decide) (hts (.fieldLink RX0 13 "ShadowBench$Board" "wide" "I") (by decide +kernel)) (fun _ h9 => h9) rfl dX0_hangsTogether_77 ?_
          refine lv_lushr (v := (x7.toUInt64 >>> ((nI w).toInt64.toUInt64 &&& Int64.toUInt64 63)).toInt64) hx hb dX0_hangsTogether_80 rfl ?_
          refine lv_lor hx hb dX0_hangsTogether_81 ?_
          refine lv_topl (fun v81 e81 => ?_)
          refine lv_lstore (lv' := [(12, .long v81), (10, .long v64), (9, .int (nI k)), (7, .long x7), (5, .long (v6 <<< (v14.toInt64 &&& 63))), (3, .long v6), (0, .ref o), (1, .long p0)]) hx hb dX0_hangsTogether_82 hl (by decide) rfl (fun ls hl => ?_)
          refine lv_lload hx hb dX0_hangsTogether_84 (lv_at hl 3 rfl) ?_
          refine lv_lload hx hb dX0_hangsTogether_86 (lv_at hl 1 rfl) ?_
          refine lv_lload hx hb dX0_hangsTogether_88 (lv_at hl 0 rfl) ?_
          refine lv_lor hx hb dX0_hangsTogether_90 ?_
          refine lv_topl (fun v90 e90 => ?_)
          refine lv_lload_n hx hb dX0_hangsTogether_91 rfl (lv_at hl 7 rfl) ?_
          refine lv_land hx hb dX0_hangsTogether_92 ?_
          refine lv_topl (fun v92 e92 => ?_)
          refine lv_lor hx hb dX0_hangsTogether_93 ?_
          refine lv_topl (fun v93 e93 => ?_)
          have hst := j_step hb9 hp9 e6 e14 rfl e50 e51 e60 e61 e64 e81 e90 e92 e93 j27_1
          rw [show k - 1 + 1 = k + 1 - 1 by omega] at hst
          refine lv_lstore (lv' := [(7, .long v93), (12, .long v81), (10, .long v64), (9, .int (nI k)), (5, .long (v6 <<< (v14.toInt64 &&& 63))), (3, .long v6), (0, .ref o), (1, .long p0)]) hx hb dX0_hangsTogether_94 hl (by decide) rfl (fun ls hl => ?_)
          refine lv_iinc (v := (nI (k + 1))) (lv' := [(9, .int (nI (k + 1))), (7, .long v93), (12, .long v81), (10, .long v64), (5, .long (v6 <<< (v14.toInt64 &&& 63))), (3, .long v6), (0, .ref o), (1, .long p0)]) hx hb dX0_hangsTogether_96 hl (k := 3) rfl (nI_1 _) (by decide) rfl (fun ls hl => ?_)
          refine lv_goto (tgt := 27) hx hb dX0_hangsTogether_99 (by decide) ?_
          exact ih_27 (k + 1) v93 (by omega) (hst) (by omega) _ _ hP hS  ls (lv_sub hl [0, 1, 4, 5, 6, 7] rfl)
  exact loop_27 (36 + 1) 1 v21 (by omega) (j_low e20 e21 w h) (by omega) _ _ hP hS  ls (lv_sub hl [0, 1, 2, 3, 4, 5] rfl)
set_option maxHeartbeats 4000000 in
set_option maxRecDepth 100000 in
theorem c_X9_joined_x (l : Launch) (D : va_G) (cy : Nat → ClassId) (A : Nat → Prop) (G : cG) (ws : va_W) (o : Nat) (wide : Int32) (high : Int32) (p0 : Int64)  (hD : va_D A ws) (hT : cT cy G ws) (hG_o : G o = some (7, 0, 0))  : Ci l D cy A yX9_joined wsX9_joined ({ frames := 5, cells := 4, slots := 502, locals := 116 }) 4 502 ws [.ref o, .int wide, .int high, .long p0] (fun r0 u => cX none (chs [1, 8]) G ws u.1 u.2 ∧ (joA wide high p0 r0)) := by
  refine Met.ofW (cc := cX9_joined) (maxL := 6) (ret := (some .int)) (by decide) rfl ?_
  intro p e s m args below meth c s₁ B hml hv
  obtain ⟨rfl, hP, hK, hA, hV⟩ := hv
  have hx := B.exec
  have hb := B.bytes
  have hr := B.returns
  have hts := atoms_spec (ws := wsX9_joined) B.pre
  have hown : s.vm.findClass RX9 = some m.cls := findClass_of_methodNamed B.named
  have hlocks := B.notSynchronized
  have hS : va_S A s.heap s.heap [] := va_S.rf
  have hX : cX none (chs [1, 8]) G ws G ws := cX.rf
  have hl := lv_entry ([.ref o, .int wide, .int high, .long p0]) (n := 6) (Nat.le_of_ble_eq_true rfl)
  rw [lg_entry_eq]
  generalize (lg_sl ([.ref o, .int wide, .int high, .long p0]) ++ List.replicate (6 - (lg_sl ([.ref o, .int wide, .int high, .long p0])).length) Slot.unset).toArray = ls at hl ⊢
  have hl : lv_has ls 6 [(0, .ref o), (1, .int wide), (2, .int high), (3, .long p0)] := hl
  have k_m1 : (-1 : Int32).toInt = -1 := by decide
  have k_0 : (0 : Int32).toInt = 0 := by decide
  have k_1 : (1 : Int32).toInt = 1 := by decide
  refine lv_aload_n hx hb dX9_joined_0 rfl (lv_at hl 0 rfl) ?_
  refine lv_iload_n hx hb dX9_joined_1 rfl (lv_at hl 1 rfl) ?_
  refine lv_iload_n hx hb dX9_joined_2 rfl (lv_at hl 2 rfl) ?_
  obtain ⟨_, hM_o, bs_o, js_o, sh_o, wk_o, ll_o, jc_o, lc_o, mo_o, lb_o, rfl, hjc_o, hlc_o, hG_bs_o, hG_js_o, hG_sh_o, hG_wk_o, hmo_o, hG_ll_o, hlb_o⟩ := hT _ _ hG_o
  refine t_calla (va_runV (g := F0 m 3 ls ([.int high, .int wide, .ref o])) (As := [.int wide, .int high]) (rest := []) ⟨hx, hb, hml, hown, hts⟩ (c_X9_boardOf_x l D cy A G ws o wide high hD hT hG_o ) (cwV 2 hts gX9_joined_X9_boardOf rfl rfl rfl (by decide +kernel) ⟨Nat.le_of_ble_eq_true rfl, Nat.le_of_ble_eq_true rfl⟩) (c_preV hM_o rfl hP hK hA hS hV) rfl rfl hl.1 rfl (lv_room (Nat.le_of_ble_eq_true rfl)) dX9_joined_3 ⟨Nat.le_of_ble_eq_true rfl, Nat.le_of_ble_eq_true rfl⟩) hS (fun r3 u H locs q3 hP9 hD9 hT9 hS => ?_)
  obtain ⟨G3, w3⟩ := u
  obtain ⟨hX9, q3⟩ := q3
  have hX9 : cX none (chs [1, 8]) G ws G3 w3 := hX9
  have hP : va_P D vwCl w3 H := hP9
  have hD : va_D A w3 := hD9
  have hT : cT cy G3 w3 := hT9
  have hM_o := hX9.2.1 _ _ (cP.no hG_o rfl) hM_o
  have hG_o := hX9.1 _ _ hG_o
  have hG_bs_o := hX9.1 _ _ hG_bs_o
  have hG_js_o := hX9.1 _ _ hG_js_o
  have hG_sh_o := hX9.1 _ _ hG_sh_o
  have hG_wk_o := hX9.1 _ _ hG_wk_o
  have hG_ll_o := hX9.1 _ _ hG_ll_o
  have hX := hX.tr hX9
  rcases r3 with _ | x3
  · skip
    have vn3 := q3.2.1 rfl
    refine lv_astoreN (lv' := [(5, .null), (0, .ref o), (1, .int wide), (2, .int high), (3, .long p0)]) hx hb dX9_joined_6 hl (by decide) rfl (fun ls hl => ?_)
    refine lv_aloadN hx hb dX9_joined_8 (lv_at hl 0 rfl) ?_
    refine lv_ifnullN (tgt := 22) hx hb dX9_joined_10 (by decide) ?_
    refine lv_iconst (v := (-1)) hx hb dX9_joined_22 (by decide) ?_
    refine W.widen (k := 4) (n := 502) (Nat.le_of_ble_eq_true rfl) (Nat.le_of_ble_eq_true rfl) ?_
    exact W.iret (v := ((-1) : Int32)) hx hb hr (fun t ht hW => ⟨⟨_, (G3, w3), rfl, ⟨hX, (Or.inr ⟨(fun z9 => by first | exact vn3 z9.1 | exact b19 z9.2), rfl⟩)⟩, by show va_P D vwCl w3 t.heap; rw [ht]; exact hP, hD, hT⟩, hS.F ht⟩) hS.2.2 dX9_joined_23
  · skip
    have hG_x3 := q3.1 x3 rfl
    have vb3 := q3.2.2 x3 rfl
    refine lv_astore (lv' := [(5, .ref x3), (0, .ref o), (1, .int wide), (2, .int high), (3, .long p0)]) hx hb dX9_joined_6 hl (by decide) rfl (fun ls hl => ?_)
    refine lv_aload hx hb dX9_joined_8 (lv_at hl 0 rfl) ?_
    refine lv_ifnull hx hb dX9_joined_10 ?_
    refine lv_aload hx hb dX9_joined_13 (lv_at hl 0 rfl) ?_
    refine lv_lload_n hx hb dX9_joined_15 rfl (lv_at hl 4 rfl) ?_
    obtain ⟨_, hM_x3, hb_x3, l_x3, f_x3, r_x3, rfl, hG_l_x3, hG_f_x3, hG_r_x3⟩ := hT _ _ hG_x3
    refine t_calli (va_runV (g := F0 m 16 ls ([.long p0, .ref x3])) (As := [.long p0]) (rest := []) ⟨hx, hb, hml, hown, hts⟩ (c_X0_isPicture_x l D cy A G3 w3 x3 p0 hD hT hG_x3 ) (cwV 1 hts gX9_joined_X0_isPicture rfl rfl rfl (by decide +kernel) ⟨Nat.le_of_ble_eq_true rfl, Nat.le_of_ble_eq_true rfl⟩) (c_preV hM_x3 rfl hP hK hA hS hV) rfl rfl hl.1 rfl (lv_room (Nat.le_of_ble_eq_true rfl)) dX9_joined_16 ⟨Nat.le_of_ble_eq_true rfl, Nat.le_of_ble_eq_true rfl⟩) hS (fun r16 u H locs q16 hP9 hD9 hT9 hS => ?_)
    obtain ⟨rfl, q16⟩ := q16
    have hP : va_P D vwCl w3 H := hP9
    refine lv_if_ne (tgt := 24) hx hb dX9_joined_19 (by decide) (fun c19 => ?_) (fun c19 => ?_)
    · skip
      have b19 := bo_t q16 c19
      refine lv_aload hx hb dX9_joined_24 (lv_at hl 0 rfl) ?_
      refine lv_lload_n hx hb dX9_joined_26 rfl (lv_at hl 4 rfl) ?_
      refine t_calli (va_runV (g := F0 m 27 ls ([.long p0, .ref x3])) (As := [.long p0]) (rest := []) ⟨hx, hb, hml, hown, hts⟩ (c_X0_hangsTogether_x l D cy A G3 w3 x3 p0 hD hT hG_x3 b19) (cwV 1 hts gX9_joined_X0_hangsTogether rfl rfl rfl (by decide +kernel) ⟨Nat.le_of_ble_eq_true rfl, Nat.le_of_ble_eq_true rfl⟩) (c_preV hM_x3 rfl hP hK hA hS hV) rfl rfl hl.1 rfl (lv_room (Nat.le_of_ble_eq_true rfl)) dX9_joined_27 ⟨Nat.le_of_ble_eq_true rfl, Nat.le_of_ble_eq_true rfl⟩) hS (fun r27 u H locs q27 hP9 hD9 hT9 hS => ?_)
      obtain ⟨rfl, q27⟩ := q27
      have hP : va_P D vwCl w3 H := hP9
      refine lv_if_eq (tgt := 37) hx hb dX9_joined_30 (by decide) (fun c30 => ?_) (fun c30 => ?_)
      · skip
        have b30 := bo_f q27 c30
        refine lv_iconst (v := 0) hx hb dX9_joined_37 (by decide) ?_
        refine W.widen (k := 4) (n := 502) (Nat.le_of_ble_eq_true rfl) (Nat.le_of_ble_eq_true rfl) ?_
        exact W.iret (v := (0 : Int32)) hx hb hr (fun t ht hW => ⟨⟨_, (G3, w3), rfl, ⟨hX, (Or.inl ⟨⟨vb3, b19⟩, Or.inr ⟨b30, rfl⟩⟩)⟩, by show va_P D vwCl w3 t.heap; rw [ht]; exact hP, hD, hT⟩, hS.F ht⟩) hS.2.2 dX9_joined_38
      · skip
        have b30 := bo_t q27 c30
        refine lv_iconst (v := 1) hx hb dX9_joined_33 (by decide) ?_
        refine lv_goto (tgt := 38) hx hb dX9_joined_34 (by decide) ?_
        refine W.widen (k := 4) (n := 502) (Nat.le_of_ble_eq_true rfl) (Nat.le_of_ble_eq_true rfl) ?_
        exact W.iret (v := (1 : Int32)) hx hb hr (fun t ht hW => ⟨⟨_, (G3, w3), rfl, ⟨hX, (Or.inl ⟨⟨vb3, b19⟩, Or.inl ⟨b30, rfl⟩⟩)⟩, by show va_P D vwCl w3 t.heap; rw [ht]; exact hP, hD, hT⟩, hS.F ht⟩) hS.2.2 dX9_joined_38
    · skip
      have b19 := bo_f q16 c19
      refine lv_iconst (v := (-1)) hx hb dX9_joined_22 (by decide) ?_
      refine W.widen (k := 4) (n := 502) (Nat.le_of_ble_eq_true rfl) (Nat.le_of_ble_eq_true rfl) ?_
      exact W.iret (v := ((-1) : Int32)) hx hb hr (fun t ht hW => ⟨⟨_, (G3, w3), rfl, ⟨hX, (Or.inr ⟨(fun z9 => by first | exact vn3 z9.1 | exact b19 z9.2), rfl⟩)⟩, by show va_P D vwCl w3 t.heap; rw [ht]; exact hP, hD, hT⟩, hS.F ht⟩) hS.2.2 dX9_joined_23

set_option maxHeartbeats 4000000 in
set_option maxRecDepth 100000 in
theorem c_X10_isJoined_x (l : Launch) (D : va_G) (cy : Nat → ClassId) (mo : Nat) (a : Nat → Nat) (f : Nat → Int32) (g : Nat → Int64) (r : Nat → Nat → Int32) (q : Nat → Nat → Int64) (w : Int32) (h : Int32) (p0 : Int64) (hD : DM cy mo a) (hw : 1 ≤ w.toInt ∧ w.toInt ≤ 6) (hh : 1 ≤ h.toInt ∧ h.toInt ≤ 6) : Mi l D cy mo a yX10_isJoined wsX10_isJoined ({ frames := 1, cells := 0, slots := 0, locals := 22 }) f g r q [.int w, .int h, .long p0] (fun r0 u => ∃ (mt : Nat → Int32), u = (f, g, (va_up r 9 mt), q) ∧ (Bo r0 (jOK w.toNatClampNeg h.toNatClampNeg p0))) := by
  refine Met.ofW (cc := cX10_isJoined) (maxL := 9) (ret := (some .boolean)) (by decide) rfl ?_
  intro p e s m args below meth c s₁ B hml hv
  obtain ⟨rfl, hP, hK⟩ := hv
  have hx := B.exec
  have hb := B.bytes
  have hr := B.returns
  have hts := atoms_spec (ws := wsX10_isJoined) B.pre
  have hin : ∀ w ∈ u_ws RX10 TX10 35, w ∈ wsX10_isJoined := by decide +kernel
  have hown : s.vm.findClass RX10 = some m.cls := findClass_of_methodNamed B.named
  have hlocks := B.notSynchronized
  have hS : va_S (AM mo a) s.heap s.heap [] := va_S.rf
  have hl := lv_entry ([.ref mo, .int w, .int h, .long p0]) (n := 9) (Nat.le_of_ble_eq_true rfl)
  rw [lg_entry_eq]
  generalize (lg_sl ([.ref mo, .int w, .int h, .long p0]) ++ List.replicate (9 - (lg_sl ([.ref mo, .int w, .int h, .long p0])).length) Slot.unset).toArray = ls at hl ⊢
  have hl : lv_has ls 9 [(0, .ref mo), (1, .int w), (2, .int h), (3, .long p0)] := hl
  have k_m1 : (-1 : Int32).toInt = -1 := by decide
  have k_0 : (0 : Int32).toInt = 0 := by decide
  have k_1 : (1 : Int32).toInt = 1 := by decide
  have hwh := mul66 hw hh
  obtain ⟨ha, hb9, h36, hwn⟩ := wh36 hw hh
  have ew := cl_nI (w := w) (by omega)
  have eh := cl_nI (w := h) (by omega)
  obtain ⟨A9, hA9⟩ : ∃ z, z = w.toNatClampNeg := ⟨_, rfl⟩
  obtain ⟨B9, hB9⟩ : ∃ z, z = h.toNatClampNeg := ⟨_, rfl⟩
  rw [← hA9] at ha h36 hwn ew
  rw [← hB9] at hb9 h36 hwn eh
  have aw : w.toInt = (A9 : Int) := by rw [← ew]; exact nI_toInt (by omega)
  refine lv_iconst (v := (-1)) hx hb dX10_isJoined_0 (by decide) ?_
  refine lv_istore (lv' := [(5, .int ((-1) : Int32)), (0, .ref mo), (1, .int w), (2, .int h), (3, .long p0)]) hx hb dX10_isJoined_1 hl (by decide) rfl (fun ls hl => ?_)
  refine lv_iload_n hx hb dX10_isJoined_3 rfl (lv_at hl 2 rfl) ?_
  refine lv_iload_n hx hb dX10_isJoined_4 rfl (lv_at hl 3 rfl) ?_
  refine lv_imul hx hb dX10_isJoined_5 ?_
  refine lv_topi (fun v5 e5 => ?_)
  have i5 : v5.toInt = w.toInt * h.toInt := by rw [e5]; exact fb_mulI (by omega) (by omega)
  refine lv_iconst (v := 1) hx hb dX10_isJoined_6 (by decide) ?_
  refine lv_isub hx hb dX10_isJoined_7 ?_
  refine lv_topi (fun v7 e7 => ?_)
  have i7 : v7.toInt = v5.toInt - (1 : Int32).toInt := by rw [e7]; exact fb_subI (by omega) (by omega)
  refine lv_istore (lv' := [(6, .int v7), (5, .int ((-1) : Int32)), (0, .ref mo), (1, .int w), (2, .int h), (3, .long p0)]) hx hb dX10_isJoined_8 hl (by decide) rfl (fun ls hl => ?_)
  have loop_10 : ∀ (n : Nat) (x6 : Int32) (x5 : Int32) (mt0 : Nat → Int32), (-1 ≤ x6.toInt ∧ x6.toInt < w.toInt * h.toInt) → (-1 ≤ x5.toInt ∧ x5.toInt < w.toInt * h.toInt) → (∀ e : Nat, e < A9 * B9 → x6.toInt < (e : Int) → mt0 e = 0) → ((x5.toInt = -1 ∧ ∀ s : Nat, s < A9 * B9 → x6.toInt < (s : Int) → lb p0 s = false) ∨ (x6.toInt < x5.toInt ∧ lb p0 x5.toNatClampNeg = true ∧ ∀ s : Nat, x6.toInt < (s : Int) → s < x5.toNatClampNeg → lb p0 s = false)) → (x6.toInt + 1).toNat < n → ∀ (H : Heap) (locs : List Loc), va_P D vwCl (WM cy mo a f g (va_up r 9 mt0) q) H → va_S (AM mo a) s.heap H locs → ∀ (ls : Array Slot), lv_has ls 9 [(6, .int x6), (5, .int x5), (0, .ref mo), (1, .int w), (2, .int h), (3, .long p0)] → W p l e (headSpec wsX10_isJoined ({ frames := 1, cells := 0, slots := 0, locals := 22 })).room s m #[Value.ref mo, Value.int w, Value.int h, Value.long p0] below meth c H locs 0 0 (MQ below (va_Qi (fun r0 u => ∃ (mt : Nat → Int32), u = (f, g, (va_up r 9 mt), q) ∧ (Bo r0 (jOK w.toNatClampNeg h.toNatClampNeg p0))) (mB D cy mo a) (AM mo a)) #[Value.ref mo, Value.int w, Value.int h, Value.long p0] s 0 0 (AM mo a)) (F0 m 10 ls []) := by
    intro n
    induction n with
    | zero => intro x6 x5 mt0 j10_0 j10_1 j10_2 j10_3 hn; exact absurd hn (Nat.not_lt_zero _)
    | succ n ih_10 =>
      intro x6 x5 mt0 j10_0 j10_1 j10_2 j10_3 hn_10 H locs hP hS ls hl
      refine lv_iload hx hb dX10_isJoined_10 (lv_at hl 0 rfl) ?_
      refine lv_if_lt (tgt := 48) hx hb dX10_isJoined_12 (by decide) (fun c12 => ?_) (fun c12 => ?_)
      · skip
        have d12 := c12
        rw [fa_lt] at d12
        have hz : ∀ e, e < A9 * B9 → mt0 e = 0 := fun e he => j10_2 e he (by omega)
        refine lv_iload hx hb dX10_isJoined_48 (lv_at hl 1 rfl) ?_
        refine lv_if_ge (tgt := 55) hx hb dX10_isJoined_50 (by decide) (fun c50 => ?_) (fun c50 => ?_)
        · skip
          have d50 := c50
          rw [fa_le] at d50
          refine lv_aload_n hx hb dX10_isJoined_55 rfl (lv_at hl 2 rfl) ?_
          refine m_get (v := .ref (a 9)) hx hb hts hin hown hK hP 9 (by decide) rfl (hts (.fieldLink RX10 32 "ShadowBenchModel" "met" "[Z") (by decide +kernel)) rfl dX10_isJoined_56 ?_
          refine lv_iload hx hb dX10_isJoined_59 (lv_at hl 1 rfl) ?_
          refine lv_iconst (v := 1) hx hb dX10_isJoined_61 (by decide) ?_
          refine m_zast (w := mt0) hx hb hK hP hD hS 8 rfl (vp_in_iff.mpr ⟨by omega, by omega⟩) (va_up r 9 ((upd mt0 x5.toNatClampNeg ((1 : Int32) &&& 1)))) rfl dX10_isJoined_62 (fun H locs hP hS => ?_)
          have cx5 := m_cl (x := x5) (by omega)
          have hfirst : jR A9 B9 p0 0 x5.toNatClampNeg := by
            rcases j10_3 with ⟨z1, z2⟩ | ⟨z1, z2, z3⟩
            · exfalso; omega
            · exact ⟨z2, fun j hj => z3 j (by omega) hj⟩
          refine lv_iconst (v := 1) hx hb dX10_isJoined_63 (by decide) ?_
          refine lv_istore (lv' := [(6, .int (1 : Int32)), (5, .int x5), (0, .ref mo), (1, .int w), (2, .int h), (3, .long p0)]) hx hb dX10_isJoined_64 hl (by decide) rfl (fun ls hl => ?_)
          have loop_66 : ∀ (n : Nat) (xm : Int32) (mt : Nat → Int32), (xm = 0 ∨ xm = 1) → (∀ e, e < A9 * B9 → ¬ mt e = 0 → ∃ k, jR A9 B9 p0 k e) → (¬ mt x5.toNatClampNeg = 0) → (xm = 0 → (∀ s, s < A9 * B9 → lb p0 s = true → (∃ t, t < A9 * B9 ∧ ¬ mt t = 0 ∧ nbr A9 t s) → ¬ mt s = 0)) → mz xm mt < n → ∀ (H : Heap) (locs : List Loc), va_P D vwCl (WM cy mo a f g (va_up r 9 mt) q) H → va_S (AM mo a) s.heap H locs → ∀ (ls : Array Slot), lv_has ls 9 [(6, .int xm), (5, .int x5), (0, .ref mo), (1, .int w), (2, .int h), (3, .long p0)] → W p l e (headSpec wsX10_isJoined ({ frames := 1, cells := 0, slots := 0, locals := 22 })).room s m #[Value.ref mo, Value.int w, Value.int h, Value.long p0] below meth c H locs 0 0 (MQ below (va_Qi (fun r0 u => ∃ (mt : Nat → Int32), u = (f, g, (va_up r 9 mt), q) ∧ (Bo r0 (jOK w.toNatClampNeg h.toNatClampNeg p0))) (mB D cy mo a) (AM mo a)) #[Value.ref mo, Value.int w, Value.int h, Value.long p0] s 0 0 (AM mo a)) (F0 m 66 ls []) := by
            intro n
            induction n with
            | zero => intro xm mt j66_0 j66_1 j66_2 j66_3 hn; exact absurd hn (Nat.not_lt_zero _)
            | succ n ih_66 =>
              intro xm mt j66_0 j66_1 j66_2 j66_3 hn_66 H locs hP hS ls hl
              refine lv_iload hx hb dX10_isJoined_66 (lv_at hl 0 rfl) ?_
              refine lv_if_eq (tgt := 218) hx hb dX10_isJoined_68 (by decide) (fun c68 => ?_) (fun c68 => ?_)
              · skip
                have d68 := c68
                rw [fa_eq] at d68
                refine lv_iconst (v := 1) hx hb dX10_isJoined_218 (by decide) ?_
                refine lv_istore (lv' := [(7, .int (1 : Int32)), (6, .int xm), (5, .int x5), (0, .ref mo), (1, .int w), (2, .int h), (3, .long p0)]) hx hb dX10_isJoined_219 hl (by decide) rfl (fun ls hl => ?_)
                refine lv_iconst (v := 0) hx hb dX10_isJoined_221 (by decide) ?_
                refine lv_istore (lv' := [(8, .int (0 : Int32)), (7, .int (1 : Int32)), (6, .int xm), (5, .int x5), (0, .ref mo), (1, .int w), (2, .int h), (3, .long p0)]) hx hb dX10_isJoined_222 hl (by decide) rfl (fun ls hl => ?_)
                have loop_224 : ∀ (n : Nat) (i : Nat) (xa : Int32), (i ≤ A9 * B9) → ((xa = 1 ∧ ∀ s, s < i → lb p0 s = true → ¬ mt s = 0) ∨ (xa = 0 ∧ ¬ ∀ s, s < i → lb p0 s = true → ¬ mt s = 0)) → 36 - i < n → ∀ (H : Heap) (locs : List Loc), va_P D vwCl (WM cy mo a f g (va_up r 9 mt) q) H → va_S (AM mo a) s.heap H locs → ∀ (ls : Array Slot), lv_has ls 9 [(8, .int (nI i)), (7, .int xa), (6, .int xm), (5, .int x5), (0, .ref mo), (1, .int w), (2, .int h), (3, .long p0)] → W p l e (headSpec wsX10_isJoined ({ frames := 1, cells := 0, slots := 0, locals := 22 })).room s m #[Value.ref mo, Value.int w, Value.int h, Value.long p0] below meth c H locs 0 0 (MQ below (va_Qi (fun r0 u => ∃ (mt : Nat → Int32), u = (f, g, (va_up r 9 mt), q) ∧ (Bo r0 (jOK w.toNatClampNeg h.toNatClampNeg p0))) (mB D cy mo a) (AM mo a)) #[Value.ref mo, Value.int w, Value.int h, Value.long p0] s 0 0 (AM mo a)) (F0 m 224 ls []) := by
                  intro n
                  induction n with
                  | zero => intro i xa  j224_0 j224_1 hn; exact absurd hn (Nat.not_lt_zero _)
                  | succ n ih_224 =>
                    intro i xa  j224_0 j224_1 hn_224 H locs hP hS ls hl
                    have ii : (nI i).toInt = (i : Int) := nI_toInt (by omega)
                    refine lv_iload hx hb dX10_isJoined_224 (lv_at hl 0 rfl) ?_
                    refine lv_iload_n hx hb dX10_isJoined_226 rfl (lv_at hl 5 rfl) ?_
                    refine lv_iload_n hx hb dX10_isJoined_227 rfl (lv_at hl 6 rfl) ?_
                    refine lv_imul hx hb dX10_isJoined_228 ?_
                    refine lv_topi (fun v228 e228 => ?_)
                    have i228 : v228.toInt = w.toInt * h.toInt := by rw [e228]; exact fb_mulI (by omega) (by omega)
                    refine lv_icmp_ge (tgt := 269) hx hb dX10_isJoined_229 (by decide) (fun c229 => ?_) (fun c229 => ?_)
                    · skip
                      have d229 := c229
                      rw [fa_le] at d229
                      refine lv_iload hx hb dX10_isJoined_269 (lv_at hl 1 rfl) ?_
                      exact W.zret (v := xa) hx hb hr (by first | decide | (rcases j224_1 with ⟨z, _⟩ | ⟨z, _⟩ <;> rw [z] <;> rfl)) (fun t ht hW => ⟨⟨_, (f, g, (va_up r 9 mt), q), rfl, ⟨mt, rfl, (by rw [← hA9, ← hB9]; rcases j224_1 with ⟨z, y⟩ | ⟨z, y⟩; exact Or.inl ⟨z, fun s hs hp => j66_1 s hs (y s (by omega) hp)⟩; exact Or.inr ⟨z, fun hok => y (fun s hs hp => by obtain ⟨k, hk⟩ := hok s (by omega) hp; exact j_closed (M := fun e => ¬ mt e = 0) hfirst j66_2 (j66_3 c68) k s hk)⟩)⟩, by unfold mB; rw [ht]; exact hP⟩, hS.F ht⟩) hS.2.2 dX10_isJoined_271
                    · skip
                      have d229 := c229
                      rw [fa_le] at d229
                      refine lv_iload hx hb dX10_isJoined_232 (lv_at hl 1 rfl) ?_
                      refine lv_if_eq (tgt := 260) hx hb dX10_isJoined_234 (by decide) (fun c234 => ?_) (fun c234 => ?_)
                      · skip
                        have d234 := c234
                        rw [fa_eq] at d234
                        refine lv_iconst (v := 0) hx hb dX10_isJoined_260 (by decide) ?_
                        refine lv_istore (lv' := [(7, .int (0 : Int32)), (8, .int (nI i)), (6, .int xm), (5, .int x5), (0, .ref mo), (1, .int w), (2, .int h), (3, .long p0)]) hx hb dX10_isJoined_261 hl (by decide) rfl (fun ls hl => ?_)
                        refine lv_iinc (v := (nI (i + 1))) (lv' := [(8, .int (nI (i + 1))), (7, .int (0 : Int32)), (6, .int xm), (5, .int x5), (0, .ref mo), (1, .int w), (2, .int h), (3, .long p0)]) hx hb dX10_isJoined_263 hl (k := 1) rfl (nI_1 _) (by decide) rfl (fun ls hl => ?_)
                        refine lv_goto (tgt := 224) hx hb dX10_isJoined_266 (by decide) ?_
                        exact ih_224 (i + 1) (0 : Int32) (by omega) (by
                                                                                          first
                                                                                          | exact Or.inl ⟨rfl, fun s h1 h2 => by
                                                                                              by_cases e9 : s = i
                                                                                              · rw [e9] at h2 ⊢
                                                                                                first
                                                                                                | (rw [h2] at f240; exact absurd (c243.symm.trans f240) (by decide))
                                                                                                | exact fun z8 => c253 (e252.trans ((congrArg mt cli).trans z8))
                                                                                              · rcases j224_1 with ⟨_, y⟩ | ⟨z, _⟩
                                                                                                · exact y s (by omega) h2
                                                                                                · exact absurd z c234⟩
                                                                                          | exact Or.inr ⟨rfl, fun u => u i (by omega) (by cases hb : lb p0 i; (rw [hb] at f240; exact absurd f240 c243); rfl) ((congrArg mt cli).symm.trans (e252.symm.trans c253))⟩
                                                                                          | exact Or.inr ⟨rfl, fun u => by rcases j224_1 with ⟨z, _⟩ | ⟨_, y⟩; exact absurd (z.symm.trans c234) (by decide); exact y (fun s h1 h2 => u s (by omega) h2)⟩) (by omega) _ _ hP hS ls (lv_sub hl [0, 1, 2, 3, 4, 5, 6, 7] rfl)
                      · skip
                        have d234 := c234
                        rw [fa_eq] at d234
                        refine lv_lload_n hx hb dX10_isJoined_237 rfl (lv_at hl 7 rfl) ?_
                        refine lv_iload hx hb dX10_isJoined_238 (lv_at hl 0 rfl) ?_
                        refine m_pu (As := [.long p0, .int (nI i)]) (rest := []) ⟨hx, hb, hml, hown, hts⟩ (c_X10_one l p0 (nI i) ) (va_cwS 2 hts gX10_isJoined_X10_one rfl rfl rfl (by decide +kernel) ⟨Nat.le_of_ble_eq_true rfl, Nat.le_of_ble_eq_true rfl⟩) hP rfl hl.1 rfl (Nat.le_of_ble_eq_true rfl) dX10_isJoined_240 ⟨Nat.le_of_ble_eq_true rfl, Nat.le_of_ble_eq_true rfl⟩ hS (fun r240 H locs q240 hP hS => ?_)
                        have i240 : r240.toInt = (r_one p0 (nI i)).toInt := congrArg Int32.toInt q240
                        have f240 : r240 = if lb p0 i then 1 else 0 := by rw [q240]; exact one_lb p0 (by omega)
                        have cli := nI_clamp (n := i) (by omega)
                        refine lv_if_eq (tgt := 256) hx hb dX10_isJoined_243 (by decide) (fun c243 => ?_) (fun c243 => ?_)
                        · skip
                          have d243 := c243
                          rw [fa_eq] at d243
                          refine lv_iconst (v := 1) hx hb dX10_isJoined_256 (by decide) ?_
                          refine lv_goto (tgt := 261) hx hb dX10_isJoined_257 (by decide) ?_
                          refine lv_istore (lv' := [(7, .int (1 : Int32)), (8, .int (nI i)), (6, .int xm), (5, .int x5), (0, .ref mo), (1, .int w), (2, .int h), (3, .long p0)]) hx hb dX10_isJoined_261 hl (by decide) rfl (fun ls hl => ?_)
                          refine lv_iinc (v := (nI (i + 1))) (lv' := [(8, .int (nI (i + 1))), (7, .int (1 : Int32)), (6, .int xm), (5, .int x5), (0, .ref mo), (1, .int w), (2, .int h), (3, .long p0)]) hx hb dX10_isJoined_263 hl (k := 1) rfl (nI_1 _) (by decide) rfl (fun ls hl => ?_)
                          refine lv_goto (tgt := 224) hx hb dX10_isJoined_266 (by decide) ?_
                          exact ih_224 (i + 1) (1 : Int32) (by omega) (by
                                                                                          first
                                                                                          | exact Or.inl ⟨rfl, fun s h1 h2 => by
                                                                                              by_cases e9 : s = i
                                                                                              · rw [e9] at h2 ⊢
                                                                                                first
                                                                                                | (rw [h2] at f240; exact absurd (c243.symm.trans f240) (by decide))
                                                                                                | exact fun z8 => c253 (e252.trans ((congrArg mt cli).trans z8))
                                                                                              · rcases j224_1 with ⟨_, y⟩ | ⟨z, _⟩
                                                                                                · exact y s (by omega) h2
                                                                                                · exact absurd z c234⟩
                                                                                          | exact Or.inr ⟨rfl, fun u => u i (by omega) (by cases hb : lb p0 i; (rw [hb] at f240; exact absurd f240 c243); rfl) ((congrArg mt cli).symm.trans (e252.symm.trans c253))⟩
                                                                                          | exact Or.inr ⟨rfl, fun u => by rcases j224_1 with ⟨z, _⟩ | ⟨_, y⟩; exact absurd (z.symm.trans c234) (by decide); exact y (fun s h1 h2 => u s (by omega) h2)⟩) (by omega) _ _ hP hS ls (lv_sub hl [0, 1, 2, 3, 4, 5, 6, 7] rfl)
                        · skip
                          have d243 := c243
                          rw [fa_eq] at d243
                          refine lv_aload_n hx hb dX10_isJoined_246 rfl (lv_at hl 4 rfl) ?_
                          refine m_get (v := .ref (a 9)) hx hb hts hin hown hK hP 9 (by decide) rfl (hts (.fieldLink RX10 32 "ShadowBenchModel" "met" "[Z") (by decide +kernel)) rfl dX10_isJoined_247 ?_
                          refine lv_iload hx hb dX10_isJoined_250 (lv_at hl 0 rfl) ?_
                          refine m_zald (w := mt) hx hb hK hP 8 rfl (vp_in_iff.mpr ⟨by omega, by omega⟩) dX10_isJoined_252 ?_
                          refine lv_topi (fun v252 e252 => ?_)
                          have i252 : v252.toInt = (mt (nI i).toNatClampNeg).toInt := congrArg Int32.toInt e252
                          refine lv_if_eq (tgt := 260) hx hb dX10_isJoined_253 (by decide) (fun c253 => ?_) (fun c253 => ?_)
                          · skip
                            have d253 := c253
                            rw [fa_eq] at d253
                            refine lv_iconst (v := 0) hx hb dX10_isJoined_260 (by decide) ?_
                            refine lv_istore (lv' := [(7, .int (0 : Int32)), (8, .int (nI i)), (6, .int xm), (5, .int x5), (0, .ref mo), (1, .int w), (2, .int h), (3, .long p0)]) hx hb dX10_isJoined_261 hl (by decide) rfl (fun ls hl => ?_)
                            refine lv_iinc (v := (nI (i + 1))) (lv' := [(8, .int (nI (i + 1))), (7, .int (0 : Int32)), (6, .int xm), (5, .int x5), (0, .ref mo), (1, .int w), (2, .int h), (3, .long p0)]) hx hb dX10_isJoined_263 hl (k := 1) rfl (nI_1 _) (by decide) rfl (fun ls hl => ?_)
                            refine lv_goto (tgt := 224) hx hb dX10_isJoined_266 (by decide) ?_
                            exact ih_224 (i + 1) (0 : Int32) (by omega) (by
                                                                                          first
                                                                                          | exact Or.inl ⟨rfl, fun s h1 h2 => by
                                                                                              by_cases e9 : s = i
                                                                                              · rw [e9] at h2 ⊢
                                                                                                first
                                                                                                | (rw [h2] at f240; exact absurd (c243.symm.trans f240) (by decide))
                                                                                                | exact fun z8 => c253 (e252.trans ((congrArg mt cli).trans z8))
                                                                                              · rcases j224_1 with ⟨_, y⟩ | ⟨z, _⟩
                                                                                                · exact y s (by omega) h2
                                                                                                · exact absurd z c234⟩
                                                                                          | exact Or.inr ⟨rfl, fun u => u i (by omega) (by cases hb : lb p0 i; (rw [hb] at f240; exact absurd f240 c243); rfl) ((congrArg mt cli).symm.trans (e252.symm.trans c253))⟩
                                                                                          | exact Or.inr ⟨rfl, fun u => by rcases j224_1 with ⟨z, _⟩ | ⟨_, y⟩; exact absurd (z.symm.trans c234) (by decide); exact y (fun s h1 h2 => u s (by omega) h2)⟩) (by omega) _ _ hP hS ls (lv_sub hl [0, 1, 2, 3, 4, 5, 6, 7] rfl)
                          · skip
                            have d253 := c253
                            rw [fa_eq] at d253
                            refine lv_iconst (v := 1) hx hb dX10_isJoined_256 (by decide) ?_
                            refine lv_goto (tgt := 261) hx hb dX10_isJoined_257 (by decide) ?_
                            refine lv_istore (lv' := [(7, .int (1 : Int32)), (8, .int (nI i)), (6, .int xm), (5, .int x5), (0, .ref mo), (1, .int w), (2, .int h), (3, .long p0)]) hx hb dX10_isJoined_261 hl (by decide) rfl (fun ls hl => ?_)
                            refine lv_iinc (v := (nI (i + 1))) (lv' := [(8, .int (nI (i + 1))), (7, .int (1 : Int32)), (6, .int xm), (5, .int x5), (0, .ref mo), (1, .int w), (2, .int h), (3, .long p0)]) hx hb dX10_isJoined_263 hl (k := 1) rfl (nI_1 _) (by decide) rfl (fun ls hl => ?_)
                            refine lv_goto (tgt := 224) hx hb dX10_isJoined_266 (by decide) ?_
                            exact ih_224 (i + 1) (1 : Int32) (by omega) (by
                                                                                          first
                                                                                          | exact Or.inl ⟨rfl, fun s h1 h2 => by
                                                                                              by_cases e9 : s = i
                                                                                              · rw [e9] at h2 ⊢
                                                                                                first
                                                                                                | (rw [h2] at f240; exact absurd (c243.symm.trans f240) (by decide))
                                                                                                | exact fun z8 => c253 (e252.trans ((congrArg mt cli).trans z8))
                                                                                              · rcases j224_1 with ⟨_, y⟩ | ⟨z, _⟩
                                                                                                · exact y s (by omega) h2
                                                                                                · exact absurd z c234⟩
                                                                                          | exact Or.inr ⟨rfl, fun u => u i (by omega) (by cases hb : lb p0 i; (rw [hb] at f240; exact absurd f240 c243); rfl) ((congrArg mt cli).symm.trans (e252.symm.trans c253))⟩
                                                                                          | exact Or.inr ⟨rfl, fun u => by rcases j224_1 with ⟨z, _⟩ | ⟨_, y⟩; exact absurd (z.symm.trans c234) (by decide); exact y (fun s h1 h2 => u s (by omega) h2)⟩) (by omega) _ _ hP hS ls (lv_sub hl [0, 1, 2, 3, 4, 5, 6, 7] rfl)
                exact loop_224 (36 + 1) 0 (1 : Int32) (by omega) (Or.inl ⟨rfl, fun s h1 => absurd h1 (Nat.not_lt_zero _)⟩) (by omega) _ _ hP hS ls (lv_sub hl [0, 1, 2, 3, 4, 5, 6, 7] rfl)
              · skip
                have d68 := c68
                rw [fa_eq] at d68
                refine lv_iconst (v := 0) hx hb dX10_isJoined_71 (by decide) ?_
                refine lv_istore (lv' := [(6, .int (0 : Int32)), (5, .int x5), (0, .ref mo), (1, .int w), (2, .int h), (3, .long p0)]) hx hb dX10_isJoined_72 hl (by decide) rfl (fun ls hl => ?_)
                refine lv_iconst (v := 0) hx hb dX10_isJoined_74 (by decide) ?_
                refine lv_istore (lv' := [(7, .int (0 : Int32)), (6, .int (0 : Int32)), (5, .int x5), (0, .ref mo), (1, .int w), (2, .int h), (3, .long p0)]) hx hb dX10_isJoined_75 hl (by decide) rfl (fun ls hl => ?_)
                have loop_77 : ∀ (n : Nat) (i : Nat) (xn : Int32) (mt1 : Nat → Int32), (i ≤ A9 * B9) → ((xn = 0 ∧ cz mt1 ≤ cz mt) ∨ (xn = 1 ∧ cz mt1 < cz mt)) → (∀ e, e < A9 * B9 → ¬ mt1 e = 0 → ∃ k, jR A9 B9 p0 k e) → (¬ mt1 x5.toNatClampNeg = 0) → (xn = 0 → (∀ s, s < i → lb p0 s = true → (∃ t, t < A9 * B9 ∧ ¬ mt1 t = 0 ∧ nbr A9 t s) → ¬ mt1 s = 0)) → 36 - i < n → ∀ (H : Heap) (locs : List Loc), va_P D vwCl (WM cy mo a f g (va_up r 9 mt1) q) H → va_S (AM mo a) s.heap H locs → ∀ (ls : Array Slot), lv_has ls 9 [(7, .int (nI i)), (6, .int xn), (5, .int x5), (0, .ref mo), (1, .int w), (2, .int h), (3, .long p0)] → W p l e (headSpec wsX10_isJoined ({ frames := 1, cells := 0, slots := 0, locals := 22 })).room s m #[Value.ref mo, Value.int w, Value.int h, Value.long p0] below meth c H locs 0 0 (MQ below (va_Qi (fun r0 u => ∃ (mt : Nat → Int32), u = (f, g, (va_up r 9 mt), q) ∧ (Bo r0 (jOK w.toNatClampNeg h.toNatClampNeg p0))) (mB D cy mo a) (AM mo a)) #[Value.ref mo, Value.int w, Value.int h, Value.long p0] s 0 0 (AM mo a)) (F0 m 77 ls []) := by
                  intro n
                  induction n with
                  | zero => intro i xn mt1 j77_0 j77_1 j77_2 j77_3 j77_4 hn; exact absurd hn (Nat.not_lt_zero _)
                  | succ n ih_77 =>
                    intro i xn mt1 j77_0 j77_1 j77_2 j77_3 j77_4 hn_77 H locs hP hS ls hl
                    have ii : (nI i).toInt = (i : Int) := nI_toInt (by omega)
                    refine lv_iload hx hb dX10_isJoined_77 (lv_at hl 0 rfl) ?_
                    refine lv_iload_n hx hb dX10_isJoined_79 rfl (lv_at hl 4 rfl) ?_
                    refine lv_iload_n hx hb dX10_isJoined_80 rfl (lv_at hl 5 rfl) ?_
                    refine lv_imul hx hb dX10_isJoined_81 ?_
                    refine lv_topi (fun v81 e81 => ?_)
                    have i81 : v81.toInt = w.toInt * h.toInt := by rw [e81]; exact fb_mulI (by omega) (by omega)
                    refine lv_icmp_ge (tgt := 215) hx hb dX10_isJoined_82 (by decide) (fun c82 => ?_) (fun c82 => ?_)
                    · skip
                      have d82 := c82
                      rw [fa_le] at d82
                      refine lv_goto (tgt := 66) hx hb dX10_isJoined_215 (by decide) ?_
                      exact ih_66 xn mt1 (by rcases j77_1 with z | z <;> simp [z.1]) (j77_2) (j77_3) (fun z9 s h1 h2 h3 => j77_4 z9 s (by omega) h2 h3) (by rcases j77_1 with ⟨z, y⟩ | ⟨z, y⟩ <;> simp [mz, z, c68] at hn_66 ⊢ <;> omega) _ _ hP hS ls (lv_sub hl [1, 2, 3, 4, 5, 6] rfl)
                    · skip
                      have d82 := c82
                      rw [fa_le] at d82
                      have hiw : i < A9 * B9 := by omega
                      have ed88 := m_edge (s := i) (show 1 ≤ A9 ∧ A9 ≤ 6 by omega)
                      refine lv_iload hx hb dX10_isJoined_85 (lv_at hl 0 rfl) ?_
                      have join_166 : ((∃ t, t < A9 * B9 ∧ ¬ mt1 t = 0 ∧ nbr A9 t i)) → ∀ (H : Heap) (locs : List Loc), va_P D vwCl (WM cy mo a f g (va_up r 9 mt1) q) H → va_S (AM mo a) s.heap H locs → ∀ (ls : Array Slot), lv_has ls 9 [(7, .int (nI i)), (6, .int xn), (5, .int x5), (0, .ref mo), (1, .int w), (2, .int h), (3, .long p0)] → W p l e (headSpec wsX10_isJoined ({ frames := 1, cells := 0, slots := 0, locals := 22 })).room s m #[Value.ref mo, Value.int w, Value.int h, Value.long p0] below meth c H locs 0 0 (MQ below (va_Qi (fun r0 u => ∃ (mt : Nat → Int32), u = (f, g, (va_up r 9 mt), q) ∧ (Bo r0 (jOK w.toNatClampNeg h.toNatClampNeg p0))) (mB D cy mo a) (AM mo a)) #[Value.ref mo, Value.int w, Value.int h, Value.long p0] s 0 0 (AM mo a)) (F0 m 166 ls []) := by
                        intro hnr H locs hP hS ls hl
                        refine lv_iconst (v := 1) hx hb dX10_isJoined_166 (by decide) ?_
                        refine lv_goto (tgt := 171) hx hb dX10_isJoined_167 (by decide) ?_
                        refine lv_istore (lv' := [(8, .int (1 : Int32)), (7, .int (nI i)), (6, .int xn), (5, .int x5), (0, .ref mo), (1, .int w), (2, .int h), (3, .long p0)]) hx hb dX10_isJoined_171 hl (by decide) rfl (fun ls hl => ?_)
                        refine lv_lload_n hx hb dX10_isJoined_173 rfl (lv_at hl 7 rfl) ?_
                        refine lv_iload hx hb dX10_isJoined_174 (lv_at hl 1 rfl) ?_
                        refine m_pu (As := [.long p0, .int (nI i)]) (rest := []) ⟨hx, hb, hml, hown, hts⟩ (c_X10_one l p0 (nI i) ) (va_cwS 2 hts gX10_isJoined_X10_one rfl rfl rfl (by decide +kernel) ⟨Nat.le_of_ble_eq_true rfl, Nat.le_of_ble_eq_true rfl⟩) hP rfl hl.1 rfl (Nat.le_of_ble_eq_true rfl) dX10_isJoined_176 ⟨Nat.le_of_ble_eq_true rfl, Nat.le_of_ble_eq_true rfl⟩ hS (fun r176 H locs q176 hP hS => ?_)
                        have i176 : r176.toInt = (r_one p0 (nI i)).toInt := congrArg Int32.toInt q176
                        have f176 : r176 = if lb p0 i then 1 else 0 := by rw [q176]; exact one_lb p0 (by omega)
                        have cli := nI_clamp (n := i) (by omega)
                        refine lv_iconst (v := 1) hx hb dX10_isJoined_179 (by decide) ?_
                        refine lv_icmp_ne (tgt := 209) hx hb dX10_isJoined_180 (by decide) (fun c180 => ?_) (fun c180 => ?_)
                        · skip
                          have d180 := c180
                          rw [fa_eq] at d180
                          refine lv_iinc (v := (nI (i + 1))) (lv' := [(7, .int (nI (i + 1))), (8, .int (1 : Int32)), (6, .int xn), (5, .int x5), (0, .ref mo), (1, .int w), (2, .int h), (3, .long p0)]) hx hb dX10_isJoined_209 hl (k := 1) rfl (nI_1 _) (by decide) rfl (fun ls hl => ?_)
                          refine lv_goto (tgt := 77) hx hb dX10_isJoined_212 (by decide) ?_
                          exact ih_77 (i + 1) xn mt1 (by omega) (by first | exact j77_1 | (have z := cz_upd (mt := mt1) (i := (nI i).toNatClampNeg) (v := (1 : Int32) &&& 1) (nI_cl (by omega)) (by rw [← e189]; exact c190) (by decide); rcases j77_1 with ⟨_, y⟩ | ⟨_, y⟩ <;> exact Or.inr ⟨rfl, by omega⟩)) (by
                                                                                          first
                                                                                          | exact j77_2
                                                                                          | exact fun e he hne => by
                                                                                              unfold upd at hne
                                                                                              split at hne
                                                                                              · rename_i z9
                                                                                                rw [z9, cli]
                                                                                                obtain ⟨t, t1, t2, t3⟩ := hnr
                                                                                                obtain ⟨k9, hk9⟩ := j77_2 t t1 t2
                                                                                                exact ⟨k9 + 1, Or.inr ⟨hiw, (by cases hb : lb p0 i; (rw [hb] at f176; exact absurd (c180.symm.trans f176) (by decide)); rfl), t, t1, hk9, t3⟩⟩
                                                                                              · exact j77_2 e he hne) (by first | exact j77_3 | (unfold upd; split; decide; exact j77_3)) (by
                                                                                          first
                                                                                          | exact fun z9 => absurd z9 (by decide)
                                                                                          | exact fun z9 s h1 h2 h3 => by
                                                                                              by_cases e9 : s = i
                                                                                              · rw [e9] at h2 h3 ⊢
                                                                                                first
                                                                                                | exact absurd h3 hnn
                                                                                                | exact fun z8 => c190 (e189.trans ((congrArg mt1 cli).trans z8))
                                                                                                | (rw [h2] at f176; exact absurd f176 c180)
                                                                                              · exact j77_4 z9 s (by omega) h2 h3) (by omega) _ _ hP hS ls (lv_sub hl [0, 2, 3, 4, 5, 6, 7] rfl)
                        · skip
                          have d180 := c180
                          rw [fa_eq] at d180
                          refine lv_aload_n hx hb dX10_isJoined_183 rfl (lv_at hl 4 rfl) ?_
                          refine m_get (v := .ref (a 9)) hx hb hts hin hown hK hP 9 (by decide) rfl (hts (.fieldLink RX10 32 "ShadowBenchModel" "met" "[Z") (by decide +kernel)) rfl dX10_isJoined_184 ?_
                          refine lv_iload hx hb dX10_isJoined_187 (lv_at hl 1 rfl) ?_
                          refine m_zald (w := mt1) hx hb hK hP 8 rfl (vp_in_iff.mpr ⟨by omega, by omega⟩) dX10_isJoined_189 ?_
                          refine lv_topi (fun v189 e189 => ?_)
                          have i189 : v189.toInt = (mt1 (nI i).toNatClampNeg).toInt := congrArg Int32.toInt e189
                          refine lv_if_ne (tgt := 209) hx hb dX10_isJoined_190 (by decide) (fun c190 => ?_) (fun c190 => ?_)
                          · skip
                            have d190 := c190
                            rw [fa_eq] at d190
                            refine lv_iinc (v := (nI (i + 1))) (lv' := [(7, .int (nI (i + 1))), (8, .int (1 : Int32)), (6, .int xn), (5, .int x5), (0, .ref mo), (1, .int w), (2, .int h), (3, .long p0)]) hx hb dX10_isJoined_209 hl (k := 1) rfl (nI_1 _) (by decide) rfl (fun ls hl => ?_)
                            refine lv_goto (tgt := 77) hx hb dX10_isJoined_212 (by decide) ?_
                            exact ih_77 (i + 1) xn mt1 (by omega) (by first | exact j77_1 | (have z := cz_upd (mt := mt1) (i := (nI i).toNatClampNeg) (v := (1 : Int32) &&& 1) (nI_cl (by omega)) (by rw [← e189]; exact c190) (by decide); rcases j77_1 with ⟨_, y⟩ | ⟨_, y⟩ <;> exact Or.inr ⟨rfl, by omega⟩)) (by
                                                                                          first
                                                                                          | exact j77_2
                                                                                          | exact fun e he hne => by
                                                                                              unfold upd at hne
                                                                                              split at hne
                                                                                              · rename_i z9
                                                                                                rw [z9, cli]
                                                                                                obtain ⟨t, t1, t2, t3⟩ := hnr
                                                                                                obtain ⟨k9, hk9⟩ := j77_2 t t1 t2
                                                                                                exact ⟨k9 + 1, Or.inr ⟨hiw, (by cases hb : lb p0 i; (rw [hb] at f176; exact absurd (c180.symm.trans f176) (by decide)); rfl), t, t1, hk9, t3⟩⟩
                                                                                              · exact j77_2 e he hne) (by first | exact j77_3 | (unfold upd; split; decide; exact j77_3)) (by
                                                                                          first
                                                                                          | exact fun z9 => absurd z9 (by decide)
                                                                                          | exact fun z9 s h1 h2 h3 => by
                                                                                              by_cases e9 : s = i
                                                                                              · rw [e9] at h2 h3 ⊢
                                                                                                first
                                                                                                | exact absurd h3 hnn
                                                                                                | exact fun z8 => c190 (e189.trans ((congrArg mt1 cli).trans z8))
                                                                                                | (rw [h2] at f176; exact absurd f176 c180)
                                                                                              · exact j77_4 z9 s (by omega) h2 h3) (by omega) _ _ hP hS ls (lv_sub hl [0, 2, 3, 4, 5, 6, 7] rfl)
                          · skip
                            have d190 := c190
                            rw [fa_eq] at d190
                            refine lv_iload hx hb dX10_isJoined_193 (lv_at hl 0 rfl) ?_
                            refine lv_if_eq (tgt := 209) hx hb dX10_isJoined_195 (by decide) (fun c195 => ?_) (fun c195 => ?_)
                            · first | exact absurd c195 (by decide) | exact absurd (by decide) c195
                            · skip
                              have d195 := c195
                              rw [fa_eq] at d195
                              refine lv_aload_n hx hb dX10_isJoined_198 rfl (lv_at hl 4 rfl) ?_
                              refine m_get (v := .ref (a 9)) hx hb hts hin hown hK hP 9 (by decide) rfl (hts (.fieldLink RX10 32 "ShadowBenchModel" "met" "[Z") (by decide +kernel)) rfl dX10_isJoined_199 ?_
                              refine lv_iload hx hb dX10_isJoined_202 (lv_at hl 1 rfl) ?_
                              refine lv_iconst (v := 1) hx hb dX10_isJoined_204 (by decide) ?_
                              refine m_zast (w := mt1) hx hb hK hP hD hS 8 rfl (vp_in_iff.mpr ⟨by omega, by omega⟩) (va_up r 9 ((upd mt1 (nI i).toNatClampNeg ((1 : Int32) &&& 1)))) rfl dX10_isJoined_205 (fun H locs hP hS => ?_)
                              refine lv_iconst (v := 1) hx hb dX10_isJoined_206 (by decide) ?_
                              refine lv_istore (lv' := [(6, .int (1 : Int32)), (8, .int (1 : Int32)), (7, .int (nI i)), (5, .int x5), (0, .ref mo), (1, .int w), (2, .int h), (3, .long p0)]) hx hb dX10_isJoined_207 hl (by decide) rfl (fun ls hl => ?_)
                              refine lv_iinc (v := (nI (i + 1))) (lv' := [(7, .int (nI (i + 1))), (6, .int (1 : Int32)), (8, .int (1 : Int32)), (5, .int x5), (0, .ref mo), (1, .int w), (2, .int h), (3, .long p0)]) hx hb dX10_isJoined_209 hl (k := 2) rfl (nI_1 _) (by decide) rfl (fun ls hl => ?_)
                              refine lv_goto (tgt := 77) hx hb dX10_isJoined_212 (by decide) ?_
                              exact ih_77 (i + 1) (1 : Int32) (((upd mt1 (nI i).toNatClampNeg ((1 : Int32) &&& 1)))) (by omega) (by first | exact j77_1 | (have z := cz_upd (mt := mt1) (i := (nI i).toNatClampNeg) (v := (1 : Int32) &&& 1) (nI_cl (by omega)) (by rw [← e189]; exact c190) (by decide); rcases j77_1 with ⟨_, y⟩ | ⟨_, y⟩ <;> exact Or.inr ⟨rfl, by omega⟩)) (by
                                                                                          first
                                                                                          | exact j77_2
                                                                                          | exact fun e he hne => by
                                                                                              unfold upd at hne
                                                                                              split at hne
                                                                                              · rename_i z9
                                                                                                rw [z9, cli]
                                                                                                obtain ⟨t, t1, t2, t3⟩ := hnr
                                                                                                obtain ⟨k9, hk9⟩ := j77_2 t t1 t2
                                                                                                exact ⟨k9 + 1, Or.inr ⟨hiw, (by cases hb : lb p0 i; (rw [hb] at f176; exact absurd (c180.symm.trans f176) (by decide)); rfl), t, t1, hk9, t3⟩⟩
                                                                                              · exact j77_2 e he hne) (by first | exact j77_3 | (unfold upd; split; decide; exact j77_3)) (by
                                                                                          first
                                                                                          | exact fun z9 => absurd z9 (by decide)
                                                                                          | exact fun z9 s h1 h2 h3 => by
                                                                                              by_cases e9 : s = i
                                                                                              · rw [e9] at h2 h3 ⊢
                                                                                                first
                                                                                                | exact absurd h3 hnn
                                                                                                | exact fun z8 => c190 (e189.trans ((congrArg mt1 cli).trans z8))
                                                                                                | (rw [h2] at f176; exact absurd f176 c180)
                                                                                              · exact j77_4 z9 s (by omega) h2 h3) (by omega) _ _ hP hS ls (lv_sub hl [0, 1, 3, 4, 5, 6, 7] rfl)
                      have join_170 : (¬ (∃ t, t < A9 * B9 ∧ ¬ mt1 t = 0 ∧ nbr A9 t i)) → ∀ (H : Heap) (locs : List Loc), va_P D vwCl (WM cy mo a f g (va_up r 9 mt1) q) H → va_S (AM mo a) s.heap H locs → ∀ (ls : Array Slot), lv_has ls 9 [(7, .int (nI i)), (6, .int xn), (5, .int x5), (0, .ref mo), (1, .int w), (2, .int h), (3, .long p0)] → W p l e (headSpec wsX10_isJoined ({ frames := 1, cells := 0, slots := 0, locals := 22 })).room s m #[Value.ref mo, Value.int w, Value.int h, Value.long p0] below meth c H locs 0 0 (MQ below (va_Qi (fun r0 u => ∃ (mt : Nat → Int32), u = (f, g, (va_up r 9 mt), q) ∧ (Bo r0 (jOK w.toNatClampNeg h.toNatClampNeg p0))) (mB D cy mo a) (AM mo a)) #[Value.ref mo, Value.int w, Value.int h, Value.long p0] s 0 0 (AM mo a)) (F0 m 170 ls []) := by
                        intro hnn H locs hP hS ls hl
                        refine lv_iconst (v := 0) hx hb dX10_isJoined_170 (by decide) ?_
                        refine lv_istore (lv' := [(8, .int (0 : Int32)), (7, .int (nI i)), (6, .int xn), (5, .int x5), (0, .ref mo), (1, .int w), (2, .int h), (3, .long p0)]) hx hb dX10_isJoined_171 hl (by decide) rfl (fun ls hl => ?_)
                        refine lv_lload_n hx hb dX10_isJoined_173 rfl (lv_at hl 7 rfl) ?_
                        refine lv_iload hx hb dX10_isJoined_174 (lv_at hl 1 rfl) ?_
                        refine m_pu (As := [.long p0, .int (nI i)]) (rest := []) ⟨hx, hb, hml, hown, hts⟩ (c_X10_one l p0 (nI i) ) (va_cwS 2 hts gX10_isJoined_X10_one rfl rfl rfl (by decide +kernel) ⟨Nat.le_of_ble_eq_true rfl, Nat.le_of_ble_eq_true rfl⟩) hP rfl hl.1 rfl (Nat.le_of_ble_eq_true rfl) dX10_isJoined_176 ⟨Nat.le_of_ble_eq_true rfl, Nat.le_of_ble_eq_true rfl⟩ hS (fun r176 H locs q176 hP hS => ?_)
                        have i176 : r176.toInt = (r_one p0 (nI i)).toInt := congrArg Int32.toInt q176
                        have f176 : r176 = if lb p0 i then 1 else 0 := by rw [q176]; exact one_lb p0 (by omega)
                        have cli := nI_clamp (n := i) (by omega)
                        refine lv_iconst (v := 1) hx hb dX10_isJoined_179 (by decide) ?_
                        refine lv_icmp_ne (tgt := 209) hx hb dX10_isJoined_180 (by decide) (fun c180 => ?_) (fun c180 => ?_)
                        · skip
                          have d180 := c180
                          rw [fa_eq] at d180
                          refine lv_iinc (v := (nI (i + 1))) (lv' := [(7, .int (nI (i + 1))), (8, .int (0 : Int32)), (6, .int xn), (5, .int x5), (0, .ref mo), (1, .int w), (2, .int h), (3, .long p0)]) hx hb dX10_isJoined_209 hl (k := 1) rfl (nI_1 _) (by decide) rfl (fun ls hl => ?_)
                          refine lv_goto (tgt := 77) hx hb dX10_isJoined_212 (by decide) ?_
                          exact ih_77 (i + 1) xn mt1 (by omega) (by first | exact j77_1 | (have z := cz_upd (mt := mt1) (i := (nI i).toNatClampNeg) (v := (1 : Int32) &&& 1) (nI_cl (by omega)) (by rw [← e189]; exact c190) (by decide); rcases j77_1 with ⟨_, y⟩ | ⟨_, y⟩ <;> exact Or.inr ⟨rfl, by omega⟩)) (by
                                                                                          first
                                                                                          | exact j77_2
                                                                                          | exact fun e he hne => by
                                                                                              unfold upd at hne
                                                                                              split at hne
                                                                                              · rename_i z9
                                                                                                rw [z9, cli]
                                                                                                obtain ⟨t, t1, t2, t3⟩ := hnr
                                                                                                obtain ⟨k9, hk9⟩ := j77_2 t t1 t2
                                                                                                exact ⟨k9 + 1, Or.inr ⟨hiw, (by cases hb : lb p0 i; (rw [hb] at f176; exact absurd (c180.symm.trans f176) (by decide)); rfl), t, t1, hk9, t3⟩⟩
                                                                                              · exact j77_2 e he hne) (by first | exact j77_3 | (unfold upd; split; decide; exact j77_3)) (by
                                                                                          first
                                                                                          | exact fun z9 => absurd z9 (by decide)
                                                                                          | exact fun z9 s h1 h2 h3 => by
                                                                                              by_cases e9 : s = i
                                                                                              · rw [e9] at h2 h3 ⊢
                                                                                                first
                                                                                                | exact absurd h3 hnn
                                                                                                | exact fun z8 => c190 (e189.trans ((congrArg mt1 cli).trans z8))
                                                                                                | (rw [h2] at f176; exact absurd f176 c180)
                                                                                              · exact j77_4 z9 s (by omega) h2 h3) (by omega) _ _ hP hS ls (lv_sub hl [0, 2, 3, 4, 5, 6, 7] rfl)
                        · skip
                          have d180 := c180
                          rw [fa_eq] at d180
                          refine lv_aload_n hx hb dX10_isJoined_183 rfl (lv_at hl 4 rfl) ?_
                          refine m_get (v := .ref (a 9)) hx hb hts hin hown hK hP 9 (by decide) rfl (hts (.fieldLink RX10 32 "ShadowBenchModel" "met" "[Z") (by decide +kernel)) rfl dX10_isJoined_184 ?_
                          refine lv_iload hx hb dX10_isJoined_187 (lv_at hl 1 rfl) ?_
                          refine m_zald (w := mt1) hx hb hK hP 8 rfl (vp_in_iff.mpr ⟨by omega, by omega⟩) dX10_isJoined_189 ?_
                          refine lv_topi (fun v189 e189 => ?_)
                          have i189 : v189.toInt = (mt1 (nI i).toNatClampNeg).toInt := congrArg Int32.toInt e189
                          refine lv_if_ne (tgt := 209) hx hb dX10_isJoined_190 (by decide) (fun c190 => ?_) (fun c190 => ?_)
                          · skip
                            have d190 := c190
                            rw [fa_eq] at d190
                            refine lv_iinc (v := (nI (i + 1))) (lv' := [(7, .int (nI (i + 1))), (8, .int (0 : Int32)), (6, .int xn), (5, .int x5), (0, .ref mo), (1, .int w), (2, .int h), (3, .long p0)]) hx hb dX10_isJoined_209 hl (k := 1) rfl (nI_1 _) (by decide) rfl (fun ls hl => ?_)
                            refine lv_goto (tgt := 77) hx hb dX10_isJoined_212 (by decide) ?_
                            exact ih_77 (i + 1) xn mt1 (by omega) (by first | exact j77_1 | (have z := cz_upd (mt := mt1) (i := (nI i).toNatClampNeg) (v := (1 : Int32) &&& 1) (nI_cl (by omega)) (by rw [← e189]; exact c190) (by decide); rcases j77_1 with ⟨_, y⟩ | ⟨_, y⟩ <;> exact Or.inr ⟨rfl, by omega⟩)) (by
                                                                                          first
                                                                                          | exact j77_2
                                                                                          | exact fun e he hne => by
                                                                                              unfold upd at hne
                                                                                              split at hne
                                                                                              · rename_i z9
                                                                                                rw [z9, cli]
                                                                                                obtain ⟨t, t1, t2, t3⟩ := hnr
                                                                                                obtain ⟨k9, hk9⟩ := j77_2 t t1 t2
                                                                                                exact ⟨k9 + 1, Or.inr ⟨hiw, (by cases hb : lb p0 i; (rw [hb] at f176; exact absurd (c180.symm.trans f176) (by decide)); rfl), t, t1, hk9, t3⟩⟩
                                                                                              · exact j77_2 e he hne) (by first | exact j77_3 | (unfold upd; split; decide; exact j77_3)) (by
                                                                                          first
                                                                                          | exact fun z9 => absurd z9 (by decide)
                                                                                          | exact fun z9 s h1 h2 h3 => by
                                                                                              by_cases e9 : s = i
                                                                                              · rw [e9] at h2 h3 ⊢
                                                                                                first
                                                                                                | exact absurd h3 hnn
                                                                                                | exact fun z8 => c190 (e189.trans ((congrArg mt1 cli).trans z8))
                                                                                                | (rw [h2] at f176; exact absurd f176 c180)
                                                                                              · exact j77_4 z9 s (by omega) h2 h3) (by omega) _ _ hP hS ls (lv_sub hl [0, 2, 3, 4, 5, 6, 7] rfl)
                          · skip
                            have d190 := c190
                            rw [fa_eq] at d190
                            refine lv_iload hx hb dX10_isJoined_193 (lv_at hl 0 rfl) ?_
                            refine lv_if_eq (tgt := 209) hx hb dX10_isJoined_195 (by decide) (fun c195 => ?_) (fun c195 => ?_)
                            · skip
                              have d195 := c195
                              rw [fa_eq] at d195
                              refine lv_iinc (v := (nI (i + 1))) (lv' := [(7, .int (nI (i + 1))), (8, .int (0 : Int32)), (6, .int xn), (5, .int x5), (0, .ref mo), (1, .int w), (2, .int h), (3, .long p0)]) hx hb dX10_isJoined_209 hl (k := 1) rfl (nI_1 _) (by decide) rfl (fun ls hl => ?_)
                              refine lv_goto (tgt := 77) hx hb dX10_isJoined_212 (by decide) ?_
                              exact ih_77 (i + 1) xn mt1 (by omega) (by first | exact j77_1 | (have z := cz_upd (mt := mt1) (i := (nI i).toNatClampNeg) (v := (1 : Int32) &&& 1) (nI_cl (by omega)) (by rw [← e189]; exact c190) (by decide); rcases j77_1 with ⟨_, y⟩ | ⟨_, y⟩ <;> exact Or.inr ⟨rfl, by omega⟩)) (by
                                                                                          first
                                                                                          | exact j77_2
                                                                                          | exact fun e he hne => by
                                                                                              unfold upd at hne
                                                                                              split at hne
                                                                                              · rename_i z9
                                                                                                rw [z9, cli]
                                                                                                obtain ⟨t, t1, t2, t3⟩ := hnr
                                                                                                obtain ⟨k9, hk9⟩ := j77_2 t t1 t2
                                                                                                exact ⟨k9 + 1, Or.inr ⟨hiw, (by cases hb : lb p0 i; (rw [hb] at f176; exact absurd (c180.symm.trans f176) (by decide)); rfl), t, t1, hk9, t3⟩⟩
                                                                                              · exact j77_2 e he hne) (by first | exact j77_3 | (unfold upd; split; decide; exact j77_3)) (by
                                                                                          first
                                                                                          | exact fun z9 => absurd z9 (by decide)
                                                                                          | exact fun z9 s h1 h2 h3 => by
                                                                                              by_cases e9 : s = i
                                                                                              · rw [e9] at h2 h3 ⊢
                                                                                                first
                                                                                                | exact absurd h3 hnn
                                                                                                | exact fun z8 => c190 (e189.trans ((congrArg mt1 cli).trans z8))
                                                                                                | (rw [h2] at f176; exact absurd f176 c180)
                                                                                              · exact j77_4 z9 s (by omega) h2 h3) (by omega) _ _ hP hS ls (lv_sub hl [0, 2, 3, 4, 5, 6, 7] rfl)
                            · first | exact absurd c195 (by decide) | exact absurd (by decide) c195
                      have join_144 : (¬ (0 < i % A9 ∧ ¬ mt1 (i - 1) = 0)) → (¬ (i % A9 + 1 < A9 ∧ ¬ mt1 (i + 1) = 0)) → (¬ (A9 ≤ i ∧ ¬ mt1 (i - A9) = 0)) → ∀ (H : Heap) (locs : List Loc), va_P D vwCl (WM cy mo a f g (va_up r 9 mt1) q) H → va_S (AM mo a) s.heap H locs → ∀ (ls : Array Slot), lv_has ls 9 [(7, .int (nI i)), (6, .int xn), (5, .int x5), (0, .ref mo), (1, .int w), (2, .int h), (3, .long p0)] → W p l e (headSpec wsX10_isJoined ({ frames := 1, cells := 0, slots := 0, locals := 22 })).room s m #[Value.ref mo, Value.int w, Value.int h, Value.long p0] below meth c H locs 0 0 (MQ below (va_Qi (fun r0 u => ∃ (mt : Nat → Int32), u = (f, g, (va_up r 9 mt), q) ∧ (Bo r0 (jOK w.toNatClampNeg h.toNatClampNeg p0))) (mB D cy mo a) (AM mo a)) #[Value.ref mo, Value.int w, Value.int h, Value.long p0] s 0 0 (AM mo a)) (F0 m 144 ls []) := by
                        intro n1 n2 n3 H locs hP hS ls hl
                        refine lv_iload hx hb dX10_isJoined_144 (lv_at hl 0 rfl) ?_
                        refine lv_iload_n hx hb dX10_isJoined_146 rfl (lv_at hl 4 rfl) ?_
                        refine lv_iadd hx hb dX10_isJoined_147 ?_
                        refine lv_topi (fun v147 e147 => ?_)
                        have i147 : v147.toInt = (nI i).toInt + w.toInt := by rw [e147]; exact fb_addI (by omega) (by omega)
                        refine lv_iload_n hx hb dX10_isJoined_148 rfl (lv_at hl 4 rfl) ?_
                        refine lv_iload_n hx hb dX10_isJoined_149 rfl (lv_at hl 5 rfl) ?_
                        refine lv_imul hx hb dX10_isJoined_150 ?_
                        refine lv_topi (fun v150 e150 => ?_)
                        have i150 : v150.toInt = w.toInt * h.toInt := by rw [e150]; exact fb_mulI (by omega) (by omega)
                        refine lv_icmp_ge (tgt := 170) hx hb dX10_isJoined_151 (by decide) (fun c151 => ?_) (fun c151 => ?_)
                        · skip
                          have d151 := c151
                          rw [fa_le] at d151
                          exact join_170 (fun ⟨t, h1, h2, h3⟩ => h3.elim (fun ⟨h3, h4⟩ => n1 ⟨ed88.2.2.mpr ⟨by omega, by rw [show i - 1 = t by omega]; exact h4⟩, by rw [show i - 1 = t by omega]; exact h2⟩) (fun h3 => h3.elim (fun ⟨h3, h4⟩ => n2 ⟨h4, by rw [show i + 1 = t by omega]; exact h2⟩) (fun h3 => h3.elim (fun h3 => n3 ⟨by omega, by rw [show i - A9 = t by omega]; exact h2⟩) (fun h3 => by first | (exfalso; omega) | exact h2 ((congrArg mt1 (show t = v161.toNatClampNeg by omega)).trans (e162.symm.trans c163)))))) _ _ hP hS ls hl
                        · skip
                          have d151 := c151
                          rw [fa_le] at d151
                          refine lv_aload_n hx hb dX10_isJoined_154 rfl (lv_at hl 3 rfl) ?_
                          refine m_get (v := .ref (a 9)) hx hb hts hin hown hK hP 9 (by decide) rfl (hts (.fieldLink RX10 32 "ShadowBenchModel" "met" "[Z") (by decide +kernel)) rfl dX10_isJoined_155 ?_
                          refine lv_iload hx hb dX10_isJoined_158 (lv_at hl 0 rfl) ?_
                          refine lv_iload_n hx hb dX10_isJoined_160 rfl (lv_at hl 4 rfl) ?_
                          refine lv_iadd hx hb dX10_isJoined_161 ?_
                          refine lv_topi (fun v161 e161 => ?_)
                          have i161 : v161.toInt = (nI i).toInt + w.toInt := by rw [e161]; exact fb_addI (by omega) (by omega)
                          have c161 := m_cl (x := v161) (by omega)
                          refine m_zald (w := mt1) hx hb hK hP 8 rfl (vp_in_iff.mpr ⟨by omega, by omega⟩) dX10_isJoined_162 ?_
                          refine lv_topi (fun v162 e162 => ?_)
                          have i162 : v162.toInt = (mt1 v161.toNatClampNeg).toInt := congrArg Int32.toInt e162
                          refine lv_if_eq (tgt := 170) hx hb dX10_isJoined_163 (by decide) (fun c163 => ?_) (fun c163 => ?_)
                          · skip
                            have d163 := c163
                            rw [fa_eq] at d163
                            exact join_170 (fun ⟨t, h1, h2, h3⟩ => h3.elim (fun ⟨h3, h4⟩ => n1 ⟨ed88.2.2.mpr ⟨by omega, by rw [show i - 1 = t by omega]; exact h4⟩, by rw [show i - 1 = t by omega]; exact h2⟩) (fun h3 => h3.elim (fun ⟨h3, h4⟩ => n2 ⟨h4, by rw [show i + 1 = t by omega]; exact h2⟩) (fun h3 => h3.elim (fun h3 => n3 ⟨by omega, by rw [show i - A9 = t by omega]; exact h2⟩) (fun h3 => by first | (exfalso; omega) | exact h2 ((congrArg mt1 (show t = v161.toNatClampNeg by omega)).trans (e162.symm.trans c163)))))) _ _ hP hS ls hl
                          · skip
                            have d163 := c163
                            rw [fa_eq] at d163
                            exact join_166 (by first | exact ⟨v99.toNatClampNeg, by omega, fun z => c101 (e100.trans z), Or.inl ⟨by omega, by rw [show v99.toNatClampNeg = i - 1 by omega]; exact (ed88.2.2.mp (by omega)).2⟩⟩ | exact ⟨v121.toNatClampNeg, by omega, fun z => c123 (e122.trans z), Or.inr (Or.inl ⟨by omega, by omega⟩)⟩ | exact ⟨v139.toNatClampNeg, by omega, fun z => c141 (e140.trans z), Or.inr (Or.inr (Or.inl (by omega)))⟩ | exact ⟨v161.toNatClampNeg, by omega, fun z => c163 (e162.trans z), Or.inr (Or.inr (Or.inr (by omega)))⟩) _ _ hP hS ls hl
                      have join_126 : (¬ (0 < i % A9 ∧ ¬ mt1 (i - 1) = 0)) → (¬ (i % A9 + 1 < A9 ∧ ¬ mt1 (i + 1) = 0)) → ∀ (H : Heap) (locs : List Loc), va_P D vwCl (WM cy mo a f g (va_up r 9 mt1) q) H → va_S (AM mo a) s.heap H locs → ∀ (ls : Array Slot), lv_has ls 9 [(7, .int (nI i)), (6, .int xn), (5, .int x5), (0, .ref mo), (1, .int w), (2, .int h), (3, .long p0)] → W p l e (headSpec wsX10_isJoined ({ frames := 1, cells := 0, slots := 0, locals := 22 })).room s m #[Value.ref mo, Value.int w, Value.int h, Value.long p0] below meth c H locs 0 0 (MQ below (va_Qi (fun r0 u => ∃ (mt : Nat → Int32), u = (f, g, (va_up r 9 mt), q) ∧ (Bo r0 (jOK w.toNatClampNeg h.toNatClampNeg p0))) (mB D cy mo a) (AM mo a)) #[Value.ref mo, Value.int w, Value.int h, Value.long p0] s 0 0 (AM mo a)) (F0 m 126 ls []) := by
                        intro n1 n2 H locs hP hS ls hl
                        refine lv_iload hx hb dX10_isJoined_126 (lv_at hl 0 rfl) ?_
                        refine lv_iload_n hx hb dX10_isJoined_128 rfl (lv_at hl 4 rfl) ?_
                        refine lv_icmp_lt (tgt := 144) hx hb dX10_isJoined_129 (by decide) (fun c129 => ?_) (fun c129 => ?_)
                        · skip
                          have d129 := c129
                          rw [fa_lt] at d129
                          exact join_144 n1 n2 (fun ⟨z1, z2⟩ => by first | (exfalso; omega) | exact z2 ((congrArg mt1 (show i - A9 = v139.toNatClampNeg by omega)).trans (e140.symm.trans c141))) _ _ hP hS ls hl
                        · skip
                          have d129 := c129
                          rw [fa_lt] at d129
                          refine lv_aload_n hx hb dX10_isJoined_132 rfl (lv_at hl 3 rfl) ?_
                          refine m_get (v := .ref (a 9)) hx hb hts hin hown hK hP 9 (by decide) rfl (hts (.fieldLink RX10 32 "ShadowBenchModel" "met" "[Z") (by decide +kernel)) rfl dX10_isJoined_133 ?_
                          refine lv_iload hx hb dX10_isJoined_136 (lv_at hl 0 rfl) ?_
                          refine lv_iload_n hx hb dX10_isJoined_138 rfl (lv_at hl 4 rfl) ?_
                          refine lv_isub hx hb dX10_isJoined_139 ?_
                          refine lv_topi (fun v139 e139 => ?_)
                          have i139 : v139.toInt = (nI i).toInt - w.toInt := by rw [e139]; exact fb_subI (by omega) (by omega)
                          have c139 := m_cl (x := v139) (by omega)
                          refine m_zald (w := mt1) hx hb hK hP 8 rfl (vp_in_iff.mpr ⟨by omega, by omega⟩) dX10_isJoined_140 ?_
                          refine lv_topi (fun v140 e140 => ?_)
                          have i140 : v140.toInt = (mt1 v139.toNatClampNeg).toInt := congrArg Int32.toInt e140
                          refine lv_if_ne (tgt := 166) hx hb dX10_isJoined_141 (by decide) (fun c141 => ?_) (fun c141 => ?_)
                          · skip
                            have d141 := c141
                            rw [fa_eq] at d141
                            exact join_166 (by first | exact ⟨v99.toNatClampNeg, by omega, fun z => c101 (e100.trans z), Or.inl ⟨by omega, by rw [show v99.toNatClampNeg = i - 1 by omega]; exact (ed88.2.2.mp (by omega)).2⟩⟩ | exact ⟨v121.toNatClampNeg, by omega, fun z => c123 (e122.trans z), Or.inr (Or.inl ⟨by omega, by omega⟩)⟩ | exact ⟨v139.toNatClampNeg, by omega, fun z => c141 (e140.trans z), Or.inr (Or.inr (Or.inl (by omega)))⟩ | exact ⟨v161.toNatClampNeg, by omega, fun z => c163 (e162.trans z), Or.inr (Or.inr (Or.inr (by omega)))⟩) _ _ hP hS ls hl
                          · skip
                            have d141 := c141
                            rw [fa_eq] at d141
                            exact join_144 n1 n2 (fun ⟨z1, z2⟩ => by first | (exfalso; omega) | exact z2 ((congrArg mt1 (show i - A9 = v139.toNatClampNeg by omega)).trans (e140.symm.trans c141))) _ _ hP hS ls hl
                      have join_104 : (¬ (0 < i % A9 ∧ ¬ mt1 (i - 1) = 0)) → ∀ (H : Heap) (locs : List Loc), va_P D vwCl (WM cy mo a f g (va_up r 9 mt1) q) H → va_S (AM mo a) s.heap H locs → ∀ (ls : Array Slot), lv_has ls 9 [(7, .int (nI i)), (6, .int xn), (5, .int x5), (0, .ref mo), (1, .int w), (2, .int h), (3, .long p0)] → W p l e (headSpec wsX10_isJoined ({ frames := 1, cells := 0, slots := 0, locals := 22 })).room s m #[Value.ref mo, Value.int w, Value.int h, Value.long p0] below meth c H locs 0 0 (MQ below (va_Qi (fun r0 u => ∃ (mt : Nat → Int32), u = (f, g, (va_up r 9 mt), q) ∧ (Bo r0 (jOK w.toNatClampNeg h.toNatClampNeg p0))) (mB D cy mo a) (AM mo a)) #[Value.ref mo, Value.int w, Value.int h, Value.long p0] s 0 0 (AM mo a)) (F0 m 104 ls []) := by
                        intro n1 H locs hP hS ls hl
                        refine lv_iload hx hb dX10_isJoined_104 (lv_at hl 0 rfl) ?_
                        refine lv_iload_n hx hb dX10_isJoined_106 rfl (lv_at hl 4 rfl) ?_
                        refine lv_irem hx hb dX10_isJoined_107 (fun z => by rw [fa_eq] at z; omega) ?_
                        refine lv_topi (fun v107 e107 => ?_)
                        have i107 : v107.toInt = (nI i).toInt % w.toInt := by rw [e107]; exact my_irem (by omega) (by omega)
                        have j107 : 0 ≤ v107.toInt ∧ v107.toInt < w.toInt ∧ v107.toInt ≤ (nI i).toInt := by rw [e107]; exact my_remb (by omega) (by omega)
                        refine lv_iconst (v := 1) hx hb dX10_isJoined_108 (by decide) ?_
                        have f107 : v107 = nI (i % A9) := by rw [e107, ← ew]; exact pk_rem (by omega) (by omega) (by omega)
                        have g107 : v107.toInt = ((i % A9 : Nat) : Int) := by rw [f107]; exact nI_toInt (by have := Nat.mod_lt i (show 0 < A9 by omega); omega)
                        refine lv_iadd hx hb dX10_isJoined_109 ?_
                        refine lv_topi (fun v109 e109 => ?_)
                        have i109 : v109.toInt = v107.toInt + (1 : Int32).toInt := by rw [e109]; exact fb_addI (by omega) (by omega)
                        refine lv_iload_n hx hb dX10_isJoined_110 rfl (lv_at hl 4 rfl) ?_
                        refine lv_icmp_ge (tgt := 126) hx hb dX10_isJoined_111 (by decide) (fun c111 => ?_) (fun c111 => ?_)
                        · skip
                          have d111 := c111
                          rw [fa_le] at d111
                          exact join_126 n1 (fun ⟨z1, z2⟩ => by first | (exfalso; omega) | exact z2 ((congrArg mt1 (show i + 1 = v121.toNatClampNeg by omega)).trans (e122.symm.trans c123))) _ _ hP hS ls hl
                        · skip
                          have d111 := c111
                          rw [fa_le] at d111
                          have z114 := rem_next (s := (nI i).toInt) (w := w.toInt) (h := h.toInt) (by omega) (by omega) (by omega) (by omega)
                          refine lv_aload_n hx hb dX10_isJoined_114 rfl (lv_at hl 3 rfl) ?_
                          refine m_get (v := .ref (a 9)) hx hb hts hin hown hK hP 9 (by decide) rfl (hts (.fieldLink RX10 32 "ShadowBenchModel" "met" "[Z") (by decide +kernel)) rfl dX10_isJoined_115 ?_
                          refine lv_iload hx hb dX10_isJoined_118 (lv_at hl 0 rfl) ?_
                          refine lv_iconst (v := 1) hx hb dX10_isJoined_120 (by decide) ?_
                          refine lv_iadd hx hb dX10_isJoined_121 ?_
                          refine lv_topi (fun v121 e121 => ?_)
                          have i121 : v121.toInt = (nI i).toInt + (1 : Int32).toInt := by rw [e121]; exact fb_addI (by omega) (by omega)
                          have c121 := m_cl (x := v121) (by omega)
                          refine m_zald (w := mt1) hx hb hK hP 8 rfl (vp_in_iff.mpr ⟨by omega, by omega⟩) dX10_isJoined_122 ?_
                          refine lv_topi (fun v122 e122 => ?_)
                          have i122 : v122.toInt = (mt1 v121.toNatClampNeg).toInt := congrArg Int32.toInt e122
                          refine lv_if_ne (tgt := 166) hx hb dX10_isJoined_123 (by decide) (fun c123 => ?_) (fun c123 => ?_)
                          · skip
                            have d123 := c123
                            rw [fa_eq] at d123
                            exact join_166 (by first | exact ⟨v99.toNatClampNeg, by omega, fun z => c101 (e100.trans z), Or.inl ⟨by omega, by rw [show v99.toNatClampNeg = i - 1 by omega]; exact (ed88.2.2.mp (by omega)).2⟩⟩ | exact ⟨v121.toNatClampNeg, by omega, fun z => c123 (e122.trans z), Or.inr (Or.inl ⟨by omega, by omega⟩)⟩ | exact ⟨v139.toNatClampNeg, by omega, fun z => c141 (e140.trans z), Or.inr (Or.inr (Or.inl (by omega)))⟩ | exact ⟨v161.toNatClampNeg, by omega, fun z => c163 (e162.trans z), Or.inr (Or.inr (Or.inr (by omega)))⟩) _ _ hP hS ls hl
                          · skip
                            have d123 := c123
                            rw [fa_eq] at d123
                            exact join_126 n1 (fun ⟨z1, z2⟩ => by first | (exfalso; omega) | exact z2 ((congrArg mt1 (show i + 1 = v121.toNatClampNeg by omega)).trans (e122.symm.trans c123))) _ _ hP hS ls hl
                      refine lv_iload_n hx hb dX10_isJoined_87 rfl (lv_at hl 4 rfl) ?_
                      refine lv_irem hx hb dX10_isJoined_88 (fun z => by rw [fa_eq] at z; omega) ?_
                      refine lv_topi (fun v88 e88 => ?_)
                      have i88 : v88.toInt = (nI i).toInt % w.toInt := by rw [e88]; exact my_irem (by omega) (by omega)
                      have j88 : 0 ≤ v88.toInt ∧ v88.toInt < w.toInt ∧ v88.toInt ≤ (nI i).toInt := by rw [e88]; exact my_remb (by omega) (by omega)
                      have f88 : v88 = nI (i % A9) := by rw [e88, ← ew]; exact pk_rem (by omega) (by omega) (by omega)
                      have g88 : v88.toInt = ((i % A9 : Nat) : Int) := by rw [f88]; exact nI_toInt (by have := Nat.mod_lt i (show 0 < A9 by omega); omega)
                      refine lv_if_le (tgt := 104) hx hb dX10_isJoined_89 (by decide) (fun c89 => ?_) (fun c89 => ?_)
                      · skip
                        have d89 := c89
                        rw [fa_le] at d89
                        exact join_104 (fun ⟨z1, z2⟩ => by first | (exfalso; omega) | exact z2 ((congrArg mt1 (show i - 1 = v99.toNatClampNeg by omega)).trans (e100.symm.trans c101))) _ _ hP hS ls hl
                      · skip
                        have d89 := c89
                        rw [fa_le] at d89
                        refine lv_aload_n hx hb dX10_isJoined_92 rfl (lv_at hl 3 rfl) ?_
                        refine m_get (v := .ref (a 9)) hx hb hts hin hown hK hP 9 (by decide) rfl (hts (.fieldLink RX10 32 "ShadowBenchModel" "met" "[Z") (by decide +kernel)) rfl dX10_isJoined_93 ?_
                        refine lv_iload hx hb dX10_isJoined_96 (lv_at hl 0 rfl) ?_
                        refine lv_iconst (v := 1) hx hb dX10_isJoined_98 (by decide) ?_
                        refine lv_isub hx hb dX10_isJoined_99 ?_
                        refine lv_topi (fun v99 e99 => ?_)
                        have i99 : v99.toInt = (nI i).toInt - (1 : Int32).toInt := by rw [e99]; exact fb_subI (by omega) (by omega)
                        have c99 := m_cl (x := v99) (by omega)
                        refine m_zald (w := mt1) hx hb hK hP 8 rfl (vp_in_iff.mpr ⟨by omega, by omega⟩) dX10_isJoined_100 ?_
                        refine lv_topi (fun v100 e100 => ?_)
                        have i100 : v100.toInt = (mt1 v99.toNatClampNeg).toInt := congrArg Int32.toInt e100
                        refine lv_if_ne (tgt := 166) hx hb dX10_isJoined_101 (by decide) (fun c101 => ?_) (fun c101 => ?_)
                        · skip
                          have d101 := c101
                          rw [fa_eq] at d101
                          exact join_166 (by first | exact ⟨v99.toNatClampNeg, by omega, fun z => c101 (e100.trans z), Or.inl ⟨by omega, by rw [show v99.toNatClampNeg = i - 1 by omega]; exact (ed88.2.2.mp (by omega)).2⟩⟩ | exact ⟨v121.toNatClampNeg, by omega, fun z => c123 (e122.trans z), Or.inr (Or.inl ⟨by omega, by omega⟩)⟩ | exact ⟨v139.toNatClampNeg, by omega, fun z => c141 (e140.trans z), Or.inr (Or.inr (Or.inl (by omega)))⟩ | exact ⟨v161.toNatClampNeg, by omega, fun z => c163 (e162.trans z), Or.inr (Or.inr (Or.inr (by omega)))⟩) _ _ hP hS ls hl
                        · skip
                          have d101 := c101
                          rw [fa_eq] at d101
                          exact join_104 (fun ⟨z1, z2⟩ => by first | (exfalso; omega) | exact z2 ((congrArg mt1 (show i - 1 = v99.toNatClampNeg by omega)).trans (e100.symm.trans c101))) _ _ hP hS ls hl
                exact loop_77 (36 + 1) 0 (0 : Int32) mt (by omega) (Or.inl ⟨rfl, Nat.le_refl _⟩) (j66_1) (j66_2) (fun _ s h1 => absurd h1 (Nat.not_lt_zero _)) (by omega) _ _ hP hS ls (lv_sub hl [0, 1, 2, 3, 4, 5, 6] rfl)
          exact loop_66 (mz 1 _ + 1) (1 : Int32) (((upd mt0 x5.toNatClampNeg ((1 : Int32) &&& 1)))) (by decide) (fun e he hne => by unfold upd at hne; split at hne; (rename_i z; rw [z]; exact ⟨0, hfirst⟩); exact absurd (hz e he) hne) (by unfold upd; rw [if_pos rfl]; decide) (fun z => absurd z (by decide)) (Nat.lt_succ_self _) _ _ hP hS ls (lv_sub hl [0, 1, 2, 3, 4, 5] rfl)
        · skip
          have d50 := c50
          rw [fa_le] at d50
          refine lv_iconst (v := 1) hx hb dX10_isJoined_53 (by decide) ?_
          exact W.zret (v := (1 : Int32)) hx hb hr (by first | decide | (rcases j224_1 with ⟨z, _⟩ | ⟨z, _⟩ <;> rw [z] <;> rfl)) (fun t ht hW => ⟨⟨_, (f, g, (va_up r 9 mt0), q), rfl, ⟨mt0, rfl, Or.inl ⟨rfl, (by rcases j10_3 with ⟨z1, z2⟩ | ⟨z1, z2, z3⟩; (rw [← hA9, ← hB9]; exact j_none (fun s hs => z2 s hs (by omega))); (exfalso; omega))⟩⟩, by unfold mB; rw [ht]; exact hP⟩, hS.F ht⟩) hS.2.2 dX10_isJoined_54
      · skip
        have d12 := c12
        rw [fa_lt] at d12
        refine lv_aload_n hx hb dX10_isJoined_15 rfl (lv_at hl 2 rfl) ?_
        refine m_get (v := .ref (a 9)) hx hb hts hin hown hK hP 9 (by decide) rfl (hts (.fieldLink RX10 32 "ShadowBenchModel" "met" "[Z") (by decide +kernel)) rfl dX10_isJoined_16 ?_
        refine lv_iload hx hb dX10_isJoined_19 (lv_at hl 0 rfl) ?_
        refine lv_iconst (v := 0) hx hb dX10_isJoined_21 (by decide) ?_
        refine m_zast (w := mt0) hx hb hK hP hD hS 8 rfl (vp_in_iff.mpr ⟨by omega, by omega⟩) (va_up r 9 ((upd mt0 x6.toNatClampNeg ((0 : Int32) &&& 1)))) rfl dX10_isJoined_22 (fun H locs hP hS => ?_)
        refine lv_lload_n hx hb dX10_isJoined_23 rfl (lv_at hl 5 rfl) ?_
        refine lv_iload hx hb dX10_isJoined_24 (lv_at hl 0 rfl) ?_
        refine m_pu (As := [.long p0, .int x6]) (rest := []) ⟨hx, hb, hml, hown, hts⟩ (c_X10_one l p0 x6 ) (va_cwS 2 hts gX10_isJoined_X10_one rfl rfl rfl (by decide +kernel) ⟨Nat.le_of_ble_eq_true rfl, Nat.le_of_ble_eq_true rfl⟩) hP rfl hl.1 rfl (Nat.le_of_ble_eq_true rfl) dX10_isJoined_26 ⟨Nat.le_of_ble_eq_true rfl, Nat.le_of_ble_eq_true rfl⟩ hS (fun r26 H locs q26 hP hS => ?_)
        have i26 : r26.toInt = (r_one p0 x6).toInt := congrArg Int32.toInt q26
        have cx6 := m_cl (x := x6) (by omega)
        have f26 : r26 = if lb p0 x6.toNatClampNeg then 1 else 0 := by rw [q26, ← one_lb p0 (by omega), cl_nI (by omega)]
        refine lv_iconst (v := 1) hx hb dX10_isJoined_29 (by decide) ?_
        refine lv_icmp_ne (tgt := 38) hx hb dX10_isJoined_30 (by decide) (fun c30 => ?_) (fun c30 => ?_)
        · skip
          have d30 := c30
          rw [fa_eq] at d30
          refine lv_iload hx hb dX10_isJoined_38 (lv_at hl 1 rfl) ?_
          refine lv_istore (lv' := [(5, .int x5), (6, .int x6), (0, .ref mo), (1, .int w), (2, .int h), (3, .long p0)]) hx hb dX10_isJoined_40 hl (by decide) rfl (fun ls hl => ?_)
          first
          | have hb6 : lb p0 x6.toNatClampNeg = false := by cases hb : lb p0 x6.toNatClampNeg; rfl; (rw [hb] at f26; exact absurd f26 c30)
          | have hb6 : lb p0 x6.toNatClampNeg = true := by cases hb : lb p0 x6.toNatClampNeg; (rw [hb] at f26; exact absurd (c30.symm.trans f26) (by decide)); rfl
          obtain ⟨v42, e42⟩ : ∃ y : Int32, y = x6 + (-1) := ⟨_, rfl⟩
          have i42 : v42.toInt = x6.toInt + -1 := by rw [e42]; exact fb_addI (by omega) (by omega)
          refine lv_iinc (v := v42) (lv' := [(6, .int v42), (5, .int x5), (0, .ref mo), (1, .int w), (2, .int h), (3, .long p0)]) hx hb dX10_isJoined_42 hl (k := 1) rfl (by rw [e42]; rfl) (by decide) rfl (fun ls hl => ?_)
          refine lv_goto (tgt := 10) hx hb dX10_isJoined_45 (by decide) ?_
          exact ih_10 v42 x5 (((upd mt0 x6.toNatClampNeg ((0 : Int32) &&& 1)))) (by omega) (by omega) (fun e h1 h2 => by unfold upd; split; rfl; exact j10_2 e h1 (by omega)) (by
                                                                                          first
                                                                                          | exact Or.inr ⟨by omega, hb6, fun s h1 h2 => by omega⟩
                                                                                          | (rcases j10_3 with ⟨z1, z2⟩ | ⟨z1, z2, z3⟩
                                                                                             · exact Or.inl ⟨z1, fun s h1 h2 => by
                                                                                                 by_cases e9 : s = x6.toNatClampNeg
                                                                                                 · rw [e9]; exact hb6
                                                                                                 · exact z2 s h1 (by omega)⟩
                                                                                             · exact Or.inr ⟨by omega, z2, fun s h1 h2 => by
                                                                                                 by_cases e9 : s = x6.toNatClampNeg
                                                                                                 · rw [e9]; exact hb6
                                                                                                 · exact z3 s (by omega) h2⟩)) (by omega) _ _ hP hS ls (lv_sub hl [0, 1, 2, 3, 4, 5] rfl)
        · skip
          have d30 := c30
          rw [fa_eq] at d30
          refine lv_iload hx hb dX10_isJoined_33 (lv_at hl 0 rfl) ?_
          refine lv_goto (tgt := 40) hx hb dX10_isJoined_35 (by decide) ?_
          refine lv_istore (lv' := [(5, .int x6), (6, .int x6), (0, .ref mo), (1, .int w), (2, .int h), (3, .long p0)]) hx hb dX10_isJoined_40 hl (by decide) rfl (fun ls hl => ?_)
          first
          | have hb6 : lb p0 x6.toNatClampNeg = false := by cases hb : lb p0 x6.toNatClampNeg; rfl; (rw [hb] at f26; exact absurd f26 c30)
          | have hb6 : lb p0 x6.toNatClampNeg = true := by cases hb : lb p0 x6.toNatClampNeg; (rw [hb] at f26; exact absurd (c30.symm.trans f26) (by decide)); rfl
          obtain ⟨v42, e42⟩ : ∃ y : Int32, y = x6 + (-1) := ⟨_, rfl⟩
          have i42 : v42.toInt = x6.toInt + -1 := by rw [e42]; exact fb_addI (by omega) (by omega)
          refine lv_iinc (v := v42) (lv' := [(6, .int v42), (5, .int x6), (0, .ref mo), (1, .int w), (2, .int h), (3, .long p0)]) hx hb dX10_isJoined_42 hl (k := 1) rfl (by rw [e42]; rfl) (by decide) rfl (fun ls hl => ?_)
          refine lv_goto (tgt := 10) hx hb dX10_isJoined_45 (by decide) ?_
          exact ih_10 v42 x6 (((upd mt0 x6.toNatClampNeg ((0 : Int32) &&& 1)))) (by omega) (by omega) (fun e h1 h2 => by unfold upd; split; rfl; exact j10_2 e h1 (by omega)) (by
                                                                                          first
                                                                                          | exact Or.inr ⟨by omega, hb6, fun s h1 h2 => by omega⟩
                                                                                          | (rcases j10_3 with ⟨z1, z2⟩ | ⟨z1, z2, z3⟩
                                                                                             · exact Or.inl ⟨z1, fun s h1 h2 => by
                                                                                                 by_cases e9 : s = x6.toNatClampNeg
                                                                                                 · rw [e9]; exact hb6
                                                                                                 · exact z2 s h1 (by omega)⟩
                                                                                             · exact Or.inr ⟨by omega, z2, fun s h1 h2 => by
                                                                                                 by_cases e9 : s = x6.toNatClampNeg
                                                                                                 · rw [e9]; exact hb6
                                                                                                 · exact z3 s (by omega) h2⟩)) (by omega) _ _ hP hS ls (lv_sub hl [0, 1, 2, 3, 4, 5] rfl)
  exact loop_10 ((w.toInt * h.toInt).toNat + 1) v7 (((-1) : Int32)) (r 9) (by omega) (by omega) (fun e h1 h2 => by omega) (Or.inl ⟨rfl, fun s h1 h2 => by omega⟩) (by omega) _ _ hP hS ls (lv_sub hl [0, 1, 2, 3, 4, 5] rfl)
set_option maxHeartbeats 4000000 in
set_option maxRecDepth 100000 in
theorem c_X10_joined_x (l : Launch) (D : va_G) (cy : Nat → ClassId) (mo : Nat) (a : Nat → Nat) (f : Nat → Int32) (g : Nat → Int64) (r : Nat → Nat → Int32) (q : Nat → Nat → Int64) (w : Int32) (h : Int32) (p0 : Int64) (hD : DM cy mo a)  : Mi l D cy mo a yX10_joined wsX10_joined ({ frames := 3, cells := 0, slots := 0, locals := 69 }) f g r q [.int w, .int h, .long p0] (fun r0 u => ∃ (mt : Nat → Int32), u = ((upd f 0 (0 : Int32)), g, (va_up r 9 mt), q) ∧ (joA w h p0 r0)) := by
  refine Met.ofW (cc := cX10_joined) (maxL := 5) (ret := (some .int)) (by decide) rfl ?_
  intro p e s m args below meth c s₁ B hml hv
  obtain ⟨rfl, hP, hK⟩ := hv
  have hx := B.exec
  have hb := B.bytes
  have hr := B.returns
  have hts := atoms_spec (ws := wsX10_joined) B.pre
  have hin : ∀ w ∈ u_ws RX10 TX10 35, w ∈ wsX10_joined := by decide +kernel
  have hown : s.vm.findClass RX10 = some m.cls := findClass_of_methodNamed B.named
  have hlocks := B.notSynchronized
  have hS : va_S (AM mo a) s.heap s.heap [] := va_S.rf
  have hl := lv_entry ([.ref mo, .int w, .int h, .long p0]) (n := 5) (Nat.le_of_ble_eq_true rfl)
  rw [lg_entry_eq]
  generalize (lg_sl ([.ref mo, .int w, .int h, .long p0]) ++ List.replicate (5 - (lg_sl ([.ref mo, .int w, .int h, .long p0])).length) Slot.unset).toArray = ls at hl ⊢
  have hl : lv_has ls 5 [(0, .ref mo), (1, .int w), (2, .int h), (3, .long p0)] := hl
  have k_m1 : (-1 : Int32).toInt = -1 := by decide
  have k_0 : (0 : Int32).toInt = 0 := by decide
  have k_1 : (1 : Int32).toInt = 1 := by decide
  refine lv_aload_n hx hb dX10_joined_0 rfl (lv_at hl 0 rfl) ?_
  refine lv_iconst (v := 0) hx hb dX10_joined_1 (by decide) ?_
  refine m_put (v := .int (0 : Int32)) (ty := .int) hx hb hts hin hown hK hP hD hS 0 (by decide) rfl (hts (.fieldLink RX10 79 "ShadowBenchModel" "thrown" "I") (by decide +kernel)) rfl (by decide +kernel) rfl rfl (upd f 0 (0 : Int32)) g rfl dX10_joined_2 (fun H locs hP hS => ?_)
  refine lv_iload_n hx hb dX10_joined_5 rfl (lv_at hl 1 rfl) ?_
  refine lv_iload_n hx hb dX10_joined_6 rfl (lv_at hl 2 rfl) ?_
  refine lv_lload_n hx hb dX10_joined_7 rfl (lv_at hl 3 rfl) ?_
  refine m_pu (As := [.int w, .int h, .long p0]) (rest := []) ⟨hx, hb, hml, hown, hts⟩ (c_X10_isPicture l w h p0 ) (va_cwS 3 hts gX10_joined_X10_isPicture rfl rfl rfl (by decide +kernel) ⟨Nat.le_of_ble_eq_true rfl, Nat.le_of_ble_eq_true rfl⟩) hP rfl hl.1 rfl (Nat.le_of_ble_eq_true rfl) dX10_joined_8 ⟨Nat.le_of_ble_eq_true rfl, Nat.le_of_ble_eq_true rfl⟩ hS (fun r8 H locs q8 hP hS => ?_)
  refine lv_if_ne (tgt := 18) hx hb dX10_joined_11 (by decide) (fun c11 => ?_) (fun c11 => ?_)
  · skip
    have b11 := bo_t q8 c11
    refine lv_aload_n hx hb dX10_joined_18 rfl (lv_at hl 0 rfl) ?_
    refine lv_iload_n hx hb dX10_joined_19 rfl (lv_at hl 1 rfl) ?_
    refine lv_iload_n hx hb dX10_joined_20 rfl (lv_at hl 2 rfl) ?_
    refine lv_lload_n hx hb dX10_joined_21 rfl (lv_at hl 3 rfl) ?_
    refine m_calli (As := [.int w, .int h, .long p0]) (rest := []) ⟨hx, hb, hml, hown, hts⟩ (c_X10_isJoined_x l D cy mo a (upd f 0 (0 : Int32)) g r q w h p0 hD b11.1.1 b11.1.2) (cwV 3 hts gX10_joined_X10_isJoined rfl rfl rfl (by decide +kernel) ⟨Nat.le_of_ble_eq_true rfl, Nat.le_of_ble_eq_true rfl⟩) hK hP rfl hl.1 rfl (Nat.le_of_ble_eq_true rfl) dX10_joined_22 ⟨Nat.le_of_ble_eq_true rfl, Nat.le_of_ble_eq_true rfl⟩ hS (fun r22 u H locs q22 hP hS => ?_)
    obtain ⟨mt_22, rfl, q22⟩ := q22
    have hP : va_P D vwCl (WM cy mo a (upd f 0 (0 : Int32)) g (va_up r 9 mt_22) q) H := hP
    have q22 : Bo r22 (jOK w.toNatClampNeg h.toNatClampNeg p0) := q22
    refine lv_if_eq (tgt := 32) hx hb dX10_joined_25 (by decide) (fun c25 => ?_) (fun c25 => ?_)
    · skip
      have b25 := bo_f q22 c25
      refine lv_iconst (v := 0) hx hb dX10_joined_32 (by decide) ?_
      exact W.iret (v := (0 : Int32)) hx hb hr (fun t ht hW => ⟨⟨_, ((upd f 0 (0 : Int32)), g, (va_up r 9 mt_22), q), rfl, ⟨mt_22, rfl, (Or.inl ⟨goodP_of b11, Or.inr ⟨b25, rfl⟩⟩)⟩, by unfold mB; rw [ht]; exact hP⟩, hS.F ht⟩) hS.2.2 dX10_joined_33
    · skip
      have b25 := bo_t q22 c25
      refine lv_iconst (v := 1) hx hb dX10_joined_28 (by decide) ?_
      refine lv_goto (tgt := 33) hx hb dX10_joined_29 (by decide) ?_
      exact W.iret (v := (1 : Int32)) hx hb hr (fun t ht hW => ⟨⟨_, ((upd f 0 (0 : Int32)), g, (va_up r 9 mt_22), q), rfl, ⟨mt_22, rfl, (Or.inl ⟨goodP_of b11, Or.inl ⟨b25, rfl⟩⟩)⟩, by unfold mB; rw [ht]; exact hP⟩, hS.F ht⟩) hS.2.2 dX10_joined_33
  · skip
    have b11 := bo_f q8 c11
    refine lv_iconst (v := (-1)) hx hb dX10_joined_14 (by decide) ?_
    refine lv_goto (tgt := 33) hx hb dX10_joined_15 (by decide) ?_
    have hP := wm_eq rfl rfl (ec_r___9 r ) rfl hP
    exact W.iret (v := ((-1) : Int32)) hx hb hr (fun t ht hW => ⟨⟨_, ((upd f 0 (0 : Int32)), g, (va_up r 9 (r 9)), q), rfl, ⟨(r 9), rfl, (Or.inr ⟨goodP_no b11, rfl⟩)⟩, by unfold mB; rw [ht]; exact hP⟩, hS.F ht⟩) hS.2.2 dX10_joined_33
