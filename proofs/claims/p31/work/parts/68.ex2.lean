/-! counting ones: java.lang.Long.bitCount, java.lang.Integer.bitCount -/
def bs (f : Nat → Bool) : Nat → Nat
  | 0 => 0
  | k + 1 => bs f k + (f k).toNat
theorem bs_le (f : Nat → Bool) (k : Nat) : bs f k ≤ k := by
  induction k with
  | zero => exact Nat.le_refl _
  | succ k ih => simp only [bs]; cases f k <;> simp only [Bool.toNat_true, Bool.toNat_false] <;> omega
theorem bs_cg {f g : Nat → Bool} {k : Nat} (h : ∀ i, i < k → f i = g i) : bs f k = bs g k := by
  induction k with
  | zero => rfl
  | succ k ih => simp only [bs]; rw [ih (fun i hi => h i (by omega)), h k (by omega)]
theorem bs_add (f : Nat → Bool) (a b : Nat) : bs f (a + b) = bs f a + bs (fun i => f (a + i)) b := by
  induction b with
  | zero => rfl
  | succ b ih => show bs f (a + b) + (f (a + b)).toNat = bs f a + (bs (fun i => f (a + i)) b + (f (a + b)).toNat); omega
def pc8 (b : Nat) : Nat := bs (fun i => b.testBit i) 8
def dg : Nat → Nat → Nat
  | 0, _ => 0
  | k + 1, n => 256 * dg k (n / 256) + pc8 (n % 256)
def m85 : Nat → Nat
  | 0 => 0
  | k + 1 => 256 * m85 k + 85
def m51 : Nat → Nat
  | 0 => 0
  | k + 1 => 256 * m51 k + 51
def m15 : Nat → Nat
  | 0 => 0
  | k + 1 => 256 * m15 k + 15
theorem and256 {a m : Nat} {c d : Nat} (hc : c < 256) (hd : d < 256) : (256 * a + c) &&& (256 * m + d) = 256 * (a &&& m) + (c &&& d) := by
  have h1 : ((256 * a + c) &&& (256 * m + d)) / 2 ^ 8 = a &&& m := by
    rw [Nat.and_div_two_pow]
    rw [show (256 * a + c) / 2 ^ 8 = a by omega, show (256 * m + d) / 2 ^ 8 = m by omega]
  have h2 : ((256 * a + c) &&& (256 * m + d)) % 2 ^ 8 = c &&& d := by
    rw [Nat.and_mod_two_pow]
    rw [show (256 * a + c) % 2 ^ 8 = c by omega, show (256 * m + d) % 2 ^ 8 = d by omega]
  generalize (256 * a + c) &&& (256 * m + d) = z at *
  omega
set_option maxRecDepth 100000 in
theorem byte1 : ∀ b, b < 256 → (b / 2 &&& 85) ≤ b ∧ (∀ r, r < 2 → (128 * r + b / 2) &&& 85 = b / 2 &&& 85) := by decide +kernel
set_option maxRecDepth 100000 in
theorem byte2 : ∀ c, c < 256 → (∀ r, r < 4 → (64 * r + c / 4) &&& 51 = c / 4 &&& 51) := by decide +kernel
set_option maxRecDepth 100000 in
theorem byte3 : ∀ b, b < 256 → ((b - (b / 2 &&& 85) &&& 51) + ((b - (b / 2 &&& 85)) / 4 &&& 51)) ≤ 68 ∧ ((b - (b / 2 &&& 85) &&& 51) + ((b - (b / 2 &&& 85)) / 4 &&& 51)) % 16 ≤ 4 ∧ (∀ r, r < 5 → (((b - (b / 2 &&& 85) &&& 51) + ((b - (b / 2 &&& 85)) / 4 &&& 51)) + 16 * r + ((b - (b / 2 &&& 85) &&& 51) + ((b - (b / 2 &&& 85)) / 4 &&& 51)) / 16) &&& 15 = pc8 b) := by decide +kernel
def x1 (k n : Nat) : Nat := n - (n / 2 &&& m85 k)
def x2 (k n : Nat) : Nat := (x1 k n &&& m51 k) + (x1 k n / 4 &&& m51 k)
def x3 (k n : Nat) : Nat := (x2 k n + x2 k n / 16) &&& m15 k
theorem x_all (k : Nat) : ∀ n, n < 256 ^ k → (n / 2 &&& m85 k) ≤ n ∧ x2 k n < 256 ^ k ∧ x2 k n + x2 k n / 16 < 256 ^ k ∧ x2 k n % 16 ≤ 4 ∧ x3 k n = dg k n := by
  induction k with
  | zero =>
    intro n hn
    have : n = 0 := by simp at hn; omega
    subst this
    decide
  | succ k ih =>
    intro n hn
    obtain ⟨y, b, hb, rfl⟩ : ∃ y b, b < 256 ∧ n = 256 * y + b := ⟨n / 256, n % 256, by omega, by omega⟩
    have hp : 256 ^ (k + 1) = 256 * 256 ^ k := by rw [Nat.pow_succ, Nat.mul_comm]
    rw [hp] at hn ⊢
    have hy : y < 256 ^ k := by omega
    obtain ⟨h1, h2, h3, h4, h5⟩ := ih y hy
    obtain ⟨b1, b2⟩ := byte1 b hb
    obtain ⟨c1, c2, c3⟩ := byte3 b hb
    have e1 : (256 * y + b) / 2 &&& m85 (k + 1) = 256 * (y / 2 &&& m85 k) + (b / 2 &&& 85) := by
      show _ &&& (256 * m85 k + 85) = _
      rw [show (256 * y + b) / 2 = 256 * (y / 2) + (128 * (y % 2) + b / 2) by omega, and256 (by omega) (by omega), b2 (y % 2) (by omega)]
    have e2 : x1 (k + 1) (256 * y + b) = 256 * x1 k y + (b - (b / 2 &&& 85)) := by unfold x1; rw [e1]; omega
    have hc : b - (b / 2 &&& 85) < 256 := by omega
    obtain ⟨c, hcc⟩ : ∃ c, c = b - (b / 2 &&& 85) := ⟨_, rfl⟩
    rw [← hcc] at e2 hc c1 c2 c3
    have d2 := byte2 c hc
    obtain ⟨z, hz⟩ : ∃ z, z = x1 k y := ⟨_, rfl⟩
    have e3 : x2 (k + 1) (256 * y + b) = 256 * x2 k y + ((c &&& 51) + (c / 4 &&& 51)) := by
      unfold x2
      rw [e2, ← hz]
      show ((256 * z + c) &&& (256 * m51 k + 51)) + ((256 * z + c) / 4 &&& (256 * m51 k + 51)) = _
      rw [show (256 * z + c) / 4 = 256 * (z / 4) + (64 * (z % 4) + c / 4) by omega, and256 hc (by omega), and256 (by omega) (by omega), d2 (z % 4) (by omega)]
      omega
    obtain ⟨d, hd⟩ : ∃ d, d = (c &&& 51) + (c / 4 &&& 51) := ⟨_, rfl⟩
    rw [← hd] at e3 c1 c2 c3
    obtain ⟨u, hu⟩ : ∃ u, u = x2 k y := ⟨_, rfl⟩
    rw [← hu] at e3 h2 h3 h4
    have e4 : x2 (k + 1) (256 * y + b) + x2 (k + 1) (256 * y + b) / 16 = 256 * (u + u / 16) + (d + 16 * (u % 16) + d / 16) := by rw [e3]; omega
    refine ⟨by rw [e1]; omega, by rw [e3]; omega, by rw [e4]; omega, by rw [e3]; omega, ?_⟩
    unfold x3
    rw [e4]
    show (256 * (u + u / 16) + (d + 16 * (u % 16) + d / 16)) &&& (256 * m15 k + 15) = 256 * dg k ((256 * y + b) / 256) + pc8 ((256 * y + b) % 256)
    rw [and256 (by omega) (by omega), c3 (u % 16) (by omega), show (256 * y + b) / 256 = y by omega, show (256 * y + b) % 256 = b by omega, ← h5]
    unfold x3
    rw [← hu]
theorem pc8_le (b : Nat) : pc8 b ≤ 8 := bs_le _ 8
theorem pc8_bs (n j : Nat) : pc8 (n / 2 ^ j % 256) = bs (fun i => n.testBit (j + i)) 8 := by
  unfold pc8
  apply bs_cg
  intro i hi
  rw [show (256 : Nat) = 2 ^ 8 from rfl, Nat.testBit_mod_two_pow, decide_eq_true hi, Bool.true_and, Nat.testBit_div_two_pow, Nat.add_comm]
theorem dg8 (n : Nat) : ∃ p0 p1 p2 p3 p4 p5 p6 p7 : Nat, (p0 ≤ 8 ∧ p1 ≤ 8 ∧ p2 ≤ 8 ∧ p3 ≤ 8 ∧ p4 ≤ 8 ∧ p5 ≤ 8 ∧ p6 ≤ 8 ∧ p7 ≤ 8) ∧ dg 8 n = p0 + 256 * (p1 + 256 * (p2 + 256 * (p3 + 256 * (p4 + 256 * (p5 + 256 * (p6 + 256 * p7)))))) ∧ bs (fun i => n.testBit i) 64 = p0 + p1 + p2 + p3 + p4 + p5 + p6 + p7 := by
  refine ⟨pc8 (n / 2 ^ 0 % 256), pc8 (n / 2 ^ 8 % 256), pc8 (n / 2 ^ 16 % 256), pc8 (n / 2 ^ 24 % 256), pc8 (n / 2 ^ 32 % 256), pc8 (n / 2 ^ 40 % 256), pc8 (n / 2 ^ 48 % 256), pc8 (n / 2 ^ 56 % 256), ⟨pc8_le _, pc8_le _, pc8_le _, pc8_le _, pc8_le _, pc8_le _, pc8_le _, pc8_le _⟩, ?_, ?_⟩
  · simp only [dg, Nat.div_div_eq_div_mul]
    simp only [show n / 2 ^ 0 = n by omega, show (2 : Nat) ^ 8 = 256 from rfl, show (2 : Nat) ^ 16 = 256 * 256 from rfl, show (2 : Nat) ^ 24 = 256 * 256 * 256 from rfl, show (2 : Nat) ^ 32 = 256 * 256 * 256 * 256 from rfl, show (2 : Nat) ^ 40 = 256 * 256 * 256 * 256 * 256 from rfl, show (2 : Nat) ^ 48 = 256 * 256 * 256 * 256 * 256 * 256 from rfl, show (2 : Nat) ^ 56 = 256 * 256 * 256 * 256 * 256 * 256 * 256 from rfl]
    omega
  · rw [pc8_bs, pc8_bs, pc8_bs, pc8_bs, pc8_bs, pc8_bs, pc8_bs, pc8_bs]
    rw [show (64 : Nat) = 56 + 8 from rfl, bs_add, show (56 : Nat) = 48 + 8 from rfl, bs_add _ 48 8, show (48 : Nat) = 40 + 8 from rfl, bs_add _ 40 8, show (40 : Nat) = 32 + 8 from rfl, bs_add _ 32 8, show (32 : Nat) = 24 + 8 from rfl, bs_add _ 24 8, show (24 : Nat) = 16 + 8 from rfl, bs_add _ 16 8, show (16 : Nat) = 8 + 8 from rfl, bs_add _ 8 8]
    simp only [Nat.zero_add]
theorem dg4 (n : Nat) : ∃ p0 p1 p2 p3 : Nat, (p0 ≤ 8 ∧ p1 ≤ 8 ∧ p2 ≤ 8 ∧ p3 ≤ 8) ∧ dg 4 n = p0 + 256 * (p1 + 256 * (p2 + 256 * p3)) ∧ bs (fun i => n.testBit i) 32 = p0 + p1 + p2 + p3 := by
  refine ⟨pc8 (n / 2 ^ 0 % 256), pc8 (n / 2 ^ 8 % 256), pc8 (n / 2 ^ 16 % 256), pc8 (n / 2 ^ 24 % 256), ⟨pc8_le _, pc8_le _, pc8_le _, pc8_le _⟩, ?_, ?_⟩
  · simp only [dg, Nat.div_div_eq_div_mul]
    simp only [show n / 2 ^ 0 = n by omega, show (2 : Nat) ^ 8 = 256 from rfl, show (2 : Nat) ^ 16 = 256 * 256 from rfl, show (2 : Nat) ^ 24 = 256 * 256 * 256 from rfl]
    omega
  · rw [pc8_bs, pc8_bs, pc8_bs, pc8_bs]
    rw [show (32 : Nat) = 24 + 8 from rfl, bs_add _ 24 8, show (24 : Nat) = 16 + 8 from rfl, bs_add _ 16 8, show (16 : Nat) = 8 + 8 from rfl, bs_add _ 8 8]
    simp only [Nat.zero_add]
theorem y_of (x : Int64) : x = lN x.toBitVec.toNat := Int64.toBitVec_inj.mp (by show _ = BitVec.ofNat 64 _; simp)
theorem y_tn {n : Nat} (h : n < 2 ^ 64) : (lN n).toBitVec.toNat = n := by show (BitVec.ofNat 64 n).toNat = n; rw [BitVec.toNat_ofNat, Nat.mod_eq_of_lt h]
theorem y_and {a b : Nat} (ha : a < 2 ^ 64) (hb : b < 2 ^ 64) : lN a &&& lN b = lN (a &&& b) := by
  apply Int64.toBitVec_inj.mp
  apply BitVec.eq_of_toNat_eq
  rw [Int64.toBitVec_and, BitVec.toNat_and, y_tn ha, y_tn hb, y_tn (Nat.and_lt_two_pow _ hb)]
theorem y_cu : ∀ k, k < 64 → ((nI k).toInt64.toUInt64 &&& Int64.toUInt64 63).toNat % 64 = k := by decide +kernel
theorem y_shr {n : Nat} (k : Nat) (hn : n < 2 ^ 64) (hk : k < 64) : ((lN n).toUInt64 >>> ((nI k).toInt64.toUInt64 &&& Int64.toUInt64 63)).toInt64 = lN (n / 2 ^ k) := by
  apply Int64.toBitVec_inj.mp
  apply BitVec.eq_of_toNat_eq
  show ((lN n).toUInt64 >>> ((nI k).toInt64.toUInt64 &&& Int64.toUInt64 63)).toNat = _
  rw [UInt64.toNat_shiftRight, y_cu k hk, Nat.shiftRight_eq_div_pow, y_tn (Nat.lt_of_le_of_lt (Nat.div_le_self _ _) hn)]
  show (lN n).toBitVec.toNat / 2 ^ k = _
  rw [y_tn hn]
theorem lb_tb (x : Int64) (i : Nat) : lb x i = x.toBitVec.toNat.testBit i := rfl
theorem m85_8 : m85 8 = 6148914691236517205 := by decide +kernel
theorem m51_8 : m51 8 = 3689348814741910323 := by decide +kernel
theorem m15_8 : m15 8 = 1085102592571150095 := by decide +kernel
theorem k85 : (6148914691236517205 : Int64) = lN 6148914691236517205 := rfl
theorem k51 : (3689348814741910323 : Int64) = lN 3689348814741910323 := rfl
theorem k15 : (1085102592571150095 : Int64) = lN 1085102592571150095 := rfl
theorem x_8 {n : Nat} (hn : n < 18446744073709551616) : (n / 2 &&& 6148914691236517205) ≤ n ∧ x2 8 n < 18446744073709551616 ∧ x2 8 n + x2 8 n / 16 < 18446744073709551616 ∧ x3 8 n = dg 8 n := by
  have h := x_all 8 n (by rw [show (256 : Nat) ^ 8 = 18446744073709551616 from by decide +kernel]; exact hn)
  rw [show (256 : Nat) ^ 8 = 18446744073709551616 from by decide +kernel, m85_8] at h
  exact ⟨h.1, h.2.1, h.2.2.1, h.2.2.2.2⟩
theorem sum_8 {p0 p1 p2 p3 p4 p5 p6 p7 d m1 m2 m3 : Nat} (hb : p0 ≤ 8 ∧ p1 ≤ 8 ∧ p2 ≤ 8 ∧ p3 ≤ 8 ∧ p4 ≤ 8 ∧ p5 ≤ 8 ∧ p6 ≤ 8 ∧ p7 ≤ 8) (hd : d = p0 + 256 * (p1 + 256 * (p2 + 256 * (p3 + 256 * (p4 + 256 * (p5 + 256 * (p6 + 256 * p7))))))) (hm1 : m1 = d + d / 256) (hm2 : m2 = m1 + m1 / 65536) (hm3 : m3 = m2 + m2 / 4294967296) : m1 < 18446744073709551616 ∧ m2 < 18446744073709551616 ∧ m3 % 128 = p0 + p1 + p2 + p3 + p4 + p5 + p6 + p7 := by
  have a1 : d / 256 = p1 + 256 * (p2 + 256 * (p3 + 256 * (p4 + 256 * (p5 + 256 * (p6 + 256 * p7))))) := by omega
  have a2 : m1 / 65536 = (p2 + p3) + 256 * ((p3 + p4) + 256 * ((p4 + p5) + 256 * ((p5 + p6) + 256 * ((p6 + p7) + 256 * p7)))) := by
    rw [hm1, a1, hd]; clear hm1 hm2 hm3 a1 hd; omega
  have a3 : m2 = (p0 + p1 + p2 + p3) + 256 * ((p1 + p2 + p3 + p4) + 256 * ((p2 + p3 + p4 + p5) + 256 * (p3 + p4 + p5 + p6))) + 4294967296 * ((p4 + p5 + p6 + p7) + 256 * ((p5 + p6 + p7) + 256 * ((p6 + p7) + 256 * p7))) := by
    rw [hm2, a2, hm1, a1, hd]; clear hm1 hm2 hm3 a1 a2 hd; omega
  have a4 : m2 / 4294967296 = (p4 + p5 + p6 + p7) + 256 * ((p5 + p6 + p7) + 256 * ((p6 + p7) + 256 * p7)) := by
    rw [a3]; clear hm1 hm2 hm3 a1 a2 a3 hd; omega
  refine ⟨?_, ?_, ?_⟩
  · rw [hm1, a1, hd]; clear hm1 hm2 hm3 a1 a2 a3 a4 hd; omega
  · rw [a3]; clear hm1 hm2 hm3 a1 a2 a3 a4 hd; omega
  · rw [hm3, a4, a3]; clear hm1 hm2 hm3 a1 a2 a3 a4 hd; omega
theorem and127 (m : Nat) : nI m &&& 127 = nI (m % 128) := by
  have e1 : nI m &&& 127 = nI ((nI m).toBitVec.toNat % 2 ^ 7) := pk_and _ 7 (by decide)
  have e2 : (nI m).toBitVec.toNat = m % 2 ^ 32 := by show (BitVec.ofNat 32 m).toNat = _; rw [BitVec.toNat_ofNat]
  rw [e2] at e1
  rw [show m % 128 = m % 2 ^ 32 % 2 ^ 7 by omega]
  exact e1
theorem bc_long {p v7 v8 v14 v21 v22 v28 v32 v39 v46 v53 : Int64} {r : Int32}
    (e7 : v7 = (p.toUInt64 >>> ((1 : Int32).toInt64.toUInt64 &&& Int64.toUInt64 63)).toInt64 &&& (6148914691236517205 : Int64)) (e8 : v8 = p - v7)
    (e14 : v14 = v8 &&& (3689348814741910323 : Int64)) (e21 : v21 = (v8.toUInt64 >>> ((2 : Int32).toInt64.toUInt64 &&& Int64.toUInt64 63)).toInt64 &&& (3689348814741910323 : Int64)) (e22 : v22 = v14 + v21)
    (e28 : v28 = v22 + (v22.toUInt64 >>> ((4 : Int32).toInt64.toUInt64 &&& Int64.toUInt64 63)).toInt64) (e32 : v32 = v28 &&& (1085102592571150095 : Int64))
    (e39 : v39 = v32 + (v32.toUInt64 >>> ((8 : Int32).toInt64.toUInt64 &&& Int64.toUInt64 63)).toInt64) (e46 : v46 = v39 + (v39.toUInt64 >>> ((16 : Int32).toInt64.toUInt64 &&& Int64.toUInt64 63)).toInt64)
    (e53 : v53 = v46 + (v46.toUInt64 >>> ((32 : Int32).toInt64.toUInt64 &&& Int64.toUInt64 63)).toInt64) (er : r = v53.toInt32 &&& 127) : r = nI (bs (lb p) 64) := by
  obtain ⟨n, hn⟩ : ∃ n, n = p.toBitVec.toNat := ⟨_, rfl⟩
  have hp : p = lN n := by rw [hn]; exact y_of p
  have hlt : n < 2 ^ 64 := by rw [hn]; exact p.toBitVec.isLt
  obtain ⟨a1, a2, a3, a5⟩ := x_8 (n := n) (by omega)
  have f7 : v7 = lN (n / 2 &&& 6148914691236517205) := by
    rw [e7, hp, show (1 : Int32) = nI 1 from rfl, y_shr 1 hlt (by decide), k85, Nat.pow_one]
    exact y_and (by omega) (by omega)
  have f8 : v8 = lN (x1 8 n) := by rw [e8, f7, hp, lN_sub a1]; unfold x1; rw [m85_8]
  have b1 : x1 8 n < 2 ^ 64 := Nat.lt_of_le_of_lt (Nat.sub_le _ _) hlt
  have f14 : v14 = lN (x1 8 n &&& m51 8) := by rw [e14, f8, k51, m51_8]; exact y_and b1 (by omega)
  have f21 : v21 = lN (x1 8 n / 4 &&& m51 8) := by
    rw [e21, f8, show (2 : Int32) = nI 2 from rfl, y_shr 2 b1 (by decide), k51, m51_8]
    exact y_and (Nat.lt_of_le_of_lt (Nat.div_le_self _ _) b1) (by omega)
  have f22 : v22 = lN (x2 8 n) := by rw [e22, f14, f21]; exact lN_add _ _
  have b2 : x2 8 n < 2 ^ 64 := a2
  have f28 : v28 = lN (x2 8 n + x2 8 n / 16) := by rw [e28, f22, show (4 : Int32) = nI 4 from rfl, y_shr 4 b2 (by decide)]; exact lN_add _ _
  have f32 : v32 = lN (dg 8 n) := by
    rw [e32, f28, k15, ← a5]
    unfold x3
    rw [m15_8]
    exact y_and a3 (by omega)
  obtain ⟨p0, p1, p2, p3, p4, p5, p6, p7, hb, hd, hs⟩ := dg8 n
  generalize dg 8 n = d at *
  obtain ⟨m1, hm1⟩ : ∃ z, z = d + d / 256 := ⟨_, rfl⟩
  obtain ⟨m2, hm2⟩ : ∃ z, z = m1 + m1 / 65536 := ⟨_, rfl⟩
  obtain ⟨m3, hm3⟩ : ∃ z, z = m2 + m2 / 4294967296 := ⟨_, rfl⟩
  obtain ⟨c2, c3, hmod⟩ := sum_8 hb hd hm1 hm2 hm3
  have c1 : d < 18446744073709551616 := by omega
  have f39 : v39 = lN m1 := by rw [e39, f32, show (8 : Int32) = nI 8 from rfl, y_shr 8 c1 (by decide), hm1]; exact lN_add _ _
  have f46 : v46 = lN m2 := by rw [e46, f39, show (16 : Int32) = nI 16 from rfl, y_shr 16 c2 (by decide), hm2]; exact lN_add _ _
  have f53 : v53 = lN m3 := by rw [e53, f46, show (32 : Int32) = nI 32 from rfl, y_shr 32 c3 (by decide), hm3]; exact lN_add _ _
  rw [er, f53, lN_i, and127, hmod, ← hs]
  congr 1
  apply bs_cg
  intro i _
  rw [lb_tb, hn]

theorem bs_z {f : Nat → Bool} {k : Nat} (h : ∀ i, i < k → f i = false) : bs f k = 0 := by
  induction k with
  | zero => rfl
  | succ k ih => simp only [bs]; rw [ih (fun i hi => h i (by omega)), h k (by omega)]; rfl
def shN (w h : Nat) (p : Int64) (way line : Nat) : Nat := bs (fun s => decide (lnT h way (s % w) (s / w) = line) && lb p s) (w * h)
theorem lb_bLN {w h way line s : Nat} (hb : 1 ≤ w ∧ w ≤ 6 ∧ 1 ≤ h ∧ h ≤ 6) (hw : way < 4) (hl : line < 11) (hs : s < 64) : ∀ n, n ≤ 4 * (w * h) → lb (bLN w h n (way * 11 + line)) s = decide (4 * s + way < n ∧ lnT h way (s % w) (s / w) = line) := by
  have h36 : w * h ≤ 6 * 6 := Nat.mul_le_mul (by omega) (by omega)
  intro n
  induction n with
  | zero =>
    intro _
    show lb (0 : Int64) s = _
    rw [lb_0, decide_eq_false (by omega)]
  | succ n ih =>
    intro hn
    have i1 := ih (by omega)
    have hxy : n / 4 < w * h := by omega
    have hx : n / 4 % w < w := Nat.mod_lt _ (by omega)
    have hy : n / 4 / w < h := Nat.div_lt_of_lt_mul hxy
    have hL := lnT_b (way := n % 4) hb hx hy
    simp only [bLN, vp_updL]
    by_cases e : way * 11 + line = n % 4 * 11 + lnT h (n % 4) (n / 4 % w) (n / 4 / w)
    · rw [if_pos e, ← e, lb_or, i1, lb_l1 (by omega) hs]
      have ew : n % 4 = way := by omega
      have el : lnT h (n % 4) (n / 4 % w) (n / 4 / w) = line := by omega
      by_cases es : s = n / 4
      · rw [decide_eq_true es, Bool.or_true]
        symm
        apply decide_eq_true
        refine ⟨by omega, ?_⟩
        rw [es, ← ew]
        exact el
      · rw [decide_eq_false es, Bool.or_false]
        apply decide_eq_decide.mpr
        constructor
        · rintro ⟨a, b⟩; exact ⟨by omega, b⟩
        · rintro ⟨a, b⟩; exact ⟨by omega, b⟩
    · rw [if_neg e, i1]
      apply decide_eq_decide.mpr
      constructor
      · rintro ⟨a, b⟩; exact ⟨by omega, b⟩
      · rintro ⟨a, b⟩
        refine ⟨?_, b⟩
        by_cases e2 : 4 * s + way = n
        · exfalso
          apply e
          have e3 : n % 4 = way := by omega
          have e4 : n / 4 = s := by omega
          rw [e3, e4, b]
        · omega
theorem sh_cls {w h way line : Nat} (hb : 1 ≤ w ∧ w ≤ 6 ∧ 1 ≤ h ∧ h ≤ 6) (hw : way < 4) (hl : line < 11) (p : Int64) : bs (lb (p &&& bLn w h (way * 11 + line))) 64 = shN w h p way line := by
  have h36 : w * h ≤ 6 * 6 := Nat.mul_le_mul (by omega) (by omega)
  have h1 : ∀ s, s < 64 → lb (p &&& bLn w h (way * 11 + line)) s = (lb p s && decide (4 * s + way < 4 * (w * h) ∧ lnT h way (s % w) (s / w) = line)) := fun s hs => by
    rw [lb_and]
    unfold bLn
    rw [lb_bLN hb hw hl hs _ (Nat.le_refl _)]
  rw [bs_cg h1, show (64 : Nat) = w * h + (64 - w * h) by omega, bs_add, bs_z (k := 64 - w * h) (fun i hi => by rw [decide_eq_false (by omega), Bool.and_false]), Nat.add_zero]
  unfold shN
  apply bs_cg
  intro s hs
  rw [Bool.and_comm]
  congr 1
  apply decide_eq_decide.mpr
  exact ⟨fun z => z.2, fun z => ⟨by omega, z⟩⟩
def lnC (w h way : Nat) : Nat := if way = 0 then h else if way = 1 then w else w + h - 1
theorem lnC_b {w h : Nat} (hb : 1 ≤ w ∧ w ≤ 6 ∧ 1 ≤ h ∧ h ≤ 6) (way : Nat) : lnC w h way ≤ 11 := by
  unfold lnC
  split
  · omega
  · split <;> omega
theorem cLn {w h : Nat} (hb : 1 ≤ w ∧ w ≤ 6 ∧ 1 ≤ h ∧ h ≤ 6) {way : Int32} (hw : 0 ≤ way.toInt) : (cLines w h way).toInt = (lnC w h way.toNatClampNeg : Int) := by
  have e := m_cl (x := way) hw
  unfold cLines lnC
  by_cases h0 : way.toInt = 0
  · have n0 : way.toNatClampNeg = 0 := by omega
    rw [if_pos h0, if_pos n0]; exact nI_toInt (by omega)
  · have n0 : ¬ way.toNatClampNeg = 0 := by omega
    rw [if_neg h0, if_neg n0]
    by_cases h1 : way.toInt = 1
    · have n1 : way.toNatClampNeg = 1 := by omega
      rw [if_pos h1, if_pos n1]; exact nI_toInt (by omega)
    · have n1 : ¬ way.toNatClampNeg = 1 := by omega
      rw [if_neg h1, if_neg n1]; exact nI_toInt (by omega)
theorem way_is {way : Int32} (h0 : 0 ≤ way.toInt) {c : Int32} {k : Nat} (hc : c.toInt = (k : Int)) : way = c ↔ way.toNatClampNeg = k := by
  have e := m_cl (x := way) h0
  constructor
  · intro z; subst z; omega
  · intro z; exact Int32.toInt_inj.mp (by omega)
theorem rLn {w h : Int32} (hw : 1 ≤ w.toInt ∧ w.toInt ≤ 6) (hh : 1 ≤ h.toInt ∧ h.toInt ≤ 6) {way : Int32} (h0 : 0 ≤ way.toInt) : (r_lines w h way).toInt = (lnC w.toNatClampNeg h.toNatClampNeg way.toNatClampNeg : Int) := by
  have e1 := m_cl (x := w) (by omega)
  have e2 := m_cl (x := h) (by omega)
  have k1 : (1 : Int32).toInt = 1 := rfl
  have a1 : (w + h).toInt = w.toInt + h.toInt := fb_addI (by omega) (by omega)
  have a2 : (w + h - 1).toInt = w.toInt + h.toInt - 1 := by rw [fb_subI (by omega) (by omega), a1]; rfl
  have w0 := way_is h0 (c := 0) (k := 0) rfl
  have w1 := way_is h0 (c := 1) (k := 1) rfl
  unfold r_lines lnC
  by_cases c0 : way = 0
  · rw [if_pos c0, if_pos (w0.mp c0)]; omega
  · have n0 : ¬ way.toNatClampNeg = 0 := fun z => c0 (w0.mpr z)
    rw [if_neg c0, if_neg n0]
    by_cases c1 : way = 1
    · rw [if_pos c1, if_pos (w1.mp c1)]; omega
    · have n1 : ¬ way.toNatClampNeg = 1 := fun z => c1 (w1.mpr z)
      rw [if_neg c1, if_neg n1]; omega
theorem r_lineN {b x y : Nat} {way : Int32} (hw : 0 ≤ way.toInt ∧ way.toInt ≤ 3) (hb : b ≤ 6) (hx : x < 6) (hy : y < b) : r_line (nI b) way (nI x) (nI y) = nI (lnT b way.toNatClampNeg x y) := by
  have w0 := way_is hw.1 (c := 0) (k := 0) rfl
  have w1 := way_is hw.1 (c := 1) (k := 1) rfl
  have w2 := way_is hw.1 (c := 2) (k := 2) rfl
  have k1 : (1 : Int32).toInt = 1 := rfl
  unfold r_line lnT
  by_cases c0 : way = 0
  · rw [if_pos c0, if_pos (w0.mp c0)]
  · have n0 : ¬ way.toNatClampNeg = 0 := fun z => c0 (w0.mpr z)
    rw [if_neg c0, if_neg n0]
    by_cases c1 : way = 1
    · rw [if_pos c1, if_pos (w1.mp c1)]
    · have n1 : ¬ way.toNatClampNeg = 1 := fun z => c1 (w1.mpr z)
      rw [if_neg c1, if_neg n1]
      by_cases c2 : way = 2
      · rw [if_pos c2, if_pos (w2.mp c2)]
        have a1 : (nI x - nI y).toInt = (x : Int) - y := pk_sub_toInt (by omega) (by omega)
        have ab : (nI b).toInt = (b : Int) := nI_toInt (by omega)
        have a2 : (nI x - nI y + nI b).toInt = (x : Int) - y + b := by rw [fb_addI (by omega) (by omega), a1, ab]
        apply Int32.toInt_inj.mp
        rw [fb_subI (by omega) (by omega), a2, nI_toInt (by omega)]
        omega
      · have n2 : ¬ way.toNatClampNeg = 2 := fun z => c2 (w2.mpr z)
        rw [if_neg c2, if_neg n2]
        exact nI_add _ _
theorem r_shN {w h way line : Int32} {p : Int64} (hw : 1 ≤ w.toInt ∧ w.toInt ≤ 6) (hh : 1 ≤ h.toInt ∧ h.toInt ≤ 6) (hy : 0 ≤ way.toInt ∧ way.toInt ≤ 3) (hl : 0 ≤ line.toInt) : ∀ n, n ≤ w.toNatClampNeg * h.toNatClampNeg → r_sh w h p way line n = nI (bs (fun s => decide (lnT h.toNatClampNeg way.toNatClampNeg (s % w.toNatClampNeg) (s / w.toNatClampNeg) = line.toNatClampNeg) && lb p s) n) := by
  obtain ⟨ha, hb, h36, -⟩ := wh36 hw hh
  have ew := cl_nI (w := w) (by omega)
  have eh := cl_nI (w := h) (by omega)
  have el := cl_nI (w := line) hl
  generalize w.toNatClampNeg = a at *
  generalize h.toNatClampNeg = b at *
  subst ew
  subst eh
  intro n
  induction n with
  | zero => intro _; rfl
  | succ n ih =>
    intro hn
    have hx : n % a < a := Nat.mod_lt _ (by omega)
    have hd : n / a < b := Nat.div_lt_of_lt_mul (by omega)
    have hT : lnT b way.toNatClampNeg (n % a) (n / a) < 11 := lnT_b (w := a) ⟨by omega, by omega, by omega, by omega⟩ hx hd
    have hcl : line.toNatClampNeg < 2 ^ 31 := by
      have := m_cl (x := line) hl
      have := Int32.toInt_lt line
      omega
    simp only [r_sh, bs]
    rw [ih (by omega), pk_rem (by omega) (by omega) (by omega), pk_div (by omega) (by omega) (by omega), r_lineN hy (by omega) (by omega) hd]
    by_cases c : lnT b way.toNatClampNeg (n % a) (n / a) = line.toNatClampNeg
    · rw [if_pos (by rw [c]; exact el), decide_eq_true c, Bool.true_and, one_lb p (by omega)]
      cases lb p n
      · exact nI_add _ 0
      · exact nI_1 _
    · rw [if_neg (fun z => c ((nI_eq (by omega) hcl).mp (z.trans el.symm))), decide_eq_false c, Bool.false_and]
      exact nI_add _ 0
theorem r_shS {w h way line : Int32} {p : Int64} (hw : 1 ≤ w.toInt ∧ w.toInt ≤ 6) (hh : 1 ≤ h.toInt ∧ h.toInt ≤ 6) (hy : 0 ≤ way.toInt ∧ way.toInt ≤ 3) (hl : 0 ≤ line.toInt) {r : Int32} (hr : r = r_sh w h p way line (w.toInt * h.toInt).toNat) : r = nI (shN w.toNatClampNeg h.toNatClampNeg p way.toNatClampNeg line.toNatClampNeg) := by
  obtain ⟨_, _, _, e⟩ := wh36 hw hh
  rw [hr, ← e, Int.toNat_natCast, r_shN hw hh hy hl _ (Nat.le_refl _)]
  rfl
def okL (w h : Nat) (way line : Int32) : Prop := (0 ≤ way.toInt ∧ way.toInt ≤ 3) ∧ 0 ≤ line.toInt ∧ line.toInt < (lnC w h way.toNatClampNeg : Int)
def shA (w h : Int32) (p : Int64) (way line : Int32) (x : Int32) : Prop := ((goodP w h p ∧ okL w.toNatClampNeg h.toNatClampNeg way line) ∧ x = nI (shN w.toNatClampNeg h.toNatClampNeg p way.toNatClampNeg line.toNatClampNeg)) ∨ (¬ (goodP w h p ∧ okL w.toNatClampNeg h.toNatClampNeg way line) ∧ x = -1)
theorem shA_eq {w h : Int32} {p : Int64} {way line x y : Int32} (hx : shA w h p way line x) (hy : shA w h p way line y) : x = y := by
  rcases hx with ⟨a, c⟩ | ⟨a, c⟩ <;> rcases hy with ⟨d, f⟩ | ⟨d, f⟩
  · rw [c, f]
  · exact absurd a d
  · exact absurd d a
  · rw [c, f]
def alike (w h : Nat) (p q : Int64) (way : Nat) : Prop := ∀ l, l < lnC w h way → shN w h p way l = shN w h q way l
def unl (w h : Nat) (p q : Int64) (set : Int32) (k : Nat) : Prop := gB set k = 1 ∧ ¬ alike w h p q k
def fstW (P : Nat → Prop) (no x : Int32) : Prop := (∃ k, k < 4 ∧ x = nI k ∧ P k ∧ ∀ j, j < k → ¬ P j) ∨ (x = no ∧ ∀ j, j < 4 → ¬ P j)
theorem fstW_eq {P : Nat → Prop} {no x y : Int32} (hx : fstW P no x) (hy : fstW P no y) : x = y := by
  rcases hx with ⟨k, a, b, c, d⟩ | ⟨a, b⟩ <;> rcases hy with ⟨k2, a2, b2, c2, d2⟩ | ⟨a2, b2⟩
  · have e : k = k2 := by
      rcases Nat.lt_trichotomy k k2 with h | h | h
      · exact absurd c (d2 k h)
      · exact h
      · exact absurd c2 (d k2 h)
    rw [b, b2, e]
  · exact absurd c (b2 k a)
  · exact absurd c2 (b k2 a2)
  · rw [a, a2]
def paA (w h : Int32) (p q : Int64) (ways x : Int32) : Prop := ((goodP w h p ∧ goodP w h q ∧ 0 ≤ ways.toInt ∧ ways.toInt ≤ 15) ∧ fstW (unl w.toNatClampNeg h.toNatClampNeg p q ways) (-2) x) ∨ (¬ (goodP w h p ∧ goodP w h q ∧ 0 ≤ ways.toInt ∧ ways.toInt ≤ 15) ∧ x = -1)
theorem paA_eq {w h : Int32} {p q : Int64} {ways x y : Int32} (hx : paA w h p q ways x) (hy : paA w h p q ways y) : x = y := by
  rcases hx with ⟨a, c⟩ | ⟨a, c⟩ <;> rcases hy with ⟨d, f⟩ | ⟨d, f⟩
  · exact fstW_eq c f
  · exact absurd a d
  · exact absurd d a
  · rw [c, f]
set_option maxHeartbeats 4000000 in
set_option maxRecDepth 100000 in
theorem c_J13_x (l : Launch) (p0 : Int64)  : Pu l yJ13_bitCount_95d88 wsJ13_bitCount_95d88 ({ frames := 0, cells := 0, slots := 0, locals := 0 }) [.long p0] (fun r => r = nI (bs (lb p0) 64)) := by
  refine Met.ofW (cc := cJ13_bitCount_95d88) (maxL := 2) (ret := (some .int)) (by decide) rfl ?_
  intro p e s m args below meth c s₁ B hml hv
  obtain ⟨rfl, -⟩ := hv
  have hx := B.exec
  have hb := B.bytes
  have hr := B.returns
  have hts := atoms_spec (ws := wsJ13_bitCount_95d88) B.pre
  have hown : s.vm.findClass RJ13 = some m.cls := findClass_of_methodNamed B.named
  have hlocks := B.notSynchronized
  have hS : va_S (fun _ => False) s.heap s.heap [] := va_S.rf
  have hl := lv_entry ([.long p0]) (n := 2) (Nat.le_of_ble_eq_true rfl)
  rw [lg_entry_eq]
  generalize (lg_sl ([.long p0]) ++ List.replicate (2 - (lg_sl ([.long p0])).length) Slot.unset).toArray = ls at hl ⊢
  have hl : lv_has ls 2 [(0, .long p0)] := hl
  have hS0 := hS
  have k_0 : (0 : Int32).toInt = 0 := by decide
  have k_1 : (1 : Int32).toInt = 1 := by decide
  have k_2 : (2 : Int32).toInt = 2 := by decide
  have k_4 : (4 : Int32).toInt = 4 := by decide
  have k_8 : (8 : Int32).toInt = 8 := by decide
  have k_16 : (16 : Int32).toInt = 16 := by decide
  have k_32 : (32 : Int32).toInt = 32 := by decide
  have k_127 : (127 : Int32).toInt = 127 := by decide
  have k_1085102592571150095L : (1085102592571150095 : Int64).toInt = 1085102592571150095 := by decide
  have k_3689348814741910323L : (3689348814741910323 : Int64).toInt = 3689348814741910323 := by decide
  have k_6148914691236517205L : (6148914691236517205 : Int64).toInt = 6148914691236517205 := by decide
  refine lv_lload_n hx hb dJ13_bitCount_95d88_0 rfl (lv_at hl 0 rfl) ?_
  refine lv_lload_n hx hb dJ13_bitCount_95d88_1 rfl (lv_at hl 0 rfl) ?_
  refine lv_iconst (v := 1) hx hb dJ13_bitCount_95d88_2 (by decide) ?_
  refine lv_lushr (v := (p0.toUInt64 >>> ((1 : Int32).toInt64.toUInt64 &&& Int64.toUInt64 63)).toInt64) hx hb dJ13_bitCount_95d88_3 rfl ?_
  refine lv_ldc2 hx hb hown (hts (.constantLong RJ13 314 (6148914691236517205)) (by decide +kernel)) dJ13_bitCount_95d88_4 ?_
  refine lv_land hx hb dJ13_bitCount_95d88_7 ?_
  refine lv_topl (fun v7 e7 => ?_)
  refine lv_lsub hx hb dJ13_bitCount_95d88_8 ?_
  refine lv_topl (fun v8 e8 => ?_)
  refine lv_lstore_n (lv' := [(0, .long v8)]) hx hb dJ13_bitCount_95d88_9 rfl hl (by decide) rfl (fun ls hl => ?_)
  refine lv_lload_n hx hb dJ13_bitCount_95d88_10 rfl (lv_at hl 0 rfl) ?_
  refine lv_ldc2 hx hb hown (hts (.constantLong RJ13 316 (3689348814741910323)) (by decide +kernel)) dJ13_bitCount_95d88_11 ?_
  refine lv_land hx hb dJ13_bitCount_95d88_14 ?_
  refine lv_topl (fun v14 e14 => ?_)
  refine lv_lload_n hx hb dJ13_bitCount_95d88_15 rfl (lv_at hl 0 rfl) ?_
  refine lv_iconst (v := 2) hx hb dJ13_bitCount_95d88_16 (by decide) ?_
  refine lv_lushr (v := (v8.toUInt64 >>> ((2 : Int32).toInt64.toUInt64 &&& Int64.toUInt64 63)).toInt64) hx hb dJ13_bitCount_95d88_17 rfl ?_
  refine lv_ldc2 hx hb hown (hts (.constantLong RJ13 316 (3689348814741910323)) (by decide +kernel)) dJ13_bitCount_95d88_18 ?_
  refine lv_land hx hb dJ13_bitCount_95d88_21 ?_
  refine lv_topl (fun v21 e21 => ?_)
  refine lv_ladd hx hb dJ13_bitCount_95d88_22 ?_
  refine lv_topl (fun v22 e22 => ?_)
  refine lv_lstore_n (lv' := [(0, .long v22)]) hx hb dJ13_bitCount_95d88_23 rfl hl (by decide) rfl (fun ls hl => ?_)
  refine lv_lload_n hx hb dJ13_bitCount_95d88_24 rfl (lv_at hl 0 rfl) ?_
  refine lv_lload_n hx hb dJ13_bitCount_95d88_25 rfl (lv_at hl 0 rfl) ?_
  refine lv_iconst (v := 4) hx hb dJ13_bitCount_95d88_26 (by decide) ?_
  refine lv_lushr (v := (v22.toUInt64 >>> ((4 : Int32).toInt64.toUInt64 &&& Int64.toUInt64 63)).toInt64) hx hb dJ13_bitCount_95d88_27 rfl ?_
  refine lv_ladd hx hb dJ13_bitCount_95d88_28 ?_
  refine lv_topl (fun v28 e28 => ?_)
  refine lv_ldc2 hx hb hown (hts (.constantLong RJ13 318 (1085102592571150095)) (by decide +kernel)) dJ13_bitCount_95d88_29 ?_
  refine lv_land hx hb dJ13_bitCount_95d88_32 ?_
  refine lv_topl (fun v32 e32 => ?_)
  refine lv_lstore_n (lv' := [(0, .long v32)]) hx hb dJ13_bitCount_95d88_33 rfl hl (by decide) rfl (fun ls hl => ?_)
  refine lv_lload_n hx hb dJ13_bitCount_95d88_34 rfl (lv_at hl 0 rfl) ?_
  refine lv_lload_n hx hb dJ13_bitCount_95d88_35 rfl (lv_at hl 0 rfl) ?_
  refine lv_bipush (v := 8) hx hb dJ13_bitCount_95d88_36 (by decide) ?_
  refine lv_lushr (v := (v32.toUInt64 >>> ((8 : Int32).toInt64.toUInt64 &&& Int64.toUInt64 63)).toInt64) hx hb dJ13_bitCount_95d88_38 rfl ?_
  refine lv_ladd hx hb dJ13_bitCount_95d88_39 ?_
  refine lv_topl (fun v39 e39 => ?_)
  refine lv_lstore_n (lv' := [(0, .long v39)]) hx hb dJ13_bitCount_95d88_40 rfl hl (by decide) rfl (fun ls hl => ?_)
  refine lv_lload_n hx hb dJ13_bitCount_95d88_41 rfl (lv_at hl 0 rfl) ?_
  refine lv_lload_n hx hb dJ13_bitCount_95d88_42 rfl (lv_at hl 0 rfl) ?_
  refine lv_bipush (v := 16) hx hb dJ13_bitCount_95d88_43 (by decide) ?_
  refine lv_lushr (v := (v39.toUInt64 >>> ((16 : Int32).toInt64.toUInt64 &&& Int64.toUInt64 63)).toInt64) hx hb dJ13_bitCount_95d88_45 rfl ?_
  refine lv_ladd hx hb dJ13_bitCount_95d88_46 ?_
  refine lv_topl (fun v46 e46 => ?_)
  refine lv_lstore_n (lv' := [(0, .long v46)]) hx hb dJ13_bitCount_95d88_47 rfl hl (by decide) rfl (fun ls hl => ?_)
  refine lv_lload_n hx hb dJ13_bitCount_95d88_48 rfl (lv_at hl 0 rfl) ?_
  refine lv_lload_n hx hb dJ13_bitCount_95d88_49 rfl (lv_at hl 0 rfl) ?_
  refine lv_bipush (v := 32) hx hb dJ13_bitCount_95d88_50 (by decide) ?_
  refine lv_lushr (v := (v46.toUInt64 >>> ((32 : Int32).toInt64.toUInt64 &&& Int64.toUInt64 63)).toInt64) hx hb dJ13_bitCount_95d88_52 rfl ?_
  refine lv_ladd hx hb dJ13_bitCount_95d88_53 ?_
  refine lv_topl (fun v53 e53 => ?_)
  refine lv_lstore_n (lv' := [(0, .long v53)]) hx hb dJ13_bitCount_95d88_54 rfl hl (by decide) rfl (fun ls hl => ?_)
  refine lv_lload_n hx hb dJ13_bitCount_95d88_55 rfl (lv_at hl 0 rfl) ?_
  refine lv_l2i (v := v53.toInt32) hx hb dJ13_bitCount_95d88_56 rfl ?_
  refine lv_bipush (v := 127) hx hb dJ13_bitCount_95d88_57 (by decide) ?_
  refine lv_iand hx hb dJ13_bitCount_95d88_59 ?_
  refine lv_topi (fun v59 e59 => ?_)
  exact W.iret (v := v59) hx hb hr (fun t ht hW => ⟨⟨_, (), rfl, (bc_long e7 e8 e14 e21 e22 e28 e32 e39 e46 e53 e59), trivial⟩, hS.F ht⟩) hS.2.2 dJ13_bitCount_95d88_60
set_option maxHeartbeats 4000000 in
set_option maxRecDepth 100000 in
theorem c_X0_onesOfLine_x (l : Launch) (D : va_G) (cy : Nat → ClassId) (A : Nat → Prop) (G : cG) (ws : va_W) (o : Nat) (way : Int32) (line : Int32) (p0 : Int64) {w h : Nat} (hD : va_D A ws) (hT : cT cy G ws) (hG_o : G o = some (2, w, h)) (hw1 : 0 ≤ way.toInt ∧ way.toInt ≤ 3) (hl1 : 0 ≤ line.toInt ∧ line.toInt < 11) : Ci l D cy A yX0_onesOfLine wsX0_onesOfLine ({ frames := 1, cells := 0, slots := 0, locals := 21 }) 0 0 ws [.ref o, .int way, .int line, .long p0] (fun r0 u => u = (G, ws) ∧ (r0 = nI (shN w h p0 way.toNatClampNeg line.toNatClampNeg))) := by
  refine Met.ofW (cc := cX0_onesOfLine) (maxL := 6) (ret := (some .int)) (by decide) rfl ?_
  intro p e s m args below meth c s₁ B hml hv
  obtain ⟨rfl, hP, hK, hA, hV⟩ := hv
  have hx := B.exec
  have hb := B.bytes
  have hr := B.returns
  have hts := atoms_spec (ws := wsX0_onesOfLine) B.pre
  have hown : s.vm.findClass RX0 = some m.cls := findClass_of_methodNamed B.named
  have hlocks := B.notSynchronized
  have hS : va_S A s.heap s.heap [] := va_S.rf
  have hl := lv_entry ([.ref o, .int way, .int line, .long p0]) (n := 6) (Nat.le_of_ble_eq_true rfl)
  rw [lg_entry_eq]
  generalize (lg_sl ([.ref o, .int way, .int line, .long p0]) ++ List.replicate (6 - (lg_sl ([.ref o, .int way, .int line, .long p0])).length) Slot.unset).toArray = ls at hl ⊢
  have hl : lv_has ls 6 [(0, .ref o), (1, .int way), (2, .int line), (3, .long p0)] := hl
  have k_0 : (0 : Int32).toInt = 0 := by decide
  have k_11 : (11 : Int32).toInt = 11 := by decide
  have hb9 := c_hb hT hG_o
  refine lv_iload_n hx hb dX0_onesOfLine_0 rfl (lv_at hl 1 rfl) ?_
  refine lv_bipush (v := 11) hx hb dX0_onesOfLine_1 (by decide) ?_
  refine lv_imul hx hb dX0_onesOfLine_3 ?_
  refine lv_topi (fun v3 e3 => ?_)
  have i3 : v3.toInt = way.toInt * 11 := by rw [e3]; exact mulcR rfl (by omega) (by omega)
  refine lv_iload_n hx hb dX0_onesOfLine_4 rfl (lv_at hl 2 rfl) ?_
  refine lv_iadd hx hb dX0_onesOfLine_5 ?_
  refine lv_topi (fun v5 e5 => ?_)
  have i5 : v5.toInt = v3.toInt + line.toInt := by rw [e5]; exact fb_addI (by omega) (by omega)
  refine lv_istore (lv' := [(5, .int v5), (0, .ref o), (1, .int way), (2, .int line), (3, .long p0)]) hx hb dX0_onesOfLine_6 hl (by decide) rfl (fun ls hl => ?_)
  have cw := m_cl (x := way) hw1.1
  have cl := m_cl (x := line) hl1.1
  have cp := m_cl (x := v5) (by omega)
  have f5 : v5.toNatClampNeg = way.toNatClampNeg * 11 + line.toNatClampNeg := by omega
  refine lv_iload hx hb dX0_onesOfLine_8 (lv_at hl 0 rfl) ?_
  refine lv_if_lt (tgt := 38) hx hb dX0_onesOfLine_10 (by decide) (fun c10 => ?_) (fun c10 => ?_)
  · skip
    have d10 := c10
    rw [fa_lt] at d10
    refine lv_iconst (v := 0) hx hb dX0_onesOfLine_38 (by decide) ?_
    exact W.iret (v := (0 : Int32)) hx hb hr (fun t ht hW => ⟨⟨_, (G, ws), rfl, ⟨rfl, (by exfalso; omega)⟩, by show va_P D vwCl ws t.heap; rw [ht]; exact hP, hD, hT⟩, hS.F ht⟩) hS.2.2 dX0_onesOfLine_39
  · skip
    have d10 := c10
    rw [fa_lt] at d10
    refine lv_iload hx hb dX0_onesOfLine_13 (lv_at hl 0 rfl) ?_
    refine lv_aload_n hx hb dX0_onesOfLine_15 rfl (lv_at hl 1 rfl) ?_
    obtain ⟨_, hM_o, hb_o, l_o, f_o, r_o, rfl, hG_l_o, hG_f_o, hG_r_o⟩ := hT _ _ hG_o
    refine t_get (v := .ref l_o) (C := RX0) (T := TX0) (N := 8) hx hb hts (by decide +kernel) hown hK hP hM_o rfl 5 (by decide) (hts (.fieldLink RX0 9 "ShadowBench$Board" "lines" "[J") (by decide +kernel)) (fun _ h9 => h9) rfl dX0_onesOfLine_16 ?_
    refine t_alen11 hx hb hK hP hT hG_l_o dX0_onesOfLine_19 ?_
    have i19 : (nI 44).toInt = 44 := nI_toInt (by omega)
    refine lv_icmp_ge (tgt := 38) hx hb dX0_onesOfLine_20 (by decide) (fun c20 => ?_) (fun c20 => ?_)
    · skip
      have d20 := c20
      rw [fa_le] at d20
      refine lv_iconst (v := 0) hx hb dX0_onesOfLine_38 (by decide) ?_
      exact W.iret (v := (0 : Int32)) hx hb hr (fun t ht hW => ⟨⟨_, (G, ws), rfl, ⟨rfl, (by exfalso; omega)⟩, by show va_P D vwCl ws t.heap; rw [ht]; exact hP, hD, hT⟩, hS.F ht⟩) hS.2.2 dX0_onesOfLine_39
    · skip
      have d20 := c20
      rw [fa_le] at d20
      refine lv_lload_n hx hb dX0_onesOfLine_23 rfl (lv_at hl 4 rfl) ?_
      refine lv_aload_n hx hb dX0_onesOfLine_24 rfl (lv_at hl 1 rfl) ?_
      refine t_get (v := .ref l_o) (C := RX0) (T := TX0) (N := 8) hx hb hts (by decide +kernel) hown hK hP hM_o rfl 5 (by decide) (hts (.fieldLink RX0 9 "ShadowBench$Board" "lines" "[J") (by decide +kernel)) (fun _ h9 => h9) rfl dX0_onesOfLine_25 ?_
      refine lv_iload hx hb dX0_onesOfLine_28 (lv_at hl 0 rfl) ?_
      refine t_lald11 hx hb hK hP hT hG_l_o (vp_in_iff.mpr ⟨by omega, by omega⟩) dX0_onesOfLine_30 ?_
      refine lv_topl (fun v30 e30 => ?_)
      refine lv_land hx hb dX0_onesOfLine_31 ?_
      refine lv_topl (fun v31 e31 => ?_)
      refine t_pu (As := [.long v31]) (rest := []) ⟨hx, hb, hml, hown, hts⟩ (c_J13_x l v31 ) (va_cwS 1 hts gX0_onesOfLine_J13_bitCount_95d88 rfl rfl rfl (by decide +kernel) ⟨Nat.le_of_ble_eq_true rfl, Nat.le_of_ble_eq_true rfl⟩) hP rfl hl.1 rfl (Nat.le_of_ble_eq_true rfl) dX0_onesOfLine_32 ⟨Nat.le_of_ble_eq_true rfl, Nat.le_of_ble_eq_true rfl⟩ hS (fun r32 H locs q32 hP hS => ?_)
      refine lv_goto (tgt := 39) hx hb dX0_onesOfLine_35 (by decide) ?_
      exact W.iret (v := r32) hx hb hr (fun t ht hW => ⟨⟨_, (G, ws), rfl, ⟨rfl, (by rw [q32, e31, e30, f5, sh_cls hb9 (by omega) (by omega)])⟩, by show va_P D vwCl ws t.heap; rw [ht]; exact hP, hD, hT⟩, hS.F ht⟩) hS.2.2 dX0_onesOfLine_39
set_option maxHeartbeats 4000000 in
set_option maxRecDepth 100000 in
theorem c_X0_hasUnlikeLine_x (l : Launch) (D : va_G) (cy : Nat → ClassId) (A : Nat → Prop) (G : cG) (ws : va_W) (o : Nat) (p0 : Int64) (p1 : Int64) (way : Nat) {w h : Nat} (hD : va_D A ws) (hT : cT cy G ws) (hG_o : G o = some (2, w, h)) (hw1 : way < 4) : Ci l D cy A yX0_hasUnlikeLine wsX0_hasUnlikeLine ({ frames := 2, cells := 0, slots := 0, locals := 46 }) 0 0 ws [.ref o, .long p0, .long p1, .int (nI way)] (fun r0 u => u = (G, ws) ∧ (Bo r0 (¬ alike w h p0 p1 way))) := by
  refine Met.ofW (cc := cX0_hasUnlikeLine) (maxL := 7) (ret := (some .boolean)) (by decide) rfl ?_
  intro p e s m args below meth c s₁ B hml hv
  obtain ⟨rfl, hP, hK, hA, hV⟩ := hv
  have hx := B.exec
  have hb := B.bytes
  have hr := B.returns
  have hts := atoms_spec (ws := wsX0_hasUnlikeLine) B.pre
  have hown : s.vm.findClass RX0 = some m.cls := findClass_of_methodNamed B.named
  have hlocks := B.notSynchronized
  have hS : va_S A s.heap s.heap [] := va_S.rf
  have hl := lv_entry ([.ref o, .long p0, .long p1, .int (nI way)]) (n := 7) (Nat.le_of_ble_eq_true rfl)
  rw [lg_entry_eq]
  generalize (lg_sl ([.ref o, .long p0, .long p1, .int (nI way)]) ++ List.replicate (7 - (lg_sl ([.ref o, .long p0, .long p1, .int (nI way)])).length) Slot.unset).toArray = ls at hl ⊢
  have hl : lv_has ls 7 [(0, .ref o), (1, .long p0), (3, .long p1), (5, .int (nI way))] := hl
  have k_0 : (0 : Int32).toInt = 0 := by decide
  have k_1 : (1 : Int32).toInt = 1 := by decide
  have hb9 := c_hb hT hG_o
  have iw : (nI way).toInt = (way : Int) := nI_toInt (by omega)
  have cw : (nI way).toNatClampNeg = way := nI_clamp (by omega)
  have lb9 := lnC_b hb9 way
  refine lv_iconst (v := 0) hx hb dX0_hasUnlikeLine_0 (by decide) ?_
  refine lv_istore (lv' := [(6, .int (0 : Int32)), (0, .ref o), (1, .long p0), (3, .long p1), (5, .int (nI way))]) hx hb dX0_hasUnlikeLine_1 hl (by decide) rfl (fun ls hl => ?_)
  have loop_3 : ∀ (n : Nat) (k : Nat), (k ≤ 11) → (∀ l, l < k → shN w h p0 way l = shN w h p1 way l) → 11 - k < n → ∀ (H : Heap) (locs : List Loc), va_P D vwCl ws H → va_S A s.heap H locs → ∀ (ls : Array Slot), lv_has ls 7 [(6, .int (nI k)), (0, .ref o), (1, .long p0), (3, .long p1), (5, .int (nI way))] → W p l e (headSpec wsX0_hasUnlikeLine ({ frames := 2, cells := 0, slots := 0, locals := 46 })).room s m #[Value.ref o, Value.long p0, Value.long p1, Value.int (nI way)] below meth c H locs 0 0 (MQ below (va_Qi (fun r0 u => u = (G, ws) ∧ (Bo r0 (¬ alike w h p0 p1 way))) (cB D cy A) A) #[Value.ref o, Value.long p0, Value.long p1, Value.int (nI way)] s 0 0 A) (F0 m 3 ls []) := by
    intro n
    induction n with
    | zero => intro k j3_0 j3_1 hn; exact absurd hn (Nat.not_lt_zero _)
    | succ n ih_3 =>
      intro k j3_0 j3_1 hn_3 H locs hP hS  ls hl
      have ik : (nI k).toInt = (k : Int) := nI_toInt (by omega)
      refine lv_iload hx hb dX0_hasUnlikeLine_3 (lv_at hl 0 rfl) ?_
      refine lv_aload_n hx hb dX0_hasUnlikeLine_5 rfl (lv_at hl 1 rfl) ?_
      refine lv_iload hx hb dX0_hasUnlikeLine_6 (lv_at hl 4 rfl) ?_
      obtain ⟨_, hM_o, hb_o, l_o, f_o, r_o, rfl, hG_l_o, hG_f_o, hG_r_o⟩ := hT _ _ hG_o
      refine t_calli (va_runV (g := F0 m 8 ls ([.int (nI way), .ref o, .int (nI k)])) (As := [.int (nI way)]) (rest := [.int (nI k)]) ⟨hx, hb, hml, hown, hts⟩ (c_X0_lineCount l D cy A G ws o (nI way) hD hT hG_o ) (cwV 1 hts gX0_hasUnlikeLine_X0_lineCount rfl rfl rfl (by decide +kernel) ⟨Nat.le_of_ble_eq_true rfl, Nat.le_of_ble_eq_true rfl⟩) (c_preV hM_o rfl hP hK hA hS hV) rfl rfl hl.1 rfl (lv_room (Nat.le_of_ble_eq_true rfl)) dX0_hasUnlikeLine_8 ⟨Nat.le_of_ble_eq_true rfl, Nat.le_of_ble_eq_true rfl⟩) hS (fun r8 u H locs q8 hP9 hD9 hT9 hS => ?_)
      obtain ⟨rfl, q8⟩ := q8
      have hP : va_P D vwCl ws H := hP9
      have z8 : r8.toInt = (lnC w h way : Int) := by rw [q8, cLn hb9 (by omega), cw]
      refine lv_icmp_ge (tgt := 43) hx hb dX0_hasUnlikeLine_11 (by decide) (fun c11 => ?_) (fun c11 => ?_)
      · skip
        have d11 := c11
        rw [fa_le] at d11
        refine lv_iconst (v := 0) hx hb dX0_hasUnlikeLine_43 (by decide) ?_
        exact W.zret (v := (0 : Int32)) hx hb hr (by decide) (fun t ht hW => ⟨⟨_, (G, ws), rfl, ⟨rfl, Or.inr ⟨rfl, (fun z9 => z9 (fun l9 h9 => j3_1 l9 (by omega)))⟩⟩, by show va_P D vwCl ws t.heap; rw [ht]; exact hP, hD, hT⟩, hS.F ht⟩) hS.2.2 dX0_hasUnlikeLine_44
      · skip
        have d11 := c11
        rw [fa_le] at d11
        refine lv_aload_n hx hb dX0_hasUnlikeLine_14 rfl (lv_at hl 1 rfl) ?_
        refine lv_iload hx hb dX0_hasUnlikeLine_15 (lv_at hl 4 rfl) ?_
        refine lv_iload hx hb dX0_hasUnlikeLine_17 (lv_at hl 0 rfl) ?_
        refine lv_lload_n hx hb dX0_hasUnlikeLine_19 rfl (lv_at hl 2 rfl) ?_
        refine t_calli (va_runV (g := F0 m 20 ls ([.long p0, .int (nI k), .int (nI way), .ref o])) (As := [.int (nI way), .int (nI k), .long p0]) (rest := []) ⟨hx, hb, hml, hown, hts⟩ (c_X0_onesOfLine_x l D cy A G ws o (nI way) (nI k) p0 hD hT hG_o (by omega) (by omega)) (cwV 3 hts gX0_hasUnlikeLine_X0_onesOfLine rfl rfl rfl (by decide +kernel) ⟨Nat.le_of_ble_eq_true rfl, Nat.le_of_ble_eq_true rfl⟩) (c_preV hM_o rfl hP hK hA hS hV) rfl rfl hl.1 rfl (lv_room (Nat.le_of_ble_eq_true rfl)) dX0_hasUnlikeLine_20 ⟨Nat.le_of_ble_eq_true rfl, Nat.le_of_ble_eq_true rfl⟩) hS (fun r20 u H locs q20 hP9 hD9 hT9 hS => ?_)
        obtain ⟨rfl, q20⟩ := q20
        have hP : va_P D vwCl ws H := hP9
        refine lv_aload_n hx hb dX0_hasUnlikeLine_23 rfl (lv_at hl 1 rfl) ?_
        refine lv_iload hx hb dX0_hasUnlikeLine_24 (lv_at hl 4 rfl) ?_
        refine lv_iload hx hb dX0_hasUnlikeLine_26 (lv_at hl 0 rfl) ?_
        refine lv_lload_n hx hb dX0_hasUnlikeLine_28 rfl (lv_at hl 3 rfl) ?_
        refine t_calli (va_runV (g := F0 m 29 ls ([.long p1, .int (nI k), .int (nI way), .ref o, .int r20])) (As := [.int (nI way), .int (nI k), .long p1]) (rest := [.int r20]) ⟨hx, hb, hml, hown, hts⟩ (c_X0_onesOfLine_x l D cy A G ws o (nI way) (nI k) p1 hD hT hG_o (by omega) (by omega)) (cwV 3 hts gX0_hasUnlikeLine_X0_onesOfLine rfl rfl rfl (by decide +kernel) ⟨Nat.le_of_ble_eq_true rfl, Nat.le_of_ble_eq_true rfl⟩) (c_preV hM_o rfl hP hK hA hS hV) rfl rfl hl.1 rfl (lv_room (Nat.le_of_ble_eq_true rfl)) dX0_hasUnlikeLine_29 ⟨Nat.le_of_ble_eq_true rfl, Nat.le_of_ble_eq_true rfl⟩) hS (fun r29 u H locs q29 hP9 hD9 hT9 hS => ?_)
        obtain ⟨rfl, q29⟩ := q29
        have hP : va_P D vwCl ws H := hP9
        have ck9 : (nI k).toNatClampNeg = k := nI_clamp (by omega)
        rw [cw, ck9] at q20 q29
        have b20 := bs_le (fun s => decide (lnT h way (s % w) (s / w) = k) && lb p0 s) (w * h)
        have b29 := bs_le (fun s => decide (lnT h way (s % w) (s / w) = k) && lb p1 s) (w * h)
        have m9 := cb_mul hb9
        have eq9 : r20 = r29 ↔ shN w h p0 way k = shN w h p1 way k := by rw [q20, q29]; exact nI_eq (by unfold shN; omega) (by unfold shN; omega)
        refine lv_icmp_eq (tgt := 37) hx hb dX0_hasUnlikeLine_32 (by decide) (fun c32 => ?_) (fun c32 => ?_)
        · skip
          have d32 := c32
          rw [fa_eq] at d32
          refine lv_iinc (v := (nI (k + 1))) (lv' := [(6, .int (nI (k + 1))), (0, .ref o), (1, .long p0), (3, .long p1), (5, .int (nI way))]) hx hb dX0_hasUnlikeLine_37 hl (k := 0) rfl (nI_1 _) (by decide) rfl (fun ls hl => ?_)
          refine lv_goto (tgt := 3) hx hb dX0_hasUnlikeLine_40 (by decide) ?_
          exact ih_3 (k + 1) (by omega) (fun l hl => by
            by_cases e9 : l = k
            · rw [e9]; exact eq9.mp c32
            · exact j3_1 l (by omega)) (by omega) _ _ hP hS  ls (lv_sub hl [0, 1, 2, 3, 4] rfl)
        · skip
          have d32 := c32
          rw [fa_eq] at d32
          refine lv_iconst (v := 1) hx hb dX0_hasUnlikeLine_35 (by decide) ?_
          exact W.zret (v := (1 : Int32)) hx hb hr (by decide) (fun t ht hW => ⟨⟨_, (G, ws), rfl, ⟨rfl, Or.inl ⟨rfl, (fun z9 => c32 (eq9.mpr (z9 k (by omega))))⟩⟩, by show va_P D vwCl ws t.heap; rw [ht]; exact hP, hD, hT⟩, hS.F ht⟩) hS.2.2 dX0_hasUnlikeLine_36
  exact loop_3 (11 + 1) 0 (by omega) (fun l hl => absurd hl (Nat.not_lt_zero _)) (by omega) _ _ hP hS  ls (lv_sub hl [0, 1, 2, 3, 4] rfl)
set_option maxHeartbeats 4000000 in
set_option maxRecDepth 100000 in
theorem c_X0_firstUnlikeWay_x (l : Launch) (D : va_G) (cy : Nat → ClassId) (A : Nat → Prop) (G : cG) (ws : va_W) (o : Nat) (p0 : Int64) (p1 : Int64) (set : Int32) {w h : Nat} (hD : va_D A ws) (hT : cT cy G ws) (hG_o : G o = some (2, w, h))  : Ci l D cy A yX0_firstUnlikeWay wsX0_firstUnlikeWay ({ frames := 3, cells := 0, slots := 0, locals := 72 }) 0 0 ws [.ref o, .long p0, .long p1, .int set] (fun r0 u => u = (G, ws) ∧ (fstW (unl w h p0 p1 set) (-1) r0)) := by
  refine Met.ofW (cc := cX0_firstUnlikeWay) (maxL := 7) (ret := (some .int)) (by decide) rfl ?_
  intro p e s m args below meth c s₁ B hml hv
  obtain ⟨rfl, hP, hK, hA, hV⟩ := hv
  have hx := B.exec
  have hb := B.bytes
  have hr := B.returns
  have hts := atoms_spec (ws := wsX0_firstUnlikeWay) B.pre
  have hown : s.vm.findClass RX0 = some m.cls := findClass_of_methodNamed B.named
  have hlocks := B.notSynchronized
  have hS : va_S A s.heap s.heap [] := va_S.rf
  have hl := lv_entry ([.ref o, .long p0, .long p1, .int set]) (n := 7) (Nat.le_of_ble_eq_true rfl)
  rw [lg_entry_eq]
  generalize (lg_sl ([.ref o, .long p0, .long p1, .int set]) ++ List.replicate (7 - (lg_sl ([.ref o, .long p0, .long p1, .int set])).length) Slot.unset).toArray = ls at hl ⊢
  have hl : lv_has ls 7 [(0, .ref o), (1, .long p0), (3, .long p1), (5, .int set)] := hl
  have k_m1 : (-1 : Int32).toInt = -1 := by decide
  have k_0 : (0 : Int32).toInt = 0 := by decide
  have k_1 : (1 : Int32).toInt = 1 := by decide
  have k_4 : (4 : Int32).toInt = 4 := by decide
  refine lv_iconst (v := 0) hx hb dX0_firstUnlikeWay_0 (by decide) ?_
  refine lv_istore (lv' := [(6, .int (0 : Int32)), (0, .ref o), (1, .long p0), (3, .long p1), (5, .int set)]) hx hb dX0_firstUnlikeWay_1 hl (by decide) rfl (fun ls hl => ?_)
  have loop_3 : ∀ (n : Nat) (k : Nat), (k ≤ 4) → (∀ j, j < k → ¬ unl w h p0 p1 set j) → 4 - k < n → ∀ (H : Heap) (locs : List Loc), va_P D vwCl ws H → va_S A s.heap H locs → ∀ (ls : Array Slot), lv_has ls 7 [(6, .int (nI k)), (0, .ref o), (1, .long p0), (3, .long p1), (5, .int set)] → W p l e (headSpec wsX0_firstUnlikeWay ({ frames := 3, cells := 0, slots := 0, locals := 72 })).room s m #[Value.ref o, Value.long p0, Value.long p1, Value.int set] below meth c H locs 0 0 (MQ below (va_Qi (fun r0 u => u = (G, ws) ∧ (fstW (unl w h p0 p1 set) (-1) r0)) (cB D cy A) A) #[Value.ref o, Value.long p0, Value.long p1, Value.int set] s 0 0 A) (F0 m 3 ls []) := by
    intro n
    induction n with
    | zero => intro k j3_0 j3_1 hn; exact absurd hn (Nat.not_lt_zero _)
    | succ n ih_3 =>
      intro k j3_0 j3_1 hn_3 H locs hP hS  ls hl
      have ik : (nI k).toInt = (k : Int) := nI_toInt (by omega)
      refine lv_iload hx hb dX0_firstUnlikeWay_3 (lv_at hl 0 rfl) ?_
      refine lv_iconst (v := 4) hx hb dX0_firstUnlikeWay_5 (by decide) ?_
      refine lv_icmp_ge (tgt := 40) hx hb dX0_firstUnlikeWay_6 (by decide) (fun c6 => ?_) (fun c6 => ?_)
      · skip
        have d6 := c6
        rw [fa_le] at d6
        refine lv_iconst (v := (-1)) hx hb dX0_firstUnlikeWay_40 (by decide) ?_
        exact W.iret (v := ((-1) : Int32)) hx hb hr (fun t ht hW => ⟨⟨_, (G, ws), rfl, ⟨rfl, (Or.inr ⟨rfl, fun j9 h9 => j3_1 j9 (by omega)⟩)⟩, by show va_P D vwCl ws t.heap; rw [ht]; exact hP, hD, hT⟩, hS.F ht⟩) hS.2.2 dX0_firstUnlikeWay_41
      · skip
        have d6 := c6
        rw [fa_le] at d6
        refine lv_iload hx hb dX0_firstUnlikeWay_9 (lv_at hl 4 rfl) ?_
        refine lv_iload hx hb dX0_firstUnlikeWay_11 (lv_at hl 0 rfl) ?_
        refine lv_ishr hx hb dX0_firstUnlikeWay_13 ?_
        refine lv_topi (fun v13 e13 => ?_)
        refine lv_iconst (v := 1) hx hb dX0_firstUnlikeWay_14 (by decide) ?_
        refine lv_iand hx hb dX0_firstUnlikeWay_15 ?_
        refine lv_topi (fun v15 e15 => ?_)
        refine lv_iconst (v := 1) hx hb dX0_firstUnlikeWay_16 (by decide) ?_
        have hB : gB set k = v15 := by rw [e15, e13]; rfl
        refine lv_icmp_ne (tgt := 34) hx hb dX0_firstUnlikeWay_17 (by decide) (fun c17 => ?_) (fun c17 => ?_)
        · skip
          have d17 := c17
          rw [fa_eq] at d17
          refine lv_iinc (v := (nI (k + 1))) (lv' := [(6, .int (nI (k + 1))), (0, .ref o), (1, .long p0), (3, .long p1), (5, .int set)]) hx hb dX0_firstUnlikeWay_34 hl (k := 0) rfl (nI_1 _) (by decide) rfl (fun ls hl => ?_)
          refine lv_goto (tgt := 3) hx hb dX0_firstUnlikeWay_37 (by decide) ?_
          exact ih_3 (k + 1) (by omega) (fun j hj => by
            by_cases e9 : j = k
            · rw [e9]; first | exact fun z9 => c17 (hB.symm.trans z9.1) | exact fun z9 => b28 z9.2
            · exact j3_1 j (by omega)) (by omega) _ _ hP hS  ls (lv_sub hl [0, 1, 2, 3, 4] rfl)
        · skip
          have d17 := c17
          rw [fa_eq] at d17
          refine lv_aload_n hx hb dX0_firstUnlikeWay_20 rfl (lv_at hl 1 rfl) ?_
          refine lv_lload_n hx hb dX0_firstUnlikeWay_21 rfl (lv_at hl 2 rfl) ?_
          refine lv_lload_n hx hb dX0_firstUnlikeWay_22 rfl (lv_at hl 3 rfl) ?_
          refine lv_iload hx hb dX0_firstUnlikeWay_23 (lv_at hl 0 rfl) ?_
          obtain ⟨_, hM_o, hb_o, l_o, f_o, r_o, rfl, hG_l_o, hG_f_o, hG_r_o⟩ := hT _ _ hG_o
          refine t_calli (va_runV (g := F0 m 25 ls ([.int (nI k), .long p1, .long p0, .ref o])) (As := [.long p0, .long p1, .int (nI k)]) (rest := []) ⟨hx, hb, hml, hown, hts⟩ (c_X0_hasUnlikeLine_x l D cy A G ws o p0 p1 k hD hT hG_o (by omega)) (cwV 3 hts gX0_firstUnlikeWay_X0_hasUnlikeLine rfl rfl rfl (by decide +kernel) ⟨Nat.le_of_ble_eq_true rfl, Nat.le_of_ble_eq_true rfl⟩) (c_preV hM_o rfl hP hK hA hS hV) rfl rfl hl.1 rfl (lv_room (Nat.le_of_ble_eq_true rfl)) dX0_firstUnlikeWay_25 ⟨Nat.le_of_ble_eq_true rfl, Nat.le_of_ble_eq_true rfl⟩) hS (fun r25 u H locs q25 hP9 hD9 hT9 hS => ?_)
          obtain ⟨rfl, q25⟩ := q25
          have hP : va_P D vwCl ws H := hP9
          refine lv_if_eq (tgt := 34) hx hb dX0_firstUnlikeWay_28 (by decide) (fun c28 => ?_) (fun c28 => ?_)
          · skip
            have b28 := bo_f q25 c28
            refine lv_iinc (v := (nI (k + 1))) (lv' := [(6, .int (nI (k + 1))), (0, .ref o), (1, .long p0), (3, .long p1), (5, .int set)]) hx hb dX0_firstUnlikeWay_34 hl (k := 0) rfl (nI_1 _) (by decide) rfl (fun ls hl => ?_)
            refine lv_goto (tgt := 3) hx hb dX0_firstUnlikeWay_37 (by decide) ?_
            exact ih_3 (k + 1) (by omega) (fun j hj => by
            by_cases e9 : j = k
            · rw [e9]; first | exact fun z9 => c17 (hB.symm.trans z9.1) | exact fun z9 => b28 z9.2
            · exact j3_1 j (by omega)) (by omega) _ _ hP hS  ls (lv_sub hl [0, 1, 2, 3, 4] rfl)
          · skip
            have b28 := bo_t q25 c28
            refine lv_iload hx hb dX0_firstUnlikeWay_31 (lv_at hl 0 rfl) ?_
            exact W.iret (v := (nI k)) hx hb hr (fun t ht hW => ⟨⟨_, (G, ws), rfl, ⟨rfl, (Or.inl ⟨k, (by omega), rfl, ⟨hB.trans c17, b28⟩, j3_1⟩)⟩, by show va_P D vwCl ws t.heap; rw [ht]; exact hP, hD, hT⟩, hS.F ht⟩) hS.2.2 dX0_firstUnlikeWay_33
  exact loop_3 (4 + 1) 0 (by omega) (fun j hj => absurd hj (Nat.not_lt_zero _)) (by omega) _ _ hP hS  ls (lv_sub hl [0, 1, 2, 3, 4] rfl)
set_option maxHeartbeats 4000000 in
set_option maxRecDepth 100000 in
theorem c_X9_shadow_x (l : Launch) (D : va_G) (cy : Nat → ClassId) (A : Nat → Prop) (G : cG) (ws : va_W) (o : Nat) (wide : Int32) (high : Int32) (p0 : Int64) (way : Int32) (line : Int32)  (hD : va_D A ws) (hT : cT cy G ws) (hG_o : G o = some (7, 0, 0))  : Ci l D cy A yX9_shadow wsX9_shadow ({ frames := 5, cells := 4, slots := 502, locals := 116 }) 4 502 ws [.ref o, .int wide, .int high, .long p0, .int way, .int line] (fun r0 u => cX none (chs [1, 8]) G ws u.1 u.2 ∧ (shA wide high p0 way line r0)) := by
  refine Met.ofW (cc := cX9_shadow) (maxL := 8) (ret := (some .int)) (by decide) rfl ?_
  intro p e s m args below meth c s₁ B hml hv
  obtain ⟨rfl, hP, hK, hA, hV⟩ := hv
  have hx := B.exec
  have hb := B.bytes
  have hr := B.returns
  have hts := atoms_spec (ws := wsX9_shadow) B.pre
  have hown : s.vm.findClass RX9 = some m.cls := findClass_of_methodNamed B.named
  have hlocks := B.notSynchronized
  have hS : va_S A s.heap s.heap [] := va_S.rf
  have hX : cX none (chs [1, 8]) G ws G ws := cX.rf
  have hl := lv_entry ([.ref o, .int wide, .int high, .long p0, .int way, .int line]) (n := 8) (Nat.le_of_ble_eq_true rfl)
  rw [lg_entry_eq]
  generalize (lg_sl ([.ref o, .int wide, .int high, .long p0, .int way, .int line]) ++ List.replicate (8 - (lg_sl ([.ref o, .int wide, .int high, .long p0, .int way, .int line])).length) Slot.unset).toArray = ls at hl ⊢
  have hl : lv_has ls 8 [(0, .ref o), (1, .int wide), (2, .int high), (3, .long p0), (5, .int way), (6, .int line)] := hl
  have k_m1 : (-1 : Int32).toInt = -1 := by decide
  have k_0 : (0 : Int32).toInt = 0 := by decide
  refine lv_aload_n hx hb dX9_shadow_0 rfl (lv_at hl 0 rfl) ?_
  refine lv_iload_n hx hb dX9_shadow_1 rfl (lv_at hl 1 rfl) ?_
  refine lv_iload_n hx hb dX9_shadow_2 rfl (lv_at hl 2 rfl) ?_
  obtain ⟨_, hM_o, bs_o, js_o, sh_o, wk_o, ll_o, jc_o, lc_o, mo_o, lb_o, rfl, hjc_o, hlc_o, hG_bs_o, hG_js_o, hG_sh_o, hG_wk_o, hmo_o, hG_ll_o, hlb_o⟩ := hT _ _ hG_o
  refine t_calla (va_runV (g := F0 m 3 ls ([.int high, .int wide, .ref o])) (As := [.int wide, .int high]) (rest := []) ⟨hx, hb, hml, hown, hts⟩ (c_X9_boardOf_x l D cy A G ws o wide high hD hT hG_o ) (cwV 2 hts gX9_shadow_X9_boardOf rfl rfl rfl (by decide +kernel) ⟨Nat.le_of_ble_eq_true rfl, Nat.le_of_ble_eq_true rfl⟩) (c_preV hM_o rfl hP hK hA hS hV) rfl rfl hl.1 rfl (lv_room (Nat.le_of_ble_eq_true rfl)) dX9_shadow_3 ⟨Nat.le_of_ble_eq_true rfl, Nat.le_of_ble_eq_true rfl⟩) hS (fun r3 u H locs q3 hP9 hD9 hT9 hS => ?_)
  obtain ⟨G3, w3⟩ := u
  obtain ⟨hX9, q3⟩ := q3
  have hX9 : cX none (chs [1, 8]) G ws G3 w3 := hX9
  have hP : va_P D vwCl w3 H := hP9
  have hD : va_D A w3 := hD9
  have hT : cT cy G3 w3 := hT9
  have hM_o := hX9.2.1 _ _ (cP.no hG_o rfl) hM_o
  have hG_o := hX9.1 _ _ hG_o
  have hG_bs_o := hX9.1 _ _ hG_bs_o
  have hG_js_o := hX9.1 _ _ hG_js_o
  have hG_sh_o := hX9.1 _ _ hG_sh_o
  have hG_wk_o := hX9.1 _ _ hG_wk_o
  have hG_ll_o := hX9.1 _ _ hG_ll_o
  have hX := hX.tr hX9
  rcases r3 with _ | x3
  · skip
    have vn3 := q3.2.1 rfl
    refine lv_astoreN (lv' := [(7, .null), (0, .ref o), (1, .int wide), (2, .int high), (3, .long p0), (5, .int way), (6, .int line)]) hx hb dX9_shadow_6 hl (by decide) rfl (fun ls hl => ?_)
    refine lv_aloadN hx hb dX9_shadow_8 (lv_at hl 0 rfl) ?_
    refine lv_ifnullN (tgt := 34) hx hb dX9_shadow_10 (by decide) ?_
    refine lv_iconst (v := (-1)) hx hb dX9_shadow_34 (by decide) ?_
    refine W.widen (k := 4) (n := 502) (Nat.le_of_ble_eq_true rfl) (Nat.le_of_ble_eq_true rfl) ?_
    exact W.iret (v := ((-1) : Int32)) hx hb hr (fun t ht hW => ⟨⟨_, (G3, w3), rfl, ⟨hX, (Or.inr ⟨(fun z9 => by first | exact vn3 z9.1.1 | exact b19 z9.1.2 | (have z8 := cL9 z9.2.1.1; have z7 := z9.2; unfold okL at z7; omega)), rfl⟩)⟩, by show va_P D vwCl w3 t.heap; rw [ht]; exact hP, hD, hT⟩, hS.F ht⟩) hS.2.2 dX9_shadow_35
  · skip
    have hG_x3 := q3.1 x3 rfl
    have vb3 := q3.2.2 x3 rfl
    refine lv_astore (lv' := [(7, .ref x3), (0, .ref o), (1, .int wide), (2, .int high), (3, .long p0), (5, .int way), (6, .int line)]) hx hb dX9_shadow_6 hl (by decide) rfl (fun ls hl => ?_)
    refine lv_aload hx hb dX9_shadow_8 (lv_at hl 0 rfl) ?_
    refine lv_ifnull hx hb dX9_shadow_10 ?_
    refine lv_aload hx hb dX9_shadow_13 (lv_at hl 0 rfl) ?_
    refine lv_lload_n hx hb dX9_shadow_15 rfl (lv_at hl 4 rfl) ?_
    obtain ⟨_, hM_x3, hb_x3, l_x3, f_x3, r_x3, rfl, hG_l_x3, hG_f_x3, hG_r_x3⟩ := hT _ _ hG_x3
    refine t_calli (va_runV (g := F0 m 16 ls ([.long p0, .ref x3])) (As := [.long p0]) (rest := []) ⟨hx, hb, hml, hown, hts⟩ (c_X0_isPicture_x l D cy A G3 w3 x3 p0 hD hT hG_x3 ) (cwV 1 hts gX9_shadow_X0_isPicture rfl rfl rfl (by decide +kernel) ⟨Nat.le_of_ble_eq_true rfl, Nat.le_of_ble_eq_true rfl⟩) (c_preV hM_x3 rfl hP hK hA hS hV) rfl rfl hl.1 rfl (lv_room (Nat.le_of_ble_eq_true rfl)) dX9_shadow_16 ⟨Nat.le_of_ble_eq_true rfl, Nat.le_of_ble_eq_true rfl⟩) hS (fun r16 u H locs q16 hP9 hD9 hT9 hS => ?_)
    obtain ⟨rfl, q16⟩ := q16
    have hP : va_P D vwCl w3 H := hP9
    refine lv_if_eq (tgt := 34) hx hb dX9_shadow_19 (by decide) (fun c19 => ?_) (fun c19 => ?_)
    · skip
      have b19 := bo_f q16 c19
      refine lv_iconst (v := (-1)) hx hb dX9_shadow_34 (by decide) ?_
      refine W.widen (k := 4) (n := 502) (Nat.le_of_ble_eq_true rfl) (Nat.le_of_ble_eq_true rfl) ?_
      exact W.iret (v := ((-1) : Int32)) hx hb hr (fun t ht hW => ⟨⟨_, (G3, w3), rfl, ⟨hX, (Or.inr ⟨(fun z9 => by first | exact vn3 z9.1.1 | exact b19 z9.1.2 | (have z8 := cL9 z9.2.1.1; have z7 := z9.2; unfold okL at z7; omega)), rfl⟩)⟩, by show va_P D vwCl w3 t.heap; rw [ht]; exact hP, hD, hT⟩, hS.F ht⟩) hS.2.2 dX9_shadow_35
    · skip
      have b19 := bo_t q16 c19
      have hb9 := c_hb hT hG_x3
      refine lv_aload hx hb dX9_shadow_22 (lv_at hl 0 rfl) ?_
      refine lv_iload hx hb dX9_shadow_24 (lv_at hl 5 rfl) ?_
      refine lv_iload hx hb dX9_shadow_26 (lv_at hl 6 rfl) ?_
      refine t_calli (va_runV (g := F0 m 28 ls ([.int line, .int way, .ref x3])) (As := [.int way, .int line]) (rest := []) ⟨hx, hb, hml, hown, hts⟩ (c_X0_isLine l D cy A G3 w3 x3 way line hD hT hG_x3 ) (cwV 2 hts gX9_shadow_X0_isLine rfl rfl rfl (by decide +kernel) ⟨Nat.le_of_ble_eq_true rfl, Nat.le_of_ble_eq_true rfl⟩) (c_preV hM_x3 rfl hP hK hA hS hV) rfl rfl hl.1 rfl (lv_room (Nat.le_of_ble_eq_true rfl)) dX9_shadow_28 ⟨Nat.le_of_ble_eq_true rfl, Nat.le_of_ble_eq_true rfl⟩) hS (fun r28 u H locs q28 hP9 hD9 hT9 hS => ?_)
      obtain ⟨rfl, q28⟩ := q28
      have hP : va_P D vwCl w3 H := hP9
      have cL9 := fun z9 : 0 ≤ way.toInt => cLn hb9 (way := way) z9
      refine lv_if_ne (tgt := 36) hx hb dX9_shadow_31 (by decide) (fun c31 => ?_) (fun c31 => ?_)
      · skip
        have b31 := bo_t q28 c31
        have cL8 := cL9 (by omega)
        refine lv_aload hx hb dX9_shadow_36 (lv_at hl 0 rfl) ?_
        refine lv_iload hx hb dX9_shadow_38 (lv_at hl 5 rfl) ?_
        refine lv_iload hx hb dX9_shadow_40 (lv_at hl 6 rfl) ?_
        refine lv_lload_n hx hb dX9_shadow_42 rfl (lv_at hl 4 rfl) ?_
        refine t_calli (va_runV (g := F0 m 43 ls ([.long p0, .int line, .int way, .ref x3])) (As := [.int way, .int line, .long p0]) (rest := []) ⟨hx, hb, hml, hown, hts⟩ (c_X0_onesOfLine_x l D cy A G3 w3 x3 way line p0 hD hT hG_x3 (by omega) (by have z9 := lnC_b hb9 way.toNatClampNeg; omega)) (cwV 3 hts gX9_shadow_X0_onesOfLine rfl rfl rfl (by decide +kernel) ⟨Nat.le_of_ble_eq_true rfl, Nat.le_of_ble_eq_true rfl⟩) (c_preV hM_x3 rfl hP hK hA hS hV) rfl rfl hl.1 rfl (lv_room (Nat.le_of_ble_eq_true rfl)) dX9_shadow_43 ⟨Nat.le_of_ble_eq_true rfl, Nat.le_of_ble_eq_true rfl⟩) hS (fun r43 u H locs q43 hP9 hD9 hT9 hS => ?_)
        obtain ⟨rfl, q43⟩ := q43
        have hP : va_P D vwCl w3 H := hP9
        refine W.widen (k := 4) (n := 502) (Nat.le_of_ble_eq_true rfl) (Nat.le_of_ble_eq_true rfl) ?_
        exact W.iret (v := r43) hx hb hr (fun t ht hW => ⟨⟨_, (G3, w3), rfl, ⟨hX, (Or.inl ⟨⟨⟨vb3, b19⟩, (by unfold okL; omega)⟩, q43⟩)⟩, by show va_P D vwCl w3 t.heap; rw [ht]; exact hP, hD, hT⟩, hS.F ht⟩) hS.2.2 dX9_shadow_46
      · skip
        have b31 := bo_f q28 c31
        refine lv_iconst (v := (-1)) hx hb dX9_shadow_34 (by decide) ?_
        refine W.widen (k := 4) (n := 502) (Nat.le_of_ble_eq_true rfl) (Nat.le_of_ble_eq_true rfl) ?_
        exact W.iret (v := ((-1) : Int32)) hx hb hr (fun t ht hW => ⟨⟨_, (G3, w3), rfl, ⟨hX, (Or.inr ⟨(fun z9 => by first | exact vn3 z9.1.1 | exact b19 z9.1.2 | (have z8 := cL9 z9.2.1.1; have z7 := z9.2; unfold okL at z7; omega)), rfl⟩)⟩, by show va_P D vwCl w3 t.heap; rw [ht]; exact hP, hD, hT⟩, hS.F ht⟩) hS.2.2 dX9_shadow_35
set_option maxHeartbeats 4000000 in
set_option maxRecDepth 100000 in
theorem c_X9_parts_x (l : Launch) (D : va_G) (cy : Nat → ClassId) (A : Nat → Prop) (G : cG) (ws : va_W) (o : Nat) (wide : Int32) (high : Int32) (p0 : Int64) (p1 : Int64) (ways : Int32)  (hD : va_D A ws) (hT : cT cy G ws) (hG_o : G o = some (7, 0, 0))  : Ci l D cy A yX9_parts wsX9_parts ({ frames := 5, cells := 4, slots := 502, locals := 116 }) 4 502 ws [.ref o, .int wide, .int high, .long p0, .long p1, .int ways] (fun r0 u => cX none (chs [1, 8]) G ws u.1 u.2 ∧ (paA wide high p0 p1 ways r0)) := by
  refine Met.ofW (cc := cX9_parts) (maxL := 10) (ret := (some .int)) (by decide) rfl ?_
  intro p e s m args below meth c s₁ B hml hv
  obtain ⟨rfl, hP, hK, hA, hV⟩ := hv
  have hx := B.exec
  have hb := B.bytes
  have hr := B.returns
  have hts := atoms_spec (ws := wsX9_parts) B.pre
  have hown : s.vm.findClass RX9 = some m.cls := findClass_of_methodNamed B.named
  have hlocks := B.notSynchronized
  have hS : va_S A s.heap s.heap [] := va_S.rf
  have hX : cX none (chs [1, 8]) G ws G ws := cX.rf
  have hl := lv_entry ([.ref o, .int wide, .int high, .long p0, .long p1, .int ways]) (n := 10) (Nat.le_of_ble_eq_true rfl)
  rw [lg_entry_eq]
  generalize (lg_sl ([.ref o, .int wide, .int high, .long p0, .long p1, .int ways]) ++ List.replicate (10 - (lg_sl ([.ref o, .int wide, .int high, .long p0, .long p1, .int ways])).length) Slot.unset).toArray = ls at hl ⊢
  have hl : lv_has ls 10 [(0, .ref o), (1, .int wide), (2, .int high), (3, .long p0), (5, .long p1), (7, .int ways)] := hl
  have k_m2 : (-2 : Int32).toInt = -2 := by decide
  have k_m1 : (-1 : Int32).toInt = -1 := by decide
  have k_0 : (0 : Int32).toInt = 0 := by decide
  have k_16 : (16 : Int32).toInt = 16 := by decide
  refine lv_aload_n hx hb dX9_parts_0 rfl (lv_at hl 0 rfl) ?_
  refine lv_iload_n hx hb dX9_parts_1 rfl (lv_at hl 1 rfl) ?_
  refine lv_iload_n hx hb dX9_parts_2 rfl (lv_at hl 2 rfl) ?_
  obtain ⟨_, hM_o, bs_o, js_o, sh_o, wk_o, ll_o, jc_o, lc_o, mo_o, lb_o, rfl, hjc_o, hlc_o, hG_bs_o, hG_js_o, hG_sh_o, hG_wk_o, hmo_o, hG_ll_o, hlb_o⟩ := hT _ _ hG_o
  refine t_calla (va_runV (g := F0 m 3 ls ([.int high, .int wide, .ref o])) (As := [.int wide, .int high]) (rest := []) ⟨hx, hb, hml, hown, hts⟩ (c_X9_boardOf_x l D cy A G ws o wide high hD hT hG_o ) (cwV 2 hts gX9_parts_X9_boardOf rfl rfl rfl (by decide +kernel) ⟨Nat.le_of_ble_eq_true rfl, Nat.le_of_ble_eq_true rfl⟩) (c_preV hM_o rfl hP hK hA hS hV) rfl rfl hl.1 rfl (lv_room (Nat.le_of_ble_eq_true rfl)) dX9_parts_3 ⟨Nat.le_of_ble_eq_true rfl, Nat.le_of_ble_eq_true rfl⟩) hS (fun r3 u H locs q3 hP9 hD9 hT9 hS => ?_)
  obtain ⟨G3, w3⟩ := u
  obtain ⟨hX9, q3⟩ := q3
  have hX9 : cX none (chs [1, 8]) G ws G3 w3 := hX9
  have hP : va_P D vwCl w3 H := hP9
  have hD : va_D A w3 := hD9
  have hT : cT cy G3 w3 := hT9
  have hM_o := hX9.2.1 _ _ (cP.no hG_o rfl) hM_o
  have hG_o := hX9.1 _ _ hG_o
  have hG_bs_o := hX9.1 _ _ hG_bs_o
  have hG_js_o := hX9.1 _ _ hG_js_o
  have hG_sh_o := hX9.1 _ _ hG_sh_o
  have hG_wk_o := hX9.1 _ _ hG_wk_o
  have hG_ll_o := hX9.1 _ _ hG_ll_o
  have hX := hX.tr hX9
  rcases r3 with _ | x3
  · skip
    have vn3 := q3.2.1 rfl
    refine lv_astoreN (lv' := [(8, .null), (0, .ref o), (1, .int wide), (2, .int high), (3, .long p0), (5, .long p1), (7, .int ways)]) hx hb dX9_parts_6 hl (by decide) rfl (fun ls hl => ?_)
    refine lv_aloadN hx hb dX9_parts_8 (lv_at hl 0 rfl) ?_
    refine lv_ifnullN (tgt := 44) hx hb dX9_parts_10 (by decide) ?_
    refine lv_iconst (v := (-1)) hx hb dX9_parts_44 (by decide) ?_
    refine W.widen (k := 4) (n := 502) (Nat.le_of_ble_eq_true rfl) (Nat.le_of_ble_eq_true rfl) ?_
    exact W.iret (v := ((-1) : Int32)) hx hb hr (fun t ht hW => ⟨⟨_, (G3, w3), rfl, ⟨hX, (Or.inr ⟨(fun z9 => by first | exact vn3 z9.1.1 | exact b19 z9.1.2 | exact b29 z9.2.1.2 | omega), rfl⟩)⟩, by show va_P D vwCl w3 t.heap; rw [ht]; exact hP, hD, hT⟩, hS.F ht⟩) hS.2.2 dX9_parts_45
  · skip
    have hG_x3 := q3.1 x3 rfl
    have vb3 := q3.2.2 x3 rfl
    refine lv_astore (lv' := [(8, .ref x3), (0, .ref o), (1, .int wide), (2, .int high), (3, .long p0), (5, .long p1), (7, .int ways)]) hx hb dX9_parts_6 hl (by decide) rfl (fun ls hl => ?_)
    refine lv_aload hx hb dX9_parts_8 (lv_at hl 0 rfl) ?_
    refine lv_ifnull hx hb dX9_parts_10 ?_
    refine lv_aload hx hb dX9_parts_13 (lv_at hl 0 rfl) ?_
    refine lv_lload_n hx hb dX9_parts_15 rfl (lv_at hl 4 rfl) ?_
    obtain ⟨_, hM_x3, hb_x3, l_x3, f_x3, r_x3, rfl, hG_l_x3, hG_f_x3, hG_r_x3⟩ := hT _ _ hG_x3
    refine t_calli (va_runV (g := F0 m 16 ls ([.long p0, .ref x3])) (As := [.long p0]) (rest := []) ⟨hx, hb, hml, hown, hts⟩ (c_X0_isPicture_x l D cy A G3 w3 x3 p0 hD hT hG_x3 ) (cwV 1 hts gX9_parts_X0_isPicture rfl rfl rfl (by decide +kernel) ⟨Nat.le_of_ble_eq_true rfl, Nat.le_of_ble_eq_true rfl⟩) (c_preV hM_x3 rfl hP hK hA hS hV) rfl rfl hl.1 rfl (lv_room (Nat.le_of_ble_eq_true rfl)) dX9_parts_16 ⟨Nat.le_of_ble_eq_true rfl, Nat.le_of_ble_eq_true rfl⟩) hS (fun r16 u H locs q16 hP9 hD9 hT9 hS => ?_)
    obtain ⟨rfl, q16⟩ := q16
    have hP : va_P D vwCl w3 H := hP9
    refine lv_if_eq (tgt := 44) hx hb dX9_parts_19 (by decide) (fun c19 => ?_) (fun c19 => ?_)
    · skip
      have b19 := bo_f q16 c19
      refine lv_iconst (v := (-1)) hx hb dX9_parts_44 (by decide) ?_
      refine W.widen (k := 4) (n := 502) (Nat.le_of_ble_eq_true rfl) (Nat.le_of_ble_eq_true rfl) ?_
      exact W.iret (v := ((-1) : Int32)) hx hb hr (fun t ht hW => ⟨⟨_, (G3, w3), rfl, ⟨hX, (Or.inr ⟨(fun z9 => by first | exact vn3 z9.1.1 | exact b19 z9.1.2 | exact b29 z9.2.1.2 | omega), rfl⟩)⟩, by show va_P D vwCl w3 t.heap; rw [ht]; exact hP, hD, hT⟩, hS.F ht⟩) hS.2.2 dX9_parts_45
    · skip
      have b19 := bo_t q16 c19
      refine lv_aload hx hb dX9_parts_22 (lv_at hl 0 rfl) ?_
      refine lv_lload hx hb dX9_parts_24 (lv_at hl 5 rfl) ?_
      refine t_calli (va_runV (g := F0 m 26 ls ([.long p1, .ref x3])) (As := [.long p1]) (rest := []) ⟨hx, hb, hml, hown, hts⟩ (c_X0_isPicture_x l D cy A G3 w3 x3 p1 hD hT hG_x3 ) (cwV 1 hts gX9_parts_X0_isPicture rfl rfl rfl (by decide +kernel) ⟨Nat.le_of_ble_eq_true rfl, Nat.le_of_ble_eq_true rfl⟩) (c_preV hM_x3 rfl hP hK hA hS hV) rfl rfl hl.1 rfl (lv_room (Nat.le_of_ble_eq_true rfl)) dX9_parts_26 ⟨Nat.le_of_ble_eq_true rfl, Nat.le_of_ble_eq_true rfl⟩) hS (fun r26 u H locs q26 hP9 hD9 hT9 hS => ?_)
      obtain ⟨rfl, q26⟩ := q26
      have hP : va_P D vwCl w3 H := hP9
      refine lv_if_eq (tgt := 44) hx hb dX9_parts_29 (by decide) (fun c29 => ?_) (fun c29 => ?_)
      · skip
        have b29 := bo_f q26 c29
        refine lv_iconst (v := (-1)) hx hb dX9_parts_44 (by decide) ?_
        refine W.widen (k := 4) (n := 502) (Nat.le_of_ble_eq_true rfl) (Nat.le_of_ble_eq_true rfl) ?_
        exact W.iret (v := ((-1) : Int32)) hx hb hr (fun t ht hW => ⟨⟨_, (G3, w3), rfl, ⟨hX, (Or.inr ⟨(fun z9 => by first | exact vn3 z9.1.1 | exact b19 z9.1.2 | exact b29 z9.2.1.2 | omega), rfl⟩)⟩, by show va_P D vwCl w3 t.heap; rw [ht]; exact hP, hD, hT⟩, hS.F ht⟩) hS.2.2 dX9_parts_45
      · skip
        have b29 := bo_t q26 c29
        refine lv_iload hx hb dX9_parts_32 (lv_at hl 6 rfl) ?_
        refine lv_if_lt (tgt := 44) hx hb dX9_parts_34 (by decide) (fun c34 => ?_) (fun c34 => ?_)
        · skip
          have d34 := c34
          rw [fa_lt] at d34
          refine lv_iconst (v := (-1)) hx hb dX9_parts_44 (by decide) ?_
          refine W.widen (k := 4) (n := 502) (Nat.le_of_ble_eq_true rfl) (Nat.le_of_ble_eq_true rfl) ?_
          exact W.iret (v := ((-1) : Int32)) hx hb hr (fun t ht hW => ⟨⟨_, (G3, w3), rfl, ⟨hX, (Or.inr ⟨(fun z9 => by first | exact vn3 z9.1.1 | exact b19 z9.1.2 | exact b29 z9.2.1.2 | omega), rfl⟩)⟩, by show va_P D vwCl w3 t.heap; rw [ht]; exact hP, hD, hT⟩, hS.F ht⟩) hS.2.2 dX9_parts_45
        · skip
          have d34 := c34
          rw [fa_lt] at d34
          refine lv_iload hx hb dX9_parts_37 (lv_at hl 6 rfl) ?_
          refine lv_bipush (v := 16) hx hb dX9_parts_39 (by decide) ?_
          refine lv_icmp_lt (tgt := 46) hx hb dX9_parts_41 (by decide) (fun c41 => ?_) (fun c41 => ?_)
          · skip
            have d41 := c41
            rw [fa_lt] at d41
            refine lv_aload hx hb dX9_parts_46 (lv_at hl 0 rfl) ?_
            refine lv_lload_n hx hb dX9_parts_48 rfl (lv_at hl 4 rfl) ?_
            refine lv_lload hx hb dX9_parts_49 (lv_at hl 5 rfl) ?_
            refine lv_iload hx hb dX9_parts_51 (lv_at hl 6 rfl) ?_
            refine t_calli (va_runV (g := F0 m 53 ls ([.int ways, .long p1, .long p0, .ref x3])) (As := [.long p0, .long p1, .int ways]) (rest := []) ⟨hx, hb, hml, hown, hts⟩ (c_X0_firstUnlikeWay_x l D cy A G3 w3 x3 p0 p1 ways hD hT hG_x3 ) (cwV 3 hts gX9_parts_X0_firstUnlikeWay rfl rfl rfl (by decide +kernel) ⟨Nat.le_of_ble_eq_true rfl, Nat.le_of_ble_eq_true rfl⟩) (c_preV hM_x3 rfl hP hK hA hS hV) rfl rfl hl.1 rfl (lv_room (Nat.le_of_ble_eq_true rfl)) dX9_parts_53 ⟨Nat.le_of_ble_eq_true rfl, Nat.le_of_ble_eq_true rfl⟩) hS (fun r53 u H locs q53 hP9 hD9 hT9 hS => ?_)
            obtain ⟨rfl, q53⟩ := q53
            have hP : va_P D vwCl w3 H := hP9
            refine lv_istore (lv' := [(9, .int r53), (8, .ref x3), (0, .ref o), (1, .int wide), (2, .int high), (3, .long p0), (5, .long p1), (7, .int ways)]) hx hb dX9_parts_56 hl (by decide) rfl (fun ls hl => ?_)
            refine lv_iload hx hb dX9_parts_58 (lv_at hl 0 rfl) ?_
            refine lv_if_ge (tgt := 68) hx hb dX9_parts_60 (by decide) (fun c60 => ?_) (fun c60 => ?_)
            · skip
              have d60 := c60
              rw [fa_le] at d60
              refine lv_iload hx hb dX9_parts_68 (lv_at hl 0 rfl) ?_
              refine W.widen (k := 4) (n := 502) (Nat.le_of_ble_eq_true rfl) (Nat.le_of_ble_eq_true rfl) ?_
              exact W.iret (v := r53) hx hb hr (fun t ht hW => ⟨⟨_, (G3, w3), rfl, ⟨hX, (Or.inl ⟨⟨⟨vb3, b19⟩, ⟨vb3, b29⟩, (by omega)⟩, (by rcases q53 with z9 | ⟨e9, z9⟩; exact Or.inl z9; (exfalso; rw [e9] at d60; have z8 : (-1 : Int32).toInt = -1 := rfl; omega))⟩)⟩, by show va_P D vwCl w3 t.heap; rw [ht]; exact hP, hD, hT⟩, hS.F ht⟩) hS.2.2 dX9_parts_70
            · skip
              have d60 := c60
              rw [fa_le] at d60
              refine lv_bipush (v := (-2)) hx hb dX9_parts_63 (by decide) ?_
              refine lv_goto (tgt := 70) hx hb dX9_parts_65 (by decide) ?_
              refine W.widen (k := 4) (n := 502) (Nat.le_of_ble_eq_true rfl) (Nat.le_of_ble_eq_true rfl) ?_
              exact W.iret (v := ((-2) : Int32)) hx hb hr (fun t ht hW => ⟨⟨_, (G3, w3), rfl, ⟨hX, (Or.inl ⟨⟨⟨vb3, b19⟩, ⟨vb3, b29⟩, (by omega)⟩, (by rcases q53 with ⟨k9, h9, e9, z9⟩ | ⟨e9, z9⟩; (exfalso; have z8 : (nI k9).toInt = (k9 : Int) := nI_toInt (by omega); rw [e9] at d60; omega); exact Or.inr ⟨rfl, z9⟩)⟩)⟩, by show va_P D vwCl w3 t.heap; rw [ht]; exact hP, hD, hT⟩, hS.F ht⟩) hS.2.2 dX9_parts_70
          · skip
            have d41 := c41
            rw [fa_lt] at d41
            refine lv_iconst (v := (-1)) hx hb dX9_parts_44 (by decide) ?_
            refine W.widen (k := 4) (n := 502) (Nat.le_of_ble_eq_true rfl) (Nat.le_of_ble_eq_true rfl) ?_
            exact W.iret (v := ((-1) : Int32)) hx hb hr (fun t ht hW => ⟨⟨_, (G3, w3), rfl, ⟨hX, (Or.inr ⟨(fun z9 => by first | exact vn3 z9.1.1 | exact b19 z9.1.2 | exact b29 z9.2.1.2 | omega), rfl⟩)⟩, by show va_P D vwCl w3 t.heap; rw [ht]; exact hP, hD, hT⟩, hS.F ht⟩) hS.2.2 dX9_parts_45
set_option maxHeartbeats 4000000 in
set_option maxRecDepth 100000 in
theorem c_X10_areAlike_x (l : Launch) (w : Int32) (h : Int32) (p0 : Int64) (q0 : Int64) (way : Int32) (hw : 1 ≤ w.toInt ∧ w.toInt ≤ 6) (hh : 1 ≤ h.toInt ∧ h.toInt ≤ 6) (hy : 0 ≤ way.toInt ∧ way.toInt ≤ 3) : Pu l yX10_areAlike wsX10_areAlike ({ frames := 2, cells := 0, slots := 0, locals := 50 }) [.int w, .int h, .long p0, .long q0, .int way] (fun r => Bo r (alike w.toNatClampNeg h.toNatClampNeg p0 q0 way.toNatClampNeg)) := by
  refine Met.ofW (cc := cX10_areAlike) (maxL := 9) (ret := (some .boolean)) (by decide) rfl ?_
  intro p e s m args below meth c s₁ B hml hv
  obtain ⟨rfl, -⟩ := hv
  have hx := B.exec
  have hb := B.bytes
  have hr := B.returns
  have hts := atoms_spec (ws := wsX10_areAlike) B.pre
  have hown : s.vm.findClass RX10 = some m.cls := findClass_of_methodNamed B.named
  have hlocks := B.notSynchronized
  have hS : va_S (fun _ => False) s.heap s.heap [] := va_S.rf
  have hl := lv_entry ([.int w, .int h, .long p0, .long q0, .int way]) (n := 9) (Nat.le_of_ble_eq_true rfl)
  rw [lg_entry_eq]
  generalize (lg_sl ([.int w, .int h, .long p0, .long q0, .int way]) ++ List.replicate (9 - (lg_sl ([.int w, .int h, .long p0, .long q0, .int way])).length) Slot.unset).toArray = ls at hl ⊢
  have hl : lv_has ls 9 [(0, .int w), (1, .int h), (2, .long p0), (4, .long q0), (6, .int way)] := hl
  have hS0 := hS
  have k_0 : (0 : Int32).toInt = 0 := by decide
  have k_1 : (1 : Int32).toInt = 1 := by decide
  have hlb := lines_lt hw hh way
  have hLn := rLn hw hh hy.1
  obtain ⟨hA9, hB9, h36, -⟩ := wh36 hw hh
  refine lv_iconst (v := 1) hx hb dX10_areAlike_0 (by decide) ?_
  refine lv_istore (lv' := [(7, .int (1 : Int32)), (0, .int w), (1, .int h), (2, .long p0), (4, .long q0), (6, .int way)]) hx hb dX10_areAlike_1 hl (by decide) rfl (fun ls hl => ?_)
  refine lv_iconst (v := 0) hx hb dX10_areAlike_3 (by decide) ?_
  refine lv_istore (lv' := [(8, .int (0 : Int32)), (7, .int (1 : Int32)), (0, .int w), (1, .int h), (2, .long p0), (4, .long q0), (6, .int way)]) hx hb dX10_areAlike_4 hl (by decide) rfl (fun ls hl => ?_)
  have loop_6 : ∀ (n : Nat) (k : Nat) (x7 : Int32), ((k : Int) ≤ (r_lines w h way).toInt) → ((x7 = 1 ∧ ∀ l, l < k → shN w.toNatClampNeg h.toNatClampNeg p0 way.toNatClampNeg l = shN w.toNatClampNeg h.toNatClampNeg q0 way.toNatClampNeg l) ∨ (x7 = 0 ∧ ¬ ∀ l, l < k → shN w.toNatClampNeg h.toNatClampNeg p0 way.toNatClampNeg l = shN w.toNatClampNeg h.toNatClampNeg q0 way.toNatClampNeg l)) → ((r_lines w h way).toInt - k).toNat < n → ∀ (H : Heap) (locs : List Loc), va_S (fun _ => False) s.heap H locs → ∀ (ls : Array Slot), lv_has ls 9 [(8, .int (nI k)), (7, .int x7), (0, .int w), (1, .int h), (2, .long p0), (4, .long q0), (6, .int way)] → W p l e (headSpec wsX10_areAlike ({ frames := 2, cells := 0, slots := 0, locals := 50 })).room s m #[Value.int w, Value.int h, Value.long p0, Value.long q0, Value.int way] below meth c H locs 0 0 (MQ below (va_Qi (fun r (_ : Unit) => Bo r (alike w.toNatClampNeg h.toNatClampNeg p0 q0 way.toNatClampNeg)) (fun _ _ => True) (fun _ => False)) #[Value.int w, Value.int h, Value.long p0, Value.long q0, Value.int way] s 0 0 (fun _ => False)) (F0 m 6 ls []) := by
    intro n
    induction n with
    | zero => intro k x7 j6_0 j6_1 hn; exact absurd hn (Nat.not_lt_zero _)
    | succ n ih_6 =>
      intro k x7 j6_0 j6_1 hn_6 H locs hS ls hl
      have ik : (nI k).toInt = (k : Int) := nI_toInt (by omega)
      refine lv_iload hx hb dX10_areAlike_6 (lv_at hl 0 rfl) ?_
      refine lv_iload_n hx hb dX10_areAlike_8 rfl (lv_at hl 2 rfl) ?_
      refine lv_iload_n hx hb dX10_areAlike_9 rfl (lv_at hl 3 rfl) ?_
      refine lv_iload hx hb dX10_areAlike_10 (lv_at hl 6 rfl) ?_
      refine pu_call (As := [.int w, .int h, .int way]) (rest := [.int (nI k)]) ⟨hx, hb, hml, hown, hts⟩ (c_X10_linesOf l w h way ) (va_cwS 3 hts gX10_areAlike_X10_linesOf rfl rfl rfl (by decide +kernel) ⟨Nat.le_of_ble_eq_true rfl, Nat.le_of_ble_eq_true rfl⟩) rfl hl.1 rfl (Nat.le_of_ble_eq_true rfl) dX10_areAlike_12 ⟨Nat.le_of_ble_eq_true rfl, Nat.le_of_ble_eq_true rfl⟩ hS (fun r12 H locs q12 hS => ?_)
      have i12 : r12.toInt = (r_lines w h way).toInt := congrArg Int32.toInt q12
      refine lv_icmp_ge (tgt := 60) hx hb dX10_areAlike_15 (by decide) (fun c15 => ?_) (fun c15 => ?_)
      · skip
        have d15 := c15
        rw [fa_le] at d15
        refine lv_iload hx hb dX10_areAlike_60 (lv_at hl 1 rfl) ?_
        exact W.zret (v := x7) hx hb hr (by rcases j6_1 with ⟨z, _⟩ | ⟨z, _⟩ <;> rw [z] <;> rfl) (fun t ht hW => ⟨⟨_, (), rfl, (by rcases j6_1 with ⟨z, y⟩ | ⟨z, y⟩; exact Or.inl ⟨z, fun l9 h9 => y l9 (by omega)⟩; exact Or.inr ⟨z, fun u => y (fun l9 h9 => u l9 (by omega))⟩), trivial⟩, hS.F ht⟩) hS.2.2 dX10_areAlike_62
      · skip
        have d15 := c15
        rw [fa_le] at d15
        refine lv_iload hx hb dX10_areAlike_18 (lv_at hl 1 rfl) ?_
        refine lv_if_eq (tgt := 51) hx hb dX10_areAlike_20 (by decide) (fun c20 => ?_) (fun c20 => ?_)
        · skip
          have d20 := c20
          rw [fa_eq] at d20
          refine lv_iconst (v := 0) hx hb dX10_areAlike_51 (by decide) ?_
          refine lv_istore (lv' := [(7, .int (0 : Int32)), (8, .int (nI k)), (0, .int w), (1, .int h), (2, .long p0), (4, .long q0), (6, .int way)]) hx hb dX10_areAlike_52 hl (by decide) rfl (fun ls hl => ?_)
          refine lv_iinc (v := (nI (k + 1))) (lv' := [(8, .int (nI (k + 1))), (7, .int (0 : Int32)), (0, .int w), (1, .int h), (2, .long p0), (4, .long q0), (6, .int way)]) hx hb dX10_areAlike_54 hl (k := 1) rfl (nI_1 _) (by decide) rfl (fun ls hl => ?_)
          refine lv_goto (tgt := 6) hx hb dX10_areAlike_57 (by decide) ?_
          exact ih_6 (k + 1) (0 : Int32) (by omega) (by
            first
            | exact Or.inl ⟨rfl, fun l hl => by
                by_cases e9 : l = k
                · rw [e9]; exact eq9.mp c44
                · rcases j6_1 with ⟨_, y⟩ | ⟨z, _⟩
                  · exact y l (by omega)
                  · exact absurd z c20⟩
            | exact Or.inr ⟨rfl, fun u => c44 (eq9.mpr (u k (by omega)))⟩
            | exact Or.inr ⟨rfl, fun u => by rcases j6_1 with ⟨z, _⟩ | ⟨_, y⟩; exact absurd (z.symm.trans c20) (by decide); exact y (fun l hl => u l (by omega))⟩) (by omega) _ _ hS ls (lv_sub hl [0, 1, 2, 3, 4, 5, 6] rfl)
        · skip
          have d20 := c20
          rw [fa_eq] at d20
          refine lv_iload_n hx hb dX10_areAlike_23 rfl (lv_at hl 2 rfl) ?_
          refine lv_iload_n hx hb dX10_areAlike_24 rfl (lv_at hl 3 rfl) ?_
          refine lv_lload_n hx hb dX10_areAlike_25 rfl (lv_at hl 4 rfl) ?_
          refine lv_iload hx hb dX10_areAlike_26 (lv_at hl 6 rfl) ?_
          refine lv_iload hx hb dX10_areAlike_28 (lv_at hl 0 rfl) ?_
          refine pu_call (As := [.int w, .int h, .long p0, .int way, .int (nI k)]) (rest := []) ⟨hx, hb, hml, hown, hts⟩ (c_X10_shadowOf l w h p0 way (nI k) hw hh) (va_cwS 5 hts gX10_areAlike_X10_shadowOf rfl rfl rfl (by decide +kernel) ⟨Nat.le_of_ble_eq_true rfl, Nat.le_of_ble_eq_true rfl⟩) rfl hl.1 rfl (Nat.le_of_ble_eq_true rfl) dX10_areAlike_30 ⟨Nat.le_of_ble_eq_true rfl, Nat.le_of_ble_eq_true rfl⟩ hS (fun r30 H locs q30 hS => ?_)
          refine lv_iload_n hx hb dX10_areAlike_33 rfl (lv_at hl 2 rfl) ?_
          refine lv_iload_n hx hb dX10_areAlike_34 rfl (lv_at hl 3 rfl) ?_
          refine lv_lload hx hb dX10_areAlike_35 (lv_at hl 5 rfl) ?_
          refine lv_iload hx hb dX10_areAlike_37 (lv_at hl 6 rfl) ?_
          refine lv_iload hx hb dX10_areAlike_39 (lv_at hl 0 rfl) ?_
          refine pu_call (As := [.int w, .int h, .long q0, .int way, .int (nI k)]) (rest := [.int r30]) ⟨hx, hb, hml, hown, hts⟩ (c_X10_shadowOf l w h q0 way (nI k) hw hh) (va_cwS 5 hts gX10_areAlike_X10_shadowOf rfl rfl rfl (by decide +kernel) ⟨Nat.le_of_ble_eq_true rfl, Nat.le_of_ble_eq_true rfl⟩) rfl hl.1 rfl (Nat.le_of_ble_eq_true rfl) dX10_areAlike_41 ⟨Nat.le_of_ble_eq_true rfl, Nat.le_of_ble_eq_true rfl⟩ hS (fun r41 H locs q41 hS => ?_)
          have ck9 : (nI k).toNatClampNeg = k := nI_clamp (by omega)
          have s30 := r_shS hw hh hy (by omega) q30
          have s41 := r_shS hw hh hy (by omega) q41
          rw [ck9] at s30 s41
          have b30 := bs_le (fun s => decide (lnT h.toNatClampNeg way.toNatClampNeg (s % w.toNatClampNeg) (s / w.toNatClampNeg) = k) && lb p0 s) (w.toNatClampNeg * h.toNatClampNeg)
          have b41 := bs_le (fun s => decide (lnT h.toNatClampNeg way.toNatClampNeg (s % w.toNatClampNeg) (s / w.toNatClampNeg) = k) && lb q0 s) (w.toNatClampNeg * h.toNatClampNeg)
          have eq9 : r30 = r41 ↔ shN w.toNatClampNeg h.toNatClampNeg p0 way.toNatClampNeg k = shN w.toNatClampNeg h.toNatClampNeg q0 way.toNatClampNeg k := by rw [s30, s41]; exact nI_eq (by unfold shN; omega) (by unfold shN; omega)
          refine lv_icmp_ne (tgt := 51) hx hb dX10_areAlike_44 (by decide) (fun c44 => ?_) (fun c44 => ?_)
          · skip
            have d44 := c44
            rw [fa_eq] at d44
            refine lv_iconst (v := 0) hx hb dX10_areAlike_51 (by decide) ?_
            refine lv_istore (lv' := [(7, .int (0 : Int32)), (8, .int (nI k)), (0, .int w), (1, .int h), (2, .long p0), (4, .long q0), (6, .int way)]) hx hb dX10_areAlike_52 hl (by decide) rfl (fun ls hl => ?_)
            refine lv_iinc (v := (nI (k + 1))) (lv' := [(8, .int (nI (k + 1))), (7, .int (0 : Int32)), (0, .int w), (1, .int h), (2, .long p0), (4, .long q0), (6, .int way)]) hx hb dX10_areAlike_54 hl (k := 1) rfl (nI_1 _) (by decide) rfl (fun ls hl => ?_)
            refine lv_goto (tgt := 6) hx hb dX10_areAlike_57 (by decide) ?_
            exact ih_6 (k + 1) (0 : Int32) (by omega) (by
            first
            | exact Or.inl ⟨rfl, fun l hl => by
                by_cases e9 : l = k
                · rw [e9]; exact eq9.mp c44
                · rcases j6_1 with ⟨_, y⟩ | ⟨z, _⟩
                  · exact y l (by omega)
                  · exact absurd z c20⟩
            | exact Or.inr ⟨rfl, fun u => c44 (eq9.mpr (u k (by omega)))⟩
            | exact Or.inr ⟨rfl, fun u => by rcases j6_1 with ⟨z, _⟩ | ⟨_, y⟩; exact absurd (z.symm.trans c20) (by decide); exact y (fun l hl => u l (by omega))⟩) (by omega) _ _ hS ls (lv_sub hl [0, 1, 2, 3, 4, 5, 6] rfl)
          · skip
            have d44 := c44
            rw [fa_eq] at d44
            refine lv_iconst (v := 1) hx hb dX10_areAlike_47 (by decide) ?_
            refine lv_goto (tgt := 52) hx hb dX10_areAlike_48 (by decide) ?_
            refine lv_istore (lv' := [(7, .int (1 : Int32)), (8, .int (nI k)), (0, .int w), (1, .int h), (2, .long p0), (4, .long q0), (6, .int way)]) hx hb dX10_areAlike_52 hl (by decide) rfl (fun ls hl => ?_)
            refine lv_iinc (v := (nI (k + 1))) (lv' := [(8, .int (nI (k + 1))), (7, .int (1 : Int32)), (0, .int w), (1, .int h), (2, .long p0), (4, .long q0), (6, .int way)]) hx hb dX10_areAlike_54 hl (k := 1) rfl (nI_1 _) (by decide) rfl (fun ls hl => ?_)
            refine lv_goto (tgt := 6) hx hb dX10_areAlike_57 (by decide) ?_
            exact ih_6 (k + 1) (1 : Int32) (by omega) (by
            first
            | exact Or.inl ⟨rfl, fun l hl => by
                by_cases e9 : l = k
                · rw [e9]; exact eq9.mp c44
                · rcases j6_1 with ⟨_, y⟩ | ⟨z, _⟩
                  · exact y l (by omega)
                  · exact absurd z c20⟩
            | exact Or.inr ⟨rfl, fun u => c44 (eq9.mpr (u k (by omega)))⟩
            | exact Or.inr ⟨rfl, fun u => by rcases j6_1 with ⟨z, _⟩ | ⟨_, y⟩; exact absurd (z.symm.trans c20) (by decide); exact y (fun l hl => u l (by omega))⟩) (by omega) _ _ hS ls (lv_sub hl [0, 1, 2, 3, 4, 5, 6] rfl)
  exact loop_6 ((r_lines w h way).toInt.toNat + 1) 0 (1 : Int32) (by omega) (Or.inl ⟨rfl, fun l hl => absurd hl (Nat.not_lt_zero _)⟩) (by omega) _ _ hS ls (lv_sub hl [0, 1, 2, 3, 4, 5, 6] rfl)

