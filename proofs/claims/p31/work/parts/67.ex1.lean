/-! pictures by their bits -/
def lb (x : Int64) (i : Nat) : Bool := x.toBitVec.getLsbD i
theorem lb_ext {x y : Int64} (h : ∀ i, i < 64 → lb x i = lb y i) : x = y := Int64.toBitVec_inj.mp (BitVec.eq_of_getLsbD_eq (fun i hi => h i hi))
theorem lb_or (x y : Int64) (i : Nat) : lb (x ||| y) i = (lb x i || lb y i) := by unfold lb; rw [Int64.toBitVec_or, BitVec.getLsbD_or]
theorem lb_and (x y : Int64) (i : Nat) : lb (x &&& y) i = (lb x i && lb y i) := by unfold lb; rw [Int64.toBitVec_and, BitVec.getLsbD_and]
theorem lb_xor (x y : Int64) (i : Nat) : lb (x ^^^ y) i = (lb x i ^^ lb y i) := by unfold lb; rw [Int64.toBitVec_xor, BitVec.getLsbD_xor]
theorem lb_big {x : Int64} {i : Nat} (h : 64 ≤ i) : lb x i = false := BitVec.getLsbD_of_ge _ _ h
theorem lb_0 (i : Nat) : lb 0 i = false := BitVec.getLsbD_zero
theorem lb_1 (i : Nat) : lb 1 i = decide (i = 0) := by
  rcases Nat.lt_or_ge i 64 with h | h
  · exact (by decide +kernel : ∀ i, i < 64 → lb 1 i = decide (i = 0)) i h
  · rw [lb_big h, decide_eq_false (by omega)]
theorem lb_m1 : ∀ i, i < 64 → lb (-1) i = true := by decide +kernel
theorem s64_l : ∀ n, n < 64 → (((nI n).toInt64 &&& 63).toBitVec.smod 64).toNat = n := by decide +kernel
theorem s64_u : ∀ n, n < 64 → (((nI n).toInt64.toUInt64 &&& Int64.toUInt64 63).toBitVec % 64).toNat = n := by decide +kernel
theorem lb_shl (n : Nat) (hn : n < 64) (x : Int64) {i : Nat} (hi : i < 64) : lb (x <<< ((nI n).toInt64 &&& 63)) i = (decide (n ≤ i) && lb x (i - n)) := by
  unfold lb
  rw [Int64.toBitVec_shiftLeft]
  show (x.toBitVec <<< (((nI n).toInt64 &&& 63).toBitVec.smod 64).toNat).getLsbD i = _
  rw [s64_l n hn, BitVec.getLsbD_shiftLeft]
  rcases Nat.lt_or_ge i n with h | h
  · simp [h, Nat.not_le.mpr h]
  · simp [hi, h, Nat.not_lt.mpr h]
theorem lb_ushr (n : Nat) (hn : n < 64) (x : Int64) (i : Nat) : lb ((x.toUInt64 >>> ((nI n).toInt64.toUInt64 &&& Int64.toUInt64 63)).toInt64) i = lb x (n + i) := by
  show (x.toUInt64 >>> ((nI n).toInt64.toUInt64 &&& Int64.toUInt64 63)).toBitVec.getLsbD i = x.toUInt64.toBitVec.getLsbD (n + i)
  rw [UInt64.toBitVec_shiftRight]
  show (x.toUInt64.toBitVec >>> (((nI n).toInt64.toUInt64 &&& Int64.toUInt64 63).toBitVec % 64).toNat).getLsbD i = _
  rw [s64_u n hn, BitVec.getLsbD_ushiftRight]
theorem lb_sshr (n : Nat) (hn : n < 64) (x : Int64) {i : Nat} (hi : i < 64) : lb (x >>> ((nI n).toInt64 &&& 63)) i = if n + i < 64 then lb x (n + i) else lb x 63 := by
  unfold lb
  rw [Int64.toBitVec_shiftRight]
  show (x.toBitVec.sshiftRight (((nI n).toInt64 &&& 63).toBitVec.smod 64).toNat).getLsbD i = _
  rw [s64_l n hn, BitVec.getLsbD_sshiftRight, BitVec.msb_eq_getLsbD_last]
  simp [hi]
/-- a single bit -/
theorem lb_l1 {k : Nat} (hk : k < 64) {i : Nat} (hi : i < 64) : lb (l1 k) i = decide (i = k) := by
  unfold l1
  rw [lb_shl k hk 1 hi, lb_1]
  rcases Nat.lt_or_ge i k with h | h
  · rw [decide_eq_false (show ¬ k ≤ i by omega), decide_eq_false (show ¬ i = k by omega)]; rfl
  · rw [decide_eq_true h, Bool.true_and]
    by_cases e : i = k
    · rw [decide_eq_true e, decide_eq_true (by omega)]
    · rw [decide_eq_false e, decide_eq_false (by omega)]
theorem l1_no {p : Int64} {k : Nat} (hk : k < 64) : (p &&& l1 k) = 0 ↔ lb p k = false := by
  constructor
  · intro h
    have t := congrArg (fun x => lb x k) h
    simp only [lb_and, lb_l1 hk hk, lb_0, decide_true, Bool.and_true] at t
    exact t
  · intro h
    apply lb_ext
    intro i hi
    rw [lb_and, lb_l1 hk hi, lb_0]
    by_cases e : i = k
    · rw [e, h]; rfl
    · rw [decide_eq_false e, Bool.and_false]
theorem one_lb (p : Int64) {k : Nat} (hk : k < 64) : r_one p (nI k) = if lb p k then 1 else 0 := by
  have h : (p >>> ((nI k).toInt64 &&& 63)) &&& 1 = if lb p k then (1 : Int64) else 0 := by
    apply lb_ext
    intro i hi
    rw [lb_and, lb_1, lb_sshr k hk p hi]
    by_cases e : i = 0
    · subst e
      rw [if_pos (by omega), decide_eq_true rfl, Bool.and_true, Nat.add_zero]
      cases hb : lb p k
      · simp [lb_0]
      · simp [lb_1]
    · rw [decide_eq_false e, Bool.and_false]
      split
      · rw [lb_1, decide_eq_false e]
      · rw [lb_0]
  unfold r_one
  rw [h]
  split <;> rfl
/-- what a picture of a board is -/
def isPic (n : Nat) (p : Int64) : Prop := 0 ≤ p.toInt ∧ p.toInt < ((2 ^ n : Nat) : Int)
theorem pic_nat {n : Nat} {p : Int64} (hn : n ≤ 36) : isPic n p ↔ p.toBitVec.toNat < 2 ^ n := by
  have h1 : p.toInt = if 2 * p.toBitVec.toNat < 18446744073709551616 then (p.toBitVec.toNat : Int) else (p.toBitVec.toNat : Int) - 18446744073709551616 := BitVec.toInt_eq_toNat_cond _
  have h2 := p.toBitVec.isLt
  have h3 : 2 ^ n ≤ 2 ^ 36 := Nat.pow_le_pow_right (by decide) hn
  unfold isPic
  rw [h1]
  generalize 2 ^ n = N at *
  split <;> omega
theorem pic_u {p : Int64} {n : Nat} (hn : n ≤ 36) : (p.toUInt64 >>> ((nI n).toInt64.toUInt64 &&& Int64.toUInt64 63)).toInt64 = 0 ↔ isPic n p := by
  rw [pic_nat hn, ← Int64.toBitVec_inj, ← BitVec.toNat_inj]
  show (p.toUInt64 >>> ((nI n).toInt64.toUInt64 &&& Int64.toUInt64 63)).toNat = 0 ↔ p.toUInt64.toNat < 2 ^ n
  have h := s64_u n (by omega)
  rw [UInt64.toNat_shiftRight, show ((nI n).toInt64.toUInt64 &&& Int64.toUInt64 63).toNat % 64 = n from h, Nat.shiftRight_eq_div_pow]
  constructor
  · intro h
    have d : p.toUInt64.toNat / 2 ^ n < 1 := by rw [h]; decide
    have e := (Nat.div_lt_iff_lt_mul (Nat.two_pow_pos n)).mp d
    rw [Nat.one_mul] at e
    exact e
  · exact Nat.div_eq_of_lt
theorem pic_hi {n : Nat} {p : Int64} (hn : n ≤ 36) (h : isPic n p) {i : Nat} (hi : n ≤ i) : lb p i = false := by
  have h1 := (pic_nat hn).mp h
  unfold lb
  rw [BitVec.getLsbD]
  exact Nat.testBit_lt_two_pow (Nat.lt_of_lt_of_le h1 (Nat.pow_le_pow_right (by decide) hi))
theorem l1_top : ∀ n, n ≤ 36 → (l1 n).toInt = ((2 ^ n : Nat) : Int) := by decide +kernel
theorem cl_nI {w : Int32} (h : 0 ≤ w.toInt) : nI w.toNatClampNeg = w := by
  have h2 : w.toInt < 2 ^ 31 := Int32.toInt_lt w
  have e := m_cl (x := w) h
  apply Int32.toInt_inj.mp
  rw [nI_toInt (by omega)]
  omega
theorem top_eq {w h : Int32} (hw : 1 ≤ w.toInt ∧ w.toInt ≤ 6) (hh : 1 ≤ h.toInt ∧ h.toInt ≤ 6) : (r_top w h).toInt = ((2 ^ (w.toNatClampNeg * h.toNatClampNeg) : Nat) : Int) := by
  have e1 := cl_nI (w := w) (by omega)
  have e2 := cl_nI (w := h) (by omega)
  have a1 := m_cl (x := w) (by omega)
  have a2 := m_cl (x := h) (by omega)
  have hm : w.toNatClampNeg * h.toNatClampNeg ≤ 6 * 6 := Nat.mul_le_mul (by omega) (by omega)
  unfold r_top
  rw [← e1, ← e2, pk_mul]
  rw [e1, e2]
  exact l1_top _ (by omega)
def goodP (w h : Int32) (p : Int64) : Prop := ((1 ≤ w.toInt ∧ w.toInt ≤ 6) ∧ (1 ≤ h.toInt ∧ h.toInt ≤ 6)) ∧ isPic (w.toNatClampNeg * h.toNatClampNeg) p
theorem goodP_of {w h : Int32} {p : Int64} (hb : ((1 ≤ w.toInt ∧ w.toInt ≤ 6) ∧ (1 ≤ h.toInt ∧ h.toInt ≤ 6)) ∧ 0 ≤ p.toInt ∧ p.toInt < (r_top w h).toInt) : goodP w h p := ⟨hb.1, hb.2.1, by rw [← top_eq hb.1.1 hb.1.2]; exact hb.2.2⟩
theorem goodP_no {w h : Int32} {p : Int64} (hb : ¬ (((1 ≤ w.toInt ∧ w.toInt ≤ 6) ∧ (1 ≤ h.toInt ∧ h.toInt ≤ 6)) ∧ 0 ≤ p.toInt ∧ p.toInt < (r_top w h).toInt)) : ¬ goodP w h p := fun g => hb ⟨g.1, g.2.1, by rw [top_eq g.1.1 g.1.2]; exact g.2.2⟩
theorem wh36 {w h : Int32} (hw : 1 ≤ w.toInt ∧ w.toInt ≤ 6) (hh : 1 ≤ h.toInt ∧ h.toInt ≤ 6) : (1 ≤ w.toNatClampNeg ∧ w.toNatClampNeg ≤ 6) ∧ (1 ≤ h.toNatClampNeg ∧ h.toNatClampNeg ≤ 6) ∧ w.toNatClampNeg * h.toNatClampNeg ≤ 36 ∧ ((w.toNatClampNeg * h.toNatClampNeg : Nat) : Int) = w.toInt * h.toInt := by
  have a1 := m_cl (x := w) (by omega)
  have a2 := m_cl (x := h) (by omega)
  have hm : w.toNatClampNeg * h.toNatClampNeg ≤ 6 * 6 := Nat.mul_le_mul (by omega) (by omega)
  refine ⟨by omega, by omega, by omega, ?_⟩
  rw [Int.natCast_mul, a1, a2]

def tP (w h : Nat) (how : Int) (x y : Nat) : Nat := if how = 0 then x * h + h - 1 - y else if how = 1 then (h - 1 - y) * w + x else x * h + y
theorem tP_b {w h x y : Nat} (how : Int) (hw : w ≤ 6) (hh : h ≤ 6) (hx : x < w) (hy : y < h) : tP w h how x y < 64 := by
  unfold tP
  have h1 : x * h ≤ 5 * 6 := Nat.mul_le_mul (by omega) hh
  have h2 : (h - 1 - y) * w ≤ 5 * 6 := Nat.mul_le_mul (by omega) hw
  split
  · omega
  · split <;> omega
def tF (w h : Nat) (p : Int64) (how : Int) : Nat → Int64
  | 0 => 0
  | n + 1 => tF w h p how n ||| (if lb p n then l1 (tP w h how (n % w) (n / w)) else 0)
def tN (p : Int64) : Nat → Int64
  | 0 => 0
  | n + 1 => tN p n ||| (if lb p n then 0 else l1 n)
def tQ (w h : Nat) (p : Int64) (how : Int) : Int64 := if how = 3 then tN p (w * h) else tF w h p how (w * h)
def tA (w h : Int32) (p : Int64) (how : Int32) (x : Int64) : Prop := (goodP w h p ∧ (0 ≤ how.toInt ∧ how.toInt ≤ 3) ∧ x = tQ w.toNatClampNeg h.toNatClampNeg p how.toInt) ∨ (¬ (goodP w h p ∧ (0 ≤ how.toInt ∧ how.toInt ≤ 3)) ∧ x = -1)
theorem tA_eq {w h : Int32} {p : Int64} {how : Int32} {x y : Int64} (hx : tA w h p how x) (hy : tA w h p how y) : x = y := by
  rcases hx with ⟨a, b, c⟩ | ⟨a, c⟩ <;> rcases hy with ⟨d, e, f⟩ | ⟨d, f⟩
  · rw [c, f]
  · exact absurd ⟨a, b⟩ d
  · exact absurd ⟨d, e⟩ a
  · rw [c, f]
theorem lb_tN (p : Int64) {i : Nat} (hi : i < 64) : ∀ n, n ≤ 64 → lb (tN p n) i = (decide (i < n) && !lb p i) := by
  intro n
  induction n with
  | zero => intro _; rw [decide_eq_false (by omega)]; exact lb_0 i
  | succ n ih =>
    intro hn
    simp only [tN]
    rw [lb_or, ih (by omega)]
    by_cases e : i = n
    · subst e
      cases hb : lb p i
      · simp [hb, lb_l1 hi hi]
      · simp [hb, lb_0]
    · have h1 : lb (if lb p n = true then 0 else l1 n) i = false := by
        split
        · exact lb_0 i
        · rw [lb_l1 (by omega) hi, decide_eq_false e]
      rw [h1, Bool.or_false]
      by_cases e2 : i < n
      · rw [decide_eq_true e2, decide_eq_true (by omega)]
      · rw [decide_eq_false e2, decide_eq_false (by omega)]
theorem l1_mask : ∀ n, n ≤ 36 → ∀ i, i < 64 → lb (l1 n - 1) i = decide (i < n) := by decide +kernel
theorem tN_mask {p : Int64} {n : Nat} (hn : n ≤ 36) : (p ^^^ (-1)) &&& (l1 n - 1) = tN p n := by
  apply lb_ext
  intro i hi
  rw [lb_tN p hi n (by omega), lb_and, lb_xor, lb_m1 i hi, l1_mask n hn i hi, Bool.and_comm]
  simp
theorem tF_1 {w h k i : Nat} {p : Int64} {how : Int} (hi : i < w) (hb : lb p (k * w + i) = true) : tF w h p how (k * w + (i + 1)) = tF w h p how (k * w + i) ||| l1 (tP w h how i k) := by
  show tF w h p how ((k * w + i) + 1) = _
  simp only [tF]
  rw [if_pos hb, Nat.mul_comm k w, Nat.mul_add_mod, Nat.mod_eq_of_lt hi, Nat.mul_add_div (by omega), Nat.div_eq_of_lt hi, Nat.add_zero]
theorem or_0 (x : Int64) : x ||| 0 = x := by
  apply lb_ext
  intro i _
  rw [lb_or, lb_0, Bool.or_false]
theorem tF_0 {w h k i : Nat} {p : Int64} {how : Int} (hb : lb p (k * w + i) = false) : tF w h p how (k * w + (i + 1)) = tF w h p how (k * w + i) := by
  show tF w h p how ((k * w + i) + 1) = _
  simp only [tF]
  rw [hb, if_neg (by decide), or_0]
theorem kw_b {k i w h : Nat} (hw : w ≤ 6) (hh : h ≤ 6) (hi : i < w) (hk : k < h) : k * w + i < 64 := by
  have : k * w ≤ 5 * 6 := Nat.mul_le_mul (by omega) hw
  omega
/-- the reference's step -/
theorem t_one {p : Int64} {k t : Nat} (hk : k < 64) {z : Int32} (hz : z = r_one p (nI k)) : z.toInt64 <<< ((nI t).toInt64 &&& 63) = if lb p k then l1 t else 0 := by
  rw [hz, one_lb p hk]
  split
  · rfl
  · apply lb_ext
    intro i hi
    show lb ((0 : Int64) <<< ((nI t).toInt64 &&& 63)) i = _
    unfold lb
    rw [Int64.toBitVec_shiftLeft]
    show ((0#64) <<< (((nI t).toInt64 &&& 63).toBitVec.smod 64).toNat).getLsbD i = (0#64).getLsbD i
    simp
theorem t_not {p : Int64} {k t : Nat} (hk : k < 64) {z y : Int32} (hz : z = r_one p (nI k)) (hy : y = 1 - z) : y.toInt64 <<< ((nI t).toInt64 &&& 63) = if lb p k then 0 else l1 t := by
  rw [hy, hz, one_lb p hk]
  split
  · apply lb_ext
    intro i hi
    show lb ((0 : Int64) <<< ((nI t).toInt64 &&& 63)) i = _
    unfold lb
    rw [Int64.toBitVec_shiftLeft]
    show ((0#64) <<< (((nI t).toInt64 &&& 63).toBitVec.smod 64).toNat).getLsbD i = (0#64).getLsbD i
    simp
  · rfl
def tR (w h : Nat) (p : Int64) (how : Int) (n : Nat) : Int64 := if how = 3 then tN p n else tF w h p how n
theorem tR_0 (w h : Nat) (p : Int64) (how : Int) : (0 : Int64) = tR w h p how 0 := by unfold tR; split <;> rfl
theorem tR_s {w h : Nat} {p : Int64} {how : Int} {n t : Nat} (h3 : ¬ how = 3) (hn : n < 64) (ht : t = tP w h how (n % w) (n / w)) {z : Int32} (hz : z = r_one p (nI n)) {x y : Int64} (hx : x = tR w h p how n) (hy : y = x ||| (z.toInt64 <<< ((nI t).toInt64 &&& 63))) : y = tR w h p how (n + 1) := by
  rw [hy, hx, t_one hn hz, ht]
  unfold tR
  rw [if_neg h3, if_neg h3]
  simp only [tF]
theorem tR_3 {w h : Nat} {p : Int64} {how : Int} {n t : Nat} (h3 : how = 3) (hn : n < 64) (ht : t = n) {z u : Int32} (hz : z = r_one p (nI n)) (hu : u = 1 - z) {x y : Int64} (hx : x = tR w h p how n) (hy : y = x ||| (u.toInt64 <<< ((nI t).toInt64 &&& 63))) : y = tR w h p how (n + 1) := by
  rw [hy, hx, t_not hn hz hu, ht]
  unfold tR
  rw [if_pos h3, if_pos h3]
  simp only [tN]
/-- the reference's places -/
theorem t_p0 {i a b : Nat} {x y v1 v2 v3 v4 w h : Int32} (ew : w = nI a) (eh : h = nI b) (hb : 1 ≤ b) (ex : x = nI (i % a)) (ey : y = nI (i / a)) (hy : i / a < b) (e1 : v1 = x * h) (e2 : v2 = v1 + h) (e3 : v3 = v2 - 1) (e4 : v4 = v3 - y) : v4 = nI (i % a * b + b - 1 - i / a) := by
  rw [e4, e3, e2, e1, ex, ey, eh, pk_mul, nI_add, show (1 : Int32) = nI 1 from rfl, pk_sub (by omega), pk_sub (by omega)]
theorem t_p1 {i a b : Nat} {x y v1 v2 v3 v4 w h : Int32} (ew : w = nI a) (eh : h = nI b) (hb : 1 ≤ b) (ex : x = nI (i % a)) (ey : y = nI (i / a)) (hy : i / a < b) (e1 : v1 = h - 1) (e2 : v2 = v1 - y) (e3 : v3 = v2 * w) (e4 : v4 = v3 + x) : v4 = nI ((b - 1 - i / a) * a + i % a) := by
  rw [e4, e3, e2, e1, ex, ey, eh, ew, show (1 : Int32) = nI 1 from rfl, pk_sub (by omega), pk_sub (by omega), pk_mul, nI_add]
theorem t_p2 {i a b : Nat} {x y v1 v2 h : Int32} (eh : h = nI b) (ex : x = nI (i % a)) (ey : y = nI (i / a)) (e1 : v1 = x * h) (e2 : v2 = v1 + y) : v2 = nI (i % a * b + i / a) := by
  rw [e2, e1, ex, ey, eh, pk_mul, nI_add]
set_option maxHeartbeats 4000000 in
set_option maxRecDepth 100000 in
theorem c_X0_isPicture_x (l : Launch) (D : va_G) (cy : Nat → ClassId) (A : Nat → Prop) (G : cG) (ws : va_W) (o : Nat) (p0 : Int64) {w h : Nat} (hD : va_D A ws) (hT : cT cy G ws) (hG_o : G o = some (2, w, h))  : Ci l D cy A yX0_isPicture wsX0_isPicture ({ frames := 0, cells := 0, slots := 0, locals := 0 }) 0 0 ws [.ref o, .long p0] (fun r0 u => u = (G, ws) ∧ (Bo r0 (isPic (w * h) p0))) := by
  refine Met.ofW (cc := cX0_isPicture) (maxL := 3) (ret := (some .boolean)) (by decide) rfl ?_
  intro p e s m args below meth c s₁ B hml hv
  obtain ⟨rfl, hP, hK, hA, hV⟩ := hv
  have hx := B.exec
  have hb := B.bytes
  have hr := B.returns
  have hts := atoms_spec (ws := wsX0_isPicture) B.pre
  have hown : s.vm.findClass RX0 = some m.cls := findClass_of_methodNamed B.named
  have hlocks := B.notSynchronized
  have hS : va_S A s.heap s.heap [] := va_S.rf
  have hl := lv_entry ([.ref o, .long p0]) (n := 3) (Nat.le_of_ble_eq_true rfl)
  rw [lg_entry_eq]
  generalize (lg_sl ([.ref o, .long p0]) ++ List.replicate (3 - (lg_sl ([.ref o, .long p0])).length) Slot.unset).toArray = ls at hl ⊢
  have hl : lv_has ls 3 [(0, .ref o), (1, .long p0)] := hl
  have k_0 : (0 : Int32).toInt = 0 := by decide
  have k_1 : (1 : Int32).toInt = 1 := by decide
  have k_0L : (0 : Int64).toInt = 0 := by decide
  refine lv_lload_n hx hb dX0_isPicture_0 rfl (lv_at hl 1 rfl) ?_
  refine lv_aload_n hx hb dX0_isPicture_1 rfl (lv_at hl 0 rfl) ?_
  obtain ⟨_, hM_o, hb_o, l_o, f_o, r_o, rfl, hG_l_o, hG_f_o, hG_r_o⟩ := hT _ _ hG_o
  refine t_get (v := .int (nI (w * h))) (C := RX0) (T := TX0) (N := 8) hx hb hts (by decide +kernel) hown hK hP hM_o rfl 2 (by decide) (hts (.fieldLink RX0 20 "ShadowBench$Board" "squares" "I") (by decide +kernel)) (fun _ h9 => h9) rfl dX0_isPicture_2 ?_
  have m_wh_o := cb_mul hb_o
  have i_wh_o : (nI (w * h)).toInt = _ := nI_toInt (by omega)
  refine lv_lushr (v := (p0.toUInt64 >>> (((nI (w * h))).toInt64.toUInt64 &&& Int64.toUInt64 63)).toInt64) hx hb dX0_isPicture_5 rfl ?_
  refine lv_lconst (v := 0) hx hb dX0_isPicture_6 (by decide) ?_
  refine W.lcmp hx hb dX0_isPicture_7 ?_
  refine lv_if_ne (tgt := 15) hx hb dX0_isPicture_8 (by decide) (fun c8 => ?_) (fun c8 => ?_)
  · skip
    have d8 := c8
    rw [lg_cmp_eq, fa_eq64] at d8
    refine lv_iconst (v := 0) hx hb dX0_isPicture_15 (by decide) ?_
    exact W.zret (v := (0 : Int32)) hx hb hr (by decide) (fun t ht hW => ⟨⟨_, (G, ws), rfl, ⟨rfl, Or.inr ⟨rfl, fun z9 => c8 ((lg_cmp_eq _ _).mpr ((pic_u m_wh_o.2).mpr z9))⟩⟩, by show va_P D vwCl ws t.heap; rw [ht]; exact hP, hD, hT⟩, hS.F ht⟩) hS.2.2 dX0_isPicture_16
  · skip
    have d8 := c8
    rw [lg_cmp_eq, fa_eq64] at d8
    refine lv_iconst (v := 1) hx hb dX0_isPicture_11 (by decide) ?_
    refine lv_goto (tgt := 16) hx hb dX0_isPicture_12 (by decide) ?_
    exact W.zret (v := (1 : Int32)) hx hb hr (by decide) (fun t ht hW => ⟨⟨_, (G, ws), rfl, ⟨rfl, Or.inl ⟨rfl, (pic_u m_wh_o.2).mp ((lg_cmp_eq _ _).mp c8)⟩⟩, by show va_P D vwCl ws t.heap; rw [ht]; exact hP, hD, hT⟩, hS.F ht⟩) hS.2.2 dX0_isPicture_16
set_option maxHeartbeats 4000000 in
set_option maxRecDepth 100000 in
theorem c_X0_bit_x (l : Launch) (D : va_G) (cy : Nat → ClassId) (A : Nat → Prop) (G : cG) (ws : va_W) (o : Nat) (x : Nat) (y : Nat) {w h : Nat} (hD : va_D A ws) (hT : cT cy G ws) (hG_o : G o = some (2, w, h))  : Cl l D cy A yX0_bit wsX0_bit ({ frames := 0, cells := 0, slots := 0, locals := 0 }) 0 0 ws [.ref o, .int (nI x), .int (nI y)] (fun r0 u => u = (G, ws) ∧ (r0 = l1 (y * w + x))) := by
  refine Met.ofW (cc := cX0_bit) (maxL := 3) (ret := (some .long)) (by decide) rfl ?_
  intro p e s m args below meth c s₁ B hml hv
  obtain ⟨rfl, hP, hK, hA, hV⟩ := hv
  have hx := B.exec
  have hb := B.bytes
  have hr := B.returns
  have hts := atoms_spec (ws := wsX0_bit) B.pre
  have hown : s.vm.findClass RX0 = some m.cls := findClass_of_methodNamed B.named
  have hlocks := B.notSynchronized
  have hS : va_S A s.heap s.heap [] := va_S.rf
  have hl := lv_entry ([.ref o, .int (nI x), .int (nI y)]) (n := 3) (Nat.le_of_ble_eq_true rfl)
  rw [lg_entry_eq]
  generalize (lg_sl ([.ref o, .int (nI x), .int (nI y)]) ++ List.replicate (3 - (lg_sl ([.ref o, .int (nI x), .int (nI y)])).length) Slot.unset).toArray = ls at hl ⊢
  have hl : lv_has ls 3 [(0, .ref o), (1, .int (nI x)), (2, .int (nI y))] := hl
  have k_0 : (0 : Int32).toInt = 0 := by decide
  have k_1L : (1 : Int64).toInt = 1 := by decide
  refine lv_lconst (v := 1) hx hb dX0_bit_0 (by decide) ?_
  refine lv_iload_n hx hb dX0_bit_1 rfl (lv_at hl 2 rfl) ?_
  refine lv_aload_n hx hb dX0_bit_2 rfl (lv_at hl 0 rfl) ?_
  obtain ⟨_, hM_o, hb_o, l_o, f_o, r_o, rfl, hG_l_o, hG_f_o, hG_r_o⟩ := hT _ _ hG_o
  refine t_get (v := .int (nI w)) (C := RX0) (T := TX0) (N := 8) hx hb hts (by decide +kernel) hown hK hP hM_o rfl 0 (by decide) (hts (.fieldLink RX0 13 "ShadowBench$Board" "wide" "I") (by decide +kernel)) (fun _ h9 => h9) rfl dX0_bit_3 ?_
  have i_w_o : (nI w).toInt = _ := nI_toInt (by omega)
  refine lv_imul hx hb dX0_bit_6 ?_
  refine lv_topi (fun v6 e6 => ?_)
  refine lv_iload_n hx hb dX0_bit_7 rfl (lv_at hl 1 rfl) ?_
  refine lv_iadd hx hb dX0_bit_8 ?_
  refine lv_topi (fun v8 e8 => ?_)
  refine lv_lshl (v := (1 : Int64) <<< (v8.toInt64 &&& 63)) hx hb dX0_bit_9 rfl ?_
  exact W.lret (v := ((1 : Int64) <<< (v8.toInt64 &&& 63))) hx hb hr (fun t ht hW => ⟨⟨_, (G, ws), rfl, ⟨rfl, (by unfold l1; rw [e8, e6, pk_mul, nI_add])⟩, by show va_P D vwCl ws t.heap; rw [ht]; exact hP, hD, hT⟩, hS.F ht⟩) hS.2.2 dX0_bit_10
set_option maxHeartbeats 4000000 in
set_option maxRecDepth 100000 in
theorem c_X0_placeTurned_x (l : Launch) (D : va_G) (cy : Nat → ClassId) (A : Nat → Prop) (G : cG) (ws : va_W) (o : Nat) (how : Int32) (x : Nat) (y : Nat) {w h : Nat} (hD : va_D A ws) (hT : cT cy G ws) (hG_o : G o = some (2, w, h)) (hx1 : x < w) (hy1 : y < h) : Ci l D cy A yX0_placeTurned wsX0_placeTurned ({ frames := 0, cells := 0, slots := 0, locals := 0 }) 0 0 ws [.ref o, .int how, .int (nI x), .int (nI y)] (fun r0 u => u = (G, ws) ∧ (r0 = nI (tP w h how.toInt x y))) := by
  refine Met.ofW (cc := cX0_placeTurned) (maxL := 4) (ret := (some .int)) (by decide) rfl ?_
  intro p e s m args below meth c s₁ B hml hv
  obtain ⟨rfl, hP, hK, hA, hV⟩ := hv
  have hx := B.exec
  have hb := B.bytes
  have hr := B.returns
  have hts := atoms_spec (ws := wsX0_placeTurned) B.pre
  have hown : s.vm.findClass RX0 = some m.cls := findClass_of_methodNamed B.named
  have hlocks := B.notSynchronized
  have hS : va_S A s.heap s.heap [] := va_S.rf
  have hl := lv_entry ([.ref o, .int how, .int (nI x), .int (nI y)]) (n := 4) (Nat.le_of_ble_eq_true rfl)
  rw [lg_entry_eq]
  generalize (lg_sl ([.ref o, .int how, .int (nI x), .int (nI y)]) ++ List.replicate (4 - (lg_sl ([.ref o, .int how, .int (nI x), .int (nI y)])).length) Slot.unset).toArray = ls at hl ⊢
  have hl : lv_has ls 4 [(0, .ref o), (1, .int how), (2, .int (nI x)), (3, .int (nI y))] := hl
  have k_0 : (0 : Int32).toInt = 0 := by decide
  have k_1 : (1 : Int32).toInt = 1 := by decide
  refine lv_iload_n hx hb dX0_placeTurned_0 rfl (lv_at hl 1 rfl) ?_
  by_cases s1_0 : how.toInt = 0
  · skip
    refine lv_lookup (off := 27) (tgt := 28) hx hb dX0_placeTurned_1 (by decide) (by rw [s1_0]; decide) (by decide) ?_
    refine lv_iload_n hx hb dX0_placeTurned_28 rfl (lv_at hl 2 rfl) ?_
    refine lv_aload_n hx hb dX0_placeTurned_29 rfl (lv_at hl 0 rfl) ?_
    obtain ⟨_, hM_o, hb_o, l_o, f_o, r_o, rfl, hG_l_o, hG_f_o, hG_r_o⟩ := hT _ _ hG_o
    refine t_get (v := .int (nI h)) (C := RX0) (T := TX0) (N := 8) hx hb hts (by decide +kernel) hown hK hP hM_o rfl 1 (by decide) (hts (.fieldLink RX0 17 "ShadowBench$Board" "high" "I") (by decide +kernel)) (fun _ h9 => h9) rfl dX0_placeTurned_30 ?_
    have i_h_o : (nI h).toInt = _ := nI_toInt (by omega)
    refine lv_imul hx hb dX0_placeTurned_33 ?_
    refine lv_topi (fun v33 e33 => ?_)
    refine lv_aload_n hx hb dX0_placeTurned_34 rfl (lv_at hl 0 rfl) ?_
    refine t_get (v := .int (nI h)) (C := RX0) (T := TX0) (N := 8) hx hb hts (by decide +kernel) hown hK hP hM_o rfl 1 (by decide) (hts (.fieldLink RX0 17 "ShadowBench$Board" "high" "I") (by decide +kernel)) (fun _ h9 => h9) rfl dX0_placeTurned_35 ?_
    refine lv_iadd hx hb dX0_placeTurned_38 ?_
    refine lv_topi (fun v38 e38 => ?_)
    refine lv_iconst (v := 1) hx hb dX0_placeTurned_39 (by decide) ?_
    refine lv_isub hx hb dX0_placeTurned_40 ?_
    refine lv_topi (fun v40 e40 => ?_)
    refine lv_iload_n hx hb dX0_placeTurned_41 rfl (lv_at hl 3 rfl) ?_
    refine lv_isub hx hb dX0_placeTurned_42 ?_
    refine lv_topi (fun v42 e42 => ?_)
    exact W.iret (v := v42) hx hb hr (fun t ht hW => ⟨⟨_, (G, ws), rfl, ⟨rfl, (by unfold tP; rw [if_pos s1_0, e42, e40, e38, e33, pk_mul, nI_add, show (1 : Int32) = nI 1 from rfl, pk_sub (by omega), pk_sub (by omega)])⟩, by show va_P D vwCl ws t.heap; rw [ht]; exact hP, hD, hT⟩, hS.F ht⟩) hS.2.2 dX0_placeTurned_43
  by_cases s1_1 : how.toInt = 1
  · skip
    refine lv_lookup (off := 43) (tgt := 44) hx hb dX0_placeTurned_1 (by decide) (by rw [s1_1]; decide) (by decide) ?_
    refine lv_aload_n hx hb dX0_placeTurned_44 rfl (lv_at hl 0 rfl) ?_
    obtain ⟨_, hM_o, hb_o, l_o, f_o, r_o, rfl, hG_l_o, hG_f_o, hG_r_o⟩ := hT _ _ hG_o
    refine t_get (v := .int (nI h)) (C := RX0) (T := TX0) (N := 8) hx hb hts (by decide +kernel) hown hK hP hM_o rfl 1 (by decide) (hts (.fieldLink RX0 17 "ShadowBench$Board" "high" "I") (by decide +kernel)) (fun _ h9 => h9) rfl dX0_placeTurned_45 ?_
    have i_h_o : (nI h).toInt = _ := nI_toInt (by omega)
    refine lv_iconst (v := 1) hx hb dX0_placeTurned_48 (by decide) ?_
    refine lv_isub hx hb dX0_placeTurned_49 ?_
    refine lv_topi (fun v49 e49 => ?_)
    refine lv_iload_n hx hb dX0_placeTurned_50 rfl (lv_at hl 3 rfl) ?_
    refine lv_isub hx hb dX0_placeTurned_51 ?_
    refine lv_topi (fun v51 e51 => ?_)
    refine lv_aload_n hx hb dX0_placeTurned_52 rfl (lv_at hl 0 rfl) ?_
    refine t_get (v := .int (nI w)) (C := RX0) (T := TX0) (N := 8) hx hb hts (by decide +kernel) hown hK hP hM_o rfl 0 (by decide) (hts (.fieldLink RX0 13 "ShadowBench$Board" "wide" "I") (by decide +kernel)) (fun _ h9 => h9) rfl dX0_placeTurned_53 ?_
    have i_w_o : (nI w).toInt = _ := nI_toInt (by omega)
    refine lv_imul hx hb dX0_placeTurned_56 ?_
    refine lv_topi (fun v56 e56 => ?_)
    refine lv_iload_n hx hb dX0_placeTurned_57 rfl (lv_at hl 2 rfl) ?_
    refine lv_iadd hx hb dX0_placeTurned_58 ?_
    refine lv_topi (fun v58 e58 => ?_)
    exact W.iret (v := v58) hx hb hr (fun t ht hW => ⟨⟨_, (G, ws), rfl, ⟨rfl, (by unfold tP; rw [if_neg s1_0, if_pos s1_1, e58, e56, e51, e49, show (1 : Int32) = nI 1 from rfl, pk_sub (by omega), pk_sub (by omega), pk_mul, nI_add])⟩, by show va_P D vwCl ws t.heap; rw [ht]; exact hP, hD, hT⟩, hS.F ht⟩) hS.2.2 dX0_placeTurned_59
  refine lv_lookup (off := 59) (tgt := 60) hx hb dX0_placeTurned_1 (by decide) (by simp [Op.lookupswitch.offset_cons, Op.lookupswitch.offset_nil, Ne.symm s1_0, s1_0, Ne.symm s1_1, s1_1]) (by decide) ?_
  refine lv_iload_n hx hb dX0_placeTurned_60 rfl (lv_at hl 2 rfl) ?_
  refine lv_aload_n hx hb dX0_placeTurned_61 rfl (lv_at hl 0 rfl) ?_
  obtain ⟨_, hM_o, hb_o, l_o, f_o, r_o, rfl, hG_l_o, hG_f_o, hG_r_o⟩ := hT _ _ hG_o
  refine t_get (v := .int (nI h)) (C := RX0) (T := TX0) (N := 8) hx hb hts (by decide +kernel) hown hK hP hM_o rfl 1 (by decide) (hts (.fieldLink RX0 17 "ShadowBench$Board" "high" "I") (by decide +kernel)) (fun _ h9 => h9) rfl dX0_placeTurned_62 ?_
  have i_h_o : (nI h).toInt = _ := nI_toInt (by omega)
  refine lv_imul hx hb dX0_placeTurned_65 ?_
  refine lv_topi (fun v65 e65 => ?_)
  refine lv_iload_n hx hb dX0_placeTurned_66 rfl (lv_at hl 3 rfl) ?_
  refine lv_iadd hx hb dX0_placeTurned_67 ?_
  refine lv_topi (fun v67 e67 => ?_)
  exact W.iret (v := v67) hx hb hr (fun t ht hW => ⟨⟨_, (G, ws), rfl, ⟨rfl, (by unfold tP; rw [if_neg s1_0, if_neg s1_1, e67, e65, pk_mul, nI_add])⟩, by show va_P D vwCl ws t.heap; rw [ht]; exact hP, hD, hT⟩, hS.F ht⟩) hS.2.2 dX0_placeTurned_68
set_option maxHeartbeats 4000000 in
set_option maxRecDepth 100000 in
theorem c_X0_turnedPicture_x (l : Launch) (D : va_G) (cy : Nat → ClassId) (A : Nat → Prop) (G : cG) (ws : va_W) (o : Nat) (p0 : Int64) (how : Int32) {w h : Nat} (hD : va_D A ws) (hT : cT cy G ws) (hG_o : G o = some (2, w, h))  : Cl l D cy A yX0_turnedPicture wsX0_turnedPicture ({ frames := 1, cells := 0, slots := 0, locals := 23 }) 0 0 ws [.ref o, .long p0, .int how] (fun r0 u => u = (G, ws) ∧ (r0 = tQ w h p0 how.toInt)) := by
  refine Met.ofW (cc := cX0_turnedPicture) (maxL := 8) (ret := (some .long)) (by decide) rfl ?_
  intro p e s m args below meth c s₁ B hml hv
  obtain ⟨rfl, hP, hK, hA, hV⟩ := hv
  have hx := B.exec
  have hb := B.bytes
  have hr := B.returns
  have hts := atoms_spec (ws := wsX0_turnedPicture) B.pre
  have hown : s.vm.findClass RX0 = some m.cls := findClass_of_methodNamed B.named
  have hlocks := B.notSynchronized
  have hS : va_S A s.heap s.heap [] := va_S.rf
  have hl := lv_entry ([.ref o, .long p0, .int how]) (n := 8) (Nat.le_of_ble_eq_true rfl)
  rw [lg_entry_eq]
  generalize (lg_sl ([.ref o, .long p0, .int how]) ++ List.replicate (8 - (lg_sl ([.ref o, .long p0, .int how])).length) Slot.unset).toArray = ls at hl ⊢
  have hl : lv_has ls 8 [(0, .ref o), (1, .long p0), (3, .int how)] := hl
  have k_0 : (0 : Int32).toInt = 0 := by decide
  have k_3 : (3 : Int32).toInt = 3 := by decide
  have k_m1L : (-1 : Int64).toInt = -1 := by decide
  have k_0L : (0 : Int64).toInt = 0 := by decide
  have k_1L : (1 : Int64).toInt = 1 := by decide
  have hb9 := c_hb hT hG_o
  refine lv_iload_n hx hb dX0_turnedPicture_0 rfl (lv_at hl 2 rfl) ?_
  refine lv_iconst (v := 3) hx hb dX0_turnedPicture_1 (by decide) ?_
  refine lv_icmp_ne (tgt := 20) hx hb dX0_turnedPicture_2 (by decide) (fun c2 => ?_) (fun c2 => ?_)
  · skip
    have d2 := c2
    rw [fa_eq] at d2
    refine lv_lconst (v := 0) hx hb dX0_turnedPicture_20 (by decide) ?_
    refine lv_lstore (lv' := [(4, .long (0 : Int64)), (0, .ref o), (1, .long p0), (3, .int how)]) hx hb dX0_turnedPicture_21 hl (by decide) rfl (fun ls hl => ?_)
    refine lv_iconst (v := 0) hx hb dX0_turnedPicture_23 (by decide) ?_
    refine lv_istore (lv' := [(6, .int (0 : Int32)), (4, .long (0 : Int64)), (0, .ref o), (1, .long p0), (3, .int how)]) hx hb dX0_turnedPicture_24 hl (by decide) rfl (fun ls hl => ?_)
    have loop_26 : ∀ (n : Nat) (k : Nat) (x4 : Int64), (k ≤ h) → (x4 = tF w h p0 how.toInt (k * w)) → h - k < n → ∀ (H : Heap) (locs : List Loc), va_P D vwCl ws H → va_S A s.heap H locs → ∀ (ls : Array Slot), lv_has ls 8 [(6, .int (nI k)), (4, .long x4), (0, .ref o), (1, .long p0), (3, .int how)] → W p l e (headSpec wsX0_turnedPicture ({ frames := 1, cells := 0, slots := 0, locals := 23 })).room s m #[Value.ref o, Value.long p0, Value.int how] below meth c H locs 0 0 (MQ below (va_Ql (fun r0 u => u = (G, ws) ∧ (r0 = tQ w h p0 how.toInt)) (cB D cy A) A) #[Value.ref o, Value.long p0, Value.int how] s 0 0 A) (F0 m 26 ls []) := by
      intro n
      induction n with
      | zero => intro k x4 j26_0 j26_1 hn; exact absurd hn (Nat.not_lt_zero _)
      | succ n ih_26 =>
        intro k x4 j26_0 j26_1 hn_26 H locs hP hS  ls hl
        have ik : (nI k).toInt = (k : Int) := nI_toInt (by omega)
        refine lv_iload hx hb dX0_turnedPicture_26 (lv_at hl 0 rfl) ?_
        refine lv_aload_n hx hb dX0_turnedPicture_28 rfl (lv_at hl 2 rfl) ?_
        obtain ⟨_, hM_o, hb_o, l_o, f_o, r_o, rfl, hG_l_o, hG_f_o, hG_r_o⟩ := hT _ _ hG_o
        refine t_get (v := .int (nI h)) (C := RX0) (T := TX0) (N := 8) hx hb hts (by decide +kernel) hown hK hP hM_o rfl 1 (by decide) (hts (.fieldLink RX0 17 "ShadowBench$Board" "high" "I") (by decide +kernel)) (fun _ h9 => h9) rfl dX0_turnedPicture_29 ?_
        have i_h_o : (nI h).toInt = _ := nI_toInt (by omega)
        refine lv_icmp_ge (tgt := 90) hx hb dX0_turnedPicture_32 (by decide) (fun c32 => ?_) (fun c32 => ?_)
        · skip
          have d32 := c32
          rw [fa_le] at d32
          obtain rfl : k = h := by omega
          refine lv_lload hx hb dX0_turnedPicture_90 (lv_at hl 1 rfl) ?_
          exact W.lret (v := x4) hx hb hr (fun t ht hW => ⟨⟨_, (G, ws), rfl, ⟨rfl, (by unfold tQ; rw [if_neg (by omega), Nat.mul_comm w k]; exact j26_1)⟩, by show va_P D vwCl ws t.heap; rw [ht]; exact hP, hD, hT⟩, hS.F ht⟩) hS.2.2 dX0_turnedPicture_92
        · skip
          have d32 := c32
          rw [fa_le] at d32
          refine lv_iconst (v := 0) hx hb dX0_turnedPicture_35 (by decide) ?_
          refine lv_istore (lv' := [(7, .int (0 : Int32)), (6, .int (nI k)), (4, .long x4), (0, .ref o), (1, .long p0), (3, .int how)]) hx hb dX0_turnedPicture_36 hl (by decide) rfl (fun ls hl => ?_)
          have loop_38 : ∀ (n : Nat) (i : Nat) (z4 : Int64), (i ≤ w) → (z4 = tF w h p0 how.toInt (k * w + i)) → w - i < n → ∀ (H : Heap) (locs : List Loc), va_P D vwCl ws H → va_S A s.heap H locs → ∀ (ls : Array Slot), lv_has ls 8 [(7, .int (nI i)), (6, .int (nI k)), (4, .long z4), (0, .ref o), (1, .long p0), (3, .int how)] → W p l e (headSpec wsX0_turnedPicture ({ frames := 1, cells := 0, slots := 0, locals := 23 })).room s m #[Value.ref o, Value.long p0, Value.int how] below meth c H locs 0 0 (MQ below (va_Ql (fun r0 u => u = (G, ws) ∧ (r0 = tQ w h p0 how.toInt)) (cB D cy A) A) #[Value.ref o, Value.long p0, Value.int how] s 0 0 A) (F0 m 38 ls []) := by
            intro n
            induction n with
            | zero => intro i z4 j38_0 j38_1 hn; exact absurd hn (Nat.not_lt_zero _)
            | succ n ih_38 =>
              intro i z4 j38_0 j38_1 hn_38 H locs hP hS  ls hl
              have ii : (nI i).toInt = (i : Int) := nI_toInt (by omega)
              refine lv_iload hx hb dX0_turnedPicture_38 (lv_at hl 0 rfl) ?_
              refine lv_aload_n hx hb dX0_turnedPicture_40 rfl (lv_at hl 3 rfl) ?_
              refine t_get (v := .int (nI w)) (C := RX0) (T := TX0) (N := 8) hx hb hts (by decide +kernel) hown hK hP hM_o rfl 0 (by decide) (hts (.fieldLink RX0 13 "ShadowBench$Board" "wide" "I") (by decide +kernel)) (fun _ h9 => h9) rfl dX0_turnedPicture_41 ?_
              have i_w_o : (nI w).toInt = _ := nI_toInt (by omega)
              refine lv_icmp_ge (tgt := 84) hx hb dX0_turnedPicture_44 (by decide) (fun c44 => ?_) (fun c44 => ?_)
              · skip
                have d44 := c44
                rw [fa_le] at d44
                obtain rfl : i = w := by omega
                have e84 : z4 = tF i h p0 how.toInt ((k + 1) * i) := by rw [Nat.succ_mul]; exact j38_1
                refine lv_iinc (v := (nI (k + 1))) (lv' := [(6, .int (nI (k + 1))), (7, .int (nI i)), (4, .long z4), (0, .ref o), (1, .long p0), (3, .int how)]) hx hb dX0_turnedPicture_84 hl (k := 1) rfl (nI_1 _) (by decide) rfl (fun ls hl => ?_)
                refine lv_goto (tgt := 26) hx hb dX0_turnedPicture_87 (by decide) ?_
                exact ih_26 (k + 1) z4 (by omega) (e84) (by omega) _ _ hP hS  ls (lv_sub hl [0, 2, 3, 4, 5] rfl)
              · skip
                have d44 := c44
                rw [fa_le] at d44
                have kb := kw_b (k := k) (i := i) hb9.2.1 hb9.2.2.2 (by omega) (by omega)
                refine lv_lload_n hx hb dX0_turnedPicture_47 rfl (lv_at hl 4 rfl) ?_
                refine lv_aload_n hx hb dX0_turnedPicture_48 rfl (lv_at hl 3 rfl) ?_
                refine lv_iload hx hb dX0_turnedPicture_49 (lv_at hl 0 rfl) ?_
                refine lv_iload hx hb dX0_turnedPicture_51 (lv_at hl 1 rfl) ?_
                refine t_calll (va_runV (g := F0 m 53 ls ([.int (nI k), .int (nI i), .ref o, .long p0])) (As := [.int (nI i), .int (nI k)]) (rest := [.long p0]) ⟨hx, hb, hml, hown, hts⟩ (c_X0_bit_x l D cy A G ws o i k hD hT hG_o ) (cwV 2 hts gX0_turnedPicture_X0_bit rfl rfl rfl (by decide +kernel) ⟨Nat.le_of_ble_eq_true rfl, Nat.le_of_ble_eq_true rfl⟩) (c_preV hM_o rfl hP hK hA hS hV) rfl rfl hl.1 rfl (lv_room (Nat.le_of_ble_eq_true rfl)) dX0_turnedPicture_53 ⟨Nat.le_of_ble_eq_true rfl, Nat.le_of_ble_eq_true rfl⟩) hS (fun r53 u H locs q53 hP9 hD9 hT9 hS => ?_)
                obtain ⟨rfl, q53⟩ := q53
                have hP : va_P D vwCl ws H := hP9
                refine lv_land hx hb dX0_turnedPicture_56 ?_
                refine lv_topl (fun v56 e56 => ?_)
                refine lv_lconst (v := 0) hx hb dX0_turnedPicture_57 (by decide) ?_
                refine W.lcmp hx hb dX0_turnedPicture_58 ?_
                have e56b : v56 = p0 &&& l1 (k * w + i) := by rw [e56, q53]
                refine lv_if_eq (tgt := 78) hx hb dX0_turnedPicture_59 (by decide) (fun c59 => ?_) (fun c59 => ?_)
                · skip
                  have d59 := c59
                  rw [lg_cmp_eq, fa_eq64] at d59
                  have hst : tF w h p0 how.toInt (k * w + (i + 1)) = tF w h p0 how.toInt (k * w + (i + 1)) := rfl
                  first | have hl0 : lb p0 (k * w + i) = false := (l1_no kb).mp (e56b.symm.trans ((lg_cmp_eq _ _).mp c59)) | skip
                  first | have e78b : z4 = tF w h p0 how.toInt (k * w + (i + 1)) := (by rw [tF_0 hl0]; exact j38_1) | skip
                  refine lv_iinc (v := (nI (i + 1))) (lv' := [(7, .int (nI (i + 1))), (6, .int (nI k)), (4, .long z4), (0, .ref o), (1, .long p0), (3, .int how)]) hx hb dX0_turnedPicture_78 hl (k := 0) rfl (nI_1 _) (by decide) rfl (fun ls hl => ?_)
                  refine lv_goto (tgt := 38) hx hb dX0_turnedPicture_81 (by decide) ?_
                  exact ih_38 (i + 1) z4 (by omega) (by first | exact e75b | exact e78b) (by omega) _ _ hP hS  ls (lv_sub hl [0, 1, 2, 3, 4, 5] rfl)
                · skip
                  have d59 := c59
                  rw [lg_cmp_eq, fa_eq64] at d59
                  have hl1 : lb p0 (k * w + i) = true := by cases hq : lb p0 (k * w + i); exact absurd ((lg_cmp_eq _ _).mpr (e56b.trans ((l1_no kb).mpr hq))) c59; rfl
                  refine lv_lload hx hb dX0_turnedPicture_62 (lv_at hl 2 rfl) ?_
                  refine lv_lconst (v := 1) hx hb dX0_turnedPicture_64 (by decide) ?_
                  refine lv_aload_n hx hb dX0_turnedPicture_65 rfl (lv_at hl 3 rfl) ?_
                  refine lv_iload_n hx hb dX0_turnedPicture_66 rfl (lv_at hl 5 rfl) ?_
                  refine lv_iload hx hb dX0_turnedPicture_67 (lv_at hl 0 rfl) ?_
                  refine lv_iload hx hb dX0_turnedPicture_69 (lv_at hl 1 rfl) ?_
                  refine t_calli (va_runV (g := F0 m 71 ls ([.int (nI k), .int (nI i), .int how, .ref o, .long (1 : Int64), .long z4])) (As := [.int how, .int (nI i), .int (nI k)]) (rest := [.long (1 : Int64), .long z4]) ⟨hx, hb, hml, hown, hts⟩ (c_X0_placeTurned_x l D cy A G ws o how i k hD hT hG_o (by omega) (by omega)) (cwV 3 hts gX0_turnedPicture_X0_placeTurned rfl rfl rfl (by decide +kernel) ⟨Nat.le_of_ble_eq_true rfl, Nat.le_of_ble_eq_true rfl⟩) (c_preV hM_o rfl hP hK hA hS hV) rfl rfl hl.1 rfl (lv_room (Nat.le_of_ble_eq_true rfl)) dX0_turnedPicture_71 ⟨Nat.le_of_ble_eq_true rfl, Nat.le_of_ble_eq_true rfl⟩) hS (fun r71 u H locs q71 hP9 hD9 hT9 hS => ?_)
                  obtain ⟨rfl, q71⟩ := q71
                  have hP : va_P D vwCl ws H := hP9
                  refine lv_lshl (v := (1 : Int64) <<< (r71.toInt64 &&& 63)) hx hb dX0_turnedPicture_74 rfl ?_
                  refine lv_lor hx hb dX0_turnedPicture_75 ?_
                  refine lv_topl (fun v75 e75 => ?_)
                  have e75b : v75 = tF w h p0 how.toInt (k * w + (i + 1)) := by rw [tF_1 (by omega) hl1, e75, q71, j38_1]; rfl
                  refine lv_lstore (lv' := [(4, .long v75), (7, .int (nI i)), (6, .int (nI k)), (0, .ref o), (1, .long p0), (3, .int how)]) hx hb dX0_turnedPicture_76 hl (by decide) rfl (fun ls hl => ?_)
                  have hst : tF w h p0 how.toInt (k * w + (i + 1)) = tF w h p0 how.toInt (k * w + (i + 1)) := rfl
                  first | have hl0 : lb p0 (k * w + i) = false := (l1_no kb).mp (e56b.symm.trans ((lg_cmp_eq _ _).mp c59)) | skip
                  first | have e78b : z4 = tF w h p0 how.toInt (k * w + (i + 1)) := (by rw [tF_0 hl0]; exact j38_1) | skip
                  refine lv_iinc (v := (nI (i + 1))) (lv' := [(7, .int (nI (i + 1))), (4, .long v75), (6, .int (nI k)), (0, .ref o), (1, .long p0), (3, .int how)]) hx hb dX0_turnedPicture_78 hl (k := 1) rfl (nI_1 _) (by decide) rfl (fun ls hl => ?_)
                  refine lv_goto (tgt := 38) hx hb dX0_turnedPicture_81 (by decide) ?_
                  exact ih_38 (i + 1) v75 (by omega) (by first | exact e75b | exact e78b) (by omega) _ _ hP hS  ls (lv_sub hl [0, 2, 1, 3, 4, 5] rfl)
          exact loop_38 (w + 1) 0 x4 (by omega) (by rw [Nat.add_zero]; exact j26_1) (by omega) _ _ hP hS  ls (lv_sub hl [0, 1, 2, 3, 4, 5] rfl)
    exact loop_26 (h + 1) 0 (0 : Int64) (by omega) (by rw [Nat.zero_mul]; rfl) (by omega) _ _ hP hS  ls (lv_sub hl [0, 1, 2, 3, 4] rfl)
  · skip
    have d2 := c2
    rw [fa_eq] at d2
    refine lv_lload_n hx hb dX0_turnedPicture_5 rfl (lv_at hl 1 rfl) ?_
    refine lv_ldc2 hx hb hown (hts (.constantLong RX0 73 (-1)) (by decide +kernel)) dX0_turnedPicture_6 ?_
    refine lv_lxor hx hb dX0_turnedPicture_9 ?_
    refine lv_topl (fun v9 e9 => ?_)
    refine lv_lconst (v := 1) hx hb dX0_turnedPicture_10 (by decide) ?_
    refine lv_aload_n hx hb dX0_turnedPicture_11 rfl (lv_at hl 0 rfl) ?_
    obtain ⟨_, hM_o, hb_o, l_o, f_o, r_o, rfl, hG_l_o, hG_f_o, hG_r_o⟩ := hT _ _ hG_o
    refine t_get (v := .int (nI (w * h))) (C := RX0) (T := TX0) (N := 8) hx hb hts (by decide +kernel) hown hK hP hM_o rfl 2 (by decide) (hts (.fieldLink RX0 20 "ShadowBench$Board" "squares" "I") (by decide +kernel)) (fun _ h9 => h9) rfl dX0_turnedPicture_12 ?_
    have m_wh_o := cb_mul hb_o
    have i_wh_o : (nI (w * h)).toInt = _ := nI_toInt (by omega)
    refine lv_lshl (v := (1 : Int64) <<< (((nI (w * h))).toInt64 &&& 63)) hx hb dX0_turnedPicture_15 rfl ?_
    refine lv_lconst (v := 1) hx hb dX0_turnedPicture_16 (by decide) ?_
    refine lv_lsub hx hb dX0_turnedPicture_17 ?_
    refine lv_topl (fun v17 e17 => ?_)
    refine lv_land hx hb dX0_turnedPicture_18 ?_
    refine lv_topl (fun v18 e18 => ?_)
    exact W.lret (v := v18) hx hb hr (fun t ht hW => ⟨⟨_, (G, ws), rfl, ⟨rfl, (by have m9 := cb_mul hb9; unfold tQ; rw [if_pos (by omega), ← tN_mask m9.2, e18, e17, e9]; rfl)⟩, by show va_P D vwCl ws t.heap; rw [ht]; exact hP, hD, hT⟩, hS.F ht⟩) hS.2.2 dX0_turnedPicture_19
set_option maxHeartbeats 4000000 in
set_option maxRecDepth 100000 in
theorem c_X9_turned_x (l : Launch) (D : va_G) (cy : Nat → ClassId) (A : Nat → Prop) (G : cG) (ws : va_W) (o : Nat) (wide : Int32) (high : Int32) (p0 : Int64) (how : Int32)  (hD : va_D A ws) (hT : cT cy G ws) (hG_o : G o = some (7, 0, 0))  : Cl l D cy A yX9_turned wsX9_turned ({ frames := 5, cells := 4, slots := 502, locals := 116 }) 4 502 ws [.ref o, .int wide, .int high, .long p0, .int how] (fun r0 u => cX none (chs [1, 8]) G ws u.1 u.2 ∧ (tA wide high p0 how r0)) := by
  refine Met.ofW (cc := cX9_turned) (maxL := 7) (ret := (some .long)) (by decide) rfl ?_
  intro p e s m args below meth c s₁ B hml hv
  obtain ⟨rfl, hP, hK, hA, hV⟩ := hv
  have hx := B.exec
  have hb := B.bytes
  have hr := B.returns
  have hts := atoms_spec (ws := wsX9_turned) B.pre
  have hown : s.vm.findClass RX9 = some m.cls := findClass_of_methodNamed B.named
  have hlocks := B.notSynchronized
  have hS : va_S A s.heap s.heap [] := va_S.rf
  have hX : cX none (chs [1, 8]) G ws G ws := cX.rf
  have hl := lv_entry ([.ref o, .int wide, .int high, .long p0, .int how]) (n := 7) (Nat.le_of_ble_eq_true rfl)
  rw [lg_entry_eq]
  generalize (lg_sl ([.ref o, .int wide, .int high, .long p0, .int how]) ++ List.replicate (7 - (lg_sl ([.ref o, .int wide, .int high, .long p0, .int how])).length) Slot.unset).toArray = ls at hl ⊢
  have hl : lv_has ls 7 [(0, .ref o), (1, .int wide), (2, .int high), (3, .long p0), (5, .int how)] := hl
  have k_0 : (0 : Int32).toInt = 0 := by decide
  have k_3 : (3 : Int32).toInt = 3 := by decide
  have k_m1L : (-1 : Int64).toInt = -1 := by decide
  refine lv_aload_n hx hb dX9_turned_0 rfl (lv_at hl 0 rfl) ?_
  refine lv_iload_n hx hb dX9_turned_1 rfl (lv_at hl 1 rfl) ?_
  refine lv_iload_n hx hb dX9_turned_2 rfl (lv_at hl 2 rfl) ?_
  obtain ⟨_, hM_o, bs_o, js_o, sh_o, wk_o, ll_o, jc_o, lc_o, mo_o, lb_o, rfl, hjc_o, hlc_o, hG_bs_o, hG_js_o, hG_sh_o, hG_wk_o, hmo_o, hG_ll_o, hlb_o⟩ := hT _ _ hG_o
  refine t_calla (va_runV (g := F0 m 3 ls ([.int high, .int wide, .ref o])) (As := [.int wide, .int high]) (rest := []) ⟨hx, hb, hml, hown, hts⟩ (c_X9_boardOf_x l D cy A G ws o wide high hD hT hG_o ) (cwV 2 hts gX9_turned_X9_boardOf rfl rfl rfl (by decide +kernel) ⟨Nat.le_of_ble_eq_true rfl, Nat.le_of_ble_eq_true rfl⟩) (c_preV hM_o rfl hP hK hA hS hV) rfl rfl hl.1 rfl (lv_room (Nat.le_of_ble_eq_true rfl)) dX9_turned_3 ⟨Nat.le_of_ble_eq_true rfl, Nat.le_of_ble_eq_true rfl⟩) hS (fun r3 u H locs q3 hP9 hD9 hT9 hS => ?_)
  obtain ⟨G3, w3⟩ := u
  obtain ⟨hX9, q3⟩ := q3
  have hX9 : cX none (chs [1, 8]) G ws G3 w3 := hX9
  have hP : va_P D vwCl w3 H := hP9
  have hD : va_D A w3 := hD9
  have hT : cT cy G3 w3 := hT9
  have hM_o := hX9.2.1 _ _ (cP.no hG_o rfl) hM_o
  have hG_o := hX9.1 _ _ hG_o
  have hG_bs_o := hX9.1 _ _ hG_bs_o
  have hG_js_o := hX9.1 _ _ hG_js_o
  have hG_sh_o := hX9.1 _ _ hG_sh_o
  have hG_wk_o := hX9.1 _ _ hG_wk_o
  have hG_ll_o := hX9.1 _ _ hG_ll_o
  have hX := hX.tr hX9
  rcases r3 with _ | x3
  · skip
    have vn3 := q3.2.1 rfl
    refine lv_astoreN (lv' := [(6, .null), (0, .ref o), (1, .int wide), (2, .int high), (3, .long p0), (5, .int how)]) hx hb dX9_turned_6 hl (by decide) rfl (fun ls hl => ?_)
    refine lv_aloadN hx hb dX9_turned_8 (lv_at hl 0 rfl) ?_
    refine lv_ifnullN (tgt := 33) hx hb dX9_turned_10 (by decide) ?_
    refine lv_ldc2 hx hb hown (hts (.constantLong RX9 143 (-1)) (by decide +kernel)) dX9_turned_33 ?_
    refine W.widen (k := 4) (n := 502) (Nat.le_of_ble_eq_true rfl) (Nat.le_of_ble_eq_true rfl) ?_
    exact W.lret (v := (-1 : Int64)) hx hb hr (fun t ht hW => ⟨⟨_, (G3, w3), rfl, ⟨hX, (Or.inr ⟨(fun z9 => by first | exact vn3 z9.1.1 | exact b19 z9.1.2 | omega), rfl⟩)⟩, by show va_P D vwCl w3 t.heap; rw [ht]; exact hP, hD, hT⟩, hS.F ht⟩) hS.2.2 dX9_turned_36
  · skip
    have hG_x3 := q3.1 x3 rfl
    have vb3 := q3.2.2 x3 rfl
    refine lv_astore (lv' := [(6, .ref x3), (0, .ref o), (1, .int wide), (2, .int high), (3, .long p0), (5, .int how)]) hx hb dX9_turned_6 hl (by decide) rfl (fun ls hl => ?_)
    refine lv_aload hx hb dX9_turned_8 (lv_at hl 0 rfl) ?_
    refine lv_ifnull hx hb dX9_turned_10 ?_
    refine lv_aload hx hb dX9_turned_13 (lv_at hl 0 rfl) ?_
    refine lv_lload_n hx hb dX9_turned_15 rfl (lv_at hl 4 rfl) ?_
    obtain ⟨_, hM_x3, hb_x3, l_x3, f_x3, r_x3, rfl, hG_l_x3, hG_f_x3, hG_r_x3⟩ := hT _ _ hG_x3
    refine t_calli (va_runV (g := F0 m 16 ls ([.long p0, .ref x3])) (As := [.long p0]) (rest := []) ⟨hx, hb, hml, hown, hts⟩ (c_X0_isPicture_x l D cy A G3 w3 x3 p0 hD hT hG_x3 ) (cwV 1 hts gX9_turned_X0_isPicture rfl rfl rfl (by decide +kernel) ⟨Nat.le_of_ble_eq_true rfl, Nat.le_of_ble_eq_true rfl⟩) (c_preV hM_x3 rfl hP hK hA hS hV) rfl rfl hl.1 rfl (lv_room (Nat.le_of_ble_eq_true rfl)) dX9_turned_16 ⟨Nat.le_of_ble_eq_true rfl, Nat.le_of_ble_eq_true rfl⟩) hS (fun r16 u H locs q16 hP9 hD9 hT9 hS => ?_)
    obtain ⟨rfl, q16⟩ := q16
    have hP : va_P D vwCl w3 H := hP9
    refine lv_if_eq (tgt := 33) hx hb dX9_turned_19 (by decide) (fun c19 => ?_) (fun c19 => ?_)
    · skip
      have b19 := bo_f q16 c19
      refine lv_ldc2 hx hb hown (hts (.constantLong RX9 143 (-1)) (by decide +kernel)) dX9_turned_33 ?_
      refine W.widen (k := 4) (n := 502) (Nat.le_of_ble_eq_true rfl) (Nat.le_of_ble_eq_true rfl) ?_
      exact W.lret (v := (-1 : Int64)) hx hb hr (fun t ht hW => ⟨⟨_, (G3, w3), rfl, ⟨hX, (Or.inr ⟨(fun z9 => by first | exact vn3 z9.1.1 | exact b19 z9.1.2 | omega), rfl⟩)⟩, by show va_P D vwCl w3 t.heap; rw [ht]; exact hP, hD, hT⟩, hS.F ht⟩) hS.2.2 dX9_turned_36
    · skip
      have b19 := bo_t q16 c19
      refine lv_iload hx hb dX9_turned_22 (lv_at hl 5 rfl) ?_
      refine lv_if_lt (tgt := 33) hx hb dX9_turned_24 (by decide) (fun c24 => ?_) (fun c24 => ?_)
      · skip
        have d24 := c24
        rw [fa_lt] at d24
        refine lv_ldc2 hx hb hown (hts (.constantLong RX9 143 (-1)) (by decide +kernel)) dX9_turned_33 ?_
        refine W.widen (k := 4) (n := 502) (Nat.le_of_ble_eq_true rfl) (Nat.le_of_ble_eq_true rfl) ?_
        exact W.lret (v := (-1 : Int64)) hx hb hr (fun t ht hW => ⟨⟨_, (G3, w3), rfl, ⟨hX, (Or.inr ⟨(fun z9 => by first | exact vn3 z9.1.1 | exact b19 z9.1.2 | omega), rfl⟩)⟩, by show va_P D vwCl w3 t.heap; rw [ht]; exact hP, hD, hT⟩, hS.F ht⟩) hS.2.2 dX9_turned_36
      · skip
        have d24 := c24
        rw [fa_lt] at d24
        refine lv_iload hx hb dX9_turned_27 (lv_at hl 5 rfl) ?_
        refine lv_iconst (v := 3) hx hb dX9_turned_29 (by decide) ?_
        refine lv_icmp_le (tgt := 37) hx hb dX9_turned_30 (by decide) (fun c30 => ?_) (fun c30 => ?_)
        · skip
          have d30 := c30
          rw [fa_le] at d30
          refine lv_aload hx hb dX9_turned_37 (lv_at hl 0 rfl) ?_
          refine lv_lload_n hx hb dX9_turned_39 rfl (lv_at hl 4 rfl) ?_
          refine lv_iload hx hb dX9_turned_40 (lv_at hl 5 rfl) ?_
          refine t_calll (va_runV (g := F0 m 42 ls ([.int how, .long p0, .ref x3])) (As := [.long p0, .int how]) (rest := []) ⟨hx, hb, hml, hown, hts⟩ (c_X0_turnedPicture_x l D cy A G3 w3 x3 p0 how hD hT hG_x3 ) (cwV 2 hts gX9_turned_X0_turnedPicture rfl rfl rfl (by decide +kernel) ⟨Nat.le_of_ble_eq_true rfl, Nat.le_of_ble_eq_true rfl⟩) (c_preV hM_x3 rfl hP hK hA hS hV) rfl rfl hl.1 rfl (lv_room (Nat.le_of_ble_eq_true rfl)) dX9_turned_42 ⟨Nat.le_of_ble_eq_true rfl, Nat.le_of_ble_eq_true rfl⟩) hS (fun r42 u H locs q42 hP9 hD9 hT9 hS => ?_)
          obtain ⟨rfl, q42⟩ := q42
          have hP : va_P D vwCl w3 H := hP9
          refine W.widen (k := 4) (n := 502) (Nat.le_of_ble_eq_true rfl) (Nat.le_of_ble_eq_true rfl) ?_
          exact W.lret (v := r42) hx hb hr (fun t ht hW => ⟨⟨_, (G3, w3), rfl, ⟨hX, (Or.inl ⟨⟨vb3, b19⟩, (by omega), q42⟩)⟩, by show va_P D vwCl w3 t.heap; rw [ht]; exact hP, hD, hT⟩, hS.F ht⟩) hS.2.2 dX9_turned_45
        · skip
          have d30 := c30
          rw [fa_le] at d30
          refine lv_ldc2 hx hb hown (hts (.constantLong RX9 143 (-1)) (by decide +kernel)) dX9_turned_33 ?_
          refine W.widen (k := 4) (n := 502) (Nat.le_of_ble_eq_true rfl) (Nat.le_of_ble_eq_true rfl) ?_
          exact W.lret (v := (-1 : Int64)) hx hb hr (fun t ht hW => ⟨⟨_, (G3, w3), rfl, ⟨hX, (Or.inr ⟨(fun z9 => by first | exact vn3 z9.1.1 | exact b19 z9.1.2 | omega), rfl⟩)⟩, by show va_P D vwCl w3 t.heap; rw [ht]; exact hP, hD, hT⟩, hS.F ht⟩) hS.2.2 dX9_turned_36

set_option maxHeartbeats 4000000 in
set_option maxRecDepth 100000 in
theorem c_X10_turned_x (l : Launch) (D : va_G) (cy : Nat → ClassId) (mo : Nat) (a : Nat → Nat) (f : Nat → Int32) (g : Nat → Int64) (r : Nat → Nat → Int32) (q : Nat → Nat → Int64) (w : Int32) (h : Int32) (p0 : Int64) (how : Int32) (hD : DM cy mo a)  : Ml l D cy mo a yX10_turned wsX10_turned ({ frames := 3, cells := 0, slots := 0, locals := 69 }) f g r q [.int w, .int h, .long p0, .int how] (fun r0 u => u = ((upd f 0 (0 : Int32)), g, r, q) ∧ (tA w h p0 how r0)) := by
  refine Met.ofW (cc := cX10_turned) (maxL := 12) (ret := (some .long)) (by decide) rfl ?_
  intro p e s m args below meth c s₁ B hml hv
  obtain ⟨rfl, hP, hK⟩ := hv
  have hx := B.exec
  have hb := B.bytes
  have hr := B.returns
  have hts := atoms_spec (ws := wsX10_turned) B.pre
  have hin : ∀ w ∈ u_ws RX10 TX10 35, w ∈ wsX10_turned := by decide +kernel
  have hown : s.vm.findClass RX10 = some m.cls := findClass_of_methodNamed B.named
  have hlocks := B.notSynchronized
  have hS : va_S (AM mo a) s.heap s.heap [] := va_S.rf
  have hl := lv_entry ([.ref mo, .int w, .int h, .long p0, .int how]) (n := 12) (Nat.le_of_ble_eq_true rfl)
  rw [lg_entry_eq]
  generalize (lg_sl ([.ref mo, .int w, .int h, .long p0, .int how]) ++ List.replicate (12 - (lg_sl ([.ref mo, .int w, .int h, .long p0, .int how])).length) Slot.unset).toArray = ls at hl ⊢
  have hl : lv_has ls 12 [(0, .ref mo), (1, .int w), (2, .int h), (3, .long p0), (5, .int how)] := hl
  have k_0 : (0 : Int32).toInt = 0 := by decide
  have k_1 : (1 : Int32).toInt = 1 := by decide
  have k_2 : (2 : Int32).toInt = 2 := by decide
  have k_3 : (3 : Int32).toInt = 3 := by decide
  have k_m1L : (-1 : Int64).toInt = -1 := by decide
  have k_0L : (0 : Int64).toInt = 0 := by decide
  have k_3L : (3 : Int64).toInt = 3 := by decide
  refine lv_aload_n hx hb dX10_turned_0 rfl (lv_at hl 0 rfl) ?_
  refine lv_iconst (v := 0) hx hb dX10_turned_1 (by decide) ?_
  refine m_put (v := .int (0 : Int32)) (ty := .int) hx hb hts hin hown hK hP hD hS 0 (by decide) rfl (hts (.fieldLink RX10 79 "ShadowBenchModel" "thrown" "I") (by decide +kernel)) rfl (by decide +kernel) rfl rfl (upd f 0 (0 : Int32)) g rfl dX10_turned_2 (fun H locs hP hS => ?_)
  refine lv_iload_n hx hb dX10_turned_5 rfl (lv_at hl 1 rfl) ?_
  refine lv_iload_n hx hb dX10_turned_6 rfl (lv_at hl 2 rfl) ?_
  refine lv_lload_n hx hb dX10_turned_7 rfl (lv_at hl 3 rfl) ?_
  refine m_pu (As := [.int w, .int h, .long p0]) (rest := []) ⟨hx, hb, hml, hown, hts⟩ (c_X10_isPicture l w h p0 ) (va_cwS 3 hts gX10_turned_X10_isPicture rfl rfl rfl (by decide +kernel) ⟨Nat.le_of_ble_eq_true rfl, Nat.le_of_ble_eq_true rfl⟩) hP rfl hl.1 rfl (Nat.le_of_ble_eq_true rfl) dX10_turned_8 ⟨Nat.le_of_ble_eq_true rfl, Nat.le_of_ble_eq_true rfl⟩ hS (fun r8 H locs q8 hP hS => ?_)
  refine lv_if_eq (tgt := 27) hx hb dX10_turned_11 (by decide) (fun c11 => ?_) (fun c11 => ?_)
  · skip
    have b11 := bo_f q8 c11
    refine lv_ldc2 hx hb hown (hts (.constantLong RX10 185 (-1)) (by decide +kernel)) dX10_turned_27 ?_
    exact W.lret (v := (-1 : Int64)) hx hb hr (fun t ht hW => ⟨⟨_, ((upd f 0 (0 : Int32)), g, r, q), rfl, ⟨rfl, (Or.inr ⟨(fun z9 => by first | exact goodP_no b11 z9.1 | exact b24 z9.2), rfl⟩)⟩, by unfold mB; rw [ht]; exact hP⟩, hS.F ht⟩) hS.2.2 dX10_turned_30
  · skip
    have b11 := bo_t q8 c11
    refine lv_iload hx hb dX10_turned_14 (lv_at hl 4 rfl) ?_
    refine lv_i2l (v := how.toInt64) hx hb dX10_turned_16 rfl ?_
    refine lv_lconst (v := 0) hx hb dX10_turned_17 (by decide) ?_
    refine lv_ldc2 hx hb hown (hts (.constantLong RX10 116 (3)) (by decide +kernel)) dX10_turned_18 ?_
    refine m_pu (As := [.long (how.toInt64), .long (0 : Int64), .long (3 : Int64)]) (rest := []) ⟨hx, hb, hml, hown, hts⟩ (c_X10_isIn l how.toInt64 (0 : Int64) (3 : Int64) ) (va_cwS 3 hts gX10_turned_X10_isIn rfl rfl rfl (by decide +kernel) ⟨Nat.le_of_ble_eq_true rfl, Nat.le_of_ble_eq_true rfl⟩) hP rfl hl.1 rfl (Nat.le_of_ble_eq_true rfl) dX10_turned_21 ⟨Nat.le_of_ble_eq_true rfl, Nat.le_of_ble_eq_true rfl⟩ hS (fun r21 H locs q21 hP hS => ?_)
    have q21 := q21
    simp only [k64, show (0 : Int64).toInt = 0 from rfl, show (1 : Int64).toInt = 1 from rfl, show (2 : Int64).toInt = 2 from rfl, show (3 : Int64).toInt = 3 from rfl, show (6 : Int64).toInt = 6 from rfl] at q21
    refine lv_if_ne (tgt := 31) hx hb dX10_turned_24 (by decide) (fun c24 => ?_) (fun c24 => ?_)
    · skip
      have b24 := bo_t q21 c24
      have gp := goodP_of b11
      have y24 := b24
      try simp only [k64, show (0 : Int64).toInt = 0 from rfl, show (3 : Int64).toInt = 3 from rfl] at y24
      obtain ⟨ha, hb9, h36, hwh⟩ := wh36 b11.1.1 b11.1.2
      have ew := cl_nI (w := w) (by omega)
      have eh := cl_nI (w := h) (by omega)
      obtain ⟨A9, hA9⟩ : ∃ z, z = w.toNatClampNeg := ⟨_, rfl⟩
      obtain ⟨B9, hB9⟩ : ∃ z, z = h.toNatClampNeg := ⟨_, rfl⟩
      rw [← hA9] at ha h36 hwh ew
      rw [← hB9] at hb9 h36 hwh eh
      have m37 := mul66 b11.1.1 b11.1.2
      refine lv_lconst (v := 0) hx hb dX10_turned_31 (by decide) ?_
      refine lv_lstore (lv' := [(6, .long (0 : Int64)), (0, .ref mo), (1, .int w), (2, .int h), (3, .long p0), (5, .int how)]) hx hb dX10_turned_32 hl (by decide) rfl (fun ls hl => ?_)
      refine lv_iconst (v := 0) hx hb dX10_turned_34 (by decide) ?_
      refine lv_istore (lv' := [(8, .int (0 : Int32)), (6, .long (0 : Int64)), (0, .ref mo), (1, .int w), (2, .int h), (3, .long p0), (5, .int how)]) hx hb dX10_turned_35 hl (by decide) rfl (fun ls hl => ?_)
      have loop_37 : ∀ (n : Nat) (s1 : Nat) (x6 : Int64), ((s1 : Int) ≤ ((A9 * B9 : Nat) : Int)) → (x6 = tR A9 B9 p0 how.toInt s1) → A9 * B9 - s1 < n → ∀ (H : Heap) (locs : List Loc), va_P D vwCl (WM cy mo a (upd f 0 (0 : Int32)) g r q) H → va_S (AM mo a) s.heap H locs → ∀ (ls : Array Slot), lv_has ls 12 [(8, .int (nI s1)), (6, .long x6), (0, .ref mo), (1, .int w), (2, .int h), (3, .long p0), (5, .int how)] → W p l e (headSpec wsX10_turned ({ frames := 3, cells := 0, slots := 0, locals := 69 })).room s m #[Value.ref mo, Value.int w, Value.int h, Value.long p0, Value.int how] below meth c H locs 0 0 (MQ below (va_Ql (fun r0 u => u = ((upd f 0 (0 : Int32)), g, r, q) ∧ (tA w h p0 how r0)) (mB D cy mo a) (AM mo a)) #[Value.ref mo, Value.int w, Value.int h, Value.long p0, Value.int how] s 0 0 (AM mo a)) (F0 m 37 ls []) := by
        intro n
        induction n with
        | zero => intro s1 x6  j37_0 j37_1 hn; exact absurd hn (Nat.not_lt_zero _)
        | succ n ih_37 =>
          intro s1 x6  j37_0 j37_1 hn_37 H locs hP hS ls hl
          have is1 : (nI s1).toInt = (s1 : Int) := nI_toInt (by omega)
          refine lv_iload hx hb dX10_turned_37 (lv_at hl 0 rfl) ?_
          refine lv_iload_n hx hb dX10_turned_39 rfl (lv_at hl 3 rfl) ?_
          refine lv_iload_n hx hb dX10_turned_40 rfl (lv_at hl 4 rfl) ?_
          refine lv_imul hx hb dX10_turned_41 ?_
          refine lv_topi (fun v41 e41 => ?_)
          have i41 : v41.toInt = w.toInt * h.toInt := by rw [e41]; exact fb_mulI (by omega) (by omega)
          refine lv_icmp_ge (tgt := 154) hx hb dX10_turned_42 (by decide) (fun c42 => ?_) (fun c42 => ?_)
          · skip
            have d42 := c42
            rw [fa_le] at d42
            obtain rfl : s1 = A9 * B9 := by omega
            refine lv_lload hx hb dX10_turned_154 (lv_at hl 1 rfl) ?_
            exact W.lret (v := x6) hx hb hr (fun t ht hW => ⟨⟨_, ((upd f 0 (0 : Int32)), g, r, q), rfl, ⟨rfl, (Or.inl ⟨gp, y24, (by rw [← hA9, ← hB9]; exact j37_1)⟩)⟩, by unfold mB; rw [ht]; exact hP⟩, hS.F ht⟩) hS.2.2 dX10_turned_156
          · skip
            have d42 := c42
            rw [fa_le] at d42
            have hs1 : s1 < A9 * B9 := by omega
            have hdv : s1 / A9 < B9 := Nat.div_lt_of_lt_mul hs1
            refine lv_iload hx hb dX10_turned_45 (lv_at hl 0 rfl) ?_
            refine lv_iload_n hx hb dX10_turned_47 rfl (lv_at hl 3 rfl) ?_
            refine lv_irem hx hb dX10_turned_48 (fun z => by rw [fa_eq] at z; omega) ?_
            refine lv_topi (fun v48 e48 => ?_)
            have i48 : v48.toInt = (nI s1).toInt % w.toInt := by rw [e48]; exact my_irem (by omega) (by omega)
            have j48 : 0 ≤ v48.toInt ∧ v48.toInt < w.toInt ∧ v48.toInt ≤ (nI s1).toInt := by rw [e48]; exact my_remb (by omega) (by omega)
            refine lv_istore (lv' := [(9, .int v48), (8, .int (nI s1)), (6, .long x6), (0, .ref mo), (1, .int w), (2, .int h), (3, .long p0), (5, .int how)]) hx hb dX10_turned_49 hl (by decide) rfl (fun ls hl => ?_)
            refine lv_iload hx hb dX10_turned_51 (lv_at hl 1 rfl) ?_
            refine lv_iload_n hx hb dX10_turned_53 rfl (lv_at hl 4 rfl) ?_
            refine lv_idiv hx hb dX10_turned_54 (fun z => by rw [fa_eq] at z; omega) ?_
            refine lv_topi (fun v54 e54 => ?_)
            have i54 : v54.toInt = (nI s1).toInt / w.toInt := by rw [e54]; exact my_idiv (by omega) (by omega)
            have j54 : 0 ≤ v54.toInt ∧ v54.toInt ≤ (nI s1).toInt := by rw [e54]; exact my_divb (by omega) (by omega)
            refine lv_istore (lv' := [(10, .int v54), (9, .int v48), (8, .int (nI s1)), (6, .long x6), (0, .ref mo), (1, .int w), (2, .int h), (3, .long p0), (5, .int how)]) hx hb dX10_turned_55 hl (by decide) rfl (fun ls hl => ?_)
            have f48 : v48 = nI (s1 % A9) := by rw [e48, ← ew]; exact pk_rem (by omega) (by omega) (by omega)
            have f54 : v54 = nI (s1 / A9) := by rw [e54, ← ew]; exact pk_div (by omega) (by omega) (by omega)
            refine lv_iload hx hb dX10_turned_57 (lv_at hl 8 rfl) ?_
            refine lv_if_ne (tgt := 76) hx hb dX10_turned_59 (by decide) (fun c59 => ?_) (fun c59 => ?_)
            · skip
              have d59 := c59
              rw [fa_eq] at d59
              refine lv_iload hx hb dX10_turned_76 (lv_at hl 8 rfl) ?_
              refine lv_iconst (v := 1) hx hb dX10_turned_78 (by decide) ?_
              refine lv_icmp_ne (tgt := 96) hx hb dX10_turned_79 (by decide) (fun c79 => ?_) (fun c79 => ?_)
              · skip
                have d79 := c79
                rw [fa_eq] at d79
                refine lv_iload hx hb dX10_turned_96 (lv_at hl 8 rfl) ?_
                refine lv_iconst (v := 2) hx hb dX10_turned_98 (by decide) ?_
                refine lv_icmp_ne (tgt := 112) hx hb dX10_turned_99 (by decide) (fun c99 => ?_) (fun c99 => ?_)
                · skip
                  have d99 := c99
                  rw [fa_eq] at d99
                  refine lv_iload hx hb dX10_turned_112 (lv_at hl 2 rfl) ?_
                  refine lv_istore (lv' := [(11, .int (nI s1)), (10, .int v54), (9, .int v48), (8, .int (nI s1)), (6, .long x6), (0, .ref mo), (1, .int w), (2, .int h), (3, .long p0), (5, .int how)]) hx hb dX10_turned_114 hl (by decide) rfl (fun ls hl => ?_)
                  refine lv_lload hx hb dX10_turned_116 (lv_at hl 4 rfl) ?_
                  refine lv_iload hx hb dX10_turned_118 (lv_at hl 9 rfl) ?_
                  refine lv_iconst (v := 3) hx hb dX10_turned_120 (by decide) ?_
                  refine lv_icmp_ne (tgt := 135) hx hb dX10_turned_121 (by decide) (fun c121 => ?_) (fun c121 => ?_)
                  · skip
                    have d121 := c121
                    rw [fa_eq] at d121
                    refine lv_lload_n hx hb dX10_turned_135 rfl (lv_at hl 8 rfl) ?_
                    refine lv_iload hx hb dX10_turned_136 (lv_at hl 3 rfl) ?_
                    refine m_pu (As := [.long p0, .int (nI s1)]) (rest := [.long x6]) ⟨hx, hb, hml, hown, hts⟩ (c_X10_one l p0 (nI s1) ) (va_cwS 2 hts gX10_turned_X10_one rfl rfl rfl (by decide +kernel) ⟨Nat.le_of_ble_eq_true rfl, Nat.le_of_ble_eq_true rfl⟩) hP rfl hl.1 rfl (Nat.le_of_ble_eq_true rfl) dX10_turned_138 ⟨Nat.le_of_ble_eq_true rfl, Nat.le_of_ble_eq_true rfl⟩ hS (fun r138 H locs q138 hP hS => ?_)
                    have i138 : r138.toInt = (r_one p0 (nI s1)).toInt := congrArg Int32.toInt q138
                    refine lv_i2l (v := r138.toInt64) hx hb dX10_turned_141 rfl ?_
                    refine lv_iload hx hb dX10_turned_142 (lv_at hl 0 rfl) ?_
                    refine lv_lshl (v := r138.toInt64 <<< ((nI s1).toInt64 &&& 63)) hx hb dX10_turned_144 rfl ?_
                    refine lv_lor hx hb dX10_turned_145 ?_
                    refine lv_topl (fun v145 e145 => ?_)
                    have hnx : v145 = tR A9 B9 p0 how.toInt (s1 + 1) := by
                      first
                      | exact tR_s (by omega) (by omega) rfl q138 j37_1 (by rw [e145, f72])
                      | exact tR_s (by omega) (by omega) rfl q138 j37_1 (by rw [e145, f92])
                      | exact tR_s (by omega) (by omega) rfl q138 j37_1 (by rw [e145, f108])
                      | exact tR_3 (by omega) (by omega) rfl q128 e131 j37_1 e145
                      | (exfalso; omega)
                    refine lv_lstore (lv' := [(6, .long v145), (11, .int (nI s1)), (10, .int v54), (9, .int v48), (8, .int (nI s1)), (0, .ref mo), (1, .int w), (2, .int h), (3, .long p0), (5, .int how)]) hx hb dX10_turned_146 hl (by decide) rfl (fun ls hl => ?_)
                    refine lv_iinc (v := (nI (s1 + 1))) (lv' := [(8, .int (nI (s1 + 1))), (6, .long v145), (11, .int (nI s1)), (10, .int v54), (9, .int v48), (0, .ref mo), (1, .int w), (2, .int h), (3, .long p0), (5, .int how)]) hx hb dX10_turned_148 hl (k := 4) rfl (nI_1 _) (by decide) rfl (fun ls hl => ?_)
                    refine lv_goto (tgt := 37) hx hb dX10_turned_151 (by decide) ?_
                    exact ih_37 (s1 + 1) v145 (by omega) (hnx) (by omega) _ _ hP hS ls (lv_sub hl [0, 1, 5, 6, 7, 8, 9] rfl)
                  · skip
                    have d121 := c121
                    rw [fa_eq] at d121
                    refine lv_iconst (v := 1) hx hb dX10_turned_124 (by decide) ?_
                    refine lv_lload_n hx hb dX10_turned_125 rfl (lv_at hl 8 rfl) ?_
                    refine lv_iload hx hb dX10_turned_126 (lv_at hl 3 rfl) ?_
                    refine m_pu (As := [.long p0, .int (nI s1)]) (rest := [.int (1 : Int32), .long x6]) ⟨hx, hb, hml, hown, hts⟩ (c_X10_one l p0 (nI s1) ) (va_cwS 2 hts gX10_turned_X10_one rfl rfl rfl (by decide +kernel) ⟨Nat.le_of_ble_eq_true rfl, Nat.le_of_ble_eq_true rfl⟩) hP rfl hl.1 rfl (Nat.le_of_ble_eq_true rfl) dX10_turned_128 ⟨Nat.le_of_ble_eq_true rfl, Nat.le_of_ble_eq_true rfl⟩ hS (fun r128 H locs q128 hP hS => ?_)
                    have i128 : r128.toInt = (r_one p0 (nI s1)).toInt := congrArg Int32.toInt q128
                    refine lv_isub hx hb dX10_turned_131 ?_
                    refine lv_topi (fun v131 e131 => ?_)
                    refine lv_goto (tgt := 141) hx hb dX10_turned_132 (by decide) ?_
                    refine lv_i2l (v := v131.toInt64) hx hb dX10_turned_141 rfl ?_
                    refine lv_iload hx hb dX10_turned_142 (lv_at hl 0 rfl) ?_
                    refine lv_lshl (v := v131.toInt64 <<< ((nI s1).toInt64 &&& 63)) hx hb dX10_turned_144 rfl ?_
                    refine lv_lor hx hb dX10_turned_145 ?_
                    refine lv_topl (fun v145 e145 => ?_)
                    have hnx : v145 = tR A9 B9 p0 how.toInt (s1 + 1) := by
                      first
                      | exact tR_s (by omega) (by omega) rfl q138 j37_1 (by rw [e145, f72])
                      | exact tR_s (by omega) (by omega) rfl q138 j37_1 (by rw [e145, f92])
                      | exact tR_s (by omega) (by omega) rfl q138 j37_1 (by rw [e145, f108])
                      | exact tR_3 (by omega) (by omega) rfl q128 e131 j37_1 e145
                      | (exfalso; omega)
                    refine lv_lstore (lv' := [(6, .long v145), (11, .int (nI s1)), (10, .int v54), (9, .int v48), (8, .int (nI s1)), (0, .ref mo), (1, .int w), (2, .int h), (3, .long p0), (5, .int how)]) hx hb dX10_turned_146 hl (by decide) rfl (fun ls hl => ?_)
                    refine lv_iinc (v := (nI (s1 + 1))) (lv' := [(8, .int (nI (s1 + 1))), (6, .long v145), (11, .int (nI s1)), (10, .int v54), (9, .int v48), (0, .ref mo), (1, .int w), (2, .int h), (3, .long p0), (5, .int how)]) hx hb dX10_turned_148 hl (k := 4) rfl (nI_1 _) (by decide) rfl (fun ls hl => ?_)
                    refine lv_goto (tgt := 37) hx hb dX10_turned_151 (by decide) ?_
                    exact ih_37 (s1 + 1) v145 (by omega) (hnx) (by omega) _ _ hP hS ls (lv_sub hl [0, 1, 5, 6, 7, 8, 9] rfl)
                · skip
                  have d99 := c99
                  rw [fa_eq] at d99
                  refine lv_iload hx hb dX10_turned_102 (lv_at hl 1 rfl) ?_
                  refine lv_iload_n hx hb dX10_turned_104 rfl (lv_at hl 6 rfl) ?_
                  refine lv_imul hx hb dX10_turned_105 ?_
                  refine lv_topi (fun v105 e105 => ?_)
                  refine lv_iload hx hb dX10_turned_106 (lv_at hl 0 rfl) ?_
                  refine lv_iadd hx hb dX10_turned_108 ?_
                  refine lv_topi (fun v108 e108 => ?_)
                  have f108 : v108 = nI (tP A9 B9 how.toInt (s1 % A9) (s1 / A9)) := by unfold tP; rw [if_neg (by omega), if_neg (by omega)]; exact t_p2 eh.symm f48 f54 e105 e108
                  refine lv_goto (tgt := 114) hx hb dX10_turned_109 (by decide) ?_
                  refine lv_istore (lv' := [(11, .int v108), (10, .int v54), (9, .int v48), (8, .int (nI s1)), (6, .long x6), (0, .ref mo), (1, .int w), (2, .int h), (3, .long p0), (5, .int how)]) hx hb dX10_turned_114 hl (by decide) rfl (fun ls hl => ?_)
                  refine lv_lload hx hb dX10_turned_116 (lv_at hl 4 rfl) ?_
                  refine lv_iload hx hb dX10_turned_118 (lv_at hl 9 rfl) ?_
                  refine lv_iconst (v := 3) hx hb dX10_turned_120 (by decide) ?_
                  refine lv_icmp_ne (tgt := 135) hx hb dX10_turned_121 (by decide) (fun c121 => ?_) (fun c121 => ?_)
                  · skip
                    have d121 := c121
                    rw [fa_eq] at d121
                    refine lv_lload_n hx hb dX10_turned_135 rfl (lv_at hl 8 rfl) ?_
                    refine lv_iload hx hb dX10_turned_136 (lv_at hl 3 rfl) ?_
                    refine m_pu (As := [.long p0, .int (nI s1)]) (rest := [.long x6]) ⟨hx, hb, hml, hown, hts⟩ (c_X10_one l p0 (nI s1) ) (va_cwS 2 hts gX10_turned_X10_one rfl rfl rfl (by decide +kernel) ⟨Nat.le_of_ble_eq_true rfl, Nat.le_of_ble_eq_true rfl⟩) hP rfl hl.1 rfl (Nat.le_of_ble_eq_true rfl) dX10_turned_138 ⟨Nat.le_of_ble_eq_true rfl, Nat.le_of_ble_eq_true rfl⟩ hS (fun r138 H locs q138 hP hS => ?_)
                    have i138 : r138.toInt = (r_one p0 (nI s1)).toInt := congrArg Int32.toInt q138
                    refine lv_i2l (v := r138.toInt64) hx hb dX10_turned_141 rfl ?_
                    refine lv_iload hx hb dX10_turned_142 (lv_at hl 0 rfl) ?_
                    refine lv_lshl (v := r138.toInt64 <<< (v108.toInt64 &&& 63)) hx hb dX10_turned_144 rfl ?_
                    refine lv_lor hx hb dX10_turned_145 ?_
                    refine lv_topl (fun v145 e145 => ?_)
                    have hnx : v145 = tR A9 B9 p0 how.toInt (s1 + 1) := by
                      first
                      | exact tR_s (by omega) (by omega) rfl q138 j37_1 (by rw [e145, f72])
                      | exact tR_s (by omega) (by omega) rfl q138 j37_1 (by rw [e145, f92])
                      | exact tR_s (by omega) (by omega) rfl q138 j37_1 (by rw [e145, f108])
                      | exact tR_3 (by omega) (by omega) rfl q128 e131 j37_1 e145
                      | (exfalso; omega)
                    refine lv_lstore (lv' := [(6, .long v145), (11, .int v108), (10, .int v54), (9, .int v48), (8, .int (nI s1)), (0, .ref mo), (1, .int w), (2, .int h), (3, .long p0), (5, .int how)]) hx hb dX10_turned_146 hl (by decide) rfl (fun ls hl => ?_)
                    refine lv_iinc (v := (nI (s1 + 1))) (lv' := [(8, .int (nI (s1 + 1))), (6, .long v145), (11, .int v108), (10, .int v54), (9, .int v48), (0, .ref mo), (1, .int w), (2, .int h), (3, .long p0), (5, .int how)]) hx hb dX10_turned_148 hl (k := 4) rfl (nI_1 _) (by decide) rfl (fun ls hl => ?_)
                    refine lv_goto (tgt := 37) hx hb dX10_turned_151 (by decide) ?_
                    exact ih_37 (s1 + 1) v145 (by omega) (hnx) (by omega) _ _ hP hS ls (lv_sub hl [0, 1, 5, 6, 7, 8, 9] rfl)
                  · skip
                    have d121 := c121
                    rw [fa_eq] at d121
                    refine lv_iconst (v := 1) hx hb dX10_turned_124 (by decide) ?_
                    refine lv_lload_n hx hb dX10_turned_125 rfl (lv_at hl 8 rfl) ?_
                    refine lv_iload hx hb dX10_turned_126 (lv_at hl 3 rfl) ?_
                    refine m_pu (As := [.long p0, .int (nI s1)]) (rest := [.int (1 : Int32), .long x6]) ⟨hx, hb, hml, hown, hts⟩ (c_X10_one l p0 (nI s1) ) (va_cwS 2 hts gX10_turned_X10_one rfl rfl rfl (by decide +kernel) ⟨Nat.le_of_ble_eq_true rfl, Nat.le_of_ble_eq_true rfl⟩) hP rfl hl.1 rfl (Nat.le_of_ble_eq_true rfl) dX10_turned_128 ⟨Nat.le_of_ble_eq_true rfl, Nat.le_of_ble_eq_true rfl⟩ hS (fun r128 H locs q128 hP hS => ?_)
                    have i128 : r128.toInt = (r_one p0 (nI s1)).toInt := congrArg Int32.toInt q128
                    refine lv_isub hx hb dX10_turned_131 ?_
                    refine lv_topi (fun v131 e131 => ?_)
                    refine lv_goto (tgt := 141) hx hb dX10_turned_132 (by decide) ?_
                    refine lv_i2l (v := v131.toInt64) hx hb dX10_turned_141 rfl ?_
                    refine lv_iload hx hb dX10_turned_142 (lv_at hl 0 rfl) ?_
                    refine lv_lshl (v := v131.toInt64 <<< (v108.toInt64 &&& 63)) hx hb dX10_turned_144 rfl ?_
                    refine lv_lor hx hb dX10_turned_145 ?_
                    refine lv_topl (fun v145 e145 => ?_)
                    have hnx : v145 = tR A9 B9 p0 how.toInt (s1 + 1) := by
                      first
                      | exact tR_s (by omega) (by omega) rfl q138 j37_1 (by rw [e145, f72])
                      | exact tR_s (by omega) (by omega) rfl q138 j37_1 (by rw [e145, f92])
                      | exact tR_s (by omega) (by omega) rfl q138 j37_1 (by rw [e145, f108])
                      | exact tR_3 (by omega) (by omega) rfl q128 e131 j37_1 e145
                      | (exfalso; omega)
                    refine lv_lstore (lv' := [(6, .long v145), (11, .int v108), (10, .int v54), (9, .int v48), (8, .int (nI s1)), (0, .ref mo), (1, .int w), (2, .int h), (3, .long p0), (5, .int how)]) hx hb dX10_turned_146 hl (by decide) rfl (fun ls hl => ?_)
                    refine lv_iinc (v := (nI (s1 + 1))) (lv' := [(8, .int (nI (s1 + 1))), (6, .long v145), (11, .int v108), (10, .int v54), (9, .int v48), (0, .ref mo), (1, .int w), (2, .int h), (3, .long p0), (5, .int how)]) hx hb dX10_turned_148 hl (k := 4) rfl (nI_1 _) (by decide) rfl (fun ls hl => ?_)
                    refine lv_goto (tgt := 37) hx hb dX10_turned_151 (by decide) ?_
                    exact ih_37 (s1 + 1) v145 (by omega) (hnx) (by omega) _ _ hP hS ls (lv_sub hl [0, 1, 5, 6, 7, 8, 9] rfl)
              · skip
                have d79 := c79
                rw [fa_eq] at d79
                refine lv_iload_n hx hb dX10_turned_82 rfl (lv_at hl 6 rfl) ?_
                refine lv_iconst (v := 1) hx hb dX10_turned_83 (by decide) ?_
                refine lv_isub hx hb dX10_turned_84 ?_
                refine lv_topi (fun v84 e84 => ?_)
                refine lv_iload hx hb dX10_turned_85 (lv_at hl 0 rfl) ?_
                refine lv_isub hx hb dX10_turned_87 ?_
                refine lv_topi (fun v87 e87 => ?_)
                refine lv_iload_n hx hb dX10_turned_88 rfl (lv_at hl 5 rfl) ?_
                refine lv_imul hx hb dX10_turned_89 ?_
                refine lv_topi (fun v89 e89 => ?_)
                refine lv_iload hx hb dX10_turned_90 (lv_at hl 1 rfl) ?_
                refine lv_iadd hx hb dX10_turned_92 ?_
                refine lv_topi (fun v92 e92 => ?_)
                have f92 : v92 = nI (tP A9 B9 how.toInt (s1 % A9) (s1 / A9)) := by unfold tP; rw [if_neg (by omega), if_pos (by omega)]; exact t_p1 ew.symm eh.symm (by omega) f48 f54 hdv e84 e87 e89 e92
                refine lv_goto (tgt := 114) hx hb dX10_turned_93 (by decide) ?_
                refine lv_istore (lv' := [(11, .int v92), (10, .int v54), (9, .int v48), (8, .int (nI s1)), (6, .long x6), (0, .ref mo), (1, .int w), (2, .int h), (3, .long p0), (5, .int how)]) hx hb dX10_turned_114 hl (by decide) rfl (fun ls hl => ?_)
                refine lv_lload hx hb dX10_turned_116 (lv_at hl 4 rfl) ?_
                refine lv_iload hx hb dX10_turned_118 (lv_at hl 9 rfl) ?_
                refine lv_iconst (v := 3) hx hb dX10_turned_120 (by decide) ?_
                refine lv_icmp_ne (tgt := 135) hx hb dX10_turned_121 (by decide) (fun c121 => ?_) (fun c121 => ?_)
                · skip
                  have d121 := c121
                  rw [fa_eq] at d121
                  refine lv_lload_n hx hb dX10_turned_135 rfl (lv_at hl 8 rfl) ?_
                  refine lv_iload hx hb dX10_turned_136 (lv_at hl 3 rfl) ?_
                  refine m_pu (As := [.long p0, .int (nI s1)]) (rest := [.long x6]) ⟨hx, hb, hml, hown, hts⟩ (c_X10_one l p0 (nI s1) ) (va_cwS 2 hts gX10_turned_X10_one rfl rfl rfl (by decide +kernel) ⟨Nat.le_of_ble_eq_true rfl, Nat.le_of_ble_eq_true rfl⟩) hP rfl hl.1 rfl (Nat.le_of_ble_eq_true rfl) dX10_turned_138 ⟨Nat.le_of_ble_eq_true rfl, Nat.le_of_ble_eq_true rfl⟩ hS (fun r138 H locs q138 hP hS => ?_)
                  have i138 : r138.toInt = (r_one p0 (nI s1)).toInt := congrArg Int32.toInt q138
                  refine lv_i2l (v := r138.toInt64) hx hb dX10_turned_141 rfl ?_
                  refine lv_iload hx hb dX10_turned_142 (lv_at hl 0 rfl) ?_
                  refine lv_lshl (v := r138.toInt64 <<< (v92.toInt64 &&& 63)) hx hb dX10_turned_144 rfl ?_
                  refine lv_lor hx hb dX10_turned_145 ?_
                  refine lv_topl (fun v145 e145 => ?_)
                  have hnx : v145 = tR A9 B9 p0 how.toInt (s1 + 1) := by
                    first
                    | exact tR_s (by omega) (by omega) rfl q138 j37_1 (by rw [e145, f72])
                    | exact tR_s (by omega) (by omega) rfl q138 j37_1 (by rw [e145, f92])
                    | exact tR_s (by omega) (by omega) rfl q138 j37_1 (by rw [e145, f108])
                    | exact tR_3 (by omega) (by omega) rfl q128 e131 j37_1 e145
                    | (exfalso; omega)
                  refine lv_lstore (lv' := [(6, .long v145), (11, .int v92), (10, .int v54), (9, .int v48), (8, .int (nI s1)), (0, .ref mo), (1, .int w), (2, .int h), (3, .long p0), (5, .int how)]) hx hb dX10_turned_146 hl (by decide) rfl (fun ls hl => ?_)
                  refine lv_iinc (v := (nI (s1 + 1))) (lv' := [(8, .int (nI (s1 + 1))), (6, .long v145), (11, .int v92), (10, .int v54), (9, .int v48), (0, .ref mo), (1, .int w), (2, .int h), (3, .long p0), (5, .int how)]) hx hb dX10_turned_148 hl (k := 4) rfl (nI_1 _) (by decide) rfl (fun ls hl => ?_)
                  refine lv_goto (tgt := 37) hx hb dX10_turned_151 (by decide) ?_
                  exact ih_37 (s1 + 1) v145 (by omega) (hnx) (by omega) _ _ hP hS ls (lv_sub hl [0, 1, 5, 6, 7, 8, 9] rfl)
                · skip
                  have d121 := c121
                  rw [fa_eq] at d121
                  refine lv_iconst (v := 1) hx hb dX10_turned_124 (by decide) ?_
                  refine lv_lload_n hx hb dX10_turned_125 rfl (lv_at hl 8 rfl) ?_
                  refine lv_iload hx hb dX10_turned_126 (lv_at hl 3 rfl) ?_
                  refine m_pu (As := [.long p0, .int (nI s1)]) (rest := [.int (1 : Int32), .long x6]) ⟨hx, hb, hml, hown, hts⟩ (c_X10_one l p0 (nI s1) ) (va_cwS 2 hts gX10_turned_X10_one rfl rfl rfl (by decide +kernel) ⟨Nat.le_of_ble_eq_true rfl, Nat.le_of_ble_eq_true rfl⟩) hP rfl hl.1 rfl (Nat.le_of_ble_eq_true rfl) dX10_turned_128 ⟨Nat.le_of_ble_eq_true rfl, Nat.le_of_ble_eq_true rfl⟩ hS (fun r128 H locs q128 hP hS => ?_)
                  have i128 : r128.toInt = (r_one p0 (nI s1)).toInt := congrArg Int32.toInt q128
                  refine lv_isub hx hb dX10_turned_131 ?_
                  refine lv_topi (fun v131 e131 => ?_)
                  refine lv_goto (tgt := 141) hx hb dX10_turned_132 (by decide) ?_
                  refine lv_i2l (v := v131.toInt64) hx hb dX10_turned_141 rfl ?_
                  refine lv_iload hx hb dX10_turned_142 (lv_at hl 0 rfl) ?_
                  refine lv_lshl (v := v131.toInt64 <<< (v92.toInt64 &&& 63)) hx hb dX10_turned_144 rfl ?_
                  refine lv_lor hx hb dX10_turned_145 ?_
                  refine lv_topl (fun v145 e145 => ?_)
                  have hnx : v145 = tR A9 B9 p0 how.toInt (s1 + 1) := by
                    first
                    | exact tR_s (by omega) (by omega) rfl q138 j37_1 (by rw [e145, f72])
                    | exact tR_s (by omega) (by omega) rfl q138 j37_1 (by rw [e145, f92])
                    | exact tR_s (by omega) (by omega) rfl q138 j37_1 (by rw [e145, f108])
                    | exact tR_3 (by omega) (by omega) rfl q128 e131 j37_1 e145
                    | (exfalso; omega)
                  refine lv_lstore (lv' := [(6, .long v145), (11, .int v92), (10, .int v54), (9, .int v48), (8, .int (nI s1)), (0, .ref mo), (1, .int w), (2, .int h), (3, .long p0), (5, .int how)]) hx hb dX10_turned_146 hl (by decide) rfl (fun ls hl => ?_)
                  refine lv_iinc (v := (nI (s1 + 1))) (lv' := [(8, .int (nI (s1 + 1))), (6, .long v145), (11, .int v92), (10, .int v54), (9, .int v48), (0, .ref mo), (1, .int w), (2, .int h), (3, .long p0), (5, .int how)]) hx hb dX10_turned_148 hl (k := 4) rfl (nI_1 _) (by decide) rfl (fun ls hl => ?_)
                  refine lv_goto (tgt := 37) hx hb dX10_turned_151 (by decide) ?_
                  exact ih_37 (s1 + 1) v145 (by omega) (hnx) (by omega) _ _ hP hS ls (lv_sub hl [0, 1, 5, 6, 7, 8, 9] rfl)
            · skip
              have d59 := c59
              rw [fa_eq] at d59
              refine lv_iload hx hb dX10_turned_62 (lv_at hl 1 rfl) ?_
              refine lv_iload_n hx hb dX10_turned_64 rfl (lv_at hl 6 rfl) ?_
              refine lv_imul hx hb dX10_turned_65 ?_
              refine lv_topi (fun v65 e65 => ?_)
              refine lv_iload_n hx hb dX10_turned_66 rfl (lv_at hl 6 rfl) ?_
              refine lv_iadd hx hb dX10_turned_67 ?_
              refine lv_topi (fun v67 e67 => ?_)
              refine lv_iconst (v := 1) hx hb dX10_turned_68 (by decide) ?_
              refine lv_isub hx hb dX10_turned_69 ?_
              refine lv_topi (fun v69 e69 => ?_)
              refine lv_iload hx hb dX10_turned_70 (lv_at hl 0 rfl) ?_
              refine lv_isub hx hb dX10_turned_72 ?_
              refine lv_topi (fun v72 e72 => ?_)
              have f72 : v72 = nI (tP A9 B9 how.toInt (s1 % A9) (s1 / A9)) := by unfold tP; rw [if_pos (by omega)]; exact t_p0 ew.symm eh.symm (by omega) f48 f54 hdv e65 e67 e69 e72
              refine lv_goto (tgt := 114) hx hb dX10_turned_73 (by decide) ?_
              refine lv_istore (lv' := [(11, .int v72), (10, .int v54), (9, .int v48), (8, .int (nI s1)), (6, .long x6), (0, .ref mo), (1, .int w), (2, .int h), (3, .long p0), (5, .int how)]) hx hb dX10_turned_114 hl (by decide) rfl (fun ls hl => ?_)
              refine lv_lload hx hb dX10_turned_116 (lv_at hl 4 rfl) ?_
              refine lv_iload hx hb dX10_turned_118 (lv_at hl 9 rfl) ?_
              refine lv_iconst (v := 3) hx hb dX10_turned_120 (by decide) ?_
              refine lv_icmp_ne (tgt := 135) hx hb dX10_turned_121 (by decide) (fun c121 => ?_) (fun c121 => ?_)
              · skip
                have d121 := c121
                rw [fa_eq] at d121
                refine lv_lload_n hx hb dX10_turned_135 rfl (lv_at hl 8 rfl) ?_
                refine lv_iload hx hb dX10_turned_136 (lv_at hl 3 rfl) ?_
                refine m_pu (As := [.long p0, .int (nI s1)]) (rest := [.long x6]) ⟨hx, hb, hml, hown, hts⟩ (c_X10_one l p0 (nI s1) ) (va_cwS 2 hts gX10_turned_X10_one rfl rfl rfl (by decide +kernel) ⟨Nat.le_of_ble_eq_true rfl, Nat.le_of_ble_eq_true rfl⟩) hP rfl hl.1 rfl (Nat.le_of_ble_eq_true rfl) dX10_turned_138 ⟨Nat.le_of_ble_eq_true rfl, Nat.le_of_ble_eq_true rfl⟩ hS (fun r138 H locs q138 hP hS => ?_)
                have i138 : r138.toInt = (r_one p0 (nI s1)).toInt := congrArg Int32.toInt q138
                refine lv_i2l (v := r138.toInt64) hx hb dX10_turned_141 rfl ?_
                refine lv_iload hx hb dX10_turned_142 (lv_at hl 0 rfl) ?_
                refine lv_lshl (v := r138.toInt64 <<< (v72.toInt64 &&& 63)) hx hb dX10_turned_144 rfl ?_
                refine lv_lor hx hb dX10_turned_145 ?_
                refine lv_topl (fun v145 e145 => ?_)
                have hnx : v145 = tR A9 B9 p0 how.toInt (s1 + 1) := by
                  first
                  | exact tR_s (by omega) (by omega) rfl q138 j37_1 (by rw [e145, f72])
                  | exact tR_s (by omega) (by omega) rfl q138 j37_1 (by rw [e145, f92])
                  | exact tR_s (by omega) (by omega) rfl q138 j37_1 (by rw [e145, f108])
                  | exact tR_3 (by omega) (by omega) rfl q128 e131 j37_1 e145
                  | (exfalso; omega)
                refine lv_lstore (lv' := [(6, .long v145), (11, .int v72), (10, .int v54), (9, .int v48), (8, .int (nI s1)), (0, .ref mo), (1, .int w), (2, .int h), (3, .long p0), (5, .int how)]) hx hb dX10_turned_146 hl (by decide) rfl (fun ls hl => ?_)
                refine lv_iinc (v := (nI (s1 + 1))) (lv' := [(8, .int (nI (s1 + 1))), (6, .long v145), (11, .int v72), (10, .int v54), (9, .int v48), (0, .ref mo), (1, .int w), (2, .int h), (3, .long p0), (5, .int how)]) hx hb dX10_turned_148 hl (k := 4) rfl (nI_1 _) (by decide) rfl (fun ls hl => ?_)
                refine lv_goto (tgt := 37) hx hb dX10_turned_151 (by decide) ?_
                exact ih_37 (s1 + 1) v145 (by omega) (hnx) (by omega) _ _ hP hS ls (lv_sub hl [0, 1, 5, 6, 7, 8, 9] rfl)
              · skip
                have d121 := c121
                rw [fa_eq] at d121
                refine lv_iconst (v := 1) hx hb dX10_turned_124 (by decide) ?_
                refine lv_lload_n hx hb dX10_turned_125 rfl (lv_at hl 8 rfl) ?_
                refine lv_iload hx hb dX10_turned_126 (lv_at hl 3 rfl) ?_
                refine m_pu (As := [.long p0, .int (nI s1)]) (rest := [.int (1 : Int32), .long x6]) ⟨hx, hb, hml, hown, hts⟩ (c_X10_one l p0 (nI s1) ) (va_cwS 2 hts gX10_turned_X10_one rfl rfl rfl (by decide +kernel) ⟨Nat.le_of_ble_eq_true rfl, Nat.le_of_ble_eq_true rfl⟩) hP rfl hl.1 rfl (Nat.le_of_ble_eq_true rfl) dX10_turned_128 ⟨Nat.le_of_ble_eq_true rfl, Nat.le_of_ble_eq_true rfl⟩ hS (fun r128 H locs q128 hP hS => ?_)
                have i128 : r128.toInt = (r_one p0 (nI s1)).toInt := congrArg Int32.toInt q128
                refine lv_isub hx hb dX10_turned_131 ?_
                refine lv_topi (fun v131 e131 => ?_)
                refine lv_goto (tgt := 141) hx hb dX10_turned_132 (by decide) ?_
                refine lv_i2l (v := v131.toInt64) hx hb dX10_turned_141 rfl ?_
                refine lv_iload hx hb dX10_turned_142 (lv_at hl 0 rfl) ?_
                refine lv_lshl (v := v131.toInt64 <<< (v72.toInt64 &&& 63)) hx hb dX10_turned_144 rfl ?_
                refine lv_lor hx hb dX10_turned_145 ?_
                refine lv_topl (fun v145 e145 => ?_)
                have hnx : v145 = tR A9 B9 p0 how.toInt (s1 + 1) := by
                  first
                  | exact tR_s (by omega) (by omega) rfl q138 j37_1 (by rw [e145, f72])
                  | exact tR_s (by omega) (by omega) rfl q138 j37_1 (by rw [e145, f92])
                  | exact tR_s (by omega) (by omega) rfl q138 j37_1 (by rw [e145, f108])
                  | exact tR_3 (by omega) (by omega) rfl q128 e131 j37_1 e145
                  | (exfalso; omega)
                refine lv_lstore (lv' := [(6, .long v145), (11, .int v72), (10, .int v54), (9, .int v48), (8, .int (nI s1)), (0, .ref mo), (1, .int w), (2, .int h), (3, .long p0), (5, .int how)]) hx hb dX10_turned_146 hl (by decide) rfl (fun ls hl => ?_)
                refine lv_iinc (v := (nI (s1 + 1))) (lv' := [(8, .int (nI (s1 + 1))), (6, .long v145), (11, .int v72), (10, .int v54), (9, .int v48), (0, .ref mo), (1, .int w), (2, .int h), (3, .long p0), (5, .int how)]) hx hb dX10_turned_148 hl (k := 4) rfl (nI_1 _) (by decide) rfl (fun ls hl => ?_)
                refine lv_goto (tgt := 37) hx hb dX10_turned_151 (by decide) ?_
                exact ih_37 (s1 + 1) v145 (by omega) (hnx) (by omega) _ _ hP hS ls (lv_sub hl [0, 1, 5, 6, 7, 8, 9] rfl)
      exact loop_37 (A9 * B9 + 1) 0 (0 : Int64) (by omega) (tR_0 _ _ _ _) (by omega) _ _ hP hS ls (lv_sub hl [0, 1, 2, 3, 4, 5, 6] rfl)
    · skip
      have b24 := bo_f q21 c24
      refine lv_ldc2 hx hb hown (hts (.constantLong RX10 185 (-1)) (by decide +kernel)) dX10_turned_27 ?_
      exact W.lret (v := (-1 : Int64)) hx hb hr (fun t ht hW => ⟨⟨_, ((upd f 0 (0 : Int32)), g, r, q), rfl, ⟨rfl, (Or.inr ⟨(fun z9 => by first | exact goodP_no b11 z9.1 | exact b24 z9.2), rfl⟩)⟩, by unfold mB; rw [ht]; exact hP⟩, hS.F ht⟩) hS.2.2 dX10_turned_30
