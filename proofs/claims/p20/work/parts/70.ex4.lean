
section FARD
/-- a picture's bits by row and column -/
def pB (w : Nat) (p : Int64) : Nat → Nat → Bool := fun y x => lb p (y * w + x)
def hiZ (w h : Nat) (p : Int64) : Prop := ∀ i, w * h ≤ i → i < 64 → lb p i = false
theorem fr_one (g : Nat → Bool) (x : Nat) : ∀ n, bs (fun i => decide (i = x) && g i) n = if x < n then (g x).toNat else 0 := by
  intro n
  induction n with
  | zero => rfl
  | succ n ih =>
    simp only [bs]
    rw [ih]
    by_cases z : n = x
    · subst z
      rw [decide_eq_true rfl, Bool.true_and, if_neg (Nat.lt_irrefl _), if_pos (Nat.lt_succ_self _), Nat.zero_add]
    · rw [decide_eq_false z, Bool.false_and, Bool.toNat_false, Nat.add_zero]
      by_cases c : x < n
      · rw [if_pos c, if_pos (by omega)]
      · rw [if_neg c, if_neg (by omega)]
theorem fr_none {f : Nat → Bool} : ∀ n, (∀ i, i < n → f i = false) → bs f n = 0 := by
  intro n
  induction n with
  | zero => intro _; rfl
  | succ n ih => intro h; simp only [bs]; rw [ih (fun i hi => h i (by omega)), h n (by omega)]; rfl
theorem dm_at {w k i : Nat} (hi : i < w) : (k * w + i) / w = k ∧ (k * w + i) % w = i := by
  have h0 : 0 < w := by omega
  rw [Nat.mul_comm k w]
  exact ⟨by rw [Nat.mul_add_div h0, Nat.div_eq_of_lt hi, Nat.add_zero], by rw [Nat.mul_add_mod, Nat.mod_eq_of_lt hi]⟩
theorem sh_row {w h : Nat} {p : Int64} {y : Nat} (hy : y < h) : shN w h p 0 y = bs (pB w p y) w := by
  have g : ∀ k, bs (fun s => decide (lnT h 0 (s % w) (s / w) = y) && lb p s) (k * w) = if y < k then bs (pB w p y) w else 0 := by
    intro k
    induction k with
    | zero => rw [Nat.zero_mul]; rfl
    | succ k ih =>
      rw [Nat.succ_mul, bs_add, ih]
      by_cases z : k = y
      · subst z
        rw [if_neg (Nat.lt_irrefl _), if_pos (Nat.lt_succ_self _), Nat.zero_add]
        apply ry_eq
        intro i hi
        show (decide (lnT h 0 ((k * w + i) % w) ((k * w + i) / w) = k) && lb p (k * w + i)) = lb p (k * w + i)
        rw [(dm_at hi).1, decide_eq_true (show lnT h 0 _ k = k from rfl), Bool.true_and]
      · have e : bs (fun i => (fun s => decide (lnT h 0 (s % w) (s / w) = y) && lb p s) (k * w + i)) w = 0 := fr_none w (fun i hi => by
          show (decide (lnT h 0 ((k * w + i) % w) ((k * w + i) / w) = y) && lb p (k * w + i)) = false
          rw [(dm_at hi).1, decide_eq_false (show ¬ lnT h 0 _ k = y from z), Bool.false_and])
        rw [e, Nat.add_zero]
        by_cases c : y < k
        · rw [if_pos c, if_pos (by omega)]
        · rw [if_neg c, if_neg (by omega)]
  unfold shN
  rw [Nat.mul_comm w h, g h, if_pos hy]
theorem sh_clm {w h : Nat} {p : Int64} {x : Nat} (hx : x < w) : shN w h p 1 x = bs (fun y => pB w p y x) h := by
  have g : ∀ k, bs (fun s => decide (lnT h 1 (s % w) (s / w) = x) && lb p s) (k * w) = bs (fun y => pB w p y x) k := by
    intro k
    induction k with
    | zero => rw [Nat.zero_mul]; rfl
    | succ k ih =>
      rw [Nat.succ_mul, bs_add, ih]
      simp only [bs]
      have e : bs (fun i => (fun s => decide (lnT h 1 (s % w) (s / w) = x) && lb p s) (k * w + i)) w = bs (fun i => decide (i = x) && lb p (k * w + i)) w := ry_eq w (fun i hi => by
        show (decide (lnT h 1 ((k * w + i) % w) ((k * w + i) / w) = x) && lb p (k * w + i)) = _
        rw [(dm_at hi).2, show lnT h 1 i ((k * w + i) / w) = i from rfl])
      rw [e, fr_one (fun i => lb p (k * w + i)) x w, if_pos hx]
      rfl
  unfold shN
  rw [Nat.mul_comm w h, g h]
theorem al_sums {w h : Nat} {p q : Int64} (h0 : alike w h p q 0) (h1 : alike w h p q 1) : sums w h (pB w p) (pB w q) := by
  refine ⟨fun y hy => ?_, fun x hx => ?_⟩
  · rw [← sh_row hy, ← sh_row hy]
    exact h0 y (by unfold lnC; rw [if_pos rfl]; exact hy)
  · rw [← sh_clm hx, ← sh_clm hx]
    exact h1 x (by unfold lnC; rw [if_neg (by decide), if_pos rfl]; exact hx)
theorem sw_ok9 {w : Nat} {p : Int64} {y v x u : Nat} : swB w p y v x u = true ↔ swOk (pB w p) y v x u := by
  unfold swB swOk pB
  cases lb p (y * w + x) <;> cases lb p (v * w + u) <;> cases lb p (y * w + u) <;> cases lb p (v * w + x) <;> decide
theorem pl_eq {w a b y x : Nat} (hb : b < w) (hx : x < w) : a * w + b = y * w + x ↔ a = y ∧ b = x := by
  constructor
  · intro z
    have e1 := dm_at (k := a) hb
    have e2 := dm_at (k := y) hx
    rw [z] at e1
    exact ⟨e1.1.symm.trans e2.1, e1.2.symm.trans e2.2⟩
  · rintro ⟨rfl, rfl⟩; rfl
theorem x4b (P A B C D : Bool) (h : (A && B) = false ∧ (A && C) = false ∧ (A && D) = false ∧ (B && C) = false ∧ (B && D) = false ∧ (C && D) = false) : ((((P ^^ A) ^^ B) ^^ C) ^^ D) = if (A || B || C || D) = true then !P else P := by
  revert h
  cases P <;> cases A <;> cases B <;> cases C <;> cases D <;> decide
theorem sw_bits {w h : Nat} {p : Int64} {y v x u a b : Nat} (hw : w ≤ 6) (hh : h ≤ 6) (hyv : y < v) (hv : v < h) (hxu : x < u) (hu : u < w) (ha : a < h) (hb : b < w) : pB w (swX w p y v x u) a b = swP (pB w p) y v x u a b := by
  obtain ⟨⟨l1', l2, l3, l4⟩, n1, n2, n3, n4, n5, n6⟩ := sw_pl hw hh hyv hv hxu hu
  have i64 : a * w + b < 64 := kw_b (k := a) (i := b) hw hh hb ha
  show lb (swX w p y v x u) (a * w + b) = _
  unfold swX
  simp only [lb_xor, lb_l1 l1' i64, lb_l1 l2 i64, lb_l1 l3 i64, lb_l1 l4 i64]
  rw [x4b _ _ _ _ _ ⟨dne n1, dne n2, dne n3, dne n4, dne n5, dne n6⟩]
  unfold swP pB
  have e : ((decide (a * w + b = y * w + x) || decide (a * w + b = v * w + u) || decide (a * w + b = y * w + u) || decide (a * w + b = v * w + x)) = true) ↔ ((a = y ∨ a = v) ∧ (b = x ∨ b = u)) := by
    simp only [Bool.or_eq_true, decide_eq_true_eq]
    rw [pl_eq hb (by omega), pl_eq hb hu, pl_eq hb hu, pl_eq hb (by omega)]
    omega
  by_cases c : (a = y ∨ a = v) ∧ (b = x ∨ b = u)
  · rw [if_pos c, if_pos (e.mpr c)]
  · rw [if_neg c, if_neg (fun z => c (e.mp z))]
theorem sw_hi {w h : Nat} {p : Int64} {y v x u : Nat} (hw : w ≤ 6) (hh : h ≤ 6) (hyv : y < v) (hv : v < h) (hxu : x < u) (hu : u < w) (hz : hiZ w h p) : hiZ w h (swX w p y v x u) := fun i hi h64 => by
  obtain ⟨⟨l1', l2, l3, l4⟩, -⟩ := sw_pl hw hh hyv hv hxu hu
  have lt : ∀ {a b : Nat}, a < h → b < w → a * w + b < w * h := fun {a b} ha hb => by
    have m := Nat.mul_le_mul_right w (show a + 1 ≤ h from ha)
    rw [Nat.succ_mul, Nat.mul_comm h w] at m
    omega
  have a1 := lt (a := y) (b := x) (by omega) (by omega)
  have a2 := lt (a := v) (b := u) hv hu
  have a3 := lt (a := y) (b := u) (by omega) hu
  have a4 := lt (a := v) (b := x) hv (by omega)
  unfold swX
  simp only [lb_xor, lb_l1 l1' h64, lb_l1 l2 h64, lb_l1 l3 h64, lb_l1 l4 h64]
  rw [hz i hi h64, decide_eq_false (by omega), decide_eq_false (by omega), decide_eq_false (by omega), decide_eq_false (by omega)]
  rfl
theorem mtA_hi {w h d : Nat} {s : mtS} {q : Int64} (hs : ∀ i, i < s.2.2.1 → hiZ w h (s.1 i)) (hq : hiZ w h q) : ∀ i, i < (mtA d s q).2.2.1 → hiZ w h ((mtA d s q).1 i) := by
  by_cases c : s.2.2.2 = true
  · rw [mtA_o c]; exact hs
  · by_cases hk : ∃ i, i < s.2.2.1 ∧ s.1 i = q
    · rw [mtA_k c hk]; exact hs
    · by_cases hn : s.2.2.1 = 20000
      · rw [mtA_f c hk hn]; exact hs
      · rw [mtA_n c hk hn]
        intro i hi
        have hi' : i < s.2.2.1 + 1 := hi
        show hiZ w h (if i = s.2.2.1 then q else s.1 i)
        by_cases z : i = s.2.2.1
        · rw [if_pos z]; exact hq
        · rw [if_neg z]; exact hs i (by omega)
theorem nbA_hi {w h d : Nat} (hb : 1 ≤ w ∧ w ≤ 6 ∧ 1 ≤ h ∧ h ≤ 6) {p : Int64} (hp : hiZ w h p) {s : mtS} (hs : ∀ i, i < s.2.2.1 → hiZ w h (s.1 i)) : ∀ k, k ≤ cfo w h → ∀ i, i < (nbA w h p d s k).2.2.1 → hiZ w h ((nbA w h p d s k).1 i) := by
  intro k
  induction k with
  | zero => intro _; exact hs
  | succ k ih =>
    intro hk
    simp only [nbA]
    by_cases c : swq w h p k = true
    · rw [if_pos c]
      obtain ⟨⟨o1, o2⟩, o3, o4⟩ := fo_ok hb (show k < cfo w h from hk)
      exact mtA_hi (ih (by omega)) (sw_hi hb.2.1 hb.2.2.2 o1 o2 o3 o4 hp)
    · rw [if_neg c]; exact ih (by omega)
theorem nbA_D {w h d : Nat} {p : Int64} {s : mtS} : ∀ k i, s.2.2.1 ≤ i → i < (nbA w h p d s k).2.2.1 → (nbA w h p d s k).2.1 i = d := by
  intro k
  induction k with
  | zero => intro i h1 h2; exact absurd (Nat.lt_of_le_of_lt h1 h2) (Nat.lt_irrefl _)
  | succ k ih =>
    intro i h1
    simp only [nbA]
    by_cases c : swq w h p k = true
    · rw [if_pos c]
      by_cases o : (nbA w h p d s k).2.2.2 = true
      · rw [mtA_o o]; exact ih i h1
      · by_cases hk : ∃ j, j < (nbA w h p d s k).2.2.1 ∧ (nbA w h p d s k).1 j = swx w h p k
        · rw [mtA_k o hk]; exact ih i h1
        · by_cases hn : (nbA w h p d s k).2.2.1 = 20000
          · rw [mtA_f o hk hn]; exact ih i h1
          · rw [mtA_n o hk hn]
            intro h2
            have h2' : i < (nbA w h p d s k).2.2.1 + 1 := h2
            show (if i = (nbA w h p d s k).2.2.1 then d else (nbA w h p d s k).2.1 i) = d
            by_cases z : i = (nbA w h p d s k).2.2.1
            · rw [if_pos z]
            · rw [if_neg z]; exact ih i h1 (by omega)
    · rw [if_neg c]; exact ih i h1
def st0 (p : Int64) : mtS := (fun _ => p, fun _ => 0, 1, false)
theorem bfA_le {w h : Nat} {s : mtS} : ∀ k j, j ≤ k → mtLe (bfA w h s j) (bfA w h s k) := by
  intro k
  induction k with
  | zero => intro j hj; rw [show j = 0 by omega]; exact mtLe.rf
  | succ k ih =>
    intro j hj
    by_cases z : j = k + 1
    · rw [z]; exact mtLe.rf
    · exact (ih j (by omega)).tr (nbA_le (cfo w h))
theorem bfA_hi {w h : Nat} (hb : 1 ≤ w ∧ w ≤ 6 ∧ 1 ≤ h ∧ h ≤ 6) {p : Int64} (hp : hiZ w h p) : ∀ k, (∀ j, j < k → j < (bfA w h (st0 p) j).2.2.1) → ∀ i, i < (bfA w h (st0 p) k).2.2.1 → hiZ w h ((bfA w h (st0 p) k).1 i) := by
  intro k
  induction k with
  | zero => intro _ i _; exact hp
  | succ k ih =>
    intro hl
    have h1 := ih (fun j hj => hl j (by omega))
    exact nbA_hi hb (h1 k (hl k (by omega))) h1 (cfo w h) (Nat.le_refl _)
theorem bfA_Dl {w h : Nat} {p : Int64} : ∀ k, (∀ j, j < k → j < (bfA w h (st0 p) j).2.2.1) → ∀ i, i < (bfA w h (st0 p) k).2.2.1 → (bfA w h (st0 p) k).2.1 i ≤ i := by
  intro k
  induction k with
  | zero => intro _ i _; exact Nat.zero_le _
  | succ k ih =>
    intro hl i hi
    have h1 := ih (fun j hj => hl j (by omega))
    have hk := hl k (by omega)
    have le := nbA_le (w := w) (h := h) (p := (bfA w h (st0 p) k).1 k) (d := (bfA w h (st0 p) k).2.1 k + 1) (s := bfA w h (st0 p) k) (cfo w h)
    by_cases c : i < (bfA w h (st0 p) k).2.2.1
    · show (nbA w h _ _ _ (cfo w h)).2.1 i ≤ i
      rw [(le.2 i c).2]
      exact h1 i c
    · show (nbA w h _ _ _ (cfo w h)).2.1 i ≤ i
      rw [nbA_D (cfo w h) i (by omega) hi]
      have := h1 k hk
      omega
/-- a search that comes to its end has met every picture with the same rows and columns -/
theorem far_end {w h : Nat} (hb : 1 ≤ w ∧ w ≤ 6 ∧ 1 ≤ h ∧ h ≤ 6) {p q : Int64} (hp : hiZ w h p) (hq : hiZ w h q) (h0 : alike w h p q 0) (h1 : alike w h p q 1) {k : Nat} (ho : ∀ j, j ≤ k → (bfA w h (st0 p) j).2.2.2 = false) (hl : ∀ j, j < k → j < (bfA w h (st0 p) j).2.2.1) (hn : (bfA w h (st0 p) k).2.2.1 ≤ k) : isIn9 (bfA w h (st0 p) k) q := by
  have z0 := bfA_hi hb hp k hl
  have m36 : w * h ≤ 36 := Nat.mul_le_mul hb.2.1 hb.2.2.2
  have hP : swCl w h (fun C => ∃ i, i < (bfA w h (st0 p) k).2.2.1 ∧ ∀ y, y < h → ∀ x, x < w → pB w ((bfA w h (st0 p) k).1 i) y x = C y x) := by
    rintro C y v x u hyv hv hxu hu ok ⟨i, hi, e⟩
    have hik : i < k := by omega
    have hii := hl i hik
    have le := bfA_le (w := w) (h := h) (s := st0 p) k i (by omega)
    have mi := (le.2 i hii).1
    have ok' : swB w ((bfA w h (st0 p) i).1 i) y v x u = true := by
      rw [sw_ok9]
      unfold swOk
      rw [← mi, e y (by omega) x (by omega), e v hv u hu, e y (by omega) u hu, e v hv x (by omega)]
      exact ok
    have at9 := swq_at (p := (bfA w h (st0 p) i).1 i) (show w < 7 by omega) (show h < 7 by omega) hyv hv hxu hu
    have inn := nbA_in (w := w) (h := h) (p := (bfA w h (st0 p) i).1 i) (d := (bfA w h (st0 p) i).2.1 i + 1) (s := bfA w h (st0 p) i) (cfo w h) (ho (i + 1) hik) _ (fo_lt (show w < 7 by omega) (show h < 7 by omega) hyv hv hxu hu) (by rw [at9.1]; exact ok')
    rw [at9.2] at inn
    obtain ⟨i2, b1, b2⟩ := isIn9.le (u := bfA w h (st0 p) k) inn (bfA_le k (i + 1) hik)
    refine ⟨i2, b1, fun a ha b hbb => ?_⟩
    rw [b2, sw_bits hb.2.1 hb.2.2.2 hyv hv hxu hu ha hbb]
    unfold swP
    rw [← mi, e a ha b hbb]
  obtain ⟨i, hi, e⟩ := ryser hP (fun C C' hc ⟨i, hi, e⟩ => ⟨i, hi, fun y hy x hx => (e y hy x hx).trans (hc y hy x hx)⟩) (al_sums h0 h1) ⟨0, by
    have := (bfA_le (w := w) (h := h) (s := st0 p) k 0 (Nat.zero_le _)).1
    exact Nat.lt_of_lt_of_le (show 0 < 1 by omega) this, fun y hy x hx => by
    have := ((bfA_le (w := w) (h := h) (s := st0 p) k 0 (Nat.zero_le _)).2 0 (show 0 < 1 by omega)).1
    rw [this]; rfl⟩
  refine ⟨i, hi, lb_ext (fun s hs => ?_)⟩
  by_cases c : s < w * h
  · have hw0 : 0 < w := by omega
    have d1 : s / w < h := Nat.div_lt_of_lt_mul c
    have d2 := Nat.mod_lt s hw0
    have := e (s / w) d1 (s % w) d2
    unfold pB at this
    rw [Nat.mul_comm (s / w) w, Nat.div_add_mod] at this
    exact this
  · rw [z0 i hi s (by omega) hs, hq s (by omega) hs]
/-- what far answers for two unlike pictures with the same rows and columns -/
def farR (w h : Nat) (p q : Int64) (x : Int) : Prop := ∃ k, (∀ j, j ≤ k → (bfA w h (st0 p) j).2.2.2 = false ∧ ¬ isIn9 (bfA w h (st0 p) j) q ∧ j < (bfA w h (st0 p) j).2.2.1) ∧ ((isIn9 (bfA w h (st0 p) (k + 1)) q ∧ x = ((bfA w h (st0 p) k).2.1 k : Int) + 1) ∨ (¬ isIn9 (bfA w h (st0 p) (k + 1)) q ∧ (bfA w h (st0 p) (k + 1)).2.2.2 = true ∧ x = -5))
theorem farR_eq {w h : Nat} {p q : Int64} {x y : Int} (hx : farR w h p q x) (hy : farR w h p q y) : x = y := by
  obtain ⟨k, a, b⟩ := hx
  obtain ⟨k', a', b'⟩ := hy
  have no : ∀ {k k' : Nat} {x : Int}, k < k' → ((isIn9 (bfA w h (st0 p) (k + 1)) q ∧ x = ((bfA w h (st0 p) k).2.1 k : Int) + 1) ∨ (¬ isIn9 (bfA w h (st0 p) (k + 1)) q ∧ (bfA w h (st0 p) (k + 1)).2.2.2 = true ∧ x = -5)) → (∀ j, j ≤ k' → (bfA w h (st0 p) j).2.2.2 = false ∧ ¬ isIn9 (bfA w h (st0 p) j) q ∧ j < (bfA w h (st0 p) j).2.2.1) → False := fun {k k' x} hk b a => by
    obtain ⟨c1, c2, -⟩ := a (k + 1) hk
    rcases b with ⟨b1, -⟩ | ⟨-, b2, -⟩
    · exact c2 b1
    · rw [c1] at b2; cases b2
  rcases Nat.lt_trichotomy k k' with z | z | z
  · exact (no z b a').elim
  · subst z
    rcases b with ⟨b1, b2⟩ | ⟨b1, b2, b3⟩ <;> rcases b' with ⟨c1, c2⟩ | ⟨c1, c2, c3⟩
    · rw [b2, c2]
    · exact absurd b1 c1
    · exact absurd c1 b1
    · rw [b3, c3]
  · exact (no z b' a).elim
/-- the class's rings: e is where the ring of s ends -/
def rngC (S : mtS) (k s e : Nat) : Prop := (k ≤ e ∧ e ≤ S.2.2.1) ∧ (∀ i, k ≤ i → i < e → S.2.1 i = s) ∧ ∀ i, e ≤ i → i < S.2.2.1 → S.2.1 i = s + 1
theorem rngC_0 {p : Int64} : rngC (st0 p) 0 0 1 := ⟨⟨by omega, Nat.le_refl _⟩, fun i _ _ => rfl, fun i h1 h2 => absurd (Nat.lt_of_le_of_lt h1 h2) (Nat.lt_irrefl _)⟩
theorem rngC_n {S : mtS} {k s e : Nat} (h : rngC S k s e) (hk : k < S.2.2.1) (he : k = e) : rngC S k (s + 1) S.2.2.1 := ⟨⟨by omega, Nat.le_refl _⟩, fun i h1 h2 => h.2.2 i (by omega) h2, fun i h1 h2 => absurd (Nat.lt_of_le_of_lt h1 h2) (Nat.lt_irrefl _)⟩
theorem rngC_s {w h : Nat} {S : mtS} {k s e : Nat} (hr : rngC S k s e) (hk : k < e) : S.2.1 k = s ∧ rngC (nbA w h (S.1 k) (S.2.1 k + 1) S (cfo w h)) (k + 1) s e := by
  have dk : S.2.1 k = s := hr.2.1 k (Nat.le_refl _) hk
  have le := nbA_le (w := w) (h := h) (p := S.1 k) (d := S.2.1 k + 1) (s := S) (cfo w h)
  refine ⟨dk, ⟨by omega, Nat.le_trans hr.1.2 le.1⟩, fun i h1 h2 => ?_, fun i h1 h2 => ?_⟩
  · rw [(le.2 i (Nat.lt_of_lt_of_le h2 hr.1.2)).2]
    exact hr.2.1 i (by omega) h2
  · by_cases c : i < S.2.2.1
    · rw [(le.2 i c).2]; exact hr.2.2 i h1 c
    · rw [nbA_D (cfo w h) i (by omega) h2, dk]
end FARD

section SIDX
def okP (n z : Nat) : Bool := decide (z / n < z % n)
theorem okP_all : ∀ n, n < 7 → ∀ b, b < n → ∀ a, a < b → bs (okP n) (a * n + b) = prI n a b := by decide +kernel
theorem okP_n : ∀ n, n < 7 → bs (okP n) (n * n) = n * (n - 1) / 2 := by decide +kernel
theorem bs_blk (P Q : Nat → Bool) (M : Nat) (hM : 0 < M) : ∀ Y r, r ≤ M → bs (fun s => P (s / M) && Q (s % M)) (Y * M + r) = bs P Y * bs Q M + (if P Y = true then bs Q r else 0) := by
  have blk : ∀ Y r, r ≤ M → bs (fun i => (fun s => P (s / M) && Q (s % M)) (Y * M + i)) r = if P Y = true then bs Q r else 0 := fun Y r hr => by
    by_cases c : P Y = true
    · rw [if_pos c]
      apply ry_eq
      intro i hi
      show (P ((Y * M + i) / M) && Q ((Y * M + i) % M)) = Q i
      rw [(dm_at (show i < M by omega)).1, (dm_at (show i < M by omega)).2, c, Bool.true_and]
    · rw [if_neg c]
      apply fr_none
      intro i hi
      show (P ((Y * M + i) / M) && Q ((Y * M + i) % M)) = false
      rw [(dm_at (show i < M by omega)).1]
      cases hc : P Y
      · rfl
      · exact absurd hc c
  intro Y
  induction Y with
  | zero =>
    intro r hr
    have := blk 0 r hr
    rw [Nat.zero_mul, Nat.zero_add]
    simp only [bs, Nat.zero_mul, Nat.zero_add] at this ⊢
    exact this
  | succ Y ih =>
    intro r hr
    rw [bs_add, blk (Y + 1) r hr, Nat.succ_mul, ih M (Nat.le_refl _)]
    simp only [bs]
    cases hc : P Y
    · rw [if_neg (by decide)]
      simp only [Bool.toNat_false, Nat.add_zero]
    · rw [if_pos rfl, Bool.toNat_true, Nat.add_mul, Nat.one_mul]
/-- the fours in the reference's order -/
def okS (w h s : Nat) : Bool := okP h (s / (w * w)) && okP w (s % (w * w))
theorem okS_at {w h s : Nat} (hb : 1 ≤ w ∧ w ≤ 6 ∧ 1 ≤ h ∧ h ≤ 6) (hok : okS w h s = true) (hs : s < h * h * (w * w)) : bs (okS w h) s = prI h (s / (w * w) / h) (s / (w * w) % h) * (w * (w - 1) / 2) + prI w (s % (w * w) / w) (s % (w * w) % w) := by
  have hw2 : 0 < w * w := Nat.mul_pos (by omega) (by omega)
  have o := hok
  unfold okS at o
  rw [Bool.and_eq_true] at o
  have e := bs_blk (okP h) (okP w) (w * w) hw2 (s / (w * w)) (s % (w * w)) (Nat.le_of_lt (Nat.mod_lt _ hw2))
  rw [Nat.mul_comm (s / (w * w)) (w * w), Nat.div_add_mod, if_pos o.1] at e
  have o1 : s / (w * w) / h < s / (w * w) % h := of_decide_eq_true o.1
  have o2 : s % (w * w) / w < s % (w * w) % w := of_decide_eq_true o.2
  have a1 := okP_all h (by omega) _ (Nat.mod_lt (s / (w * w)) (show 0 < h by omega)) _ o1
  have a2 := okP_all w (by omega) _ (Nat.mod_lt (s % (w * w)) (show 0 < w by omega)) _ o2
  rw [Nat.mul_comm _ h, Nat.div_add_mod] at a1
  rw [Nat.mul_comm _ w, Nat.div_add_mod] at a2
  rw [a1, a2, okP_n w (by omega)] at e
  exact e
theorem okS_all {w h : Nat} (hb : 1 ≤ w ∧ w ≤ 6 ∧ 1 ≤ h ∧ h ≤ 6) : bs (okS w h) (h * h * (w * w)) = cfo w h := by
  have hw2 : 0 < w * w := Nat.mul_pos (by omega) (by omega)
  have e := bs_blk (okP h) (okP w) (w * w) hw2 (h * h) 0 (Nat.zero_le _)
  rw [Nat.add_zero, okP_n w (by omega), okP_n h (by omega)] at e
  have e2 : (if okP h (h * h) = true then bs (okP w) 0 else 0) = 0 := by split <;> rfl
  rw [e2, Nat.add_zero] at e
  unfold cfo
  rw [Nat.mul_comm (w * (w - 1) / 2) (h * (h - 1) / 2)]
  exact e
end SIDX


/-- the class's slots as a table: 0 is free, k + 1 holds the k-th -/
def ocC (fs : Nat → Int32) (k : Nat) : Option Nat := if fs k = 0 then none else some ((fs k).toInt - 1).toNat
def hC (p : Int64) : Nat := (((((p * (-7046029254386353131 : Int64)).toUInt64 >>> ((49 : Int32).toInt64.toUInt64 &&& Int64.toUInt64 63)).toInt64)).toInt32 &&& 32767).toNatClampNeg
def tbC (fs : Nat → Int32) (fm : Nat → Int64) (n : Nat) : Prop := tabOk 32768 hC (ocC fs) fm n ∧ (∀ k, k < 32768 → 0 ≤ (fs k).toInt ∧ (fs k).toInt ≤ 20000) ∧ n ≤ 20000
theorem ocC_n {fs : Nat → Int32} {k : Nat} (h : fs k = 0) : ocC fs k = none := by unfold ocC; rw [if_pos h]
theorem ocC_s {fs : Nat → Int32} {k : Nat} (h : ¬ fs k = 0) : ocC fs k = some ((fs k).toInt - 1).toNat := by unfold ocC; rw [if_neg h]
theorem hC_lt (p : Int64) : hC p < 32768 := by
  have b := and15 (v := ((((p * (-7046029254386353131 : Int64)).toUInt64 >>> ((49 : Int32).toInt64.toUInt64 &&& Int64.toUInt64 63)).toInt64)).toInt32 &&& 32767) rfl
  have e := m_cl (x := ((((p * (-7046029254386353131 : Int64)).toUInt64 >>> ((49 : Int32).toInt64.toUInt64 &&& Int64.toUInt64 63)).toInt64)).toInt32 &&& 32767) b.1
  unfold hC
  omega
theorem n32 {x : Int32} (h : 0 ≤ x.toInt) : x.toNatClampNeg = x.toBitVec.toNat := by
  have e1 := m_cl h
  have e2 : x.toInt = x.toBitVec.toInt := rfl
  have e3 := BitVec.toInt_eq_toNat_cond x.toBitVec
  have l := x.toBitVec.isLt
  rw [e3] at e2
  split at e2 <;> omega
theorem and15_m {x : Int32} (h : 0 ≤ x.toInt) : (x &&& 32767).toNatClampNeg = x.toNatClampNeg % 32768 := by
  have b := and15 (v := x &&& 32767) (x := x) rfl
  rw [n32 h, n32 b.1]
  have e : (x &&& 32767).toBitVec.toNat = x.toBitVec.toNat &&& (2 ^ 15 - 1) := by
    rw [Int32.toBitVec_and, BitVec.toNat_and]
    rfl
  rw [e, Nat.and_two_pow_sub_one_eq_mod]
theorem w6sh {cy : Nat → ClassId} {A : Nat → Prop} {G : cG} {ws : va_W} {x a b u v : Nat} {z : Int32} (hD : va_D A ws) (hT : cT cy G ws) (hG : G x = some (6, u, v)) (hM : cIn ws x (.inr (5, [.ref a, .int z, .ref b]))) : (0 ≤ z.toInt ∧ z.toInt ≤ 20000) ∧ G a = some (1, 20000, 0) ∧ G b = some (0, 32768, 0) := by
  obtain ⟨_, hi, a', b', z', rfl, hz, hga, hgb⟩ := hT _ _ hG
  have e := cIn.eq hD hM hi
  simp only [Sum.inr.injEq, Prod.mk.injEq, List.cons.injEq, Value.int.injEq, Value.ref.injEq, and_true, true_and] at e
  rw [e.1, e.2.1, e.2.2]
  exact ⟨hz, hga, hgb⟩
/-- a picture more in the class's table -/
theorem tbC_add {fs : Nat → Int32} {fm : Nat → Int64} {n k : Nat} {p : Int64} (h : tbC fs fm n) (hn : n < 20000) (hk : k < 32768) (ho : ocC fs k = none) (hno : ∀ i, i < n → fm i ≠ p) (hp : ∃ t, t < 32768 ∧ k = (hC p + t) % 32768 ∧ ∀ t', t' < t → ocC fs ((hC p + t') % 32768) ≠ none) : tbC (upd fs k (nI (n + 1))) (vp_updL fm n p) (n + 1) := by
  have e1 : (nI (n + 1)).toInt = ((n + 1 : Nat) : Int) := nI_toInt (by omega)
  refine ⟨tab_add h.1 ho hno hp (fun i hi => by unfold vp_updL; rw [if_neg (by omega)]) (by unfold vp_updL; rw [if_pos rfl]) ?_ (fun e he hne => ?_), fun e he => ?_, hn⟩
  · have e2 : upd fs k (nI (n + 1)) k = nI (n + 1) := by unfold upd; rw [if_pos rfl]
    unfold ocC
    rw [e2, if_neg (fun z => by have y := congrArg Int32.toInt z; rw [e1] at y; have : (0 : Int32).toInt = 0 := rfl; omega), e1]
    congr 1
    omega
  · unfold ocC upd
    rw [if_neg hne]
  · unfold upd
    by_cases z : e = k
    · rw [if_pos z, e1]; omega
    · rw [if_neg z]; exact h.2.1 e he
set_option maxHeartbeats 4000000 in
set_option maxRecDepth 100000 in
theorem c_X6_isTakenByOther_x (l : Launch) (D : va_G) (cy : Nat → ClassId) (A : Nat → Prop) (G : cG) (ws : va_W) (o : Nat) (slot : Int32) (p0 : Int64) {a_o b_o z_o : Nat} {fm : Nat → Int64} {fs : Nat → Int32} (hD : va_D A ws) (hT : cT cy G ws) (hG_o : G o = some (6, 0, 0)) (hM_o : cIn ws o (.inr (5, [.ref a_o, .int (nI z_o), .ref b_o]))) (hM_a_o : cIn ws a_o (.inl (cy 1, 20000, .inr (.inl fm)))) (hM_b_o : cIn ws b_o (.inl (cy 0, 32768, .inl fs))) (hs : 0 ≤ slot.toInt ∧ slot.toInt < 32768) (hr9 : ∀ k, k < 32768 → 0 ≤ (fs k).toInt ∧ (fs k).toInt ≤ 20000) : Ci l D cy A yX6_isTakenByOther wsX6_isTakenByOther ({ frames := 0, cells := 0, slots := 0, locals := 0 }) 0 0 ws [.ref o, .int slot, .long p0] (fun r0 u => u = (G, ws) ∧ (Bo r0 (∃ i, ocC fs slot.toNatClampNeg = some i ∧ ¬ fm i = p0))) := by
  refine Met.ofW (cc := cX6_isTakenByOther) (maxL := 5) (ret := (some .boolean)) (by decide) rfl ?_
  intro p e s m args below meth c s₁ B hml hv
  obtain ⟨rfl, hP, hK, hA, hV⟩ := hv
  have hx := B.exec
  have hb := B.bytes
  have hr := B.returns
  have hts := atoms_spec (ws := wsX6_isTakenByOther) B.pre
  have hown : s.vm.findClass RX6 = some m.cls := findClass_of_methodNamed B.named
  have hlocks := B.notSynchronized
  have hS : va_S A s.heap s.heap [] := va_S.rf
  have hl := lv_entry ([.ref o, .int slot, .long p0]) (n := 5) (Nat.le_of_ble_eq_true rfl)
  rw [lg_entry_eq]
  generalize (lg_sl ([.ref o, .int slot, .long p0]) ++ List.replicate (5 - (lg_sl ([.ref o, .int slot, .long p0])).length) Slot.unset).toArray = ls at hl ⊢
  have hl : lv_has ls 5 [(0, .ref o), (1, .int slot), (2, .long p0)] := hl
  have k_0 : (0 : Int32).toInt = 0 := by decide
  have k_1 : (1 : Int32).toInt = 1 := by decide
  have k_20000 : (20000 : Int32).toInt = 20000 := by decide
  obtain ⟨hz_o, hG_a_o, hG_b_o⟩ := w6sh hD hT hG_o hM_o
  refine lv_aload_n hx hb dX6_isTakenByOther_0 rfl (lv_at hl 0 rfl) ?_
  refine t_get (v := .ref b_o) (C := RX6) (T := TX6) (N := 3) hx hb hts (by decide +kernel) hown hK hP hM_o rfl 2 (by decide) (hts (.fieldLink RX6 20 "ShadowBench$Meetings" "slots" "[I") (by decide +kernel)) (fun _ h9 => h9) rfl dX6_isTakenByOther_1 ?_
  refine lv_iload_n hx hb dX6_isTakenByOther_4 rfl (lv_at hl 1 rfl) ?_
  refine t_ialdM hx hb hK hP hM_b_o (vp_in_iff.mpr ⟨by omega, by omega⟩) dX6_isTakenByOther_5 ?_
  refine lv_topi (fun v5 e5 => ?_)
  have cs9 := m_cl (x := slot) hs.1
  have r9 := hr9 slot.toNatClampNeg (by omega)
  rw [← e5] at r9
  refine lv_iconst (v := 1) hx hb dX6_isTakenByOther_6 (by decide) ?_
  refine lv_isub hx hb dX6_isTakenByOther_7 ?_
  refine lv_topi (fun v7 e7 => ?_)
  have i7 : v7.toInt = v5.toInt - (1 : Int32).toInt := by rw [e7]; exact fb_subI (by omega) (by omega)
  refine lv_istore (lv' := [(4, .int v7), (0, .ref o), (1, .int slot), (2, .long p0)]) hx hb dX6_isTakenByOther_8 hl (by decide) rfl (fun ls hl => ?_)
  refine lv_iload hx hb dX6_isTakenByOther_10 (lv_at hl 0 rfl) ?_
  refine lv_if_lt (tgt := 39) hx hb dX6_isTakenByOther_12 (by decide) (fun c12 => ?_) (fun c12 => ?_)
  · skip
    have d12 := c12
    rw [fa_lt] at d12
    refine lv_iconst (v := 0) hx hb dX6_isTakenByOther_39 (by decide) ?_
    exact W.zret (v := (0 : Int32)) hx hb hr (by decide) (fun t ht hW => ⟨⟨_, (G, ws), rfl, ⟨rfl, Or.inr ⟨rfl, (fun ⟨i9, a9, b9⟩ => by have n0 : ¬ fs slot.toNatClampNeg = 0 := (fun z9 => by rw [ocC_n z9] at a9; cases a9); rw [ocC_s n0] at a9; cases a9; first | (exfalso; exact n0 (by rw [← e5]; exact Int32.toInt_inj.mp (by omega))) | (exfalso; omega) | exact b9 (by have c7 := m_cl (x := v7) (by omega); rw [← e5, show (v5.toInt - 1).toNat = v7.toNatClampNeg by omega, ← e29]; exact (lg_cmp_eq _ _).mp c32))⟩⟩, by show va_P D vwCl ws t.heap; rw [ht]; exact hP, hD, hT⟩, hS.F ht⟩) hS.2.2 dX6_isTakenByOther_40
  · skip
    have d12 := c12
    rw [fa_lt] at d12
    refine lv_iload hx hb dX6_isTakenByOther_15 (lv_at hl 0 rfl) ?_
    refine lv_sipush (v := 20000) hx hb dX6_isTakenByOther_17 (by decide) ?_
    refine lv_icmp_ge (tgt := 39) hx hb dX6_isTakenByOther_20 (by decide) (fun c20 => ?_) (fun c20 => ?_)
    · skip
      have d20 := c20
      rw [fa_le] at d20
      refine lv_iconst (v := 0) hx hb dX6_isTakenByOther_39 (by decide) ?_
      exact W.zret (v := (0 : Int32)) hx hb hr (by decide) (fun t ht hW => ⟨⟨_, (G, ws), rfl, ⟨rfl, Or.inr ⟨rfl, (fun ⟨i9, a9, b9⟩ => by have n0 : ¬ fs slot.toNatClampNeg = 0 := (fun z9 => by rw [ocC_n z9] at a9; cases a9); rw [ocC_s n0] at a9; cases a9; first | (exfalso; exact n0 (by rw [← e5]; exact Int32.toInt_inj.mp (by omega))) | (exfalso; omega) | exact b9 (by have c7 := m_cl (x := v7) (by omega); rw [← e5, show (v5.toInt - 1).toNat = v7.toNatClampNeg by omega, ← e29]; exact (lg_cmp_eq _ _).mp c32))⟩⟩, by show va_P D vwCl ws t.heap; rw [ht]; exact hP, hD, hT⟩, hS.F ht⟩) hS.2.2 dX6_isTakenByOther_40
    · skip
      have d20 := c20
      rw [fa_le] at d20
      refine lv_aload_n hx hb dX6_isTakenByOther_23 rfl (lv_at hl 1 rfl) ?_
      refine t_get (v := .ref a_o) (C := RX6) (T := TX6) (N := 3) hx hb hts (by decide +kernel) hown hK hP hM_o rfl 0 (by decide) (hts (.fieldLink RX6 11 "ShadowBench$Meetings" "met" "[J") (by decide +kernel)) (fun _ h9 => h9) rfl dX6_isTakenByOther_24 ?_
      refine lv_iload hx hb dX6_isTakenByOther_27 (lv_at hl 0 rfl) ?_
      refine t_laldM hx hb hK hP hM_a_o (vp_in_iff.mpr ⟨by omega, by omega⟩) dX6_isTakenByOther_29 ?_
      refine lv_topl (fun v29 e29 => ?_)
      refine lv_lload_n hx hb dX6_isTakenByOther_30 rfl (lv_at hl 3 rfl) ?_
      refine W.lcmp hx hb dX6_isTakenByOther_31 ?_
      refine lv_if_eq (tgt := 39) hx hb dX6_isTakenByOther_32 (by decide) (fun c32 => ?_) (fun c32 => ?_)
      · skip
        have d32 := c32
        rw [lg_cmp_eq, fa_eq64] at d32
        refine lv_iconst (v := 0) hx hb dX6_isTakenByOther_39 (by decide) ?_
        exact W.zret (v := (0 : Int32)) hx hb hr (by decide) (fun t ht hW => ⟨⟨_, (G, ws), rfl, ⟨rfl, Or.inr ⟨rfl, (fun ⟨i9, a9, b9⟩ => by have n0 : ¬ fs slot.toNatClampNeg = 0 := (fun z9 => by rw [ocC_n z9] at a9; cases a9); rw [ocC_s n0] at a9; cases a9; first | (exfalso; exact n0 (by rw [← e5]; exact Int32.toInt_inj.mp (by omega))) | (exfalso; omega) | exact b9 (by have c7 := m_cl (x := v7) (by omega); rw [← e5, show (v5.toInt - 1).toNat = v7.toNatClampNeg by omega, ← e29]; exact (lg_cmp_eq _ _).mp c32))⟩⟩, by show va_P D vwCl ws t.heap; rw [ht]; exact hP, hD, hT⟩, hS.F ht⟩) hS.2.2 dX6_isTakenByOther_40
      · skip
        have d32 := c32
        rw [lg_cmp_eq, fa_eq64] at d32
        refine lv_iconst (v := 1) hx hb dX6_isTakenByOther_35 (by decide) ?_
        refine lv_goto (tgt := 40) hx hb dX6_isTakenByOther_36 (by decide) ?_
        exact W.zret (v := (1 : Int32)) hx hb hr (by decide) (fun t ht hW => ⟨⟨_, (G, ws), rfl, ⟨rfl, Or.inl ⟨rfl, (by have c7 := m_cl (x := v7) (by omega); have n0 : ¬ fs slot.toNatClampNeg = 0 := (by rw [← e5]; intro z9; rw [z9] at i7; omega); refine ⟨_, ocC_s n0, ?_⟩; rw [← e5, show (v5.toInt - 1).toNat = v7.toNatClampNeg by omega, ← e29]; exact fun z9 => c32 ((lg_cmp_eq _ _).mpr z9))⟩⟩, by show va_P D vwCl ws t.heap; rw [ht]; exact hP, hD, hT⟩, hS.F ht⟩) hS.2.2 dX6_isTakenByOther_40
set_option maxHeartbeats 4000000 in
set_option maxRecDepth 100000 in
theorem c_X6_slotFor_x (l : Launch) (D : va_G) (cy : Nat → ClassId) (A : Nat → Prop) (G : cG) (ws : va_W) (o : Nat) (p0 : Int64) {a_o b_o z_o : Nat} {fm : Nat → Int64} {fs : Nat → Int32} (hD : va_D A ws) (hT : cT cy G ws) (hG_o : G o = some (6, 0, 0)) (hM_o : cIn ws o (.inr (5, [.ref a_o, .int (nI z_o), .ref b_o]))) (hM_a_o : cIn ws a_o (.inl (cy 1, 20000, .inr (.inl fm)))) (hM_b_o : cIn ws b_o (.inl (cy 0, 32768, .inl fs))) (ht9 : tbC fs fm z_o) : Ci l D cy A yX6_slotFor wsX6_slotFor ({ frames := 1, cells := 0, slots := 0, locals := 24 }) 0 0 ws [.ref o, .long p0] (fun r0 u => u = (G, ws) ∧ (tabF 32768 hC (ocC fs) fm z_o p0 r0.toNatClampNeg ∧ 0 ≤ r0.toInt ∧ r0.toInt < 32768)) := by
  refine Met.ofW (cc := cX6_slotFor) (maxL := 5) (ret := (some .int)) (by decide) rfl ?_
  intro p e s m args below meth c s₁ B hml hv
  obtain ⟨rfl, hP, hK, hA, hV⟩ := hv
  have hx := B.exec
  have hb := B.bytes
  have hr := B.returns
  have hts := atoms_spec (ws := wsX6_slotFor) B.pre
  have hown : s.vm.findClass RX6 = some m.cls := findClass_of_methodNamed B.named
  have hlocks := B.notSynchronized
  have hS : va_S A s.heap s.heap [] := va_S.rf
  have hl := lv_entry ([.ref o, .long p0]) (n := 5) (Nat.le_of_ble_eq_true rfl)
  rw [lg_entry_eq]
  generalize (lg_sl ([.ref o, .long p0]) ++ List.replicate (5 - (lg_sl ([.ref o, .long p0])).length) Slot.unset).toArray = ls at hl ⊢
  have hl : lv_has ls 5 [(0, .ref o), (1, .long p0)] := hl
  have k_0 : (0 : Int32).toInt = 0 := by decide
  have k_1 : (1 : Int32).toInt = 1 := by decide
  have k_49 : (49 : Int32).toInt = 49 := by decide
  have k_32767 : (32767 : Int32).toInt = 32767 := by decide
  have k_32768 : (32768 : Int32).toInt = 32768 := by decide
  have k_m7046029254386353131L : (-7046029254386353131 : Int64).toInt = -7046029254386353131 := by decide
  obtain ⟨hz_o, hG_a_o, hG_b_o⟩ := w6sh hD hT hG_o hM_o
  refine lv_lload_n hx hb dX6_slotFor_0 rfl (lv_at hl 1 rfl) ?_
  refine lv_ldc2 hx hb hown (hts (.constantLong RX6 54 (-7046029254386353131)) (by decide +kernel)) dX6_slotFor_1 ?_
  refine lv_lmul hx hb dX6_slotFor_4 ?_
  refine lv_topl (fun v4 e4 => ?_)
  refine lv_bipush (v := 49) hx hb dX6_slotFor_5 (by decide) ?_
  refine lv_lushr (v := (v4.toUInt64 >>> ((49 : Int32).toInt64.toUInt64 &&& Int64.toUInt64 63)).toInt64) hx hb dX6_slotFor_7 rfl ?_
  refine lv_l2i (v := (((v4.toUInt64 >>> ((49 : Int32).toInt64.toUInt64 &&& Int64.toUInt64 63)).toInt64)).toInt32) hx hb dX6_slotFor_8 rfl ?_
  refine lv_sipush (v := 32767) hx hb dX6_slotFor_9 (by decide) ?_
  refine lv_iand hx hb dX6_slotFor_12 ?_
  refine lv_topi (fun v12 e12 => ?_)
  have b12 := and15 e12
  have h12 : v12.toNatClampNeg = hC p0 := by rw [e12, e4]; rfl
  refine lv_istore_n (lv' := [(3, .int v12), (0, .ref o), (1, .long p0)]) hx hb dX6_slotFor_13 rfl hl (by decide) rfl (fun ls hl => ?_)
  refine lv_iconst (v := 0) hx hb dX6_slotFor_14 (by decide) ?_
  refine lv_istore (lv' := [(4, .int (0 : Int32)), (3, .int v12), (0, .ref o), (1, .long p0)]) hx hb dX6_slotFor_15 hl (by decide) rfl (fun ls hl => ?_)
  have loop_17 : ∀ (n : Nat) (i : Nat) (x3 : Int32), (i ≤ 32768) → (0 ≤ x3.toInt ∧ x3.toInt < 32768) → (x3.toNatClampNeg = (hC p0 + i) % 32768) → (∀ t9, t9 < i → ∃ j9, ocC fs ((hC p0 + t9) % 32768) = some j9 ∧ ¬ fm j9 = p0) → 32768 - i < n → ∀ (H : Heap) (locs : List Loc), va_P D vwCl ws H → va_S A s.heap H locs → ∀ (ls : Array Slot), lv_has ls 5 [(4, .int (nI i)), (3, .int x3), (0, .ref o), (1, .long p0)] → W p l e (headSpec wsX6_slotFor ({ frames := 1, cells := 0, slots := 0, locals := 24 })).room s m #[Value.ref o, Value.long p0] below meth c H locs 0 0 (MQ below (va_Qi (fun r0 u => u = (G, ws) ∧ (tabF 32768 hC (ocC fs) fm z_o p0 r0.toNatClampNeg ∧ 0 ≤ r0.toInt ∧ r0.toInt < 32768)) (cB D cy A) A) #[Value.ref o, Value.long p0] s 0 0 A) (F0 m 17 ls []) := by
    intro n
    induction n with
    | zero => intro i x3 j17_0 j17_1 j17_2 j17_3 hn; exact absurd hn (Nat.not_lt_zero _)
    | succ n ih_17 =>
      intro i x3 j17_0 j17_1 j17_2 j17_3 hn_17 H locs hP hS  ls hl
      have ii : (nI i).toInt = (i : Int) := nI_toInt (by omega)
      refine lv_iload hx hb dX6_slotFor_17 (lv_at hl 0 rfl) ?_
      refine lv_ldc hx hb hown (hts (.constant RX6 19 (32768)) (by decide +kernel)) dX6_slotFor_19 ?_
      refine lv_icmp_ge (tgt := 47) hx hb dX6_slotFor_21 (by decide) (fun c21 => ?_) (fun c21 => ?_)
      · skip
        have d21 := c21
        rw [fa_le] at d21
        refine lv_iload_n hx hb dX6_slotFor_47 rfl (lv_at hl 1 rfl) ?_
        exact W.iret (v := x3) hx hb hr (fun t ht hW => ⟨⟨_, (G, ws), rfl, ⟨rfl, ⟨(by first | exact tab_srch ht9.1 (t := i) (by omega) j17_2 j17_3 (by cases ho : ocC fs x3.toNatClampNeg with | none => exact Or.inl rfl | some j9 => exact Or.inr ⟨j9, rfl, Classical.byContradiction fun z9 => b30 ⟨j9, ho, z9⟩⟩) | (exfalso; obtain ⟨e9, h1, h2⟩ := tab_free ht9.1 (by have := ht9.2.2; omega); obtain ⟨t9, h3, h4⟩ := rnd_ex (a := hC p0) (hC_lt p0) h1; obtain ⟨j9, h5, -⟩ := j17_3 t9 (by omega); rw [h4, h2] at h5; cases h5)), by omega⟩⟩, by show va_P D vwCl ws t.heap; rw [ht]; exact hP, hD, hT⟩, hS.F ht⟩) hS.2.2 dX6_slotFor_48
      · skip
        have d21 := c21
        rw [fa_le] at d21
        refine lv_aload_n hx hb dX6_slotFor_24 rfl (lv_at hl 2 rfl) ?_
        refine lv_iload_n hx hb dX6_slotFor_25 rfl (lv_at hl 1 rfl) ?_
        refine lv_lload_n hx hb dX6_slotFor_26 rfl (lv_at hl 3 rfl) ?_
        refine t_calli (va_runV (g := F0 m 27 ls ([.long p0, .int x3, .ref o])) (As := [.int x3, .long p0]) (rest := []) ⟨hx, hb, hml, hown, hts⟩ (c_X6_isTakenByOther_x l D cy A G ws o x3 p0 hD hT hG_o hM_o hM_a_o hM_b_o (by omega) ht9.2.1) (cwV 2 hts gX6_slotFor_X6_isTakenByOther rfl rfl rfl (by decide +kernel) ⟨Nat.le_of_ble_eq_true rfl, Nat.le_of_ble_eq_true rfl⟩) (c_preV hM_o rfl hP hK hA hS hV) rfl rfl hl.1 rfl (lv_room (Nat.le_of_ble_eq_true rfl)) dX6_slotFor_27 ⟨Nat.le_of_ble_eq_true rfl, Nat.le_of_ble_eq_true rfl⟩) hS (fun r27 u H locs q27 hP9 hD9 hT9 hS => ?_)
        obtain ⟨rfl, q27⟩ := q27
        have hP : va_P D vwCl ws H := hP9
        refine lv_if_eq (tgt := 47) hx hb dX6_slotFor_30 (by decide) (fun c30 => ?_) (fun c30 => ?_)
        · skip
          have b30 := bo_f q27 c30
          refine lv_iload_n hx hb dX6_slotFor_47 rfl (lv_at hl 1 rfl) ?_
          exact W.iret (v := x3) hx hb hr (fun t ht hW => ⟨⟨_, (G, ws), rfl, ⟨rfl, ⟨(by first | exact tab_srch ht9.1 (t := i) (by omega) j17_2 j17_3 (by cases ho : ocC fs x3.toNatClampNeg with | none => exact Or.inl rfl | some j9 => exact Or.inr ⟨j9, rfl, Classical.byContradiction fun z9 => b30 ⟨j9, ho, z9⟩⟩) | (exfalso; obtain ⟨e9, h1, h2⟩ := tab_free ht9.1 (by have := ht9.2.2; omega); obtain ⟨t9, h3, h4⟩ := rnd_ex (a := hC p0) (hC_lt p0) h1; obtain ⟨j9, h5, -⟩ := j17_3 t9 (by omega); rw [h4, h2] at h5; cases h5)), by omega⟩⟩, by show va_P D vwCl ws t.heap; rw [ht]; exact hP, hD, hT⟩, hS.F ht⟩) hS.2.2 dX6_slotFor_48
        · skip
          have b30 := bo_t q27 c30
          refine lv_iload_n hx hb dX6_slotFor_33 rfl (lv_at hl 1 rfl) ?_
          refine lv_iconst (v := 1) hx hb dX6_slotFor_34 (by decide) ?_
          refine lv_iadd hx hb dX6_slotFor_35 ?_
          refine lv_topi (fun v35 e35 => ?_)
          have i35 : v35.toInt = x3.toInt + (1 : Int32).toInt := by rw [e35]; exact fb_addI (by omega) (by omega)
          refine lv_sipush (v := 32767) hx hb dX6_slotFor_36 (by decide) ?_
          refine lv_iand hx hb dX6_slotFor_39 ?_
          refine lv_topi (fun v39 e39 => ?_)
          have b39 := and15 e39
          have f39 : v39.toNatClampNeg = (x3.toNatClampNeg + 1) % 32768 := by
            have y1 := m_cl (x := v35) (by omega)
            have y2 := m_cl (x := x3) (by omega)
            rw [e39, and15_m (by omega), show v35.toNatClampNeg = x3.toNatClampNeg + 1 by omega]
          refine lv_istore_n (lv' := [(3, .int v39), (4, .int (nI i)), (0, .ref o), (1, .long p0)]) hx hb dX6_slotFor_40 rfl hl (by decide) rfl (fun ls hl => ?_)
          refine lv_iinc (v := (nI (i + 1))) (lv' := [(4, .int (nI (i + 1))), (3, .int v39), (0, .ref o), (1, .long p0)]) hx hb dX6_slotFor_41 hl (k := 1) rfl (nI_1 _) (by decide) rfl (fun ls hl => ?_)
          refine lv_goto (tgt := 17) hx hb dX6_slotFor_44 (by decide) ?_
          exact ih_17 (i + 1) v39 (by omega) (by omega) (by rw [f39, j17_2, Nat.mod_add_mod, Nat.add_assoc]) (fun t9 h9 => by by_cases z9 : t9 = i; (rw [z9, ← j17_2]; exact b30); exact j17_3 t9 (by omega)) (by omega) _ _ hP hS  ls (lv_sub hl [0, 1, 2, 3] rfl)
  exact loop_17 (32768 + 1) 0 v12 (by omega) (by omega) (by rw [h12, Nat.add_zero]; exact (Nat.mod_eq_of_lt (hC_lt p0)).symm) (fun t9 h9 => absurd h9 (Nat.not_lt_zero _)) (by omega) _ _ hP hS  ls (lv_sub hl [0, 1, 2, 3] rfl)
set_option maxHeartbeats 4000000 in
set_option maxRecDepth 100000 in
theorem c_X6_knows_x (l : Launch) (D : va_G) (cy : Nat → ClassId) (A : Nat → Prop) (G : cG) (ws : va_W) (o : Nat) (p0 : Int64) {a_o b_o z_o : Nat} {fm : Nat → Int64} {fs : Nat → Int32} (hD : va_D A ws) (hT : cT cy G ws) (hG_o : G o = some (6, 0, 0)) (hM_o : cIn ws o (.inr (5, [.ref a_o, .int (nI z_o), .ref b_o]))) (hM_a_o : cIn ws a_o (.inl (cy 1, 20000, .inr (.inl fm)))) (hM_b_o : cIn ws b_o (.inl (cy 0, 32768, .inl fs))) (ht9 : tbC fs fm z_o) : Ci l D cy A yX6_knows wsX6_knows ({ frames := 2, cells := 0, slots := 0, locals := 48 }) 0 0 ws [.ref o, .long p0] (fun r0 u => u = (G, ws) ∧ (Bo r0 (∃ i, i < z_o ∧ fm i = p0))) := by
  refine Met.ofW (cc := cX6_knows) (maxL := 3) (ret := (some .boolean)) (by decide) rfl ?_
  intro p e s m args below meth c s₁ B hml hv
  obtain ⟨rfl, hP, hK, hA, hV⟩ := hv
  have hx := B.exec
  have hb := B.bytes
  have hr := B.returns
  have hts := atoms_spec (ws := wsX6_knows) B.pre
  have hown : s.vm.findClass RX6 = some m.cls := findClass_of_methodNamed B.named
  have hlocks := B.notSynchronized
  have hS : va_S A s.heap s.heap [] := va_S.rf
  have hl := lv_entry ([.ref o, .long p0]) (n := 3) (Nat.le_of_ble_eq_true rfl)
  rw [lg_entry_eq]
  generalize (lg_sl ([.ref o, .long p0]) ++ List.replicate (3 - (lg_sl ([.ref o, .long p0])).length) Slot.unset).toArray = ls at hl ⊢
  have hl : lv_has ls 3 [(0, .ref o), (1, .long p0)] := hl
  have k_0 : (0 : Int32).toInt = 0 := by decide
  have k_1 : (1 : Int32).toInt = 1 := by decide
  obtain ⟨hz_o, hG_a_o, hG_b_o⟩ := w6sh hD hT hG_o hM_o
  refine lv_aload_n hx hb dX6_knows_0 rfl (lv_at hl 0 rfl) ?_
  refine t_get (v := .ref b_o) (C := RX6) (T := TX6) (N := 3) hx hb hts (by decide +kernel) hown hK hP hM_o rfl 2 (by decide) (hts (.fieldLink RX6 20 "ShadowBench$Meetings" "slots" "[I") (by decide +kernel)) (fun _ h9 => h9) rfl dX6_knows_1 ?_
  refine lv_aload_n hx hb dX6_knows_4 rfl (lv_at hl 0 rfl) ?_
  refine lv_lload_n hx hb dX6_knows_5 rfl (lv_at hl 1 rfl) ?_
  refine t_calli (va_runV (g := F0 m 6 ls ([.long p0, .ref o, .ref b_o])) (As := [.long p0]) (rest := [.ref b_o]) ⟨hx, hb, hml, hown, hts⟩ (c_X6_slotFor_x l D cy A G ws o p0 hD hT hG_o hM_o hM_a_o hM_b_o ht9) (cwV 1 hts gX6_knows_X6_slotFor rfl rfl rfl (by decide +kernel) ⟨Nat.le_of_ble_eq_true rfl, Nat.le_of_ble_eq_true rfl⟩) (c_preV hM_o rfl hP hK hA hS hV) rfl rfl hl.1 rfl (lv_room (Nat.le_of_ble_eq_true rfl)) dX6_knows_6 ⟨Nat.le_of_ble_eq_true rfl, Nat.le_of_ble_eq_true rfl⟩) hS (fun r6 u H locs q6 hP9 hD9 hT9 hS => ?_)
  obtain ⟨rfl, q6⟩ := q6
  have hP : va_P D vwCl ws H := hP9
  refine t_ialdM hx hb hK hP hM_b_o (vp_in_iff.mpr ⟨by omega, by omega⟩) dX6_knows_9 ?_
  refine lv_topi (fun v9 e9 => ?_)
  refine lv_if_eq (tgt := 17) hx hb dX6_knows_10 (by decide) (fun c10 => ?_) (fun c10 => ?_)
  · skip
    have d10 := c10
    rw [fa_eq] at d10
    refine lv_iconst (v := 0) hx hb dX6_knows_17 (by decide) ?_
    exact W.zret (v := (0 : Int32)) hx hb hr (by decide) (fun t ht hW => ⟨⟨_, (G, ws), rfl, ⟨rfl, Or.inr ⟨rfl, (by rcases q6.1 with ⟨i9, y1, y2, y3⟩ | ⟨y1, y2, y4⟩; (rw [ocC_n (e9.symm.trans c10)] at y3; cases y3); exact fun ⟨i9, h1, h2⟩ => y2 i9 h1 h2)⟩⟩, by show va_P D vwCl ws t.heap; rw [ht]; exact hP, hD, hT⟩, hS.F ht⟩) hS.2.2 dX6_knows_18
  · skip
    have d10 := c10
    rw [fa_eq] at d10
    refine lv_iconst (v := 1) hx hb dX6_knows_13 (by decide) ?_
    refine lv_goto (tgt := 18) hx hb dX6_knows_14 (by decide) ?_
    exact W.zret (v := (1 : Int32)) hx hb hr (by decide) (fun t ht hW => ⟨⟨_, (G, ws), rfl, ⟨rfl, Or.inl ⟨rfl, (by rcases q6.1 with ⟨i9, y1, y2, y3⟩ | ⟨y1, y2, -⟩; exact ⟨i9, y1, y2⟩; exact absurd (Classical.byContradiction fun z9 => by rw [ocC_s z9] at y1; cases y1) (fun z9 => c10 (e9.trans z9)))⟩⟩, by show va_P D vwCl ws t.heap; rw [ht]; exact hP, hD, hT⟩, hS.F ht⟩) hS.2.2 dX6_knows_18
set_option maxHeartbeats 4000000 in
set_option maxRecDepth 100000 in
theorem c_X6_meet_x (l : Launch) (D : va_G) (cy : Nat → ClassId) (A : Nat → Prop) (G : cG) (ws : va_W) (o : Nat) (p0 : Int64) {a_o b_o z_o : Nat} {fm : Nat → Int64} {fs : Nat → Int32} (hD : va_D A ws) (hT : cT cy G ws) (hG_o : G o = some (6, 0, 0)) (hM_o : cIn ws o (.inr (5, [.ref a_o, .int (nI z_o), .ref b_o]))) (hM_a_o : cIn ws a_o (.inl (cy 1, 20000, .inr (.inl fm)))) (hM_b_o : cIn ws b_o (.inl (cy 0, 32768, .inl fs))) (ht9 : tbC fs fm z_o) : Ci l D cy A yX6_meet wsX6_meet ({ frames := 2, cells := 0, slots := 0, locals := 48 }) 0 0 ws [.ref o, .long p0] (fun r0 u => ∃ w1, u = (G, w1) ∧ cF (fun b9 => b9 = o ∨ b9 = a_o ∨ b9 = b_o) ws w1 ∧ (((∃ i, i < z_o ∧ fm i = p0) ∧ r0 = 1 ∧ w1 = ws) ∨ (¬ (∃ i, i < z_o ∧ fm i = p0) ∧ z_o = 20000 ∧ r0 = 0 ∧ w1 = ws) ∨ (¬ (∃ i, i < z_o ∧ fm i = p0) ∧ z_o < 20000 ∧ r0 = 1 ∧ ∃ (fm1 : Nat → Int64) (fs1 : Nat → Int32), cIn w1 o (.inr (5, [.ref a_o, .int (nI (z_o + 1)), .ref b_o])) ∧ cIn w1 a_o (.inl (cy 1, 20000, .inr (.inl fm1))) ∧ cIn w1 b_o (.inl (cy 0, 32768, .inl fs1)) ∧ tbC fs1 fm1 (z_o + 1) ∧ (∀ i, i < z_o → fm1 i = fm i) ∧ fm1 z_o = p0))) := by
  refine Met.ofW (cc := cX6_meet) (maxL := 4) (ret := (some .boolean)) (by decide) rfl ?_
  intro p e s m args below meth c s₁ B hml hv
  obtain ⟨rfl, hP, hK, hA, hV⟩ := hv
  have hx := B.exec
  have hb := B.bytes
  have hr := B.returns
  have hts := atoms_spec (ws := wsX6_meet) B.pre
  have hown : s.vm.findClass RX6 = some m.cls := findClass_of_methodNamed B.named
  have hlocks := B.notSynchronized
  have hS : va_S A s.heap s.heap [] := va_S.rf
  have hF : cF (fun b9 => b9 = o ∨ b9 = a_o ∨ b9 = b_o) ws ws := cF.rf
  have hl := lv_entry ([.ref o, .long p0]) (n := 4) (Nat.le_of_ble_eq_true rfl)
  rw [lg_entry_eq]
  generalize (lg_sl ([.ref o, .long p0]) ++ List.replicate (4 - (lg_sl ([.ref o, .long p0])).length) Slot.unset).toArray = ls at hl ⊢
  have hl : lv_has ls 4 [(0, .ref o), (1, .long p0)] := hl
  have k_0 : (0 : Int32).toInt = 0 := by decide
  have k_1 : (1 : Int32).toInt = 1 := by decide
  have k_20000 : (20000 : Int32).toInt = 20000 := by decide
  obtain ⟨hz_o, hG_a_o, hG_b_o⟩ := w6sh hD hT hG_o hM_o
  have z20 := ht9.2.2
  have iz9 : (nI z_o).toInt = (z_o : Int) := nI_toInt (by omega)
  have cz9 : (nI z_o).toNatClampNeg = z_o := nI_clamp (by omega)
  refine lv_aload_n hx hb dX6_meet_0 rfl (lv_at hl 0 rfl) ?_
  refine lv_lload_n hx hb dX6_meet_1 rfl (lv_at hl 1 rfl) ?_
  refine t_calli (va_runV (g := F0 m 2 ls ([.long p0, .ref o])) (As := [.long p0]) (rest := []) ⟨hx, hb, hml, hown, hts⟩ (c_X6_slotFor_x l D cy A G ws o p0 hD hT hG_o hM_o hM_a_o hM_b_o ht9) (cwV 1 hts gX6_meet_X6_slotFor rfl rfl rfl (by decide +kernel) ⟨Nat.le_of_ble_eq_true rfl, Nat.le_of_ble_eq_true rfl⟩) (c_preV hM_o rfl hP hK hA hS hV) rfl rfl hl.1 rfl (lv_room (Nat.le_of_ble_eq_true rfl)) dX6_meet_2 ⟨Nat.le_of_ble_eq_true rfl, Nat.le_of_ble_eq_true rfl⟩) hS (fun r2 u H locs q2 hP9 hD9 hT9 hS => ?_)
  obtain ⟨rfl, q2⟩ := q2
  have hP : va_P D vwCl ws H := hP9
  refine lv_istore_n (lv' := [(3, .int r2), (0, .ref o), (1, .long p0)]) hx hb dX6_meet_5 rfl hl (by decide) rfl (fun ls hl => ?_)
  refine lv_aload_n hx hb dX6_meet_6 rfl (lv_at hl 1 rfl) ?_
  refine t_get (v := .ref b_o) (C := RX6) (T := TX6) (N := 3) hx hb hts (by decide +kernel) hown hK hP hM_o rfl 2 (by decide) (hts (.fieldLink RX6 20 "ShadowBench$Meetings" "slots" "[I") (by decide +kernel)) (fun _ h9 => h9) rfl dX6_meet_7 ?_
  refine lv_iload_n hx hb dX6_meet_10 rfl (lv_at hl 0 rfl) ?_
  refine t_ialdM hx hb hK hP hM_b_o (vp_in_iff.mpr ⟨by omega, by omega⟩) dX6_meet_11 ?_
  refine lv_topi (fun v11 e11 => ?_)
  refine lv_if_eq (tgt := 17) hx hb dX6_meet_12 (by decide) (fun c12 => ?_) (fun c12 => ?_)
  · skip
    have d12 := c12
    rw [fa_eq] at d12
    refine lv_aload_n hx hb dX6_meet_17 rfl (lv_at hl 1 rfl) ?_
    refine t_get (v := .int (nI z_o)) (C := RX6) (T := TX6) (N := 3) hx hb hts (by decide +kernel) hown hK hP hM_o rfl 1 (by decide) (hts (.fieldLink RX6 15 "ShadowBench$Meetings" "size" "I") (by decide +kernel)) (fun _ h9 => h9) rfl dX6_meet_18 ?_
    refine lv_sipush (v := 20000) hx hb dX6_meet_21 (by decide) ?_
    refine lv_icmp_lt (tgt := 29) hx hb dX6_meet_24 (by decide) (fun c24 => ?_) (fun c24 => ?_)
    · skip
      have d24 := c24
      rw [fa_lt] at d24
      refine lv_aload_n hx hb dX6_meet_29 rfl (lv_at hl 1 rfl) ?_
      refine t_get (v := .ref a_o) (C := RX6) (T := TX6) (N := 3) hx hb hts (by decide +kernel) hown hK hP hM_o rfl 0 (by decide) (hts (.fieldLink RX6 11 "ShadowBench$Meetings" "met" "[J") (by decide +kernel)) (fun _ h9 => h9) rfl dX6_meet_30 ?_
      refine lv_aload_n hx hb dX6_meet_33 rfl (lv_at hl 1 rfl) ?_
      refine t_get (v := .int (nI z_o)) (C := RX6) (T := TX6) (N := 3) hx hb hts (by decide +kernel) hown hK hP hM_o rfl 1 (by decide) (hts (.fieldLink RX6 15 "ShadowBench$Meetings" "size" "I") (by decide +kernel)) (fun _ h9 => h9) rfl dX6_meet_34 ?_
      refine lv_lload_n hx hb dX6_meet_37 rfl (lv_at hl 2 rfl) ?_
      refine t_lastK hx hb hK hP hD hS hT (Or.inl rfl) hG_a_o hM_a_o (vp_in_iff.mpr ⟨by omega, by omega⟩) dX6_meet_38 (fun H locs w38 hU38 hP hD hT hS => ?_)
      have hM_o := hU38.2 _ _ (cne hG_o hG_a_o (show (6 : Nat) ≠ 1 by decide)) hM_o
      have hM_b_o := hU38.2 _ _ (cne hG_b_o hG_a_o (show (0 : Nat) ≠ 1 by decide)) hM_b_o
      have hM_a_o := hU38.1
      have hF := hF.tr (cF.up hU38 (Or.inr (Or.inl rfl)))
      refine lv_aload_n hx hb dX6_meet_39 rfl (lv_at hl 1 rfl) ?_
      refine lv_dup hx hb dX6_meet_40 rfl ?_
      refine t_get (v := .int (nI z_o)) (C := RX6) (T := TX6) (N := 3) hx hb hts (by decide +kernel) hown hK hP hM_o rfl 1 (by decide) (hts (.fieldLink RX6 15 "ShadowBench$Meetings" "size" "I") (by decide +kernel)) (fun _ h9 => h9) rfl dX6_meet_41 ?_
      refine lv_iconst (v := 1) hx hb dX6_meet_44 (by decide) ?_
      refine lv_iadd hx hb dX6_meet_45 ?_
      refine lv_topi (fun v45 e45 => ?_)
      obtain rfl : v45 = nI (z_o + 1) := e45.trans (nI_1 _)
      have iz1 : (nI (z_o + 1)).toInt = ((z_o + 1 : Nat) : Int) := nI_toInt (by omega)
      refine t_put (v := .int (nI (z_o + 1))) (C := RX6) (T := TX6) (N := 3) (ty0 := tyX6) hx hb hts (by decide +kernel) tyX6_ok nmX6 hown hK hP hD hS hM_o rfl 1 (by decide) (hts (.fieldLink RX6 15 "ShadowBench$Meetings" "size" "I") (by decide +kernel)) (fun _ h9 => h9) rfl rfl rfl (Nat.le_of_ble_eq_true rfl) dX6_meet_46 (fun H locs w46 hU46 hP hD hS => ?_)
      have hM_a_o := hU46.2 _ _ (cne hG_a_o hG_o (show (1 : Nat) ≠ 6 by decide)) hM_a_o
      have hM_b_o := hU46.2 _ _ (cne hG_b_o hG_o (show (0 : Nat) ≠ 6 by decide)) hM_b_o
      have hT := hT.up hU46 hG_o ⟨_, _, _, rfl, ⟨by omega, by omega⟩, hG_a_o, hG_b_o⟩
      have hM_o : cIn w46 o (.inr (5, [.ref a_o, .int (nI (z_o + 1)), .ref b_o])) := hU46.1
      have hF := hF.tr (cF.up hU46 (Or.inl rfl))
      refine lv_aload_n hx hb dX6_meet_49 rfl (lv_at hl 1 rfl) ?_
      refine t_get (v := .ref b_o) (C := RX6) (T := TX6) (N := 3) hx hb hts (by decide +kernel) hown hK hP hM_o rfl 2 (by decide) (hts (.fieldLink RX6 20 "ShadowBench$Meetings" "slots" "[I") (by decide +kernel)) (fun _ h9 => h9) rfl dX6_meet_50 ?_
      refine lv_iload_n hx hb dX6_meet_53 rfl (lv_at hl 0 rfl) ?_
      refine lv_aload_n hx hb dX6_meet_54 rfl (lv_at hl 1 rfl) ?_
      refine t_get (v := .int (nI (z_o + 1))) (C := RX6) (T := TX6) (N := 3) hx hb hts (by decide +kernel) hown hK hP hM_o rfl 1 (by decide) (hts (.fieldLink RX6 15 "ShadowBench$Meetings" "size" "I") (by decide +kernel)) (fun _ h9 => h9) rfl dX6_meet_55 ?_
      refine t_iastK hx hb hK hP hD hS hT (Or.inl rfl) hG_b_o hM_b_o (vp_in_iff.mpr ⟨by omega, by omega⟩) dX6_meet_58 (fun H locs w58 hU58 hP hD hT hS => ?_)
      have hM_o := hU58.2 _ _ (cne hG_o hG_b_o (show (6 : Nat) ≠ 0 by decide)) hM_o
      have hM_a_o := hU58.2 _ _ (cne hG_a_o hG_b_o (show (1 : Nat) ≠ 0 by decide)) hM_a_o
      have hM_b_o := hU58.1
      have hF := hF.tr (cF.up hU58 (Or.inr (Or.inr (rfl))))
      refine lv_iconst (v := 1) hx hb dX6_meet_59 (by decide) ?_
      exact W.zret (v := (1 : Int32)) hx hb hr (by decide) (fun t ht hW => ⟨⟨_, (G, w58), rfl, ⟨w58, rfl, hF, (Or.inr (Or.inr ⟨(by rcases q2.1 with ⟨i9, y1, y2, y3⟩ | ⟨y1, y2, y4⟩; (rw [ocC_n (e11.symm.trans c12)] at y3; cases y3); exact fun ⟨i9, h1, h2⟩ => y2 i9 h1 h2), by omega, rfl, _, _, hM_o, (by rw [cz9] at hM_a_o; exact hM_a_o), hM_b_o, (by rcases q2.1 with ⟨i9, y1, y2, y3⟩ | ⟨y1, y2, y4⟩; (rw [ocC_n (e11.symm.trans c12)] at y3; cases y3); exact tbC_add ht9 (by omega) (by have := m_cl (x := r2) (by omega); omega) y1 y2 y4), (fun i9 h9 => by unfold vp_updL; rw [if_neg (by omega)]), (by unfold vp_updL; rw [if_pos rfl])⟩))⟩, by show va_P D vwCl w58 t.heap; rw [ht]; exact hP, hD, hT⟩, hS.F ht⟩) hS.2.2 dX6_meet_60
    · skip
      have d24 := c24
      rw [fa_lt] at d24
      refine lv_iconst (v := 0) hx hb dX6_meet_27 (by decide) ?_
      exact W.zret (v := (0 : Int32)) hx hb hr (by decide) (fun t ht hW => ⟨⟨_, (G, ws), rfl, ⟨ws, rfl, hF, (Or.inr (Or.inl ⟨(by rcases q2.1 with ⟨i9, y1, y2, y3⟩ | ⟨y1, y2, y4⟩; (rw [ocC_n (e11.symm.trans c12)] at y3; cases y3); exact fun ⟨i9, h1, h2⟩ => y2 i9 h1 h2), by omega, rfl, rfl⟩))⟩, by show va_P D vwCl ws t.heap; rw [ht]; exact hP, hD, hT⟩, hS.F ht⟩) hS.2.2 dX6_meet_28
  · skip
    have d12 := c12
    rw [fa_eq] at d12
    refine lv_iconst (v := 1) hx hb dX6_meet_15 (by decide) ?_
    exact W.zret (v := (1 : Int32)) hx hb hr (by decide) (fun t ht hW => ⟨⟨_, (G, ws), rfl, ⟨ws, rfl, hF, (Or.inl ⟨(by rcases q2.1 with ⟨i9, y1, y2, y3⟩ | ⟨y1, y2, -⟩; exact ⟨i9, y1, y2⟩; exact absurd (Classical.byContradiction fun z9 => by rw [ocC_s z9] at y1; cases y1) (fun z9 => c12 (e11.trans z9))), rfl, rfl⟩)⟩, by show va_P D vwCl ws t.heap; rw [ht]; exact hP, hD, hT⟩, hS.F ht⟩) hS.2.2 dX6_meet_16

section NB9
variable {w h d k : Nat} {p : Int64} {S : mtS}
theorem nb_f (hs : swq w h p k = false) : nbA w h p d S (k + 1) = nbA w h p d S k := by simp only [nbA]; rw [if_neg (by rw [hs]; decide)]
theorem nb_t (hs : swq w h p k = true) : nbA w h p d S (k + 1) = mtA d (nbA w h p d S k) (swx w h p k) := by simp only [nbA]; rw [if_pos hs]
theorem nb_o (hs : swq w h p k = true) (ho : (nbA w h p d S k).2.2.2 = false) (hk : ∃ i, i < (nbA w h p d S k).2.2.1 ∧ (nbA w h p d S k).1 i = swx w h p k) : nbA w h p d S (k + 1) = nbA w h p d S k := by rw [nb_t hs, mtA_k (by rw [ho]; decide) hk]
theorem nb_z {k0 : Nat} (ho : (nbA w h p d S k0).2.2.2 = true) : ∀ k, nbA w h p d S (k0 + k) = nbA w h p d S k0 := by
  intro k
  induction k with
  | zero => rfl
  | succ k ih =>
    by_cases c : swq w h p (k0 + k) = true
    · rw [← Nat.add_assoc, nb_t c, ih, mtA_o ho]
    · have c' : swq w h p (k0 + k) = false := by
        cases hq : swq w h p (k0 + k)
        · rfl
        · exact absurd hq c
      rw [← Nat.add_assoc, nb_f c', ih]
/-- what the class holds is what is met -/
def rlM (S : mtS) (fm : Nat → Int64) (n : Nat) : Prop := S.2.2.1 = n ∧ ∀ i, i < n → S.1 i = fm i
theorem rlM.isIn {S : mtS} {fm : Nat → Int64} {n : Nat} (h : rlM S fm n) (q : Int64) : isIn9 S q ↔ ∃ i, i < n ∧ fm i = q := by
  unfold isIn9
  rw [h.1]
  constructor
  · rintro ⟨i, a, b⟩; exact ⟨i, a, (h.2 i a).symm.trans b⟩
  · rintro ⟨i, a, b⟩; exact ⟨i, a, (h.2 i a).trans b⟩
theorem rl_n {fm fm1 : Nat → Int64} {n : Nat} (hr : rlM (nbA w h p d S k) fm n) (ho : (nbA w h p d S k).2.2.2 = false) (hs : swq w h p k = true) (hk : ¬ ∃ i, i < n ∧ fm i = swx w h p k) (hn : n < 20000) (h1 : ∀ i, i < n → fm1 i = fm i) (h2 : fm1 n = swx w h p k) : rlM (nbA w h p d S (k + 1)) fm1 (n + 1) ∧ (nbA w h p d S (k + 1)).2.2.2 = false := by
  have hk' : ¬ ∃ i, i < (nbA w h p d S k).2.2.1 ∧ (nbA w h p d S k).1 i = swx w h p k := fun z => hk ((hr.isIn _).mp z)
  have hn' : ¬ (nbA w h p d S k).2.2.1 = 20000 := by rw [hr.1]; omega
  rw [nb_t hs, mtA_n (by rw [ho]; decide) hk' hn']
  refine ⟨⟨by show (nbA w h p d S k).2.2.1 + 1 = n + 1; rw [hr.1], fun i hi => ?_⟩, rfl⟩
  show (if i = (nbA w h p d S k).2.2.1 then swx w h p k else (nbA w h p d S k).1 i) = fm1 i
  rw [hr.1]
  by_cases z : i = n
  · rw [if_pos z, z, h2]
  · rw [if_neg z, h1 i (by omega)]
    exact hr.2 i (by omega)
theorem rl_f {fm : Nat → Int64} {n c : Nat} (hr : rlM (nbA w h p d S k) fm n) (ho : (nbA w h p d S k).2.2.2 = false) (hs : swq w h p k = true) (hk : ¬ ∃ i, i < n ∧ fm i = swx w h p k) (hn : n = 20000) (hc : k < c) : rlM (nbA w h p d S c) fm n ∧ (nbA w h p d S c).2.2.2 = true := by
  have hk' : ¬ ∃ i, i < (nbA w h p d S k).2.2.1 ∧ (nbA w h p d S k).1 i = swx w h p k := fun z => hk ((hr.isIn _).mp z)
  have hn' : (nbA w h p d S k).2.2.1 = 20000 := by rw [hr.1]; exact hn
  have e : nbA w h p d S (k + 1) = ((nbA w h p d S k).1, (nbA w h p d S k).2.1, (nbA w h p d S k).2.2.1, true) := by rw [nb_t hs, mtA_f (by rw [ho]; decide) hk' hn']
  have z := nb_z (w := w) (h := h) (p := p) (d := d) (S := S) (k0 := k + 1) (by rw [e]) (c - (k + 1))
  rw [show k + 1 + (c - (k + 1)) = c by omega] at z
  rw [z, e]
  exact ⟨hr, rfl⟩
end NB9
set_option maxHeartbeats 4000000 in
set_option maxRecDepth 100000 in
theorem c_X6_meetNeighbours_x (l : Launch) (D : va_G) (cy : Nat → ClassId) (A : Nat → Prop) (G : cG) (ws : va_W) (o : Nat) (x1 : Nat) (p0 : Int64) {a_o b_o z_o : Nat} {fm : Nat → Int64} {fs : Nat → Int32} {w h d : Nat} {S : mtS} (hD : va_D A ws) (hT : cT cy G ws) (hG_o : G o = some (6, 0, 0)) (hM_o : cIn ws o (.inr (5, [.ref a_o, .int (nI z_o), .ref b_o]))) (hG_x1 : G x1 = some (2, w, h)) (hM_a_o : cIn ws a_o (.inl (cy 1, 20000, .inr (.inl fm)))) (hM_b_o : cIn ws b_o (.inl (cy 0, 32768, .inl fs))) (ht9 : tbC fs fm z_o) (hS1 : rlM S fm z_o) (hS2 : S.2.2.2 = false) : Ci l D cy A yX6_meetNeighbours wsX6_meetNeighbours ({ frames := 3, cells := 0, slots := 0, locals := 71 }) 0 0 ws [.ref o, .ref x1, .long p0] (fun r0 u => ∃ w1, u = (G, w1) ∧ cF (fun b9 => b9 = o ∨ b9 = a_o ∨ b9 = b_o) ws w1 ∧ (∃ (z1 : Nat) (fm1 : Nat → Int64) (fs1 : Nat → Int32), (cIn w1 o (.inr (5, [.ref a_o, .int (nI z1), .ref b_o])) ∧ cIn w1 a_o (.inl (cy 1, 20000, .inr (.inl fm1))) ∧ cIn w1 b_o (.inl (cy 0, 32768, .inl fs1))) ∧ tbC fs1 fm1 z1 ∧ rlM (nbA w h p0 d S (cfo w h)) fm1 z1 ∧ ((r0 = 1 ∧ (nbA w h p0 d S (cfo w h)).2.2.2 = false) ∨ (r0 = 0 ∧ (nbA w h p0 d S (cfo w h)).2.2.2 = true)))) := by
  refine Met.ofW (cc := cX6_meetNeighbours) (maxL := 7) (ret := (some .boolean)) (by decide) rfl ?_
  intro p e s m args below meth c s₁ B hml hv
  obtain ⟨rfl, hP, hK, hA, hV⟩ := hv
  have hx := B.exec
  have hb := B.bytes
  have hr := B.returns
  have hts := atoms_spec (ws := wsX6_meetNeighbours) B.pre
  have hown : s.vm.findClass RX6 = some m.cls := findClass_of_methodNamed B.named
  have hlocks := B.notSynchronized
  have hS : va_S A s.heap s.heap [] := va_S.rf
  have hF : cF (fun b9 => b9 = o ∨ b9 = a_o ∨ b9 = b_o) ws ws := cF.rf
  have hl := lv_entry ([.ref o, .ref x1, .long p0]) (n := 7) (Nat.le_of_ble_eq_true rfl)
  rw [lg_entry_eq]
  generalize (lg_sl ([.ref o, .ref x1, .long p0]) ++ List.replicate (7 - (lg_sl ([.ref o, .ref x1, .long p0])).length) Slot.unset).toArray = ls at hl ⊢
  have hl : lv_has ls 7 [(0, .ref o), (1, .ref x1), (2, .long p0)] := hl
  have k_0 : (0 : Int32).toInt = 0 := by decide
  have k_1 : (1 : Int32).toInt = 1 := by decide
  obtain ⟨hz_o, hG_a_o, hG_b_o⟩ := w6sh hD hT hG_o hM_o
  have hb9 := c_hb hT hG_x1
  have cf9 := cb_fo hb9
  have icf9 : (nI (cfo w h)).toInt = (cfo w h : Int) := nI_toInt (by omega)
  refine lv_iconst (v := 0) hx hb dX6_meetNeighbours_0 (by decide) ?_
  refine lv_istore (lv' := [(4, .int (0 : Int32)), (0, .ref o), (1, .ref x1), (2, .long p0)]) hx hb dX6_meetNeighbours_1 hl (by decide) rfl (fun ls hl => ?_)
  have loop_3 : ∀ (n : Nat) (i : Nat) (zl : Nat) (fml : Nat → Int64) (fsl : Nat → Int32), (i ≤ cfo w h) → (tbC fsl fml zl) → (rlM (nbA w h p0 d S i) fml zl) → ((nbA w h p0 d S i).2.2.2 = false) → 225 - i < n → ∀ (wl3 : va_W), cF (fun b9 => b9 = o ∨ b9 = a_o ∨ b9 = b_o) ws wl3 → va_D A wl3 → cT cy G wl3 → cIn wl3 o (.inr (5, [.ref a_o, .int (nI zl), .ref b_o])) → cIn wl3 a_o (.inl (cy 1, 20000, .inr (.inl fml))) → cIn wl3 b_o (.inl (cy 0, 32768, .inl fsl)) → ∀ (H : Heap) (locs : List Loc), va_P D vwCl wl3 H → va_S A s.heap H locs → ∀ (ls : Array Slot), lv_has ls 7 [(4, .int (nI i)), (0, .ref o), (1, .ref x1), (2, .long p0)] → W p l e (headSpec wsX6_meetNeighbours ({ frames := 3, cells := 0, slots := 0, locals := 71 })).room s m #[Value.ref o, Value.ref x1, Value.long p0] below meth c H locs 0 0 (MQ below (va_Qi (fun r0 u => ∃ w1, u = (G, w1) ∧ cF (fun b9 => b9 = o ∨ b9 = a_o ∨ b9 = b_o) ws w1 ∧ (∃ (z1 : Nat) (fm1 : Nat → Int64) (fs1 : Nat → Int32), (cIn w1 o (.inr (5, [.ref a_o, .int (nI z1), .ref b_o])) ∧ cIn w1 a_o (.inl (cy 1, 20000, .inr (.inl fm1))) ∧ cIn w1 b_o (.inl (cy 0, 32768, .inl fs1))) ∧ tbC fs1 fm1 z1 ∧ rlM (nbA w h p0 d S (cfo w h)) fm1 z1 ∧ ((r0 = 1 ∧ (nbA w h p0 d S (cfo w h)).2.2.2 = false) ∨ (r0 = 0 ∧ (nbA w h p0 d S (cfo w h)).2.2.2 = true)))) (cB D cy A) A) #[Value.ref o, Value.ref x1, Value.long p0] s 0 0 A) (F0 m 3 ls []) := by
    intro n
    induction n with
    | zero => intro i zl fml fsl j3_0 j3_1 j3_2 j3_3 hn; exact absurd hn (Nat.not_lt_zero _)
    | succ n ih_3 =>
      intro i zl fml fsl j3_0 j3_1 j3_2 j3_3 hn_3 wl3 hF hD hT hM_o hM_a_o hM_b_o H locs hP hS ls hl
      have ii : (nI i).toInt = (i : Int) := nI_toInt (by omega)
      refine lv_iload hx hb dX6_meetNeighbours_3 (lv_at hl 0 rfl) ?_
      refine lv_aload_n hx hb dX6_meetNeighbours_5 rfl (lv_at hl 2 rfl) ?_
      obtain ⟨_, hM_x1, hb_x1, l_x1, f_x1, r_x1, rfl, hG_l_x1, hG_f_x1, hG_r_x1⟩ := hT _ _ hG_x1
      refine t_get (v := .int (nI (cfo w h))) (C := RX0) (T := TX0) (N := 8) hx hb hts (by decide +kernel) hown hK hP hM_x1 rfl 4 (by decide) (hts (.fieldLink RX6 41 "ShadowBench$Board" "fours" "I") (by decide +kernel)) (fun _ h9 => h9) rfl dX6_meetNeighbours_6 ?_
      have m_fo_x1 := cb_fo hb_x1
      have i_fo_x1 : (nI (cfo w h)).toInt = _ := nI_toInt (by omega)
      refine lv_icmp_ge (tgt := 45) hx hb dX6_meetNeighbours_9 (by decide) (fun c9 => ?_) (fun c9 => ?_)
      · skip
        have d9 := c9
        rw [fa_le] at d9
        refine lv_iconst (v := 1) hx hb dX6_meetNeighbours_45 (by decide) ?_
        exact W.zret (v := (1 : Int32)) hx hb hr (by decide) (fun t ht hW => ⟨⟨_, (G, wl3), rfl, ⟨wl3, rfl, hF, ⟨_, _, _, ⟨hM_o, hM_a_o, hM_b_o⟩, j3_1, (by rw [← show i = cfo w h by omega]; exact j3_2), Or.inl ⟨rfl, (by rw [← show i = cfo w h by omega]; exact j3_3)⟩⟩⟩, by show va_P D vwCl wl3 t.heap; rw [ht]; exact hP, hD, hT⟩, hS.F ht⟩) hS.2.2 dX6_meetNeighbours_46
      · skip
        have d9 := c9
        rw [fa_le] at d9
        refine lv_aload_n hx hb dX6_meetNeighbours_12 rfl (lv_at hl 2 rfl) ?_
        refine lv_iload hx hb dX6_meetNeighbours_13 (lv_at hl 0 rfl) ?_
        refine lv_lload_n hx hb dX6_meetNeighbours_15 rfl (lv_at hl 3 rfl) ?_
        refine t_calll (va_runV (g := F0 m 16 ls ([.long p0, .int (nI i), .ref x1])) (As := [.int (nI i), .long p0]) (rest := []) ⟨hx, hb, hml, hown, hts⟩ (c_X0_behindFour_x l D cy A G wl3 x1 i p0 hD hT hG_x1 (by omega)) (cwV 2 hts gX6_meetNeighbours_X0_behindFour rfl rfl rfl (by decide +kernel) ⟨Nat.le_of_ble_eq_true rfl, Nat.le_of_ble_eq_true rfl⟩) (c_preV hM_x1 rfl hP hK hA hS hV) rfl rfl hl.1 rfl (lv_room (Nat.le_of_ble_eq_true rfl)) dX6_meetNeighbours_16 ⟨Nat.le_of_ble_eq_true rfl, Nat.le_of_ble_eq_true rfl⟩) hS (fun r16 u H locs q16 hP9 hD9 hT9 hS => ?_)
        obtain ⟨rfl, q16⟩ := q16
        have hP : va_P D vwCl wl3 H := hP9
        refine lv_lstore (lv' := [(5, .long r16), (4, .int (nI i)), (0, .ref o), (1, .ref x1), (2, .long p0)]) hx hb dX6_meetNeighbours_19 hl (by decide) rfl (fun ls hl => ?_)
        refine lv_lload hx hb dX6_meetNeighbours_21 (lv_at hl 0 rfl) ?_
        refine lv_lload_n hx hb dX6_meetNeighbours_23 rfl (lv_at hl 4 rfl) ?_
        refine W.lcmp hx hb dX6_meetNeighbours_24 ?_
        refine lv_if_eq (tgt := 39) hx hb dX6_meetNeighbours_25 (by decide) (fun c25 => ?_) (fun c25 => ?_)
        · skip
          have d25 := c25
          rw [lg_cmp_eq, fa_eq64] at d25
          refine lv_iinc (v := (nI (i + 1))) (lv' := [(4, .int (nI (i + 1))), (5, .long r16), (0, .ref o), (1, .ref x1), (2, .long p0)]) hx hb dX6_meetNeighbours_39 hl (k := 1) rfl (nI_1 _) (by decide) rfl (fun ls hl => ?_)
          refine lv_goto (tgt := 3) hx hb dX6_meetNeighbours_42 (by decide) ?_
          exact ih_3 (i + 1) zl fml fsl (by omega) (by first | exact ht31 | exact j3_1) (by first | (rw [nb_f ((beh_eq hb9 (by omega) q16).mp ((lg_cmp_eq _ _).mp c25))]; exact j3_2) | exact (rl_n j3_2 j3_3 sw9 (by rw [← rx9]; exact hno31) hz31 hf31 (by rw [← rx9]; exact hn31)).1 | (rw [nb_o sw9 j3_3 (by rw [← rx9]; exact (j3_2.isIn _).mpr hin31)]; exact j3_2)) (by first | (rw [nb_f ((beh_eq hb9 (by omega) q16).mp ((lg_cmp_eq _ _).mp c25))]; exact j3_3) | exact (rl_n j3_2 j3_3 sw9 (by rw [← rx9]; exact hno31) hz31 hf31 (by rw [← rx9]; exact hn31)).2 | (rw [nb_o sw9 j3_3 (by rw [← rx9]; exact (j3_2.isIn _).mpr hin31)]; exact j3_3)) (by omega) wl3 hF hD hT hM_o hM_a_o hM_b_o _ _ hP hS ls (lv_sub hl [0, 2, 3, 4] rfl)
        · skip
          have d25 := c25
          rw [lg_cmp_eq, fa_eq64] at d25
          have sw9 : swq w h p0 i = true := by cases hq : swq w h p0 i; exact absurd ((beh_eq hb9 (by omega) q16).mpr hq) (fun z9 => c25 ((lg_cmp_eq _ _).mpr z9)); rfl
          have rx9 : r16 = swx w h p0 i := by rw [q16, if_pos sw9]
          refine lv_aload_n hx hb dX6_meetNeighbours_28 rfl (lv_at hl 2 rfl) ?_
          refine lv_lload hx hb dX6_meetNeighbours_29 (lv_at hl 0 rfl) ?_
          refine t_calli (va_runV (g := F0 m 31 ls ([.long r16, .ref o])) (As := [.long r16]) (rest := []) ⟨hx, hb, hml, hown, hts⟩ (c_X6_meet_x l D cy A G wl3 o r16 hD hT hG_o hM_o hM_a_o hM_b_o j3_1) (cwV 1 hts gX6_meetNeighbours_X6_meet rfl rfl rfl (by decide +kernel) ⟨Nat.le_of_ble_eq_true rfl, Nat.le_of_ble_eq_true rfl⟩) (c_preV hM_o rfl hP hK hA hS hV) rfl rfl hl.1 rfl (lv_room (Nat.le_of_ble_eq_true rfl)) dX6_meetNeighbours_31 ⟨Nat.le_of_ble_eq_true rfl, Nat.le_of_ble_eq_true rfl⟩) hS (fun r31 u H locs q31 hP9 hD9 hT9 hS => ?_)
          obtain ⟨w31, rfl, hF31, q31⟩ := q31
          have hP : va_P D vwCl w31 H := hP9
          have hD : va_D A w31 := hD9
          have hT : cT cy G w31 := hT9
          have hM_x1 := hF31 _ _ (fun z9 => z9.elim (cne hG_x1 hG_o (show (2 : Nat) ≠ 6 by decide)) (fun z9 => z9.elim (cne hG_x1 hG_a_o (show (2 : Nat) ≠ 1 by decide)) (cne hG_x1 hG_b_o (show (2 : Nat) ≠ 0 by decide)))) hM_x1
          have hF := hF.tr hF31
          rcases q31 with ⟨hin31, hr31, hw31⟩ | ⟨hno31, hz31, hr31, hw31⟩ | ⟨hno31, hz31, hr31, fm31, fs31, hMo31, hMa31, hMb31, ht31, hf31, hn31⟩
          · skip
            have hM_o : cIn w31 o (.inr (5, [.ref a_o, .int (nI zl), .ref b_o])) := by rw [hw31]; exact hM_o
            have hM_a_o : cIn w31 a_o (.inl (cy 1, 20000, .inr (.inl fml))) := by rw [hw31]; exact hM_a_o
            have hM_b_o : cIn w31 b_o (.inl (cy 0, 32768, .inl fsl)) := by rw [hw31]; exact hM_b_o
            subst hr31
            refine lv_if_ne (tgt := 39) hx hb dX6_meetNeighbours_34 (by decide) (fun c34 => ?_) (fun c34 => ?_)
            · skip
              have d34 := c34
              rw [fa_eq] at d34
              refine lv_iinc (v := (nI (i + 1))) (lv' := [(4, .int (nI (i + 1))), (5, .long r16), (0, .ref o), (1, .ref x1), (2, .long p0)]) hx hb dX6_meetNeighbours_39 hl (k := 1) rfl (nI_1 _) (by decide) rfl (fun ls hl => ?_)
              refine lv_goto (tgt := 3) hx hb dX6_meetNeighbours_42 (by decide) ?_
              exact ih_3 (i + 1) zl fml fsl (by omega) (by first | exact ht31 | exact j3_1) (by first | (rw [nb_f ((beh_eq hb9 (by omega) q16).mp ((lg_cmp_eq _ _).mp c25))]; exact j3_2) | exact (rl_n j3_2 j3_3 sw9 (by rw [← rx9]; exact hno31) hz31 hf31 (by rw [← rx9]; exact hn31)).1 | (rw [nb_o sw9 j3_3 (by rw [← rx9]; exact (j3_2.isIn _).mpr hin31)]; exact j3_2)) (by first | (rw [nb_f ((beh_eq hb9 (by omega) q16).mp ((lg_cmp_eq _ _).mp c25))]; exact j3_3) | exact (rl_n j3_2 j3_3 sw9 (by rw [← rx9]; exact hno31) hz31 hf31 (by rw [← rx9]; exact hn31)).2 | (rw [nb_o sw9 j3_3 (by rw [← rx9]; exact (j3_2.isIn _).mpr hin31)]; exact j3_3)) (by omega) w31 hF hD hT hM_o hM_a_o hM_b_o _ _ hP hS ls (lv_sub hl [0, 2, 3, 4] rfl)
            · first | exact absurd c34 (by decide) | exact absurd (by decide) c34
          · skip
            have hM_o : cIn w31 o (.inr (5, [.ref a_o, .int (nI zl), .ref b_o])) := by rw [hw31]; exact hM_o
            have hM_a_o : cIn w31 a_o (.inl (cy 1, 20000, .inr (.inl fml))) := by rw [hw31]; exact hM_a_o
            have hM_b_o : cIn w31 b_o (.inl (cy 0, 32768, .inl fsl)) := by rw [hw31]; exact hM_b_o
            subst hr31
            refine lv_if_ne (tgt := 39) hx hb dX6_meetNeighbours_34 (by decide) (fun c34 => ?_) (fun c34 => ?_)
            · first | exact absurd c34 (by decide) | exact absurd (by decide) c34
            · skip
              have d34 := c34
              rw [fa_eq] at d34
              refine lv_iconst (v := 0) hx hb dX6_meetNeighbours_37 (by decide) ?_
              exact W.zret (v := (0 : Int32)) hx hb hr (by decide) (fun t ht hW => ⟨⟨_, (G, w31), rfl, ⟨w31, rfl, hF, ⟨_, _, _, ⟨hM_o, hM_a_o, hM_b_o⟩, j3_1, (rl_f j3_2 j3_3 sw9 (by rw [← rx9]; exact hno31) hz31 (by omega)).1, Or.inr ⟨rfl, (rl_f j3_2 j3_3 sw9 (by rw [← rx9]; exact hno31) hz31 (by omega)).2⟩⟩⟩, by show va_P D vwCl w31 t.heap; rw [ht]; exact hP, hD, hT⟩, hS.F ht⟩) hS.2.2 dX6_meetNeighbours_38
          · skip
            have hM_o : cIn w31 o (.inr (5, [.ref a_o, .int (nI (zl + 1)), .ref b_o])) := hMo31
            have hM_a_o : cIn w31 a_o (.inl (cy 1, 20000, .inr (.inl fm31))) := hMa31
            have hM_b_o : cIn w31 b_o (.inl (cy 0, 32768, .inl fs31)) := hMb31
            subst hr31
            refine lv_if_ne (tgt := 39) hx hb dX6_meetNeighbours_34 (by decide) (fun c34 => ?_) (fun c34 => ?_)
            · skip
              have d34 := c34
              rw [fa_eq] at d34
              refine lv_iinc (v := (nI (i + 1))) (lv' := [(4, .int (nI (i + 1))), (5, .long r16), (0, .ref o), (1, .ref x1), (2, .long p0)]) hx hb dX6_meetNeighbours_39 hl (k := 1) rfl (nI_1 _) (by decide) rfl (fun ls hl => ?_)
              refine lv_goto (tgt := 3) hx hb dX6_meetNeighbours_42 (by decide) ?_
              exact ih_3 (i + 1) (zl + 1) fm31 fs31 (by omega) (by first | exact ht31 | exact j3_1) (by first | (rw [nb_f ((beh_eq hb9 (by omega) q16).mp ((lg_cmp_eq _ _).mp c25))]; exact j3_2) | exact (rl_n j3_2 j3_3 sw9 (by rw [← rx9]; exact hno31) hz31 hf31 (by rw [← rx9]; exact hn31)).1 | (rw [nb_o sw9 j3_3 (by rw [← rx9]; exact (j3_2.isIn _).mpr hin31)]; exact j3_2)) (by first | (rw [nb_f ((beh_eq hb9 (by omega) q16).mp ((lg_cmp_eq _ _).mp c25))]; exact j3_3) | exact (rl_n j3_2 j3_3 sw9 (by rw [← rx9]; exact hno31) hz31 hf31 (by rw [← rx9]; exact hn31)).2 | (rw [nb_o sw9 j3_3 (by rw [← rx9]; exact (j3_2.isIn _).mpr hin31)]; exact j3_3)) (by omega) w31 hF hD hT hM_o hM_a_o hM_b_o _ _ hP hS ls (lv_sub hl [0, 2, 3, 4] rfl)
            · first | exact absurd c34 (by decide) | exact absurd (by decide) c34
  exact loop_3 (225 + 1) 0 z_o fm fs (by omega) (ht9) (hS1) (hS2) (by omega) ws hF hD hT hM_o hM_a_o hM_b_o _ _ hP hS ls (lv_sub hl [0, 1, 2, 3] rfl)
set_option maxHeartbeats 4000000 in
set_option maxRecDepth 100000 in
theorem c_J7_fill_x (l : Launch) (D : va_G) (cy : Nat → ClassId) (A : Nat → Prop) (G : cG) (ws : va_W) (a : Nat) (v : Int32) {n0 z0 : Nat} {f : Nat → Int32} (hD : va_D A ws) (hT : cT cy G ws) (hG_a : G a = some (0, n0, z0)) (hM_a : cIn ws a (.inl (cy 0, n0, .inl f))) (hn0 : n0 ≤ 100000) : Cv l D cy A yJ7_fill_53178 wsJ7_fill_53178 ({ frames := 0, cells := 0, slots := 0, locals := 0 }) 0 0 ws [.ref a, .int v] (fun u => ∃ w1, u = (G, w1) ∧ cF (fun b9 => b9 = a) ws w1 ∧ (∃ f1, cIn w1 a (.inl (cy 0, n0, .inl f1)) ∧ ∀ e, e < n0 → f1 e = v)) := by
  refine Met.ofW (cc := cJ7_fill_53178) (maxL := 4) (ret := none) (by decide) rfl ?_
  intro p e s m args below meth c s₁ B hml hv
  obtain ⟨rfl, hP, hK, hA, hV⟩ := hv
  have hx := B.exec
  have hb := B.bytes
  have hr := B.returns
  have hts := atoms_spec (ws := wsJ7_fill_53178) B.pre
  have hown : s.vm.findClass RJ7 = some m.cls := findClass_of_methodNamed B.named
  have hlocks := B.notSynchronized
  have hS : va_S A s.heap s.heap [] := va_S.rf
  have hF : cF (fun b9 => b9 = a) ws ws := cF.rf
  have hl := lv_entry ([.ref a, .int v]) (n := 4) (Nat.le_of_ble_eq_true rfl)
  rw [lg_entry_eq]
  generalize (lg_sl ([.ref a, .int v]) ++ List.replicate (4 - (lg_sl ([.ref a, .int v])).length) Slot.unset).toArray = ls at hl ⊢
  have hl : lv_has ls 4 [(0, .ref a), (1, .int v)] := hl
  have k_0 : (0 : Int32).toInt = 0 := by decide
  refine lv_iconst (v := 0) hx hb dJ7_fill_53178_0 (by decide) ?_
  refine lv_istore_n (lv' := [(2, .int (0 : Int32)), (0, .ref a), (1, .int v)]) hx hb dJ7_fill_53178_1 rfl hl (by decide) rfl (fun ls hl => ?_)
  refine lv_aload_n hx hb dJ7_fill_53178_2 rfl (lv_at hl 1 rfl) ?_
  refine t_alenI hx hb hK hP hT (Or.inl rfl) hG_a dJ7_fill_53178_3 ?_
  have i3 : (nI n0).toInt = _ := nI_toInt (by omega)
  refine lv_istore_n (lv' := [(3, .int (nI n0)), (2, .int (0 : Int32)), (0, .ref a), (1, .int v)]) hx hb dJ7_fill_53178_4 rfl hl (by decide) rfl (fun ls hl => ?_)
  have loop_5 : ∀ (n : Nat) (i : Nat) (fl : Nat → Int32), (i ≤ n0) → (∀ e, e < i → fl e = v) → n0 - i < n → ∀ (wl5 : va_W), cF (fun b9 => b9 = a) ws wl5 → va_D A wl5 → cT cy G wl5 → cIn wl5 a (.inl (cy 0, n0, .inl fl)) → ∀ (H : Heap) (locs : List Loc), va_P D vwCl wl5 H → va_S A s.heap H locs → ∀ (ls : Array Slot), lv_has ls 4 [(3, .int (nI n0)), (2, .int (nI i)), (0, .ref a), (1, .int v)] → W p l e (headSpec wsJ7_fill_53178 ({ frames := 0, cells := 0, slots := 0, locals := 0 })).room s m #[Value.ref a, Value.int v] below meth c H locs 0 0 (MQ below (va_Qv (fun u => ∃ w1, u = (G, w1) ∧ cF (fun b9 => b9 = a) ws w1 ∧ (∃ f1, cIn w1 a (.inl (cy 0, n0, .inl f1)) ∧ ∀ e, e < n0 → f1 e = v)) (cB D cy A) A) #[Value.ref a, Value.int v] s 0 0 A) (F0 m 5 ls []) := by
    intro n
    induction n with
    | zero => intro i fl j5_0 j5_1 hn; exact absurd hn (Nat.not_lt_zero _)
    | succ n ih_5 =>
      intro i fl j5_0 j5_1 hn_5 wl5 hF hD hT hM_a H locs hP hS ls hl
      have ii : (nI i).toInt = (i : Int) := nI_toInt (by omega)
      refine lv_iload_n hx hb dJ7_fill_53178_5 rfl (lv_at hl 1 rfl) ?_
      refine lv_iload_n hx hb dJ7_fill_53178_6 rfl (lv_at hl 0 rfl) ?_
      refine lv_icmp_ge (tgt := 20) hx hb dJ7_fill_53178_7 (by decide) (fun c7 => ?_) (fun c7 => ?_)
      · skip
        have d7 := c7
        rw [fa_le] at d7
        exact W.vret hx hb hr (fun t ht hW => ⟨⟨(G, wl5), rfl, ⟨wl5, rfl, hF, ⟨_, hM_a, fun e9 h9 => j5_1 e9 (by omega)⟩⟩, by show va_P D vwCl wl5 t.heap; rw [ht]; exact hP, hD, hT⟩, hS.F ht⟩) hS.2.2 dJ7_fill_53178_20
      · skip
        have d7 := c7
        rw [fa_le] at d7
        refine lv_aload_n hx hb dJ7_fill_53178_10 rfl (lv_at hl 2 rfl) ?_
        refine lv_iload_n hx hb dJ7_fill_53178_11 rfl (lv_at hl 1 rfl) ?_
        refine lv_iload_n hx hb dJ7_fill_53178_12 rfl (lv_at hl 3 rfl) ?_
        refine t_iastK hx hb hK hP hD hS hT (Or.inl rfl) hG_a hM_a (vp_in_iff.mpr ⟨by omega, by omega⟩) dJ7_fill_53178_13 (fun H locs w13 hU13 hP hD hT hS => ?_)
        have hM_a := hU13.1
        have hF := hF.tr (cF.up hU13 rfl)
        refine lv_iinc (v := (nI (i + 1))) (lv' := [(2, .int (nI (i + 1))), (3, .int (nI n0)), (0, .ref a), (1, .int v)]) hx hb dJ7_fill_53178_14 hl (k := 1) rfl (nI_1 _) (by decide) rfl (fun ls hl => ?_)
        refine lv_goto (tgt := 5) hx hb dJ7_fill_53178_17 (by decide) ?_
        exact ih_5 (i + 1) ((upd fl (nI i).toNatClampNeg v)) (by omega) (fun e9 h9 => by rw [nI_clamp (n := i) (by omega)]; unfold upd; by_cases z9 : e9 = i; rw [if_pos z9]; (rw [if_neg z9]; exact j5_1 e9 (by omega))) (by omega) w13 hF hD hT hM_a _ _ hP hS ls (lv_sub hl [1, 0, 2, 3] rfl)
  exact loop_5 (n0 + 1) 0 f (by omega) (fun e he => absurd he (Nat.not_lt_zero _)) (by omega) ws hF hD hT hM_a _ _ hP hS ls (lv_sub hl [0, 1, 2, 3] rfl)
set_option maxHeartbeats 4000000 in
set_option maxRecDepth 100000 in
theorem c_X6_fewestSwitches_x (l : Launch) (D : va_G) (cy : Nat → ClassId) (A : Nat → Prop) (G : cG) (ws : va_W) (o : Nat) (x1 : Nat) (p0 : Int64) (p1 : Int64) {a_o b_o z_o : Nat} {fm : Nat → Int64} {fs : Nat → Int32} {w h : Nat} (hD : va_D A ws) (hT : cT cy G ws) (hG_o : G o = some (6, 0, 0)) (hM_o : cIn ws o (.inr (5, [.ref a_o, .int (nI z_o), .ref b_o]))) (hG_x1 : G x1 = some (2, w, h)) (hM_a_o : cIn ws a_o (.inl (cy 1, 20000, .inr (.inl fm)))) (hM_b_o : cIn ws b_o (.inl (cy 0, 32768, .inl fs))) (hp9 : hiZ w h p0) (hq9 : hiZ w h p1) (ha0 : alike w h p0 p1 0) (ha1 : alike w h p0 p1 1) (hne : ¬ p0 = p1) : Ci l D cy A yX6_fewestSwitches wsX6_fewestSwitches ({ frames := 4, cells := 0, slots := 0, locals := 97 }) 0 0 ws [.ref o, .ref x1, .long p0, .long p1] (fun r0 u => ∃ w1, u = (G, w1) ∧ cF (fun b9 => b9 = o ∨ b9 = a_o ∨ b9 = b_o) ws w1 ∧ (farR w h p0 p1 r0.toInt)) := by
  refine Met.ofW (cc := cX6_fewestSwitches) (maxL := 10) (ret := (some .int)) (by decide) rfl ?_
  intro p e s m args below meth c s₁ B hml hv
  obtain ⟨rfl, hP, hK, hA, hV⟩ := hv
  have hx := B.exec
  have hb := B.bytes
  have hr := B.returns
  have hts := atoms_spec (ws := wsX6_fewestSwitches) B.pre
  have hown : s.vm.findClass RX6 = some m.cls := findClass_of_methodNamed B.named
  have hlocks := B.notSynchronized
  have hS : va_S A s.heap s.heap [] := va_S.rf
  have hF : cF (fun b9 => b9 = o ∨ b9 = a_o ∨ b9 = b_o) ws ws := cF.rf
  have hl := lv_entry ([.ref o, .ref x1, .long p0, .long p1]) (n := 10) (Nat.le_of_ble_eq_true rfl)
  rw [lg_entry_eq]
  generalize (lg_sl ([.ref o, .ref x1, .long p0, .long p1]) ++ List.replicate (10 - (lg_sl ([.ref o, .ref x1, .long p0, .long p1])).length) Slot.unset).toArray = ls at hl ⊢
  have hl : lv_has ls 10 [(0, .ref o), (1, .ref x1), (2, .long p0), (4, .long p1)] := hl
  have k_m5 : (-5 : Int32).toInt = -5 := by decide
  have k_0 : (0 : Int32).toInt = 0 := by decide
  have k_1 : (1 : Int32).toInt = 1 := by decide
  have k_20000 : (20000 : Int32).toInt = 20000 := by decide
  obtain ⟨hz_o, hG_a_o, hG_b_o⟩ := w6sh hD hT hG_o hM_o
  have hb9 := c_hb hT hG_x1
  refine lv_aload_n hx hb dX6_fewestSwitches_0 rfl (lv_at hl 0 rfl) ?_
  refine t_get (v := .ref b_o) (C := RX6) (T := TX6) (N := 3) hx hb hts (by decide +kernel) hown hK hP hM_o rfl 2 (by decide) (hts (.fieldLink RX6 20 "ShadowBench$Meetings" "slots" "[I") (by decide +kernel)) (fun _ h9 => h9) rfl dX6_fewestSwitches_1 ?_
  refine lv_iconst (v := 0) hx hb dX6_fewestSwitches_4 (by decide) ?_
  refine t_callv (va_runS (g := F0 m 5 ls ([.int (0 : Int32), .ref b_o])) (As := [.ref b_o, .int (0 : Int32)]) (rest := []) ⟨hx, hb, hml, hown, hts⟩ (c_J7_fill_x l D cy A G ws b_o (0 : Int32) hD hT hG_b_o hM_b_o (by omega)) (va_cwS 2 hts gX6_fewestSwitches_J7_fill_53178 rfl rfl rfl (by decide +kernel) ⟨Nat.le_of_ble_eq_true rfl, Nat.le_of_ble_eq_true rfl⟩) (c_preS hP hK hA hS hV) rfl rfl hl.1 rfl (lv_room (Nat.le_of_ble_eq_true rfl)) dX6_fewestSwitches_5 ⟨Nat.le_of_ble_eq_true rfl, Nat.le_of_ble_eq_true rfl⟩) hS (fun u H locs q5 hP9 hD9 hT9 hS => ?_)
  obtain ⟨w5, rfl, hF5, q5⟩ := q5
  have hP : va_P D vwCl w5 H := hP9
  have hD : va_D A w5 := hD9
  have hT : cT cy G w5 := hT9
  have hM_o := hF5 _ _ (cne hG_o hG_b_o (show (6 : Nat) ≠ 0 by decide)) hM_o
  have hM_a_o := hF5 _ _ (cne hG_a_o hG_b_o (show (1 : Nat) ≠ 0 by decide)) hM_a_o
  have hF := hF.tr (hF5.wk (fun b9 z9 => by rw [z9]; simp))
  obtain ⟨fl5, hM_b_o, hfl5⟩ := q5
  refine lv_aload_n hx hb dX6_fewestSwitches_8 rfl (lv_at hl 0 rfl) ?_
  refine lv_iconst (v := 0) hx hb dX6_fewestSwitches_9 (by decide) ?_
  have in0 : (nI 0).toInt = ((0 : Nat) : Int) := nI_toInt (by omega)
  refine t_put (v := .int (nI 0)) (C := RX6) (T := TX6) (N := 3) (ty0 := tyX6) hx hb hts (by decide +kernel) tyX6_ok nmX6 hown hK hP hD hS hM_o rfl 1 (by decide) (hts (.fieldLink RX6 15 "ShadowBench$Meetings" "size" "I") (by decide +kernel)) (fun _ h9 => h9) rfl rfl rfl (Nat.le_of_ble_eq_true rfl) dX6_fewestSwitches_10 (fun H locs w10 hU10 hP hD hS => ?_)
  have hM_a_o := hU10.2 _ _ (cne hG_a_o hG_o (show (1 : Nat) ≠ 6 by decide)) hM_a_o
  have hM_b_o := hU10.2 _ _ (cne hG_b_o hG_o (show (0 : Nat) ≠ 6 by decide)) hM_b_o
  have hT := hT.up hU10 hG_o ⟨_, _, _, rfl, ⟨by omega, by omega⟩, hG_a_o, hG_b_o⟩
  have hM_o : cIn w10 o (.inr (5, [.ref a_o, .int (nI 0), .ref b_o])) := hU10.1
  have hF := hF.tr (cF.up hU10 (Or.inl rfl))
  refine lv_aload_n hx hb dX6_fewestSwitches_13 rfl (lv_at hl 0 rfl) ?_
  have tb0 : tbC fl5 fm 0 := ⟨tab_0 (fun e9 h9 => ocC_n (hfl5 e9 h9)), (fun k9 h9 => by rw [hfl5 k9 h9]; decide), Nat.zero_le _⟩
  refine lv_lload_n hx hb dX6_fewestSwitches_14 rfl (lv_at hl 2 rfl) ?_
  refine t_calli (va_runV (g := F0 m 15 ls ([.long p0, .ref o])) (As := [.long p0]) (rest := []) ⟨hx, hb, hml, hown, hts⟩ (c_X6_meet_x l D cy A G w10 o p0 hD hT hG_o hM_o hM_a_o hM_b_o tb0) (cwV 1 hts gX6_fewestSwitches_X6_meet rfl rfl rfl (by decide +kernel) ⟨Nat.le_of_ble_eq_true rfl, Nat.le_of_ble_eq_true rfl⟩) (c_preV hM_o rfl hP hK hA hS hV) rfl rfl hl.1 rfl (lv_room (Nat.le_of_ble_eq_true rfl)) dX6_fewestSwitches_15 ⟨Nat.le_of_ble_eq_true rfl, Nat.le_of_ble_eq_true rfl⟩) hS (fun r15 u H locs q15 hP9 hD9 hT9 hS => ?_)
  obtain ⟨w15, rfl, hF15, q15⟩ := q15
  have hP : va_P D vwCl w15 H := hP9
  have hD : va_D A w15 := hD9
  have hT : cT cy G w15 := hT9
  have hF := hF.tr hF15
  rcases q15 with ⟨hin15, hr15, hw15⟩ | ⟨hno15, hz15, hr15, hw15⟩ | ⟨hno15, hz15, hr15, fm15, fs15, hMo15, hMa15, hMb15, ht15, hf15, hn15⟩
  · skip
    have hM_o : cIn w15 o (.inr (5, [.ref a_o, .int (nI 0), .ref b_o])) := by rw [hw15]; exact hM_o
    have hM_a_o : cIn w15 a_o (.inl (cy 1, 20000, .inr (.inl fm))) := by rw [hw15]; exact hM_a_o
    have hM_b_o : cIn w15 b_o (.inl (cy 0, 32768, .inl fl5)) := by rw [hw15]; exact hM_b_o
    subst hr15
    exfalso; obtain ⟨i9, h9, -⟩ := hin15; exact absurd h9 (Nat.not_lt_zero _)
  · skip
    have hM_o : cIn w15 o (.inr (5, [.ref a_o, .int (nI 0), .ref b_o])) := by rw [hw15]; exact hM_o
    have hM_a_o : cIn w15 a_o (.inl (cy 1, 20000, .inr (.inl fm))) := by rw [hw15]; exact hM_a_o
    have hM_b_o : cIn w15 b_o (.inl (cy 0, 32768, .inl fl5)) := by rw [hw15]; exact hM_b_o
    subst hr15
    exfalso; omega
  · skip
    have hM_o : cIn w15 o (.inr (5, [.ref a_o, .int (nI (0 + 1)), .ref b_o])) := hMo15
    have hM_a_o : cIn w15 a_o (.inl (cy 1, 20000, .inr (.inl fm15))) := hMa15
    have hM_b_o : cIn w15 b_o (.inl (cy 0, 32768, .inl fs15)) := hMb15
    subst hr15
    refine lv_pop hx hb dX6_fewestSwitches_18 rfl ?_
    refine lv_iconst (v := 0) hx hb dX6_fewestSwitches_19 (by decide) ?_
    refine lv_istore (lv' := [(6, .int (0 : Int32)), (0, .ref o), (1, .ref x1), (2, .long p0), (4, .long p1)]) hx hb dX6_fewestSwitches_20 hl (by decide) rfl (fun ls hl => ?_)
    refine lv_iconst (v := 1) hx hb dX6_fewestSwitches_22 (by decide) ?_
    refine lv_istore (lv' := [(7, .int (1 : Int32)), (6, .int (0 : Int32)), (0, .ref o), (1, .ref x1), (2, .long p0), (4, .long p1)]) hx hb dX6_fewestSwitches_23 hl (by decide) rfl (fun ls hl => ?_)
    refine lv_iconst (v := 0) hx hb dX6_fewestSwitches_25 (by decide) ?_
    refine lv_istore (lv' := [(8, .int (0 : Int32)), (7, .int (1 : Int32)), (6, .int (0 : Int32)), (0, .ref o), (1, .ref x1), (2, .long p0), (4, .long p1)]) hx hb dX6_fewestSwitches_26 hl (by decide) rfl (fun ls hl => ?_)
    have loop_28 : ∀ (n : Nat) (k : Nat) (e7 : Nat) (s6 : Nat) (zl : Nat) (fml : Nat → Int64) (fsl : Nat → Int32), (k ≤ 20000) → (tbC fsl fml zl) → (rlM (bfA w h (st0 p0) k) fml zl) → (∀ j9, j9 ≤ k → (bfA w h (st0 p0) j9).2.2.2 = false ∧ ¬ isIn9 (bfA w h (st0 p0) j9) p1) → (∀ j9, j9 < k → j9 < (bfA w h (st0 p0) j9).2.2.1) → (rngC (bfA w h (st0 p0) k) k s6 e7) → (s6 ≤ k ∧ e7 ≤ zl) → 20000 - k < n → ∀ (wl28 : va_W), cF (fun b9 => b9 = o ∨ b9 = a_o ∨ b9 = b_o) ws wl28 → va_D A wl28 → cT cy G wl28 → cIn wl28 o (.inr (5, [.ref a_o, .int (nI zl), .ref b_o])) → cIn wl28 a_o (.inl (cy 1, 20000, .inr (.inl fml))) → cIn wl28 b_o (.inl (cy 0, 32768, .inl fsl)) → ∀ (H : Heap) (locs : List Loc), va_P D vwCl wl28 H → va_S A s.heap H locs → ∀ (ls : Array Slot), lv_has ls 10 [(8, .int (nI k)), (7, .int (nI e7)), (6, .int (nI s6)), (0, .ref o), (1, .ref x1), (2, .long p0), (4, .long p1)] → W p l e (headSpec wsX6_fewestSwitches ({ frames := 4, cells := 0, slots := 0, locals := 97 })).room s m #[Value.ref o, Value.ref x1, Value.long p0, Value.long p1] below meth c H locs 0 0 (MQ below (va_Qi (fun r0 u => ∃ w1, u = (G, w1) ∧ cF (fun b9 => b9 = o ∨ b9 = a_o ∨ b9 = b_o) ws w1 ∧ (farR w h p0 p1 r0.toInt)) (cB D cy A) A) #[Value.ref o, Value.ref x1, Value.long p0, Value.long p1] s 0 0 A) (F0 m 28 ls []) := by
      intro n
      induction n with
      | zero => intro k e7 s6 zl fml fsl j28_0 j28_1 j28_2 j28_3 j28_4 j28_5 j28_6 hn; exact absurd hn (Nat.not_lt_zero _)
      | succ n ih_28 =>
        intro k e7 s6 zl fml fsl j28_0 j28_1 j28_2 j28_3 j28_4 j28_5 j28_6 hn_28 wl28 hF hD hT hM_o hM_a_o hM_b_o H locs hP hS ls hl
        have ik : (nI k).toInt = (k : Int) := nI_toInt (by omega)
        have is6 : (nI s6).toInt = (s6 : Int) := nI_toInt (by omega)
        have z20 := j28_1.2.2
        have ie7 : (nI e7).toInt = (e7 : Int) := nI_toInt (by omega)
        have izl : (nI zl).toInt = (zl : Int) := nI_toInt (by omega)
        refine lv_iload hx hb dX6_fewestSwitches_28 (lv_at hl 0 rfl) ?_
        refine lv_sipush (v := 20000) hx hb dX6_fewestSwitches_30 (by decide) ?_
        refine lv_icmp_ge (tgt := 103) hx hb dX6_fewestSwitches_33 (by decide) (fun c33 => ?_) (fun c33 => ?_)
        · skip
          have d33 := c33
          rw [fa_le] at d33
          refine lv_bipush (v := (-5)) hx hb dX6_fewestSwitches_103 (by decide) ?_
          exact W.iret (v := ((-5) : Int32)) hx hb hr (fun t ht hW => ⟨⟨_, (G, wl28), rfl, ⟨wl28, rfl, hF, (by exfalso; exact (j28_3 k (Nat.le_refl _)).2 (far_end hb9 hp9 hq9 ha0 ha1 (fun j9 h9 => (j28_3 j9 h9).1) j28_4 (by rw [j28_2.1]; have := j28_1.2.2; omega)))⟩, by show va_P D vwCl wl28 t.heap; rw [ht]; exact hP, hD, hT⟩, hS.F ht⟩) hS.2.2 dX6_fewestSwitches_105
        · skip
          have d33 := c33
          rw [fa_le] at d33
          refine lv_iload hx hb dX6_fewestSwitches_36 (lv_at hl 0 rfl) ?_
          refine lv_aload_n hx hb dX6_fewestSwitches_38 rfl (lv_at hl 3 rfl) ?_
          refine t_get (v := .int (nI zl)) (C := RX6) (T := TX6) (N := 3) hx hb hts (by decide +kernel) hown hK hP hM_o rfl 1 (by decide) (hts (.fieldLink RX6 15 "ShadowBench$Meetings" "size" "I") (by decide +kernel)) (fun _ h9 => h9) rfl dX6_fewestSwitches_39 ?_
          refine lv_icmp_ge (tgt := 103) hx hb dX6_fewestSwitches_42 (by decide) (fun c42 => ?_) (fun c42 => ?_)
          · skip
            have d42 := c42
            rw [fa_le] at d42
            refine lv_bipush (v := (-5)) hx hb dX6_fewestSwitches_103 (by decide) ?_
            exact W.iret (v := ((-5) : Int32)) hx hb hr (fun t ht hW => ⟨⟨_, (G, wl28), rfl, ⟨wl28, rfl, hF, (by exfalso; exact (j28_3 k (Nat.le_refl _)).2 (far_end hb9 hp9 hq9 ha0 ha1 (fun j9 h9 => (j28_3 j9 h9).1) j28_4 (by rw [j28_2.1]; have := j28_1.2.2; omega)))⟩, by show va_P D vwCl wl28 t.heap; rw [ht]; exact hP, hD, hT⟩, hS.F ht⟩) hS.2.2 dX6_fewestSwitches_105
          · skip
            have d42 := c42
            rw [fa_le] at d42
            refine lv_iload hx hb dX6_fewestSwitches_45 (lv_at hl 0 rfl) ?_
            refine lv_iload hx hb dX6_fewestSwitches_47 (lv_at hl 1 rfl) ?_
            refine lv_icmp_ne (tgt := 61) hx hb dX6_fewestSwitches_49 (by decide) (fun c49 => ?_) (fun c49 => ?_)
            · skip
              have d49 := c49
              rw [fa_eq] at d49
              first | have rg9 := rg9 | have rg9 := j28_5
              first | have rk9 := rk9 | have rk9 : k < e7 := (by have z9 := j28_5.1.1; omega)
              refine lv_aload_n hx hb dX6_fewestSwitches_61 rfl (lv_at hl 3 rfl) ?_
              refine lv_aload_n hx hb dX6_fewestSwitches_62 rfl (lv_at hl 4 rfl) ?_
              refine lv_aload_n hx hb dX6_fewestSwitches_63 rfl (lv_at hl 3 rfl) ?_
              refine t_get (v := .ref a_o) (C := RX6) (T := TX6) (N := 3) hx hb hts (by decide +kernel) hown hK hP hM_o rfl 0 (by decide) (hts (.fieldLink RX6 11 "ShadowBench$Meetings" "met" "[J") (by decide +kernel)) (fun _ h9 => h9) rfl dX6_fewestSwitches_64 ?_
              refine lv_iload hx hb dX6_fewestSwitches_67 (lv_at hl 0 rfl) ?_
              refine t_laldM hx hb hK hP hM_a_o (vp_in_iff.mpr ⟨by omega, by omega⟩) dX6_fewestSwitches_69 ?_
              refine lv_topl (fun v69 e69 => ?_)
              have x69 : v69 = (bfA w h (st0 p0) k).1 k := by rw [e69, nI_clamp (n := k) (by omega)]; exact (j28_2.2 k (by omega)).symm
              refine t_calli (va_runV (g := F0 m 70 ls ([.long v69, .ref x1, .ref o])) (As := [.ref x1, .long v69]) (rest := []) ⟨hx, hb, hml, hown, hts⟩ (c_X6_meetNeighbours_x (d := (bfA w h (st0 p0) k).2.1 k + 1) (S := (bfA w h (st0 p0) k)) l D cy A G wl28 o x1 v69 hD hT hG_o hM_o hG_x1 hM_a_o hM_b_o j28_1 j28_2 (j28_3 k (Nat.le_refl _)).1) (cwV 2 hts gX6_fewestSwitches_X6_meetNeighbours rfl rfl rfl (by decide +kernel) ⟨Nat.le_of_ble_eq_true rfl, Nat.le_of_ble_eq_true rfl⟩) (c_preV hM_o rfl hP hK hA hS hV) rfl rfl hl.1 rfl (lv_room (Nat.le_of_ble_eq_true rfl)) dX6_fewestSwitches_70 ⟨Nat.le_of_ble_eq_true rfl, Nat.le_of_ble_eq_true rfl⟩) hS (fun r70 u H locs q70 hP9 hD9 hT9 hS => ?_)
              obtain ⟨w70, rfl, hF70, q70⟩ := q70
              have hP : va_P D vwCl w70 H := hP9
              have hD : va_D A w70 := hD9
              have hT : cT cy G w70 := hT9
              have hF := hF.tr hF70
              obtain ⟨z70, fm70, fs70, hW70, ht70, hrl70, hov70⟩ := q70
              have hM_o : cIn w70 o (.inr (5, [.ref a_o, .int (nI z70), .ref b_o])) := hW70.1
              have hM_a_o : cIn w70 a_o (.inl (cy 1, 20000, .inr (.inl fm70))) := hW70.2.1
              have hM_b_o : cIn w70 b_o (.inl (cy 0, 32768, .inl fs70)) := hW70.2.2
              rw [x69] at hrl70 hov70
              have hrl70 : rlM (bfA w h (st0 p0) (k + 1)) fm70 z70 := hrl70
              have hov70 : (r70 = 1 ∧ (bfA w h (st0 p0) (k + 1)).2.2.2 = false) ∨ (r70 = 0 ∧ (bfA w h (st0 p0) (k + 1)).2.2.2 = true) := hov70
              refine lv_istore (lv' := [(9, .int r70), (8, .int (nI k)), (7, .int (nI e7)), (6, .int (nI s6)), (0, .ref o), (1, .ref x1), (2, .long p0), (4, .long p1)]) hx hb dX6_fewestSwitches_73 hl (by decide) rfl (fun ls hl => ?_)
              refine lv_aload_n hx hb dX6_fewestSwitches_75 rfl (lv_at hl 4 rfl) ?_
              refine lv_lload hx hb dX6_fewestSwitches_76 (lv_at hl 7 rfl) ?_
              refine t_calli (va_runV (g := F0 m 78 ls ([.long p1, .ref o])) (As := [.long p1]) (rest := []) ⟨hx, hb, hml, hown, hts⟩ (c_X6_knows_x l D cy A G w70 o p1 hD hT hG_o hM_o hM_a_o hM_b_o ht70) (cwV 1 hts gX6_fewestSwitches_X6_knows rfl rfl rfl (by decide +kernel) ⟨Nat.le_of_ble_eq_true rfl, Nat.le_of_ble_eq_true rfl⟩) (c_preV hM_o rfl hP hK hA hS hV) rfl rfl hl.1 rfl (lv_room (Nat.le_of_ble_eq_true rfl)) dX6_fewestSwitches_78 ⟨Nat.le_of_ble_eq_true rfl, Nat.le_of_ble_eq_true rfl⟩) hS (fun r78 u H locs q78 hP9 hD9 hT9 hS => ?_)
              obtain ⟨rfl, q78⟩ := q78
              have hP : va_P D vwCl w70 H := hP9
              refine lv_if_eq (tgt := 89) hx hb dX6_fewestSwitches_81 (by decide) (fun c81 => ?_) (fun c81 => ?_)
              · skip
                have b81 := bo_f q78 c81
                refine lv_iload hx hb dX6_fewestSwitches_89 (lv_at hl 0 rfl) ?_
                refine lv_if_ne (tgt := 97) hx hb dX6_fewestSwitches_91 (by decide) (fun c91 => ?_) (fun c91 => ?_)
                · skip
                  have d91 := c91
                  rw [fa_eq] at d91
                  refine lv_iinc (v := (nI (k + 1))) (lv' := [(8, .int (nI (k + 1))), (9, .int r70), (7, .int (nI e7)), (6, .int (nI s6)), (0, .ref o), (1, .ref x1), (2, .long p0), (4, .long p1)]) hx hb dX6_fewestSwitches_97 hl (k := 1) rfl (nI_1 _) (by decide) rfl (fun ls hl => ?_)
                  refine lv_goto (tgt := 28) hx hb dX6_fewestSwitches_100 (by decide) ?_
                  exact ih_28 (k + 1) e7 s6 z70 fm70 fs70 (by omega) (ht70) (hrl70) (fun j9 h9 => by by_cases z9 : j9 = k + 1; (rw [z9]; exact ⟨(by rcases hov70 with ⟨-, z1⟩ | ⟨z1, -⟩; exact z1; exact absurd z1 c91), fun y9 => b81 ((hrl70.isIn p1).mp y9)⟩); exact j28_3 j9 (by omega)) (fun j9 h9 => by by_cases z9 : j9 = k; (rw [z9, j28_2.1]; omega); exact j28_4 j9 (by omega)) ((rngC_s (w := w) (h := h) rg9 rk9).2) (by have z9 := (rngC_s (w := w) (h := h) rg9 rk9).2.1.2; have z8 : (bfA w h (st0 p0) (k + 1)).2.2.1 = z70 := hrl70.1; have z7 : _ ≤ (bfA w h (st0 p0) (k + 1)).2.2.1 := z9; omega) (by omega) w70 hF hD hT hM_o hM_a_o hM_b_o _ _ hP hS ls (lv_sub hl [0, 2, 3, 4, 5, 6, 7] rfl)
                · skip
                  have d91 := c91
                  rw [fa_eq] at d91
                  refine lv_bipush (v := (-5)) hx hb dX6_fewestSwitches_94 (by decide) ?_
                  exact W.iret (v := ((-5) : Int32)) hx hb hr (fun t ht hW => ⟨⟨_, (G, w70), rfl, ⟨w70, rfl, hF, (⟨k, (fun j9 h9 => ⟨(j28_3 j9 h9).1, (j28_3 j9 h9).2, (by rcases Nat.lt_or_ge j9 k with z9 | z9; exact j28_4 j9 z9; (rw [show j9 = k by omega, j28_2.1]; omega))⟩), Or.inr ⟨(fun z9 => b81 ((hrl70.isIn p1).mp z9)), (by rcases hov70 with ⟨z1, -⟩ | ⟨-, z2⟩; exact absurd (z1.symm.trans c91) (by decide); exact z2), rfl⟩⟩)⟩, by show va_P D vwCl w70 t.heap; rw [ht]; exact hP, hD, hT⟩, hS.F ht⟩) hS.2.2 dX6_fewestSwitches_96
              · skip
                have b81 := bo_t q78 c81
                refine lv_iload hx hb dX6_fewestSwitches_84 (lv_at hl 3 rfl) ?_
                refine lv_iconst (v := 1) hx hb dX6_fewestSwitches_86 (by decide) ?_
                refine lv_iadd hx hb dX6_fewestSwitches_87 ?_
                refine lv_topi (fun v87 e87 => ?_)
                obtain rfl : v87 = nI (s6 + 1) := e87.trans (nI_1 _)
                exact W.iret (v := (nI (s6 + 1))) hx hb hr (fun t ht hW => ⟨⟨_, (G, w70), rfl, ⟨w70, rfl, hF, (⟨k, (fun j9 h9 => ⟨(j28_3 j9 h9).1, (j28_3 j9 h9).2, (by rcases Nat.lt_or_ge j9 k with z9 | z9; exact j28_4 j9 z9; (rw [show j9 = k by omega, j28_2.1]; omega))⟩), Or.inl ⟨(hrl70.isIn p1).mpr b81, (by have z9 := (rngC_s (w := w) (h := h) rg9 rk9).1; rw [nI_toInt (by omega), z9]; omega)⟩⟩)⟩, by show va_P D vwCl w70 t.heap; rw [ht]; exact hP, hD, hT⟩, hS.F ht⟩) hS.2.2 dX6_fewestSwitches_88
            · skip
              have d49 := c49
              rw [fa_eq] at d49
              have rg9 := rngC_n j28_5 (by rw [j28_2.1]; omega) (show k = e7 by omega)
              rw [j28_2.1] at rg9
              have rk9 : k < zl := by omega
              refine lv_iinc (v := (nI (s6 + 1))) (lv' := [(6, .int (nI (s6 + 1))), (8, .int (nI k)), (7, .int (nI e7)), (0, .ref o), (1, .ref x1), (2, .long p0), (4, .long p1)]) hx hb dX6_fewestSwitches_52 hl (k := 2) rfl (nI_1 _) (by decide) rfl (fun ls hl => ?_)
              refine lv_aload_n hx hb dX6_fewestSwitches_55 rfl (lv_at hl 3 rfl) ?_
              refine t_get (v := .int (nI zl)) (C := RX6) (T := TX6) (N := 3) hx hb hts (by decide +kernel) hown hK hP hM_o rfl 1 (by decide) (hts (.fieldLink RX6 15 "ShadowBench$Meetings" "size" "I") (by decide +kernel)) (fun _ h9 => h9) rfl dX6_fewestSwitches_56 ?_
              refine lv_istore (lv' := [(7, .int (nI zl)), (6, .int (nI (s6 + 1))), (8, .int (nI k)), (0, .ref o), (1, .ref x1), (2, .long p0), (4, .long p1)]) hx hb dX6_fewestSwitches_59 hl (by decide) rfl (fun ls hl => ?_)
              first | have rg9 := rg9 | have rg9 := j28_5
              first | have rk9 := rk9 | have rk9 : k < e7 := (by have z9 := j28_5.1.1; omega)
              refine lv_aload_n hx hb dX6_fewestSwitches_61 rfl (lv_at hl 3 rfl) ?_
              refine lv_aload_n hx hb dX6_fewestSwitches_62 rfl (lv_at hl 4 rfl) ?_
              refine lv_aload_n hx hb dX6_fewestSwitches_63 rfl (lv_at hl 3 rfl) ?_
              refine t_get (v := .ref a_o) (C := RX6) (T := TX6) (N := 3) hx hb hts (by decide +kernel) hown hK hP hM_o rfl 0 (by decide) (hts (.fieldLink RX6 11 "ShadowBench$Meetings" "met" "[J") (by decide +kernel)) (fun _ h9 => h9) rfl dX6_fewestSwitches_64 ?_
              refine lv_iload hx hb dX6_fewestSwitches_67 (lv_at hl 2 rfl) ?_
              refine t_laldM hx hb hK hP hM_a_o (vp_in_iff.mpr ⟨by omega, by omega⟩) dX6_fewestSwitches_69 ?_
              refine lv_topl (fun v69 e69 => ?_)
              have x69 : v69 = (bfA w h (st0 p0) k).1 k := by rw [e69, nI_clamp (n := k) (by omega)]; exact (j28_2.2 k (by omega)).symm
              refine t_calli (va_runV (g := F0 m 70 ls ([.long v69, .ref x1, .ref o])) (As := [.ref x1, .long v69]) (rest := []) ⟨hx, hb, hml, hown, hts⟩ (c_X6_meetNeighbours_x (d := (bfA w h (st0 p0) k).2.1 k + 1) (S := (bfA w h (st0 p0) k)) l D cy A G wl28 o x1 v69 hD hT hG_o hM_o hG_x1 hM_a_o hM_b_o j28_1 j28_2 (j28_3 k (Nat.le_refl _)).1) (cwV 2 hts gX6_fewestSwitches_X6_meetNeighbours rfl rfl rfl (by decide +kernel) ⟨Nat.le_of_ble_eq_true rfl, Nat.le_of_ble_eq_true rfl⟩) (c_preV hM_o rfl hP hK hA hS hV) rfl rfl hl.1 rfl (lv_room (Nat.le_of_ble_eq_true rfl)) dX6_fewestSwitches_70 ⟨Nat.le_of_ble_eq_true rfl, Nat.le_of_ble_eq_true rfl⟩) hS (fun r70 u H locs q70 hP9 hD9 hT9 hS => ?_)
              obtain ⟨w70, rfl, hF70, q70⟩ := q70
              have hP : va_P D vwCl w70 H := hP9
              have hD : va_D A w70 := hD9
              have hT : cT cy G w70 := hT9
              have hF := hF.tr hF70
              obtain ⟨z70, fm70, fs70, hW70, ht70, hrl70, hov70⟩ := q70
              have hM_o : cIn w70 o (.inr (5, [.ref a_o, .int (nI z70), .ref b_o])) := hW70.1
              have hM_a_o : cIn w70 a_o (.inl (cy 1, 20000, .inr (.inl fm70))) := hW70.2.1
              have hM_b_o : cIn w70 b_o (.inl (cy 0, 32768, .inl fs70)) := hW70.2.2
              rw [x69] at hrl70 hov70
              have hrl70 : rlM (bfA w h (st0 p0) (k + 1)) fm70 z70 := hrl70
              have hov70 : (r70 = 1 ∧ (bfA w h (st0 p0) (k + 1)).2.2.2 = false) ∨ (r70 = 0 ∧ (bfA w h (st0 p0) (k + 1)).2.2.2 = true) := hov70
              refine lv_istore (lv' := [(9, .int r70), (7, .int (nI zl)), (6, .int (nI (s6 + 1))), (8, .int (nI k)), (0, .ref o), (1, .ref x1), (2, .long p0), (4, .long p1)]) hx hb dX6_fewestSwitches_73 hl (by decide) rfl (fun ls hl => ?_)
              refine lv_aload_n hx hb dX6_fewestSwitches_75 rfl (lv_at hl 4 rfl) ?_
              refine lv_lload hx hb dX6_fewestSwitches_76 (lv_at hl 7 rfl) ?_
              refine t_calli (va_runV (g := F0 m 78 ls ([.long p1, .ref o])) (As := [.long p1]) (rest := []) ⟨hx, hb, hml, hown, hts⟩ (c_X6_knows_x l D cy A G w70 o p1 hD hT hG_o hM_o hM_a_o hM_b_o ht70) (cwV 1 hts gX6_fewestSwitches_X6_knows rfl rfl rfl (by decide +kernel) ⟨Nat.le_of_ble_eq_true rfl, Nat.le_of_ble_eq_true rfl⟩) (c_preV hM_o rfl hP hK hA hS hV) rfl rfl hl.1 rfl (lv_room (Nat.le_of_ble_eq_true rfl)) dX6_fewestSwitches_78 ⟨Nat.le_of_ble_eq_true rfl, Nat.le_of_ble_eq_true rfl⟩) hS (fun r78 u H locs q78 hP9 hD9 hT9 hS => ?_)
              obtain ⟨rfl, q78⟩ := q78
              have hP : va_P D vwCl w70 H := hP9
              refine lv_if_eq (tgt := 89) hx hb dX6_fewestSwitches_81 (by decide) (fun c81 => ?_) (fun c81 => ?_)
              · skip
                have b81 := bo_f q78 c81
                refine lv_iload hx hb dX6_fewestSwitches_89 (lv_at hl 0 rfl) ?_
                refine lv_if_ne (tgt := 97) hx hb dX6_fewestSwitches_91 (by decide) (fun c91 => ?_) (fun c91 => ?_)
                · skip
                  have d91 := c91
                  rw [fa_eq] at d91
                  refine lv_iinc (v := (nI (k + 1))) (lv' := [(8, .int (nI (k + 1))), (9, .int r70), (7, .int (nI zl)), (6, .int (nI (s6 + 1))), (0, .ref o), (1, .ref x1), (2, .long p0), (4, .long p1)]) hx hb dX6_fewestSwitches_97 hl (k := 3) rfl (nI_1 _) (by decide) rfl (fun ls hl => ?_)
                  refine lv_goto (tgt := 28) hx hb dX6_fewestSwitches_100 (by decide) ?_
                  exact ih_28 (k + 1) zl (s6 + 1) z70 fm70 fs70 (by omega) (ht70) (hrl70) (fun j9 h9 => by by_cases z9 : j9 = k + 1; (rw [z9]; exact ⟨(by rcases hov70 with ⟨-, z1⟩ | ⟨z1, -⟩; exact z1; exact absurd z1 c91), fun y9 => b81 ((hrl70.isIn p1).mp y9)⟩); exact j28_3 j9 (by omega)) (fun j9 h9 => by by_cases z9 : j9 = k; (rw [z9, j28_2.1]; omega); exact j28_4 j9 (by omega)) ((rngC_s (w := w) (h := h) rg9 rk9).2) (by have z9 := (rngC_s (w := w) (h := h) rg9 rk9).2.1.2; have z8 : (bfA w h (st0 p0) (k + 1)).2.2.1 = z70 := hrl70.1; have z7 : _ ≤ (bfA w h (st0 p0) (k + 1)).2.2.1 := z9; omega) (by omega) w70 hF hD hT hM_o hM_a_o hM_b_o _ _ hP hS ls (lv_sub hl [0, 2, 3, 4, 5, 6, 7] rfl)
                · skip
                  have d91 := c91
                  rw [fa_eq] at d91
                  refine lv_bipush (v := (-5)) hx hb dX6_fewestSwitches_94 (by decide) ?_
                  exact W.iret (v := ((-5) : Int32)) hx hb hr (fun t ht hW => ⟨⟨_, (G, w70), rfl, ⟨w70, rfl, hF, (⟨k, (fun j9 h9 => ⟨(j28_3 j9 h9).1, (j28_3 j9 h9).2, (by rcases Nat.lt_or_ge j9 k with z9 | z9; exact j28_4 j9 z9; (rw [show j9 = k by omega, j28_2.1]; omega))⟩), Or.inr ⟨(fun z9 => b81 ((hrl70.isIn p1).mp z9)), (by rcases hov70 with ⟨z1, -⟩ | ⟨-, z2⟩; exact absurd (z1.symm.trans c91) (by decide); exact z2), rfl⟩⟩)⟩, by show va_P D vwCl w70 t.heap; rw [ht]; exact hP, hD, hT⟩, hS.F ht⟩) hS.2.2 dX6_fewestSwitches_96
              · skip
                have b81 := bo_t q78 c81
                refine lv_iload hx hb dX6_fewestSwitches_84 (lv_at hl 2 rfl) ?_
                refine lv_iconst (v := 1) hx hb dX6_fewestSwitches_86 (by decide) ?_
                refine lv_iadd hx hb dX6_fewestSwitches_87 ?_
                refine lv_topi (fun v87 e87 => ?_)
                obtain rfl : v87 = nI ((s6 + 1) + 1) := e87.trans (nI_1 _)
                exact W.iret (v := (nI ((s6 + 1) + 1))) hx hb hr (fun t ht hW => ⟨⟨_, (G, w70), rfl, ⟨w70, rfl, hF, (⟨k, (fun j9 h9 => ⟨(j28_3 j9 h9).1, (j28_3 j9 h9).2, (by rcases Nat.lt_or_ge j9 k with z9 | z9; exact j28_4 j9 z9; (rw [show j9 = k by omega, j28_2.1]; omega))⟩), Or.inl ⟨(hrl70.isIn p1).mpr b81, (by have z9 := (rngC_s (w := w) (h := h) rg9 rk9).1; rw [nI_toInt (by omega), z9]; omega)⟩⟩)⟩, by show va_P D vwCl w70 t.heap; rw [ht]; exact hP, hD, hT⟩, hS.F ht⟩) hS.2.2 dX6_fewestSwitches_88
    exact loop_28 (20000 + 1) 0 1 0 (0 + 1) fm15 fs15 (by omega) (ht15) (⟨rfl, fun i9 h9 => by rw [show i9 = 0 by omega]; exact hn15.symm⟩) (fun j9 h9 => by rw [show j9 = 0 by omega]; exact ⟨rfl, fun ⟨i9, h1, h2⟩ => hne h2⟩) (fun j9 h9 => absurd h9 (Nat.not_lt_zero _)) (rngC_0) (by omega) (by omega) w15 hF hD hT hM_o hM_a_o hM_b_o _ _ hP hS ls (lv_sub hl [0, 1, 2, 3, 4, 5, 6] rfl)
