
/-- what is told of a job in the class: its cells and numbers -/
abbrev JT : Type := (Nat × Nat × Nat × Nat × Nat × Nat × Nat × Nat) × (Int64 × Int64) × List Value × (Nat → Int32) × (Nat → Int32)
abbrev jX (T : JT) : Nat := T.1.1
abbrev jK (T : JT) : Nat := T.1.2.1
abbrev jB (T : JT) : Nat := T.1.2.2.1
abbrev jS (T : JT) : Nat := T.1.2.2.2.1
abbrev jL (T : JT) : Nat := T.1.2.2.2.2.1
abbrev jW (T : JT) : Nat := T.1.2.2.2.2.2.1
abbrev jH (T : JT) : Nat := T.1.2.2.2.2.2.2.1
abbrev jC (T : JT) : Nat := T.1.2.2.2.2.2.2.2
abbrev jO (T : JT) : Int64 := T.2.1.1
abbrev jNn (T : JT) : Int64 := T.2.1.2
abbrev jM (T : JT) : List Value := T.2.2.1
abbrev jF (T : JT) : Nat → Int32 := T.2.2.2.1
abbrev jG (T : JT) : Nat → Int32 := T.2.2.2.2
/-- a job's numbers are the reference's -/
def jP (j : Nat) (T : JT) (r : Nat → Nat → Int32) : Prop :=
  jK T = kcl (r 2 j) ∧ jW T = (r 3 j).toNatClampNeg ∧ jH T = (r 4 j).toNatClampNeg ∧
  (∀ y, y < 4 → (r 6 (4 * j + y) = 0 ↔ tB (jL T) y = false)) ∧
  (∀ y l, y < 4 → l < lnC (jW T) (jH T) y → jF T (y * 11 + l) = if tB (jL T) y then r 5 (44 * j + 11 * y + l) else 0) ∧
  (∀ s, s < jW T * jH T → r 7 (36 * j + s) = hH (jO T) (jNn T) s ∧ ¬ (lb (jO T) s = true ∧ lb (jNn T) s = true)) ∧ (∀ s, jW T * jH T ≤ s → lb (jO T) s = false) ∧
  (jK T = 4 → ∀ s, s < jW T * jH T → jG T s = r 8 (36 * j + s)) ∧ (∀ s, jW T * jH T ≤ s → s < 36 → r 8 (36 * j + s) = 0) ∧
  (tB (jL T) 0 = true ∧ tB (jL T) 1 = true) ∧ (∀ y l, y < 4 → l < lnC (jW T) (jH T) y → 0 ≤ (jF T (y * 11 + l)).toInt ∧ (jF T (y * 11 + l)).toInt ≤ 6)
def jobT (cy : Nat → ClassId) (G : cG) (W : va_W) (fa : Nat → Option Nat) (j : Nat) (T : JT) (r : Nat → Nat → Int32) : Prop :=
  jobS cy G W fa j (jX T) (jK T) (jB T) (jS T) (jL T) (jW T) (jH T) (jO T) (jNn T) (jM T) (jF T) ∧ (jK T = 4 → jM T = [.ref (jC T)] ∧ cIn W (jC T) (.inl (cy 0, jW T * jH T, .inl (jG T)))) ∧ jP j T r
def jDif (S T : JT) : Prop := jX S ≠ jX T ∧ jS S ≠ jS T ∧ (jK S = 4 → jC S ≠ jS T) ∧ (jK T = 4 → jC T ≠ jS S) ∧ (jK S = 4 → jK T = 4 → jC S ≠ jC T)
def jZ (j : Nat) (r : Nat → Nat → Int32) : Prop := (∀ e, e < 44 → r 5 (44 * j + e) = 0) ∧ (∀ y, y < 4 → r 6 (4 * j + y) = 0) ∧ (∀ s, s < 36 → r 8 (36 * j + s) = 0)
def RJ (cy : Nat → ClassId) (G : cG) (W : va_W) (fa : Nat → Option Nat) (jc : Int32) (J : Nat → JT) (r : Nat → Nat → Int32) : Prop :=
  (∀ j : Nat, (j : Int) < jc.toInt → jobT cy G W fa j (J j) r) ∧ (∀ i j : Nat, (i : Int) < jc.toInt → (j : Int) < jc.toInt → i ≠ j → jDif (J i) (J j)) ∧ (∀ i : Nat, (i : Int) < jc.toInt → jK (J i) = 4 → jC (J i) ≠ jS (J i)) ∧ (∀ j : Nat, jc.toInt ≤ (j : Int) → j < 8 → jZ j r)
theorem bs_mono {f g : Nat → Bool} {n : Nat} (h : ∀ i, i < n → f i = true → g i = true) : bs f n ≤ bs g n := by
  induction n with
  | zero => exact Nat.le_refl _
  | succ n ih =>
    have h1 := ih (fun i hi => h i (by omega))
    have h2 := h n (by omega)
    simp only [bs]
    cases hf : f n
    · simp only [Bool.toNat_false]; omega
    · rw [h2 hf]; simp only [Bool.toNat_true]; omega
theorem ln_6 : ∀ w, w < 7 → ∀ h, h < 7 → ∀ way, way < 4 → ∀ line, line < 11 → bs (fun s => decide (lnT h way (s % w) (s / w) = line)) (w * h) ≤ 6 := by decide +kernel
theorem shN_6 {w h : Nat} (hb : 1 ≤ w ∧ w ≤ 6 ∧ 1 ≤ h ∧ h ≤ 6) {p : Int64} {way line : Nat} (hy : way < 4) (hl : line < 11) : shN w h p way line ≤ 6 := by
  have a := ln_6 w (by omega) h (by omega) way hy line hl
  have b : shN w h p way line ≤ bs (fun s => decide (lnT h way (s % w) (s / w) = line)) (w * h) := by
    unfold shN
    exact bs_mono (fun i _ hi => (Bool.and_eq_true_iff.mp hi).1)
  omega
theorem shN_I {w h : Nat} (hb : 1 ≤ w ∧ w ≤ 6 ∧ 1 ≤ h ∧ h ≤ 6) {p : Int64} {way line : Nat} (hy : way < 4) (hl : line < 11) : 0 ≤ (nI (shN w h p way line)).toInt ∧ (nI (shN w h p way line)).toInt ≤ 6 := by
  have a := shN_6 hb (p := p) hy hl
  rw [nI_toInt (by omega)]
  omega
section RJS
variable {cy : Nat → ClassId} {A : Nat → Prop} {G G1 : cG} {W W1 : va_W} {fa : Nat → Option Nat} {jc : Int32} {J : Nat → JT} {r r1 : Nat → Nat → Int32}
/-- the cells of a job and their kinds -/
theorem jobT.kinds (hD : va_D A W) (hT : cT cy G W) {j : Nat} {T : JT} (h : jobT cy G W fa j T r) : G (jX T) = some (3, jK T, 8 * jW T + jH T) ∧ G (jS T) = some (14, 44, 0) ∧ (jK T = 4 → G (jC T) = some (14, jW T * jH T, 0)) := by
  obtain ⟨⟨-, hx, hb, -, hm, -⟩, h2, -⟩ := h
  obtain ⟨-, hs, hj⟩ := w3sh hD hT hx hb hm
  refine ⟨hx, hs, fun z => ?_⟩
  rw [z] at hj
  obtain ⟨-, c, e1, e2⟩ := cJ4 hj
  have e3 := (h2 z).1
  rw [e3] at e1
  simp only [List.cons.injEq, Value.ref.injEq, and_true] at e1
  rw [e1]
  exact e2
/-- a job stays where its cells stay -/
theorem jobT.stay {j : Nat} {T : JT} (h : jobT cy G W fa j T r) (hE : cE G G1) (hx : ∀ e, cIn W (jX T) e → cIn W1 (jX T) e) (hs : ∀ e, cIn W (jS T) e → cIn W1 (jS T) e) (hc : jK T = 4 → ∀ e, cIn W (jC T) e → cIn W1 (jC T) e) (hp : jP j T r1) : jobT cy G1 W1 fa j T r1 := by
  obtain ⟨⟨h1, h2, h3, h4, h5, h6⟩, h7, -⟩ := h
  exact ⟨⟨h1, hE _ _ h2, h3, h4, hx _ h5, hs _ h6⟩, fun z => ⟨(h7 z).1, hc z _ (h7 z).2⟩, hp⟩
theorem jP.same {j : Nat} {T : JT} (h : jP j T r) (e2 : r1 2 = r 2) (e3 : r1 3 = r 3) (e4 : r1 4 = r 4) (e5 : r1 5 = r 5) (e6 : r1 6 = r 6) (e7 : r1 7 = r 7) (e8 : r1 8 = r 8) : jP j T r1 := by
  unfold jP
  rw [e2, e3, e4, e5, e6, e7, e8]
  exact h
theorem jZ.same {j : Nat} (h : jZ j r) (e5 : r1 5 = r 5) (e6 : r1 6 = r 6) (e8 : r1 8 = r 8) : jZ j r1 := by
  unfold jZ
  rw [e5, e6, e8]
  exact h
/-- nothing of the jobs changes -/
theorem RJ.keep (h : RJ cy G W fa jc J r) (hD : va_D A W) (hT : cT cy G W) {ch : List Nat} (hX : cX none (chs ch) G W G1 W1) (h3 : chs ch 3 = false) (h14 : chs ch 14 = false) (e2 : r1 2 = r 2) (e3 : r1 3 = r 3) (e4 : r1 4 = r 4) (e5 : r1 5 = r 5) (e6 : r1 6 = r 6) (e7 : r1 7 = r 7) (e8 : r1 8 = r 8) : RJ cy G1 W1 fa jc J r1 := by
  obtain ⟨a, b, c, d⟩ := h
  refine ⟨fun j hj => ?_, b, c, fun j h1 h2 => (d j h1 h2).same e5 e6 e8⟩
  obtain ⟨k1, k2, k3⟩ := (a j hj).kinds hD hT
  exact (a j hj).stay hX.1 (fun e hi => hX.2.1 _ _ (cP.no k1 h3) hi) (fun e hi => hX.2.1 _ _ (cP.no k2 h14) hi) (fun z e hi => hX.2.1 _ _ (cP.no (k3 z) h14) hi) ((a j hj).2.2.same e2 e3 e4 e5 e6 e7 e8)
/-- one job changes, at its own cells -/
theorem RJ.up (h : RJ cy G W fa jc J r) (hD : va_D A W) (hT : cT cy G W) {i : Nat} (hi : (i : Int) < jc.toInt) {P : Nat → Prop} (hP : ∀ z, P z → z = jX (J i) ∨ z = jS (J i) ∨ (jK (J i) = 4 ∧ z = jC (J i))) (hF : cF P W W1) {T : JT} (eX : jX T = jX (J i)) (eS : jS T = jS (J i)) (eC : jC T = jC (J i)) (eK : jK T = jK (J i)) (hTi : jobT cy G W1 fa i T r1)
    (hr : ∀ j : Nat, j ≠ i → j < 8 → (∀ S : JT, (1 ≤ jW S ∧ jW S ≤ 6 ∧ 1 ≤ jH S ∧ jH S ≤ 6) → jP j S r → jP j S r1) ∧ (jZ j r → jZ j r1)) (h8 : jc.toInt ≤ 8) : RJ cy G W1 fa jc (va_up J i T) r1 := by
  obtain ⟨a, b, c, d⟩ := h
  obtain ⟨i1, i2, i3⟩ := (a i hi).kinds hD hT
  refine ⟨fun j hj => ?_, fun j k hj hk hn => ?_, fun j hj => ?_, fun j h1 h2 => (hr j (by omega) h2).2 (d j h1 h2)⟩
  · by_cases z : j = i
    · subst z
      simp only [va_up, if_true]
      exact hTi
    · simp only [va_up, z, if_false]
      obtain ⟨k1, k2, k3⟩ := (a j hj).kinds hD hT
      obtain ⟨d1, d2, d3, d4, d5⟩ := b j i hj hi z
      refine (a j hj).stay cE.rf (fun e he => hF _ _ (fun y => ?_) he) (fun e he => hF _ _ (fun y => ?_) he) (fun y4 e he => hF _ _ (fun y => ?_) he) ((hr j z (by omega)).1 _ (a j hj).1.2.2.1 (a j hj).2.2)
      · rcases hP _ y with y | y | ⟨y4, y⟩
        · exact d1 y
        · exact cne k1 i2 (show (3 : Nat) ≠ 14 by decide) y
        · exact cne k1 (i3 y4) (show (3 : Nat) ≠ 14 by decide) y
      · rcases hP _ y with y | y | ⟨y4, y⟩
        · exact cne k2 i1 (show (14 : Nat) ≠ 3 by decide) y
        · exact d2 y
        · exact d4 y4 y.symm
      · rcases hP _ y with y | y | ⟨z4, y⟩
        · exact cne (k3 y4) i1 (show (14 : Nat) ≠ 3 by decide) y
        · exact d3 y4 y
        · exact d5 y4 z4 y
  · have key : ∀ j : Nat, jX (va_up J i T j) = jX (J j) ∧ jS (va_up J i T j) = jS (J j) ∧ jC (va_up J i T j) = jC (J j) ∧ jK (va_up J i T j) = jK (J j) := fun j => by
      by_cases z : j = i
      · subst z; simp only [va_up, if_true]; exact ⟨eX, eS, eC, eK⟩
      · simp only [va_up, z, if_false]; exact ⟨trivial, trivial, trivial, trivial⟩
    unfold jDif
    rw [(key j).1, (key j).2.1, (key j).2.2.1, (key j).2.2.2, (key k).1, (key k).2.1, (key k).2.2.1, (key k).2.2.2]
    exact b j k hj hk hn
  · by_cases z : j = i
    · subst z; simp only [va_up, if_true]; rw [eK, eC, eS]; exact c j hj
    · simp only [va_up, z, if_false]; exact c j hj
/-- other jobs' numbers are seen at their own places alone -/
theorem jP.other {j : Nat} {T : JT} (hb : 1 ≤ jW T ∧ jW T ≤ 6 ∧ 1 ≤ jH T ∧ jH T ≤ 6) (h : jP j T r) (e2 : r1 2 = r 2) (e3 : r1 3 = r 3) (e4 : r1 4 = r 4) (e5 : ∀ e, e < 44 → r1 5 (44 * j + e) = r 5 (44 * j + e)) (e6 : ∀ y, y < 4 → r1 6 (4 * j + y) = r 6 (4 * j + y)) (e7 : ∀ s, s < 36 → r1 7 (36 * j + s) = r 7 (36 * j + s)) (e8 : ∀ s, s < 36 → r1 8 (36 * j + s) = r 8 (36 * j + s)) : jP j T r1 := by
  obtain ⟨a1, a2, a3, a4, a5, a6, a7, a8, a9, aA⟩ := h
  have m36 := cb_mul hb
  refine ⟨by rw [e2]; exact a1, by rw [e3]; exact a2, by rw [e4]; exact a3, fun y hy => by rw [e6 y hy]; exact a4 y hy, fun y l hy hl => ?_, fun s hs => by rw [e7 s (by omega)]; exact a6 s hs, a7, fun z s hs => by rw [e8 s (by omega)]; exact a8 z s hs, fun s h1 h2 => by rw [e8 s h2]; exact a9 s h1 h2, aA⟩
  have lc := lnC_b hb y
  rw [show 44 * j + 11 * y + l = 44 * j + (11 * y + l) by omega, e5 (11 * y + l) (by omega), ← show 44 * j + 11 * y + l = 44 * j + (11 * y + l) by omega]
  exact a5 y l hy hl
theorem jZ.other {j : Nat} (h : jZ j r) (e5 : ∀ e, e < 44 → r1 5 (44 * j + e) = r 5 (44 * j + e)) (e6 : ∀ y, y < 4 → r1 6 (4 * j + y) = r 6 (4 * j + y)) (e8 : ∀ s, s < 36 → r1 8 (36 * j + s) = r 8 (36 * j + s)) : jZ j r1 :=
  ⟨fun e he => by rw [e5 e he]; exact h.1 e he, fun y hy => by rw [e6 y hy]; exact h.2.1 y hy, fun s hs => by rw [e8 s hs]; exact h.2.2 s hs⟩
/-- the same cells, other numbers -/
def jtSet (T : JT) (t : Nat) (fs : Nat → Int32) : JT := ((jX T, jK T, jB T, jS T, t, jW T, jH T, jC T), T.2.1, jM T, fs, jG T)
def jtHold (T : JT) (o n : Int64) : JT := (T.1, (o, n), T.2.2)
def jtMark (T : JT) (fm : Nat → Int32) : JT := (T.1, T.2.1, jM T, jF T, fm)
theorem jP_tell {j y0 : Nat} {T : JT} {g fs1 : Nat → Int32} (h : jP j T r) (ht : jL T < 16) (hy0 : y0 < 4) (hf : ∀ y l, y < 4 → l < lnC (jW T) (jH T) y → fs1 (y * 11 + l) = if y = y0 then g l else jF T (y * 11 + l)) (hg : ∀ l, l < lnC (jW T) (jH T) y0 → 0 ≤ (g l).toInt ∧ (g l).toInt ≤ 6) (e2 : r1 2 = r 2) (e3 : r1 3 = r 3) (e4 : r1 4 = r 4) (e7 : r1 7 = r 7) (e8 : r1 8 = r 8) (e6 : ∀ y, y < 4 → r1 6 (4 * j + y) = if y = y0 then 1 else r 6 (4 * j + y)) (e5 : ∀ y l, y < 4 → l < lnC (jW T) (jH T) y → r1 5 (44 * j + 11 * y + l) = if y = y0 then g l else r 5 (44 * j + 11 * y + l)) : jP j (jtSet T (tU (jL T) y0) fs1) r1 := by
  obtain ⟨a1, a2, a3, a4, a5, a6, a7, a8, a9, ⟨aA, aB⟩, aC⟩ := h
  refine ⟨by rw [e2]; exact a1, by rw [e3]; exact a2, by rw [e4]; exact a3, fun y hy => ?_, fun y l hy hl => ?_, by rw [e7]; exact a6, a7, by rw [e8]; exact a8, by rw [e8]; exact a9, ⟨(by show tB (tU (jL T) y0) 0 = true; rw [(tB_1 _ ht y0 hy0 0 (by omega)).1, aA, Bool.or_true]), (by show tB (tU (jL T) y0) 1 = true; rw [(tB_1 _ ht y0 hy0 1 (by omega)).1, aB, Bool.or_true])⟩, fun y l hy hl => (by
    show 0 ≤ (fs1 (y * 11 + l)).toInt ∧ (fs1 (y * 11 + l)).toInt ≤ 6
    have hl' : l < lnC (jW T) (jH T) y := hl
    rw [hf y l hy hl']
    by_cases z : y = y0
    · rw [if_pos z]; rw [z] at hl'; exact hg l hl'
    · rw [if_neg z]; exact aC y l hy hl')⟩
  · show _ ↔ tB (tU (jL T) y0) y = false
    rw [e6 y hy, (tB_1 _ ht y0 hy0 y hy).1]
    by_cases z : y = y0
    · rw [if_pos z, decide_eq_true z, Bool.true_or]; exact ⟨fun c => absurd c (by decide), fun c => by cases c⟩
    · rw [if_neg z, decide_eq_false z, Bool.false_or]; exact a4 y hy
  · show fs1 (y * 11 + l) = if tB (tU (jL T) y0) y then _ else _
    have hl' : l < lnC (jW T) (jH T) y := hl
    rw [hf y l hy hl', e5 y l hy hl', (tB_1 _ ht y0 hy0 y hy).1]
    by_cases z : y = y0
    · rw [if_pos z, if_pos z, decide_eq_true z, Bool.true_or, if_pos rfl]
    · rw [if_neg z, if_neg z, decide_eq_false z, Bool.false_or]; exact a5 y l hy hl'
theorem jP_untell {j y0 : Nat} {T : JT} {fs1 : Nat → Int32} (h : jP j T r) (ht : jL T < 16) (hy0 : y0 < 4) (hy2 : 2 ≤ y0) (hf : ∀ y l, y < 4 → l < lnC (jW T) (jH T) y → fs1 (y * 11 + l) = if y = y0 then 0 else jF T (y * 11 + l)) (e2 : r1 2 = r 2) (e3 : r1 3 = r 3) (e4 : r1 4 = r 4) (e5 : r1 5 = r 5) (e7 : r1 7 = r 7) (e8 : r1 8 = r 8) (e6 : ∀ y, y < 4 → r1 6 (4 * j + y) = if y = y0 then 0 else r 6 (4 * j + y)) : jP j (jtSet T (tD (jL T) y0) fs1) r1 := by
  obtain ⟨a1, a2, a3, a4, a5, a6, a7, a8, a9, ⟨aA, aB⟩, aC⟩ := h
  refine ⟨by rw [e2]; exact a1, by rw [e3]; exact a2, by rw [e4]; exact a3, fun y hy => ?_, fun y l hy hl => ?_, by rw [e7]; exact a6, a7, by rw [e8]; exact a8, by rw [e8]; exact a9, ⟨(by show tB (tD (jL T) y0) 0 = true; rw [(tB_1 _ ht y0 hy0 0 (by omega)).2, aA, decide_eq_false (by omega)]; rfl), (by show tB (tD (jL T) y0) 1 = true; rw [(tB_1 _ ht y0 hy0 1 (by omega)).2, aB, decide_eq_false (by omega)]; rfl)⟩, fun y l hy hl => (by
    show 0 ≤ (fs1 (y * 11 + l)).toInt ∧ (fs1 (y * 11 + l)).toInt ≤ 6
    have hl' : l < lnC (jW T) (jH T) y := hl
    rw [hf y l hy hl']
    by_cases z : y = y0
    · rw [if_pos z]; decide
    · rw [if_neg z]; exact aC y l hy hl')⟩
  · show _ ↔ tB (tD (jL T) y0) y = false
    rw [e6 y hy, (tB_1 _ ht y0 hy0 y hy).2]
    by_cases z : y = y0
    · rw [if_pos z, decide_eq_true z, Bool.not_true, Bool.false_and]; exact ⟨fun _ => rfl, fun _ => rfl⟩
    · rw [if_neg z, decide_eq_false z, Bool.not_false, Bool.true_and]; exact a4 y hy
  · show fs1 (y * 11 + l) = if tB (tD (jL T) y0) y then _ else _
    have hl' : l < lnC (jW T) (jH T) y := hl
    rw [hf y l hy hl', e5, (tB_1 _ ht y0 hy0 y hy).2]
    by_cases z : y = y0
    · rw [if_pos z, decide_eq_true z, Bool.not_true, Bool.false_and]; rfl
    · rw [if_neg z, decide_eq_false z, Bool.not_false, Bool.true_and]; exact a5 y l hy hl'
theorem jP_hold {j s0 : Nat} {T : JT} {x1 y1 : Int64} {how : Int32} (h : jP j T r) (h36 : jW T * jH T ≤ 36) (hs : s0 < jW T * jH T) (hw : 0 ≤ how.toInt ∧ how.toInt ≤ 2) (hx : hO (jO T) s0 (decide (how.toInt = 1)) x1) (hy : hO (jNn T) s0 (decide (how.toInt = 0)) y1) (e2 : r1 2 = r 2) (e3 : r1 3 = r 3) (e4 : r1 4 = r 4) (e5 : r1 5 = r 5) (e6 : r1 6 = r 6) (e8 : r1 8 = r 8) (e7 : r1 7 = upd (r 7) (36 * j + s0) how) : jP j (jtHold T x1 y1) r1 := by
  obtain ⟨a1, a2, a3, a4, a5, a6, a7, a8, a9, aA⟩ := h
  refine ⟨by rw [e2]; exact a1, by rw [e3]; exact a2, by rw [e4]; exact a3, by rw [e6]; exact a4, by rw [e5]; exact a5, fun s h1 => ?_, fun s h1 => ?_, by rw [e8]; exact a8, by rw [e8]; exact a9, aA⟩
  · have h1' : s < jW T * jH T := h1
    show r1 7 (36 * j + s) = hH x1 y1 s ∧ ¬ (lb x1 s = true ∧ lb y1 s = true)
    have ex := hx s (by omega)
    have ey := hy s (by omega)
    rw [e7]
    unfold hH upd
    rw [ex, ey]
    by_cases z : s = s0
    · rw [if_pos z, if_pos z, if_pos (by omega)]
      have c : how.toInt = 0 ∨ how.toInt = 1 ∨ how.toInt = 2 := by omega
      rcases c with c | c | c
      · have e : how = 0 := Int32.toInt_inj.mp (by rw [c]; rfl)
        rw [e]; decide
      · have e : how = 1 := Int32.toInt_inj.mp (by rw [c]; rfl)
        rw [e]; decide
      · have e : how = 2 := Int32.toInt_inj.mp (by rw [c]; rfl)
        rw [e]; decide
    · rw [if_neg z, if_neg z, if_neg (by omega)]
      exact a6 s h1'
  · have h1' : jW T * jH T ≤ s := h1
    show lb x1 s = false
    by_cases z : s < 64
    · rw [hx s z, if_neg (by omega)]; exact a7 s h1'
    · exact lb_big (by omega)
theorem jP_mark {j s0 : Nat} {T : JT} {v : Int32} (h : jP j T r) (h36 : jW T * jH T ≤ 36) (hs : s0 < jW T * jH T) (e2 : r1 2 = r 2) (e3 : r1 3 = r 3) (e4 : r1 4 = r 4) (e5 : r1 5 = r 5) (e6 : r1 6 = r 6) (e7 : r1 7 = r 7) (e8 : r1 8 = upd (r 8) (36 * j + s0) v) : jP j (jtMark T (upd (jG T) s0 v)) r1 := by
  obtain ⟨a1, a2, a3, a4, a5, a6, a7, a8, a9, aA⟩ := h
  refine ⟨by rw [e2]; exact a1, by rw [e3]; exact a2, by rw [e4]; exact a3, by rw [e6]; exact a4, by rw [e5]; exact a5, by rw [e7]; exact a6, a7, fun z s h1 => ?_, fun s h1 h2 => ?_, aA⟩
  · show upd (jG T) s0 v s = r1 8 (36 * j + s)
    rw [e8]
    unfold upd
    by_cases y : s = s0
    · rw [if_pos y, if_pos (by omega)]
    · rw [if_neg y, if_neg (by omega)]; exact a8 z s h1
  · have h1' : jW T * jH T ≤ s := h1
    rw [e8]
    unfold upd
    rw [if_neg (by omega)]
    exact a9 s h1' h2
/-- rows of the class: what setL, upd show at a line -/
theorem setL_at {fs g : Nat → Int32} {y0 n y l : Nat} (hn : n ≤ 11) (hl : l < 11) (hn0 : y = y0 → l < n) : setL fs y0 g n (y * 11 + l) = if y = y0 then g l else fs (y * 11 + l) := by
  unfold setL
  by_cases z : y = y0
  · have := hn0 z
    rw [if_pos z, if_pos (by subst z; omega), z, Nat.add_sub_cancel_left]
  · rw [if_neg z, if_neg (by omega)]
theorem setB_at {fs g : Nat → Int32} {j y0 n y l : Nat} (hn : n ≤ 11) (hl : l < 11) (hn0 : y = y0 → l < n) : setB fs (44 * j + 11 * y0) g n (44 * j + 11 * y + l) = if y = y0 then g l else fs (44 * j + 11 * y + l) := by
  unfold setB
  by_cases z : y = y0
  · have := hn0 z
    rw [if_pos z, if_pos (by subst z; omega), z, Nat.add_sub_cancel_left]
  · rw [if_neg z, if_neg (by omega)]
/-- the reference's row behind tell -/
theorem tell_at {j y0 y l : Nat} {T : JT} (h : jP j T r) (hy0 : y0 < 4) (hl : l < 11) (hl2 : y = y0 → l < lnC (jW T) (jH T) y0) : (if r 6 (4 * j + y0) = 0 then zL (r 5) (44 * j + 11 * y0) 11 else r 5) (44 * j + 11 * y + l) = if y = y0 then (jF T (y0 * 11 + l)) else r 5 (44 * j + 11 * y + l) := by
  by_cases z : y = y0
  · rw [if_pos z, z, h.2.2.2.2.1 y0 l hy0 (hl2 z)]
    by_cases c : r 6 (4 * j + y0) = 0
    · rw [if_pos c, (h.2.2.2.1 y0 hy0).mp c]
      unfold zL
      rw [if_pos (by omega)]; rfl
    · have c2 : tB (jL T) y0 = true := by cases hb : tB (jL T) y0; exact absurd ((h.2.2.2.1 y0 hy0).mpr hb) c; rfl
      rw [if_neg c, c2]; rfl
  · rw [if_neg z]
    by_cases c : r 6 (4 * j + y0) = 0
    · rw [if_pos c]; unfold zL; rw [if_neg (by omega)]
    · rw [if_neg c]
/-- a valid job's own tuple -/
theorem RJ.at (h : RJ cy G W fa jc J r) {j : Int32} (hj : okJob jc j) : jobT cy G W fa j.toNatClampNeg (J j.toNatClampNeg) r := h.1 _ (by have := m_cl (x := j) hj.1; have := hj.2; omega)
theorem RJ.js (h : RJ cy G W fa jc J r) {j : Int32} : okJob jc j → jobS cy G W fa j.toNatClampNeg (jX (J j.toNatClampNeg)) (jK (J j.toNatClampNeg)) (jB (J j.toNatClampNeg)) (jS (J j.toNatClampNeg)) (jL (J j.toNatClampNeg)) (jW (J j.toNatClampNeg)) (jH (J j.toNatClampNeg)) (jO (J j.toNatClampNeg)) (jNn (J j.toNatClampNeg)) (jM (J j.toNatClampNeg)) (jF (J j.toNatClampNeg)) := fun hj => (h.at hj).1
theorem RJ.sm (h : RJ cy G W fa jc J r) : ∀ i : Nat, (i : Int) < jc.toInt → ∃ x, fa i = some x := fun i hi => ⟨_, (h.1 i hi).1.1⟩
theorem RJ.sz (h : RJ cy G W fa jc J r) {j : Int32} (hj : okJob jc j) : jW (J j.toNatClampNeg) = (r 3 j.toNatClampNeg).toNatClampNeg ∧ jH (J j.toNatClampNeg) = (r 4 j.toNatClampNeg).toNatClampNeg := ⟨(h.at hj).2.2.2.1, (h.at hj).2.2.2.2.1⟩
/-- other places of the rows -/
theorem ne_44 {i j e e' : Nat} (h : j ≠ i) (he : e < 44) (he' : e' < 44) : 44 * j + e ≠ 44 * i + e' := by omega
theorem ne_36 {i j e e' : Nat} (h : j ≠ i) (he : e < 36) (he' : e' < 36) : 36 * j + e ≠ 36 * i + e' := by omega
theorem ne_4 {i j e e' : Nat} (h : j ≠ i) (he : e < 4) (he' : e' < 4) : 4 * j + e ≠ 4 * i + e' := by omega
theorem oth_sm {f6 f5 : Nat → Int32} {n y0 i e x : Nat} (hi : i ≠ n) (he : e < 44) (hy : y0 < 4) : (if f6 x = 0 then zL f5 (44 * n + 11 * y0) 11 else f5) (44 * i + e) = f5 (44 * i + e) := by
  by_cases c : f6 x = 0
  · rw [if_pos c]; unfold zL; rw [if_neg (by omega)]
  · rw [if_neg c]
theorem oth_u {f : Nat → Int32} {a b : Nat} {v : Int32} (h : a ≠ b) : upd f b v a = f a := by unfold upd; rw [if_neg h]
theorem oth_B {f g : Nat → Int32} {n y0 i e m : Nat} (hi : i ≠ n) (he : e < 44) (hy : y0 < 4) (hm : m ≤ 11) : setB f (44 * n + 11 * y0) g m (44 * i + e) = f (44 * i + e) := by
  unfold setB
  rw [if_neg (by omega)]
theorem RJ.sum (h : RJ cy G W fa jc J r) (hD : va_D A W) (hT : cT cy G W) (h8 : jc.toInt ≤ 8) {j way line v : Int32} (hF : cF (fun b => b = jX (J j.toNatClampNeg) ∨ b = jS (J j.toNatClampNeg)) W W1)
    (hc : (okSum9 jc (jW (J j.toNatClampNeg)) (jH (J j.toNatClampNeg)) j way line v ∧ cIn W1 (jX (J j.toNatClampNeg)) (.inr (jK (J j.toNatClampNeg), .ref (jB (J j.toNatClampNeg)) :: .ref (jS (J j.toNatClampNeg)) :: .int (nI (tU (jL (J j.toNatClampNeg)) way.toNatClampNeg)) :: .long (jO (J j.toNatClampNeg)) :: .long (jNn (J j.toNatClampNeg)) :: jM (J j.toNatClampNeg))) ∧ cIn W1 (jS (J j.toNatClampNeg)) (.inl (cy 0, 44, .inl (upd (jF (J j.toNatClampNeg)) (way.toNatClampNeg * 11 + line.toNatClampNeg) v)))) ∨ (¬ okSum9 jc (jW (J j.toNatClampNeg)) (jH (J j.toNatClampNeg)) j way line v ∧ W1 = W))
    (hr : (okSum9 jc (r 3 j.toNatClampNeg).toNatClampNeg (r 4 j.toNatClampNeg).toNatClampNeg j way line v ∧ r1 6 = upd (r 6) (4 * j.toNatClampNeg + way.toNatClampNeg) 1 ∧ r1 5 = upd (if r 6 (4 * j.toNatClampNeg + way.toNatClampNeg) = 0 then zL (r 5) (44 * j.toNatClampNeg + 11 * way.toNatClampNeg) 11 else r 5) (44 * j.toNatClampNeg + 11 * way.toNatClampNeg + line.toNatClampNeg) v) ∨ (¬ okSum9 jc (r 3 j.toNatClampNeg).toNatClampNeg (r 4 j.toNatClampNeg).toNatClampNeg j way line v ∧ r1 6 = r 6 ∧ r1 5 = r 5))
    (e2 : r1 2 = r 2) (e3 : r1 3 = r 3) (e4 : r1 4 = r 4) (e7 : r1 7 = r 7) (e8 : r1 8 = r 8) : ∃ J', RJ cy G W1 fa jc J' r1 := by
  rcases hc with ⟨ok, c1, c2⟩ | ⟨no, c1⟩
  · have hj := ok.1
    have sz := h.sz hj
    rcases hr with ⟨-, r6, r5⟩ | ⟨no2, -⟩
    · obtain ⟨⟨f1, f2, f3, f4, f5, f6⟩, f7, f8⟩ := h.at hj
      have cj := m_cl (x := j) hj.1
      have hj2 := hj.2
      obtain ⟨⟨ow1, ow2⟩, ol1, ol2⟩ := ok.2.1
      have cw := m_cl (x := way) ow1
      have cl := m_cl (x := line) ol1
      have lc := lnC_b f3 way.toNatClampNeg
      generalize hn : j.toNatClampNeg = n at *
      generalize hy : way.toNatClampNeg = y0 at *
      generalize hl : line.toNatClampNeg = l0 at *
      refine ⟨va_up J n (jtSet (J n) (tU (jL (J n)) y0) (upd (jF (J n)) (y0 * 11 + l0) v)), h.up hD hT (i := n) (by omega) (fun z hz => hz.imp id Or.inl) hF rfl rfl rfl rfl ?_ (fun i hi hi8 => ⟨fun S hS hP => hP.other hS e2 e3 e4 (fun e he => ?_) (fun y hy => ?_) (fun s hs => by rw [e7]) (fun s hs => by rw [e8]), fun hz => hz.other (fun e he => ?_) (fun y hy => ?_) (fun s hs => by rw [e8])⟩) h8⟩
      · have lt := tU_0 _ f4 y0 (by omega)
        refine ⟨⟨f1, f2, f3, lt.2.1, c1, c2⟩, fun z => ⟨(f7 z).1, hF _ _ (fun y => ?_) (f7 z).2⟩, jP_tell (g := fun l => if l = l0 then v else jF (J n) (y0 * 11 + l)) f8 f4 (by omega) (fun y l hy hl => ?_) (fun l hl => ?_) e2 e3 e4 e7 e8 (fun y hy => ?_) (fun y l hy hl => ?_)⟩
        · obtain ⟨k1, -, k3⟩ := (h.1 n (by omega)).kinds hD hT
          rcases y with y | y
          · exact cne (k3 z) k1 (show (14 : Nat) ≠ 3 by decide) y
          · exact h.2.2.1 n (by omega) z y
        · have := lnC_b f3 y
          unfold upd
          by_cases z : y = y0
          · subst z
            rw [if_pos rfl]
            by_cases z2 : l = l0
            · rw [if_pos (by omega), if_pos z2]
            · rw [if_neg (by omega), if_neg z2]
          · rw [if_neg z, if_neg (by omega)]
        · show 0 ≤ (if l = l0 then v else jF (J n) (y0 * 11 + l)).toInt ∧ (if l = l0 then v else jF (J n) (y0 * 11 + l)).toInt ≤ 6
          by_cases z : l = l0
          · rw [if_pos z]; exact ok.2.2
          · rw [if_neg z]; exact f8.2.2.2.2.2.2.2.2.2.2 y0 l (by omega) hl
        · rw [r6]
          unfold upd
          by_cases z : y = y0
          · rw [if_pos z, if_pos (by omega)]
          · rw [if_neg z, if_neg (by omega)]
        · have := lnC_b f3 y
          rw [r5]
          have ta := tell_at (y := y) (l := l) f8 (show y0 < 4 by omega) (by omega) (fun z => by rw [← z]; exact hl)
          show upd _ _ _ _ = _
          simp only [upd]
          by_cases z : y = y0
          · subst z
            rw [if_pos rfl]
            by_cases z2 : l = l0
            · rw [if_pos (by omega), if_pos z2]
            · rw [if_neg (by omega), if_neg z2, ta, if_pos rfl]
          · rw [if_neg z, if_neg (by omega), ta, if_neg z]
      · rw [r5, oth_u (by omega)]; exact oth_sm hi he (by omega)
      · rw [r6, oth_u (by omega)]
      · rw [r5, oth_u (by omega)]; exact oth_sm hi he (by omega)
      · rw [r6, oth_u (by omega)]
    · exact absurd ⟨hj, by rw [← sz.1, ← sz.2]; exact ok.2.1, ok.2.2⟩ no2
  · subst c1
    rcases hr with ⟨ok, -⟩ | ⟨-, r6, r5⟩
    · have sz := h.sz ok.1
      exact absurd ⟨ok.1, by rw [sz.1, sz.2]; exact ok.2.1, ok.2.2⟩ no
    · exact ⟨J, h.keep hD hT (ch := []) cX.rf rfl rfl e2 e3 e4 r5 r6 e7 e8⟩
theorem RJ.cast (h : RJ cy G W fa jc J r) (hD : va_D A W) (hT : cT cy G W) (h8 : jc.toInt ≤ 8) {j way : Int32} {p0 : Int64} (hF : cF (fun b => b = jX (J j.toNatClampNeg) ∨ b = jS (J j.toNatClampNeg)) W W1)
    (hc : (okCast9 jc (jW (J j.toNatClampNeg)) (jH (J j.toNatClampNeg)) j way p0 ∧ cIn W1 (jX (J j.toNatClampNeg)) (.inr (jK (J j.toNatClampNeg), .ref (jB (J j.toNatClampNeg)) :: .ref (jS (J j.toNatClampNeg)) :: .int (nI (tU (jL (J j.toNatClampNeg)) way.toNatClampNeg)) :: .long (jO (J j.toNatClampNeg)) :: .long (jNn (J j.toNatClampNeg)) :: jM (J j.toNatClampNeg))) ∧ cIn W1 (jS (J j.toNatClampNeg)) (.inl (cy 0, 44, .inl (setL (jF (J j.toNatClampNeg)) way.toNatClampNeg (fun l => nI (shN (jW (J j.toNatClampNeg)) (jH (J j.toNatClampNeg)) p0 way.toNatClampNeg l)) (lnC (jW (J j.toNatClampNeg)) (jH (J j.toNatClampNeg)) way.toNatClampNeg))))) ∨ (¬ okCast9 jc (jW (J j.toNatClampNeg)) (jH (J j.toNatClampNeg)) j way p0 ∧ W1 = W))
    (hr : (okCast9 jc (r 3 j.toNatClampNeg).toNatClampNeg (r 4 j.toNatClampNeg).toNatClampNeg j way p0 ∧ r1 6 = upd (r 6) (4 * j.toNatClampNeg + way.toNatClampNeg) 1 ∧ r1 5 = setB (if r 6 (4 * j.toNatClampNeg + way.toNatClampNeg) = 0 then zL (r 5) (44 * j.toNatClampNeg + 11 * way.toNatClampNeg) 11 else r 5) (44 * j.toNatClampNeg + 11 * way.toNatClampNeg) (fun l => nI (shN (r 3 j.toNatClampNeg).toNatClampNeg (r 4 j.toNatClampNeg).toNatClampNeg p0 way.toNatClampNeg l)) (lnC (r 3 j.toNatClampNeg).toNatClampNeg (r 4 j.toNatClampNeg).toNatClampNeg way.toNatClampNeg)) ∨ (¬ okCast9 jc (r 3 j.toNatClampNeg).toNatClampNeg (r 4 j.toNatClampNeg).toNatClampNeg j way p0 ∧ r1 6 = r 6 ∧ r1 5 = r 5))
    (e2 : r1 2 = r 2) (e3 : r1 3 = r 3) (e4 : r1 4 = r 4) (e7 : r1 7 = r 7) (e8 : r1 8 = r 8) : ∃ J', RJ cy G W1 fa jc J' r1 := by
  rcases hc with ⟨ok, c1, c2⟩ | ⟨no, c1⟩
  · have hj := ok.1
    have sz := h.sz hj
    rcases hr with ⟨-, r6, r5⟩ | ⟨no2, -⟩
    · obtain ⟨⟨f1, f2, f3, f4, f5, f6⟩, f7, f8⟩ := h.at hj
      have cj := m_cl (x := j) hj.1
      have hj2 := hj.2
      obtain ⟨ow1, ow2⟩ := ok.2.1
      have cw := m_cl (x := way) ow1
      have lc := lnC_b f3 way.toNatClampNeg
      rw [← sz.1, ← sz.2] at r5
      generalize hn : j.toNatClampNeg = n at *
      generalize hy : way.toNatClampNeg = y0 at *
      refine ⟨va_up J n (jtSet (J n) (tU (jL (J n)) y0) (setL (jF (J n)) y0 (fun l => nI (shN (jW (J n)) (jH (J n)) p0 y0 l)) (lnC (jW (J n)) (jH (J n)) y0))), h.up hD hT (i := n) (by omega) (fun z hz => hz.imp id Or.inl) hF rfl rfl rfl rfl ⟨⟨f1, f2, f3, (tU_0 _ f4 y0 (by omega)).2.1, c1, c2⟩, fun z => ⟨(f7 z).1, hF _ _ (fun y => ?_) (f7 z).2⟩, jP_tell (g := fun l => nI (shN (jW (J n)) (jH (J n)) p0 y0 l)) f8 f4 (by omega) (fun y l hy hl => ?_) (fun l hl => shN_I f3 (by omega) (by omega)) e2 e3 e4 e7 e8 (fun y hy => ?_) (fun y l hy hl => ?_)⟩ (fun i hi hi8 => ⟨fun S hS hP => hP.other hS e2 e3 e4 (fun e he => ?_) (fun y hy => ?_) (fun s hs => by rw [e7]) (fun s hs => by rw [e8]), fun hz => hz.other (fun e he => ?_) (fun y hy => ?_) (fun s hs => by rw [e8])⟩) h8⟩
      · obtain ⟨k1, -, k3⟩ := (h.1 n (by omega)).kinds hD hT
        rcases y with y | y
        · exact cne (k3 z) k1 (show (14 : Nat) ≠ 3 by decide) y
        · exact h.2.2.1 n (by omega) z y
      · have := lnC_b f3 y
        exact setL_at (y := y) (l := l) lc (show l < 11 by omega) (fun z => by rw [← z]; exact hl)
      · rw [r6]
        unfold upd
        by_cases z : y = y0
        · rw [if_pos z, if_pos (by omega)]
        · rw [if_neg z, if_neg (by omega)]
      · have := lnC_b f3 y
        rw [r5, setB_at lc (by omega) (fun z => by rw [← z]; exact hl)]
        by_cases z : y = y0
        · rw [if_pos z, if_pos z]
        · rw [if_neg z, if_neg z, tell_at (y := y) (l := l) f8 (show y0 < 4 by omega) (by omega) (fun z2 => absurd z2 z), if_neg z]
      · rw [r5, oth_B hi he (by omega) lc]; exact oth_sm hi he (by omega)
      · rw [r6, oth_u (by omega)]
      · rw [r5, oth_B hi he (by omega) lc]; exact oth_sm hi he (by omega)
      · rw [r6, oth_u (by omega)]
    · exact absurd ⟨hj, ok.2.1, by rw [← sz.1, ← sz.2]; exact ok.2.2⟩ no2
  · subst c1
    rcases hr with ⟨ok, -⟩ | ⟨-, r6, r5⟩
    · have sz := h.sz ok.1
      exact absurd ⟨ok.1, ok.2.1, by rw [sz.1, sz.2]; exact ok.2.2⟩ no
    · exact ⟨J, h.keep hD hT (ch := []) cX.rf rfl rfl e2 e3 e4 r5 r6 e7 e8⟩
theorem RJ.untell (h : RJ cy G W fa jc J r) (hD : va_D A W) (hT : cT cy G W) (h8 : jc.toInt ≤ 8) {j way : Int32} (hF : cF (fun b => b = jX (J j.toNatClampNeg) ∨ b = jS (J j.toNatClampNeg)) W W1)
    (hc : (okUn9 jc j way ∧ cIn W1 (jX (J j.toNatClampNeg)) (.inr (jK (J j.toNatClampNeg), .ref (jB (J j.toNatClampNeg)) :: .ref (jS (J j.toNatClampNeg)) :: .int (nI (tD (jL (J j.toNatClampNeg)) way.toNatClampNeg)) :: .long (jO (J j.toNatClampNeg)) :: .long (jNn (J j.toNatClampNeg)) :: jM (J j.toNatClampNeg))) ∧ cIn W1 (jS (J j.toNatClampNeg)) (.inl (cy 0, 44, .inl (setL (jF (J j.toNatClampNeg)) way.toNatClampNeg (fun _ => 0) (lnC (jW (J j.toNatClampNeg)) (jH (J j.toNatClampNeg)) way.toNatClampNeg))))) ∨ (¬ okUn9 jc j way ∧ W1 = W))
    (hr : (okUn9 jc j way ∧ r1 6 = upd (r 6) (4 * j.toNatClampNeg + way.toNatClampNeg) 0) ∨ (¬ okUn9 jc j way ∧ r1 6 = r 6))
    (e2 : r1 2 = r 2) (e3 : r1 3 = r 3) (e4 : r1 4 = r 4) (e5 : r1 5 = r 5) (e7 : r1 7 = r 7) (e8 : r1 8 = r 8) : ∃ J', RJ cy G W1 fa jc J' r1 := by
  rcases hc with ⟨ok, c1, c2⟩ | ⟨no, c1⟩
  · have hj := ok.1
    rcases hr with ⟨-, r6⟩ | ⟨no2, -⟩
    · obtain ⟨⟨f1, f2, f3, f4, f5, f6⟩, f7, f8⟩ := h.at hj
      have cj := m_cl (x := j) hj.1
      have hj2 := hj.2
      obtain ⟨ow1, ow2⟩ := ok.2
      have cw := m_cl (x := way) (by omega)
      have lc := lnC_b f3 way.toNatClampNeg
      generalize hn : j.toNatClampNeg = n at *
      generalize hy : way.toNatClampNeg = y0 at *
      refine ⟨va_up J n (jtSet (J n) (tD (jL (J n)) y0) (setL (jF (J n)) y0 (fun _ => 0) (lnC (jW (J n)) (jH (J n)) y0))), h.up hD hT (i := n) (by omega) (fun z hz => hz.imp id Or.inl) hF rfl rfl rfl rfl ⟨⟨f1, f2, f3, (tU_0 _ f4 y0 (by omega)).2.2.1, c1, c2⟩, fun z => ⟨(f7 z).1, hF _ _ (fun y => ?_) (f7 z).2⟩, jP_untell f8 f4 (by omega) (by omega) (fun y l hy hl => ?_) e2 e3 e4 e5 e7 e8 (fun y hy => ?_)⟩ (fun i hi hi8 => ⟨fun S hS hP => hP.other hS e2 e3 e4 (fun e he => by rw [e5]) (fun y hy => ?_) (fun s hs => by rw [e7]) (fun s hs => by rw [e8]), fun hz => hz.other (fun e he => by rw [e5]) (fun y hy => ?_) (fun s hs => by rw [e8])⟩) h8⟩
      · obtain ⟨k1, -, k3⟩ := (h.1 n (by omega)).kinds hD hT
        rcases y with y | y
        · exact cne (k3 z) k1 (show (14 : Nat) ≠ 3 by decide) y
        · exact h.2.2.1 n (by omega) z y
      · have := lnC_b f3 y
        exact setL_at (y := y) (l := l) lc (show l < 11 by omega) (fun z => by rw [← z]; exact hl)
      · rw [r6]
        unfold upd
        by_cases z : y = y0
        · rw [if_pos z, if_pos (by omega)]
        · rw [if_neg z, if_neg (by omega)]
      · rw [r6, oth_u (by omega)]
      · rw [r6, oth_u (by omega)]
    · exact absurd ok no2
  · subst c1
    rcases hr with ⟨ok, -⟩ | ⟨-, r6⟩
    · exact absurd ok no
    · exact ⟨J, h.keep hD hT (ch := []) cX.rf rfl rfl e2 e3 e4 e5 r6 e7 e8⟩
theorem RJ.hold (h : RJ cy G W fa jc J r) (hD : va_D A W) (hT : cT cy G W) (h8 : jc.toInt ≤ 8) {j s0 how : Int32} (hF : cF (fun b => b = jX (J j.toNatClampNeg)) W W1)
    (hc : (okHold9 jc (jW (J j.toNatClampNeg)) (jH (J j.toNatClampNeg)) j s0 how ∧ ∃ x1 y1, cIn W1 (jX (J j.toNatClampNeg)) (.inr (jK (J j.toNatClampNeg), .ref (jB (J j.toNatClampNeg)) :: .ref (jS (J j.toNatClampNeg)) :: .int (nI (jL (J j.toNatClampNeg))) :: .long x1 :: .long y1 :: jM (J j.toNatClampNeg))) ∧ hO (jO (J j.toNatClampNeg)) s0.toNatClampNeg (decide (how.toInt = 1)) x1 ∧ hO (jNn (J j.toNatClampNeg)) s0.toNatClampNeg (decide (how.toInt = 0)) y1) ∨ (¬ okHold9 jc (jW (J j.toNatClampNeg)) (jH (J j.toNatClampNeg)) j s0 how ∧ W1 = W))
    (hr : (okHold9 jc (r 3 j.toNatClampNeg).toNatClampNeg (r 4 j.toNatClampNeg).toNatClampNeg j s0 how ∧ r1 7 = upd (r 7) (36 * j.toNatClampNeg + s0.toNatClampNeg) how) ∨ (¬ okHold9 jc (r 3 j.toNatClampNeg).toNatClampNeg (r 4 j.toNatClampNeg).toNatClampNeg j s0 how ∧ r1 7 = r 7))
    (e2 : r1 2 = r 2) (e3 : r1 3 = r 3) (e4 : r1 4 = r 4) (e5 : r1 5 = r 5) (e6 : r1 6 = r 6) (e8 : r1 8 = r 8) : ∃ J', RJ cy G W1 fa jc J' r1 := by
  rcases hc with ⟨ok, x1, y1, c1, c2, c3⟩ | ⟨no, c1⟩
  · have hj := ok.1
    have sz := h.sz hj
    rcases hr with ⟨-, r7⟩ | ⟨no2, -⟩
    · obtain ⟨⟨f1, f2, f3, f4, f5, f6⟩, f7, f8⟩ := h.at hj
      have cj := m_cl (x := j) hj.1
      have hj2 := hj.2
      obtain ⟨⟨os1, os2⟩, oh⟩ := ok.2
      have cs := m_cl (x := s0) os1
      have m36 := cb_mul f3
      generalize hn : j.toNatClampNeg = n at *
      generalize hy : s0.toNatClampNeg = q0 at *
      refine ⟨va_up J n (jtHold (J n) x1 y1), h.up hD hT (i := n) (by omega) (fun z hz => Or.inl hz) hF rfl rfl rfl rfl ⟨⟨f1, f2, f3, f4, c1, hF _ _ (fun y => ?_) f6⟩, fun z => ⟨(f7 z).1, hF _ _ (fun y => ?_) (f7 z).2⟩, jP_hold f8 m36.2 (by omega) oh c2 c3 e2 e3 e4 e5 e6 e8 r7⟩ (fun i hi hi8 => ⟨fun S hS hP => hP.other hS e2 e3 e4 (fun e he => by rw [e5]) (fun y hy => by rw [e6]) (fun s hs => ?_) (fun s hs => by rw [e8]), fun hz => hz.other (fun e he => by rw [e5]) (fun y hy => by rw [e6]) (fun s hs => by rw [e8])⟩) h8⟩
      · obtain ⟨k1, k2, -⟩ := (h.1 n (by omega)).kinds hD hT
        exact cne k2 k1 (show (14 : Nat) ≠ 3 by decide) y
      · obtain ⟨k1, -, k3⟩ := (h.1 n (by omega)).kinds hD hT
        exact cne (k3 z) k1 (show (14 : Nat) ≠ 3 by decide) y
      · rw [r7, oth_u (by omega)]
    · exact absurd ⟨hj, by rw [← sz.1, ← sz.2]; exact ok.2.1, ok.2.2⟩ no2
  · subst c1
    rcases hr with ⟨ok, -⟩ | ⟨-, r7⟩
    · have sz := h.sz ok.1
      exact absurd ⟨ok.1, by rw [sz.1, sz.2]; exact ok.2.1, ok.2.2⟩ no
    · exact ⟨J, h.keep hD hT (ch := []) cX.rf rfl rfl e2 e3 e4 e5 e6 r7 e8⟩
theorem kcl_4 {k : Int32} : kcl k = 4 ↔ k = 3 := by
  unfold kcl
  constructor
  · intro h
    by_cases a : k.toInt = 1
    · rw [if_pos a] at h; cases h
    · rw [if_neg a] at h
      by_cases b : k.toInt = 2
      · rw [if_pos b] at h; cases h
      · rw [if_neg b] at h
        by_cases c : k.toInt = 3
        · exact Int32.toInt_inj.mp (by rw [c]; rfl)
        · rw [if_neg c] at h; cases h
  · intro h; subst h; rfl
theorem RJ.mark (h : RJ cy G W fa jc J r) (hD : va_D A W) (hT : cT cy G W) (h8 : jc.toInt ≤ 8) {j s0 v : Int32} (hF : cF (fun b => b = jC (J j.toNatClampNeg)) W W1)
    (hc : (okMark9 jc (jW (J j.toNatClampNeg)) (jH (J j.toNatClampNeg)) j s0 v ∧ ((jK (J j.toNatClampNeg) = 4 ∧ cIn W1 (jC (J j.toNatClampNeg)) (.inl (cy 0, jW (J j.toNatClampNeg) * jH (J j.toNatClampNeg), .inl (upd (jG (J j.toNatClampNeg)) s0.toNatClampNeg v)))) ∨ (¬ jK (J j.toNatClampNeg) = 4 ∧ W1 = W))) ∨ (¬ okMark9 jc (jW (J j.toNatClampNeg)) (jH (J j.toNatClampNeg)) j s0 v ∧ W1 = W))
    (hr : (okMark9 jc (r 3 j.toNatClampNeg).toNatClampNeg (r 4 j.toNatClampNeg).toNatClampNeg j s0 v ∧ ((r 2 j.toNatClampNeg = 3 ∧ r1 8 = upd (r 8) (36 * j.toNatClampNeg + s0.toNatClampNeg) v) ∨ (¬ r 2 j.toNatClampNeg = 3 ∧ r1 8 = r 8))) ∨ (¬ okMark9 jc (r 3 j.toNatClampNeg).toNatClampNeg (r 4 j.toNatClampNeg).toNatClampNeg j s0 v ∧ r1 8 = r 8))
    (e2 : r1 2 = r 2) (e3 : r1 3 = r 3) (e4 : r1 4 = r 4) (e5 : r1 5 = r 5) (e6 : r1 6 = r 6) (e7 : r1 7 = r 7) : ∃ J', RJ cy G W1 fa jc J' r1 := by
  have keep : W1 = W → r1 8 = r 8 → ∃ J', RJ cy G W1 fa jc J' r1 := fun c e8 => by
    subst c
    exact ⟨J, h.keep hD hT (ch := []) cX.rf rfl rfl e2 e3 e4 e5 e6 e7 e8⟩
  rcases hc with ⟨ok, hc⟩ | ⟨no, c1⟩
  · have hj := ok.1
    have sz := h.sz hj
    have kk := (h.at hj).2.2.1
    rcases hr with ⟨-, hr⟩ | ⟨no2, -⟩
    · rcases hc with ⟨k4, c1⟩ | ⟨k4, c1⟩
      · rcases hr with ⟨-, r8⟩ | ⟨r3, -⟩
        · obtain ⟨⟨f1, f2, f3, f4, f5, f6⟩, f7, f8⟩ := h.at hj
          have cj := m_cl (x := j) hj.1
          have hj2 := hj.2
          obtain ⟨⟨os1, os2⟩, -⟩ := ok.2
          have cs := m_cl (x := s0) os1
          have m36 := cb_mul f3
          generalize hn : j.toNatClampNeg = n at *
          generalize hy : s0.toNatClampNeg = q0 at *
          obtain ⟨k1, k2, k3⟩ := (h.1 n (by omega)).kinds hD hT
          refine ⟨va_up J n (jtMark (J n) (upd (jG (J n)) q0 v)), h.up hD hT (i := n) (by omega) (fun z hz => Or.inr (Or.inr ⟨k4, hz⟩)) hF rfl rfl rfl rfl ⟨⟨f1, f2, f3, f4, hF _ _ (cne k1 (k3 k4) (show (3 : Nat) ≠ 14 by decide)) f5, hF _ _ (fun y => h.2.2.1 n (by omega) k4 y.symm) f6⟩, fun z => ⟨(f7 z).1, c1⟩, jP_mark f8 m36.2 (by omega) e2 e3 e4 e5 e6 e7 r8⟩ (fun i hi hi8 => ⟨fun S hS hP => hP.other hS e2 e3 e4 (fun e he => by rw [e5]) (fun y hy => by rw [e6]) (fun s hs => by rw [e7]) (fun s hs => by rw [r8, oth_u (by omega)]), fun hz => hz.other (fun e he => by rw [e5]) (fun y hy => by rw [e6]) (fun s hs => by rw [r8, oth_u (by omega)])⟩) h8⟩
        · exact absurd (kcl_4.mp (kk.symm.trans k4)) r3
      · rcases hr with ⟨r3, -⟩ | ⟨-, r8⟩
        · exact absurd (kk.trans (kcl_4.mpr r3)) k4
        · exact keep c1 r8
    · exact absurd ⟨hj, by rw [← sz.1, ← sz.2]; exact ok.2.1, ok.2.2⟩ no2
  · rcases hr with ⟨ok, -⟩ | ⟨-, r8⟩
    · have sz := h.sz ok.1
      exact absurd ⟨ok.1, by rw [sz.1, sz.2]; exact ok.2.1, ok.2.2⟩ no
    · exact keep c1 r8
/-- a job more -/
theorem RJ.add (h : RJ cy G W fa jc J r) (hD : va_D A W) (hT : cT cy G W) {kind wide high jc1 : Int32} (h0 : 0 ≤ jc.toInt) (ok : okJ kind wide high jc) (e1 : jc1.toInt = jc.toInt + 1) {ch : List Nat} (hX : cX none (chs ch) G W G1 W1) (h3 : chs ch 3 = false) (h14 : chs ch 14 = false) {x b a : Nat} {ms : List Value} (hx : G1 x = some (3, kcl kind, 8 * wide.toNatClampNeg + high.toNatClampNeg)) (nx : ∀ e, ¬ cIn W x e) (na : ∀ e, ¬ cIn W a e) (mx : cIn W1 x (.inr (kcl kind, .ref b :: .ref a :: .int (nI 3) :: .long 0 :: .long 0 :: ms))) (ma : cIn W1 a (.inl (cy 0, 44, .inl (fun _ => 0)))) (mk : kcl kind = 4 → ∃ c, ms = [.ref c] ∧ (∀ e, ¬ cIn W c e) ∧ c ≠ a ∧ cIn W1 c (.inl (cy 0, wide.toNatClampNeg * high.toNatClampNeg, .inl (fun _ => 0))))
    (e2 : r1 2 = upd (r 2) jc.toNatClampNeg kind) (e3 : r1 3 = upd (r 3) jc.toNatClampNeg wide) (e4 : r1 4 = upd (r 4) jc.toNatClampNeg high) (e5 : r1 5 = r 5) (e6 : r1 6 = upd (upd (r 6) (4 * jc.toNatClampNeg) 1) (4 * jc.toNatClampNeg + 1) 1) (e7 : r1 7 = setB (r 7) (36 * jc.toNatClampNeg) (fun _ => 2) 36) (e8 : r1 8 = r 8) : ∃ J', RJ cy G1 W1 (va_up fa jc.toNatClampNeg (some x)) jc1 J' r1 := by
  obtain ⟨⟨⟨ok1, ok1'⟩, ⟨ok2, ok2'⟩, ok3, ok3'⟩, ok4⟩ := ok
  have cj := m_cl (x := jc) h0
  have cw := m_cl (x := wide) (by omega)
  have chh := m_cl (x := high) (by omega)
  obtain ⟨a1, a2, a3, a4⟩ := h
  obtain ⟨c, hc⟩ : ∃ c, kcl kind = 4 → ms = [.ref c] ∧ (∀ e, ¬ cIn W c e) ∧ c ≠ a ∧ cIn W1 c (.inl (cy 0, wide.toNatClampNeg * high.toNatClampNeg, .inl (fun _ => 0))) := by
    by_cases z : kcl kind = 4
    · obtain ⟨c, hc⟩ := mk z; exact ⟨c, fun _ => hc⟩
    · exact ⟨0, fun y => absurd y z⟩
  generalize hn : jc.toNatClampNeg = n at *
  have hnew : ∀ {i : Nat}, (i : Int) < jc.toInt → jDif (J i) ((x, kcl kind, b, a, 3, wide.toNatClampNeg, high.toNatClampNeg, c), (0, 0), ms, (fun _ => 0), (fun _ => 0)) := fun {i} hi => by
    obtain ⟨⟨-, -, -, -, i5, i6⟩, i7, -⟩ := a1 i hi
    refine ⟨fun z => ?_, fun z => ?_, fun k z => ?_, fun k z => ?_, fun k k2 z => ?_⟩
    · have z' : jX (J i) = x := z
      rw [z'] at i5
      exact nx _ i5
    · have z' : jS (J i) = a := z
      rw [z'] at i6
      exact na _ i6
    · have z' : jC (J i) = a := z
      have i8 := (i7 k).2
      rw [z'] at i8
      exact na _ i8
    · have z' : c = jS (J i) := z
      rw [← z'] at i6
      exact (hc k).2.1 _ i6
    · have z' : jC (J i) = c := z
      have i8 := (i7 k).2
      rw [z'] at i8
      exact (hc k2).2.1 _ i8
  have hsym : ∀ {S T : JT}, jDif S T → jDif T S := fun {S T} d => ⟨fun z => d.1 z.symm, fun z => d.2.1 z.symm, d.2.2.2.1, d.2.2.1, fun k1 k2 z => d.2.2.2.2 k2 k1 z.symm⟩
  refine ⟨va_up J n ((x, kcl kind, b, a, 3, wide.toNatClampNeg, high.toNatClampNeg, c), (0, 0), ms, (fun _ => 0), (fun _ => 0)), fun j hj => ?_, fun i j hi hj hij => ?_, fun i hi => ?_, fun j h1 h2 => ?_⟩
  · by_cases z : j = n
    · subst z
      simp only [va_up, if_true]
      obtain ⟨z5, z6, z8⟩ := a4 j (by omega) (by omega)
      refine ⟨⟨by simp only [va_up, if_true], hx, by show 1 ≤ wide.toNatClampNeg ∧ wide.toNatClampNeg ≤ 6 ∧ 1 ≤ high.toNatClampNeg ∧ high.toNatClampNeg ≤ 6; omega, by show (3 : Nat) < 16; omega, mx, ma⟩, fun k => ⟨(hc k).1, (hc k).2.2.2⟩, ?_⟩
      refine ⟨by rw [e2]; simp only [upd, if_true], by rw [e3]; simp only [upd, if_true], by rw [e4]; simp only [upd, if_true], fun y hy => ?_, fun y l hy hl => ?_, fun s hs => ?_, fun s hs => lb_0 s, fun k s hs => ?_, fun s h1 h2 => ?_, ⟨(by show tB 3 0 = true; decide), (by show tB 3 1 = true; decide)⟩, fun y l hy hl => (by show 0 ≤ (0 : Int32).toInt ∧ (0 : Int32).toInt ≤ 6; decide)⟩
      · rw [e6]
        show _ ↔ tB 3 y = false
        have c4 : y = 0 ∨ y = 1 ∨ y = 2 ∨ y = 3 := by omega
        simp only [upd]
        rcases c4 with rfl | rfl | rfl | rfl
        · rw [if_neg (by omega), if_pos (by omega)]; decide
        · rw [if_pos (by omega)]; decide
        · rw [if_neg (by omega), if_neg (by omega), z6 2 (by omega)]; decide
        · rw [if_neg (by omega), if_neg (by omega), z6 3 (by omega)]; decide
      · have lc := lnC_b (w := wide.toNatClampNeg) (h := high.toNatClampNeg) (by omega) y
        have hl' : l < lnC wide.toNatClampNeg high.toNatClampNeg y := hl
        rw [e5, show 44 * j + 11 * y + l = 44 * j + (11 * y + l) by omega, z5 (11 * y + l) (by omega)]
        show (0 : Int32) = _
        split <;> rfl
      · have m36 := cb_mul (w := wide.toNatClampNeg) (h := high.toNatClampNeg) (by omega)
        have hs' : s < wide.toNatClampNeg * high.toNatClampNeg := hs
        rw [e7]
        refine ⟨?_, fun y => by have := y.1; rw [show lb (0 : Int64) s = false from lb_0 s] at this; cases this⟩
        unfold setB
        rw [if_pos (by omega)]
        show (2 : Int32) = hH 0 0 s
        unfold hH
        rw [lb_0]; rfl
      · have m36 := cb_mul (w := wide.toNatClampNeg) (h := high.toNatClampNeg) (by omega)
        have hs' : s < wide.toNatClampNeg * high.toNatClampNeg := hs
        rw [e8, z8 s (by omega)]
      · rw [e8, z8 s h2]
    · simp only [va_up, z, if_false]
      have hj' : (j : Int) < jc.toInt := by omega
      obtain ⟨k1, k2, k3⟩ := (a1 j hj').kinds hD hT
      have st := (a1 j hj').stay (r1 := r1) hX.1 (fun e hi => hX.2.1 _ _ (cP.no k1 h3) hi) (fun e hi => hX.2.1 _ _ (cP.no k2 h14) hi) (fun z e hi => hX.2.1 _ _ (cP.no (k3 z) h14) hi) (by
        obtain ⟨p1, p2, p3, p4, p5, p6, p7, p8, p9, pA⟩ := (a1 j hj').2.2
        have m36 := cb_mul (a1 j hj').1.2.2.1
        refine ⟨by rw [e2, oth_u z]; exact p1, by rw [e3, oth_u z]; exact p2, by rw [e4, oth_u z]; exact p3, fun y hy => by rw [e6, oth_u (by omega), oth_u (by omega)]; exact p4 y hy, by rw [e5]; exact p5, fun s hs => ?_, p7, by rw [e8]; exact p8, by rw [e8]; exact p9, pA⟩
        rw [e7]
        refine ⟨?_, (p6 s hs).2⟩
        unfold setB
        rw [if_neg (by omega)]
        exact (p6 s hs).1)
      obtain ⟨⟨q1, q2⟩, q3⟩ := st
      exact ⟨⟨by simp only [va_up, z, if_false]; exact q1, q2⟩, q3⟩
  · by_cases z : i = n
    · by_cases y : j = n
      · exact absurd (z.trans y.symm) hij
      · subst z
        simp only [va_up, y, if_false, if_true]
        exact hsym (hnew (by omega))
    · by_cases y : j = n
      · subst y
        simp only [va_up, z, if_false, if_true]
        exact hnew (by omega)
      · simp only [va_up, y, z, if_false]
        exact a2 i j (by omega) (by omega) hij
  · by_cases z : i = n
    · subst z
      simp only [va_up, if_true]
      exact fun k => (hc k).2.2.1
    · simp only [va_up, z, if_false]
      exact a3 i (by omega)
  · obtain ⟨z5, z6, z8⟩ := a4 j (by omega) h2
    exact ⟨fun e he => by rw [e5]; exact z5 e he, fun y hy => by rw [e6, oth_u (by omega), oth_u (by omega)]; exact z6 y hy, fun s hs => by rw [e8]; exact z8 s hs⟩
end RJS


/-- sums, counts and the k greatest of a row of numbers -/
def sI (f : Nat → Int32) (b : Nat) : Nat → Int
  | 0 => 0
  | n + 1 => sI f b n + (f (b + n)).toInt
def cGe (f : Nat → Int32) (b : Nat) (v : Int) : Nat → Nat
  | 0 => 0
  | n + 1 => cGe f b v n + (if v ≤ (f (b + n)).toInt then 1 else 0)
def cEq (f : Nat → Int32) (b : Nat) (v : Int) : Nat → Nat
  | 0 => 0
  | n + 1 => cEq f b v n + (if (f (b + n)).toInt = v then 1 else 0)
def kS (f : Nat → Int32) (b w k : Nat) : Nat := min k (cGe f b 1 w) + min k (cGe f b 2 w) + min k (cGe f b 3 w) + min k (cGe f b 4 w) + min k (cGe f b 5 w) + min k (cGe f b 6 w)
def rI (f : Nat → Int32) (b : Nat) (k : Nat) : Nat → Int
  | 0 => 0
  | n + 1 => rI f b k n + (if (f (b + n)).toInt < (k : Int) then (f (b + n)).toInt else (k : Int))
theorem cGe_s (f : Nat → Int32) (b : Nat) (v : Int) (n : Nat) : cGe f b v n = cGe f b (v + 1) n + cEq f b v n := by
  induction n with
  | zero => rfl
  | succ n ih =>
    simp only [cGe, cEq]
    rw [ih]
    by_cases h1 : v ≤ (f (b + n)).toInt
    · by_cases h2 : (f (b + n)).toInt = v
      · rw [if_pos h1, if_neg (by omega), if_pos h2]; omega
      · rw [if_pos h1, if_pos (by omega), if_neg h2]; omega
    · rw [if_neg h1, if_neg (by omega), if_neg (by omega)]; omega
theorem cGe_0 {f : Nat → Int32} {b : Nat} {v : Int} : ∀ n, (∀ i, i < n → (f (b + i)).toInt < v) → cGe f b v n = 0 := by
  intro n
  induction n with
  | zero => intro _; rfl
  | succ n ih => intro h; simp only [cGe]; rw [ih (fun i hi => h i (by omega)), if_neg (by have := h n (by omega); omega)]
theorem cGe_le (f : Nat → Int32) (b : Nat) (v : Int) (n : Nat) : cGe f b v n ≤ n := by
  induction n with
  | zero => exact Nat.le_refl _
  | succ n ih => simp only [cGe]; split <;> omega
theorem cEq_le (f : Nat → Int32) (b : Nat) (v : Int) (n : Nat) : cEq f b v n ≤ n := by
  induction n with
  | zero => exact Nat.le_refl _
  | succ n ih => simp only [cEq]; split <;> omega
theorem sI_c {f g : Nat → Int32} {b c : Nat} : ∀ n, (∀ i, i < n → f (b + i) = g (c + i)) → sI f b n = sI g c n := by
  intro n
  induction n with
  | zero => intro _; rfl
  | succ n ih => intro h; simp only [sI]; rw [ih (fun i hi => h i (by omega)), h n (by omega)]
theorem cGe_c {f g : Nat → Int32} {b c : Nat} {v : Int} : ∀ n, (∀ i, i < n → f (b + i) = g (c + i)) → cGe f b v n = cGe g c v n := by
  intro n
  induction n with
  | zero => intro _; rfl
  | succ n ih => intro h; simp only [cGe]; rw [ih (fun i hi => h i (by omega)), h n (by omega)]
theorem rI_c {f g : Nat → Int32} {b c k : Nat} : ∀ n, (∀ i, i < n → f (b + i) = g (c + i)) → rI f b k n = rI g c k n := by
  intro n
  induction n with
  | zero => intro _; rfl
  | succ n ih => intro h; simp only [rI]; rw [ih (fun i hi => h i (by omega)), h n (by omega)]
theorem sI_b {f : Nat → Int32} {b : Nat} : ∀ n, (∀ i, i < n → 0 ≤ (f (b + i)).toInt ∧ (f (b + i)).toInt ≤ 6) → 0 ≤ sI f b n ∧ sI f b n ≤ 6 * (n : Int) := by
  intro n
  induction n with
  | zero => intro _; exact ⟨Int.le_refl _, Int.le_refl _⟩
  | succ n ih => intro h; have a := ih (fun i hi => h i (by omega)); have c := h n (by omega); simp only [sI]; omega
theorem rI_b {f : Nat → Int32} {b k : Nat} (hk : k ≤ 6) : ∀ n, (∀ i, i < n → 0 ≤ (f (b + i)).toInt ∧ (f (b + i)).toInt ≤ 6) → 0 ≤ rI f b k n ∧ rI f b k n ≤ 6 * (n : Int) := by
  intro n
  induction n with
  | zero => intro _; exact ⟨Int.le_refl _, Int.le_refl _⟩
  | succ n ih => intro h; have a := ih (fun i hi => h i (by omega)); have c := h n (by omega); simp only [rI]; split <;> omega
/-- sums of min k (count) from 6 down -/
def tK (f : Nat → Int32) (b w k : Nat) (u : Nat) : Nat := min k (cGe f b (u : Int) w)
def sK (f : Nat → Int32) (b w k : Nat) : Nat → Nat
  | 0 => 0
  | m + 1 => sK f b w k m + tK f b w k (6 - m)
theorem sK_6 (f : Nat → Int32) (b w k : Nat) : sK f b w k 6 = kS f b w k := by
  show 0 + tK f b w k 6 + tK f b w k 5 + tK f b w k 4 + tK f b w k 3 + tK f b w k 2 + tK f b w k 1 = _
  unfold tK kS
  show 0 + min k (cGe f b 6 w) + min k (cGe f b 5 w) + min k (cGe f b 4 w) + min k (cGe f b 3 w) + min k (cGe f b 2 w) + min k (cGe f b 1 w) = _
  omega
def clA (w h : Nat) (fr : Nat → Int32) (br : Nat) (fc : Nat → Int32) (bc : Nat) (x : Int32) : Prop := (¬ sI fr br h = sI fc bc w ∧ x = 0) ∨ (sI fr br h = sI fc bc w ∧ ((∃ k, 1 ≤ k ∧ k ≤ w ∧ (rI fr br k h < (kS fc bc w k : Int)) ∧ x = nI k ∧ ∀ i, 1 ≤ i → i < k → ¬ rI fr br i h < (kS fc bc w i : Int)) ∨ (x = -2 ∧ ∀ i, 1 ≤ i → i ≤ w → ¬ rI fr br i h < (kS fc bc w i : Int))))
theorem clA_eq {w h : Nat} {fr fc gr gc : Nat → Int32} {br bc cr cc : Nat} {x y : Int32} (er : ∀ i, i < h → fr (br + i) = gr (cr + i)) (ec : ∀ i, i < w → fc (bc + i) = gc (cc + i)) (hx : clA w h fr br fc bc x) (hy : clA w h gr cr gc cc y) : x = y := by
  have e1 := sI_c h er
  have e2 := sI_c w ec
  have e3 : ∀ k, rI fr br k h = rI gr cr k h := fun k => rI_c h er
  have e4 : ∀ k, kS fc bc w k = kS gc cc w k := fun k => by
    unfold kS
    rw [cGe_c w ec, cGe_c w ec, cGe_c w ec, cGe_c w ec, cGe_c w ec, cGe_c w ec]
  unfold clA at hx
  rw [e1, e2] at hx
  simp only [e3, e4] at hx
  rcases hx with ⟨a, b⟩ | ⟨a, b⟩ <;> rcases hy with ⟨c, d⟩ | ⟨c, d⟩
  · rw [b, d]
  · exact absurd c a
  · exact absurd a c
  · rcases b with ⟨k, k1, k2, k3, k4, k5⟩ | ⟨k4, k5⟩ <;> rcases d with ⟨i, i1, i2, i3, i4, i5⟩ | ⟨i4, i5⟩
    · have e : k = i := by
        rcases Nat.lt_trichotomy k i with z | z | z
        · exact absurd k3 (i5 k k1 z)
        · exact z
        · exact absurd i3 (k5 i i1 z)
      rw [k4, i4, e]
    · exact absurd k3 (i5 k k1 k2)
    · exact absurd i3 (k5 i i1 i2)
    · rw [k4, i4]

theorem gc_add {a b c d : Int} (h : d = a + b * c) : d + b = a + b * (c + 1) := by rw [h, Int.mul_add, Int.mul_one]; omega
theorem gc_out {x v T1 T0 S : Int} (h : v = 1 ∨ v = 2 ∨ v = 3 ∨ v = 4 ∨ v = 5 ∨ v = 6) (hx : x = (v * T1 + S) + v * (T0 - T1)) : x = (v - 1) * T0 + (S + T0) := by
  rcases h with rfl | rfl | rfl | rfl | rfl | rfl <;> omega
theorem min_add {k a b : Nat} : min k (a + b) = min k (a + b) := rfl
set_option maxHeartbeats 4000000 in
set_option maxRecDepth 100000 in
theorem c_X3_sumOfWay_x (l : Launch) (D : va_G) (cy : Nat → ClassId) (A : Nat → Prop) (G : cG) (ws : va_W) (o : Nat) (way : Int32) {kq w h b_o s_o t_o : Nat} {x_o y_o : Int64} {ms_o : List Value} {fs : Nat → Int32} (hD : va_D A ws) (hT : cT cy G ws) (hG_o : G o = some (3, kq, 8 * w + h)) (hM_o : cIn ws o (.inr (kq, .ref b_o :: .ref s_o :: .int (nI t_o) :: .long x_o :: .long y_o :: ms_o))) (hM_s_o : cIn ws s_o (.inl (cy 0, 44, .inl fs))) (hb9 : 1 ≤ w ∧ w ≤ 6 ∧ 1 ≤ h ∧ h ≤ 6) (ht9 : t_o < 16) (hw1 : 0 ≤ way.toInt ∧ way.toInt ≤ 3) (hrg : ∀ l, l < lnC w h way.toNatClampNeg → 0 ≤ (fs (way.toNatClampNeg * 11 + l)).toInt ∧ (fs (way.toNatClampNeg * 11 + l)).toInt ≤ 6) : Ci l D cy A yX3_sumOfWay wsX3_sumOfWay ({ frames := 1, cells := 0, slots := 0, locals := 23 }) 0 0 ws [.ref o, .int way] (fun r0 u => u = (G, ws) ∧ (r0.toInt = sI fs (way.toNatClampNeg * 11) (lnC w h way.toNatClampNeg))) := by
  refine Met.ofW (cc := cX3_sumOfWay) (maxL := 4) (ret := (some .int)) (by decide) rfl ?_
  intro p e s m args below meth c s₁ B hml hv
  obtain ⟨rfl, hP, hK, hA, hV⟩ := hv
  have hx := B.exec
  have hb := B.bytes
  have hr := B.returns
  have hts := atoms_spec (ws := wsX3_sumOfWay) B.pre
  have hown : s.vm.findClass RX3 = some m.cls := findClass_of_methodNamed B.named
  have hlocks := B.notSynchronized
  have hS : va_S A s.heap s.heap [] := va_S.rf
  have hinJ : ∀ w ∈ wsX10 ++ wsX30 ++ wsX40 ++ wsX50, w ∈ wsX3_sumOfWay := by decide +kernel
  have hl := lv_entry ([.ref o, .int way]) (n := 4) (Nat.le_of_ble_eq_true rfl)
  rw [lg_entry_eq]
  generalize (lg_sl ([.ref o, .int way]) ++ List.replicate (4 - (lg_sl ([.ref o, .int way])).length) Slot.unset).toArray = ls at hl ⊢
  have hl : lv_has ls 4 [(0, .ref o), (1, .int way)] := hl
  have k_0 : (0 : Int32).toInt = 0 := by decide
  obtain ⟨hG_b_o, hG_s_o, hJ_o⟩ := w3sh hD hT hG_o hb9 hM_o
  refine lv_iconst (v := 0) hx hb dX3_sumOfWay_0 (by decide) ?_
  refine lv_istore_n (lv' := [(2, .int (0 : Int32)), (0, .ref o), (1, .int way)]) hx hb dX3_sumOfWay_1 rfl hl (by decide) rfl (fun ls hl => ?_)
  refine lv_iconst (v := 0) hx hb dX3_sumOfWay_2 (by decide) ?_
  refine lv_istore_n (lv' := [(3, .int (0 : Int32)), (2, .int (0 : Int32)), (0, .ref o), (1, .int way)]) hx hb dX3_sumOfWay_3 rfl hl (by decide) rfl (fun ls hl => ?_)
  have loop_4 : ∀ (n : Nat) (i : Nat) (x2 : Int32), (i ≤ 11 ∧ i ≤ lnC w h way.toNatClampNeg) → (x2.toInt = sI fs (way.toNatClampNeg * 11) i) → 11 - i < n → ∀ (H : Heap) (locs : List Loc), va_P D vwCl ws H → va_S A s.heap H locs → ∀ (ls : Array Slot), lv_has ls 4 [(3, .int (nI i)), (2, .int x2), (0, .ref o), (1, .int way)] → W p l e (headSpec wsX3_sumOfWay ({ frames := 1, cells := 0, slots := 0, locals := 23 })).room s m #[Value.ref o, Value.int way] below meth c H locs 0 0 (MQ below (va_Qi (fun r0 u => u = (G, ws) ∧ (r0.toInt = sI fs (way.toNatClampNeg * 11) (lnC w h way.toNatClampNeg))) (cB D cy A) A) #[Value.ref o, Value.int way] s 0 0 A) (F0 m 4 ls []) := by
    intro n
    induction n with
    | zero => intro i x2 j4_0 j4_1 hn; exact absurd hn (Nat.not_lt_zero _)
    | succ n ih_4 =>
      intro i x2 j4_0 j4_1 hn_4 H locs hP hS  ls hl
      have ii : (nI i).toInt = (i : Int) := nI_toInt (by omega)
      refine lv_iload_n hx hb dX3_sumOfWay_4 rfl (lv_at hl 0 rfl) ?_
      refine lv_aload_n hx hb dX3_sumOfWay_5 rfl (lv_at hl 2 rfl) ?_
      refine t_getJ (v := .ref b_o) hx hb hts hinJ hown hK hP hJ_o.kc hM_o 0 (by decide) (hts (.fieldLink RX3 28 "ShadowBench$Job" "board" "LShadowBench$Board;") (by decide +kernel)) (fun _ h9 => h9) rfl dX3_sumOfWay_6 ?_
      refine lv_iload_n hx hb dX3_sumOfWay_9 rfl (lv_at hl 3 rfl) ?_
      obtain ⟨_, hM_b_o, hb_b_o, l_b_o, f_b_o, r_b_o, rfl, hG_l_b_o, hG_f_b_o, hG_r_b_o⟩ := hT _ _ hG_b_o
      refine t_calli (va_runV (g := F0 m 10 ls ([.int way, .ref b_o, .int (nI i)])) (As := [.int way]) (rest := [.int (nI i)]) ⟨hx, hb, hml, hown, hts⟩ (c_X0_lineCount l D cy A G ws b_o way hD hT hG_b_o ) (cwV 1 hts gX3_sumOfWay_X0_lineCount rfl rfl rfl (by decide +kernel) ⟨Nat.le_of_ble_eq_true rfl, Nat.le_of_ble_eq_true rfl⟩) (c_preV hM_b_o rfl hP hK hA hS hV) rfl rfl hl.1 rfl (lv_room (Nat.le_of_ble_eq_true rfl)) dX3_sumOfWay_10 ⟨Nat.le_of_ble_eq_true rfl, Nat.le_of_ble_eq_true rfl⟩) hS (fun r10 u H locs q10 hP9 hD9 hT9 hS => ?_)
      obtain ⟨rfl, q10⟩ := q10
      have hP : va_P D vwCl ws H := hP9
      have lc9 := lnC_b hb9 way.toNatClampNeg
      have z10 := congrArg Int32.toInt q10
      rw [cLn hb9 hw1.1] at z10
      refine lv_icmp_ge (tgt := 31) hx hb dX3_sumOfWay_13 (by decide) (fun c13 => ?_) (fun c13 => ?_)
      · skip
        have d13 := c13
        rw [fa_le] at d13
        refine lv_iload_n hx hb dX3_sumOfWay_31 rfl (lv_at hl 1 rfl) ?_
        exact W.iret (v := x2) hx hb hr (fun t ht hW => ⟨⟨_, (G, ws), rfl, ⟨rfl, (by rw [j4_1, show i = lnC w h way.toNatClampNeg by omega])⟩, by show va_P D vwCl ws t.heap; rw [ht]; exact hP, hD, hT⟩, hS.F ht⟩) hS.2.2 dX3_sumOfWay_32
      · skip
        have d13 := c13
        rw [fa_le] at d13
        refine lv_iload_n hx hb dX3_sumOfWay_16 rfl (lv_at hl 1 rfl) ?_
        refine lv_aload_n hx hb dX3_sumOfWay_17 rfl (lv_at hl 2 rfl) ?_
        refine lv_iload_n hx hb dX3_sumOfWay_18 rfl (lv_at hl 3 rfl) ?_
        refine lv_iload_n hx hb dX3_sumOfWay_19 rfl (lv_at hl 0 rfl) ?_
        refine t_calli (t_runJ (g := F0 m 20 ls ([.int (nI i), .int way, .ref o, .int x2])) (As := [.int way, .int (nI i)]) (rest := [.int x2]) ⟨hx, hb, hml, hown, hts⟩ (c_X3_sumOf_x l D cy A G ws o way (nI i) hD hT hG_o hM_o hM_s_o hb9 ht9 hw1 (by omega)) (va_cwU 2 hts gX3_sumOfWay_X3_sumOf_u57X1 rfl rfl rfl rfl (by decide +kernel) ⟨Nat.le_of_ble_eq_true rfl, Nat.le_of_ble_eq_true rfl⟩) (cwV 2 hts gX3_sumOfWay_X3_sumOf rfl rfl rfl (by decide +kernel) ⟨Nat.le_of_ble_eq_true rfl, Nat.le_of_ble_eq_true rfl⟩) (va_cwU 2 hts gX3_sumOfWay_X3_sumOf_u57X4 rfl rfl rfl rfl (by decide +kernel) ⟨Nat.le_of_ble_eq_true rfl, Nat.le_of_ble_eq_true rfl⟩) (va_cwU 2 hts gX3_sumOfWay_X3_sumOf_u57X5 rfl rfl rfl rfl (by decide +kernel) ⟨Nat.le_of_ble_eq_true rfl, Nat.le_of_ble_eq_true rfl⟩) hJ_o.kc hM_o hP hK c_blind (c_preS hP hK hA hS hV).2 rfl rfl hl.1 rfl (lv_room (Nat.le_of_ble_eq_true rfl)) dX3_sumOfWay_20 ⟨Nat.le_of_ble_eq_true rfl, Nat.le_of_ble_eq_true rfl⟩) hS (fun r20 u H locs q20 hP9 hD9 hT9 hS => ?_)
        obtain ⟨rfl, q20⟩ := q20
        have hP : va_P D vwCl ws H := hP9
        have s9 := sI_b (f := fs) (b := way.toNatClampNeg * 11) i (fun i9 h9 => hrg i9 (by omega))
        have g9 := hrg i (by omega)
        have ci9 : (nI i).toNatClampNeg = i := nI_clamp (by omega)
        rw [ci9] at q20
        rw [← q20] at g9
        refine lv_iadd hx hb dX3_sumOfWay_23 ?_
        refine lv_topi (fun v23 e23 => ?_)
        have i23 : v23.toInt = x2.toInt + r20.toInt := by rw [e23]; exact fb_addI (by omega) (by omega)
        refine lv_istore_n (lv' := [(2, .int v23), (3, .int (nI i)), (0, .ref o), (1, .int way)]) hx hb dX3_sumOfWay_24 rfl hl (by decide) rfl (fun ls hl => ?_)
        refine lv_iinc (v := (nI (i + 1))) (lv' := [(3, .int (nI (i + 1))), (2, .int v23), (0, .ref o), (1, .int way)]) hx hb dX3_sumOfWay_25 hl (k := 1) rfl (nI_1 _) (by decide) rfl (fun ls hl => ?_)
        refine lv_goto (tgt := 4) hx hb dX3_sumOfWay_28 (by decide) ?_
        exact ih_4 (i + 1) v23 (by omega) (by rw [i23, j4_1, q20]; rfl) (by omega) _ _ hP hS  ls (lv_sub hl [0, 1, 2, 3] rfl)
  exact loop_4 (11 + 1) 0 (0 : Int32) (by omega) (rfl) (by omega) _ _ hP hS  ls (lv_sub hl [0, 1, 2, 3] rfl)
set_option maxHeartbeats 4000000 in
set_option maxRecDepth 100000 in
theorem c_X3_roomInRows_x (l : Launch) (D : va_G) (cy : Nat → ClassId) (A : Nat → Prop) (G : cG) (ws : va_W) (o : Nat) (k0 : Int32) {kq w h b_o s_o t_o : Nat} {x_o y_o : Int64} {ms_o : List Value} {fs : Nat → Int32} (hD : va_D A ws) (hT : cT cy G ws) (hG_o : G o = some (3, kq, 8 * w + h)) (hM_o : cIn ws o (.inr (kq, .ref b_o :: .ref s_o :: .int (nI t_o) :: .long x_o :: .long y_o :: ms_o))) (hM_s_o : cIn ws s_o (.inl (cy 0, 44, .inl fs))) (hb9 : 1 ≤ w ∧ w ≤ 6 ∧ 1 ≤ h ∧ h ≤ 6) (ht9 : t_o < 16) (hk : 1 ≤ k0.toInt ∧ k0.toInt ≤ 6) (hrg : ∀ x, x < h → 0 ≤ (fs (0 + x)).toInt ∧ (fs (0 + x)).toInt ≤ 6) : Ci l D cy A yX3_roomInRows wsX3_roomInRows ({ frames := 1, cells := 0, slots := 0, locals := 23 }) 0 0 ws [.ref o, .int k0] (fun r0 u => u = (G, ws) ∧ (r0.toInt = rI fs 0 k0.toNatClampNeg h)) := by
  refine Met.ofW (cc := cX3_roomInRows) (maxL := 4) (ret := (some .int)) (by decide) rfl ?_
  intro p e s m args below meth c s₁ B hml hv
  obtain ⟨rfl, hP, hK, hA, hV⟩ := hv
  have hx := B.exec
  have hb := B.bytes
  have hr := B.returns
  have hts := atoms_spec (ws := wsX3_roomInRows) B.pre
  have hown : s.vm.findClass RX3 = some m.cls := findClass_of_methodNamed B.named
  have hlocks := B.notSynchronized
  have hS : va_S A s.heap s.heap [] := va_S.rf
  have hinJ : ∀ w ∈ wsX10 ++ wsX30 ++ wsX40 ++ wsX50, w ∈ wsX3_roomInRows := by decide +kernel
  have hl := lv_entry ([.ref o, .int k0]) (n := 4) (Nat.le_of_ble_eq_true rfl)
  rw [lg_entry_eq]
  generalize (lg_sl ([.ref o, .int k0]) ++ List.replicate (4 - (lg_sl ([.ref o, .int k0])).length) Slot.unset).toArray = ls at hl ⊢
  have hl : lv_has ls 4 [(0, .ref o), (1, .int k0)] := hl
  have k_0 : (0 : Int32).toInt = 0 := by decide
  obtain ⟨hG_b_o, hG_s_o, hJ_o⟩ := w3sh hD hT hG_o hb9 hM_o
  have ck9 := m_cl (x := k0) (by omega)
  refine lv_iconst (v := 0) hx hb dX3_roomInRows_0 (by decide) ?_
  refine lv_istore_n (lv' := [(2, .int (0 : Int32)), (0, .ref o), (1, .int k0)]) hx hb dX3_roomInRows_1 rfl hl (by decide) rfl (fun ls hl => ?_)
  refine lv_iconst (v := 0) hx hb dX3_roomInRows_2 (by decide) ?_
  refine lv_istore_n (lv' := [(3, .int (0 : Int32)), (2, .int (0 : Int32)), (0, .ref o), (1, .int k0)]) hx hb dX3_roomInRows_3 rfl hl (by decide) rfl (fun ls hl => ?_)
  have loop_4 : ∀ (n : Nat) (i : Nat) (x2 : Int32), (i ≤ 6 ∧ i ≤ h) → (x2.toInt = rI fs 0 k0.toNatClampNeg i) → 6 - i < n → ∀ (H : Heap) (locs : List Loc), va_P D vwCl ws H → va_S A s.heap H locs → ∀ (ls : Array Slot), lv_has ls 4 [(3, .int (nI i)), (2, .int x2), (0, .ref o), (1, .int k0)] → W p l e (headSpec wsX3_roomInRows ({ frames := 1, cells := 0, slots := 0, locals := 23 })).room s m #[Value.ref o, Value.int k0] below meth c H locs 0 0 (MQ below (va_Qi (fun r0 u => u = (G, ws) ∧ (r0.toInt = rI fs 0 k0.toNatClampNeg h)) (cB D cy A) A) #[Value.ref o, Value.int k0] s 0 0 A) (F0 m 4 ls []) := by
    intro n
    induction n with
    | zero => intro i x2 j4_0 j4_1 hn; exact absurd hn (Nat.not_lt_zero _)
    | succ n ih_4 =>
      intro i x2 j4_0 j4_1 hn_4 H locs hP hS  ls hl
      have ii : (nI i).toInt = (i : Int) := nI_toInt (by omega)
      refine lv_iload_n hx hb dX3_roomInRows_4 rfl (lv_at hl 0 rfl) ?_
      refine lv_aload_n hx hb dX3_roomInRows_5 rfl (lv_at hl 2 rfl) ?_
      refine t_getJ (v := .ref b_o) hx hb hts hinJ hown hK hP hJ_o.kc hM_o 0 (by decide) (hts (.fieldLink RX3 28 "ShadowBench$Job" "board" "LShadowBench$Board;") (by decide +kernel)) (fun _ h9 => h9) rfl dX3_roomInRows_6 ?_
      obtain ⟨_, hM_b_o, hb_b_o, l_b_o, f_b_o, r_b_o, rfl, hG_l_b_o, hG_f_b_o, hG_r_b_o⟩ := hT _ _ hG_b_o
      refine t_get (v := .int (nI h)) (C := RX0) (T := TX0) (N := 8) hx hb hts (by decide +kernel) hown hK hP hM_b_o rfl 1 (by decide) (hts (.fieldLink RX3 72 "ShadowBench$Board" "high" "I") (by decide +kernel)) (fun _ h9 => h9) rfl dX3_roomInRows_9 ?_
      have i_h_b_o : (nI h).toInt = _ := nI_toInt (by omega)
      refine lv_icmp_ge (tgt := 34) hx hb dX3_roomInRows_12 (by decide) (fun c12 => ?_) (fun c12 => ?_)
      · skip
        have d12 := c12
        rw [fa_le] at d12
        refine lv_iload_n hx hb dX3_roomInRows_34 rfl (lv_at hl 1 rfl) ?_
        exact W.iret (v := x2) hx hb hr (fun t ht hW => ⟨⟨_, (G, ws), rfl, ⟨rfl, (by rw [j4_1, show i = h by omega])⟩, by show va_P D vwCl ws t.heap; rw [ht]; exact hP, hD, hT⟩, hS.F ht⟩) hS.2.2 dX3_roomInRows_35
      · skip
        have d12 := c12
        rw [fa_le] at d12
        refine lv_iload_n hx hb dX3_roomInRows_15 rfl (lv_at hl 1 rfl) ?_
        refine lv_iload_n hx hb dX3_roomInRows_16 rfl (lv_at hl 3 rfl) ?_
        refine lv_aload_n hx hb dX3_roomInRows_17 rfl (lv_at hl 2 rfl) ?_
        refine lv_iconst (v := 0) hx hb dX3_roomInRows_18 (by decide) ?_
        refine lv_iload_n hx hb dX3_roomInRows_19 rfl (lv_at hl 0 rfl) ?_
        refine t_calli (t_runJ (g := F0 m 20 ls ([.int (nI i), .int (0 : Int32), .ref o, .int k0, .int x2])) (As := [.int (0 : Int32), .int (nI i)]) (rest := [.int k0, .int x2]) ⟨hx, hb, hml, hown, hts⟩ (c_X3_sumOf_x l D cy A G ws o (0 : Int32) (nI i) hD hT hG_o hM_o hM_s_o hb9 ht9 (by omega) (by omega)) (va_cwU 2 hts gX3_roomInRows_X3_sumOf_u57X1 rfl rfl rfl rfl (by decide +kernel) ⟨Nat.le_of_ble_eq_true rfl, Nat.le_of_ble_eq_true rfl⟩) (cwV 2 hts gX3_roomInRows_X3_sumOf rfl rfl rfl (by decide +kernel) ⟨Nat.le_of_ble_eq_true rfl, Nat.le_of_ble_eq_true rfl⟩) (va_cwU 2 hts gX3_roomInRows_X3_sumOf_u57X4 rfl rfl rfl rfl (by decide +kernel) ⟨Nat.le_of_ble_eq_true rfl, Nat.le_of_ble_eq_true rfl⟩) (va_cwU 2 hts gX3_roomInRows_X3_sumOf_u57X5 rfl rfl rfl rfl (by decide +kernel) ⟨Nat.le_of_ble_eq_true rfl, Nat.le_of_ble_eq_true rfl⟩) hJ_o.kc hM_o hP hK c_blind (c_preS hP hK hA hS hV).2 rfl rfl hl.1 rfl (lv_room (Nat.le_of_ble_eq_true rfl)) dX3_roomInRows_20 ⟨Nat.le_of_ble_eq_true rfl, Nat.le_of_ble_eq_true rfl⟩) hS (fun r20 u H locs q20 hP9 hD9 hT9 hS => ?_)
        obtain ⟨rfl, q20⟩ := q20
        have hP : va_P D vwCl ws H := hP9
        have f20 : r20 = fs (0 + i) := q20.trans (congrArg fs (by rw [nI_clamp (by omega)]; rfl))
        refine va_mmin hx hb (by rw [hml]; exact hl.1.symm) hown (hts (.methodLink RX3 75 Lib.Math.min.name) (by decide +kernel)) (hts (.static Lib.Math.min.name) (by decide +kernel)) (hts (.initialized "java/lang/Math") (by decide +kernel)) (hts (.code Lib.Math.min.name Lib.Math.min.code 2 (some .int)) (by decide +kernel)) (Nat.le_of_ble_eq_true rfl) (Nat.le_of_ble_eq_true rfl) (Nat.le_of_ble_eq_true rfl) (Nat.le_of_ble_eq_true rfl) dX3_roomInRows_23 ?_
        refine lv_topi (fun v23 e23 => ?_)
        have f23 : v23.toInt = if (fs (0 + i)).toInt < (k0.toNatClampNeg : Int) then (fs (0 + i)).toInt else (k0.toNatClampNeg : Int) := by rw [e23, ← f20, ck9]; by_cases z9 : r20 < k0; rw [if_pos z9, if_pos (by rw [fa_lt] at z9; exact z9)]; rw [if_neg z9, if_neg (by rw [fa_lt] at z9; exact z9)]
        have s9 := rI_b (f := fs) (b := 0) (k := k0.toNatClampNeg) (by omega) i (fun i9 h9 => hrg i9 (by omega))
        have g9 := hrg i (by omega)
        have h23 : 0 ≤ v23.toInt ∧ v23.toInt ≤ 6 := by rw [f23]; split <;> omega
        refine lv_iadd hx hb dX3_roomInRows_26 ?_
        refine lv_topi (fun v26 e26 => ?_)
        have i26 : v26.toInt = x2.toInt + v23.toInt := by rw [e26]; exact fb_addI (by omega) (by omega)
        refine lv_istore_n (lv' := [(2, .int v26), (3, .int (nI i)), (0, .ref o), (1, .int k0)]) hx hb dX3_roomInRows_27 rfl hl (by decide) rfl (fun ls hl => ?_)
        refine lv_iinc (v := (nI (i + 1))) (lv' := [(3, .int (nI (i + 1))), (2, .int v26), (0, .ref o), (1, .int k0)]) hx hb dX3_roomInRows_28 hl (k := 1) rfl (nI_1 _) (by decide) rfl (fun ls hl => ?_)
        refine lv_goto (tgt := 4) hx hb dX3_roomInRows_31 (by decide) ?_
        exact ih_4 (i + 1) v26 (by omega) (by rw [i26, j4_1, f23]; rfl) (by omega) _ _ hP hS  ls (lv_sub hl [0, 1, 2, 3] rfl)
  exact loop_4 (6 + 1) 0 (0 : Int32) (by omega) (rfl) (by omega) _ _ hP hS  ls (lv_sub hl [0, 1, 2, 3] rfl)
set_option maxHeartbeats 4000000 in
set_option maxRecDepth 100000 in
theorem c_X3_greatestColumns_x (l : Launch) (D : va_G) (cy : Nat → ClassId) (A : Nat → Prop) (G : cG) (ws : va_W) (o : Nat) (k0 : Int32) {kq w h b_o s_o t_o : Nat} {x_o y_o : Int64} {ms_o : List Value} {fs : Nat → Int32} (hD : va_D A ws) (hT : cT cy G ws) (hG_o : G o = some (3, kq, 8 * w + h)) (hM_o : cIn ws o (.inr (kq, .ref b_o :: .ref s_o :: .int (nI t_o) :: .long x_o :: .long y_o :: ms_o))) (hM_s_o : cIn ws s_o (.inl (cy 0, 44, .inl fs))) (hb9 : 1 ≤ w ∧ w ≤ 6 ∧ 1 ≤ h ∧ h ≤ 6) (ht9 : t_o < 16) (hk : 1 ≤ k0.toInt ∧ k0.toInt ≤ 6) (hrg : ∀ x, x < w → 0 ≤ (fs (11 + x)).toInt ∧ (fs (11 + x)).toInt ≤ 6) : Ci l D cy A yX3_greatestColumns wsX3_greatestColumns ({ frames := 1, cells := 0, slots := 0, locals := 23 }) 0 0 ws [.ref o, .int k0] (fun r0 u => u = (G, ws) ∧ (r0.toInt = (kS fs 11 w k0.toNatClampNeg : Int))) := by
  refine Met.ofW (cc := cX3_greatestColumns) (maxL := 6) (ret := (some .int)) (by decide) rfl ?_
  intro p e s m args below meth c s₁ B hml hv
  obtain ⟨rfl, hP, hK, hA, hV⟩ := hv
  have hx := B.exec
  have hb := B.bytes
  have hr := B.returns
  have hts := atoms_spec (ws := wsX3_greatestColumns) B.pre
  have hown : s.vm.findClass RX3 = some m.cls := findClass_of_methodNamed B.named
  have hlocks := B.notSynchronized
  have hS : va_S A s.heap s.heap [] := va_S.rf
  have hinJ : ∀ w ∈ wsX10 ++ wsX30 ++ wsX40 ++ wsX50, w ∈ wsX3_greatestColumns := by decide +kernel
  have hl := lv_entry ([.ref o, .int k0]) (n := 6) (Nat.le_of_ble_eq_true rfl)
  rw [lg_entry_eq]
  generalize (lg_sl ([.ref o, .int k0]) ++ List.replicate (6 - (lg_sl ([.ref o, .int k0])).length) Slot.unset).toArray = ls at hl ⊢
  have hl : lv_has ls 6 [(0, .ref o), (1, .int k0)] := hl
  have k_m1 : (-1 : Int32).toInt = -1 := by decide
  have k_0 : (0 : Int32).toInt = 0 := by decide
  have k_1 : (1 : Int32).toInt = 1 := by decide
  have k_6 : (6 : Int32).toInt = 6 := by decide
  obtain ⟨hG_b_o, hG_s_o, hJ_o⟩ := w3sh hD hT hG_o hb9 hM_o
  have ck9 := m_cl (x := k0) (by omega)
  have g7 : cGe fs 11 7 w = 0 := cGe_0 w (fun i9 h9 => by have := hrg i9 h9; omega)
  refine lv_iconst (v := 0) hx hb dX3_greatestColumns_0 (by decide) ?_
  refine lv_istore_n (lv' := [(2, .int (0 : Int32)), (0, .ref o), (1, .int k0)]) hx hb dX3_greatestColumns_1 rfl hl (by decide) rfl (fun ls hl => ?_)
  refine lv_iconst (v := 0) hx hb dX3_greatestColumns_2 (by decide) ?_
  refine lv_istore_n (lv' := [(3, .int (0 : Int32)), (2, .int (0 : Int32)), (0, .ref o), (1, .int k0)]) hx hb dX3_greatestColumns_3 rfl hl (by decide) rfl (fun ls hl => ?_)
  refine lv_bipush (v := 6) hx hb dX3_greatestColumns_4 (by decide) ?_
  refine lv_istore (lv' := [(4, .int (6 : Int32)), (3, .int (0 : Int32)), (2, .int (0 : Int32)), (0, .ref o), (1, .int k0)]) hx hb dX3_greatestColumns_6 hl (by decide) rfl (fun ls hl => ?_)
  have loop_8 : ∀ (n : Nat) (x4 : Int32) (x3 : Int32) (x2 : Int32), (0 ≤ x4.toInt ∧ x4.toInt ≤ 6) → (x3.toInt = (tK fs 11 w k0.toNatClampNeg (x4.toNatClampNeg + 1) : Int) ∧ x3.toInt ≤ k0.toInt) → (x2.toInt = (x4.toNatClampNeg : Int) * (tK fs 11 w k0.toNatClampNeg (x4.toNatClampNeg + 1) : Int) + (sK fs 11 w k0.toNatClampNeg (6 - x4.toNatClampNeg) : Int)) → (0 ≤ x2.toInt ∧ x2.toInt ≤ 6 * x3.toInt) → x4.toInt.toNat < n → ∀ (H : Heap) (locs : List Loc), va_P D vwCl ws H → va_S A s.heap H locs → ∀ (ls : Array Slot), lv_has ls 6 [(4, .int x4), (3, .int x3), (2, .int x2), (0, .ref o), (1, .int k0)] → W p l e (headSpec wsX3_greatestColumns ({ frames := 1, cells := 0, slots := 0, locals := 23 })).room s m #[Value.ref o, Value.int k0] below meth c H locs 0 0 (MQ below (va_Qi (fun r0 u => u = (G, ws) ∧ (r0.toInt = (kS fs 11 w k0.toNatClampNeg : Int))) (cB D cy A) A) #[Value.ref o, Value.int k0] s 0 0 A) (F0 m 8 ls []) := by
    intro n
    induction n with
    | zero => intro x4 x3 x2 j8_0 j8_1 j8_2 j8_3 hn; exact absurd hn (Nat.not_lt_zero _)
    | succ n ih_8 =>
      intro x4 x3 x2 j8_0 j8_1 j8_2 j8_3 hn_8 H locs hP hS  ls hl
      refine lv_iload hx hb dX3_greatestColumns_8 (lv_at hl 0 rfl) ?_
      refine lv_if_le (tgt := 65) hx hb dX3_greatestColumns_10 (by decide) (fun c10 => ?_) (fun c10 => ?_)
      · skip
        have d10 := c10
        rw [fa_le] at d10
        refine lv_iload_n hx hb dX3_greatestColumns_65 rfl (lv_at hl 2 rfl) ?_
        exact W.iret (v := x2) hx hb hr (fun t ht hW => ⟨⟨_, (G, ws), rfl, ⟨rfl, (by have e9 : x4.toNatClampNeg = 0 := (by have := m_cl (x := x4) (by omega); omega); rw [j8_2, e9, sK_6]; omega)⟩, by show va_P D vwCl ws t.heap; rw [ht]; exact hP, hD, hT⟩, hS.F ht⟩) hS.2.2 dX3_greatestColumns_66
      · skip
        have d10 := c10
        rw [fa_le] at d10
        refine lv_iconst (v := 0) hx hb dX3_greatestColumns_13 (by decide) ?_
        refine lv_istore (lv' := [(5, .int (0 : Int32)), (4, .int x4), (3, .int x3), (2, .int x2), (0, .ref o), (1, .int k0)]) hx hb dX3_greatestColumns_14 hl (by decide) rfl (fun ls hl => ?_)
        have loop_16 : ∀ (n : Nat) (i : Nat) (z3 : Int32) (z2 : Int32), (i ≤ w) → (z3.toInt = ((min k0.toNatClampNeg (cGe fs 11 ((x4.toNatClampNeg : Int) + 1) w + cEq fs 11 (x4.toNatClampNeg : Int) i) : Nat) : Int) ∧ z3.toInt ≤ k0.toInt) → (z2.toInt = x2.toInt + x4.toInt * (z3.toInt - x3.toInt)) → (0 ≤ z2.toInt ∧ z2.toInt ≤ 6 * z3.toInt) → 6 - i < n → ∀ (H : Heap) (locs : List Loc), va_P D vwCl ws H → va_S A s.heap H locs → ∀ (ls : Array Slot), lv_has ls 6 [(5, .int (nI i)), (4, .int x4), (3, .int z3), (2, .int z2), (0, .ref o), (1, .int k0)] → W p l e (headSpec wsX3_greatestColumns ({ frames := 1, cells := 0, slots := 0, locals := 23 })).room s m #[Value.ref o, Value.int k0] below meth c H locs 0 0 (MQ below (va_Qi (fun r0 u => u = (G, ws) ∧ (r0.toInt = (kS fs 11 w k0.toNatClampNeg : Int))) (cB D cy A) A) #[Value.ref o, Value.int k0] s 0 0 A) (F0 m 16 ls []) := by
          intro n
          induction n with
          | zero => intro i z3 z2 j16_0 j16_1 j16_2 j16_3 hn; exact absurd hn (Nat.not_lt_zero _)
          | succ n ih_16 =>
            intro i z3 z2 j16_0 j16_1 j16_2 j16_3 hn_16 H locs hP hS  ls hl
            have ii : (nI i).toInt = (i : Int) := nI_toInt (by omega)
            have gcs9 := cGe_s fs 11 (x4.toNatClampNeg : Int) w
            have cq9 : cEq fs 11 (x4.toNatClampNeg : Int) (i + 1) = cEq fs 11 (x4.toNatClampNeg : Int) i + (if (fs (11 + i)).toInt = (x4.toNatClampNeg : Int) then 1 else 0) := rfl
            have cv9 := m_cl (x := x4) (by omega)
            refine lv_iload hx hb dX3_greatestColumns_16 (lv_at hl 0 rfl) ?_
            refine lv_aload_n hx hb dX3_greatestColumns_18 rfl (lv_at hl 4 rfl) ?_
            refine t_getJ (v := .ref b_o) hx hb hts hinJ hown hK hP hJ_o.kc hM_o 0 (by decide) (hts (.fieldLink RX3 28 "ShadowBench$Job" "board" "LShadowBench$Board;") (by decide +kernel)) (fun _ h9 => h9) rfl dX3_greatestColumns_19 ?_
            obtain ⟨_, hM_b_o, hb_b_o, l_b_o, f_b_o, r_b_o, rfl, hG_l_b_o, hG_f_b_o, hG_r_b_o⟩ := hT _ _ hG_b_o
            refine t_get (v := .int (nI w)) (C := RX0) (T := TX0) (N := 8) hx hb hts (by decide +kernel) hown hK hP hM_b_o rfl 0 (by decide) (hts (.fieldLink RX3 54 "ShadowBench$Board" "wide" "I") (by decide +kernel)) (fun _ h9 => h9) rfl dX3_greatestColumns_22 ?_
            have i_w_b_o : (nI w).toInt = _ := nI_toInt (by omega)
            refine lv_icmp_ge (tgt := 59) hx hb dX3_greatestColumns_25 (by decide) (fun c25 => ?_) (fun c25 => ?_)
            · skip
              have d25 := c25
              rw [fa_le] at d25
              obtain ⟨v59, e59⟩ : ∃ y : Int32, y = x4 + (-1) := ⟨_, rfl⟩
              have i59 : v59.toInt = x4.toInt + -1 := by rw [e59]; exact fb_addI (by omega) (by omega)
              refine lv_iinc (v := v59) (lv' := [(4, .int v59), (5, .int (nI i)), (3, .int z3), (2, .int z2), (0, .ref o), (1, .int k0)]) hx hb dX3_greatestColumns_59 hl (k := 1) rfl (by rw [e59]; rfl) (by decide) rfl (fun ls hl => ?_)
              refine lv_goto (tgt := 8) hx hb dX3_greatestColumns_62 (by decide) ?_
              exact ih_8 v59 z3 z2 (by omega) (by have e9 : v59.toNatClampNeg + 1 = x4.toNatClampNeg := (by have := m_cl (x := v59) (by omega); omega); rw [e9]; exact ⟨by rw [j16_1.1, show i = w by omega, ← gcs9]; rfl, j16_1.2⟩) (by have e9 : v59.toNatClampNeg + 1 = x4.toNatClampNeg := (by have := m_cl (x := v59) (by omega); omega); have e8 : 6 - v59.toNatClampNeg = (6 - x4.toNatClampNeg) + 1 := (by omega); rw [e9, e8]; show _ = _ + ((sK fs 11 w k0.toNatClampNeg (6 - x4.toNatClampNeg) + tK fs 11 w k0.toNatClampNeg (6 - (6 - x4.toNatClampNeg)) : Nat) : Int); rw [show 6 - (6 - x4.toNatClampNeg) = x4.toNatClampNeg by omega, Int.natCast_add, show (v59.toNatClampNeg : Int) = (x4.toNatClampNeg : Int) - 1 by omega]; exact gc_out (by omega) (by rw [← j8_2, cv9, ← j8_1.1, show (tK fs 11 w k0.toNatClampNeg x4.toNatClampNeg : Int) = z3.toInt by rw [j16_1.1, show i = w by omega, ← gcs9]; rfl]; exact j16_2)) (j16_3) (by omega) _ _ hP hS  ls (lv_sub hl [0, 2, 3, 4, 5] rfl)
            · skip
              have d25 := c25
              rw [fa_le] at d25
              refine lv_iload_n hx hb dX3_greatestColumns_28 rfl (lv_at hl 2 rfl) ?_
              refine lv_iload_n hx hb dX3_greatestColumns_29 rfl (lv_at hl 5 rfl) ?_
              refine lv_icmp_ge (tgt := 53) hx hb dX3_greatestColumns_30 (by decide) (fun c30 => ?_) (fun c30 => ?_)
              · skip
                have d30 := c30
                rw [fa_le] at d30
                refine lv_iinc (v := (nI (i + 1))) (lv' := [(5, .int (nI (i + 1))), (4, .int x4), (3, .int z3), (2, .int z2), (0, .ref o), (1, .int k0)]) hx hb dX3_greatestColumns_53 hl (k := 0) rfl (nI_1 _) (by decide) rfl (fun ls hl => ?_)
                refine lv_goto (tgt := 16) hx hb dX3_greatestColumns_56 (by decide) ?_
                exact ih_16 (i + 1) z3 z2 (by omega) (by
            rw [cq9]
            first
            | (rw [if_pos (show (fs (11 + i)).toInt = (x4.toNatClampNeg : Int) by rw [← f37, cv9]; exact congrArg Int32.toInt c42)]; have z9 := j16_1.1; omega)
            | (rw [if_neg (show ¬ (fs (11 + i)).toInt = (x4.toNatClampNeg : Int) by rw [← f37, cv9]; exact fun z9 => c42 (Int32.toInt_inj.mp z9))]; have z9 := j16_1.1; omega)
            | (have z9 := j16_1.1; split <;> omega)) (by first | exact j16_2 | (rw [i48, i50, show z3.toInt + 1 - x3.toInt = (z3.toInt - x3.toInt) + 1 by omega]; exact gc_add j16_2)) (by omega) (by omega) _ _ hP hS  ls (lv_sub hl [0, 1, 2, 3, 4, 5] rfl)
              · skip
                have d30 := c30
                rw [fa_le] at d30
                refine lv_aload_n hx hb dX3_greatestColumns_33 rfl (lv_at hl 4 rfl) ?_
                refine lv_iconst (v := 1) hx hb dX3_greatestColumns_34 (by decide) ?_
                refine lv_iload hx hb dX3_greatestColumns_35 (lv_at hl 0 rfl) ?_
                refine t_calli (t_runJ (g := F0 m 37 ls ([.int (nI i), .int (1 : Int32), .ref o])) (As := [.int (1 : Int32), .int (nI i)]) (rest := []) ⟨hx, hb, hml, hown, hts⟩ (c_X3_sumOf_x l D cy A G ws o (1 : Int32) (nI i) hD hT hG_o hM_o hM_s_o hb9 ht9 (by omega) (by omega)) (va_cwU 2 hts gX3_greatestColumns_X3_sumOf_u57X1 rfl rfl rfl rfl (by decide +kernel) ⟨Nat.le_of_ble_eq_true rfl, Nat.le_of_ble_eq_true rfl⟩) (cwV 2 hts gX3_greatestColumns_X3_sumOf rfl rfl rfl (by decide +kernel) ⟨Nat.le_of_ble_eq_true rfl, Nat.le_of_ble_eq_true rfl⟩) (va_cwU 2 hts gX3_greatestColumns_X3_sumOf_u57X4 rfl rfl rfl rfl (by decide +kernel) ⟨Nat.le_of_ble_eq_true rfl, Nat.le_of_ble_eq_true rfl⟩) (va_cwU 2 hts gX3_greatestColumns_X3_sumOf_u57X5 rfl rfl rfl rfl (by decide +kernel) ⟨Nat.le_of_ble_eq_true rfl, Nat.le_of_ble_eq_true rfl⟩) hJ_o.kc hM_o hP hK c_blind (c_preS hP hK hA hS hV).2 rfl rfl hl.1 rfl (lv_room (Nat.le_of_ble_eq_true rfl)) dX3_greatestColumns_37 ⟨Nat.le_of_ble_eq_true rfl, Nat.le_of_ble_eq_true rfl⟩) hS (fun r37 u H locs q37 hP9 hD9 hT9 hS => ?_)
                obtain ⟨rfl, q37⟩ := q37
                have hP : va_P D vwCl ws H := hP9
                have f37 : r37 = fs (11 + i) := q37.trans (congrArg fs (by rw [nI_clamp (by omega)]; rfl))
                refine lv_iload hx hb dX3_greatestColumns_40 (lv_at hl 1 rfl) ?_
                refine lv_icmp_ne (tgt := 53) hx hb dX3_greatestColumns_42 (by decide) (fun c42 => ?_) (fun c42 => ?_)
                · skip
                  have d42 := c42
                  rw [fa_eq] at d42
                  refine lv_iinc (v := (nI (i + 1))) (lv' := [(5, .int (nI (i + 1))), (4, .int x4), (3, .int z3), (2, .int z2), (0, .ref o), (1, .int k0)]) hx hb dX3_greatestColumns_53 hl (k := 0) rfl (nI_1 _) (by decide) rfl (fun ls hl => ?_)
                  refine lv_goto (tgt := 16) hx hb dX3_greatestColumns_56 (by decide) ?_
                  exact ih_16 (i + 1) z3 z2 (by omega) (by
            rw [cq9]
            first
            | (rw [if_pos (show (fs (11 + i)).toInt = (x4.toNatClampNeg : Int) by rw [← f37, cv9]; exact congrArg Int32.toInt c42)]; have z9 := j16_1.1; omega)
            | (rw [if_neg (show ¬ (fs (11 + i)).toInt = (x4.toNatClampNeg : Int) by rw [← f37, cv9]; exact fun z9 => c42 (Int32.toInt_inj.mp z9))]; have z9 := j16_1.1; omega)
            | (have z9 := j16_1.1; split <;> omega)) (by first | exact j16_2 | (rw [i48, i50, show z3.toInt + 1 - x3.toInt = (z3.toInt - x3.toInt) + 1 by omega]; exact gc_add j16_2)) (by omega) (by omega) _ _ hP hS  ls (lv_sub hl [0, 1, 2, 3, 4, 5] rfl)
                · skip
                  have d42 := c42
                  rw [fa_eq] at d42
                  refine lv_iload_n hx hb dX3_greatestColumns_45 rfl (lv_at hl 3 rfl) ?_
                  refine lv_iload hx hb dX3_greatestColumns_46 (lv_at hl 1 rfl) ?_
                  refine lv_iadd hx hb dX3_greatestColumns_48 ?_
                  refine lv_topi (fun v48 e48 => ?_)
                  have i48 : v48.toInt = z2.toInt + x4.toInt := by rw [e48]; exact fb_addI (by omega) (by omega)
                  refine lv_istore_n (lv' := [(2, .int v48), (5, .int (nI i)), (4, .int x4), (3, .int z3), (0, .ref o), (1, .int k0)]) hx hb dX3_greatestColumns_49 rfl hl (by decide) rfl (fun ls hl => ?_)
                  obtain ⟨v50, e50⟩ : ∃ y : Int32, y = z3 + 1 := ⟨_, rfl⟩
                  have i50 : v50.toInt = z3.toInt + 1 := by rw [e50]; exact fb_addI (by omega) (by omega)
                  refine lv_iinc (v := v50) (lv' := [(3, .int v50), (2, .int v48), (5, .int (nI i)), (4, .int x4), (0, .ref o), (1, .int k0)]) hx hb dX3_greatestColumns_50 hl (k := 3) rfl (by rw [e50]; rfl) (by decide) rfl (fun ls hl => ?_)
                  refine lv_iinc (v := (nI (i + 1))) (lv' := [(5, .int (nI (i + 1))), (3, .int v50), (2, .int v48), (4, .int x4), (0, .ref o), (1, .int k0)]) hx hb dX3_greatestColumns_53 hl (k := 2) rfl (nI_1 _) (by decide) rfl (fun ls hl => ?_)
                  refine lv_goto (tgt := 16) hx hb dX3_greatestColumns_56 (by decide) ?_
                  exact ih_16 (i + 1) v50 v48 (by omega) (by
            rw [cq9]
            first
            | (rw [if_pos (show (fs (11 + i)).toInt = (x4.toNatClampNeg : Int) by rw [← f37, cv9]; exact congrArg Int32.toInt c42)]; have z9 := j16_1.1; omega)
            | (rw [if_neg (show ¬ (fs (11 + i)).toInt = (x4.toNatClampNeg : Int) by rw [← f37, cv9]; exact fun z9 => c42 (Int32.toInt_inj.mp z9))]; have z9 := j16_1.1; omega)
            | (have z9 := j16_1.1; split <;> omega)) (by first | exact j16_2 | (rw [i48, i50, show z3.toInt + 1 - x3.toInt = (z3.toInt - x3.toInt) + 1 by omega]; exact gc_add j16_2)) (by omega) (by omega) _ _ hP hS  ls (lv_sub hl [0, 3, 1, 2, 4, 5] rfl)
        exact loop_16 (6 + 1) 0 x3 x2 (by omega) (⟨by rw [j8_1.1]; rfl, j8_1.2⟩) (by rw [Int.sub_self, Int.mul_zero, Int.add_zero]) (j8_3) (by omega) _ _ hP hS  ls (lv_sub hl [0, 1, 2, 3, 4, 5] rfl)
  exact loop_8 (6 + 1) (6 : Int32) (0 : Int32) (0 : Int32) (by omega) (⟨by show _ = ((min _ (cGe fs 11 7 w) : Nat) : Int); rw [g7, Nat.min_zero]; rfl, by omega⟩) (by show _ = (6 : Int) * ((min _ (cGe fs 11 7 w) : Nat) : Int) + ((0 : Nat) : Int); rw [g7, Nat.min_zero]; rfl) (by omega) (by omega) _ _ hP hS  ls (lv_sub hl [0, 1, 2, 3, 4] rfl)
set_option maxHeartbeats 4000000 in
set_option maxRecDepth 100000 in
theorem c_X9_clash_j (l : Launch) (D : va_G) (cy : Nat → ClassId) (A : Nat → Prop) (G : cG) (ws : va_W) (o : Nat) (j : Int32) {bs_o js_o sh_o wk_o ll_o : Nat} {jc_o lc_o : Int32} {mo_o lb_o : Option Nat} {fa : Nat → Option Nat} {xj kj bj sj tj wj hj : Nat} {oj nj : Int64} {msj : List Value} {fsj : Nat → Int32} (hD : va_D A ws) (hT : cT cy G ws) (hG_o : G o = some (7, 0, 0)) (hM_o : cIn ws o (.inr (8, [.ref bs_o, .ref js_o, .int jc_o, .ref sh_o, .ref wk_o, va_rf mo_o, .ref ll_o, .int lc_o, va_rf lb_o]))) (hM_js_o : cIn ws js_o (.inl (cy 4, cqa 8 fa))) (hJ1 : ∀ i : Nat, (i : Int) < jc_o.toInt → ∃ x, fa i = some x) (hJ : okJob jc_o j → jobS cy G ws fa j.toNatClampNeg xj kj bj sj tj wj hj oj nj msj fsj) (hr9 : okJob jc_o j → ∀ y l, y < 4 → l < lnC wj hj y → 0 ≤ (fsj (y * 11 + l)).toInt ∧ (fsj (y * 11 + l)).toInt ≤ 6) : Ci l D cy A yX9_clash wsX9_clash ({ frames := 2, cells := 0, slots := 0, locals := 48 }) 0 0 ws [.ref o, .int j] (fun r0 u => u = (G, ws) ∧ ((okJob jc_o j ∧ clA wj hj fsj 0 fsj 11 r0) ∨ (¬ okJob jc_o j ∧ r0 = -1))) := by
  refine Met.ofW (cc := cX9_clash) (maxL := 4) (ret := (some .int)) (by decide) rfl ?_
  intro p e s m args below meth c s₁ B hml hv
  obtain ⟨rfl, hP, hK, hA, hV⟩ := hv
  have hx := B.exec
  have hb := B.bytes
  have hr := B.returns
  have hts := atoms_spec (ws := wsX9_clash) B.pre
  have hown : s.vm.findClass RX9 = some m.cls := findClass_of_methodNamed B.named
  have hlocks := B.notSynchronized
  have hS : va_S A s.heap s.heap [] := va_S.rf
  have hinJ : ∀ w ∈ wsX10 ++ wsX30 ++ wsX40 ++ wsX50, w ∈ wsX9_clash := by decide +kernel
  have hl := lv_entry ([.ref o, .int j]) (n := 4) (Nat.le_of_ble_eq_true rfl)
  rw [lg_entry_eq]
  generalize (lg_sl ([.ref o, .int j]) ++ List.replicate (4 - (lg_sl ([.ref o, .int j])).length) Slot.unset).toArray = ls at hl ⊢
  have hl : lv_has ls 4 [(0, .ref o), (1, .int j)] := hl
  have k_m2 : (-2 : Int32).toInt = -2 := by decide
  have k_m1 : (-1 : Int32).toInt = -1 := by decide
  have k_0 : (0 : Int32).toInt = 0 := by decide
  have k_1 : (1 : Int32).toInt = 1 := by decide
  obtain ⟨hjc_o, hlc_o, hG_bs_o, hG_js_o, hG_sh_o, hG_wk_o, hmo_o, hG_ll_o, hlb_o⟩ := w7sh hD hT hG_o hM_o
  have hf_js_o := w9sh hD hT hG_js_o hM_js_o
  refine lv_aload_n hx hb dX9_clash_0 rfl (lv_at hl 0 rfl) ?_
  refine lv_iload_n hx hb dX9_clash_1 rfl (lv_at hl 1 rfl) ?_
  refine t_calla (va_runV (g := F0 m 2 ls ([.int j, .ref o])) (As := [.int j]) (rest := []) ⟨hx, hb, hml, hown, hts⟩ (c_X9_jobOf_j l D cy A G ws o j hD hT hG_o hM_o hM_js_o hJ1) (cwV 1 hts gX9_clash_X9_jobOf rfl rfl rfl (by decide +kernel) ⟨Nat.le_of_ble_eq_true rfl, Nat.le_of_ble_eq_true rfl⟩) (c_preV hM_o rfl hP hK hA hS hV) rfl rfl hl.1 rfl (lv_room (Nat.le_of_ble_eq_true rfl)) dX9_clash_2 ⟨Nat.le_of_ble_eq_true rfl, Nat.le_of_ble_eq_true rfl⟩) hS (fun r2 u H locs q2 hP9 hD9 hT9 hS => ?_)
  obtain ⟨rfl, q2⟩ := q2
  have hP : va_P D vwCl ws H := hP9
  rcases r2 with _ | x2
  · skip
    have vn2 := q2.2 rfl
    refine lv_astore_nN (lv' := [(2, .null), (0, .ref o), (1, .int j)]) hx hb dX9_clash_5 rfl hl (by decide) rfl (fun ls hl => ?_)
    refine lv_aload_nN hx hb dX9_clash_6 rfl (lv_at hl 0 rfl) ?_
    refine lv_ifnonnullN hx hb dX9_clash_7 ?_
    refine lv_iconst (v := (-1)) hx hb dX9_clash_10 (by decide) ?_
    exact W.iret (v := ((-1) : Int32)) hx hb hr (fun t ht hW => ⟨⟨_, (G, ws), rfl, ⟨rfl, (Or.inr ⟨vn2, rfl⟩)⟩, by show va_P D vwCl ws t.heap; rw [ht]; exact hP, hD, hT⟩, hS.F ht⟩) hS.2.2 dX9_clash_11
  · skip
    obtain ⟨vj2, fj2⟩ := q2.1 x2 rfl
    obtain ⟨hfa9, hG_xj, hb9, ht9, hM_xj, hM_sj⟩ := hJ vj2
    obtain rfl : xj = x2 := Option.some.inj (hfa9.symm.trans fj2)
    obtain ⟨hG_bj, hG_sj, hJ_xj⟩ := w3sh hD hT hG_xj hb9 hM_xj
    refine lv_astore_n (lv' := [(2, .ref xj), (0, .ref o), (1, .int j)]) hx hb dX9_clash_5 rfl hl (by decide) rfl (fun ls hl => ?_)
    refine lv_aload_n hx hb dX9_clash_6 rfl (lv_at hl 0 rfl) ?_
    refine lv_ifnonnull (tgt := 12) hx hb dX9_clash_7 (by decide) ?_
    refine lv_aload_n hx hb dX9_clash_12 rfl (lv_at hl 0 rfl) ?_
    refine lv_iconst (v := 0) hx hb dX9_clash_13 (by decide) ?_
    refine t_calli (t_runJ (g := F0 m 14 ls ([.int (0 : Int32), .ref xj])) (As := [.int (0 : Int32)]) (rest := []) ⟨hx, hb, hml, hown, hts⟩ (c_X3_sumOfWay_x l D cy A G ws xj (0 : Int32) hD hT hG_xj hM_xj hM_sj hb9 ht9 (by omega) (fun l9 h9 => hr9 vj2 _ l9 (by decide) h9)) (va_cwU 1 hts gX9_clash_X3_sumOfWay_u153X1 rfl rfl rfl rfl (by decide +kernel) ⟨Nat.le_of_ble_eq_true rfl, Nat.le_of_ble_eq_true rfl⟩) (cwV 1 hts gX9_clash_X3_sumOfWay rfl rfl rfl (by decide +kernel) ⟨Nat.le_of_ble_eq_true rfl, Nat.le_of_ble_eq_true rfl⟩) (va_cwU 1 hts gX9_clash_X3_sumOfWay_u153X4 rfl rfl rfl rfl (by decide +kernel) ⟨Nat.le_of_ble_eq_true rfl, Nat.le_of_ble_eq_true rfl⟩) (va_cwU 1 hts gX9_clash_X3_sumOfWay_u153X5 rfl rfl rfl rfl (by decide +kernel) ⟨Nat.le_of_ble_eq_true rfl, Nat.le_of_ble_eq_true rfl⟩) hJ_xj.kc hM_xj hP hK c_blind (c_preS hP hK hA hS hV).2 rfl rfl hl.1 rfl (lv_room (Nat.le_of_ble_eq_true rfl)) dX9_clash_14 ⟨Nat.le_of_ble_eq_true rfl, Nat.le_of_ble_eq_true rfl⟩) hS (fun r14 u H locs q14 hP9 hD9 hT9 hS => ?_)
    obtain ⟨rfl, q14⟩ := q14
    have hP : va_P D vwCl ws H := hP9
    refine lv_aload_n hx hb dX9_clash_17 rfl (lv_at hl 0 rfl) ?_
    refine lv_iconst (v := 1) hx hb dX9_clash_18 (by decide) ?_
    refine t_calli (t_runJ (g := F0 m 19 ls ([.int (1 : Int32), .ref xj, .int r14])) (As := [.int (1 : Int32)]) (rest := [.int r14]) ⟨hx, hb, hml, hown, hts⟩ (c_X3_sumOfWay_x l D cy A G ws xj (1 : Int32) hD hT hG_xj hM_xj hM_sj hb9 ht9 (by omega) (fun l9 h9 => hr9 vj2 _ l9 (by decide) h9)) (va_cwU 1 hts gX9_clash_X3_sumOfWay_u153X1 rfl rfl rfl rfl (by decide +kernel) ⟨Nat.le_of_ble_eq_true rfl, Nat.le_of_ble_eq_true rfl⟩) (cwV 1 hts gX9_clash_X3_sumOfWay rfl rfl rfl (by decide +kernel) ⟨Nat.le_of_ble_eq_true rfl, Nat.le_of_ble_eq_true rfl⟩) (va_cwU 1 hts gX9_clash_X3_sumOfWay_u153X4 rfl rfl rfl rfl (by decide +kernel) ⟨Nat.le_of_ble_eq_true rfl, Nat.le_of_ble_eq_true rfl⟩) (va_cwU 1 hts gX9_clash_X3_sumOfWay_u153X5 rfl rfl rfl rfl (by decide +kernel) ⟨Nat.le_of_ble_eq_true rfl, Nat.le_of_ble_eq_true rfl⟩) hJ_xj.kc hM_xj hP hK c_blind (c_preS hP hK hA hS hV).2 rfl rfl hl.1 rfl (lv_room (Nat.le_of_ble_eq_true rfl)) dX9_clash_19 ⟨Nat.le_of_ble_eq_true rfl, Nat.le_of_ble_eq_true rfl⟩) hS (fun r19 u H locs q19 hP9 hD9 hT9 hS => ?_)
    obtain ⟨rfl, q19⟩ := q19
    have hP : va_P D vwCl ws H := hP9
    have f14 : r14.toInt = sI fsj 0 hj := q14
    have f19 : r19.toInt = sI fsj 11 wj := q19
    refine lv_icmp_eq (tgt := 27) hx hb dX9_clash_22 (by decide) (fun c22 => ?_) (fun c22 => ?_)
    · skip
      have d22 := c22
      rw [fa_eq] at d22
      refine lv_iconst (v := 1) hx hb dX9_clash_27 (by decide) ?_
      refine lv_istore_n (lv' := [(3, .int (1 : Int32)), (2, .ref xj), (0, .ref o), (1, .int j)]) hx hb dX9_clash_28 rfl hl (by decide) rfl (fun ls hl => ?_)
      have loop_29 : ∀ (n : Nat) (i : Nat), (1 ≤ i ∧ i ≤ 7) → (∀ k, 1 ≤ k → k < i → ¬ rI fsj 0 k hj < (kS fsj 11 wj k : Int)) → 7 - i < n → ∀ (H : Heap) (locs : List Loc), va_P D vwCl ws H → va_S A s.heap H locs → ∀ (ls : Array Slot), lv_has ls 4 [(3, .int (nI i)), (2, .ref xj), (0, .ref o), (1, .int j)] → W p l e (headSpec wsX9_clash ({ frames := 2, cells := 0, slots := 0, locals := 48 })).room s m #[Value.ref o, Value.int j] below meth c H locs 0 0 (MQ below (va_Qi (fun r0 u => u = (G, ws) ∧ ((okJob jc_o j ∧ clA wj hj fsj 0 fsj 11 r0) ∨ (¬ okJob jc_o j ∧ r0 = -1))) (cB D cy A) A) #[Value.ref o, Value.int j] s 0 0 A) (F0 m 29 ls []) := by
        intro n
        induction n with
        | zero => intro i j29_0 j29_1 hn; exact absurd hn (Nat.not_lt_zero _)
        | succ n ih_29 =>
          intro i j29_0 j29_1 hn_29 H locs hP hS  ls hl
          have ii : (nI i).toInt = (i : Int) := nI_toInt (by omega)
          refine lv_iload_n hx hb dX9_clash_29 rfl (lv_at hl 0 rfl) ?_
          refine lv_aload_n hx hb dX9_clash_30 rfl (lv_at hl 1 rfl) ?_
          refine t_getJ (v := .ref bj) hx hb hts hinJ hown hK hP hJ_xj.kc hM_xj 0 (by decide) (hts (.fieldLink RX9 65 "ShadowBench$Job" "board" "LShadowBench$Board;") (by decide +kernel)) (fun _ h9 => h9) rfl dX9_clash_31 ?_
          obtain ⟨_, hM_bj, hb_bj, l_bj, f_bj, r_bj, rfl, hG_l_bj, hG_f_bj, hG_r_bj⟩ := hT _ _ hG_bj
          refine t_get (v := .int (nI wj)) (C := RX0) (T := TX0) (N := 8) hx hb hts (by decide +kernel) hown hK hP hM_bj rfl 0 (by decide) (hts (.fieldLink RX9 156 "ShadowBench$Board" "wide" "I") (by decide +kernel)) (fun _ h9 => h9) rfl dX9_clash_34 ?_
          have i_w_bj : (nI wj).toInt = _ := nI_toInt (by omega)
          refine lv_icmp_gt (tgt := 61) hx hb dX9_clash_37 (by decide) (fun c37 => ?_) (fun c37 => ?_)
          · skip
            have d37 := c37
            rw [fa_lt] at d37
            refine lv_bipush (v := (-2)) hx hb dX9_clash_61 (by decide) ?_
            exact W.iret (v := ((-2) : Int32)) hx hb hr (fun t ht hW => ⟨⟨_, (G, ws), rfl, ⟨rfl, (Or.inl ⟨vj2, Or.inr ⟨(by rw [← f14, ← f19, c22]), Or.inr ⟨rfl, fun i9 h9 h8 => j29_1 i9 h9 (by omega)⟩⟩⟩)⟩, by show va_P D vwCl ws t.heap; rw [ht]; exact hP, hD, hT⟩, hS.F ht⟩) hS.2.2 dX9_clash_63
          · skip
            have d37 := c37
            rw [fa_lt] at d37
            refine lv_aload_n hx hb dX9_clash_40 rfl (lv_at hl 1 rfl) ?_
            refine lv_iload_n hx hb dX9_clash_41 rfl (lv_at hl 0 rfl) ?_
            refine t_calli (t_runJ (g := F0 m 42 ls ([.int (nI i), .ref xj])) (As := [.int (nI i)]) (rest := []) ⟨hx, hb, hml, hown, hts⟩ (c_X3_greatestColumns_x l D cy A G ws xj (nI i) hD hT hG_xj hM_xj hM_sj hb9 ht9 (by omega) (fun x9 h9 => hr9 vj2 1 x9 (by decide) h9)) (va_cwU 1 hts gX9_clash_X3_greatestColumns_u159X1 rfl rfl rfl rfl (by decide +kernel) ⟨Nat.le_of_ble_eq_true rfl, Nat.le_of_ble_eq_true rfl⟩) (cwV 1 hts gX9_clash_X3_greatestColumns rfl rfl rfl (by decide +kernel) ⟨Nat.le_of_ble_eq_true rfl, Nat.le_of_ble_eq_true rfl⟩) (va_cwU 1 hts gX9_clash_X3_greatestColumns_u159X4 rfl rfl rfl rfl (by decide +kernel) ⟨Nat.le_of_ble_eq_true rfl, Nat.le_of_ble_eq_true rfl⟩) (va_cwU 1 hts gX9_clash_X3_greatestColumns_u159X5 rfl rfl rfl rfl (by decide +kernel) ⟨Nat.le_of_ble_eq_true rfl, Nat.le_of_ble_eq_true rfl⟩) hJ_xj.kc hM_xj hP hK c_blind (c_preS hP hK hA hS hV).2 rfl rfl hl.1 rfl (lv_room (Nat.le_of_ble_eq_true rfl)) dX9_clash_42 ⟨Nat.le_of_ble_eq_true rfl, Nat.le_of_ble_eq_true rfl⟩) hS (fun r42 u H locs q42 hP9 hD9 hT9 hS => ?_)
            obtain ⟨rfl, q42⟩ := q42
            have hP : va_P D vwCl ws H := hP9
            refine lv_aload_n hx hb dX9_clash_45 rfl (lv_at hl 1 rfl) ?_
            refine lv_iload_n hx hb dX9_clash_46 rfl (lv_at hl 0 rfl) ?_
            refine t_calli (t_runJ (g := F0 m 47 ls ([.int (nI i), .ref xj, .int r42])) (As := [.int (nI i)]) (rest := [.int r42]) ⟨hx, hb, hml, hown, hts⟩ (c_X3_roomInRows_x l D cy A G ws xj (nI i) hD hT hG_xj hM_xj hM_sj hb9 ht9 (by omega) (fun x9 h9 => hr9 vj2 0 x9 (by decide) h9)) (va_cwU 1 hts gX9_clash_X3_roomInRows_u162X1 rfl rfl rfl rfl (by decide +kernel) ⟨Nat.le_of_ble_eq_true rfl, Nat.le_of_ble_eq_true rfl⟩) (cwV 1 hts gX9_clash_X3_roomInRows rfl rfl rfl (by decide +kernel) ⟨Nat.le_of_ble_eq_true rfl, Nat.le_of_ble_eq_true rfl⟩) (va_cwU 1 hts gX9_clash_X3_roomInRows_u162X4 rfl rfl rfl rfl (by decide +kernel) ⟨Nat.le_of_ble_eq_true rfl, Nat.le_of_ble_eq_true rfl⟩) (va_cwU 1 hts gX9_clash_X3_roomInRows_u162X5 rfl rfl rfl rfl (by decide +kernel) ⟨Nat.le_of_ble_eq_true rfl, Nat.le_of_ble_eq_true rfl⟩) hJ_xj.kc hM_xj hP hK c_blind (c_preS hP hK hA hS hV).2 rfl rfl hl.1 rfl (lv_room (Nat.le_of_ble_eq_true rfl)) dX9_clash_47 ⟨Nat.le_of_ble_eq_true rfl, Nat.le_of_ble_eq_true rfl⟩) hS (fun r47 u H locs q47 hP9 hD9 hT9 hS => ?_)
            obtain ⟨rfl, q47⟩ := q47
            have hP : va_P D vwCl ws H := hP9
            have ci9 : (nI i).toNatClampNeg = i := nI_clamp (by omega)
            rw [ci9] at q42 q47
            refine lv_icmp_le (tgt := 55) hx hb dX9_clash_50 (by decide) (fun c50 => ?_) (fun c50 => ?_)
            · skip
              have d50 := c50
              rw [fa_le] at d50
              refine lv_iinc (v := (nI (i + 1))) (lv' := [(3, .int (nI (i + 1))), (2, .ref xj), (0, .ref o), (1, .int j)]) hx hb dX9_clash_55 hl (k := 0) rfl (nI_1 _) (by decide) rfl (fun ls hl => ?_)
              refine lv_goto (tgt := 29) hx hb dX9_clash_58 (by decide) ?_
              exact ih_29 (i + 1) (by omega) (fun k h1 h2 => by
            by_cases e9 : k = i
            · rw [e9, ← q42, ← q47]; omega
            · exact j29_1 k h1 (by omega)) (by omega) _ _ hP hS  ls (lv_sub hl [0, 1, 2, 3] rfl)
            · skip
              have d50 := c50
              rw [fa_le] at d50
              refine lv_iload_n hx hb dX9_clash_53 rfl (lv_at hl 0 rfl) ?_
              exact W.iret (v := (nI i)) hx hb hr (fun t ht hW => ⟨⟨_, (G, ws), rfl, ⟨rfl, (Or.inl ⟨vj2, Or.inr ⟨(by rw [← f14, ← f19, c22]), Or.inl ⟨i, by omega, by omega, by omega, rfl, j29_1⟩⟩⟩)⟩, by show va_P D vwCl ws t.heap; rw [ht]; exact hP, hD, hT⟩, hS.F ht⟩) hS.2.2 dX9_clash_54
      exact loop_29 (7 + 1) 1 (by omega) (fun k h1 h2 => by omega) (by omega) _ _ hP hS  ls (lv_sub hl [0, 1, 2, 3] rfl)
    · skip
      have d22 := c22
      rw [fa_eq] at d22
      refine lv_iconst (v := 0) hx hb dX9_clash_25 (by decide) ?_
      exact W.iret (v := (0 : Int32)) hx hb hr (fun t ht hW => ⟨⟨_, (G, ws), rfl, ⟨rfl, (Or.inl ⟨vj2, Or.inl ⟨(fun z9 => c22 (Int32.toInt_inj.mp (by rw [f14, f19, z9]))), rfl⟩⟩)⟩, by show va_P D vwCl ws t.heap; rw [ht]; exact hP, hD, hT⟩, hS.F ht⟩) hS.2.2 dX9_clash_26

theorem upd_k (f : Nat → Int32) (i : Nat) (v : Int32) : upd f i v i = v := by unfold upd; rw [if_pos rfl]
theorem upd_n {f : Nat → Int32} {i k : Nat} {v : Int32} (h : k ≠ i) : upd f i v k = f k := by unfold upd; rw [if_neg h]
theorem up_c {cl F : Nat → Int32} {b k : Nat} {v : Int32} (h : ∀ i, i < k → cl i = F (b + i)) (e : v = F (b + k)) : ∀ i, i < k + 1 → upd cl k v i = F (b + i) := fun i hi => by
  by_cases z : i = k
  · rw [z, upd_k, e]
  · rw [upd_n z, h i (by omega)]
theorem am_a {cl : Nat → Int32} {i x : Nat} (h : ∀ m, m < i → (cl m).toInt ≤ (cl x).toInt) (c : (cl i).toInt ≤ (cl x).toInt) : ∀ m, m < i + 1 → (cl m).toInt ≤ (cl x).toInt := fun m hm => by
  by_cases z : m = i
  · rw [z]; exact c
  · exact h m (by omega)
theorem am_b {cl : Nat → Int32} {i x : Nat} (h : ∀ m, m < i → (cl m).toInt ≤ (cl x).toInt) (c : ¬ (cl i).toInt ≤ (cl x).toInt) : ∀ m, m < i + 1 → (cl m).toInt ≤ (cl i).toInt := fun m hm => by
  by_cases z : m = i
  · rw [z]; exact Int.le_refl _
  · have := h m (by omega); omega
theorem rI_p {f : Nat → Int32} {b k n : Nat} {v : Int32} (e : v = f (b + n)) (c : v.toInt < (k : Int)) : rI f b k n + v.toInt = rI f b k (n + 1) := by
  simp only [rI]
  rw [← e, if_pos c]
theorem rI_q {f : Nat → Int32} {b k n : Nat} {v : Int32} (e : v = f (b + n)) (c : ¬ v.toInt < (k : Int)) : rI f b k n + (k : Int) = rI f b k (n + 1) := by
  simp only [rI]
  rw [← e, if_neg c]
theorem kS_b (f : Nat → Int32) (b w k : Nat) : kS f b w k ≤ 6 * w := by
  have h1 := cGe_le f b 1 w
  have h2 := cGe_le f b 2 w
  have h3 := cGe_le f b 3 w
  have h4 := cGe_le f b 4 w
  have h5 := cGe_le f b 5 w
  have h6 := cGe_le f b 6 w
  unfold kS
  omega
theorem kS_0 (f : Nat → Int32) (b w : Nat) : kS f b w 0 = 0 := by
  unfold kS
  simp only [Nat.zero_min]
theorem cGe_w {f : Nat → Int32} {b : Nat} : ∀ n, (∀ i, i < n → 0 ≤ (f (b + i)).toInt) → cGe f b 0 n = n := by
  intro n
  induction n with
  | zero => intro _; rfl
  | succ n ih => intro h; simp only [cGe]; rw [ih (fun i hi => h i (by omega)), if_pos (h n (by omega))]
theorem cGe_1 {f : Nat → Int32} {b x : Nat} {v : Int} (hv : v ≤ (f (b + x)).toInt) : ∀ n, x < n → 1 ≤ cGe f b v n := by
  intro n
  induction n with
  | zero => intro h; omega
  | succ n ih =>
    intro h
    simp only [cGe]
    by_cases e : x = n
    · subst e; rw [if_pos hv]; omega
    · have := ih (by omega); omega
theorem cGe_ex {f : Nat → Int32} {b : Nat} {v : Int} : ∀ n, 1 ≤ cGe f b v n → ∃ x, x < n ∧ v ≤ (f (b + x)).toInt := by
  intro n
  induction n with
  | zero => intro h; exact absurd (show (1 : Nat) ≤ 0 from h) (by decide)
  | succ n ih =>
    intro h
    simp only [cGe] at h
    by_cases e : v ≤ (f (b + n)).toInt
    · exact ⟨n, Nat.lt_succ_self _, e⟩
    · rw [if_neg e] at h
      obtain ⟨x, h1, h2⟩ := ih h
      exact ⟨x, by omega, h2⟩
theorem cGe_upd {cl : Nat → Int32} {v : Int} (hv : 0 ≤ v) {x : Nat} (n : Nat) : cGe (upd cl x (-1)) 0 v n + (if x < n ∧ v ≤ (cl x).toInt then 1 else 0) = cGe cl 0 v n := by
  induction n with
  | zero => rw [if_neg (by omega)]; rfl
  | succ n ih =>
    simp only [cGe, Nat.zero_add]
    have m1 : (-1 : Int32).toInt = -1 := by decide
    by_cases h : n = x
    · subst h
      rw [if_neg (by omega)] at ih
      rw [upd_k, m1, if_neg (show ¬ v ≤ (-1 : Int) by omega), ← ih]
      by_cases h2 : v ≤ (cl n).toInt
      · rw [if_pos (show n < n + 1 ∧ v ≤ (cl n).toInt from ⟨Nat.lt_succ_self _, h2⟩), if_pos h2]
      · rw [if_neg (show ¬ (n < n + 1 ∧ v ≤ (cl n).toInt) from fun z => h2 z.2), if_neg h2]
    · rw [upd_n h, ← ih]
      by_cases h2 : x < n ∧ v ≤ (cl x).toInt
      · rw [if_pos h2, if_pos (show x < n + 1 ∧ v ≤ (cl x).toInt from ⟨by omega, h2.2⟩)]; exact Nat.add_right_comm _ _ _
      · rw [if_neg h2, if_neg (show ¬ (x < n + 1 ∧ v ≤ (cl x).toInt) from fun z => h2 ⟨by omega, z.2⟩)]; exact Nat.add_right_comm _ _ _
/-- the columns left when the k greatest are taken -/
def clV (F cl : Nat → Int32) (b w k : Nat) : Prop := (∀ i, i < w → -1 ≤ (cl i).toInt ∧ (cl i).toInt ≤ 6) ∧ ∀ v : Nat, v ≤ 6 → cGe cl 0 (v : Int) w + min k (cGe F b (v : Int) w) = cGe F b (v : Int) w
theorem clV_0 {F cl : Nat → Int32} {b w : Nat} (h : ∀ i, i < w → cl i = F (b + i)) (hr : ∀ i, i < w → 0 ≤ (F (b + i)).toInt ∧ (F (b + i)).toInt ≤ 6) : clV F cl b w 0 := by
  refine ⟨fun i hi => ?_, fun v hv => ?_⟩
  · have := hr i hi; rw [h i hi]; omega
  · rw [Nat.zero_min, Nat.add_zero]; exact cGe_c w (fun i hi => by rw [Nat.zero_add]; exact h i hi)
theorem clV.max {F cl : Nat → Int32} {b w k : Nat} (h : clV F cl b w k) (hk : k < w) (h0 : ∀ i, i < w → 0 ≤ (F (b + i)).toInt) {x : Nat} (hx : x < w) (hm : ∀ i, i < w → (cl i).toInt ≤ (cl x).toInt) : 0 ≤ (cl x).toInt ∧ ∀ v : Nat, v ≤ 6 → (((v : Int) ≤ (cl x).toInt → k < cGe F b (v : Int) w) ∧ ((cl x).toInt < (v : Int) → cGe F b (v : Int) w ≤ k)) := by
  constructor
  · have e := h.2 0 (by omega)
    have z0 : ((0 : Nat) : Int) = 0 := rfl
    rw [z0, cGe_w w h0] at e
    obtain ⟨i, i1, i2⟩ := cGe_ex (f := cl) (b := 0) (v := 0) w (by omega)
    rw [Nat.zero_add] at i2
    have := hm i i1
    omega
  · intro v hv
    have e := h.2 v hv
    constructor
    · intro z
      have c := cGe_1 (f := cl) (b := 0) (x := x) (v := (v : Int)) (by rw [Nat.zero_add]; exact z) w hx
      omega
    · intro z
      have c := cGe_0 (f := cl) (b := 0) (v := (v : Int)) w (fun i hi => by rw [Nat.zero_add]; have := hm i hi; omega)
      omega
theorem clV.t {F cl : Nat → Int32} {b w k : Nat} (h : clV F cl b w k) (hk : k < w) (h0 : ∀ i, i < w → 0 ≤ (F (b + i)).toInt) {x : Nat} (hx : x < w) (hm : ∀ i, i < w → (cl i).toInt ≤ (cl x).toInt) (v : Nat) (hv : v ≤ 6) : min (k + 1) (cGe F b (v : Int) w) = min k (cGe F b (v : Int) w) + (if (v : Int) ≤ (cl x).toInt then 1 else 0) := by
  have m := (h.max hk h0 hx hm).2 v hv
  by_cases z : (v : Int) ≤ (cl x).toInt
  · have := m.1 z; rw [if_pos z]; omega
  · have := m.2 (by omega); rw [if_neg z]; omega
theorem kS_a {a1 a2 a3 a4 a5 a6 i1 i2 i3 i4 i5 i6 : Nat} {g : Int} (s : ((i1 + i2 + i3 + i4 + i5 + i6 : Nat) : Int) = g) : (((a1 + i1) + (a2 + i2) + (a3 + i3) + (a4 + i4) + (a5 + i5) + (a6 + i6) : Nat) : Int) = ((a1 + a2 + a3 + a4 + a5 + a6 : Nat) : Int) + g := by omega
theorem clV.sum {F cl : Nat → Int32} {b w k : Nat} (h : clV F cl b w k) (hk : k < w) (h0 : ∀ i, i < w → 0 ≤ (F (b + i)).toInt) {x : Nat} (hx : x < w) (hm : ∀ i, i < w → (cl i).toInt ≤ (cl x).toInt) : (kS F b w (k + 1) : Int) = (kS F b w k : Int) + (cl x).toInt := by
  have t1 : min (k + 1) (cGe F b 1 w) = min k (cGe F b 1 w) + (if (1 : Int) ≤ (cl x).toInt then 1 else 0) := h.t hk h0 hx hm 1 (by omega)
  have t2 : min (k + 1) (cGe F b 2 w) = min k (cGe F b 2 w) + (if (2 : Int) ≤ (cl x).toInt then 1 else 0) := h.t hk h0 hx hm 2 (by omega)
  have t3 : min (k + 1) (cGe F b 3 w) = min k (cGe F b 3 w) + (if (3 : Int) ≤ (cl x).toInt then 1 else 0) := h.t hk h0 hx hm 3 (by omega)
  have t4 : min (k + 1) (cGe F b 4 w) = min k (cGe F b 4 w) + (if (4 : Int) ≤ (cl x).toInt then 1 else 0) := h.t hk h0 hx hm 4 (by omega)
  have t5 : min (k + 1) (cGe F b 5 w) = min k (cGe F b 5 w) + (if (5 : Int) ≤ (cl x).toInt then 1 else 0) := h.t hk h0 hx hm 5 (by omega)
  have t6 : min (k + 1) (cGe F b 6 w) = min k (cGe F b 6 w) + (if (6 : Int) ≤ (cl x).toInt then 1 else 0) := h.t hk h0 hx hm 6 (by omega)
  have b0 := (h.max hk h0 hx hm).1
  have b6 := (h.1 x hx).2
  have g : (cl x).toInt = 0 ∨ (cl x).toInt = 1 ∨ (cl x).toInt = 2 ∨ (cl x).toInt = 3 ∨ (cl x).toInt = 4 ∨ (cl x).toInt = 5 ∨ (cl x).toInt = 6 := by omega
  unfold kS
  rw [t1, t2, t3, t4, t5, t6]
  refine kS_a ?_
  rcases g with e | e | e | e | e | e | e <;> rw [e] <;> rfl
theorem clV.next {F cl : Nat → Int32} {b w k : Nat} (h : clV F cl b w k) (hk : k < w) (h0 : ∀ i, i < w → 0 ≤ (F (b + i)).toInt) {x : Nat} (hx : x < w) (hm : ∀ i, i < w → (cl i).toInt ≤ (cl x).toInt) : clV F (upd cl x (-1)) b w (k + 1) := by
  refine ⟨fun i hi => ?_, fun v hv => ?_⟩
  · by_cases z : i = x
    · rw [z, upd_k]; decide
    · rw [upd_n z]; exact h.1 i hi
  · have e := h.2 v hv
    have t := h.t hk h0 hx hm v hv
    have u := cGe_upd (cl := cl) (v := (v : Int)) (by omega) (x := x) w
    by_cases z : (v : Int) ≤ (cl x).toInt
    · rw [if_pos z] at t
      rw [if_pos (show x < w ∧ (v : Int) ≤ (cl x).toInt from ⟨hx, z⟩)] at u
      omega
    · rw [if_neg z] at t
      rw [if_neg (show ¬ (x < w ∧ (v : Int) ≤ (cl x).toInt) from fun y => z y.2)] at u
      omega

set_option maxHeartbeats 4000000 in
set_option maxRecDepth 100000 in
theorem c_X10_clash_y (l : Launch) (D : va_G) (cy : Nat → ClassId) (mo : Nat) (a : Nat → Nat) (f : Nat → Int32) (g : Nat → Int64) (r : Nat → Nat → Int32) (q : Nat → Nat → Int64) (j : Int32) (hD : DM cy mo a) (hI : MI f r) (hr9 : okJob (f 1) j → ∀ y l, y < 2 → l < lnC (r 3 j.toNatClampNeg).toNatClampNeg (r 4 j.toNatClampNeg).toNatClampNeg y → 0 ≤ (r 5 (44 * j.toNatClampNeg + 11 * y + l)).toInt ∧ (r 5 (44 * j.toNatClampNeg + 11 * y + l)).toInt ≤ 6) : Mi l D cy mo a yX10_clash wsX10_clash ({ frames := 1, cells := 0, slots := 0, locals := 21 }) f g r q [.int j] (fun r0 u => ∃ (cl : Nat → Int32), u = ((upd f 0 (0 : Int32)), g, (va_up r 15 cl), q) ∧ ((okJob (f 1) j ∧ clA (r 3 j.toNatClampNeg).toNatClampNeg (r 4 j.toNatClampNeg).toNatClampNeg (r 5) (44 * j.toNatClampNeg) (r 5) (44 * j.toNatClampNeg + 11) r0) ∨ (¬ okJob (f 1) j ∧ r0 = -1))) := by
  refine Met.ofW (cc := cX10_clash) (maxL := 11) (ret := (some .int)) (by decide) rfl ?_
  intro p e s m args below meth c s₁ B hml hv
  obtain ⟨rfl, hP, hK⟩ := hv
  have hx := B.exec
  have hb := B.bytes
  have hr := B.returns
  have hts := atoms_spec (ws := wsX10_clash) B.pre
  have hin : ∀ w ∈ u_ws RX10 TX10 35, w ∈ wsX10_clash := by decide +kernel
  have hown : s.vm.findClass RX10 = some m.cls := findClass_of_methodNamed B.named
  have hlocks := B.notSynchronized
  have hS : va_S (AM mo a) s.heap s.heap [] := va_S.rf
  have hl := lv_entry ([.ref mo, .int j]) (n := 11) (Nat.le_of_ble_eq_true rfl)
  rw [lg_entry_eq]
  generalize (lg_sl ([.ref mo, .int j]) ++ List.replicate (11 - (lg_sl ([.ref mo, .int j])).length) Slot.unset).toArray = ls at hl ⊢
  have hl : lv_has ls 11 [(0, .ref mo), (1, .int j)] := hl
  have k_m2 : (-2 : Int32).toInt = -2 := by decide
  have k_m1 : (-1 : Int32).toInt = -1 := by decide
  have k_0 : (0 : Int32).toInt = 0 := by decide
  have k_1 : (1 : Int32).toInt = 1 := by decide
  have k_11 : (11 : Int32).toInt = 11 := by decide
  have k_44 : (44 : Int32).toInt = 44 := by decide
  have hI1 := hI.1
  refine lv_aload_n hx hb dX10_clash_0 rfl (lv_at hl 0 rfl) ?_
  refine lv_iconst (v := 0) hx hb dX10_clash_1 (by decide) ?_
  refine m_put (v := .int (0 : Int32)) (ty := .int) hx hb hts hin hown hK hP hD hS 0 (by decide) rfl (hts (.fieldLink RX10 79 "ShadowBenchModel" "thrown" "I") (by decide +kernel)) rfl (by decide +kernel) rfl rfl (upd f 0 (0 : Int32)) g rfl dX10_clash_2 (fun H locs hP hS => ?_)
  refine lv_aload_n hx hb dX10_clash_5 rfl (lv_at hl 0 rfl) ?_
  refine lv_iload_n hx hb dX10_clash_6 rfl (lv_at hl 1 rfl) ?_
  refine m_calli (As := [.int j]) (rest := []) ⟨hx, hb, hml, hown, hts⟩ (c_X10_isJob l D cy mo a (upd f 0 (0 : Int32)) g r q j hD) (cwV 1 hts gX10_clash_X10_isJob rfl rfl rfl (by decide +kernel) ⟨Nat.le_of_ble_eq_true rfl, Nat.le_of_ble_eq_true rfl⟩) hK hP rfl hl.1 rfl (Nat.le_of_ble_eq_true rfl) dX10_clash_7 ⟨Nat.le_of_ble_eq_true rfl, Nat.le_of_ble_eq_true rfl⟩ hS (fun r7 u H locs q7 hP hS => ?_)
  obtain ⟨rfl, q7⟩ := q7
  have hP : va_P D vwCl (WM cy mo a (upd f 0 (0 : Int32)) g r q) H := hP
  have q7 : Bo r7 (0 ≤ j.toInt ∧ j.toInt < ((f 1)).toInt) := q7
  refine lv_if_ne (tgt := 15) hx hb dX10_clash_10 (by decide) (fun c10 => ?_) (fun c10 => ?_)
  · skip
    have b10 := bo_t q7 c10
    refine lv_aload_n hx hb dX10_clash_15 rfl (lv_at hl 0 rfl) ?_
    refine m_get (v := .ref (a 3)) hx hb hts hin hown hK hP 3 (by decide) rfl (hts (.fieldLink RX10 13 "ShadowBenchModel" "wide" "[I") (by decide +kernel)) rfl dX10_clash_16 ?_
    refine lv_iload_n hx hb dX10_clash_19 rfl (lv_at hl 1 rfl) ?_
    refine m_iald (w := (r 3)) hx hb hK hP 2 rfl (vp_in_iff.mpr ⟨by omega, by omega⟩) dX10_clash_20 ?_
    refine lv_topi (fun v20 e20 => ?_)
    have i20 : v20.toInt = ((r 3) j.toNatClampNeg).toInt := congrArg Int32.toInt e20
    have w20 := mi_w hI (x := j) (by omega) (by omega) e20
    have cj9 := m_cl (x := j) (by omega)
    have szh := mi_h hI (x := j) (by omega) (by omega) rfl
    have cw9 := m_cl (x := r 3 j.toNatClampNeg) (by omega)
    have ch9 := m_cl (x := r 4 j.toNatClampNeg) (by omega)
    have hrgR : ∀ l, l < (r 4 j.toNatClampNeg).toNatClampNeg → 0 ≤ (r 5 ((44 * j.toNatClampNeg) + l)).toInt ∧ (r 5 ((44 * j.toNatClampNeg) + l)).toInt ≤ 6 := fun l9 h9 => hr9 b10 0 l9 (by decide) h9
    have hrgC : ∀ l, l < (r 3 j.toNatClampNeg).toNatClampNeg → 0 ≤ (r 5 ((44 * j.toNatClampNeg + 11) + l)).toInt ∧ (r 5 ((44 * j.toNatClampNeg + 11) + l)).toInt ≤ 6 := fun l9 h9 => hr9 b10 1 l9 (by decide) h9
    refine lv_istore_n (lv' := [(2, .int v20), (0, .ref mo), (1, .int j)]) hx hb dX10_clash_21 rfl hl (by decide) rfl (fun ls hl => ?_)
    refine lv_iconst (v := 0) hx hb dX10_clash_22 (by decide) ?_
    refine lv_istore_n (lv' := [(3, .int (0 : Int32)), (2, .int v20), (0, .ref mo), (1, .int j)]) hx hb dX10_clash_23 rfl hl (by decide) rfl (fun ls hl => ?_)
    refine lv_iconst (v := 0) hx hb dX10_clash_24 (by decide) ?_
    refine lv_istore (lv' := [(4, .int (0 : Int32)), (3, .int (0 : Int32)), (2, .int v20), (0, .ref mo), (1, .int j)]) hx hb dX10_clash_25 hl (by decide) rfl (fun ls hl => ?_)
    refine lv_iconst (v := 0) hx hb dX10_clash_27 (by decide) ?_
    refine lv_istore (lv' := [(5, .int (0 : Int32)), (4, .int (0 : Int32)), (3, .int (0 : Int32)), (2, .int v20), (0, .ref mo), (1, .int j)]) hx hb dX10_clash_28 hl (by decide) rfl (fun ls hl => ?_)
    have loop_30 : ∀ (n : Nat) (k : Nat) (x3 : Int32), (k ≤ 6 ∧ k ≤ (r 4 j.toNatClampNeg).toNatClampNeg) → (x3.toInt = sI (r 5) (44 * j.toNatClampNeg) k) → 6 - k < n → ∀ (H : Heap) (locs : List Loc), va_P D vwCl (WM cy mo a (upd f 0 (0 : Int32)) g r q) H → va_S (AM mo a) s.heap H locs → ∀ (ls : Array Slot), lv_has ls 11 [(5, .int (nI k)), (4, .int (0 : Int32)), (3, .int x3), (2, .int v20), (0, .ref mo), (1, .int j)] → W p l e (headSpec wsX10_clash ({ frames := 1, cells := 0, slots := 0, locals := 21 })).room s m #[Value.ref mo, Value.int j] below meth c H locs 0 0 (MQ below (va_Qi (fun r0 u => ∃ (cl : Nat → Int32), u = ((upd f 0 (0 : Int32)), g, (va_up r 15 cl), q) ∧ ((okJob (f 1) j ∧ clA (r 3 j.toNatClampNeg).toNatClampNeg (r 4 j.toNatClampNeg).toNatClampNeg (r 5) (44 * j.toNatClampNeg) (r 5) (44 * j.toNatClampNeg + 11) r0) ∨ (¬ okJob (f 1) j ∧ r0 = -1))) (mB D cy mo a) (AM mo a)) #[Value.ref mo, Value.int j] s 0 0 (AM mo a)) (F0 m 30 ls []) := by
      intro n
      induction n with
      | zero => intro k x3  j30_0 j30_1 hn; exact absurd hn (Nat.not_lt_zero _)
      | succ n ih_30 =>
        intro k x3  j30_0 j30_1 hn_30 H locs hP hS ls hl
        have ik : (nI k).toInt = (k : Int) := nI_toInt (by omega)
        refine lv_iload hx hb dX10_clash_30 (lv_at hl 0 rfl) ?_
        refine lv_aload_n hx hb dX10_clash_32 rfl (lv_at hl 4 rfl) ?_
        refine m_get (v := .ref (a 4)) hx hb hts hin hown hK hP 4 (by decide) rfl (hts (.fieldLink RX10 16 "ShadowBenchModel" "high" "[I") (by decide +kernel)) rfl dX10_clash_33 ?_
        refine lv_iload_n hx hb dX10_clash_36 rfl (lv_at hl 5 rfl) ?_
        refine m_iald (w := (r 4)) hx hb hK hP 3 rfl (vp_in_iff.mpr ⟨by omega, by omega⟩) dX10_clash_37 ?_
        refine lv_topi (fun v37 e37 => ?_)
        have i37 : v37.toInt = ((r 4) j.toNatClampNeg).toInt := congrArg Int32.toInt e37
        have w37 := mi_h hI (x := j) (by omega) (by omega) e37
        refine lv_icmp_ge (tgt := 62) hx hb dX10_clash_38 (by decide) (fun c38 => ?_) (fun c38 => ?_)
        · skip
          have d38 := c38
          rw [fa_le] at d38
          have S3 : x3.toInt = sI (r 5) (44 * j.toNatClampNeg) (r 4 j.toNatClampNeg).toNatClampNeg := by rw [j30_1, show k = (r 4 j.toNatClampNeg).toNatClampNeg by omega]
          refine lv_iconst (v := 0) hx hb dX10_clash_62 (by decide) ?_
          refine lv_istore (lv' := [(5, .int (0 : Int32)), (4, .int (0 : Int32)), (3, .int x3), (2, .int v20), (0, .ref mo), (1, .int j)]) hx hb dX10_clash_63 hl (by decide) rfl (fun ls hl => ?_)
          have loop_65 : ∀ (n : Nat) (k2 : Nat) (x4 : Int32) (cl2 : Nat → Int32), (k2 ≤ 6 ∧ k2 ≤ (r 3 j.toNatClampNeg).toNatClampNeg) → (x4.toInt = sI (r 5) (44 * j.toNatClampNeg + 11) k2) → (∀ i, i < k2 → cl2 i = r 5 ((44 * j.toNatClampNeg + 11) + i)) → 6 - k2 < n → ∀ (H : Heap) (locs : List Loc), va_P D vwCl (WM cy mo a (upd f 0 (0 : Int32)) g (va_up r 15 cl2) q) H → va_S (AM mo a) s.heap H locs → ∀ (ls : Array Slot), lv_has ls 11 [(5, .int (nI k2)), (4, .int x4), (3, .int x3), (2, .int v20), (0, .ref mo), (1, .int j)] → W p l e (headSpec wsX10_clash ({ frames := 1, cells := 0, slots := 0, locals := 21 })).room s m #[Value.ref mo, Value.int j] below meth c H locs 0 0 (MQ below (va_Qi (fun r0 u => ∃ (cl : Nat → Int32), u = ((upd f 0 (0 : Int32)), g, (va_up r 15 cl), q) ∧ ((okJob (f 1) j ∧ clA (r 3 j.toNatClampNeg).toNatClampNeg (r 4 j.toNatClampNeg).toNatClampNeg (r 5) (44 * j.toNatClampNeg) (r 5) (44 * j.toNatClampNeg + 11) r0) ∨ (¬ okJob (f 1) j ∧ r0 = -1))) (mB D cy mo a) (AM mo a)) #[Value.ref mo, Value.int j] s 0 0 (AM mo a)) (F0 m 65 ls []) := by
            intro n
            induction n with
            | zero => intro k2 x4 cl2 j65_0 j65_1 j65_2 hn; exact absurd hn (Nat.not_lt_zero _)
            | succ n ih_65 =>
              intro k2 x4 cl2 j65_0 j65_1 j65_2 hn_65 H locs hP hS ls hl
              have ik2 : (nI k2).toInt = (k2 : Int) := nI_toInt (by omega)
              refine lv_iload hx hb dX10_clash_65 (lv_at hl 0 rfl) ?_
              refine lv_iload_n hx hb dX10_clash_67 rfl (lv_at hl 3 rfl) ?_
              refine lv_icmp_ge (tgt := 111) hx hb dX10_clash_68 (by decide) (fun c68 => ?_) (fun c68 => ?_)
              · skip
                have d68 := c68
                rw [fa_le] at d68
                have S4 : x4.toInt = sI (r 5) (44 * j.toNatClampNeg + 11) (r 3 j.toNatClampNeg).toNatClampNeg := by rw [j65_1, show k2 = (r 3 j.toNatClampNeg).toNatClampNeg by omega]
                have L4 : ∀ i, i < (r 3 j.toNatClampNeg).toNatClampNeg → cl2 i = r 5 ((44 * j.toNatClampNeg + 11) + i) := fun i9 h9 => j65_2 i9 (by omega)
                refine lv_iload_n hx hb dX10_clash_111 rfl (lv_at hl 2 rfl) ?_
                refine lv_iload hx hb dX10_clash_112 (lv_at hl 1 rfl) ?_
                refine lv_icmp_eq (tgt := 119) hx hb dX10_clash_114 (by decide) (fun c114 => ?_) (fun c114 => ?_)
                · skip
                  have d114 := c114
                  rw [fa_eq] at d114
                  refine lv_iconst (v := 0) hx hb dX10_clash_119 (by decide) ?_
                  refine lv_istore (lv' := [(5, .int (0 : Int32)), (4, .int x4), (3, .int x3), (2, .int v20), (0, .ref mo), (1, .int j)]) hx hb dX10_clash_120 hl (by decide) rfl (fun ls hl => ?_)
                  refine lv_iconst (v := 1) hx hb dX10_clash_122 (by decide) ?_
                  refine lv_istore (lv' := [(6, .int (1 : Int32)), (5, .int (0 : Int32)), (4, .int x4), (3, .int x3), (2, .int v20), (0, .ref mo), (1, .int j)]) hx hb dX10_clash_123 hl (by decide) rfl (fun ls hl => ?_)
                  have loop_125 : ∀ (n : Nat) (k3 : Nat) (x5 : Int32) (cl3 : Nat → Int32), (1 ≤ k3 ∧ k3 ≤ 7) → (x5.toInt = (kS (r 5) (44 * j.toNatClampNeg + 11) (r 3 j.toNatClampNeg).toNatClampNeg (k3 - 1) : Int)) → (clV (r 5) cl3 (44 * j.toNatClampNeg + 11) (r 3 j.toNatClampNeg).toNatClampNeg (k3 - 1)) → (∀ k, 1 ≤ k → k < k3 → ¬ rI (r 5) (44 * j.toNatClampNeg) k (r 4 j.toNatClampNeg).toNatClampNeg < (kS (r 5) (44 * j.toNatClampNeg + 11) (r 3 j.toNatClampNeg).toNatClampNeg k : Int)) → 7 - k3 < n → ∀ (H : Heap) (locs : List Loc), va_P D vwCl (WM cy mo a (upd f 0 (0 : Int32)) g (va_up r 15 cl3) q) H → va_S (AM mo a) s.heap H locs → ∀ (ls : Array Slot), lv_has ls 11 [(6, .int (nI k3)), (5, .int x5), (4, .int x4), (3, .int x3), (2, .int v20), (0, .ref mo), (1, .int j)] → W p l e (headSpec wsX10_clash ({ frames := 1, cells := 0, slots := 0, locals := 21 })).room s m #[Value.ref mo, Value.int j] below meth c H locs 0 0 (MQ below (va_Qi (fun r0 u => ∃ (cl : Nat → Int32), u = ((upd f 0 (0 : Int32)), g, (va_up r 15 cl), q) ∧ ((okJob (f 1) j ∧ clA (r 3 j.toNatClampNeg).toNatClampNeg (r 4 j.toNatClampNeg).toNatClampNeg (r 5) (44 * j.toNatClampNeg) (r 5) (44 * j.toNatClampNeg + 11) r0) ∨ (¬ okJob (f 1) j ∧ r0 = -1))) (mB D cy mo a) (AM mo a)) #[Value.ref mo, Value.int j] s 0 0 (AM mo a)) (F0 m 125 ls []) := by
                    intro n
                    induction n with
                    | zero => intro k3 x5 cl3 j125_0 j125_1 j125_2 j125_3 hn; exact absurd hn (Nat.not_lt_zero _)
                    | succ n ih_125 =>
                      intro k3 x5 cl3 j125_0 j125_1 j125_2 j125_3 hn_125 H locs hP hS ls hl
                      have ik3 : (nI k3).toInt = (k3 : Int) := nI_toInt (by omega)
                      refine lv_iload hx hb dX10_clash_125 (lv_at hl 0 rfl) ?_
                      refine lv_iload_n hx hb dX10_clash_127 rfl (lv_at hl 4 rfl) ?_
                      refine lv_icmp_gt (tgt := 267) hx hb dX10_clash_128 (by decide) (fun c128 => ?_) (fun c128 => ?_)
                      · skip
                        have d128 := c128
                        rw [fa_lt] at d128
                        refine lv_bipush (v := (-2)) hx hb dX10_clash_267 (by decide) ?_
                        exact W.iret (v := ((-2) : Int32)) hx hb hr (fun t ht hW => ⟨⟨_, ((upd f 0 (0 : Int32)), g, (va_up r 15 cl3), q), rfl, ⟨cl3, rfl, (Or.inl ⟨b10, Or.inr ⟨(by rw [← S3, ← S4, c114]), Or.inr ⟨rfl, fun i9 h9 h8 => j125_3 i9 h9 (by omega)⟩⟩⟩)⟩, by unfold mB; rw [ht]; exact hP⟩, hS.F ht⟩) hS.2.2 dX10_clash_269
                      · skip
                        have d128 := c128
                        rw [fa_lt] at d128
                        refine lv_iconst (v := 0) hx hb dX10_clash_131 (by decide) ?_
                        refine lv_istore (lv' := [(7, .int (0 : Int32)), (6, .int (nI k3)), (5, .int x5), (4, .int x4), (3, .int x3), (2, .int v20), (0, .ref mo), (1, .int j)]) hx hb dX10_clash_132 hl (by decide) rfl (fun ls hl => ?_)
                        refine lv_iconst (v := 0) hx hb dX10_clash_134 (by decide) ?_
                        refine lv_istore (lv' := [(8, .int (0 : Int32)), (7, .int (0 : Int32)), (6, .int (nI k3)), (5, .int x5), (4, .int x4), (3, .int x3), (2, .int v20), (0, .ref mo), (1, .int j)]) hx hb dX10_clash_135 hl (by decide) rfl (fun ls hl => ?_)
                        have loop_137 : ∀ (n : Nat) (i : Nat) (x7 : Int32), (i ≤ 6 ∧ i ≤ (r 3 j.toNatClampNeg).toNatClampNeg) → (0 ≤ x7.toInt ∧ x7.toInt < ((r 3 j.toNatClampNeg).toNatClampNeg : Int)) → (∀ m, m < i → (cl3 m).toInt ≤ (cl3 x7.toNatClampNeg).toInt) → 6 - i < n → ∀ (H : Heap) (locs : List Loc), va_P D vwCl (WM cy mo a (upd f 0 (0 : Int32)) g (va_up r 15 cl3) q) H → va_S (AM mo a) s.heap H locs → ∀ (ls : Array Slot), lv_has ls 11 [(8, .int (nI i)), (7, .int x7), (6, .int (nI k3)), (5, .int x5), (4, .int x4), (3, .int x3), (2, .int v20), (0, .ref mo), (1, .int j)] → W p l e (headSpec wsX10_clash ({ frames := 1, cells := 0, slots := 0, locals := 21 })).room s m #[Value.ref mo, Value.int j] below meth c H locs 0 0 (MQ below (va_Qi (fun r0 u => ∃ (cl : Nat → Int32), u = ((upd f 0 (0 : Int32)), g, (va_up r 15 cl), q) ∧ ((okJob (f 1) j ∧ clA (r 3 j.toNatClampNeg).toNatClampNeg (r 4 j.toNatClampNeg).toNatClampNeg (r 5) (44 * j.toNatClampNeg) (r 5) (44 * j.toNatClampNeg + 11) r0) ∨ (¬ okJob (f 1) j ∧ r0 = -1))) (mB D cy mo a) (AM mo a)) #[Value.ref mo, Value.int j] s 0 0 (AM mo a)) (F0 m 137 ls []) := by
                          intro n
                          induction n with
                          | zero => intro i x7  j137_0 j137_1 j137_2 hn; exact absurd hn (Nat.not_lt_zero _)
                          | succ n ih_137 =>
                            intro i x7  j137_0 j137_1 j137_2 hn_137 H locs hP hS ls hl
                            have ii : (nI i).toInt = (i : Int) := nI_toInt (by omega)
                            refine lv_iload hx hb dX10_clash_137 (lv_at hl 0 rfl) ?_
                            refine lv_iload_n hx hb dX10_clash_139 rfl (lv_at hl 6 rfl) ?_
                            refine lv_icmp_ge (tgt := 175) hx hb dX10_clash_140 (by decide) (fun c140 => ?_) (fun c140 => ?_)
                            · skip
                              have d140 := c140
                              rw [fa_le] at d140
                              refine lv_iload hx hb dX10_clash_175 (lv_at hl 3 rfl) ?_
                              refine lv_aload_n hx hb dX10_clash_177 rfl (lv_at hl 7 rfl) ?_
                              refine m_get (v := .ref (a 15)) hx hb hts hin hown hK hP 15 (by decide) rfl (hts (.fieldLink RX10 38 "ShadowBenchModel" "columns" "[I") (by decide +kernel)) rfl dX10_clash_178 ?_
                              refine lv_iload hx hb dX10_clash_181 (lv_at hl 1 rfl) ?_
                              refine m_iald (w := cl3) hx hb hK hP 10 rfl (vp_in_iff.mpr ⟨by omega, by omega⟩) dX10_clash_183 ?_
                              refine lv_topi (fun v183 e183 => ?_)
                              have i183 : v183.toInt = (cl3 x7.toNatClampNeg).toInt := congrArg Int32.toInt e183
                              have cx9 := m_cl (x := x7) (by omega)
                              have kb9 := kS_b (r 5) (44 * j.toNatClampNeg + 11) (r 3 j.toNatClampNeg).toNatClampNeg (k3 - 1)
                              have rg9 := j125_2.1 x7.toNatClampNeg (by omega)
                              have mx9 : ∀ i9, i9 < (r 3 j.toNatClampNeg).toNatClampNeg → (cl3 i9).toInt ≤ (cl3 x7.toNatClampNeg).toInt := fun i9 h9 => j137_2 i9 (by omega)
                              refine lv_iadd hx hb dX10_clash_184 ?_
                              refine lv_topi (fun v184 e184 => ?_)
                              have i184 : v184.toInt = x5.toInt + v183.toInt := by rw [e184]; exact fb_addI (by omega) (by omega)
                              have kn9 := j125_2.sum (by omega) (fun i9 h9 => (hrgC i9 h9).1) (x := x7.toNatClampNeg) (by omega) mx9
                              have f184 : v184.toInt = (kS (r 5) (44 * j.toNatClampNeg + 11) (r 3 j.toNatClampNeg).toNatClampNeg k3 : Int) := by rw [i184, j125_1, i183, ← kn9, show k3 - 1 + 1 = k3 by omega]
                              refine lv_istore (lv' := [(5, .int v184), (8, .int (nI i)), (7, .int x7), (6, .int (nI k3)), (4, .int x4), (3, .int x3), (2, .int v20), (0, .ref mo), (1, .int j)]) hx hb dX10_clash_185 hl (by decide) rfl (fun ls hl => ?_)
                              refine lv_aload_n hx hb dX10_clash_187 rfl (lv_at hl 7 rfl) ?_
                              refine m_get (v := .ref (a 15)) hx hb hts hin hown hK hP 15 (by decide) rfl (hts (.fieldLink RX10 38 "ShadowBenchModel" "columns" "[I") (by decide +kernel)) rfl dX10_clash_188 ?_
                              refine lv_iload hx hb dX10_clash_191 (lv_at hl 2 rfl) ?_
                              refine lv_iconst (v := (-1)) hx hb dX10_clash_193 (by decide) ?_
                              refine m_iast (w := cl3) hx hb hK hP hD hS 10 rfl (vp_in_iff.mpr ⟨by omega, by omega⟩) (va_up (va_up r 15 cl3) 15 (upd cl3 x7.toNatClampNeg (((-1) : Int32)))) (ms_15 cy mo a _ _ _ _ _) dX10_clash_194 (fun H locs hP hS => ?_)
                              have hP := wm_eq rfl rfl (es_r_15__15 r cl3 (upd cl3 x7.toNatClampNeg (((-1) : Int32)))) rfl hP
                              refine lv_iconst (v := 0) hx hb dX10_clash_195 (by decide) ?_
                              refine lv_istore (lv' := [(8, .int (0 : Int32)), (5, .int v184), (7, .int x7), (6, .int (nI k3)), (4, .int x4), (3, .int x3), (2, .int v20), (0, .ref mo), (1, .int j)]) hx hb dX10_clash_196 hl (by decide) rfl (fun ls hl => ?_)
                              refine lv_iconst (v := 0) hx hb dX10_clash_198 (by decide) ?_
                              refine lv_istore (lv' := [(9, .int (0 : Int32)), (8, .int (0 : Int32)), (5, .int v184), (7, .int x7), (6, .int (nI k3)), (4, .int x4), (3, .int x3), (2, .int v20), (0, .ref mo), (1, .int j)]) hx hb dX10_clash_199 hl (by decide) rfl (fun ls hl => ?_)
                              have loop_201 : ∀ (n : Nat) (y : Nat) (x8 : Int32), (y ≤ 6 ∧ y ≤ (r 4 j.toNatClampNeg).toNatClampNeg) → (x8.toInt = rI (r 5) (44 * j.toNatClampNeg) k3 y) → 6 - y < n → ∀ (H : Heap) (locs : List Loc), va_P D vwCl (WM cy mo a (upd f 0 (0 : Int32)) g (va_up r 15 ((upd cl3 x7.toNatClampNeg (((-1) : Int32))))) q) H → va_S (AM mo a) s.heap H locs → ∀ (ls : Array Slot), lv_has ls 11 [(9, .int (nI y)), (8, .int x8), (5, .int v184), (7, .int x7), (6, .int (nI k3)), (4, .int x4), (3, .int x3), (2, .int v20), (0, .ref mo), (1, .int j)] → W p l e (headSpec wsX10_clash ({ frames := 1, cells := 0, slots := 0, locals := 21 })).room s m #[Value.ref mo, Value.int j] below meth c H locs 0 0 (MQ below (va_Qi (fun r0 u => ∃ (cl : Nat → Int32), u = ((upd f 0 (0 : Int32)), g, (va_up r 15 cl), q) ∧ ((okJob (f 1) j ∧ clA (r 3 j.toNatClampNeg).toNatClampNeg (r 4 j.toNatClampNeg).toNatClampNeg (r 5) (44 * j.toNatClampNeg) (r 5) (44 * j.toNatClampNeg + 11) r0) ∨ (¬ okJob (f 1) j ∧ r0 = -1))) (mB D cy mo a) (AM mo a)) #[Value.ref mo, Value.int j] s 0 0 (AM mo a)) (F0 m 201 ls []) := by
                                intro n
                                induction n with
                                | zero => intro y x8  j201_0 j201_1 hn; exact absurd hn (Nat.not_lt_zero _)
                                | succ n ih_201 =>
                                  intro y x8  j201_0 j201_1 hn_201 H locs hP hS ls hl
                                  have iy : (nI y).toInt = (y : Int) := nI_toInt (by omega)
                                  refine lv_iload hx hb dX10_clash_201 (lv_at hl 0 rfl) ?_
                                  refine lv_aload_n hx hb dX10_clash_203 rfl (lv_at hl 8 rfl) ?_
                                  refine m_get (v := .ref (a 4)) hx hb hts hin hown hK hP 4 (by decide) rfl (hts (.fieldLink RX10 16 "ShadowBenchModel" "high" "[I") (by decide +kernel)) rfl dX10_clash_204 ?_
                                  refine lv_iload_n hx hb dX10_clash_207 rfl (lv_at hl 9 rfl) ?_
                                  refine m_iald (w := (r 4)) hx hb hK hP 3 rfl (vp_in_iff.mpr ⟨by omega, by omega⟩) dX10_clash_208 ?_
                                  refine lv_topi (fun v208 e208 => ?_)
                                  have i208 : v208.toInt = ((r 4) j.toNatClampNeg).toInt := congrArg Int32.toInt e208
                                  have w208 := mi_h hI (x := j) (by omega) (by omega) e208
                                  refine lv_icmp_ge (tgt := 251) hx hb dX10_clash_209 (by decide) (fun c209 => ?_) (fun c209 => ?_)
                                  · skip
                                    have d209 := c209
                                    rw [fa_le] at d209
                                    have f8 : x8.toInt = rI (r 5) (44 * j.toNatClampNeg) k3 (r 4 j.toNatClampNeg).toNatClampNeg := by rw [j201_1, show y = (r 4 j.toNatClampNeg).toNatClampNeg by omega]
                                    refine lv_iload hx hb dX10_clash_251 (lv_at hl 2 rfl) ?_
                                    refine lv_iload hx hb dX10_clash_253 (lv_at hl 1 rfl) ?_
                                    refine lv_icmp_le (tgt := 261) hx hb dX10_clash_255 (by decide) (fun c255 => ?_) (fun c255 => ?_)
                                    · skip
                                      have d255 := c255
                                      rw [fa_le] at d255
                                      refine lv_iinc (v := (nI (k3 + 1))) (lv' := [(6, .int (nI (k3 + 1))), (9, .int (nI y)), (8, .int x8), (5, .int v184), (7, .int x7), (4, .int x4), (3, .int x3), (2, .int v20), (0, .ref mo), (1, .int j)]) hx hb dX10_clash_261 hl (k := 4) rfl (nI_1 _) (by decide) rfl (fun ls hl => ?_)
                                      refine lv_goto (tgt := 125) hx hb dX10_clash_264 (by decide) ?_
                                      have hP := wm_eq rfl rfl (ec_r_15__15 r ((upd cl3 x7.toNatClampNeg (((-1) : Int32))))) rfl hP
                                      exact ih_125 (k3 + 1) v184 (((upd cl3 x7.toNatClampNeg (((-1) : Int32))))) (by omega) (f184) (by have z9 := j125_2.next (by omega) (fun i9 h9 => (hrgC i9 h9).1) (x := x7.toNatClampNeg) (by omega) mx9; rw [show k3 - 1 + 1 = k3 by omega] at z9; exact z9) (fun k h1 h2 => by
                                                                                          by_cases e9 : k = k3
                                                                                          · rw [e9, ← f184, ← f8]; omega
                                                                                          · exact j125_3 k h1 (by omega)) (by omega) _ _ hP hS ls (lv_sub hl [0, 3, 5, 6, 7, 8, 9] rfl)
                                    · skip
                                      have d255 := c255
                                      rw [fa_le] at d255
                                      refine lv_iload hx hb dX10_clash_258 (lv_at hl 4 rfl) ?_
                                      have hP := wm_eq rfl rfl (ec_r_15__15 r ((upd cl3 x7.toNatClampNeg (((-1) : Int32))))) rfl hP
                                      exact W.iret (v := (nI k3)) hx hb hr (fun t ht hW => ⟨⟨_, ((upd f 0 (0 : Int32)), g, (va_up r 15 (((upd cl3 x7.toNatClampNeg (((-1) : Int32)))))), q), rfl, ⟨((upd cl3 x7.toNatClampNeg (((-1) : Int32)))), rfl, (Or.inl ⟨b10, Or.inr ⟨(by rw [← S3, ← S4, c114]), Or.inl ⟨k3, by omega, by omega, by omega, rfl, j125_3⟩⟩⟩)⟩, by unfold mB; rw [ht]; exact hP⟩, hS.F ht⟩) hS.2.2 dX10_clash_260
                                  · skip
                                    have d209 := c209
                                    rw [fa_le] at d209
                                    refine lv_aload_n hx hb dX10_clash_212 rfl (lv_at hl 8 rfl) ?_
                                    refine m_get (v := .ref (a 5)) hx hb hts hin hown hK hP 5 (by decide) rfl (hts (.fieldLink RX10 19 "ShadowBenchModel" "sums" "[I") (by decide +kernel)) rfl dX10_clash_213 ?_
                                    refine lv_bipush (v := 44) hx hb dX10_clash_216 (by decide) ?_
                                    refine lv_iload_n hx hb dX10_clash_218 rfl (lv_at hl 9 rfl) ?_
                                    refine lv_imul hx hb dX10_clash_219 ?_
                                    refine lv_topi (fun v219 e219 => ?_)
                                    have i219 : v219.toInt = 44 * j.toInt := by rw [e219]; exact mulcL rfl (by omega) (by omega)
                                    refine lv_iload hx hb dX10_clash_220 (lv_at hl 0 rfl) ?_
                                    refine lv_iadd hx hb dX10_clash_222 ?_
                                    refine lv_topi (fun v222 e222 => ?_)
                                    have i222 : v222.toInt = v219.toInt + (nI y).toInt := by rw [e222]; exact fb_addI (by omega) (by omega)
                                    refine m_iald (w := (r 5)) hx hb hK hP 4 rfl (vp_in_iff.mpr ⟨by omega, by omega⟩) dX10_clash_223 ?_
                                    refine lv_topi (fun v223 e223 => ?_)
                                    have i223 : v223.toInt = ((r 5) v222.toNatClampNeg).toInt := congrArg Int32.toInt e223
                                    have cv7 := m_cl (x := v222) (by omega)
                                    have f223 : v223 = r 5 ((44 * j.toNatClampNeg) + y) := by rw [e223, show v222.toNatClampNeg = (44 * j.toNatClampNeg) + y by omega]
                                    have s9 := rI_b (f := r 5) (b := (44 * j.toNatClampNeg)) (k := k3) (by omega) y (fun i9 h9 => hrgR i9 (by omega))
                                    have g9 := hrgR y (by omega)
                                    rw [← f223] at g9
                                    refine lv_istore (lv' := [(10, .int v223), (9, .int (nI y)), (8, .int x8), (5, .int v184), (7, .int x7), (6, .int (nI k3)), (4, .int x4), (3, .int x3), (2, .int v20), (0, .ref mo), (1, .int j)]) hx hb dX10_clash_224 hl (by decide) rfl (fun ls hl => ?_)
                                    refine lv_iload hx hb dX10_clash_226 (lv_at hl 2 rfl) ?_
                                    refine lv_iload hx hb dX10_clash_228 (lv_at hl 0 rfl) ?_
                                    refine lv_iload hx hb dX10_clash_230 (lv_at hl 5 rfl) ?_
                                    refine lv_icmp_ge (tgt := 240) hx hb dX10_clash_232 (by decide) (fun c232 => ?_) (fun c232 => ?_)
                                    · skip
                                      have d232 := c232
                                      rw [fa_le] at d232
                                      refine lv_iload hx hb dX10_clash_240 (lv_at hl 5 rfl) ?_
                                      refine lv_iadd hx hb dX10_clash_242 ?_
                                      refine lv_topi (fun v242 e242 => ?_)
                                      have i242 : v242.toInt = x8.toInt + (nI k3).toInt := by rw [e242]; exact fb_addI (by omega) (by omega)
                                      refine lv_istore (lv' := [(8, .int v242), (10, .int v223), (9, .int (nI y)), (5, .int v184), (7, .int x7), (6, .int (nI k3)), (4, .int x4), (3, .int x3), (2, .int v20), (0, .ref mo), (1, .int j)]) hx hb dX10_clash_243 hl (by decide) rfl (fun ls hl => ?_)
                                      refine lv_iinc (v := (nI (y + 1))) (lv' := [(9, .int (nI (y + 1))), (8, .int v242), (10, .int v223), (5, .int v184), (7, .int x7), (6, .int (nI k3)), (4, .int x4), (3, .int x3), (2, .int v20), (0, .ref mo), (1, .int j)]) hx hb dX10_clash_245 hl (k := 2) rfl (nI_1 _) (by decide) rfl (fun ls hl => ?_)
                                      refine lv_goto (tgt := 201) hx hb dX10_clash_248 (by decide) ?_
                                      have hP := wm_eq rfl rfl (ec_r_15__15 r ((upd cl3 x7.toNatClampNeg (((-1) : Int32))))) rfl hP
                                      exact ih_201 (y + 1) v242 (by omega) (by rw [i242, j201_1]; first | exact rI_p f223 (by omega) | (rw [ik3]; exact rI_q f223 (by omega))) (by omega) _ _ hP hS ls (lv_sub hl [0, 1, 3, 4, 5, 6, 7, 8, 9, 10] rfl)
                                    · skip
                                      have d232 := c232
                                      rw [fa_le] at d232
                                      refine lv_iload hx hb dX10_clash_235 (lv_at hl 0 rfl) ?_
                                      refine lv_goto (tgt := 242) hx hb dX10_clash_237 (by decide) ?_
                                      refine lv_iadd hx hb dX10_clash_242 ?_
                                      refine lv_topi (fun v242 e242 => ?_)
                                      have i242 : v242.toInt = x8.toInt + v223.toInt := by rw [e242]; exact fb_addI (by omega) (by omega)
                                      refine lv_istore (lv' := [(8, .int v242), (10, .int v223), (9, .int (nI y)), (5, .int v184), (7, .int x7), (6, .int (nI k3)), (4, .int x4), (3, .int x3), (2, .int v20), (0, .ref mo), (1, .int j)]) hx hb dX10_clash_243 hl (by decide) rfl (fun ls hl => ?_)
                                      refine lv_iinc (v := (nI (y + 1))) (lv' := [(9, .int (nI (y + 1))), (8, .int v242), (10, .int v223), (5, .int v184), (7, .int x7), (6, .int (nI k3)), (4, .int x4), (3, .int x3), (2, .int v20), (0, .ref mo), (1, .int j)]) hx hb dX10_clash_245 hl (k := 2) rfl (nI_1 _) (by decide) rfl (fun ls hl => ?_)
                                      refine lv_goto (tgt := 201) hx hb dX10_clash_248 (by decide) ?_
                                      have hP := wm_eq rfl rfl (ec_r_15__15 r ((upd cl3 x7.toNatClampNeg (((-1) : Int32))))) rfl hP
                                      exact ih_201 (y + 1) v242 (by omega) (by rw [i242, j201_1]; first | exact rI_p f223 (by omega) | (rw [ik3]; exact rI_q f223 (by omega))) (by omega) _ _ hP hS ls (lv_sub hl [0, 1, 3, 4, 5, 6, 7, 8, 9, 10] rfl)
                              have hP := wm_eq rfl rfl (ec_r_15__15 r ((upd cl3 x7.toNatClampNeg (((-1) : Int32))))) rfl hP
                              exact loop_201 (6 + 1) 0 (0 : Int32) (by omega) (rfl) (by omega) _ _ hP hS ls (lv_sub hl [0, 1, 2, 3, 4, 5, 6, 7, 8, 9] rfl)
                            · skip
                              have d140 := c140
                              rw [fa_le] at d140
                              refine lv_aload_n hx hb dX10_clash_143 rfl (lv_at hl 7 rfl) ?_
                              refine m_get (v := .ref (a 15)) hx hb hts hin hown hK hP 15 (by decide) rfl (hts (.fieldLink RX10 38 "ShadowBenchModel" "columns" "[I") (by decide +kernel)) rfl dX10_clash_144 ?_
                              refine lv_iload hx hb dX10_clash_147 (lv_at hl 0 rfl) ?_
                              refine m_iald (w := cl3) hx hb hK hP 10 rfl (vp_in_iff.mpr ⟨by omega, by omega⟩) dX10_clash_149 ?_
                              refine lv_topi (fun v149 e149 => ?_)
                              have i149 : v149.toInt = (cl3 (nI i).toNatClampNeg).toInt := congrArg Int32.toInt e149
                              refine lv_aload_n hx hb dX10_clash_150 rfl (lv_at hl 7 rfl) ?_
                              refine m_get (v := .ref (a 15)) hx hb hts hin hown hK hP 15 (by decide) rfl (hts (.fieldLink RX10 38 "ShadowBenchModel" "columns" "[I") (by decide +kernel)) rfl dX10_clash_151 ?_
                              refine lv_iload hx hb dX10_clash_154 (lv_at hl 1 rfl) ?_
                              refine m_iald (w := cl3) hx hb hK hP 10 rfl (vp_in_iff.mpr ⟨by omega, by omega⟩) dX10_clash_156 ?_
                              refine lv_topi (fun v156 e156 => ?_)
                              have i156 : v156.toInt = (cl3 x7.toNatClampNeg).toInt := congrArg Int32.toInt e156
                              have ci9 : (nI i).toNatClampNeg = i := nI_clamp (by omega)
                              rw [ci9] at i149
                              refine lv_icmp_le (tgt := 165) hx hb dX10_clash_157 (by decide) (fun c157 => ?_) (fun c157 => ?_)
                              · skip
                                have d157 := c157
                                rw [fa_le] at d157
                                refine lv_iload hx hb dX10_clash_165 (lv_at hl 1 rfl) ?_
                                refine lv_istore (lv' := [(7, .int x7), (8, .int (nI i)), (6, .int (nI k3)), (5, .int x5), (4, .int x4), (3, .int x3), (2, .int v20), (0, .ref mo), (1, .int j)]) hx hb dX10_clash_167 hl (by decide) rfl (fun ls hl => ?_)
                                refine lv_iinc (v := (nI (i + 1))) (lv' := [(8, .int (nI (i + 1))), (7, .int x7), (6, .int (nI k3)), (5, .int x5), (4, .int x4), (3, .int x3), (2, .int v20), (0, .ref mo), (1, .int j)]) hx hb dX10_clash_169 hl (k := 1) rfl (nI_1 _) (by decide) rfl (fun ls hl => ?_)
                                refine lv_goto (tgt := 137) hx hb dX10_clash_172 (by decide) ?_
                                exact ih_137 (i + 1) x7 (by omega) (by omega) (by first | exact am_a j137_2 (by omega) | (rw [ci9]; exact am_b j137_2 (by omega))) (by omega) _ _ hP hS ls (lv_sub hl [0, 1, 2, 3, 4, 5, 6, 7, 8] rfl)
                              · skip
                                have d157 := c157
                                rw [fa_le] at d157
                                refine lv_iload hx hb dX10_clash_160 (lv_at hl 0 rfl) ?_
                                refine lv_goto (tgt := 167) hx hb dX10_clash_162 (by decide) ?_
                                refine lv_istore (lv' := [(7, .int (nI i)), (8, .int (nI i)), (6, .int (nI k3)), (5, .int x5), (4, .int x4), (3, .int x3), (2, .int v20), (0, .ref mo), (1, .int j)]) hx hb dX10_clash_167 hl (by decide) rfl (fun ls hl => ?_)
                                refine lv_iinc (v := (nI (i + 1))) (lv' := [(8, .int (nI (i + 1))), (7, .int (nI i)), (6, .int (nI k3)), (5, .int x5), (4, .int x4), (3, .int x3), (2, .int v20), (0, .ref mo), (1, .int j)]) hx hb dX10_clash_169 hl (k := 1) rfl (nI_1 _) (by decide) rfl (fun ls hl => ?_)
                                refine lv_goto (tgt := 137) hx hb dX10_clash_172 (by decide) ?_
                                exact ih_137 (i + 1) (nI i) (by omega) (by omega) (by first | exact am_a j137_2 (by omega) | (rw [ci9]; exact am_b j137_2 (by omega))) (by omega) _ _ hP hS ls (lv_sub hl [0, 1, 2, 3, 4, 5, 6, 7, 8] rfl)
                        exact loop_137 (6 + 1) 0 (0 : Int32) (by omega) (by omega) (fun m h => absurd h (Nat.not_lt_zero _)) (by omega) _ _ hP hS ls (lv_sub hl [0, 1, 2, 3, 4, 5, 6, 7, 8] rfl)
                  exact loop_125 (7 + 1) 1 (0 : Int32) cl2 (by omega) (by rw [show (1 : Nat) - 1 = 0 from rfl, kS_0]; rfl) (clV_0 L4 hrgC) (fun k h1 h2 => by omega) (by omega) _ _ hP hS ls (lv_sub hl [0, 1, 2, 3, 4, 5, 6] rfl)
                · skip
                  have d114 := c114
                  rw [fa_eq] at d114
                  refine lv_iconst (v := 0) hx hb dX10_clash_117 (by decide) ?_
                  exact W.iret (v := (0 : Int32)) hx hb hr (fun t ht hW => ⟨⟨_, ((upd f 0 (0 : Int32)), g, (va_up r 15 cl2), q), rfl, ⟨cl2, rfl, (Or.inl ⟨b10, Or.inl ⟨(fun z9 => c114 (Int32.toInt_inj.mp (by rw [S3, S4, z9]))), rfl⟩⟩)⟩, by unfold mB; rw [ht]; exact hP⟩, hS.F ht⟩) hS.2.2 dX10_clash_118
              · skip
                have d68 := c68
                rw [fa_le] at d68
                refine lv_aload_n hx hb dX10_clash_71 rfl (lv_at hl 4 rfl) ?_
                refine m_get (v := .ref (a 15)) hx hb hts hin hown hK hP 15 (by decide) rfl (hts (.fieldLink RX10 38 "ShadowBenchModel" "columns" "[I") (by decide +kernel)) rfl dX10_clash_72 ?_
                refine lv_iload hx hb dX10_clash_75 (lv_at hl 0 rfl) ?_
                refine lv_aload_n hx hb dX10_clash_77 rfl (lv_at hl 4 rfl) ?_
                refine m_get (v := .ref (a 5)) hx hb hts hin hown hK hP 5 (by decide) rfl (hts (.fieldLink RX10 19 "ShadowBenchModel" "sums" "[I") (by decide +kernel)) rfl dX10_clash_78 ?_
                refine lv_bipush (v := 44) hx hb dX10_clash_81 (by decide) ?_
                refine lv_iload_n hx hb dX10_clash_83 rfl (lv_at hl 5 rfl) ?_
                refine lv_imul hx hb dX10_clash_84 ?_
                refine lv_topi (fun v84 e84 => ?_)
                have i84 : v84.toInt = 44 * j.toInt := by rw [e84]; exact mulcL rfl (by omega) (by omega)
                refine lv_bipush (v := 11) hx hb dX10_clash_85 (by decide) ?_
                refine lv_iadd hx hb dX10_clash_87 ?_
                refine lv_topi (fun v87 e87 => ?_)
                have i87 : v87.toInt = v84.toInt + (11 : Int32).toInt := by rw [e87]; exact fb_addI (by omega) (by omega)
                refine lv_iload hx hb dX10_clash_88 (lv_at hl 0 rfl) ?_
                refine lv_iadd hx hb dX10_clash_90 ?_
                refine lv_topi (fun v90 e90 => ?_)
                have i90 : v90.toInt = v87.toInt + (nI k2).toInt := by rw [e90]; exact fb_addI (by omega) (by omega)
                refine m_iald (w := (r 5)) hx hb hK hP 4 rfl (vp_in_iff.mpr ⟨by omega, by omega⟩) dX10_clash_91 ?_
                refine lv_topi (fun v91 e91 => ?_)
                have i91 : v91.toInt = ((r 5) v90.toNatClampNeg).toInt := congrArg Int32.toInt e91
                have cv6 := m_cl (x := v90) (by omega)
                have ck2 : (nI k2).toNatClampNeg = k2 := nI_clamp (by omega)
                have f91 : v91 = r 5 ((44 * j.toNatClampNeg + 11) + k2) := by rw [e91, show v90.toNatClampNeg = (44 * j.toNatClampNeg + 11) + k2 by omega]
                have s9 := sI_b (f := r 5) (b := (44 * j.toNatClampNeg + 11)) k2 (fun i9 h9 => hrgC i9 (by omega))
                have g9 := hrgC k2 (by omega)
                rw [← f91] at g9
                refine m_iast (w := cl2) hx hb hK hP hD hS 10 rfl (vp_in_iff.mpr ⟨by omega, by omega⟩) (va_up (va_up r 15 cl2) 15 (upd cl2 (nI k2).toNatClampNeg v91)) (ms_15 cy mo a _ _ _ _ _) dX10_clash_92 (fun H locs hP hS => ?_)
                have hP := wm_eq rfl rfl (es_r_15__15 r cl2 (upd cl2 (nI k2).toNatClampNeg v91)) rfl hP
                refine lv_iload hx hb dX10_clash_93 (lv_at hl 1 rfl) ?_
                refine lv_aload_n hx hb dX10_clash_95 rfl (lv_at hl 4 rfl) ?_
                refine m_get (v := .ref (a 15)) hx hb hts hin hown hK hP 15 (by decide) rfl (hts (.fieldLink RX10 38 "ShadowBenchModel" "columns" "[I") (by decide +kernel)) rfl dX10_clash_96 ?_
                refine lv_iload hx hb dX10_clash_99 (lv_at hl 0 rfl) ?_
                refine m_iald (w := ((upd cl2 (nI k2).toNatClampNeg v91))) hx hb hK hP 10 rfl (vp_in_iff.mpr ⟨by omega, by omega⟩) dX10_clash_101 ?_
                refine lv_topi (fun v101 e101 => ?_)
                have i101 : v101.toInt = (((upd cl2 (nI k2).toNatClampNeg v91)) (nI k2).toNatClampNeg).toInt := congrArg Int32.toInt e101
                have f101 : v101 = v91 := by rw [e101]; exact upd_k _ _ _
                rw [← f101] at g9
                refine lv_iadd hx hb dX10_clash_102 ?_
                refine lv_topi (fun v102 e102 => ?_)
                have i102 : v102.toInt = x4.toInt + v101.toInt := by rw [e102]; exact fb_addI (by omega) (by omega)
                refine lv_istore (lv' := [(4, .int v102), (5, .int (nI k2)), (3, .int x3), (2, .int v20), (0, .ref mo), (1, .int j)]) hx hb dX10_clash_103 hl (by decide) rfl (fun ls hl => ?_)
                refine lv_iinc (v := (nI (k2 + 1))) (lv' := [(5, .int (nI (k2 + 1))), (4, .int v102), (3, .int x3), (2, .int v20), (0, .ref mo), (1, .int j)]) hx hb dX10_clash_105 hl (k := 1) rfl (nI_1 _) (by decide) rfl (fun ls hl => ?_)
                refine lv_goto (tgt := 65) hx hb dX10_clash_108 (by decide) ?_
                have hP := wm_eq rfl rfl (ec_r_15__15 r ((upd cl2 (nI k2).toNatClampNeg v91))) rfl hP
                exact ih_65 (k2 + 1) v102 (((upd cl2 (nI k2).toNatClampNeg v91))) (by omega) (by rw [i102, j65_1, f101, f91]; rfl) (by rw [ck2]; exact up_c j65_2 f91) (by omega) _ _ hP hS ls (lv_sub hl [0, 1, 2, 3, 4, 5] rfl)
          have hP := wm_eq rfl rfl (ec_r___15 r ) rfl hP
          exact loop_65 (6 + 1) 0 (0 : Int32) (r 15) (by omega) (rfl) (fun i h => absurd h (Nat.not_lt_zero _)) (by omega) _ _ hP hS ls (lv_sub hl [0, 1, 2, 3, 4, 5] rfl)
        · skip
          have d38 := c38
          rw [fa_le] at d38
          refine lv_iload_n hx hb dX10_clash_41 rfl (lv_at hl 2 rfl) ?_
          refine lv_aload_n hx hb dX10_clash_42 rfl (lv_at hl 4 rfl) ?_
          refine m_get (v := .ref (a 5)) hx hb hts hin hown hK hP 5 (by decide) rfl (hts (.fieldLink RX10 19 "ShadowBenchModel" "sums" "[I") (by decide +kernel)) rfl dX10_clash_43 ?_
          refine lv_bipush (v := 44) hx hb dX10_clash_46 (by decide) ?_
          refine lv_iload_n hx hb dX10_clash_48 rfl (lv_at hl 5 rfl) ?_
          refine lv_imul hx hb dX10_clash_49 ?_
          refine lv_topi (fun v49 e49 => ?_)
          have i49 : v49.toInt = 44 * j.toInt := by rw [e49]; exact mulcL rfl (by omega) (by omega)
          refine lv_iload hx hb dX10_clash_50 (lv_at hl 0 rfl) ?_
          refine lv_iadd hx hb dX10_clash_52 ?_
          refine lv_topi (fun v52 e52 => ?_)
          have i52 : v52.toInt = v49.toInt + (nI k).toInt := by rw [e52]; exact fb_addI (by omega) (by omega)
          refine m_iald (w := (r 5)) hx hb hK hP 4 rfl (vp_in_iff.mpr ⟨by omega, by omega⟩) dX10_clash_53 ?_
          refine lv_topi (fun v53 e53 => ?_)
          have i53 : v53.toInt = ((r 5) v52.toNatClampNeg).toInt := congrArg Int32.toInt e53
          have cv5 := m_cl (x := v52) (by omega)
          have f53 : v53 = r 5 ((44 * j.toNatClampNeg) + k) := by rw [e53, show v52.toNatClampNeg = (44 * j.toNatClampNeg) + k by omega]
          have s9 := sI_b (f := r 5) (b := (44 * j.toNatClampNeg)) k (fun i9 h9 => hrgR i9 (by omega))
          have g9 := hrgR k (by omega)
          rw [← f53] at g9
          refine lv_iadd hx hb dX10_clash_54 ?_
          refine lv_topi (fun v54 e54 => ?_)
          have i54 : v54.toInt = x3.toInt + v53.toInt := by rw [e54]; exact fb_addI (by omega) (by omega)
          refine lv_istore_n (lv' := [(3, .int v54), (5, .int (nI k)), (4, .int (0 : Int32)), (2, .int v20), (0, .ref mo), (1, .int j)]) hx hb dX10_clash_55 rfl hl (by decide) rfl (fun ls hl => ?_)
          refine lv_iinc (v := (nI (k + 1))) (lv' := [(5, .int (nI (k + 1))), (3, .int v54), (4, .int (0 : Int32)), (2, .int v20), (0, .ref mo), (1, .int j)]) hx hb dX10_clash_56 hl (k := 1) rfl (nI_1 _) (by decide) rfl (fun ls hl => ?_)
          refine lv_goto (tgt := 30) hx hb dX10_clash_59 (by decide) ?_
          exact ih_30 (k + 1) v54 (by omega) (by rw [i54, j30_1, f53]; rfl) (by omega) _ _ hP hS ls (lv_sub hl [0, 2, 1, 3, 4, 5] rfl)
    exact loop_30 (6 + 1) 0 (0 : Int32) (by omega) (rfl) (by omega) _ _ hP hS ls (lv_sub hl [0, 1, 2, 3, 4, 5] rfl)
  · skip
    have b10 := bo_f q7 c10
    refine lv_iconst (v := (-1)) hx hb dX10_clash_13 (by decide) ?_
    have hP := wm_eq rfl rfl (ec_r___15 r ) rfl hP
    exact W.iret (v := ((-1) : Int32)) hx hb hr (fun t ht hW => ⟨⟨_, ((upd f 0 (0 : Int32)), g, (va_up r 15 (r 15)), q), rfl, ⟨(r 15), rfl, (Or.inr ⟨b10, rfl⟩)⟩, by unfold mB; rw [ht]; exact hP⟩, hS.F ht⟩) hS.2.2 dX10_clash_14

theorem RJ.rgc {cy : Nat → ClassId} {G : cG} {W : va_W} {fa : Nat → Option Nat} {jc : Int32} {J : Nat → JT} {r : Nat → Nat → Int32} (h : RJ cy G W fa jc J r) {j : Int32} : okJob jc j → ∀ y l, y < 4 → l < lnC (jW (J j.toNatClampNeg)) (jH (J j.toNatClampNeg)) y → 0 ≤ (jF (J j.toNatClampNeg) (y * 11 + l)).toInt ∧ (jF (J j.toNatClampNeg) (y * 11 + l)).toInt ≤ 6 := fun ok => by
  obtain ⟨-, -, -, -, -, -, -, -, -, -, a11⟩ := (h.at ok).2.2
  exact a11
theorem RJ.r59 {cy : Nat → ClassId} {G : cG} {W : va_W} {fa : Nat → Option Nat} {jc : Int32} {J : Nat → JT} {r : Nat → Nat → Int32} (h : RJ cy G W fa jc J r) {j : Int32} : okJob jc j → ∀ y l, y < 2 → l < lnC (r 3 j.toNatClampNeg).toNatClampNeg (r 4 j.toNatClampNeg).toNatClampNeg y → 0 ≤ (r 5 (44 * j.toNatClampNeg + 11 * y + l)).toInt ∧ (r 5 (44 * j.toNatClampNeg + 11 * y + l)).toInt ≤ 6 := fun ok y l hy hl => by
  obtain ⟨-, a2, a3, -, a5, -, -, -, -, ⟨t0, t1⟩, a11⟩ := (h.at ok).2.2
  rw [← a2, ← a3] at hl
  have e := a5 y l (by omega) hl
  have g := a11 y l (by omega) hl
  have tt : tB (jL (J j.toNatClampNeg)) y = true := by
    rcases (show y = 0 ∨ y = 1 by omega) with rfl | rfl
    · exact t0
    · exact t1
  rw [tt, if_pos rfl] at e
  rw [e] at g
  exact g
theorem cl_eq {cy : Nat → ClassId} {G : cG} {W : va_W} {fa : Nat → Option Nat} {jc : Int32} {J : Nat → JT} {r : Nat → Nat → Int32} (h : RJ cy G W fa jc J r) {j x y : Int32} (hx : (okJob jc j ∧ clA (jW (J j.toNatClampNeg)) (jH (J j.toNatClampNeg)) (jF (J j.toNatClampNeg)) 0 (jF (J j.toNatClampNeg)) 11 x) ∨ (¬ okJob jc j ∧ x = -1)) (hy : (okJob jc j ∧ clA (r 3 j.toNatClampNeg).toNatClampNeg (r 4 j.toNatClampNeg).toNatClampNeg (r 5) (44 * j.toNatClampNeg) (r 5) (44 * j.toNatClampNeg + 11) y) ∨ (¬ okJob jc j ∧ y = -1)) : x = y := by
  rcases hx with ⟨a, b⟩ | ⟨a, b⟩ <;> rcases hy with ⟨c, d⟩ | ⟨c, d⟩
  · obtain ⟨-, a2, a3, -, a5, -, -, -, -, ⟨t0, t1⟩, -⟩ := (h.at a).2.2
    rw [← a2, ← a3] at d
    refine clA_eq (fun i hi => ?_) (fun i hi => ?_) b d
    · have e := a5 0 i (by omega) hi
      rw [t0, if_pos rfl] at e
      exact e
    · have e := a5 1 i (by omega) hi
      rw [t1, if_pos rfl] at e
      exact e
  · exact absurd a c
  · exact absurd c a
  · rw [b, d]

/-- the class's jobs are the reference's jobs, content and all -/
def RlJ (cy : Nat → ClassId) (xo : Nat) (G : cG) (W : va_W) (f : Nat → Int32) (r : Nat → Nat → Int32) : Prop := ∃ (bs js sh wk ll : Nat) (lc : Int32) (mo lb : Option Nat) (fa : Nat → Option Nat) (J : Nat → JT), cIn W xo (.inr (8, [.ref bs, .ref js, .int (f 1), .ref sh, .ref wk, va_rf mo, .ref ll, .int lc, va_rf lb])) ∧ cIn W js (.inl (cy 4, cqa 8 fa)) ∧ RJ cy G W fa (f 1) J r
section RLJ
variable {cy : Nat → ClassId} {A : Nat → Prop} {xo z1 z2 : Nat} {G G1 : cG} {W W1 : va_W} {f f1 : Nat → Int32} {r r1 : Nat → Nat → Int32} {fa : Nat → Option Nat} {J : Nat → JT} {jc : Int32}
theorem RlJ.at (h : RlJ cy xo G W f r) (hD : va_D A W) {bs js sh wk ll : Nat} {jc lc : Int32} {mo lb : Option Nat} (hM : cIn W xo (.inr (8, [.ref bs, .ref js, .int jc, .ref sh, .ref wk, va_rf mo, .ref ll, .int lc, va_rf lb]))) : jc = f 1 ∧ ∃ fa J, cIn W js (.inl (cy 4, cqa 8 fa)) ∧ RJ cy G W fa jc J r := by
  obtain ⟨bs', js', sh', wk', ll', lc', mo', lb', fa, J, h1, h2, h3⟩ := h
  have z := cIn.eq hD hM h1
  simp only [Sum.inr.injEq, Prod.mk.injEq, List.cons.injEq, Value.int.injEq, Value.ref.injEq, and_true, true_and] at z
  obtain ⟨-, e2, e3, -⟩ := z
  subst e2
  subst e3
  exact ⟨rfl, fa, J, h2, h3⟩
theorem RlJ.shp (h : RlJ cy xo G W f r) (hD : va_D A W) (hT : cT cy G W) (hG : G xo = some (7, z1, z2)) {ch : List Nat} (hX : cX none (chs ch) G W G1 W1) (h9 : chs ch 9 = false) (h3 : chs ch 3 = false) (h14 : chs ch 14 = false) {bs js sh wk ll bs1 sh1 wk1 ll1 : Nat} {jc lc lc1 : Int32} {mo lb mo1 lb1 : Option Nat} (hM : cIn W xo (.inr (8, [.ref bs, .ref js, .int jc, .ref sh, .ref wk, va_rf mo, .ref ll, .int lc, va_rf lb]))) (hM1 : cIn W1 xo (.inr (8, [.ref bs1, .ref js, .int jc, .ref sh1, .ref wk1, va_rf mo1, .ref ll1, .int lc1, va_rf lb1]))) (ef : f1 1 = f 1) (e2 : r1 2 = r 2) (e3 : r1 3 = r 3) (e4 : r1 4 = r 4) (e5 : r1 5 = r 5) (e6 : r1 6 = r 6) (e7 : r1 7 = r 7) (e8 : r1 8 = r 8) : RlJ cy xo G1 W1 f1 r1 := by
  obtain ⟨e, fa, J, a1, a2⟩ := h.at hD hM
  obtain ⟨-, -, -, hGj, -⟩ := w7sh hD hT hG hM
  refine ⟨bs1, js, sh1, wk1, ll1, lc1, mo1, lb1, fa, J, (by rw [ef, ← e]; exact hM1), hX.2.1 _ _ (cP.no hGj h9) a1, ?_⟩
  rw [ef, ← e]
  exact a2.keep hD hT hX h3 h14 e2 e3 e4 e5 e6 e7 e8
theorem RlJ.keep (h : RlJ cy xo G W f r) (hD : va_D A W) (hT : cT cy G W) (hG : G xo = some (7, z1, z2)) {ch : List Nat} (hX : cX none (chs ch) G W G1 W1) (h7 : chs ch 7 = false) (h9 : chs ch 9 = false) (h3 : chs ch 3 = false) (h14 : chs ch 14 = false) (ef : f1 1 = f 1) (e2 : r1 2 = r 2) (e3 : r1 3 = r 3) (e4 : r1 4 = r 4) (e5 : r1 5 = r 5) (e6 : r1 6 = r 6) (e7 : r1 7 = r 7) (e8 : r1 8 = r 8) : RlJ cy xo G1 W1 f1 r1 := by
  obtain ⟨bs, js, sh, wk, ll, lc, mo, lb, fa, J, a1, -⟩ := id h
  exact h.shp hD hT hG hX h9 h3 h14 a1 (hX.2.1 _ _ (cP.no hG h7) a1) ef e2 e3 e4 e5 e6 e7 e8
/-- cells of other kinds stay where one job changes -/
theorem RJ.fr (h : RJ cy G W fa jc J r) (hD : va_D A W) (hT : cT cy G W) {j : Int32} {P : Nat → Prop} (hF : cF P W W1) (hq : (okJob jc j ∧ ∀ z, P z → z = jX (J j.toNatClampNeg) ∨ z = jS (J j.toNatClampNeg) ∨ (jK (J j.toNatClampNeg) = 4 ∧ z = jC (J j.toNatClampNeg))) ∨ W1 = W) {z : Nat} {t : Nat × Nat × Nat} (hg : G z = some t) (h3 : t.1 ≠ 3) (h14 : t.1 ≠ 14) {e : va_E} (he : cIn W z e) : cIn W1 z e := by
  rcases hq with ⟨ok, hP⟩ | rfl
  · obtain ⟨k1, k2, k3⟩ := (h.at ok).kinds hD hT
    refine hF _ _ (fun y => ?_) he
    rcases hP _ y with y | y | ⟨y4, y⟩
    · exact cne hg k1 h3 y
    · exact cne hg k2 h14 y
    · exact cne hg (k3 y4) h14 y
  · exact he
end RLJ
section LW6
variable {p : Program} {l : Launch} {e : Env} {R : Room} {s : State} {m : MethodId} {args : Array Value} {below : List Frame} {meth : Method} {c : Code} {H : Heap} {locs : List Loc} {cells slots : Nat} {Q : State → Prop}
variable {y : MethodName} {bytes cc : ByteArray} {maxL nL n index mc ms : Nat} {ret : Option FieldType} {wc Ts : List Cond} {rm : Room} {own C : String} {As rest st0 av : List Value} {pc : Nat} {ls : Array Slot} {D : va_G} {cy : Nat → ClassId} {xo mo ou : Nat} {a : Nat → Nat} {M : Option Nat} {G : cG} {W' : va_W} {f : Nat → Int32} {g : Nat → Int64} {r : Nat → Nat → Int32} {q : Nat → Nat → Int64} {a9 : Array Value}
theorem lk6 {post : Int32 → va_W → Prop} {P : Nat → Prop} (I : LI D cy s xo mo ou a M G W' f g r q H locs) (hr : va_Run p l e R s m args below meth c H locs cells slots mc ms (F0 m pc ls st0) rest (va_Qi (fun r0 u => ∃ w1, u = (G, w1) ∧ cF P W' w1 ∧ post r0 w1) (cB D cy (AC s mo a)) (AC s mo a) a9) (AC s mo a))
    (hsh : ∀ r0 w1, cF P W' w1 → post r0 w1 → ∀ e, cIn W' xo e → cIn w1 xo e)
    (kk : ∀ (r0 : Int32) (w1 : va_W) (H1 : Heap) (locs1 : List Loc), cF P W' w1 → post r0 w1 → LI D cy s xo mo ou a M G w1 f g r q H1 locs1 → W p l e R s m args below meth c H1 locs1 (cells + mc) (slots + ms) Q (F0 m (pc + 3) ls (.int r0 :: rest))) : W p l e R s m args below meth c H locs cells slots Q (F0 m pc ls st0) :=
  va_calli hr I.2.2.2.2.2.2.2.2.1 (fun _ _ h => h.1) (fun _ h => h.1) (fun r0 u t H1 locs1 ht hvm hp hB hz hk hS => by
    obtain ⟨h1, h2, h3⟩ := hB
    obtain ⟨w1, rfl, hF, hp⟩ := hp
    rw [ht] at h1
    obtain ⟨bs, js, sh, wk, ll, jc, lc, lb, hM⟩ := I.2.2.2.2.2.2.2.1
    exact kk r0 w1 H1 locs1 hF hp (I.cla h1 h2 h3 cE.rf ⟨bs, js, sh, wk, ll, jc, lc, lb, hsh r0 w1 hF hp _ hM⟩ hz hk hS))
end LW6
section LWR
variable {p : Program} {l : Launch} {e : Env} {R : Room} {s : State} {m : MethodId} {args : Array Value} {below : List Frame} {meth : Method} {c : Code} {H : Heap} {locs : List Loc} {cells slots : Nat} {Q : State → Prop}
variable {y : MethodName} {bytes cc : ByteArray} {maxL nL n index mc ms : Nat} {ret : Option FieldType} {wc Ts : List Cond} {rm : Room} {own C : String} {As rest st0 av : List Value} {pc : Nat} {ls : Array Slot} {D : va_G} {cy : Nat → ClassId} {xo mo ou : Nat} {a : Nat → Nat} {M : Option Nat} {G : cG} {W' : va_W} {f : Nat → Int32} {g : Nat → Int64} {r : Nat → Nat → Int32} {q : Nat → Nat → Int64} {a9 : Array Value}
theorem lk3_i {ch : List Nat} {post : Int32 → cS → Prop} (I : LI D cy s xo mo ou a M G W' f g r q H locs) (hr : va_Run p l e R s m args below meth c H locs cells slots mc ms (F0 m pc ls st0) rest (va_Qi (fun r0 u => cX none (chs ch) G W' u.1 u.2 ∧ post r0 u) (cB D cy (AC s mo a)) (AC s mo a) a9) (AC s mo a)) (h7 : chs ch 7 = false)
    (kk : ∀ (r0 : Int32) (u : cS) (H1 : Heap) (locs1 : List Loc), post r0 u → cX none (chs ch) G W' u.1 u.2 → LI D cy s xo mo ou a M u.1 u.2 f g r q H1 locs1 → W p l e R s m args below meth c H1 locs1 (cells + mc) (slots + ms) Q (F0 m (pc + 3) ls (.int r0 :: rest))) : W p l e R s m args below meth c H locs cells slots Q (F0 m pc ls st0) :=
  va_calli hr I.2.2.2.2.2.2.2.2.1 (fun _ _ h => h.1) (fun _ h => h.1) (fun r0 u t H1 locs1 ht hvm hp hB hz hk hS => by
    obtain ⟨h1, h2, h3⟩ := hB
    rw [ht] at h1
    obtain ⟨bs, js, sh, wk, ll, jc, lc, lb, hM⟩ := I.2.2.2.2.2.2.2.1
    exact kk r0 u H1 locs1 hp.2 hp.1 (I.cla h1 h2 h3 hp.1.1 ⟨bs, js, sh, wk, ll, jc, lc, lb, hp.1.2.1 _ _ (cP.no I.2.2.2.2.1 h7) hM⟩ hz hk hS))
theorem lk3_l {ch : List Nat} {post : Int64 → cS → Prop} (I : LI D cy s xo mo ou a M G W' f g r q H locs) (hr : va_Run p l e R s m args below meth c H locs cells slots mc ms (F0 m pc ls st0) rest (va_Ql (fun r0 u => cX none (chs ch) G W' u.1 u.2 ∧ post r0 u) (cB D cy (AC s mo a)) (AC s mo a) a9) (AC s mo a)) (h7 : chs ch 7 = false)
    (kk : ∀ (r0 : Int64) (u : cS) (H1 : Heap) (locs1 : List Loc), post r0 u → cX none (chs ch) G W' u.1 u.2 → LI D cy s xo mo ou a M u.1 u.2 f g r q H1 locs1 → W p l e R s m args below meth c H1 locs1 (cells + mc) (slots + ms) Q (F0 m (pc + 3) ls (.long r0 :: rest))) : W p l e R s m args below meth c H locs cells slots Q (F0 m pc ls st0) :=
  va_calll hr I.2.2.2.2.2.2.2.2.1 (fun _ _ h => h.1) (fun _ h => h.1) (fun r0 u t H1 locs1 ht hvm hp hB hz hk hS => by
    obtain ⟨h1, h2, h3⟩ := hB
    rw [ht] at h1
    obtain ⟨bs, js, sh, wk, ll, jc, lc, lb, hM⟩ := I.2.2.2.2.2.2.2.1
    exact kk r0 u H1 locs1 hp.2 hp.1 (I.cla h1 h2 h3 hp.1.1 ⟨bs, js, sh, wk, ll, jc, lc, lb, hp.1.2.1 _ _ (cP.no I.2.2.2.2.1 h7) hM⟩ hz hk hS))
theorem lk3_ri {post : Int32 → cS → Prop} (I : LI D cy s xo mo ou a M G W' f g r q H locs) (hr : va_Run p l e R s m args below meth c H locs cells slots mc ms (F0 m pc ls st0) rest (va_Qi (fun r0 u => u = (G, W') ∧ post r0 u) (cB D cy (AC s mo a)) (AC s mo a) a9) (AC s mo a))
    (kk : ∀ (r0 : Int32) (u : cS) (H1 : Heap) (locs1 : List Loc), post r0 u → cX none (chs []) G W' u.1 u.2 → LI D cy s xo mo ou a M u.1 u.2 f g r q H1 locs1 → W p l e R s m args below meth c H1 locs1 (cells + mc) (slots + ms) Q (F0 m (pc + 3) ls (.int r0 :: rest))) : W p l e R s m args below meth c H locs cells slots Q (F0 m pc ls st0) :=
  va_calli hr I.2.2.2.2.2.2.2.2.1 (fun _ _ h => h.1) (fun _ h => h.1) (fun r0 u t H1 locs1 ht hvm hp hB hz hk hS => by
    obtain ⟨h1, h2, h3⟩ := hB
    obtain ⟨rfl, hp⟩ := hp
    rw [ht] at h1
    exact kk r0 _ H1 locs1 hp cX.rf (I.cla h1 h2 h3 cE.rf I.2.2.2.2.2.2.2.1 hz hk hS))
theorem lk3_rl {post : Int64 → cS → Prop} (I : LI D cy s xo mo ou a M G W' f g r q H locs) (hr : va_Run p l e R s m args below meth c H locs cells slots mc ms (F0 m pc ls st0) rest (va_Ql (fun r0 u => u = (G, W') ∧ post r0 u) (cB D cy (AC s mo a)) (AC s mo a) a9) (AC s mo a))
    (kk : ∀ (r0 : Int64) (u : cS) (H1 : Heap) (locs1 : List Loc), post r0 u → cX none (chs []) G W' u.1 u.2 → LI D cy s xo mo ou a M u.1 u.2 f g r q H1 locs1 → W p l e R s m args below meth c H1 locs1 (cells + mc) (slots + ms) Q (F0 m (pc + 3) ls (.long r0 :: rest))) : W p l e R s m args below meth c H locs cells slots Q (F0 m pc ls st0) :=
  va_calll hr I.2.2.2.2.2.2.2.2.1 (fun _ _ h => h.1) (fun _ h => h.1) (fun r0 u t H1 locs1 ht hvm hp hB hz hk hS => by
    obtain ⟨h1, h2, h3⟩ := hB
    obtain ⟨rfl, hp⟩ := hp
    rw [ht] at h1
    exact kk r0 _ H1 locs1 hp cX.rf (I.cla h1 h2 h3 cE.rf I.2.2.2.2.2.2.2.1 hz hk hS))
theorem lk3_s {ch : List Nat} {post : Int32 → cS → Prop} (I : LI D cy s xo mo ou a M G W' f g r q H locs) (hr : va_Run p l e R s m args below meth c H locs cells slots mc ms (F0 m pc ls st0) rest (va_Qi (fun r0 u => cX none (chs ch) G W' u.1 u.2 ∧ post r0 u) (cB D cy (AC s mo a)) (AC s mo a) a9) (AC s mo a))
    (hsh : ∀ r0 u, post r0 u → ∃ (bs js sh wk ll : Nat) (jc lc : Int32) (lb : Option Nat), cIn u.2 xo (.inr (8, [.ref bs, .ref js, .int jc, .ref sh, .ref wk, va_rf M, .ref ll, .int lc, va_rf lb])))
    (kk : ∀ (r0 : Int32) (u : cS) (H1 : Heap) (locs1 : List Loc), post r0 u → cX none (chs ch) G W' u.1 u.2 → LI D cy s xo mo ou a M u.1 u.2 f g r q H1 locs1 → W p l e R s m args below meth c H1 locs1 (cells + mc) (slots + ms) Q (F0 m (pc + 3) ls (.int r0 :: rest))) : W p l e R s m args below meth c H locs cells slots Q (F0 m pc ls st0) :=
  va_calli hr I.2.2.2.2.2.2.2.2.1 (fun _ _ h => h.1) (fun _ h => h.1) (fun r0 u t H1 locs1 ht hvm hp hB hz hk hS => by
    obtain ⟨h1, h2, h3⟩ := hB
    obtain ⟨hX, hp⟩ := hp
    rw [ht] at h1
    exact kk r0 _ H1 locs1 hp hX (I.cla h1 h2 h3 hX.1 (hsh r0 u hp) hz hk hS))
end LWR

section ANS6
variable {cy : Nat → ClassId} {G : cG} {W : va_W} {fa : Nat → Option Nat} {jc : Int32} {J : Nat → JT} {r : Nat → Nat → Int32} {j x y : Int32}
theorem un_eq (h : RJ cy G W fa jc J r) {way : Int32} (hx : (okUn9 jc j way ∧ x = (if tB (jL (J j.toNatClampNeg)) way.toNatClampNeg then 1 else 0)) ∨ (¬ okUn9 jc j way ∧ x = -1)) (hy : (okUn9 jc j way ∧ y = (if r 6 (4 * j.toNatClampNeg + way.toNatClampNeg) = 0 then 0 else 1)) ∨ (¬ okUn9 jc j way ∧ y = -1)) : x = y := by
  rcases hx with ⟨a, b⟩ | ⟨a, b⟩ <;> rcases hy with ⟨c, d⟩ | ⟨c, d⟩
  · have w0 := a.2
    have cw := m_cl (x := way) (by omega)
    have e := (h.at a.1).2.2.2.2.2.1 way.toNatClampNeg (by omega)
    rw [b, d]
    cases hb : tB (jL (J j.toNatClampNeg)) way.toNatClampNeg
    · rw [if_pos (e.mpr hb)]; rfl
    · rw [if_neg (show ¬ r 6 (4 * j.toNatClampNeg + way.toNatClampNeg) = 0 from fun z => by rw [e.mp z] at hb; cases hb)]; rfl
  · exact absurd a c
  · exact absurd c a
  · rw [b, d]
theorem ho_eq (h : RJ cy G W fa jc J r) {s how : Int32} (hx : (okHold9 jc (jW (J j.toNatClampNeg)) (jH (J j.toNatClampNeg)) j s how ∧ x = hH (jO (J j.toNatClampNeg)) (jNn (J j.toNatClampNeg)) s.toNatClampNeg) ∨ (¬ okHold9 jc (jW (J j.toNatClampNeg)) (jH (J j.toNatClampNeg)) j s how ∧ x = -1)) (hy : (okHold9 jc (r 3 j.toNatClampNeg).toNatClampNeg (r 4 j.toNatClampNeg).toNatClampNeg j s how ∧ y = r 7 (36 * j.toNatClampNeg + s.toNatClampNeg)) ∨ (¬ okHold9 jc (r 3 j.toNatClampNeg).toNatClampNeg (r 4 j.toNatClampNeg).toNatClampNeg j s how ∧ y = -1)) : x = y := by
  rcases hx with ⟨a, b⟩ | ⟨a, b⟩ <;> rcases hy with ⟨c, d⟩ | ⟨c, d⟩
  · have w0 := a.2.1
    have cw := m_cl (x := s) w0.1
    rw [b, d]
    exact ((h.at a.1).2.2.2.2.2.2.2.1 s.toNatClampNeg (by omega)).1.symm
  · have sz := h.sz a.1; exact absurd ⟨a.1, by rw [← sz.1, ← sz.2]; exact a.2.1, a.2.2⟩ c
  · have sz := h.sz c.1; exact absurd ⟨c.1, by rw [sz.1, sz.2]; exact c.2.1, c.2.2⟩ a
  · rw [b, d]
theorem ma_eq (h : RJ cy G W fa jc J r) {s v : Int32} (hx : (okMark9 jc (jW (J j.toNatClampNeg)) (jH (J j.toNatClampNeg)) j s v ∧ ((jK (J j.toNatClampNeg) = 4 ∧ Bo x (¬ jG (J j.toNatClampNeg) s.toNatClampNeg = v)) ∨ (¬ jK (J j.toNatClampNeg) = 4 ∧ x = -4))) ∨ (¬ okMark9 jc (jW (J j.toNatClampNeg)) (jH (J j.toNatClampNeg)) j s v ∧ x = -1)) (hy : (okMark9 jc (r 3 j.toNatClampNeg).toNatClampNeg (r 4 j.toNatClampNeg).toNatClampNeg j s v ∧ ((r 2 j.toNatClampNeg = 3 ∧ y = (if r 8 (36 * j.toNatClampNeg + s.toNatClampNeg) = v then 0 else 1)) ∨ (¬ r 2 j.toNatClampNeg = 3 ∧ y = -4))) ∨ (¬ okMark9 jc (r 3 j.toNatClampNeg).toNatClampNeg (r 4 j.toNatClampNeg).toNatClampNeg j s v ∧ y = -1)) : x = y := by
  rcases hx with ⟨a, b⟩ | ⟨a, b⟩ <;> rcases hy with ⟨c, d⟩ | ⟨c, d⟩
  · have w0 := a.2.1
    have cw := m_cl (x := s) w0.1
    have kk := (h.at a.1).2.2.1
    rcases b with ⟨k4, b⟩ | ⟨k4, b⟩ <;> rcases d with ⟨r3, d⟩ | ⟨r3, d⟩
    · have e := (h.at a.1).2.2.2.2.2.2.2.2.2.1 k4 s.toNatClampNeg (by omega)
      rw [d, ← e]
      rcases b with ⟨b1, b2⟩ | ⟨b1, b2⟩
      · rw [b1, if_neg b2]
      · rw [b1, if_pos (Classical.not_not.mp b2)]
    · exact absurd (kcl_4.mp (kk.symm.trans k4)) r3
    · exact absurd (kk.trans (kcl_4.mpr r3)) k4
    · rw [b, d]
  · have sz := h.sz a.1; exact absurd ⟨a.1, by rw [← sz.1, ← sz.2]; exact a.2.1, a.2.2⟩ c
  · have sz := h.sz c.1; exact absurd ⟨c.1, by rw [sz.1, sz.2]; exact c.2.1, c.2.2⟩ a
  · rw [b, d]
theorem su_eq (h : RJ cy G W fa jc J r) {way line v : Int32} (hx : (okSum9 jc (jW (J j.toNatClampNeg)) (jH (J j.toNatClampNeg)) j way line v ∧ x = 0) ∨ (¬ okSum9 jc (jW (J j.toNatClampNeg)) (jH (J j.toNatClampNeg)) j way line v ∧ x = -1)) (hy : (okSum9 jc (r 3 j.toNatClampNeg).toNatClampNeg (r 4 j.toNatClampNeg).toNatClampNeg j way line v ∧ y = 0) ∨ (¬ okSum9 jc (r 3 j.toNatClampNeg).toNatClampNeg (r 4 j.toNatClampNeg).toNatClampNeg j way line v ∧ y = -1)) : x = y := by
  rcases hx with ⟨a, b⟩ | ⟨a, b⟩ <;> rcases hy with ⟨c, d⟩ | ⟨c, d⟩
  · rw [b, d]
  · have sz := h.sz a.1; exact absurd ⟨a.1, by rw [← sz.1, ← sz.2]; exact a.2.1, a.2.2⟩ c
  · have sz := h.sz c.1; exact absurd ⟨c.1, by rw [sz.1, sz.2]; exact c.2.1, c.2.2⟩ a
  · rw [b, d]
theorem ca_eq (h : RJ cy G W fa jc J r) {way b0 : Int32} {p : Int64} (hx : (okCast9 jc (jW (J j.toNatClampNeg)) (jH (J j.toNatClampNeg)) j way p ∧ x = b0) ∨ (¬ okCast9 jc (jW (J j.toNatClampNeg)) (jH (J j.toNatClampNeg)) j way p ∧ x = -1)) (hy : (okCast9 jc (r 3 j.toNatClampNeg).toNatClampNeg (r 4 j.toNatClampNeg).toNatClampNeg j way p ∧ y = b0) ∨ (¬ okCast9 jc (r 3 j.toNatClampNeg).toNatClampNeg (r 4 j.toNatClampNeg).toNatClampNeg j way p ∧ y = -1)) : x = y := by
  rcases hx with ⟨a, b⟩ | ⟨a, b⟩ <;> rcases hy with ⟨c, d⟩ | ⟨c, d⟩
  · rw [b, d]
  · have sz := h.sz a.1; exact absurd ⟨a.1, a.2.1, by rw [← sz.1, ← sz.2]; exact a.2.2⟩ c
  · have sz := h.sz c.1; exact absurd ⟨c.1, c.2.1, by rw [sz.1, sz.2]; exact c.2.2⟩ a
  · rw [b, d]
theorem to_eq (h : RJ cy G W fa jc J r) {way line : Int32} (hx : toA jc (jW (J j.toNatClampNeg)) (jH (J j.toNatClampNeg)) (fun l => if tB (jL (J j.toNatClampNeg)) way.toNatClampNeg then jF (J j.toNatClampNeg) (way.toNatClampNeg * 11 + l) else -2) j way line x) (hy : toA jc (r 3 j.toNatClampNeg).toNatClampNeg (r 4 j.toNatClampNeg).toNatClampNeg (fun l => if r 6 (4 * j.toNatClampNeg + way.toNatClampNeg) = 0 then -2 else r 5 (44 * j.toNatClampNeg + 11 * way.toNatClampNeg + l)) j way line y) : x = y := by
  rcases hx with ⟨a, b⟩ | ⟨a, b⟩ <;> rcases hy with ⟨c, d⟩ | ⟨c, d⟩
  · have sz := h.sz a.1.1
    by_cases z : line.toInt = -1
    · rw [if_pos z] at b d
      apply Int32.toInt_inj.mp
      rw [b, d, sz.1, sz.2]
    · rw [if_neg z] at b d
      have w0 := a.1.2
      have cw := m_cl (x := way) (by omega)
      rcases a.2 with z2 | z2
      · exact absurd z2 z
      · have e := (h.at a.1.1).2.2.2.2.2.1 way.toNatClampNeg (by omega)
        have cl := m_cl (x := line) z2.2.1
        have l2 := z2.2.2
        have e5 := (h.at a.1.1).2.2.2.2.2.2.1 way.toNatClampNeg line.toNatClampNeg (by omega) (by omega)
        rw [b, d]
        show (if _ then _ else _) = (if _ then _ else _)
        cases hb : tB (jL (J j.toNatClampNeg)) way.toNatClampNeg
        · rw [if_pos (e.mpr hb)]; rfl
        · rw [hb] at e5
          rw [if_neg (show ¬ r 6 (4 * j.toNatClampNeg + way.toNatClampNeg) = 0 from fun z => by rw [e.mp z] at hb; cases hb)]
          exact e5
  · have sz := h.sz a.1.1
    rw [sz.1, sz.2] at a
    exact absurd a c
  · have sz := h.sz c.1.1
    rw [← sz.1, ← sz.2] at c
    exact absurd c a
  · rw [b, d]
end ANS6

