/-- the class's cells: a list of cells W (address, contents) and a kind of each address G: kind, number, number -/
abbrev cG : Type := Nat → Option (Nat × Nat × Nat)
def cIn (ws : va_W) (a : Nat) (e : va_E) : Prop := ∃ k : Nat, ws[k]? = some (a, e)
def cE (G G' : cG) : Prop := ∀ (a : Nat) (t : Nat × Nat × Nat), G a = some t → G' a = some t
def cTy (cy : Nat → ClassId) : List (ClassId × FieldType) := [(cy 0, .int), (cy 1, .long), (cy 2, .boolean), (cy 3, .object RX0), (cy 4, .object RX3), (cy 5, .object RX2)]
def cfo (w h : Nat) : Nat := w * (w - 1) / 2 * (h * (h - 1) / 2)
abbrev cqa (n : Nat) (f : Nat → Option Nat) : vp_A := (n, .inr (.inr (.inr (.inr f))))
def isBo (z : Int32) : Prop := z = 0 ∨ z = 1
/-- a job's class (1 EvenJob, 2 Job, 3 JoinedJob, 4 MarkedJob) and what it has more -/
def cJk (G : cG) (k n w h : Nat) (ms : List Value) : Prop := n = 8 * w + h ∧ ((k = 1 ∧ ms = []) ∨ (k = 2 ∧ ms = []) ∨ (k = 3 ∧ ms = []) ∨ (k = 4 ∧ ∃ c : Nat, ms = [.ref c] ∧ G c = some (14, w * h, 0)))
def l1 (k : Nat) : Int64 := (1 : Int64) <<< ((nI k).toInt64 &&& 63)
def lnT (h way x y : Nat) : Nat := if way = 0 then y else if way = 1 then x else if way = 2 then x + h - 1 - y else x + y
theorem lnT_b {w h way x y : Nat} (hb : 1 ≤ w ∧ w ≤ 6 ∧ 1 ≤ h ∧ h ≤ 6) (hx : x < w) (hy : y < h) : lnT h way x y < 11 := by
  unfold lnT
  split
  · omega
  · split
    · omega
    · split <;> omega
/-- the lines of a board, as they are drawn: square by square, way by way -/
def bLN (w h : Nat) : Nat → Nat → Int64
  | 0 => fun _ => 0
  | n + 1 => vp_updL (bLN w h n) (n % 4 * 11 + lnT h (n % 4) (n / 4 % w) (n / 4 / w)) (bLN w h n (n % 4 * 11 + lnT h (n % 4) (n / 4 % w) (n / 4 / w)) ||| l1 (n / 4))
def bLn (w h : Nat) : Nat → Int64 := bLN w h (4 * (w * h))
theorem bLN_s {w h k i u : Nat} (hi : i < w) (hu : u < 4) : bLN w h (4 * (k * w + i) + (u + 1)) = vp_updL (bLN w h (4 * (k * w + i) + u)) (u * 11 + lnT h u i k) (bLN w h (4 * (k * w + i) + u) (u * 11 + lnT h u i k) ||| l1 (k * w + i)) := by
  show bLN w h ((4 * (k * w + i) + u) + 1) = _
  simp only [bLN]
  rw [show (4 * (k * w + i) + u) % 4 = u by omega, show (4 * (k * w + i) + u) / 4 = k * w + i by omega, Nat.mul_comm k w, Nat.mul_add_mod, Nat.mod_eq_of_lt hi, Nat.mul_add_div (by omega), Nat.div_eq_of_lt hi, Nat.add_zero]
/-- pairs a < b below n, numbered row by row -/
def prA : Nat → Nat → Nat
  | 0, _ => 0
  | n + 1, i => if i < n then 0 else prA n (i - n) + 1
def prB : Nat → Nat → Nat
  | 0, _ => 0
  | n + 1, i => if i < n then i + 1 else prB n (i - n) + 1
def prS (n a : Nat) : Nat := a * (2 * n - a - 1) / 2
def prI (n a b : Nat) : Nat := prS n a + (b - (a + 1))
theorem prI_0 : ∀ n, n < 7 → ∀ a, a < n → ∀ b, b < n → a < b → prI n a b < n * (n - 1) / 2 ∧ prA n (prI n a b) = a ∧ prB n (prI n a b) = b := by decide +kernel
theorem prS_0 : ∀ n, n < 7 → ∀ a, a < n → prS n (a + 1) = prS n a + (n - (a + 1)) ∧ prS n 0 = 0 ∧ prS n n = n * (n - 1) / 2 := by decide +kernel
/-- falling and rising fours, the first n drawn -/
def bFN (w h n : Nat) : Nat → Int64 := fun q => if q < n then l1 (prA h (q / (w * (w - 1) / 2)) * w + prA w (q % (w * (w - 1) / 2))) ||| l1 (prB h (q / (w * (w - 1) / 2)) * w + prB w (q % (w * (w - 1) / 2))) else 0
def bRN (w h n : Nat) : Nat → Int64 := fun q => if q < n then l1 (prA h (q / (w * (w - 1) / 2)) * w + prB w (q % (w * (w - 1) / 2))) ||| l1 (prB h (q / (w * (w - 1) / 2)) * w + prA w (q % (w * (w - 1) / 2))) else 0
theorem bFN_0 (w h : Nat) : bFN w h 0 = fun _ => 0 := by
  funext q
  unfold bFN
  rw [if_neg (Nat.not_lt_zero _)]
theorem bRN_0 (w h : Nat) : bRN w h 0 = fun _ => 0 := by
  funext q
  unfold bRN
  rw [if_neg (Nat.not_lt_zero _)]
theorem prQ {m a b : Nat} (hb : b < m) : (a * m + b) / m = a ∧ (a * m + b) % m = b := by
  have hm : 0 < m := by omega
  constructor
  · rw [Nat.mul_comm a m, Nat.mul_add_div hm, Nat.div_eq_of_lt hb, Nat.add_zero]
  · rw [Nat.mul_comm a m, Nat.mul_add_mod, Nat.mod_eq_of_lt hb]
theorem bFN_s {w h y v x u : Nat} (hw : w < 7) (hh : h < 7) (hyv : y < v) (hv : v < h) (hxu : x < u) (hu : u < w) : vp_updL (bFN w h (prI h y v * (w * (w - 1) / 2) + prI w x u)) (prI h y v * (w * (w - 1) / 2) + prI w x u) (l1 (y * w + x) ||| l1 (v * w + u)) = bFN w h (prI h y v * (w * (w - 1) / 2) + prI w x u + 1) := by
  obtain ⟨-, a2, a3⟩ := prI_0 h hh y (by omega) v hv hyv
  obtain ⟨b1, b2, b3⟩ := prI_0 w hw x (by omega) u hu hxu
  obtain ⟨c1, c2⟩ := prQ (a := prI h y v) b1
  funext q
  simp only [bFN, vp_updL]
  by_cases e : q = prI h y v * (w * (w - 1) / 2) + prI w x u
  · rw [if_pos e, if_pos (by omega), e, c1, c2, a2, a3, b2, b3]
  · rw [if_neg e]
    by_cases e2 : q < prI h y v * (w * (w - 1) / 2) + prI w x u
    · rw [if_pos e2, if_pos (by omega)]
    · rw [if_neg e2, if_neg (by omega)]
theorem bRN_s {w h y v x u : Nat} (hw : w < 7) (hh : h < 7) (hyv : y < v) (hv : v < h) (hxu : x < u) (hu : u < w) : vp_updL (bRN w h (prI h y v * (w * (w - 1) / 2) + prI w x u)) (prI h y v * (w * (w - 1) / 2) + prI w x u) (l1 (y * w + u) ||| l1 (v * w + x)) = bRN w h (prI h y v * (w * (w - 1) / 2) + prI w x u + 1) := by
  obtain ⟨-, a2, a3⟩ := prI_0 h hh y (by omega) v hv hyv
  obtain ⟨b1, b2, b3⟩ := prI_0 w hw x (by omega) u hu hxu
  obtain ⟨c1, c2⟩ := prQ (a := prI h y v) b1
  funext q
  simp only [bRN, vp_updL]
  by_cases e : q = prI h y v * (w * (w - 1) / 2) + prI w x u
  · rw [if_pos e, if_pos (by omega), e, c1, c2, a2, a3, b2, b3]
  · rw [if_neg e]
    by_cases e2 : q < prI h y v * (w * (w - 1) / 2) + prI w x u
    · rw [if_pos e2, if_pos (by omega)]
    · rw [if_neg e2, if_neg (by omega)]
theorem fo_lt {w h y v x u : Nat} (hw : w < 7) (hh : h < 7) (hyv : y < v) (hv : v < h) (hxu : x < u) (hu : u < w) : prI h y v * (w * (w - 1) / 2) + prI w x u < cfo w h := by
  have a1 := (prI_0 h hh y (by omega) v hv hyv).1
  have b1 := (prI_0 w hw x (by omega) u hu hxu).1
  have m := Nat.mul_le_mul_right (w * (w - 1) / 2) (show prI h y v + 1 ≤ h * (h - 1) / 2 from a1)
  rw [Nat.succ_mul] at m
  unfold cfo
  rw [Nat.mul_comm (w * (w - 1) / 2) (h * (h - 1) / 2)]
  omega
/-- what a cell of a kind is (11: a board's lines; 12, 13: its falling and rising fours): 0 int[n], 1 long[n], 2 Board(w, h), 3 a Job (its class, marks), 4 Row(n), 5 Walk, 6 Meetings, 7 ShadowBench, 8 Board[], 9 Job[], 10 Held[] -/
def cok (cy : Nat → ClassId) (G : cG) (t : Nat × Nat × Nat) (e : va_E) : Prop := match t with
  | (0, n, _) => ∃ w : Nat → Int32, e = .inl (cy 0, n, .inl w)
  | (1, n, _) => ∃ w : Nat → Int64, e = .inl (cy 1, n, .inr (.inl w))
  | (2, w, h) => (1 ≤ w ∧ w ≤ 6 ∧ 1 ≤ h ∧ h ≤ 6) ∧ ∃ a b c : Nat, e = .inr (0, [.int (nI w), .int (nI h), .int (nI (w * h)), .int (nI (2 ^ w)), .int (nI (cfo w h)), .ref a, .ref b, .ref c]) ∧ G a = some (11, w, h) ∧ G b = some (12, w, h) ∧ G c = some (13, w, h)
  | (3, k, n) => ∃ (b a w h : Nat) (tw : Int32) (x y : Int64) (ms : List Value), e = .inr (k, .ref b :: .ref a :: .int tw :: .long x :: .long y :: ms) ∧ G b = some (2, w, h) ∧ G a = some (14, 44, 0) ∧ cJk G k n w h ms
  | (4, n, _) => n ≤ 60 ∧ ∃ (z : Int32) (a : Nat), e = .inr (6, [.int z, .ref a]) ∧ isBo z ∧ G a = some (16, n, 0)
  | (5, _, _) => ∃ (j : Option Nat) (y tr sp : Int32) (fd : Int64) (a1 a2 a3 a4 a5 : Nat), e = .inr (7, [va_rf j, .int y, .int tr, .int sp, .long fd, .ref a1, .ref a2, .ref a3, .ref a4, .ref a5]) ∧ isBo sp ∧ (∀ x, j = some x → ∃ k n, G x = some (3, k, n)) ∧ G a1 = some (20, 6, 0) ∧ G a2 = some (21, 6, 0) ∧ G a3 = some (22, 6, 0) ∧ G a4 = some (23, 6, 0) ∧ G a5 = some (1, 6, 0)
  | (6, _, _) => ∃ (a b : Nat) (z : Int32), e = .inr (5, [.ref a, .int z, .ref b]) ∧ (0 ≤ z.toInt ∧ z.toInt ≤ 20000) ∧ G a = some (1, 20000, 0) ∧ G b = some (0, 32768, 0)
  | (7, _, _) => ∃ (bs js sh wk ll : Nat) (jc lc : Int32) (mo lb : Option Nat), e = .inr (8, [.ref bs, .ref js, .int jc, .ref sh, .ref wk, va_rf mo, .ref ll, .int lc, va_rf lb]) ∧ (0 ≤ jc.toInt ∧ jc.toInt ≤ 8) ∧ (0 ≤ lc.toInt ∧ lc.toInt ≤ 12) ∧ G bs = some (8, 36, 0) ∧ G js = some (9, 8, 0) ∧ G sh = some (10, 8, 0) ∧ G wk = some (5, 0, 0) ∧ (∀ x, mo = some x → G x = some (6, 0, 0)) ∧ G ll = some (17, 12, 0) ∧ (∀ x, lb = some x → ∃ w h, G x = some (2, w, h))
  | (8, n, _) => ∃ f : Nat → Option Nat, e = .inl (cy 3, cqa n f) ∧ ∀ i x, i < n → f i = some x → G x = some (2, i % 6 + 1, i / 6 + 1)
  | (9, n, _) => ∃ f : Nat → Option Nat, e = .inl (cy 4, cqa n f) ∧ ∀ i x, i < n → f i = some x → ∃ k n, G x = some (3, k, n)
  | (10, n, _) => ∃ f : Nat → Option Nat, e = .inl (cy 5, cqa n f) ∧ ∀ i x, i < n → f i = some x → (∃ k n, G x = some (3, k, n)) ∨ ∃ n, G x = some (4, n, 0)
  | (11, w, h) => e = .inl (cy 1, 44, .inr (.inl (bLn w h)))
  | (14, n, _) => ∃ w : Nat → Int32, e = .inl (cy 0, n, .inl w)
  | (16, n, _) => ∃ w : Nat → Int64, e = .inl (cy 1, n, .inr (.inl w))
  | (17, n, _) => ∃ w : Nat → Int64, e = .inl (cy 1, n, .inr (.inl w))
  | (20, n, _) => ∃ w : Nat → Int32, e = .inl (cy 0, n, .inl w)
  | (21, n, _) => ∃ w : Nat → Int32, e = .inl (cy 0, n, .inl w)
  | (22, n, _) => ∃ w : Nat → Int32, e = .inl (cy 0, n, .inl w)
  | (23, n, _) => ∃ w : Nat → Int32, e = .inl (cy 0, n, .inl w)
  | (12, w, h) => e = .inl (cy 1, cfo w h, .inr (.inl (bFN w h (cfo w h))))
  | (13, w, h) => e = .inl (cy 1, cfo w h, .inr (.inl (bRN w h (cfo w h))))
  | _ => True
def cT (cy : Nat → ClassId) (G : cG) (ws : va_W) : Prop := ∀ (a : Nat) (t : Nat × Nat × Nat), G a = some t → ∃ e, cIn ws a e ∧ cok cy G t e
def cUp (ws : va_W) (a : Nat) (e : va_E) (ws1 : va_W) : Prop := cIn ws1 a e ∧ ∀ b e', b ≠ a → cIn ws b e' → cIn ws1 b e'
/-- cells outside P are as they were -/
def cF (P : Nat → Prop) (ws ws1 : va_W) : Prop := ∀ (a : Nat) (e : va_E), ¬ P a → cIn ws a e → cIn ws1 a e
/-- of a kind that ch names -/
def cK (ch : Nat → Bool) (G : cG) (a : Nat) : Prop := ∃ t, G a = some t ∧ ch t.1 = true
theorem cE.rf {G : cG} : cE G G := fun _ _ h => h
theorem cE.tr {G G1 G2 : cG} (h : cE G G1) (h' : cE G1 G2) : cE G G2 := fun a t z => h' a t (h a t z)
theorem cF.rf {P : Nat → Prop} {ws : va_W} : cF P ws ws := fun _ _ _ h => h
theorem cF.tr {P : Nat → Prop} {w w1 w2 : va_W} (h : cF P w w1) (h' : cF P w1 w2) : cF P w w2 := fun a e hp hi => h' a e hp (h a e hp hi)
theorem cF.wk {P P' : Nat → Prop} {w w1 : va_W} (h : cF P w w1) (hc : ∀ a, P a → P' a) : cF P' w w1 := fun a e hp hi => h a e (fun z => hp (hc a z)) hi
theorem cK.no {ch : Nat → Bool} {G : cG} {a : Nat} {t : Nat × Nat × Nat} (hg : G a = some t) (hc : ch t.1 = false) : ¬ cK ch G a := by
  rintro ⟨t', h1, h2⟩
  rw [hg] at h1
  cases h1
  rw [hc] at h2
  cases h2
theorem cK.no0 {ch : Nat → Bool} {G : cG} {a : Nat} (hg : G a = none) : ¬ cK ch G a := by
  rintro ⟨t', h1, h2⟩
  rw [hg] at h1
  cases h1
theorem cok.mono {cy : Nat → ClassId} {G G' : cG} (hE : cE G G') {t : Nat × Nat × Nat} {e : va_E} (h : cok cy G t e) : cok cy G' t e := by
  obtain ⟨k, n, m⟩ := t
  match k, h with
  | 0, h => exact h
  | 1, h => exact h
  | 2, ⟨h0, a, b, c, h1, h2, h3, h4⟩ => exact ⟨h0, a, b, c, h1, hE _ _ h2, hE _ _ h3, hE _ _ h4⟩
  | 3, ⟨b, a, w, h, tw, x, y, ms, h1, h2, h3, h4⟩ =>
    refine ⟨b, a, w, h, tw, x, y, ms, h1, hE _ _ h2, hE _ _ h3, ?_⟩
    rcases h4 with ⟨h0, h4 | h4 | h4 | ⟨h4, c, h6, h7⟩⟩
    · exact ⟨h0, Or.inl h4⟩
    · exact ⟨h0, Or.inr (Or.inl h4)⟩
    · exact ⟨h0, Or.inr (Or.inr (Or.inl h4))⟩
    · exact ⟨h0, Or.inr (Or.inr (Or.inr ⟨h4, c, h6, hE _ _ h7⟩))⟩
  | 4, ⟨h0, z, a, h1, h2, h3⟩ => exact ⟨h0, z, a, h1, h2, hE _ _ h3⟩
  | 5, ⟨j, y, tr, sp, fd, a1, a2, a3, a4, a5, h1, h2, h3, h4, h5, h6, h7, h8⟩ => exact ⟨j, y, tr, sp, fd, a1, a2, a3, a4, a5, h1, h2, fun x hx => (h3 x hx).elim fun k z => z.elim fun n z => ⟨k, n, hE _ _ z⟩, hE _ _ h4, hE _ _ h5, hE _ _ h6, hE _ _ h7, hE _ _ h8⟩
  | 6, ⟨a, b, z, h1, h2, h3, h4⟩ => exact ⟨a, b, z, h1, h2, hE _ _ h3, hE _ _ h4⟩
  | 7, ⟨bs, js, sh, wk, ll, jc, lc, mo, lb, h1, h2, h3, h4, h5, h6, h7, h8, h9, h10⟩ => exact ⟨bs, js, sh, wk, ll, jc, lc, mo, lb, h1, h2, h3, hE _ _ h4, hE _ _ h5, hE _ _ h6, hE _ _ h7, fun x hx => hE _ _ (h8 x hx), hE _ _ h9, fun x hx => (h10 x hx).elim fun k z => z.elim fun n z => ⟨k, n, hE _ _ z⟩⟩
  | 8, ⟨f, h1, h2⟩ => exact ⟨f, h1, fun i x hi hx => hE _ _ (h2 i x hi hx)⟩
  | 9, ⟨f, h1, h2⟩ => exact ⟨f, h1, fun i x hi hx => (h2 i x hi hx).elim fun k z => z.elim fun n z => ⟨k, n, hE _ _ z⟩⟩
  | 10, ⟨f, h1, h2⟩ =>
    refine ⟨f, h1, fun i x hi hx => ?_⟩
    rcases h2 i x hi hx with ⟨k, n, z⟩ | ⟨n, z⟩
    · exact Or.inl ⟨k, n, hE _ _ z⟩
    · exact Or.inr ⟨n, hE _ _ z⟩
  | 11, h => exact h
  | 12, h => exact h
  | 13, h => exact h
  | 14, h => exact h
  | 15, h => exact h
  | 16, h => exact h
  | 17, h => exact h
  | 18, h => exact h
  | 19, h => exact h
  | 20, h => exact h
  | 21, h => exact h
  | 22, h => exact h
  | 23, h => exact h
  | _ + 24, h => exact h
theorem cne {G : cG} {a b : Nat} {s t : Nat × Nat × Nat} (ha : G a = some s) (hb : G b = some t) (h : s.1 ≠ t.1) : a ≠ b := by
  rintro rfl
  rw [ha] at hb
  cases hb
  exact h rfl
theorem cIn.eq {A : Nat → Prop} {ws : va_W} (hD : va_D A ws) {a : Nat} {e e' : va_E} (h : cIn ws a e) (h' : cIn ws a e') : e = e' := by
  obtain ⟨k, hk⟩ := h
  obtain ⟨j, hj⟩ := h'
  have := hD.1 k j _ _ hk hj rfl
  subst this
  rw [hk] at hj
  cases hj
  rfl
theorem cUp.set {ws : va_W} {k a : Nat} {e0 e : va_E} (hk : ws[k]? = some (a, e0)) : cUp ws a e (ws.set k (a, e)) := by
  have hlt : k < ws.length := (List.getElem?_eq_some_iff.mp hk).1
  refine ⟨⟨k, by rw [List.getElem?_set_self hlt]⟩, fun b e' hb hi => ?_⟩
  obtain ⟨j, hj⟩ := hi
  refine ⟨j, ?_⟩
  rw [List.getElem?_set_ne (fun h => ?_)]
  · exact hj
  · subst h
    rw [hk] at hj
    cases hj
    exact hb rfl
theorem cT.up {cy : Nat → ClassId} {G : cG} {ws ws1 : va_W} {a : Nat} {e : va_E} {t : Nat × Nat × Nat} (h : cT cy G ws) (hU : cUp ws a e ws1) (hg : G a = some t) (he : cok cy G t e) : cT cy G ws1 := by
  intro b t' hb
  by_cases hab : b = a
  · subst hab
    rw [hg] at hb
    cases hb
    exact ⟨e, hU.1, he⟩
  · obtain ⟨e', h1, h2⟩ := h b t' hb
    exact ⟨e', hU.2 b e' hab h1, h2⟩
theorem cF.up {P : Nat → Prop} {ws ws1 : va_W} {a : Nat} {e : va_E} (hU : cUp ws a e ws1) (ha : P a) : cF P ws ws1 := fun b e' hb hi => hU.2 b e' (fun h => hb (h ▸ ha)) hi
/-- a new cell -/
theorem cT.add {cy : Nat → ClassId} {G : cG} {ws : va_W} {a : Nat} {e : va_E} {t : Nat × Nat × Nat} (h : cT cy G ws) (hn : G a = none) (he : cok cy (va_up G a (some t)) t e) : cT cy (va_up G a (some t)) (ws ++ [(a, e)]) := by
  have hE : cE G (va_up G a (some t)) := fun b t' hb => by
    unfold va_up
    split
    · rename_i hz; subst hz; rw [hn] at hb; cases hb
    · exact hb
  intro b t' hb
  unfold va_up at hb
  split at hb
  · rename_i hz
    subst hz
    cases hb
    exact ⟨e, ⟨ws.length, by simp⟩, he⟩
  · obtain ⟨e', ⟨k, hk⟩, h2⟩ := h b t' hb
    exact ⟨e', ⟨k, by rw [List.getElem?_append_left (List.getElem?_eq_some_iff.mp hk).1]; exact hk⟩, h2.mono hE⟩
theorem cE.add {G : cG} {a : Nat} {t : Nat × Nat × Nat} (hn : G a = none) : cE G (va_up G a (some t)) := fun b t' hb => by
  unfold va_up
  split
  · rename_i hz; subst hz; rw [hn] at hb; cases hb
  · exact hb
theorem cIn.add {ws : va_W} {a : Nat} {e : va_E} {q : Nat × va_E} (h : cIn ws a e) : cIn (ws ++ [q]) a e := by
  obtain ⟨k, hk⟩ := h
  exact ⟨k, by rw [List.getElem?_append_left (List.getElem?_eq_some_iff.mp hk).1]; exact hk⟩
theorem cIn.new {ws : va_W} {a : Nat} {e : va_E} : cIn (ws ++ [(a, e)]) a e := ⟨ws.length, by simp⟩
theorem cG.none {cy : Nat → ClassId} {G : cG} {ws : va_W} {A : Nat → Prop} {a : Nat} {e : va_E} (h : cT cy G ws) (hD : va_D A (ws ++ [(a, e)])) : G a = none := by
  cases hg : G a with
  | none => rfl
  | some t =>
    obtain ⟨e', ⟨k, hk⟩, -⟩ := h a t hg
    have hlt : k < ws.length := (List.getElem?_eq_some_iff.mp hk).1
    have h1 : (ws ++ [(a, e)])[k]? = some (a, e') := by rw [List.getElem?_append_left hlt]; exact hk
    have h2 : (ws ++ [(a, e)])[ws.length]? = some (a, e) := by simp
    have := hD.1 k ws.length _ _ h1 h2 rfl
    omega
theorem c_fresh {ws : va_W} {A : Nat → Prop} {q : Nat} {e0 : va_E} (hD : va_D A (ws ++ [(q, e0)])) : ∀ e, ¬ cIn ws q e := fun e ⟨k, hk⟩ => by
  have hlt : k < ws.length := (List.getElem?_eq_some_iff.mp hk).1
  have h1 : (ws ++ [(q, e0)])[k]? = some (q, e) := by rw [List.getElem?_append_left hlt]; exact hk
  have h2 : (ws ++ [(q, e0)])[ws.length]? = some (q, e0) := by simp
  have := hD.1 k ws.length _ _ h1 h2 rfl
  omega
abbrev cS : Type := cG × va_W
def cB (D : va_G) (cy : Nat → ClassId) (A : Nat → Prop) : cS → State → Prop := fun u t => va_P D vwCl u.2 t.heap ∧ va_D A u.2 ∧ cT cy u.1 u.2
/-- what the tables say beside the words: links within the nest, who can be cast to what -/
def cV (U : State) : Prop := (va_Nw (.methodLinkNest RX9 33 yX8_init "ShadowBench") U ∧ va_Nw (.methodLinkNest RX3 3 yX2_init "ShadowBench") U ∧ va_Nw (.methodLinkNest RX9 189 yX6_init "ShadowBench") U ∧ va_Nw (.methodLinkNest RX7 1 yX2_init "ShadowBench") U) ∧
  (va_Nw (.castable RX1 RX3) U ∧ va_Nw (.castable RX4 RX3) U ∧ va_Nw (.castable RX5 RX3) U) ∧ (va_Nw (.castable RX1 RX2) U ∧ va_Nw (.castable RX3 RX2) U ∧ va_Nw (.castable RX4 RX2) U ∧ va_Nw (.castable RX5 RX2) U ∧ va_Nw (.castable RX7 RX2) U) ∧
  (va_Nc RX1 RX5 U ∧ va_Nc RX3 RX5 U ∧ va_Nc RX4 RX5 U) ∧ (va_Nc RX1 RX7 U ∧ va_Nc RX3 RX7 U ∧ va_Nc RX4 RX7 U ∧ va_Nc RX5 RX7 U) ∧ va_Nc RX7 RX3 U
theorem cV.warm {s U : State} (hW : s.WarmedH U.vm) (h : cV s) : cV U := by
  obtain ⟨⟨a1, a2, a3, a4⟩, ⟨b1, b2, b3⟩, ⟨c1, c2, c3, c4, c5⟩, ⟨d1, d2, d3⟩, ⟨e1, e2, e3, e4⟩, f1⟩ := h
  exact ⟨⟨a1.warmM hW, a2.warmM hW, a3.warmM hW, a4.warmM hW⟩, ⟨b1.warmC hW, b2.warmC hW, b3.warmC hW⟩, ⟨c1.warmC hW, c2.warmC hW, c3.warmC hW, c4.warmC hW, c5.warmC hW⟩, ⟨d1.moved hW.alike, d2.moved hW.alike, d3.moved hW.alike⟩, ⟨e1.moved hW.alike, e2.moved hW.alike, e3.moved hW.alike, e4.moved hW.alike⟩, f1.moved hW.alike⟩
def cPc (D : va_G) (cy : Nat → ClassId) (A : Nat → Prop) (ws : va_W) (av : List Value) : Array Value → State → Prop := va_Pc av (fun U => va_P D vwCl ws U.heap ∧ va_K D vwCl (cTy cy) U ∧ (∀ q, U.heap.size ≤ q → A q) ∧ cV U)
/-- what a piece of work may change: the cell q, cells of the kinds ch -/
def cP (q : Option Nat) (ch : Nat → Bool) (G : cG) (a : Nat) : Prop := q = some a ∨ cK ch G a
/-- behind a piece of work: kinds stay, cells that may not change are as they were, what has a kind now had it or is new -/
def cX (q : Option Nat) (ch : Nat → Bool) (G : cG) (w : va_W) (G1 : cG) (w1 : va_W) : Prop := cE G G1 ∧ cF (cP q ch G) w w1 ∧ ∀ a t, G1 a = some t → G a = some t ∨ cP q ch G a ∨ ∀ e, ¬ cIn w a e
theorem cX.rf {q : Option Nat} {ch : Nat → Bool} {G : cG} {w : va_W} : cX q ch G w G w := ⟨cE.rf, cF.rf, fun _ _ h => Or.inl h⟩
theorem cX.no {q : Option Nat} {ch : Nat → Bool} {G G1 : cG} {w w1 : va_W} (h : cX q ch G w G1 w1) {a : Nat} {e : va_E} (hn : ¬ cP q ch G a) (hi : cIn w a e) : ¬ cK ch G1 a := by
  rintro ⟨t, h1, h2⟩
  rcases h.2.2 a t h1 with h3 | h3 | h3
  · exact hn (Or.inr ⟨t, h3, h2⟩)
  · exact hn h3
  · exact h3 e hi
theorem cX.third {q : Option Nat} {ch : Nat → Bool} {G G1 : cG} {w w1 : va_W} (h : cX q ch G w G1 w1) {a : Nat} (h3 : cK ch G1 a ∨ ∀ e, ¬ cIn w1 a e) : cP q ch G a ∨ ∀ e, ¬ cIn w a e := by
  by_cases hp : cP q ch G a
  · exact Or.inl hp
  · refine Or.inr (fun e hi => ?_)
    rcases h3 with h3 | h3
    · exact h.no hp hi h3
    · exact h3 e (h.2.1 a e hp hi)
theorem cX.tr {q : Option Nat} {ch : Nat → Bool} {G G1 G2 : cG} {w w1 w2 : va_W} (h : cX q ch G w G1 w1) (h' : cX q ch G1 w1 G2 w2) : cX q ch G w G2 w2 := by
  refine ⟨h.1.tr h'.1, fun a e hp hi => h'.2.1 a e ?_ (h.2.1 a e hp hi), fun a t ht => ?_⟩
  · rintro (z | z)
    · exact hp (Or.inl z)
    · exact h.no hp hi z
  · rcases h'.2.2 a t ht with z | (z | z) | z
    · exact h.2.2 a t z
    · exact Or.inr (Or.inl (Or.inl z))
    · exact Or.inr (h.third (Or.inl z))
    · exact Or.inr (h.third (Or.inr z))
/-- work that may also change a cell that wasn't there at first -/
theorem cX.trN {q : Option Nat} {b : Nat} {ch : Nat → Bool} {G G1 G2 : cG} {w w1 w2 : va_W} (h : cX q ch G w G1 w1) (hb : ∀ e, ¬ cIn w b e) (h' : cX (some b) ch G1 w1 G2 w2) : cX q ch G w G2 w2 := by
  refine ⟨h.1.tr h'.1, fun a e hp hi => h'.2.1 a e ?_ (h.2.1 a e hp hi), fun a t ht => ?_⟩
  · rintro (z | z)
    · cases z; exact hb e hi
    · exact h.no hp hi z
  · rcases h'.2.2 a t ht with z | (z | z) | z
    · exact h.2.2 a t z
    · cases z; exact Or.inr (Or.inr hb)
    · exact Or.inr (h.third (Or.inl z))
    · exact Or.inr (h.third (Or.inr z))
theorem cX.wk {q : Option Nat} {c1 c2 : Nat → Bool} {G G1 : cG} {w w1 : va_W} (h : cX q c1 G w G1 w1) (hc : ∀ k, c1 k = true → c2 k = true) : cX q c2 G w G1 w1 := by
  have hP : ∀ a, cP q c1 G a → cP q c2 G a := fun a z => z.elim Or.inl (fun ⟨t, h1, h2⟩ => Or.inr ⟨t, h1, hc _ h2⟩)
  exact ⟨h.1, fun a e hp hi => h.2.1 a e (fun z => hp (hP a z)) hi, fun a t ht => (h.2.2 a t ht).elim Or.inl (fun z => z.elim (fun z => Or.inr (Or.inl (hP a z))) (fun z => Or.inr (Or.inr z)))⟩
theorem cX.wq {q : Option Nat} {ch : Nat → Bool} {G G1 : cG} {w w1 : va_W} (h : cX none ch G w G1 w1) : cX q ch G w G1 w1 := by
  have hP : ∀ a, cP none ch G a → cP q ch G a := fun a z => z.elim (fun z => by cases z) Or.inr
  exact ⟨h.1, fun a e hp hi => h.2.1 a e (fun z => hp (hP a z)) hi, fun a t ht => (h.2.2 a t ht).elim Or.inl (fun z => z.elim (fun z => Or.inr (Or.inl (hP a z))) (fun z => Or.inr (Or.inr z)))⟩
theorem cX.up {q : Option Nat} {ch : Nat → Bool} {G : cG} {w w1 : va_W} {a : Nat} {e : va_E} (hU : cUp w a e w1) (ha : cP q ch G a) : cX q ch G w G w1 := ⟨cE.rf, cF.up hU ha, fun _ _ h => Or.inl h⟩
theorem cX.uF {q : Option Nat} {ch : Nat → Bool} {G : cG} {w w1 : va_W} {a : Nat} (hU : cF (fun b => b = a) w w1) (ha : cP q ch G a) : cX q ch G w G w1 := ⟨cE.rf, hU.wk (fun b hb => hb ▸ ha), fun _ _ h => Or.inl h⟩
/-- a cell that wasn't there at first is written -/
theorem cX.upN {q : Option Nat} {ch : Nat → Bool} {G G1 : cG} {w w1 w2 : va_W} {b : Nat} {e : va_E} (h : cX q ch G w G1 w1) (hb : ∀ e, ¬ cIn w b e) (hU : cUp w1 b e w2) : cX q ch G w G1 w2 := h.trN hb (cX.up hU (Or.inl rfl))
theorem cX.trG {q : Option Nat} {ch : Nat → Bool} {G G1 : cG} {w w1 w2 : va_W} {P : Nat → Prop} (h : cX q ch G w G1 w1) (hP : ∀ b, P b → ∀ e, ¬ cIn w b e) (hF : cF P w1 w2) : cX q ch G w G1 w2 := ⟨h.1, fun a e hn hi => hF a e (fun z => hP a z e hi) (h.2.1 a e hn hi), h.2.2⟩
theorem cP.no {ch : Nat → Bool} {G : cG} {a : Nat} {t : Nat × Nat × Nat} (hg : G a = some t) (hc : ch t.1 = false) : ¬ cP none ch G a := fun z => z.elim (fun z => by cases z) (cK.no hg hc)
theorem cP.no1 {ch : Nat → Bool} {G : cG} {a b : Nat} {t : Nat × Nat × Nat} (hb : a ≠ b) (hg : G a = some t) (hc : ch t.1 = false) : ¬ cP (some b) ch G a := fun z => z.elim (fun z => by cases z; exact hb rfl) (cK.no hg hc)
theorem cP.no0 {ch : Nat → Bool} {G : cG} {a : Nat} (hg : G a = none) : ¬ cP none ch G a := fun z => z.elim (fun z => by cases z) (cK.no0 hg)
theorem cP.no01 {ch : Nat → Bool} {G : cG} {a b : Nat} (hb : a ≠ b) (hg : G a = none) : ¬ cP (some b) ch G a := fun z => z.elim (fun z => by cases z; exact hb rfl) (cK.no0 hg)
theorem cne0 {G : cG} {a b : Nat} {t : Nat × Nat × Nat} (ha : G a = none) (hb : G b = some t) : a ≠ b := by
  rintro rfl
  rw [ha] at hb
  cases hb
/-- the kinds of a list -/
def chs (l : List Nat) : Nat → Bool := fun k => l.contains k
/-- an answer that may be null -/
def cQa (post : Option Nat → cS → Prop) (B : cS → State → Prop) (A : Nat → Prop) : Array Value → State → Outcome → State → Prop := fun _ st oc t => (∃ (r : Option Nat) (u : cS), oc = .returned (some (va_rf r)) ∧ post r u ∧ B u t) ∧ va_F A st t
/-- a method of the class that answers an int, a long, nothing, a reference -/
def Ci (l : Launch) (D : va_G) (cy : Nat → ClassId) (A : Nat → Prop) (y : MethodName) (wc : List Cond) (rm : Room) (mc ms : Nat) (ws : va_W) (av : List Value) (post : Int32 → cS → Prop) : Prop := Met l y wc rm (cPc D cy A ws av) (va_Qi post (cB D cy A) A) mc ms A
def Cl (l : Launch) (D : va_G) (cy : Nat → ClassId) (A : Nat → Prop) (y : MethodName) (wc : List Cond) (rm : Room) (mc ms : Nat) (ws : va_W) (av : List Value) (post : Int64 → cS → Prop) : Prop := Met l y wc rm (cPc D cy A ws av) (va_Ql post (cB D cy A) A) mc ms A
def Cv (l : Launch) (D : va_G) (cy : Nat → ClassId) (A : Nat → Prop) (y : MethodName) (wc : List Cond) (rm : Room) (mc ms : Nat) (ws : va_W) (av : List Value) (post : cS → Prop) : Prop := Met l y wc rm (cPc D cy A ws av) (va_Qv post (cB D cy A) A) mc ms A
def Ca (l : Launch) (D : va_G) (cy : Nat → ClassId) (A : Nat → Prop) (y : MethodName) (wc : List Cond) (rm : Room) (mc ms : Nat) (ws : va_W) (av : List Value) (post : Option Nat → cS → Prop) : Prop := Met l y wc rm (cPc D cy A ws av) (cQa post (cB D cy A) A) mc ms A
theorem cy_int {D : va_G} {cl : List vw_C} {tys tys' : List (ClassId × FieldType)} {s : State} {c1 c2 : ClassId} {ty : FieldType} {i j : Nat} (hK : va_K D cl tys s) (hK' : va_K D cl tys' s) (h1 : tys[i]? = some (c1, ty)) (h2 : tys'[j]? = some (c2, ty)) (hp : ty = .int ∨ ty = .long) : c2 = c1 := by
  have a1 := (hK.2 i _ h1).2
  have a2 := (hK'.2 j _ h2).2
  rcases hp with rfl | rfl <;> exact Option.some.inj (a2.symm.trans a1)
def cKc (k : Nat) : Prop := k = 1 ∨ k = 2 ∨ k = 3 ∨ k = 4
theorem cJk.kc {G : cG} {k n w' h' : Nat} {ms : List Value} (h : cJk G k n w' h' ms) : cKc k := by
  rcases h with ⟨-, ⟨h, -⟩ | ⟨h, -⟩ | ⟨h, -⟩ | ⟨h, -⟩⟩
  · exact Or.inl h
  · exact Or.inr (Or.inl h)
  · exact Or.inr (Or.inr (Or.inl h))
  · exact Or.inr (Or.inr (Or.inr h))
theorem txj : ∀ k, k < 5 → TX1 k = TX3 k ∧ TX4 k = TX3 k ∧ TX5 k = TX3 k := by decide +kernel
theorem cX.new0 {ch : Nat → Bool} {G G1 : cG} {w w1 : va_W} (h : cX none ch G w G1 w1) {q : Nat} (hg : G1 q = none) (hn : ∀ e, ¬ cIn w1 q e) : ∀ e, ¬ cIn w q e := fun e hi => by
  refine hn e (h.2.1 q e ?_ hi)
  rintro (z | ⟨t, z, -⟩)
  · cases z
  · rw [h.1 _ _ z] at hg; cases hg
theorem cX.new1 {b : Nat} {e0 : va_E} {ch : Nat → Bool} {G G1 : cG} {w w1 : va_W} (h : cX (some b) ch G w G1 w1) (hb : cIn w1 b e0) {q : Nat} (hg : G1 q = none) (hn : ∀ e, ¬ cIn w1 q e) : ∀ e, ¬ cIn w q e := fun e hi => by
  refine hn e (h.2.1 q e ?_ hi)
  rintro (z | ⟨t, z, -⟩)
  · cases z; exact hn _ hb
  · rw [h.1 _ _ z] at hg; cases hg
theorem cT.no {cy : Nat → ClassId} {G : cG} {w : va_W} (hT : cT cy G w) {q : Nat} (hn : ∀ e, ¬ cIn w q e) : G q = none := by
  cases hg : G q with
  | none => rfl
  | some t => obtain ⟨e, h1, -⟩ := hT q t hg; exact absurd h1 (hn e)
theorem cX.none0 {q : Option Nat} {ch : Nat → Bool} {G G1 : cG} {w w1 : va_W} (h : cX q ch G w G1 w1) {x : Nat} {e : va_E} (hn : ¬ cP q ch G x) (hg : G x = none) (hi : cIn w x e) : G1 x = none := by
  cases h1 : G1 x with
  | none => rfl
  | some t =>
    rcases h.2.2 x t h1 with z | z | z
    · rw [hg] at z; cases z
    · exact absurd z hn
    · exact absurd hi (z e)
theorem cT.up0 {cy : Nat → ClassId} {G : cG} {ws ws1 : va_W} {a : Nat} {e : va_E} (h : cT cy G ws) (hU : cUp ws a e ws1) (hg : G a = none) : cT cy G ws1 := by
  intro b t hb
  obtain ⟨e', h1, h2⟩ := h b t hb
  exact ⟨e', hU.2 b e' (fun z => by rw [z, hg] at hb; cases hb) h1, h2⟩
theorem chs_sub {l1 l2 : List Nat} (h : l1.all (fun k => l2.contains k) = true) : ∀ k, chs l1 k = true → chs l2 k = true := by
  intro k hk
  unfold chs at hk ⊢
  rw [List.contains_iff_mem] at hk
  exact (List.all_eq_true.mp h) k hk
theorem cJ4 {G : cG} {n w' h' : Nat} {ms : List Value} (h : cJk G 4 n w' h' ms) : n = 8 * w' + h' ∧ ∃ c : Nat, ms = [.ref c] ∧ G c = some (14, w' * h', 0) := by
  rcases h with ⟨h1, ⟨h, -⟩ | ⟨h, -⟩ | ⟨h, -⟩ | ⟨-, c, h2, h3⟩⟩
  · cases h
  · cases h
  · cases h
  · exact ⟨h1, c, h2, h3⟩
theorem cb_mul {w h : Nat} (hb : 1 ≤ w ∧ w ≤ 6 ∧ 1 ≤ h ∧ h ≤ 6) : 1 ≤ w * h ∧ w * h ≤ 36 := by
  obtain ⟨h1, h2, h3, h4⟩ := hb
  exact ⟨Nat.mul_le_mul h1 h3, Nat.mul_le_mul h2 h4⟩
theorem cb_pow {w h : Nat} (hb : 1 ≤ w ∧ w ≤ 6 ∧ 1 ≤ h ∧ h ≤ 6) : 2 ≤ 2 ^ w ∧ 2 ^ w ≤ 64 := by
  obtain ⟨h1, h2, h3, h4⟩ := hb
  exact ⟨Nat.pow_le_pow_right (n := 2) (by decide) h1, Nat.pow_le_pow_right (n := 2) (by decide) h2⟩
theorem cb_fo {w h : Nat} (hb : 1 ≤ w ∧ w ≤ 6 ∧ 1 ≤ h ∧ h ≤ 6) : cfo w h ≤ 225 := by
  have : ∀ w, w < 7 → ∀ h, h < 7 → cfo w h ≤ 225 := by decide
  exact this w (by omega) h (by omega)
theorem c_hb {cy : Nat → ClassId} {G : cG} {ws : va_W} {b w h : Nat} (hT : cT cy G ws) (hg : G b = some (2, w, h)) : 1 ≤ w ∧ w ≤ 6 ∧ 1 ≤ h ∧ h ≤ 6 := by
  obtain ⟨_, _, h0, _⟩ := hT _ _ hg
  exact h0
theorem va_rf_inj {a b : Option Nat} (h : va_rf a = va_rf b) : a = b := by
  cases a <;> cases b <;> simp [va_rf] at h ⊢
  exact h
theorem c5 {cy : Nat → ClassId} {A : Nat → Prop} {G : cG} {ws : va_W} {o z1 z2 a1 a2 a3 a4 a5 : Nat} {j : Option Nat} {y tr sp : Int32} {fd : Int64} (hD : va_D A ws) (hT : cT cy G ws) (hG : G o = some (5, z1, z2)) (hM : cIn ws o (.inr (7, [va_rf j, .int y, .int tr, .int sp, .long fd, .ref a1, .ref a2, .ref a3, .ref a4, .ref a5]))) : isBo sp ∧ (∀ x, j = some x → ∃ k n, G x = some (3, k, n)) ∧ G a1 = some (20, 6, 0) ∧ G a2 = some (21, 6, 0) ∧ G a3 = some (22, 6, 0) ∧ G a4 = some (23, 6, 0) ∧ G a5 = some (1, 6, 0) := by
  obtain ⟨_, h9, j', y', tr', sp', fd', b1, b2, b3, b4, b5, rfl, h1, h2, h3, h4, h5, h6, h7⟩ := hT _ _ hG
  have z := cIn.eq hD hM h9
  simp only [Sum.inr.injEq, Prod.mk.injEq, List.cons.injEq, Value.int.injEq, Value.long.injEq, Value.ref.injEq, and_true, true_and] at z
  obtain ⟨e1, e2, e3, e4, e5, e6, e7, e8, e9, e10⟩ := z
  have e1 := va_rf_inj e1
  subst e1; subst e4; subst e6; subst e7; subst e8; subst e9; subst e10
  exact ⟨h1, h2, h3, h4, h5, h6, h7⟩
theorem isBo_z {z : Int32} (h : isBo z) : narrow .boolean (.int z) = .int z := by
  rcases h with h | h <;> rw [h] <;> decide
theorem isBo_f {z : Int32} (h : isBo z) : fits .boolean (.int z) = true := by
  rcases h with h | h <;> rw [h] <;> decide
theorem isBo_bo {z : Int32} {P : Prop} (h : Bo z P) : isBo z := by
  rcases h with ⟨h, -⟩ | ⟨h, -⟩
  · exact Or.inr h
  · exact Or.inl h
section CR
variable {p : Program} {l : Launch} {e : Env} {R : Room} {s : State} {m : MethodId} {args : Array Value} {below : List Frame} {meth : Method} {c : Code} {H : Heap} {locs : List Loc} {cells slots : Nat} {Q : State → Prop}
variable {cc : ByteArray} {pc : Nat} {ls : Array Slot} {rest : List Value} {D : va_G} {cy : Nat → ClassId} {A : Nat → Prop} {ws : va_W} {G : cG} {H0 : Heap} {own ref : String} {index : Nat} {Ts : List Cond}
theorem t_get {C : String} {T : u_T} {N ci : Nat} (hx : p.tables.exec = Jvm.exec) (hb : c.code = cc) (hts : ∀ w ∈ Ts, w.before args s = true) (hin : ∀ w ∈ u_ws C T N, w ∈ Ts) (hown : s.vm.findClass own = some m.cls) (hK : va_K D vwCl (cTy cy) s) (hP : va_P D vwCl ws H) {o : Nat} {fs : List Value} (ho : cIn ws o (.inr (ci, fs))) (hc : vwCl[ci]? = some (C, T, N)) (k : Nat) (hk : k < N) (hlink : (Cond.fieldLink own index ref (T k).2.1 (T k).2.2.1).before args s = true) (hsame : ∀ x, s.fieldFound? (T k).1 (T k).2.1 (T k).2.2.1 = some x → s.fieldFound? ref (T k).2.1 (T k).2.2.1 = some x) {v : Value} (hv : fs[k]? = some v) (hdg : decode cc pc = .ok (.getfield index, 3))
    (kk : W p l e R s m args below meth c H locs cells slots Q (F0 m (pc + 3) ls (v :: rest))) : W p l e R s m args below meth c H locs cells slots Q (F0 m pc ls (.ref o :: rest)) := by
  obtain ⟨q0, hq⟩ := ho
  exact va_get hx hb hts hin hown hK hP q0 hq hc k hk hlink hsame hv hdg kk
theorem t_put {C : String} {T : u_T} {N ci : Nat} {ty0 : Nat → FieldType} (hx : p.tables.exec = Jvm.exec) (hb : c.code = cc) (hts : ∀ w ∈ Ts, w.before args s = true) (hin : ∀ w ∈ u_ws C T N, w ∈ Ts) (hty : ∀ k, k < N → parseFieldDescriptor (T k).2.2.1 = some (ty0 k)) (hnm : ∀ a, a < N → ∀ b, b < N → a ≠ b → (T a).2.1 ≠ (T b).2.1) (hown : s.vm.findClass own = some m.cls) (hK : va_K D vwCl (cTy cy) s) (hP : va_P D vwCl ws H) (hD : va_D A ws) (hS : va_S A H0 H locs) {o : Nat} {fs : List Value} (ho : cIn ws o (.inr (ci, fs))) (hc : vwCl[ci]? = some (C, T, N)) (k : Nat) (hk : k < N) (hlink : (Cond.fieldLink own index ref (T k).2.1 (T k).2.2.1).before args s = true) (hsame : ∀ x, s.fieldFound? (T k).1 (T k).2.1 (T k).2.2.1 = some x → s.fieldFound? ref (T k).2.1 (T k).2.2.1 = some x) (hfin : (T k).2.2.2 = false) {v : Value} (hn : narrow (ty0 k) v = v) (hfit : fits (ty0 k) v = true) (hl : k < fs.length) (hdg : decode cc pc = .ok (.putfield index, 3))
    (kk : ∀ (H1 : Heap) (locs1 : List Loc) (ws1 : va_W), cUp ws o (.inr (ci, fs.set k v)) ws1 → va_P D vwCl ws1 H1 → va_D A ws1 → va_S A H0 H1 locs1 → W p l e R s m args below meth c H1 locs1 cells slots Q (F0 m (pc + 3) ls rest)) : W p l e R s m args below meth c H locs cells slots Q (F0 m pc ls (v :: .ref o :: rest)) := by
  obtain ⟨q0, hq⟩ := ho
  exact va_put hx hb hts hin ty0 hty hnm hown hK hP hD hS q0 hq hc k hk hlink hsame hfin (hty k hk) hn hfit hl hdg (fun H1 locs1 h1 h2 h3 => kk H1 locs1 _ (cUp.set hq) h1 h2 h3)
theorem t_putF {C : String} {T : u_T} {N ci : Nat} {ty0 : Nat → FieldType} (hx : p.tables.exec = Jvm.exec) (hb : c.code = cc) (hts : ∀ w ∈ Ts, w.before args s = true) (hin : ∀ w ∈ u_ws C T N, w ∈ Ts) (hty : ∀ k, k < N → parseFieldDescriptor (T k).2.2.1 = some (ty0 k)) (hnm : ∀ a, a < N → ∀ b, b < N → a ≠ b → (T a).2.1 ≠ (T b).2.1) (hown : s.vm.findClass own = some m.cls) (hK : va_K D vwCl (cTy cy) s) (hP : va_P D vwCl ws H) (hD : va_D A ws) (hS : va_S A H0 H locs) {o : Nat} {fs : List Value} (ho : cIn ws o (.inr (ci, fs))) (hc : vwCl[ci]? = some (C, T, N)) (k : Nat) (hk : k < N) (hlink : (Cond.fieldLink own index ref (T k).2.1 (T k).2.2.1).before args s = true) (hsame : ∀ x, s.fieldFound? (T k).1 (T k).2.1 (T k).2.2.1 = some x → s.fieldFound? ref (T k).2.1 (T k).2.2.1 = some x) (hfin : (T k).2.2.2 = true) (hin2 : meth.name = "<init>") (hdecl : (T k).1 = own) {v : Value} (hn : narrow (ty0 k) v = v) (hfit : fits (ty0 k) v = true) (hl : k < fs.length) (hdg : decode cc pc = .ok (.putfield index, 3))
    (kk : ∀ (H1 : Heap) (locs1 : List Loc) (ws1 : va_W), cUp ws o (.inr (ci, fs.set k v)) ws1 → va_P D vwCl ws1 H1 → va_D A ws1 → va_S A H0 H1 locs1 → W p l e R s m args below meth c H1 locs1 cells slots Q (F0 m (pc + 3) ls rest)) : W p l e R s m args below meth c H locs cells slots Q (F0 m pc ls (v :: .ref o :: rest)) := by
  obtain ⟨q0, hq⟩ := ho
  exact va_putF hx hb hts hin ty0 hty hnm hown hK hP hD hS q0 hq hc k hk hlink hsame hfin hin2 hdecl (hty k hk) hn hfit hl hdg (fun H1 locs1 h1 h2 h3 => kk H1 locs1 _ (cUp.set hq) h1 h2 h3)
/-- a field that every job has, of a job of any class -/
theorem t_getJ (hx : p.tables.exec = Jvm.exec) (hb : c.code = cc) (hts : ∀ w ∈ Ts, w.before args s = true) (hinJ : ∀ w ∈ wsX10 ++ wsX30 ++ wsX40 ++ wsX50, w ∈ Ts) (hown : s.vm.findClass own = some m.cls) (hK : va_K D vwCl (cTy cy) s) (hP : va_P D vwCl ws H) {o kc : Nat} {fs : List Value} (hJ : cKc kc) (ho : cIn ws o (.inr (kc, fs))) (k : Nat) (hk : k < 5) (hlink : (Cond.fieldLink own index ref (TX3 k).2.1 (TX3 k).2.2.1).before args s = true) (hsame : ∀ x, s.fieldFound? (TX3 k).1 (TX3 k).2.1 (TX3 k).2.2.1 = some x → s.fieldFound? ref (TX3 k).2.1 (TX3 k).2.2.1 = some x) {v : Value} (hv : fs[k]? = some v) (hdg : decode cc pc = .ok (.getfield index, 3))
    (kk : W p l e R s m args below meth c H locs cells slots Q (F0 m (pc + 3) ls (v :: rest))) : W p l e R s m args below meth c H locs cells slots Q (F0 m pc ls (.ref o :: rest)) := by
  obtain ⟨t1, t4, t5⟩ := txj k hk
  rcases hJ with rfl | rfl | rfl | rfl
  · exact t_get (C := RX1) (T := TX1) (N := 5) hx hb hts (fun w h => hinJ w (by simp [h])) hown hK hP ho rfl k hk (by rw [t1]; exact hlink) (by rw [t1]; exact hsame) hv hdg kk
  · exact t_get (C := RX3) (T := TX3) (N := 5) hx hb hts (fun w h => hinJ w (by simp [h])) hown hK hP ho rfl k hk hlink hsame hv hdg kk
  · exact t_get (C := RX4) (T := TX4) (N := 5) hx hb hts (fun w h => hinJ w (by simp [h])) hown hK hP ho rfl k hk (by rw [t4]; exact hlink) (by rw [t4]; exact hsame) hv hdg kk
  · exact t_get (C := RX5) (T := TX5) (N := 6) hx hb hts (fun w h => hinJ w (by simp [h])) hown hK hP ho rfl k (by omega) (by rw [t5]; exact hlink) (by rw [t5]; exact hsame) hv hdg kk
theorem t_putJ (hx : p.tables.exec = Jvm.exec) (hb : c.code = cc) (hts : ∀ w ∈ Ts, w.before args s = true) (hinJ : ∀ w ∈ wsX10 ++ wsX30 ++ wsX40 ++ wsX50, w ∈ Ts) (hown : s.vm.findClass own = some m.cls) (hK : va_K D vwCl (cTy cy) s) (hP : va_P D vwCl ws H) (hD : va_D A ws) (hS : va_S A H0 H locs) {o kc : Nat} {fs : List Value} (hJ : cKc kc) (ho : cIn ws o (.inr (kc, fs))) (k : Nat) (hk : k < 5) (hlink : (Cond.fieldLink own index ref (TX3 k).2.1 (TX3 k).2.2.1).before args s = true) (hsame : ∀ x, s.fieldFound? (TX3 k).1 (TX3 k).2.1 (TX3 k).2.2.1 = some x → s.fieldFound? ref (TX3 k).2.1 (TX3 k).2.2.1 = some x) (hfin : (TX3 k).2.2.2 = false) {v : Value} (hn : narrow (tyX3 k) v = v) (hfit : fits (tyX3 k) v = true) (hl : k < fs.length) (hdg : decode cc pc = .ok (.putfield index, 3))
    (kk : ∀ (H1 : Heap) (locs1 : List Loc) (ws1 : va_W), cUp ws o (.inr (kc, fs.set k v)) ws1 → va_P D vwCl ws1 H1 → va_D A ws1 → va_S A H0 H1 locs1 → W p l e R s m args below meth c H1 locs1 cells slots Q (F0 m (pc + 3) ls rest)) : W p l e R s m args below meth c H locs cells slots Q (F0 m pc ls (v :: .ref o :: rest)) := by
  obtain ⟨t1, t4, t5⟩ := txj k hk
  have y1 : ∀ k, k < 5 → tyX1 k = tyX3 k ∧ tyX4 k = tyX3 k ∧ tyX5 k = tyX3 k := by decide +kernel
  obtain ⟨y1, y4, y5⟩ := y1 k hk
  rcases hJ with rfl | rfl | rfl | rfl
  · exact t_put (C := RX1) (T := TX1) (N := 5) (ty0 := tyX1) hx hb hts (fun w h => hinJ w (by simp [h])) tyX1_ok nmX1 hown hK hP hD hS ho rfl k hk (by rw [t1]; exact hlink) (by rw [t1]; exact hsame) (by rw [t1]; exact hfin) (by rw [y1]; exact hn) (by rw [y1]; exact hfit) hl hdg kk
  · exact t_put (C := RX3) (T := TX3) (N := 5) (ty0 := tyX3) hx hb hts (fun w h => hinJ w (by simp [h])) tyX3_ok nmX3 hown hK hP hD hS ho rfl k hk hlink hsame hfin hn hfit hl hdg kk
  · exact t_put (C := RX4) (T := TX4) (N := 5) (ty0 := tyX4) hx hb hts (fun w h => hinJ w (by simp [h])) tyX4_ok nmX4 hown hK hP hD hS ho rfl k hk (by rw [t4]; exact hlink) (by rw [t4]; exact hsame) (by rw [t4]; exact hfin) (by rw [y4]; exact hn) (by rw [y4]; exact hfit) hl hdg kk
  · exact t_put (C := RX5) (T := TX5) (N := 6) (ty0 := tyX5) hx hb hts (fun w h => hinJ w (by simp [h])) tyX5_ok nmX5 hown hK hP hD hS ho rfl k (by omega) (by rw [t5]; exact hlink) (by rw [t5]; exact hsame) (by rw [t5]; exact hfin) (by rw [y5]; exact hn) (by rw [y5]; exact hfit) hl hdg kk
theorem t_putFJ (hx : p.tables.exec = Jvm.exec) (hb : c.code = cc) (hts : ∀ w ∈ Ts, w.before args s = true) (hinJ : ∀ w ∈ wsX10 ++ wsX30 ++ wsX40 ++ wsX50, w ∈ Ts) (hown : s.vm.findClass own = some m.cls) (hK : va_K D vwCl (cTy cy) s) (hP : va_P D vwCl ws H) (hD : va_D A ws) (hS : va_S A H0 H locs) {o kc : Nat} {fs : List Value} (hJ : cKc kc) (ho : cIn ws o (.inr (kc, fs))) (k : Nat) (hk : k < 5) (hlink : (Cond.fieldLink own index ref (TX3 k).2.1 (TX3 k).2.2.1).before args s = true) (hsame : ∀ x, s.fieldFound? (TX3 k).1 (TX3 k).2.1 (TX3 k).2.2.1 = some x → s.fieldFound? ref (TX3 k).2.1 (TX3 k).2.2.1 = some x) (hfin : (TX3 k).2.2.2 = true) (hin2 : meth.name = "<init>") (hdecl : (TX3 k).1 = own) {v : Value} (hn : narrow (tyX3 k) v = v) (hfit : fits (tyX3 k) v = true) (hl : k < fs.length) (hdg : decode cc pc = .ok (.putfield index, 3))
    (kk : ∀ (H1 : Heap) (locs1 : List Loc) (ws1 : va_W), cUp ws o (.inr (kc, fs.set k v)) ws1 → va_P D vwCl ws1 H1 → va_D A ws1 → va_S A H0 H1 locs1 → W p l e R s m args below meth c H1 locs1 cells slots Q (F0 m (pc + 3) ls rest)) : W p l e R s m args below meth c H locs cells slots Q (F0 m pc ls (v :: .ref o :: rest)) := by
  obtain ⟨t1, t4, t5⟩ := txj k hk
  have y1 : ∀ k, k < 5 → tyX1 k = tyX3 k ∧ tyX4 k = tyX3 k ∧ tyX5 k = tyX3 k := by decide +kernel
  obtain ⟨y1, y4, y5⟩ := y1 k hk
  rcases hJ with rfl | rfl | rfl | rfl
  · exact t_putF (C := RX1) (T := TX1) (N := 5) (ty0 := tyX1) hx hb hts (fun w h => hinJ w (by simp [h])) tyX1_ok nmX1 hown hK hP hD hS ho rfl k hk (by rw [t1]; exact hlink) (by rw [t1]; exact hsame) (by rw [t1]; exact hfin) hin2 (by rw [t1]; exact hdecl) (by rw [y1]; exact hn) (by rw [y1]; exact hfit) hl hdg kk
  · exact t_putF (C := RX3) (T := TX3) (N := 5) (ty0 := tyX3) hx hb hts (fun w h => hinJ w (by simp [h])) tyX3_ok nmX3 hown hK hP hD hS ho rfl k hk hlink hsame hfin hin2 hdecl hn hfit hl hdg kk
  · exact t_putF (C := RX4) (T := TX4) (N := 5) (ty0 := tyX4) hx hb hts (fun w h => hinJ w (by simp [h])) tyX4_ok nmX4 hown hK hP hD hS ho rfl k hk (by rw [t4]; exact hlink) (by rw [t4]; exact hsame) (by rw [t4]; exact hfin) hin2 (by rw [t4]; exact hdecl) (by rw [y4]; exact hn) (by rw [y4]; exact hfit) hl hdg kk
  · exact t_putF (C := RX5) (T := TX5) (N := 6) (ty0 := tyX5) hx hb hts (fun w h => hinJ w (by simp [h])) tyX5_ok nmX5 hown hK hP hD hS ho rfl k (by omega) (by rw [t5]; exact hlink) (by rw [t5]; exact hsame) (by rw [t5]; exact hfin) hin2 (by rw [t5]; exact hdecl) (by rw [y5]; exact hn) (by rw [y5]; exact hfit) hl hdg kk
theorem cIa {k n z a : Nat} (hT : cT cy G ws) (hk : k = 0 ∨ k = 14 ∨ k = 20 ∨ k = 21 ∨ k = 22 ∨ k = 23) (hg : G a = some (k, n, z)) : ∃ w : Nat → Int32, cIn ws a (.inl (cy 0, n, .inl w)) := by
  rcases hk with rfl | rfl | rfl | rfl | rfl | rfl
  · obtain ⟨_, h, w, rfl⟩ := hT _ _ hg; exact ⟨w, h⟩
  · obtain ⟨_, h, w, rfl⟩ := hT _ _ hg; exact ⟨w, h⟩
  · obtain ⟨_, h, w, rfl⟩ := hT _ _ hg; exact ⟨w, h⟩
  · obtain ⟨_, h, w, rfl⟩ := hT _ _ hg; exact ⟨w, h⟩
  · obtain ⟨_, h, w, rfl⟩ := hT _ _ hg; exact ⟨w, h⟩
  · obtain ⟨_, h, w, rfl⟩ := hT _ _ hg; exact ⟨w, h⟩
theorem cIo {k n z : Nat} {w : Nat → Int32} (hk : k = 0 ∨ k = 14 ∨ k = 20 ∨ k = 21 ∨ k = 22 ∨ k = 23) : cok cy G (k, n, z) (.inl (cy 0, n, .inl w)) := by
  rcases hk with rfl | rfl | rfl | rfl | rfl | rfl
  · exact ⟨_, rfl⟩
  · exact ⟨_, rfl⟩
  · exact ⟨_, rfl⟩
  · exact ⟨_, rfl⟩
  · exact ⟨_, rfl⟩
  · exact ⟨_, rfl⟩
theorem cLa {k n z a : Nat} (hT : cT cy G ws) (hk : k = 1 ∨ k = 16 ∨ k = 17) (hg : G a = some (k, n, z)) : ∃ w : Nat → Int64, cIn ws a (.inl (cy 1, n, .inr (.inl w))) := by
  rcases hk with rfl | rfl | rfl
  · obtain ⟨_, h, w, rfl⟩ := hT _ _ hg; exact ⟨w, h⟩
  · obtain ⟨_, h, w, rfl⟩ := hT _ _ hg; exact ⟨w, h⟩
  · obtain ⟨_, h, w, rfl⟩ := hT _ _ hg; exact ⟨w, h⟩
theorem cLo {k n z : Nat} {w : Nat → Int64} (hk : k = 1 ∨ k = 16 ∨ k = 17) : cok cy G (k, n, z) (.inl (cy 1, n, .inr (.inl w))) := by
  rcases hk with rfl | rfl | rfl
  · exact ⟨_, rfl⟩
  · exact ⟨_, rfl⟩
  · exact ⟨_, rfl⟩
theorem t_iald (hx : p.tables.exec = Jvm.exec) (hb : c.code = cc) (hK : va_K D vwCl (cTy cy) s) (hP : va_P D vwCl ws H) (hT : cT cy G ws) {a n z : Nat} {k9 : Nat} (hk9 : k9 = 0 ∨ k9 = 14 ∨ k9 = 20 ∨ k9 = 21 ∨ k9 = 22 ∨ k9 = 23) (hg : G a = some (k9, n, z)) {i : Int32} (hin : vp_in i n) (hdg : decode cc pc = .ok (.iaload, 1))
    (kk : ∀ v : Int32, W p l e R s m args below meth c H locs cells slots Q (F0 m (pc + 1) ls (.int v :: rest))) : W p l e R s m args below meth c H locs cells slots Q (F0 m pc ls (.int i :: .ref a :: rest)) := by
  obtain ⟨w, q0, hq⟩ := cIa hT hk9 hg
  exact va_iald hx hb hK hP q0 0 hq rfl hin hdg (kk _)
theorem t_lald (hx : p.tables.exec = Jvm.exec) (hb : c.code = cc) (hK : va_K D vwCl (cTy cy) s) (hP : va_P D vwCl ws H) (hT : cT cy G ws) {a n z : Nat} {k9 : Nat} (hk9 : k9 = 1 ∨ k9 = 16 ∨ k9 = 17) (hg : G a = some (k9, n, z)) {i : Int32} (hin : vp_in i n) (hdg : decode cc pc = .ok (.laload, 1))
    (kk : ∀ v : Int64, W p l e R s m args below meth c H locs cells slots Q (F0 m (pc + 1) ls (.long v :: rest))) : W p l e R s m args below meth c H locs cells slots Q (F0 m pc ls (.int i :: .ref a :: rest)) := by
  obtain ⟨w, q0, hq⟩ := cLa hT hk9 hg
  exact va_lald hx hb hK hP q0 1 hq rfl hin hdg (kk _)
theorem t_lald11 (hx : p.tables.exec = Jvm.exec) (hb : c.code = cc) (hK : va_K D vwCl (cTy cy) s) (hP : va_P D vwCl ws H) (hT : cT cy G ws) {a w h : Nat} (hg : G a = some (11, w, h)) {i : Int32} (hin : vp_in i 44) (hdg : decode cc pc = .ok (.laload, 1))
    (kk : W p l e R s m args below meth c H locs cells slots Q (F0 m (pc + 1) ls (.long (bLn w h i.toNatClampNeg) :: rest))) : W p l e R s m args below meth c H locs cells slots Q (F0 m pc ls (.int i :: .ref a :: rest)) := by
  obtain ⟨_, ⟨q0, hq⟩, rfl⟩ := hT _ _ hg
  exact va_lald hx hb hK hP q0 1 hq rfl hin hdg kk
theorem t_alen11 (hx : p.tables.exec = Jvm.exec) (hb : c.code = cc) (hK : va_K D vwCl (cTy cy) s) (hP : va_P D vwCl ws H) (hT : cT cy G ws) {a w h : Nat} (hg : G a = some (11, w, h)) (hdg : decode cc pc = .ok (.arraylength, 1))
    (kk : W p l e R s m args below meth c H locs cells slots Q (F0 m (pc + 1) ls (.int (nI 44) :: rest))) : W p l e R s m args below meth c H locs cells slots Q (F0 m pc ls (.ref a :: rest)) := by
  obtain ⟨_, ⟨q0, hq⟩, rfl⟩ := hT _ _ hg
  exact va_alen hx hb hK hP q0 1 hq rfl rfl hdg kk
theorem t_lald12 (hx : p.tables.exec = Jvm.exec) (hb : c.code = cc) (hK : va_K D vwCl (cTy cy) s) (hP : va_P D vwCl ws H) (hT : cT cy G ws) {a w h : Nat} (hg : G a = some (12, w, h)) {i : Int32} (hin : vp_in i (cfo w h)) (hdg : decode cc pc = .ok (.laload, 1))
    (kk : W p l e R s m args below meth c H locs cells slots Q (F0 m (pc + 1) ls (.long (bFN w h (cfo w h) i.toNatClampNeg) :: rest))) : W p l e R s m args below meth c H locs cells slots Q (F0 m pc ls (.int i :: .ref a :: rest)) := by
  obtain ⟨_, ⟨q0, hq⟩, rfl⟩ := hT _ _ hg
  exact va_lald hx hb hK hP q0 1 hq rfl hin hdg kk
theorem t_lald13 (hx : p.tables.exec = Jvm.exec) (hb : c.code = cc) (hK : va_K D vwCl (cTy cy) s) (hP : va_P D vwCl ws H) (hT : cT cy G ws) {a w h : Nat} (hg : G a = some (13, w, h)) {i : Int32} (hin : vp_in i (cfo w h)) (hdg : decode cc pc = .ok (.laload, 1))
    (kk : W p l e R s m args below meth c H locs cells slots Q (F0 m (pc + 1) ls (.long (bRN w h (cfo w h) i.toNatClampNeg) :: rest))) : W p l e R s m args below meth c H locs cells slots Q (F0 m pc ls (.int i :: .ref a :: rest)) := by
  obtain ⟨_, ⟨q0, hq⟩, rfl⟩ := hT _ _ hg
  exact va_lald hx hb hK hP q0 1 hq rfl hin hdg kk
/-- a row whose content is known, and that has no kind yet -/
theorem t_laldM (hx : p.tables.exec = Jvm.exec) (hb : c.code = cc) (hK : va_K D vwCl (cTy cy) s) (hP : va_P D vwCl ws H) {a n : Nat} {f : Nat → Int64} (hM : cIn ws a (.inl (cy 1, n, .inr (.inl f)))) {i : Int32} (hin : vp_in i n) (hdg : decode cc pc = .ok (.laload, 1))
    (kk : W p l e R s m args below meth c H locs cells slots Q (F0 m (pc + 1) ls (.long (f i.toNatClampNeg) :: rest))) : W p l e R s m args below meth c H locs cells slots Q (F0 m pc ls (.int i :: .ref a :: rest)) := by
  obtain ⟨q0, hq⟩ := hM
  exact va_lald hx hb hK hP q0 1 hq rfl hin hdg kk
theorem t_lastM (hx : p.tables.exec = Jvm.exec) (hb : c.code = cc) (hK : va_K D vwCl (cTy cy) s) (hP : va_P D vwCl ws H) (hD : va_D A ws) (hS : va_S A H0 H locs) (hT : cT cy G ws) {a n : Nat} {f : Nat → Int64} (hg : G a = none) (hM : cIn ws a (.inl (cy 1, n, .inr (.inl f)))) {i : Int32} {x : Int64} (hin : vp_in i n) (hdg : decode cc pc = .ok (.lastore, 1))
    (kk : ∀ (H1 : Heap) (locs1 : List Loc) (ws1 : va_W), cUp ws a (.inl (cy 1, n, .inr (.inl (vp_updL f i.toNatClampNeg x)))) ws1 → va_P D vwCl ws1 H1 → va_D A ws1 → cT cy G ws1 → va_S A H0 H1 locs1 → W p l e R s m args below meth c H1 locs1 cells slots Q (F0 m (pc + 1) ls rest)) : W p l e R s m args below meth c H locs cells slots Q (F0 m pc ls (.long x :: .int i :: .ref a :: rest)) := by
  obtain ⟨q0, hq⟩ := hM
  exact va_last hx hb hK hP hD hS q0 1 hq rfl hin hdg (fun H1 locs1 h1 h2 h3 => kk H1 locs1 _ (cUp.set hq) h1 h2 (hT.up0 (cUp.set hq) hg) h3)
theorem t_iast (hx : p.tables.exec = Jvm.exec) (hb : c.code = cc) (hK : va_K D vwCl (cTy cy) s) (hP : va_P D vwCl ws H) (hD : va_D A ws) (hS : va_S A H0 H locs) (hT : cT cy G ws) {a n z : Nat} {k9 : Nat} (hk9 : k9 = 0 ∨ k9 = 14 ∨ k9 = 20 ∨ k9 = 21 ∨ k9 = 22 ∨ k9 = 23) (hg : G a = some (k9, n, z)) {i x : Int32} (hin : vp_in i n) (hdg : decode cc pc = .ok (.iastore, 1))
    (kk : ∀ (H1 : Heap) (locs1 : List Loc) (ws1 : va_W), cF (fun b => b = a) ws ws1 → va_P D vwCl ws1 H1 → va_D A ws1 → cT cy G ws1 → va_S A H0 H1 locs1 → W p l e R s m args below meth c H1 locs1 cells slots Q (F0 m (pc + 1) ls rest)) : W p l e R s m args below meth c H locs cells slots Q (F0 m pc ls (.int x :: .int i :: .ref a :: rest)) := by
  obtain ⟨w, q0, hq⟩ := cIa hT hk9 hg
  exact va_iast hx hb hK hP hD hS q0 0 hq rfl hin hdg (fun H1 locs1 h1 h2 h3 => kk H1 locs1 _ (cF.up (cUp.set hq) rfl) h1 h2 (hT.up (cUp.set hq) hg (cIo hk9)) h3)
theorem t_last (hx : p.tables.exec = Jvm.exec) (hb : c.code = cc) (hK : va_K D vwCl (cTy cy) s) (hP : va_P D vwCl ws H) (hD : va_D A ws) (hS : va_S A H0 H locs) (hT : cT cy G ws) {a n z : Nat} {k9 : Nat} (hk9 : k9 = 1 ∨ k9 = 16 ∨ k9 = 17) (hg : G a = some (k9, n, z)) {i : Int32} {x : Int64} (hin : vp_in i n) (hdg : decode cc pc = .ok (.lastore, 1))
    (kk : ∀ (H1 : Heap) (locs1 : List Loc) (ws1 : va_W), cF (fun b => b = a) ws ws1 → va_P D vwCl ws1 H1 → va_D A ws1 → cT cy G ws1 → va_S A H0 H1 locs1 → W p l e R s m args below meth c H1 locs1 cells slots Q (F0 m (pc + 1) ls rest)) : W p l e R s m args below meth c H locs cells slots Q (F0 m pc ls (.long x :: .int i :: .ref a :: rest)) := by
  obtain ⟨w, q0, hq⟩ := cLa hT hk9 hg
  exact va_last hx hb hK hP hD hS q0 1 hq rfl hin hdg (fun H1 locs1 h1 h2 h3 => kk H1 locs1 _ (cF.up (cUp.set hq) rfl) h1 h2 (hT.up (cUp.set hq) hg (cLo hk9)) h3)
theorem t_alenI (hx : p.tables.exec = Jvm.exec) (hb : c.code = cc) (hK : va_K D vwCl (cTy cy) s) (hP : va_P D vwCl ws H) (hT : cT cy G ws) {a n z : Nat} {k9 : Nat} (hk9 : k9 = 0 ∨ k9 = 14 ∨ k9 = 20 ∨ k9 = 21 ∨ k9 = 22 ∨ k9 = 23) (hg : G a = some (k9, n, z)) (hdg : decode cc pc = .ok (.arraylength, 1))
    (kk : W p l e R s m args below meth c H locs cells slots Q (F0 m (pc + 1) ls (.int (nI n) :: rest))) : W p l e R s m args below meth c H locs cells slots Q (F0 m pc ls (.ref a :: rest)) := by
  obtain ⟨w, q0, hq⟩ := cIa hT hk9 hg
  exact va_alen hx hb hK hP q0 0 hq rfl rfl hdg kk
theorem t_alenL (hx : p.tables.exec = Jvm.exec) (hb : c.code = cc) (hK : va_K D vwCl (cTy cy) s) (hP : va_P D vwCl ws H) (hT : cT cy G ws) {a n z : Nat} {k9 : Nat} (hk9 : k9 = 1 ∨ k9 = 16 ∨ k9 = 17) (hg : G a = some (k9, n, z)) (hdg : decode cc pc = .ok (.arraylength, 1))
    (kk : W p l e R s m args below meth c H locs cells slots Q (F0 m (pc + 1) ls (.int (nI n) :: rest))) : W p l e R s m args below meth c H locs cells slots Q (F0 m pc ls (.ref a :: rest)) := by
  obtain ⟨w, q0, hq⟩ := cLa hT hk9 hg
  exact va_alen hx hb hK hP q0 1 hq rfl rfl hdg kk
theorem t_aald8 (hx : p.tables.exec = Jvm.exec) (hb : c.code = cc) (hK : va_K D vwCl (cTy cy) s) (hP : va_P D vwCl ws H) (hT : cT cy G ws) {a n z : Nat} (hg : G a = some (8, n, z)) {i : Int32} (hin : vp_in i n) (hdg : decode cc pc = .ok (.aaload, 1))
    (kn : W p l e R s m args below meth c H locs cells slots Q (F0 m (pc + 1) ls (.null :: rest)))
    (ks : ∀ x, G x = some (2, i.toNatClampNeg % 6 + 1, i.toNatClampNeg / 6 + 1) → W p l e R s m args below meth c H locs cells slots Q (F0 m (pc + 1) ls (.ref x :: rest))) : W p l e R s m args below meth c H locs cells slots Q (F0 m pc ls (.int i :: .ref a :: rest)) := by
  obtain ⟨_, ⟨q0, hq⟩, f, rfl, hf⟩ := hT _ _ hg
  have hlt : i.toNatClampNeg < n := Nat.not_le.mp fun q => hin (Or.inr q)
  refine va_aldq hx hb hK hP q0 3 hq rfl hin hdg ?_
  cases hv : f i.toNatClampNeg with
  | none => exact kn
  | some x => exact ks x (hf _ x hlt hv)
theorem t_aald9 (hx : p.tables.exec = Jvm.exec) (hb : c.code = cc) (hK : va_K D vwCl (cTy cy) s) (hP : va_P D vwCl ws H) (hT : cT cy G ws) {a n z : Nat} (hg : G a = some (9, n, z)) {i : Int32} (hin : vp_in i n) (hdg : decode cc pc = .ok (.aaload, 1))
    (kn : W p l e R s m args below meth c H locs cells slots Q (F0 m (pc + 1) ls (.null :: rest)))
    (ks : ∀ x k n, G x = some (3, k, n) → W p l e R s m args below meth c H locs cells slots Q (F0 m (pc + 1) ls (.ref x :: rest))) : W p l e R s m args below meth c H locs cells slots Q (F0 m pc ls (.int i :: .ref a :: rest)) := by
  obtain ⟨_, ⟨q0, hq⟩, f, rfl, hf⟩ := hT _ _ hg
  have hlt : i.toNatClampNeg < n := Nat.not_le.mp fun q => hin (Or.inr q)
  refine va_aldq hx hb hK hP q0 4 hq rfl hin hdg ?_
  cases hv : f i.toNatClampNeg with
  | none => exact kn
  | some x =>
    obtain ⟨k, n, hg⟩ := hf _ x hlt hv
    exact ks x k n hg
theorem t_aald10 (hx : p.tables.exec = Jvm.exec) (hb : c.code = cc) (hK : va_K D vwCl (cTy cy) s) (hP : va_P D vwCl ws H) (hT : cT cy G ws) {a n z : Nat} (hg : G a = some (10, n, z)) {i : Int32} (hin : vp_in i n) (hdg : decode cc pc = .ok (.aaload, 1))
    (kn : W p l e R s m args below meth c H locs cells slots Q (F0 m (pc + 1) ls (.null :: rest)))
    (kj : ∀ x k n, G x = some (3, k, n) → W p l e R s m args below meth c H locs cells slots Q (F0 m (pc + 1) ls (.ref x :: rest)))
    (kr : ∀ x n, G x = some (4, n, 0) → W p l e R s m args below meth c H locs cells slots Q (F0 m (pc + 1) ls (.ref x :: rest))) : W p l e R s m args below meth c H locs cells slots Q (F0 m pc ls (.int i :: .ref a :: rest)) := by
  obtain ⟨_, ⟨q0, hq⟩, f, rfl, hf⟩ := hT _ _ hg
  have hlt : i.toNatClampNeg < n := Nat.not_le.mp fun q => hin (Or.inr q)
  refine va_aldq hx hb hK hP q0 5 hq rfl hin hdg ?_
  cases hv : f i.toNatClampNeg with
  | none => exact kn
  | some x =>
    rcases hf _ x hlt hv with ⟨k, n, hg⟩ | ⟨n, hg⟩
    · exact kj x k n hg
    · exact kr x n hg
/-- a new row of numbers -/
theorem t_newi (hx : p.tables.exec = Jvm.exec) (hb : c.code = cc) (harr : (Cond.arrayClass .int).before args s = true) (hK : va_K D vwCl (cTy cy) s) (hP : va_P D vwCl ws H) (hD : va_D A ws) (hS : va_S A H0 H locs) (hA : ∀ q, H0.size ≤ q → A q) (hT : cT cy G ws) {kd9 : Nat} (hk9 : kd9 = 0 ∨ kd9 = 14 ∨ kd9 = 20 ∨ kd9 = 21 ∨ kd9 = 22 ∨ kd9 = 23) (B : Nat) {n : Int32} {N : Nat} (hn : ¬ n < 0) (hN : n.toNatClampNeg = N) (hB : N ≤ B) (hB2 : B ≤ 100000) (hcells : cells + 1 ≤ R.cells) (hslots : slots + B ≤ R.slots) (hdg : decode cc pc = .ok (.newarray .int, 2))
    (kk : ∀ (q : Nat) (H1 : Heap) (ws1 : va_W) (G1 : cG), G1 q = some (kd9, N, 0) → G q = none → (∀ e, ¬ cIn ws q e) → (∀ q0 ch, cX q0 ch G ws G1 ws1) → (∀ a e, cIn ws a e → cIn ws1 a e) → (∀ a, a ≠ q → G1 a = G a) → va_P D vwCl ws1 H1 → va_D A ws1 → cT cy G1 ws1 → va_S A H0 H1 locs → W p l e R s m args below meth c H1 locs (cells + 1) (slots + B) Q (F0 m (pc + 2) ls (.ref q :: rest))) : W p l e R s m args below meth c H locs cells slots Q (F0 m pc ls (.int n :: rest)) := by
  refine va_newa (atype := .int) (ty := .int) (a0 := (N, .inl (fun _ => 0))) hx hb harr rfl hK hP hD hS hA (fun cA => by rw [vp_cell_i] <;> rfl) hn hN (by have : componentBytes .int = 4 := rfl; rw [this]; omega) hcells (by omega) hdg (fun q cA H1 hK1 hP1 hD1 hS1 => ?_)
  have e1 : cA = cy 0 := cy_int (i := 0) (j := 6) hK hK1 rfl rfl (Or.inl rfl)
  subst e1
  have hg : G q = none := cG.none hT hD1
  have hni : ∀ e, ¬ cIn ws q e := c_fresh hD1
  refine W.widen (k := cells + 1) (n := slots + B) (Nat.le_refl _) (by omega) (kk q H1 _ (va_up G q (some (kd9, N, 0))) (by simp [va_up]) hg hni (fun q0 ch => ⟨cE.add hg, fun a e _ hi => hi.add, fun a t ht => ?_⟩) (fun a e hi => hi.add) (fun a ha => by simp [va_up, ha]) hP1 hD1 (hT.add hg (cIo hk9)) hS1)
  by_cases ha : a = q
  · subst ha; exact Or.inr (Or.inr hni)
  · exact Or.inl (by simpa [va_up, ha] using ht)
theorem t_newl (hx : p.tables.exec = Jvm.exec) (hb : c.code = cc) (harr : (Cond.arrayClass .long).before args s = true) (hK : va_K D vwCl (cTy cy) s) (hP : va_P D vwCl ws H) (hD : va_D A ws) (hS : va_S A H0 H locs) (hA : ∀ q, H0.size ≤ q → A q) (hT : cT cy G ws) {kd9 : Nat} (hk9 : kd9 = 1 ∨ kd9 = 16 ∨ kd9 = 17) (B : Nat) {n : Int32} {N : Nat} (hn : ¬ n < 0) (hN : n.toNatClampNeg = N) (hB : N ≤ B) (hB2 : B ≤ 100000) (hcells : cells + 1 ≤ R.cells) (hslots : slots + B ≤ R.slots) (hdg : decode cc pc = .ok (.newarray .long, 2))
    (kk : ∀ (q : Nat) (H1 : Heap) (ws1 : va_W) (G1 : cG), G1 q = some (kd9, N, 0) → G q = none → (∀ e, ¬ cIn ws q e) → (∀ q0 ch, cX q0 ch G ws G1 ws1) → (∀ a e, cIn ws a e → cIn ws1 a e) → (∀ a, a ≠ q → G1 a = G a) → va_P D vwCl ws1 H1 → va_D A ws1 → cT cy G1 ws1 → va_S A H0 H1 locs → W p l e R s m args below meth c H1 locs (cells + 1) (slots + B) Q (F0 m (pc + 2) ls (.ref q :: rest))) : W p l e R s m args below meth c H locs cells slots Q (F0 m pc ls (.int n :: rest)) := by
  refine va_newa (atype := .long) (ty := .long) (a0 := (N, .inr (.inl (fun _ => 0)))) hx hb harr rfl hK hP hD hS hA (fun cA => by rw [vp_cell_l] <;> rfl) hn hN (by have : componentBytes .long = 8 := rfl; rw [this]; omega) hcells (by omega) hdg (fun q cA H1 hK1 hP1 hD1 hS1 => ?_)
  have e1 : cA = cy 1 := cy_int (i := 1) (j := 6) hK hK1 rfl rfl (Or.inr rfl)
  subst e1
  have hg : G q = none := cG.none hT hD1
  have hni : ∀ e, ¬ cIn ws q e := c_fresh hD1
  refine W.widen (k := cells + 1) (n := slots + B) (Nat.le_refl _) (by omega) (kk q H1 _ (va_up G q (some (kd9, N, 0))) (by simp [va_up]) hg hni (fun q0 ch => ⟨cE.add hg, fun a e _ hi => hi.add, fun a t ht => ?_⟩) (fun a e hi => hi.add) (fun a ha => by simp [va_up, ha]) hP1 hD1 (hT.add hg (cLo hk9)) hS1)
  by_cases ha : a = q
  · subst ha; exact Or.inr (Or.inr hni)
  · exact Or.inl (by simpa [va_up, ha] using ht)
/-- a new row without a kind -/
theorem t_newl0 (hx : p.tables.exec = Jvm.exec) (hb : c.code = cc) (harr : (Cond.arrayClass .long).before args s = true) (hK : va_K D vwCl (cTy cy) s) (hP : va_P D vwCl ws H) (hD : va_D A ws) (hS : va_S A H0 H locs) (hA : ∀ q, H0.size ≤ q → A q) (hT : cT cy G ws) (B : Nat) {n : Int32} {N : Nat} (hn : ¬ n < 0) (hN : n.toNatClampNeg = N) (hB : N ≤ B) (hB2 : B ≤ 100000) (hcells : cells + 1 ≤ R.cells) (hslots : slots + B ≤ R.slots) (hdg : decode cc pc = .ok (.newarray .long, 2))
    (kk : ∀ (q : Nat) (H1 : Heap) (ws1 : va_W), cIn ws1 q (.inl (cy 1, N, .inr (.inl (fun _ => 0)))) → G q = none → (∀ e, ¬ cIn ws q e) → (∀ q0 ch, cX q0 ch G ws G ws1) → (∀ a e, cIn ws a e → cIn ws1 a e) → va_P D vwCl ws1 H1 → va_D A ws1 → cT cy G ws1 → va_S A H0 H1 locs → W p l e R s m args below meth c H1 locs (cells + 1) (slots + B) Q (F0 m (pc + 2) ls (.ref q :: rest))) : W p l e R s m args below meth c H locs cells slots Q (F0 m pc ls (.int n :: rest)) := by
  refine va_newa (atype := .long) (ty := .long) (a0 := (N, .inr (.inl (fun _ => 0)))) hx hb harr rfl hK hP hD hS hA (fun cA => by rw [vp_cell_l] <;> rfl) hn hN (by have : componentBytes .long = 8 := rfl; rw [this]; omega) hcells (by omega) hdg (fun q cA H1 hK1 hP1 hD1 hS1 => ?_)
  have e1 : cA = cy 1 := cy_int (i := 1) (j := 6) hK hK1 rfl rfl (Or.inr rfl)
  subst e1
  have hg : G q = none := cG.none hT hD1
  have hni : ∀ e, ¬ cIn ws q e := c_fresh hD1
  exact W.widen (k := cells + 1) (n := slots + B) (Nat.le_refl _) (by omega) (kk q H1 _ cIn.new hg hni (fun q0 ch => ⟨cE.rf, fun a e _ hi => hi.add, fun a t ht => Or.inl ht⟩) (fun a e hi => hi.add) hP1 hD1 (fun a t ht => (hT a t ht).elim fun e z => ⟨e, z.1.add, z.2⟩) hS1)
/-- a new object: it has no kind yet -/
theorem t_new {C : String} {T : u_T} {N ci : Nat} {ty0 : Nat → FieldType} (hx : p.tables.exec = Jvm.exec) (hb : c.code = cc) (hts : ∀ w ∈ Ts, w.before args s = true) (hin : ∀ w ∈ u_ws C T N, w ∈ Ts) (hty : ∀ k, k < N → parseFieldDescriptor (T k).2.2.1 = some (ty0 k)) (hown : s.vm.findClass own = some m.cls) (hcl : (Cond.classLink own index C).before args s = true) (hinst : (Cond.instantiable C N).before args s = true) (hini : (Cond.initialized C).before args s = true) (hK : va_K D vwCl (cTy cy) s) (hP : va_P D vwCl ws H) (hD : va_D A ws) (hS : va_S A H0 H locs) (hA : ∀ q, H0.size ≤ q → A q) (hT : cT cy G ws) (hc : vwCl[ci]? = some (C, T, N)) {fs : List Value} (hfs : ∀ j, j < N → defaultValue (ty0 j) = vp_V fs j) (hcells : cells + 1 ≤ R.cells) (hslots : slots + N ≤ R.slots) (hdg : decode cc pc = .ok (.new index, 3))
    (kk : ∀ (q : Nat) (H1 : Heap) (ws1 : va_W), cIn ws1 q (.inr (ci, fs)) → G q = none → (∀ e, ¬ cIn ws q e) → (∀ q0 ch, cX q0 ch G ws G ws1) → (∀ a e, cIn ws a e → cIn ws1 a e) → va_P D vwCl ws1 H1 → va_D A ws1 → cT cy G ws1 → va_S A H0 H1 locs → W p l e R s m args below meth c H1 locs (cells + 1) (slots + N) Q (F0 m (pc + 3) ls (.ref q :: rest))) : W p l e R s m args below meth c H locs cells slots Q (F0 m pc ls rest) := by
  refine va_new (ci := ci) (fs := fs) hx hb hts hin ty0 hty hown hcl hinst hini hK hP hD hS hA hc hfs hcells hslots hdg (fun q H1 hP1 hD1 hS1 => ?_)
  have hg : G q = none := cG.none hT hD1
  have hni : ∀ e, ¬ cIn ws q e := c_fresh hD1
  exact kk q H1 _ cIn.new hg hni (fun q0 ch => ⟨cE.rf, fun a e _ hi => hi.add, fun a t ht => Or.inl ht⟩) (fun a e hi => hi.add) hP1 hD1 (fun a t ht => (hT a t ht).elim fun e z => ⟨e, z.1.add, z.2⟩) hS1
/-- an object gets its kind -/
theorem cT.kind {q : Nat} {t : Nat × Nat × Nat} {e : va_E} (hT : cT cy G ws) (hg : G q = none) (hi : cIn ws q e) (he : cok cy (va_up G q (some t)) t e) : cT cy (va_up G q (some t)) ws := by
  intro b t' hb
  unfold va_up at hb
  split at hb
  · rename_i hz
    subst hz
    cases hb
    exact ⟨e, hi, he⟩
  · obtain ⟨e', h1, h2⟩ := hT b t' hb
    exact ⟨e', h1, h2.mono (cE.add hg)⟩
theorem cX.kind {q : Nat} {t : Nat × Nat × Nat} {ch : Nat → Bool} (hg : G q = none) : cX (some q) ch G ws (va_up G q (some t)) ws := by
  refine ⟨cE.add hg, cF.rf, fun a t' h => ?_⟩
  by_cases ha : a = q
  · subst ha; exact Or.inr (Or.inl (Or.inl rfl))
  · exact Or.inl (by simpa [va_up, ha] using h)
variable {y : MethodName} {bytes : ByteArray} {maxL nL mc ms n : Nat} {ret : Option FieldType} {wc : List Cond} {rm : Room} {C : String} {b : Nat} {As st0 : List Value} {a : Array Value}
theorem c_blind {av : List Value} : FrameBlind (cPc D cy A ws av) := fun a' U g' mk h => ⟨h.1, h.2.1, va_K.moved (u := U) (U := U.calling g' mk a') (Vm.Alike.refl U.vm) h.2.2.1, h.2.2.2.1, h.2.2.2.2⟩
theorem c_preS {av : List Value} (hP : va_P D vwCl ws H) (hK : va_K D vwCl (cTy cy) s) (hA : ∀ q, s.heap.size ≤ q → A q) (hS : va_S A s.heap H locs) (hV : cV s) : PreS s H (cPc D cy A ws av) av := ⟨c_blind, fun U hU hW => ⟨rfl, by rw [hU]; exact hP, va_K.moved hW.alike hK, fun q h => hA q (Nat.le_trans hS.1 (by rw [← hU]; exact h)), hV.warm hW⟩⟩
theorem c_preV {av : List Value} {ci N : Nat} {T : u_T} {fs : List Value} (ho : cIn ws b (.inr (ci, fs))) (hc : vwCl[ci]? = some (C, T, N)) (hP : va_P D vwCl ws H) (hK : va_K D vwCl (cTy cy) s) (hA : ∀ q, s.heap.size ≤ q → A q) (hS : va_S A s.heap H locs) (hV : cV s) : PreV s H C b (cPc D cy A ws (.ref b :: av)) av := by
  obtain ⟨q0, hq⟩ := ho
  exact ⟨c_blind, va_recv hK hP hc hq, fun U hU hW => ⟨rfl, by rw [hU]; exact hP, va_K.moved hW.alike hK, fun q h => hA q (Nat.le_trans hS.1 (by rw [← hU]; exact h)), hV.warm hW⟩⟩
theorem t_calli {post : Int32 → cS → Prop} (hr : va_Run p l e R s m args below meth c H locs cells slots mc ms (F0 m pc ls st0) rest (va_Qi post (cB D cy A) A a) A) (hS : va_S A H0 H locs)
    (kk : ∀ (r : Int32) (u : cS) (H1 : Heap) (locs1 : List Loc), post r u → va_P D vwCl u.2 H1 → va_D A u.2 → cT cy u.1 u.2 → va_S A H0 H1 locs1 → W p l e R s m args below meth c H1 locs1 (cells + mc) (slots + ms) Q (F0 m (pc + 3) ls (.int r :: rest))) : W p l e R s m args below meth c H locs cells slots Q (F0 m pc ls st0) :=
  va_calli hr hS (fun q _ h => h) (fun q h => h) (fun r u t H1 locs1 ht hvm hp hB hz hk hS => by obtain ⟨h1, h2, h3⟩ := hB; rw [ht] at h1; exact kk r u H1 locs1 hp h1 h2 h3 hS)
theorem t_calll {post : Int64 → cS → Prop} (hr : va_Run p l e R s m args below meth c H locs cells slots mc ms (F0 m pc ls st0) rest (va_Ql post (cB D cy A) A a) A) (hS : va_S A H0 H locs)
    (kk : ∀ (r : Int64) (u : cS) (H1 : Heap) (locs1 : List Loc), post r u → va_P D vwCl u.2 H1 → va_D A u.2 → cT cy u.1 u.2 → va_S A H0 H1 locs1 → W p l e R s m args below meth c H1 locs1 (cells + mc) (slots + ms) Q (F0 m (pc + 3) ls (.long r :: rest))) : W p l e R s m args below meth c H locs cells slots Q (F0 m pc ls st0) :=
  va_calll hr hS (fun q _ h => h) (fun q h => h) (fun r u t H1 locs1 ht hvm hp hB hz hk hS => by obtain ⟨h1, h2, h3⟩ := hB; rw [ht] at h1; exact kk r u H1 locs1 hp h1 h2 h3 hS)
theorem t_callv {post : cS → Prop} (hr : va_Run p l e R s m args below meth c H locs cells slots mc ms (F0 m pc ls st0) rest (va_Qv post (cB D cy A) A a) A) (hS : va_S A H0 H locs)
    (kk : ∀ (u : cS) (H1 : Heap) (locs1 : List Loc), post u → va_P D vwCl u.2 H1 → va_D A u.2 → cT cy u.1 u.2 → va_S A H0 H1 locs1 → W p l e R s m args below meth c H1 locs1 (cells + mc) (slots + ms) Q (F0 m (pc + 3) ls rest)) : W p l e R s m args below meth c H locs cells slots Q (F0 m pc ls st0) :=
  va_callv hr hS (fun q _ h => h) (fun q h => h) (fun u t H1 locs1 ht hvm hp hB hz hk hS => by obtain ⟨h1, h2, h3⟩ := hB; rw [ht] at h1; exact kk u H1 locs1 hp h1 h2 h3 hS)
theorem t_calla {post : Option Nat → cS → Prop} (hr : va_Run p l e R s m args below meth c H locs cells slots mc ms (F0 m pc ls st0) rest (cQa post (cB D cy A) A a) A) (hS : va_S A H0 H locs)
    (kk : ∀ (r : Option Nat) (u : cS) (H1 : Heap) (locs1 : List Loc), post r u → va_P D vwCl u.2 H1 → va_D A u.2 → cT cy u.1 u.2 → va_S A H0 H1 locs1 → W p l e R s m args below meth c H1 locs1 (cells + mc) (slots + ms) Q (F0 m (pc + 3) ls (va_rf r :: rest))) : W p l e R s m args below meth c H locs cells slots Q (F0 m pc ls st0) := by
  intro T hT X
  obtain ⟨v, st₀, t, T', L, h0, X', hL, e1, e2, ⟨⟨r, u, hv, hp, h1, h2, h3⟩, hz, hk⟩, st⟩ := hr T hT X
  cases hv
  rw [h0] at hz hk
  obtain ⟨t2, a1, b1⟩ := kk r u T'.heap (locs ++ L) hp (by rw [e1]; exact h1) h2 h3
    ⟨Nat.le_trans hS.1 (by rw [e1]; exact hz), fun q g1 g2 => by rw [e1, hk q (Nat.lt_of_lt_of_le g1 hS.1) g2]; exact hS.2.1 q g1 g2, fun q hq => by
      rcases List.mem_append.mp hq with h | h
      · exact hS.2.2 q h
      · exact hL q h⟩ T' rfl X'
  exact ⟨t2, st t2 a1, b1⟩
/-- a call of a method that every job has from Job, on a job of any class -/
theorem t_runJ {Pc : Array Value → State → Prop} {Qc : Array Value → State → Outcome → State → Prop} {free : Addr → Prop} {x : MethodName} {owner : String} {g : JFrame} {kc : Nat} {fs : List Value} (S : CallFix p m c cc nL s args Ts own) (hM : Met l y wc rm Pc Qc mc ms free)
    (cw1 : va_CU R s args own RX1 owner index x y bytes maxL ret wc rm mc ms n) (cw3 : CallW R s args own RX3 index y bytes maxL ret wc rm mc ms n) (cw4 : va_CU R s args own RX4 owner index x y bytes maxL ret wc rm mc ms n) (cw5 : va_CU R s args own RX5 owner index x y bytes maxL ret wc rm mc ms n) (hJ : cKc kc) (ho : cIn ws b (.inr (kc, fs))) (hP : va_P D vwCl ws H) (hK : va_K D vwCl (cTy cy) s) (hbl : FrameBlind Pc) (hpre : ∀ U, U.heap = H → s.WarmedH U.vm → Pc (Value.ref b :: As).toArray U)
    (hg : g.method = m) (hn : As.length = n) (hsize : g.locals.size = nL) (hstack : g.stack = As.reverse ++ .ref b :: rest) (hW : 2 * g.monitorRoom + (rest.map fun v => v.category).sum ≤ 8) (hdg : decode cc g.pc = .ok (.invokevirtual index, 3)) (hf : cells + mc ≤ R.cells ∧ slots + ms ≤ R.slots) :
    va_Run p l e R s m args below meth c H locs cells slots mc ms g rest (Qc (Value.ref b :: As).toArray) free := by
  obtain ⟨q0, hq⟩ := ho
  rcases hJ with rfl | rfl | rfl | rfl
  · exact va_runU S hM cw1 ⟨hbl, va_recv (ci := 1) hK hP rfl hq, hpre⟩ hg hn hsize hstack hW hdg hf
  · exact va_runV S hM cw3 ⟨hbl, va_recv (ci := 2) hK hP rfl hq, hpre⟩ hg hn hsize hstack hW hdg hf
  · exact va_runU S hM cw4 ⟨hbl, va_recv (ci := 3) hK hP rfl hq, hpre⟩ hg hn hsize hstack hW hdg hf
  · exact va_runU S hM cw5 ⟨hbl, va_recv (ci := 4) hK hP rfl hq, hpre⟩ hg hn hsize hstack hW hdg hf
/-- a static method that touches no cell -/
theorem t_pu {post : Int32 → Prop} (S : CallFix p m c cc nL s args Ts own) (hM : Pu l y wc rm As post) (cw : CallB R s args own index y bytes maxL ret wc rm 0 0 n ∧ (Cond.static y).before args s = true) (hP : va_P D vwCl ws H) (hn : As.length = n) (hsize : ls.size = nL) (hstack : st0 = As.reverse ++ rest) (hW : (rest.map fun v => v.category).sum ≤ 8) (hdg : decode cc pc = .ok (.invokestatic index, 3)) (hf : cells ≤ R.cells ∧ slots ≤ R.slots) (hS : va_S A H0 H locs)
    (kk : ∀ (r0 : Int32) (H1 : Heap) (locs1 : List Loc), post r0 → va_P D vwCl ws H1 → va_S A H0 H1 locs1 → W p l e R s m args below meth c H1 locs1 cells slots Q (F0 m (pc + 3) ls (.int r0 :: rest))) : W p l e R s m args below meth c H locs cells slots Q (F0 m pc ls st0) := by
  refine va_calli (va_runS (g := F0 m pc ls st0) S hM cw ⟨fun a U g mk h => h, fun U hU hW => ⟨rfl, trivial⟩⟩ rfl hn hsize hstack (lv_room hW) hdg ⟨hf.1, hf.2⟩) hS (fun q _ h => h.elim) (fun q h => h.elim) (fun r u t H1 locs1 ht hvm hp hB hz hk hS => ?_)
  exact kk r H1 locs1 hp (m_keep hP (fun x h => hk x h id)) hS
theorem t_copyi (hx : p.tables.exec = Jvm.exec) (hb : c.code = cc) (hml : c.maxLocals = ls.size) (hown : s.vm.findClass own = some m.cls) (hlink : (Cond.methodLink own index arraycopyName).before args s = true) (hnat : (Cond.native arraycopyName).before args s = true) (hstat : (Cond.static arraycopyName).before args s = true) (hini : (Cond.initialized "java/lang/System").before args s = true) (hK : va_K D vwCl (cTy cy) s) (hP : va_P D vwCl ws H) (hD : va_D A ws) (hS : va_S A H0 H locs) (hT : cT cy G ws) {a0 a1 n0 n1 z0 z1 : Nat} {k8 k9 : Nat} (hk8 : k8 = 0 ∨ k8 = 14 ∨ k8 = 20 ∨ k8 = 21 ∨ k8 = 22 ∨ k8 = 23) (hk9 : k9 = 0 ∨ k9 = 14 ∨ k9 = 20 ∨ k9 = 21 ∨ k9 = 22 ∨ k9 = 23) (hg0 : G a0 = some (k8, n0, z0)) (hg1 : G a1 = some (k9, n1, z1)) {sp dp n : Int32} (h1 : 0 ≤ sp.toInt) (h2 : 0 ≤ dp.toInt) (h3 : 0 ≤ n.toInt) (h4 : sp.toInt + n.toInt ≤ n0) (h5 : dp.toInt + n.toInt ≤ n1) (hframes : 1 ≤ R.frames) (hlocals : (rest.map fun v => v.category).sum + (nativeFrameWords "java/lang/System" "arraycopy" 5 + 11) ≤ R.locals) (hdg : decode cc pc = .ok (.invokestatic index, 3))
    (kk : ∀ (H1 : Heap) (locs1 : List Loc) (ws1 : va_W), cF (fun b => b = a1) ws ws1 → va_P D vwCl ws1 H1 → va_D A ws1 → cT cy G ws1 → va_S A H0 H1 locs1 → W p l e R s m args below meth c H1 locs1 cells slots Q (F0 m (pc + 3) ls rest)) : W p l e R s m args below meth c H locs cells slots Q (F0 m pc ls (.int n :: .int dp :: .ref a1 :: .int sp :: .ref a0 :: rest)) := by
  obtain ⟨w0, q0, hq0⟩ := cIa hT hk8 hg0
  obtain ⟨w1, q1, hq1⟩ := cIa hT hk9 hg1
  have e1 := m_cl h1
  have e2 := m_cl h2
  have e3 := m_cl h3
  have lz : ∀ x : Int32, 0 ≤ x.toInt → ¬ x < 0 := fun x h z => by rw [fa_lt] at z; have : (0 : Int32).toInt = 0 := rfl; omega
  exact va_copyi hx hb hml hown hlink hnat hstat hini hK hP hD hS q0 q1 0 0 (ty := .int) hq0 hq1 rfl rfl rfl (lz _ h1) (lz _ h2) (lz _ h3) (by omega) (by omega) (fun i _ => rfl) hframes hlocals hdg (fun H1 locs1 k1 k2 k3 => kk H1 locs1 _ (cF.up (cUp.set hq1) rfl) k1 k2 (hT.up (cUp.set hq1) hg1 (cIo hk9)) k3)
theorem t_copyl (hx : p.tables.exec = Jvm.exec) (hb : c.code = cc) (hml : c.maxLocals = ls.size) (hown : s.vm.findClass own = some m.cls) (hlink : (Cond.methodLink own index arraycopyName).before args s = true) (hnat : (Cond.native arraycopyName).before args s = true) (hstat : (Cond.static arraycopyName).before args s = true) (hini : (Cond.initialized "java/lang/System").before args s = true) (hK : va_K D vwCl (cTy cy) s) (hP : va_P D vwCl ws H) (hD : va_D A ws) (hS : va_S A H0 H locs) (hT : cT cy G ws) {a0 a1 n0 n1 z0 z1 : Nat} {k8 k9 : Nat} (hk8 : k8 = 1 ∨ k8 = 16 ∨ k8 = 17) (hk9 : k9 = 1 ∨ k9 = 16 ∨ k9 = 17) (hg0 : G a0 = some (k8, n0, z0)) (hg1 : G a1 = some (k9, n1, z1)) {sp dp n : Int32} (h1 : 0 ≤ sp.toInt) (h2 : 0 ≤ dp.toInt) (h3 : 0 ≤ n.toInt) (h4 : sp.toInt + n.toInt ≤ n0) (h5 : dp.toInt + n.toInt ≤ n1) (hframes : 1 ≤ R.frames) (hlocals : (rest.map fun v => v.category).sum + (nativeFrameWords "java/lang/System" "arraycopy" 5 + 11) ≤ R.locals) (hdg : decode cc pc = .ok (.invokestatic index, 3))
    (kk : ∀ (H1 : Heap) (locs1 : List Loc) (ws1 : va_W), cF (fun b => b = a1) ws ws1 → va_P D vwCl ws1 H1 → va_D A ws1 → cT cy G ws1 → va_S A H0 H1 locs1 → W p l e R s m args below meth c H1 locs1 cells slots Q (F0 m (pc + 3) ls rest)) : W p l e R s m args below meth c H locs cells slots Q (F0 m pc ls (.int n :: .int dp :: .ref a1 :: .int sp :: .ref a0 :: rest)) := by
  obtain ⟨w0, q0, hq0⟩ := cLa hT hk8 hg0
  obtain ⟨w1, q1, hq1⟩ := cLa hT hk9 hg1
  have e1 := m_cl h1
  have e2 := m_cl h2
  have e3 := m_cl h3
  have lz : ∀ x : Int32, 0 ≤ x.toInt → ¬ x < 0 := fun x h z => by rw [fa_lt] at z; have : (0 : Int32).toInt = 0 := rfl; omega
  exact va_copyl hx hb hml hown hlink hnat hstat hini hK hP hD hS q0 q1 1 1 (ty := .long) hq0 hq1 rfl rfl rfl (lz _ h1) (lz _ h2) (lz _ h3) (by omega) (by omega) (fun i _ => rfl) hframes hlocals hdg (fun H1 locs1 k1 k2 k3 => kk H1 locs1 _ (cF.up (cUp.set hq1) rfl) k1 k2 (hT.up (cUp.set hq1) hg1 (cLo hk9)) k3)
theorem c_upf {f : Nat → Option Nat} {n i j x v : Nat} {P : Nat → Nat → Prop} (hf : ∀ i x, i < n → f i = some x → P i x) (hv : P i v) (hj : j < n) (h : va_up f i (some v) j = some x) : P j x := by
  unfold va_up at h
  split at h
  · rename_i z; subst z; cases h; exact hv
  · exact hf j x hj h
theorem t_aast8 (hx : p.tables.exec = Jvm.exec) (hb : c.code = cc) (hK : va_K D vwCl (cTy cy) s) (hP : va_P D vwCl ws H) (hD : va_D A ws) (hS : va_S A H0 H locs) (hT : cT cy G ws) {a n z v : Nat} (hg : G a = some (8, n, z)) {i : Int32} (hv : G v = some (2, i.toNatClampNeg % 6 + 1, i.toNatClampNeg / 6 + 1)) (hin : vp_in i n) (hdg : decode cc pc = .ok (.aastore, 1))
    (kk : ∀ (H1 : Heap) (locs1 : List Loc) (ws1 : va_W), cF (fun b => b = a) ws ws1 → va_P D vwCl ws1 H1 → va_D A ws1 → cT cy G ws1 → va_S A H0 H1 locs1 → W p l e R s m args below meth c H1 locs1 cells slots Q (F0 m (pc + 1) ls rest)) : W p l e R s m args below meth c H locs cells slots Q (F0 m pc ls (.ref v :: .int i :: .ref a :: rest)) := by
  obtain ⟨_, ⟨q0, hq⟩, f, rfl, hf⟩ := hT _ _ hg
  obtain ⟨_, ⟨qk, hqk⟩, hb0, b1, b2, b3, rfl, -⟩ := hT _ _ hv
  exact va_astq (r := (RX0, TX0, 8)) hx hb hK hP hD hS q0 3 qk 0 hq rfl hqk rfl hin hdg (fun H1 locs1 k1 k2 k3 => kk H1 locs1 _ (cF.up (cUp.set hq) rfl) k1 k2 (hT.up (cUp.set hq) hg ⟨_, rfl, fun j x hj hx => c_upf (P := fun i x => G x = some (2, i % 6 + 1, i / 6 + 1)) hf hv hj hx⟩) k3)
theorem t_aast9 (hx : p.tables.exec = Jvm.exec) (hb : c.code = cc) (hV : cV s) (hK : va_K D vwCl (cTy cy) s) (hP : va_P D vwCl ws H) (hD : va_D A ws) (hS : va_S A H0 H locs) (hT : cT cy G ws) {a n z v k1 k2 : Nat} (hg : G a = some (9, n, z)) {i : Int32} (hv : G v = some (3, k1, k2)) (hin : vp_in i n) (hdg : decode cc pc = .ok (.aastore, 1))
    (kk : ∀ (H1 : Heap) (locs1 : List Loc) (ws1 : va_W), cF (fun b => b = a) ws ws1 → va_P D vwCl ws1 H1 → va_D A ws1 → cT cy G ws1 → va_S A H0 H1 locs1 → W p l e R s m args below meth c H1 locs1 cells slots Q (F0 m (pc + 1) ls rest)) : W p l e R s m args below meth c H locs cells slots Q (F0 m pc ls (.ref v :: .int i :: .ref a :: rest)) := by
  obtain ⟨_, ⟨q0, hq⟩, f, rfl, hf⟩ := hT _ _ hg
  obtain ⟨_, ⟨qk, hqk⟩, b, s', w, h, tw, x, y, ms, rfl, -, -, hJ⟩ := hT _ _ hv
  have k : ∀ (H1 : Heap) (locs1 : List Loc), va_P D vwCl (ws.set q0 (a, .inl (cy 4, cqa n (va_up f i.toNatClampNeg (some v))))) H1 → va_D A (ws.set q0 (a, .inl (cy 4, cqa n (va_up f i.toNatClampNeg (some v))))) → va_S A H0 H1 locs1 → W p l e R s m args below meth c H1 locs1 cells slots Q (F0 m (pc + 1) ls rest) := fun H1 locs1 k1 k2 k3 => kk H1 locs1 _ (cF.up (cUp.set hq) rfl) k1 k2 (hT.up (cUp.set hq) hg ⟨_, rfl, fun j x hj hx => c_upf (P := fun i x => ∃ k n, G x = some (3, k, n)) hf ⟨_, _, hv⟩ hj hx⟩) k3
  rcases hJ.kc with rfl | rfl | rfl | rfl
  · exact va_astqO (r := (RX1, TX1, 5)) hx hb hK hP hD hS q0 4 qk 1 hq rfl hV.2.1.1 hqk rfl hin hdg k
  · exact va_astq (r := (RX3, TX3, 5)) hx hb hK hP hD hS q0 4 qk 2 hq rfl hqk rfl hin hdg k
  · exact va_astqO (r := (RX4, TX4, 5)) hx hb hK hP hD hS q0 4 qk 3 hq rfl hV.2.1.2.1 hqk rfl hin hdg k
  · exact va_astqO (r := (RX5, TX5, 6)) hx hb hK hP hD hS q0 4 qk 4 hq rfl hV.2.1.2.2 hqk rfl hin hdg k
/-- a job or a row into a row of what shelves hold -/
theorem t_aast10 (hx : p.tables.exec = Jvm.exec) (hb : c.code = cc) (hV : cV s) (hK : va_K D vwCl (cTy cy) s) (hP : va_P D vwCl ws H) (hD : va_D A ws) (hS : va_S A H0 H locs) (hT : cT cy G ws) {a n z v : Nat} (hg : G a = some (10, n, z)) {i : Int32} (hv : (∃ k n, G v = some (3, k, n)) ∨ ∃ n, G v = some (4, n, 0)) (hin : vp_in i n) (hdg : decode cc pc = .ok (.aastore, 1))
    (kk : ∀ (H1 : Heap) (locs1 : List Loc) (ws1 : va_W), cF (fun b => b = a) ws ws1 → va_P D vwCl ws1 H1 → va_D A ws1 → cT cy G ws1 → va_S A H0 H1 locs1 → W p l e R s m args below meth c H1 locs1 cells slots Q (F0 m (pc + 1) ls rest)) : W p l e R s m args below meth c H locs cells slots Q (F0 m pc ls (.ref v :: .int i :: .ref a :: rest)) := by
  obtain ⟨_, ⟨q0, hq⟩, f, rfl, hf⟩ := hT _ _ hg
  have k : ∀ (H1 : Heap) (locs1 : List Loc), va_P D vwCl (ws.set q0 (a, .inl (cy 5, cqa n (va_up f i.toNatClampNeg (some v))))) H1 → va_D A (ws.set q0 (a, .inl (cy 5, cqa n (va_up f i.toNatClampNeg (some v))))) → va_S A H0 H1 locs1 → W p l e R s m args below meth c H1 locs1 cells slots Q (F0 m (pc + 1) ls rest) := fun H1 locs1 k1 k2 k3 => kk H1 locs1 _ (cF.up (cUp.set hq) rfl) k1 k2 (hT.up (cUp.set hq) hg ⟨_, rfl, fun j x hj hx => c_upf (P := fun i x => (∃ k n, G x = some (3, k, n)) ∨ ∃ n, G x = some (4, n, 0)) hf hv hj hx⟩) k3
  rcases hv with ⟨k1, k2, hv⟩ | ⟨k1, hv⟩
  · obtain ⟨_, ⟨qk, hqk⟩, b, s', w, h, tw, x, y, ms, rfl, -, -, hJ⟩ := hT _ _ hv
    rcases hJ.kc with rfl | rfl | rfl | rfl
    · exact va_astqO (r := (RX1, TX1, 5)) hx hb hK hP hD hS q0 5 qk 1 hq rfl hV.2.2.1.1 hqk rfl hin hdg k
    · exact va_astqO (r := (RX3, TX3, 5)) hx hb hK hP hD hS q0 5 qk 2 hq rfl hV.2.2.1.2.1 hqk rfl hin hdg k
    · exact va_astqO (r := (RX4, TX4, 5)) hx hb hK hP hD hS q0 5 qk 3 hq rfl hV.2.2.1.2.2.1 hqk rfl hin hdg k
    · exact va_astqO (r := (RX5, TX5, 6)) hx hb hK hP hD hS q0 5 qk 4 hq rfl hV.2.2.1.2.2.2.1 hqk rfl hin hdg k
  · obtain ⟨_, ⟨qk, hqk⟩, hn, b, a', rfl, -⟩ := hT _ _ hv
    exact va_astqO (r := (RX7, TX7, 2)) hx hb hK hP hD hS q0 5 qk 6 hq rfl hV.2.2.1.2.2.2.2 hqk rfl hin hdg k
theorem t_aastN (hx : p.tables.exec = Jvm.exec) (hb : c.code = cc) (hK : va_K D vwCl (cTy cy) s) (hP : va_P D vwCl ws H) (hD : va_D A ws) (hS : va_S A H0 H locs) (hT : cT cy G ws) {a n z : Nat} (hg : G a = some (10, n, z)) {i : Int32} (hin : vp_in i n) (hdg : decode cc pc = .ok (.aastore, 1))
    (kk : ∀ (H1 : Heap) (locs1 : List Loc) (ws1 : va_W), cF (fun b => b = a) ws ws1 → va_P D vwCl ws1 H1 → va_D A ws1 → cT cy G ws1 → va_S A H0 H1 locs1 → W p l e R s m args below meth c H1 locs1 cells slots Q (F0 m (pc + 1) ls rest)) : W p l e R s m args below meth c H locs cells slots Q (F0 m pc ls (.null :: .int i :: .ref a :: rest)) := by
  obtain ⟨_, ⟨q0, hq⟩, f, rfl, hf⟩ := hT _ _ hg
  refine va_astqN hx hb hK hP hD hS q0 5 hq rfl hin hdg (fun H1 locs1 k1 k2 k3 => kk H1 locs1 _ (cF.up (cUp.set hq) rfl) k1 k2 (hT.up (cUp.set hq) hg ⟨_, rfl, fun j x hj hx => ?_⟩) k3)
  unfold va_up at hx
  split at hx
  · cases hx
  · exact hf j x hj hx
/-- what a job's class is, and what it isn't -/
theorem t_recJ (hK : va_K D vwCl (cTy cy) s) (hP : va_P D vwCl ws H) {o kc : Nat} {fs : List Value} (ho : cIn ws o (.inr (kc, fs))) {q : vw_C} (hc : vwCl[kc]? = some q) : ∃ cell : Cell, H[o]? = some cell ∧ cell.vm.isStatics = false ∧ s.vm.findClass q.1 = some cell.cls := by
  obtain ⟨q0, hq⟩ := ho
  exact va_recv hK hP hc hq
theorem t_instJ (hx : p.tables.exec = Jvm.exec) (hb : c.code = cc) (hV : cV s) (hown : s.vm.findClass own = some m.cls) (hlink : (Cond.classLink own index RX3).before args s = true) (hK : va_K D vwCl (cTy cy) s) (hP : va_P D vwCl ws H) {o kc : Nat} {fs : List Value} (hJ : cKc kc) (ho : cIn ws o (.inr (kc, fs))) (hdg : decode cc pc = .ok (.instanceof index, 3))
    (kk : W p l e R s m args below meth c H locs cells slots Q (F0 m (pc + 3) ls (.int 1 :: rest))) : W p l e R s m args below meth c H locs cells slots Q (F0 m pc ls (.ref o :: rest)) := by
  rcases hJ with rfl | rfl | rfl | rfl
  · exact va_instY hx hb hown hlink hV.2.1.1 (t_recJ hK hP ho rfl) hdg kk
  · exact va_instS hx hb hown hlink (hK.1 2 _ rfl).2 (t_recJ hK hP ho rfl) hdg kk
  · exact va_instY hx hb hown hlink hV.2.1.2.1 (t_recJ hK hP ho rfl) hdg kk
  · exact va_instY hx hb hown hlink hV.2.1.2.2 (t_recJ hK hP ho rfl) hdg kk
theorem t_castJ (hx : p.tables.exec = Jvm.exec) (hb : c.code = cc) (hV : cV s) (hown : s.vm.findClass own = some m.cls) (hlink : (Cond.classLink own index RX3).before args s = true) (hK : va_K D vwCl (cTy cy) s) (hP : va_P D vwCl ws H) {o kc : Nat} {fs : List Value} (hJ : cKc kc) (ho : cIn ws o (.inr (kc, fs))) (hdg : decode cc pc = .ok (.checkcast index, 3))
    (kk : W p l e R s m args below meth c H locs cells slots Q (F0 m (pc + 3) ls (.ref o :: rest))) : W p l e R s m args below meth c H locs cells slots Q (F0 m pc ls (.ref o :: rest)) := by
  rcases hJ with rfl | rfl | rfl | rfl
  · exact va_castY hx hb hown hlink hV.2.1.1 (t_recJ hK hP ho rfl) hdg kk
  · exact va_castS hx hb hown hlink (hK.1 2 _ rfl).2 (t_recJ hK hP ho rfl) hdg kk
  · exact va_castY hx hb hown hlink hV.2.1.2.1 (t_recJ hK hP ho rfl) hdg kk
  · exact va_castY hx hb hown hlink hV.2.1.2.2 (t_recJ hK hP ho rfl) hdg kk
theorem t_instRN (hx : p.tables.exec = Jvm.exec) (hb : c.code = cc) (hV : cV s) (hown : s.vm.findClass own = some m.cls) (hlink : (Cond.classLink own index RX7).before args s = true) (hK : va_K D vwCl (cTy cy) s) (hP : va_P D vwCl ws H) {o kc : Nat} {fs : List Value} (hJ : cKc kc) (ho : cIn ws o (.inr (kc, fs))) (hdg : decode cc pc = .ok (.instanceof index, 3))
    (kk : W p l e R s m args below meth c H locs cells slots Q (F0 m (pc + 3) ls (.int 0 :: rest))) : W p l e R s m args below meth c H locs cells slots Q (F0 m pc ls (.ref o :: rest)) := by
  rcases hJ with rfl | rfl | rfl | rfl
  · exact va_instNo hx hb hown hlink hV.2.2.2.2.1.1 (t_recJ hK hP ho rfl) hdg kk
  · exact va_instNo hx hb hown hlink hV.2.2.2.2.1.2.1 (t_recJ hK hP ho rfl) hdg kk
  · exact va_instNo hx hb hown hlink hV.2.2.2.2.1.2.2.1 (t_recJ hK hP ho rfl) hdg kk
  · exact va_instNo hx hb hown hlink hV.2.2.2.2.1.2.2.2 (t_recJ hK hP ho rfl) hdg kk
end CR

