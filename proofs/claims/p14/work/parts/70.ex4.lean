
/-- a walk's state: depth, the next row of each level, tries -/
abbrev wS := Int × (Nat → Nat) × Nat
def upN (f : Nat → Nat) (k v : Nat) : Nat → Nat := fun i => if i = k then v else f i
def wNx (s : wS) : Nat → Nat := upN s.2.1 s.1.toNat (s.2.1 s.1.toNat + 1)
/-- one step that ends nothing -/
def wStp (E h : Nat) (Go : (Nat → Nat) → Nat → Prop) (Fi : (Nat → Nat) → Prop) (s t : wS) : Prop :=
  0 ≤ s.1 ∧ ((s.2.1 s.1.toNat = E ∧ t = (s.1 - 1, s.2.1, s.2.2)) ∨ (¬ s.2.1 s.1.toNat = E ∧ s.2.2 < 200000 ∧
    ((¬ Go (wNx s) s.1.toNat ∧ t = (s.1, wNx s, s.2.2 + 1)) ∨
     (Go (wNx s) s.1.toNat ∧ s.1.toNat + 1 < h ∧ t = (s.1 + 1, upN (wNx s) (s.1.toNat + 1) 0, s.2.2 + 1)) ∨
     (Go (wNx s) s.1.toNat ∧ ¬ s.1.toNat + 1 < h ∧ ¬ Fi (wNx s) ∧ t = (s.1, wNx s, s.2.2 + 1)))))
/-- an end: 0 none, 1 spent, 2 a picture -/
def wFin (E h : Nat) (Go : (Nat → Nat) → Nat → Prop) (Fi : (Nat → Nat) → Prop) (s : wS) (o : Nat) (t : wS) : Prop :=
  (s.1 < 0 ∧ o = 0 ∧ t = s) ∨
  (0 ≤ s.1 ∧ ¬ s.2.1 s.1.toNat = E ∧ ¬ s.2.2 < 200000 ∧ o = 1 ∧ t = s) ∨
  (0 ≤ s.1 ∧ ¬ s.2.1 s.1.toNat = E ∧ s.2.2 < 200000 ∧ Go (wNx s) s.1.toNat ∧ ¬ s.1.toNat + 1 < h ∧ Fi (wNx s) ∧ o = 2 ∧ t = (s.1, wNx s, s.2.2 + 1))
def wTo (E h : Nat) (Go : (Nat → Nat) → Nat → Prop) (Fi : (Nat → Nat) → Prop) : Nat → wS → wS → Prop
  | 0, s, t => s = t
  | n + 1, s, t => ∃ m, wTo E h Go Fi n s m ∧ wStp E h Go Fi m t
/-- what a walk comes to -/
def wRun (E h : Nat) (Go : (Nat → Nat) → Nat → Prop) (Fi : (Nat → Nat) → Prop) (s : wS) (o : Nat) (t : wS) : Prop := ∃ n m, wTo E h Go Fi n s m ∧ wFin E h Go Fi m o t
section WALK
variable {E h : Nat} {Go : (Nat → Nat) → Nat → Prop} {Fi : (Nat → Nat) → Prop} {s t u : wS} {o p : Nat}
theorem wStp_det (a : wStp E h Go Fi s t) (b : wStp E h Go Fi s u) : t = u := by
  obtain ⟨-, a⟩ := a
  obtain ⟨-, b⟩ := b
  rcases a with ⟨a1, a2⟩ | ⟨a1, -, ⟨a2, a3⟩ | ⟨a2, a3, a4⟩ | ⟨a2, a3, a4, a5⟩⟩ <;> rcases b with ⟨b1, b2⟩ | ⟨b1, -, ⟨b2, b3⟩ | ⟨b2, b3, b4⟩ | ⟨b2, b3, b4, b5⟩⟩ <;> first
    | exact absurd a1 b1
    | exact absurd b1 a1
    | exact absurd a2 b2
    | exact absurd b2 a2
    | exact absurd a3 b3
    | exact absurd b3 a3
    | (rw [a2, b2]; done)
    | (rw [a3, b3]; done)
    | (rw [a4, b4]; done)
    | (rw [a5, b5]; done)
theorem wStp_fin (a : wStp E h Go Fi s t) (b : wFin E h Go Fi s o u) : False := by
  obtain ⟨a0, a⟩ := a
  rcases b with ⟨b1, -⟩ | ⟨-, b1, b2, -⟩ | ⟨-, b1, b2, b3, b4, b5, -⟩
  · omega
  · rcases a with ⟨a1, -⟩ | ⟨-, a1, -⟩
    · exact b1 a1
    · exact b2 a1
  · rcases a with ⟨a1, -⟩ | ⟨-, -, ⟨a2, -⟩ | ⟨-, a2, -⟩ | ⟨-, -, a2, -⟩⟩
    · exact b1 a1
    · exact a2 b3
    · exact b4 a2
    · exact a2 b5
theorem wFin_det {t' : wS} (a : wFin E h Go Fi s o t) (b : wFin E h Go Fi s p t') : o = p ∧ t = t' := by
  rcases a with ⟨a1, a2, a3⟩ | ⟨a0, a1, a2, a3, a4⟩ | ⟨a0, a1, a2, a3, a4, a5, a6, a7⟩ <;> rcases b with ⟨b1, b2, b3⟩ | ⟨b0, b1, b2, b3, b4⟩ | ⟨b0, b1, b2, b3, b4, b5, b6, b7⟩ <;> first
    | (exfalso; omega)
    | exact ⟨by rw [a2, b2], by rw [a3, b3]⟩
    | exact ⟨by rw [a3, b3], by rw [a4, b4]⟩
    | exact ⟨by rw [a6, b6], by rw [a7, b7]⟩
theorem wTo_det : ∀ n {t u : wS}, wTo E h Go Fi n s t → wTo E h Go Fi n s u → t = u := by
  intro n
  induction n with
  | zero => intro t u a b; exact a.symm.trans b
  | succ n ih =>
    intro t u a b
    obtain ⟨m, a1, a2⟩ := a
    obtain ⟨k, b1, b2⟩ := b
    rw [ih a1 b1] at a2
    exact wStp_det a2 b2
theorem wTo_mid : ∀ k n {t : wS}, wTo E h Go Fi (n + k + 1) s t → ∃ m c, wTo E h Go Fi n s m ∧ wStp E h Go Fi m c := by
  intro k
  induction k with
  | zero => intro n t a; obtain ⟨m, a1, a2⟩ := a; exact ⟨m, t, a1, a2⟩
  | succ k ih => intro n t a; obtain ⟨m, a1, -⟩ := a; exact ih n a1
theorem wTo_fin {n m : Nat} {a b t' : wS} (h1 : wTo E h Go Fi n s a) (h2 : wFin E h Go Fi a o t) (h3 : wTo E h Go Fi m s b) (h4 : wFin E h Go Fi b p t') (hl : n < m) : False := by
  obtain ⟨k, rfl⟩ : ∃ k, m = n + k + 1 := ⟨m - n - 1, by omega⟩
  obtain ⟨c, d, c1, c2⟩ := wTo_mid k n h3
  rw [← wTo_det n h1 c1] at c2
  exact wStp_fin c2 h2
theorem wRun_det {t' : wS} (a : wRun E h Go Fi s o t) (b : wRun E h Go Fi s p t') : o = p ∧ t = t' := by
  obtain ⟨n, m, a1, a2⟩ := a
  obtain ⟨n', m', b1, b2⟩ := b
  rcases Nat.lt_trichotomy n n' with z | z | z
  · exact (wTo_fin a1 a2 b1 b2 z).elim
  · subst z
    rw [wTo_det n a1 b1] at a2
    exact wFin_det a2 b2
  · exact (wTo_fin b1 b2 a1 a2 z).elim
theorem wTo_s {n : Nat} (a : wTo E h Go Fi n s t) (b : wStp E h Go Fi t u) : wTo E h Go Fi (n + 1) s u := ⟨t, a, b⟩
end WALK
/-- columns' counts, what a row must be -/
def colN (nx : Nat → Nat) (x k : Nat) : Nat := bs (fun j => (nx j - 1).testBit x) k
def goP (w : Nat) (hd cs rs : Nat → Int32) (nx : Nat → Nat) (d : Nat) : Prop := (∀ x, x < w → (hd (d * w + x) = 2 ∨ hd (d * w + x) = if (nx d - 1).testBit x then 1 else 0) ∧ (colN nx x (d + 1) : Int) ≤ (cs x).toInt) ∧ ((bs (fun x => (nx d - 1).testBit x) w : Nat) : Int) = (rs d).toInt
theorem colN_cg {nx mx : Nat → Nat} {x k : Nat} (h : ∀ j, j < k → nx j = mx j) : colN nx x k = colN mx x k := bs_cg (fun j hj => by rw [h j hj])
theorem upN_k (f : Nat → Nat) (k v : Nat) : upN f k v k = v := by unfold upN; rw [if_pos rfl]
theorem upN_n (f : Nat → Nat) {k v i : Nat} (h : i ≠ k) : upN f k v i = f i := by unfold upN; rw [if_neg h]
/-- what holds of every state that a walk comes to -/
def wGd (E h w : Nat) (cs : Nat → Int32) (s : wS) : Prop := (-1 ≤ s.1 ∧ s.1 < (h : Int) ∧ s.2.2 ≤ 200000) ∧ (∀ i : Nat, (i : Int) ≤ s.1 → s.2.1 i ≤ E ∧ ((i : Int) < s.1 → 1 ≤ s.2.1 i)) ∧ ∀ k : Nat, (k : Int) ≤ s.1 → ∀ x, x < w → (colN s.2.1 x k : Int) ≤ (cs x).toInt
section GOOD
variable {E h w : Nat} {hd cs rs : Nat → Int32} {Fi : (Nat → Nat) → Prop} {s t : wS} {o : Nat}
theorem wGd_0 (hh : 0 < h) (hc : ∀ x, x < w → 0 ≤ (cs x).toInt) {nx : Nat → Nat} (h0 : nx 0 = 0) : wGd E h w cs (0, nx, 0) := by
  refine ⟨⟨by show (-1 : Int) ≤ 0; omega, by show (0 : Int) < h; omega, by show (0 : Nat) ≤ 200000; omega⟩, fun i hi => ?_, fun k hk x hx => ?_⟩
  · have e : i = 0 := by have : (i : Int) ≤ 0 := hi; omega
    subst e
    refine ⟨by show nx 0 ≤ E; omega, fun z => ?_⟩
    have : ((0 : Nat) : Int) < 0 := z
    omega
  · have e : k = 0 := by have : (k : Int) ≤ 0 := hk; omega
    subst e
    have := hc x hx
    show ((0 : Nat) : Int) ≤ _
    omega
/-- a row more, tried -/
theorem wGd_try (g : wGd E h w cs s) (h0 : 0 ≤ s.1) (hE : ¬ s.2.1 s.1.toNat = E) (ht : s.2.2 < 200000) : wGd E h w cs (s.1, wNx s, s.2.2 + 1) := by
  obtain ⟨g1, g2, g3⟩ := g
  refine ⟨⟨g1.1, g1.2.1, by show s.2.2 + 1 ≤ 200000; omega⟩, fun i hi => ?_, fun k hk x hx => ?_⟩
  · have hi' : (i : Int) ≤ s.1 := hi
    have gi := g2 i hi'
    show wNx s i ≤ E ∧ ((i : Int) < s.1 → 1 ≤ wNx s i)
    unfold wNx
    by_cases z : i = s.1.toNat
    · subst z
      rw [upN_k]
      omega
    · rw [upN_n _ z]
      exact gi
  · have hk' : (k : Int) ≤ s.1 := hk
    have gk := g3 k hk' x hx
    show (colN (wNx s) x k : Int) ≤ _
    rw [colN_cg (nx := wNx s) (mx := s.2.1) (fun j hj => by unfold wNx; exact upN_n _ (by omega))]
    exact gk
theorem wNx_k (s : wS) : wNx s s.1.toNat = s.2.1 s.1.toNat + 1 := upN_k _ _ _
theorem wGd_s (g : wGd E h w cs s) (a : wStp E h (goP w hd cs rs) Fi s t) : wGd E h w cs t := by
  obtain ⟨h0, a⟩ := a
  rcases a with ⟨a1, a2⟩ | ⟨a1, ht, ⟨a2, a3⟩ | ⟨a2, a3, a4⟩ | ⟨a2, a3, a4, a5⟩⟩
  · subst a2
    obtain ⟨g1, g2, g3⟩ := g
    refine ⟨⟨by show -1 ≤ s.1 - 1; omega, by show s.1 - 1 < _; omega, g1.2.2⟩, fun i hi => ?_, fun k hk x hx => g3 k (by have : (k : Int) ≤ s.1 - 1 := hk; omega) x hx⟩
    have hi' : (i : Int) ≤ s.1 - 1 := hi
    have gi := g2 i (by omega)
    exact ⟨gi.1, fun _ => gi.2 (by omega)⟩
  · subst a3
    exact wGd_try g h0 a1 ht
  · have g' := wGd_try g h0 a1 ht
    subst a4
    obtain ⟨g1, g2, g3⟩ := g'
    refine ⟨⟨by show -1 ≤ s.1 + 1; omega, by show s.1 + 1 < _; omega, g1.2.2⟩, fun i hi => ?_, fun k hk x hx => ?_⟩
    · have hi' : (i : Int) ≤ s.1 + 1 := hi
      show upN (wNx s) (s.1.toNat + 1) 0 i ≤ E ∧ ((i : Int) < s.1 + 1 → 1 ≤ upN (wNx s) (s.1.toNat + 1) 0 i)
      by_cases z : i = s.1.toNat + 1
      · subst z
        rw [upN_k]
        omega
      · rw [upN_n _ z]
        have gi := g2 i (by show (i : Int) ≤ s.1; omega)
        refine ⟨gi.1, fun _ => ?_⟩
        by_cases y : i = s.1.toNat
        · rw [y, wNx_k]; omega
        · exact gi.2 (by show (i : Int) < s.1; omega)
    · have hk' : (k : Int) ≤ s.1 + 1 := hk
      show (colN (upN (wNx s) (s.1.toNat + 1) 0) x k : Int) ≤ _
      rw [colN_cg (mx := wNx s) (fun j hj => upN_n _ (by omega))]
      by_cases y : k = s.1.toNat + 1
      · rw [y]; exact (a2.1 x hx).2
      · exact g3 k (by show (k : Int) ≤ s.1; omega) x hx
  · subst a5
    exact wGd_try g h0 a1 ht
theorem wGd_to : ∀ n {t : wS}, wGd E h w cs s → wTo E h (goP w hd cs rs) Fi n s t → wGd E h w cs t := by
  intro n
  induction n with
  | zero => intro t g a; have e : s = t := a; rw [← e]; exact g
  | succ n ih => intro t g a; obtain ⟨m, a1, a2⟩ := a; exact wGd_s (ih g a1) a2
theorem wTo_t : ∀ n {t : wS}, wTo E h (goP w hd cs rs) Fi n s t → s.2.2 ≤ t.2.2 := by
  intro n
  induction n with
  | zero => intro t a; have e : s = t := a; rw [e]; exact Nat.le_refl _
  | succ n ih =>
    intro t a
    obtain ⟨m, a1, -, a2⟩ := a
    have := ih a1
    rcases a2 with ⟨-, a2⟩ | ⟨-, -, ⟨-, a3⟩ | ⟨-, -, a3⟩ | ⟨-, -, -, a3⟩⟩
    · rw [a2]; exact this
    · rw [a3]; show s.2.2 ≤ m.2.2 + 1; omega
    · rw [a3]; show s.2.2 ≤ m.2.2 + 1; omega
    · rw [a3]; show s.2.2 ≤ m.2.2 + 1; omega
theorem wRun_2 (g : wGd E h w cs s) (a : wRun E h (goP w hd cs rs) Fi s 2 t) : wGd E h w cs t ∧ s.2.2 + 1 ≤ t.2.2 := by
  obtain ⟨n, m, a1, a2⟩ := a
  have g1 := wGd_to n g a1
  have l := wTo_t n a1
  rcases a2 with ⟨-, a2, -⟩ | ⟨-, -, -, a2, -⟩ | ⟨h0, b1, b2, -, -, -, -, b3⟩
  · cases a2
  · cases a2
  · subst b3
    exact ⟨wGd_try g1 h0 b1 b2, by show s.2.2 + 1 ≤ m.2.2 + 1; omega⟩
end GOOD
/-- a loop over the pictures of a walk -/
def wFo {α : Type} (E h : Nat) (Go : (Nat → Nat) → Nat → Prop) (Fi : (Nat → Nat) → Prop) (st : α → wS → Prop) (nx : α → wS → α) (s0 : wS) (a0 : α) : Nat → wS → α → Prop
  | 0, s, a => s = s0 ∧ a = a0
  | k + 1, s, a => ∃ m b, wFo E h Go Fi st nx s0 a0 k m b ∧ wRun E h Go Fi m 2 s ∧ ¬ st b s ∧ a = nx b s
def wEn {α : Type} (E h : Nat) (Go : (Nat → Nat) → Nat → Prop) (Fi : (Nat → Nat) → Prop) (st : α → wS → Prop) (nx : α → wS → α) (s0 : wS) (a0 : α) (o k : Nat) (a : α) (t : wS) : Prop := ∃ m, wFo E h Go Fi st nx s0 a0 k m a ∧ wRun E h Go Fi m o t ∧ (o = 2 → st a t)
section FOLD
variable {α : Type} {E h : Nat} {Go : (Nat → Nat) → Nat → Prop} {Fi : (Nat → Nat) → Prop} {st : α → wS → Prop} {nx : α → wS → α} {s0 : wS} {a0 : α}
theorem wFo_det : ∀ k {s t : wS} {a b : α}, wFo E h Go Fi st nx s0 a0 k s a → wFo E h Go Fi st nx s0 a0 k t b → s = t ∧ a = b := by
  intro k
  induction k with
  | zero => intro s t a b h1 h2; exact ⟨h1.1.trans h2.1.symm, h1.2.trans h2.2.symm⟩
  | succ k ih =>
    intro s t a b h1 h2
    obtain ⟨m, c, f1, f2, -, f3⟩ := h1
    obtain ⟨m', c', g1, g2, -, g3⟩ := h2
    obtain ⟨e1, e2⟩ := ih f1 g1
    subst e1
    subst e2
    obtain ⟨-, e3⟩ := wRun_det f2 g2
    subst e3
    exact ⟨rfl, f3.trans g3.symm⟩
theorem wFo_mid : ∀ j k {s : wS} {a : α}, wFo E h Go Fi st nx s0 a0 (k + j + 1) s a → ∃ m b t, wFo E h Go Fi st nx s0 a0 k m b ∧ wRun E h Go Fi m 2 t ∧ ¬ st b t := by
  intro j
  induction j with
  | zero => intro k s a f; obtain ⟨m, c, f1, f2, f3, -⟩ := f; exact ⟨m, c, s, f1, f2, f3⟩
  | succ j ih => intro k s a f; obtain ⟨m, c, f1, -⟩ := f; exact ih k f1
theorem wEn_lt {o o' k k' : Nat} {a a' : α} {t t' : wS} (x : wEn E h Go Fi st nx s0 a0 o k a t) (y : wEn E h Go Fi st nx s0 a0 o' k' a' t') (hl : k < k') : False := by
  obtain ⟨m, x1, x2, x3⟩ := x
  obtain ⟨m', y1, -, -⟩ := y
  obtain ⟨j, rfl⟩ : ∃ j, k' = k + j + 1 := ⟨k' - k - 1, by omega⟩
  obtain ⟨n, b, u, z1, z2, z3⟩ := wFo_mid j k y1
  obtain ⟨e1, e2⟩ := wFo_det k x1 z1
  subst e1
  subst e2
  obtain ⟨e3, e4⟩ := wRun_det x2 z2
  subst e4
  exact z3 (x3 e3)
theorem wEn_det {o o' k k' : Nat} {a a' : α} {t t' : wS} (x : wEn E h Go Fi st nx s0 a0 o k a t) (y : wEn E h Go Fi st nx s0 a0 o' k' a' t') : o = o' ∧ k = k' ∧ a = a' ∧ t = t' := by
  rcases Nat.lt_trichotomy k k' with z | z | z
  · exact (wEn_lt x y z).elim
  · subst z
    obtain ⟨m, x1, x2, x3⟩ := x
    obtain ⟨m', y1, y2, -⟩ := y
    obtain ⟨e1, e2⟩ := wFo_det k x1 y1
    subst e1
    subst e2
    obtain ⟨e3, e4⟩ := wRun_det x2 y2
    exact ⟨e3, rfl, rfl, e4⟩
  · exact (wEn_lt y x z).elim
end FOLD
theorem wFo_gd {α : Type} {E h w : Nat} {hd cs rs : Nat → Int32} {Fi : (Nat → Nat) → Prop} {st : α → wS → Prop} {nx : α → wS → α} {s0 : wS} {a0 : α} (g : wGd E h w cs s0) : ∀ k {s : wS} {a : α}, wFo E h (goP w hd cs rs) Fi st nx s0 a0 k s a → wGd E h w cs s ∧ s0.2.2 + k ≤ s.2.2 := by
  intro k
  induction k with
  | zero => intro s a f; obtain ⟨e, -⟩ := f; rw [e]; exact ⟨g, Nat.le_refl _⟩
  | succ k ih =>
    intro s a f
    obtain ⟨m, b, f1, f2, -, -⟩ := f
    obtain ⟨g1, l1⟩ := ih f1
    obtain ⟨g2, l2⟩ := wRun_2 g1 f2
    exact ⟨g2, by omega⟩
/-- a picture out of its rows -/
def picL (w : Nat) (nx : Nat → Nat) : Nat → Int64
  | 0 => 0
  | k + 1 => picL w nx k ||| ((nI (nx k - 1)).toInt64 <<< ((nI (k * w)).toInt64 &&& 63))
theorem picL_cg {w : Nat} {nx mx : Nat → Nat} : ∀ k, (∀ j, j < k → nx j = mx j) → picL w nx k = picL w mx k := by
  intro k
  induction k with
  | zero => intro _; rfl
  | succ k ih => intro h; simp only [picL]; rw [ih (fun j hj => h j (by omega)), h k (by omega)]
theorem lb_nI : ∀ m, m < 64 → ∀ i, i < 64 → lb (nI m).toInt64 i = m.testBit i := by decide +kernel
theorem pw_64 {w : Nat} (hw : w ≤ 6) : 2 ^ w ≤ 64 := by
  have : w = 0 ∨ w = 1 ∨ w = 2 ∨ w = 3 ∨ w = 4 ∨ w = 5 ∨ w = 6 := by omega
  rcases this with rfl | rfl | rfl | rfl | rfl | rfl | rfl <;> decide
theorem tb_hi {m w i : Nat} (hm : m < 2 ^ w) (hi : w ≤ i) : m.testBit i = false := Nat.testBit_lt_two_pow (Nat.lt_of_lt_of_le hm (Nat.pow_le_pow_right (by decide) hi))
theorem lb_picL {w : Nat} {nx : Nat → Nat} (hw : 1 ≤ w ∧ w ≤ 6) {s : Nat} (hs : s < 64) : ∀ n, n ≤ 6 → (∀ j, j < n → nx j - 1 < 2 ^ w) → lb (picL w nx n) s = (decide (s / w < n) && (nx (s / w) - 1).testBit (s % w)) := by
  intro n
  induction n with
  | zero => intro _ _; rw [decide_eq_false (Nat.not_lt_zero _), Bool.false_and]; exact lb_0 s
  | succ n ih =>
    intro hn hj
    have m5 : n * w ≤ 5 * 6 := Nat.mul_le_mul (by omega) (by omega)
    have p64 := pw_64 hw.2
    have hjn := hj n (by omega)
    simp only [picL]
    rw [lb_or, ih (by omega) (fun j h => hj j (by omega)), lb_shl (n * w) (by omega) _ hs]
    have dv := Nat.div_add_mod s w
    have ml := Nat.mod_lt s (show 0 < w by omega)
    by_cases e : s / w = n
    · have e1 : s = n * w + s % w := by rw [← e, Nat.mul_comm]; exact dv.symm
      rw [decide_eq_false (show ¬ s / w < n by omega), decide_eq_true (show s / w < n + 1 by omega), Bool.false_and, Bool.false_or, Bool.true_and, decide_eq_true (show n * w ≤ s by omega), Bool.true_and, show s - n * w = s % w by omega, lb_nI _ (by omega) _ (by omega), e]
    · by_cases e2 : s / w < n
      · have m1 := Nat.mul_le_mul_right w (show s / w + 1 ≤ n from e2)
        rw [Nat.succ_mul, Nat.mul_comm (s / w) w] at m1
        rw [decide_eq_true e2, decide_eq_true (show s / w < n + 1 by omega), decide_eq_false (show ¬ n * w ≤ s by omega), Bool.false_and, Bool.or_false]
      · have m1 := Nat.mul_le_mul_right w (show n + 1 ≤ s / w by omega)
        rw [Nat.succ_mul, Nat.mul_comm (s / w) w] at m1
        rw [decide_eq_false e2, decide_eq_false (show ¬ s / w < n + 1 by omega), Bool.false_and, Bool.false_or, lb_nI _ (by omega) _ (by omega), tb_hi hjn (show w ≤ s - n * w by omega), Bool.and_false]
theorem picL_is {w h : Nat} {nx : Nat → Nat} (hb : 1 ≤ w ∧ w ≤ 6 ∧ 1 ≤ h ∧ h ≤ 6) (hj : ∀ j, j < h → nx j - 1 < 2 ^ w) : isPic (w * h) (picL w nx h) := by
  have m36 := cb_mul hb
  rw [pic_nat m36.2]
  apply Nat.lt_pow_two_of_testBit
  intro i hi
  rw [← lb_tb]
  by_cases z : i < 64
  · have dl : ¬ i / w < h := by
      intro y
      have := Nat.div_lt_iff_lt_mul (show 0 < w by omega) (x := i) (y := h)
      rw [this, Nat.mul_comm] at y
      omega
    rw [lb_picL ⟨hb.1, hb.2.1⟩ z h (by omega) hj, decide_eq_false dl, Bool.false_and]
  · exact lb_big (by omega)
theorem bs_one (g : Nat → Bool) (x : Nat) : ∀ n, bs (fun i => decide (i = x) && g i) n = if x < n then (g x).toNat else 0 := by
  intro n
  induction n with
  | zero => rw [if_neg (Nat.not_lt_zero _)]; rfl
  | succ n ih =>
    simp only [bs]
    rw [ih]
    by_cases e : n = x
    · subst e; rw [if_neg (Nat.lt_irrefl _), if_pos (Nat.lt_succ_self _), decide_eq_true rfl, Bool.true_and, Nat.zero_add]
    · rw [decide_eq_false e, Bool.false_and, Bool.toNat_false, Nat.add_zero]
      by_cases z : x < n
      · rw [if_pos z, if_pos (by omega)]
      · rw [if_neg z, if_neg (by omega)]
theorem bs_col {w : Nat} (hw : 1 ≤ w) {p : Int64} {x : Nat} (hx : x < w) : ∀ k, bs (fun s => decide (s % w = x) && lb p s) (k * w) = bs (fun j => lb p (j * w + x)) k := by
  intro k
  induction k with
  | zero => rw [Nat.zero_mul]; rfl
  | succ k ih =>
    rw [Nat.succ_mul, bs_add, ih]
    simp only [bs]
    have e : bs (fun i => decide ((k * w + i) % w = x) && lb p (k * w + i)) w = bs (fun i => decide (i = x) && lb p (k * w + i)) w := bs_cg (fun i hi => by rw [Nat.mul_comm k w, Nat.mul_add_mod, Nat.mod_eq_of_lt hi])
    rw [e, bs_one (fun i => lb p (k * w + i)) x w, if_pos hx]
theorem bs_ext {f g : Nat → Bool} {n k : Nat} (hn : n ≤ k) (h : ∀ i, i < n → f i = g i) (h0 : ∀ i, n ≤ i → i < k → f i = false) : bs f k = bs g n := by
  obtain ⟨m, rfl⟩ : ∃ m, k = n + m := ⟨k - n, by omega⟩
  rw [bs_add, bs_cg h, bs_z (fun i hi => h0 (n + i) (by omega) (by omega)), Nat.add_zero]
theorem sh_col {w h n x : Nat} {nx : Nat → Nat} (hb : 1 ≤ w ∧ w ≤ 6 ∧ 1 ≤ h ∧ h ≤ 6) (hn : n ≤ h) (hx : x < w) (hj : ∀ j, j < n → nx j - 1 < 2 ^ w) : shN w h (picL w nx n) 1 x = colN nx x n := by
  have m36 := cb_mul hb
  unfold shN colN
  have e1 : bs (fun s => decide (lnT h 1 (s % w) (s / w) = x) && lb (picL w nx n) s) (w * h) = bs (fun s => decide (s % w = x) && lb (picL w nx n) s) (h * w) := by
    rw [Nat.mul_comm w h]
    exact bs_cg (fun i _ => by unfold lnT; rw [if_neg (by decide), if_pos rfl])
  rw [e1, bs_col hb.1 hx]
  have key : ∀ j, j < h → lb (picL w nx n) (j * w + x) = (decide (j < n) && (nx j - 1).testBit x) := fun j hj2 => by
    have m5 : j * w ≤ 5 * 6 := Nat.mul_le_mul (by omega) (by omega)
    rw [lb_picL ⟨hb.1, hb.2.1⟩ (by omega) n (by omega) hj]
    have d : (j * w + x) / w = j := by rw [Nat.mul_comm j w, Nat.mul_add_div (by omega), Nat.div_eq_of_lt hx, Nat.add_zero]
    have r : (j * w + x) % w = x := by rw [Nat.mul_comm j w, Nat.mul_add_mod, Nat.mod_eq_of_lt hx]
    rw [d, r]
  exact bs_ext hn (fun i hi => by rw [key i (by omega), decide_eq_true hi, Bool.true_and]) (fun i h1 h2 => by rw [key i h2, decide_eq_false (by omega), Bool.false_and])


/-- the reference's walk of job j -/
abbrev rGo (j : Nat) (r : Nat → Nat → Int32) : (Nat → Nat) → Nat → Prop := goP (r 3 j).toNatClampNeg (fun s => r 7 (36 * j + s)) (fun x => r 5 (44 * j + 11 + x)) (fun y => r 5 (44 * j + y))
abbrev rFi (j : Nat) (r : Nat → Nat → Int32) : (Nat → Nat) → Prop := fun nx => fitR j r (picL (r 3 j).toNatClampNeg nx (r 4 j).toNatClampNeg)
abbrev rGd (j : Nat) (r : Nat → Nat → Int32) (s : wS) : Prop := wGd (2 ^ (r 3 j).toNatClampNeg) (r 4 j).toNatClampNeg (r 3 j).toNatClampNeg (fun x => r 5 (44 * j + 11 + x)) s
abbrev rRun (j : Nat) (r : Nat → Nat → Int32) (s : wS) (o : Nat) (t : wS) : Prop := wRun (2 ^ (r 3 j).toNatClampNeg) (r 4 j).toNatClampNeg (rGo j r) (rFi j r) s o t
theorem sb_t : ∀ m, m < 64 → ∀ x, x < 6 → (nI m >>> (nI x &&& 31)) &&& 1 = if m.testBit x then 1 else 0 := by decide +kernel
theorem nI_if {a : Nat} {b : Bool} {v x y : Int32} (e : v = x + y) (ex : x = nI a) (ey : y = if b then 1 else 0) : v = nI (a + b.toNat) := by
  rw [e, ex, ey]
  cases b
  · show nI a + 0 = nI (a + 0)
    exact (nI_add a 0)
  · show nI a + 1 = nI (a + 1)
    exact nI_1 a
def rRel (s : wS) (dp tr : Int32) (rw : Nat → Int32) : Prop := s.1 = dp.toInt ∧ (s.2.2 : Int) = tr.toInt ∧ ∀ i : Nat, (i : Int) ≤ s.1 → (rw i).toInt = (s.2.1 i : Int) - 1
def rSt (E h : Nat) (Go : (Nat → Nat) → Nat → Prop) (Fi : (Nat → Nat) → Prop) (s0 : wS) (dp tr : Int32) (rw : Nat → Int32) : Prop := ∃ n s, wTo E h Go Fi n s0 s ∧ rRel s dp tr rw
def rMid (E h : Nat) (Go : (Nat → Nat) → Nat → Prop) (Fi : (Nat → Nat) → Prop) (s0 : wS) (dp tr : Int32) (rw : Nat → Int32) (s : wS) : Prop := (∃ n, wTo E h Go Fi n s0 s) ∧ s.1 = dp.toInt ∧ 0 ≤ dp.toInt ∧ (¬ s.2.1 s.1.toNat = E) ∧ s.2.2 < 200000 ∧ ((s.2.2 + 1 : Nat) : Int) = tr.toInt ∧ ∀ i : Nat, (i : Int) ≤ s.1 → (rw i).toInt = (wNx s i : Int) - 1
section RST
variable {E h : Nat} {Go : (Nat → Nat) → Nat → Prop} {Fi : (Nat → Nat) → Prop} {s0 s : wS} {dp tr dp1 tr1 v : Int32} {rw : Nat → Int32}
theorem rSt_0 (a : rRel s0 dp tr rw) : rSt E h Go Fi s0 dp tr rw := ⟨0, s0, rfl, a⟩
theorem rSt_pop (a : rSt E h Go Fi s0 dp tr rw) (h0 : 0 ≤ dp.toInt) (hv : v.toInt = (rw dp.toNatClampNeg).toInt + 1) (hE : v.toInt = (E : Int)) (e1 : dp1.toInt = dp.toInt - 1) : rSt E h Go Fi s0 dp1 tr (upd rw dp.toNatClampNeg v) := by
  obtain ⟨n, s, a1, b1, b2, b3⟩ := a
  have cd := m_cl (x := dp) h0
  have e0 : s.1.toNat = dp.toNatClampNeg := by omega
  have b4 := b3 dp.toNatClampNeg (by omega)
  refine ⟨n + 1, (s.1 - 1, s.2.1, s.2.2), ⟨s, a1, by omega, Or.inl ⟨by rw [e0]; omega, rfl⟩⟩, by show s.1 - 1 = _; omega, b2, fun i hi => ?_⟩
  have hi' : (i : Int) ≤ s.1 - 1 := hi
  unfold upd
  rw [if_neg (by omega)]
  exact b3 i (by omega)
theorem rSt_mid (a : rSt E h Go Fi s0 dp tr rw) (h0 : 0 ≤ dp.toInt) (hv : v.toInt = (rw dp.toNatClampNeg).toInt + 1) (hE : ¬ v.toInt = (E : Int)) (ht : tr.toInt < 200000) (e1 : tr1.toInt = tr.toInt + 1) : ∃ s, rMid E h Go Fi s0 dp tr1 (upd rw dp.toNatClampNeg v) s := by
  obtain ⟨n, s, a1, b1, b2, b3⟩ := a
  have cd := m_cl (x := dp) h0
  have e0 : s.1.toNat = dp.toNatClampNeg := by omega
  have b4 := b3 dp.toNatClampNeg (by omega)
  refine ⟨s, ⟨n, a1⟩, b1, h0, by rw [e0]; omega, by omega, by omega, fun i hi => ?_⟩
  unfold wNx
  rw [e0]
  by_cases z : i = dp.toNatClampNeg
  · subst z
    rw [upN_k]
    simp only [upd, if_true]
    omega
  · rw [upN_n _ z]
    unfold upd
    rw [if_neg z]
    exact b3 i hi
theorem rSt_spent (a : rSt E h Go Fi s0 dp tr rw) (h0 : 0 ≤ dp.toInt) (hv : v.toInt = (rw dp.toNatClampNeg).toInt + 1) (hE : ¬ v.toInt = (E : Int)) (ht : tr.toInt = 200000) : ∃ t, wRun E h Go Fi s0 1 t := by
  obtain ⟨n, s, a1, b1, b2, b3⟩ := a
  have cd := m_cl (x := dp) h0
  have e0 : s.1.toNat = dp.toNatClampNeg := by omega
  have b4 := b3 dp.toNatClampNeg (by omega)
  exact ⟨s, n, s, a1, Or.inr (Or.inl ⟨by omega, by rw [e0]; omega, by omega, rfl, rfl⟩)⟩
theorem rSt_none (a : rSt E h Go Fi s0 dp tr rw) (h0 : dp.toInt < 0) : ∃ t, wRun E h Go Fi s0 0 t := by
  obtain ⟨n, s, a1, b1, b2, b3⟩ := a
  exact ⟨s, n, s, a1, Or.inl ⟨by omega, rfl, rfl⟩⟩
theorem rMid_no (m : rMid E h Go Fi s0 dp tr rw s) (hg : ¬ Go (wNx s) dp.toNatClampNeg) : rSt E h Go Fi s0 dp tr rw := by
  obtain ⟨⟨n, a1⟩, b1, h0, b2, b3, b4, b5⟩ := m
  have cd := m_cl (x := dp) h0
  have e0 : s.1.toNat = dp.toNatClampNeg := by omega
  exact ⟨n + 1, (s.1, wNx s, s.2.2 + 1), ⟨s, a1, by omega, Or.inr ⟨b2, b3, Or.inl ⟨by rw [e0]; exact hg, rfl⟩⟩⟩, b1, b4, b5⟩
theorem rMid_push (m : rMid E h Go Fi s0 dp tr rw s) (hg : Go (wNx s) dp.toNatClampNeg) (hh : dp.toInt + 1 < (h : Int)) (e1 : dp1.toInt = dp.toInt + 1) : rSt E h Go Fi s0 dp1 tr (upd rw dp1.toNatClampNeg (-1)) := by
  obtain ⟨⟨n, a1⟩, b1, h0, b2, b3, b4, b5⟩ := m
  have cd := m_cl (x := dp) h0
  have cd1 := m_cl (x := dp1) (by omega)
  have e0 : s.1.toNat = dp.toNatClampNeg := by omega
  refine ⟨n + 1, (s.1 + 1, upN (wNx s) (s.1.toNat + 1) 0, s.2.2 + 1), ⟨s, a1, by omega, Or.inr ⟨b2, b3, Or.inr (Or.inl ⟨by rw [e0]; exact hg, by omega, rfl⟩)⟩⟩, by show s.1 + 1 = _; omega, b4, fun i hi => ?_⟩
  have hi' : (i : Int) ≤ s.1 + 1 := hi
  show (upd rw dp1.toNatClampNeg (-1) i).toInt = (upN (wNx s) (s.1.toNat + 1) 0 i : Int) - 1
  by_cases z : i = dp1.toNatClampNeg
  · rw [show s.1.toNat + 1 = i by omega, upN_k, z]
    simp only [upd, if_true]
    decide
  · rw [upN_n _ (show i ≠ s.1.toNat + 1 by omega)]
    unfold upd
    rw [if_neg z]
    exact b5 i (by omega)
theorem rMid_nofit (m : rMid E h Go Fi s0 dp tr rw s) (hg : Go (wNx s) dp.toNatClampNeg) (hh : ¬ dp.toInt + 1 < (h : Int)) (hf : ¬ Fi (wNx s)) : rSt E h Go Fi s0 dp tr rw := by
  obtain ⟨⟨n, a1⟩, b1, h0, b2, b3, b4, b5⟩ := m
  have cd := m_cl (x := dp) h0
  have e0 : s.1.toNat = dp.toNatClampNeg := by omega
  exact ⟨n + 1, (s.1, wNx s, s.2.2 + 1), ⟨s, a1, by omega, Or.inr ⟨b2, b3, Or.inr (Or.inr ⟨by rw [e0]; exact hg, by omega, hf, rfl⟩)⟩⟩, b1, b4, b5⟩
theorem rMid_fit (m : rMid E h Go Fi s0 dp tr rw s) (hg : Go (wNx s) dp.toNatClampNeg) (hh : ¬ dp.toInt + 1 < (h : Int)) (hf : Fi (wNx s)) : wRun E h Go Fi s0 2 (s.1, wNx s, s.2.2 + 1) ∧ rRel (s.1, wNx s, s.2.2 + 1) dp tr rw := by
  obtain ⟨⟨n, a1⟩, b1, h0, b2, b3, b4, b5⟩ := m
  have cd := m_cl (x := dp) h0
  have e0 : s.1.toNat = dp.toNatClampNeg := by omega
  exact ⟨⟨n, s, a1, Or.inr (Or.inr ⟨by omega, b2, b3, by rw [e0]; exact hg, by omega, hf, rfl, rfl⟩)⟩, b1, b4, b5⟩
end RST
theorem rMid_rows {w h : Nat} {hd cs rs : Nat → Int32} {Fi : (Nat → Nat) → Prop} {s0 s : wS} {dp tr : Int32} {rw : Nat → Int32} (hw : w ≤ 6) (g : wGd (2 ^ w) h w cs s0) (m : rMid (2 ^ w) h (goP w hd cs rs) Fi s0 dp tr rw s) : ∀ i : Nat, (i : Int) ≤ dp.toInt → rw i = nI (wNx s i - 1) ∧ wNx s i - 1 < 2 ^ w := by
  obtain ⟨⟨n, a1⟩, b1, h0, b2, b3, b4, b5⟩ := m
  have gs := wGd_try (wGd_to n g a1) (by omega) b2 b3
  intro i hi
  have p64 := pw_64 hw
  have gi := gs.2.1 i (by show (i : Int) ≤ s.1; omega)
  have gi1 : wNx s i ≤ 2 ^ w := gi.1
  have ge : 1 ≤ wNx s i := by
    by_cases z : (i : Int) < s.1
    · exact gi.2 z
    · have e : i = s.1.toNat := by omega
      rw [e, wNx_k]; omega
  have r := b5 i (by omega)
  refine ⟨Int32.toInt_inj.mp ?_, by omega⟩
  rw [r, nI_toInt (by omega)]
  omega
theorem fitR_cg {j : Nat} {r r1 : Nat → Nat → Int32} {p : Int64} (e2 : r1 2 = r 2) (e3 : r1 3 = r 3) (e4 : r1 4 = r 4) (e5 : r1 5 = r 5) (e6 : r1 6 = r 6) (e7 : r1 7 = r 7) : fitR j r1 p ↔ fitR j r p := by
  unfold fitR
  rw [e2, e3, e4, e5, e6, e7]

theorem i_ad {x : Int32} (h : -1 ≤ x.toInt) (h2 : x.toInt ≤ 100000) : (x + 1).toInt = x.toInt + 1 := by
  have z := Int32.toInt_add x 1
  have o : (1 : Int32).toInt = 1 := rfl
  rw [z, o]
  exact Int.bmod_eq_of_le (by omega) (by omega)

set_option maxHeartbeats 4000000 in
set_option maxRecDepth 100000 in
theorem c_X10_begin_x (l : Launch) (D : va_G) (cy : Nat → ClassId) (mo : Nat) (a : Nat → Nat) (f : Nat → Int32) (g : Nat → Int64) (r : Nat → Nat → Int32) (q : Nat → Nat → Int64)  (hD : DM cy mo a)  : Mv l D cy mo a yX10_begin wsX10_begin ({ frames := 0, cells := 0, slots := 0, locals := 0 }) f g r q [] (fun u => ∃ (rw : Nat → Int32), u = ((upd (upd (upd f 11 (0 : Int32)) 12 (0 : Int32)) 13 (0 : Int32)), g, (va_up r 10 rw), q) ∧ (rw = upd (r 10) 0 (-1))) := by
  refine Met.ofW (cc := cX10_begin) (maxL := 1) (ret := none) (by decide) rfl ?_
  intro p e s m args below meth c s₁ B hml hv
  obtain ⟨rfl, hP, hK⟩ := hv
  have hx := B.exec
  have hb := B.bytes
  have hr := B.returns
  have hts := atoms_spec (ws := wsX10_begin) B.pre
  have hin : ∀ w ∈ u_ws RX10 TX10 35, w ∈ wsX10_begin := by decide +kernel
  have hown : s.vm.findClass RX10 = some m.cls := findClass_of_methodNamed B.named
  have hlocks := B.notSynchronized
  have hS : va_S (AM mo a) s.heap s.heap [] := va_S.rf
  have hl := lv_entry ([.ref mo]) (n := 1) (Nat.le_of_ble_eq_true rfl)
  rw [lg_entry_eq]
  generalize (lg_sl ([.ref mo]) ++ List.replicate (1 - (lg_sl ([.ref mo])).length) Slot.unset).toArray = ls at hl ⊢
  have hl : lv_has ls 1 [(0, .ref mo)] := hl
  have k_m1 : (-1 : Int32).toInt = -1 := by decide
  have k_0 : (0 : Int32).toInt = 0 := by decide
  refine lv_aload_n hx hb dX10_begin_0 rfl (lv_at hl 0 rfl) ?_
  refine lv_iconst (v := 0) hx hb dX10_begin_1 (by decide) ?_
  refine m_put (v := .int (0 : Int32)) (ty := .int) hx hb hts hin hown hK hP hD hS 11 (by decide) rfl (hts (.fieldLink RX10 157 "ShadowBenchModel" "depth" "I") (by decide +kernel)) rfl (by decide +kernel) rfl rfl (upd f 11 (0 : Int32)) g rfl dX10_begin_2 (fun H locs hP hS => ?_)
  refine lv_aload_n hx hb dX10_begin_5 rfl (lv_at hl 0 rfl) ?_
  refine m_get (v := .ref (a 10)) hx hb hts hin hown hK hP 10 (by decide) rfl (hts (.fieldLink RX10 35 "ShadowBenchModel" "rows" "[I") (by decide +kernel)) rfl dX10_begin_6 ?_
  refine lv_iconst (v := 0) hx hb dX10_begin_9 (by decide) ?_
  refine lv_iconst (v := (-1)) hx hb dX10_begin_10 (by decide) ?_
  refine m_iast (w := (r 10)) hx hb hK hP hD hS 9 rfl (vp_in_iff.mpr ⟨by omega, by omega⟩) (va_up r 10 ((upd (r 10) (0 : Int32).toNatClampNeg (((-1) : Int32))))) rfl dX10_begin_11 (fun H locs hP hS => ?_)
  refine lv_aload_n hx hb dX10_begin_12 rfl (lv_at hl 0 rfl) ?_
  refine lv_iconst (v := 0) hx hb dX10_begin_13 (by decide) ?_
  refine m_put (v := .int (0 : Int32)) (ty := .int) hx hb hts hin hown hK hP hD hS 12 (by decide) rfl (hts (.fieldLink RX10 160 "ShadowBenchModel" "tries" "I") (by decide +kernel)) rfl (by decide +kernel) rfl rfl (upd (upd f 11 (0 : Int32)) 12 (0 : Int32)) g rfl dX10_begin_14 (fun H locs hP hS => ?_)
  refine lv_aload_n hx hb dX10_begin_17 rfl (lv_at hl 0 rfl) ?_
  refine lv_iconst (v := 0) hx hb dX10_begin_18 (by decide) ?_
  refine m_put (v := .int (0 : Int32)) (ty := .boolean) hx hb hts hin hown hK hP hD hS 13 (by decide) rfl (hts (.fieldLink RX10 163 "ShadowBenchModel" "spent" "Z") (by decide +kernel)) rfl (by decide +kernel) rfl rfl (upd (upd (upd f 11 (0 : Int32)) 12 (0 : Int32)) 13 (0 : Int32)) g rfl dX10_begin_19 (fun H locs hP hS => ?_)
  exact W.vret hx hb hr (fun t ht hW => ⟨⟨((upd (upd (upd f 11 (0 : Int32)) 12 (0 : Int32)) 13 (0 : Int32)), g, (va_up r 10 (((upd (r 10) (0 : Int32).toNatClampNeg (((-1) : Int32)))))), q), rfl, ⟨((upd (r 10) (0 : Int32).toNatClampNeg (((-1) : Int32)))), rfl, rfl⟩, by unfold mB; rw [ht]; exact hP⟩, hS.F ht⟩) hS.2.2 dX10_begin_22
set_option maxHeartbeats 4000000 in
set_option maxRecDepth 100000 in
theorem c_X10_picture_x (l : Launch) (D : va_G) (cy : Nat → ClassId) (mo : Nat) (a : Nat → Nat) (f : Nat → Int32) (g : Nat → Int64) (r : Nat → Nat → Int32) (q : Nat → Nat → Int64) (j : Int32) (many : Int32) (hD : DM cy mo a) (hI : MI f r) (hj : 0 ≤ j.toInt ∧ j.toInt < (f 1).toInt) {nx : Nat → Nat} (hm : 0 ≤ many.toInt ∧ many.toInt ≤ 6) (hn9 : ∀ i : Nat, (i : Int) < many.toInt → r 10 i = nI (nx i - 1)) : Ml l D cy mo a yX10_picture wsX10_picture ({ frames := 0, cells := 0, slots := 0, locals := 0 }) f g r q [.int j, .int many] (fun r0 u => u = (f, g, r, q) ∧ (r0 = picL (r 3 j.toNatClampNeg).toNatClampNeg nx many.toNatClampNeg)) := by
  refine Met.ofW (cc := cX10_picture) (maxL := 6) (ret := (some .long)) (by decide) rfl ?_
  intro p e s m args below meth c s₁ B hml hv
  obtain ⟨rfl, hP, hK⟩ := hv
  have hx := B.exec
  have hb := B.bytes
  have hr := B.returns
  have hts := atoms_spec (ws := wsX10_picture) B.pre
  have hin : ∀ w ∈ u_ws RX10 TX10 35, w ∈ wsX10_picture := by decide +kernel
  have hown : s.vm.findClass RX10 = some m.cls := findClass_of_methodNamed B.named
  have hlocks := B.notSynchronized
  have hS : va_S (AM mo a) s.heap s.heap [] := va_S.rf
  have hl := lv_entry ([.ref mo, .int j, .int many]) (n := 6) (Nat.le_of_ble_eq_true rfl)
  rw [lg_entry_eq]
  generalize (lg_sl ([.ref mo, .int j, .int many]) ++ List.replicate (6 - (lg_sl ([.ref mo, .int j, .int many])).length) Slot.unset).toArray = ls at hl ⊢
  have hl : lv_has ls 6 [(0, .ref mo), (1, .int j), (2, .int many)] := hl
  have k_0 : (0 : Int32).toInt = 0 := by decide
  have k_0L : (0 : Int64).toInt = 0 := by decide
  have hI1 := hI.1
  have szw := mi_w hI (x := j) (by omega) (by omega) rfl
  have szh := mi_h hI (x := j) (by omega) (by omega) rfl
  have cj9 := m_cl (x := j) (by omega)
  have cw9 := m_cl (x := r 3 j.toNatClampNeg) (by omega)
  have ch9 := m_cl (x := r 4 j.toNatClampNeg) (by omega)
  have nw9 := cl_nI (w := r 3 j.toNatClampNeg) (by omega)
  have cm9 := m_cl (x := many) (by omega)
  refine lv_lconst (v := 0) hx hb dX10_picture_0 (by decide) ?_
  refine lv_lstore_n (lv' := [(3, .long (0 : Int64)), (0, .ref mo), (1, .int j), (2, .int many)]) hx hb dX10_picture_1 rfl hl (by decide) rfl (fun ls hl => ?_)
  refine lv_iconst (v := 0) hx hb dX10_picture_2 (by decide) ?_
  refine lv_istore (lv' := [(5, .int (0 : Int32)), (3, .long (0 : Int64)), (0, .ref mo), (1, .int j), (2, .int many)]) hx hb dX10_picture_3 hl (by decide) rfl (fun ls hl => ?_)
  have loop_5 : ∀ (n : Nat) (k : Nat) (x3 : Int64), (k ≤ 6 ∧ (k : Int) ≤ many.toInt) → (x3 = picL (r 3 j.toNatClampNeg).toNatClampNeg nx k) → 6 - k < n → ∀ (H : Heap) (locs : List Loc), va_P D vwCl (WM cy mo a f g r q) H → va_S (AM mo a) s.heap H locs → ∀ (ls : Array Slot), lv_has ls 6 [(5, .int (nI k)), (3, .long x3), (0, .ref mo), (1, .int j), (2, .int many)] → W p l e (headSpec wsX10_picture ({ frames := 0, cells := 0, slots := 0, locals := 0 })).room s m #[Value.ref mo, Value.int j, Value.int many] below meth c H locs 0 0 (MQ below (va_Ql (fun r0 u => u = (f, g, r, q) ∧ (r0 = picL (r 3 j.toNatClampNeg).toNatClampNeg nx many.toNatClampNeg)) (mB D cy mo a) (AM mo a)) #[Value.ref mo, Value.int j, Value.int many] s 0 0 (AM mo a)) (F0 m 5 ls []) := by
    intro n
    induction n with
    | zero => intro k x3  j5_0 j5_1 hn; exact absurd hn (Nat.not_lt_zero _)
    | succ n ih_5 =>
      intro k x3  j5_0 j5_1 hn_5 H locs hP hS ls hl
      have ik : (nI k).toInt = (k : Int) := nI_toInt (by omega)
      refine lv_iload hx hb dX10_picture_5 (lv_at hl 0 rfl) ?_
      refine lv_iload_n hx hb dX10_picture_7 rfl (lv_at hl 4 rfl) ?_
      refine lv_icmp_ge (tgt := 38) hx hb dX10_picture_8 (by decide) (fun c8 => ?_) (fun c8 => ?_)
      · skip
        have d8 := c8
        rw [fa_le] at d8
        refine lv_lload_n hx hb dX10_picture_38 rfl (lv_at hl 1 rfl) ?_
        exact W.lret (v := x3) hx hb hr (fun t ht hW => ⟨⟨_, (f, g, r, q), rfl, ⟨rfl, (by rw [j5_1, show k = many.toNatClampNeg by omega])⟩, by unfold mB; rw [ht]; exact hP⟩, hS.F ht⟩) hS.2.2 dX10_picture_39
      · skip
        have d8 := c8
        rw [fa_le] at d8
        refine lv_lload_n hx hb dX10_picture_11 rfl (lv_at hl 1 rfl) ?_
        refine lv_aload_n hx hb dX10_picture_12 rfl (lv_at hl 2 rfl) ?_
        refine m_get (v := .ref (a 10)) hx hb hts hin hown hK hP 10 (by decide) rfl (hts (.fieldLink RX10 35 "ShadowBenchModel" "rows" "[I") (by decide +kernel)) rfl dX10_picture_13 ?_
        refine lv_iload hx hb dX10_picture_16 (lv_at hl 0 rfl) ?_
        refine m_iald (w := (r 10)) hx hb hK hP 9 rfl (vp_in_iff.mpr ⟨by omega, by omega⟩) dX10_picture_18 ?_
        refine lv_topi (fun v18 e18 => ?_)
        have i18 : v18.toInt = ((r 10) (nI k).toNatClampNeg).toInt := congrArg Int32.toInt e18
        refine lv_i2l (v := v18.toInt64) hx hb dX10_picture_19 rfl ?_
        refine lv_iload hx hb dX10_picture_20 (lv_at hl 0 rfl) ?_
        refine lv_aload_n hx hb dX10_picture_22 rfl (lv_at hl 2 rfl) ?_
        refine m_get (v := .ref (a 3)) hx hb hts hin hown hK hP 3 (by decide) rfl (hts (.fieldLink RX10 13 "ShadowBenchModel" "wide" "[I") (by decide +kernel)) rfl dX10_picture_23 ?_
        refine lv_iload_n hx hb dX10_picture_26 rfl (lv_at hl 3 rfl) ?_
        refine m_iald (w := (r 3)) hx hb hK hP 2 rfl (vp_in_iff.mpr ⟨by omega, by omega⟩) dX10_picture_27 ?_
        refine lv_topi (fun v27 e27 => ?_)
        have i27 : v27.toInt = ((r 3) j.toNatClampNeg).toInt := congrArg Int32.toInt e27
        have w27 := mi_w hI (x := j) (by omega) (by omega) e27
        refine lv_imul hx hb dX10_picture_28 ?_
        refine lv_topi (fun v28 e28 => ?_)
        refine lv_lshl (v := v18.toInt64 <<< (v28.toInt64 &&& 63)) hx hb dX10_picture_29 rfl ?_
        refine lv_lor hx hb dX10_picture_30 ?_
        refine lv_topl (fun v30 e30 => ?_)
        have f30 : v30 = picL (r 3 j.toNatClampNeg).toNatClampNeg nx (k + 1) := by
          simp only [picL]
          rw [e30, e28, e18, nI_clamp (n := k) (by omega), hn9 k (by omega), e27, j5_1, ← pk_mul, nw9]
        refine lv_lstore_n (lv' := [(3, .long v30), (5, .int (nI k)), (0, .ref mo), (1, .int j), (2, .int many)]) hx hb dX10_picture_31 rfl hl (by decide) rfl (fun ls hl => ?_)
        refine lv_iinc (v := (nI (k + 1))) (lv' := [(5, .int (nI (k + 1))), (3, .long v30), (0, .ref mo), (1, .int j), (2, .int many)]) hx hb dX10_picture_32 hl (k := 1) rfl (nI_1 _) (by decide) rfl (fun ls hl => ?_)
        refine lv_goto (tgt := 5) hx hb dX10_picture_35 (by decide) ?_
        exact ih_5 (k + 1) v30 (by omega) (f30) (by omega) _ _ hP hS ls (lv_sub hl [0, 1, 2, 3, 4] rfl)
  exact loop_5 (6 + 1) 0 (0 : Int64) (by omega) (rfl) (by omega) _ _ hP hS ls (lv_sub hl [0, 1, 2, 3, 4] rfl)
set_option maxHeartbeats 4000000 in
set_option maxRecDepth 100000 in
theorem c_X10_goesOn_x (l : Launch) (D : va_G) (cy : Nat → ClassId) (mo : Nat) (a : Nat → Nat) (f : Nat → Int32) (g : Nat → Int64) (r : Nat → Nat → Int32) (q : Nat → Nat → Int64) (j : Int32) (hD : DM cy mo a) (hI : MI f r) (hj : 0 ≤ j.toInt ∧ j.toInt < (f 1).toInt) (hd : 0 ≤ (f 11).toInt ∧ (f 11).toInt < (r 4 j.toNatClampNeg).toInt) {nx : Nat → Nat} (hn9 : ∀ i : Nat, (i : Int) ≤ (f 11).toInt → r 10 i = nI (nx i - 1) ∧ nx i - 1 < 64) : Mi l D cy mo a yX10_goesOn wsX10_goesOn ({ frames := 0, cells := 0, slots := 0, locals := 0 }) f g r q [.int j] (fun r0 u => u = (f, g, r, q) ∧ (Bo r0 (goP (r 3 j.toNatClampNeg).toNatClampNeg (fun s => r 7 (36 * j.toNatClampNeg + s)) (fun x => r 5 (44 * j.toNatClampNeg + 11 + x)) (fun y => r 5 (44 * j.toNatClampNeg + y)) nx (f 11).toNatClampNeg))) := by
  refine Met.ofW (cc := cX10_goesOn) (maxL := 10) (ret := (some .boolean)) (by decide) rfl ?_
  intro p e s m args below meth c s₁ B hml hv
  obtain ⟨rfl, hP, hK⟩ := hv
  have hx := B.exec
  have hb := B.bytes
  have hr := B.returns
  have hts := atoms_spec (ws := wsX10_goesOn) B.pre
  have hin : ∀ w ∈ u_ws RX10 TX10 35, w ∈ wsX10_goesOn := by decide +kernel
  have hown : s.vm.findClass RX10 = some m.cls := findClass_of_methodNamed B.named
  have hlocks := B.notSynchronized
  have hS : va_S (AM mo a) s.heap s.heap [] := va_S.rf
  have hl := lv_entry ([.ref mo, .int j]) (n := 10) (Nat.le_of_ble_eq_true rfl)
  rw [lg_entry_eq]
  generalize (lg_sl ([.ref mo, .int j]) ++ List.replicate (10 - (lg_sl ([.ref mo, .int j])).length) Slot.unset).toArray = ls at hl ⊢
  have hl : lv_has ls 10 [(0, .ref mo), (1, .int j)] := hl
  have k_0 : (0 : Int32).toInt = 0 := by decide
  have k_1 : (1 : Int32).toInt = 1 := by decide
  have k_2 : (2 : Int32).toInt = 2 := by decide
  have k_11 : (11 : Int32).toInt = 11 := by decide
  have k_36 : (36 : Int32).toInt = 36 := by decide
  have k_44 : (44 : Int32).toInt = 44 := by decide
  have hI1 := hI.1
  have szw := mi_w hI (x := j) (by omega) (by omega) rfl
  have szh := mi_h hI (x := j) (by omega) (by omega) rfl
  have cj9 := m_cl (x := j) (by omega)
  have cw9 := m_cl (x := r 3 j.toNatClampNeg) (by omega)
  have ch9 := m_cl (x := r 4 j.toNatClampNeg) (by omega)
  have nw9 := cl_nI (w := r 3 j.toNatClampNeg) (by omega)
  have cd9 := m_cl (x := f 11) (by omega)
  have pdw : (((f 11).toNatClampNeg * (r 3 j.toNatClampNeg).toNatClampNeg : Nat) : Int) = (f 11).toInt * (r 3 j.toNatClampNeg).toInt := by rw [Int.natCast_mul, cd9, cw9]
  refine lv_aload_n hx hb dX10_goesOn_0 rfl (lv_at hl 0 rfl) ?_
  refine m_get (v := .ref (a 3)) hx hb hts hin hown hK hP 3 (by decide) rfl (hts (.fieldLink RX10 13 "ShadowBenchModel" "wide" "[I") (by decide +kernel)) rfl dX10_goesOn_1 ?_
  refine lv_iload_n hx hb dX10_goesOn_4 rfl (lv_at hl 1 rfl) ?_
  refine m_iald (w := (r 3)) hx hb hK hP 2 rfl (vp_in_iff.mpr ⟨by omega, by omega⟩) dX10_goesOn_5 ?_
  refine lv_topi (fun v5 e5 => ?_)
  have i5 : v5.toInt = ((r 3) j.toNatClampNeg).toInt := congrArg Int32.toInt e5
  have w5 := mi_w hI (x := j) (by omega) (by omega) e5
  refine lv_istore_n (lv' := [(2, .int v5), (0, .ref mo), (1, .int j)]) hx hb dX10_goesOn_6 rfl hl (by decide) rfl (fun ls hl => ?_)
  refine lv_iconst (v := 0) hx hb dX10_goesOn_7 (by decide) ?_
  refine lv_istore_n (lv' := [(3, .int (0 : Int32)), (2, .int v5), (0, .ref mo), (1, .int j)]) hx hb dX10_goesOn_8 rfl hl (by decide) rfl (fun ls hl => ?_)
  refine lv_iconst (v := 1) hx hb dX10_goesOn_9 (by decide) ?_
  refine lv_istore (lv' := [(4, .int (1 : Int32)), (3, .int (0 : Int32)), (2, .int v5), (0, .ref mo), (1, .int j)]) hx hb dX10_goesOn_10 hl (by decide) rfl (fun ls hl => ?_)
  refine lv_iconst (v := 0) hx hb dX10_goesOn_12 (by decide) ?_
  refine lv_istore (lv' := [(5, .int (0 : Int32)), (4, .int (1 : Int32)), (3, .int (0 : Int32)), (2, .int v5), (0, .ref mo), (1, .int j)]) hx hb dX10_goesOn_13 hl (by decide) rfl (fun ls hl => ?_)
  have loop_15 : ∀ (n : Nat) (x : Nat) (x4 : Int32) (x3 : Int32), (x ≤ 6 ∧ x ≤ (r 3 j.toNatClampNeg).toNatClampNeg) → (x3 = nI (bs (fun i => (nx (f 11).toNatClampNeg - 1).testBit i) x)) → (Bo x4 (∀ i, i < x → ((r 7 (36 * j.toNatClampNeg + ((f 11).toNatClampNeg * (r 3 j.toNatClampNeg).toNatClampNeg + i)) = 2 ∨ r 7 (36 * j.toNatClampNeg + ((f 11).toNatClampNeg * (r 3 j.toNatClampNeg).toNatClampNeg + i)) = if (nx (f 11).toNatClampNeg - 1).testBit i then 1 else 0) ∧ (colN nx i ((f 11).toNatClampNeg + 1) : Int) ≤ (r 5 (44 * j.toNatClampNeg + 11 + i)).toInt))) → 6 - x < n → ∀ (H : Heap) (locs : List Loc), va_P D vwCl (WM cy mo a f g r q) H → va_S (AM mo a) s.heap H locs → ∀ (ls : Array Slot), lv_has ls 10 [(5, .int (nI x)), (4, .int x4), (3, .int x3), (2, .int v5), (0, .ref mo), (1, .int j)] → W p l e (headSpec wsX10_goesOn ({ frames := 0, cells := 0, slots := 0, locals := 0 })).room s m #[Value.ref mo, Value.int j] below meth c H locs 0 0 (MQ below (va_Qi (fun r0 u => u = (f, g, r, q) ∧ (Bo r0 (goP (r 3 j.toNatClampNeg).toNatClampNeg (fun s => r 7 (36 * j.toNatClampNeg + s)) (fun x => r 5 (44 * j.toNatClampNeg + 11 + x)) (fun y => r 5 (44 * j.toNatClampNeg + y)) nx (f 11).toNatClampNeg))) (mB D cy mo a) (AM mo a)) #[Value.ref mo, Value.int j] s 0 0 (AM mo a)) (F0 m 15 ls []) := by
    intro n
    induction n with
    | zero => intro x x4 x3  j15_0 j15_1 j15_2 hn; exact absurd hn (Nat.not_lt_zero _)
    | succ n ih_15 =>
      intro x x4 x3  j15_0 j15_1 j15_2 hn_15 H locs hP hS ls hl
      have ix : (nI x).toInt = (x : Int) := nI_toInt (by omega)
      refine lv_iload hx hb dX10_goesOn_15 (lv_at hl 0 rfl) ?_
      refine lv_iload_n hx hb dX10_goesOn_17 rfl (lv_at hl 3 rfl) ?_
      refine lv_icmp_ge (tgt := 152) hx hb dX10_goesOn_18 (by decide) (fun c18 => ?_) (fun c18 => ?_)
      · skip
        have d18 := c18
        rw [fa_le] at d18
        have b3 := bs_le (fun i => (nx (f 11).toNatClampNeg - 1).testBit i) x
        have i3 : x3.toInt = (bs (fun i => (nx (f 11).toNatClampNeg - 1).testBit i) (r 3 j.toNatClampNeg).toNatClampNeg : Int) := by rw [j15_1, show x = (r 3 j.toNatClampNeg).toNatClampNeg by omega]; exact nI_toInt (by rw [← show x = (r 3 j.toNatClampNeg).toNatClampNeg by omega]; omega)
        refine lv_iload hx hb dX10_goesOn_152 (lv_at hl 1 rfl) ?_
        refine lv_if_eq (tgt := 179) hx hb dX10_goesOn_154 (by decide) (fun c154 => ?_) (fun c154 => ?_)
        · skip
          have d154 := c154
          rw [fa_eq] at d154
          refine lv_iconst (v := 0) hx hb dX10_goesOn_179 (by decide) ?_
          exact W.zret (v := (0 : Int32)) hx hb hr (by decide) (fun t ht hW => ⟨⟨_, (f, g, r, q), rfl, ⟨rfl, Or.inr ⟨rfl, (fun z9 => by first | exact (bo_no j15_2 c154) (fun i9 h9 => z9.1 i9 (by omega)) | exact c172 (Int32.toInt_inj.mp (by rw [i3, i171]; exact z9.2)))⟩⟩, by unfold mB; rw [ht]; exact hP⟩, hS.F ht⟩) hS.2.2 dX10_goesOn_180
        · skip
          have d154 := c154
          rw [fa_eq] at d154
          refine lv_iload_n hx hb dX10_goesOn_157 rfl (lv_at hl 2 rfl) ?_
          refine lv_aload_n hx hb dX10_goesOn_158 rfl (lv_at hl 4 rfl) ?_
          refine m_get (v := .ref (a 5)) hx hb hts hin hown hK hP 5 (by decide) rfl (hts (.fieldLink RX10 19 "ShadowBenchModel" "sums" "[I") (by decide +kernel)) rfl dX10_goesOn_159 ?_
          refine lv_bipush (v := 44) hx hb dX10_goesOn_162 (by decide) ?_
          refine lv_iload_n hx hb dX10_goesOn_164 rfl (lv_at hl 5 rfl) ?_
          refine lv_imul hx hb dX10_goesOn_165 ?_
          refine lv_topi (fun v165 e165 => ?_)
          have i165 : v165.toInt = 44 * j.toInt := by rw [e165]; exact mulcL rfl (by omega) (by omega)
          refine lv_aload_n hx hb dX10_goesOn_166 rfl (lv_at hl 4 rfl) ?_
          refine m_get (v := .int (f 11)) hx hb hts hin hown hK hP 11 (by decide) rfl (hts (.fieldLink RX10 157 "ShadowBenchModel" "depth" "I") (by decide +kernel)) rfl dX10_goesOn_167 ?_
          refine lv_iadd hx hb dX10_goesOn_170 ?_
          refine lv_topi (fun v170 e170 => ?_)
          have i170 : v170.toInt = v165.toInt + (f 11).toInt := by rw [e170]; exact fb_addI (by omega) (by omega)
          refine m_iald (w := (r 5)) hx hb hK hP 4 rfl (vp_in_iff.mpr ⟨by omega, by omega⟩) dX10_goesOn_171 ?_
          refine lv_topi (fun v171 e171 => ?_)
          have i171 : v171.toInt = ((r 5) v170.toNatClampNeg).toInt := congrArg Int32.toInt e171
          have cv7 := m_cl (x := v170) (by omega)
          have f171 : v171 = r 5 (44 * j.toNatClampNeg + (f 11).toNatClampNeg) := by rw [e171, show v170.toNatClampNeg = 44 * j.toNatClampNeg + (f 11).toNatClampNeg by omega]
          have i171 := congrArg Int32.toInt f171
          refine lv_icmp_ne (tgt := 179) hx hb dX10_goesOn_172 (by decide) (fun c172 => ?_) (fun c172 => ?_)
          · skip
            have d172 := c172
            rw [fa_eq] at d172
            refine lv_iconst (v := 0) hx hb dX10_goesOn_179 (by decide) ?_
            exact W.zret (v := (0 : Int32)) hx hb hr (by decide) (fun t ht hW => ⟨⟨_, (f, g, r, q), rfl, ⟨rfl, Or.inr ⟨rfl, (fun z9 => by first | exact (bo_no j15_2 c154) (fun i9 h9 => z9.1 i9 (by omega)) | exact c172 (Int32.toInt_inj.mp (by rw [i3, i171]; exact z9.2)))⟩⟩, by unfold mB; rw [ht]; exact hP⟩, hS.F ht⟩) hS.2.2 dX10_goesOn_180
          · skip
            have d172 := c172
            rw [fa_eq] at d172
            refine lv_iconst (v := 1) hx hb dX10_goesOn_175 (by decide) ?_
            refine lv_goto (tgt := 180) hx hb dX10_goesOn_176 (by decide) ?_
            exact W.zret (v := (1 : Int32)) hx hb hr (by decide) (fun t ht hW => ⟨⟨_, (f, g, r, q), rfl, ⟨rfl, Or.inl ⟨rfl, (by have z9 := bo_get j15_2 c154; exact ⟨fun i9 h9 => z9 i9 (by omega), (by show _ = (r 5 (44 * j.toNatClampNeg + (f 11).toNatClampNeg)).toInt; rw [← i171, ← i3, c172])⟩)⟩⟩, by unfold mB; rw [ht]; exact hP⟩, hS.F ht⟩) hS.2.2 dX10_goesOn_180
      · skip
        have d18 := c18
        rw [fa_le] at d18
        refine lv_aload_n hx hb dX10_goesOn_21 rfl (lv_at hl 4 rfl) ?_
        refine m_get (v := .ref (a 7)) hx hb hts hin hown hK hP 7 (by decide) rfl (hts (.fieldLink RX10 26 "ShadowBenchModel" "held" "[I") (by decide +kernel)) rfl dX10_goesOn_22 ?_
        refine lv_bipush (v := 36) hx hb dX10_goesOn_25 (by decide) ?_
        refine lv_iload_n hx hb dX10_goesOn_27 rfl (lv_at hl 5 rfl) ?_
        refine lv_imul hx hb dX10_goesOn_28 ?_
        refine lv_topi (fun v28 e28 => ?_)
        have i28 : v28.toInt = 36 * j.toInt := by rw [e28]; exact mulcL rfl (by omega) (by omega)
        refine lv_aload_n hx hb dX10_goesOn_29 rfl (lv_at hl 4 rfl) ?_
        refine m_get (v := .int (f 11)) hx hb hts hin hown hK hP 11 (by decide) rfl (hts (.fieldLink RX10 157 "ShadowBenchModel" "depth" "I") (by decide +kernel)) rfl dX10_goesOn_30 ?_
        refine lv_iload_n hx hb dX10_goesOn_33 rfl (lv_at hl 3 rfl) ?_
        have m34 := mul56 (a := f 11) (b := v5) (by omega) w5
        refine lv_imul hx hb dX10_goesOn_34 ?_
        refine lv_topi (fun v34 e34 => ?_)
        have i34 : v34.toInt = (f 11).toInt * v5.toInt := by rw [e34]; exact fb_mulI (by omega) (by omega)
        have q34 : v34.toInt = (((f 11).toNatClampNeg * (r 3 j.toNatClampNeg).toNatClampNeg : Nat) : Int) := by rw [pdw, i34, e5]
        refine lv_iadd hx hb dX10_goesOn_35 ?_
        refine lv_topi (fun v35 e35 => ?_)
        have i35 : v35.toInt = v28.toInt + v34.toInt := by rw [e35]; exact fb_addI (by omega) (by omega)
        refine lv_iload hx hb dX10_goesOn_36 (lv_at hl 0 rfl) ?_
        refine lv_iadd hx hb dX10_goesOn_38 ?_
        refine lv_topi (fun v38 e38 => ?_)
        have i38 : v38.toInt = v35.toInt + (nI x).toInt := by rw [e38]; exact fb_addI (by omega) (by omega)
        refine m_iald (w := (r 7)) hx hb hK hP 6 rfl (vp_in_iff.mpr ⟨by omega, by omega⟩) dX10_goesOn_39 ?_
        refine lv_topi (fun v39 e39 => ?_)
        have i39 : v39.toInt = ((r 7) v38.toNatClampNeg).toInt := congrArg Int32.toInt e39
        have cv9 := m_cl (x := v38) (by omega)
        have f39 : v39 = r 7 (36 * j.toNatClampNeg + ((f 11).toNatClampNeg * (r 3 j.toNatClampNeg).toNatClampNeg + x)) := by rw [e39, show v38.toNatClampNeg = 36 * j.toNatClampNeg + ((f 11).toNatClampNeg * (r 3 j.toNatClampNeg).toNatClampNeg + x) by omega]
        refine lv_istore (lv' := [(6, .int v39), (5, .int (nI x)), (4, .int x4), (3, .int x3), (2, .int v5), (0, .ref mo), (1, .int j)]) hx hb dX10_goesOn_40 hl (by decide) rfl (fun ls hl => ?_)
        refine lv_aload_n hx hb dX10_goesOn_42 rfl (lv_at hl 5 rfl) ?_
        refine m_get (v := .ref (a 10)) hx hb hts hin hown hK hP 10 (by decide) rfl (hts (.fieldLink RX10 35 "ShadowBenchModel" "rows" "[I") (by decide +kernel)) rfl dX10_goesOn_43 ?_
        refine lv_aload_n hx hb dX10_goesOn_46 rfl (lv_at hl 5 rfl) ?_
        refine m_get (v := .int (f 11)) hx hb hts hin hown hK hP 11 (by decide) rfl (hts (.fieldLink RX10 157 "ShadowBenchModel" "depth" "I") (by decide +kernel)) rfl dX10_goesOn_47 ?_
        refine m_iald (w := (r 10)) hx hb hK hP 9 rfl (vp_in_iff.mpr ⟨by omega, by omega⟩) dX10_goesOn_50 ?_
        refine lv_topi (fun v50 e50 => ?_)
        have i50 : v50.toInt = ((r 10) (f 11).toNatClampNeg).toInt := congrArg Int32.toInt e50
        refine lv_iload hx hb dX10_goesOn_51 (lv_at hl 1 rfl) ?_
        refine lv_ishr hx hb dX10_goesOn_53 ?_
        refine lv_topi (fun v53 e53 => ?_)
        refine lv_iconst (v := 1) hx hb dX10_goesOn_54 (by decide) ?_
        refine lv_iand hx hb dX10_goesOn_55 ?_
        refine lv_topi (fun v55 e55 => ?_)
        have f55 : v55 = if (nx (f 11).toNatClampNeg - 1).testBit x then 1 else 0 := by rw [e55, e53, e50, (hn9 (f 11).toNatClampNeg (by omega)).1]; exact sb_t _ (hn9 (f 11).toNatClampNeg (by omega)).2 x (by omega)
        refine lv_istore (lv' := [(7, .int v55), (6, .int v39), (5, .int (nI x)), (4, .int x4), (3, .int x3), (2, .int v5), (0, .ref mo), (1, .int j)]) hx hb dX10_goesOn_56 hl (by decide) rfl (fun ls hl => ?_)
        refine lv_iconst (v := 0) hx hb dX10_goesOn_58 (by decide) ?_
        refine lv_istore (lv' := [(8, .int (0 : Int32)), (7, .int v55), (6, .int v39), (5, .int (nI x)), (4, .int x4), (3, .int x3), (2, .int v5), (0, .ref mo), (1, .int j)]) hx hb dX10_goesOn_59 hl (by decide) rfl (fun ls hl => ?_)
        refine lv_iconst (v := 0) hx hb dX10_goesOn_61 (by decide) ?_
        refine lv_istore (lv' := [(9, .int (0 : Int32)), (8, .int (0 : Int32)), (7, .int v55), (6, .int v39), (5, .int (nI x)), (4, .int x4), (3, .int x3), (2, .int v5), (0, .ref mo), (1, .int j)]) hx hb dX10_goesOn_62 hl (by decide) rfl (fun ls hl => ?_)
        have loop_64 : ∀ (n : Nat) (y : Nat) (x8 : Int32), (y ≤ 6 ∧ (y : Int) ≤ (f 11).toInt + 1) → (x8 = nI (bs (fun j => (nx j - 1).testBit x) y)) → 6 - y < n → ∀ (H : Heap) (locs : List Loc), va_P D vwCl (WM cy mo a f g r q) H → va_S (AM mo a) s.heap H locs → ∀ (ls : Array Slot), lv_has ls 10 [(9, .int (nI y)), (8, .int x8), (7, .int v55), (6, .int v39), (5, .int (nI x)), (4, .int x4), (3, .int x3), (2, .int v5), (0, .ref mo), (1, .int j)] → W p l e (headSpec wsX10_goesOn ({ frames := 0, cells := 0, slots := 0, locals := 0 })).room s m #[Value.ref mo, Value.int j] below meth c H locs 0 0 (MQ below (va_Qi (fun r0 u => u = (f, g, r, q) ∧ (Bo r0 (goP (r 3 j.toNatClampNeg).toNatClampNeg (fun s => r 7 (36 * j.toNatClampNeg + s)) (fun x => r 5 (44 * j.toNatClampNeg + 11 + x)) (fun y => r 5 (44 * j.toNatClampNeg + y)) nx (f 11).toNatClampNeg))) (mB D cy mo a) (AM mo a)) #[Value.ref mo, Value.int j] s 0 0 (AM mo a)) (F0 m 64 ls []) := by
          intro n
          induction n with
          | zero => intro y x8  j64_0 j64_1 hn; exact absurd hn (Nat.not_lt_zero _)
          | succ n ih_64 =>
            intro y x8  j64_0 j64_1 hn_64 H locs hP hS ls hl
            have iy : (nI y).toInt = (y : Int) := nI_toInt (by omega)
            refine lv_iload hx hb dX10_goesOn_64 (lv_at hl 0 rfl) ?_
            refine lv_aload_n hx hb dX10_goesOn_66 rfl (lv_at hl 8 rfl) ?_
            refine m_get (v := .int (f 11)) hx hb hts hin hown hK hP 11 (by decide) rfl (hts (.fieldLink RX10 157 "ShadowBenchModel" "depth" "I") (by decide +kernel)) rfl dX10_goesOn_67 ?_
            refine lv_icmp_gt (tgt := 96) hx hb dX10_goesOn_70 (by decide) (fun c70 => ?_) (fun c70 => ?_)
            · skip
              have d70 := c70
              rw [fa_lt] at d70
              have e8 : x8 = nI (colN nx x ((f 11).toNatClampNeg + 1)) := by rw [j64_1, show y = (f 11).toNatClampNeg + 1 by omega]; rfl
              have b8 := bs_le (fun j => (nx j - 1).testBit x) ((f 11).toNatClampNeg + 1)
              have i8 : x8.toInt = (colN nx x ((f 11).toNatClampNeg + 1) : Int) := by rw [e8]; exact nI_toInt (by unfold colN; omega)
              refine lv_iload hx hb dX10_goesOn_96 (lv_at hl 5 rfl) ?_
              refine lv_if_eq (tgt := 138) hx hb dX10_goesOn_98 (by decide) (fun c98 => ?_) (fun c98 => ?_)
              · skip
                have d98 := c98
                rw [fa_eq] at d98
                refine lv_iconst (v := 0) hx hb dX10_goesOn_138 (by decide) ?_
                refine lv_istore (lv' := [(4, .int (0 : Int32)), (9, .int (nI y)), (8, .int x8), (7, .int v55), (6, .int v39), (5, .int (nI x)), (3, .int x3), (2, .int v5), (0, .ref mo), (1, .int j)]) hx hb dX10_goesOn_139 hl (by decide) rfl (fun ls hl => ?_)
                refine lv_iload_n hx hb dX10_goesOn_141 rfl (lv_at hl 6 rfl) ?_
                refine lv_iload hx hb dX10_goesOn_142 (lv_at hl 3 rfl) ?_
                refine lv_iadd hx hb dX10_goesOn_144 ?_
                refine lv_topi (fun v144 e144 => ?_)
                have f144 : v144 = nI (bs (fun i => (nx (f 11).toNatClampNeg - 1).testBit i) (x + 1)) := nI_if e144 j15_1 f55
                refine lv_istore_n (lv' := [(3, .int v144), (4, .int (0 : Int32)), (9, .int (nI y)), (8, .int x8), (7, .int v55), (6, .int v39), (5, .int (nI x)), (2, .int v5), (0, .ref mo), (1, .int j)]) hx hb dX10_goesOn_145 rfl hl (by decide) rfl (fun ls hl => ?_)
                refine lv_iinc (v := (nI (x + 1))) (lv' := [(5, .int (nI (x + 1))), (3, .int v144), (4, .int (0 : Int32)), (9, .int (nI y)), (8, .int x8), (7, .int v55), (6, .int v39), (2, .int v5), (0, .ref mo), (1, .int j)]) hx hb dX10_goesOn_146 hl (k := 6) rfl (nI_1 _) (by decide) rfl (fun ls hl => ?_)
                refine lv_goto (tgt := 15) hx hb dX10_goesOn_149 (by decide) ?_
                exact ih_15 (x + 1) (0 : Int32) v144 (by omega) (f144) (by first | exact bo_y j15_2 c98 (fun z9 => all_s z9 ⟨Or.inl (f39.symm.trans c104), by omega⟩) | exact bo_y j15_2 c98 (fun z9 => all_s z9 ⟨Or.inr (f39.symm.trans (c111.trans f55)), by omega⟩) | exact bo_n1 (fun z9 => (z9 x (by omega)).1.elim (fun y9 => c104 (f39.trans y9)) (fun y9 => c111 (f39.trans (y9.trans f55.symm)))) | exact bo_n1 (fun z9 => by have y9 := (z9 x (by omega)).2; omega) | exact bo_n0 j15_2 c98 (fun z9 i9 h9 => z9 i9 (by omega))) (by omega) _ _ hP hS ls (lv_sub hl [0, 2, 1, 7, 8, 9] rfl)
              · skip
                have d98 := c98
                rw [fa_eq] at d98
                refine lv_iload hx hb dX10_goesOn_101 (lv_at hl 3 rfl) ?_
                refine lv_iconst (v := 2) hx hb dX10_goesOn_103 (by decide) ?_
                refine lv_icmp_eq (tgt := 114) hx hb dX10_goesOn_104 (by decide) (fun c104 => ?_) (fun c104 => ?_)
                · skip
                  have d104 := c104
                  rw [fa_eq] at d104
                  refine lv_iload hx hb dX10_goesOn_114 (lv_at hl 1 rfl) ?_
                  refine lv_aload_n hx hb dX10_goesOn_116 rfl (lv_at hl 8 rfl) ?_
                  refine m_get (v := .ref (a 5)) hx hb hts hin hown hK hP 5 (by decide) rfl (hts (.fieldLink RX10 19 "ShadowBenchModel" "sums" "[I") (by decide +kernel)) rfl dX10_goesOn_117 ?_
                  refine lv_bipush (v := 44) hx hb dX10_goesOn_120 (by decide) ?_
                  refine lv_iload_n hx hb dX10_goesOn_122 rfl (lv_at hl 9 rfl) ?_
                  refine lv_imul hx hb dX10_goesOn_123 ?_
                  refine lv_topi (fun v123 e123 => ?_)
                  have i123 : v123.toInt = 44 * j.toInt := by rw [e123]; exact mulcL rfl (by omega) (by omega)
                  refine lv_bipush (v := 11) hx hb dX10_goesOn_124 (by decide) ?_
                  refine lv_iadd hx hb dX10_goesOn_126 ?_
                  refine lv_topi (fun v126 e126 => ?_)
                  have i126 : v126.toInt = v123.toInt + (11 : Int32).toInt := by rw [e126]; exact fb_addI (by omega) (by omega)
                  refine lv_iload hx hb dX10_goesOn_127 (lv_at hl 4 rfl) ?_
                  refine lv_iadd hx hb dX10_goesOn_129 ?_
                  refine lv_topi (fun v129 e129 => ?_)
                  have i129 : v129.toInt = v126.toInt + (nI x).toInt := by rw [e129]; exact fb_addI (by omega) (by omega)
                  refine m_iald (w := (r 5)) hx hb hK hP 4 rfl (vp_in_iff.mpr ⟨by omega, by omega⟩) dX10_goesOn_130 ?_
                  refine lv_topi (fun v130 e130 => ?_)
                  have i130 : v130.toInt = ((r 5) v129.toNatClampNeg).toInt := congrArg Int32.toInt e130
                  have cv8 := m_cl (x := v129) (by omega)
                  have f130 : v130 = r 5 (44 * j.toNatClampNeg + 11 + x) := by rw [e130, show v129.toNatClampNeg = 44 * j.toNatClampNeg + 11 + x by omega]
                  have i130 := congrArg Int32.toInt f130
                  refine lv_icmp_gt (tgt := 138) hx hb dX10_goesOn_131 (by decide) (fun c131 => ?_) (fun c131 => ?_)
                  · skip
                    have d131 := c131
                    rw [fa_lt] at d131
                    refine lv_iconst (v := 0) hx hb dX10_goesOn_138 (by decide) ?_
                    refine lv_istore (lv' := [(4, .int (0 : Int32)), (9, .int (nI y)), (8, .int x8), (7, .int v55), (6, .int v39), (5, .int (nI x)), (3, .int x3), (2, .int v5), (0, .ref mo), (1, .int j)]) hx hb dX10_goesOn_139 hl (by decide) rfl (fun ls hl => ?_)
                    refine lv_iload_n hx hb dX10_goesOn_141 rfl (lv_at hl 6 rfl) ?_
                    refine lv_iload hx hb dX10_goesOn_142 (lv_at hl 3 rfl) ?_
                    refine lv_iadd hx hb dX10_goesOn_144 ?_
                    refine lv_topi (fun v144 e144 => ?_)
                    have f144 : v144 = nI (bs (fun i => (nx (f 11).toNatClampNeg - 1).testBit i) (x + 1)) := nI_if e144 j15_1 f55
                    refine lv_istore_n (lv' := [(3, .int v144), (4, .int (0 : Int32)), (9, .int (nI y)), (8, .int x8), (7, .int v55), (6, .int v39), (5, .int (nI x)), (2, .int v5), (0, .ref mo), (1, .int j)]) hx hb dX10_goesOn_145 rfl hl (by decide) rfl (fun ls hl => ?_)
                    refine lv_iinc (v := (nI (x + 1))) (lv' := [(5, .int (nI (x + 1))), (3, .int v144), (4, .int (0 : Int32)), (9, .int (nI y)), (8, .int x8), (7, .int v55), (6, .int v39), (2, .int v5), (0, .ref mo), (1, .int j)]) hx hb dX10_goesOn_146 hl (k := 6) rfl (nI_1 _) (by decide) rfl (fun ls hl => ?_)
                    refine lv_goto (tgt := 15) hx hb dX10_goesOn_149 (by decide) ?_
                    exact ih_15 (x + 1) (0 : Int32) v144 (by omega) (f144) (by first | exact bo_y j15_2 c98 (fun z9 => all_s z9 ⟨Or.inl (f39.symm.trans c104), by omega⟩) | exact bo_y j15_2 c98 (fun z9 => all_s z9 ⟨Or.inr (f39.symm.trans (c111.trans f55)), by omega⟩) | exact bo_n1 (fun z9 => (z9 x (by omega)).1.elim (fun y9 => c104 (f39.trans y9)) (fun y9 => c111 (f39.trans (y9.trans f55.symm)))) | exact bo_n1 (fun z9 => by have y9 := (z9 x (by omega)).2; omega) | exact bo_n0 j15_2 c98 (fun z9 i9 h9 => z9 i9 (by omega))) (by omega) _ _ hP hS ls (lv_sub hl [0, 2, 1, 7, 8, 9] rfl)
                  · skip
                    have d131 := c131
                    rw [fa_lt] at d131
                    refine lv_iconst (v := 1) hx hb dX10_goesOn_134 (by decide) ?_
                    refine lv_goto (tgt := 139) hx hb dX10_goesOn_135 (by decide) ?_
                    refine lv_istore (lv' := [(4, .int (1 : Int32)), (9, .int (nI y)), (8, .int x8), (7, .int v55), (6, .int v39), (5, .int (nI x)), (3, .int x3), (2, .int v5), (0, .ref mo), (1, .int j)]) hx hb dX10_goesOn_139 hl (by decide) rfl (fun ls hl => ?_)
                    refine lv_iload_n hx hb dX10_goesOn_141 rfl (lv_at hl 6 rfl) ?_
                    refine lv_iload hx hb dX10_goesOn_142 (lv_at hl 3 rfl) ?_
                    refine lv_iadd hx hb dX10_goesOn_144 ?_
                    refine lv_topi (fun v144 e144 => ?_)
                    have f144 : v144 = nI (bs (fun i => (nx (f 11).toNatClampNeg - 1).testBit i) (x + 1)) := nI_if e144 j15_1 f55
                    refine lv_istore_n (lv' := [(3, .int v144), (4, .int (1 : Int32)), (9, .int (nI y)), (8, .int x8), (7, .int v55), (6, .int v39), (5, .int (nI x)), (2, .int v5), (0, .ref mo), (1, .int j)]) hx hb dX10_goesOn_145 rfl hl (by decide) rfl (fun ls hl => ?_)
                    refine lv_iinc (v := (nI (x + 1))) (lv' := [(5, .int (nI (x + 1))), (3, .int v144), (4, .int (1 : Int32)), (9, .int (nI y)), (8, .int x8), (7, .int v55), (6, .int v39), (2, .int v5), (0, .ref mo), (1, .int j)]) hx hb dX10_goesOn_146 hl (k := 6) rfl (nI_1 _) (by decide) rfl (fun ls hl => ?_)
                    refine lv_goto (tgt := 15) hx hb dX10_goesOn_149 (by decide) ?_
                    exact ih_15 (x + 1) (1 : Int32) v144 (by omega) (f144) (by first | exact bo_y j15_2 c98 (fun z9 => all_s z9 ⟨Or.inl (f39.symm.trans c104), by omega⟩) | exact bo_y j15_2 c98 (fun z9 => all_s z9 ⟨Or.inr (f39.symm.trans (c111.trans f55)), by omega⟩) | exact bo_n1 (fun z9 => (z9 x (by omega)).1.elim (fun y9 => c104 (f39.trans y9)) (fun y9 => c111 (f39.trans (y9.trans f55.symm)))) | exact bo_n1 (fun z9 => by have y9 := (z9 x (by omega)).2; omega) | exact bo_n0 j15_2 c98 (fun z9 i9 h9 => z9 i9 (by omega))) (by omega) _ _ hP hS ls (lv_sub hl [0, 2, 1, 7, 8, 9] rfl)
                · skip
                  have d104 := c104
                  rw [fa_eq] at d104
                  refine lv_iload hx hb dX10_goesOn_107 (lv_at hl 3 rfl) ?_
                  refine lv_iload hx hb dX10_goesOn_109 (lv_at hl 2 rfl) ?_
                  refine lv_icmp_ne (tgt := 138) hx hb dX10_goesOn_111 (by decide) (fun c111 => ?_) (fun c111 => ?_)
                  · skip
                    have d111 := c111
                    rw [fa_eq] at d111
                    refine lv_iconst (v := 0) hx hb dX10_goesOn_138 (by decide) ?_
                    refine lv_istore (lv' := [(4, .int (0 : Int32)), (9, .int (nI y)), (8, .int x8), (7, .int v55), (6, .int v39), (5, .int (nI x)), (3, .int x3), (2, .int v5), (0, .ref mo), (1, .int j)]) hx hb dX10_goesOn_139 hl (by decide) rfl (fun ls hl => ?_)
                    refine lv_iload_n hx hb dX10_goesOn_141 rfl (lv_at hl 6 rfl) ?_
                    refine lv_iload hx hb dX10_goesOn_142 (lv_at hl 3 rfl) ?_
                    refine lv_iadd hx hb dX10_goesOn_144 ?_
                    refine lv_topi (fun v144 e144 => ?_)
                    have f144 : v144 = nI (bs (fun i => (nx (f 11).toNatClampNeg - 1).testBit i) (x + 1)) := nI_if e144 j15_1 f55
                    refine lv_istore_n (lv' := [(3, .int v144), (4, .int (0 : Int32)), (9, .int (nI y)), (8, .int x8), (7, .int v55), (6, .int v39), (5, .int (nI x)), (2, .int v5), (0, .ref mo), (1, .int j)]) hx hb dX10_goesOn_145 rfl hl (by decide) rfl (fun ls hl => ?_)
                    refine lv_iinc (v := (nI (x + 1))) (lv' := [(5, .int (nI (x + 1))), (3, .int v144), (4, .int (0 : Int32)), (9, .int (nI y)), (8, .int x8), (7, .int v55), (6, .int v39), (2, .int v5), (0, .ref mo), (1, .int j)]) hx hb dX10_goesOn_146 hl (k := 6) rfl (nI_1 _) (by decide) rfl (fun ls hl => ?_)
                    refine lv_goto (tgt := 15) hx hb dX10_goesOn_149 (by decide) ?_
                    exact ih_15 (x + 1) (0 : Int32) v144 (by omega) (f144) (by first | exact bo_y j15_2 c98 (fun z9 => all_s z9 ⟨Or.inl (f39.symm.trans c104), by omega⟩) | exact bo_y j15_2 c98 (fun z9 => all_s z9 ⟨Or.inr (f39.symm.trans (c111.trans f55)), by omega⟩) | exact bo_n1 (fun z9 => (z9 x (by omega)).1.elim (fun y9 => c104 (f39.trans y9)) (fun y9 => c111 (f39.trans (y9.trans f55.symm)))) | exact bo_n1 (fun z9 => by have y9 := (z9 x (by omega)).2; omega) | exact bo_n0 j15_2 c98 (fun z9 i9 h9 => z9 i9 (by omega))) (by omega) _ _ hP hS ls (lv_sub hl [0, 2, 1, 7, 8, 9] rfl)
                  · skip
                    have d111 := c111
                    rw [fa_eq] at d111
                    refine lv_iload hx hb dX10_goesOn_114 (lv_at hl 1 rfl) ?_
                    refine lv_aload_n hx hb dX10_goesOn_116 rfl (lv_at hl 8 rfl) ?_
                    refine m_get (v := .ref (a 5)) hx hb hts hin hown hK hP 5 (by decide) rfl (hts (.fieldLink RX10 19 "ShadowBenchModel" "sums" "[I") (by decide +kernel)) rfl dX10_goesOn_117 ?_
                    refine lv_bipush (v := 44) hx hb dX10_goesOn_120 (by decide) ?_
                    refine lv_iload_n hx hb dX10_goesOn_122 rfl (lv_at hl 9 rfl) ?_
                    refine lv_imul hx hb dX10_goesOn_123 ?_
                    refine lv_topi (fun v123 e123 => ?_)
                    have i123 : v123.toInt = 44 * j.toInt := by rw [e123]; exact mulcL rfl (by omega) (by omega)
                    refine lv_bipush (v := 11) hx hb dX10_goesOn_124 (by decide) ?_
                    refine lv_iadd hx hb dX10_goesOn_126 ?_
                    refine lv_topi (fun v126 e126 => ?_)
                    have i126 : v126.toInt = v123.toInt + (11 : Int32).toInt := by rw [e126]; exact fb_addI (by omega) (by omega)
                    refine lv_iload hx hb dX10_goesOn_127 (lv_at hl 4 rfl) ?_
                    refine lv_iadd hx hb dX10_goesOn_129 ?_
                    refine lv_topi (fun v129 e129 => ?_)
                    have i129 : v129.toInt = v126.toInt + (nI x).toInt := by rw [e129]; exact fb_addI (by omega) (by omega)
                    refine m_iald (w := (r 5)) hx hb hK hP 4 rfl (vp_in_iff.mpr ⟨by omega, by omega⟩) dX10_goesOn_130 ?_
                    refine lv_topi (fun v130 e130 => ?_)
                    have i130 : v130.toInt = ((r 5) v129.toNatClampNeg).toInt := congrArg Int32.toInt e130
                    have cv8 := m_cl (x := v129) (by omega)
                    have f130 : v130 = r 5 (44 * j.toNatClampNeg + 11 + x) := by rw [e130, show v129.toNatClampNeg = 44 * j.toNatClampNeg + 11 + x by omega]
                    have i130 := congrArg Int32.toInt f130
                    refine lv_icmp_gt (tgt := 138) hx hb dX10_goesOn_131 (by decide) (fun c131 => ?_) (fun c131 => ?_)
                    · skip
                      have d131 := c131
                      rw [fa_lt] at d131
                      refine lv_iconst (v := 0) hx hb dX10_goesOn_138 (by decide) ?_
                      refine lv_istore (lv' := [(4, .int (0 : Int32)), (9, .int (nI y)), (8, .int x8), (7, .int v55), (6, .int v39), (5, .int (nI x)), (3, .int x3), (2, .int v5), (0, .ref mo), (1, .int j)]) hx hb dX10_goesOn_139 hl (by decide) rfl (fun ls hl => ?_)
                      refine lv_iload_n hx hb dX10_goesOn_141 rfl (lv_at hl 6 rfl) ?_
                      refine lv_iload hx hb dX10_goesOn_142 (lv_at hl 3 rfl) ?_
                      refine lv_iadd hx hb dX10_goesOn_144 ?_
                      refine lv_topi (fun v144 e144 => ?_)
                      have f144 : v144 = nI (bs (fun i => (nx (f 11).toNatClampNeg - 1).testBit i) (x + 1)) := nI_if e144 j15_1 f55
                      refine lv_istore_n (lv' := [(3, .int v144), (4, .int (0 : Int32)), (9, .int (nI y)), (8, .int x8), (7, .int v55), (6, .int v39), (5, .int (nI x)), (2, .int v5), (0, .ref mo), (1, .int j)]) hx hb dX10_goesOn_145 rfl hl (by decide) rfl (fun ls hl => ?_)
                      refine lv_iinc (v := (nI (x + 1))) (lv' := [(5, .int (nI (x + 1))), (3, .int v144), (4, .int (0 : Int32)), (9, .int (nI y)), (8, .int x8), (7, .int v55), (6, .int v39), (2, .int v5), (0, .ref mo), (1, .int j)]) hx hb dX10_goesOn_146 hl (k := 6) rfl (nI_1 _) (by decide) rfl (fun ls hl => ?_)
                      refine lv_goto (tgt := 15) hx hb dX10_goesOn_149 (by decide) ?_
                      exact ih_15 (x + 1) (0 : Int32) v144 (by omega) (f144) (by first | exact bo_y j15_2 c98 (fun z9 => all_s z9 ⟨Or.inl (f39.symm.trans c104), by omega⟩) | exact bo_y j15_2 c98 (fun z9 => all_s z9 ⟨Or.inr (f39.symm.trans (c111.trans f55)), by omega⟩) | exact bo_n1 (fun z9 => (z9 x (by omega)).1.elim (fun y9 => c104 (f39.trans y9)) (fun y9 => c111 (f39.trans (y9.trans f55.symm)))) | exact bo_n1 (fun z9 => by have y9 := (z9 x (by omega)).2; omega) | exact bo_n0 j15_2 c98 (fun z9 i9 h9 => z9 i9 (by omega))) (by omega) _ _ hP hS ls (lv_sub hl [0, 2, 1, 7, 8, 9] rfl)
                    · skip
                      have d131 := c131
                      rw [fa_lt] at d131
                      refine lv_iconst (v := 1) hx hb dX10_goesOn_134 (by decide) ?_
                      refine lv_goto (tgt := 139) hx hb dX10_goesOn_135 (by decide) ?_
                      refine lv_istore (lv' := [(4, .int (1 : Int32)), (9, .int (nI y)), (8, .int x8), (7, .int v55), (6, .int v39), (5, .int (nI x)), (3, .int x3), (2, .int v5), (0, .ref mo), (1, .int j)]) hx hb dX10_goesOn_139 hl (by decide) rfl (fun ls hl => ?_)
                      refine lv_iload_n hx hb dX10_goesOn_141 rfl (lv_at hl 6 rfl) ?_
                      refine lv_iload hx hb dX10_goesOn_142 (lv_at hl 3 rfl) ?_
                      refine lv_iadd hx hb dX10_goesOn_144 ?_
                      refine lv_topi (fun v144 e144 => ?_)
                      have f144 : v144 = nI (bs (fun i => (nx (f 11).toNatClampNeg - 1).testBit i) (x + 1)) := nI_if e144 j15_1 f55
                      refine lv_istore_n (lv' := [(3, .int v144), (4, .int (1 : Int32)), (9, .int (nI y)), (8, .int x8), (7, .int v55), (6, .int v39), (5, .int (nI x)), (2, .int v5), (0, .ref mo), (1, .int j)]) hx hb dX10_goesOn_145 rfl hl (by decide) rfl (fun ls hl => ?_)
                      refine lv_iinc (v := (nI (x + 1))) (lv' := [(5, .int (nI (x + 1))), (3, .int v144), (4, .int (1 : Int32)), (9, .int (nI y)), (8, .int x8), (7, .int v55), (6, .int v39), (2, .int v5), (0, .ref mo), (1, .int j)]) hx hb dX10_goesOn_146 hl (k := 6) rfl (nI_1 _) (by decide) rfl (fun ls hl => ?_)
                      refine lv_goto (tgt := 15) hx hb dX10_goesOn_149 (by decide) ?_
                      exact ih_15 (x + 1) (1 : Int32) v144 (by omega) (f144) (by first | exact bo_y j15_2 c98 (fun z9 => all_s z9 ⟨Or.inl (f39.symm.trans c104), by omega⟩) | exact bo_y j15_2 c98 (fun z9 => all_s z9 ⟨Or.inr (f39.symm.trans (c111.trans f55)), by omega⟩) | exact bo_n1 (fun z9 => (z9 x (by omega)).1.elim (fun y9 => c104 (f39.trans y9)) (fun y9 => c111 (f39.trans (y9.trans f55.symm)))) | exact bo_n1 (fun z9 => by have y9 := (z9 x (by omega)).2; omega) | exact bo_n0 j15_2 c98 (fun z9 i9 h9 => z9 i9 (by omega))) (by omega) _ _ hP hS ls (lv_sub hl [0, 2, 1, 7, 8, 9] rfl)
            · skip
              have d70 := c70
              rw [fa_lt] at d70
              refine lv_iload hx hb dX10_goesOn_73 (lv_at hl 1 rfl) ?_
              refine lv_aload_n hx hb dX10_goesOn_75 rfl (lv_at hl 8 rfl) ?_
              refine m_get (v := .ref (a 10)) hx hb hts hin hown hK hP 10 (by decide) rfl (hts (.fieldLink RX10 35 "ShadowBenchModel" "rows" "[I") (by decide +kernel)) rfl dX10_goesOn_76 ?_
              refine lv_iload hx hb dX10_goesOn_79 (lv_at hl 0 rfl) ?_
              refine m_iald (w := (r 10)) hx hb hK hP 9 rfl (vp_in_iff.mpr ⟨by omega, by omega⟩) dX10_goesOn_81 ?_
              refine lv_topi (fun v81 e81 => ?_)
              have i81 : v81.toInt = ((r 10) (nI y).toNatClampNeg).toInt := congrArg Int32.toInt e81
              refine lv_iload hx hb dX10_goesOn_82 (lv_at hl 4 rfl) ?_
              refine lv_ishr hx hb dX10_goesOn_84 ?_
              refine lv_topi (fun v84 e84 => ?_)
              refine lv_iconst (v := 1) hx hb dX10_goesOn_85 (by decide) ?_
              refine lv_iand hx hb dX10_goesOn_86 ?_
              refine lv_topi (fun v86 e86 => ?_)
              refine lv_iadd hx hb dX10_goesOn_87 ?_
              refine lv_topi (fun v87 e87 => ?_)
              have f86 : v86 = if (nx y - 1).testBit x then 1 else 0 := by rw [e86, e84, e81, nI_clamp (n := y) (by omega), (hn9 y (by omega)).1]; exact sb_t _ (hn9 y (by omega)).2 x (by omega)
              have f87 : v87 = nI (bs (fun j => (nx j - 1).testBit x) (y + 1)) := nI_if e87 j64_1 f86
              refine lv_istore (lv' := [(8, .int v87), (9, .int (nI y)), (7, .int v55), (6, .int v39), (5, .int (nI x)), (4, .int x4), (3, .int x3), (2, .int v5), (0, .ref mo), (1, .int j)]) hx hb dX10_goesOn_88 hl (by decide) rfl (fun ls hl => ?_)
              refine lv_iinc (v := (nI (y + 1))) (lv' := [(9, .int (nI (y + 1))), (8, .int v87), (7, .int v55), (6, .int v39), (5, .int (nI x)), (4, .int x4), (3, .int x3), (2, .int v5), (0, .ref mo), (1, .int j)]) hx hb dX10_goesOn_90 hl (k := 1) rfl (nI_1 _) (by decide) rfl (fun ls hl => ?_)
              refine lv_goto (tgt := 64) hx hb dX10_goesOn_93 (by decide) ?_
              exact ih_64 (y + 1) v87 (by omega) (f87) (by omega) _ _ hP hS ls (lv_sub hl [0, 1, 2, 3, 4, 5, 6, 7, 8, 9] rfl)
        exact loop_64 (6 + 1) 0 (0 : Int32) (by omega) (rfl) (by omega) _ _ hP hS ls (lv_sub hl [0, 1, 2, 3, 4, 5, 6, 7, 8, 9] rfl)
  exact loop_15 (6 + 1) 0 (1 : Int32) (0 : Int32) (by omega) (rfl) (Or.inl ⟨rfl, fun i h => absurd h (Nat.not_lt_zero _)⟩) (by omega) _ _ hP hS ls (lv_sub hl [0, 1, 2, 3, 4, 5] rfl)
set_option maxHeartbeats 4000000 in
set_option maxRecDepth 100000 in
theorem c_X10_isNext_x (l : Launch) (D : va_G) (cy : Nat → ClassId) (mo : Nat) (a : Nat → Nat) (f : Nat → Int32) (g : Nat → Int64) (r : Nat → Nat → Int32) (q : Nat → Nat → Int64) (j : Int32) (hD : DM cy mo a) (hI : MI f r) (hj : 0 ≤ j.toInt ∧ j.toInt < (f 1).toInt) (hd : -1 ≤ (f 11).toInt ∧ (f 11).toInt < (r 4 j.toNatClampNeg).toInt) (ht : 0 ≤ (f 12).toInt ∧ (f 12).toInt ≤ 200000) {s9 : wS} (hs9 : rRel s9 (f 11) (f 12) (r 10)) (hg9 : rGd j.toNatClampNeg r s9) : Mi l D cy mo a yX10_isNext wsX10_isNext ({ frames := 4, cells := 0, slots := 0, locals := 105 }) f g r q [.int j] (fun r0 u => ∃ (dp : Int32), ∃ (tr : Int32), ∃ (sp : Int32), ∃ (fd : Int64), ∃ (rw : Nat → Int32), ∃ (mt : Nat → Int32), u = ((upd (upd (upd f 11 dp) 12 tr) 13 sp), (vp_updL g 14 fd), (va_up (va_up r 10 rw) 9 mt), q) ∧ (((r0 = 0 ∨ r0 = 1) ∧ (-1 ≤ dp.toInt ∧ dp.toInt < (r 4 j.toNatClampNeg).toInt) ∧ ((f 12).toInt ≤ tr.toInt ∧ tr.toInt ≤ 200000) ∧ (r0 = 1 → (f 12).toInt < tr.toInt)) ∧ ((r0 = 1 ∧ sp = (f 13) ∧ ∃ t, rRun j.toNatClampNeg r s9 2 t ∧ rRel t dp tr rw ∧ fd = picL (r 3 j.toNatClampNeg).toNatClampNeg t.2.1 (r 4 j.toNatClampNeg).toNatClampNeg) ∨ (r0 = 0 ∧ ((sp = (f 13) ∧ ∃ t, rRun j.toNatClampNeg r s9 0 t) ∨ (sp = 1 ∧ ∃ t, rRun j.toNatClampNeg r s9 1 t)))))) := by
  refine Met.ofW (cc := cX10_isNext) (maxL := 2) (ret := (some .boolean)) (by decide) rfl ?_
  intro p e s m args below meth c s₁ B hml hv
  obtain ⟨rfl, hP, hK⟩ := hv
  have hx := B.exec
  have hb := B.bytes
  have hr := B.returns
  have hts := atoms_spec (ws := wsX10_isNext) B.pre
  have hin : ∀ w ∈ u_ws RX10 TX10 35, w ∈ wsX10_isNext := by decide +kernel
  have hown : s.vm.findClass RX10 = some m.cls := findClass_of_methodNamed B.named
  have hlocks := B.notSynchronized
  have hS : va_S (AM mo a) s.heap s.heap [] := va_S.rf
  have hl := lv_entry ([.ref mo, .int j]) (n := 2) (Nat.le_of_ble_eq_true rfl)
  rw [lg_entry_eq]
  generalize (lg_sl ([.ref mo, .int j]) ++ List.replicate (2 - (lg_sl ([.ref mo, .int j])).length) Slot.unset).toArray = ls at hl ⊢
  have hl : lv_has ls 2 [(0, .ref mo), (1, .int j)] := hl
  have k_m1 : (-1 : Int32).toInt = -1 := by decide
  have k_0 : (0 : Int32).toInt = 0 := by decide
  have k_1 : (1 : Int32).toInt = 1 := by decide
  have k_200000 : (200000 : Int32).toInt = 200000 := by decide
  have hI1 := hI.1
  have hh := mi_h hI (x := j) (by omega) (by omega) rfl
  have szw := mi_w hI (x := j) (by omega) (by omega) rfl
  have szh := mi_h hI (x := j) (by omega) (by omega) rfl
  have cj9 := m_cl (x := j) (by omega)
  have cw9 := m_cl (x := r 3 j.toNatClampNeg) (by omega)
  have ch9 := m_cl (x := r 4 j.toNatClampNeg) (by omega)
  have nw9 := cl_nI (w := r 3 j.toNatClampNeg) (by omega)
  have p64 := pw_64 (w := (r 3 j.toNatClampNeg).toNatClampNeg) (by omega)
  have loop_0 : ∀ (n : Nat)  (dpa : Int32) (tra : Int32) (rwa : Nat → Int32) (mta : Nat → Int32), (-1 ≤ dpa.toInt ∧ dpa.toInt < (r 4 j.toNatClampNeg).toInt) → ((f 12).toInt ≤ tra.toInt ∧ tra.toInt ≤ 200000) → (rSt (2 ^ (r 3 j.toNatClampNeg).toNatClampNeg) (r 4 j.toNatClampNeg).toNatClampNeg (rGo j.toNatClampNeg r) (rFi j.toNatClampNeg r) s9 dpa tra rwa) → ((200000 - tra.toInt) * 8 + dpa.toInt + 1).toNat < n → ∀ (H : Heap) (locs : List Loc), va_P D vwCl (WM cy mo a (upd (upd f 11 dpa) 12 tra) g (va_up (va_up r 10 rwa) 9 mta) q) H → va_S (AM mo a) s.heap H locs → ∀ (ls : Array Slot), lv_has ls 2 [(0, .ref mo), (1, .int j)] → W p l e (headSpec wsX10_isNext ({ frames := 4, cells := 0, slots := 0, locals := 105 })).room s m #[Value.ref mo, Value.int j] below meth c H locs 0 0 (MQ below (va_Qi (fun r0 u => ∃ (dp : Int32), ∃ (tr : Int32), ∃ (sp : Int32), ∃ (fd : Int64), ∃ (rw : Nat → Int32), ∃ (mt : Nat → Int32), u = ((upd (upd (upd f 11 dp) 12 tr) 13 sp), (vp_updL g 14 fd), (va_up (va_up r 10 rw) 9 mt), q) ∧ (((r0 = 0 ∨ r0 = 1) ∧ (-1 ≤ dp.toInt ∧ dp.toInt < (r 4 j.toNatClampNeg).toInt) ∧ ((f 12).toInt ≤ tr.toInt ∧ tr.toInt ≤ 200000) ∧ (r0 = 1 → (f 12).toInt < tr.toInt)) ∧ ((r0 = 1 ∧ sp = (f 13) ∧ ∃ t, rRun j.toNatClampNeg r s9 2 t ∧ rRel t dp tr rw ∧ fd = picL (r 3 j.toNatClampNeg).toNatClampNeg t.2.1 (r 4 j.toNatClampNeg).toNatClampNeg) ∨ (r0 = 0 ∧ ((sp = (f 13) ∧ ∃ t, rRun j.toNatClampNeg r s9 0 t) ∨ (sp = 1 ∧ ∃ t, rRun j.toNatClampNeg r s9 1 t)))))) (mB D cy mo a) (AM mo a)) #[Value.ref mo, Value.int j] s 0 0 (AM mo a)) (F0 m 0 ls []) := by
    intro n
    induction n with
    | zero => intro  dpa tra rwa mta j0_0 j0_1 j0_2 hn; exact absurd hn (Nat.not_lt_zero _)
    | succ n ih_0 =>
      intro  dpa tra rwa mta j0_0 j0_1 j0_2 hn_0 H locs hP hS ls hl
      refine lv_aload_n hx hb dX10_isNext_0 rfl (lv_at hl 0 rfl) ?_
      refine m_get (v := .int dpa) hx hb hts hin hown hK hP 11 (by decide) rfl (hts (.fieldLink RX10 157 "ShadowBenchModel" "depth" "I") (by decide +kernel)) rfl dX10_isNext_1 ?_
      refine lv_if_lt (tgt := 164) hx hb dX10_isNext_4 (by decide) (fun c4 => ?_) (fun c4 => ?_)
      · skip
        have d4 := c4
        rw [fa_lt] at d4
        refine lv_iconst (v := 0) hx hb dX10_isNext_164 (by decide) ?_
        have hP := wm_eq (ec_f_11_12__11_12_13 f dpa tra) (ec_g___14 g ) rfl rfl hP
        exact W.zret (v := (0 : Int32)) hx hb hr (by decide) (fun t ht hW => ⟨⟨_, ((upd (upd (upd f 11 dpa) 12 tra) 13 (f 13)), (vp_updL g 14 (g 14)), (va_up (va_up r 10 rwa) 9 mta), q), rfl, ⟨dpa, tra, (f 13), (g 14), rwa, mta, rfl, ⟨⟨by decide, by omega, by omega, fun z => absurd z (by decide)⟩, Or.inr ⟨rfl, Or.inl ⟨rfl, rSt_none j0_2 (by omega)⟩⟩⟩⟩, by unfold mB; rw [ht]; exact hP⟩, hS.F ht⟩) hS.2.2 dX10_isNext_165
      · skip
        have d4 := c4
        rw [fa_lt] at d4
        refine lv_aload_n hx hb dX10_isNext_7 rfl (lv_at hl 0 rfl) ?_
        refine m_get (v := .ref (a 10)) hx hb hts hin hown hK hP 10 (by decide) rfl (hts (.fieldLink RX10 35 "ShadowBenchModel" "rows" "[I") (by decide +kernel)) rfl dX10_isNext_8 ?_
        refine lv_aload_n hx hb dX10_isNext_11 rfl (lv_at hl 0 rfl) ?_
        refine m_get (v := .int dpa) hx hb hts hin hown hK hP 11 (by decide) rfl (hts (.fieldLink RX10 157 "ShadowBenchModel" "depth" "I") (by decide +kernel)) rfl dX10_isNext_12 ?_
        refine lv_dup2_11 hx hb dX10_isNext_15 rfl rfl ?_
        refine m_iald (w := rwa) hx hb hK hP 9 rfl (vp_in_iff.mpr ⟨by omega, by omega⟩) dX10_isNext_16 ?_
        refine lv_topi (fun v16 e16 => ?_)
        have i16 : v16.toInt = (rwa dpa.toNatClampNeg).toInt := congrArg Int32.toInt e16
        refine lv_iconst (v := 1) hx hb dX10_isNext_17 (by decide) ?_
        refine lv_iadd hx hb dX10_isNext_18 ?_
        refine lv_topi (fun v18 e18 => ?_)
        refine m_iast (w := rwa) hx hb hK hP hD hS 9 rfl (vp_in_iff.mpr ⟨by omega, by omega⟩) (va_up (va_up (va_up r 10 rwa) 9 mta) 10 (upd rwa dpa.toNatClampNeg v18)) (ms_10 cy mo a _ _ _ _ _) dX10_isNext_19 (fun H locs hP hS => ?_)
        have hP := wm_eq rfl rfl (es_r_10_9__10 r rwa mta (upd rwa dpa.toNatClampNeg v18)) rfl hP
        have iv9 : v18.toInt = (rwa dpa.toNatClampNeg).toInt + 1 := by
          obtain ⟨n9, t9, y1, y2, y3, y4⟩ := id j0_2
          have cd9 := m_cl (x := dpa) (by omega)
          have z1 := y4 dpa.toNatClampNeg (by omega)
          have z2 := ((wGd_to n9 hg9 y1).2.1 dpa.toNatClampNeg (by omega)).1
          have z3 : (v16 + 1).toInt = v16.toInt + 1 := i_ad (by omega) (by omega)
          rw [e18, z3, e16]
        refine lv_aload_n hx hb dX10_isNext_20 rfl (lv_at hl 0 rfl) ?_
        refine m_get (v := .ref (a 10)) hx hb hts hin hown hK hP 10 (by decide) rfl (hts (.fieldLink RX10 35 "ShadowBenchModel" "rows" "[I") (by decide +kernel)) rfl dX10_isNext_21 ?_
        refine lv_aload_n hx hb dX10_isNext_24 rfl (lv_at hl 0 rfl) ?_
        refine m_get (v := .int dpa) hx hb hts hin hown hK hP 11 (by decide) rfl (hts (.fieldLink RX10 157 "ShadowBenchModel" "depth" "I") (by decide +kernel)) rfl dX10_isNext_25 ?_
        refine m_iald (w := (upd rwa dpa.toNatClampNeg v18)) hx hb hK hP 9 rfl (vp_in_iff.mpr ⟨by omega, by omega⟩) dX10_isNext_28 ?_
        refine lv_topi (fun v28 e28 => ?_)
        have i28 : v28.toInt = ((upd rwa dpa.toNatClampNeg v18) dpa.toNatClampNeg).toInt := congrArg Int32.toInt e28
        refine lv_iconst (v := 1) hx hb dX10_isNext_29 (by decide) ?_
        refine lv_aload_n hx hb dX10_isNext_30 rfl (lv_at hl 0 rfl) ?_
        refine m_get (v := .ref (a 3)) hx hb hts hin hown hK hP 3 (by decide) rfl (hts (.fieldLink RX10 13 "ShadowBenchModel" "wide" "[I") (by decide +kernel)) rfl dX10_isNext_31 ?_
        refine lv_iload_n hx hb dX10_isNext_34 rfl (lv_at hl 1 rfl) ?_
        refine m_iald (w := (r 3)) hx hb hK hP 2 rfl (vp_in_iff.mpr ⟨by omega, by omega⟩) dX10_isNext_35 ?_
        refine lv_topi (fun v35 e35 => ?_)
        have i35 : v35.toInt = ((r 3) j.toNatClampNeg).toInt := congrArg Int32.toInt e35
        have w35 := mi_w hI (x := j) (by omega) (by omega) e35
        refine lv_ishl hx hb dX10_isNext_36 ?_
        refine lv_topi (fun v36 e36 => ?_)
        have f28 : v28 = v18 := by rw [e28]; simp only [upd, if_true]
        have f36 : v36 = nI (2 ^ (r 3 j.toNatClampNeg).toNatClampNeg) := cI_shl (w := (r 3 j.toNatClampNeg).toNatClampNeg) (h := 1) (by omega) (by rw [e36, e35, nw9])
        have i36 : v36.toInt = ((2 ^ (r 3 j.toNatClampNeg).toNatClampNeg : Nat) : Int) := by rw [f36]; exact nI_toInt (by omega)
        refine lv_icmp_ne (tgt := 53) hx hb dX10_isNext_37 (by decide) (fun c37 => ?_) (fun c37 => ?_)
        · skip
          have d37 := c37
          rw [fa_eq] at d37
          have nE9 : ¬ v18.toInt = ((2 ^ (r 3 j.toNatClampNeg).toNatClampNeg : Nat) : Int) := fun z9 => c37 (Int32.toInt_inj.mp (by rw [f28, i36]; exact z9))
          refine lv_aload_n hx hb dX10_isNext_53 rfl (lv_at hl 0 rfl) ?_
          refine m_get (v := .int tra) hx hb hts hin hown hK hP 12 (by decide) rfl (hts (.fieldLink RX10 160 "ShadowBenchModel" "tries" "I") (by decide +kernel)) rfl dX10_isNext_54 ?_
          refine lv_ldc hx hb hown (hts (.constant RX10 167 (200000)) (by decide +kernel)) dX10_isNext_57 ?_
          refine lv_icmp_ne (tgt := 69) hx hb dX10_isNext_59 (by decide) (fun c59 => ?_) (fun c59 => ?_)
          · skip
            have d59 := c59
            rw [fa_eq] at d59
            refine lv_aload_n hx hb dX10_isNext_69 rfl (lv_at hl 0 rfl) ?_
            refine lv_dup hx hb dX10_isNext_70 rfl ?_
            refine m_get (v := .int tra) hx hb hts hin hown hK hP 12 (by decide) rfl (hts (.fieldLink RX10 160 "ShadowBenchModel" "tries" "I") (by decide +kernel)) rfl dX10_isNext_71 ?_
            refine lv_iconst (v := 1) hx hb dX10_isNext_74 (by decide) ?_
            refine lv_iadd hx hb dX10_isNext_75 ?_
            refine lv_topi (fun v75 e75 => ?_)
            have i75 : v75.toInt = tra.toInt + (1 : Int32).toInt := by rw [e75]; exact fb_addI (by omega) (by omega)
            refine m_put (v := .int v75) (ty := .int) hx hb hts hin hown hK hP hD hS 12 (by decide) rfl (hts (.fieldLink RX10 160 "ShadowBenchModel" "tries" "I") (by decide +kernel)) rfl (by decide +kernel) rfl rfl (upd (upd f 11 dpa) 12 v75) g rfl dX10_isNext_76 (fun H locs hP hS => ?_)
            obtain ⟨s8, hm9⟩ := rSt_mid (tr1 := v75) j0_2 (by omega) iv9 nE9 (by omega) (by omega)
            have hr9 := rMid_rows (by omega) hg9 hm9
            obtain ⟨nx, hnx⟩ : ∃ z, z = wNx s8 := ⟨_, rfl⟩
            rw [← hnx] at hr9
            refine lv_aload_n hx hb dX10_isNext_79 rfl (lv_at hl 0 rfl) ?_
            refine lv_iload_n hx hb dX10_isNext_80 rfl (lv_at hl 1 rfl) ?_
            refine m_calli (As := [.int j]) (rest := []) ⟨hx, hb, hml, hown, hts⟩ (c_X10_goesOn_x l D cy mo a (upd (upd f 11 dpa) 12 v75) g (va_up (va_up r 9 mta) 10 (upd rwa dpa.toNatClampNeg v18)) q j hD hI hj (show 0 ≤ dpa.toInt ∧ dpa.toInt < (r 4 j.toNatClampNeg).toInt by omega) (fun i9 h9 => ⟨(hr9 i9 h9).1, by have := (hr9 i9 h9).2; omega⟩)) (cwV 1 hts gX10_isNext_X10_goesOn rfl rfl rfl (by decide +kernel) ⟨Nat.le_of_ble_eq_true rfl, Nat.le_of_ble_eq_true rfl⟩) hK hP rfl hl.1 rfl (Nat.le_of_ble_eq_true rfl) dX10_isNext_81 ⟨Nat.le_of_ble_eq_true rfl, Nat.le_of_ble_eq_true rfl⟩ hS (fun r81 u H locs q81 hP hS => ?_)
            obtain ⟨rfl, q81⟩ := q81
            have hP : va_P D vwCl (WM cy mo a (upd (upd f 11 dpa) 12 v75) g (va_up (va_up r 9 mta) 10 (upd rwa dpa.toNatClampNeg v18)) q) H := hP
            have q81 : Bo r81 (goP ((r 3) j.toNatClampNeg).toNatClampNeg (fun s => (va_up (va_up r 9 mta) 10 (upd rwa dpa.toNatClampNeg v18)) 7 (36 * j.toNatClampNeg + s)) (fun x => (va_up (va_up r 9 mta) 10 (upd rwa dpa.toNatClampNeg v18)) 5 (44 * j.toNatClampNeg + 11 + x)) (fun y => (va_up (va_up r 9 mta) 10 (upd rwa dpa.toNatClampNeg v18)) 5 (44 * j.toNatClampNeg + y)) nx (dpa).toNatClampNeg) := q81
            refine lv_if_ne (tgt := 90) hx hb dX10_isNext_84 (by decide) (fun c84 => ?_) (fun c84 => ?_)
            · skip
              have b84 := bo_t q81 c84
              refine lv_aload_n hx hb dX10_isNext_90 rfl (lv_at hl 0 rfl) ?_
              refine m_get (v := .int dpa) hx hb hts hin hown hK hP 11 (by decide) rfl (hts (.fieldLink RX10 157 "ShadowBenchModel" "depth" "I") (by decide +kernel)) rfl dX10_isNext_91 ?_
              refine lv_iconst (v := 1) hx hb dX10_isNext_94 (by decide) ?_
              refine lv_iadd hx hb dX10_isNext_95 ?_
              refine lv_topi (fun v95 e95 => ?_)
              have i95 : v95.toInt = dpa.toInt + (1 : Int32).toInt := by rw [e95]; exact fb_addI (by omega) (by omega)
              refine lv_aload_n hx hb dX10_isNext_96 rfl (lv_at hl 0 rfl) ?_
              refine m_get (v := .ref (a 4)) hx hb hts hin hown hK hP 4 (by decide) rfl (hts (.fieldLink RX10 16 "ShadowBenchModel" "high" "[I") (by decide +kernel)) rfl dX10_isNext_97 ?_
              refine lv_iload_n hx hb dX10_isNext_100 rfl (lv_at hl 1 rfl) ?_
              refine m_iald (w := (r 4)) hx hb hK hP 3 rfl (vp_in_iff.mpr ⟨by omega, by omega⟩) dX10_isNext_101 ?_
              refine lv_topi (fun v101 e101 => ?_)
              have i101 : v101.toInt = ((r 4) j.toNatClampNeg).toInt := congrArg Int32.toInt e101
              have w101 := mi_h hI (x := j) (by omega) (by omega) e101
              refine lv_icmp_ge (tgt := 128) hx hb dX10_isNext_102 (by decide) (fun c102 => ?_) (fun c102 => ?_)
              · skip
                have d102 := c102
                rw [fa_le] at d102
                have pi9 : ∀ i : Nat, (i : Int) < (r 4 j.toNatClampNeg).toInt → upd rwa dpa.toNatClampNeg v18 i = nI (nx i - 1) := fun i9 h9 => (hr9 i9 (by omega)).1
                refine lv_aload_n hx hb dX10_isNext_128 rfl (lv_at hl 0 rfl) ?_
                refine lv_iload_n hx hb dX10_isNext_129 rfl (lv_at hl 1 rfl) ?_
                refine lv_aload_n hx hb dX10_isNext_130 rfl (lv_at hl 0 rfl) ?_
                refine lv_iload_n hx hb dX10_isNext_131 rfl (lv_at hl 1 rfl) ?_
                refine lv_aload_n hx hb dX10_isNext_132 rfl (lv_at hl 0 rfl) ?_
                refine m_get (v := .ref (a 4)) hx hb hts hin hown hK hP 4 (by decide) rfl (hts (.fieldLink RX10 16 "ShadowBenchModel" "high" "[I") (by decide +kernel)) rfl dX10_isNext_133 ?_
                refine lv_iload_n hx hb dX10_isNext_136 rfl (lv_at hl 1 rfl) ?_
                refine m_iald (w := (r 4)) hx hb hK hP 3 rfl (vp_in_iff.mpr ⟨by omega, by omega⟩) dX10_isNext_137 ?_
                refine lv_topi (fun v137 e137 => ?_)
                have i137 : v137.toInt = ((r 4) j.toNatClampNeg).toInt := congrArg Int32.toInt e137
                have w137 := mi_h hI (x := j) (by omega) (by omega) e137
                refine m_calll (As := [.int j, .int v137]) (rest := [.int j, .ref mo]) ⟨hx, hb, hml, hown, hts⟩ (c_X10_picture_x l D cy mo a (upd (upd f 11 dpa) 12 v75) g (va_up (va_up r 9 mta) 10 (upd rwa dpa.toNatClampNeg v18)) q j v137 hD hI hj (show 0 ≤ v137.toInt ∧ v137.toInt ≤ 6 by omega) (fun i9 h9 => pi9 i9 (by rw [← e137]; exact h9))) (cwV 2 hts gX10_isNext_X10_picture rfl rfl rfl (by decide +kernel) ⟨Nat.le_of_ble_eq_true rfl, Nat.le_of_ble_eq_true rfl⟩) hK hP rfl hl.1 rfl (Nat.le_of_ble_eq_true rfl) dX10_isNext_138 ⟨Nat.le_of_ble_eq_true rfl, Nat.le_of_ble_eq_true rfl⟩ hS (fun r138 u H locs q138 hP hS => ?_)
                obtain ⟨rfl, q138⟩ := q138
                have hP : va_P D vwCl (WM cy mo a (upd (upd f 11 dpa) 12 v75) g (va_up (va_up r 9 mta) 10 (upd rwa dpa.toNatClampNeg v18)) q) H := hP
                have q138 : r138 = picL ((r 3) j.toNatClampNeg).toNatClampNeg nx v137.toNatClampNeg := q138
                refine m_calli (As := [.int j, .long r138]) (rest := []) ⟨hx, hb, hml, hown, hts⟩ (c_X10_isFitting_x l D cy mo a (upd (upd f 11 dpa) 12 v75) g (va_up (va_up r 9 mta) 10 (upd rwa dpa.toNatClampNeg v18)) q j r138 hD hI (show 0 ≤ j.toInt ∧ j.toInt < ((f 1)).toInt by omega)) (cwV 2 hts gX10_isNext_X10_isFitting rfl rfl rfl (by decide +kernel) ⟨Nat.le_of_ble_eq_true rfl, Nat.le_of_ble_eq_true rfl⟩) hK hP rfl hl.1 rfl (Nat.le_of_ble_eq_true rfl) dX10_isNext_141 ⟨Nat.le_of_ble_eq_true rfl, Nat.le_of_ble_eq_true rfl⟩ hS (fun r141 u H locs q141 hP hS => ?_)
                obtain ⟨mt_141, rfl, q141⟩ := q141
                have hP : va_P D vwCl (WM cy mo a (upd (upd f 11 dpa) 12 v75) g (va_up (va_up r 10 (upd rwa dpa.toNatClampNeg v18)) 9 mt_141) q) H := hP
                have q141 : Bo r141 (fitR j.toNatClampNeg (va_up (va_up r 9 mta) 10 (upd rwa dpa.toNatClampNeg v18)) r138) := q141
                refine lv_if_eq (tgt := 0) hx hb dX10_isNext_144 (by decide) (fun c144 => ?_) (fun c144 => ?_)
                · skip
                  have b144 := bo_f q141 c144
                  exact ih_0 dpa v75 (upd rwa dpa.toNatClampNeg v18) mt_141 (by omega) (by omega) (by first | exact rSt_pop j0_2 (by omega) iv9 (by rw [← f28, c37]; exact i36) (by omega) | exact rMid_no hm9 (by rw [← hnx]; exact b84) | exact rMid_push hm9 (by rw [← hnx]; exact b84) (by omega) (by omega) | exact rMid_nofit hm9 (by rw [← hnx]; exact b84) (by omega) (by rw [← hnx]; show ¬ fitR _ r _; exact (by rw [q138, e137] at b144; exact b144))) (by omega) _ _ hP hS ls (lv_sub hl [0, 1] rfl)
                · skip
                  have b144 := bo_t q141 c144
                  refine lv_aload_n hx hb dX10_isNext_147 rfl (lv_at hl 0 rfl) ?_
                  refine lv_aload_n hx hb dX10_isNext_148 rfl (lv_at hl 0 rfl) ?_
                  refine lv_iload_n hx hb dX10_isNext_149 rfl (lv_at hl 1 rfl) ?_
                  refine lv_aload_n hx hb dX10_isNext_150 rfl (lv_at hl 0 rfl) ?_
                  refine m_get (v := .ref (a 4)) hx hb hts hin hown hK hP 4 (by decide) rfl (hts (.fieldLink RX10 16 "ShadowBenchModel" "high" "[I") (by decide +kernel)) rfl dX10_isNext_151 ?_
                  refine lv_iload_n hx hb dX10_isNext_154 rfl (lv_at hl 1 rfl) ?_
                  refine m_iald (w := (r 4)) hx hb hK hP 3 rfl (vp_in_iff.mpr ⟨by omega, by omega⟩) dX10_isNext_155 ?_
                  refine lv_topi (fun v155 e155 => ?_)
                  have i155 : v155.toInt = ((r 4) j.toNatClampNeg).toInt := congrArg Int32.toInt e155
                  have w155 := mi_h hI (x := j) (by omega) (by omega) e155
                  refine m_calll (As := [.int j, .int v155]) (rest := [.ref mo]) ⟨hx, hb, hml, hown, hts⟩ (c_X10_picture_x l D cy mo a (upd (upd f 11 dpa) 12 v75) g (va_up (va_up r 10 (upd rwa dpa.toNatClampNeg v18)) 9 mt_141) q j v155 hD hI hj (show 0 ≤ v155.toInt ∧ v155.toInt ≤ 6 by omega) (fun i9 h9 => pi9 i9 (by rw [← e155]; exact h9))) (cwV 2 hts gX10_isNext_X10_picture rfl rfl rfl (by decide +kernel) ⟨Nat.le_of_ble_eq_true rfl, Nat.le_of_ble_eq_true rfl⟩) hK hP rfl hl.1 rfl (Nat.le_of_ble_eq_true rfl) dX10_isNext_156 ⟨Nat.le_of_ble_eq_true rfl, Nat.le_of_ble_eq_true rfl⟩ hS (fun r156 u H locs q156 hP hS => ?_)
                  obtain ⟨rfl, q156⟩ := q156
                  have hP : va_P D vwCl (WM cy mo a (upd (upd f 11 dpa) 12 v75) g (va_up (va_up r 10 (upd rwa dpa.toNatClampNeg v18)) 9 mt_141) q) H := hP
                  have q156 : r156 = picL ((r 3) j.toNatClampNeg).toNatClampNeg nx v155.toNatClampNeg := q156
                  refine m_put (v := .long r156) (ty := .long) hx hb hts hin hown hK hP hD hS 14 (by decide) rfl (hts (.fieldLink RX10 175 "ShadowBenchModel" "found" "J") (by decide +kernel)) rfl (by decide +kernel) rfl rfl (upd (upd f 11 dpa) 12 v75) (vp_updL g 14 r156) rfl dX10_isNext_159 (fun H locs hP hS => ?_)
                  refine lv_iconst (v := 1) hx hb dX10_isNext_162 (by decide) ?_
                  have hP := wm_eq (ec_f_11_12__11_12_13 f dpa v75) rfl rfl rfl hP
                  exact W.zret (v := (1 : Int32)) hx hb hr (by decide) (fun t ht hW => ⟨⟨_, ((upd (upd (upd f 11 dpa) 12 v75) 13 (f 13)), (vp_updL g 14 r156), (va_up (va_up r 10 (upd rwa dpa.toNatClampNeg v18)) 9 mt_141), q), rfl, ⟨dpa, v75, (f 13), r156, (upd rwa dpa.toNatClampNeg v18), mt_141, rfl, ⟨⟨by decide, by omega, by omega, fun _ => by omega⟩, Or.inl ⟨rfl, rfl, (by have z9 := rMid_fit hm9 (by rw [← hnx]; exact b84) (by omega) (by rw [← hnx]; show fitR _ r _; exact (by rw [q138, e137] at b144; exact b144)); exact ⟨_, z9.1, z9.2, by rw [q156, e155]; show picL _ nx _ = picL _ (wNx s8) _; rw [hnx]⟩)⟩⟩⟩, by unfold mB; rw [ht]; exact hP⟩, hS.F ht⟩) hS.2.2 dX10_isNext_163
              · skip
                have d102 := c102
                rw [fa_le] at d102
                refine lv_aload_n hx hb dX10_isNext_105 rfl (lv_at hl 0 rfl) ?_
                refine lv_dup hx hb dX10_isNext_106 rfl ?_
                refine m_get (v := .int dpa) hx hb hts hin hown hK hP 11 (by decide) rfl (hts (.fieldLink RX10 157 "ShadowBenchModel" "depth" "I") (by decide +kernel)) rfl dX10_isNext_107 ?_
                refine lv_iconst (v := 1) hx hb dX10_isNext_110 (by decide) ?_
                refine lv_iadd hx hb dX10_isNext_111 ?_
                refine lv_topi (fun v111 e111 => ?_)
                have i111 : v111.toInt = dpa.toInt + (1 : Int32).toInt := by rw [e111]; exact fb_addI (by omega) (by omega)
                refine m_put (v := .int v111) (ty := .int) hx hb hts hin hown hK hP hD hS 11 (by decide) rfl (hts (.fieldLink RX10 157 "ShadowBenchModel" "depth" "I") (by decide +kernel)) rfl (by decide +kernel) rfl rfl (upd (upd f 12 v75) 11 v111) g rfl dX10_isNext_112 (fun H locs hP hS => ?_)
                refine lv_aload_n hx hb dX10_isNext_115 rfl (lv_at hl 0 rfl) ?_
                refine m_get (v := .ref (a 10)) hx hb hts hin hown hK hP 10 (by decide) rfl (hts (.fieldLink RX10 35 "ShadowBenchModel" "rows" "[I") (by decide +kernel)) rfl dX10_isNext_116 ?_
                refine lv_aload_n hx hb dX10_isNext_119 rfl (lv_at hl 0 rfl) ?_
                refine m_get (v := .int v111) hx hb hts hin hown hK hP 11 (by decide) rfl (hts (.fieldLink RX10 157 "ShadowBenchModel" "depth" "I") (by decide +kernel)) rfl dX10_isNext_120 ?_
                refine lv_iconst (v := (-1)) hx hb dX10_isNext_123 (by decide) ?_
                refine m_iast (w := (upd rwa dpa.toNatClampNeg v18)) hx hb hK hP hD hS 9 rfl (vp_in_iff.mpr ⟨by omega, by omega⟩) (va_up (va_up (va_up r 9 mta) 10 (upd rwa dpa.toNatClampNeg v18)) 10 (upd (upd rwa dpa.toNatClampNeg v18) v111.toNatClampNeg (((-1) : Int32)))) (ms_10 cy mo a _ _ _ _ _) dX10_isNext_124 (fun H locs hP hS => ?_)
                have hP := wm_eq rfl rfl (es_r_9_10__10 r mta (upd rwa dpa.toNatClampNeg v18) (upd (upd rwa dpa.toNatClampNeg v18) v111.toNatClampNeg (((-1) : Int32)))) rfl hP
                refine lv_goto (tgt := 0) hx hb dX10_isNext_125 (by decide) ?_
                have hP := wm_eq (ec_f_12_11__11_12 f v75 v111) rfl (ec_r_9_10__10_9 r mta ((upd (upd rwa dpa.toNatClampNeg v18) v111.toNatClampNeg (((-1) : Int32))))) rfl hP
                exact ih_0 v111 v75 (((upd (upd rwa dpa.toNatClampNeg v18) v111.toNatClampNeg (((-1) : Int32))))) mta (by omega) (by omega) (by first | exact rSt_pop j0_2 (by omega) iv9 (by rw [← f28, c37]; exact i36) (by omega) | exact rMid_no hm9 (by rw [← hnx]; exact b84) | exact rMid_push hm9 (by rw [← hnx]; exact b84) (by omega) (by omega) | exact rMid_nofit hm9 (by rw [← hnx]; exact b84) (by omega) (by rw [← hnx]; show ¬ fitR _ r _; exact (by rw [q138, e137] at b144; exact b144))) (by omega) _ _ hP hS ls (lv_sub hl [0, 1] rfl)
            · skip
              have b84 := bo_f q81 c84
              refine lv_goto (tgt := 0) hx hb dX10_isNext_87 (by decide) ?_
              have hP := wm_eq rfl rfl (ec_r_9_10__10_9 r mta (upd rwa dpa.toNatClampNeg v18)) rfl hP
              exact ih_0 dpa v75 (upd rwa dpa.toNatClampNeg v18) mta (by omega) (by omega) (by first | exact rSt_pop j0_2 (by omega) iv9 (by rw [← f28, c37]; exact i36) (by omega) | exact rMid_no hm9 (by rw [← hnx]; exact b84) | exact rMid_push hm9 (by rw [← hnx]; exact b84) (by omega) (by omega) | exact rMid_nofit hm9 (by rw [← hnx]; exact b84) (by omega) (by rw [← hnx]; show ¬ fitR _ r _; exact (by rw [q138, e137] at b144; exact b144))) (by omega) _ _ hP hS ls (lv_sub hl [0, 1] rfl)
          · skip
            have d59 := c59
            rw [fa_eq] at d59
            refine lv_aload_n hx hb dX10_isNext_62 rfl (lv_at hl 0 rfl) ?_
            refine lv_iconst (v := 1) hx hb dX10_isNext_63 (by decide) ?_
            refine m_put (v := .int (1 : Int32)) (ty := .boolean) hx hb hts hin hown hK hP hD hS 13 (by decide) rfl (hts (.fieldLink RX10 163 "ShadowBenchModel" "spent" "Z") (by decide +kernel)) rfl (by decide +kernel) rfl rfl (upd (upd (upd f 11 dpa) 12 tra) 13 (1 : Int32)) g rfl dX10_isNext_64 (fun H locs hP hS => ?_)
            refine lv_iconst (v := 0) hx hb dX10_isNext_67 (by decide) ?_
            have hP := wm_eq rfl (ec_g___14 g ) (ec_r_9_10__10_9 r mta (upd rwa dpa.toNatClampNeg v18)) rfl hP
            exact W.zret (v := (0 : Int32)) hx hb hr (by decide) (fun t ht hW => ⟨⟨_, ((upd (upd (upd f 11 dpa) 12 tra) 13 (1 : Int32)), (vp_updL g 14 (g 14)), (va_up (va_up r 10 (upd rwa dpa.toNatClampNeg v18)) 9 mta), q), rfl, ⟨dpa, tra, (1 : Int32), (g 14), (upd rwa dpa.toNatClampNeg v18), mta, rfl, ⟨⟨by decide, by omega, by omega, fun z => absurd z (by decide)⟩, Or.inr ⟨rfl, Or.inr ⟨rfl, rSt_spent j0_2 (by omega) iv9 nE9 (by omega)⟩⟩⟩⟩, by unfold mB; rw [ht]; exact hP⟩, hS.F ht⟩) hS.2.2 dX10_isNext_68
        · skip
          have d37 := c37
          rw [fa_eq] at d37
          refine lv_aload_n hx hb dX10_isNext_40 rfl (lv_at hl 0 rfl) ?_
          refine lv_dup hx hb dX10_isNext_41 rfl ?_
          refine m_get (v := .int dpa) hx hb hts hin hown hK hP 11 (by decide) rfl (hts (.fieldLink RX10 157 "ShadowBenchModel" "depth" "I") (by decide +kernel)) rfl dX10_isNext_42 ?_
          refine lv_iconst (v := 1) hx hb dX10_isNext_45 (by decide) ?_
          refine lv_isub hx hb dX10_isNext_46 ?_
          refine lv_topi (fun v46 e46 => ?_)
          have i46 : v46.toInt = dpa.toInt - (1 : Int32).toInt := by rw [e46]; exact fb_subI (by omega) (by omega)
          refine m_put (v := .int v46) (ty := .int) hx hb hts hin hown hK hP hD hS 11 (by decide) rfl (hts (.fieldLink RX10 157 "ShadowBenchModel" "depth" "I") (by decide +kernel)) rfl (by decide +kernel) rfl rfl (upd (upd f 12 tra) 11 v46) g rfl dX10_isNext_47 (fun H locs hP hS => ?_)
          refine lv_goto (tgt := 0) hx hb dX10_isNext_50 (by decide) ?_
          have hP := wm_eq (ec_f_12_11__11_12 f tra v46) rfl (ec_r_9_10__10_9 r mta (upd rwa dpa.toNatClampNeg v18)) rfl hP
          exact ih_0 v46 tra (upd rwa dpa.toNatClampNeg v18) mta (by omega) (by omega) (by first | exact rSt_pop j0_2 (by omega) iv9 (by rw [← f28, c37]; exact i36) (by omega) | exact rMid_no hm9 (by rw [← hnx]; exact b84) | exact rMid_push hm9 (by rw [← hnx]; exact b84) (by omega) (by omega) | exact rMid_nofit hm9 (by rw [← hnx]; exact b84) (by omega) (by rw [← hnx]; show ¬ fitR _ r _; exact (by rw [q138, e137] at b144; exact b144))) (by omega) _ _ hP hS ls (lv_sub hl [0, 1] rfl)
  have hP := wm_eq (ec_f___11_12 f ) rfl (ec_r___10_9 r ) rfl hP
  exact loop_0 (((200000 - (f 12).toInt) * 8 + (f 11).toInt + 1).toNat + 1) (f 11) (f 12) (r 10) (r 9) (by omega) (by omega) (rSt_0 hs9) (by omega) _ _ hP hS ls (lv_sub hl [0, 1] rfl)

theorem bc64_0 : ∀ s, s < 64 → bc16 (nI s) = nI (bs (fun i => s.testBit i) 6) := by decide +kernel
theorem bc64_1 {p : Int32} (h0 : 0 ≤ p.toInt ∧ p.toInt < 64) : bc16 p = nI (bs (fun i => p.toNatClampNeg.testBit i) 6) := by
  have c := m_cl (x := p) h0.1
  have z := bc64_0 p.toNatClampNeg (by omega)
  rw [cl_nI h0.1] at z
  exact z
set_option maxHeartbeats 4000000 in
set_option maxRecDepth 100000 in
theorem c_J6_y (l : Launch) (p0 : Int32) (h0 : 0 ≤ p0.toInt ∧ p0.toInt < 64) : Pu l yJ6_bitCount_0f7a4 wsJ6_bitCount_0f7a4 ({ frames := 0, cells := 0, slots := 0, locals := 0 }) [.int p0] (fun r => r = nI (bs (fun i => p0.toNatClampNeg.testBit i) 6)) := by
  refine Met.ofW (cc := cJ6_bitCount_0f7a4) (maxL := 1) (ret := (some .int)) (by decide) rfl ?_
  intro p e s m args below meth c s₁ B hml hv
  obtain ⟨rfl, -⟩ := hv
  have hx := B.exec
  have hb := B.bytes
  have hr := B.returns
  have hts := atoms_spec (ws := wsJ6_bitCount_0f7a4) B.pre
  have hown : s.vm.findClass RJ6 = some m.cls := findClass_of_methodNamed B.named
  have hlocks := B.notSynchronized
  have hS : va_S (fun _ => False) s.heap s.heap [] := va_S.rf
  have hl := lv_entry ([.int p0]) (n := 1) (Nat.le_of_ble_eq_true rfl)
  rw [lg_entry_eq]
  generalize (lg_sl ([.int p0]) ++ List.replicate (1 - (lg_sl ([.int p0])).length) Slot.unset).toArray = ls at hl ⊢
  have hl : lv_has ls 1 [(0, .int p0)] := hl
  have hS0 := hS
  have k_0 : (0 : Int32).toInt = 0 := by decide
  have k_1 : (1 : Int32).toInt = 1 := by decide
  have k_2 : (2 : Int32).toInt = 2 := by decide
  have k_4 : (4 : Int32).toInt = 4 := by decide
  have k_8 : (8 : Int32).toInt = 8 := by decide
  have k_16 : (16 : Int32).toInt = 16 := by decide
  have k_63 : (63 : Int32).toInt = 63 := by decide
  have k_252645135 : (252645135 : Int32).toInt = 252645135 := by decide
  have k_858993459 : (858993459 : Int32).toInt = 858993459 := by decide
  have k_1431655765 : (1431655765 : Int32).toInt = 1431655765 := by decide
  refine lv_iload_n hx hb dJ6_bitCount_0f7a4_0 rfl (lv_at hl 0 rfl) ?_
  refine lv_iload_n hx hb dJ6_bitCount_0f7a4_1 rfl (lv_at hl 0 rfl) ?_
  refine lv_iconst (v := 1) hx hb dJ6_bitCount_0f7a4_2 (by decide) ?_
  refine lv_iushr (v := (p0.toUInt32 >>> ((1 : Int32).toUInt32 &&& Int32.toUInt32 31)).toInt32) hx hb dJ6_bitCount_0f7a4_3 rfl ?_
  refine lv_ldcw hx hb hown (hts (.constant RJ6 265 (1431655765)) (by decide +kernel)) dJ6_bitCount_0f7a4_4 ?_
  refine lv_iand hx hb dJ6_bitCount_0f7a4_7 ?_
  refine lv_topi (fun v7 e7 => ?_)
  refine lv_isub hx hb dJ6_bitCount_0f7a4_8 ?_
  refine lv_topi (fun v8 e8 => ?_)
  refine lv_istore_n (lv' := [(0, .int v8)]) hx hb dJ6_bitCount_0f7a4_9 rfl hl (by decide) rfl (fun ls hl => ?_)
  refine lv_iload_n hx hb dJ6_bitCount_0f7a4_10 rfl (lv_at hl 0 rfl) ?_
  refine lv_ldcw hx hb hown (hts (.constant RJ6 266 (858993459)) (by decide +kernel)) dJ6_bitCount_0f7a4_11 ?_
  refine lv_iand hx hb dJ6_bitCount_0f7a4_14 ?_
  refine lv_topi (fun v14 e14 => ?_)
  refine lv_iload_n hx hb dJ6_bitCount_0f7a4_15 rfl (lv_at hl 0 rfl) ?_
  refine lv_iconst (v := 2) hx hb dJ6_bitCount_0f7a4_16 (by decide) ?_
  refine lv_iushr (v := (v8.toUInt32 >>> ((2 : Int32).toUInt32 &&& Int32.toUInt32 31)).toInt32) hx hb dJ6_bitCount_0f7a4_17 rfl ?_
  refine lv_ldcw hx hb hown (hts (.constant RJ6 266 (858993459)) (by decide +kernel)) dJ6_bitCount_0f7a4_18 ?_
  refine lv_iand hx hb dJ6_bitCount_0f7a4_21 ?_
  refine lv_topi (fun v21 e21 => ?_)
  refine lv_iadd hx hb dJ6_bitCount_0f7a4_22 ?_
  refine lv_topi (fun v22 e22 => ?_)
  refine lv_istore_n (lv' := [(0, .int v22)]) hx hb dJ6_bitCount_0f7a4_23 rfl hl (by decide) rfl (fun ls hl => ?_)
  refine lv_iload_n hx hb dJ6_bitCount_0f7a4_24 rfl (lv_at hl 0 rfl) ?_
  refine lv_iload_n hx hb dJ6_bitCount_0f7a4_25 rfl (lv_at hl 0 rfl) ?_
  refine lv_iconst (v := 4) hx hb dJ6_bitCount_0f7a4_26 (by decide) ?_
  refine lv_iushr (v := (v22.toUInt32 >>> ((4 : Int32).toUInt32 &&& Int32.toUInt32 31)).toInt32) hx hb dJ6_bitCount_0f7a4_27 rfl ?_
  refine lv_iadd hx hb dJ6_bitCount_0f7a4_28 ?_
  refine lv_topi (fun v28 e28 => ?_)
  refine lv_ldcw hx hb hown (hts (.constant RJ6 267 (252645135)) (by decide +kernel)) dJ6_bitCount_0f7a4_29 ?_
  refine lv_iand hx hb dJ6_bitCount_0f7a4_32 ?_
  refine lv_topi (fun v32 e32 => ?_)
  refine lv_istore_n (lv' := [(0, .int v32)]) hx hb dJ6_bitCount_0f7a4_33 rfl hl (by decide) rfl (fun ls hl => ?_)
  refine lv_iload_n hx hb dJ6_bitCount_0f7a4_34 rfl (lv_at hl 0 rfl) ?_
  refine lv_iload_n hx hb dJ6_bitCount_0f7a4_35 rfl (lv_at hl 0 rfl) ?_
  refine lv_bipush (v := 8) hx hb dJ6_bitCount_0f7a4_36 (by decide) ?_
  refine lv_iushr (v := (v32.toUInt32 >>> ((8 : Int32).toUInt32 &&& Int32.toUInt32 31)).toInt32) hx hb dJ6_bitCount_0f7a4_38 rfl ?_
  refine lv_iadd hx hb dJ6_bitCount_0f7a4_39 ?_
  refine lv_topi (fun v39 e39 => ?_)
  refine lv_istore_n (lv' := [(0, .int v39)]) hx hb dJ6_bitCount_0f7a4_40 rfl hl (by decide) rfl (fun ls hl => ?_)
  refine lv_iload_n hx hb dJ6_bitCount_0f7a4_41 rfl (lv_at hl 0 rfl) ?_
  refine lv_iload_n hx hb dJ6_bitCount_0f7a4_42 rfl (lv_at hl 0 rfl) ?_
  refine lv_bipush (v := 16) hx hb dJ6_bitCount_0f7a4_43 (by decide) ?_
  refine lv_iushr (v := (v39.toUInt32 >>> ((16 : Int32).toUInt32 &&& Int32.toUInt32 31)).toInt32) hx hb dJ6_bitCount_0f7a4_45 rfl ?_
  refine lv_iadd hx hb dJ6_bitCount_0f7a4_46 ?_
  refine lv_topi (fun v46 e46 => ?_)
  refine lv_istore_n (lv' := [(0, .int v46)]) hx hb dJ6_bitCount_0f7a4_47 rfl hl (by decide) rfl (fun ls hl => ?_)
  refine lv_iload_n hx hb dJ6_bitCount_0f7a4_48 rfl (lv_at hl 0 rfl) ?_
  refine lv_bipush (v := 63) hx hb dJ6_bitCount_0f7a4_49 (by decide) ?_
  refine lv_iand hx hb dJ6_bitCount_0f7a4_51 ?_
  refine lv_topi (fun v51 e51 => ?_)
  exact W.iret (v := v51) hx hb hr (fun t ht hW => ⟨⟨_, (), rfl, (by subst e51 e46 e39 e32 e28 e22 e21 e14 e8 e7; exact bc64_1 h0), trivial⟩, hS.F ht⟩) hS.2.2 dJ6_bitCount_0f7a4_52

def tst (a b c : Int32) (m : Nat) : Prop := (nI m &&& c = 0 ∧ nI m &&& b = b) ∧ nI (bs (fun i => m.testBit i) 6) = a
theorem b_1sh : ∀ i, i < 6 → ∀ b, b < 32 → bt ((1 : Int32) <<< (nI i &&& 31)) b = decide (b = i) := by decide +kernel
theorem bt_nI : ∀ m, m < 64 → ∀ b, b < 32 → bt (nI m) b = m.testBit b := by decide +kernel
theorem isRow_s1 {i : Nat} {F : Nat → Bool} {x v u : Int32} (hi : i < 6) (h : isRow i F x) (hF : F i = true) (e : v = x ||| u) (eu : u = (1 : Int32) <<< (nI i &&& 31)) : isRow (i + 1) F v := fun b hb => by
  rw [e, b_or, h b hb, eu, b_1sh i hi b hb]
  by_cases z : b = i
  · rw [decide_eq_true z, Bool.or_true, decide_eq_true (show b < i + 1 by omega), z, hF, Bool.and_true]
  · rw [decide_eq_false z, Bool.or_false]
    by_cases y : b < i
    · rw [decide_eq_true y, decide_eq_true (show b < i + 1 by omega)]
    · rw [decide_eq_false y, decide_eq_false (show ¬ b < i + 1 by omega)]
theorem isRow_s0 {i : Nat} {F : Nat → Bool} {x : Int32} (h : isRow i F x) (hF : F i = false) : isRow (i + 1) F x := fun b hb => by
  rw [h b hb]
  by_cases z : b = i
  · rw [z, hF, Bool.and_false, Bool.and_false]
  · by_cases y : b < i
    · rw [decide_eq_true y, decide_eq_true (show b < i + 1 by omega)]
    · rw [decide_eq_false y, decide_eq_false (show ¬ b < i + 1 by omega)]
theorem isRow_or {w : Nat} {F K : Nat → Bool} {x y v : Int32} (hx : isRow w F x) (hy : isRow w K y) (e : v = x ||| y) : isRow w (fun b => F b || K b) v := fun b hb => by
  rw [e, b_or, hx b hb, hy b hb]
  cases decide (b < w)
  · rfl
  · rfl
theorem isRow_cg {w : Nat} {F K : Nat → Bool} {v : Int32} (h : isRow w F v) (e : ∀ b, b < w → F b = K b) : isRow w K v := fun b hb => by
  rw [h b hb]
  by_cases z : b < w
  · rw [e b z]
  · rw [decide_eq_false z, Bool.false_and, Bool.false_and]
theorem upN_up (f : Nat → Nat) (k a b : Nat) : upN (upN f k a) k b = upN f k b := by
  funext i
  unfold upN
  split <;> rfl
theorem upN_id (f : Nat → Nat) (k : Nat) : upN f k (f k) = f := by
  funext i
  unfold upN
  by_cases z : i = k
  · rw [if_pos z, z]
  · rw [if_neg z]
theorem row_and {w m : Nat} {F : Nat → Bool} {v : Int32} (hw : w ≤ 6) (hm : m < 2 ^ w) (h : isRow w F v) : nI m &&& v = 0 ↔ ∀ x, x < w → ¬ (m.testBit x = true ∧ F x = true) := by
  have p64 := pw_64 hw
  constructor
  · intro e x hx hz
    have y : bt (nI m &&& v) x = true := by rw [b_and, bt_nI m (by omega) x (by omega), h x (by omega), decide_eq_true hx, hz.1, hz.2]; rfl
    rw [e, b_0] at y
    cases y
  · intro e
    apply b_ext
    intro b hb
    rw [b_and, bt_nI m (by omega) b hb, h b hb, b_0]
    by_cases z : b < w
    · rw [decide_eq_true z, Bool.true_and]
      cases h1 : m.testBit b
      · rfl
      · cases h2 : F b
        · rfl
        · exact absurd ⟨h1, h2⟩ (e b z)
    · rw [decide_eq_false z, Bool.false_and, Bool.and_false]
theorem row_sub {w m : Nat} {F : Nat → Bool} {v : Int32} (hw : w ≤ 6) (hm : m < 2 ^ w) (h : isRow w F v) : nI m &&& v = v ↔ ∀ x, x < w → F x = true → m.testBit x = true := by
  have p64 := pw_64 hw
  constructor
  · intro e x hx hF
    have y := congrArg (fun t => bt t x) e
    simp only [b_and, bt_nI m (show m < 64 by omega) x (show x < 32 by omega), h x (show x < 32 by omega), decide_eq_true hx, hF, Bool.and_true] at y
    exact y
  · intro e
    apply b_ext
    intro b hb
    rw [b_and, bt_nI m (by omega) b hb, h b hb]
    by_cases z : b < w
    · rw [decide_eq_true z, Bool.true_and]
      cases h2 : F b
      · rw [Bool.and_false]
      · rw [e b z h2]; rfl
    · rw [decide_eq_false z, Bool.false_and, Bool.and_false]
theorem pop_6 {w m : Nat} (hw : w ≤ 6) (hm : m < 2 ^ w) : bs (fun i => m.testBit i) 6 = bs (fun i => m.testBit i) w := bs_ext hw (fun i _ => rfl) (fun i h1 _ => tb_hi hm h1)
theorem colN_s {nx : Nat → Nat} {d m x : Nat} : colN (upN nx d (m + 1)) x (d + 1) = colN nx x d + (m.testBit x).toNat := by
  unfold colN
  simp only [bs]
  rw [upN_k, Nat.add_sub_cancel, bs_cg (g := fun j => (nx j - 1).testBit x) (fun j hj => by rw [upN_n _ (by omega)])]
/-- what the class tests of a row is what the walk asks -/
theorem tst_go {w h d m : Nat} {o n : Int64} {fs : Nat → Int32} {nx : Nat → Nat} {f2 f3 f4 : Int32} (hb : 1 ≤ w ∧ w ≤ 6 ∧ 1 ≤ h ∧ h ≤ 6) (hd : d < h) (hm : m < 2 ^ w) (e2 : f2 = fs d) (h3 : isRow w (rB w o d) f3) (h4 : isRow w (fun x => rB w n d x || decide ((fs (11 + x)).toInt ≤ (colN nx x d : Int))) f4) (hc : ∀ x, x < w → (colN nx x d : Int) ≤ (fs (11 + x)).toInt) (hx : ∀ s, s < w * h → ¬ (lb o s = true ∧ lb n s = true)) : tst f2 f3 f4 m ↔ goP w (hH o n) (fun x => fs (11 + x)) fs (upN nx d (m + 1)) d := by
  have p64 := pw_64 hb.2.1
  unfold tst goP
  rw [row_and hb.2.1 hm h4, row_sub hb.2.1 hm h3, pop_6 hb.2.1 hm, upN_k, Nat.add_sub_cancel]
  have e1 : (nI (bs (fun i => m.testBit i) w) = f2) ↔ ((bs (fun i => m.testBit i) w : Nat) : Int) = (fs d).toInt := by
    have bl := bs_le (fun i => m.testBit i) w
    rw [e2]
    constructor
    · intro z; rw [← z]; exact (nI_toInt (by omega)).symm
    · intro z; exact Int32.toInt_inj.mp ((nI_toInt (by omega)).trans z)
  rw [e1]
  have m5 : d * w + w ≤ w * h := by
    have := Nat.mul_le_mul_right w (show d + 1 ≤ h from hd)
    rw [Nat.succ_mul, Nat.mul_comm h w] at this
    exact this
  have e3 : ((∀ x, x < w → ¬ (m.testBit x = true ∧ (rB w n d x || decide ((fs (11 + x)).toInt ≤ (colN nx x d : Int))) = true)) ∧ ∀ x, x < w → rB w o d x = true → m.testBit x = true) ↔ ∀ x, x < w → (hH o n (d * w + x) = 2 ∨ hH o n (d * w + x) = if m.testBit x then 1 else 0) ∧ (colN (upN nx d (m + 1)) x (d + 1) : Int) ≤ (fs (11 + x)).toInt := by
    have one : ∀ x, x < w → ((¬ (m.testBit x = true ∧ (rB w n d x || decide ((fs (11 + x)).toInt ≤ (colN nx x d : Int))) = true) ∧ (rB w o d x = true → m.testBit x = true)) ↔ ((hH o n (d * w + x) = 2 ∨ hH o n (d * w + x) = if m.testBit x then 1 else 0) ∧ (colN (upN nx d (m + 1)) x (d + 1) : Int) ≤ (fs (11 + x)).toInt)) := fun x hxw => by
      have hc1 := hc x hxw
      have hx1 := hx (d * w + x) (by omega)
      rw [colN_s]
      unfold hH rB
      cases ho : lb o (d * w + x) <;> cases hn : lb n (d * w + x) <;> cases hq : m.testBit x
      · simp only [Bool.false_or, Bool.toNat_false, Nat.add_zero]
        exact ⟨fun _ => ⟨Or.inl rfl, hc1⟩, fun _ => ⟨fun z => (by cases z.1), fun z => (by cases z)⟩⟩
      · simp only [Bool.false_or, Bool.toNat_true]
        constructor
        · intro z
          refine ⟨Or.inl rfl, ?_⟩
          have z1 : ¬ (fs (11 + x)).toInt ≤ (colN nx x d : Int) := fun y => z.1 ⟨(by trivial), decide_eq_true y⟩
          omega
        · intro z
          refine ⟨fun y => ?_, fun _ => (by trivial)⟩
          have y2 := of_decide_eq_true y.2
          have z2 := z.2
          omega
      · simp only [Bool.true_or, Bool.toNat_false, Nat.add_zero]
        exact ⟨fun _ => ⟨Or.inr rfl, hc1⟩, fun _ => ⟨fun z => (by cases z.1), fun z => (by cases z)⟩⟩
      · simp only [Bool.true_or]
        constructor
        · intro z; exact (z.1 ⟨(by trivial), (by trivial)⟩).elim
        · intro z; rcases z.1 with y | y
          · exact absurd y (by decide)
          · exact absurd y (by decide)
      · simp only [Bool.toNat_false, Nat.add_zero]
        constructor
        · intro z; exact absurd (z.2 (by trivial)) (by decide)
        · intro z; rcases z.1 with y | y
          · exact absurd y (by decide)
          · exact absurd y (by decide)
      · simp only [Bool.false_or, Bool.toNat_true]
        constructor
        · intro z
          refine ⟨Or.inr rfl, ?_⟩
          have z1 : ¬ (fs (11 + x)).toInt ≤ (colN nx x d : Int) := fun y => z.1 ⟨(by trivial), decide_eq_true y⟩
          omega
        · intro z
          refine ⟨fun y => ?_, fun _ => (by trivial)⟩
          have y2 := of_decide_eq_true y.2
          have z2 := z.2
          omega
      · exact absurd ⟨ho, hn⟩ hx1
      · exact absurd ⟨ho, hn⟩ hx1
    exact ⟨fun z x hxw => (one x hxw).mp ⟨z.1 x hxw, z.2 x hxw⟩, fun z => ⟨fun x hxw => ((one x hxw).mpr (z x hxw)).1, fun x hxw => ((one x hxw).mpr (z x hxw)).2⟩⟩
  rw [e3]
/-- what the class holds of a level -/
def lvC (w : Nat) (o n : Int64) (fs : Nat → Int32) (nx : Nat → Nat) (i : Nat) (f1 f2 f3 f4 : Nat → Int32) (f5 : Nat → Int64) : Prop := f1 i = nI (nx i) ∧ f2 i = fs i ∧ isRow w (rB w o i) (f3 i) ∧ isRow w (fun x => rB w n i x || decide ((fs (11 + x)).toInt ≤ (colN nx x i : Int))) (f4 i) ∧ f5 i = picL w nx i
def cRel (w : Nat) (o n : Int64) (fs : Nat → Int32) (s : wS) (y tr : Int32) (f1 f2 f3 f4 : Nat → Int32) (f5 : Nat → Int64) : Prop := s.1 = y.toInt ∧ (s.2.2 : Int) = tr.toInt ∧ ∀ i : Nat, (i : Int) ≤ s.1 → lvC w o n fs s.2.1 i f1 f2 f3 f4 f5
theorem lvC_cg {w : Nat} {o n : Int64} {fs : Nat → Int32} {nx mx : Nat → Nat} {i : Nat} {f1 f2 f3 f4 g1 g2 g3 g4 : Nat → Int32} {f5 g5 : Nat → Int64} (h : lvC w o n fs nx i f1 f2 f3 f4 f5) (en : ∀ j, j ≤ i → nx j = mx j) (e1 : g1 i = f1 i) (e2 : g2 i = f2 i) (e3 : g3 i = f3 i) (e4 : g4 i = f4 i) (e5 : g5 i = f5 i) : lvC w o n fs mx i g1 g2 g3 g4 g5 := by
  obtain ⟨a1, a2, a3, a4, a5⟩ := h
  refine ⟨by rw [e1, a1, en i (Nat.le_refl _)], by rw [e2, a2], by rw [e3]; exact a3, ?_, by rw [e5, a5]; exact picL_cg i (fun j hj => en j (by omega))⟩
  rw [e4]
  exact isRow_cg a4 (fun b _ => by rw [colN_cg (mx := mx) (fun j hj => en j (by omega))])
section TRY
variable {E h : Nat} {Go : (Nat → Nat) → Nat → Prop} {Fi : (Nat → Nat) → Prop} {s0 : wS} {d : Int} {nx : Nat → Nat} {t : Nat}
theorem wNx_up {m t : Nat} (hd : 0 ≤ d) : wNx (d, upN nx d.toNat m, t) = upN nx d.toNat (m + 1) := by
  show upN (upN nx d.toNat m) d.toNat (upN nx d.toNat m d.toNat + 1) = _
  rw [upN_k, upN_up]
/-- rows that don't go on, one after the other -/
theorem wTo_run {n m0 : Nat} (hd : 0 ≤ d) (a : wTo E h Go Fi n s0 (d, nx, t)) (h0 : nx d.toNat = m0) : ∀ k, m0 + k ≤ E → t + k ≤ 200000 → (∀ i, m0 ≤ i → i < m0 + k → ¬ Go (upN nx d.toNat (i + 1)) d.toNat) → wTo E h Go Fi (n + k) s0 (d, upN nx d.toNat (m0 + k), t + k) := by
  intro k
  induction k with
  | zero => intro _ _ _; rw [Nat.add_zero, Nat.add_zero, Nat.add_zero, ← h0, upN_id]; exact a
  | succ k ih =>
    intro h1 h2 h3
    have b := ih (by omega) (by omega) (fun i hi hj => h3 i hi (by omega))
    refine ⟨_, b, hd, Or.inr ⟨?_, by show t + k < 200000; omega, Or.inl ⟨?_, ?_⟩⟩⟩
    · show ¬ upN nx d.toNat (m0 + k) d.toNat = E
      rw [upN_k]; omega
    · rw [wNx_up hd]; exact h3 (m0 + k) (by omega) (by omega)
    · rw [wNx_up hd]; rfl
end TRY

/-- the cells of a walk -/
def wkC (cy : Nat → ClassId) (W : va_W) (o x1 a1 a2 a3 a4 a5 : Nat) (y tr sp : Int32) (fd : Int64) (f1 f2 f3 f4 : Nat → Int32) (f5 : Nat → Int64) : Prop := cIn W o (.inr (7, [.ref x1, .int y, .int tr, .int sp, .long fd, .ref a1, .ref a2, .ref a3, .ref a4, .ref a5])) ∧ cIn W a1 (.inl (cy 0, 6, .inl f1)) ∧ cIn W a2 (.inl (cy 0, 6, .inl f2)) ∧ cIn W a3 (.inl (cy 0, 6, .inl f3)) ∧ cIn W a4 (.inl (cy 0, 6, .inl f4)) ∧ cIn W a5 (.inl (cy 1, 6, .inr (.inl f5)))
set_option maxHeartbeats 4000000 in
set_option maxRecDepth 100000 in
theorem c_X3_fullColumns_x (l : Launch) (D : va_G) (cy : Nat → ClassId) (A : Nat → Prop) (G : cG) (ws : va_W) (o : Nat) (p0 : Int64) {kq w h b_o s_o t_o : Nat} {x_o y_o : Int64} {ms_o : List Value} {fs : Nat → Int32} (hD : va_D A ws) (hT : cT cy G ws) (hG_o : G o = some (3, kq, 8 * w + h)) (hM_o : cIn ws o (.inr (kq, .ref b_o :: .ref s_o :: .int (nI t_o) :: .long x_o :: .long y_o :: ms_o))) (hM_s_o : cIn ws s_o (.inl (cy 0, 44, .inl fs))) (hb9 : 1 ≤ w ∧ w ≤ 6 ∧ 1 ≤ h ∧ h ≤ 6) (ht9 : t_o < 16) : Ci l D cy A yX3_fullColumns wsX3_fullColumns ({ frames := 2, cells := 0, slots := 0, locals := 46 }) 0 0 ws [.ref o, .long p0] (fun r0 u => u = (G, ws) ∧ (isRow w (fun x => decide ((fs (11 + x)).toInt ≤ (shN w h p0 1 x : Int))) r0)) := by
  refine Met.ofW (cc := cX3_fullColumns) (maxL := 6) (ret := (some .int)) (by decide) rfl ?_
  intro p e s m args below meth c s₁ B hml hv
  obtain ⟨rfl, hP, hK, hA, hV⟩ := hv
  have hx := B.exec
  have hb := B.bytes
  have hr := B.returns
  have hts := atoms_spec (ws := wsX3_fullColumns) B.pre
  have hown : s.vm.findClass RX3 = some m.cls := findClass_of_methodNamed B.named
  have hlocks := B.notSynchronized
  have hS : va_S A s.heap s.heap [] := va_S.rf
  have hinJ : ∀ w ∈ wsX10 ++ wsX30 ++ wsX40 ++ wsX50, w ∈ wsX3_fullColumns := by decide +kernel
  have hl := lv_entry ([.ref o, .long p0]) (n := 6) (Nat.le_of_ble_eq_true rfl)
  rw [lg_entry_eq]
  generalize (lg_sl ([.ref o, .long p0]) ++ List.replicate (6 - (lg_sl ([.ref o, .long p0])).length) Slot.unset).toArray = ls at hl ⊢
  have hl : lv_has ls 6 [(0, .ref o), (1, .long p0)] := hl
  have k_0 : (0 : Int32).toInt = 0 := by decide
  have k_1 : (1 : Int32).toInt = 1 := by decide
  obtain ⟨hG_b_o, hG_s_o, hJ_o⟩ := w3sh hD hT hG_o hb9 hM_o
  refine lv_iconst (v := 0) hx hb dX3_fullColumns_0 (by decide) ?_
  refine lv_istore_n (lv' := [(3, .int (0 : Int32)), (0, .ref o), (1, .long p0)]) hx hb dX3_fullColumns_1 rfl hl (by decide) rfl (fun ls hl => ?_)
  refine lv_iconst (v := 0) hx hb dX3_fullColumns_2 (by decide) ?_
  refine lv_istore (lv' := [(4, .int (0 : Int32)), (3, .int (0 : Int32)), (0, .ref o), (1, .long p0)]) hx hb dX3_fullColumns_3 hl (by decide) rfl (fun ls hl => ?_)
  have loop_5 : ∀ (n : Nat) (i : Nat) (x3 : Int32), (i ≤ w) → (isRow i (fun x => decide ((fs (11 + x)).toInt ≤ (shN w h p0 1 x : Int))) x3) → w - i < n → ∀ (H : Heap) (locs : List Loc), va_P D vwCl ws H → va_S A s.heap H locs → ∀ (ls : Array Slot), lv_has ls 6 [(4, .int (nI i)), (3, .int x3), (0, .ref o), (1, .long p0)] → W p l e (headSpec wsX3_fullColumns ({ frames := 2, cells := 0, slots := 0, locals := 46 })).room s m #[Value.ref o, Value.long p0] below meth c H locs 0 0 (MQ below (va_Qi (fun r0 u => u = (G, ws) ∧ (isRow w (fun x => decide ((fs (11 + x)).toInt ≤ (shN w h p0 1 x : Int))) r0)) (cB D cy A) A) #[Value.ref o, Value.long p0] s 0 0 A) (F0 m 5 ls []) := by
    intro n
    induction n with
    | zero => intro i x3 j5_0 j5_1 hn; exact absurd hn (Nat.not_lt_zero _)
    | succ n ih_5 =>
      intro i x3 j5_0 j5_1 hn_5 H locs hP hS  ls hl
      have ii : (nI i).toInt = (i : Int) := nI_toInt (by omega)
      refine lv_iload hx hb dX3_fullColumns_5 (lv_at hl 0 rfl) ?_
      refine lv_aload_n hx hb dX3_fullColumns_7 rfl (lv_at hl 2 rfl) ?_
      refine t_getJ (v := .ref b_o) hx hb hts hinJ hown hK hP hJ_o.kc hM_o 0 (by decide) (hts (.fieldLink RX3 28 "ShadowBench$Job" "board" "LShadowBench$Board;") (by decide +kernel)) (fun _ h9 => h9) rfl dX3_fullColumns_8 ?_
      obtain ⟨_, hM_b_o, hb_b_o, l_b_o, f_b_o, r_b_o, rfl, hG_l_b_o, hG_f_b_o, hG_r_b_o⟩ := hT _ _ hG_b_o
      refine t_get (v := .int (nI w)) (C := RX0) (T := TX0) (N := 8) hx hb hts (by decide +kernel) hown hK hP hM_b_o rfl 0 (by decide) (hts (.fieldLink RX3 54 "ShadowBench$Board" "wide" "I") (by decide +kernel)) (fun _ h9 => h9) rfl dX3_fullColumns_11 ?_
      have i_w_b_o : (nI w).toInt = _ := nI_toInt (by omega)
      refine lv_icmp_ge (tgt := 55) hx hb dX3_fullColumns_14 (by decide) (fun c14 => ?_) (fun c14 => ?_)
      · skip
        have d14 := c14
        rw [fa_le] at d14
        refine lv_iload_n hx hb dX3_fullColumns_55 rfl (lv_at hl 1 rfl) ?_
        exact W.iret (v := x3) hx hb hr (fun t ht hW => ⟨⟨_, (G, ws), rfl, ⟨rfl, (by have z9 := j5_1; rw [show i = w by omega] at z9; exact z9)⟩, by show va_P D vwCl ws t.heap; rw [ht]; exact hP, hD, hT⟩, hS.F ht⟩) hS.2.2 dX3_fullColumns_56
      · skip
        have d14 := c14
        rw [fa_le] at d14
        refine lv_aload_n hx hb dX3_fullColumns_17 rfl (lv_at hl 2 rfl) ?_
        refine t_getJ (v := .ref b_o) hx hb hts hinJ hown hK hP hJ_o.kc hM_o 0 (by decide) (hts (.fieldLink RX3 28 "ShadowBench$Job" "board" "LShadowBench$Board;") (by decide +kernel)) (fun _ h9 => h9) rfl dX3_fullColumns_18 ?_
        refine lv_iconst (v := 1) hx hb dX3_fullColumns_21 (by decide) ?_
        refine lv_iload hx hb dX3_fullColumns_22 (lv_at hl 0 rfl) ?_
        refine lv_lload_n hx hb dX3_fullColumns_24 rfl (lv_at hl 3 rfl) ?_
        refine t_calli (va_runV (g := F0 m 25 ls ([.long p0, .int (nI i), .int (1 : Int32), .ref b_o])) (As := [.int (1 : Int32), .int (nI i), .long p0]) (rest := []) ⟨hx, hb, hml, hown, hts⟩ (c_X0_onesOfLine_x l D cy A G ws b_o (1 : Int32) (nI i) p0 hD hT hG_b_o (by decide) (by omega)) (cwV 3 hts gX3_fullColumns_X0_onesOfLine rfl rfl rfl (by decide +kernel) ⟨Nat.le_of_ble_eq_true rfl, Nat.le_of_ble_eq_true rfl⟩) (c_preV hM_b_o rfl hP hK hA hS hV) rfl rfl hl.1 rfl (lv_room (Nat.le_of_ble_eq_true rfl)) dX3_fullColumns_25 ⟨Nat.le_of_ble_eq_true rfl, Nat.le_of_ble_eq_true rfl⟩) hS (fun r25 u H locs q25 hP9 hD9 hT9 hS => ?_)
        obtain ⟨rfl, q25⟩ := q25
        have hP : va_P D vwCl ws H := hP9
        refine lv_istore (lv' := [(5, .int r25), (4, .int (nI i)), (3, .int x3), (0, .ref o), (1, .long p0)]) hx hb dX3_fullColumns_28 hl (by decide) rfl (fun ls hl => ?_)
        refine lv_iload hx hb dX3_fullColumns_30 (lv_at hl 0 rfl) ?_
        refine lv_aload_n hx hb dX3_fullColumns_32 rfl (lv_at hl 3 rfl) ?_
        refine lv_iconst (v := 1) hx hb dX3_fullColumns_33 (by decide) ?_
        refine lv_iload hx hb dX3_fullColumns_34 (lv_at hl 1 rfl) ?_
        refine t_calli (t_runJ (g := F0 m 36 ls ([.int (nI i), .int (1 : Int32), .ref o, .int r25])) (As := [.int (1 : Int32), .int (nI i)]) (rest := [.int r25]) ⟨hx, hb, hml, hown, hts⟩ (c_X3_sumOf_x l D cy A G ws o (1 : Int32) (nI i) hD hT hG_o hM_o hM_s_o hb9 ht9 (by decide) (by omega)) (va_cwU 2 hts gX3_fullColumns_X3_sumOf_u57X1 rfl rfl rfl rfl (by decide +kernel) ⟨Nat.le_of_ble_eq_true rfl, Nat.le_of_ble_eq_true rfl⟩) (cwV 2 hts gX3_fullColumns_X3_sumOf rfl rfl rfl (by decide +kernel) ⟨Nat.le_of_ble_eq_true rfl, Nat.le_of_ble_eq_true rfl⟩) (va_cwU 2 hts gX3_fullColumns_X3_sumOf_u57X4 rfl rfl rfl rfl (by decide +kernel) ⟨Nat.le_of_ble_eq_true rfl, Nat.le_of_ble_eq_true rfl⟩) (va_cwU 2 hts gX3_fullColumns_X3_sumOf_u57X5 rfl rfl rfl rfl (by decide +kernel) ⟨Nat.le_of_ble_eq_true rfl, Nat.le_of_ble_eq_true rfl⟩) hJ_o.kc hM_o hP hK c_blind (c_preS hP hK hA hS hV).2 rfl rfl hl.1 rfl (lv_room (Nat.le_of_ble_eq_true rfl)) dX3_fullColumns_36 ⟨Nat.le_of_ble_eq_true rfl, Nat.le_of_ble_eq_true rfl⟩) hS (fun r36 u H locs q36 hP9 hD9 hT9 hS => ?_)
        obtain ⟨rfl, q36⟩ := q36
        have hP : va_P D vwCl ws H := hP9
        have ck9 : (nI i).toNatClampNeg = i := nI_clamp (by omega)
        rw [ck9, show (1 : Int32).toNatClampNeg = 1 from rfl] at q25 q36
        rw [Nat.one_mul] at q36
        have sl9 := shN_6 hb9 (p := p0) (way := 1) (line := i) (by omega) (by omega)
        have i25 : r25.toInt = (shN w h p0 1 i : Int) := by rw [q25]; exact nI_toInt (by omega)
        have i36 := congrArg Int32.toInt q36
        refine lv_icmp_lt (tgt := 49) hx hb dX3_fullColumns_39 (by decide) (fun c39 => ?_) (fun c39 => ?_)
        · skip
          have d39 := c39
          rw [fa_lt] at d39
          refine lv_iinc (v := (nI (i + 1))) (lv' := [(4, .int (nI (i + 1))), (5, .int r25), (3, .int x3), (0, .ref o), (1, .long p0)]) hx hb dX3_fullColumns_49 hl (k := 1) rfl (nI_1 _) (by decide) rfl (fun ls hl => ?_)
          refine lv_goto (tgt := 5) hx hb dX3_fullColumns_52 (by decide) ?_
          exact ih_5 (i + 1) x3 (by omega) (by first | exact isRow_s1 (by omega) j5_1 (decide_eq_true (by omega)) e47 e46 | exact isRow_s0 j5_1 (decide_eq_false (by omega))) (by omega) _ _ hP hS  ls (lv_sub hl [0, 2, 3, 4] rfl)
        · skip
          have d39 := c39
          rw [fa_lt] at d39
          refine lv_iload_n hx hb dX3_fullColumns_42 rfl (lv_at hl 2 rfl) ?_
          refine lv_iconst (v := 1) hx hb dX3_fullColumns_43 (by decide) ?_
          refine lv_iload hx hb dX3_fullColumns_44 (lv_at hl 1 rfl) ?_
          refine lv_ishl hx hb dX3_fullColumns_46 ?_
          refine lv_topi (fun v46 e46 => ?_)
          refine lv_ior hx hb dX3_fullColumns_47 ?_
          refine lv_topi (fun v47 e47 => ?_)
          refine lv_istore_n (lv' := [(3, .int v47), (5, .int r25), (4, .int (nI i)), (0, .ref o), (1, .long p0)]) hx hb dX3_fullColumns_48 rfl hl (by decide) rfl (fun ls hl => ?_)
          refine lv_iinc (v := (nI (i + 1))) (lv' := [(4, .int (nI (i + 1))), (3, .int v47), (5, .int r25), (0, .ref o), (1, .long p0)]) hx hb dX3_fullColumns_49 hl (k := 2) rfl (nI_1 _) (by decide) rfl (fun ls hl => ?_)
          refine lv_goto (tgt := 5) hx hb dX3_fullColumns_52 (by decide) ?_
          exact ih_5 (i + 1) v47 (by omega) (by first | exact isRow_s1 (by omega) j5_1 (decide_eq_true (by omega)) e47 e46 | exact isRow_s0 j5_1 (decide_eq_false (by omega))) (by omega) _ _ hP hS  ls (lv_sub hl [0, 1, 3, 4] rfl)
  exact loop_5 (w + 1) 0 (0 : Int32) (by omega) (fun b hb => by rw [b_0, decide_eq_false (Nat.not_lt_zero _), Bool.false_and]) (by omega) _ _ hP hS  ls (lv_sub hl [0, 1, 2, 3] rfl)
set_option maxHeartbeats 4000000 in
set_option maxRecDepth 100000 in
theorem c_X3_onesHeldInRow_x (l : Launch) (D : va_G) (cy : Nat → ClassId) (A : Nat → Prop) (G : cG) (ws : va_W) (o : Nat) (y : Nat) {kq w h b_o s_o t_o : Nat} {x_o y_o : Int64} {ms_o : List Value} (hD : va_D A ws) (hT : cT cy G ws) (hG_o : G o = some (3, kq, 8 * w + h)) (hM_o : cIn ws o (.inr (kq, .ref b_o :: .ref s_o :: .int (nI t_o) :: .long x_o :: .long y_o :: ms_o))) (hb9 : 1 ≤ w ∧ w ≤ 6 ∧ 1 ≤ h ∧ h ≤ 6) (ht9 : t_o < 16) (hy1 : y < h) : Ci l D cy A yX3_onesHeldInRow wsX3_onesHeldInRow ({ frames := 1, cells := 0, slots := 0, locals := 23 }) 0 0 ws [.ref o, .int (nI y)] (fun r0 u => u = (G, ws) ∧ (isRow w (rB w x_o y) r0)) := by
  refine Met.ofW (cc := cX3_onesHeldInRow) (maxL := 2) (ret := (some .int)) (by decide) rfl ?_
  intro p e s m args below meth c s₁ B hml hv
  obtain ⟨rfl, hP, hK, hA, hV⟩ := hv
  have hx := B.exec
  have hb := B.bytes
  have hr := B.returns
  have hts := atoms_spec (ws := wsX3_onesHeldInRow) B.pre
  have hown : s.vm.findClass RX3 = some m.cls := findClass_of_methodNamed B.named
  have hlocks := B.notSynchronized
  have hS : va_S A s.heap s.heap [] := va_S.rf
  have hinJ : ∀ w ∈ wsX10 ++ wsX30 ++ wsX40 ++ wsX50, w ∈ wsX3_onesHeldInRow := by decide +kernel
  have hl := lv_entry ([.ref o, .int (nI y)]) (n := 2) (Nat.le_of_ble_eq_true rfl)
  rw [lg_entry_eq]
  generalize (lg_sl ([.ref o, .int (nI y)]) ++ List.replicate (2 - (lg_sl ([.ref o, .int (nI y)])).length) Slot.unset).toArray = ls at hl ⊢
  have hl : lv_has ls 2 [(0, .ref o), (1, .int (nI y))] := hl
  have k_0 : (0 : Int32).toInt = 0 := by decide
  obtain ⟨hG_b_o, hG_s_o, hJ_o⟩ := w3sh hD hT hG_o hb9 hM_o
  refine lv_aload_n hx hb dX3_onesHeldInRow_0 rfl (lv_at hl 0 rfl) ?_
  refine t_getJ (v := .ref b_o) hx hb hts hinJ hown hK hP hJ_o.kc hM_o 0 (by decide) (hts (.fieldLink RX3 28 "ShadowBench$Job" "board" "LShadowBench$Board;") (by decide +kernel)) (fun _ h9 => h9) rfl dX3_onesHeldInRow_1 ?_
  refine lv_aload_n hx hb dX3_onesHeldInRow_4 rfl (lv_at hl 0 rfl) ?_
  refine t_getJ (v := .long x_o) hx hb hts hinJ hown hK hP hJ_o.kc hM_o 3 (by decide) (hts (.fieldLink RX3 21 "ShadowBench$Job" "heldOnes" "J") (by decide +kernel)) (fun _ h9 => h9) rfl dX3_onesHeldInRow_5 ?_
  refine lv_iload_n hx hb dX3_onesHeldInRow_8 rfl (lv_at hl 1 rfl) ?_
  obtain ⟨_, hM_b_o, hb_b_o, l_b_o, f_b_o, r_b_o, rfl, hG_l_b_o, hG_f_b_o, hG_r_b_o⟩ := hT _ _ hG_b_o
  refine t_calli (va_runV (g := F0 m 9 ls ([.int (nI y), .long x_o, .ref b_o])) (As := [.long x_o, .int (nI y)]) (rest := []) ⟨hx, hb, hml, hown, hts⟩ (c_X0_rowOf_x l D cy A G ws b_o x_o y hD hT hG_b_o hy1) (cwV 2 hts gX3_onesHeldInRow_X0_rowOf rfl rfl rfl (by decide +kernel) ⟨Nat.le_of_ble_eq_true rfl, Nat.le_of_ble_eq_true rfl⟩) (c_preV hM_b_o rfl hP hK hA hS hV) rfl rfl hl.1 rfl (lv_room (Nat.le_of_ble_eq_true rfl)) dX3_onesHeldInRow_9 ⟨Nat.le_of_ble_eq_true rfl, Nat.le_of_ble_eq_true rfl⟩) hS (fun r9 u H locs q9 hP9 hD9 hT9 hS => ?_)
  obtain ⟨rfl, q9⟩ := q9
  have hP : va_P D vwCl ws H := hP9
  exact W.iret (v := r9) hx hb hr (fun t ht hW => ⟨⟨_, (G, ws), rfl, ⟨rfl, q9⟩, by show va_P D vwCl ws t.heap; rw [ht]; exact hP, hD, hT⟩, hS.F ht⟩) hS.2.2 dX3_onesHeldInRow_12
set_option maxHeartbeats 4000000 in
set_option maxRecDepth 100000 in
theorem c_X3_noughtsHeldInRow_x (l : Launch) (D : va_G) (cy : Nat → ClassId) (A : Nat → Prop) (G : cG) (ws : va_W) (o : Nat) (y : Nat) {kq w h b_o s_o t_o : Nat} {x_o y_o : Int64} {ms_o : List Value} (hD : va_D A ws) (hT : cT cy G ws) (hG_o : G o = some (3, kq, 8 * w + h)) (hM_o : cIn ws o (.inr (kq, .ref b_o :: .ref s_o :: .int (nI t_o) :: .long x_o :: .long y_o :: ms_o))) (hb9 : 1 ≤ w ∧ w ≤ 6 ∧ 1 ≤ h ∧ h ≤ 6) (ht9 : t_o < 16) (hy1 : y < h) : Ci l D cy A yX3_noughtsHeldInRow wsX3_noughtsHeldInRow ({ frames := 1, cells := 0, slots := 0, locals := 23 }) 0 0 ws [.ref o, .int (nI y)] (fun r0 u => u = (G, ws) ∧ (isRow w (rB w y_o y) r0)) := by
  refine Met.ofW (cc := cX3_noughtsHeldInRow) (maxL := 2) (ret := (some .int)) (by decide) rfl ?_
  intro p e s m args below meth c s₁ B hml hv
  obtain ⟨rfl, hP, hK, hA, hV⟩ := hv
  have hx := B.exec
  have hb := B.bytes
  have hr := B.returns
  have hts := atoms_spec (ws := wsX3_noughtsHeldInRow) B.pre
  have hown : s.vm.findClass RX3 = some m.cls := findClass_of_methodNamed B.named
  have hlocks := B.notSynchronized
  have hS : va_S A s.heap s.heap [] := va_S.rf
  have hinJ : ∀ w ∈ wsX10 ++ wsX30 ++ wsX40 ++ wsX50, w ∈ wsX3_noughtsHeldInRow := by decide +kernel
  have hl := lv_entry ([.ref o, .int (nI y)]) (n := 2) (Nat.le_of_ble_eq_true rfl)
  rw [lg_entry_eq]
  generalize (lg_sl ([.ref o, .int (nI y)]) ++ List.replicate (2 - (lg_sl ([.ref o, .int (nI y)])).length) Slot.unset).toArray = ls at hl ⊢
  have hl : lv_has ls 2 [(0, .ref o), (1, .int (nI y))] := hl
  have k_0 : (0 : Int32).toInt = 0 := by decide
  obtain ⟨hG_b_o, hG_s_o, hJ_o⟩ := w3sh hD hT hG_o hb9 hM_o
  refine lv_aload_n hx hb dX3_noughtsHeldInRow_0 rfl (lv_at hl 0 rfl) ?_
  refine t_getJ (v := .ref b_o) hx hb hts hinJ hown hK hP hJ_o.kc hM_o 0 (by decide) (hts (.fieldLink RX3 28 "ShadowBench$Job" "board" "LShadowBench$Board;") (by decide +kernel)) (fun _ h9 => h9) rfl dX3_noughtsHeldInRow_1 ?_
  refine lv_aload_n hx hb dX3_noughtsHeldInRow_4 rfl (lv_at hl 0 rfl) ?_
  refine t_getJ (v := .long y_o) hx hb hts hinJ hown hK hP hJ_o.kc hM_o 4 (by decide) (hts (.fieldLink RX3 25 "ShadowBench$Job" "heldNoughts" "J") (by decide +kernel)) (fun _ h9 => h9) rfl dX3_noughtsHeldInRow_5 ?_
  refine lv_iload_n hx hb dX3_noughtsHeldInRow_8 rfl (lv_at hl 1 rfl) ?_
  obtain ⟨_, hM_b_o, hb_b_o, l_b_o, f_b_o, r_b_o, rfl, hG_l_b_o, hG_f_b_o, hG_r_b_o⟩ := hT _ _ hG_b_o
  refine t_calli (va_runV (g := F0 m 9 ls ([.int (nI y), .long y_o, .ref b_o])) (As := [.long y_o, .int (nI y)]) (rest := []) ⟨hx, hb, hml, hown, hts⟩ (c_X0_rowOf_x l D cy A G ws b_o y_o y hD hT hG_b_o hy1) (cwV 2 hts gX3_noughtsHeldInRow_X0_rowOf rfl rfl rfl (by decide +kernel) ⟨Nat.le_of_ble_eq_true rfl, Nat.le_of_ble_eq_true rfl⟩) (c_preV hM_b_o rfl hP hK hA hS hV) rfl rfl hl.1 rfl (lv_room (Nat.le_of_ble_eq_true rfl)) dX3_noughtsHeldInRow_9 ⟨Nat.le_of_ble_eq_true rfl, Nat.le_of_ble_eq_true rfl⟩) hS (fun r9 u H locs q9 hP9 hD9 hT9 hS => ?_)
  obtain ⟨rfl, q9⟩ := q9
  have hP : va_P D vwCl ws H := hP9
  exact W.iret (v := r9) hx hb hr (fun t ht hW => ⟨⟨_, (G, ws), rfl, ⟨rfl, q9⟩, by show va_P D vwCl ws t.heap; rw [ht]; exact hP, hD, hT⟩, hS.F ht⟩) hS.2.2 dX3_noughtsHeldInRow_12
set_option maxHeartbeats 4000000 in
set_option maxRecDepth 100000 in
theorem c_X8_isSpent_x (l : Launch) (D : va_G) (cy : Nat → ClassId) (A : Nat → Prop) (G : cG) (ws : va_W) (o : Nat) {x1 a1_o a2_o a3_o a4_o a5_o : Nat} {sp_o y_o tr_o : Int32} {fd_o : Int64} (hD : va_D A ws) (hT : cT cy G ws) (hG_o : G o = some (5, 0, 0)) (hM_o : cIn ws o (.inr (7, [.ref x1, .int y_o, .int tr_o, .int sp_o, .long fd_o, .ref a1_o, .ref a2_o, .ref a3_o, .ref a4_o, .ref a5_o])))  : Ci l D cy A yX8_isSpent wsX8_isSpent ({ frames := 0, cells := 0, slots := 0, locals := 0 }) 0 0 ws [.ref o] (fun r0 u => u = (G, ws) ∧ (r0 = sp_o)) := by
  refine Met.ofW (cc := cX8_isSpent) (maxL := 1) (ret := (some .boolean)) (by decide) rfl ?_
  intro p e s m args below meth c s₁ B hml hv
  obtain ⟨rfl, hP, hK, hA, hV⟩ := hv
  have hx := B.exec
  have hb := B.bytes
  have hr := B.returns
  have hts := atoms_spec (ws := wsX8_isSpent) B.pre
  have hown : s.vm.findClass RX8 = some m.cls := findClass_of_methodNamed B.named
  have hlocks := B.notSynchronized
  have hS : va_S A s.heap s.heap [] := va_S.rf
  have hl := lv_entry ([.ref o]) (n := 1) (Nat.le_of_ble_eq_true rfl)
  rw [lg_entry_eq]
  generalize (lg_sl ([.ref o]) ++ List.replicate (1 - (lg_sl ([.ref o])).length) Slot.unset).toArray = ls at hl ⊢
  have hl : lv_has ls 1 [(0, .ref o)] := hl
  have k_0 : (0 : Int32).toInt = 0 := by decide
  obtain ⟨hsp_o, hj_o, hG_a1_o, hG_a2_o, hG_a3_o, hG_a4_o, hG_a5_o⟩ := c5 (j := some x1) hD hT hG_o hM_o
  refine lv_aload_n hx hb dX8_isSpent_0 rfl (lv_at hl 0 rfl) ?_
  refine t_get (v := .int sp_o) (C := RX8) (T := TX8) (N := 10) hx hb hts (by decide +kernel) hown hK hP hM_o rfl 3 (by decide) (hts (.fieldLink RX8 20 "ShadowBench$Walk" "spent" "Z") (by decide +kernel)) (fun _ h9 => h9) rfl dX8_isSpent_1 ?_
  exact W.zret (v := sp_o) hx hb hr (isBo_z hsp_o) (fun t ht hW => ⟨⟨_, (G, ws), rfl, ⟨rfl, rfl⟩, by show va_P D vwCl ws t.heap; rw [ht]; exact hP, hD, hT⟩, hS.F ht⟩) hS.2.2 dX8_isSpent_4
set_option maxHeartbeats 4000000 in
set_option maxRecDepth 100000 in
theorem c_X8_found_x (l : Launch) (D : va_G) (cy : Nat → ClassId) (A : Nat → Prop) (G : cG) (ws : va_W) (o : Nat) {x1 a1_o a2_o a3_o a4_o a5_o : Nat} {sp_o y_o tr_o : Int32} {fd_o : Int64} (hD : va_D A ws) (hT : cT cy G ws) (hG_o : G o = some (5, 0, 0)) (hM_o : cIn ws o (.inr (7, [.ref x1, .int y_o, .int tr_o, .int sp_o, .long fd_o, .ref a1_o, .ref a2_o, .ref a3_o, .ref a4_o, .ref a5_o])))  : Cl l D cy A yX8_found wsX8_found ({ frames := 0, cells := 0, slots := 0, locals := 0 }) 0 0 ws [.ref o] (fun r0 u => u = (G, ws) ∧ (r0 = fd_o)) := by
  refine Met.ofW (cc := cX8_found) (maxL := 1) (ret := (some .long)) (by decide) rfl ?_
  intro p e s m args below meth c s₁ B hml hv
  obtain ⟨rfl, hP, hK, hA, hV⟩ := hv
  have hx := B.exec
  have hb := B.bytes
  have hr := B.returns
  have hts := atoms_spec (ws := wsX8_found) B.pre
  have hown : s.vm.findClass RX8 = some m.cls := findClass_of_methodNamed B.named
  have hlocks := B.notSynchronized
  have hS : va_S A s.heap s.heap [] := va_S.rf
  have hl := lv_entry ([.ref o]) (n := 1) (Nat.le_of_ble_eq_true rfl)
  rw [lg_entry_eq]
  generalize (lg_sl ([.ref o]) ++ List.replicate (1 - (lg_sl ([.ref o])).length) Slot.unset).toArray = ls at hl ⊢
  have hl : lv_has ls 1 [(0, .ref o)] := hl
  have k_0 : (0 : Int32).toInt = 0 := by decide
  obtain ⟨hsp_o, hj_o, hG_a1_o, hG_a2_o, hG_a3_o, hG_a4_o, hG_a5_o⟩ := c5 (j := some x1) hD hT hG_o hM_o
  refine lv_aload_n hx hb dX8_found_0 rfl (lv_at hl 0 rfl) ?_
  refine t_get (v := .long fd_o) (C := RX8) (T := TX8) (N := 10) hx hb hts (by decide +kernel) hown hK hP hM_o rfl 4 (by decide) (hts (.fieldLink RX8 24 "ShadowBench$Walk" "found" "J") (by decide +kernel)) (fun _ h9 => h9) rfl dX8_found_1 ?_
  exact W.lret (v := fd_o) hx hb hr (fun t ht hW => ⟨⟨_, (G, ws), rfl, ⟨rfl, rfl⟩, by show va_P D vwCl ws t.heap; rw [ht]; exact hP, hD, hT⟩, hS.F ht⟩) hS.2.2 dX8_found_4
set_option maxHeartbeats 4000000 in
set_option maxRecDepth 100000 in
theorem c_X8_hasRow_x (l : Launch) (D : va_G) (cy : Nat → ClassId) (A : Nat → Prop) (G : cG) (ws : va_W) (o : Nat) {x1 kq w h b1 s1 t1 : Nat} {o1 n1 : Int64} {ms1 : List Value} {fs f1 f2 f3 f4 : Nat → Int32} {f5 : Nat → Int64} {a1_o a2_o a3_o a4_o a5_o : Nat} {sp_o : Int32} {fd_o : Int64} {y_o tr_o : Int32} (hD : va_D A ws) (hT : cT cy G ws) (hG_o : G o = some (5, 0, 0)) (hM_o : cIn ws o (.inr (7, [.ref x1, .int y_o, .int tr_o, .int sp_o, .long fd_o, .ref a1_o, .ref a2_o, .ref a3_o, .ref a4_o, .ref a5_o]))) (hG_x1 : G x1 = some (3, kq, 8 * w + h)) (hM_x1 : cIn ws x1 (.inr (kq, .ref b1 :: .ref s1 :: .int (nI t1) :: .long o1 :: .long n1 :: ms1))) (hM_s1 : cIn ws s1 (.inl (cy 0, 44, .inl fs))) (hM_a1_o : cIn ws a1_o (.inl (cy 0, 6, .inl f1))) (hM_a2_o : cIn ws a2_o (.inl (cy 0, 6, .inl f2))) (hM_a3_o : cIn ws a3_o (.inl (cy 0, 6, .inl f3))) (hM_a4_o : cIn ws a4_o (.inl (cy 0, 6, .inl f4))) (hM_a5_o : cIn ws a5_o (.inl (cy 1, 6, .inr (.inl f5)))) (hb9 : 1 ≤ w ∧ w ≤ 6 ∧ 1 ≤ h ∧ h ≤ 6) (ht9 : t1 < 16) : Ci l D cy A yX8_hasRow wsX8_hasRow ({ frames := 0, cells := 0, slots := 0, locals := 0 }) 0 0 ws [.ref o] (fun r0 u => u = (G, ws) ∧ (Bo r0 (0 ≤ y_o.toInt ∧ y_o.toInt < (h : Int)))) := by
  refine Met.ofW (cc := cX8_hasRow) (maxL := 1) (ret := (some .boolean)) (by decide) rfl ?_
  intro p e s m args below meth c s₁ B hml hv
  obtain ⟨rfl, hP, hK, hA, hV⟩ := hv
  have hx := B.exec
  have hb := B.bytes
  have hr := B.returns
  have hts := atoms_spec (ws := wsX8_hasRow) B.pre
  have hown : s.vm.findClass RX8 = some m.cls := findClass_of_methodNamed B.named
  have hlocks := B.notSynchronized
  have hS : va_S A s.heap s.heap [] := va_S.rf
  have hinJ : ∀ w ∈ wsX10 ++ wsX30 ++ wsX40 ++ wsX50, w ∈ wsX8_hasRow := by decide +kernel
  have hl := lv_entry ([.ref o]) (n := 1) (Nat.le_of_ble_eq_true rfl)
  rw [lg_entry_eq]
  generalize (lg_sl ([.ref o]) ++ List.replicate (1 - (lg_sl ([.ref o])).length) Slot.unset).toArray = ls at hl ⊢
  have hl : lv_has ls 1 [(0, .ref o)] := hl
  have k_0 : (0 : Int32).toInt = 0 := by decide
  have k_1 : (1 : Int32).toInt = 1 := by decide
  have k_6 : (6 : Int32).toInt = 6 := by decide
  obtain ⟨hsp_o, hj_o, hG_a1_o, hG_a2_o, hG_a3_o, hG_a4_o, hG_a5_o⟩ := c5 (j := some x1) hD hT hG_o hM_o
  obtain ⟨hG_b1, hG_s1, hJ_x1⟩ := w3sh hD hT hG_x1 hb9 hM_x1
  refine lv_aload_n hx hb dX8_hasRow_0 rfl (lv_at hl 0 rfl) ?_
  refine t_get (v := .ref x1) (C := RX8) (T := TX8) (N := 10) hx hb hts (by decide +kernel) hown hK hP hM_o rfl 0 (by decide) (hts (.fieldLink RX8 7 "ShadowBench$Walk" "job" "LShadowBench$Job;") (by decide +kernel)) (fun _ h9 => h9) rfl dX8_hasRow_1 ?_
  refine lv_ifnull hx hb dX8_hasRow_4 ?_
  refine lv_aload_n hx hb dX8_hasRow_7 rfl (lv_at hl 0 rfl) ?_
  refine t_get (v := .int y_o) (C := RX8) (T := TX8) (N := 10) hx hb hts (by decide +kernel) hown hK hP hM_o rfl 1 (by decide) (hts (.fieldLink RX8 13 "ShadowBench$Walk" "y" "I") (by decide +kernel)) (fun _ h9 => h9) rfl dX8_hasRow_8 ?_
  refine lv_if_lt (tgt := 44) hx hb dX8_hasRow_11 (by decide) (fun c11 => ?_) (fun c11 => ?_)
  · skip
    have d11 := c11
    rw [fa_lt] at d11
    refine lv_iconst (v := 0) hx hb dX8_hasRow_44 (by decide) ?_
    exact W.zret (v := (0 : Int32)) hx hb hr (by decide) (fun t ht hW => ⟨⟨_, (G, ws), rfl, ⟨rfl, Or.inr ⟨rfl, by omega⟩⟩, by show va_P D vwCl ws t.heap; rw [ht]; exact hP, hD, hT⟩, hS.F ht⟩) hS.2.2 dX8_hasRow_45
  · skip
    have d11 := c11
    rw [fa_lt] at d11
    refine lv_aload_n hx hb dX8_hasRow_14 rfl (lv_at hl 0 rfl) ?_
    refine t_get (v := .int y_o) (C := RX8) (T := TX8) (N := 10) hx hb hts (by decide +kernel) hown hK hP hM_o rfl 1 (by decide) (hts (.fieldLink RX8 13 "ShadowBench$Walk" "y" "I") (by decide +kernel)) (fun _ h9 => h9) rfl dX8_hasRow_15 ?_
    refine lv_aload_n hx hb dX8_hasRow_18 rfl (lv_at hl 0 rfl) ?_
    refine t_get (v := .ref x1) (C := RX8) (T := TX8) (N := 10) hx hb hts (by decide +kernel) hown hK hP hM_o rfl 0 (by decide) (hts (.fieldLink RX8 7 "ShadowBench$Walk" "job" "LShadowBench$Job;") (by decide +kernel)) (fun _ h9 => h9) rfl dX8_hasRow_19 ?_
    refine t_getJ (v := .ref b1) hx hb hts hinJ hown hK hP hJ_x1.kc hM_x1 0 (by decide) (hts (.fieldLink RX8 64 "ShadowBench$Job" "board" "LShadowBench$Board;") (by decide +kernel)) (fun _ h9 => h9) rfl dX8_hasRow_22 ?_
    obtain ⟨_, hM_b1, hb_b1, l_b1, f_b1, r_b1, rfl, hG_l_b1, hG_f_b1, hG_r_b1⟩ := hT _ _ hG_b1
    refine t_get (v := .int (nI h)) (C := RX0) (T := TX0) (N := 8) hx hb hts (by decide +kernel) hown hK hP hM_b1 rfl 1 (by decide) (hts (.fieldLink RX8 70 "ShadowBench$Board" "high" "I") (by decide +kernel)) (fun _ h9 => h9) rfl dX8_hasRow_25 ?_
    have i_h_b1 : (nI h).toInt = _ := nI_toInt (by omega)
    refine lv_icmp_ge (tgt := 44) hx hb dX8_hasRow_28 (by decide) (fun c28 => ?_) (fun c28 => ?_)
    · skip
      have d28 := c28
      rw [fa_le] at d28
      refine lv_iconst (v := 0) hx hb dX8_hasRow_44 (by decide) ?_
      exact W.zret (v := (0 : Int32)) hx hb hr (by decide) (fun t ht hW => ⟨⟨_, (G, ws), rfl, ⟨rfl, Or.inr ⟨rfl, by omega⟩⟩, by show va_P D vwCl ws t.heap; rw [ht]; exact hP, hD, hT⟩, hS.F ht⟩) hS.2.2 dX8_hasRow_45
    · skip
      have d28 := c28
      rw [fa_le] at d28
      refine lv_aload_n hx hb dX8_hasRow_31 rfl (lv_at hl 0 rfl) ?_
      refine t_get (v := .int y_o) (C := RX8) (T := TX8) (N := 10) hx hb hts (by decide +kernel) hown hK hP hM_o rfl 1 (by decide) (hts (.fieldLink RX8 13 "ShadowBench$Walk" "y" "I") (by decide +kernel)) (fun _ h9 => h9) rfl dX8_hasRow_32 ?_
      refine lv_bipush (v := 6) hx hb dX8_hasRow_35 (by decide) ?_
      refine lv_icmp_ge (tgt := 44) hx hb dX8_hasRow_37 (by decide) (fun c37 => ?_) (fun c37 => ?_)
      · skip
        have d37 := c37
        rw [fa_le] at d37
        refine lv_iconst (v := 0) hx hb dX8_hasRow_44 (by decide) ?_
        exact W.zret (v := (0 : Int32)) hx hb hr (by decide) (fun t ht hW => ⟨⟨_, (G, ws), rfl, ⟨rfl, Or.inr ⟨rfl, by omega⟩⟩, by show va_P D vwCl ws t.heap; rw [ht]; exact hP, hD, hT⟩, hS.F ht⟩) hS.2.2 dX8_hasRow_45
      · skip
        have d37 := c37
        rw [fa_le] at d37
        refine lv_iconst (v := 1) hx hb dX8_hasRow_40 (by decide) ?_
        refine lv_goto (tgt := 45) hx hb dX8_hasRow_41 (by decide) ?_
        exact W.zret (v := (1 : Int32)) hx hb hr (by decide) (fun t ht hW => ⟨⟨_, (G, ws), rfl, ⟨rfl, Or.inl ⟨rfl, by omega⟩⟩, by show va_P D vwCl ws t.heap; rw [ht]; exact hP, hD, hT⟩, hS.F ht⟩) hS.2.2 dX8_hasRow_45
set_option maxHeartbeats 4000000 in
set_option maxRecDepth 100000 in
theorem c_X8_enterRow_x (l : Launch) (D : va_G) (cy : Nat → ClassId) (A : Nat → Prop) (G : cG) (ws : va_W) (o : Nat) (next : Nat) (above : Int64) {x1 kq w h b1 s1 t1 : Nat} {o1 n1 : Int64} {ms1 : List Value} {fs f1 f2 f3 f4 : Nat → Int32} {f5 : Nat → Int64} {a1_o a2_o a3_o a4_o a5_o : Nat} {sp_o : Int32} {fd_o : Int64} {y_o tr_o : Int32} (hD : va_D A ws) (hT : cT cy G ws) (hG_o : G o = some (5, 0, 0)) (hM_o : cIn ws o (.inr (7, [.ref x1, .int y_o, .int tr_o, .int sp_o, .long fd_o, .ref a1_o, .ref a2_o, .ref a3_o, .ref a4_o, .ref a5_o]))) (hG_x1 : G x1 = some (3, kq, 8 * w + h)) (hM_x1 : cIn ws x1 (.inr (kq, .ref b1 :: .ref s1 :: .int (nI t1) :: .long o1 :: .long n1 :: ms1))) (hM_s1 : cIn ws s1 (.inl (cy 0, 44, .inl fs))) (hM_a1_o : cIn ws a1_o (.inl (cy 0, 6, .inl f1))) (hM_a2_o : cIn ws a2_o (.inl (cy 0, 6, .inl f2))) (hM_a3_o : cIn ws a3_o (.inl (cy 0, 6, .inl f3))) (hM_a4_o : cIn ws a4_o (.inl (cy 0, 6, .inl f4))) (hM_a5_o : cIn ws a5_o (.inl (cy 1, 6, .inr (.inl f5)))) (hb9 : 1 ≤ w ∧ w ≤ 6 ∧ 1 ≤ h ∧ h ≤ 6) (ht9 : t1 < 16) (hn9 : next < h) : Cv l D cy A yX8_enterRow wsX8_enterRow ({ frames := 3, cells := 0, slots := 0, locals := 71 }) 0 0 ws [.ref o, .int (nI next), .long above] (fun u => ∃ w1, u = (G, w1) ∧ cF (fun b9 => b9 = o ∨ b9 = a1_o ∨ b9 = a2_o ∨ b9 = a3_o ∨ b9 = a4_o ∨ b9 = a5_o) ws w1 ∧ (∃ v3 v4, isRow w (rB w o1 next) v3 ∧ isRow w (fun x => rB w n1 next x || decide ((fs (11 + x)).toInt ≤ (shN w h above 1 x : Int))) v4 ∧ wkC cy w1 o x1 a1_o a2_o a3_o a4_o a5_o (nI next) tr_o sp_o fd_o (upd f1 next 0) ((upd f2 next (fs next))) (upd f3 next v3) (upd f4 next v4) (vp_updL f5 next above))) := by
  refine Met.ofW (cc := cX8_enterRow) (maxL := 4) (ret := none) (by decide) rfl ?_
  intro p e s m args below meth c s₁ B hml hv
  obtain ⟨rfl, hP, hK, hA, hV⟩ := hv
  have hx := B.exec
  have hb := B.bytes
  have hr := B.returns
  have hts := atoms_spec (ws := wsX8_enterRow) B.pre
  have hown : s.vm.findClass RX8 = some m.cls := findClass_of_methodNamed B.named
  have hlocks := B.notSynchronized
  have hS : va_S A s.heap s.heap [] := va_S.rf
  have hF : cF (fun b9 => b9 = o ∨ b9 = a1_o ∨ b9 = a2_o ∨ b9 = a3_o ∨ b9 = a4_o ∨ b9 = a5_o) ws ws := cF.rf
  have hl := lv_entry ([.ref o, .int (nI next), .long above]) (n := 4) (Nat.le_of_ble_eq_true rfl)
  rw [lg_entry_eq]
  generalize (lg_sl ([.ref o, .int (nI next), .long above]) ++ List.replicate (4 - (lg_sl ([.ref o, .int (nI next), .long above])).length) Slot.unset).toArray = ls at hl ⊢
  have hl : lv_has ls 4 [(0, .ref o), (1, .int (nI next)), (2, .long above)] := hl
  have k_0 : (0 : Int32).toInt = 0 := by decide
  obtain ⟨hsp_o, hj_o, hG_a1_o, hG_a2_o, hG_a3_o, hG_a4_o, hG_a5_o⟩ := c5 (j := some x1) hD hT hG_o hM_o
  obtain ⟨hG_b1, hG_s1, hJ_x1⟩ := w3sh hD hT hG_x1 hb9 hM_x1
  refine lv_aload_n hx hb dX8_enterRow_0 rfl (lv_at hl 0 rfl) ?_
  have in9 : (nI next).toInt = (next : Int) := nI_toInt (by omega)
  have cn9 : (nI next).toNatClampNeg = next := nI_clamp (by omega)
  refine lv_iload_n hx hb dX8_enterRow_1 rfl (lv_at hl 1 rfl) ?_
  refine t_put (v := .int (nI next)) (C := RX8) (T := TX8) (N := 10) (ty0 := tyX8) hx hb hts (by decide +kernel) tyX8_ok nmX8 hown hK hP hD hS hM_o rfl 1 (by decide) (hts (.fieldLink RX8 13 "ShadowBench$Walk" "y" "I") (by decide +kernel)) (fun _ h9 => h9) rfl rfl rfl (Nat.le_of_ble_eq_true rfl) dX8_enterRow_2 (fun H locs w2 hU2 hP hD hS => ?_)
  have hM_x1 := hU2.2 _ _ (cne hG_x1 hG_o (show (3 : Nat) ≠ 5 by decide)) hM_x1
  have hM_s1 := hU2.2 _ _ (cne hG_s1 hG_o (show (14 : Nat) ≠ 5 by decide)) hM_s1
  have hM_a1_o := hU2.2 _ _ (cne hG_a1_o hG_o (show (20 : Nat) ≠ 5 by decide)) hM_a1_o
  have hM_a2_o := hU2.2 _ _ (cne hG_a2_o hG_o (show (21 : Nat) ≠ 5 by decide)) hM_a2_o
  have hM_a3_o := hU2.2 _ _ (cne hG_a3_o hG_o (show (22 : Nat) ≠ 5 by decide)) hM_a3_o
  have hM_a4_o := hU2.2 _ _ (cne hG_a4_o hG_o (show (23 : Nat) ≠ 5 by decide)) hM_a4_o
  have hM_a5_o := hU2.2 _ _ (cne hG_a5_o hG_o (show (1 : Nat) ≠ 5 by decide)) hM_a5_o
  have hT := hT.up hU2 hG_o ⟨(some x1), _, _, _, _, _, _, _, _, _, rfl, hsp_o, (fun _ z => Option.some.inj z ▸ ⟨_, _, hG_x1⟩), hG_a1_o, hG_a2_o, hG_a3_o, hG_a4_o, hG_a5_o⟩
  have hM_o : cIn w2 o (.inr (7, [.ref x1, .int (nI next), .int tr_o, .int sp_o, .long fd_o, .ref a1_o, .ref a2_o, .ref a3_o, .ref a4_o, .ref a5_o])) := hU2.1
  have hF := hF.tr (cF.up hU2 (Or.inl rfl))
  refine lv_aload_n hx hb dX8_enterRow_5 rfl (lv_at hl 0 rfl) ?_
  refine t_calli (va_runV (g := F0 m 6 ls ([.ref o])) (As := []) (rest := []) ⟨hx, hb, hml, hown, hts⟩ (c_X8_hasRow_x l D cy A G w2 o hD hT hG_o hM_o hG_x1 hM_x1 hM_s1 hM_a1_o hM_a2_o hM_a3_o hM_a4_o hM_a5_o hb9 ht9) (cwV 0 hts gX8_enterRow_X8_hasRow rfl rfl rfl (by decide +kernel) ⟨Nat.le_of_ble_eq_true rfl, Nat.le_of_ble_eq_true rfl⟩) (c_preV hM_o rfl hP hK hA hS hV) rfl rfl hl.1 rfl (lv_room (Nat.le_of_ble_eq_true rfl)) dX8_enterRow_6 ⟨Nat.le_of_ble_eq_true rfl, Nat.le_of_ble_eq_true rfl⟩) hS (fun r6 u H locs q6 hP9 hD9 hT9 hS => ?_)
  obtain ⟨rfl, q6⟩ := q6
  have hP : va_P D vwCl w2 H := hP9
  refine lv_if_eq (tgt := 102) hx hb dX8_enterRow_9 (by decide) (fun c9 => ?_) (fun c9 => ?_)
  · skip
    have b9 := bo_f q6 c9
    exact W.vret hx hb hr (fun t ht hW => ⟨⟨(G, w2), rfl, ⟨w2, rfl, hF, (by first | exact absurd ⟨by omega, by omega⟩ b9 | exact ⟨_, _, q59, isRow_or q79 q87 e90, hM_o, (by rw [cn9] at hM_a1_o; exact hM_a1_o), (by rw [cn9, q39] at hM_a2_o; exact hM_a2_o), (by rw [cn9] at hM_a3_o; exact hM_a3_o), (by rw [cn9] at hM_a4_o; exact hM_a4_o), (by rw [cn9] at hM_a5_o; exact hM_a5_o)⟩)⟩, by show va_P D vwCl w2 t.heap; rw [ht]; exact hP, hD, hT⟩, hS.F ht⟩) hS.2.2 dX8_enterRow_102
  · skip
    have b9 := bo_t q6 c9
    refine lv_aload_n hx hb dX8_enterRow_12 rfl (lv_at hl 0 rfl) ?_
    refine t_get (v := .ref a1_o) (C := RX8) (T := TX8) (N := 10) hx hb hts (by decide +kernel) hown hK hP hM_o rfl 5 (by decide) (hts (.fieldLink RX8 30 "ShadowBench$Walk" "nextRow" "[I") (by decide +kernel)) (fun _ h9 => h9) rfl dX8_enterRow_13 ?_
    refine lv_aload_n hx hb dX8_enterRow_16 rfl (lv_at hl 0 rfl) ?_
    refine t_get (v := .int (nI next)) (C := RX8) (T := TX8) (N := 10) hx hb hts (by decide +kernel) hown hK hP hM_o rfl 1 (by decide) (hts (.fieldLink RX8 13 "ShadowBench$Walk" "y" "I") (by decide +kernel)) (fun _ h9 => h9) rfl dX8_enterRow_17 ?_
    refine lv_iconst (v := 0) hx hb dX8_enterRow_20 (by decide) ?_
    refine t_iastK hx hb hK hP hD hS hT (Or.inr (Or.inr (Or.inl rfl))) hG_a1_o hM_a1_o (vp_in_iff.mpr ⟨by omega, by omega⟩) dX8_enterRow_21 (fun H locs w21 hU21 hP hD hT hS => ?_)
    have hM_o := hU21.2 _ _ (cne hG_o hG_a1_o (show (5 : Nat) ≠ 20 by decide)) hM_o
    have hM_x1 := hU21.2 _ _ (cne hG_x1 hG_a1_o (show (3 : Nat) ≠ 20 by decide)) hM_x1
    have hM_s1 := hU21.2 _ _ (cne hG_s1 hG_a1_o (show (14 : Nat) ≠ 20 by decide)) hM_s1
    have hM_a2_o := hU21.2 _ _ (cne hG_a2_o hG_a1_o (show (21 : Nat) ≠ 20 by decide)) hM_a2_o
    have hM_a3_o := hU21.2 _ _ (cne hG_a3_o hG_a1_o (show (22 : Nat) ≠ 20 by decide)) hM_a3_o
    have hM_a4_o := hU21.2 _ _ (cne hG_a4_o hG_a1_o (show (23 : Nat) ≠ 20 by decide)) hM_a4_o
    have hM_a5_o := hU21.2 _ _ (cne hG_a5_o hG_a1_o (show (1 : Nat) ≠ 20 by decide)) hM_a5_o
    have hM_a1_o := hU21.1
    have hF := hF.tr (cF.up hU21 (Or.inr (Or.inl rfl)))
    refine lv_aload_n hx hb dX8_enterRow_22 rfl (lv_at hl 0 rfl) ?_
    refine t_get (v := .ref a2_o) (C := RX8) (T := TX8) (N := 10) hx hb hts (by decide +kernel) hown hK hP hM_o rfl 6 (by decide) (hts (.fieldLink RX8 34 "ShadowBench$Walk" "rowSum" "[I") (by decide +kernel)) (fun _ h9 => h9) rfl dX8_enterRow_23 ?_
    refine lv_aload_n hx hb dX8_enterRow_26 rfl (lv_at hl 0 rfl) ?_
    refine t_get (v := .int (nI next)) (C := RX8) (T := TX8) (N := 10) hx hb hts (by decide +kernel) hown hK hP hM_o rfl 1 (by decide) (hts (.fieldLink RX8 13 "ShadowBench$Walk" "y" "I") (by decide +kernel)) (fun _ h9 => h9) rfl dX8_enterRow_27 ?_
    refine lv_aload_n hx hb dX8_enterRow_30 rfl (lv_at hl 0 rfl) ?_
    refine t_get (v := .ref x1) (C := RX8) (T := TX8) (N := 10) hx hb hts (by decide +kernel) hown hK hP hM_o rfl 0 (by decide) (hts (.fieldLink RX8 7 "ShadowBench$Walk" "job" "LShadowBench$Job;") (by decide +kernel)) (fun _ h9 => h9) rfl dX8_enterRow_31 ?_
    refine lv_iconst (v := 0) hx hb dX8_enterRow_34 (by decide) ?_
    refine lv_aload_n hx hb dX8_enterRow_35 rfl (lv_at hl 0 rfl) ?_
    refine t_get (v := .int (nI next)) (C := RX8) (T := TX8) (N := 10) hx hb hts (by decide +kernel) hown hK hP hM_o rfl 1 (by decide) (hts (.fieldLink RX8 13 "ShadowBench$Walk" "y" "I") (by decide +kernel)) (fun _ h9 => h9) rfl dX8_enterRow_36 ?_
    refine t_calli (t_runJ (g := F0 m 39 ls ([.int (nI next), .int (0 : Int32), .ref x1, .int (nI next), .ref a2_o])) (As := [.int (0 : Int32), .int (nI next)]) (rest := [.int (nI next), .ref a2_o]) ⟨hx, hb, hml, hown, hts⟩ (c_X3_sumOf_x l D cy A G w21 x1 (0 : Int32) (nI next) hD hT hG_x1 hM_x1 hM_s1 hb9 ht9 (by decide) (by omega)) (va_cwU 2 hts gX8_enterRow_X3_sumOf_u73X1 rfl rfl rfl rfl (by decide +kernel) ⟨Nat.le_of_ble_eq_true rfl, Nat.le_of_ble_eq_true rfl⟩) (cwV 2 hts gX8_enterRow_X3_sumOf rfl rfl rfl (by decide +kernel) ⟨Nat.le_of_ble_eq_true rfl, Nat.le_of_ble_eq_true rfl⟩) (va_cwU 2 hts gX8_enterRow_X3_sumOf_u73X4 rfl rfl rfl rfl (by decide +kernel) ⟨Nat.le_of_ble_eq_true rfl, Nat.le_of_ble_eq_true rfl⟩) (va_cwU 2 hts gX8_enterRow_X3_sumOf_u73X5 rfl rfl rfl rfl (by decide +kernel) ⟨Nat.le_of_ble_eq_true rfl, Nat.le_of_ble_eq_true rfl⟩) hJ_x1.kc hM_x1 hP hK c_blind (c_preS hP hK hA hS hV).2 rfl rfl hl.1 rfl (lv_room (Nat.le_of_ble_eq_true rfl)) dX8_enterRow_39 ⟨Nat.le_of_ble_eq_true rfl, Nat.le_of_ble_eq_true rfl⟩) hS (fun r39 u H locs q39 hP9 hD9 hT9 hS => ?_)
    obtain ⟨rfl, q39⟩ := q39
    have hP : va_P D vwCl w21 H := hP9
    rw [cn9, show (0 : Int32).toNatClampNeg = 0 from rfl, Nat.zero_mul, Nat.zero_add] at q39
    refine t_iastK hx hb hK hP hD hS hT (Or.inr (Or.inr (Or.inr (Or.inl rfl)))) hG_a2_o hM_a2_o (vp_in_iff.mpr ⟨by omega, by omega⟩) dX8_enterRow_42 (fun H locs w42 hU42 hP hD hT hS => ?_)
    have hM_o := hU42.2 _ _ (cne hG_o hG_a2_o (show (5 : Nat) ≠ 21 by decide)) hM_o
    have hM_x1 := hU42.2 _ _ (cne hG_x1 hG_a2_o (show (3 : Nat) ≠ 21 by decide)) hM_x1
    have hM_s1 := hU42.2 _ _ (cne hG_s1 hG_a2_o (show (14 : Nat) ≠ 21 by decide)) hM_s1
    have hM_a1_o := hU42.2 _ _ (cne hG_a1_o hG_a2_o (show (20 : Nat) ≠ 21 by decide)) hM_a1_o
    have hM_a3_o := hU42.2 _ _ (cne hG_a3_o hG_a2_o (show (22 : Nat) ≠ 21 by decide)) hM_a3_o
    have hM_a4_o := hU42.2 _ _ (cne hG_a4_o hG_a2_o (show (23 : Nat) ≠ 21 by decide)) hM_a4_o
    have hM_a5_o := hU42.2 _ _ (cne hG_a5_o hG_a2_o (show (1 : Nat) ≠ 21 by decide)) hM_a5_o
    have hM_a2_o := hU42.1
    have hF := hF.tr (cF.up hU42 (Or.inr (Or.inr (Or.inl rfl))))
    refine lv_aload_n hx hb dX8_enterRow_43 rfl (lv_at hl 0 rfl) ?_
    refine t_get (v := .ref a3_o) (C := RX8) (T := TX8) (N := 10) hx hb hts (by decide +kernel) hown hK hP hM_o rfl 7 (by decide) (hts (.fieldLink RX8 37 "ShadowBench$Walk" "needed" "[I") (by decide +kernel)) (fun _ h9 => h9) rfl dX8_enterRow_44 ?_
    refine lv_aload_n hx hb dX8_enterRow_47 rfl (lv_at hl 0 rfl) ?_
    refine t_get (v := .int (nI next)) (C := RX8) (T := TX8) (N := 10) hx hb hts (by decide +kernel) hown hK hP hM_o rfl 1 (by decide) (hts (.fieldLink RX8 13 "ShadowBench$Walk" "y" "I") (by decide +kernel)) (fun _ h9 => h9) rfl dX8_enterRow_48 ?_
    refine lv_aload_n hx hb dX8_enterRow_51 rfl (lv_at hl 0 rfl) ?_
    refine t_get (v := .ref x1) (C := RX8) (T := TX8) (N := 10) hx hb hts (by decide +kernel) hown hK hP hM_o rfl 0 (by decide) (hts (.fieldLink RX8 7 "ShadowBench$Walk" "job" "LShadowBench$Job;") (by decide +kernel)) (fun _ h9 => h9) rfl dX8_enterRow_52 ?_
    refine lv_aload_n hx hb dX8_enterRow_55 rfl (lv_at hl 0 rfl) ?_
    refine t_get (v := .int (nI next)) (C := RX8) (T := TX8) (N := 10) hx hb hts (by decide +kernel) hown hK hP hM_o rfl 1 (by decide) (hts (.fieldLink RX8 13 "ShadowBench$Walk" "y" "I") (by decide +kernel)) (fun _ h9 => h9) rfl dX8_enterRow_56 ?_
    refine t_calli (t_runJ (g := F0 m 59 ls ([.int (nI next), .ref x1, .int (nI next), .ref a3_o])) (As := [.int (nI next)]) (rest := [.int (nI next), .ref a3_o]) ⟨hx, hb, hml, hown, hts⟩ (c_X3_onesHeldInRow_x l D cy A G w42 x1 next hD hT hG_x1 hM_x1 hb9 ht9 hn9) (va_cwU 1 hts gX8_enterRow_X3_onesHeldInRow_u77X1 rfl rfl rfl rfl (by decide +kernel) ⟨Nat.le_of_ble_eq_true rfl, Nat.le_of_ble_eq_true rfl⟩) (cwV 1 hts gX8_enterRow_X3_onesHeldInRow rfl rfl rfl (by decide +kernel) ⟨Nat.le_of_ble_eq_true rfl, Nat.le_of_ble_eq_true rfl⟩) (va_cwU 1 hts gX8_enterRow_X3_onesHeldInRow_u77X4 rfl rfl rfl rfl (by decide +kernel) ⟨Nat.le_of_ble_eq_true rfl, Nat.le_of_ble_eq_true rfl⟩) (va_cwU 1 hts gX8_enterRow_X3_onesHeldInRow_u77X5 rfl rfl rfl rfl (by decide +kernel) ⟨Nat.le_of_ble_eq_true rfl, Nat.le_of_ble_eq_true rfl⟩) hJ_x1.kc hM_x1 hP hK c_blind (c_preS hP hK hA hS hV).2 rfl rfl hl.1 rfl (lv_room (Nat.le_of_ble_eq_true rfl)) dX8_enterRow_59 ⟨Nat.le_of_ble_eq_true rfl, Nat.le_of_ble_eq_true rfl⟩) hS (fun r59 u H locs q59 hP9 hD9 hT9 hS => ?_)
    obtain ⟨rfl, q59⟩ := q59
    have hP : va_P D vwCl w42 H := hP9
    refine t_iastK hx hb hK hP hD hS hT (Or.inr (Or.inr (Or.inr (Or.inr (Or.inl rfl))))) hG_a3_o hM_a3_o (vp_in_iff.mpr ⟨by omega, by omega⟩) dX8_enterRow_62 (fun H locs w62 hU62 hP hD hT hS => ?_)
    have hM_o := hU62.2 _ _ (cne hG_o hG_a3_o (show (5 : Nat) ≠ 22 by decide)) hM_o
    have hM_x1 := hU62.2 _ _ (cne hG_x1 hG_a3_o (show (3 : Nat) ≠ 22 by decide)) hM_x1
    have hM_s1 := hU62.2 _ _ (cne hG_s1 hG_a3_o (show (14 : Nat) ≠ 22 by decide)) hM_s1
    have hM_a1_o := hU62.2 _ _ (cne hG_a1_o hG_a3_o (show (20 : Nat) ≠ 22 by decide)) hM_a1_o
    have hM_a2_o := hU62.2 _ _ (cne hG_a2_o hG_a3_o (show (21 : Nat) ≠ 22 by decide)) hM_a2_o
    have hM_a4_o := hU62.2 _ _ (cne hG_a4_o hG_a3_o (show (23 : Nat) ≠ 22 by decide)) hM_a4_o
    have hM_a5_o := hU62.2 _ _ (cne hG_a5_o hG_a3_o (show (1 : Nat) ≠ 22 by decide)) hM_a5_o
    have hM_a3_o := hU62.1
    have hF := hF.tr (cF.up hU62 (Or.inr (Or.inr (Or.inr (Or.inl rfl)))))
    refine lv_aload_n hx hb dX8_enterRow_63 rfl (lv_at hl 0 rfl) ?_
    refine t_get (v := .ref a4_o) (C := RX8) (T := TX8) (N := 10) hx hb hts (by decide +kernel) hown hK hP hM_o rfl 8 (by decide) (hts (.fieldLink RX8 40 "ShadowBench$Walk" "barred" "[I") (by decide +kernel)) (fun _ h9 => h9) rfl dX8_enterRow_64 ?_
    refine lv_aload_n hx hb dX8_enterRow_67 rfl (lv_at hl 0 rfl) ?_
    refine t_get (v := .int (nI next)) (C := RX8) (T := TX8) (N := 10) hx hb hts (by decide +kernel) hown hK hP hM_o rfl 1 (by decide) (hts (.fieldLink RX8 13 "ShadowBench$Walk" "y" "I") (by decide +kernel)) (fun _ h9 => h9) rfl dX8_enterRow_68 ?_
    refine lv_aload_n hx hb dX8_enterRow_71 rfl (lv_at hl 0 rfl) ?_
    refine t_get (v := .ref x1) (C := RX8) (T := TX8) (N := 10) hx hb hts (by decide +kernel) hown hK hP hM_o rfl 0 (by decide) (hts (.fieldLink RX8 7 "ShadowBench$Walk" "job" "LShadowBench$Job;") (by decide +kernel)) (fun _ h9 => h9) rfl dX8_enterRow_72 ?_
    refine lv_aload_n hx hb dX8_enterRow_75 rfl (lv_at hl 0 rfl) ?_
    refine t_get (v := .int (nI next)) (C := RX8) (T := TX8) (N := 10) hx hb hts (by decide +kernel) hown hK hP hM_o rfl 1 (by decide) (hts (.fieldLink RX8 13 "ShadowBench$Walk" "y" "I") (by decide +kernel)) (fun _ h9 => h9) rfl dX8_enterRow_76 ?_
    refine t_calli (t_runJ (g := F0 m 79 ls ([.int (nI next), .ref x1, .int (nI next), .ref a4_o])) (As := [.int (nI next)]) (rest := [.int (nI next), .ref a4_o]) ⟨hx, hb, hml, hown, hts⟩ (c_X3_noughtsHeldInRow_x l D cy A G w62 x1 next hD hT hG_x1 hM_x1 hb9 ht9 hn9) (va_cwU 1 hts gX8_enterRow_X3_noughtsHeldInRow_u81X1 rfl rfl rfl rfl (by decide +kernel) ⟨Nat.le_of_ble_eq_true rfl, Nat.le_of_ble_eq_true rfl⟩) (cwV 1 hts gX8_enterRow_X3_noughtsHeldInRow rfl rfl rfl (by decide +kernel) ⟨Nat.le_of_ble_eq_true rfl, Nat.le_of_ble_eq_true rfl⟩) (va_cwU 1 hts gX8_enterRow_X3_noughtsHeldInRow_u81X4 rfl rfl rfl rfl (by decide +kernel) ⟨Nat.le_of_ble_eq_true rfl, Nat.le_of_ble_eq_true rfl⟩) (va_cwU 1 hts gX8_enterRow_X3_noughtsHeldInRow_u81X5 rfl rfl rfl rfl (by decide +kernel) ⟨Nat.le_of_ble_eq_true rfl, Nat.le_of_ble_eq_true rfl⟩) hJ_x1.kc hM_x1 hP hK c_blind (c_preS hP hK hA hS hV).2 rfl rfl hl.1 rfl (lv_room (Nat.le_of_ble_eq_true rfl)) dX8_enterRow_79 ⟨Nat.le_of_ble_eq_true rfl, Nat.le_of_ble_eq_true rfl⟩) hS (fun r79 u H locs q79 hP9 hD9 hT9 hS => ?_)
    obtain ⟨rfl, q79⟩ := q79
    have hP : va_P D vwCl w62 H := hP9
    refine lv_aload_n hx hb dX8_enterRow_82 rfl (lv_at hl 0 rfl) ?_
    refine t_get (v := .ref x1) (C := RX8) (T := TX8) (N := 10) hx hb hts (by decide +kernel) hown hK hP hM_o rfl 0 (by decide) (hts (.fieldLink RX8 7 "ShadowBench$Walk" "job" "LShadowBench$Job;") (by decide +kernel)) (fun _ h9 => h9) rfl dX8_enterRow_83 ?_
    refine lv_lload_n hx hb dX8_enterRow_86 rfl (lv_at hl 2 rfl) ?_
    refine t_calli (t_runJ (g := F0 m 87 ls ([.long above, .ref x1, .int r79, .int (nI next), .ref a4_o])) (As := [.long above]) (rest := [.int r79, .int (nI next), .ref a4_o]) ⟨hx, hb, hml, hown, hts⟩ (c_X3_fullColumns_x l D cy A G w62 x1 above hD hT hG_x1 hM_x1 hM_s1 hb9 ht9) (va_cwU 1 hts gX8_enterRow_X3_fullColumns_u84X1 rfl rfl rfl rfl (by decide +kernel) ⟨Nat.le_of_ble_eq_true rfl, Nat.le_of_ble_eq_true rfl⟩) (cwV 1 hts gX8_enterRow_X3_fullColumns rfl rfl rfl (by decide +kernel) ⟨Nat.le_of_ble_eq_true rfl, Nat.le_of_ble_eq_true rfl⟩) (va_cwU 1 hts gX8_enterRow_X3_fullColumns_u84X4 rfl rfl rfl rfl (by decide +kernel) ⟨Nat.le_of_ble_eq_true rfl, Nat.le_of_ble_eq_true rfl⟩) (va_cwU 1 hts gX8_enterRow_X3_fullColumns_u84X5 rfl rfl rfl rfl (by decide +kernel) ⟨Nat.le_of_ble_eq_true rfl, Nat.le_of_ble_eq_true rfl⟩) hJ_x1.kc hM_x1 hP hK c_blind (c_preS hP hK hA hS hV).2 rfl rfl hl.1 rfl (lv_room (Nat.le_of_ble_eq_true rfl)) dX8_enterRow_87 ⟨Nat.le_of_ble_eq_true rfl, Nat.le_of_ble_eq_true rfl⟩) hS (fun r87 u H locs q87 hP9 hD9 hT9 hS => ?_)
    obtain ⟨rfl, q87⟩ := q87
    have hP : va_P D vwCl w62 H := hP9
    refine lv_ior hx hb dX8_enterRow_90 ?_
    refine lv_topi (fun v90 e90 => ?_)
    refine t_iastK hx hb hK hP hD hS hT (Or.inr (Or.inr (Or.inr (Or.inr (Or.inr rfl))))) hG_a4_o hM_a4_o (vp_in_iff.mpr ⟨by omega, by omega⟩) dX8_enterRow_91 (fun H locs w91 hU91 hP hD hT hS => ?_)
    have hM_o := hU91.2 _ _ (cne hG_o hG_a4_o (show (5 : Nat) ≠ 23 by decide)) hM_o
    have hM_x1 := hU91.2 _ _ (cne hG_x1 hG_a4_o (show (3 : Nat) ≠ 23 by decide)) hM_x1
    have hM_s1 := hU91.2 _ _ (cne hG_s1 hG_a4_o (show (14 : Nat) ≠ 23 by decide)) hM_s1
    have hM_a1_o := hU91.2 _ _ (cne hG_a1_o hG_a4_o (show (20 : Nat) ≠ 23 by decide)) hM_a1_o
    have hM_a2_o := hU91.2 _ _ (cne hG_a2_o hG_a4_o (show (21 : Nat) ≠ 23 by decide)) hM_a2_o
    have hM_a3_o := hU91.2 _ _ (cne hG_a3_o hG_a4_o (show (22 : Nat) ≠ 23 by decide)) hM_a3_o
    have hM_a5_o := hU91.2 _ _ (cne hG_a5_o hG_a4_o (show (1 : Nat) ≠ 23 by decide)) hM_a5_o
    have hM_a4_o := hU91.1
    have hF := hF.tr (cF.up hU91 (Or.inr (Or.inr (Or.inr (Or.inr (Or.inl rfl))))))
    refine lv_aload_n hx hb dX8_enterRow_92 rfl (lv_at hl 0 rfl) ?_
    refine t_get (v := .ref a5_o) (C := RX8) (T := TX8) (N := 10) hx hb hts (by decide +kernel) hown hK hP hM_o rfl 9 (by decide) (hts (.fieldLink RX8 43 "ShadowBench$Walk" "drawn" "[J") (by decide +kernel)) (fun _ h9 => h9) rfl dX8_enterRow_93 ?_
    refine lv_aload_n hx hb dX8_enterRow_96 rfl (lv_at hl 0 rfl) ?_
    refine t_get (v := .int (nI next)) (C := RX8) (T := TX8) (N := 10) hx hb hts (by decide +kernel) hown hK hP hM_o rfl 1 (by decide) (hts (.fieldLink RX8 13 "ShadowBench$Walk" "y" "I") (by decide +kernel)) (fun _ h9 => h9) rfl dX8_enterRow_97 ?_
    refine lv_lload_n hx hb dX8_enterRow_100 rfl (lv_at hl 2 rfl) ?_
    refine t_lastK hx hb hK hP hD hS hT (Or.inl rfl) hG_a5_o hM_a5_o (vp_in_iff.mpr ⟨by omega, by omega⟩) dX8_enterRow_101 (fun H locs w101 hU101 hP hD hT hS => ?_)
    have hM_o := hU101.2 _ _ (cne hG_o hG_a5_o (show (5 : Nat) ≠ 1 by decide)) hM_o
    have hM_x1 := hU101.2 _ _ (cne hG_x1 hG_a5_o (show (3 : Nat) ≠ 1 by decide)) hM_x1
    have hM_s1 := hU101.2 _ _ (cne hG_s1 hG_a5_o (show (14 : Nat) ≠ 1 by decide)) hM_s1
    have hM_a1_o := hU101.2 _ _ (cne hG_a1_o hG_a5_o (show (20 : Nat) ≠ 1 by decide)) hM_a1_o
    have hM_a2_o := hU101.2 _ _ (cne hG_a2_o hG_a5_o (show (21 : Nat) ≠ 1 by decide)) hM_a2_o
    have hM_a3_o := hU101.2 _ _ (cne hG_a3_o hG_a5_o (show (22 : Nat) ≠ 1 by decide)) hM_a3_o
    have hM_a4_o := hU101.2 _ _ (cne hG_a4_o hG_a5_o (show (23 : Nat) ≠ 1 by decide)) hM_a4_o
    have hM_a5_o := hU101.1
    have hF := hF.tr (cF.up hU101 (Or.inr (Or.inr (Or.inr (Or.inr (Or.inr (rfl)))))))
    exact W.vret hx hb hr (fun t ht hW => ⟨⟨(G, w101), rfl, ⟨w101, rfl, hF, (by first | exact absurd ⟨by omega, by omega⟩ b9 | exact ⟨_, _, q59, isRow_or q79 q87 e90, hM_o, (by rw [cn9] at hM_a1_o; exact hM_a1_o), (by rw [cn9, q39] at hM_a2_o; exact hM_a2_o), (by rw [cn9] at hM_a3_o; exact hM_a3_o), (by rw [cn9] at hM_a4_o; exact hM_a4_o), (by rw [cn9] at hM_a5_o; exact hM_a5_o)⟩)⟩, by show va_P D vwCl w101 t.heap; rw [ht]; exact hP, hD, hT⟩, hS.F ht⟩) hS.2.2 dX8_enterRow_102
set_option maxHeartbeats 4000000 in
set_option maxRecDepth 100000 in
theorem c_X8_nextGoingOn_x (l : Launch) (D : va_G) (cy : Nat → ClassId) (A : Nat → Prop) (G : cG) (ws : va_W) (o : Nat) {x1 kq w h b1 s1 t1 : Nat} {o1 n1 : Int64} {ms1 : List Value} {fs f1 f2 f3 f4 : Nat → Int32} {f5 : Nat → Int64} {a1_o a2_o a3_o a4_o a5_o : Nat} {sp_o : Int32} {fd_o : Int64} {d_o m0 t0 : Nat} (hD : va_D A ws) (hT : cT cy G ws) (hG_o : G o = some (5, 0, 0)) (hM_o : cIn ws o (.inr (7, [.ref x1, .int (nI d_o), .int (nI t0), .int sp_o, .long fd_o, .ref a1_o, .ref a2_o, .ref a3_o, .ref a4_o, .ref a5_o]))) (hG_x1 : G x1 = some (3, kq, 8 * w + h)) (hM_x1 : cIn ws x1 (.inr (kq, .ref b1 :: .ref s1 :: .int (nI t1) :: .long o1 :: .long n1 :: ms1))) (hM_s1 : cIn ws s1 (.inl (cy 0, 44, .inl fs))) (hM_a1_o : cIn ws a1_o (.inl (cy 0, 6, .inl f1))) (hM_a2_o : cIn ws a2_o (.inl (cy 0, 6, .inl f2))) (hM_a3_o : cIn ws a3_o (.inl (cy 0, 6, .inl f3))) (hM_a4_o : cIn ws a4_o (.inl (cy 0, 6, .inl f4))) (hM_a5_o : cIn ws a5_o (.inl (cy 1, 6, .inr (.inl f5)))) (hb9 : 1 ≤ w ∧ w ≤ 6 ∧ 1 ≤ h ∧ h ≤ 6) (ht9 : t1 < 16) (hd9 : d_o < h) (hf9 : f1 d_o = nI m0) (hm9 : m0 ≤ 2 ^ w) (h09 : t0 ≤ 200000) : Ci l D cy A yX8_nextGoingOn wsX8_nextGoingOn ({ frames := 1, cells := 0, slots := 0, locals := 20 }) 0 0 ws [.ref o] (fun r0 u => ∃ w1, u = (G, w1) ∧ cF (fun b9 => b9 = o ∨ b9 = a1_o ∨ b9 = a2_o ∨ b9 = a3_o ∨ b9 = a4_o ∨ b9 = a5_o) ws w1 ∧ ((∃ m, (m0 ≤ m ∧ m < 2 ^ w) ∧ (∀ i, m0 ≤ i → i < m → ¬ (tst (f2 d_o) (f3 d_o) (f4 d_o)) i) ∧ (tst (f2 d_o) (f3 d_o) (f4 d_o)) m ∧ t0 + (m - m0) < 200000 ∧ r0 = nI m ∧ wkC cy w1 o x1 a1_o a2_o a3_o a4_o a5_o (nI d_o) ((nI (t0 + (m - m0) + 1))) sp_o fd_o ((upd f1 d_o (nI (m + 1)))) f2 f3 f4 f5) ∨ (∃ m, (m0 ≤ m ∧ m ≤ 2 ^ w) ∧ (∀ i, m0 ≤ i → i < m → ¬ (tst (f2 d_o) (f3 d_o) (f4 d_o)) i) ∧ t0 + (m - m0) ≤ 200000 ∧ (m < 2 ^ w → t0 + (m - m0) = 200000) ∧ r0 = -1 ∧ wkC cy w1 o x1 a1_o a2_o a3_o a4_o a5_o (nI d_o) ((nI (t0 + (m - m0)))) (if m < 2 ^ w then 1 else 0) fd_o f1 f2 f3 f4 f5))) := by
  refine Met.ofW (cc := cX8_nextGoingOn) (maxL := 3) (ret := (some .int)) (by decide) rfl ?_
  intro p e s m args below meth c s₁ B hml hv
  obtain ⟨rfl, hP, hK, hA, hV⟩ := hv
  have hx := B.exec
  have hb := B.bytes
  have hr := B.returns
  have hts := atoms_spec (ws := wsX8_nextGoingOn) B.pre
  have hown : s.vm.findClass RX8 = some m.cls := findClass_of_methodNamed B.named
  have hlocks := B.notSynchronized
  have hS : va_S A s.heap s.heap [] := va_S.rf
  have hinJ : ∀ w ∈ wsX10 ++ wsX30 ++ wsX40 ++ wsX50, w ∈ wsX8_nextGoingOn := by decide +kernel
  have hF : cF (fun b9 => b9 = o ∨ b9 = a1_o ∨ b9 = a2_o ∨ b9 = a3_o ∨ b9 = a4_o ∨ b9 = a5_o) ws ws := cF.rf
  have hl := lv_entry ([.ref o]) (n := 3) (Nat.le_of_ble_eq_true rfl)
  rw [lg_entry_eq]
  generalize (lg_sl ([.ref o]) ++ List.replicate (3 - (lg_sl ([.ref o])).length) Slot.unset).toArray = ls at hl ⊢
  have hl : lv_has ls 3 [(0, .ref o)] := hl
  have k_m1 : (-1 : Int32).toInt = -1 := by decide
  have k_0 : (0 : Int32).toInt = 0 := by decide
  have k_1 : (1 : Int32).toInt = 1 := by decide
  have k_200000 : (200000 : Int32).toInt = 200000 := by decide
  obtain ⟨hsp_o, hj_o, hG_a1_o, hG_a2_o, hG_a3_o, hG_a4_o, hG_a5_o⟩ := c5 (j := some x1) hD hT hG_o hM_o
  obtain ⟨hG_b1, hG_s1, hJ_x1⟩ := w3sh hD hT hG_x1 hb9 hM_x1
  have id9 : (nI d_o).toInt = (d_o : Int) := nI_toInt (by omega)
  have cd9 : (nI d_o).toNatClampNeg = d_o := nI_clamp (by omega)
  have p64 := pw_64 (w := w) (by omega)
  have ip9 : (nI (2 ^ w)).toInt = ((2 ^ w : Nat) : Int) := nI_toInt (by omega)
  refine lv_aload_n hx hb dX8_nextGoingOn_0 rfl (lv_at hl 0 rfl) ?_
  refine t_get (v := .ref x1) (C := RX8) (T := TX8) (N := 10) hx hb hts (by decide +kernel) hown hK hP hM_o rfl 0 (by decide) (hts (.fieldLink RX8 7 "ShadowBench$Walk" "job" "LShadowBench$Job;") (by decide +kernel)) (fun _ h9 => h9) rfl dX8_nextGoingOn_1 ?_
  refine t_getJ (v := .ref b1) hx hb hts hinJ hown hK hP hJ_x1.kc hM_x1 0 (by decide) (hts (.fieldLink RX8 64 "ShadowBench$Job" "board" "LShadowBench$Board;") (by decide +kernel)) (fun _ h9 => h9) rfl dX8_nextGoingOn_4 ?_
  obtain ⟨_, hM_b1, hb_b1, l_b1, f_b1, r_b1, rfl, hG_l_b1, hG_f_b1, hG_r_b1⟩ := hT _ _ hG_b1
  refine t_get (v := .int (nI (2 ^ w))) (C := RX0) (T := TX0) (N := 8) hx hb hts (by decide +kernel) hown hK hP hM_b1 rfl 3 (by decide) (hts (.fieldLink RX8 88 "ShadowBench$Board" "rowNumbers" "I") (by decide +kernel)) (fun _ h9 => h9) rfl dX8_nextGoingOn_7 ?_
  have m_p_b1 := cb_pow hb_b1
  have i_p_b1 : (nI (2 ^ w)).toInt = _ := nI_toInt (by omega)
  refine lv_istore_n (lv' := [(1, .int (nI (2 ^ w))), (0, .ref o)]) hx hb dX8_nextGoingOn_10 rfl hl (by decide) rfl (fun ls hl => ?_)
  refine lv_aload_n hx hb dX8_nextGoingOn_11 rfl (lv_at hl 1 rfl) ?_
  refine t_get (v := .ref a1_o) (C := RX8) (T := TX8) (N := 10) hx hb hts (by decide +kernel) hown hK hP hM_o rfl 5 (by decide) (hts (.fieldLink RX8 30 "ShadowBench$Walk" "nextRow" "[I") (by decide +kernel)) (fun _ h9 => h9) rfl dX8_nextGoingOn_12 ?_
  refine lv_aload_n hx hb dX8_nextGoingOn_15 rfl (lv_at hl 1 rfl) ?_
  refine t_get (v := .int (nI d_o)) (C := RX8) (T := TX8) (N := 10) hx hb hts (by decide +kernel) hown hK hP hM_o rfl 1 (by decide) (hts (.fieldLink RX8 13 "ShadowBench$Walk" "y" "I") (by decide +kernel)) (fun _ h9 => h9) rfl dX8_nextGoingOn_16 ?_
  refine t_ialdM hx hb hK hP hM_a1_o (vp_in_iff.mpr ⟨by omega, by omega⟩) dX8_nextGoingOn_19 ?_
  refine lv_topi (fun v19 e19 => ?_)
  obtain rfl : v19 = nI m0 := by rw [e19, cd9]; exact hf9
  refine lv_istore_n (lv' := [(2, .int (nI m0)), (1, .int (nI (2 ^ w))), (0, .ref o)]) hx hb dX8_nextGoingOn_20 rfl hl (by decide) rfl (fun ls hl => ?_)
  have loop_21 : ∀ (n : Nat) (mg : Nat) (tl : Nat), (m0 ≤ mg ∧ mg ≤ 2 ^ w) → (tl = t0 + (mg - m0)) → (tl ≤ 200000) → (∀ i, m0 ≤ i → i < mg → ¬ (tst (f2 d_o) (f3 d_o) (f4 d_o)) i) → 64 - mg < n → ∀ (wl21 : va_W), cF (fun b9 => b9 = o ∨ b9 = a1_o ∨ b9 = a2_o ∨ b9 = a3_o ∨ b9 = a4_o ∨ b9 = a5_o) ws wl21 → va_D A wl21 → cT cy G wl21 → cIn wl21 o (.inr (7, [.ref x1, .int (nI d_o), .int (nI tl), .int sp_o, .long fd_o, .ref a1_o, .ref a2_o, .ref a3_o, .ref a4_o, .ref a5_o])) → cIn wl21 x1 (.inr (kq, .ref b1 :: .ref s1 :: .int (nI t1) :: .long o1 :: .long n1 :: ms1)) → cIn wl21 s1 (.inl (cy 0, 44, .inl fs)) → cIn wl21 a1_o (.inl (cy 0, 6, .inl f1)) → cIn wl21 a2_o (.inl (cy 0, 6, .inl f2)) → cIn wl21 a3_o (.inl (cy 0, 6, .inl f3)) → cIn wl21 a4_o (.inl (cy 0, 6, .inl f4)) → cIn wl21 a5_o (.inl (cy 1, 6, .inr (.inl f5))) → cIn wl21 b1 (.inr (0, [.int (nI w), .int (nI h), .int (nI (w * h)), .int (nI (2 ^ w)), .int (nI (cfo w h)), .ref l_b1, .ref f_b1, .ref r_b1])) → ∀ (H : Heap) (locs : List Loc), va_P D vwCl wl21 H → va_S A s.heap H locs → ∀ (ls : Array Slot), lv_has ls 3 [(2, .int (nI mg)), (1, .int (nI (2 ^ w))), (0, .ref o)] → W p l e (headSpec wsX8_nextGoingOn ({ frames := 1, cells := 0, slots := 0, locals := 20 })).room s m #[Value.ref o] below meth c H locs 0 0 (MQ below (va_Qi (fun r0 u => ∃ w1, u = (G, w1) ∧ cF (fun b9 => b9 = o ∨ b9 = a1_o ∨ b9 = a2_o ∨ b9 = a3_o ∨ b9 = a4_o ∨ b9 = a5_o) ws w1 ∧ ((∃ m, (m0 ≤ m ∧ m < 2 ^ w) ∧ (∀ i, m0 ≤ i → i < m → ¬ (tst (f2 d_o) (f3 d_o) (f4 d_o)) i) ∧ (tst (f2 d_o) (f3 d_o) (f4 d_o)) m ∧ t0 + (m - m0) < 200000 ∧ r0 = nI m ∧ wkC cy w1 o x1 a1_o a2_o a3_o a4_o a5_o (nI d_o) ((nI (t0 + (m - m0) + 1))) sp_o fd_o ((upd f1 d_o (nI (m + 1)))) f2 f3 f4 f5) ∨ (∃ m, (m0 ≤ m ∧ m ≤ 2 ^ w) ∧ (∀ i, m0 ≤ i → i < m → ¬ (tst (f2 d_o) (f3 d_o) (f4 d_o)) i) ∧ t0 + (m - m0) ≤ 200000 ∧ (m < 2 ^ w → t0 + (m - m0) = 200000) ∧ r0 = -1 ∧ wkC cy w1 o x1 a1_o a2_o a3_o a4_o a5_o (nI d_o) ((nI (t0 + (m - m0)))) (if m < 2 ^ w then 1 else 0) fd_o f1 f2 f3 f4 f5))) (cB D cy A) A) #[Value.ref o] s 0 0 A) (F0 m 21 ls []) := by
    intro n
    induction n with
    | zero => intro mg tl j21_0 j21_1 j21_2 j21_3 hn; exact absurd hn (Nat.not_lt_zero _)
    | succ n ih_21 =>
      intro mg tl j21_0 j21_1 j21_2 j21_3 hn_21 wl21 hF hD hT hM_o hM_x1 hM_s1 hM_a1_o hM_a2_o hM_a3_o hM_a4_o hM_a5_o hM_b1 H locs hP hS ls hl
      have img : (nI mg).toInt = (mg : Int) := nI_toInt (by omega)
      have it9 : (nI tl).toInt = (tl : Int) := nI_toInt (by omega)
      refine lv_iload_n hx hb dX8_nextGoingOn_21 rfl (lv_at hl 0 rfl) ?_
      refine lv_iload_n hx hb dX8_nextGoingOn_22 rfl (lv_at hl 1 rfl) ?_
      refine lv_icmp_ge (tgt := 118) hx hb dX8_nextGoingOn_23 (by decide) (fun c23 => ?_) (fun c23 => ?_)
      · skip
        have d23 := c23
        rw [fa_le] at d23
        refine lv_aload_n hx hb dX8_nextGoingOn_118 rfl (lv_at hl 2 rfl) ?_
        refine lv_iload_n hx hb dX8_nextGoingOn_119 rfl (lv_at hl 0 rfl) ?_
        refine lv_iload_n hx hb dX8_nextGoingOn_120 rfl (lv_at hl 1 rfl) ?_
        refine lv_icmp_ge (tgt := 128) hx hb dX8_nextGoingOn_121 (by decide) (fun c121 => ?_) (fun c121 => ?_)
        · skip
          have d121 := c121
          rw [fa_le] at d121
          refine lv_iconst (v := 0) hx hb dX8_nextGoingOn_128 (by decide) ?_
          refine t_put (v := .int (0 : Int32)) (C := RX8) (T := TX8) (N := 10) (ty0 := tyX8) hx hb hts (by decide +kernel) tyX8_ok nmX8 hown hK hP hD hS hM_o rfl 3 (by decide) (hts (.fieldLink RX8 20 "ShadowBench$Walk" "spent" "Z") (by decide +kernel)) (fun _ h9 => h9) rfl rfl rfl (Nat.le_of_ble_eq_true rfl) dX8_nextGoingOn_129 (fun H locs w129 hU129 hP hD hS => ?_)
          have hM_x1 := hU129.2 _ _ (cne hG_x1 hG_o (show (3 : Nat) ≠ 5 by decide)) hM_x1
          have hM_s1 := hU129.2 _ _ (cne hG_s1 hG_o (show (14 : Nat) ≠ 5 by decide)) hM_s1
          have hM_a1_o := hU129.2 _ _ (cne hG_a1_o hG_o (show (20 : Nat) ≠ 5 by decide)) hM_a1_o
          have hM_a2_o := hU129.2 _ _ (cne hG_a2_o hG_o (show (21 : Nat) ≠ 5 by decide)) hM_a2_o
          have hM_a3_o := hU129.2 _ _ (cne hG_a3_o hG_o (show (22 : Nat) ≠ 5 by decide)) hM_a3_o
          have hM_a4_o := hU129.2 _ _ (cne hG_a4_o hG_o (show (23 : Nat) ≠ 5 by decide)) hM_a4_o
          have hM_a5_o := hU129.2 _ _ (cne hG_a5_o hG_o (show (1 : Nat) ≠ 5 by decide)) hM_a5_o
          have hM_b1 := hU129.2 _ _ (cne hG_b1 hG_o (show (2 : Nat) ≠ 5 by decide)) hM_b1
          have hT := hT.up hU129 hG_o ⟨(some x1), _, _, _, _, _, _, _, _, _, rfl, (Or.inl rfl), (fun _ z => Option.some.inj z ▸ ⟨_, _, hG_x1⟩), hG_a1_o, hG_a2_o, hG_a3_o, hG_a4_o, hG_a5_o⟩
          have hM_o : cIn w129 o (.inr (7, [.ref x1, .int (nI d_o), .int (nI tl), .int (0 : Int32), .long fd_o, .ref a1_o, .ref a2_o, .ref a3_o, .ref a4_o, .ref a5_o])) := hU129.1
          have hF := hF.tr (cF.up hU129 (Or.inl rfl))
          refine lv_iconst (v := (-1)) hx hb dX8_nextGoingOn_132 (by decide) ?_
          exact W.iret (v := ((-1) : Int32)) hx hb hr (fun t ht hW => ⟨⟨_, (G, w129), rfl, ⟨w129, rfl, hF, (Or.inr ⟨mg, ⟨by omega, by omega⟩, j21_3, by omega, (fun z9 => by omega), rfl, ⟨(by first | (rw [if_pos (show mg < 2 ^ w by omega), ← j21_1]; exact hM_o) | (rw [if_neg (show ¬ mg < 2 ^ w by omega), ← j21_1]; exact hM_o)), hM_a1_o, hM_a2_o, hM_a3_o, hM_a4_o, hM_a5_o⟩⟩)⟩, by show va_P D vwCl w129 t.heap; rw [ht]; exact hP, hD, hT⟩, hS.F ht⟩) hS.2.2 dX8_nextGoingOn_133
        · first | exact absurd c121 c23 | exact absurd c23 c121
      · skip
        have d23 := c23
        rw [fa_le] at d23
        refine lv_aload_n hx hb dX8_nextGoingOn_26 rfl (lv_at hl 2 rfl) ?_
        refine t_get (v := .int (nI tl)) (C := RX8) (T := TX8) (N := 10) hx hb hts (by decide +kernel) hown hK hP hM_o rfl 2 (by decide) (hts (.fieldLink RX8 17 "ShadowBench$Walk" "tried" "I") (by decide +kernel)) (fun _ h9 => h9) rfl dX8_nextGoingOn_27 ?_
        refine lv_ldc hx hb hown (hts (.constant RX8 91 (200000)) (by decide +kernel)) dX8_nextGoingOn_30 ?_
        refine lv_icmp_ge (tgt := 118) hx hb dX8_nextGoingOn_32 (by decide) (fun c32 => ?_) (fun c32 => ?_)
        · skip
          have d32 := c32
          rw [fa_le] at d32
          refine lv_aload_n hx hb dX8_nextGoingOn_118 rfl (lv_at hl 2 rfl) ?_
          refine lv_iload_n hx hb dX8_nextGoingOn_119 rfl (lv_at hl 0 rfl) ?_
          refine lv_iload_n hx hb dX8_nextGoingOn_120 rfl (lv_at hl 1 rfl) ?_
          refine lv_icmp_ge (tgt := 128) hx hb dX8_nextGoingOn_121 (by decide) (fun c121 => ?_) (fun c121 => ?_)
          · first | exact absurd c121 c23 | exact absurd c23 c121
          · skip
            have d121 := c121
            rw [fa_le] at d121
            refine lv_iconst (v := 1) hx hb dX8_nextGoingOn_124 (by decide) ?_
            refine lv_goto (tgt := 129) hx hb dX8_nextGoingOn_125 (by decide) ?_
            refine t_put (v := .int (1 : Int32)) (C := RX8) (T := TX8) (N := 10) (ty0 := tyX8) hx hb hts (by decide +kernel) tyX8_ok nmX8 hown hK hP hD hS hM_o rfl 3 (by decide) (hts (.fieldLink RX8 20 "ShadowBench$Walk" "spent" "Z") (by decide +kernel)) (fun _ h9 => h9) rfl rfl rfl (Nat.le_of_ble_eq_true rfl) dX8_nextGoingOn_129 (fun H locs w129 hU129 hP hD hS => ?_)
            have hM_x1 := hU129.2 _ _ (cne hG_x1 hG_o (show (3 : Nat) ≠ 5 by decide)) hM_x1
            have hM_s1 := hU129.2 _ _ (cne hG_s1 hG_o (show (14 : Nat) ≠ 5 by decide)) hM_s1
            have hM_a1_o := hU129.2 _ _ (cne hG_a1_o hG_o (show (20 : Nat) ≠ 5 by decide)) hM_a1_o
            have hM_a2_o := hU129.2 _ _ (cne hG_a2_o hG_o (show (21 : Nat) ≠ 5 by decide)) hM_a2_o
            have hM_a3_o := hU129.2 _ _ (cne hG_a3_o hG_o (show (22 : Nat) ≠ 5 by decide)) hM_a3_o
            have hM_a4_o := hU129.2 _ _ (cne hG_a4_o hG_o (show (23 : Nat) ≠ 5 by decide)) hM_a4_o
            have hM_a5_o := hU129.2 _ _ (cne hG_a5_o hG_o (show (1 : Nat) ≠ 5 by decide)) hM_a5_o
            have hM_b1 := hU129.2 _ _ (cne hG_b1 hG_o (show (2 : Nat) ≠ 5 by decide)) hM_b1
            have hT := hT.up hU129 hG_o ⟨(some x1), _, _, _, _, _, _, _, _, _, rfl, (Or.inr rfl), (fun _ z => Option.some.inj z ▸ ⟨_, _, hG_x1⟩), hG_a1_o, hG_a2_o, hG_a3_o, hG_a4_o, hG_a5_o⟩
            have hM_o : cIn w129 o (.inr (7, [.ref x1, .int (nI d_o), .int (nI tl), .int (1 : Int32), .long fd_o, .ref a1_o, .ref a2_o, .ref a3_o, .ref a4_o, .ref a5_o])) := hU129.1
            have hF := hF.tr (cF.up hU129 (Or.inl rfl))
            refine lv_iconst (v := (-1)) hx hb dX8_nextGoingOn_132 (by decide) ?_
            exact W.iret (v := ((-1) : Int32)) hx hb hr (fun t ht hW => ⟨⟨_, (G, w129), rfl, ⟨w129, rfl, hF, (Or.inr ⟨mg, ⟨by omega, by omega⟩, j21_3, by omega, (fun z9 => by omega), rfl, ⟨(by first | (rw [if_pos (show mg < 2 ^ w by omega), ← j21_1]; exact hM_o) | (rw [if_neg (show ¬ mg < 2 ^ w by omega), ← j21_1]; exact hM_o)), hM_a1_o, hM_a2_o, hM_a3_o, hM_a4_o, hM_a5_o⟩⟩)⟩, by show va_P D vwCl w129 t.heap; rw [ht]; exact hP, hD, hT⟩, hS.F ht⟩) hS.2.2 dX8_nextGoingOn_133
        · skip
          have d32 := c32
          rw [fa_le] at d32
          refine lv_aload_n hx hb dX8_nextGoingOn_35 rfl (lv_at hl 2 rfl) ?_
          refine lv_dup hx hb dX8_nextGoingOn_36 rfl ?_
          refine t_get (v := .int (nI tl)) (C := RX8) (T := TX8) (N := 10) hx hb hts (by decide +kernel) hown hK hP hM_o rfl 2 (by decide) (hts (.fieldLink RX8 17 "ShadowBench$Walk" "tried" "I") (by decide +kernel)) (fun _ h9 => h9) rfl dX8_nextGoingOn_37 ?_
          refine lv_iconst (v := 1) hx hb dX8_nextGoingOn_40 (by decide) ?_
          refine lv_iadd hx hb dX8_nextGoingOn_41 ?_
          refine lv_topi (fun v41 e41 => ?_)
          obtain rfl : v41 = nI (tl + 1) := e41.trans (nI_1 _)
          refine t_put (v := .int (nI (tl + 1))) (C := RX8) (T := TX8) (N := 10) (ty0 := tyX8) hx hb hts (by decide +kernel) tyX8_ok nmX8 hown hK hP hD hS hM_o rfl 2 (by decide) (hts (.fieldLink RX8 17 "ShadowBench$Walk" "tried" "I") (by decide +kernel)) (fun _ h9 => h9) rfl rfl rfl (Nat.le_of_ble_eq_true rfl) dX8_nextGoingOn_42 (fun H locs w42 hU42 hP hD hS => ?_)
          have hM_x1 := hU42.2 _ _ (cne hG_x1 hG_o (show (3 : Nat) ≠ 5 by decide)) hM_x1
          have hM_s1 := hU42.2 _ _ (cne hG_s1 hG_o (show (14 : Nat) ≠ 5 by decide)) hM_s1
          have hM_a1_o := hU42.2 _ _ (cne hG_a1_o hG_o (show (20 : Nat) ≠ 5 by decide)) hM_a1_o
          have hM_a2_o := hU42.2 _ _ (cne hG_a2_o hG_o (show (21 : Nat) ≠ 5 by decide)) hM_a2_o
          have hM_a3_o := hU42.2 _ _ (cne hG_a3_o hG_o (show (22 : Nat) ≠ 5 by decide)) hM_a3_o
          have hM_a4_o := hU42.2 _ _ (cne hG_a4_o hG_o (show (23 : Nat) ≠ 5 by decide)) hM_a4_o
          have hM_a5_o := hU42.2 _ _ (cne hG_a5_o hG_o (show (1 : Nat) ≠ 5 by decide)) hM_a5_o
          have hM_b1 := hU42.2 _ _ (cne hG_b1 hG_o (show (2 : Nat) ≠ 5 by decide)) hM_b1
          have hT := hT.up hU42 hG_o ⟨(some x1), _, _, _, _, _, _, _, _, _, rfl, hsp_o, (fun _ z => Option.some.inj z ▸ ⟨_, _, hG_x1⟩), hG_a1_o, hG_a2_o, hG_a3_o, hG_a4_o, hG_a5_o⟩
          have hM_o : cIn w42 o (.inr (7, [.ref x1, .int (nI d_o), .int (nI (tl + 1)), .int sp_o, .long fd_o, .ref a1_o, .ref a2_o, .ref a3_o, .ref a4_o, .ref a5_o])) := hU42.1
          have hF := hF.tr (cF.up hU42 (Or.inl rfl))
          refine lv_iload_n hx hb dX8_nextGoingOn_45 rfl (lv_at hl 0 rfl) ?_
          refine lv_aload_n hx hb dX8_nextGoingOn_46 rfl (lv_at hl 2 rfl) ?_
          refine t_get (v := .ref a4_o) (C := RX8) (T := TX8) (N := 10) hx hb hts (by decide +kernel) hown hK hP hM_o rfl 8 (by decide) (hts (.fieldLink RX8 40 "ShadowBench$Walk" "barred" "[I") (by decide +kernel)) (fun _ h9 => h9) rfl dX8_nextGoingOn_47 ?_
          refine lv_aload_n hx hb dX8_nextGoingOn_50 rfl (lv_at hl 2 rfl) ?_
          refine t_get (v := .int (nI d_o)) (C := RX8) (T := TX8) (N := 10) hx hb hts (by decide +kernel) hown hK hP hM_o rfl 1 (by decide) (hts (.fieldLink RX8 13 "ShadowBench$Walk" "y" "I") (by decide +kernel)) (fun _ h9 => h9) rfl dX8_nextGoingOn_51 ?_
          refine t_ialdM hx hb hK hP hM_a4_o (vp_in_iff.mpr ⟨by omega, by omega⟩) dX8_nextGoingOn_54 ?_
          refine lv_topi (fun v54 e54 => ?_)
          rw [cd9] at e54
          refine lv_iand hx hb dX8_nextGoingOn_55 ?_
          refine lv_topi (fun v55 e55 => ?_)
          refine lv_if_ne (tgt := 112) hx hb dX8_nextGoingOn_56 (by decide) (fun c56 => ?_) (fun c56 => ?_)
          · skip
            have d56 := c56
            rw [fa_eq] at d56
            have nt9 : ¬ (tst (f2 d_o) (f3 d_o) (f4 d_o)) mg := fun z9 => by first | exact c56 (by rw [e55, e54]; exact z9.1.1) | exact c79 (by rw [e69, e78, e68]; exact z9.1.2) | exact c95 (by rw [q83, e94]; exact z9.2)
            refine lv_iinc (v := (nI (mg + 1))) (lv' := [(2, .int (nI (mg + 1))), (1, .int (nI (2 ^ w))), (0, .ref o)]) hx hb dX8_nextGoingOn_112 hl (k := 0) rfl (nI_1 _) (by decide) rfl (fun ls hl => ?_)
            refine lv_goto (tgt := 21) hx hb dX8_nextGoingOn_115 (by decide) ?_
            exact ih_21 (mg + 1) (tl + 1) (by omega) (by omega) (by omega) (fun i9 h1 h2 => by
                                                                                          by_cases e9 : i9 = mg
                                                                                          · rw [e9]; exact nt9
                                                                                          · exact j21_3 i9 h1 (by omega)) (by omega) w42 hF hD hT hM_o hM_x1 hM_s1 hM_a1_o hM_a2_o hM_a3_o hM_a4_o hM_a5_o hM_b1 _ _ hP hS ls (lv_sub hl [0, 1, 2] rfl)
          · skip
            have d56 := c56
            rw [fa_eq] at d56
            refine lv_iload_n hx hb dX8_nextGoingOn_59 rfl (lv_at hl 0 rfl) ?_
            refine lv_aload_n hx hb dX8_nextGoingOn_60 rfl (lv_at hl 2 rfl) ?_
            refine t_get (v := .ref a3_o) (C := RX8) (T := TX8) (N := 10) hx hb hts (by decide +kernel) hown hK hP hM_o rfl 7 (by decide) (hts (.fieldLink RX8 37 "ShadowBench$Walk" "needed" "[I") (by decide +kernel)) (fun _ h9 => h9) rfl dX8_nextGoingOn_61 ?_
            refine lv_aload_n hx hb dX8_nextGoingOn_64 rfl (lv_at hl 2 rfl) ?_
            refine t_get (v := .int (nI d_o)) (C := RX8) (T := TX8) (N := 10) hx hb hts (by decide +kernel) hown hK hP hM_o rfl 1 (by decide) (hts (.fieldLink RX8 13 "ShadowBench$Walk" "y" "I") (by decide +kernel)) (fun _ h9 => h9) rfl dX8_nextGoingOn_65 ?_
            refine t_ialdM hx hb hK hP hM_a3_o (vp_in_iff.mpr ⟨by omega, by omega⟩) dX8_nextGoingOn_68 ?_
            refine lv_topi (fun v68 e68 => ?_)
            rw [cd9] at e68
            refine lv_iand hx hb dX8_nextGoingOn_69 ?_
            refine lv_topi (fun v69 e69 => ?_)
            refine lv_aload_n hx hb dX8_nextGoingOn_70 rfl (lv_at hl 2 rfl) ?_
            refine t_get (v := .ref a3_o) (C := RX8) (T := TX8) (N := 10) hx hb hts (by decide +kernel) hown hK hP hM_o rfl 7 (by decide) (hts (.fieldLink RX8 37 "ShadowBench$Walk" "needed" "[I") (by decide +kernel)) (fun _ h9 => h9) rfl dX8_nextGoingOn_71 ?_
            refine lv_aload_n hx hb dX8_nextGoingOn_74 rfl (lv_at hl 2 rfl) ?_
            refine t_get (v := .int (nI d_o)) (C := RX8) (T := TX8) (N := 10) hx hb hts (by decide +kernel) hown hK hP hM_o rfl 1 (by decide) (hts (.fieldLink RX8 13 "ShadowBench$Walk" "y" "I") (by decide +kernel)) (fun _ h9 => h9) rfl dX8_nextGoingOn_75 ?_
            refine t_ialdM hx hb hK hP hM_a3_o (vp_in_iff.mpr ⟨by omega, by omega⟩) dX8_nextGoingOn_78 ?_
            refine lv_topi (fun v78 e78 => ?_)
            rw [cd9] at e78
            refine lv_icmp_ne (tgt := 112) hx hb dX8_nextGoingOn_79 (by decide) (fun c79 => ?_) (fun c79 => ?_)
            · skip
              have d79 := c79
              rw [fa_eq] at d79
              have nt9 : ¬ (tst (f2 d_o) (f3 d_o) (f4 d_o)) mg := fun z9 => by first | exact c56 (by rw [e55, e54]; exact z9.1.1) | exact c79 (by rw [e69, e78, e68]; exact z9.1.2) | exact c95 (by rw [q83, e94]; exact z9.2)
              refine lv_iinc (v := (nI (mg + 1))) (lv' := [(2, .int (nI (mg + 1))), (1, .int (nI (2 ^ w))), (0, .ref o)]) hx hb dX8_nextGoingOn_112 hl (k := 0) rfl (nI_1 _) (by decide) rfl (fun ls hl => ?_)
              refine lv_goto (tgt := 21) hx hb dX8_nextGoingOn_115 (by decide) ?_
              exact ih_21 (mg + 1) (tl + 1) (by omega) (by omega) (by omega) (fun i9 h1 h2 => by
                                                                                          by_cases e9 : i9 = mg
                                                                                          · rw [e9]; exact nt9
                                                                                          · exact j21_3 i9 h1 (by omega)) (by omega) w42 hF hD hT hM_o hM_x1 hM_s1 hM_a1_o hM_a2_o hM_a3_o hM_a4_o hM_a5_o hM_b1 _ _ hP hS ls (lv_sub hl [0, 1, 2] rfl)
            · skip
              have d79 := c79
              rw [fa_eq] at d79
              refine lv_iload_n hx hb dX8_nextGoingOn_82 rfl (lv_at hl 0 rfl) ?_
              refine t_pu (As := [.int (nI mg)]) (rest := []) ⟨hx, hb, hml, hown, hts⟩ (c_J6_y l (nI mg) (by omega)) (va_cwS 1 hts gX8_nextGoingOn_J6_bitCount_0f7a4 rfl rfl rfl (by decide +kernel) ⟨Nat.le_of_ble_eq_true rfl, Nat.le_of_ble_eq_true rfl⟩) hP rfl hl.1 rfl (Nat.le_of_ble_eq_true rfl) dX8_nextGoingOn_83 ⟨Nat.le_of_ble_eq_true rfl, Nat.le_of_ble_eq_true rfl⟩ hS (fun r83 H locs q83 hP hS => ?_)
              have cm9 : (nI mg).toNatClampNeg = mg := nI_clamp (by omega)
              rw [cm9] at q83
              refine lv_aload_n hx hb dX8_nextGoingOn_86 rfl (lv_at hl 2 rfl) ?_
              refine t_get (v := .ref a2_o) (C := RX8) (T := TX8) (N := 10) hx hb hts (by decide +kernel) hown hK hP hM_o rfl 6 (by decide) (hts (.fieldLink RX8 34 "ShadowBench$Walk" "rowSum" "[I") (by decide +kernel)) (fun _ h9 => h9) rfl dX8_nextGoingOn_87 ?_
              refine lv_aload_n hx hb dX8_nextGoingOn_90 rfl (lv_at hl 2 rfl) ?_
              refine t_get (v := .int (nI d_o)) (C := RX8) (T := TX8) (N := 10) hx hb hts (by decide +kernel) hown hK hP hM_o rfl 1 (by decide) (hts (.fieldLink RX8 13 "ShadowBench$Walk" "y" "I") (by decide +kernel)) (fun _ h9 => h9) rfl dX8_nextGoingOn_91 ?_
              refine t_ialdM hx hb hK hP hM_a2_o (vp_in_iff.mpr ⟨by omega, by omega⟩) dX8_nextGoingOn_94 ?_
              refine lv_topi (fun v94 e94 => ?_)
              rw [cd9] at e94
              refine lv_icmp_ne (tgt := 112) hx hb dX8_nextGoingOn_95 (by decide) (fun c95 => ?_) (fun c95 => ?_)
              · skip
                have d95 := c95
                rw [fa_eq] at d95
                have nt9 : ¬ (tst (f2 d_o) (f3 d_o) (f4 d_o)) mg := fun z9 => by first | exact c56 (by rw [e55, e54]; exact z9.1.1) | exact c79 (by rw [e69, e78, e68]; exact z9.1.2) | exact c95 (by rw [q83, e94]; exact z9.2)
                refine lv_iinc (v := (nI (mg + 1))) (lv' := [(2, .int (nI (mg + 1))), (1, .int (nI (2 ^ w))), (0, .ref o)]) hx hb dX8_nextGoingOn_112 hl (k := 0) rfl (nI_1 _) (by decide) rfl (fun ls hl => ?_)
                refine lv_goto (tgt := 21) hx hb dX8_nextGoingOn_115 (by decide) ?_
                exact ih_21 (mg + 1) (tl + 1) (by omega) (by omega) (by omega) (fun i9 h1 h2 => by
                                                                                          by_cases e9 : i9 = mg
                                                                                          · rw [e9]; exact nt9
                                                                                          · exact j21_3 i9 h1 (by omega)) (by omega) w42 hF hD hT hM_o hM_x1 hM_s1 hM_a1_o hM_a2_o hM_a3_o hM_a4_o hM_a5_o hM_b1 _ _ hP hS ls (lv_sub hl [0, 1, 2] rfl)
              · skip
                have d95 := c95
                rw [fa_eq] at d95
                have tt9 : (tst (f2 d_o) (f3 d_o) (f4 d_o)) mg := ⟨⟨by rw [← e54, ← e55]; exact c56, by rw [← e68, ← e69, c79, e78, e68]⟩, by rw [← q83, c95, e94]⟩
                refine lv_aload_n hx hb dX8_nextGoingOn_98 rfl (lv_at hl 2 rfl) ?_
                refine t_get (v := .ref a1_o) (C := RX8) (T := TX8) (N := 10) hx hb hts (by decide +kernel) hown hK hP hM_o rfl 5 (by decide) (hts (.fieldLink RX8 30 "ShadowBench$Walk" "nextRow" "[I") (by decide +kernel)) (fun _ h9 => h9) rfl dX8_nextGoingOn_99 ?_
                refine lv_aload_n hx hb dX8_nextGoingOn_102 rfl (lv_at hl 2 rfl) ?_
                refine t_get (v := .int (nI d_o)) (C := RX8) (T := TX8) (N := 10) hx hb hts (by decide +kernel) hown hK hP hM_o rfl 1 (by decide) (hts (.fieldLink RX8 13 "ShadowBench$Walk" "y" "I") (by decide +kernel)) (fun _ h9 => h9) rfl dX8_nextGoingOn_103 ?_
                refine lv_iload_n hx hb dX8_nextGoingOn_106 rfl (lv_at hl 0 rfl) ?_
                refine lv_iconst (v := 1) hx hb dX8_nextGoingOn_107 (by decide) ?_
                refine lv_iadd hx hb dX8_nextGoingOn_108 ?_
                refine lv_topi (fun v108 e108 => ?_)
                obtain rfl : v108 = nI (mg + 1) := e108.trans (nI_1 _)
                refine t_iastK hx hb hK hP hD hS hT (Or.inr (Or.inr (Or.inl rfl))) hG_a1_o hM_a1_o (vp_in_iff.mpr ⟨by omega, by omega⟩) dX8_nextGoingOn_109 (fun H locs w109 hU109 hP hD hT hS => ?_)
                have hM_o := hU109.2 _ _ (cne hG_o hG_a1_o (show (5 : Nat) ≠ 20 by decide)) hM_o
                have hM_x1 := hU109.2 _ _ (cne hG_x1 hG_a1_o (show (3 : Nat) ≠ 20 by decide)) hM_x1
                have hM_s1 := hU109.2 _ _ (cne hG_s1 hG_a1_o (show (14 : Nat) ≠ 20 by decide)) hM_s1
                have hM_a2_o := hU109.2 _ _ (cne hG_a2_o hG_a1_o (show (21 : Nat) ≠ 20 by decide)) hM_a2_o
                have hM_a3_o := hU109.2 _ _ (cne hG_a3_o hG_a1_o (show (22 : Nat) ≠ 20 by decide)) hM_a3_o
                have hM_a4_o := hU109.2 _ _ (cne hG_a4_o hG_a1_o (show (23 : Nat) ≠ 20 by decide)) hM_a4_o
                have hM_a5_o := hU109.2 _ _ (cne hG_a5_o hG_a1_o (show (1 : Nat) ≠ 20 by decide)) hM_a5_o
                have hM_b1 := hU109.2 _ _ (cne hG_b1 hG_a1_o (show (2 : Nat) ≠ 20 by decide)) hM_b1
                have hM_a1_o := hU109.1
                have hF := hF.tr (cF.up hU109 (Or.inr (Or.inl rfl)))
                refine lv_iload_n hx hb dX8_nextGoingOn_110 rfl (lv_at hl 0 rfl) ?_
                exact W.iret (v := (nI mg)) hx hb hr (fun t ht hW => ⟨⟨_, (G, w109), rfl, ⟨w109, rfl, hF, (Or.inl ⟨mg, ⟨by omega, by omega⟩, j21_3, tt9, by omega, rfl, ⟨(by rw [j21_1] at hM_o; exact hM_o), (by rw [cd9] at hM_a1_o; exact hM_a1_o), hM_a2_o, hM_a3_o, hM_a4_o, hM_a5_o⟩⟩)⟩, by show va_P D vwCl w109 t.heap; rw [ht]; exact hP, hD, hT⟩, hS.F ht⟩) hS.2.2 dX8_nextGoingOn_111
  exact loop_21 (64 + 1) m0 t0 (by omega) (by omega) (h09) (fun i h1 h2 => by omega) (by omega) ws hF hD hT hM_o hM_x1 hM_s1 hM_a1_o hM_a2_o hM_a3_o hM_a4_o hM_a5_o hM_b1 _ _ hP hS ls (lv_sub hl [0, 1, 2] rfl)

abbrev cGo (w : Nat) (o n : Int64) (fs : Nat → Int32) : (Nat → Nat) → Nat → Prop := goP w (hH o n) (fun x => fs (11 + x)) fs
abbrev cFi (k w h t : Nat) (o n : Int64) (fs : Nat → Int32) : (Nat → Nat) → Prop := fun nx => fitC k w h t o n fs (picL w nx h)
abbrev cGd (w h : Nat) (fs : Nat → Int32) (s : wS) : Prop := wGd (2 ^ w) h w (fun x => fs (11 + x)) s
abbrev cTo (k w h t : Nat) (o n : Int64) (fs : Nat → Int32) (i : Nat) (s u : wS) : Prop := wTo (2 ^ w) h (cGo w o n fs) (cFi k w h t o n fs) i s u
abbrev cRun (k w h t : Nat) (o n : Int64) (fs : Nat → Int32) (s : wS) (q : Nat) (u : wS) : Prop := wRun (2 ^ w) h (cGo w o n fs) (cFi k w h t o n fs) s q u
def picN (w d m : Nat) (f5 : Nat → Int64) : Int64 := f5 d ||| ((nI m).toInt64 <<< ((nI (d * w)).toInt64 &&& 63))
theorem nI_inj {a b : Nat} (ha : a < 1000) (hb : b < 1000) (e : nI a = nI b) : a = b := by
  have z := congrArg Int32.toInt e
  rw [nI_toInt (by omega), nI_toInt (by omega)] at z
  omega
section CROAD
variable {k w h t : Nat} {o n : Int64} {fs : Nat → Int32} {s0 : wS} {y tr : Int32} {f1 f2 f3 f4 : Nat → Int32} {f5 : Nat → Int64} {d t0 m0 m : Nat}
/-- a walk's state, as the class has it, i turns behind s0 -/
def cSt (k w h t : Nat) (o n : Int64) (fs : Nat → Int32) (s0 : wS) (i : Nat) (y tr : Int32) (f1 f2 f3 f4 : Nat → Int32) (f5 : Nat → Int64) : Prop := ∃ j s, cTo k w h t o n fs j s0 s ∧ cRel w o n fs s y tr f1 f2 f3 f4 f5 ∧ (i : Int) + s.1 + 2 * s0.2.2 ≤ 2 * s.2.2 + s0.1
def cLv (w h : Nat) (o n : Int64) (fs : Nat → Int32) (nx : Nat → Nat) (d t0 : Nat) (f1 f2 f3 f4 : Nat → Int32) (f5 : Nat → Int64) : Prop := cGd w h fs ((d : Int), nx, t0) ∧ (∀ i, i ≤ d → lvC w o n fs nx i f1 f2 f3 f4 f5) ∧ ∀ m, m < 2 ^ w → (tst (f2 d) (f3 d) (f4 d) m ↔ cGo w o n fs (upN nx d (m + 1)) d)
theorem cSt_lv (hb : 1 ≤ w ∧ w ≤ 6 ∧ 1 ≤ h ∧ h ≤ 6) (g : cGd w h fs s0) {i : Nat} (a : cSt k w h t o n fs s0 i (nI d) (nI t0) f1 f2 f3 f4 f5) (hd : d < h) (ht : t0 ≤ 200000) (hx : ∀ s, s < w * h → ¬ (lb o s = true ∧ lb n s = true)) : ∃ j nx, cTo k w h t o n fs j s0 ((d : Int), nx, t0) ∧ cLv w h o n fs nx d t0 f1 f2 f3 f4 f5 ∧ (i : Int) + (d : Int) + 2 * s0.2.2 ≤ 2 * t0 + s0.1 := by
  obtain ⟨j, ⟨sd, nx, st⟩, a1, ⟨c1, c2, c3⟩, c4⟩ := a
  have e1 : sd = (d : Int) := by have z : sd = (nI d).toInt := c1; rw [z]; exact nI_toInt (by omega)
  have e2 : st = t0 := by have z : (st : Int) = (nI t0).toInt := c2; rw [nI_toInt (by omega)] at z; omega
  subst e1
  subst e2
  have gs := wGd_to j g a1
  have lv : ∀ i, i ≤ d → lvC w o n fs nx i f1 f2 f3 f4 f5 := fun i hi => c3 i (by show (i : Int) ≤ (d : Int); omega)
  obtain ⟨-, l2, l3, l4, -⟩ := lv d (Nat.le_refl _)
  exact ⟨j, nx, a1, ⟨gs, lv, fun m hm => tst_go hb hd hm l2 l3 l4 (fun x hx => gs.2.2 d (by show (d : Int) ≤ (d : Int); omega) x hx) hx⟩, c4⟩
theorem cLv_m0 (hb : 1 ≤ w ∧ w ≤ 6 ∧ 1 ≤ h ∧ h ≤ 6) {nx : Nat → Nat} (l : cLv w h o n fs nx d t0 f1 f2 f3 f4 f5) : f1 d = nI (nx d) ∧ nx d ≤ 2 ^ w := ⟨(l.2.1 d (Nat.le_refl _)).1, (l.1.2.1 d (by show (d : Int) ≤ (d : Int); omega)).1⟩
theorem cLv_run {nx : Nat → Nat} {j : Nat} (a : cTo k w h t o n fs j s0 ((d : Int), nx, t0)) (l : cLv w h o n fs nx d t0 f1 f2 f3 f4 f5) (hm0 : nx d ≤ m) (hm : m ≤ 2 ^ w) (hno : ∀ i, nx d ≤ i → i < m → ¬ tst (f2 d) (f3 d) (f4 d) i) (ht : t0 + (m - nx d) ≤ 200000) : cTo k w h t o n fs (j + (m - nx d)) s0 ((d : Int), upN nx d m, t0 + (m - nx d)) := by
  have z := wTo_run (d := (d : Int)) (by omega) a rfl (m - nx d) (by rw [show ((d : Int)).toNat = d by omega]; omega) ht (fun i h1 h2 => by
    rw [show ((d : Int)).toNat = d by omega] at h1 h2 ⊢
    exact fun y => hno i h1 (by omega) ((l.2.2 i (by omega)).mpr y))
  rw [show ((d : Int)).toNat = d by omega, show nx d + (m - nx d) = m by omega] at z
  exact z
/-- no row is left: a step back -/
theorem cLv_pop {nx : Nat → Nat} {j i : Nat} (a : cTo k w h t o n fs j s0 ((d : Int), nx, t0)) (l : cLv w h o n fs nx d t0 f1 f2 f3 f4 f5) (hno : ∀ i, nx d ≤ i → i < 2 ^ w → ¬ tst (f2 d) (f3 d) (f4 d) i) (hm0 : nx d ≤ 2 ^ w) (ht : t0 + (2 ^ w - nx d) ≤ 200000) (hi : (i : Int) + (d : Int) + 2 * s0.2.2 ≤ 2 * t0 + s0.1) (ey : y.toInt = (d : Int) - 1) : cSt k w h t o n fs s0 (i + 1) y (nI (t0 + (2 ^ w - nx d))) f1 f2 f3 f4 f5 := by
  have r := cLv_run a l hm0 (Nat.le_refl _) hno ht
  refine ⟨j + (2 ^ w - nx d) + 1, ((d : Int) - 1, upN nx d (2 ^ w), t0 + (2 ^ w - nx d)), ⟨_, r, by show (0 : Int) ≤ (d : Int); omega, Or.inl ⟨by show upN nx d (2 ^ w) ((d : Int)).toNat = 2 ^ w; rw [show ((d : Int)).toNat = d by omega, upN_k], rfl⟩⟩, ⟨by show (d : Int) - 1 = _; omega, by show ((t0 + (2 ^ w - nx d) : Nat) : Int) = _; rw [nI_toInt (by omega)], fun i hi => ?_⟩, by show ((i + 1 : Nat) : Int) + ((d : Int) - 1) + 2 * s0.2.2 ≤ 2 * ((t0 + (2 ^ w - nx d) : Nat) : Int) + s0.1; omega⟩
  have hi' : (i : Int) ≤ (d : Int) - 1 := hi
  exact lvC_cg (l.2.1 i (by omega)) (fun j hj => (upN_n _ (by omega)).symm) rfl rfl rfl rfl rfl
theorem cLv_spent {nx : Nat → Nat} {j : Nat} (a : cTo k w h t o n fs j s0 ((d : Int), nx, t0)) (l : cLv w h o n fs nx d t0 f1 f2 f3 f4 f5) (hm0 : nx d ≤ m) (hm : m < 2 ^ w) (hno : ∀ i, nx d ≤ i → i < m → ¬ tst (f2 d) (f3 d) (f4 d) i) (ht : t0 + (m - nx d) = 200000) : ∃ u, cRun k w h t o n fs s0 1 u := by
  have r := cLv_run a l hm0 (Nat.le_of_lt hm) hno (by omega)
  refine ⟨_, _, _, r, Or.inr (Or.inl ⟨by show (0 : Int) ≤ (d : Int); omega, ?_, by show ¬ t0 + (m - nx d) < 200000; omega, rfl, rfl⟩)⟩
  show ¬ upN nx d m ((d : Int)).toNat = 2 ^ w
  rw [show ((d : Int)).toNat = d by omega, upN_k]
  omega
/-- what a row that goes on leaves of the levels -/
theorem lv_take {nx : Nat → Nat} (l : cLv w h o n fs nx d t0 f1 f2 f3 f4 f5) : ∀ i, i ≤ d → lvC w o n fs (upN nx d (m + 1)) i (upd f1 d (nI (m + 1))) f2 f3 f4 f5 := fun i hi => by
  by_cases z : i = d
  · subst z
    obtain ⟨-, a2, a3, a4, a5⟩ := l.2.1 i hi
    refine ⟨by simp only [upd, if_true]; rw [upN_k], a2, a3, isRow_cg a4 (fun b _ => by rw [colN_cg (mx := upN nx i (m + 1)) (fun j hj => (upN_n _ (by omega)).symm)]), ?_⟩
    rw [a5]
    exact picL_cg i (fun j hj => (upN_n _ (by omega)).symm)
  · exact lvC_cg (l.2.1 i hi) (fun j hj => (upN_n _ (by omega)).symm) (by unfold upd; rw [if_neg z]) rfl rfl rfl rfl
theorem cLv_pic {nx : Nat → Nat} (l : cLv w h o n fs nx d t0 f1 f2 f3 f4 f5) : picN w d m f5 = picL w (upN nx d (m + 1)) (d + 1) := by
  obtain ⟨-, -, -, -, a5⟩ := l.2.1 d (Nat.le_refl _)
  unfold picN
  simp only [picL]
  rw [upN_k, Nat.add_sub_cancel, a5, picL_cg d (fun j hj => (upN_n nx (v := m + 1) (show j ≠ d by omega)).symm)]
theorem cLv_gd {nx : Nat → Nat} (l : cLv w h o n fs nx d t0 f1 f2 f3 f4 f5) (hm : m < 2 ^ w) : ∀ j, j < d + 1 → upN nx d (m + 1) j - 1 < 2 ^ w := fun j hj => by
  by_cases z : j = d
  · rw [z, upN_k]; omega
  · rw [upN_n _ z]
    have q9 : nx j ≤ 2 ^ w := (l.1.2.1 j (by show (j : Int) ≤ (d : Int); omega)).1
    have p := Nat.two_pow_pos w
    omega
theorem cLv_is (hb : 1 ≤ w ∧ w ≤ 6 ∧ 1 ≤ h ∧ h ≤ 6) {nx : Nat → Nat} (l : cLv w h o n fs nx d t0 f1 f2 f3 f4 f5) (hm : m < 2 ^ w) (hd : d + 1 = h) : isPic (w * h) (picN w d m f5) := by
  rw [cLv_pic l, hd]
  exact picL_is hb (fun j hj => cLv_gd l hm j (by omega))
/-- a row goes on to the next level -/
theorem cLv_push (hb : 1 ≤ w ∧ w ≤ 6 ∧ 1 ≤ h ∧ h ≤ 6) {nx : Nat → Nat} {j i : Nat} (a : cTo k w h t o n fs j s0 ((d : Int), nx, t0)) (l : cLv w h o n fs nx d t0 f1 f2 f3 f4 f5) (hm0 : nx d ≤ m) (hm : m < 2 ^ w) (hno : ∀ i, nx d ≤ i → i < m → ¬ tst (f2 d) (f3 d) (f4 d) i) (hte : tst (f2 d) (f3 d) (f4 d) m) (ht : t0 + (m - nx d) < 200000) (hd : d + 1 < h) (hi : (i : Int) + (d : Int) + 2 * s0.2.2 ≤ 2 * t0 + s0.1) {v3 v4 : Int32} (h3 : isRow w (rB w o (d + 1)) v3) (h4 : isRow w (fun x => rB w n (d + 1) x || decide ((fs (11 + x)).toInt ≤ (shN w h (picN w d m f5) 1 x : Int))) v4) : cSt k w h t o n fs s0 (i + 1) (nI (d + 1)) (nI (t0 + (m - nx d) + 1)) (upd (upd f1 d (nI (m + 1))) (d + 1) 0) (upd f2 (d + 1) (fs (d + 1))) (upd f3 (d + 1) v3) (upd f4 (d + 1) v4) (vp_updL f5 (d + 1) (picN w d m f5)) := by
  have r := cLv_run a l hm0 (Nat.le_of_lt hm) hno (by omega)
  have go := (l.2.2 m hm).mp hte
  have e0 : ((d : Int)).toNat = d := by omega
  have wn : wNx ((d : Int), upN nx d m, t0 + (m - nx d)) = upN nx d (m + 1) := by
    have z := wNx_up (d := (d : Int)) (nx := nx) (m := m) (t := t0 + (m - nx d)) (by omega)
    rw [e0] at z
    exact z
  refine ⟨j + (m - nx d) + 1, ((d : Int) + 1, upN (upN nx d (m + 1)) (d + 1) 0, t0 + (m - nx d) + 1), ⟨_, r, by show (0 : Int) ≤ (d : Int); omega, Or.inr ⟨?_, by show t0 + (m - nx d) < 200000; omega, Or.inr (Or.inl ⟨?_, ?_, ?_⟩)⟩⟩, ⟨?_, ?_, fun i hi => ?_⟩, ?_⟩
  · show ¬ upN nx d m ((d : Int)).toNat = 2 ^ w
    rw [e0, upN_k]; omega
  · rw [wn]
    show cGo w o n fs _ ((d : Int)).toNat
    rw [e0]; exact go
  · show ((d : Int)).toNat + 1 < h
    omega
  · rw [wn]
    show _ = ((d : Int) + 1, upN (upN nx d (m + 1)) (((d : Int)).toNat + 1) 0, _)
    rw [e0]
  · show (d : Int) + 1 = _
    rw [nI_toInt (by omega)]; omega
  · show ((t0 + (m - nx d) + 1 : Nat) : Int) = _
    rw [nI_toInt (by omega)]
  · have hi' : (i : Int) ≤ (d : Int) + 1 := hi
    by_cases z : i = d + 1
    · subst z
      refine ⟨by simp only [upd, if_true]; rw [upN_k]; rfl, by simp only [upd, if_true], by simp only [upd, if_true]; exact h3, ?_, ?_⟩
      · simp only [upd, if_true]
        refine isRow_cg h4 (fun b hb2 => ?_)
        have e : colN (upN (upN nx d (m + 1)) (d + 1) 0) b (d + 1) = colN (upN nx d (m + 1)) b (d + 1) := colN_cg (fun j hj => upN_n _ (by omega))
        show _ = (rB w n (d + 1) b || decide ((fs (11 + b)).toInt ≤ (colN (upN (upN nx d (m + 1)) (d + 1) 0) b (d + 1) : Int)))
        rw [e, cLv_pic l, sh_col hb (by omega) hb2 (cLv_gd l hm)]
      · simp only [vp_updL, if_true]
        rw [cLv_pic l]
        exact picL_cg (d + 1) (fun j hj => (upN_n _ (by omega)).symm)
    · exact lvC_cg (lv_take (m := m) l i (by omega)) (fun j hj => (upN_n _ (by omega)).symm) (by show upd (upd f1 d (nI (m + 1))) (d + 1) 0 i = _; rw [upd, if_neg z]) (by unfold upd; rw [if_neg z]) (by unfold upd; rw [if_neg z]) (by unfold upd; rw [if_neg z]) (by unfold vp_updL; rw [if_neg z])
  · show ((i + 1 : Nat) : Int) + ((d : Int) + 1) + 2 * s0.2.2 ≤ 2 * ((t0 + (m - nx d) + 1 : Nat) : Int) + s0.1
    omega
/-- the last row: it fits or not -/
theorem cLv_last (hb : 1 ≤ w ∧ w ≤ 6 ∧ 1 ≤ h ∧ h ≤ 6) {nx : Nat → Nat} {j i : Nat} (a : cTo k w h t o n fs j s0 ((d : Int), nx, t0)) (l : cLv w h o n fs nx d t0 f1 f2 f3 f4 f5) (hm0 : nx d ≤ m) (hm : m < 2 ^ w) (hno : ∀ i, nx d ≤ i → i < m → ¬ tst (f2 d) (f3 d) (f4 d) i) (hte : tst (f2 d) (f3 d) (f4 d) m) (ht : t0 + (m - nx d) < 200000) (hd : d + 1 = h) (hi : (i : Int) + (d : Int) + 2 * s0.2.2 ≤ 2 * t0 + s0.1) : (fitC k w h t o n fs (picN w d m f5) → ∃ u, cRun k w h t o n fs s0 2 u ∧ cRel w o n fs u (nI d) (nI (t0 + (m - nx d) + 1)) (upd f1 d (nI (m + 1))) f2 f3 f4 f5 ∧ picN w d m f5 = picL w u.2.1 h ∧ u.2.2 = t0 + (m - nx d) + 1) ∧ (¬ fitC k w h t o n fs (picN w d m f5) → cSt k w h t o n fs s0 (i + 1) (nI d) (nI (t0 + (m - nx d) + 1)) (upd f1 d (nI (m + 1))) f2 f3 f4 f5) := by
  have r := cLv_run a l hm0 (Nat.le_of_lt hm) hno (by omega)
  have go := (l.2.2 m hm).mp hte
  have e0 : ((d : Int)).toNat = d := by omega
  have wn : wNx ((d : Int), upN nx d m, t0 + (m - nx d)) = upN nx d (m + 1) := by
    have z := wNx_up (d := (d : Int)) (nx := nx) (m := m) (t := t0 + (m - nx d)) (by omega)
    rw [e0] at z
    exact z
  have n1 : ¬ upN nx d m ((d : Int)).toNat = 2 ^ w := by rw [e0, upN_k]; omega
  have g1 : cGo w o n fs (wNx ((d : Int), upN nx d m, t0 + (m - nx d))) ((d : Int)).toNat := by rw [wn, e0]; exact go
  have g2 : ¬ ((d : Int)).toNat + 1 < h := by omega
  have pe : picN w d m f5 = picL w (upN nx d (m + 1)) h := by rw [cLv_pic l, hd]
  have rel : cRel w o n fs ((d : Int), upN nx d (m + 1), t0 + (m - nx d) + 1) (nI d) (nI (t0 + (m - nx d) + 1)) (upd f1 d (nI (m + 1))) f2 f3 f4 f5 := by
    have dl : d < 1000000 := by omega
    refine ⟨?_, ?_, fun i hi => ?_⟩
    · show (d : Int) = _
      rw [nI_toInt (by omega)]
    · show ((t0 + (m - nx d) + 1 : Nat) : Int) = _
      rw [nI_toInt (by omega)]
    · have hi' : (i : Int) ≤ (d : Int) := hi
      exact lv_take l i (by omega)
  constructor
  · intro hf
    refine ⟨((d : Int), upN nx d (m + 1), t0 + (m - nx d) + 1), ⟨_, _, r, Or.inr (Or.inr ⟨by show (0 : Int) ≤ (d : Int); omega, n1, ht, g1, g2, ?_, rfl, ?_⟩)⟩, rel, pe, rfl⟩
    · rw [wn]
      show fitC k w h t o n fs (picL w (upN nx d (m + 1)) h)
      rw [← pe]; exact hf
    · rw [wn]
  · intro hf
    refine ⟨j + (m - nx d) + 1, ((d : Int), upN nx d (m + 1), t0 + (m - nx d) + 1), ⟨_, r, by show (0 : Int) ≤ (d : Int); omega, Or.inr ⟨n1, ht, Or.inr (Or.inr ⟨g1, g2, ?_, ?_⟩)⟩⟩, rel, ?_⟩
    · rw [wn]
      show ¬ fitC k w h t o n fs (picL w (upN nx d (m + 1)) h)
      rw [← pe]; exact hf
    · rw [wn]
    · show ((i + 1 : Nat) : Int) + (d : Int) + 2 * s0.2.2 ≤ 2 * ((t0 + (m - nx d) + 1 : Nat) : Int) + s0.1
      omega
theorem adv_B {nx : Nat → Nat} {j i : Nat} (a : cTo k w h t o n fs j s0 ((d : Int), nx, t0)) (l : cLv w h o n fs nx d t0 f1 f2 f3 f4 f5) (hm : nx d ≤ m ∧ m ≤ 2 ^ w) (hno : ∀ i, nx d ≤ i → i < m → ¬ tst (f2 d) (f3 d) (f4 d) i) (ht : t0 + (m - nx d) ≤ 200000) (hs : m < 2 ^ w → t0 + (m - nx d) = 200000) (hi : (i : Int) + (d : Int) + 2 * s0.2.2 ≤ 2 * t0 + s0.1) (ey : y.toInt = (d : Int) - 1) : ((if m < 2 ^ w then (1 : Int32) else 0) = 0 ∧ cSt k w h t o n fs s0 (i + 1) y (nI (t0 + (m - nx d))) f1 f2 f3 f4 f5) ∨ ((if m < 2 ^ w then (1 : Int32) else 0) = 1 ∧ ∃ u, cRun k w h t o n fs s0 1 u) := by
  by_cases z : m < 2 ^ w
  · exact Or.inr ⟨if_pos z, cLv_spent a l hm.1 z hno (hs z)⟩
  · have e : m = 2 ^ w := by omega
    rw [e] at hno ht ⊢
    exact Or.inl ⟨if_neg (Nat.lt_irrefl _), cLv_pop a l hno (by omega) ht hi ey⟩
theorem cRel_0 {v3 v4 : Int32} (h3 : isRow w (rB w o 0) v3) (h4 : isRow w (fun x => rB w n 0 x || decide ((fs (11 + x)).toInt ≤ (shN w h 0 1 x : Int))) v4) : cRel w o n fs (0, fun _ => 0, 0) (nI 0) (nI 0) (upd f1 0 0) (upd f2 0 (fs 0)) (upd f3 0 v3) (upd f4 0 v4) (vp_updL f5 0 0) := by
  refine ⟨rfl, rfl, fun i hi => ?_⟩
  have e : i = 0 := by have : (i : Int) ≤ 0 := hi; omega
  subst e
  refine ⟨rfl, rfl, by simp only [upd, if_true]; exact h3, ?_, rfl⟩
  simp only [upd, if_true]
  refine isRow_cg h4 (fun b _ => ?_)
  have z : shN w h 0 1 b = 0 := bs_z (fun s _ => by rw [lb_0, Bool.and_false])
  rw [z]
  rfl
theorem cSt_none {i : Nat} (a : cSt k w h t o n fs s0 i y tr f1 f2 f3 f4 f5) (hy : y.toInt < 0) : ∃ u, cRun k w h t o n fs s0 0 u := by
  obtain ⟨j, s, a1, ⟨c1, c2, c3⟩, c4⟩ := a
  exact ⟨s, j, s, a1, Or.inl ⟨by omega, rfl, rfl⟩⟩
theorem cSt_0 {s : wS} (c : cRel w o n fs s y tr f1 f2 f3 f4 f5) : cSt k w h t o n fs s 0 y tr f1 f2 f3 f4 f5 := ⟨0, s, rfl, c, by omega⟩
theorem cSt_b {i : Nat} (g : cGd w h fs s0) (a : cSt k w h t o n fs s0 i y tr f1 f2 f3 f4 f5) (h6 : h ≤ 6) (hy : 0 ≤ y.toInt) : i ≤ 400006 ∧ y.toInt < (h : Int) ∧ 0 ≤ tr.toInt ∧ tr.toInt ≤ 200000 := by
  obtain ⟨j, s, a1, ⟨c1, c2, c3⟩, c4⟩ := a
  have gs := (wGd_to j g a1).1
  have g0 := g.1
  omega
end CROAD
set_option maxHeartbeats 4000000 in
set_option maxRecDepth 100000 in
theorem c_X8_completes_x (l : Launch) (D : va_G) (cy : Nat → ClassId) (A : Nat → Prop) (G : cG) (ws : va_W) (o : Nat) (mr : Nat) {x1 kq w h b1 s1 t1 : Nat} {o1 n1 : Int64} {ms1 : List Value} {fs f1 f2 f3 f4 : Nat → Int32} {f5 : Nat → Int64} {a1_o a2_o a3_o a4_o a5_o : Nat} {sp_o : Int32} {fd_o : Int64} {d_o : Nat} {tr_o : Int32} (hD : va_D A ws) (hT : cT cy G ws) (hG_o : G o = some (5, 0, 0)) (hM_o : cIn ws o (.inr (7, [.ref x1, .int (nI d_o), .int tr_o, .int sp_o, .long fd_o, .ref a1_o, .ref a2_o, .ref a3_o, .ref a4_o, .ref a5_o]))) (hG_x1 : G x1 = some (3, kq, 8 * w + h)) (hM_x1 : cIn ws x1 (.inr (kq, .ref b1 :: .ref s1 :: .int (nI t1) :: .long o1 :: .long n1 :: ms1))) (hM_s1 : cIn ws s1 (.inl (cy 0, 44, .inl fs))) (hM_a1_o : cIn ws a1_o (.inl (cy 0, 6, .inl f1))) (hM_a2_o : cIn ws a2_o (.inl (cy 0, 6, .inl f2))) (hM_a3_o : cIn ws a3_o (.inl (cy 0, 6, .inl f3))) (hM_a4_o : cIn ws a4_o (.inl (cy 0, 6, .inl f4))) (hM_a5_o : cIn ws a5_o (.inl (cy 1, 6, .inr (.inl f5)))) (hb9 : 1 ≤ w ∧ w ≤ 6 ∧ 1 ≤ h ∧ h ≤ 6) (ht9 : t1 < 16) (hd9 : d_o < h) (hm9 : mr < 2 ^ w) (hp9 : d_o + 1 = h → isPic (w * h) (picN w d_o mr f5)) : Ci l D cy A yX8_completes wsX8_completes ({ frames := 4, cells := 0, slots := 0, locals := 99 }) 0 0 ws [.ref o, .int (nI mr)] (fun r0 u => ∃ w1, u = (G, w1) ∧ cF (fun b9 => b9 = o ∨ b9 = a1_o ∨ b9 = a2_o ∨ b9 = a3_o ∨ b9 = a4_o ∨ b9 = a5_o) ws w1 ∧ ((d_o + 1 < h ∧ r0 = 0 ∧ ∃ v3 v4, isRow w (rB w o1 (d_o + 1)) v3 ∧ isRow w (fun x => rB w n1 (d_o + 1) x || decide ((fs (11 + x)).toInt ≤ (shN w h (picN w d_o mr f5) 1 x : Int))) v4 ∧ wkC cy w1 o x1 a1_o a2_o a3_o a4_o a5_o ((nI (d_o + 1))) tr_o sp_o fd_o ((upd f1 (d_o + 1) 0)) ((upd f2 (d_o + 1) (fs (d_o + 1)))) ((upd f3 (d_o + 1) v3)) ((upd f4 (d_o + 1) v4)) ((vp_updL f5 (d_o + 1) (picN w d_o mr f5)))) ∨ (d_o + 1 = h ∧ Bo r0 (fitC kq w h t1 o1 n1 fs (picN w d_o mr f5)) ∧ wkC cy w1 o x1 a1_o a2_o a3_o a4_o a5_o (nI d_o) tr_o sp_o (picN w d_o mr f5) f1 f2 f3 f4 f5))) := by
  refine Met.ofW (cc := cX8_completes) (maxL := 4) (ret := (some .boolean)) (by decide) rfl ?_
  intro p e s m args below meth c s₁ B hml hv
  obtain ⟨rfl, hP, hK, hA, hV⟩ := hv
  have hx := B.exec
  have hb := B.bytes
  have hr := B.returns
  have hts := atoms_spec (ws := wsX8_completes) B.pre
  have hown : s.vm.findClass RX8 = some m.cls := findClass_of_methodNamed B.named
  have hlocks := B.notSynchronized
  have hS : va_S A s.heap s.heap [] := va_S.rf
  have hinJ : ∀ w ∈ wsX10 ++ wsX30 ++ wsX40 ++ wsX50, w ∈ wsX8_completes := by decide +kernel
  have hF : cF (fun b9 => b9 = o ∨ b9 = a1_o ∨ b9 = a2_o ∨ b9 = a3_o ∨ b9 = a4_o ∨ b9 = a5_o) ws ws := cF.rf
  have hl := lv_entry ([.ref o, .int (nI mr)]) (n := 4) (Nat.le_of_ble_eq_true rfl)
  rw [lg_entry_eq]
  generalize (lg_sl ([.ref o, .int (nI mr)]) ++ List.replicate (4 - (lg_sl ([.ref o, .int (nI mr)])).length) Slot.unset).toArray = ls at hl ⊢
  have hl : lv_has ls 4 [(0, .ref o), (1, .int (nI mr))] := hl
  have k_0 : (0 : Int32).toInt = 0 := by decide
  have k_1 : (1 : Int32).toInt = 1 := by decide
  obtain ⟨hsp_o, hj_o, hG_a1_o, hG_a2_o, hG_a3_o, hG_a4_o, hG_a5_o⟩ := c5 (j := some x1) hD hT hG_o hM_o
  obtain ⟨hG_b1, hG_s1, hJ_x1⟩ := w3sh hD hT hG_x1 hb9 hM_x1
  have id9 : (nI d_o).toInt = (d_o : Int) := nI_toInt (by omega)
  have cd9 : (nI d_o).toNatClampNeg = d_o := nI_clamp (by omega)
  have id1 : (nI (d_o + 1)).toInt = ((d_o + 1 : Nat) : Int) := nI_toInt (by omega)
  refine lv_aload_n hx hb dX8_completes_0 rfl (lv_at hl 0 rfl) ?_
  refine t_get (v := .ref a5_o) (C := RX8) (T := TX8) (N := 10) hx hb hts (by decide +kernel) hown hK hP hM_o rfl 9 (by decide) (hts (.fieldLink RX8 43 "ShadowBench$Walk" "drawn" "[J") (by decide +kernel)) (fun _ h9 => h9) rfl dX8_completes_1 ?_
  refine lv_aload_n hx hb dX8_completes_4 rfl (lv_at hl 0 rfl) ?_
  refine t_get (v := .int (nI d_o)) (C := RX8) (T := TX8) (N := 10) hx hb hts (by decide +kernel) hown hK hP hM_o rfl 1 (by decide) (hts (.fieldLink RX8 13 "ShadowBench$Walk" "y" "I") (by decide +kernel)) (fun _ h9 => h9) rfl dX8_completes_5 ?_
  refine t_laldM hx hb hK hP hM_a5_o (vp_in_iff.mpr ⟨by omega, by omega⟩) dX8_completes_8 ?_
  refine lv_topl (fun v8 e8 => ?_)
  refine lv_iload_n hx hb dX8_completes_9 rfl (lv_at hl 1 rfl) ?_
  refine lv_i2l (v := (nI mr).toInt64) hx hb dX8_completes_10 rfl ?_
  refine lv_aload_n hx hb dX8_completes_11 rfl (lv_at hl 0 rfl) ?_
  refine t_get (v := .int (nI d_o)) (C := RX8) (T := TX8) (N := 10) hx hb hts (by decide +kernel) hown hK hP hM_o rfl 1 (by decide) (hts (.fieldLink RX8 13 "ShadowBench$Walk" "y" "I") (by decide +kernel)) (fun _ h9 => h9) rfl dX8_completes_12 ?_
  refine lv_aload_n hx hb dX8_completes_15 rfl (lv_at hl 0 rfl) ?_
  refine t_get (v := .ref x1) (C := RX8) (T := TX8) (N := 10) hx hb hts (by decide +kernel) hown hK hP hM_o rfl 0 (by decide) (hts (.fieldLink RX8 7 "ShadowBench$Walk" "job" "LShadowBench$Job;") (by decide +kernel)) (fun _ h9 => h9) rfl dX8_completes_16 ?_
  refine t_getJ (v := .ref b1) hx hb hts hinJ hown hK hP hJ_x1.kc hM_x1 0 (by decide) (hts (.fieldLink RX8 64 "ShadowBench$Job" "board" "LShadowBench$Board;") (by decide +kernel)) (fun _ h9 => h9) rfl dX8_completes_19 ?_
  obtain ⟨_, hM_b1, hb_b1, l_b1, f_b1, r_b1, rfl, hG_l_b1, hG_f_b1, hG_r_b1⟩ := hT _ _ hG_b1
  refine t_get (v := .int (nI w)) (C := RX0) (T := TX0) (N := 8) hx hb hts (by decide +kernel) hown hK hP hM_b1 rfl 0 (by decide) (hts (.fieldLink RX8 97 "ShadowBench$Board" "wide" "I") (by decide +kernel)) (fun _ h9 => h9) rfl dX8_completes_22 ?_
  have i_w_b1 : (nI w).toInt = _ := nI_toInt (by omega)
  refine lv_imul hx hb dX8_completes_25 ?_
  refine lv_topi (fun v25 e25 => ?_)
  refine lv_lshl (v := ((nI mr).toInt64) <<< (v25.toInt64 &&& 63)) hx hb dX8_completes_26 rfl ?_
  refine lv_lor hx hb dX8_completes_27 ?_
  refine lv_topl (fun v27 e27 => ?_)
  obtain rfl : v27 = (picN w d_o mr f5) := by rw [e27, e8, cd9, e25, pk_mul]; rfl
  refine lv_lstore_n (lv' := [(2, .long (picN w d_o mr f5)), (0, .ref o), (1, .int (nI mr))]) hx hb dX8_completes_28 rfl hl (by decide) rfl (fun ls hl => ?_)
  refine lv_aload_n hx hb dX8_completes_29 rfl (lv_at hl 1 rfl) ?_
  refine t_get (v := .int (nI d_o)) (C := RX8) (T := TX8) (N := 10) hx hb hts (by decide +kernel) hown hK hP hM_o rfl 1 (by decide) (hts (.fieldLink RX8 13 "ShadowBench$Walk" "y" "I") (by decide +kernel)) (fun _ h9 => h9) rfl dX8_completes_30 ?_
  refine lv_iconst (v := 1) hx hb dX8_completes_33 (by decide) ?_
  refine lv_iadd hx hb dX8_completes_34 ?_
  refine lv_topi (fun v34 e34 => ?_)
  obtain rfl : v34 = nI (d_o + 1) := e34.trans (nI_1 _)
  refine lv_aload_n hx hb dX8_completes_35 rfl (lv_at hl 1 rfl) ?_
  refine t_get (v := .ref x1) (C := RX8) (T := TX8) (N := 10) hx hb hts (by decide +kernel) hown hK hP hM_o rfl 0 (by decide) (hts (.fieldLink RX8 7 "ShadowBench$Walk" "job" "LShadowBench$Job;") (by decide +kernel)) (fun _ h9 => h9) rfl dX8_completes_36 ?_
  refine t_getJ (v := .ref b1) hx hb hts hinJ hown hK hP hJ_x1.kc hM_x1 0 (by decide) (hts (.fieldLink RX8 64 "ShadowBench$Job" "board" "LShadowBench$Board;") (by decide +kernel)) (fun _ h9 => h9) rfl dX8_completes_39 ?_
  refine t_get (v := .int (nI h)) (C := RX0) (T := TX0) (N := 8) hx hb hts (by decide +kernel) hown hK hP hM_b1 rfl 1 (by decide) (hts (.fieldLink RX8 70 "ShadowBench$Board" "high" "I") (by decide +kernel)) (fun _ h9 => h9) rfl dX8_completes_42 ?_
  have i_h_b1 : (nI h).toInt = _ := nI_toInt (by omega)
  refine lv_icmp_ge (tgt := 61) hx hb dX8_completes_45 (by decide) (fun c45 => ?_) (fun c45 => ?_)
  · skip
    have d45 := c45
    rw [fa_le] at d45
    refine lv_aload_n hx hb dX8_completes_61 rfl (lv_at hl 1 rfl) ?_
    refine lv_lload_n hx hb dX8_completes_62 rfl (lv_at hl 0 rfl) ?_
    refine t_put (v := .long (picN w d_o mr f5)) (C := RX8) (T := TX8) (N := 10) (ty0 := tyX8) hx hb hts (by decide +kernel) tyX8_ok nmX8 hown hK hP hD hS hM_o rfl 4 (by decide) (hts (.fieldLink RX8 24 "ShadowBench$Walk" "found" "J") (by decide +kernel)) (fun _ h9 => h9) rfl rfl rfl (Nat.le_of_ble_eq_true rfl) dX8_completes_63 (fun H locs w63 hU63 hP hD hS => ?_)
    have hM_x1 := hU63.2 _ _ (cne hG_x1 hG_o (show (3 : Nat) ≠ 5 by decide)) hM_x1
    have hM_s1 := hU63.2 _ _ (cne hG_s1 hG_o (show (14 : Nat) ≠ 5 by decide)) hM_s1
    have hM_a1_o := hU63.2 _ _ (cne hG_a1_o hG_o (show (20 : Nat) ≠ 5 by decide)) hM_a1_o
    have hM_a2_o := hU63.2 _ _ (cne hG_a2_o hG_o (show (21 : Nat) ≠ 5 by decide)) hM_a2_o
    have hM_a3_o := hU63.2 _ _ (cne hG_a3_o hG_o (show (22 : Nat) ≠ 5 by decide)) hM_a3_o
    have hM_a4_o := hU63.2 _ _ (cne hG_a4_o hG_o (show (23 : Nat) ≠ 5 by decide)) hM_a4_o
    have hM_a5_o := hU63.2 _ _ (cne hG_a5_o hG_o (show (1 : Nat) ≠ 5 by decide)) hM_a5_o
    have hM_b1 := hU63.2 _ _ (cne hG_b1 hG_o (show (2 : Nat) ≠ 5 by decide)) hM_b1
    have hT := hT.up hU63 hG_o ⟨(some x1), _, _, _, _, _, _, _, _, _, rfl, hsp_o, (fun _ z => Option.some.inj z ▸ ⟨_, _, hG_x1⟩), hG_a1_o, hG_a2_o, hG_a3_o, hG_a4_o, hG_a5_o⟩
    have hM_o : cIn w63 o (.inr (7, [.ref x1, .int (nI d_o), .int tr_o, .int sp_o, .long (picN w d_o mr f5), .ref a1_o, .ref a2_o, .ref a3_o, .ref a4_o, .ref a5_o])) := hU63.1
    have hF := hF.tr (cF.up hU63 (Or.inl rfl))
    have hpp9 := hp9 (by omega)
    refine lv_aload_n hx hb dX8_completes_66 rfl (lv_at hl 1 rfl) ?_
    refine t_get (v := .ref x1) (C := RX8) (T := TX8) (N := 10) hx hb hts (by decide +kernel) hown hK hP hM_o rfl 0 (by decide) (hts (.fieldLink RX8 7 "ShadowBench$Walk" "job" "LShadowBench$Job;") (by decide +kernel)) (fun _ h9 => h9) rfl dX8_completes_67 ?_
    refine lv_lload_n hx hb dX8_completes_70 rfl (lv_at hl 0 rfl) ?_
    refine t_calli (t_runJ (g := F0 m 71 ls ([.long (picN w d_o mr f5), .ref x1])) (As := [.long (picN w d_o mr f5)]) (rest := []) ⟨hx, hb, hml, hown, hts⟩ (c_X3_admits_x l D cy A G w63 x1 (picN w d_o mr f5) hD hT hG_x1 hM_x1 hM_s1 hb9 ht9 hpp9) (va_cwU 1 hts gX8_completes_X3_admits_u100X1 rfl rfl rfl rfl (by decide +kernel) ⟨Nat.le_of_ble_eq_true rfl, Nat.le_of_ble_eq_true rfl⟩) (cwV 1 hts gX8_completes_X3_admits rfl rfl rfl (by decide +kernel) ⟨Nat.le_of_ble_eq_true rfl, Nat.le_of_ble_eq_true rfl⟩) (va_cwU 1 hts gX8_completes_X3_admits_u100X4 rfl rfl rfl rfl (by decide +kernel) ⟨Nat.le_of_ble_eq_true rfl, Nat.le_of_ble_eq_true rfl⟩) (va_cwU 1 hts gX8_completes_X3_admits_u100X5 rfl rfl rfl rfl (by decide +kernel) ⟨Nat.le_of_ble_eq_true rfl, Nat.le_of_ble_eq_true rfl⟩) hJ_x1.kc hM_x1 hP hK c_blind (c_preS hP hK hA hS hV).2 rfl rfl hl.1 rfl (lv_room (Nat.le_of_ble_eq_true rfl)) dX8_completes_71 ⟨Nat.le_of_ble_eq_true rfl, Nat.le_of_ble_eq_true rfl⟩) hS (fun r71 u H locs q71 hP9 hD9 hT9 hS => ?_)
    obtain ⟨rfl, q71⟩ := q71
    have hP : va_P D vwCl w63 H := hP9
    exact W.zret (v := r71) hx hb hr (bo_z q71) (fun t ht hW => ⟨⟨_, (G, w63), rfl, ⟨w63, rfl, hF, (Or.inr ⟨by omega, q71, ⟨hM_o, hM_a1_o, hM_a2_o, hM_a3_o, hM_a4_o, hM_a5_o⟩⟩)⟩, by show va_P D vwCl w63 t.heap; rw [ht]; exact hP, hD, hT⟩, hS.F ht⟩) hS.2.2 dX8_completes_74
  · skip
    have d45 := c45
    rw [fa_le] at d45
    refine lv_aload_n hx hb dX8_completes_48 rfl (lv_at hl 1 rfl) ?_
    refine lv_aload_n hx hb dX8_completes_49 rfl (lv_at hl 1 rfl) ?_
    refine t_get (v := .int (nI d_o)) (C := RX8) (T := TX8) (N := 10) hx hb hts (by decide +kernel) hown hK hP hM_o rfl 1 (by decide) (hts (.fieldLink RX8 13 "ShadowBench$Walk" "y" "I") (by decide +kernel)) (fun _ h9 => h9) rfl dX8_completes_50 ?_
    refine lv_iconst (v := 1) hx hb dX8_completes_53 (by decide) ?_
    refine lv_iadd hx hb dX8_completes_54 ?_
    refine lv_topi (fun v54 e54 => ?_)
    obtain rfl : v54 = nI (d_o + 1) := e54.trans (nI_1 _)
    refine lv_lload_n hx hb dX8_completes_55 rfl (lv_at hl 0 rfl) ?_
    refine t_callv (va_runV (g := F0 m 56 ls ([.long (picN w d_o mr f5), .int (nI (d_o + 1)), .ref o])) (As := [.int (nI (d_o + 1)), .long (picN w d_o mr f5)]) (rest := []) ⟨hx, hb, hml, hown, hts⟩ (c_X8_enterRow_x l D cy A G ws o (d_o + 1) (picN w d_o mr f5) hD hT hG_o hM_o hG_x1 hM_x1 hM_s1 hM_a1_o hM_a2_o hM_a3_o hM_a4_o hM_a5_o hb9 ht9 (by omega)) (cwV 2 hts gX8_completes_X8_enterRow rfl rfl rfl (by decide +kernel) ⟨Nat.le_of_ble_eq_true rfl, Nat.le_of_ble_eq_true rfl⟩) (c_preV hM_o rfl hP hK hA hS hV) rfl rfl hl.1 rfl (lv_room (Nat.le_of_ble_eq_true rfl)) dX8_completes_56 ⟨Nat.le_of_ble_eq_true rfl, Nat.le_of_ble_eq_true rfl⟩) hS (fun u H locs q56 hP9 hD9 hT9 hS => ?_)
    obtain ⟨w56, rfl, hF56, q56⟩ := q56
    have hP : va_P D vwCl w56 H := hP9
    have hD : va_D A w56 := hD9
    have hT : cT cy G w56 := hT9
    have hM_x1 := hF56 _ _ (fun z9 => z9.elim (cne hG_x1 hG_o (show (3 : Nat) ≠ 5 by decide)) (fun z9 => z9.elim (cne hG_x1 hG_a1_o (show (3 : Nat) ≠ 20 by decide)) (fun z9 => z9.elim (cne hG_x1 hG_a2_o (show (3 : Nat) ≠ 21 by decide)) (fun z9 => z9.elim (cne hG_x1 hG_a3_o (show (3 : Nat) ≠ 22 by decide)) (fun z9 => z9.elim (cne hG_x1 hG_a4_o (show (3 : Nat) ≠ 23 by decide)) (cne hG_x1 hG_a5_o (show (3 : Nat) ≠ 1 by decide))))))) hM_x1
    have hM_s1 := hF56 _ _ (fun z9 => z9.elim (cne hG_s1 hG_o (show (14 : Nat) ≠ 5 by decide)) (fun z9 => z9.elim (cne hG_s1 hG_a1_o (show (14 : Nat) ≠ 20 by decide)) (fun z9 => z9.elim (cne hG_s1 hG_a2_o (show (14 : Nat) ≠ 21 by decide)) (fun z9 => z9.elim (cne hG_s1 hG_a3_o (show (14 : Nat) ≠ 22 by decide)) (fun z9 => z9.elim (cne hG_s1 hG_a4_o (show (14 : Nat) ≠ 23 by decide)) (cne hG_s1 hG_a5_o (show (14 : Nat) ≠ 1 by decide))))))) hM_s1
    have hM_b1 := hF56 _ _ (fun z9 => z9.elim (cne hG_b1 hG_o (show (2 : Nat) ≠ 5 by decide)) (fun z9 => z9.elim (cne hG_b1 hG_a1_o (show (2 : Nat) ≠ 20 by decide)) (fun z9 => z9.elim (cne hG_b1 hG_a2_o (show (2 : Nat) ≠ 21 by decide)) (fun z9 => z9.elim (cne hG_b1 hG_a3_o (show (2 : Nat) ≠ 22 by decide)) (fun z9 => z9.elim (cne hG_b1 hG_a4_o (show (2 : Nat) ≠ 23 by decide)) (cne hG_b1 hG_a5_o (show (2 : Nat) ≠ 1 by decide))))))) hM_b1
    have hF := hF.tr hF56
    obtain ⟨v3_56, v4_56, hv3_56, hv4_56, hW56⟩ := q56
    have hM_o : cIn w56 o (.inr (7, [.ref x1, .int (nI (d_o + 1)), .int tr_o, .int sp_o, .long fd_o, .ref a1_o, .ref a2_o, .ref a3_o, .ref a4_o, .ref a5_o])) := hW56.1
    have hM_a1_o : cIn w56 a1_o (.inl (cy 0, 6, .inl (upd f1 (d_o + 1) 0))) := hW56.2.1
    have hM_a2_o : cIn w56 a2_o (.inl (cy 0, 6, .inl (upd f2 (d_o + 1) (fs (d_o + 1))))) := hW56.2.2.1
    have hM_a3_o : cIn w56 a3_o (.inl (cy 0, 6, .inl (upd f3 (d_o + 1) v3_56))) := hW56.2.2.2.1
    have hM_a4_o : cIn w56 a4_o (.inl (cy 0, 6, .inl (upd f4 (d_o + 1) v4_56))) := hW56.2.2.2.2.1
    have hM_a5_o : cIn w56 a5_o (.inl (cy 1, 6, .inr (.inl (vp_updL f5 (d_o + 1) (picN w d_o mr f5))))) := hW56.2.2.2.2.2
    refine lv_iconst (v := 0) hx hb dX8_completes_59 (by decide) ?_
    exact W.zret (v := (0 : Int32)) hx hb hr (by decide) (fun t ht hW => ⟨⟨_, (G, w56), rfl, ⟨w56, rfl, hF, (Or.inl ⟨by omega, rfl, v3_56, v4_56, hv3_56, hv4_56, ⟨hM_o, hM_a1_o, hM_a2_o, hM_a3_o, hM_a4_o, hM_a5_o⟩⟩)⟩, by show va_P D vwCl w56 t.heap; rw [ht]; exact hP, hD, hT⟩, hS.F ht⟩) hS.2.2 dX8_completes_60
set_option maxHeartbeats 4000000 in
set_option maxRecDepth 100000 in
theorem c_X8_start_x (l : Launch) (D : va_G) (cy : Nat → ClassId) (A : Nat → Prop) (G : cG) (ws : va_W) (o : Nat) (x1 : Nat) {kq w h b1 s1 t1 : Nat} {o1 n1 : Int64} {ms1 : List Value} {fs f1 f2 f3 f4 : Nat → Int32} {f5 : Nat → Int64} {a1_o a2_o a3_o a4_o a5_o : Nat} {sp_o : Int32} {fd_o : Int64} {j_o : Option Nat} {y_o tr_o : Int32} (hD : va_D A ws) (hT : cT cy G ws) (hG_o : G o = some (5, 0, 0)) (hM_o : cIn ws o (.inr (7, [va_rf j_o, .int y_o, .int tr_o, .int sp_o, .long fd_o, .ref a1_o, .ref a2_o, .ref a3_o, .ref a4_o, .ref a5_o]))) (hG_x1 : G x1 = some (3, kq, 8 * w + h)) (hM_x1 : cIn ws x1 (.inr (kq, .ref b1 :: .ref s1 :: .int (nI t1) :: .long o1 :: .long n1 :: ms1))) (hM_s1 : cIn ws s1 (.inl (cy 0, 44, .inl fs))) (hM_a1_o : cIn ws a1_o (.inl (cy 0, 6, .inl f1))) (hM_a2_o : cIn ws a2_o (.inl (cy 0, 6, .inl f2))) (hM_a3_o : cIn ws a3_o (.inl (cy 0, 6, .inl f3))) (hM_a4_o : cIn ws a4_o (.inl (cy 0, 6, .inl f4))) (hM_a5_o : cIn ws a5_o (.inl (cy 1, 6, .inr (.inl f5)))) (hb9 : 1 ≤ w ∧ w ≤ 6 ∧ 1 ≤ h ∧ h ≤ 6) (ht9 : t1 < 16) : Cv l D cy A yX8_start wsX8_start ({ frames := 4, cells := 0, slots := 0, locals := 94 }) 0 0 ws [.ref o, .ref x1] (fun u => ∃ w1, u = (G, w1) ∧ cF (fun b9 => b9 = o ∨ b9 = a1_o ∨ b9 = a2_o ∨ b9 = a3_o ∨ b9 = a4_o ∨ b9 = a5_o) ws w1 ∧ (∃ g1 g2 g3 g4 g5, cRel w o1 n1 fs (0, fun _ => 0, 0) (nI 0) (nI 0) g1 g2 g3 g4 g5 ∧ wkC cy w1 o x1 a1_o a2_o a3_o a4_o a5_o (nI 0) (nI 0) 0 0 g1 g2 g3 g4 g5)) := by
  refine Met.ofW (cc := cX8_start) (maxL := 2) (ret := none) (by decide) rfl ?_
  intro p e s m args below meth c s₁ B hml hv
  obtain ⟨rfl, hP, hK, hA, hV⟩ := hv
  have hx := B.exec
  have hb := B.bytes
  have hr := B.returns
  have hts := atoms_spec (ws := wsX8_start) B.pre
  have hown : s.vm.findClass RX8 = some m.cls := findClass_of_methodNamed B.named
  have hlocks := B.notSynchronized
  have hS : va_S A s.heap s.heap [] := va_S.rf
  have hF : cF (fun b9 => b9 = o ∨ b9 = a1_o ∨ b9 = a2_o ∨ b9 = a3_o ∨ b9 = a4_o ∨ b9 = a5_o) ws ws := cF.rf
  have hl := lv_entry ([.ref o, .ref x1]) (n := 2) (Nat.le_of_ble_eq_true rfl)
  rw [lg_entry_eq]
  generalize (lg_sl ([.ref o, .ref x1]) ++ List.replicate (2 - (lg_sl ([.ref o, .ref x1])).length) Slot.unset).toArray = ls at hl ⊢
  have hl : lv_has ls 2 [(0, .ref o), (1, .ref x1)] := hl
  have k_0 : (0 : Int32).toInt = 0 := by decide
  have k_0L : (0 : Int64).toInt = 0 := by decide
  obtain ⟨hsp_o, hj_o, hG_a1_o, hG_a2_o, hG_a3_o, hG_a4_o, hG_a5_o⟩ := c5 hD hT hG_o hM_o
  obtain ⟨hG_b1, hG_s1, hJ_x1⟩ := w3sh hD hT hG_x1 hb9 hM_x1
  refine lv_aload_n hx hb dX8_start_0 rfl (lv_at hl 0 rfl) ?_
  refine lv_aload_n hx hb dX8_start_1 rfl (lv_at hl 1 rfl) ?_
  refine t_put (v := .ref x1) (C := RX8) (T := TX8) (N := 10) (ty0 := tyX8) hx hb hts (by decide +kernel) tyX8_ok nmX8 hown hK hP hD hS hM_o rfl 0 (by decide) (hts (.fieldLink RX8 7 "ShadowBench$Walk" "job" "LShadowBench$Job;") (by decide +kernel)) (fun _ h9 => h9) rfl rfl rfl (Nat.le_of_ble_eq_true rfl) dX8_start_2 (fun H locs w2 hU2 hP hD hS => ?_)
  have hM_x1 := hU2.2 _ _ (cne hG_x1 hG_o (show (3 : Nat) ≠ 5 by decide)) hM_x1
  have hM_s1 := hU2.2 _ _ (cne hG_s1 hG_o (show (14 : Nat) ≠ 5 by decide)) hM_s1
  have hM_a1_o := hU2.2 _ _ (cne hG_a1_o hG_o (show (20 : Nat) ≠ 5 by decide)) hM_a1_o
  have hM_a2_o := hU2.2 _ _ (cne hG_a2_o hG_o (show (21 : Nat) ≠ 5 by decide)) hM_a2_o
  have hM_a3_o := hU2.2 _ _ (cne hG_a3_o hG_o (show (22 : Nat) ≠ 5 by decide)) hM_a3_o
  have hM_a4_o := hU2.2 _ _ (cne hG_a4_o hG_o (show (23 : Nat) ≠ 5 by decide)) hM_a4_o
  have hM_a5_o := hU2.2 _ _ (cne hG_a5_o hG_o (show (1 : Nat) ≠ 5 by decide)) hM_a5_o
  have hT := hT.up hU2 hG_o ⟨(some x1), _, _, _, _, _, _, _, _, _, rfl, hsp_o, (fun _ z => Option.some.inj z ▸ ⟨_, _, hG_x1⟩), hG_a1_o, hG_a2_o, hG_a3_o, hG_a4_o, hG_a5_o⟩
  have hM_o : cIn w2 o (.inr (7, [.ref x1, .int y_o, .int tr_o, .int sp_o, .long fd_o, .ref a1_o, .ref a2_o, .ref a3_o, .ref a4_o, .ref a5_o])) := hU2.1
  have hF := hF.tr (cF.up hU2 (Or.inl rfl))
  refine lv_aload_n hx hb dX8_start_5 rfl (lv_at hl 0 rfl) ?_
  refine lv_iconst (v := 0) hx hb dX8_start_6 (by decide) ?_
  refine t_put (v := .int (nI 0)) (C := RX8) (T := TX8) (N := 10) (ty0 := tyX8) hx hb hts (by decide +kernel) tyX8_ok nmX8 hown hK hP hD hS hM_o rfl 2 (by decide) (hts (.fieldLink RX8 17 "ShadowBench$Walk" "tried" "I") (by decide +kernel)) (fun _ h9 => h9) rfl rfl rfl (Nat.le_of_ble_eq_true rfl) dX8_start_7 (fun H locs w7 hU7 hP hD hS => ?_)
  have hM_x1 := hU7.2 _ _ (cne hG_x1 hG_o (show (3 : Nat) ≠ 5 by decide)) hM_x1
  have hM_s1 := hU7.2 _ _ (cne hG_s1 hG_o (show (14 : Nat) ≠ 5 by decide)) hM_s1
  have hM_a1_o := hU7.2 _ _ (cne hG_a1_o hG_o (show (20 : Nat) ≠ 5 by decide)) hM_a1_o
  have hM_a2_o := hU7.2 _ _ (cne hG_a2_o hG_o (show (21 : Nat) ≠ 5 by decide)) hM_a2_o
  have hM_a3_o := hU7.2 _ _ (cne hG_a3_o hG_o (show (22 : Nat) ≠ 5 by decide)) hM_a3_o
  have hM_a4_o := hU7.2 _ _ (cne hG_a4_o hG_o (show (23 : Nat) ≠ 5 by decide)) hM_a4_o
  have hM_a5_o := hU7.2 _ _ (cne hG_a5_o hG_o (show (1 : Nat) ≠ 5 by decide)) hM_a5_o
  have hT := hT.up hU7 hG_o ⟨(some x1), _, _, _, _, _, _, _, _, _, rfl, hsp_o, (fun _ z => Option.some.inj z ▸ ⟨_, _, hG_x1⟩), hG_a1_o, hG_a2_o, hG_a3_o, hG_a4_o, hG_a5_o⟩
  have hM_o : cIn w7 o (.inr (7, [.ref x1, .int y_o, .int (nI 0), .int sp_o, .long fd_o, .ref a1_o, .ref a2_o, .ref a3_o, .ref a4_o, .ref a5_o])) := hU7.1
  have hF := hF.tr (cF.up hU7 (Or.inl rfl))
  refine lv_aload_n hx hb dX8_start_10 rfl (lv_at hl 0 rfl) ?_
  refine lv_iconst (v := 0) hx hb dX8_start_11 (by decide) ?_
  refine t_put (v := .int (0 : Int32)) (C := RX8) (T := TX8) (N := 10) (ty0 := tyX8) hx hb hts (by decide +kernel) tyX8_ok nmX8 hown hK hP hD hS hM_o rfl 3 (by decide) (hts (.fieldLink RX8 20 "ShadowBench$Walk" "spent" "Z") (by decide +kernel)) (fun _ h9 => h9) rfl rfl rfl (Nat.le_of_ble_eq_true rfl) dX8_start_12 (fun H locs w12 hU12 hP hD hS => ?_)
  have hM_x1 := hU12.2 _ _ (cne hG_x1 hG_o (show (3 : Nat) ≠ 5 by decide)) hM_x1
  have hM_s1 := hU12.2 _ _ (cne hG_s1 hG_o (show (14 : Nat) ≠ 5 by decide)) hM_s1
  have hM_a1_o := hU12.2 _ _ (cne hG_a1_o hG_o (show (20 : Nat) ≠ 5 by decide)) hM_a1_o
  have hM_a2_o := hU12.2 _ _ (cne hG_a2_o hG_o (show (21 : Nat) ≠ 5 by decide)) hM_a2_o
  have hM_a3_o := hU12.2 _ _ (cne hG_a3_o hG_o (show (22 : Nat) ≠ 5 by decide)) hM_a3_o
  have hM_a4_o := hU12.2 _ _ (cne hG_a4_o hG_o (show (23 : Nat) ≠ 5 by decide)) hM_a4_o
  have hM_a5_o := hU12.2 _ _ (cne hG_a5_o hG_o (show (1 : Nat) ≠ 5 by decide)) hM_a5_o
  have hT := hT.up hU12 hG_o ⟨(some x1), _, _, _, _, _, _, _, _, _, rfl, (Or.inl rfl), (fun _ z => Option.some.inj z ▸ ⟨_, _, hG_x1⟩), hG_a1_o, hG_a2_o, hG_a3_o, hG_a4_o, hG_a5_o⟩
  have hM_o : cIn w12 o (.inr (7, [.ref x1, .int y_o, .int (nI 0), .int (0 : Int32), .long fd_o, .ref a1_o, .ref a2_o, .ref a3_o, .ref a4_o, .ref a5_o])) := hU12.1
  have hF := hF.tr (cF.up hU12 (Or.inl rfl))
  refine lv_aload_n hx hb dX8_start_15 rfl (lv_at hl 0 rfl) ?_
  refine lv_lconst (v := 0) hx hb dX8_start_16 (by decide) ?_
  refine t_put (v := .long (0 : Int64)) (C := RX8) (T := TX8) (N := 10) (ty0 := tyX8) hx hb hts (by decide +kernel) tyX8_ok nmX8 hown hK hP hD hS hM_o rfl 4 (by decide) (hts (.fieldLink RX8 24 "ShadowBench$Walk" "found" "J") (by decide +kernel)) (fun _ h9 => h9) rfl rfl rfl (Nat.le_of_ble_eq_true rfl) dX8_start_17 (fun H locs w17 hU17 hP hD hS => ?_)
  have hM_x1 := hU17.2 _ _ (cne hG_x1 hG_o (show (3 : Nat) ≠ 5 by decide)) hM_x1
  have hM_s1 := hU17.2 _ _ (cne hG_s1 hG_o (show (14 : Nat) ≠ 5 by decide)) hM_s1
  have hM_a1_o := hU17.2 _ _ (cne hG_a1_o hG_o (show (20 : Nat) ≠ 5 by decide)) hM_a1_o
  have hM_a2_o := hU17.2 _ _ (cne hG_a2_o hG_o (show (21 : Nat) ≠ 5 by decide)) hM_a2_o
  have hM_a3_o := hU17.2 _ _ (cne hG_a3_o hG_o (show (22 : Nat) ≠ 5 by decide)) hM_a3_o
  have hM_a4_o := hU17.2 _ _ (cne hG_a4_o hG_o (show (23 : Nat) ≠ 5 by decide)) hM_a4_o
  have hM_a5_o := hU17.2 _ _ (cne hG_a5_o hG_o (show (1 : Nat) ≠ 5 by decide)) hM_a5_o
  have hT := hT.up hU17 hG_o ⟨(some x1), _, _, _, _, _, _, _, _, _, rfl, (Or.inl rfl), (fun _ z => Option.some.inj z ▸ ⟨_, _, hG_x1⟩), hG_a1_o, hG_a2_o, hG_a3_o, hG_a4_o, hG_a5_o⟩
  have hM_o : cIn w17 o (.inr (7, [.ref x1, .int y_o, .int (nI 0), .int (0 : Int32), .long (0 : Int64), .ref a1_o, .ref a2_o, .ref a3_o, .ref a4_o, .ref a5_o])) := hU17.1
  have hF := hF.tr (cF.up hU17 (Or.inl rfl))
  refine lv_aload_n hx hb dX8_start_20 rfl (lv_at hl 0 rfl) ?_
  refine lv_iconst (v := 0) hx hb dX8_start_21 (by decide) ?_
  refine lv_lconst (v := 0) hx hb dX8_start_22 (by decide) ?_
  refine t_callv (va_runV (g := F0 m 23 ls ([.long (0 : Int64), .int (0 : Int32), .ref o])) (As := [.int (0 : Int32), .long (0 : Int64)]) (rest := []) ⟨hx, hb, hml, hown, hts⟩ (c_X8_enterRow_x l D cy A G w17 o 0 (0 : Int64) hD hT hG_o hM_o hG_x1 hM_x1 hM_s1 hM_a1_o hM_a2_o hM_a3_o hM_a4_o hM_a5_o hb9 ht9 (by omega)) (cwV 2 hts gX8_start_X8_enterRow rfl rfl rfl (by decide +kernel) ⟨Nat.le_of_ble_eq_true rfl, Nat.le_of_ble_eq_true rfl⟩) (c_preV hM_o rfl hP hK hA hS hV) rfl rfl hl.1 rfl (lv_room (Nat.le_of_ble_eq_true rfl)) dX8_start_23 ⟨Nat.le_of_ble_eq_true rfl, Nat.le_of_ble_eq_true rfl⟩) hS (fun u H locs q23 hP9 hD9 hT9 hS => ?_)
  obtain ⟨w23, rfl, hF23, q23⟩ := q23
  have hP : va_P D vwCl w23 H := hP9
  have hD : va_D A w23 := hD9
  have hT : cT cy G w23 := hT9
  have hM_x1 := hF23 _ _ (fun z9 => z9.elim (cne hG_x1 hG_o (show (3 : Nat) ≠ 5 by decide)) (fun z9 => z9.elim (cne hG_x1 hG_a1_o (show (3 : Nat) ≠ 20 by decide)) (fun z9 => z9.elim (cne hG_x1 hG_a2_o (show (3 : Nat) ≠ 21 by decide)) (fun z9 => z9.elim (cne hG_x1 hG_a3_o (show (3 : Nat) ≠ 22 by decide)) (fun z9 => z9.elim (cne hG_x1 hG_a4_o (show (3 : Nat) ≠ 23 by decide)) (cne hG_x1 hG_a5_o (show (3 : Nat) ≠ 1 by decide))))))) hM_x1
  have hM_s1 := hF23 _ _ (fun z9 => z9.elim (cne hG_s1 hG_o (show (14 : Nat) ≠ 5 by decide)) (fun z9 => z9.elim (cne hG_s1 hG_a1_o (show (14 : Nat) ≠ 20 by decide)) (fun z9 => z9.elim (cne hG_s1 hG_a2_o (show (14 : Nat) ≠ 21 by decide)) (fun z9 => z9.elim (cne hG_s1 hG_a3_o (show (14 : Nat) ≠ 22 by decide)) (fun z9 => z9.elim (cne hG_s1 hG_a4_o (show (14 : Nat) ≠ 23 by decide)) (cne hG_s1 hG_a5_o (show (14 : Nat) ≠ 1 by decide))))))) hM_s1
  have hF := hF.tr hF23
  obtain ⟨v3_23, v4_23, hv3_23, hv4_23, hW23⟩ := q23
  have hM_o : cIn w23 o (.inr (7, [.ref x1, .int (nI 0), .int (nI 0), .int (0 : Int32), .long (0 : Int64), .ref a1_o, .ref a2_o, .ref a3_o, .ref a4_o, .ref a5_o])) := hW23.1
  have hM_a1_o : cIn w23 a1_o (.inl (cy 0, 6, .inl (upd f1 0 0))) := hW23.2.1
  have hM_a2_o : cIn w23 a2_o (.inl (cy 0, 6, .inl (upd f2 0 (fs 0)))) := hW23.2.2.1
  have hM_a3_o : cIn w23 a3_o (.inl (cy 0, 6, .inl (upd f3 0 v3_23))) := hW23.2.2.2.1
  have hM_a4_o : cIn w23 a4_o (.inl (cy 0, 6, .inl (upd f4 0 v4_23))) := hW23.2.2.2.2.1
  have hM_a5_o : cIn w23 a5_o (.inl (cy 1, 6, .inr (.inl (vp_updL f5 0 (0 : Int64))))) := hW23.2.2.2.2.2
  exact W.vret hx hb hr (fun t ht hW => ⟨⟨(G, w23), rfl, ⟨w23, rfl, hF, ⟨_, _, _, _, _, cRel_0 hv3_23 hv4_23, ⟨hM_o, hM_a1_o, hM_a2_o, hM_a3_o, hM_a4_o, hM_a5_o⟩⟩⟩, by show va_P D vwCl w23 t.heap; rw [ht]; exact hP, hD, hT⟩, hS.F ht⟩) hS.2.2 dX8_start_26
set_option maxHeartbeats 4000000 in
set_option maxRecDepth 100000 in
theorem c_X8_advance_x (l : Launch) (D : va_G) (cy : Nat → ClassId) (A : Nat → Prop) (G : cG) (ws : va_W) (o : Nat) {x1 kq w h b1 s1 t1 : Nat} {o1 n1 : Int64} {ms1 : List Value} {fs f1 f2 f3 f4 : Nat → Int32} {f5 : Nat → Int64} {a1_o a2_o a3_o a4_o a5_o : Nat} {sp_o : Int32} {fd_o : Int64} {y_o : Int32} {t0 : Nat} (hD : va_D A ws) (hT : cT cy G ws) (hG_o : G o = some (5, 0, 0)) (hM_o : cIn ws o (.inr (7, [.ref x1, .int y_o, .int (nI t0), .int sp_o, .long fd_o, .ref a1_o, .ref a2_o, .ref a3_o, .ref a4_o, .ref a5_o]))) (hG_x1 : G x1 = some (3, kq, 8 * w + h)) (hM_x1 : cIn ws x1 (.inr (kq, .ref b1 :: .ref s1 :: .int (nI t1) :: .long o1 :: .long n1 :: ms1))) (hM_s1 : cIn ws s1 (.inl (cy 0, 44, .inl fs))) (hM_a1_o : cIn ws a1_o (.inl (cy 0, 6, .inl f1))) (hM_a2_o : cIn ws a2_o (.inl (cy 0, 6, .inl f2))) (hM_a3_o : cIn ws a3_o (.inl (cy 0, 6, .inl f3))) (hM_a4_o : cIn ws a4_o (.inl (cy 0, 6, .inl f4))) (hM_a5_o : cIn ws a5_o (.inl (cy 1, 6, .inr (.inl f5)))) (hb9 : 1 ≤ w ∧ w ≤ 6 ∧ 1 ≤ h ∧ h ≤ 6) (ht9 : t1 < 16) {s9 : wS} (hg9 : cGd w h fs s9) (hx9 : ∀ s, s < w * h → ¬ (lb o1 s = true ∧ lb n1 s = true)) (hc9 : cRel w o1 n1 fs s9 y_o (nI t0) f1 f2 f3 f4 f5) (hs9 : sp_o = 0) (ht0 : t0 ≤ 200000) : Ci l D cy A yX8_advance wsX8_advance ({ frames := 5, cells := 0, slots := 0, locals := 122 }) 0 0 ws [.ref o] (fun r0 u => ∃ w1, u = (G, w1) ∧ cF (fun b9 => b9 = o ∨ b9 = a1_o ∨ b9 = a2_o ∨ b9 = a3_o ∨ b9 = a4_o ∨ b9 = a5_o) ws w1 ∧ ((r0 = 1 ∧ ∃ u y g1 g2 g3 g4 g5, cRun kq w h t1 o1 n1 fs s9 2 u ∧ cRel w o1 n1 fs u y (nI u.2.2) g1 g2 g3 g4 g5 ∧ wkC cy w1 o x1 a1_o a2_o a3_o a4_o a5_o y (nI u.2.2) 0 (picL w u.2.1 h) g1 g2 g3 g4 g5) ∨ (r0 = 0 ∧ ∃ q u y tr sp fd g1 g2 g3 g4 g5, cRun kq w h t1 o1 n1 fs s9 q u ∧ ((q = 0 ∧ sp = 0) ∨ (q = 1 ∧ sp = 1)) ∧ wkC cy w1 o x1 a1_o a2_o a3_o a4_o a5_o y tr sp fd g1 g2 g3 g4 g5))) := by
  refine Met.ofW (cc := cX8_advance) (maxL := 3) (ret := (some .boolean)) (by decide) rfl ?_
  intro p e s m args below meth c s₁ B hml hv
  obtain ⟨rfl, hP, hK, hA, hV⟩ := hv
  have hx := B.exec
  have hb := B.bytes
  have hr := B.returns
  have hts := atoms_spec (ws := wsX8_advance) B.pre
  have hown : s.vm.findClass RX8 = some m.cls := findClass_of_methodNamed B.named
  have hlocks := B.notSynchronized
  have hS : va_S A s.heap s.heap [] := va_S.rf
  have hF : cF (fun b9 => b9 = o ∨ b9 = a1_o ∨ b9 = a2_o ∨ b9 = a3_o ∨ b9 = a4_o ∨ b9 = a5_o) ws ws := cF.rf
  have hl := lv_entry ([.ref o]) (n := 3) (Nat.le_of_ble_eq_true rfl)
  rw [lg_entry_eq]
  generalize (lg_sl ([.ref o]) ++ List.replicate (3 - (lg_sl ([.ref o])).length) Slot.unset).toArray = ls at hl ⊢
  have hl : lv_has ls 3 [(0, .ref o)] := hl
  have k_0 : (0 : Int32).toInt = 0 := by decide
  have k_1 : (1 : Int32).toInt = 1 := by decide
  have k_1000000 : (1000000 : Int32).toInt = 1000000 := by decide
  obtain ⟨hsp_o, hj_o, hG_a1_o, hG_a2_o, hG_a3_o, hG_a4_o, hG_a5_o⟩ := c5 (j := some x1) hD hT hG_o hM_o
  obtain ⟨hG_b1, hG_s1, hJ_x1⟩ := w3sh hD hT hG_x1 hb9 hM_x1
  refine lv_iconst (v := 0) hx hb dX8_advance_0 (by decide) ?_
  refine lv_istore_n (lv' := [(1, .int (0 : Int32)), (0, .ref o)]) hx hb dX8_advance_1 rfl hl (by decide) rfl (fun ls hl => ?_)
  have loop_2 : ∀ (n : Nat) (i : Nat) (yl : Int32) (tl : Nat) (spl : Int32) (fdl : Int64) (g1 : Nat → Int32) (g2 : Nat → Int32) (g3 : Nat → Int32) (g4 : Nat → Int32) (g5 : Nat → Int64), (i ≤ 1000000) → (tl ≤ 200000) → ((spl = 0 ∧ cSt kq w h t1 o1 n1 fs s9 i yl (nI tl) g1 g2 g3 g4 g5) ∨ (spl = 1 ∧ ∃ u, cRun kq w h t1 o1 n1 fs s9 1 u)) → 1000000 - i < n → ∀ (wl2 : va_W), cF (fun b9 => b9 = o ∨ b9 = a1_o ∨ b9 = a2_o ∨ b9 = a3_o ∨ b9 = a4_o ∨ b9 = a5_o) ws wl2 → va_D A wl2 → cT cy G wl2 → cIn wl2 o (.inr (7, [.ref x1, .int yl, .int (nI tl), .int spl, .long fdl, .ref a1_o, .ref a2_o, .ref a3_o, .ref a4_o, .ref a5_o])) → cIn wl2 x1 (.inr (kq, .ref b1 :: .ref s1 :: .int (nI t1) :: .long o1 :: .long n1 :: ms1)) → cIn wl2 s1 (.inl (cy 0, 44, .inl fs)) → cIn wl2 a1_o (.inl (cy 0, 6, .inl g1)) → cIn wl2 a2_o (.inl (cy 0, 6, .inl g2)) → cIn wl2 a3_o (.inl (cy 0, 6, .inl g3)) → cIn wl2 a4_o (.inl (cy 0, 6, .inl g4)) → cIn wl2 a5_o (.inl (cy 1, 6, .inr (.inl g5))) → ∀ (H : Heap) (locs : List Loc), va_P D vwCl wl2 H → va_S A s.heap H locs → ∀ (ls : Array Slot), lv_has ls 3 [(1, .int (nI i)), (0, .ref o)] → W p l e (headSpec wsX8_advance ({ frames := 5, cells := 0, slots := 0, locals := 122 })).room s m #[Value.ref o] below meth c H locs 0 0 (MQ below (va_Qi (fun r0 u => ∃ w1, u = (G, w1) ∧ cF (fun b9 => b9 = o ∨ b9 = a1_o ∨ b9 = a2_o ∨ b9 = a3_o ∨ b9 = a4_o ∨ b9 = a5_o) ws w1 ∧ ((r0 = 1 ∧ ∃ u y g1 g2 g3 g4 g5, cRun kq w h t1 o1 n1 fs s9 2 u ∧ cRel w o1 n1 fs u y (nI u.2.2) g1 g2 g3 g4 g5 ∧ wkC cy w1 o x1 a1_o a2_o a3_o a4_o a5_o y (nI u.2.2) 0 (picL w u.2.1 h) g1 g2 g3 g4 g5) ∨ (r0 = 0 ∧ ∃ q u y tr sp fd g1 g2 g3 g4 g5, cRun kq w h t1 o1 n1 fs s9 q u ∧ ((q = 0 ∧ sp = 0) ∨ (q = 1 ∧ sp = 1)) ∧ wkC cy w1 o x1 a1_o a2_o a3_o a4_o a5_o y tr sp fd g1 g2 g3 g4 g5))) (cB D cy A) A) #[Value.ref o] s 0 0 A) (F0 m 2 ls []) := by
    intro n
    induction n with
    | zero => intro i yl tl spl fdl g1 g2 g3 g4 g5 j2_0 j2_1 j2_2 hn; exact absurd hn (Nat.not_lt_zero _)
    | succ n ih_2 =>
      intro i yl tl spl fdl g1 g2 g3 g4 g5 j2_0 j2_1 j2_2 hn_2 wl2 hF hD hT hM_o hM_x1 hM_s1 hM_a1_o hM_a2_o hM_a3_o hM_a4_o hM_a5_o H locs hP hS ls hl
      have ii : (nI i).toInt = (i : Int) := nI_toInt (by omega)
      have hsl_spl : isBo spl := j2_2.elim (fun z9 => Or.inl z9.1) (fun z9 => Or.inr z9.1)
      refine lv_iload_n hx hb dX8_advance_2 rfl (lv_at hl 0 rfl) ?_
      refine lv_ldc hx hb hown (hts (.constant RX8 51 (1000000)) (by decide +kernel)) dX8_advance_3 ?_
      refine lv_icmp_ge (tgt := 60) hx hb dX8_advance_5 (by decide) (fun c5 => ?_) (fun c5 => ?_)
      · skip
        have d5 := c5
        rw [fa_le] at d5
        refine lv_iconst (v := 0) hx hb dX8_advance_60 (by decide) ?_
        exact W.zret (v := (0 : Int32)) hx hb hr (by decide) (fun t ht hW => ⟨⟨_, (G, wl2), rfl, ⟨wl2, rfl, hF, (Or.inr ⟨rfl, (by rcases j2_2 with ⟨z1, z2⟩ | ⟨z1, z2⟩; (have hy9 : yl.toInt < 0 := (by rcases Int.lt_or_le yl.toInt 0 with y9 | y9; exact y9; (have y8 := cSt_b hg9 z2 (by omega) y9; first | (exfalso; omega) | exact absurd ⟨by omega, by omega⟩ b12 | exact absurd z1 c19)); obtain ⟨u9, y1⟩ := cSt_none z2 hy9; exact ⟨0, u9, _, _, _, _, _, _, _, _, _, y1, Or.inl ⟨rfl, z1⟩, ⟨hM_o, hM_a1_o, hM_a2_o, hM_a3_o, hM_a4_o, hM_a5_o⟩⟩); (obtain ⟨u9, y1⟩ := z2; exact ⟨1, u9, _, _, _, _, _, _, _, _, _, y1, Or.inr ⟨rfl, z1⟩, ⟨hM_o, hM_a1_o, hM_a2_o, hM_a3_o, hM_a4_o, hM_a5_o⟩⟩))⟩)⟩, by show va_P D vwCl wl2 t.heap; rw [ht]; exact hP, hD, hT⟩, hS.F ht⟩) hS.2.2 dX8_advance_61
      · skip
        have d5 := c5
        rw [fa_le] at d5
        skip
        refine lv_aload_n hx hb dX8_advance_8 rfl (lv_at hl 1 rfl) ?_
        refine t_calli (va_runV (g := F0 m 9 ls ([.ref o])) (As := []) (rest := []) ⟨hx, hb, hml, hown, hts⟩ (c_X8_hasRow_x l D cy A G wl2 o hD hT hG_o hM_o hG_x1 hM_x1 hM_s1 hM_a1_o hM_a2_o hM_a3_o hM_a4_o hM_a5_o hb9 ht9) (cwV 0 hts gX8_advance_X8_hasRow rfl rfl rfl (by decide +kernel) ⟨Nat.le_of_ble_eq_true rfl, Nat.le_of_ble_eq_true rfl⟩) (c_preV hM_o rfl hP hK hA hS hV) rfl rfl hl.1 rfl (lv_room (Nat.le_of_ble_eq_true rfl)) dX8_advance_9 ⟨Nat.le_of_ble_eq_true rfl, Nat.le_of_ble_eq_true rfl⟩) hS (fun r9 u H locs q9 hP9 hD9 hT9 hS => ?_)
        obtain ⟨rfl, q9⟩ := q9
        have hP : va_P D vwCl wl2 H := hP9
        refine lv_if_eq (tgt := 60) hx hb dX8_advance_12 (by decide) (fun c12 => ?_) (fun c12 => ?_)
        · skip
          have b12 := bo_f q9 c12
          refine lv_iconst (v := 0) hx hb dX8_advance_60 (by decide) ?_
          exact W.zret (v := (0 : Int32)) hx hb hr (by decide) (fun t ht hW => ⟨⟨_, (G, wl2), rfl, ⟨wl2, rfl, hF, (Or.inr ⟨rfl, (by rcases j2_2 with ⟨z1, z2⟩ | ⟨z1, z2⟩; (have hy9 : yl.toInt < 0 := (by rcases Int.lt_or_le yl.toInt 0 with y9 | y9; exact y9; (have y8 := cSt_b hg9 z2 (by omega) y9; first | (exfalso; omega) | exact absurd ⟨by omega, by omega⟩ b12 | exact absurd z1 c19)); obtain ⟨u9, y1⟩ := cSt_none z2 hy9; exact ⟨0, u9, _, _, _, _, _, _, _, _, _, y1, Or.inl ⟨rfl, z1⟩, ⟨hM_o, hM_a1_o, hM_a2_o, hM_a3_o, hM_a4_o, hM_a5_o⟩⟩); (obtain ⟨u9, y1⟩ := z2; exact ⟨1, u9, _, _, _, _, _, _, _, _, _, y1, Or.inr ⟨rfl, z1⟩, ⟨hM_o, hM_a1_o, hM_a2_o, hM_a3_o, hM_a4_o, hM_a5_o⟩⟩))⟩)⟩, by show va_P D vwCl wl2 t.heap; rw [ht]; exact hP, hD, hT⟩, hS.F ht⟩) hS.2.2 dX8_advance_61
        · skip
          have b12 := bo_t q9 c12
          refine lv_aload_n hx hb dX8_advance_15 rfl (lv_at hl 1 rfl) ?_
          refine t_get (v := .int spl) (C := RX8) (T := TX8) (N := 10) hx hb hts (by decide +kernel) hown hK hP hM_o rfl 3 (by decide) (hts (.fieldLink RX8 20 "ShadowBench$Walk" "spent" "Z") (by decide +kernel)) (fun _ h9 => h9) rfl dX8_advance_16 ?_
          refine lv_if_ne (tgt := 60) hx hb dX8_advance_19 (by decide) (fun c19 => ?_) (fun c19 => ?_)
          · skip
            have d19 := c19
            rw [fa_eq] at d19
            refine lv_iconst (v := 0) hx hb dX8_advance_60 (by decide) ?_
            exact W.zret (v := (0 : Int32)) hx hb hr (by decide) (fun t ht hW => ⟨⟨_, (G, wl2), rfl, ⟨wl2, rfl, hF, (Or.inr ⟨rfl, (by rcases j2_2 with ⟨z1, z2⟩ | ⟨z1, z2⟩; (have hy9 : yl.toInt < 0 := (by rcases Int.lt_or_le yl.toInt 0 with y9 | y9; exact y9; (have y8 := cSt_b hg9 z2 (by omega) y9; first | (exfalso; omega) | exact absurd ⟨by omega, by omega⟩ b12 | exact absurd z1 c19)); obtain ⟨u9, y1⟩ := cSt_none z2 hy9; exact ⟨0, u9, _, _, _, _, _, _, _, _, _, y1, Or.inl ⟨rfl, z1⟩, ⟨hM_o, hM_a1_o, hM_a2_o, hM_a3_o, hM_a4_o, hM_a5_o⟩⟩); (obtain ⟨u9, y1⟩ := z2; exact ⟨1, u9, _, _, _, _, _, _, _, _, _, y1, Or.inr ⟨rfl, z1⟩, ⟨hM_o, hM_a1_o, hM_a2_o, hM_a3_o, hM_a4_o, hM_a5_o⟩⟩))⟩)⟩, by show va_P D vwCl wl2 t.heap; rw [ht]; exact hP, hD, hT⟩, hS.F ht⟩) hS.2.2 dX8_advance_61
          · skip
            have d19 := c19
            rw [fa_eq] at d19
            obtain ⟨d9, hd9, rfl⟩ : ∃ d, d < h ∧ yl = nI d := ⟨yl.toNatClampNeg, by have := m_cl (x := yl) b12.1; omega, (cl_nI b12.1).symm⟩
            have id9 : (nI d9).toInt = (d9 : Int) := nI_toInt (by omega)
            have st9 : cSt kq w h t1 o1 n1 fs s9 i (nI d9) (nI tl) g1 g2 g3 g4 g5 := j2_2.elim (fun z9 => z9.2) (fun z9 => absurd (c19.symm.trans z9.1) (by decide))
            obtain ⟨j9, nx9, to9, lv9, hi9⟩ := cSt_lv hb9 hg9 st9 hd9 j2_1 hx9
            have m09 := cLv_m0 hb9 lv9
            refine lv_aload_n hx hb dX8_advance_22 rfl (lv_at hl 1 rfl) ?_
            refine t_calli (va_runV (g := F0 m 23 ls ([.ref o])) (As := []) (rest := []) ⟨hx, hb, hml, hown, hts⟩ (c_X8_nextGoingOn_x l D cy A G wl2 o hD hT hG_o hM_o hG_x1 hM_x1 hM_s1 hM_a1_o hM_a2_o hM_a3_o hM_a4_o hM_a5_o hb9 ht9 hd9 m09.1 m09.2 j2_1) (cwV 0 hts gX8_advance_X8_nextGoingOn rfl rfl rfl (by decide +kernel) ⟨Nat.le_of_ble_eq_true rfl, Nat.le_of_ble_eq_true rfl⟩) (c_preV hM_o rfl hP hK hA hS hV) rfl rfl hl.1 rfl (lv_room (Nat.le_of_ble_eq_true rfl)) dX8_advance_23 ⟨Nat.le_of_ble_eq_true rfl, Nat.le_of_ble_eq_true rfl⟩) hS (fun r23 u H locs q23 hP9 hD9 hT9 hS => ?_)
            obtain ⟨w23, rfl, hF23, q23⟩ := q23
            have hP : va_P D vwCl w23 H := hP9
            have hD : va_D A w23 := hD9
            have hT : cT cy G w23 := hT9
            have hM_x1 := hF23 _ _ (fun z9 => z9.elim (cne hG_x1 hG_o (show (3 : Nat) ≠ 5 by decide)) (fun z9 => z9.elim (cne hG_x1 hG_a1_o (show (3 : Nat) ≠ 20 by decide)) (fun z9 => z9.elim (cne hG_x1 hG_a2_o (show (3 : Nat) ≠ 21 by decide)) (fun z9 => z9.elim (cne hG_x1 hG_a3_o (show (3 : Nat) ≠ 22 by decide)) (fun z9 => z9.elim (cne hG_x1 hG_a4_o (show (3 : Nat) ≠ 23 by decide)) (cne hG_x1 hG_a5_o (show (3 : Nat) ≠ 1 by decide))))))) hM_x1
            have hM_s1 := hF23 _ _ (fun z9 => z9.elim (cne hG_s1 hG_o (show (14 : Nat) ≠ 5 by decide)) (fun z9 => z9.elim (cne hG_s1 hG_a1_o (show (14 : Nat) ≠ 20 by decide)) (fun z9 => z9.elim (cne hG_s1 hG_a2_o (show (14 : Nat) ≠ 21 by decide)) (fun z9 => z9.elim (cne hG_s1 hG_a3_o (show (14 : Nat) ≠ 22 by decide)) (fun z9 => z9.elim (cne hG_s1 hG_a4_o (show (14 : Nat) ≠ 23 by decide)) (cne hG_s1 hG_a5_o (show (14 : Nat) ≠ 1 by decide))))))) hM_s1
            have hF := hF.tr hF23
            rcases q23 with ⟨m23, hm23, hno23, hte23, hlt23, hr23, hW23⟩ | ⟨m23, hm23, hno23, hlt23, hsp23, hr23, hW23⟩
            · skip
              have hM_o : cIn w23 o (.inr (7, [.ref x1, .int (nI d9), .int (nI (tl + (m23 - nx9 d9) + 1)), .int spl, .long fdl, .ref a1_o, .ref a2_o, .ref a3_o, .ref a4_o, .ref a5_o])) := hW23.1
              have hM_a1_o : cIn w23 a1_o (.inl (cy 0, 6, .inl (upd g1 d9 (nI (m23 + 1))))) := hW23.2.1
              have hM_a2_o : cIn w23 a2_o (.inl (cy 0, 6, .inl g2)) := hW23.2.2.1
              have hM_a3_o : cIn w23 a3_o (.inl (cy 0, 6, .inl g3)) := hW23.2.2.2.1
              have hM_a4_o : cIn w23 a4_o (.inl (cy 0, 6, .inl g4)) := hW23.2.2.2.2.1
              have hM_a5_o : cIn w23 a5_o (.inl (cy 1, 6, .inr (.inl g5))) := hW23.2.2.2.2.2
              subst hr23
              have i23 : (nI m23).toInt = (m23 : Int) := nI_toInt (by have := pw_64 (w := w) (by omega); omega)
              refine lv_istore_n (lv' := [(2, .int (nI m23)), (1, .int (nI i)), (0, .ref o)]) hx hb dX8_advance_26 rfl hl (by decide) rfl (fun ls hl => ?_)
              refine lv_iload_n hx hb dX8_advance_27 rfl (lv_at hl 0 rfl) ?_
              refine lv_if_ge (tgt := 44) hx hb dX8_advance_28 (by decide) (fun c28 => ?_) (fun c28 => ?_)
              · skip
                have d28 := c28
                rw [fa_le] at d28
                refine lv_aload_n hx hb dX8_advance_44 rfl (lv_at hl 2 rfl) ?_
                refine lv_iload_n hx hb dX8_advance_45 rfl (lv_at hl 0 rfl) ?_
                refine t_calli (va_runV (g := F0 m 46 ls ([.int (nI m23), .ref o])) (As := [.int (nI m23)]) (rest := []) ⟨hx, hb, hml, hown, hts⟩ (c_X8_completes_x l D cy A G w23 o m23 hD hT hG_o hM_o hG_x1 hM_x1 hM_s1 hM_a1_o hM_a2_o hM_a3_o hM_a4_o hM_a5_o hb9 ht9 hd9 hm23.2 (fun z9 => cLv_is hb9 lv9 hm23.2 z9)) (cwV 1 hts gX8_advance_X8_completes rfl rfl rfl (by decide +kernel) ⟨Nat.le_of_ble_eq_true rfl, Nat.le_of_ble_eq_true rfl⟩) (c_preV hM_o rfl hP hK hA hS hV) rfl rfl hl.1 rfl (lv_room (Nat.le_of_ble_eq_true rfl)) dX8_advance_46 ⟨Nat.le_of_ble_eq_true rfl, Nat.le_of_ble_eq_true rfl⟩) hS (fun r46 u H locs q46 hP9 hD9 hT9 hS => ?_)
                obtain ⟨w46, rfl, hF46, q46⟩ := q46
                have hP : va_P D vwCl w46 H := hP9
                have hD : va_D A w46 := hD9
                have hT : cT cy G w46 := hT9
                have hM_x1 := hF46 _ _ (fun z9 => z9.elim (cne hG_x1 hG_o (show (3 : Nat) ≠ 5 by decide)) (fun z9 => z9.elim (cne hG_x1 hG_a1_o (show (3 : Nat) ≠ 20 by decide)) (fun z9 => z9.elim (cne hG_x1 hG_a2_o (show (3 : Nat) ≠ 21 by decide)) (fun z9 => z9.elim (cne hG_x1 hG_a3_o (show (3 : Nat) ≠ 22 by decide)) (fun z9 => z9.elim (cne hG_x1 hG_a4_o (show (3 : Nat) ≠ 23 by decide)) (cne hG_x1 hG_a5_o (show (3 : Nat) ≠ 1 by decide))))))) hM_x1
                have hM_s1 := hF46 _ _ (fun z9 => z9.elim (cne hG_s1 hG_o (show (14 : Nat) ≠ 5 by decide)) (fun z9 => z9.elim (cne hG_s1 hG_a1_o (show (14 : Nat) ≠ 20 by decide)) (fun z9 => z9.elim (cne hG_s1 hG_a2_o (show (14 : Nat) ≠ 21 by decide)) (fun z9 => z9.elim (cne hG_s1 hG_a3_o (show (14 : Nat) ≠ 22 by decide)) (fun z9 => z9.elim (cne hG_s1 hG_a4_o (show (14 : Nat) ≠ 23 by decide)) (cne hG_s1 hG_a5_o (show (14 : Nat) ≠ 1 by decide))))))) hM_s1
                have hF := hF.tr hF46
                rcases q46 with ⟨hd46, hr46, v3_46, v4_46, hv3_46, hv4_46, hW46⟩ | ⟨hd46, hr46, hW46⟩
                · skip
                  have hM_o : cIn w46 o (.inr (7, [.ref x1, .int (nI (d9 + 1)), .int (nI (tl + (m23 - nx9 d9) + 1)), .int spl, .long fdl, .ref a1_o, .ref a2_o, .ref a3_o, .ref a4_o, .ref a5_o])) := hW46.1
                  have hM_a1_o : cIn w46 a1_o (.inl (cy 0, 6, .inl (upd ((upd g1 d9 (nI (m23 + 1)))) (d9 + 1) 0))) := hW46.2.1
                  have hM_a2_o : cIn w46 a2_o (.inl (cy 0, 6, .inl (upd g2 (d9 + 1) (fs (d9 + 1))))) := hW46.2.2.1
                  have hM_a3_o : cIn w46 a3_o (.inl (cy 0, 6, .inl (upd g3 (d9 + 1) v3_46))) := hW46.2.2.2.1
                  have hM_a4_o : cIn w46 a4_o (.inl (cy 0, 6, .inl (upd g4 (d9 + 1) v4_46))) := hW46.2.2.2.2.1
                  have hM_a5_o : cIn w46 a5_o (.inl (cy 1, 6, .inr (.inl (vp_updL g5 (d9 + 1) (picN w d9 m23 g5))))) := hW46.2.2.2.2.2
                  subst hr46
                  refine lv_if_eq (tgt := 54) hx hb dX8_advance_49 (by decide) (fun c49 => ?_) (fun c49 => ?_)
                  · skip
                    have d49 := c49
                    rw [fa_eq] at d49
                    refine lv_iinc (v := (nI (i + 1))) (lv' := [(1, .int (nI (i + 1))), (2, .int (nI m23)), (0, .ref o)]) hx hb dX8_advance_54 hl (k := 1) rfl (nI_1 _) (by decide) rfl (fun ls hl => ?_)
                    refine lv_goto (tgt := 2) hx hb dX8_advance_57 (by decide) ?_
                    exact ih_2 (i + 1) ((nI (d9 + 1))) ((tl + (m23 - nx9 d9) + 1)) spl fdl ((upd ((upd g1 d9 (nI (m23 + 1)))) (d9 + 1) 0)) ((upd g2 (d9 + 1) (fs (d9 + 1)))) ((upd g3 (d9 + 1) v3_46)) ((upd g4 (d9 + 1) v4_46)) ((vp_updL g5 (d9 + 1) (picN w d9 m23 g5))) (by omega) (by omega) (by first | exact Or.inl ⟨c19, cLv_push hb9 to9 lv9 hm23.1 hm23.2 hno23 hte23 hlt23 hd46 hi9 hv3_46 hv4_46⟩ | exact Or.inl ⟨c19, (cLv_last hb9 to9 lv9 hm23.1 hm23.2 hno23 hte23 hlt23 hd46 hi9).2 (bo_no hr46 c49)⟩ | exact adv_B to9 lv9 hm23 hno23 hlt23 hsp23 hi9 (by omega)) (by omega) w46 hF hD hT hM_o hM_x1 hM_s1 hM_a1_o hM_a2_o hM_a3_o hM_a4_o hM_a5_o _ _ hP hS ls (lv_sub hl [0, 2] rfl)
                  · first | exact absurd c49 (by decide) | exact absurd (by decide) c49
                · skip
                  have hM_o : cIn w46 o (.inr (7, [.ref x1, .int (nI d9), .int (nI (tl + (m23 - nx9 d9) + 1)), .int spl, .long (picN w d9 m23 g5), .ref a1_o, .ref a2_o, .ref a3_o, .ref a4_o, .ref a5_o])) := hW46.1
                  have hM_a1_o : cIn w46 a1_o (.inl (cy 0, 6, .inl (upd g1 d9 (nI (m23 + 1))))) := hW46.2.1
                  have hM_a2_o : cIn w46 a2_o (.inl (cy 0, 6, .inl g2)) := hW46.2.2.1
                  have hM_a3_o : cIn w46 a3_o (.inl (cy 0, 6, .inl g3)) := hW46.2.2.2.1
                  have hM_a4_o : cIn w46 a4_o (.inl (cy 0, 6, .inl g4)) := hW46.2.2.2.2.1
                  have hM_a5_o : cIn w46 a5_o (.inl (cy 1, 6, .inr (.inl g5))) := hW46.2.2.2.2.2
                  refine lv_if_eq (tgt := 54) hx hb dX8_advance_49 (by decide) (fun c49 => ?_) (fun c49 => ?_)
                  · skip
                    have d49 := c49
                    rw [fa_eq] at d49
                    refine lv_iinc (v := (nI (i + 1))) (lv' := [(1, .int (nI (i + 1))), (2, .int (nI m23)), (0, .ref o)]) hx hb dX8_advance_54 hl (k := 1) rfl (nI_1 _) (by decide) rfl (fun ls hl => ?_)
                    refine lv_goto (tgt := 2) hx hb dX8_advance_57 (by decide) ?_
                    exact ih_2 (i + 1) (nI d9) ((tl + (m23 - nx9 d9) + 1)) spl (picN w d9 m23 g5) ((upd g1 d9 (nI (m23 + 1)))) g2 g3 g4 g5 (by omega) (by omega) (by first | exact Or.inl ⟨c19, cLv_push hb9 to9 lv9 hm23.1 hm23.2 hno23 hte23 hlt23 hd46 hi9 hv3_46 hv4_46⟩ | exact Or.inl ⟨c19, (cLv_last hb9 to9 lv9 hm23.1 hm23.2 hno23 hte23 hlt23 hd46 hi9).2 (bo_no hr46 c49)⟩ | exact adv_B to9 lv9 hm23 hno23 hlt23 hsp23 hi9 (by omega)) (by omega) w46 hF hD hT hM_o hM_x1 hM_s1 hM_a1_o hM_a2_o hM_a3_o hM_a4_o hM_a5_o _ _ hP hS ls (lv_sub hl [0, 2] rfl)
                  · skip
                    have d49 := c49
                    rw [fa_eq] at d49
                    refine lv_iconst (v := 1) hx hb dX8_advance_52 (by decide) ?_
                    exact W.zret (v := (1 : Int32)) hx hb hr (by decide) (fun t ht hW => ⟨⟨_, (G, w46), rfl, ⟨w46, rfl, hF, (Or.inl ⟨rfl, (by obtain ⟨u9, y1, y2, y3, y4⟩ := (cLv_last (i := i) hb9 to9 lv9 hm23.1 hm23.2 hno23 hte23 hlt23 hd46 hi9).1 (bo_get hr46 c49); rw [← y4] at y2; refine ⟨u9, _, _, _, _, _, _, y1, y2, ?_⟩; rw [← y3, y4]; exact ⟨(by rw [c19] at hM_o; exact hM_o), hM_a1_o, hM_a2_o, hM_a3_o, hM_a4_o, hM_a5_o⟩)⟩)⟩, by show va_P D vwCl w46 t.heap; rw [ht]; exact hP, hD, hT⟩, hS.F ht⟩) hS.2.2 dX8_advance_53
              · skip
                have d28 := c28
                rw [fa_le] at d28
                exfalso; omega
            · skip
              have hsb23 : isBo (if m23 < 2 ^ w then (1 : Int32) else 0) := by split; exact Or.inr rfl; exact Or.inl rfl
              have hM_o : cIn w23 o (.inr (7, [.ref x1, .int (nI d9), .int (nI (tl + (m23 - nx9 d9))), .int (if m23 < 2 ^ w then 1 else 0), .long fdl, .ref a1_o, .ref a2_o, .ref a3_o, .ref a4_o, .ref a5_o])) := hW23.1
              have hM_a1_o : cIn w23 a1_o (.inl (cy 0, 6, .inl g1)) := hW23.2.1
              have hM_a2_o : cIn w23 a2_o (.inl (cy 0, 6, .inl g2)) := hW23.2.2.1
              have hM_a3_o : cIn w23 a3_o (.inl (cy 0, 6, .inl g3)) := hW23.2.2.2.1
              have hM_a4_o : cIn w23 a4_o (.inl (cy 0, 6, .inl g4)) := hW23.2.2.2.2.1
              have hM_a5_o : cIn w23 a5_o (.inl (cy 1, 6, .inr (.inl g5))) := hW23.2.2.2.2.2
              subst hr23
              refine lv_istore_n (lv' := [(2, .int (-1 : Int32)), (1, .int (nI i)), (0, .ref o)]) hx hb dX8_advance_26 rfl hl (by decide) rfl (fun ls hl => ?_)
              refine lv_iload_n hx hb dX8_advance_27 rfl (lv_at hl 0 rfl) ?_
              refine lv_if_ge (tgt := 44) hx hb dX8_advance_28 (by decide) (fun c28 => ?_) (fun c28 => ?_)
              · first | exact absurd c28 (by decide) | exact absurd (by decide) c28
              · skip
                have d28 := c28
                rw [fa_le] at d28
                refine lv_aload_n hx hb dX8_advance_31 rfl (lv_at hl 2 rfl) ?_
                refine lv_dup hx hb dX8_advance_32 rfl ?_
                refine t_get (v := .int (nI d9)) (C := RX8) (T := TX8) (N := 10) hx hb hts (by decide +kernel) hown hK hP hM_o rfl 1 (by decide) (hts (.fieldLink RX8 13 "ShadowBench$Walk" "y" "I") (by decide +kernel)) (fun _ h9 => h9) rfl dX8_advance_33 ?_
                refine lv_iconst (v := 1) hx hb dX8_advance_36 (by decide) ?_
                refine lv_isub hx hb dX8_advance_37 ?_
                refine lv_topi (fun v37 e37 => ?_)
                have i37 : v37.toInt = (nI d9).toInt - (1 : Int32).toInt := by rw [e37]; exact fb_subI (by omega) (by omega)
                refine t_put (v := .int v37) (C := RX8) (T := TX8) (N := 10) (ty0 := tyX8) hx hb hts (by decide +kernel) tyX8_ok nmX8 hown hK hP hD hS hM_o rfl 1 (by decide) (hts (.fieldLink RX8 13 "ShadowBench$Walk" "y" "I") (by decide +kernel)) (fun _ h9 => h9) rfl rfl rfl (Nat.le_of_ble_eq_true rfl) dX8_advance_38 (fun H locs w38 hU38 hP hD hS => ?_)
                have hM_x1 := hU38.2 _ _ (cne hG_x1 hG_o (show (3 : Nat) ≠ 5 by decide)) hM_x1
                have hM_s1 := hU38.2 _ _ (cne hG_s1 hG_o (show (14 : Nat) ≠ 5 by decide)) hM_s1
                have hM_a1_o := hU38.2 _ _ (cne hG_a1_o hG_o (show (20 : Nat) ≠ 5 by decide)) hM_a1_o
                have hM_a2_o := hU38.2 _ _ (cne hG_a2_o hG_o (show (21 : Nat) ≠ 5 by decide)) hM_a2_o
                have hM_a3_o := hU38.2 _ _ (cne hG_a3_o hG_o (show (22 : Nat) ≠ 5 by decide)) hM_a3_o
                have hM_a4_o := hU38.2 _ _ (cne hG_a4_o hG_o (show (23 : Nat) ≠ 5 by decide)) hM_a4_o
                have hM_a5_o := hU38.2 _ _ (cne hG_a5_o hG_o (show (1 : Nat) ≠ 5 by decide)) hM_a5_o
                have hT := hT.up hU38 hG_o ⟨(some x1), _, _, _, _, _, _, _, _, _, rfl, hsb23, (fun _ z => Option.some.inj z ▸ ⟨_, _, hG_x1⟩), hG_a1_o, hG_a2_o, hG_a3_o, hG_a4_o, hG_a5_o⟩
                have hM_o : cIn w38 o (.inr (7, [.ref x1, .int v37, .int (nI (tl + (m23 - nx9 d9))), .int (if m23 < 2 ^ w then 1 else 0), .long fdl, .ref a1_o, .ref a2_o, .ref a3_o, .ref a4_o, .ref a5_o])) := hU38.1
                have hF := hF.tr (cF.up hU38 (Or.inl rfl))
                refine lv_goto (tgt := 54) hx hb dX8_advance_41 (by decide) ?_
                refine lv_iinc (v := (nI (i + 1))) (lv' := [(1, .int (nI (i + 1))), (2, .int (-1 : Int32)), (0, .ref o)]) hx hb dX8_advance_54 hl (k := 1) rfl (nI_1 _) (by decide) rfl (fun ls hl => ?_)
                refine lv_goto (tgt := 2) hx hb dX8_advance_57 (by decide) ?_
                exact ih_2 (i + 1) v37 ((tl + (m23 - nx9 d9))) (if m23 < 2 ^ w then 1 else 0) fdl g1 g2 g3 g4 g5 (by omega) (by omega) (by first | exact Or.inl ⟨c19, cLv_push hb9 to9 lv9 hm23.1 hm23.2 hno23 hte23 hlt23 hd46 hi9 hv3_46 hv4_46⟩ | exact Or.inl ⟨c19, (cLv_last hb9 to9 lv9 hm23.1 hm23.2 hno23 hte23 hlt23 hd46 hi9).2 (bo_no hr46 c49)⟩ | exact adv_B to9 lv9 hm23 hno23 hlt23 hsp23 hi9 (by omega)) (by omega) w38 hF hD hT hM_o hM_x1 hM_s1 hM_a1_o hM_a2_o hM_a3_o hM_a4_o hM_a5_o _ _ hP hS ls (lv_sub hl [0, 2] rfl)
  exact loop_2 (1000000 + 1) 0 y_o t0 sp_o fd_o f1 f2 f3 f4 f5 (by omega) (ht0) (Or.inl ⟨hs9, cSt_0 hc9⟩) (by omega) ws hF hD hT hM_o hM_x1 hM_s1 hM_a1_o hM_a2_o hM_a3_o hM_a4_o hM_a5_o _ _ hP hS ls (lv_sub hl [0, 1] rfl)

def anC (q k : Nat) : Int32 := if q = 1 then -5 else nI k
def anS (q k a : Nat) : Int32 := if q = 1 then -5 else if k = 0 then -2 else if a = 0 then 0 else if a = k then 1 else 2
def anF (q : Nat) (p : Int64) : Int64 := if q = 2 then p else if q = 1 then -5 else -2
def anR (q k : Nat) : Int32 := if q = 2 then nI k else -5
theorem rg_cs {w h : Nat} {fs : Nat → Int32} (hb : 1 ≤ w ∧ w ≤ 6 ∧ 1 ≤ h ∧ h ≤ 6) (hr : ∀ y l, y < 4 → l < lnC w h y → 0 ≤ (fs (y * 11 + l)).toInt ∧ (fs (y * 11 + l)).toInt ≤ 6) : cGd w h fs (0, fun _ => 0, 0) := wGd_0 (by omega) (fun x hx => (hr 1 x (by decide) hx).1) rfl
theorem rg_r {w h j : Nat} {r : Nat → Nat → Int32} (hh : 0 < (r 4 j).toNatClampNeg) (hr : ∀ y l, y < 2 → l < lnC (r 3 j).toNatClampNeg (r 4 j).toNatClampNeg y → 0 ≤ (r 5 (44 * j + 11 * y + l)).toInt ∧ (r 5 (44 * j + 11 * y + l)).toInt ≤ 6) : rGd j r (0, fun _ => 0, 0) := wGd_0 hh (fun x hx => (hr 1 x (by decide) hx).1) rfl
theorem rRel_0 {rw : Nat → Int32} (e : rw 0 = -1) : rRel (0, fun _ => 0, 0) 0 0 rw := by
  refine ⟨rfl, rfl, fun i hi => ?_⟩
  have z : i = 0 := by have : (i : Int) ≤ 0 := hi; omega
  subst z
  rw [e]
  rfl
theorem tb_bit {p : Int64} {s : Nat} (hs : s < 64) {v : Int32} (e : v = ((p.toUInt64 >>> ((nI s).toInt64.toUInt64 &&& Int64.toUInt64 63)).toInt64 &&& 1).toInt32) : v = if lb p s then 1 else 0 := by
  rw [e, ub_lb p hs]
  cases lb p s <;> rfl

theorem su_ans {k a : Nat} {x r : Int32} (hk : k ≤ 200000) (e : x = nI a) (ha : a ≤ k) (h : (nI k = 0 ∧ r = -2) ∨ (¬ nI k = 0 ∧ x = 0 ∧ r = 0) ∨ (¬ nI k = 0 ∧ ¬ x = 0 ∧ x = nI k ∧ r = 1) ∨ (¬ nI k = 0 ∧ ¬ x = 0 ∧ ¬ x = nI k ∧ r = 2)) : r = anS 0 k a := by
  have z0 : ∀ n, n ≤ 200000 → (nI n = 0 ↔ n = 0) := fun n hn => by
    constructor
    · intro z
      have y := congrArg Int32.toInt z
      rw [nI_toInt (by omega)] at y
      have : (0 : Int32).toInt = 0 := rfl
      omega
    · intro z; rw [z]; rfl
  have zk : nI a = nI k ↔ a = k := by
    constructor
    · intro z
      have y := congrArg Int32.toInt z
      rw [nI_toInt (by omega), nI_toInt (by omega)] at y
      omega
    · intro z; rw [z]
  rw [e, z0 k hk, z0 a (by omega), zk] at h
  unfold anS
  rw [if_neg (by decide)]
  rcases h with ⟨h1, h2⟩ | ⟨h1, h2, h3⟩ | ⟨h1, h2, h3, h4⟩ | ⟨h1, h2, h3, h4⟩
  · rw [if_pos h1, h2]
  · rw [if_neg h1, if_pos h2, h3]
  · rw [if_neg h1, if_neg h2, if_pos h3, h4]
  · rw [if_neg h1, if_neg h2, if_neg h3, h4]

set_option maxHeartbeats 4000000 in
set_option maxRecDepth 100000 in
theorem c_X10_count_y (l : Launch) (D : va_G) (cy : Nat → ClassId) (mo : Nat) (a : Nat → Nat) (f : Nat → Int32) (g : Nat → Int64) (r : Nat → Nat → Int32) (q : Nat → Nat → Int64) (j : Int32) (hD : DM cy mo a) (hI : MI f r) (hr9 : okJob (f 1) j → ∀ y l, y < 2 → l < lnC (r 3 j.toNatClampNeg).toNatClampNeg (r 4 j.toNatClampNeg).toNatClampNeg y → 0 ≤ (r 5 (44 * j.toNatClampNeg + 11 * y + l)).toInt ∧ (r 5 (44 * j.toNatClampNeg + 11 * y + l)).toInt ≤ 6) : Mi l D cy mo a yX10_count wsX10_count ({ frames := 5, cells := 0, slots := 0, locals := 126 }) f g r q [.int j] (fun r0 u => ∃ (dp : Int32), ∃ (tr : Int32), ∃ (sp : Int32), ∃ (fd : Int64), ∃ (rw : Nat → Int32), ∃ (mt : Nat → Int32), u = ((upd (upd (upd (upd f 0 (0 : Int32)) 11 dp) 12 tr) 13 sp), (vp_updL g 14 fd), (va_up (va_up r 10 rw) 9 mt), q) ∧ ((okJob (f 1) j ∧ ∃ q k u, wEn (2 ^ (r 3 j.toNatClampNeg).toNatClampNeg) (r 4 j.toNatClampNeg).toNatClampNeg (rGo j.toNatClampNeg r) (rFi j.toNatClampNeg r) (fun _ _ => False) (fun _ _ => ()) ((0 : Int), (fun _ : Nat => (0 : Nat)), (0 : Nat)) () q k () u ∧ r0 = anC q k) ∨ (¬ okJob (f 1) j ∧ r0 = -1))) := by
  refine Met.ofW (cc := cX10_count) (maxL := 3) (ret := (some .int)) (by decide) rfl ?_
  intro p e s m args below meth c s₁ B hml hv
  obtain ⟨rfl, hP, hK⟩ := hv
  have hx := B.exec
  have hb := B.bytes
  have hr := B.returns
  have hts := atoms_spec (ws := wsX10_count) B.pre
  have hin : ∀ w ∈ u_ws RX10 TX10 35, w ∈ wsX10_count := by decide +kernel
  have hown : s.vm.findClass RX10 = some m.cls := findClass_of_methodNamed B.named
  have hlocks := B.notSynchronized
  have hS : va_S (AM mo a) s.heap s.heap [] := va_S.rf
  have hl := lv_entry ([.ref mo, .int j]) (n := 3) (Nat.le_of_ble_eq_true rfl)
  rw [lg_entry_eq]
  generalize (lg_sl ([.ref mo, .int j]) ++ List.replicate (3 - (lg_sl ([.ref mo, .int j])).length) Slot.unset).toArray = ls at hl ⊢
  have hl : lv_has ls 3 [(0, .ref mo), (1, .int j)] := hl
  have k_m5 : (-5 : Int32).toInt = -5 := by decide
  have k_m1 : (-1 : Int32).toInt = -1 := by decide
  have k_0 : (0 : Int32).toInt = 0 := by decide
  have hI1 := hI.1
  refine lv_aload_n hx hb dX10_count_0 rfl (lv_at hl 0 rfl) ?_
  refine lv_iconst (v := 0) hx hb dX10_count_1 (by decide) ?_
  refine m_put (v := .int (0 : Int32)) (ty := .int) hx hb hts hin hown hK hP hD hS 0 (by decide) rfl (hts (.fieldLink RX10 79 "ShadowBenchModel" "thrown" "I") (by decide +kernel)) rfl (by decide +kernel) rfl rfl (upd f 0 (0 : Int32)) g rfl dX10_count_2 (fun H locs hP hS => ?_)
  refine lv_aload_n hx hb dX10_count_5 rfl (lv_at hl 0 rfl) ?_
  refine lv_iload_n hx hb dX10_count_6 rfl (lv_at hl 1 rfl) ?_
  refine m_calli (As := [.int j]) (rest := []) ⟨hx, hb, hml, hown, hts⟩ (c_X10_isJob l D cy mo a (upd f 0 (0 : Int32)) g r q j hD) (cwV 1 hts gX10_count_X10_isJob rfl rfl rfl (by decide +kernel) ⟨Nat.le_of_ble_eq_true rfl, Nat.le_of_ble_eq_true rfl⟩) hK hP rfl hl.1 rfl (Nat.le_of_ble_eq_true rfl) dX10_count_7 ⟨Nat.le_of_ble_eq_true rfl, Nat.le_of_ble_eq_true rfl⟩ hS (fun r7 u H locs q7 hP hS => ?_)
  obtain ⟨rfl, q7⟩ := q7
  have hP : va_P D vwCl (WM cy mo a (upd f 0 (0 : Int32)) g r q) H := hP
  have q7 : Bo r7 (0 ≤ j.toInt ∧ j.toInt < ((f 1)).toInt) := q7
  refine lv_if_ne (tgt := 15) hx hb dX10_count_10 (by decide) (fun c10 => ?_) (fun c10 => ?_)
  · skip
    have b10 := bo_t q7 c10
    have hh := mi_h hI (x := j) (by omega) (by omega) rfl
    have szw := mi_w hI (x := j) (by omega) (by omega) rfl
    have cw9 := m_cl (x := r 3 j.toNatClampNeg) (by omega)
    have ch9 := m_cl (x := r 4 j.toNatClampNeg) (by omega)
    have gd0 := rg_r (w := 0) (h := 0) (j := j.toNatClampNeg) (r := r) (by omega) (hr9 b10)
    refine lv_aload_n hx hb dX10_count_15 rfl (lv_at hl 0 rfl) ?_
    refine m_callv (As := []) (rest := []) ⟨hx, hb, hml, hown, hts⟩ (c_X10_begin_x l D cy mo a (upd f 0 (0 : Int32)) g r q hD) (cwV 0 hts gX10_count_X10_begin rfl rfl rfl (by decide +kernel) ⟨Nat.le_of_ble_eq_true rfl, Nat.le_of_ble_eq_true rfl⟩) hK hP rfl hl.1 rfl (Nat.le_of_ble_eq_true rfl) dX10_count_16 ⟨Nat.le_of_ble_eq_true rfl, Nat.le_of_ble_eq_true rfl⟩ hS (fun u H locs q16 hP hS => ?_)
    obtain ⟨rw_16, rfl, q16⟩ := q16
    have hP : va_P D vwCl (WM cy mo a (upd (upd (upd (upd f 0 (0 : Int32)) 11 (0 : Int32)) 12 (0 : Int32)) 13 (0 : Int32)) g (va_up r 10 rw_16) q) H := hP
    have q16 : rw_16 = upd ((r 10)) 0 (-1) := q16
    refine lv_iconst (v := 0) hx hb dX10_count_19 (by decide) ?_
    refine lv_istore_n (lv' := [(2, .int (0 : Int32)), (0, .ref mo), (1, .int j)]) hx hb dX10_count_20 rfl hl (by decide) rfl (fun ls hl => ?_)
    have loop_21 : ∀ (n : Nat) (k : Nat) (dpa : Int32) (tra : Int32) (spa : Int32) (fda : Int64) (rwa : Nat → Int32) (mta : Nat → Int32), (-1 ≤ dpa.toInt ∧ dpa.toInt < (r 4 j.toNatClampNeg).toInt) → (0 ≤ tra.toInt ∧ tra.toInt ≤ 200000) → (spa = 0) → (k ≤ 200000) → (∃ s, wFo (2 ^ (r 3 j.toNatClampNeg).toNatClampNeg) (r 4 j.toNatClampNeg).toNatClampNeg (rGo j.toNatClampNeg r) (rFi j.toNatClampNeg r) (fun _ _ => False) (fun _ _ => ()) ((0 : Int), (fun _ : Nat => (0 : Nat)), (0 : Nat)) () k s () ∧ rRel s dpa tra rwa) → (200000 - tra.toInt).toNat < n → ∀ (H : Heap) (locs : List Loc), va_P D vwCl (WM cy mo a (upd (upd (upd (upd f 0 (0 : Int32)) 11 dpa) 12 tra) 13 spa) (vp_updL g 14 fda) (va_up (va_up r 10 rwa) 9 mta) q) H → va_S (AM mo a) s.heap H locs → ∀ (ls : Array Slot), lv_has ls 3 [(2, .int (nI k)), (0, .ref mo), (1, .int j)] → W p l e (headSpec wsX10_count ({ frames := 5, cells := 0, slots := 0, locals := 126 })).room s m #[Value.ref mo, Value.int j] below meth c H locs 0 0 (MQ below (va_Qi (fun r0 u => ∃ (dp : Int32), ∃ (tr : Int32), ∃ (sp : Int32), ∃ (fd : Int64), ∃ (rw : Nat → Int32), ∃ (mt : Nat → Int32), u = ((upd (upd (upd (upd f 0 (0 : Int32)) 11 dp) 12 tr) 13 sp), (vp_updL g 14 fd), (va_up (va_up r 10 rw) 9 mt), q) ∧ ((okJob (f 1) j ∧ ∃ q k u, wEn (2 ^ (r 3 j.toNatClampNeg).toNatClampNeg) (r 4 j.toNatClampNeg).toNatClampNeg (rGo j.toNatClampNeg r) (rFi j.toNatClampNeg r) (fun _ _ => False) (fun _ _ => ()) ((0 : Int), (fun _ : Nat => (0 : Nat)), (0 : Nat)) () q k () u ∧ r0 = anC q k) ∨ (¬ okJob (f 1) j ∧ r0 = -1))) (mB D cy mo a) (AM mo a)) #[Value.ref mo, Value.int j] s 0 0 (AM mo a)) (F0 m 21 ls []) := by
      intro n
      induction n with
      | zero => intro k dpa tra spa fda rwa mta j21_0 j21_1 j21_2 j21_3 j21_4 hn; exact absurd hn (Nat.not_lt_zero _)
      | succ n ih_21 =>
        intro k dpa tra spa fda rwa mta j21_0 j21_1 j21_2 j21_3 j21_4 hn_21 H locs hP hS ls hl
        have ik : (nI k).toInt = (k : Int) := nI_toInt (by omega)
        obtain ⟨s9, fo9, rl9⟩ := j21_4
        have gd9 := wFo_gd gd0 k fo9
        have kl9 : 0 + k ≤ s9.2.2 := gd9.2
        refine lv_aload_n hx hb dX10_count_21 rfl (lv_at hl 1 rfl) ?_
        refine lv_iload_n hx hb dX10_count_22 rfl (lv_at hl 2 rfl) ?_
        refine m_calli (As := [.int j]) (rest := []) ⟨hx, hb, hml, hown, hts⟩ (c_X10_isNext_x l D cy mo a (upd (upd (upd (upd f 0 (0 : Int32)) 11 dpa) 12 tra) 13 spa) (vp_updL g 14 fda) (va_up (va_up r 10 rwa) 9 mta) q j hD hI b10 (show -1 ≤ dpa.toInt ∧ dpa.toInt < (r 4 j.toNatClampNeg).toInt by omega) (show 0 ≤ tra.toInt ∧ tra.toInt ≤ 200000 by omega) rl9 gd9.1) (cwV 1 hts gX10_count_X10_isNext rfl rfl rfl (by decide +kernel) ⟨Nat.le_of_ble_eq_true rfl, Nat.le_of_ble_eq_true rfl⟩) hK hP rfl hl.1 rfl (Nat.le_of_ble_eq_true rfl) dX10_count_23 ⟨Nat.le_of_ble_eq_true rfl, Nat.le_of_ble_eq_true rfl⟩ hS (fun r23 u H locs q23 hP hS => ?_)
        obtain ⟨dp_23, tr_23, sp_23, fd_23, rw_23, mt_23, rfl, q23⟩ := q23
        have hP : va_P D vwCl (WM cy mo a (upd (upd (upd (upd f 0 (0 : Int32)) 11 dp_23) 12 tr_23) 13 sp_23) (vp_updL g 14 fd_23) (va_up (va_up r 10 rw_23) 9 mt_23) q) H := hP
        have q23 : ((r23 = 0 ∨ r23 = 1) ∧ (-1 ≤ dp_23.toInt ∧ dp_23.toInt < ((r 4) j.toNatClampNeg).toInt) ∧ ((tra).toInt ≤ tr_23.toInt ∧ tr_23.toInt ≤ 200000) ∧ (r23 = 1 → (tra).toInt < tr_23.toInt)) ∧ ((r23 = 1 ∧ sp_23 = (spa) ∧ ∃ t, rRun j.toNatClampNeg (va_up (va_up r 10 rwa) 9 mta) s9 2 t ∧ rRel t dp_23 tr_23 rw_23 ∧ fd_23 = picL ((r 3) j.toNatClampNeg).toNatClampNeg t.2.1 ((r 4) j.toNatClampNeg).toNatClampNeg) ∨ (r23 = 0 ∧ ((sp_23 = (spa) ∧ ∃ t, rRun j.toNatClampNeg (va_up (va_up r 10 rwa) 9 mta) s9 0 t) ∨ (sp_23 = 1 ∧ ∃ t, rRun j.toNatClampNeg (va_up (va_up r 10 rwa) 9 mta) s9 1 t)))) := q23
        have b23 := q23.1.2.1
        have t23 := q23.1.2.2.1
        refine lv_if_eq (tgt := 35) hx hb dX10_count_26 (by decide) (fun c26 => ?_) (fun c26 => ?_)
        · skip
          have d26 := c26
          rw [fa_eq] at d26
          have n9 := q23.2.resolve_left (fun z9 => absurd (z9.1.symm.trans c26) (by decide))
          refine lv_aload_n hx hb dX10_count_35 rfl (lv_at hl 1 rfl) ?_
          refine m_get (v := .int sp_23) hx hb hts hin hown hK hP 13 (by decide) rfl (hts (.fieldLink RX10 163 "ShadowBenchModel" "spent" "Z") (by decide +kernel)) rfl dX10_count_36 ?_
          refine lv_if_eq (tgt := 47) hx hb dX10_count_39 (by decide) (fun c39 => ?_) (fun c39 => ?_)
          · skip
            have d39 := c39
            rw [fa_eq] at d39
            refine lv_iload_n hx hb dX10_count_47 rfl (lv_at hl 0 rfl) ?_
            exact W.iret (v := (nI k)) hx hb hr (fun t ht hW => ⟨⟨_, ((upd (upd (upd (upd f 0 (0 : Int32)) 11 dp_23) 12 tr_23) 13 sp_23), (vp_updL g 14 fd_23), (va_up (va_up r 10 rw_23) 9 mt_23), q), rfl, ⟨dp_23, tr_23, sp_23, fd_23, rw_23, mt_23, rfl, (Or.inl ⟨b10, (by rcases n9.2 with ⟨z1, u9, z2⟩ | ⟨z1, u9, z2⟩; (exact ⟨0, k, u9, ⟨s9, fo9, z2, (fun y9 => by cases y9)⟩, rfl⟩); (exact absurd (z1.symm.trans c39) (by decide)))⟩)⟩, by unfold mB; rw [ht]; exact hP⟩, hS.F ht⟩) hS.2.2 dX10_count_48
          · skip
            have d39 := c39
            rw [fa_eq] at d39
            refine lv_bipush (v := (-5)) hx hb dX10_count_42 (by decide) ?_
            refine lv_goto (tgt := 48) hx hb dX10_count_44 (by decide) ?_
            exact W.iret (v := ((-5) : Int32)) hx hb hr (fun t ht hW => ⟨⟨_, ((upd (upd (upd (upd f 0 (0 : Int32)) 11 dp_23) 12 tr_23) 13 sp_23), (vp_updL g 14 fd_23), (va_up (va_up r 10 rw_23) 9 mt_23), q), rfl, ⟨dp_23, tr_23, sp_23, fd_23, rw_23, mt_23, rfl, (Or.inl ⟨b10, (by rcases n9.2 with ⟨z1, u9, z2⟩ | ⟨z1, u9, z2⟩; (exact absurd (z1.trans j21_2) c39); (exact ⟨1, k, u9, ⟨s9, fo9, z2, (fun y9 => by cases y9)⟩, rfl⟩))⟩)⟩, by unfold mB; rw [ht]; exact hP⟩, hS.F ht⟩) hS.2.2 dX10_count_48
        · skip
          have d26 := c26
          rw [fa_eq] at d26
          obtain ⟨-, sp9, t9, ru9, rl8, fd9⟩ := q23.2.resolve_right (fun z9 => c26 z9.1)
          have ru9 : rRun j.toNatClampNeg r s9 2 t9 := ru9
          have gd8 := wRun_2 gd9.1 ru9
          have kk9 : k + 1 ≤ 200000 := by have z1 : t9.2.2 ≤ 200000 := gd8.1.1.2.2; have z2 := gd8.2; omega
          refine lv_iinc (v := (nI (k + 1))) (lv' := [(2, .int (nI (k + 1))), (0, .ref mo), (1, .int j)]) hx hb dX10_count_29 hl (k := 0) rfl (nI_1 _) (by decide) rfl (fun ls hl => ?_)
          refine lv_goto (tgt := 21) hx hb dX10_count_32 (by decide) ?_
          exact ih_21 (k + 1) dp_23 tr_23 sp_23 fd_23 rw_23 mt_23 (by omega) (by omega) (by rw [sp9]; exact j21_2) (kk9) (⟨t9, ⟨s9, (), fo9, ru9, id, rfl⟩, rl8⟩) (by have z9 := q23.1.2.2.2 (q23.1.1.resolve_left c26); omega) _ _ hP hS ls (lv_sub hl [0, 1, 2] rfl)
    exact loop_21 (200000 + 1) 0 (0 : Int32) (0 : Int32) (0 : Int32) (g 14) rw_16 (r 9) (by omega) (by omega) (rfl) (by omega) (⟨((0 : Int), (fun _ : Nat => (0 : Nat)), (0 : Nat)), ⟨rfl, rfl⟩, rRel_0 (by rw [q16]; rfl)⟩) (by omega) _ _ hP hS ls (lv_sub hl [0, 1, 2] rfl)
  · skip
    have b10 := bo_f q7 c10
    refine lv_iconst (v := (-1)) hx hb dX10_count_13 (by decide) ?_
    exact W.iret (v := ((-1) : Int32)) hx hb hr (fun t ht hW => ⟨⟨_, ((upd (upd (upd (upd f 0 (0 : Int32)) 11 (f 11)) 12 (f 12)) 13 (f 13)), (vp_updL g 14 (g 14)), (va_up (va_up r 10 (r 10)) 9 (r 9)), q), rfl, ⟨(f 11), (f 12), (f 13), (g 14), (r 10), (r 9), rfl, (Or.inr ⟨b10, rfl⟩)⟩, by unfold mB; rw [ht]; exact hP⟩, hS.F ht⟩) hS.2.2 dX10_count_14
set_option maxHeartbeats 4000000 in
set_option maxRecDepth 100000 in
theorem c_X10_find_y (l : Launch) (D : va_G) (cy : Nat → ClassId) (mo : Nat) (a : Nat → Nat) (f : Nat → Int32) (g : Nat → Int64) (r : Nat → Nat → Int32) (q : Nat → Nat → Int64) (j : Int32) (i0 : Int32) (hD : DM cy mo a) (hI : MI f r) (hr9 : okJob (f 1) j → ∀ y l, y < 2 → l < lnC (r 3 j.toNatClampNeg).toNatClampNeg (r 4 j.toNatClampNeg).toNatClampNeg y → 0 ≤ (r 5 (44 * j.toNatClampNeg + 11 * y + l)).toInt ∧ (r 5 (44 * j.toNatClampNeg + 11 * y + l)).toInt ≤ 6) : Ml l D cy mo a yX10_find wsX10_find ({ frames := 5, cells := 0, slots := 0, locals := 126 }) f g r q [.int j, .int i0] (fun r0 u => ∃ (dp : Int32), ∃ (tr : Int32), ∃ (sp : Int32), ∃ (fd : Int64), ∃ (rw : Nat → Int32), ∃ (mt : Nat → Int32), u = ((upd (upd (upd (upd f 0 (0 : Int32)) 11 dp) 12 tr) 13 sp), (vp_updL g 14 fd), (va_up (va_up r 10 rw) 9 mt), q) ∧ (((okJob (f 1) j ∧ 0 ≤ i0.toInt) ∧ ∃ q k a u, wEn (2 ^ (r 3 j.toNatClampNeg).toNatClampNeg) (r 4 j.toNatClampNeg).toNatClampNeg (rGo j.toNatClampNeg r) (rFi j.toNatClampNeg r) (fun a _ => (a : Int) = i0.toInt) (fun a _ => a + 1) ((0 : Int), (fun _ : Nat => (0 : Nat)), (0 : Nat)) 0 q k a u ∧ r0 = anF q (picL (r 3 j.toNatClampNeg).toNatClampNeg u.2.1 (r 4 j.toNatClampNeg).toNatClampNeg)) ∨ (¬ (okJob (f 1) j ∧ 0 ≤ i0.toInt) ∧ r0 = -1))) := by
  refine Met.ofW (cc := cX10_find) (maxL := 4) (ret := (some .long)) (by decide) rfl ?_
  intro p e s m args below meth c s₁ B hml hv
  obtain ⟨rfl, hP, hK⟩ := hv
  have hx := B.exec
  have hb := B.bytes
  have hr := B.returns
  have hts := atoms_spec (ws := wsX10_find) B.pre
  have hin : ∀ w ∈ u_ws RX10 TX10 35, w ∈ wsX10_find := by decide +kernel
  have hown : s.vm.findClass RX10 = some m.cls := findClass_of_methodNamed B.named
  have hlocks := B.notSynchronized
  have hS : va_S (AM mo a) s.heap s.heap [] := va_S.rf
  have hl := lv_entry ([.ref mo, .int j, .int i0]) (n := 4) (Nat.le_of_ble_eq_true rfl)
  rw [lg_entry_eq]
  generalize (lg_sl ([.ref mo, .int j, .int i0]) ++ List.replicate (4 - (lg_sl ([.ref mo, .int j, .int i0])).length) Slot.unset).toArray = ls at hl ⊢
  have hl : lv_has ls 4 [(0, .ref mo), (1, .int j), (2, .int i0)] := hl
  have k_m1 : (-1 : Int32).toInt = -1 := by decide
  have k_0 : (0 : Int32).toInt = 0 := by decide
  have k_m5L : (-5 : Int64).toInt = -5 := by decide
  have k_m2L : (-2 : Int64).toInt = -2 := by decide
  have k_m1L : (-1 : Int64).toInt = -1 := by decide
  have hI1 := hI.1
  refine lv_aload_n hx hb dX10_find_0 rfl (lv_at hl 0 rfl) ?_
  refine lv_iconst (v := 0) hx hb dX10_find_1 (by decide) ?_
  refine m_put (v := .int (0 : Int32)) (ty := .int) hx hb hts hin hown hK hP hD hS 0 (by decide) rfl (hts (.fieldLink RX10 79 "ShadowBenchModel" "thrown" "I") (by decide +kernel)) rfl (by decide +kernel) rfl rfl (upd f 0 (0 : Int32)) g rfl dX10_find_2 (fun H locs hP hS => ?_)
  refine lv_aload_n hx hb dX10_find_5 rfl (lv_at hl 0 rfl) ?_
  refine lv_iload_n hx hb dX10_find_6 rfl (lv_at hl 1 rfl) ?_
  refine m_calli (As := [.int j]) (rest := []) ⟨hx, hb, hml, hown, hts⟩ (c_X10_isJob l D cy mo a (upd f 0 (0 : Int32)) g r q j hD) (cwV 1 hts gX10_find_X10_isJob rfl rfl rfl (by decide +kernel) ⟨Nat.le_of_ble_eq_true rfl, Nat.le_of_ble_eq_true rfl⟩) hK hP rfl hl.1 rfl (Nat.le_of_ble_eq_true rfl) dX10_find_7 ⟨Nat.le_of_ble_eq_true rfl, Nat.le_of_ble_eq_true rfl⟩ hS (fun r7 u H locs q7 hP hS => ?_)
  obtain ⟨rfl, q7⟩ := q7
  have hP : va_P D vwCl (WM cy mo a (upd f 0 (0 : Int32)) g r q) H := hP
  have q7 : Bo r7 (0 ≤ j.toInt ∧ j.toInt < ((f 1)).toInt) := q7
  refine lv_if_eq (tgt := 17) hx hb dX10_find_10 (by decide) (fun c10 => ?_) (fun c10 => ?_)
  · skip
    have b10 := bo_f q7 c10
    refine lv_ldc2 hx hb hown (hts (.constantLong RX10 185 (-1)) (by decide +kernel)) dX10_find_17 ?_
    exact W.lret (v := (-1 : Int64)) hx hb hr (fun t ht hW => ⟨⟨_, ((upd (upd (upd (upd f 0 (0 : Int32)) 11 (f 11)) 12 (f 12)) 13 (f 13)), (vp_updL g 14 (g 14)), (va_up (va_up r 10 (r 10)) 9 (r 9)), q), rfl, ⟨(f 11), (f 12), (f 13), (g 14), (r 10), (r 9), rfl, (Or.inr ⟨(fun z9 => by first | exact b10 z9.1 | (have := z9.2; omega)), rfl⟩)⟩, by unfold mB; rw [ht]; exact hP⟩, hS.F ht⟩) hS.2.2 dX10_find_20
  · skip
    have b10 := bo_t q7 c10
    refine lv_iload_n hx hb dX10_find_13 rfl (lv_at hl 2 rfl) ?_
    refine lv_if_ge (tgt := 21) hx hb dX10_find_14 (by decide) (fun c14 => ?_) (fun c14 => ?_)
    · skip
      have d14 := c14
      rw [fa_le] at d14
      have hh := mi_h hI (x := j) (by omega) (by omega) rfl
      have szw := mi_w hI (x := j) (by omega) (by omega) rfl
      have cw9 := m_cl (x := r 3 j.toNatClampNeg) (by omega)
      have ch9 := m_cl (x := r 4 j.toNatClampNeg) (by omega)
      have gd0 := rg_r (w := 0) (h := 0) (j := j.toNatClampNeg) (r := r) (by omega) (hr9 b10)
      refine lv_aload_n hx hb dX10_find_21 rfl (lv_at hl 0 rfl) ?_
      refine m_callv (As := []) (rest := []) ⟨hx, hb, hml, hown, hts⟩ (c_X10_begin_x l D cy mo a (upd f 0 (0 : Int32)) g r q hD) (cwV 0 hts gX10_find_X10_begin rfl rfl rfl (by decide +kernel) ⟨Nat.le_of_ble_eq_true rfl, Nat.le_of_ble_eq_true rfl⟩) hK hP rfl hl.1 rfl (Nat.le_of_ble_eq_true rfl) dX10_find_22 ⟨Nat.le_of_ble_eq_true rfl, Nat.le_of_ble_eq_true rfl⟩ hS (fun u H locs q22 hP hS => ?_)
      obtain ⟨rw_22, rfl, q22⟩ := q22
      have hP : va_P D vwCl (WM cy mo a (upd (upd (upd (upd f 0 (0 : Int32)) 11 (0 : Int32)) 12 (0 : Int32)) 13 (0 : Int32)) g (va_up r 10 rw_22) q) H := hP
      have q22 : rw_22 = upd ((r 10)) 0 (-1) := q22
      refine lv_iload_n hx hb dX10_find_25 rfl (lv_at hl 2 rfl) ?_
      refine lv_istore_n (lv' := [(3, .int i0), (0, .ref mo), (1, .int j), (2, .int i0)]) hx hb dX10_find_26 rfl hl (by decide) rfl (fun ls hl => ?_)
      have loop_27 : ∀ (n : Nat) (x3 : Int32) (dpa : Int32) (tra : Int32) (spa : Int32) (fda : Int64) (rwa : Nat → Int32) (mta : Nat → Int32) (k : Nat), (-1 ≤ dpa.toInt ∧ dpa.toInt < (r 4 j.toNatClampNeg).toInt) → (0 ≤ tra.toInt ∧ tra.toInt ≤ 200000) → (spa = 0) → (k ≤ 200000) → (∃ s, wFo (2 ^ (r 3 j.toNatClampNeg).toNatClampNeg) (r 4 j.toNatClampNeg).toNatClampNeg (rGo j.toNatClampNeg r) (rFi j.toNatClampNeg r) (fun a _ => (a : Int) = i0.toInt) (fun a _ => a + 1) ((0 : Int), (fun _ : Nat => (0 : Nat)), (0 : Nat)) 0 k s k ∧ rRel s dpa tra rwa) → (x3.toInt = i0.toInt - (k : Int) ∧ 0 ≤ x3.toInt) → (200000 - tra.toInt).toNat < n → ∀ (H : Heap) (locs : List Loc), va_P D vwCl (WM cy mo a (upd (upd (upd (upd f 0 (0 : Int32)) 11 dpa) 12 tra) 13 spa) (vp_updL g 14 fda) (va_up (va_up r 10 rwa) 9 mta) q) H → va_S (AM mo a) s.heap H locs → ∀ (ls : Array Slot), lv_has ls 4 [(3, .int x3), (0, .ref mo), (1, .int j), (2, .int i0)] → W p l e (headSpec wsX10_find ({ frames := 5, cells := 0, slots := 0, locals := 126 })).room s m #[Value.ref mo, Value.int j, Value.int i0] below meth c H locs 0 0 (MQ below (va_Ql (fun r0 u => ∃ (dp : Int32), ∃ (tr : Int32), ∃ (sp : Int32), ∃ (fd : Int64), ∃ (rw : Nat → Int32), ∃ (mt : Nat → Int32), u = ((upd (upd (upd (upd f 0 (0 : Int32)) 11 dp) 12 tr) 13 sp), (vp_updL g 14 fd), (va_up (va_up r 10 rw) 9 mt), q) ∧ (((okJob (f 1) j ∧ 0 ≤ i0.toInt) ∧ ∃ q k a u, wEn (2 ^ (r 3 j.toNatClampNeg).toNatClampNeg) (r 4 j.toNatClampNeg).toNatClampNeg (rGo j.toNatClampNeg r) (rFi j.toNatClampNeg r) (fun a _ => (a : Int) = i0.toInt) (fun a _ => a + 1) ((0 : Int), (fun _ : Nat => (0 : Nat)), (0 : Nat)) 0 q k a u ∧ r0 = anF q (picL (r 3 j.toNatClampNeg).toNatClampNeg u.2.1 (r 4 j.toNatClampNeg).toNatClampNeg)) ∨ (¬ (okJob (f 1) j ∧ 0 ≤ i0.toInt) ∧ r0 = -1))) (mB D cy mo a) (AM mo a)) #[Value.ref mo, Value.int j, Value.int i0] s 0 0 (AM mo a)) (F0 m 27 ls []) := by
        intro n
        induction n with
        | zero => intro x3 dpa tra spa fda rwa mta k j27_0 j27_1 j27_2 j27_3 j27_4 j27_5 hn; exact absurd hn (Nat.not_lt_zero _)
        | succ n ih_27 =>
          intro x3 dpa tra spa fda rwa mta k j27_0 j27_1 j27_2 j27_3 j27_4 j27_5 hn_27 H locs hP hS ls hl
          obtain ⟨s9, fo9, rl9⟩ := j27_4
          have gd9 := wFo_gd gd0 k fo9
          have kl9 : 0 + k ≤ s9.2.2 := gd9.2
          refine lv_aload_n hx hb dX10_find_27 rfl (lv_at hl 1 rfl) ?_
          refine lv_iload_n hx hb dX10_find_28 rfl (lv_at hl 2 rfl) ?_
          refine m_calli (As := [.int j]) (rest := []) ⟨hx, hb, hml, hown, hts⟩ (c_X10_isNext_x l D cy mo a (upd (upd (upd (upd f 0 (0 : Int32)) 11 dpa) 12 tra) 13 spa) (vp_updL g 14 fda) (va_up (va_up r 10 rwa) 9 mta) q j hD hI b10 (show -1 ≤ dpa.toInt ∧ dpa.toInt < (r 4 j.toNatClampNeg).toInt by omega) (show 0 ≤ tra.toInt ∧ tra.toInt ≤ 200000 by omega) rl9 gd9.1) (cwV 1 hts gX10_find_X10_isNext rfl rfl rfl (by decide +kernel) ⟨Nat.le_of_ble_eq_true rfl, Nat.le_of_ble_eq_true rfl⟩) hK hP rfl hl.1 rfl (Nat.le_of_ble_eq_true rfl) dX10_find_29 ⟨Nat.le_of_ble_eq_true rfl, Nat.le_of_ble_eq_true rfl⟩ hS (fun r29 u H locs q29 hP hS => ?_)
          obtain ⟨dp_29, tr_29, sp_29, fd_29, rw_29, mt_29, rfl, q29⟩ := q29
          have hP : va_P D vwCl (WM cy mo a (upd (upd (upd (upd f 0 (0 : Int32)) 11 dp_29) 12 tr_29) 13 sp_29) (vp_updL g 14 fd_29) (va_up (va_up r 10 rw_29) 9 mt_29) q) H := hP
          have q29 : ((r29 = 0 ∨ r29 = 1) ∧ (-1 ≤ dp_29.toInt ∧ dp_29.toInt < ((r 4) j.toNatClampNeg).toInt) ∧ ((tra).toInt ≤ tr_29.toInt ∧ tr_29.toInt ≤ 200000) ∧ (r29 = 1 → (tra).toInt < tr_29.toInt)) ∧ ((r29 = 1 ∧ sp_29 = (spa) ∧ ∃ t, rRun j.toNatClampNeg (va_up (va_up r 10 rwa) 9 mta) s9 2 t ∧ rRel t dp_29 tr_29 rw_29 ∧ fd_29 = picL ((r 3) j.toNatClampNeg).toNatClampNeg t.2.1 ((r 4) j.toNatClampNeg).toNatClampNeg) ∨ (r29 = 0 ∧ ((sp_29 = (spa) ∧ ∃ t, rRun j.toNatClampNeg (va_up (va_up r 10 rwa) 9 mta) s9 0 t) ∨ (sp_29 = 1 ∧ ∃ t, rRun j.toNatClampNeg (va_up (va_up r 10 rwa) 9 mta) s9 1 t)))) := q29
          have b29 := q29.1.2.1
          have t29 := q29.1.2.2.1
          refine lv_if_eq (tgt := 50) hx hb dX10_find_32 (by decide) (fun c32 => ?_) (fun c32 => ?_)
          · skip
            have d32 := c32
            rw [fa_eq] at d32
            have n9 := q29.2.resolve_left (fun z9 => absurd (z9.1.symm.trans c32) (by decide))
            refine lv_aload_n hx hb dX10_find_50 rfl (lv_at hl 1 rfl) ?_
            refine m_get (v := .int sp_29) hx hb hts hin hown hK hP 13 (by decide) rfl (hts (.fieldLink RX10 163 "ShadowBenchModel" "spent" "Z") (by decide +kernel)) rfl dX10_find_51 ?_
            refine lv_if_eq (tgt := 63) hx hb dX10_find_54 (by decide) (fun c54 => ?_) (fun c54 => ?_)
            · skip
              have d54 := c54
              rw [fa_eq] at d54
              refine lv_ldc2 hx hb hown (hts (.constantLong RX10 189 (-2)) (by decide +kernel)) dX10_find_63 ?_
              exact W.lret (v := (-2 : Int64)) hx hb hr (fun t ht hW => ⟨⟨_, ((upd (upd (upd (upd f 0 (0 : Int32)) 11 dp_29) 12 tr_29) 13 sp_29), (vp_updL g 14 fd_29), (va_up (va_up r 10 rw_29) 9 mt_29), q), rfl, ⟨dp_29, tr_29, sp_29, fd_29, rw_29, mt_29, rfl, (Or.inl ⟨⟨b10, by omega⟩, (by rcases n9.2 with ⟨z1, u9, z2⟩ | ⟨z1, u9, z2⟩; (first | exact absurd (z1.trans j27_2) c54 | exact ⟨0, k, k, u9, ⟨s9, fo9, z2, (fun y9 => by cases y9)⟩, rfl⟩); (first | exact absurd (z1.symm.trans c54) (by decide) | exact ⟨1, k, k, u9, ⟨s9, fo9, z2, (fun y9 => by cases y9)⟩, rfl⟩))⟩)⟩, by unfold mB; rw [ht]; exact hP⟩, hS.F ht⟩) hS.2.2 dX10_find_66
            · skip
              have d54 := c54
              rw [fa_eq] at d54
              refine lv_ldc2 hx hb hown (hts (.constantLong RX10 187 (-5)) (by decide +kernel)) dX10_find_57 ?_
              refine lv_goto (tgt := 66) hx hb dX10_find_60 (by decide) ?_
              exact W.lret (v := (-5 : Int64)) hx hb hr (fun t ht hW => ⟨⟨_, ((upd (upd (upd (upd f 0 (0 : Int32)) 11 dp_29) 12 tr_29) 13 sp_29), (vp_updL g 14 fd_29), (va_up (va_up r 10 rw_29) 9 mt_29), q), rfl, ⟨dp_29, tr_29, sp_29, fd_29, rw_29, mt_29, rfl, (Or.inl ⟨⟨b10, by omega⟩, (by rcases n9.2 with ⟨z1, u9, z2⟩ | ⟨z1, u9, z2⟩; (first | exact absurd (z1.trans j27_2) c54 | exact ⟨0, k, k, u9, ⟨s9, fo9, z2, (fun y9 => by cases y9)⟩, rfl⟩); (first | exact absurd (z1.symm.trans c54) (by decide) | exact ⟨1, k, k, u9, ⟨s9, fo9, z2, (fun y9 => by cases y9)⟩, rfl⟩))⟩)⟩, by unfold mB; rw [ht]; exact hP⟩, hS.F ht⟩) hS.2.2 dX10_find_66
          · skip
            have d32 := c32
            rw [fa_eq] at d32
            obtain ⟨-, sp9, t9, ru9, rl8, fd9⟩ := q29.2.resolve_right (fun z9 => c32 z9.1)
            have ru9 : rRun j.toNatClampNeg r s9 2 t9 := ru9
            have gd8 := wRun_2 gd9.1 ru9
            have kk9 : k + 1 ≤ 200000 := by have z1 : t9.2.2 ≤ 200000 := gd8.1.1.2.2; have z2 := gd8.2; omega
            refine lv_iload_n hx hb dX10_find_35 rfl (lv_at hl 0 rfl) ?_
            refine lv_if_ne (tgt := 44) hx hb dX10_find_36 (by decide) (fun c36 => ?_) (fun c36 => ?_)
            · skip
              have d36 := c36
              rw [fa_eq] at d36
              have xl9 := Int32.toInt_lt x3
              obtain ⟨v44, e44⟩ : ∃ y : Int32, y = x3 + (-1) := ⟨_, rfl⟩
              have i44 : v44.toInt = x3.toInt + -1 := by rw [e44]; exact fb_addI (by omega) (by omega)
              refine lv_iinc (v := v44) (lv' := [(3, .int v44), (0, .ref mo), (1, .int j), (2, .int i0)]) hx hb dX10_find_44 hl (k := 0) rfl (by rw [e44]; rfl) (by decide) rfl (fun ls hl => ?_)
              refine lv_goto (tgt := 27) hx hb dX10_find_47 (by decide) ?_
              exact ih_27 v44 dp_29 tr_29 sp_29 fd_29 rw_29 mt_29 (k + 1) (by omega) (by omega) (by rw [sp9]; exact j27_2) (kk9) (⟨t9, ⟨s9, k, fo9, ru9, (fun z9 => by have z8 : (k : Int) = i0.toInt := z9; have z7 : ¬ x3.toInt = 0 := (fun y9 => c36 (Int32.toInt_inj.mp y9)); omega), rfl⟩, rl8⟩) (by have z7 : ¬ x3.toInt = 0 := (fun y9 => c36 (Int32.toInt_inj.mp y9)); omega) (by have z9 := q29.1.2.2.2 (q29.1.1.resolve_left c32); omega) _ _ hP hS ls (lv_sub hl [0, 1, 2, 3] rfl)
            · skip
              have d36 := c36
              rw [fa_eq] at d36
              have d39 := congrArg Int32.toInt c36
              refine lv_aload_n hx hb dX10_find_39 rfl (lv_at hl 1 rfl) ?_
              refine m_get (v := .long fd_29) hx hb hts hin hown hK hP 14 (by decide) rfl (hts (.fieldLink RX10 175 "ShadowBenchModel" "found" "J") (by decide +kernel)) rfl dX10_find_40 ?_
              exact W.lret (v := fd_29) hx hb hr (fun t ht hW => ⟨⟨_, ((upd (upd (upd (upd f 0 (0 : Int32)) 11 dp_29) 12 tr_29) 13 sp_29), (vp_updL g 14 fd_29), (va_up (va_up r 10 rw_29) 9 mt_29), q), rfl, ⟨dp_29, tr_29, sp_29, fd_29, rw_29, mt_29, rfl, (Or.inl ⟨⟨b10, by omega⟩, 2, k, k, t9, ⟨s9, fo9, ru9, (fun _ => (by show (k : Int) = i0.toInt; omega))⟩, (by rw [fd9]; rfl)⟩)⟩, by unfold mB; rw [ht]; exact hP⟩, hS.F ht⟩) hS.2.2 dX10_find_43
      exact loop_27 (200000 + 1) i0 (0 : Int32) (0 : Int32) (0 : Int32) (g 14) rw_22 (r 9) 0 (by omega) (by omega) (rfl) (by omega) (⟨((0 : Int), (fun _ : Nat => (0 : Nat)), (0 : Nat)), ⟨rfl, rfl⟩, rRel_0 (by rw [q22]; rfl)⟩) (by omega) (by omega) _ _ hP hS ls (lv_sub hl [0, 1, 2, 3] rfl)
    · skip
      have d14 := c14
      rw [fa_le] at d14
      refine lv_ldc2 hx hb hown (hts (.constantLong RX10 185 (-1)) (by decide +kernel)) dX10_find_17 ?_
      exact W.lret (v := (-1 : Int64)) hx hb hr (fun t ht hW => ⟨⟨_, ((upd (upd (upd (upd f 0 (0 : Int32)) 11 (f 11)) 12 (f 12)) 13 (f 13)), (vp_updL g 14 (g 14)), (va_up (va_up r 10 (r 10)) 9 (r 9)), q), rfl, ⟨(f 11), (f 12), (f 13), (g 14), (r 10), (r 9), rfl, (Or.inr ⟨(fun z9 => by first | exact b10 z9.1 | (have := z9.2; omega)), rfl⟩)⟩, by unfold mB; rw [ht]; exact hP⟩, hS.F ht⟩) hS.2.2 dX10_find_20
set_option maxHeartbeats 4000000 in
set_option maxRecDepth 100000 in
theorem c_X10_rank_y (l : Launch) (D : va_G) (cy : Nat → ClassId) (mo : Nat) (a : Nat → Nat) (f : Nat → Int32) (g : Nat → Int64) (r : Nat → Nat → Int32) (q : Nat → Nat → Int64) (j : Int32) (p0 : Int64) (hD : DM cy mo a) (hI : MI f r) (hr9 : okJob (f 1) j → ∀ y l, y < 2 → l < lnC (r 3 j.toNatClampNeg).toNatClampNeg (r 4 j.toNatClampNeg).toNatClampNeg y → 0 ≤ (r 5 (44 * j.toNatClampNeg + 11 * y + l)).toInt ∧ (r 5 (44 * j.toNatClampNeg + 11 * y + l)).toInt ≤ 6) : Mi l D cy mo a yX10_rank wsX10_rank ({ frames := 5, cells := 0, slots := 0, locals := 126 }) f g r q [.int j, .long p0] (fun r0 u => ∃ (dp : Int32), ∃ (tr : Int32), ∃ (sp : Int32), ∃ (fd : Int64), ∃ (rw : Nat → Int32), ∃ (mt : Nat → Int32), u = ((upd (upd (upd (upd f 0 (0 : Int32)) 11 dp) 12 tr) 13 sp), (vp_updL g 14 fd), (va_up (va_up r 10 rw) 9 mt), q) ∧ (((okJob (f 1) j ∧ isPic ((r 3 j.toNatClampNeg).toNatClampNeg * (r 4 j.toNatClampNeg).toNatClampNeg) p0) ∧ ((fitR j.toNatClampNeg r p0 ∧ ∃ q k u, wEn (2 ^ (r 3 j.toNatClampNeg).toNatClampNeg) (r 4 j.toNatClampNeg).toNatClampNeg (rGo j.toNatClampNeg r) (rFi j.toNatClampNeg r) (fun _ s => picL (r 3 j.toNatClampNeg).toNatClampNeg s.2.1 (r 4 j.toNatClampNeg).toNatClampNeg = p0) (fun _ _ => ()) ((0 : Int), (fun _ : Nat => (0 : Nat)), (0 : Nat)) () q k () u ∧ r0 = anR q k) ∨ (¬ fitR j.toNatClampNeg r p0 ∧ r0 = -2))) ∨ (¬ (okJob (f 1) j ∧ isPic ((r 3 j.toNatClampNeg).toNatClampNeg * (r 4 j.toNatClampNeg).toNatClampNeg) p0) ∧ r0 = -1))) := by
  refine Met.ofW (cc := cX10_rank) (maxL := 5) (ret := (some .int)) (by decide) rfl ?_
  intro p e s m args below meth c s₁ B hml hv
  obtain ⟨rfl, hP, hK⟩ := hv
  have hx := B.exec
  have hb := B.bytes
  have hr := B.returns
  have hts := atoms_spec (ws := wsX10_rank) B.pre
  have hin : ∀ w ∈ u_ws RX10 TX10 35, w ∈ wsX10_rank := by decide +kernel
  have hown : s.vm.findClass RX10 = some m.cls := findClass_of_methodNamed B.named
  have hlocks := B.notSynchronized
  have hS : va_S (AM mo a) s.heap s.heap [] := va_S.rf
  have hl := lv_entry ([.ref mo, .int j, .long p0]) (n := 5) (Nat.le_of_ble_eq_true rfl)
  rw [lg_entry_eq]
  generalize (lg_sl ([.ref mo, .int j, .long p0]) ++ List.replicate (5 - (lg_sl ([.ref mo, .int j, .long p0])).length) Slot.unset).toArray = ls at hl ⊢
  have hl : lv_has ls 5 [(0, .ref mo), (1, .int j), (2, .long p0)] := hl
  have k_m5 : (-5 : Int32).toInt = -5 := by decide
  have k_m2 : (-2 : Int32).toInt = -2 := by decide
  have k_m1 : (-1 : Int32).toInt = -1 := by decide
  have k_0 : (0 : Int32).toInt = 0 := by decide
  have hI1 := hI.1
  refine lv_aload_n hx hb dX10_rank_0 rfl (lv_at hl 0 rfl) ?_
  refine lv_iconst (v := 0) hx hb dX10_rank_1 (by decide) ?_
  refine m_put (v := .int (0 : Int32)) (ty := .int) hx hb hts hin hown hK hP hD hS 0 (by decide) rfl (hts (.fieldLink RX10 79 "ShadowBenchModel" "thrown" "I") (by decide +kernel)) rfl (by decide +kernel) rfl rfl (upd f 0 (0 : Int32)) g rfl dX10_rank_2 (fun H locs hP hS => ?_)
  refine lv_aload_n hx hb dX10_rank_5 rfl (lv_at hl 0 rfl) ?_
  refine lv_iload_n hx hb dX10_rank_6 rfl (lv_at hl 1 rfl) ?_
  refine m_calli (As := [.int j]) (rest := []) ⟨hx, hb, hml, hown, hts⟩ (c_X10_isJob l D cy mo a (upd f 0 (0 : Int32)) g r q j hD) (cwV 1 hts gX10_rank_X10_isJob rfl rfl rfl (by decide +kernel) ⟨Nat.le_of_ble_eq_true rfl, Nat.le_of_ble_eq_true rfl⟩) hK hP rfl hl.1 rfl (Nat.le_of_ble_eq_true rfl) dX10_rank_7 ⟨Nat.le_of_ble_eq_true rfl, Nat.le_of_ble_eq_true rfl⟩ hS (fun r7 u H locs q7 hP hS => ?_)
  obtain ⟨rfl, q7⟩ := q7
  have hP : va_P D vwCl (WM cy mo a (upd f 0 (0 : Int32)) g r q) H := hP
  have q7 : Bo r7 (0 ≤ j.toInt ∧ j.toInt < ((f 1)).toInt) := q7
  refine lv_if_eq (tgt := 32) hx hb dX10_rank_10 (by decide) (fun c10 => ?_) (fun c10 => ?_)
  · skip
    have b10 := bo_f q7 c10
    refine lv_iconst (v := (-1)) hx hb dX10_rank_32 (by decide) ?_
    exact W.iret (v := ((-1) : Int32)) hx hb hr (fun t ht hW => ⟨⟨_, ((upd (upd (upd (upd f 0 (0 : Int32)) 11 (f 11)) 12 (f 12)) 13 (f 13)), (vp_updL g 14 (g 14)), (va_up (va_up r 10 (r 10)) 9 (r 9)), q), rfl, ⟨(f 11), (f 12), (f 13), (g 14), (r 10), (r 9), rfl, (Or.inr ⟨(fun z9 => by have z8 := z9.1; unfold okJob at z8; first | exact b10 z8 | (have szw := mi_w hI (x := j) z8.1 z8.2 rfl; have szh := mi_h hI (x := j) z8.1 z8.2 rfl; exact goodP_no b29 ⟨⟨szw, szh⟩, z9.2⟩)), rfl⟩)⟩, by unfold mB; rw [ht]; exact hP⟩, hS.F ht⟩) hS.2.2 dX10_rank_33
  · skip
    have b10 := bo_t q7 c10
    refine lv_aload_n hx hb dX10_rank_13 rfl (lv_at hl 0 rfl) ?_
    refine m_get (v := .ref (a 3)) hx hb hts hin hown hK hP 3 (by decide) rfl (hts (.fieldLink RX10 13 "ShadowBenchModel" "wide" "[I") (by decide +kernel)) rfl dX10_rank_14 ?_
    refine lv_iload_n hx hb dX10_rank_17 rfl (lv_at hl 1 rfl) ?_
    refine m_iald (w := (r 3)) hx hb hK hP 2 rfl (vp_in_iff.mpr ⟨by omega, by omega⟩) dX10_rank_18 ?_
    refine lv_topi (fun v18 e18 => ?_)
    have i18 : v18.toInt = ((r 3) j.toNatClampNeg).toInt := congrArg Int32.toInt e18
    have w18 := mi_w hI (x := j) (by omega) (by omega) e18
    refine lv_aload_n hx hb dX10_rank_19 rfl (lv_at hl 0 rfl) ?_
    refine m_get (v := .ref (a 4)) hx hb hts hin hown hK hP 4 (by decide) rfl (hts (.fieldLink RX10 16 "ShadowBenchModel" "high" "[I") (by decide +kernel)) rfl dX10_rank_20 ?_
    refine lv_iload_n hx hb dX10_rank_23 rfl (lv_at hl 1 rfl) ?_
    refine m_iald (w := (r 4)) hx hb hK hP 3 rfl (vp_in_iff.mpr ⟨by omega, by omega⟩) dX10_rank_24 ?_
    refine lv_topi (fun v24 e24 => ?_)
    have i24 : v24.toInt = ((r 4) j.toNatClampNeg).toInt := congrArg Int32.toInt e24
    have w24 := mi_h hI (x := j) (by omega) (by omega) e24
    refine lv_lload_n hx hb dX10_rank_25 rfl (lv_at hl 2 rfl) ?_
    refine m_pu (As := [.int v18, .int v24, .long p0]) (rest := []) ⟨hx, hb, hml, hown, hts⟩ (c_X10_isPicture l v18 v24 p0 ) (va_cwS 3 hts gX10_rank_X10_isPicture rfl rfl rfl (by decide +kernel) ⟨Nat.le_of_ble_eq_true rfl, Nat.le_of_ble_eq_true rfl⟩) hP rfl hl.1 rfl (Nat.le_of_ble_eq_true rfl) dX10_rank_26 ⟨Nat.le_of_ble_eq_true rfl, Nat.le_of_ble_eq_true rfl⟩ hS (fun r26 H locs q26 hP hS => ?_)
    subst e18
    subst e24
    refine lv_if_ne (tgt := 34) hx hb dX10_rank_29 (by decide) (fun c29 => ?_) (fun c29 => ?_)
    · skip
      have b29 := bo_t q26 c29
      refine lv_aload_n hx hb dX10_rank_34 rfl (lv_at hl 0 rfl) ?_
      refine lv_iload_n hx hb dX10_rank_35 rfl (lv_at hl 1 rfl) ?_
      refine lv_lload_n hx hb dX10_rank_36 rfl (lv_at hl 2 rfl) ?_
      refine m_calli (As := [.int j, .long p0]) (rest := []) ⟨hx, hb, hml, hown, hts⟩ (c_X10_isFitting_x l D cy mo a (upd f 0 (0 : Int32)) g r q j p0 hD hI (show 0 ≤ j.toInt ∧ j.toInt < ((f 1)).toInt by omega)) (cwV 2 hts gX10_rank_X10_isFitting rfl rfl rfl (by decide +kernel) ⟨Nat.le_of_ble_eq_true rfl, Nat.le_of_ble_eq_true rfl⟩) hK hP rfl hl.1 rfl (Nat.le_of_ble_eq_true rfl) dX10_rank_37 ⟨Nat.le_of_ble_eq_true rfl, Nat.le_of_ble_eq_true rfl⟩ hS (fun r37 u H locs q37 hP hS => ?_)
      obtain ⟨mt_37, rfl, q37⟩ := q37
      have hP : va_P D vwCl (WM cy mo a (upd f 0 (0 : Int32)) g (va_up r 9 mt_37) q) H := hP
      have q37 : Bo r37 (fitR j.toNatClampNeg r p0) := q37
      refine lv_if_ne (tgt := 46) hx hb dX10_rank_40 (by decide) (fun c40 => ?_) (fun c40 => ?_)
      · skip
        have b40 := bo_t q37 c40
        have hh := mi_h hI (x := j) (by omega) (by omega) rfl
        have szw := mi_w hI (x := j) (by omega) (by omega) rfl
        have cw9 := m_cl (x := r 3 j.toNatClampNeg) (by omega)
        have ch9 := m_cl (x := r 4 j.toNatClampNeg) (by omega)
        have gd0 := rg_r (w := 0) (h := 0) (j := j.toNatClampNeg) (r := r) (by omega) (hr9 b10)
        refine lv_aload_n hx hb dX10_rank_46 rfl (lv_at hl 0 rfl) ?_
        refine m_callv (As := []) (rest := []) ⟨hx, hb, hml, hown, hts⟩ (c_X10_begin_x l D cy mo a (upd f 0 (0 : Int32)) g (va_up r 9 mt_37) q hD) (cwV 0 hts gX10_rank_X10_begin rfl rfl rfl (by decide +kernel) ⟨Nat.le_of_ble_eq_true rfl, Nat.le_of_ble_eq_true rfl⟩) hK hP rfl hl.1 rfl (Nat.le_of_ble_eq_true rfl) dX10_rank_47 ⟨Nat.le_of_ble_eq_true rfl, Nat.le_of_ble_eq_true rfl⟩ hS (fun u H locs q47 hP hS => ?_)
        obtain ⟨rw_47, rfl, q47⟩ := q47
        have hP : va_P D vwCl (WM cy mo a (upd (upd (upd (upd f 0 (0 : Int32)) 11 (0 : Int32)) 12 (0 : Int32)) 13 (0 : Int32)) g (va_up (va_up r 9 mt_37) 10 rw_47) q) H := hP
        have q47 : rw_47 = upd ((r 10)) 0 (-1) := q47
        refine lv_iconst (v := 0) hx hb dX10_rank_50 (by decide) ?_
        refine lv_istore (lv' := [(4, .int (0 : Int32)), (0, .ref mo), (1, .int j), (2, .long p0)]) hx hb dX10_rank_51 hl (by decide) rfl (fun ls hl => ?_)
        have loop_53 : ∀ (n : Nat) (k : Nat) (dpa : Int32) (tra : Int32) (spa : Int32) (fda : Int64) (rwa : Nat → Int32) (mta : Nat → Int32), (-1 ≤ dpa.toInt ∧ dpa.toInt < (r 4 j.toNatClampNeg).toInt) → (0 ≤ tra.toInt ∧ tra.toInt ≤ 200000) → (spa = 0) → (k ≤ 200000) → (∃ s, wFo (2 ^ (r 3 j.toNatClampNeg).toNatClampNeg) (r 4 j.toNatClampNeg).toNatClampNeg (rGo j.toNatClampNeg r) (rFi j.toNatClampNeg r) (fun _ s => picL (r 3 j.toNatClampNeg).toNatClampNeg s.2.1 (r 4 j.toNatClampNeg).toNatClampNeg = p0) (fun _ _ => ()) ((0 : Int), (fun _ : Nat => (0 : Nat)), (0 : Nat)) () k s () ∧ rRel s dpa tra rwa) → (200000 - tra.toInt).toNat < n → ∀ (H : Heap) (locs : List Loc), va_P D vwCl (WM cy mo a (upd (upd (upd (upd f 0 (0 : Int32)) 11 dpa) 12 tra) 13 spa) (vp_updL g 14 fda) (va_up (va_up r 10 rwa) 9 mta) q) H → va_S (AM mo a) s.heap H locs → ∀ (ls : Array Slot), lv_has ls 5 [(4, .int (nI k)), (0, .ref mo), (1, .int j), (2, .long p0)] → W p l e (headSpec wsX10_rank ({ frames := 5, cells := 0, slots := 0, locals := 126 })).room s m #[Value.ref mo, Value.int j, Value.long p0] below meth c H locs 0 0 (MQ below (va_Qi (fun r0 u => ∃ (dp : Int32), ∃ (tr : Int32), ∃ (sp : Int32), ∃ (fd : Int64), ∃ (rw : Nat → Int32), ∃ (mt : Nat → Int32), u = ((upd (upd (upd (upd f 0 (0 : Int32)) 11 dp) 12 tr) 13 sp), (vp_updL g 14 fd), (va_up (va_up r 10 rw) 9 mt), q) ∧ (((okJob (f 1) j ∧ isPic ((r 3 j.toNatClampNeg).toNatClampNeg * (r 4 j.toNatClampNeg).toNatClampNeg) p0) ∧ ((fitR j.toNatClampNeg r p0 ∧ ∃ q k u, wEn (2 ^ (r 3 j.toNatClampNeg).toNatClampNeg) (r 4 j.toNatClampNeg).toNatClampNeg (rGo j.toNatClampNeg r) (rFi j.toNatClampNeg r) (fun _ s => picL (r 3 j.toNatClampNeg).toNatClampNeg s.2.1 (r 4 j.toNatClampNeg).toNatClampNeg = p0) (fun _ _ => ()) ((0 : Int), (fun _ : Nat => (0 : Nat)), (0 : Nat)) () q k () u ∧ r0 = anR q k) ∨ (¬ fitR j.toNatClampNeg r p0 ∧ r0 = -2))) ∨ (¬ (okJob (f 1) j ∧ isPic ((r 3 j.toNatClampNeg).toNatClampNeg * (r 4 j.toNatClampNeg).toNatClampNeg) p0) ∧ r0 = -1))) (mB D cy mo a) (AM mo a)) #[Value.ref mo, Value.int j, Value.long p0] s 0 0 (AM mo a)) (F0 m 53 ls []) := by
          intro n
          induction n with
          | zero => intro k dpa tra spa fda rwa mta j53_0 j53_1 j53_2 j53_3 j53_4 hn; exact absurd hn (Nat.not_lt_zero _)
          | succ n ih_53 =>
            intro k dpa tra spa fda rwa mta j53_0 j53_1 j53_2 j53_3 j53_4 hn_53 H locs hP hS ls hl
            have ik : (nI k).toInt = (k : Int) := nI_toInt (by omega)
            obtain ⟨s9, fo9, rl9⟩ := j53_4
            have gd9 := wFo_gd gd0 k fo9
            have kl9 : 0 + k ≤ s9.2.2 := gd9.2
            refine lv_aload_n hx hb dX10_rank_53 rfl (lv_at hl 1 rfl) ?_
            refine lv_iload_n hx hb dX10_rank_54 rfl (lv_at hl 2 rfl) ?_
            refine m_calli (As := [.int j]) (rest := []) ⟨hx, hb, hml, hown, hts⟩ (c_X10_isNext_x l D cy mo a (upd (upd (upd (upd f 0 (0 : Int32)) 11 dpa) 12 tra) 13 spa) (vp_updL g 14 fda) (va_up (va_up r 10 rwa) 9 mta) q j hD hI b10 (show -1 ≤ dpa.toInt ∧ dpa.toInt < (r 4 j.toNatClampNeg).toInt by omega) (show 0 ≤ tra.toInt ∧ tra.toInt ≤ 200000 by omega) rl9 gd9.1) (cwV 1 hts gX10_rank_X10_isNext rfl rfl rfl (by decide +kernel) ⟨Nat.le_of_ble_eq_true rfl, Nat.le_of_ble_eq_true rfl⟩) hK hP rfl hl.1 rfl (Nat.le_of_ble_eq_true rfl) dX10_rank_55 ⟨Nat.le_of_ble_eq_true rfl, Nat.le_of_ble_eq_true rfl⟩ hS (fun r55 u H locs q55 hP hS => ?_)
            obtain ⟨dp_55, tr_55, sp_55, fd_55, rw_55, mt_55, rfl, q55⟩ := q55
            have hP : va_P D vwCl (WM cy mo a (upd (upd (upd (upd f 0 (0 : Int32)) 11 dp_55) 12 tr_55) 13 sp_55) (vp_updL g 14 fd_55) (va_up (va_up r 10 rw_55) 9 mt_55) q) H := hP
            have q55 : ((r55 = 0 ∨ r55 = 1) ∧ (-1 ≤ dp_55.toInt ∧ dp_55.toInt < ((r 4) j.toNatClampNeg).toInt) ∧ ((tra).toInt ≤ tr_55.toInt ∧ tr_55.toInt ≤ 200000) ∧ (r55 = 1 → (tra).toInt < tr_55.toInt)) ∧ ((r55 = 1 ∧ sp_55 = (spa) ∧ ∃ t, rRun j.toNatClampNeg (va_up (va_up r 10 rwa) 9 mta) s9 2 t ∧ rRel t dp_55 tr_55 rw_55 ∧ fd_55 = picL ((r 3) j.toNatClampNeg).toNatClampNeg t.2.1 ((r 4) j.toNatClampNeg).toNatClampNeg) ∨ (r55 = 0 ∧ ((sp_55 = (spa) ∧ ∃ t, rRun j.toNatClampNeg (va_up (va_up r 10 rwa) 9 mta) s9 0 t) ∨ (sp_55 = 1 ∧ ∃ t, rRun j.toNatClampNeg (va_up (va_up r 10 rwa) 9 mta) s9 1 t)))) := q55
            have b55 := q55.1.2.1
            have t55 := q55.1.2.2.1
            refine lv_if_eq (tgt := 79) hx hb dX10_rank_58 (by decide) (fun c58 => ?_) (fun c58 => ?_)
            · skip
              have d58 := c58
              rw [fa_eq] at d58
              have n9 := q55.2.resolve_left (fun z9 => absurd (z9.1.symm.trans c58) (by decide))
              refine lv_bipush (v := (-5)) hx hb dX10_rank_79 (by decide) ?_
              exact W.iret (v := ((-5) : Int32)) hx hb hr (fun t ht hW => ⟨⟨_, ((upd (upd (upd (upd f 0 (0 : Int32)) 11 dp_55) 12 tr_55) 13 sp_55), (vp_updL g 14 fd_55), (va_up (va_up r 10 rw_55) 9 mt_55), q), rfl, ⟨dp_55, tr_55, sp_55, fd_55, rw_55, mt_55, rfl, (Or.inl ⟨⟨b10, (goodP_of b29).2⟩, Or.inl ⟨b40, (by rcases n9.2 with ⟨z1, u9, z2⟩ | ⟨z1, u9, z2⟩; (exact ⟨0, k, u9, ⟨s9, fo9, z2, (fun y9 => by cases y9)⟩, rfl⟩); (exact ⟨1, k, u9, ⟨s9, fo9, z2, (fun y9 => by cases y9)⟩, rfl⟩))⟩⟩)⟩, by unfold mB; rw [ht]; exact hP⟩, hS.F ht⟩) hS.2.2 dX10_rank_81
            · skip
              have d58 := c58
              rw [fa_eq] at d58
              obtain ⟨-, sp9, t9, ru9, rl8, fd9⟩ := q55.2.resolve_right (fun z9 => c58 z9.1)
              have ru9 : rRun j.toNatClampNeg r s9 2 t9 := ru9
              have gd8 := wRun_2 gd9.1 ru9
              have kk9 : k + 1 ≤ 200000 := by have z1 : t9.2.2 ≤ 200000 := gd8.1.1.2.2; have z2 := gd8.2; omega
              refine lv_aload_n hx hb dX10_rank_61 rfl (lv_at hl 1 rfl) ?_
              refine m_get (v := .long fd_55) hx hb hts hin hown hK hP 14 (by decide) rfl (hts (.fieldLink RX10 175 "ShadowBenchModel" "found" "J") (by decide +kernel)) rfl dX10_rank_62 ?_
              refine lv_lload_n hx hb dX10_rank_65 rfl (lv_at hl 3 rfl) ?_
              refine W.lcmp hx hb dX10_rank_66 ?_
              refine lv_if_ne (tgt := 73) hx hb dX10_rank_67 (by decide) (fun c67 => ?_) (fun c67 => ?_)
              · skip
                have d67 := c67
                rw [lg_cmp_eq, fa_eq64] at d67
                refine lv_iinc (v := (nI (k + 1))) (lv' := [(4, .int (nI (k + 1))), (0, .ref mo), (1, .int j), (2, .long p0)]) hx hb dX10_rank_73 hl (k := 0) rfl (nI_1 _) (by decide) rfl (fun ls hl => ?_)
                refine lv_goto (tgt := 53) hx hb dX10_rank_76 (by decide) ?_
                exact ih_53 (k + 1) dp_55 tr_55 sp_55 fd_55 rw_55 mt_55 (by omega) (by omega) (by rw [sp9]; exact j53_2) (kk9) (⟨t9, ⟨s9, (), fo9, ru9, (fun z9 => c67 ((lg_cmp_eq _ _).mpr (fd9.trans z9))), rfl⟩, rl8⟩) (by have z9 := q55.1.2.2.2 (q55.1.1.resolve_left c58); omega) _ _ hP hS ls (lv_sub hl [0, 1, 2, 3] rfl)
              · skip
                have d67 := c67
                rw [lg_cmp_eq, fa_eq64] at d67
                refine lv_iload hx hb dX10_rank_70 (lv_at hl 0 rfl) ?_
                exact W.iret (v := (nI k)) hx hb hr (fun t ht hW => ⟨⟨_, ((upd (upd (upd (upd f 0 (0 : Int32)) 11 dp_55) 12 tr_55) 13 sp_55), (vp_updL g 14 fd_55), (va_up (va_up r 10 rw_55) 9 mt_55), q), rfl, ⟨dp_55, tr_55, sp_55, fd_55, rw_55, mt_55, rfl, (Or.inl ⟨⟨b10, (goodP_of b29).2⟩, Or.inl ⟨b40, 2, k, t9, ⟨s9, fo9, ru9, (fun _ => fd9.symm.trans ((lg_cmp_eq _ _).mp c67))⟩, rfl⟩⟩)⟩, by unfold mB; rw [ht]; exact hP⟩, hS.F ht⟩) hS.2.2 dX10_rank_72
        exact loop_53 (200000 + 1) 0 (0 : Int32) (0 : Int32) (0 : Int32) (g 14) rw_47 mt_37 (by omega) (by omega) (rfl) (by omega) (⟨((0 : Int), (fun _ : Nat => (0 : Nat)), (0 : Nat)), ⟨rfl, rfl⟩, rRel_0 (by rw [q47]; rfl)⟩) (by omega) _ _ hP hS ls (lv_sub hl [0, 1, 2, 3] rfl)
      · skip
        have b40 := bo_f q37 c40
        refine lv_bipush (v := (-2)) hx hb dX10_rank_43 (by decide) ?_
        exact W.iret (v := ((-2) : Int32)) hx hb hr (fun t ht hW => ⟨⟨_, ((upd (upd (upd (upd f 0 (0 : Int32)) 11 (f 11)) 12 (f 12)) 13 (f 13)), (vp_updL g 14 (g 14)), (va_up (va_up r 10 (r 10)) 9 mt_37), q), rfl, ⟨(f 11), (f 12), (f 13), (g 14), (r 10), mt_37, rfl, (Or.inl ⟨⟨b10, (goodP_of b29).2⟩, Or.inr ⟨b40, rfl⟩⟩)⟩, by unfold mB; rw [ht]; exact hP⟩, hS.F ht⟩) hS.2.2 dX10_rank_45
    · skip
      have b29 := bo_f q26 c29
      refine lv_iconst (v := (-1)) hx hb dX10_rank_32 (by decide) ?_
      exact W.iret (v := ((-1) : Int32)) hx hb hr (fun t ht hW => ⟨⟨_, ((upd (upd (upd (upd f 0 (0 : Int32)) 11 (f 11)) 12 (f 12)) 13 (f 13)), (vp_updL g 14 (g 14)), (va_up (va_up r 10 (r 10)) 9 (r 9)), q), rfl, ⟨(f 11), (f 12), (f 13), (g 14), (r 10), (r 9), rfl, (Or.inr ⟨(fun z9 => by have z8 := z9.1; unfold okJob at z8; first | exact b10 z8 | (have szw := mi_w hI (x := j) z8.1 z8.2 rfl; have szh := mi_h hI (x := j) z8.1 z8.2 rfl; exact goodP_no b29 ⟨⟨szw, szh⟩, z9.2⟩)), rfl⟩)⟩, by unfold mB; rw [ht]; exact hP⟩, hS.F ht⟩) hS.2.2 dX10_rank_33
set_option maxHeartbeats 4000000 in
set_option maxRecDepth 100000 in
theorem c_X10_sure_y (l : Launch) (D : va_G) (cy : Nat → ClassId) (mo : Nat) (a : Nat → Nat) (f : Nat → Int32) (g : Nat → Int64) (r : Nat → Nat → Int32) (q : Nat → Nat → Int64) (j : Int32) (s0 : Int32) (hD : DM cy mo a) (hI : MI f r) (hr9 : okJob (f 1) j → ∀ y l, y < 2 → l < lnC (r 3 j.toNatClampNeg).toNatClampNeg (r 4 j.toNatClampNeg).toNatClampNeg y → 0 ≤ (r 5 (44 * j.toNatClampNeg + 11 * y + l)).toInt ∧ (r 5 (44 * j.toNatClampNeg + 11 * y + l)).toInt ≤ 6) : Mi l D cy mo a yX10_sure wsX10_sure ({ frames := 5, cells := 0, slots := 0, locals := 126 }) f g r q [.int j, .int s0] (fun r0 u => ∃ (dp : Int32), ∃ (tr : Int32), ∃ (sp : Int32), ∃ (fd : Int64), ∃ (rw : Nat → Int32), ∃ (mt : Nat → Int32), u = ((upd (upd (upd (upd f 0 (0 : Int32)) 11 dp) 12 tr) 13 sp), (vp_updL g 14 fd), (va_up (va_up r 10 rw) 9 mt), q) ∧ (((okJob (f 1) j ∧ 0 ≤ s0.toInt ∧ s0.toInt < (((r 3 j.toNatClampNeg).toNatClampNeg * (r 4 j.toNatClampNeg).toNatClampNeg : Nat) : Int)) ∧ ∃ q k a u, wEn (2 ^ (r 3 j.toNatClampNeg).toNatClampNeg) (r 4 j.toNatClampNeg).toNatClampNeg (rGo j.toNatClampNeg r) (rFi j.toNatClampNeg r) (fun _ _ => False) (fun a s => a + (lb (picL (r 3 j.toNatClampNeg).toNatClampNeg s.2.1 (r 4 j.toNatClampNeg).toNatClampNeg) s0.toNatClampNeg).toNat) ((0 : Int), (fun _ : Nat => (0 : Nat)), (0 : Nat)) 0 q k a u ∧ r0 = anS q k a) ∨ (¬ (okJob (f 1) j ∧ 0 ≤ s0.toInt ∧ s0.toInt < (((r 3 j.toNatClampNeg).toNatClampNeg * (r 4 j.toNatClampNeg).toNatClampNeg : Nat) : Int)) ∧ r0 = -1))) := by
  refine Met.ofW (cc := cX10_sure) (maxL := 5) (ret := (some .int)) (by decide) rfl ?_
  intro p e s m args below meth c s₁ B hml hv
  obtain ⟨rfl, hP, hK⟩ := hv
  have hx := B.exec
  have hb := B.bytes
  have hr := B.returns
  have hts := atoms_spec (ws := wsX10_sure) B.pre
  have hin : ∀ w ∈ u_ws RX10 TX10 35, w ∈ wsX10_sure := by decide +kernel
  have hown : s.vm.findClass RX10 = some m.cls := findClass_of_methodNamed B.named
  have hlocks := B.notSynchronized
  have hS : va_S (AM mo a) s.heap s.heap [] := va_S.rf
  have hl := lv_entry ([.ref mo, .int j, .int s0]) (n := 5) (Nat.le_of_ble_eq_true rfl)
  rw [lg_entry_eq]
  generalize (lg_sl ([.ref mo, .int j, .int s0]) ++ List.replicate (5 - (lg_sl ([.ref mo, .int j, .int s0])).length) Slot.unset).toArray = ls at hl ⊢
  have hl : lv_has ls 5 [(0, .ref mo), (1, .int j), (2, .int s0)] := hl
  have k_m5 : (-5 : Int32).toInt = -5 := by decide
  have k_m2 : (-2 : Int32).toInt = -2 := by decide
  have k_m1 : (-1 : Int32).toInt = -1 := by decide
  have k_0 : (0 : Int32).toInt = 0 := by decide
  have k_1 : (1 : Int32).toInt = 1 := by decide
  have k_2 : (2 : Int32).toInt = 2 := by decide
  have hI1 := hI.1
  refine lv_aload_n hx hb dX10_sure_0 rfl (lv_at hl 0 rfl) ?_
  refine lv_iconst (v := 0) hx hb dX10_sure_1 (by decide) ?_
  refine m_put (v := .int (0 : Int32)) (ty := .int) hx hb hts hin hown hK hP hD hS 0 (by decide) rfl (hts (.fieldLink RX10 79 "ShadowBenchModel" "thrown" "I") (by decide +kernel)) rfl (by decide +kernel) rfl rfl (upd f 0 (0 : Int32)) g rfl dX10_sure_2 (fun H locs hP hS => ?_)
  refine lv_aload_n hx hb dX10_sure_5 rfl (lv_at hl 0 rfl) ?_
  refine lv_iload_n hx hb dX10_sure_6 rfl (lv_at hl 1 rfl) ?_
  refine lv_iload_n hx hb dX10_sure_7 rfl (lv_at hl 2 rfl) ?_
  refine m_calli (As := [.int j, .int s0]) (rest := []) ⟨hx, hb, hml, hown, hts⟩ (c_X10_isSquare l D cy mo a (upd f 0 (0 : Int32)) g r q j s0 hD hI) (cwV 2 hts gX10_sure_X10_isSquare rfl rfl rfl (by decide +kernel) ⟨Nat.le_of_ble_eq_true rfl, Nat.le_of_ble_eq_true rfl⟩) hK hP rfl hl.1 rfl (Nat.le_of_ble_eq_true rfl) dX10_sure_8 ⟨Nat.le_of_ble_eq_true rfl, Nat.le_of_ble_eq_true rfl⟩ hS (fun r8 u H locs q8 hP hS => ?_)
  obtain ⟨rfl, q8⟩ := q8
  have hP : va_P D vwCl (WM cy mo a (upd f 0 (0 : Int32)) g r q) H := hP
  have q8 : Bo r8 ((0 ≤ j.toInt ∧ j.toInt < ((f 1)).toInt) ∧ 0 ≤ s0.toInt ∧ s0.toInt < ((r 3) j.toNatClampNeg).toInt * ((r 4) j.toNatClampNeg).toInt) := q8
  refine lv_if_ne (tgt := 16) hx hb dX10_sure_11 (by decide) (fun c11 => ?_) (fun c11 => ?_)
  · skip
    have b11 := bo_t q8 c11
    have hh := mi_h hI (x := j) (by omega) (by omega) rfl
    have szw := mi_w hI (x := j) (by omega) (by omega) rfl
    have cw9 := m_cl (x := r 3 j.toNatClampNeg) (by omega)
    have ch9 := m_cl (x := r 4 j.toNatClampNeg) (by omega)
    have gd0 := rg_r (w := 0) (h := 0) (j := j.toNatClampNeg) (r := r) (by omega) (hr9 b11.1)
    have sq9 := sq_eq hI b11.1.1 b11.1.2
    have m9 := mul66 szw hh
    have cs9 := m_cl (x := s0) (by omega)
    refine lv_aload_n hx hb dX10_sure_16 rfl (lv_at hl 0 rfl) ?_
    refine m_callv (As := []) (rest := []) ⟨hx, hb, hml, hown, hts⟩ (c_X10_begin_x l D cy mo a (upd f 0 (0 : Int32)) g r q hD) (cwV 0 hts gX10_sure_X10_begin rfl rfl rfl (by decide +kernel) ⟨Nat.le_of_ble_eq_true rfl, Nat.le_of_ble_eq_true rfl⟩) hK hP rfl hl.1 rfl (Nat.le_of_ble_eq_true rfl) dX10_sure_17 ⟨Nat.le_of_ble_eq_true rfl, Nat.le_of_ble_eq_true rfl⟩ hS (fun u H locs q17 hP hS => ?_)
    obtain ⟨rw_17, rfl, q17⟩ := q17
    have hP : va_P D vwCl (WM cy mo a (upd (upd (upd (upd f 0 (0 : Int32)) 11 (0 : Int32)) 12 (0 : Int32)) 13 (0 : Int32)) g (va_up r 10 rw_17) q) H := hP
    have q17 : rw_17 = upd ((r 10)) 0 (-1) := q17
    refine lv_iconst (v := 0) hx hb dX10_sure_20 (by decide) ?_
    refine lv_istore_n (lv' := [(3, .int (0 : Int32)), (0, .ref mo), (1, .int j), (2, .int s0)]) hx hb dX10_sure_21 rfl hl (by decide) rfl (fun ls hl => ?_)
    refine lv_iconst (v := 0) hx hb dX10_sure_22 (by decide) ?_
    refine lv_istore (lv' := [(4, .int (0 : Int32)), (3, .int (0 : Int32)), (0, .ref mo), (1, .int j), (2, .int s0)]) hx hb dX10_sure_23 hl (by decide) rfl (fun ls hl => ?_)
    have loop_25 : ∀ (n : Nat) (x4 : Int32) (k : Nat) (dpa : Int32) (tra : Int32) (spa : Int32) (fda : Int64) (rwa : Nat → Int32) (mta : Nat → Int32) (a4 : Nat), (-1 ≤ dpa.toInt ∧ dpa.toInt < (r 4 j.toNatClampNeg).toInt) → (0 ≤ tra.toInt ∧ tra.toInt ≤ 200000) → (spa = 0) → (k ≤ 200000) → (∃ s, wFo (2 ^ (r 3 j.toNatClampNeg).toNatClampNeg) (r 4 j.toNatClampNeg).toNatClampNeg (rGo j.toNatClampNeg r) (rFi j.toNatClampNeg r) (fun _ _ => False) (fun a s => a + (lb (picL (r 3 j.toNatClampNeg).toNatClampNeg s.2.1 (r 4 j.toNatClampNeg).toNatClampNeg) s0.toNatClampNeg).toNat) ((0 : Int), (fun _ : Nat => (0 : Nat)), (0 : Nat)) 0 k s a4 ∧ rRel s dpa tra rwa) → (x4 = nI a4 ∧ a4 ≤ k) → (200000 - tra.toInt).toNat < n → ∀ (H : Heap) (locs : List Loc), va_P D vwCl (WM cy mo a (upd (upd (upd (upd f 0 (0 : Int32)) 11 dpa) 12 tra) 13 spa) (vp_updL g 14 fda) (va_up (va_up r 10 rwa) 9 mta) q) H → va_S (AM mo a) s.heap H locs → ∀ (ls : Array Slot), lv_has ls 5 [(4, .int x4), (3, .int (nI k)), (0, .ref mo), (1, .int j), (2, .int s0)] → W p l e (headSpec wsX10_sure ({ frames := 5, cells := 0, slots := 0, locals := 126 })).room s m #[Value.ref mo, Value.int j, Value.int s0] below meth c H locs 0 0 (MQ below (va_Qi (fun r0 u => ∃ (dp : Int32), ∃ (tr : Int32), ∃ (sp : Int32), ∃ (fd : Int64), ∃ (rw : Nat → Int32), ∃ (mt : Nat → Int32), u = ((upd (upd (upd (upd f 0 (0 : Int32)) 11 dp) 12 tr) 13 sp), (vp_updL g 14 fd), (va_up (va_up r 10 rw) 9 mt), q) ∧ (((okJob (f 1) j ∧ 0 ≤ s0.toInt ∧ s0.toInt < (((r 3 j.toNatClampNeg).toNatClampNeg * (r 4 j.toNatClampNeg).toNatClampNeg : Nat) : Int)) ∧ ∃ q k a u, wEn (2 ^ (r 3 j.toNatClampNeg).toNatClampNeg) (r 4 j.toNatClampNeg).toNatClampNeg (rGo j.toNatClampNeg r) (rFi j.toNatClampNeg r) (fun _ _ => False) (fun a s => a + (lb (picL (r 3 j.toNatClampNeg).toNatClampNeg s.2.1 (r 4 j.toNatClampNeg).toNatClampNeg) s0.toNatClampNeg).toNat) ((0 : Int), (fun _ : Nat => (0 : Nat)), (0 : Nat)) 0 q k a u ∧ r0 = anS q k a) ∨ (¬ (okJob (f 1) j ∧ 0 ≤ s0.toInt ∧ s0.toInt < (((r 3 j.toNatClampNeg).toNatClampNeg * (r 4 j.toNatClampNeg).toNatClampNeg : Nat) : Int)) ∧ r0 = -1))) (mB D cy mo a) (AM mo a)) #[Value.ref mo, Value.int j, Value.int s0] s 0 0 (AM mo a)) (F0 m 25 ls []) := by
      intro n
      induction n with
      | zero => intro x4 k dpa tra spa fda rwa mta a4 j25_0 j25_1 j25_2 j25_3 j25_4 j25_5 hn; exact absurd hn (Nat.not_lt_zero _)
      | succ n ih_25 =>
        intro x4 k dpa tra spa fda rwa mta a4 j25_0 j25_1 j25_2 j25_3 j25_4 j25_5 hn_25 H locs hP hS ls hl
        have ik : (nI k).toInt = (k : Int) := nI_toInt (by omega)
        have ik9 : k ≤ 200000 := j25_3
        obtain ⟨s9, fo9, rl9⟩ := j25_4
        have gd9 := wFo_gd gd0 k fo9
        have kl9 : 0 + k ≤ s9.2.2 := gd9.2
        refine lv_aload_n hx hb dX10_sure_25 rfl (lv_at hl 2 rfl) ?_
        refine lv_iload_n hx hb dX10_sure_26 rfl (lv_at hl 3 rfl) ?_
        refine m_calli (As := [.int j]) (rest := []) ⟨hx, hb, hml, hown, hts⟩ (c_X10_isNext_x l D cy mo a (upd (upd (upd (upd f 0 (0 : Int32)) 11 dpa) 12 tra) 13 spa) (vp_updL g 14 fda) (va_up (va_up r 10 rwa) 9 mta) q j hD hI b11.1 (show -1 ≤ dpa.toInt ∧ dpa.toInt < (r 4 j.toNatClampNeg).toInt by omega) (show 0 ≤ tra.toInt ∧ tra.toInt ≤ 200000 by omega) rl9 gd9.1) (cwV 1 hts gX10_sure_X10_isNext rfl rfl rfl (by decide +kernel) ⟨Nat.le_of_ble_eq_true rfl, Nat.le_of_ble_eq_true rfl⟩) hK hP rfl hl.1 rfl (Nat.le_of_ble_eq_true rfl) dX10_sure_27 ⟨Nat.le_of_ble_eq_true rfl, Nat.le_of_ble_eq_true rfl⟩ hS (fun r27 u H locs q27 hP hS => ?_)
        obtain ⟨dp_27, tr_27, sp_27, fd_27, rw_27, mt_27, rfl, q27⟩ := q27
        have hP : va_P D vwCl (WM cy mo a (upd (upd (upd (upd f 0 (0 : Int32)) 11 dp_27) 12 tr_27) 13 sp_27) (vp_updL g 14 fd_27) (va_up (va_up r 10 rw_27) 9 mt_27) q) H := hP
        have q27 : ((r27 = 0 ∨ r27 = 1) ∧ (-1 ≤ dp_27.toInt ∧ dp_27.toInt < ((r 4) j.toNatClampNeg).toInt) ∧ ((tra).toInt ≤ tr_27.toInt ∧ tr_27.toInt ≤ 200000) ∧ (r27 = 1 → (tra).toInt < tr_27.toInt)) ∧ ((r27 = 1 ∧ sp_27 = (spa) ∧ ∃ t, rRun j.toNatClampNeg (va_up (va_up r 10 rwa) 9 mta) s9 2 t ∧ rRel t dp_27 tr_27 rw_27 ∧ fd_27 = picL ((r 3) j.toNatClampNeg).toNatClampNeg t.2.1 ((r 4) j.toNatClampNeg).toNatClampNeg) ∨ (r27 = 0 ∧ ((sp_27 = (spa) ∧ ∃ t, rRun j.toNatClampNeg (va_up (va_up r 10 rwa) 9 mta) s9 0 t) ∨ (sp_27 = 1 ∧ ∃ t, rRun j.toNatClampNeg (va_up (va_up r 10 rwa) 9 mta) s9 1 t)))) := q27
        have b27 := q27.1.2.1
        have t27 := q27.1.2.2.1
        refine lv_if_eq (tgt := 52) hx hb dX10_sure_30 (by decide) (fun c30 => ?_) (fun c30 => ?_)
        · skip
          have d30 := c30
          rw [fa_eq] at d30
          have n9 := q27.2.resolve_left (fun z9 => absurd (z9.1.symm.trans c30) (by decide))
          refine lv_aload_n hx hb dX10_sure_52 rfl (lv_at hl 2 rfl) ?_
          refine m_get (v := .int sp_27) hx hb hts hin hown hK hP 13 (by decide) rfl (hts (.fieldLink RX10 163 "ShadowBenchModel" "spent" "Z") (by decide +kernel)) rfl dX10_sure_53 ?_
          refine lv_if_eq (tgt := 64) hx hb dX10_sure_56 (by decide) (fun c56 => ?_) (fun c56 => ?_)
          · skip
            have d56 := c56
            rw [fa_eq] at d56
            refine lv_iload_n hx hb dX10_sure_64 rfl (lv_at hl 1 rfl) ?_
            refine lv_if_ne (tgt := 73) hx hb dX10_sure_65 (by decide) (fun c65 => ?_) (fun c65 => ?_)
            · skip
              have d65 := c65
              rw [fa_eq] at d65
              refine lv_iload hx hb dX10_sure_73 (lv_at hl 0 rfl) ?_
              refine lv_if_ne (tgt := 82) hx hb dX10_sure_75 (by decide) (fun c75 => ?_) (fun c75 => ?_)
              · skip
                have d75 := c75
                rw [fa_eq] at d75
                refine lv_iload hx hb dX10_sure_82 (lv_at hl 0 rfl) ?_
                refine lv_iload_n hx hb dX10_sure_84 rfl (lv_at hl 1 rfl) ?_
                refine lv_icmp_ne (tgt := 92) hx hb dX10_sure_85 (by decide) (fun c85 => ?_) (fun c85 => ?_)
                · skip
                  have d85 := c85
                  rw [fa_eq] at d85
                  refine lv_iconst (v := 2) hx hb dX10_sure_92 (by decide) ?_
                  exact W.iret (v := (2 : Int32)) hx hb hr (fun t ht hW => ⟨⟨_, ((upd (upd (upd (upd f 0 (0 : Int32)) 11 dp_27) 12 tr_27) 13 sp_27), (vp_updL g 14 fd_27), (va_up (va_up r 10 rw_27) 9 mt_27), q), rfl, ⟨dp_27, tr_27, sp_27, fd_27, rw_27, mt_27, rfl, (Or.inl ⟨⟨b11.1, by rw [sq9]; exact b11.2⟩, (by rcases n9.2 with ⟨z1, u9, z2⟩ | ⟨z1, u9, z2⟩; (first | exact absurd (z1.trans j25_2) c56 | exact ⟨0, k, a4, u9, ⟨s9, fo9, z2, (fun y9 => by cases y9)⟩, su_ans ik9 j25_5.1 j25_5.2 (by first | exact Or.inl ⟨c65, rfl⟩ | exact Or.inr (Or.inl ⟨c65, c75, rfl⟩) | exact Or.inr (Or.inr (Or.inl ⟨c65, c75, c85, rfl⟩)) | exact Or.inr (Or.inr (Or.inr ⟨c65, c75, c85, rfl⟩)))⟩); (first | exact absurd (z1.symm.trans c56) (by decide) | exact ⟨1, k, a4, u9, ⟨s9, fo9, z2, (fun y9 => by cases y9)⟩, rfl⟩))⟩)⟩, by unfold mB; rw [ht]; exact hP⟩, hS.F ht⟩) hS.2.2 dX10_sure_93
                · skip
                  have d85 := c85
                  rw [fa_eq] at d85
                  refine lv_iconst (v := 1) hx hb dX10_sure_88 (by decide) ?_
                  refine lv_goto (tgt := 93) hx hb dX10_sure_89 (by decide) ?_
                  exact W.iret (v := (1 : Int32)) hx hb hr (fun t ht hW => ⟨⟨_, ((upd (upd (upd (upd f 0 (0 : Int32)) 11 dp_27) 12 tr_27) 13 sp_27), (vp_updL g 14 fd_27), (va_up (va_up r 10 rw_27) 9 mt_27), q), rfl, ⟨dp_27, tr_27, sp_27, fd_27, rw_27, mt_27, rfl, (Or.inl ⟨⟨b11.1, by rw [sq9]; exact b11.2⟩, (by rcases n9.2 with ⟨z1, u9, z2⟩ | ⟨z1, u9, z2⟩; (first | exact absurd (z1.trans j25_2) c56 | exact ⟨0, k, a4, u9, ⟨s9, fo9, z2, (fun y9 => by cases y9)⟩, su_ans ik9 j25_5.1 j25_5.2 (by first | exact Or.inl ⟨c65, rfl⟩ | exact Or.inr (Or.inl ⟨c65, c75, rfl⟩) | exact Or.inr (Or.inr (Or.inl ⟨c65, c75, c85, rfl⟩)) | exact Or.inr (Or.inr (Or.inr ⟨c65, c75, c85, rfl⟩)))⟩); (first | exact absurd (z1.symm.trans c56) (by decide) | exact ⟨1, k, a4, u9, ⟨s9, fo9, z2, (fun y9 => by cases y9)⟩, rfl⟩))⟩)⟩, by unfold mB; rw [ht]; exact hP⟩, hS.F ht⟩) hS.2.2 dX10_sure_93
              · skip
                have d75 := c75
                rw [fa_eq] at d75
                refine lv_iconst (v := 0) hx hb dX10_sure_78 (by decide) ?_
                refine lv_goto (tgt := 93) hx hb dX10_sure_79 (by decide) ?_
                exact W.iret (v := (0 : Int32)) hx hb hr (fun t ht hW => ⟨⟨_, ((upd (upd (upd (upd f 0 (0 : Int32)) 11 dp_27) 12 tr_27) 13 sp_27), (vp_updL g 14 fd_27), (va_up (va_up r 10 rw_27) 9 mt_27), q), rfl, ⟨dp_27, tr_27, sp_27, fd_27, rw_27, mt_27, rfl, (Or.inl ⟨⟨b11.1, by rw [sq9]; exact b11.2⟩, (by rcases n9.2 with ⟨z1, u9, z2⟩ | ⟨z1, u9, z2⟩; (first | exact absurd (z1.trans j25_2) c56 | exact ⟨0, k, a4, u9, ⟨s9, fo9, z2, (fun y9 => by cases y9)⟩, su_ans ik9 j25_5.1 j25_5.2 (by first | exact Or.inl ⟨c65, rfl⟩ | exact Or.inr (Or.inl ⟨c65, c75, rfl⟩) | exact Or.inr (Or.inr (Or.inl ⟨c65, c75, c85, rfl⟩)) | exact Or.inr (Or.inr (Or.inr ⟨c65, c75, c85, rfl⟩)))⟩); (first | exact absurd (z1.symm.trans c56) (by decide) | exact ⟨1, k, a4, u9, ⟨s9, fo9, z2, (fun y9 => by cases y9)⟩, rfl⟩))⟩)⟩, by unfold mB; rw [ht]; exact hP⟩, hS.F ht⟩) hS.2.2 dX10_sure_93
            · skip
              have d65 := c65
              rw [fa_eq] at d65
              refine lv_bipush (v := (-2)) hx hb dX10_sure_68 (by decide) ?_
              refine lv_goto (tgt := 93) hx hb dX10_sure_70 (by decide) ?_
              exact W.iret (v := ((-2) : Int32)) hx hb hr (fun t ht hW => ⟨⟨_, ((upd (upd (upd (upd f 0 (0 : Int32)) 11 dp_27) 12 tr_27) 13 sp_27), (vp_updL g 14 fd_27), (va_up (va_up r 10 rw_27) 9 mt_27), q), rfl, ⟨dp_27, tr_27, sp_27, fd_27, rw_27, mt_27, rfl, (Or.inl ⟨⟨b11.1, by rw [sq9]; exact b11.2⟩, (by rcases n9.2 with ⟨z1, u9, z2⟩ | ⟨z1, u9, z2⟩; (first | exact absurd (z1.trans j25_2) c56 | exact ⟨0, k, a4, u9, ⟨s9, fo9, z2, (fun y9 => by cases y9)⟩, su_ans ik9 j25_5.1 j25_5.2 (by first | exact Or.inl ⟨c65, rfl⟩ | exact Or.inr (Or.inl ⟨c65, c75, rfl⟩) | exact Or.inr (Or.inr (Or.inl ⟨c65, c75, c85, rfl⟩)) | exact Or.inr (Or.inr (Or.inr ⟨c65, c75, c85, rfl⟩)))⟩); (first | exact absurd (z1.symm.trans c56) (by decide) | exact ⟨1, k, a4, u9, ⟨s9, fo9, z2, (fun y9 => by cases y9)⟩, rfl⟩))⟩)⟩, by unfold mB; rw [ht]; exact hP⟩, hS.F ht⟩) hS.2.2 dX10_sure_93
          · skip
            have d56 := c56
            rw [fa_eq] at d56
            refine lv_bipush (v := (-5)) hx hb dX10_sure_59 (by decide) ?_
            refine lv_goto (tgt := 93) hx hb dX10_sure_61 (by decide) ?_
            exact W.iret (v := ((-5) : Int32)) hx hb hr (fun t ht hW => ⟨⟨_, ((upd (upd (upd (upd f 0 (0 : Int32)) 11 dp_27) 12 tr_27) 13 sp_27), (vp_updL g 14 fd_27), (va_up (va_up r 10 rw_27) 9 mt_27), q), rfl, ⟨dp_27, tr_27, sp_27, fd_27, rw_27, mt_27, rfl, (Or.inl ⟨⟨b11.1, by rw [sq9]; exact b11.2⟩, (by rcases n9.2 with ⟨z1, u9, z2⟩ | ⟨z1, u9, z2⟩; (first | exact absurd (z1.trans j25_2) c56 | exact ⟨0, k, a4, u9, ⟨s9, fo9, z2, (fun y9 => by cases y9)⟩, su_ans ik9 j25_5.1 j25_5.2 (by first | exact Or.inl ⟨c65, rfl⟩ | exact Or.inr (Or.inl ⟨c65, c75, rfl⟩) | exact Or.inr (Or.inr (Or.inl ⟨c65, c75, c85, rfl⟩)) | exact Or.inr (Or.inr (Or.inr ⟨c65, c75, c85, rfl⟩)))⟩); (first | exact absurd (z1.symm.trans c56) (by decide) | exact ⟨1, k, a4, u9, ⟨s9, fo9, z2, (fun y9 => by cases y9)⟩, rfl⟩))⟩)⟩, by unfold mB; rw [ht]; exact hP⟩, hS.F ht⟩) hS.2.2 dX10_sure_93
        · skip
          have d30 := c30
          rw [fa_eq] at d30
          obtain ⟨-, sp9, t9, ru9, rl8, fd9⟩ := q27.2.resolve_right (fun z9 => c30 z9.1)
          have ru9 : rRun j.toNatClampNeg r s9 2 t9 := ru9
          have gd8 := wRun_2 gd9.1 ru9
          have kk9 : k + 1 ≤ 200000 := by have z1 : t9.2.2 ≤ 200000 := gd8.1.1.2.2; have z2 := gd8.2; omega
          refine lv_iinc (v := (nI (k + 1))) (lv' := [(3, .int (nI (k + 1))), (4, .int x4), (0, .ref mo), (1, .int j), (2, .int s0)]) hx hb dX10_sure_33 hl (k := 1) rfl (nI_1 _) (by decide) rfl (fun ls hl => ?_)
          refine lv_iload hx hb dX10_sure_36 (lv_at hl 1 rfl) ?_
          refine lv_aload_n hx hb dX10_sure_38 rfl (lv_at hl 2 rfl) ?_
          refine m_get (v := .long fd_27) hx hb hts hin hown hK hP 14 (by decide) rfl (hts (.fieldLink RX10 175 "ShadowBenchModel" "found" "J") (by decide +kernel)) rfl dX10_sure_39 ?_
          refine lv_iload_n hx hb dX10_sure_42 rfl (lv_at hl 4 rfl) ?_
          refine m_pu (As := [.long fd_27, .int s0]) (rest := [.int x4]) ⟨hx, hb, hml, hown, hts⟩ (c_X10_one l fd_27 s0 ) (va_cwS 2 hts gX10_sure_X10_one rfl rfl rfl (by decide +kernel) ⟨Nat.le_of_ble_eq_true rfl, Nat.le_of_ble_eq_true rfl⟩) hP rfl hl.1 rfl (Nat.le_of_ble_eq_true rfl) dX10_sure_43 ⟨Nat.le_of_ble_eq_true rfl, Nat.le_of_ble_eq_true rfl⟩ hS (fun r43 H locs q43 hP hS => ?_)
          have i43 : r43.toInt = (r_one fd_27 s0).toInt := congrArg Int32.toInt q43
          refine lv_iadd hx hb dX10_sure_46 ?_
          refine lv_topi (fun v46 e46 => ?_)
          have f43 : r43 = if lb fd_27 s0.toNatClampNeg then 1 else 0 := by rw [q43, ← one_lb fd_27 (by omega), cl_nI (by omega)]
          have f46 : v46 = nI (a4 + (lb (picL (r 3 j.toNatClampNeg).toNatClampNeg t9.2.1 (r 4 j.toNatClampNeg).toNatClampNeg) s0.toNatClampNeg).toNat) := by rw [← fd9]; exact nI_if e46 j25_5.1 f43
          refine lv_istore (lv' := [(4, .int v46), (3, .int (nI (k + 1))), (0, .ref mo), (1, .int j), (2, .int s0)]) hx hb dX10_sure_47 hl (by decide) rfl (fun ls hl => ?_)
          refine lv_goto (tgt := 25) hx hb dX10_sure_49 (by decide) ?_
          exact ih_25 v46 (k + 1) dp_27 tr_27 sp_27 fd_27 rw_27 mt_27 ((a4 + (lb (picL (r 3 j.toNatClampNeg).toNatClampNeg t9.2.1 (r 4 j.toNatClampNeg).toNatClampNeg) s0.toNatClampNeg).toNat)) (by omega) (by omega) (by rw [sp9]; exact j25_2) (kk9) (⟨t9, ⟨s9, a4, fo9, ru9, id, rfl⟩, rl8⟩) (⟨f46, by have := j25_5.2; cases lb (picL (r 3 j.toNatClampNeg).toNatClampNeg t9.2.1 (r 4 j.toNatClampNeg).toNatClampNeg) s0.toNatClampNeg <;> simp only [Bool.toNat_false, Bool.toNat_true] <;> omega⟩) (by have z9 := q27.1.2.2.2 (q27.1.1.resolve_left c30); omega) _ _ hP hS ls (lv_sub hl [0, 1, 2, 3, 4] rfl)
    exact loop_25 (200000 + 1) (0 : Int32) 0 (0 : Int32) (0 : Int32) (0 : Int32) (g 14) rw_17 (r 9) 0 (by omega) (by omega) (rfl) (by omega) (⟨((0 : Int), (fun _ : Nat => (0 : Nat)), (0 : Nat)), ⟨rfl, rfl⟩, rRel_0 (by rw [q17]; rfl)⟩) (⟨rfl, Nat.le_refl _⟩) (by omega) _ _ hP hS ls (lv_sub hl [0, 1, 2, 3, 4] rfl)
  · skip
    have b11 := bo_f q8 c11
    refine lv_iconst (v := (-1)) hx hb dX10_sure_14 (by decide) ?_
    exact W.iret (v := ((-1) : Int32)) hx hb hr (fun t ht hW => ⟨⟨_, ((upd (upd (upd (upd f 0 (0 : Int32)) 11 (f 11)) 12 (f 12)) 13 (f 13)), (vp_updL g 14 (g 14)), (va_up (va_up r 10 (r 10)) 9 (r 9)), q), rfl, ⟨(f 11), (f 12), (f 13), (g 14), (r 10), (r 9), rfl, (Or.inr ⟨(fun z9 => b11 ⟨z9.1, by rw [sq_eq hI z9.1.1 z9.1.2] at z9; exact z9.2⟩), rfl⟩)⟩, by unfold mB; rw [ht]; exact hP⟩, hS.F ht⟩) hS.2.2 dX10_sure_15
