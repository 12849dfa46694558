
section RYS
theorem ry_le {f g : Nat → Bool} : ∀ n, (∀ i, i < n → f i = true → g i = true) → bs f n ≤ bs g n := by
  intro n
  induction n with
  | zero => intro _; exact Nat.le_refl _
  | succ n ih =>
    intro h
    have h1 := ih (fun i hi => h i (by omega))
    have h2 := h n (by omega)
    simp only [bs]
    cases hf : f n
    · simp only [Bool.toNat_false]; omega
    · rw [h2 hf]; simp only [Bool.toNat_true]; omega
theorem ry_eq {f g : Nat → Bool} : ∀ n, (∀ i, i < n → f i = g i) → bs f n = bs g n := by
  intro n
  induction n with
  | zero => intro _; rfl
  | succ n ih => intro h; simp only [bs]; rw [ih (fun i hi => h i (by omega)), h n (by omega)]
theorem ry_lt {f g : Nat → Bool} : ∀ n, (∀ i, i < n → f i = true → g i = true) → (∃ i, i < n ∧ f i = false ∧ g i = true) → bs f n < bs g n := by
  intro n
  induction n with
  | zero => intro _ h; obtain ⟨i, hi, -⟩ := h; exact absurd hi (Nat.not_lt_zero _)
  | succ n ih =>
    intro h h2
    obtain ⟨i, hi, a, b⟩ := h2
    have l := ry_le n (fun i hi => h i (by omega))
    have h3 := h n (by omega)
    simp only [bs]
    by_cases z : i = n
    · subst z
      rw [a, b]
      simp only [Bool.toNat_false, Bool.toNat_true]
      omega
    · have l2 := ih (fun i hi => h i (by omega)) ⟨i, by omega, a, b⟩
      cases hf : f n
      · simp only [Bool.toNat_false]; omega
      · rw [h3 hf]; simp only [Bool.toNat_true]; omega
/-- one place changed -/
theorem ry_up {f g : Nat → Bool} {x : Nat} : ∀ n, x < n → (∀ i, i ≠ x → g i = f i) → bs g n + (f x).toNat = bs f n + (g x).toNat := by
  intro n
  induction n with
  | zero => intro h; exact absurd h (Nat.not_lt_zero _)
  | succ n ih =>
    intro h hg
    simp only [bs]
    by_cases z : x = n
    · subst z
      rw [ry_eq x (fun i hi => hg i (by omega))]
      omega
    · have := ih (by omega) hg
      rw [hg n (fun y => z y.symm)]
      omega
/-- two unlike places change -/
theorem ry_sw {f g : Nat → Bool} {x u n : Nat} (hx : x < n) (hu : u < n) (hxu : x ≠ u) (hf : f x ≠ f u) (h1 : g x = !(f x)) (h2 : g u = !(f u)) (ho : ∀ i, i ≠ x → i ≠ u → g i = f i) : bs g n = bs f n := by
  have a : bs (fun i => if i = x then !(f x) else f i) n + (f x).toNat = bs f n + (if x = x then !(f x) else f x).toNat := ry_up n hx (fun i hi => if_neg hi)
  rw [if_pos rfl] at a
  have b : bs g n + (if u = x then !(f x) else f u).toNat = bs (fun i => if i = x then !(f x) else f i) n + (g u).toNat := ry_up (f := fun i => if i = x then !(f x) else f i) n hu (fun i hi => by
    show g i = if i = x then !(f x) else f i
    by_cases z : i = x
    · rw [if_pos z, z, h1]
    · rw [if_neg z, ho i z hi])
  rw [if_neg (fun y => hxu y.symm), h2] at b
  have e1 : (!(f x)).toNat + (f x).toNat = 1 := by cases f x <;> rfl
  have e2 : (!(f u)).toNat + (f u).toNat = 1 := by cases f u <;> rfl
  have e3 : (f x).toNat + (f u).toNat = 1 := by
    revert hf
    cases f x <;> cases f u <;> intro q <;> first | rfl | exact absurd rfl q
  omega
/-- a picture of bits, row and column -/
def swP (C : Nat → Nat → Bool) (y v x u : Nat) : Nat → Nat → Bool := fun a b => if (a = y ∨ a = v) ∧ (b = x ∨ b = u) then !(C a b) else C a b
def swOk (C : Nat → Nat → Bool) (y v x u : Nat) : Prop := C y x = C v u ∧ C y u = C v x ∧ C y x ≠ C y u
def swCl (w h : Nat) (P : (Nat → Nat → Bool) → Prop) : Prop := ∀ C y v x u, y < v → v < h → x < u → u < w → swOk C y v x u → P C → P (swP C y v x u)
theorem swP_xu (C : Nat → Nat → Bool) (y v x u : Nat) : swP C y v x u = swP C y v u x := by
  funext a b
  unfold swP
  by_cases z : (a = y ∨ a = v) ∧ (b = x ∨ b = u)
  · rw [if_pos z, if_pos ⟨z.1, z.2.symm⟩]
  · rw [if_neg z, if_neg (fun q => z ⟨q.1, q.2.symm⟩)]
theorem swP_2 (C : Nat → Nat → Bool) (y v x u : Nat) : swP (swP C y v x u) y v x u = C := by
  funext a b
  unfold swP
  by_cases z : (a = y ∨ a = v) ∧ (b = x ∨ b = u)
  · rw [if_pos z, if_pos z, Bool.not_not]
  · rw [if_neg z, if_neg z]
theorem swP_in {C : Nat → Nat → Bool} {y v x u a b : Nat} (h : (a = y ∨ a = v) ∧ (b = x ∨ b = u)) : swP C y v x u a b = !(C a b) := if_pos h
theorem swP_out {C : Nat → Nat → Bool} {y v x u a b : Nat} (h : ¬ ((a = y ∨ a = v) ∧ (b = x ∨ b = u))) : swP C y v x u a b = C a b := if_neg h
theorem swOk_2 {C : Nat → Nat → Bool} {y v x u : Nat} (h : swOk C y v x u) : swOk (swP C y v x u) y v x u := by
  unfold swOk
  rw [swP_in (a := y) (b := x) ⟨Or.inl rfl, Or.inl rfl⟩, swP_in (a := v) (b := u) ⟨Or.inr rfl, Or.inr rfl⟩, swP_in (a := y) (b := u) ⟨Or.inl rfl, Or.inr rfl⟩, swP_in (a := v) (b := x) ⟨Or.inr rfl, Or.inl rfl⟩]
  refine ⟨by rw [h.1], by rw [h.2.1], fun z => h.2.2 ?_⟩
  revert z
  cases C y x <;> cases C y u <;> intro z <;> first | rfl | cases z
theorem swOk_xu {C : Nat → Nat → Bool} {y v x u : Nat} (h : swOk C y v x u) : swOk C y v u x := ⟨h.2.1, h.1, fun z => h.2.2 z.symm⟩
/-- a switch goes both ways, whatever the order of its columns -/
theorem swCl.iff {w h : Nat} {P : (Nat → Nat → Bool) → Prop} (hP : swCl w h P) {C : Nat → Nat → Bool} {y v x u : Nat} (h1 : y < v) (h2 : v < h) (h3 : x ≠ u) (hx : x < w) (hu : u < w) (ok : swOk C y v x u) : P C ↔ P (swP C y v x u) := by
  by_cases z : x < u
  · exact ⟨fun p => hP C y v x u h1 h2 z hu ok p, fun p => by have := hP _ y v x u h1 h2 z hu (swOk_2 ok) p; rwa [swP_2] at this⟩
  · have z2 : u < x := by omega
    rw [swP_xu]
    exact ⟨fun p => hP C y v u x h1 h2 z2 hx (swOk_xu ok) p, fun p => by have := hP _ y v u x h1 h2 z2 hx (swOk_2 (swOk_xu ok)) p; rwa [swP_2] at this⟩
/-- rows and columns have the same sums -/
def sums (w h : Nat) (C B : Nat → Nat → Bool) : Prop := (∀ y, y < h → bs (C y) w = bs (B y) w) ∧ ∀ x, x < w → bs (fun y => C y x) h = bs (fun y => B y x) h
theorem sums.sw {w h : Nat} {C B : Nat → Nat → Bool} (hs : sums w h C B) {y v x u : Nat} (h1 : y < v) (h2 : v < h) (h3 : x ≠ u) (hx : x < w) (hu : u < w) (ok : swOk C y v x u) : sums w h (swP C y v x u) B := by
  obtain ⟨o1, o2, o3⟩ := ok
  refine ⟨fun a ha => ?_, fun b hb => ?_⟩
  · rw [← hs.1 a ha]
    by_cases z : a = y ∨ a = v
    · refine ry_sw hx hu h3 ?_ (swP_in ⟨z, Or.inl rfl⟩) (swP_in ⟨z, Or.inr rfl⟩) (fun i i1 i2 => swP_out (fun q => q.2.elim i1 i2))
      rcases z with z | z
      · rw [z]; exact o3
      · rw [z, ← o1, ← o2]; exact fun q => o3 q.symm
    · exact ry_eq w (fun i _ => swP_out (fun q => z q.1))
  · rw [← hs.2 b hb]
    by_cases z : b = x ∨ b = u
    · refine ry_sw (f := fun y => C y b) (x := y) (u := v) (by omega) h2 (by omega) ?_ (swP_in ⟨Or.inl rfl, z⟩) (swP_in ⟨Or.inr rfl, z⟩) (fun i i1 i2 => swP_out (fun q => q.1.elim i1 i2))
      show C y b ≠ C v b
      rcases z with z | z
      · rw [z, ← o2]; exact o3
      · rw [z, ← o1]; exact fun q => o3 q.symm
    · exact ry_eq h (fun i _ => swP_out (fun q => z q.2))
theorem sums.sym {w h : Nat} {C B : Nat → Nat → Bool} (hs : sums w h C B) : sums w h B C := ⟨fun y hy => (hs.1 y hy).symm, fun x hx => (hs.2 x hx).symm⟩
/-- two rows with as many ones differ both ways, or nowhere -/
theorem ry_two {f g : Nat → Bool} {n : Nat} (h : bs f n = bs g n) {x : Nat} (hx : x < n) (hne : f x ≠ g x) : ∃ a b, a < n ∧ b < n ∧ f a = true ∧ g a = false ∧ f b = false ∧ g b = true := by
  have p1 : ∃ a, a < n ∧ f a = true ∧ g a = false := by
    refine Classical.byContradiction fun hn => ?_
    have le : ∀ i, i < n → f i = true → g i = true := fun i hi hf => by
      cases hg : g i
      · exact absurd ⟨i, hi, hf, hg⟩ hn
      · rfl
    have := ry_lt n le ⟨x, hx, by
      cases hf : f x
      · refine ⟨rfl, ?_⟩
        cases hg : g x
        · exact absurd (hf.trans hg.symm) hne
        · rfl
      · exact absurd (hf.trans (le x hx hf).symm) hne⟩
    omega
  have p2 : ∃ b, b < n ∧ f b = false ∧ g b = true := by
    refine Classical.byContradiction fun hn => ?_
    have le : ∀ i, i < n → g i = true → f i = true := fun i hi hg => by
      cases hf : f i
      · exact absurd ⟨i, hi, hf, hg⟩ hn
      · rfl
    have := ry_lt n le ⟨x, hx, by
      cases hg : g x
      · refine ⟨rfl, ?_⟩
        cases hf : f x
        · exact absurd (hf.trans hg.symm) hne
        · rfl
      · exact absurd ((le x hx hg).trans hg.symm) hne⟩
    omega
  obtain ⟨a, a1, a2, a3⟩ := p1
  obtain ⟨b, b1, b2, b3⟩ := p2
  exact ⟨a, b, a1, b1, a2, a3, b2, b3⟩
/-- a column from a row on -/
def colF (C : Nat → Nat → Bool) (r h x : Nat) : Nat := bs (fun y => decide (r ≤ y) && C y x) h
theorem colF_eq {w h r : Nat} {C B : Nat → Nat → Bool} (hs : sums w h C B) (he : ∀ y, y < r → ∀ x, x < w → C y x = B y x) {x : Nat} (hx : x < w) : colF C r h x = colF B r h x := by
  have sp : ∀ (D : Nat → Nat → Bool) (n : Nat), bs (fun y => D y x) n = bs (fun y => decide (r ≤ y) && D y x) n + bs (fun y => decide (y < r) && D y x) n := by
    intro D n
    induction n with
    | zero => rfl
    | succ n ih =>
      simp only [bs]
      rw [ih]
      by_cases c : r ≤ n
      · rw [decide_eq_true c, decide_eq_false (show ¬ n < r by omega), Bool.true_and, Bool.false_and, Bool.toNat_false]; omega
      · rw [decide_eq_false c, decide_eq_true (show n < r by omega), Bool.true_and, Bool.false_and, Bool.toNat_false]; omega
  have a := hs.2 x hx
  rw [sp C h, sp B h] at a
  have e : bs (fun y => decide (y < r) && C y x) h = bs (fun y => decide (y < r) && B y x) h := ry_eq h (fun y _ => by
    by_cases c : y < r
    · rw [he y c x hx]
    · rw [decide_eq_false c, Bool.false_and, Bool.false_and])
  unfold colF
  omega
/-- a row below with the one at u and not at x -/
theorem colF_ex {h r : Nat} {C : Nat → Nat → Bool} {x u : Nat} (hr : r < h) (hx : C r x = true) (hu : C r u = false) (hc : colF C r h x ≤ colF C r h u) : ∃ v, r < v ∧ v < h ∧ C v u = true ∧ C v x = false := by
  refine Classical.byContradiction fun hn => ?_
  have := ry_lt (f := fun y => decide (r ≤ y) && C y u) (g := fun y => decide (r ≤ y) && C y x) h (fun i hi hf => by
    have c : r ≤ i := by
      refine Classical.byContradiction fun q => ?_
      rw [decide_eq_false q, Bool.false_and] at hf
      cases hf
    rw [decide_eq_true c, Bool.true_and] at hf ⊢
    cases hg : C i x
    · have q9 : r < i := by
        rcases Nat.lt_or_ge r i with q | q
        · exact q
        · exfalso
          rw [show i = r by omega] at hf
          rw [hu] at hf
          cases hf
      exact absurd ⟨i, q9, hi, hf, hg⟩ hn
    · rfl) ⟨r, hr, by rw [decide_eq_true (Nat.le_refl r), Bool.true_and]; exact hu, by rw [decide_eq_true (Nat.le_refl r), Bool.true_and]; exact hx⟩
  unfold colF at hc
  omega
theorem ry_row {w h : Nat} {P : (Nat → Nat → Bool) → Prop} (hP : swCl w h P) {r : Nat} (hr : r < h) : ∀ d C B, bs (fun x => decide (C r x ≠ B r x)) w < d → sums w h C B → (∀ y, y < r → ∀ x, x < w → C y x = B y x) → ∃ C' B', (P C ↔ P C') ∧ (P B ↔ P B') ∧ sums w h C' B' ∧ ∀ y, y < r + 1 → ∀ x, x < w → C' y x = B' y x := by
  intro d
  induction d with
  | zero => intro C B h1; exact absurd h1 (Nat.not_lt_zero _)
  | succ d ih =>
    intro C B hd hs he
    by_cases hq : ∃ x, x < w ∧ C r x ≠ B r x
    · obtain ⟨x0, hx0, hne⟩ := hq
      obtain ⟨x, u, hx, hu, f1, f2, f3, f4⟩ := ry_two (hs.1 r hr) hx0 hne
      have hxu : x ≠ u := fun z => by rw [z, f3] at f1; cases f1
      have ce := colF_eq hs he hx
      have ce2 := colF_eq hs he hu
      by_cases hc : colF C r h x ≤ colF C r h u
      · obtain ⟨v, v1, v2, v3, v4⟩ := colF_ex hr f1 f3 hc
        have ok : swOk C r v x u := ⟨f1.trans v3.symm, f3.trans v4.symm, by rw [f1, f3]; decide⟩
        have q := hP.iff v1 v2 hxu hx hu ok
        obtain ⟨C', B', k1, k2, k3, k4⟩ := ih (swP C r v x u) B (by
          have := ry_lt (f := fun b => decide (swP C r v x u r b ≠ B r b)) (g := fun b => decide (C r b ≠ B r b)) w (fun i hi hf => by
            by_cases z : i = x ∨ i = u
            · exfalso
              have hf' := of_decide_eq_true hf
              rw [swP_in ⟨Or.inl rfl, z⟩] at hf'
              rcases z with z | z
              · rw [z, f1, f2] at hf'; exact hf' rfl
              · rw [z, f3, f4] at hf'; exact hf' rfl
            · rw [swP_out (fun q => z q.2)] at hf
              exact hf) ⟨x, hx, by rw [swP_in ⟨Or.inl rfl, Or.inl rfl⟩, f1, f2]; rfl, by rw [f1, f2]; rfl⟩
          omega) (hs.sw v1 v2 hxu hx hu ok) (fun y hy b hb => by rw [swP_out (by omega)]; exact he y hy b hb)
        exact ⟨C', B', q.trans k1, k2, k3, k4⟩
      · obtain ⟨v, v1, v2, v3, v4⟩ := colF_ex (C := B) (x := u) (u := x) hr f4 f2 (by omega)
        have ok : swOk B r v u x := ⟨f4.trans v3.symm, f2.trans v4.symm, by rw [f4, f2]; decide⟩
        have q := hP.iff v1 v2 (Ne.symm hxu) hu hx ok
        obtain ⟨C', B', k1, k2, k3, k4⟩ := ih C (swP B r v u x) (by
          have := ry_lt (f := fun b => decide (C r b ≠ swP B r v u x r b)) (g := fun b => decide (C r b ≠ B r b)) w (fun i hi hf => by
            by_cases z : i = u ∨ i = x
            · exfalso
              have hf' := of_decide_eq_true hf
              rw [swP_in ⟨Or.inl rfl, z⟩] at hf'
              rcases z with z | z
              · rw [z, f3, f4] at hf'; exact hf' rfl
              · rw [z, f1, f2] at hf'; exact hf' rfl
            · rw [swP_out (fun q => z q.2)] at hf
              exact hf) ⟨x, hx, by rw [swP_in ⟨Or.inl rfl, Or.inr rfl⟩, f1, f2]; rfl, by rw [f1, f2]; rfl⟩
          omega) ((hs.sym.sw v1 v2 (Ne.symm hxu) hu hx ok).sym) (fun y hy b hb => by rw [swP_out (by omega)]; exact he y hy b hb)
        exact ⟨C', B', k1, q.trans k2, k3, k4⟩
    · refine ⟨C, B, Iff.rfl, Iff.rfl, hs, fun y hy x hx => ?_⟩
      by_cases z : y = r
      · rw [z]
        exact Classical.byContradiction fun q => hq ⟨x, hx, q⟩
      · exact he y (by omega) x hx
theorem ry_all {w h : Nat} {P : (Nat → Nat → Bool) → Prop} (hP : swCl w h P) : ∀ r, r ≤ h → ∀ C B, sums w h C B → ∃ C' B', (P C ↔ P C') ∧ (P B ↔ P B') ∧ sums w h C' B' ∧ ∀ y, y < r → ∀ x, x < w → C' y x = B' y x := by
  intro r
  induction r with
  | zero => intro _ C B hs; exact ⟨C, B, Iff.rfl, Iff.rfl, hs, fun y hy => absurd hy (Nat.not_lt_zero _)⟩
  | succ r ih =>
    intro hr C B hs
    obtain ⟨C1, B1, a1, a2, a3, a4⟩ := ih (by omega) C B hs
    obtain ⟨C2, B2, b1, b2, b3, b4⟩ := ry_row hP (show r < h by omega) _ C1 B1 (Nat.lt_succ_self _) a3 a4
    exact ⟨C2, B2, a1.trans b1, a2.trans b2, b3, b4⟩
/-- who has one picture and all switches has every picture with its sums -/
theorem ryser {w h : Nat} {P : (Nat → Nat → Bool) → Prop} (hP : swCl w h P) (hx : ∀ C C', (∀ y, y < h → ∀ x, x < w → C y x = C' y x) → P C → P C') {C B : Nat → Nat → Bool} (hs : sums w h C B) (hC : P C) : P B := by
  obtain ⟨C', B', a1, a2, -, a4⟩ := ry_all hP h (Nat.le_refl _) C B hs
  exact a2.mpr (hx C' B' a4 (a1.mp hC))
end RYS

section TAB
/-- a table with free places: oc k = some i, the i-th picture stands at place k; ha: where a picture is looked for first -/
def tabOk (S : Nat) (ha : Int64 → Nat) (oc : Nat → Option Nat) (m : Nat → Int64) (n : Nat) : Prop :=
  (∀ k i, k < S → oc k = some i → i < n) ∧
  (∀ i, i < n → ∃ t, t < S ∧ oc ((ha (m i) + t) % S) = some i ∧ ∀ t', t' < t → oc ((ha (m i) + t') % S) ≠ none) ∧
  (∀ i j, i < n → j < n → m i = m j → i = j) ∧ bs (fun k => (oc k).isSome) S ≤ n
/-- what a search comes to: the picture's place, or the free place where it would stand -/
def tabF (S : Nat) (ha : Int64 → Nat) (oc : Nat → Option Nat) (m : Nat → Int64) (n : Nat) (p : Int64) (k : Nat) : Prop :=
  (∃ i, i < n ∧ m i = p ∧ oc k = some i) ∨ (oc k = none ∧ (∀ i, i < n → m i ≠ p) ∧ ∃ t, t < S ∧ k = (ha p + t) % S ∧ ∀ t', t' < t → oc ((ha p + t') % S) ≠ none)
variable {S : Nat} {ha : Int64 → Nat} {oc : Nat → Option Nat} {m : Nat → Int64} {n : Nat} {p : Int64}
theorem tab_srch (h : tabOk S ha oc m n) {t k : Nat} (ht : t < S) (hk : k = (ha p + t) % S) (hp : ∀ t', t' < t → ∃ i, oc ((ha p + t') % S) = some i ∧ m i ≠ p) (he : oc k = none ∨ ∃ i, oc k = some i ∧ m i = p) : tabF S ha oc m n p k := by
  have kS : k < S := by rw [hk]; exact Nat.mod_lt _ (by omega)
  rcases he with he | ⟨i, h1, h2⟩
  · refine Or.inr ⟨he, fun i hi e => ?_, t, ht, hk, fun t' h' => ?_⟩
    · obtain ⟨t0, a1, a2, a3⟩ := h.2.1 i hi
      rw [e] at a2 a3
      rcases Nat.lt_trichotomy t0 t with z | z | z
      · obtain ⟨i', b1, b2⟩ := hp t0 z
        rw [a2] at b1
        cases b1
        exact b2 e
      · rw [z, ← hk, he] at a2
        cases a2
      · exact a3 t z (by rw [← hk]; exact he)
    · obtain ⟨i, b1, -⟩ := hp t' h'
      rw [b1]
      exact fun z => nomatch z
  · exact Or.inl ⟨i, h.1 k i kS h1, h2, h1⟩
theorem tab_free (h : tabOk S ha oc m n) (hn : n < S) : ∃ e, e < S ∧ oc e = none := by
  refine Classical.byContradiction fun hc => ?_
  have : bs (fun _ => true) S ≤ bs (fun k => (oc k).isSome) S := ry_le S (fun k hk _ => by
    cases ho : oc k
    · exact absurd ⟨k, hk, ho⟩ hc
    · rfl)
  have e : ∀ n, bs (fun _ => true) n = n := by
    intro n
    induction n with
    | zero => rfl
    | succ n ih => simp only [bs]; rw [ih]; rfl
  rw [e] at this
  have := h.2.2.2
  omega
theorem tab_add (h : tabOk S ha oc m n) {k : Nat} {m1 : Nat → Int64} {oc1 : Nat → Option Nat} (ho : oc k = none) (hno : ∀ i, i < n → m i ≠ p) (hp : ∃ t, t < S ∧ k = (ha p + t) % S ∧ ∀ t', t' < t → oc ((ha p + t') % S) ≠ none) (hm : ∀ i, i < n → m1 i = m i) (hm1 : m1 n = p) (h1 : oc1 k = some n) (h2 : ∀ e, e < S → e ≠ k → oc1 e = oc e) : tabOk S ha oc1 m1 (n + 1) := by
  obtain ⟨t, ht, hk, hpt⟩ := hp
  have S0 : 0 < S := by omega
  have kS : k < S := by rw [hk]; exact Nat.mod_lt _ S0
  have nn : ∀ e, e < S → oc e ≠ none → oc1 e ≠ none := fun e he q => by
    by_cases z : e = k
    · rw [z, h1]; exact fun y => nomatch y
    · rw [h2 e he z]; exact q
  refine ⟨fun e i he q => ?_, fun i hi => ?_, fun i j hi hj e => ?_, ?_⟩
  · by_cases z : e = k
    · rw [z, h1] at q
      cases q
      omega
    · rw [h2 e he z] at q
      have := h.1 e i he q
      omega
  · by_cases z : i = n
    · subst z
      rw [hm1]
      exact ⟨t, ht, by rw [← hk]; exact h1, fun t' h' => nn _ (Nat.mod_lt _ S0) (hpt t' h')⟩
    · obtain ⟨t0, a1, a2, a3⟩ := h.2.1 i (by omega)
      rw [hm i (by omega)]
      refine ⟨t0, a1, ?_, fun t' h' => nn _ (Nat.mod_lt _ S0) (a3 t' h')⟩
      rw [h2 _ (Nat.mod_lt _ S0) (fun y => by rw [y, ho] at a2; cases a2)]
      exact a2
  · by_cases z : i = n <;> by_cases y : j = n
    · rw [z, y]
    · rw [z, hm1, hm j (by omega)] at e
      exact absurd e.symm (hno j (by omega))
    · rw [y, hm1, hm i (by omega)] at e
      exact absurd e (hno i (by omega))
    · rw [hm i (by omega), hm j (by omega)] at e
      exact h.2.2.1 i j (by omega) (by omega) e
  · have a := ry_up (f := fun e => (oc e).isSome) (g := fun e => if e = k then true else (oc e).isSome) (x := k) S kS (fun i hi => if_neg hi)
    have b : bs (fun e => (oc1 e).isSome) S = bs (fun e => if e = k then true else (oc e).isSome) S := ry_eq S (fun e he => by
      show (oc1 e).isSome = if e = k then true else (oc e).isSome
      by_cases z : e = k
      · rw [if_pos z, z, h1]; rfl
      · rw [if_neg z, h2 e he z])
    have c := h.2.2.2
    rw [b]
    have d : (oc k).isSome.toNat = 0 := by rw [ho]; rfl
    have a2 : bs (fun e => if e = k then true else (oc e).isSome) S + (oc k).isSome.toNat = bs (fun e => (oc e).isSome) S + (if k = k then true else (oc k).isSome).toNat := a
    rw [if_pos rfl, d] at a2
    have : Bool.toNat true = 1 := rfl
    omega
theorem tab_0 (ho : ∀ e, e < S → oc e = none) : tabOk S ha oc m 0 := by
  refine ⟨fun k i hk q => (by rw [ho k hk] at q; cases q), fun i hi => absurd hi (Nat.not_lt_zero _), fun i j hi => absurd hi (Nat.not_lt_zero _), ?_⟩
  have : bs (fun k => (oc k).isSome) S = bs (fun _ => false) S := ry_eq S (fun k hk => by rw [ho k hk]; rfl)
  rw [this]
  have e : ∀ n, bs (fun _ => false) n = 0 := by
    intro n
    induction n with
    | zero => rfl
    | succ n ih => simp only [bs]; rw [ih]; rfl
  rw [e]
  exact Nat.le_refl _
/-- going round comes everywhere -/
theorem rnd_ex {S a e : Nat} (ha : a < S) (he : e < S) : ∃ t, t < S ∧ (a + t) % S = e := by
  by_cases z : a ≤ e
  · exact ⟨e - a, by omega, by rw [show a + (e - a) = e by omega]; exact Nat.mod_eq_of_lt he⟩
  · exact ⟨e + S - a, by omega, by rw [show a + (e + S - a) = e + S by omega, Nat.add_mod_right]; exact Nat.mod_eq_of_lt he⟩
end TAB

section BFS
/-- what is met: pictures in their order, the steps to each, how many, and whether one more would have been met -/
abbrev mtS := (Nat → Int64) × (Nat → Nat) × Nat × Bool
noncomputable def mtA (d : Nat) (s : mtS) (q : Int64) : mtS :=
  if s.2.2.2 = true then s else @ite _ (∃ i, i < s.2.2.1 ∧ s.1 i = q) (Classical.propDecidable _) s (if s.2.2.1 = 20000 then (s.1, s.2.1, s.2.2.1, true) else ((fun i => if i = s.2.2.1 then q else s.1 i), (fun i => if i = s.2.2.1 then d else s.2.1 i), s.2.2.1 + 1, false))
/-- the pictures behind the first k fours of p are met -/
noncomputable def nbA (w h : Nat) (p : Int64) (d : Nat) (s : mtS) : Nat → mtS
  | 0 => s
  | k + 1 => if swq w h p k = true then mtA d (nbA w h p d s k) (swx w h p k) else nbA w h p d s k
/-- the first k that were met have met their neighbours -/
noncomputable def bfA (w h : Nat) (s : mtS) : Nat → mtS
  | 0 => s
  | k + 1 => nbA w h ((bfA w h s k).1 k) ((bfA w h s k).2.1 k + 1) (bfA w h s k) (cfo w h)
theorem mtA_o {d : Nat} {s : mtS} {q : Int64} (h : s.2.2.2 = true) : mtA d s q = s := by unfold mtA; rw [if_pos h]
theorem mtA_k {d : Nat} {s : mtS} {q : Int64} (h : ¬ s.2.2.2 = true) (hk : ∃ i, i < s.2.2.1 ∧ s.1 i = q) : mtA d s q = s := by unfold mtA; rw [if_neg h, if_pos hk]
theorem mtA_f {d : Nat} {s : mtS} {q : Int64} (h : ¬ s.2.2.2 = true) (hk : ¬ ∃ i, i < s.2.2.1 ∧ s.1 i = q) (hn : s.2.2.1 = 20000) : mtA d s q = (s.1, s.2.1, s.2.2.1, true) := by unfold mtA; rw [if_neg h, if_neg hk, if_pos hn]
theorem mtA_n {d : Nat} {s : mtS} {q : Int64} (h : ¬ s.2.2.2 = true) (hk : ¬ ∃ i, i < s.2.2.1 ∧ s.1 i = q) (hn : ¬ s.2.2.1 = 20000) : mtA d s q = ((fun i => if i = s.2.2.1 then q else s.1 i), (fun i => if i = s.2.2.1 then d else s.2.1 i), s.2.2.1 + 1, false) := by unfold mtA; rw [if_neg h, if_neg hk, if_neg hn]
def isIn9 (s : mtS) (q : Int64) : Prop := ∃ i, i < s.2.2.1 ∧ s.1 i = q
/-- what is met stays; more may come -/
def mtLe (s u : mtS) : Prop := s.2.2.1 ≤ u.2.2.1 ∧ (∀ i, i < s.2.2.1 → u.1 i = s.1 i ∧ u.2.1 i = s.2.1 i)
theorem mtLe.rf {s : mtS} : mtLe s s := ⟨Nat.le_refl _, fun _ _ => ⟨rfl, rfl⟩⟩
theorem mtLe.tr {s u v : mtS} (h1 : mtLe s u) (h2 : mtLe u v) : mtLe s v := ⟨Nat.le_trans h1.1 h2.1, fun i hi => by
  have a := h1.2 i hi
  have b := h2.2 i (Nat.lt_of_lt_of_le hi h1.1)
  exact ⟨b.1.trans a.1, b.2.trans a.2⟩⟩
theorem mtA_le {d : Nat} {s : mtS} {q : Int64} : mtLe s (mtA d s q) := by
  by_cases h : s.2.2.2 = true
  · rw [mtA_o h]; exact mtLe.rf
  · by_cases hk : ∃ i, i < s.2.2.1 ∧ s.1 i = q
    · rw [mtA_k h hk]; exact mtLe.rf
    · by_cases hn : s.2.2.1 = 20000
      · rw [mtA_f h hk hn]; exact ⟨Nat.le_refl _, fun _ _ => ⟨rfl, rfl⟩⟩
      · rw [mtA_n h hk hn]
        refine ⟨Nat.le_succ _, fun i hi => ?_⟩
        show (if i = s.2.2.1 then q else s.1 i) = s.1 i ∧ (if i = s.2.2.1 then d else s.2.1 i) = s.2.1 i
        rw [if_neg (by omega), if_neg (by omega)]
        exact ⟨rfl, rfl⟩
theorem nbA_le {w h : Nat} {p : Int64} {d : Nat} {s : mtS} : ∀ k, mtLe s (nbA w h p d s k) := by
  intro k
  induction k with
  | zero => exact mtLe.rf
  | succ k ih =>
    simp only [nbA]
    by_cases c : swq w h p k = true
    · rw [if_pos c]; exact ih.tr mtA_le
    · rw [if_neg c]; exact ih
theorem isIn9.le {s u : mtS} {q : Int64} (h : isIn9 s q) (hl : mtLe s u) : isIn9 u q := by
  obtain ⟨i, a, b⟩ := h
  exact ⟨i, Nat.lt_of_lt_of_le a hl.1, (hl.2 i a).1.trans b⟩
/-- where nothing was spent, all neighbours are met -/
theorem nbA_in {w h : Nat} {p : Int64} {d : Nat} {s : mtS} : ∀ k, (nbA w h p d s k).2.2.2 = false → ∀ j, j < k → swq w h p j = true → isIn9 (nbA w h p d s k) (swx w h p j) := by
  intro k
  induction k with
  | zero => intro _ j hj; exact absurd hj (Nat.not_lt_zero _)
  | succ k ih =>
    intro ho j hj hs
    simp only [nbA] at ho ⊢
    by_cases c : swq w h p k = true
    · rw [if_pos c] at ho ⊢
      have no : ¬ (nbA w h p d s k).2.2.2 = true := fun z => by rw [mtA_o z, z] at ho; cases ho
      have no' : (nbA w h p d s k).2.2.2 = false := by
        cases hq : (nbA w h p d s k).2.2.2
        · rfl
        · exact absurd hq no
      by_cases z : j = k
      · subst z
        by_cases hk : ∃ i, i < (nbA w h p d s j).2.2.1 ∧ (nbA w h p d s j).1 i = swx w h p j
        · rw [mtA_k no hk]; exact hk
        · by_cases hn : (nbA w h p d s j).2.2.1 = 20000
          · rw [mtA_f no hk hn] at ho; cases ho
          · rw [mtA_n no hk hn]
            exact ⟨(nbA w h p d s j).2.2.1, Nat.lt_succ_self _, if_pos rfl⟩
      · exact (ih no' j (by omega) hs).le mtA_le
    · rw [if_neg c] at ho ⊢
      by_cases z : j = k
      · subst z; exact absurd hs c
      · exact ih ho j (by omega) hs
theorem nbA_o {w h : Nat} {p : Int64} {d : Nat} {s : mtS} (ho : s.2.2.2 = true) : ∀ k, nbA w h p d s k = s := by
  intro k
  induction k with
  | zero => rfl
  | succ k ih =>
    simp only [nbA]
    rw [ih, mtA_o ho]
    split <;> rfl
end BFS


section FARD
/-- a picture's bits by row and column -/
def pB (w : Nat) (p : Int64) : Nat → Nat → Bool := fun y x => lb p (y * w + x)
def hiZ (w h : Nat) (p : Int64) : Prop := ∀ i, w * h ≤ i → i < 64 → lb p i = false
theorem fr_one (g : Nat → Bool) (x : Nat) : ∀ n, bs (fun i => decide (i = x) && g i) n = if x < n then (g x).toNat else 0 := by
  intro n
  induction n with
  | zero => rfl
  | succ n ih =>
    simp only [bs]
    rw [ih]
    by_cases z : n = x
    · subst z
      rw [decide_eq_true rfl, Bool.true_and, if_neg (Nat.lt_irrefl _), if_pos (Nat.lt_succ_self _), Nat.zero_add]
    · rw [decide_eq_false z, Bool.false_and, Bool.toNat_false, Nat.add_zero]
      by_cases c : x < n
      · rw [if_pos c, if_pos (by omega)]
      · rw [if_neg c, if_neg (by omega)]
theorem fr_none {f : Nat → Bool} : ∀ n, (∀ i, i < n → f i = false) → bs f n = 0 := by
  intro n
  induction n with
  | zero => intro _; rfl
  | succ n ih => intro h; simp only [bs]; rw [ih (fun i hi => h i (by omega)), h n (by omega)]; rfl
theorem dm_at {w k i : Nat} (hi : i < w) : (k * w + i) / w = k ∧ (k * w + i) % w = i := by
  have h0 : 0 < w := by omega
  rw [Nat.mul_comm k w]
  exact ⟨by rw [Nat.mul_add_div h0, Nat.div_eq_of_lt hi, Nat.add_zero], by rw [Nat.mul_add_mod, Nat.mod_eq_of_lt hi]⟩
theorem sh_row {w h : Nat} {p : Int64} {y : Nat} (hy : y < h) : shN w h p 0 y = bs (pB w p y) w := by
  have g : ∀ k, bs (fun s => decide (lnT h 0 (s % w) (s / w) = y) && lb p s) (k * w) = if y < k then bs (pB w p y) w else 0 := by
    intro k
    induction k with
    | zero => rw [Nat.zero_mul]; rfl
    | succ k ih =>
      rw [Nat.succ_mul, bs_add, ih]
      by_cases z : k = y
      · subst z
        rw [if_neg (Nat.lt_irrefl _), if_pos (Nat.lt_succ_self _), Nat.zero_add]
        apply ry_eq
        intro i hi
        show (decide (lnT h 0 ((k * w + i) % w) ((k * w + i) / w) = k) && lb p (k * w + i)) = lb p (k * w + i)
        rw [(dm_at hi).1, decide_eq_true (show lnT h 0 _ k = k from rfl), Bool.true_and]
      · have e : bs (fun i => (fun s => decide (lnT h 0 (s % w) (s / w) = y) && lb p s) (k * w + i)) w = 0 := fr_none w (fun i hi => by
          show (decide (lnT h 0 ((k * w + i) % w) ((k * w + i) / w) = y) && lb p (k * w + i)) = false
          rw [(dm_at hi).1, decide_eq_false (show ¬ lnT h 0 _ k = y from z), Bool.false_and])
        rw [e, Nat.add_zero]
        by_cases c : y < k
        · rw [if_pos c, if_pos (by omega)]
        · rw [if_neg c, if_neg (by omega)]
  unfold shN
  rw [Nat.mul_comm w h, g h, if_pos hy]
theorem sh_clm {w h : Nat} {p : Int64} {x : Nat} (hx : x < w) : shN w h p 1 x = bs (fun y => pB w p y x) h := by
  have g : ∀ k, bs (fun s => decide (lnT h 1 (s % w) (s / w) = x) && lb p s) (k * w) = bs (fun y => pB w p y x) k := by
    intro k
    induction k with
    | zero => rw [Nat.zero_mul]; rfl
    | succ k ih =>
      rw [Nat.succ_mul, bs_add, ih]
      simp only [bs]
      have e : bs (fun i => (fun s => decide (lnT h 1 (s % w) (s / w) = x) && lb p s) (k * w + i)) w = bs (fun i => decide (i = x) && lb p (k * w + i)) w := ry_eq w (fun i hi => by
        show (decide (lnT h 1 ((k * w + i) % w) ((k * w + i) / w) = x) && lb p (k * w + i)) = _
        rw [(dm_at hi).2, show lnT h 1 i ((k * w + i) / w) = i from rfl])
      rw [e, fr_one (fun i => lb p (k * w + i)) x w, if_pos hx]
      rfl
  unfold shN
  rw [Nat.mul_comm w h, g h]
theorem al_sums {w h : Nat} {p q : Int64} (h0 : alike w h p q 0) (h1 : alike w h p q 1) : sums w h (pB w p) (pB w q) := by
  refine ⟨fun y hy => ?_, fun x hx => ?_⟩
  · rw [← sh_row hy, ← sh_row hy]
    exact h0 y (by unfold lnC; rw [if_pos rfl]; exact hy)
  · rw [← sh_clm hx, ← sh_clm hx]
    exact h1 x (by unfold lnC; rw [if_neg (by decide), if_pos rfl]; exact hx)
theorem sw_ok9 {w : Nat} {p : Int64} {y v x u : Nat} : swB w p y v x u = true ↔ swOk (pB w p) y v x u := by
  unfold swB swOk pB
  cases lb p (y * w + x) <;> cases lb p (v * w + u) <;> cases lb p (y * w + u) <;> cases lb p (v * w + x) <;> decide
theorem pl_eq {w a b y x : Nat} (hb : b < w) (hx : x < w) : a * w + b = y * w + x ↔ a = y ∧ b = x := by
  constructor
  · intro z
    have e1 := dm_at (k := a) hb
    have e2 := dm_at (k := y) hx
    rw [z] at e1
    exact ⟨e1.1.symm.trans e2.1, e1.2.symm.trans e2.2⟩
  · rintro ⟨rfl, rfl⟩; rfl
theorem x4b (P A B C D : Bool) (h : (A && B) = false ∧ (A && C) = false ∧ (A && D) = false ∧ (B && C) = false ∧ (B && D) = false ∧ (C && D) = false) : ((((P ^^ A) ^^ B) ^^ C) ^^ D) = if (A || B || C || D) = true then !P else P := by
  revert h
  cases P <;> cases A <;> cases B <;> cases C <;> cases D <;> decide
theorem sw_bits {w h : Nat} {p : Int64} {y v x u a b : Nat} (hw : w ≤ 6) (hh : h ≤ 6) (hyv : y < v) (hv : v < h) (hxu : x < u) (hu : u < w) (ha : a < h) (hb : b < w) : pB w (swX w p y v x u) a b = swP (pB w p) y v x u a b := by
  obtain ⟨⟨l1', l2, l3, l4⟩, n1, n2, n3, n4, n5, n6⟩ := sw_pl hw hh hyv hv hxu hu
  have i64 : a * w + b < 64 := kw_b (k := a) (i := b) hw hh hb ha
  show lb (swX w p y v x u) (a * w + b) = _
  unfold swX
  simp only [lb_xor, lb_l1 l1' i64, lb_l1 l2 i64, lb_l1 l3 i64, lb_l1 l4 i64]
  rw [x4b _ _ _ _ _ ⟨dne n1, dne n2, dne n3, dne n4, dne n5, dne n6⟩]
  unfold swP pB
  have e : ((decide (a * w + b = y * w + x) || decide (a * w + b = v * w + u) || decide (a * w + b = y * w + u) || decide (a * w + b = v * w + x)) = true) ↔ ((a = y ∨ a = v) ∧ (b = x ∨ b = u)) := by
    simp only [Bool.or_eq_true, decide_eq_true_eq]
    rw [pl_eq hb (by omega), pl_eq hb hu, pl_eq hb hu, pl_eq hb (by omega)]
    omega
  by_cases c : (a = y ∨ a = v) ∧ (b = x ∨ b = u)
  · rw [if_pos c, if_pos (e.mpr c)]
  · rw [if_neg c, if_neg (fun z => c (e.mp z))]
theorem sw_hi {w h : Nat} {p : Int64} {y v x u : Nat} (hw : w ≤ 6) (hh : h ≤ 6) (hyv : y < v) (hv : v < h) (hxu : x < u) (hu : u < w) (hz : hiZ w h p) : hiZ w h (swX w p y v x u) := fun i hi h64 => by
  obtain ⟨⟨l1', l2, l3, l4⟩, -⟩ := sw_pl hw hh hyv hv hxu hu
  have lt : ∀ {a b : Nat}, a < h → b < w → a * w + b < w * h := fun {a b} ha hb => by
    have m := Nat.mul_le_mul_right w (show a + 1 ≤ h from ha)
    rw [Nat.succ_mul, Nat.mul_comm h w] at m
    omega
  have a1 := lt (a := y) (b := x) (by omega) (by omega)
  have a2 := lt (a := v) (b := u) hv hu
  have a3 := lt (a := y) (b := u) (by omega) hu
  have a4 := lt (a := v) (b := x) hv (by omega)
  unfold swX
  simp only [lb_xor, lb_l1 l1' h64, lb_l1 l2 h64, lb_l1 l3 h64, lb_l1 l4 h64]
  rw [hz i hi h64, decide_eq_false (by omega), decide_eq_false (by omega), decide_eq_false (by omega), decide_eq_false (by omega)]
  rfl
theorem mtA_hi {w h d : Nat} {s : mtS} {q : Int64} (hs : ∀ i, i < s.2.2.1 → hiZ w h (s.1 i)) (hq : hiZ w h q) : ∀ i, i < (mtA d s q).2.2.1 → hiZ w h ((mtA d s q).1 i) := by
  by_cases c : s.2.2.2 = true
  · rw [mtA_o c]; exact hs
  · by_cases hk : ∃ i, i < s.2.2.1 ∧ s.1 i = q
    · rw [mtA_k c hk]; exact hs
    · by_cases hn : s.2.2.1 = 20000
      · rw [mtA_f c hk hn]; exact hs
      · rw [mtA_n c hk hn]
        intro i hi
        have hi' : i < s.2.2.1 + 1 := hi
        show hiZ w h (if i = s.2.2.1 then q else s.1 i)
        by_cases z : i = s.2.2.1
        · rw [if_pos z]; exact hq
        · rw [if_neg z]; exact hs i (by omega)
theorem nbA_hi {w h d : Nat} (hb : 1 ≤ w ∧ w ≤ 6 ∧ 1 ≤ h ∧ h ≤ 6) {p : Int64} (hp : hiZ w h p) {s : mtS} (hs : ∀ i, i < s.2.2.1 → hiZ w h (s.1 i)) : ∀ k, k ≤ cfo w h → ∀ i, i < (nbA w h p d s k).2.2.1 → hiZ w h ((nbA w h p d s k).1 i) := by
  intro k
  induction k with
  | zero => intro _; exact hs
  | succ k ih =>
    intro hk
    simp only [nbA]
    by_cases c : swq w h p k = true
    · rw [if_pos c]
      obtain ⟨⟨o1, o2⟩, o3, o4⟩ := fo_ok hb (show k < cfo w h from hk)
      exact mtA_hi (ih (by omega)) (sw_hi hb.2.1 hb.2.2.2 o1 o2 o3 o4 hp)
    · rw [if_neg c]; exact ih (by omega)
theorem nbA_D {w h d : Nat} {p : Int64} {s : mtS} : ∀ k i, s.2.2.1 ≤ i → i < (nbA w h p d s k).2.2.1 → (nbA w h p d s k).2.1 i = d := by
  intro k
  induction k with
  | zero => intro i h1 h2; exact absurd (Nat.lt_of_le_of_lt h1 h2) (Nat.lt_irrefl _)
  | succ k ih =>
    intro i h1
    simp only [nbA]
    by_cases c : swq w h p k = true
    · rw [if_pos c]
      by_cases o : (nbA w h p d s k).2.2.2 = true
      · rw [mtA_o o]; exact ih i h1
      · by_cases hk : ∃ j, j < (nbA w h p d s k).2.2.1 ∧ (nbA w h p d s k).1 j = swx w h p k
        · rw [mtA_k o hk]; exact ih i h1
        · by_cases hn : (nbA w h p d s k).2.2.1 = 20000
          · rw [mtA_f o hk hn]; exact ih i h1
          · rw [mtA_n o hk hn]
            intro h2
            have h2' : i < (nbA w h p d s k).2.2.1 + 1 := h2
            show (if i = (nbA w h p d s k).2.2.1 then d else (nbA w h p d s k).2.1 i) = d
            by_cases z : i = (nbA w h p d s k).2.2.1
            · rw [if_pos z]
            · rw [if_neg z]; exact ih i h1 (by omega)
    · rw [if_neg c]; exact ih i h1
def st0 (p : Int64) : mtS := (fun _ => p, fun _ => 0, 1, false)
theorem bfA_le {w h : Nat} {s : mtS} : ∀ k j, j ≤ k → mtLe (bfA w h s j) (bfA w h s k) := by
  intro k
  induction k with
  | zero => intro j hj; rw [show j = 0 by omega]; exact mtLe.rf
  | succ k ih =>
    intro j hj
    by_cases z : j = k + 1
    · rw [z]; exact mtLe.rf
    · exact (ih j (by omega)).tr (nbA_le (cfo w h))
theorem bfA_hi {w h : Nat} (hb : 1 ≤ w ∧ w ≤ 6 ∧ 1 ≤ h ∧ h ≤ 6) {p : Int64} (hp : hiZ w h p) : ∀ k, (∀ j, j < k → j < (bfA w h (st0 p) j).2.2.1) → ∀ i, i < (bfA w h (st0 p) k).2.2.1 → hiZ w h ((bfA w h (st0 p) k).1 i) := by
  intro k
  induction k with
  | zero => intro _ i _; exact hp
  | succ k ih =>
    intro hl
    have h1 := ih (fun j hj => hl j (by omega))
    exact nbA_hi hb (h1 k (hl k (by omega))) h1 (cfo w h) (Nat.le_refl _)
theorem bfA_Dl {w h : Nat} {p : Int64} : ∀ k, (∀ j, j < k → j < (bfA w h (st0 p) j).2.2.1) → ∀ i, i < (bfA w h (st0 p) k).2.2.1 → (bfA w h (st0 p) k).2.1 i ≤ i := by
  intro k
  induction k with
  | zero => intro _ i _; exact Nat.zero_le _
  | succ k ih =>
    intro hl i hi
    have h1 := ih (fun j hj => hl j (by omega))
    have hk := hl k (by omega)
    have le := nbA_le (w := w) (h := h) (p := (bfA w h (st0 p) k).1 k) (d := (bfA w h (st0 p) k).2.1 k + 1) (s := bfA w h (st0 p) k) (cfo w h)
    by_cases c : i < (bfA w h (st0 p) k).2.2.1
    · show (nbA w h _ _ _ (cfo w h)).2.1 i ≤ i
      rw [(le.2 i c).2]
      exact h1 i c
    · show (nbA w h _ _ _ (cfo w h)).2.1 i ≤ i
      rw [nbA_D (cfo w h) i (by omega) hi]
      have := h1 k hk
      omega
/-- a search that comes to its end has met every picture with the same rows and columns -/
theorem far_end {w h : Nat} (hb : 1 ≤ w ∧ w ≤ 6 ∧ 1 ≤ h ∧ h ≤ 6) {p q : Int64} (hp : hiZ w h p) (hq : hiZ w h q) (h0 : alike w h p q 0) (h1 : alike w h p q 1) {k : Nat} (ho : ∀ j, j ≤ k → (bfA w h (st0 p) j).2.2.2 = false) (hl : ∀ j, j < k → j < (bfA w h (st0 p) j).2.2.1) (hn : (bfA w h (st0 p) k).2.2.1 ≤ k) : isIn9 (bfA w h (st0 p) k) q := by
  have z0 := bfA_hi hb hp k hl
  have m36 : w * h ≤ 36 := Nat.mul_le_mul hb.2.1 hb.2.2.2
  have hP : swCl w h (fun C => ∃ i, i < (bfA w h (st0 p) k).2.2.1 ∧ ∀ y, y < h → ∀ x, x < w → pB w ((bfA w h (st0 p) k).1 i) y x = C y x) := by
    rintro C y v x u hyv hv hxu hu ok ⟨i, hi, e⟩
    have hik : i < k := by omega
    have hii := hl i hik
    have le := bfA_le (w := w) (h := h) (s := st0 p) k i (by omega)
    have mi := (le.2 i hii).1
    have ok' : swB w ((bfA w h (st0 p) i).1 i) y v x u = true := by
      rw [sw_ok9]
      unfold swOk
      rw [← mi, e y (by omega) x (by omega), e v hv u hu, e y (by omega) u hu, e v hv x (by omega)]
      exact ok
    have at9 := swq_at (p := (bfA w h (st0 p) i).1 i) (show w < 7 by omega) (show h < 7 by omega) hyv hv hxu hu
    have inn := nbA_in (w := w) (h := h) (p := (bfA w h (st0 p) i).1 i) (d := (bfA w h (st0 p) i).2.1 i + 1) (s := bfA w h (st0 p) i) (cfo w h) (ho (i + 1) hik) _ (fo_lt (show w < 7 by omega) (show h < 7 by omega) hyv hv hxu hu) (by rw [at9.1]; exact ok')
    rw [at9.2] at inn
    obtain ⟨i2, b1, b2⟩ := isIn9.le (u := bfA w h (st0 p) k) inn (bfA_le k (i + 1) hik)
    refine ⟨i2, b1, fun a ha b hbb => ?_⟩
    rw [b2, sw_bits hb.2.1 hb.2.2.2 hyv hv hxu hu ha hbb]
    unfold swP
    rw [← mi, e a ha b hbb]
  obtain ⟨i, hi, e⟩ := ryser hP (fun C C' hc ⟨i, hi, e⟩ => ⟨i, hi, fun y hy x hx => (e y hy x hx).trans (hc y hy x hx)⟩) (al_sums h0 h1) ⟨0, by
    have := (bfA_le (w := w) (h := h) (s := st0 p) k 0 (Nat.zero_le _)).1
    exact Nat.lt_of_lt_of_le (show 0 < 1 by omega) this, fun y hy x hx => by
    have := ((bfA_le (w := w) (h := h) (s := st0 p) k 0 (Nat.zero_le _)).2 0 (show 0 < 1 by omega)).1
    rw [this]; rfl⟩
  refine ⟨i, hi, lb_ext (fun s hs => ?_)⟩
  by_cases c : s < w * h
  · have hw0 : 0 < w := by omega
    have d1 : s / w < h := Nat.div_lt_of_lt_mul c
    have d2 := Nat.mod_lt s hw0
    have := e (s / w) d1 (s % w) d2
    unfold pB at this
    rw [Nat.mul_comm (s / w) w, Nat.div_add_mod] at this
    exact this
  · rw [z0 i hi s (by omega) hs, hq s (by omega) hs]
/-- what far answers for two unlike pictures with the same rows and columns -/
def farR (w h : Nat) (p q : Int64) (x : Int) : Prop := ∃ k, (∀ j, j ≤ k → (bfA w h (st0 p) j).2.2.2 = false ∧ ¬ isIn9 (bfA w h (st0 p) j) q ∧ j < (bfA w h (st0 p) j).2.2.1) ∧ ((isIn9 (bfA w h (st0 p) (k + 1)) q ∧ x = ((bfA w h (st0 p) k).2.1 k : Int) + 1) ∨ (¬ isIn9 (bfA w h (st0 p) (k + 1)) q ∧ (bfA w h (st0 p) (k + 1)).2.2.2 = true ∧ x = -5))
theorem farR_eq {w h : Nat} {p q : Int64} {x y : Int} (hx : farR w h p q x) (hy : farR w h p q y) : x = y := by
  obtain ⟨k, a, b⟩ := hx
  obtain ⟨k', a', b'⟩ := hy
  have no : ∀ {k k' : Nat} {x : Int}, k < k' → ((isIn9 (bfA w h (st0 p) (k + 1)) q ∧ x = ((bfA w h (st0 p) k).2.1 k : Int) + 1) ∨ (¬ isIn9 (bfA w h (st0 p) (k + 1)) q ∧ (bfA w h (st0 p) (k + 1)).2.2.2 = true ∧ x = -5)) → (∀ j, j ≤ k' → (bfA w h (st0 p) j).2.2.2 = false ∧ ¬ isIn9 (bfA w h (st0 p) j) q ∧ j < (bfA w h (st0 p) j).2.2.1) → False := fun {k k' x} hk b a => by
    obtain ⟨c1, c2, -⟩ := a (k + 1) hk
    rcases b with ⟨b1, -⟩ | ⟨-, b2, -⟩
    · exact c2 b1
    · rw [c1] at b2; cases b2
  rcases Nat.lt_trichotomy k k' with z | z | z
  · exact (no z b a').elim
  · subst z
    rcases b with ⟨b1, b2⟩ | ⟨b1, b2, b3⟩ <;> rcases b' with ⟨c1, c2⟩ | ⟨c1, c2, c3⟩
    · rw [b2, c2]
    · exact absurd b1 c1
    · exact absurd c1 b1
    · rw [b3, c3]
  · exact (no z b' a).elim
/-- the class's rings: e is where the ring of s ends -/
def rngC (S : mtS) (k s e : Nat) : Prop := (k ≤ e ∧ e ≤ S.2.2.1) ∧ (∀ i, k ≤ i → i < e → S.2.1 i = s) ∧ ∀ i, e ≤ i → i < S.2.2.1 → S.2.1 i = s + 1
theorem rngC_0 {p : Int64} : rngC (st0 p) 0 0 1 := ⟨⟨by omega, Nat.le_refl _⟩, fun i _ _ => rfl, fun i h1 h2 => absurd (Nat.lt_of_le_of_lt h1 h2) (Nat.lt_irrefl _)⟩
theorem rngC_n {S : mtS} {k s e : Nat} (h : rngC S k s e) (hk : k < S.2.2.1) (he : k = e) : rngC S k (s + 1) S.2.2.1 := ⟨⟨by omega, Nat.le_refl _⟩, fun i h1 h2 => h.2.2 i (by omega) h2, fun i h1 h2 => absurd (Nat.lt_of_le_of_lt h1 h2) (Nat.lt_irrefl _)⟩
theorem rngC_s {w h : Nat} {S : mtS} {k s e : Nat} (hr : rngC S k s e) (hk : k < e) : S.2.1 k = s ∧ rngC (nbA w h (S.1 k) (S.2.1 k + 1) S (cfo w h)) (k + 1) s e := by
  have dk : S.2.1 k = s := hr.2.1 k (Nat.le_refl _) hk
  have le := nbA_le (w := w) (h := h) (p := S.1 k) (d := S.2.1 k + 1) (s := S) (cfo w h)
  refine ⟨dk, ⟨by omega, Nat.le_trans hr.1.2 le.1⟩, fun i h1 h2 => ?_, fun i h1 h2 => ?_⟩
  · rw [(le.2 i (Nat.lt_of_lt_of_le h2 hr.1.2)).2]
    exact hr.2.1 i (by omega) h2
  · by_cases c : i < S.2.2.1
    · rw [(le.2 i c).2]; exact hr.2.2 i h1 c
    · rw [nbA_D (cfo w h) i (by omega) h2, dk]
end FARD

section SIDX
def okP (n z : Nat) : Bool := decide (z / n < z % n)
theorem okP_all : ∀ n, n < 7 → ∀ b, b < n → ∀ a, a < b → bs (okP n) (a * n + b) = prI n a b := by decide +kernel
theorem okP_n : ∀ n, n < 7 → bs (okP n) (n * n) = n * (n - 1) / 2 := by decide +kernel
theorem bs_blk (P Q : Nat → Bool) (M : Nat) (hM : 0 < M) : ∀ Y r, r ≤ M → bs (fun s => P (s / M) && Q (s % M)) (Y * M + r) = bs P Y * bs Q M + (if P Y = true then bs Q r else 0) := by
  have blk : ∀ Y r, r ≤ M → bs (fun i => (fun s => P (s / M) && Q (s % M)) (Y * M + i)) r = if P Y = true then bs Q r else 0 := fun Y r hr => by
    by_cases c : P Y = true
    · rw [if_pos c]
      apply ry_eq
      intro i hi
      show (P ((Y * M + i) / M) && Q ((Y * M + i) % M)) = Q i
      rw [(dm_at (show i < M by omega)).1, (dm_at (show i < M by omega)).2, c, Bool.true_and]
    · rw [if_neg c]
      apply fr_none
      intro i hi
      show (P ((Y * M + i) / M) && Q ((Y * M + i) % M)) = false
      rw [(dm_at (show i < M by omega)).1]
      cases hc : P Y
      · rfl
      · exact absurd hc c
  intro Y
  induction Y with
  | zero =>
    intro r hr
    have := blk 0 r hr
    rw [Nat.zero_mul, Nat.zero_add]
    simp only [bs, Nat.zero_mul, Nat.zero_add] at this ⊢
    exact this
  | succ Y ih =>
    intro r hr
    rw [bs_add, blk (Y + 1) r hr, Nat.succ_mul, ih M (Nat.le_refl _)]
    simp only [bs]
    cases hc : P Y
    · rw [if_neg (by decide)]
      simp only [Bool.toNat_false, Nat.add_zero]
    · rw [if_pos rfl, Bool.toNat_true, Nat.add_mul, Nat.one_mul]
/-- the fours in the reference's order -/
def okS (w h s : Nat) : Bool := okP h (s / (w * w)) && okP w (s % (w * w))
theorem okS_at {w h s : Nat} (hb : 1 ≤ w ∧ w ≤ 6 ∧ 1 ≤ h ∧ h ≤ 6) (hok : okS w h s = true) (hs : s < h * h * (w * w)) : bs (okS w h) s = prI h (s / (w * w) / h) (s / (w * w) % h) * (w * (w - 1) / 2) + prI w (s % (w * w) / w) (s % (w * w) % w) := by
  have hw2 : 0 < w * w := Nat.mul_pos (by omega) (by omega)
  have o := hok
  unfold okS at o
  rw [Bool.and_eq_true] at o
  have e := bs_blk (okP h) (okP w) (w * w) hw2 (s / (w * w)) (s % (w * w)) (Nat.le_of_lt (Nat.mod_lt _ hw2))
  rw [Nat.mul_comm (s / (w * w)) (w * w), Nat.div_add_mod, if_pos o.1] at e
  have o1 : s / (w * w) / h < s / (w * w) % h := of_decide_eq_true o.1
  have o2 : s % (w * w) / w < s % (w * w) % w := of_decide_eq_true o.2
  have a1 := okP_all h (by omega) _ (Nat.mod_lt (s / (w * w)) (show 0 < h by omega)) _ o1
  have a2 := okP_all w (by omega) _ (Nat.mod_lt (s % (w * w)) (show 0 < w by omega)) _ o2
  rw [Nat.mul_comm _ h, Nat.div_add_mod] at a1
  rw [Nat.mul_comm _ w, Nat.div_add_mod] at a2
  rw [a1, a2, okP_n w (by omega)] at e
  exact e
theorem okS_all {w h : Nat} (hb : 1 ≤ w ∧ w ≤ 6 ∧ 1 ≤ h ∧ h ≤ 6) : bs (okS w h) (h * h * (w * w)) = cfo w h := by
  have hw2 : 0 < w * w := Nat.mul_pos (by omega) (by omega)
  have e := bs_blk (okP h) (okP w) (w * w) hw2 (h * h) 0 (Nat.zero_le _)
  rw [Nat.add_zero, okP_n w (by omega), okP_n h (by omega)] at e
  have e2 : (if okP h (h * h) = true then bs (okP w) 0 else 0) = 0 := by split <;> rfl
  rw [e2, Nat.add_zero] at e
  unfold cfo
  rw [Nat.mul_comm (w * (w - 1) / 2) (h * (h - 1) / 2)]
  exact e
end SIDX


/-- the class's slots as a table: 0 is free, k + 1 holds the k-th -/
def ocC (fs : Nat → Int32) (k : Nat) : Option Nat := if fs k = 0 then none else some ((fs k).toInt - 1).toNat
def hC (p : Int64) : Nat := (((((p * (-7046029254386353131 : Int64)).toUInt64 >>> ((49 : Int32).toInt64.toUInt64 &&& Int64.toUInt64 63)).toInt64)).toInt32 &&& 32767).toNatClampNeg
def tbC (fs : Nat → Int32) (fm : Nat → Int64) (n : Nat) : Prop := tabOk 32768 hC (ocC fs) fm n ∧ (∀ k, k < 32768 → 0 ≤ (fs k).toInt ∧ (fs k).toInt ≤ 20000) ∧ n ≤ 20000
theorem ocC_n {fs : Nat → Int32} {k : Nat} (h : fs k = 0) : ocC fs k = none := by unfold ocC; rw [if_pos h]
theorem ocC_s {fs : Nat → Int32} {k : Nat} (h : ¬ fs k = 0) : ocC fs k = some ((fs k).toInt - 1).toNat := by unfold ocC; rw [if_neg h]
theorem hC_lt (p : Int64) : hC p < 32768 := by
  have b := and15 (v := ((((p * (-7046029254386353131 : Int64)).toUInt64 >>> ((49 : Int32).toInt64.toUInt64 &&& Int64.toUInt64 63)).toInt64)).toInt32 &&& 32767) rfl
  have e := m_cl (x := ((((p * (-7046029254386353131 : Int64)).toUInt64 >>> ((49 : Int32).toInt64.toUInt64 &&& Int64.toUInt64 63)).toInt64)).toInt32 &&& 32767) b.1
  unfold hC
  omega
theorem n32 {x : Int32} (h : 0 ≤ x.toInt) : x.toNatClampNeg = x.toBitVec.toNat := by
  have e1 := m_cl h
  have e2 : x.toInt = x.toBitVec.toInt := rfl
  have e3 := BitVec.toInt_eq_toNat_cond x.toBitVec
  have l := x.toBitVec.isLt
  rw [e3] at e2
  split at e2 <;> omega
theorem and15_m {x : Int32} (h : 0 ≤ x.toInt) : (x &&& 32767).toNatClampNeg = x.toNatClampNeg % 32768 := by
  have b := and15 (v := x &&& 32767) (x := x) rfl
  rw [n32 h, n32 b.1]
  have e : (x &&& 32767).toBitVec.toNat = x.toBitVec.toNat &&& (2 ^ 15 - 1) := by
    rw [Int32.toBitVec_and, BitVec.toNat_and]
    rfl
  rw [e, Nat.and_two_pow_sub_one_eq_mod]
theorem w6sh {cy : Nat → ClassId} {A : Nat → Prop} {G : cG} {ws : va_W} {x a b u v : Nat} {z : Int32} (hD : va_D A ws) (hT : cT cy G ws) (hG : G x = some (6, u, v)) (hM : cIn ws x (.inr (5, [.ref a, .int z, .ref b]))) : (0 ≤ z.toInt ∧ z.toInt ≤ 20000) ∧ G a = some (1, 20000, 0) ∧ G b = some (0, 32768, 0) := by
  obtain ⟨_, hi, a', b', z', rfl, hz, hga, hgb⟩ := hT _ _ hG
  have e := cIn.eq hD hM hi
  simp only [Sum.inr.injEq, Prod.mk.injEq, List.cons.injEq, Value.int.injEq, Value.ref.injEq, and_true, true_and] at e
  rw [e.1, e.2.1, e.2.2]
  exact ⟨hz, hga, hgb⟩
/-- a picture more in the class's table -/
theorem tbC_add {fs : Nat → Int32} {fm : Nat → Int64} {n k : Nat} {p : Int64} (h : tbC fs fm n) (hn : n < 20000) (hk : k < 32768) (ho : ocC fs k = none) (hno : ∀ i, i < n → fm i ≠ p) (hp : ∃ t, t < 32768 ∧ k = (hC p + t) % 32768 ∧ ∀ t', t' < t → ocC fs ((hC p + t') % 32768) ≠ none) : tbC (upd fs k (nI (n + 1))) (vp_updL fm n p) (n + 1) := by
  have e1 : (nI (n + 1)).toInt = ((n + 1 : Nat) : Int) := nI_toInt (by omega)
  refine ⟨tab_add h.1 ho hno hp (fun i hi => by unfold vp_updL; rw [if_neg (by omega)]) (by unfold vp_updL; rw [if_pos rfl]) ?_ (fun e he hne => ?_), fun e he => ?_, hn⟩
  · have e2 : upd fs k (nI (n + 1)) k = nI (n + 1) := by unfold upd; rw [if_pos rfl]
    unfold ocC
    rw [e2, if_neg (fun z => by have y := congrArg Int32.toInt z; rw [e1] at y; have : (0 : Int32).toInt = 0 := rfl; omega), e1]
    congr 1
    omega
  · unfold ocC upd
    rw [if_neg hne]
  · unfold upd
    by_cases z : e = k
    · rw [if_pos z, e1]; omega
    · rw [if_neg z]; exact h.2.1 e he
set_option maxHeartbeats 4000000 in
set_option maxRecDepth 100000 in
theorem c_X6_isTakenByOther_x (l : Launch) (D : va_G) (cy : Nat → ClassId) (A : Nat → Prop) (G : cG) (ws : va_W) (o : Nat) (slot : Int32) (p0 : Int64) {a_o b_o z_o : Nat} {fm : Nat → Int64} {fs : Nat → Int32} (hD : va_D A ws) (hT : cT cy G ws) (hG_o : G o = some (6, 0, 0)) (hM_o : cIn ws o (.inr (5, [.ref a_o, .int (nI z_o), .ref b_o]))) (hM_a_o : cIn ws a_o (.inl (cy 1, 20000, .inr (.inl fm)))) (hM_b_o : cIn ws b_o (.inl (cy 0, 32768, .inl fs))) (hs : 0 ≤ slot.toInt ∧ slot.toInt < 32768) (hr9 : ∀ k, k < 32768 → 0 ≤ (fs k).toInt ∧ (fs k).toInt ≤ 20000) : Ci l D cy A yX6_isTakenByOther wsX6_isTakenByOther ({ frames := 0, cells := 0, slots := 0, locals := 0 }) 0 0 ws [.ref o, .int slot, .long p0] (fun r0 u => u = (G, ws) ∧ (Bo r0 (∃ i, ocC fs slot.toNatClampNeg = some i ∧ ¬ fm i = p0))) := by
  refine Met.ofW (cc := cX6_isTakenByOther) (maxL := 5) (ret := (some .boolean)) (by decide) rfl ?_
  intro p e s m args below meth c s₁ B hml hv
  obtain ⟨rfl, hP, hK, hA, hV⟩ := hv
  have hx := B.exec
  have hb := B.bytes
  have hr := B.returns
  have hts := atoms_spec (ws := wsX6_isTakenByOther) B.pre
  have hown : s.vm.findClass RX6 = some m.cls := findClass_of_methodNamed B.named
  have hlocks := B.notSynchronized
  have hS : va_S A s.heap s.heap [] := va_S.rf
  have hl := lv_entry ([.ref o, .int slot, .long p0]) (n := 5) (Nat.le_of_ble_eq_true rfl)
  rw [lg_entry_eq]
  generalize (lg_sl ([.ref o, .int slot, .long p0]) ++ List.replicate (5 - (lg_sl ([.ref o, .int slot, .long p0])).length) Slot.unset).toArray = ls at hl ⊢
  have hl : lv_has ls 5 [(0, .ref o), (1, .int slot), (2, .long p0)] := hl
  have k_0 : (0 : Int32).toInt = 0 := by decide
  have k_1 : (1 : Int32).toInt = 1 := by decide
  have k_20000 : (20000 : Int32).toInt = 20000 := by decide
  obtain ⟨hz_o, hG_a_o, hG_b_o⟩ := w6sh hD hT hG_o hM_o
  refine lv_aload_n hx hb dX6_isTakenByOther_0 rfl (lv_at hl 0 rfl) ?_
  refine t_get (v := .ref b_o) (C := RX6) (T := TX6) (N := 3) hx hb hts (by decide +kernel) hown hK hP hM_o rfl 2 (by decide) (hts (.fieldLink RX6 20 "ShadowBench$Meetings" "slots" "[I") (by decide +kernel)) (fun _ h9 => h9) rfl dX6_isTakenByOther_1 ?_
  refine lv_iload_n hx hb dX6_isTakenByOther_4 rfl (lv_at hl 1 rfl) ?_
  refine t_ialdM hx hb hK hP hM_b_o (vp_in_iff.mpr ⟨by omega, by omega⟩) dX6_isTakenByOther_5 ?_
  refine lv_topi (fun v5 e5 => ?_)
  have cs9 := m_cl (x := slot) hs.1
  have r9 := hr9 slot.toNatClampNeg (by omega)
  rw [← e5] at r9
  refine lv_iconst (v := 1) hx hb dX6_isTakenByOther_6 (by decide) ?_
  refine lv_isub hx hb dX6_isTakenByOther_7 ?_
  refine lv_topi (fun v7 e7 => ?_)
  have i7 : v7.toInt = v5.toInt - (1 : Int32).toInt := by rw [e7]; exact fb_subI (by omega) (by omega)
  refine lv_istore (lv' := [(4, .int v7), (0, .ref o), (1, .int slot), (2, .long p0)]) hx hb dX6_isTakenByOther_8 hl (by decide) rfl (fun ls hl => ?_)
  refine lv_iload hx hb dX6_isTakenByOther_10 (lv_at hl 0 rfl) ?_
  refine lv_if_lt (tgt := 39) hx hb dX6_isTakenByOther_12 (by decide) (fun c12 => ?_) (fun c12 => ?_)
  · skip
    have d12 := c12
    rw [fa_lt] at d12
    refine lv_iconst (v := 0) hx hb dX6_isTakenByOther_39 (by decide) ?_
    exact W.zret (v := (0 : Int32)) hx hb hr (by decide) (fun t ht hW => ⟨⟨_, (G, ws), rfl, ⟨rfl, Or.inr ⟨rfl, (fun ⟨i9, a9, b9⟩ => by have n0 : ¬ fs slot.toNatClampNeg = 0 := (fun z9 => by rw [ocC_n z9] at a9; cases a9); rw [ocC_s n0] at a9; cases a9; first | (exfalso; exact n0 (by rw [← e5]; exact Int32.toInt_inj.mp (by omega))) | (exfalso; omega) | exact b9 (by have c7 := m_cl (x := v7) (by omega); rw [← e5, show (v5.toInt - 1).toNat = v7.toNatClampNeg by omega, ← e29]; exact (lg_cmp_eq _ _).mp c32))⟩⟩, by show va_P D vwCl ws t.heap; rw [ht]; exact hP, hD, hT⟩, hS.F ht⟩) hS.2.2 dX6_isTakenByOther_40
  · skip
    have d12 := c12
    rw [fa_lt] at d12
    refine lv_iload hx hb dX6_isTakenByOther_15 (lv_at hl 0 rfl) ?_
    refine lv_sipush (v := 20000) hx hb dX6_isTakenByOther_17 (by decide) ?_
    refine lv_icmp_ge (tgt := 39) hx hb dX6_isTakenByOther_20 (by decide) (fun c20 => ?_) (fun c20 => ?_)
    · skip
      have d20 := c20
      rw [fa_le] at d20
      refine lv_iconst (v := 0) hx hb dX6_isTakenByOther_39 (by decide) ?_
      exact W.zret (v := (0 : Int32)) hx hb hr (by decide) (fun t ht hW => ⟨⟨_, (G, ws), rfl, ⟨rfl, Or.inr ⟨rfl, (fun ⟨i9, a9, b9⟩ => by have n0 : ¬ fs slot.toNatClampNeg = 0 := (fun z9 => by rw [ocC_n z9] at a9; cases a9); rw [ocC_s n0] at a9; cases a9; first | (exfalso; exact n0 (by rw [← e5]; exact Int32.toInt_inj.mp (by omega))) | (exfalso; omega) | exact b9 (by have c7 := m_cl (x := v7) (by omega); rw [← e5, show (v5.toInt - 1).toNat = v7.toNatClampNeg by omega, ← e29]; exact (lg_cmp_eq _ _).mp c32))⟩⟩, by show va_P D vwCl ws t.heap; rw [ht]; exact hP, hD, hT⟩, hS.F ht⟩) hS.2.2 dX6_isTakenByOther_40
    · skip
      have d20 := c20
      rw [fa_le] at d20
      refine lv_aload_n hx hb dX6_isTakenByOther_23 rfl (lv_at hl 1 rfl) ?_
      refine t_get (v := .ref a_o) (C := RX6) (T := TX6) (N := 3) hx hb hts (by decide +kernel) hown hK hP hM_o rfl 0 (by decide) (hts (.fieldLink RX6 11 "ShadowBench$Meetings" "met" "[J") (by decide +kernel)) (fun _ h9 => h9) rfl dX6_isTakenByOther_24 ?_
      refine lv_iload hx hb dX6_isTakenByOther_27 (lv_at hl 0 rfl) ?_
      refine t_laldM hx hb hK hP hM_a_o (vp_in_iff.mpr ⟨by omega, by omega⟩) dX6_isTakenByOther_29 ?_
      refine lv_topl (fun v29 e29 => ?_)
      refine lv_lload_n hx hb dX6_isTakenByOther_30 rfl (lv_at hl 3 rfl) ?_
      refine W.lcmp hx hb dX6_isTakenByOther_31 ?_
      refine lv_if_eq (tgt := 39) hx hb dX6_isTakenByOther_32 (by decide) (fun c32 => ?_) (fun c32 => ?_)
      · skip
        have d32 := c32
        rw [lg_cmp_eq, fa_eq64] at d32
        refine lv_iconst (v := 0) hx hb dX6_isTakenByOther_39 (by decide) ?_
        exact W.zret (v := (0 : Int32)) hx hb hr (by decide) (fun t ht hW => ⟨⟨_, (G, ws), rfl, ⟨rfl, Or.inr ⟨rfl, (fun ⟨i9, a9, b9⟩ => by have n0 : ¬ fs slot.toNatClampNeg = 0 := (fun z9 => by rw [ocC_n z9] at a9; cases a9); rw [ocC_s n0] at a9; cases a9; first | (exfalso; exact n0 (by rw [← e5]; exact Int32.toInt_inj.mp (by omega))) | (exfalso; omega) | exact b9 (by have c7 := m_cl (x := v7) (by omega); rw [← e5, show (v5.toInt - 1).toNat = v7.toNatClampNeg by omega, ← e29]; exact (lg_cmp_eq _ _).mp c32))⟩⟩, by show va_P D vwCl ws t.heap; rw [ht]; exact hP, hD, hT⟩, hS.F ht⟩) hS.2.2 dX6_isTakenByOther_40
      · skip
        have d32 := c32
        rw [lg_cmp_eq, fa_eq64] at d32
        refine lv_iconst (v := 1) hx hb dX6_isTakenByOther_35 (by decide) ?_
        refine lv_goto (tgt := 40) hx hb dX6_isTakenByOther_36 (by decide) ?_
        exact W.zret (v := (1 : Int32)) hx hb hr (by decide) (fun t ht hW => ⟨⟨_, (G, ws), rfl, ⟨rfl, Or.inl ⟨rfl, (by have c7 := m_cl (x := v7) (by omega); have n0 : ¬ fs slot.toNatClampNeg = 0 := (by rw [← e5]; intro z9; rw [z9] at i7; omega); refine ⟨_, ocC_s n0, ?_⟩; rw [← e5, show (v5.toInt - 1).toNat = v7.toNatClampNeg by omega, ← e29]; exact fun z9 => c32 ((lg_cmp_eq _ _).mpr z9))⟩⟩, by show va_P D vwCl ws t.heap; rw [ht]; exact hP, hD, hT⟩, hS.F ht⟩) hS.2.2 dX6_isTakenByOther_40
set_option maxHeartbeats 4000000 in
set_option maxRecDepth 100000 in
theorem c_X6_slotFor_x (l : Launch) (D : va_G) (cy : Nat → ClassId) (A : Nat → Prop) (G : cG) (ws : va_W) (o : Nat) (p0 : Int64) {a_o b_o z_o : Nat} {fm : Nat → Int64} {fs : Nat → Int32} (hD : va_D A ws) (hT : cT cy G ws) (hG_o : G o = some (6, 0, 0)) (hM_o : cIn ws o (.inr (5, [.ref a_o, .int (nI z_o), .ref b_o]))) (hM_a_o : cIn ws a_o (.inl (cy 1, 20000, .inr (.inl fm)))) (hM_b_o : cIn ws b_o (.inl (cy 0, 32768, .inl fs))) (ht9 : tbC fs fm z_o) : Ci l D cy A yX6_slotFor wsX6_slotFor ({ frames := 1, cells := 0, slots := 0, locals := 24 }) 0 0 ws [.ref o, .long p0] (fun r0 u => u = (G, ws) ∧ (tabF 32768 hC (ocC fs) fm z_o p0 r0.toNatClampNeg ∧ 0 ≤ r0.toInt ∧ r0.toInt < 32768)) := by
  refine Met.ofW (cc := cX6_slotFor) (maxL := 5) (ret := (some .int)) (by decide) rfl ?_
  intro p e s m args below meth c s₁ B hml hv
  obtain ⟨rfl, hP, hK, hA, hV⟩ := hv
  have hx := B.exec
  have hb := B.bytes
  have hr := B.returns
  have hts := atoms_spec (ws := wsX6_slotFor) B.pre
  have hown : s.vm.findClass RX6 = some m.cls := findClass_of_methodNamed B.named
  have hlocks := B.notSynchronized
  have hS : va_S A s.heap s.heap [] := va_S.rf
  have hl := lv_entry ([.ref o, .long p0]) (n := 5) (Nat.le_of_ble_eq_true rfl)
  rw [lg_entry_eq]
  generalize (lg_sl ([.ref o, .long p0]) ++ List.replicate (5 - (lg_sl ([.ref o, .long p0])).length) Slot.unset).toArray = ls at hl ⊢
  have hl : lv_has ls 5 [(0, .ref o), (1, .long p0)] := hl
  have k_0 : (0 : Int32).toInt = 0 := by decide
  have k_1 : (1 : Int32).toInt = 1 := by decide
  have k_49 : (49 : Int32).toInt = 49 := by decide
  have k_32767 : (32767 : Int32).toInt = 32767 := by decide
  have k_32768 : (32768 : Int32).toInt = 32768 := by decide
  have k_m7046029254386353131L : (-7046029254386353131 : Int64).toInt = -7046029254386353131 := by decide
  obtain ⟨hz_o, hG_a_o, hG_b_o⟩ := w6sh hD hT hG_o hM_o
  refine lv_lload_n hx hb dX6_slotFor_0 rfl (lv_at hl 1 rfl) ?_
  refine lv_ldc2 hx hb hown (hts (.constantLong RX6 54 (-7046029254386353131)) (by decide +kernel)) dX6_slotFor_1 ?_
  refine lv_lmul hx hb dX6_slotFor_4 ?_
  refine lv_topl (fun v4 e4 => ?_)
  refine lv_bipush (v := 49) hx hb dX6_slotFor_5 (by decide) ?_
  refine lv_lushr (v := (v4.toUInt64 >>> ((49 : Int32).toInt64.toUInt64 &&& Int64.toUInt64 63)).toInt64) hx hb dX6_slotFor_7 rfl ?_
  refine lv_l2i (v := (((v4.toUInt64 >>> ((49 : Int32).toInt64.toUInt64 &&& Int64.toUInt64 63)).toInt64)).toInt32) hx hb dX6_slotFor_8 rfl ?_
  refine lv_sipush (v := 32767) hx hb dX6_slotFor_9 (by decide) ?_
  refine lv_iand hx hb dX6_slotFor_12 ?_
  refine lv_topi (fun v12 e12 => ?_)
  have b12 := and15 e12
  have h12 : v12.toNatClampNeg = hC p0 := by rw [e12, e4]; rfl
  refine lv_istore_n (lv' := [(3, .int v12), (0, .ref o), (1, .long p0)]) hx hb dX6_slotFor_13 rfl hl (by decide) rfl (fun ls hl => ?_)
  refine lv_iconst (v := 0) hx hb dX6_slotFor_14 (by decide) ?_
  refine lv_istore (lv' := [(4, .int (0 : Int32)), (3, .int v12), (0, .ref o), (1, .long p0)]) hx hb dX6_slotFor_15 hl (by decide) rfl (fun ls hl => ?_)
  have loop_17 : ∀ (n : Nat) (i : Nat) (x3 : Int32), (i ≤ 32768) → (0 ≤ x3.toInt ∧ x3.toInt < 32768) → (x3.toNatClampNeg = (hC p0 + i) % 32768) → (∀ t9, t9 < i → ∃ j9, ocC fs ((hC p0 + t9) % 32768) = some j9 ∧ ¬ fm j9 = p0) → 32768 - i < n → ∀ (H : Heap) (locs : List Loc), va_P D vwCl ws H → va_S A s.heap H locs → ∀ (ls : Array Slot), lv_has ls 5 [(4, .int (nI i)), (3, .int x3), (0, .ref o), (1, .long p0)] → W p l e (headSpec wsX6_slotFor ({ frames := 1, cells := 0, slots := 0, locals := 24 })).room s m #[Value.ref o, Value.long p0] below meth c H locs 0 0 (MQ below (va_Qi (fun r0 u => u = (G, ws) ∧ (tabF 32768 hC (ocC fs) fm z_o p0 r0.toNatClampNeg ∧ 0 ≤ r0.toInt ∧ r0.toInt < 32768)) (cB D cy A) A) #[Value.ref o, Value.long p0] s 0 0 A) (F0 m 17 ls []) := by
    intro n
    induction n with
    | zero => intro i x3 j17_0 j17_1 j17_2 j17_3 hn; exact absurd hn (Nat.not_lt_zero _)
    | succ n ih_17 =>
      intro i x3 j17_0 j17_1 j17_2 j17_3 hn_17 H locs hP hS  ls hl
      have ii : (nI i).toInt = (i : Int) := nI_toInt (by omega)
      refine lv_iload hx hb dX6_slotFor_17 (lv_at hl 0 rfl) ?_
      refine lv_ldc hx hb hown (hts (.constant RX6 19 (32768)) (by decide +kernel)) dX6_slotFor_19 ?_
      refine lv_icmp_ge (tgt := 47) hx hb dX6_slotFor_21 (by decide) (fun c21 => ?_) (fun c21 => ?_)
      · skip
        have d21 := c21
        rw [fa_le] at d21
        refine lv_iload_n hx hb dX6_slotFor_47 rfl (lv_at hl 1 rfl) ?_
        exact W.iret (v := x3) hx hb hr (fun t ht hW => ⟨⟨_, (G, ws), rfl, ⟨rfl, ⟨(by first | exact tab_srch ht9.1 (t := i) (by omega) j17_2 j17_3 (by cases ho : ocC fs x3.toNatClampNeg with | none => exact Or.inl rfl | some j9 => exact Or.inr ⟨j9, rfl, Classical.byContradiction fun z9 => b30 ⟨j9, ho, z9⟩⟩) | (exfalso; obtain ⟨e9, h1, h2⟩ := tab_free ht9.1 (by have := ht9.2.2; omega); obtain ⟨t9, h3, h4⟩ := rnd_ex (a := hC p0) (hC_lt p0) h1; obtain ⟨j9, h5, -⟩ := j17_3 t9 (by omega); rw [h4, h2] at h5; cases h5)), by omega⟩⟩, by show va_P D vwCl ws t.heap; rw [ht]; exact hP, hD, hT⟩, hS.F ht⟩) hS.2.2 dX6_slotFor_48
      · skip
        have d21 := c21
        rw [fa_le] at d21
        refine lv_aload_n hx hb dX6_slotFor_24 rfl (lv_at hl 2 rfl) ?_
        refine lv_iload_n hx hb dX6_slotFor_25 rfl (lv_at hl 1 rfl) ?_
        refine lv_lload_n hx hb dX6_slotFor_26 rfl (lv_at hl 3 rfl) ?_
        refine t_calli (va_runV (g := F0 m 27 ls ([.long p0, .int x3, .ref o])) (As := [.int x3, .long p0]) (rest := []) ⟨hx, hb, hml, hown, hts⟩ (c_X6_isTakenByOther_x l D cy A G ws o x3 p0 hD hT hG_o hM_o hM_a_o hM_b_o (by omega) ht9.2.1) (cwV 2 hts gX6_slotFor_X6_isTakenByOther rfl rfl rfl (by decide +kernel) ⟨Nat.le_of_ble_eq_true rfl, Nat.le_of_ble_eq_true rfl⟩) (c_preV hM_o rfl hP hK hA hS hV) rfl rfl hl.1 rfl (lv_room (Nat.le_of_ble_eq_true rfl)) dX6_slotFor_27 ⟨Nat.le_of_ble_eq_true rfl, Nat.le_of_ble_eq_true rfl⟩) hS (fun r27 u H locs q27 hP9 hD9 hT9 hS => ?_)
        obtain ⟨rfl, q27⟩ := q27
        have hP : va_P D vwCl ws H := hP9
        refine lv_if_eq (tgt := 47) hx hb dX6_slotFor_30 (by decide) (fun c30 => ?_) (fun c30 => ?_)
        · skip
          have b30 := bo_f q27 c30
          refine lv_iload_n hx hb dX6_slotFor_47 rfl (lv_at hl 1 rfl) ?_
          exact W.iret (v := x3) hx hb hr (fun t ht hW => ⟨⟨_, (G, ws), rfl, ⟨rfl, ⟨(by first | exact tab_srch ht9.1 (t := i) (by omega) j17_2 j17_3 (by cases ho : ocC fs x3.toNatClampNeg with | none => exact Or.inl rfl | some j9 => exact Or.inr ⟨j9, rfl, Classical.byContradiction fun z9 => b30 ⟨j9, ho, z9⟩⟩) | (exfalso; obtain ⟨e9, h1, h2⟩ := tab_free ht9.1 (by have := ht9.2.2; omega); obtain ⟨t9, h3, h4⟩ := rnd_ex (a := hC p0) (hC_lt p0) h1; obtain ⟨j9, h5, -⟩ := j17_3 t9 (by omega); rw [h4, h2] at h5; cases h5)), by omega⟩⟩, by show va_P D vwCl ws t.heap; rw [ht]; exact hP, hD, hT⟩, hS.F ht⟩) hS.2.2 dX6_slotFor_48
        · skip
          have b30 := bo_t q27 c30
          refine lv_iload_n hx hb dX6_slotFor_33 rfl (lv_at hl 1 rfl) ?_
          refine lv_iconst (v := 1) hx hb dX6_slotFor_34 (by decide) ?_
          refine lv_iadd hx hb dX6_slotFor_35 ?_
          refine lv_topi (fun v35 e35 => ?_)
          have i35 : v35.toInt = x3.toInt + (1 : Int32).toInt := by rw [e35]; exact fb_addI (by omega) (by omega)
          refine lv_sipush (v := 32767) hx hb dX6_slotFor_36 (by decide) ?_
          refine lv_iand hx hb dX6_slotFor_39 ?_
          refine lv_topi (fun v39 e39 => ?_)
          have b39 := and15 e39
          have f39 : v39.toNatClampNeg = (x3.toNatClampNeg + 1) % 32768 := by
            have y1 := m_cl (x := v35) (by omega)
            have y2 := m_cl (x := x3) (by omega)
            rw [e39, and15_m (by omega), show v35.toNatClampNeg = x3.toNatClampNeg + 1 by omega]
          refine lv_istore_n (lv' := [(3, .int v39), (4, .int (nI i)), (0, .ref o), (1, .long p0)]) hx hb dX6_slotFor_40 rfl hl (by decide) rfl (fun ls hl => ?_)
          refine lv_iinc (v := (nI (i + 1))) (lv' := [(4, .int (nI (i + 1))), (3, .int v39), (0, .ref o), (1, .long p0)]) hx hb dX6_slotFor_41 hl (k := 1) rfl (nI_1 _) (by decide) rfl (fun ls hl => ?_)
          refine lv_goto (tgt := 17) hx hb dX6_slotFor_44 (by decide) ?_
          exact ih_17 (i + 1) v39 (by omega) (by omega) (by rw [f39, j17_2, Nat.mod_add_mod, Nat.add_assoc]) (fun t9 h9 => by by_cases z9 : t9 = i; (rw [z9, ← j17_2]; exact b30); exact j17_3 t9 (by omega)) (by omega) _ _ hP hS  ls (lv_sub hl [0, 1, 2, 3] rfl)
  exact loop_17 (32768 + 1) 0 v12 (by omega) (by omega) (by rw [h12, Nat.add_zero]; exact (Nat.mod_eq_of_lt (hC_lt p0)).symm) (fun t9 h9 => absurd h9 (Nat.not_lt_zero _)) (by omega) _ _ hP hS  ls (lv_sub hl [0, 1, 2, 3] rfl)
set_option maxHeartbeats 4000000 in
set_option maxRecDepth 100000 in
theorem c_X6_knows_x (l : Launch) (D : va_G) (cy : Nat → ClassId) (A : Nat → Prop) (G : cG) (ws : va_W) (o : Nat) (p0 : Int64) {a_o b_o z_o : Nat} {fm : Nat → Int64} {fs : Nat → Int32} (hD : va_D A ws) (hT : cT cy G ws) (hG_o : G o = some (6, 0, 0)) (hM_o : cIn ws o (.inr (5, [.ref a_o, .int (nI z_o), .ref b_o]))) (hM_a_o : cIn ws a_o (.inl (cy 1, 20000, .inr (.inl fm)))) (hM_b_o : cIn ws b_o (.inl (cy 0, 32768, .inl fs))) (ht9 : tbC fs fm z_o) : Ci l D cy A yX6_knows wsX6_knows ({ frames := 2, cells := 0, slots := 0, locals := 48 }) 0 0 ws [.ref o, .long p0] (fun r0 u => u = (G, ws) ∧ (Bo r0 (∃ i, i < z_o ∧ fm i = p0))) := by
  refine Met.ofW (cc := cX6_knows) (maxL := 3) (ret := (some .boolean)) (by decide) rfl ?_
  intro p e s m args below meth c s₁ B hml hv
  obtain ⟨rfl, hP, hK, hA, hV⟩ := hv
  have hx := B.exec
  have hb := B.bytes
  have hr := B.returns
  have hts := atoms_spec (ws := wsX6_knows) B.pre
  have hown : s.vm.findClass RX6 = some m.cls := findClass_of_methodNamed B.named
  have hlocks := B.notSynchronized
  have hS : va_S A s.heap s.heap [] := va_S.rf
  have hl := lv_entry ([.ref o, .long p0]) (n := 3) (Nat.le_of_ble_eq_true rfl)
  rw [lg_entry_eq]
  generalize (lg_sl ([.ref o, .long p0]) ++ List.replicate (3 - (lg_sl ([.ref o, .long p0])).length) Slot.unset).toArray = ls at hl ⊢
  have hl : lv_has ls 3 [(0, .ref o), (1, .long p0)] := hl
  have k_0 : (0 : Int32).toInt = 0 := by decide
  have k_1 : (1 : Int32).toInt = 1 := by decide
  obtain ⟨hz_o, hG_a_o, hG_b_o⟩ := w6sh hD hT hG_o hM_o
  refine lv_aload_n hx hb dX6_knows_0 rfl (lv_at hl 0 rfl) ?_
  refine t_get (v := .ref b_o) (C := RX6) (T := TX6) (N := 3) hx hb hts (by decide +kernel) hown hK hP hM_o rfl 2 (by decide) (hts (.fieldLink RX6 20 "ShadowBench$Meetings" "slots" "[I") (by decide +kernel)) (fun _ h9 => h9) rfl dX6_knows_1 ?_
  refine lv_aload_n hx hb dX6_knows_4 rfl (lv_at hl 0 rfl) ?_
  refine lv_lload_n hx hb dX6_knows_5 rfl (lv_at hl 1 rfl) ?_
  refine t_calli (va_runV (g := F0 m 6 ls ([.long p0, .ref o, .ref b_o])) (As := [.long p0]) (rest := [.ref b_o]) ⟨hx, hb, hml, hown, hts⟩ (c_X6_slotFor_x l D cy A G ws o p0 hD hT hG_o hM_o hM_a_o hM_b_o ht9) (cwV 1 hts gX6_knows_X6_slotFor rfl rfl rfl (by decide +kernel) ⟨Nat.le_of_ble_eq_true rfl, Nat.le_of_ble_eq_true rfl⟩) (c_preV hM_o rfl hP hK hA hS hV) rfl rfl hl.1 rfl (lv_room (Nat.le_of_ble_eq_true rfl)) dX6_knows_6 ⟨Nat.le_of_ble_eq_true rfl, Nat.le_of_ble_eq_true rfl⟩) hS (fun r6 u H locs q6 hP9 hD9 hT9 hS => ?_)
  obtain ⟨rfl, q6⟩ := q6
  have hP : va_P D vwCl ws H := hP9
  refine t_ialdM hx hb hK hP hM_b_o (vp_in_iff.mpr ⟨by omega, by omega⟩) dX6_knows_9 ?_
  refine lv_topi (fun v9 e9 => ?_)
  refine lv_if_eq (tgt := 17) hx hb dX6_knows_10 (by decide) (fun c10 => ?_) (fun c10 => ?_)
  · skip
    have d10 := c10
    rw [fa_eq] at d10
    refine lv_iconst (v := 0) hx hb dX6_knows_17 (by decide) ?_
    exact W.zret (v := (0 : Int32)) hx hb hr (by decide) (fun t ht hW => ⟨⟨_, (G, ws), rfl, ⟨rfl, Or.inr ⟨rfl, (by rcases q6.1 with ⟨i9, y1, y2, y3⟩ | ⟨y1, y2, y4⟩; (rw [ocC_n (e9.symm.trans c10)] at y3; cases y3); exact fun ⟨i9, h1, h2⟩ => y2 i9 h1 h2)⟩⟩, by show va_P D vwCl ws t.heap; rw [ht]; exact hP, hD, hT⟩, hS.F ht⟩) hS.2.2 dX6_knows_18
  · skip
    have d10 := c10
    rw [fa_eq] at d10
    refine lv_iconst (v := 1) hx hb dX6_knows_13 (by decide) ?_
    refine lv_goto (tgt := 18) hx hb dX6_knows_14 (by decide) ?_
    exact W.zret (v := (1 : Int32)) hx hb hr (by decide) (fun t ht hW => ⟨⟨_, (G, ws), rfl, ⟨rfl, Or.inl ⟨rfl, (by rcases q6.1 with ⟨i9, y1, y2, y3⟩ | ⟨y1, y2, -⟩; exact ⟨i9, y1, y2⟩; exact absurd (Classical.byContradiction fun z9 => by rw [ocC_s z9] at y1; cases y1) (fun z9 => c10 (e9.trans z9)))⟩⟩, by show va_P D vwCl ws t.heap; rw [ht]; exact hP, hD, hT⟩, hS.F ht⟩) hS.2.2 dX6_knows_18
set_option maxHeartbeats 4000000 in
set_option maxRecDepth 100000 in
theorem c_X6_meet_x (l : Launch) (D : va_G) (cy : Nat → ClassId) (A : Nat → Prop) (G : cG) (ws : va_W) (o : Nat) (p0 : Int64) {a_o b_o z_o : Nat} {fm : Nat → Int64} {fs : Nat → Int32} (hD : va_D A ws) (hT : cT cy G ws) (hG_o : G o = some (6, 0, 0)) (hM_o : cIn ws o (.inr (5, [.ref a_o, .int (nI z_o), .ref b_o]))) (hM_a_o : cIn ws a_o (.inl (cy 1, 20000, .inr (.inl fm)))) (hM_b_o : cIn ws b_o (.inl (cy 0, 32768, .inl fs))) (ht9 : tbC fs fm z_o) : Ci l D cy A yX6_meet wsX6_meet ({ frames := 2, cells := 0, slots := 0, locals := 48 }) 0 0 ws [.ref o, .long p0] (fun r0 u => ∃ w1, u = (G, w1) ∧ cF (fun b9 => b9 = o ∨ b9 = a_o ∨ b9 = b_o) ws w1 ∧ (((∃ i, i < z_o ∧ fm i = p0) ∧ r0 = 1 ∧ w1 = ws) ∨ (¬ (∃ i, i < z_o ∧ fm i = p0) ∧ z_o = 20000 ∧ r0 = 0 ∧ w1 = ws) ∨ (¬ (∃ i, i < z_o ∧ fm i = p0) ∧ z_o < 20000 ∧ r0 = 1 ∧ ∃ (fm1 : Nat → Int64) (fs1 : Nat → Int32), cIn w1 o (.inr (5, [.ref a_o, .int (nI (z_o + 1)), .ref b_o])) ∧ cIn w1 a_o (.inl (cy 1, 20000, .inr (.inl fm1))) ∧ cIn w1 b_o (.inl (cy 0, 32768, .inl fs1)) ∧ tbC fs1 fm1 (z_o + 1) ∧ (∀ i, i < z_o → fm1 i = fm i) ∧ fm1 z_o = p0))) := by
  refine Met.ofW (cc := cX6_meet) (maxL := 4) (ret := (some .boolean)) (by decide) rfl ?_
  intro p e s m args below meth c s₁ B hml hv
  obtain ⟨rfl, hP, hK, hA, hV⟩ := hv
  have hx := B.exec
  have hb := B.bytes
  have hr := B.returns
  have hts := atoms_spec (ws := wsX6_meet) B.pre
  have hown : s.vm.findClass RX6 = some m.cls := findClass_of_methodNamed B.named
  have hlocks := B.notSynchronized
  have hS : va_S A s.heap s.heap [] := va_S.rf
  have hF : cF (fun b9 => b9 = o ∨ b9 = a_o ∨ b9 = b_o) ws ws := cF.rf
  have hl := lv_entry ([.ref o, .long p0]) (n := 4) (Nat.le_of_ble_eq_true rfl)
  rw [lg_entry_eq]
  generalize (lg_sl ([.ref o, .long p0]) ++ List.replicate (4 - (lg_sl ([.ref o, .long p0])).length) Slot.unset).toArray = ls at hl ⊢
  have hl : lv_has ls 4 [(0, .ref o), (1, .long p0)] := hl
  have k_0 : (0 : Int32).toInt = 0 := by decide
  have k_1 : (1 : Int32).toInt = 1 := by decide
  have k_20000 : (20000 : Int32).toInt = 20000 := by decide
  obtain ⟨hz_o, hG_a_o, hG_b_o⟩ := w6sh hD hT hG_o hM_o
  have z20 := ht9.2.2
  have iz9 : (nI z_o).toInt = (z_o : Int) := nI_toInt (by omega)
  have cz9 : (nI z_o).toNatClampNeg = z_o := nI_clamp (by omega)
  refine lv_aload_n hx hb dX6_meet_0 rfl (lv_at hl 0 rfl) ?_
  refine lv_lload_n hx hb dX6_meet_1 rfl (lv_at hl 1 rfl) ?_
  refine t_calli (va_runV (g := F0 m 2 ls ([.long p0, .ref o])) (As := [.long p0]) (rest := []) ⟨hx, hb, hml, hown, hts⟩ (c_X6_slotFor_x l D cy A G ws o p0 hD hT hG_o hM_o hM_a_o hM_b_o ht9) (cwV 1 hts gX6_meet_X6_slotFor rfl rfl rfl (by decide +kernel) ⟨Nat.le_of_ble_eq_true rfl, Nat.le_of_ble_eq_true rfl⟩) (c_preV hM_o rfl hP hK hA hS hV) rfl rfl hl.1 rfl (lv_room (Nat.le_of_ble_eq_true rfl)) dX6_meet_2 ⟨Nat.le_of_ble_eq_true rfl, Nat.le_of_ble_eq_true rfl⟩) hS (fun r2 u H locs q2 hP9 hD9 hT9 hS => ?_)
  obtain ⟨rfl, q2⟩ := q2
  have hP : va_P D vwCl ws H := hP9
  refine lv_istore_n (lv' := [(3, .int r2), (0, .ref o), (1, .long p0)]) hx hb dX6_meet_5 rfl hl (by decide) rfl (fun ls hl => ?_)
  refine lv_aload_n hx hb dX6_meet_6 rfl (lv_at hl 1 rfl) ?_
  refine t_get (v := .ref b_o) (C := RX6) (T := TX6) (N := 3) hx hb hts (by decide +kernel) hown hK hP hM_o rfl 2 (by decide) (hts (.fieldLink RX6 20 "ShadowBench$Meetings" "slots" "[I") (by decide +kernel)) (fun _ h9 => h9) rfl dX6_meet_7 ?_
  refine lv_iload_n hx hb dX6_meet_10 rfl (lv_at hl 0 rfl) ?_
  refine t_ialdM hx hb hK hP hM_b_o (vp_in_iff.mpr ⟨by omega, by omega⟩) dX6_meet_11 ?_
  refine lv_topi (fun v11 e11 => ?_)
  refine lv_if_eq (tgt := 17) hx hb dX6_meet_12 (by decide) (fun c12 => ?_) (fun c12 => ?_)
  · skip
    have d12 := c12
    rw [fa_eq] at d12
    refine lv_aload_n hx hb dX6_meet_17 rfl (lv_at hl 1 rfl) ?_
    refine t_get (v := .int (nI z_o)) (C := RX6) (T := TX6) (N := 3) hx hb hts (by decide +kernel) hown hK hP hM_o rfl 1 (by decide) (hts (.fieldLink RX6 15 "ShadowBench$Meetings" "size" "I") (by decide +kernel)) (fun _ h9 => h9) rfl dX6_meet_18 ?_
    refine lv_sipush (v := 20000) hx hb dX6_meet_21 (by decide) ?_
    refine lv_icmp_lt (tgt := 29) hx hb dX6_meet_24 (by decide) (fun c24 => ?_) (fun c24 => ?_)
    · skip
      have d24 := c24
      rw [fa_lt] at d24
      refine lv_aload_n hx hb dX6_meet_29 rfl (lv_at hl 1 rfl) ?_
      refine t_get (v := .ref a_o) (C := RX6) (T := TX6) (N := 3) hx hb hts (by decide +kernel) hown hK hP hM_o rfl 0 (by decide) (hts (.fieldLink RX6 11 "ShadowBench$Meetings" "met" "[J") (by decide +kernel)) (fun _ h9 => h9) rfl dX6_meet_30 ?_
      refine lv_aload_n hx hb dX6_meet_33 rfl (lv_at hl 1 rfl) ?_
      refine t_get (v := .int (nI z_o)) (C := RX6) (T := TX6) (N := 3) hx hb hts (by decide +kernel) hown hK hP hM_o rfl 1 (by decide) (hts (.fieldLink RX6 15 "ShadowBench$Meetings" "size" "I") (by decide +kernel)) (fun _ h9 => h9) rfl dX6_meet_34 ?_
      refine lv_lload_n hx hb dX6_meet_37 rfl (lv_at hl 2 rfl) ?_
      refine t_lastK hx hb hK hP hD hS hT (Or.inl rfl) hG_a_o hM_a_o (vp_in_iff.mpr ⟨by omega, by omega⟩) dX6_meet_38 (fun H locs w38 hU38 hP hD hT hS => ?_)
      have hM_o := hU38.2 _ _ (cne hG_o hG_a_o (show (6 : Nat) ≠ 1 by decide)) hM_o
      have hM_b_o := hU38.2 _ _ (cne hG_b_o hG_a_o (show (0 : Nat) ≠ 1 by decide)) hM_b_o
      have hM_a_o := hU38.1
      have hF := hF.tr (cF.up hU38 (Or.inr (Or.inl rfl)))
      refine lv_aload_n hx hb dX6_meet_39 rfl (lv_at hl 1 rfl) ?_
      refine lv_dup hx hb dX6_meet_40 rfl ?_
      refine t_get (v := .int (nI z_o)) (C := RX6) (T := TX6) (N := 3) hx hb hts (by decide +kernel) hown hK hP hM_o rfl 1 (by decide) (hts (.fieldLink RX6 15 "ShadowBench$Meetings" "size" "I") (by decide +kernel)) (fun _ h9 => h9) rfl dX6_meet_41 ?_
      refine lv_iconst (v := 1) hx hb dX6_meet_44 (by decide) ?_
      refine lv_iadd hx hb dX6_meet_45 ?_
      refine lv_topi (fun v45 e45 => ?_)
      obtain rfl : v45 = nI (z_o + 1) := e45.trans (nI_1 _)
      have iz1 : (nI (z_o + 1)).toInt = ((z_o + 1 : Nat) : Int) := nI_toInt (by omega)
      refine t_put (v := .int (nI (z_o + 1))) (C := RX6) (T := TX6) (N := 3) (ty0 := tyX6) hx hb hts (by decide +kernel) tyX6_ok nmX6 hown hK hP hD hS hM_o rfl 1 (by decide) (hts (.fieldLink RX6 15 "ShadowBench$Meetings" "size" "I") (by decide +kernel)) (fun _ h9 => h9) rfl rfl rfl (Nat.le_of_ble_eq_true rfl) dX6_meet_46 (fun H locs w46 hU46 hP hD hS => ?_)
      have hM_a_o := hU46.2 _ _ (cne hG_a_o hG_o (show (1 : Nat) ≠ 6 by decide)) hM_a_o
      have hM_b_o := hU46.2 _ _ (cne hG_b_o hG_o (show (0 : Nat) ≠ 6 by decide)) hM_b_o
      have hT := hT.up hU46 hG_o ⟨_, _, _, rfl, ⟨by omega, by omega⟩, hG_a_o, hG_b_o⟩
      have hM_o : cIn w46 o (.inr (5, [.ref a_o, .int (nI (z_o + 1)), .ref b_o])) := hU46.1
      have hF := hF.tr (cF.up hU46 (Or.inl rfl))
      refine lv_aload_n hx hb dX6_meet_49 rfl (lv_at hl 1 rfl) ?_
      refine t_get (v := .ref b_o) (C := RX6) (T := TX6) (N := 3) hx hb hts (by decide +kernel) hown hK hP hM_o rfl 2 (by decide) (hts (.fieldLink RX6 20 "ShadowBench$Meetings" "slots" "[I") (by decide +kernel)) (fun _ h9 => h9) rfl dX6_meet_50 ?_
      refine lv_iload_n hx hb dX6_meet_53 rfl (lv_at hl 0 rfl) ?_
      refine lv_aload_n hx hb dX6_meet_54 rfl (lv_at hl 1 rfl) ?_
      refine t_get (v := .int (nI (z_o + 1))) (C := RX6) (T := TX6) (N := 3) hx hb hts (by decide +kernel) hown hK hP hM_o rfl 1 (by decide) (hts (.fieldLink RX6 15 "ShadowBench$Meetings" "size" "I") (by decide +kernel)) (fun _ h9 => h9) rfl dX6_meet_55 ?_
      refine t_iastK hx hb hK hP hD hS hT (Or.inl rfl) hG_b_o hM_b_o (vp_in_iff.mpr ⟨by omega, by omega⟩) dX6_meet_58 (fun H locs w58 hU58 hP hD hT hS => ?_)
      have hM_o := hU58.2 _ _ (cne hG_o hG_b_o (show (6 : Nat) ≠ 0 by decide)) hM_o
      have hM_a_o := hU58.2 _ _ (cne hG_a_o hG_b_o (show (1 : Nat) ≠ 0 by decide)) hM_a_o
      have hM_b_o := hU58.1
      have hF := hF.tr (cF.up hU58 (Or.inr (Or.inr (rfl))))
      refine lv_iconst (v := 1) hx hb dX6_meet_59 (by decide) ?_
      exact W.zret (v := (1 : Int32)) hx hb hr (by decide) (fun t ht hW => ⟨⟨_, (G, w58), rfl, ⟨w58, rfl, hF, (Or.inr (Or.inr ⟨(by rcases q2.1 with ⟨i9, y1, y2, y3⟩ | ⟨y1, y2, y4⟩; (rw [ocC_n (e11.symm.trans c12)] at y3; cases y3); exact fun ⟨i9, h1, h2⟩ => y2 i9 h1 h2), by omega, rfl, _, _, hM_o, (by rw [cz9] at hM_a_o; exact hM_a_o), hM_b_o, (by rcases q2.1 with ⟨i9, y1, y2, y3⟩ | ⟨y1, y2, y4⟩; (rw [ocC_n (e11.symm.trans c12)] at y3; cases y3); exact tbC_add ht9 (by omega) (by have := m_cl (x := r2) (by omega); omega) y1 y2 y4), (fun i9 h9 => by unfold vp_updL; rw [if_neg (by omega)]), (by unfold vp_updL; rw [if_pos rfl])⟩))⟩, by show va_P D vwCl w58 t.heap; rw [ht]; exact hP, hD, hT⟩, hS.F ht⟩) hS.2.2 dX6_meet_60
    · skip
      have d24 := c24
      rw [fa_lt] at d24
      refine lv_iconst (v := 0) hx hb dX6_meet_27 (by decide) ?_
      exact W.zret (v := (0 : Int32)) hx hb hr (by decide) (fun t ht hW => ⟨⟨_, (G, ws), rfl, ⟨ws, rfl, hF, (Or.inr (Or.inl ⟨(by rcases q2.1 with ⟨i9, y1, y2, y3⟩ | ⟨y1, y2, y4⟩; (rw [ocC_n (e11.symm.trans c12)] at y3; cases y3); exact fun ⟨i9, h1, h2⟩ => y2 i9 h1 h2), by omega, rfl, rfl⟩))⟩, by show va_P D vwCl ws t.heap; rw [ht]; exact hP, hD, hT⟩, hS.F ht⟩) hS.2.2 dX6_meet_28
  · skip
    have d12 := c12
    rw [fa_eq] at d12
    refine lv_iconst (v := 1) hx hb dX6_meet_15 (by decide) ?_
    exact W.zret (v := (1 : Int32)) hx hb hr (by decide) (fun t ht hW => ⟨⟨_, (G, ws), rfl, ⟨ws, rfl, hF, (Or.inl ⟨(by rcases q2.1 with ⟨i9, y1, y2, y3⟩ | ⟨y1, y2, -⟩; exact ⟨i9, y1, y2⟩; exact absurd (Classical.byContradiction fun z9 => by rw [ocC_s z9] at y1; cases y1) (fun z9 => c12 (e11.trans z9))), rfl, rfl⟩)⟩, by show va_P D vwCl ws t.heap; rw [ht]; exact hP, hD, hT⟩, hS.F ht⟩) hS.2.2 dX6_meet_16

section NB9
variable {w h d k : Nat} {p : Int64} {S : mtS}
theorem nb_f (hs : swq w h p k = false) : nbA w h p d S (k + 1) = nbA w h p d S k := by simp only [nbA]; rw [if_neg (by rw [hs]; decide)]
theorem nb_t (hs : swq w h p k = true) : nbA w h p d S (k + 1) = mtA d (nbA w h p d S k) (swx w h p k) := by simp only [nbA]; rw [if_pos hs]
theorem nb_o (hs : swq w h p k = true) (ho : (nbA w h p d S k).2.2.2 = false) (hk : ∃ i, i < (nbA w h p d S k).2.2.1 ∧ (nbA w h p d S k).1 i = swx w h p k) : nbA w h p d S (k + 1) = nbA w h p d S k := by rw [nb_t hs, mtA_k (by rw [ho]; decide) hk]
theorem nb_z {k0 : Nat} (ho : (nbA w h p d S k0).2.2.2 = true) : ∀ k, nbA w h p d S (k0 + k) = nbA w h p d S k0 := by
  intro k
  induction k with
  | zero => rfl
  | succ k ih =>
    by_cases c : swq w h p (k0 + k) = true
    · rw [← Nat.add_assoc, nb_t c, ih, mtA_o ho]
    · have c' : swq w h p (k0 + k) = false := by
        cases hq : swq w h p (k0 + k)
        · rfl
        · exact absurd hq c
      rw [← Nat.add_assoc, nb_f c', ih]
/-- what the class holds is what is met -/
def rlM (S : mtS) (fm : Nat → Int64) (n : Nat) : Prop := S.2.2.1 = n ∧ ∀ i, i < n → S.1 i = fm i
theorem rlM.isIn {S : mtS} {fm : Nat → Int64} {n : Nat} (h : rlM S fm n) (q : Int64) : isIn9 S q ↔ ∃ i, i < n ∧ fm i = q := by
  unfold isIn9
  rw [h.1]
  constructor
  · rintro ⟨i, a, b⟩; exact ⟨i, a, (h.2 i a).symm.trans b⟩
  · rintro ⟨i, a, b⟩; exact ⟨i, a, (h.2 i a).trans b⟩
theorem rl_n {fm fm1 : Nat → Int64} {n : Nat} (hr : rlM (nbA w h p d S k) fm n) (ho : (nbA w h p d S k).2.2.2 = false) (hs : swq w h p k = true) (hk : ¬ ∃ i, i < n ∧ fm i = swx w h p k) (hn : n < 20000) (h1 : ∀ i, i < n → fm1 i = fm i) (h2 : fm1 n = swx w h p k) : rlM (nbA w h p d S (k + 1)) fm1 (n + 1) ∧ (nbA w h p d S (k + 1)).2.2.2 = false := by
  have hk' : ¬ ∃ i, i < (nbA w h p d S k).2.2.1 ∧ (nbA w h p d S k).1 i = swx w h p k := fun z => hk ((hr.isIn _).mp z)
  have hn' : ¬ (nbA w h p d S k).2.2.1 = 20000 := by rw [hr.1]; omega
  rw [nb_t hs, mtA_n (by rw [ho]; decide) hk' hn']
  refine ⟨⟨by show (nbA w h p d S k).2.2.1 + 1 = n + 1; rw [hr.1], fun i hi => ?_⟩, rfl⟩
  show (if i = (nbA w h p d S k).2.2.1 then swx w h p k else (nbA w h p d S k).1 i) = fm1 i
  rw [hr.1]
  by_cases z : i = n
  · rw [if_pos z, z, h2]
  · rw [if_neg z, h1 i (by omega)]
    exact hr.2 i (by omega)
theorem rl_f {fm : Nat → Int64} {n c : Nat} (hr : rlM (nbA w h p d S k) fm n) (ho : (nbA w h p d S k).2.2.2 = false) (hs : swq w h p k = true) (hk : ¬ ∃ i, i < n ∧ fm i = swx w h p k) (hn : n = 20000) (hc : k < c) : rlM (nbA w h p d S c) fm n ∧ (nbA w h p d S c).2.2.2 = true := by
  have hk' : ¬ ∃ i, i < (nbA w h p d S k).2.2.1 ∧ (nbA w h p d S k).1 i = swx w h p k := fun z => hk ((hr.isIn _).mp z)
  have hn' : (nbA w h p d S k).2.2.1 = 20000 := by rw [hr.1]; exact hn
  have e : nbA w h p d S (k + 1) = ((nbA w h p d S k).1, (nbA w h p d S k).2.1, (nbA w h p d S k).2.2.1, true) := by rw [nb_t hs, mtA_f (by rw [ho]; decide) hk' hn']
  have z := nb_z (w := w) (h := h) (p := p) (d := d) (S := S) (k0 := k + 1) (by rw [e]) (c - (k + 1))
  rw [show k + 1 + (c - (k + 1)) = c by omega] at z
  rw [z, e]
  exact ⟨hr, rfl⟩
end NB9
set_option maxHeartbeats 4000000 in
set_option maxRecDepth 100000 in
theorem c_X6_meetNeighbours_x (l : Launch) (D : va_G) (cy : Nat → ClassId) (A : Nat → Prop) (G : cG) (ws : va_W) (o : Nat) (x1 : Nat) (p0 : Int64) {a_o b_o z_o : Nat} {fm : Nat → Int64} {fs : Nat → Int32} {w h d : Nat} {S : mtS} (hD : va_D A ws) (hT : cT cy G ws) (hG_o : G o = some (6, 0, 0)) (hM_o : cIn ws o (.inr (5, [.ref a_o, .int (nI z_o), .ref b_o]))) (hG_x1 : G x1 = some (2, w, h)) (hM_a_o : cIn ws a_o (.inl (cy 1, 20000, .inr (.inl fm)))) (hM_b_o : cIn ws b_o (.inl (cy 0, 32768, .inl fs))) (ht9 : tbC fs fm z_o) (hS1 : rlM S fm z_o) (hS2 : S.2.2.2 = false) : Ci l D cy A yX6_meetNeighbours wsX6_meetNeighbours ({ frames := 3, cells := 0, slots := 0, locals := 71 }) 0 0 ws [.ref o, .ref x1, .long p0] (fun r0 u => ∃ w1, u = (G, w1) ∧ cF (fun b9 => b9 = o ∨ b9 = a_o ∨ b9 = b_o) ws w1 ∧ (∃ (z1 : Nat) (fm1 : Nat → Int64) (fs1 : Nat → Int32), (cIn w1 o (.inr (5, [.ref a_o, .int (nI z1), .ref b_o])) ∧ cIn w1 a_o (.inl (cy 1, 20000, .inr (.inl fm1))) ∧ cIn w1 b_o (.inl (cy 0, 32768, .inl fs1))) ∧ tbC fs1 fm1 z1 ∧ rlM (nbA w h p0 d S (cfo w h)) fm1 z1 ∧ ((r0 = 1 ∧ (nbA w h p0 d S (cfo w h)).2.2.2 = false) ∨ (r0 = 0 ∧ (nbA w h p0 d S (cfo w h)).2.2.2 = true)))) := by
  refine Met.ofW (cc := cX6_meetNeighbours) (maxL := 7) (ret := (some .boolean)) (by decide) rfl ?_
  intro p e s m args below meth c s₁ B hml hv
  obtain ⟨rfl, hP, hK, hA, hV⟩ := hv
  have hx := B.exec
  have hb := B.bytes
  have hr := B.returns
  have hts := atoms_spec (ws := wsX6_meetNeighbours) B.pre
  have hown : s.vm.findClass RX6 = some m.cls := findClass_of_methodNamed B.named
  have hlocks := B.notSynchronized
  have hS : va_S A s.heap s.heap [] := va_S.rf
  have hF : cF (fun b9 => b9 = o ∨ b9 = a_o ∨ b9 = b_o) ws ws := cF.rf
  have hl := lv_entry ([.ref o, .ref x1, .long p0]) (n := 7) (Nat.le_of_ble_eq_true rfl)
  rw [lg_entry_eq]
  generalize (lg_sl ([.ref o, .ref x1, .long p0]) ++ List.replicate (7 - (lg_sl ([.ref o, .ref x1, .long p0])).length) Slot.unset).toArray = ls at hl ⊢
  have hl : lv_has ls 7 [(0, .ref o), (1, .ref x1), (2, .long p0)] := hl
  have k_0 : (0 : Int32).toInt = 0 := by decide
  have k_1 : (1 : Int32).toInt = 1 := by decide
  obtain ⟨hz_o, hG_a_o, hG_b_o⟩ := w6sh hD hT hG_o hM_o
  have hb9 := c_hb hT hG_x1
  have cf9 := cb_fo hb9
  have icf9 : (nI (cfo w h)).toInt = (cfo w h : Int) := nI_toInt (by omega)
  refine lv_iconst (v := 0) hx hb dX6_meetNeighbours_0 (by decide) ?_
  refine lv_istore (lv' := [(4, .int (0 : Int32)), (0, .ref o), (1, .ref x1), (2, .long p0)]) hx hb dX6_meetNeighbours_1 hl (by decide) rfl (fun ls hl => ?_)
  have loop_3 : ∀ (n : Nat) (i : Nat) (zl : Nat) (fml : Nat → Int64) (fsl : Nat → Int32), (i ≤ cfo w h) → (tbC fsl fml zl) → (rlM (nbA w h p0 d S i) fml zl) → ((nbA w h p0 d S i).2.2.2 = false) → 225 - i < n → ∀ (wl3 : va_W), cF (fun b9 => b9 = o ∨ b9 = a_o ∨ b9 = b_o) ws wl3 → va_D A wl3 → cT cy G wl3 → cIn wl3 o (.inr (5, [.ref a_o, .int (nI zl), .ref b_o])) → cIn wl3 a_o (.inl (cy 1, 20000, .inr (.inl fml))) → cIn wl3 b_o (.inl (cy 0, 32768, .inl fsl)) → ∀ (H : Heap) (locs : List Loc), va_P D vwCl wl3 H → va_S A s.heap H locs → ∀ (ls : Array Slot), lv_has ls 7 [(4, .int (nI i)), (0, .ref o), (1, .ref x1), (2, .long p0)] → W p l e (headSpec wsX6_meetNeighbours ({ frames := 3, cells := 0, slots := 0, locals := 71 })).room s m #[Value.ref o, Value.ref x1, Value.long p0] below meth c H locs 0 0 (MQ below (va_Qi (fun r0 u => ∃ w1, u = (G, w1) ∧ cF (fun b9 => b9 = o ∨ b9 = a_o ∨ b9 = b_o) ws w1 ∧ (∃ (z1 : Nat) (fm1 : Nat → Int64) (fs1 : Nat → Int32), (cIn w1 o (.inr (5, [.ref a_o, .int (nI z1), .ref b_o])) ∧ cIn w1 a_o (.inl (cy 1, 20000, .inr (.inl fm1))) ∧ cIn w1 b_o (.inl (cy 0, 32768, .inl fs1))) ∧ tbC fs1 fm1 z1 ∧ rlM (nbA w h p0 d S (cfo w h)) fm1 z1 ∧ ((r0 = 1 ∧ (nbA w h p0 d S (cfo w h)).2.2.2 = false) ∨ (r0 = 0 ∧ (nbA w h p0 d S (cfo w h)).2.2.2 = true)))) (cB D cy A) A) #[Value.ref o, Value.ref x1, Value.long p0] s 0 0 A) (F0 m 3 ls []) := by
    intro n
    induction n with
    | zero => intro i zl fml fsl j3_0 j3_1 j3_2 j3_3 hn; exact absurd hn (Nat.not_lt_zero _)
    | succ n ih_3 =>
      intro i zl fml fsl j3_0 j3_1 j3_2 j3_3 hn_3 wl3 hF hD hT hM_o hM_a_o hM_b_o H locs hP hS ls hl
      have ii : (nI i).toInt = (i : Int) := nI_toInt (by omega)
      refine lv_iload hx hb dX6_meetNeighbours_3 (lv_at hl 0 rfl) ?_
      refine lv_aload_n hx hb dX6_meetNeighbours_5 rfl (lv_at hl 2 rfl) ?_
      obtain ⟨_, hM_x1, hb_x1, l_x1, f_x1, r_x1, rfl, hG_l_x1, hG_f_x1, hG_r_x1⟩ := hT _ _ hG_x1
      refine t_get (v := .int (nI (cfo w h))) (C := RX0) (T := TX0) (N := 8) hx hb hts (by decide +kernel) hown hK hP hM_x1 rfl 4 (by decide) (hts (.fieldLink RX6 41 "ShadowBench$Board" "fours" "I") (by decide +kernel)) (fun _ h9 => h9) rfl dX6_meetNeighbours_6 ?_
      have m_fo_x1 := cb_fo hb_x1
      have i_fo_x1 : (nI (cfo w h)).toInt = _ := nI_toInt (by omega)
      refine lv_icmp_ge (tgt := 45) hx hb dX6_meetNeighbours_9 (by decide) (fun c9 => ?_) (fun c9 => ?_)
      · skip
        have d9 := c9
        rw [fa_le] at d9
        refine lv_iconst (v := 1) hx hb dX6_meetNeighbours_45 (by decide) ?_
        exact W.zret (v := (1 : Int32)) hx hb hr (by decide) (fun t ht hW => ⟨⟨_, (G, wl3), rfl, ⟨wl3, rfl, hF, ⟨_, _, _, ⟨hM_o, hM_a_o, hM_b_o⟩, j3_1, (by rw [← show i = cfo w h by omega]; exact j3_2), Or.inl ⟨rfl, (by rw [← show i = cfo w h by omega]; exact j3_3)⟩⟩⟩, by show va_P D vwCl wl3 t.heap; rw [ht]; exact hP, hD, hT⟩, hS.F ht⟩) hS.2.2 dX6_meetNeighbours_46
      · skip
        have d9 := c9
        rw [fa_le] at d9
        refine lv_aload_n hx hb dX6_meetNeighbours_12 rfl (lv_at hl 2 rfl) ?_
        refine lv_iload hx hb dX6_meetNeighbours_13 (lv_at hl 0 rfl) ?_
        refine lv_lload_n hx hb dX6_meetNeighbours_15 rfl (lv_at hl 3 rfl) ?_
        refine t_calll (va_runV (g := F0 m 16 ls ([.long p0, .int (nI i), .ref x1])) (As := [.int (nI i), .long p0]) (rest := []) ⟨hx, hb, hml, hown, hts⟩ (c_X0_behindFour_x l D cy A G wl3 x1 i p0 hD hT hG_x1 (by omega)) (cwV 2 hts gX6_meetNeighbours_X0_behindFour rfl rfl rfl (by decide +kernel) ⟨Nat.le_of_ble_eq_true rfl, Nat.le_of_ble_eq_true rfl⟩) (c_preV hM_x1 rfl hP hK hA hS hV) rfl rfl hl.1 rfl (lv_room (Nat.le_of_ble_eq_true rfl)) dX6_meetNeighbours_16 ⟨Nat.le_of_ble_eq_true rfl, Nat.le_of_ble_eq_true rfl⟩) hS (fun r16 u H locs q16 hP9 hD9 hT9 hS => ?_)
        obtain ⟨rfl, q16⟩ := q16
        have hP : va_P D vwCl wl3 H := hP9
        refine lv_lstore (lv' := [(5, .long r16), (4, .int (nI i)), (0, .ref o), (1, .ref x1), (2, .long p0)]) hx hb dX6_meetNeighbours_19 hl (by decide) rfl (fun ls hl => ?_)
        refine lv_lload hx hb dX6_meetNeighbours_21 (lv_at hl 0 rfl) ?_
        refine lv_lload_n hx hb dX6_meetNeighbours_23 rfl (lv_at hl 4 rfl) ?_
        refine W.lcmp hx hb dX6_meetNeighbours_24 ?_
        refine lv_if_eq (tgt := 39) hx hb dX6_meetNeighbours_25 (by decide) (fun c25 => ?_) (fun c25 => ?_)
        · skip
          have d25 := c25
          rw [lg_cmp_eq, fa_eq64] at d25
          refine lv_iinc (v := (nI (i + 1))) (lv' := [(4, .int (nI (i + 1))), (5, .long r16), (0, .ref o), (1, .ref x1), (2, .long p0)]) hx hb dX6_meetNeighbours_39 hl (k := 1) rfl (nI_1 _) (by decide) rfl (fun ls hl => ?_)
          refine lv_goto (tgt := 3) hx hb dX6_meetNeighbours_42 (by decide) ?_
          exact ih_3 (i + 1) zl fml fsl (by omega) (by first | exact ht31 | exact j3_1) (by first | (rw [nb_f ((beh_eq hb9 (by omega) q16).mp ((lg_cmp_eq _ _).mp c25))]; exact j3_2) | exact (rl_n j3_2 j3_3 sw9 (by rw [← rx9]; exact hno31) hz31 hf31 (by rw [← rx9]; exact hn31)).1 | (rw [nb_o sw9 j3_3 (by rw [← rx9]; exact (j3_2.isIn _).mpr hin31)]; exact j3_2)) (by first | (rw [nb_f ((beh_eq hb9 (by omega) q16).mp ((lg_cmp_eq _ _).mp c25))]; exact j3_3) | exact (rl_n j3_2 j3_3 sw9 (by rw [← rx9]; exact hno31) hz31 hf31 (by rw [← rx9]; exact hn31)).2 | (rw [nb_o sw9 j3_3 (by rw [← rx9]; exact (j3_2.isIn _).mpr hin31)]; exact j3_3)) (by omega) wl3 hF hD hT hM_o hM_a_o hM_b_o _ _ hP hS ls (lv_sub hl [0, 2, 3, 4] rfl)
        · skip
          have d25 := c25
          rw [lg_cmp_eq, fa_eq64] at d25
          have sw9 : swq w h p0 i = true := by cases hq : swq w h p0 i; exact absurd ((beh_eq hb9 (by omega) q16).mpr hq) (fun z9 => c25 ((lg_cmp_eq _ _).mpr z9)); rfl
          have rx9 : r16 = swx w h p0 i := by rw [q16, if_pos sw9]
          refine lv_aload_n hx hb dX6_meetNeighbours_28 rfl (lv_at hl 2 rfl) ?_
          refine lv_lload hx hb dX6_meetNeighbours_29 (lv_at hl 0 rfl) ?_
          refine t_calli (va_runV (g := F0 m 31 ls ([.long r16, .ref o])) (As := [.long r16]) (rest := []) ⟨hx, hb, hml, hown, hts⟩ (c_X6_meet_x l D cy A G wl3 o r16 hD hT hG_o hM_o hM_a_o hM_b_o j3_1) (cwV 1 hts gX6_meetNeighbours_X6_meet rfl rfl rfl (by decide +kernel) ⟨Nat.le_of_ble_eq_true rfl, Nat.le_of_ble_eq_true rfl⟩) (c_preV hM_o rfl hP hK hA hS hV) rfl rfl hl.1 rfl (lv_room (Nat.le_of_ble_eq_true rfl)) dX6_meetNeighbours_31 ⟨Nat.le_of_ble_eq_true rfl, Nat.le_of_ble_eq_true rfl⟩) hS (fun r31 u H locs q31 hP9 hD9 hT9 hS => ?_)
          obtain ⟨w31, rfl, hF31, q31⟩ := q31
          have hP : va_P D vwCl w31 H := hP9
          have hD : va_D A w31 := hD9
          have hT : cT cy G w31 := hT9
          have hM_x1 := hF31 _ _ (fun z9 => z9.elim (cne hG_x1 hG_o (show (2 : Nat) ≠ 6 by decide)) (fun z9 => z9.elim (cne hG_x1 hG_a_o (show (2 : Nat) ≠ 1 by decide)) (cne hG_x1 hG_b_o (show (2 : Nat) ≠ 0 by decide)))) hM_x1
          have hF := hF.tr hF31
          rcases q31 with ⟨hin31, hr31, hw31⟩ | ⟨hno31, hz31, hr31, hw31⟩ | ⟨hno31, hz31, hr31, fm31, fs31, hMo31, hMa31, hMb31, ht31, hf31, hn31⟩
          · skip
            have hM_o : cIn w31 o (.inr (5, [.ref a_o, .int (nI zl), .ref b_o])) := by rw [hw31]; exact hM_o
            have hM_a_o : cIn w31 a_o (.inl (cy 1, 20000, .inr (.inl fml))) := by rw [hw31]; exact hM_a_o
            have hM_b_o : cIn w31 b_o (.inl (cy 0, 32768, .inl fsl)) := by rw [hw31]; exact hM_b_o
            subst hr31
            refine lv_if_ne (tgt := 39) hx hb dX6_meetNeighbours_34 (by decide) (fun c34 => ?_) (fun c34 => ?_)
            · skip
              have d34 := c34
              rw [fa_eq] at d34
              refine lv_iinc (v := (nI (i + 1))) (lv' := [(4, .int (nI (i + 1))), (5, .long r16), (0, .ref o), (1, .ref x1), (2, .long p0)]) hx hb dX6_meetNeighbours_39 hl (k := 1) rfl (nI_1 _) (by decide) rfl (fun ls hl => ?_)
              refine lv_goto (tgt := 3) hx hb dX6_meetNeighbours_42 (by decide) ?_
              exact ih_3 (i + 1) zl fml fsl (by omega) (by first | exact ht31 | exact j3_1) (by first | (rw [nb_f ((beh_eq hb9 (by omega) q16).mp ((lg_cmp_eq _ _).mp c25))]; exact j3_2) | exact (rl_n j3_2 j3_3 sw9 (by rw [← rx9]; exact hno31) hz31 hf31 (by rw [← rx9]; exact hn31)).1 | (rw [nb_o sw9 j3_3 (by rw [← rx9]; exact (j3_2.isIn _).mpr hin31)]; exact j3_2)) (by first | (rw [nb_f ((beh_eq hb9 (by omega) q16).mp ((lg_cmp_eq _ _).mp c25))]; exact j3_3) | exact (rl_n j3_2 j3_3 sw9 (by rw [← rx9]; exact hno31) hz31 hf31 (by rw [← rx9]; exact hn31)).2 | (rw [nb_o sw9 j3_3 (by rw [← rx9]; exact (j3_2.isIn _).mpr hin31)]; exact j3_3)) (by omega) w31 hF hD hT hM_o hM_a_o hM_b_o _ _ hP hS ls (lv_sub hl [0, 2, 3, 4] rfl)
            · first | exact absurd c34 (by decide) | exact absurd (by decide) c34
          · skip
            have hM_o : cIn w31 o (.inr (5, [.ref a_o, .int (nI zl), .ref b_o])) := by rw [hw31]; exact hM_o
            have hM_a_o : cIn w31 a_o (.inl (cy 1, 20000, .inr (.inl fml))) := by rw [hw31]; exact hM_a_o
            have hM_b_o : cIn w31 b_o (.inl (cy 0, 32768, .inl fsl)) := by rw [hw31]; exact hM_b_o
            subst hr31
            refine lv_if_ne (tgt := 39) hx hb dX6_meetNeighbours_34 (by decide) (fun c34 => ?_) (fun c34 => ?_)
            · first | exact absurd c34 (by decide) | exact absurd (by decide) c34
            · skip
              have d34 := c34
              rw [fa_eq] at d34
              refine lv_iconst (v := 0) hx hb dX6_meetNeighbours_37 (by decide) ?_
              exact W.zret (v := (0 : Int32)) hx hb hr (by decide) (fun t ht hW => ⟨⟨_, (G, w31), rfl, ⟨w31, rfl, hF, ⟨_, _, _, ⟨hM_o, hM_a_o, hM_b_o⟩, j3_1, (rl_f j3_2 j3_3 sw9 (by rw [← rx9]; exact hno31) hz31 (by omega)).1, Or.inr ⟨rfl, (rl_f j3_2 j3_3 sw9 (by rw [← rx9]; exact hno31) hz31 (by omega)).2⟩⟩⟩, by show va_P D vwCl w31 t.heap; rw [ht]; exact hP, hD, hT⟩, hS.F ht⟩) hS.2.2 dX6_meetNeighbours_38
          · skip
            have hM_o : cIn w31 o (.inr (5, [.ref a_o, .int (nI (zl + 1)), .ref b_o])) := hMo31
            have hM_a_o : cIn w31 a_o (.inl (cy 1, 20000, .inr (.inl fm31))) := hMa31
            have hM_b_o : cIn w31 b_o (.inl (cy 0, 32768, .inl fs31)) := hMb31
            subst hr31
            refine lv_if_ne (tgt := 39) hx hb dX6_meetNeighbours_34 (by decide) (fun c34 => ?_) (fun c34 => ?_)
            · skip
              have d34 := c34
              rw [fa_eq] at d34
              refine lv_iinc (v := (nI (i + 1))) (lv' := [(4, .int (nI (i + 1))), (5, .long r16), (0, .ref o), (1, .ref x1), (2, .long p0)]) hx hb dX6_meetNeighbours_39 hl (k := 1) rfl (nI_1 _) (by decide) rfl (fun ls hl => ?_)
              refine lv_goto (tgt := 3) hx hb dX6_meetNeighbours_42 (by decide) ?_
              exact ih_3 (i + 1) (zl + 1) fm31 fs31 (by omega) (by first | exact ht31 | exact j3_1) (by first | (rw [nb_f ((beh_eq hb9 (by omega) q16).mp ((lg_cmp_eq _ _).mp c25))]; exact j3_2) | exact (rl_n j3_2 j3_3 sw9 (by rw [← rx9]; exact hno31) hz31 hf31 (by rw [← rx9]; exact hn31)).1 | (rw [nb_o sw9 j3_3 (by rw [← rx9]; exact (j3_2.isIn _).mpr hin31)]; exact j3_2)) (by first | (rw [nb_f ((beh_eq hb9 (by omega) q16).mp ((lg_cmp_eq _ _).mp c25))]; exact j3_3) | exact (rl_n j3_2 j3_3 sw9 (by rw [← rx9]; exact hno31) hz31 hf31 (by rw [← rx9]; exact hn31)).2 | (rw [nb_o sw9 j3_3 (by rw [← rx9]; exact (j3_2.isIn _).mpr hin31)]; exact j3_3)) (by omega) w31 hF hD hT hM_o hM_a_o hM_b_o _ _ hP hS ls (lv_sub hl [0, 2, 3, 4] rfl)
            · first | exact absurd c34 (by decide) | exact absurd (by decide) c34
  exact loop_3 (225 + 1) 0 z_o fm fs (by omega) (ht9) (hS1) (hS2) (by omega) ws hF hD hT hM_o hM_a_o hM_b_o _ _ hP hS ls (lv_sub hl [0, 1, 2, 3] rfl)
set_option maxHeartbeats 4000000 in
set_option maxRecDepth 100000 in
theorem c_J7_fill_x (l : Launch) (D : va_G) (cy : Nat → ClassId) (A : Nat → Prop) (G : cG) (ws : va_W) (a : Nat) (v : Int32) {n0 z0 : Nat} {f : Nat → Int32} (hD : va_D A ws) (hT : cT cy G ws) (hG_a : G a = some (0, n0, z0)) (hM_a : cIn ws a (.inl (cy 0, n0, .inl f))) (hn0 : n0 ≤ 100000) : Cv l D cy A yJ7_fill_53178 wsJ7_fill_53178 ({ frames := 0, cells := 0, slots := 0, locals := 0 }) 0 0 ws [.ref a, .int v] (fun u => ∃ w1, u = (G, w1) ∧ cF (fun b9 => b9 = a) ws w1 ∧ (∃ f1, cIn w1 a (.inl (cy 0, n0, .inl f1)) ∧ ∀ e, e < n0 → f1 e = v)) := by
  refine Met.ofW (cc := cJ7_fill_53178) (maxL := 4) (ret := none) (by decide) rfl ?_
  intro p e s m args below meth c s₁ B hml hv
  obtain ⟨rfl, hP, hK, hA, hV⟩ := hv
  have hx := B.exec
  have hb := B.bytes
  have hr := B.returns
  have hts := atoms_spec (ws := wsJ7_fill_53178) B.pre
  have hown : s.vm.findClass RJ7 = some m.cls := findClass_of_methodNamed B.named
  have hlocks := B.notSynchronized
  have hS : va_S A s.heap s.heap [] := va_S.rf
  have hF : cF (fun b9 => b9 = a) ws ws := cF.rf
  have hl := lv_entry ([.ref a, .int v]) (n := 4) (Nat.le_of_ble_eq_true rfl)
  rw [lg_entry_eq]
  generalize (lg_sl ([.ref a, .int v]) ++ List.replicate (4 - (lg_sl ([.ref a, .int v])).length) Slot.unset).toArray = ls at hl ⊢
  have hl : lv_has ls 4 [(0, .ref a), (1, .int v)] := hl
  have k_0 : (0 : Int32).toInt = 0 := by decide
  refine lv_iconst (v := 0) hx hb dJ7_fill_53178_0 (by decide) ?_
  refine lv_istore_n (lv' := [(2, .int (0 : Int32)), (0, .ref a), (1, .int v)]) hx hb dJ7_fill_53178_1 rfl hl (by decide) rfl (fun ls hl => ?_)
  refine lv_aload_n hx hb dJ7_fill_53178_2 rfl (lv_at hl 1 rfl) ?_
  refine t_alenI hx hb hK hP hT (Or.inl rfl) hG_a dJ7_fill_53178_3 ?_
  have i3 : (nI n0).toInt = _ := nI_toInt (by omega)
  refine lv_istore_n (lv' := [(3, .int (nI n0)), (2, .int (0 : Int32)), (0, .ref a), (1, .int v)]) hx hb dJ7_fill_53178_4 rfl hl (by decide) rfl (fun ls hl => ?_)
  have loop_5 : ∀ (n : Nat) (i : Nat) (fl : Nat → Int32), (i ≤ n0) → (∀ e, e < i → fl e = v) → n0 - i < n → ∀ (wl5 : va_W), cF (fun b9 => b9 = a) ws wl5 → va_D A wl5 → cT cy G wl5 → cIn wl5 a (.inl (cy 0, n0, .inl fl)) → ∀ (H : Heap) (locs : List Loc), va_P D vwCl wl5 H → va_S A s.heap H locs → ∀ (ls : Array Slot), lv_has ls 4 [(3, .int (nI n0)), (2, .int (nI i)), (0, .ref a), (1, .int v)] → W p l e (headSpec wsJ7_fill_53178 ({ frames := 0, cells := 0, slots := 0, locals := 0 })).room s m #[Value.ref a, Value.int v] below meth c H locs 0 0 (MQ below (va_Qv (fun u => ∃ w1, u = (G, w1) ∧ cF (fun b9 => b9 = a) ws w1 ∧ (∃ f1, cIn w1 a (.inl (cy 0, n0, .inl f1)) ∧ ∀ e, e < n0 → f1 e = v)) (cB D cy A) A) #[Value.ref a, Value.int v] s 0 0 A) (F0 m 5 ls []) := by
    intro n
    induction n with
    | zero => intro i fl j5_0 j5_1 hn; exact absurd hn (Nat.not_lt_zero _)
    | succ n ih_5 =>
      intro i fl j5_0 j5_1 hn_5 wl5 hF hD hT hM_a H locs hP hS ls hl
      have ii : (nI i).toInt = (i : Int) := nI_toInt (by omega)
      refine lv_iload_n hx hb dJ7_fill_53178_5 rfl (lv_at hl 1 rfl) ?_
      refine lv_iload_n hx hb dJ7_fill_53178_6 rfl (lv_at hl 0 rfl) ?_
      refine lv_icmp_ge (tgt := 20) hx hb dJ7_fill_53178_7 (by decide) (fun c7 => ?_) (fun c7 => ?_)
      · skip
        have d7 := c7
        rw [fa_le] at d7
        exact W.vret hx hb hr (fun t ht hW => ⟨⟨(G, wl5), rfl, ⟨wl5, rfl, hF, ⟨_, hM_a, fun e9 h9 => j5_1 e9 (by omega)⟩⟩, by show va_P D vwCl wl5 t.heap; rw [ht]; exact hP, hD, hT⟩, hS.F ht⟩) hS.2.2 dJ7_fill_53178_20
      · skip
        have d7 := c7
        rw [fa_le] at d7
        refine lv_aload_n hx hb dJ7_fill_53178_10 rfl (lv_at hl 2 rfl) ?_
        refine lv_iload_n hx hb dJ7_fill_53178_11 rfl (lv_at hl 1 rfl) ?_
        refine lv_iload_n hx hb dJ7_fill_53178_12 rfl (lv_at hl 3 rfl) ?_
        refine t_iastK hx hb hK hP hD hS hT (Or.inl rfl) hG_a hM_a (vp_in_iff.mpr ⟨by omega, by omega⟩) dJ7_fill_53178_13 (fun H locs w13 hU13 hP hD hT hS => ?_)
        have hM_a := hU13.1
        have hF := hF.tr (cF.up hU13 rfl)
        refine lv_iinc (v := (nI (i + 1))) (lv' := [(2, .int (nI (i + 1))), (3, .int (nI n0)), (0, .ref a), (1, .int v)]) hx hb dJ7_fill_53178_14 hl (k := 1) rfl (nI_1 _) (by decide) rfl (fun ls hl => ?_)
        refine lv_goto (tgt := 5) hx hb dJ7_fill_53178_17 (by decide) ?_
        exact ih_5 (i + 1) ((upd fl (nI i).toNatClampNeg v)) (by omega) (fun e9 h9 => by rw [nI_clamp (n := i) (by omega)]; unfold upd; by_cases z9 : e9 = i; rw [if_pos z9]; (rw [if_neg z9]; exact j5_1 e9 (by omega))) (by omega) w13 hF hD hT hM_a _ _ hP hS ls (lv_sub hl [1, 0, 2, 3] rfl)
  exact loop_5 (n0 + 1) 0 f (by omega) (fun e he => absurd he (Nat.not_lt_zero _)) (by omega) ws hF hD hT hM_a _ _ hP hS ls (lv_sub hl [0, 1, 2, 3] rfl)
set_option maxHeartbeats 4000000 in
set_option maxRecDepth 100000 in
theorem c_X6_fewestSwitches_x (l : Launch) (D : va_G) (cy : Nat → ClassId) (A : Nat → Prop) (G : cG) (ws : va_W) (o : Nat) (x1 : Nat) (p0 : Int64) (p1 : Int64) {a_o b_o z_o : Nat} {fm : Nat → Int64} {fs : Nat → Int32} {w h : Nat} (hD : va_D A ws) (hT : cT cy G ws) (hG_o : G o = some (6, 0, 0)) (hM_o : cIn ws o (.inr (5, [.ref a_o, .int (nI z_o), .ref b_o]))) (hG_x1 : G x1 = some (2, w, h)) (hM_a_o : cIn ws a_o (.inl (cy 1, 20000, .inr (.inl fm)))) (hM_b_o : cIn ws b_o (.inl (cy 0, 32768, .inl fs))) (hp9 : hiZ w h p0) (hq9 : hiZ w h p1) (ha0 : alike w h p0 p1 0) (ha1 : alike w h p0 p1 1) (hne : ¬ p0 = p1) : Ci l D cy A yX6_fewestSwitches wsX6_fewestSwitches ({ frames := 4, cells := 0, slots := 0, locals := 97 }) 0 0 ws [.ref o, .ref x1, .long p0, .long p1] (fun r0 u => ∃ w1, u = (G, w1) ∧ cF (fun b9 => b9 = o ∨ b9 = a_o ∨ b9 = b_o) ws w1 ∧ (farR w h p0 p1 r0.toInt)) := by
  refine Met.ofW (cc := cX6_fewestSwitches) (maxL := 10) (ret := (some .int)) (by decide) rfl ?_
  intro p e s m args below meth c s₁ B hml hv
  obtain ⟨rfl, hP, hK, hA, hV⟩ := hv
  have hx := B.exec
  have hb := B.bytes
  have hr := B.returns
  have hts := atoms_spec (ws := wsX6_fewestSwitches) B.pre
  have hown : s.vm.findClass RX6 = some m.cls := findClass_of_methodNamed B.named
  have hlocks := B.notSynchronized
  have hS : va_S A s.heap s.heap [] := va_S.rf
  have hF : cF (fun b9 => b9 = o ∨ b9 = a_o ∨ b9 = b_o) ws ws := cF.rf
  have hl := lv_entry ([.ref o, .ref x1, .long p0, .long p1]) (n := 10) (Nat.le_of_ble_eq_true rfl)
  rw [lg_entry_eq]
  generalize (lg_sl ([.ref o, .ref x1, .long p0, .long p1]) ++ List.replicate (10 - (lg_sl ([.ref o, .ref x1, .long p0, .long p1])).length) Slot.unset).toArray = ls at hl ⊢
  have hl : lv_has ls 10 [(0, .ref o), (1, .ref x1), (2, .long p0), (4, .long p1)] := hl
  have k_m5 : (-5 : Int32).toInt = -5 := by decide
  have k_0 : (0 : Int32).toInt = 0 := by decide
  have k_1 : (1 : Int32).toInt = 1 := by decide
  have k_20000 : (20000 : Int32).toInt = 20000 := by decide
  obtain ⟨hz_o, hG_a_o, hG_b_o⟩ := w6sh hD hT hG_o hM_o
  have hb9 := c_hb hT hG_x1
  refine lv_aload_n hx hb dX6_fewestSwitches_0 rfl (lv_at hl 0 rfl) ?_
  refine t_get (v := .ref b_o) (C := RX6) (T := TX6) (N := 3) hx hb hts (by decide +kernel) hown hK hP hM_o rfl 2 (by decide) (hts (.fieldLink RX6 20 "ShadowBench$Meetings" "slots" "[I") (by decide +kernel)) (fun _ h9 => h9) rfl dX6_fewestSwitches_1 ?_
  refine lv_iconst (v := 0) hx hb dX6_fewestSwitches_4 (by decide) ?_
  refine t_callv (va_runS (g := F0 m 5 ls ([.int (0 : Int32), .ref b_o])) (As := [.ref b_o, .int (0 : Int32)]) (rest := []) ⟨hx, hb, hml, hown, hts⟩ (c_J7_fill_x l D cy A G ws b_o (0 : Int32) hD hT hG_b_o hM_b_o (by omega)) (va_cwS 2 hts gX6_fewestSwitches_J7_fill_53178 rfl rfl rfl (by decide +kernel) ⟨Nat.le_of_ble_eq_true rfl, Nat.le_of_ble_eq_true rfl⟩) (c_preS hP hK hA hS hV) rfl rfl hl.1 rfl (lv_room (Nat.le_of_ble_eq_true rfl)) dX6_fewestSwitches_5 ⟨Nat.le_of_ble_eq_true rfl, Nat.le_of_ble_eq_true rfl⟩) hS (fun u H locs q5 hP9 hD9 hT9 hS => ?_)
  obtain ⟨w5, rfl, hF5, q5⟩ := q5
  have hP : va_P D vwCl w5 H := hP9
  have hD : va_D A w5 := hD9
  have hT : cT cy G w5 := hT9
  have hM_o := hF5 _ _ (cne hG_o hG_b_o (show (6 : Nat) ≠ 0 by decide)) hM_o
  have hM_a_o := hF5 _ _ (cne hG_a_o hG_b_o (show (1 : Nat) ≠ 0 by decide)) hM_a_o
  have hF := hF.tr (hF5.wk (fun b9 z9 => by rw [z9]; simp))
  obtain ⟨fl5, hM_b_o, hfl5⟩ := q5
  refine lv_aload_n hx hb dX6_fewestSwitches_8 rfl (lv_at hl 0 rfl) ?_
  refine lv_iconst (v := 0) hx hb dX6_fewestSwitches_9 (by decide) ?_
  have in0 : (nI 0).toInt = ((0 : Nat) : Int) := nI_toInt (by omega)
  refine t_put (v := .int (nI 0)) (C := RX6) (T := TX6) (N := 3) (ty0 := tyX6) hx hb hts (by decide +kernel) tyX6_ok nmX6 hown hK hP hD hS hM_o rfl 1 (by decide) (hts (.fieldLink RX6 15 "ShadowBench$Meetings" "size" "I") (by decide +kernel)) (fun _ h9 => h9) rfl rfl rfl (Nat.le_of_ble_eq_true rfl) dX6_fewestSwitches_10 (fun H locs w10 hU10 hP hD hS => ?_)
  have hM_a_o := hU10.2 _ _ (cne hG_a_o hG_o (show (1 : Nat) ≠ 6 by decide)) hM_a_o
  have hM_b_o := hU10.2 _ _ (cne hG_b_o hG_o (show (0 : Nat) ≠ 6 by decide)) hM_b_o
  have hT := hT.up hU10 hG_o ⟨_, _, _, rfl, ⟨by omega, by omega⟩, hG_a_o, hG_b_o⟩
  have hM_o : cIn w10 o (.inr (5, [.ref a_o, .int (nI 0), .ref b_o])) := hU10.1
  have hF := hF.tr (cF.up hU10 (Or.inl rfl))
  refine lv_aload_n hx hb dX6_fewestSwitches_13 rfl (lv_at hl 0 rfl) ?_
  have tb0 : tbC fl5 fm 0 := ⟨tab_0 (fun e9 h9 => ocC_n (hfl5 e9 h9)), (fun k9 h9 => by rw [hfl5 k9 h9]; decide), Nat.zero_le _⟩
  refine lv_lload_n hx hb dX6_fewestSwitches_14 rfl (lv_at hl 2 rfl) ?_
  refine t_calli (va_runV (g := F0 m 15 ls ([.long p0, .ref o])) (As := [.long p0]) (rest := []) ⟨hx, hb, hml, hown, hts⟩ (c_X6_meet_x l D cy A G w10 o p0 hD hT hG_o hM_o hM_a_o hM_b_o tb0) (cwV 1 hts gX6_fewestSwitches_X6_meet rfl rfl rfl (by decide +kernel) ⟨Nat.le_of_ble_eq_true rfl, Nat.le_of_ble_eq_true rfl⟩) (c_preV hM_o rfl hP hK hA hS hV) rfl rfl hl.1 rfl (lv_room (Nat.le_of_ble_eq_true rfl)) dX6_fewestSwitches_15 ⟨Nat.le_of_ble_eq_true rfl, Nat.le_of_ble_eq_true rfl⟩) hS (fun r15 u H locs q15 hP9 hD9 hT9 hS => ?_)
  obtain ⟨w15, rfl, hF15, q15⟩ := q15
  have hP : va_P D vwCl w15 H := hP9
  have hD : va_D A w15 := hD9
  have hT : cT cy G w15 := hT9
  have hF := hF.tr hF15
  rcases q15 with ⟨hin15, hr15, hw15⟩ | ⟨hno15, hz15, hr15, hw15⟩ | ⟨hno15, hz15, hr15, fm15, fs15, hMo15, hMa15, hMb15, ht15, hf15, hn15⟩
  · skip
    have hM_o : cIn w15 o (.inr (5, [.ref a_o, .int (nI 0), .ref b_o])) := by rw [hw15]; exact hM_o
    have hM_a_o : cIn w15 a_o (.inl (cy 1, 20000, .inr (.inl fm))) := by rw [hw15]; exact hM_a_o
    have hM_b_o : cIn w15 b_o (.inl (cy 0, 32768, .inl fl5)) := by rw [hw15]; exact hM_b_o
    subst hr15
    exfalso; obtain ⟨i9, h9, -⟩ := hin15; exact absurd h9 (Nat.not_lt_zero _)
  · skip
    have hM_o : cIn w15 o (.inr (5, [.ref a_o, .int (nI 0), .ref b_o])) := by rw [hw15]; exact hM_o
    have hM_a_o : cIn w15 a_o (.inl (cy 1, 20000, .inr (.inl fm))) := by rw [hw15]; exact hM_a_o
    have hM_b_o : cIn w15 b_o (.inl (cy 0, 32768, .inl fl5)) := by rw [hw15]; exact hM_b_o
    subst hr15
    exfalso; omega
  · skip
    have hM_o : cIn w15 o (.inr (5, [.ref a_o, .int (nI (0 + 1)), .ref b_o])) := hMo15
    have hM_a_o : cIn w15 a_o (.inl (cy 1, 20000, .inr (.inl fm15))) := hMa15
    have hM_b_o : cIn w15 b_o (.inl (cy 0, 32768, .inl fs15)) := hMb15
    subst hr15
    refine lv_pop hx hb dX6_fewestSwitches_18 rfl ?_
    refine lv_iconst (v := 0) hx hb dX6_fewestSwitches_19 (by decide) ?_
    refine lv_istore (lv' := [(6, .int (0 : Int32)), (0, .ref o), (1, .ref x1), (2, .long p0), (4, .long p1)]) hx hb dX6_fewestSwitches_20 hl (by decide) rfl (fun ls hl => ?_)
    refine lv_iconst (v := 1) hx hb dX6_fewestSwitches_22 (by decide) ?_
    refine lv_istore (lv' := [(7, .int (1 : Int32)), (6, .int (0 : Int32)), (0, .ref o), (1, .ref x1), (2, .long p0), (4, .long p1)]) hx hb dX6_fewestSwitches_23 hl (by decide) rfl (fun ls hl => ?_)
    refine lv_iconst (v := 0) hx hb dX6_fewestSwitches_25 (by decide) ?_
    refine lv_istore (lv' := [(8, .int (0 : Int32)), (7, .int (1 : Int32)), (6, .int (0 : Int32)), (0, .ref o), (1, .ref x1), (2, .long p0), (4, .long p1)]) hx hb dX6_fewestSwitches_26 hl (by decide) rfl (fun ls hl => ?_)
    have loop_28 : ∀ (n : Nat) (k : Nat) (e7 : Nat) (s6 : Nat) (zl : Nat) (fml : Nat → Int64) (fsl : Nat → Int32), (k ≤ 20000) → (tbC fsl fml zl) → (rlM (bfA w h (st0 p0) k) fml zl) → (∀ j9, j9 ≤ k → (bfA w h (st0 p0) j9).2.2.2 = false ∧ ¬ isIn9 (bfA w h (st0 p0) j9) p1) → (∀ j9, j9 < k → j9 < (bfA w h (st0 p0) j9).2.2.1) → (rngC (bfA w h (st0 p0) k) k s6 e7) → (s6 ≤ k ∧ e7 ≤ zl) → 20000 - k < n → ∀ (wl28 : va_W), cF (fun b9 => b9 = o ∨ b9 = a_o ∨ b9 = b_o) ws wl28 → va_D A wl28 → cT cy G wl28 → cIn wl28 o (.inr (5, [.ref a_o, .int (nI zl), .ref b_o])) → cIn wl28 a_o (.inl (cy 1, 20000, .inr (.inl fml))) → cIn wl28 b_o (.inl (cy 0, 32768, .inl fsl)) → ∀ (H : Heap) (locs : List Loc), va_P D vwCl wl28 H → va_S A s.heap H locs → ∀ (ls : Array Slot), lv_has ls 10 [(8, .int (nI k)), (7, .int (nI e7)), (6, .int (nI s6)), (0, .ref o), (1, .ref x1), (2, .long p0), (4, .long p1)] → W p l e (headSpec wsX6_fewestSwitches ({ frames := 4, cells := 0, slots := 0, locals := 97 })).room s m #[Value.ref o, Value.ref x1, Value.long p0, Value.long p1] below meth c H locs 0 0 (MQ below (va_Qi (fun r0 u => ∃ w1, u = (G, w1) ∧ cF (fun b9 => b9 = o ∨ b9 = a_o ∨ b9 = b_o) ws w1 ∧ (farR w h p0 p1 r0.toInt)) (cB D cy A) A) #[Value.ref o, Value.ref x1, Value.long p0, Value.long p1] s 0 0 A) (F0 m 28 ls []) := by
      intro n
      induction n with
      | zero => intro k e7 s6 zl fml fsl j28_0 j28_1 j28_2 j28_3 j28_4 j28_5 j28_6 hn; exact absurd hn (Nat.not_lt_zero _)
      | succ n ih_28 =>
        intro k e7 s6 zl fml fsl j28_0 j28_1 j28_2 j28_3 j28_4 j28_5 j28_6 hn_28 wl28 hF hD hT hM_o hM_a_o hM_b_o H locs hP hS ls hl
        have ik : (nI k).toInt = (k : Int) := nI_toInt (by omega)
        have is6 : (nI s6).toInt = (s6 : Int) := nI_toInt (by omega)
        have z20 := j28_1.2.2
        have ie7 : (nI e7).toInt = (e7 : Int) := nI_toInt (by omega)
        have izl : (nI zl).toInt = (zl : Int) := nI_toInt (by omega)
        refine lv_iload hx hb dX6_fewestSwitches_28 (lv_at hl 0 rfl) ?_
        refine lv_sipush (v := 20000) hx hb dX6_fewestSwitches_30 (by decide) ?_
        refine lv_icmp_ge (tgt := 103) hx hb dX6_fewestSwitches_33 (by decide) (fun c33 => ?_) (fun c33 => ?_)
        · skip
          have d33 := c33
          rw [fa_le] at d33
          refine lv_bipush (v := (-5)) hx hb dX6_fewestSwitches_103 (by decide) ?_
          exact W.iret (v := ((-5) : Int32)) hx hb hr (fun t ht hW => ⟨⟨_, (G, wl28), rfl, ⟨wl28, rfl, hF, (by exfalso; exact (j28_3 k (Nat.le_refl _)).2 (far_end hb9 hp9 hq9 ha0 ha1 (fun j9 h9 => (j28_3 j9 h9).1) j28_4 (by rw [j28_2.1]; have := j28_1.2.2; omega)))⟩, by show va_P D vwCl wl28 t.heap; rw [ht]; exact hP, hD, hT⟩, hS.F ht⟩) hS.2.2 dX6_fewestSwitches_105
        · skip
          have d33 := c33
          rw [fa_le] at d33
          refine lv_iload hx hb dX6_fewestSwitches_36 (lv_at hl 0 rfl) ?_
          refine lv_aload_n hx hb dX6_fewestSwitches_38 rfl (lv_at hl 3 rfl) ?_
          refine t_get (v := .int (nI zl)) (C := RX6) (T := TX6) (N := 3) hx hb hts (by decide +kernel) hown hK hP hM_o rfl 1 (by decide) (hts (.fieldLink RX6 15 "ShadowBench$Meetings" "size" "I") (by decide +kernel)) (fun _ h9 => h9) rfl dX6_fewestSwitches_39 ?_
          refine lv_icmp_ge (tgt := 103) hx hb dX6_fewestSwitches_42 (by decide) (fun c42 => ?_) (fun c42 => ?_)
          · skip
            have d42 := c42
            rw [fa_le] at d42
            refine lv_bipush (v := (-5)) hx hb dX6_fewestSwitches_103 (by decide) ?_
            exact W.iret (v := ((-5) : Int32)) hx hb hr (fun t ht hW => ⟨⟨_, (G, wl28), rfl, ⟨wl28, rfl, hF, (by exfalso; exact (j28_3 k (Nat.le_refl _)).2 (far_end hb9 hp9 hq9 ha0 ha1 (fun j9 h9 => (j28_3 j9 h9).1) j28_4 (by rw [j28_2.1]; have := j28_1.2.2; omega)))⟩, by show va_P D vwCl wl28 t.heap; rw [ht]; exact hP, hD, hT⟩, hS.F ht⟩) hS.2.2 dX6_fewestSwitches_105
          · skip
            have d42 := c42
            rw [fa_le] at d42
            refine lv_iload hx hb dX6_fewestSwitches_45 (lv_at hl 0 rfl) ?_
            refine lv_iload hx hb dX6_fewestSwitches_47 (lv_at hl 1 rfl) ?_
            refine lv_icmp_ne (tgt := 61) hx hb dX6_fewestSwitches_49 (by decide) (fun c49 => ?_) (fun c49 => ?_)
            · skip
              have d49 := c49
              rw [fa_eq] at d49
              first | have rg9 := rg9 | have rg9 := j28_5
              first | have rk9 := rk9 | have rk9 : k < e7 := (by have z9 := j28_5.1.1; omega)
              refine lv_aload_n hx hb dX6_fewestSwitches_61 rfl (lv_at hl 3 rfl) ?_
              refine lv_aload_n hx hb dX6_fewestSwitches_62 rfl (lv_at hl 4 rfl) ?_
              refine lv_aload_n hx hb dX6_fewestSwitches_63 rfl (lv_at hl 3 rfl) ?_
              refine t_get (v := .ref a_o) (C := RX6) (T := TX6) (N := 3) hx hb hts (by decide +kernel) hown hK hP hM_o rfl 0 (by decide) (hts (.fieldLink RX6 11 "ShadowBench$Meetings" "met" "[J") (by decide +kernel)) (fun _ h9 => h9) rfl dX6_fewestSwitches_64 ?_
              refine lv_iload hx hb dX6_fewestSwitches_67 (lv_at hl 0 rfl) ?_
              refine t_laldM hx hb hK hP hM_a_o (vp_in_iff.mpr ⟨by omega, by omega⟩) dX6_fewestSwitches_69 ?_
              refine lv_topl (fun v69 e69 => ?_)
              have x69 : v69 = (bfA w h (st0 p0) k).1 k := by rw [e69, nI_clamp (n := k) (by omega)]; exact (j28_2.2 k (by omega)).symm
              refine t_calli (va_runV (g := F0 m 70 ls ([.long v69, .ref x1, .ref o])) (As := [.ref x1, .long v69]) (rest := []) ⟨hx, hb, hml, hown, hts⟩ (c_X6_meetNeighbours_x (d := (bfA w h (st0 p0) k).2.1 k + 1) (S := (bfA w h (st0 p0) k)) l D cy A G wl28 o x1 v69 hD hT hG_o hM_o hG_x1 hM_a_o hM_b_o j28_1 j28_2 (j28_3 k (Nat.le_refl _)).1) (cwV 2 hts gX6_fewestSwitches_X6_meetNeighbours rfl rfl rfl (by decide +kernel) ⟨Nat.le_of_ble_eq_true rfl, Nat.le_of_ble_eq_true rfl⟩) (c_preV hM_o rfl hP hK hA hS hV) rfl rfl hl.1 rfl (lv_room (Nat.le_of_ble_eq_true rfl)) dX6_fewestSwitches_70 ⟨Nat.le_of_ble_eq_true rfl, Nat.le_of_ble_eq_true rfl⟩) hS (fun r70 u H locs q70 hP9 hD9 hT9 hS => ?_)
              obtain ⟨w70, rfl, hF70, q70⟩ := q70
              have hP : va_P D vwCl w70 H := hP9
              have hD : va_D A w70 := hD9
              have hT : cT cy G w70 := hT9
              have hF := hF.tr hF70
              obtain ⟨z70, fm70, fs70, hW70, ht70, hrl70, hov70⟩ := q70
              have hM_o : cIn w70 o (.inr (5, [.ref a_o, .int (nI z70), .ref b_o])) := hW70.1
              have hM_a_o : cIn w70 a_o (.inl (cy 1, 20000, .inr (.inl fm70))) := hW70.2.1
              have hM_b_o : cIn w70 b_o (.inl (cy 0, 32768, .inl fs70)) := hW70.2.2
              rw [x69] at hrl70 hov70
              have hrl70 : rlM (bfA w h (st0 p0) (k + 1)) fm70 z70 := hrl70
              have hov70 : (r70 = 1 ∧ (bfA w h (st0 p0) (k + 1)).2.2.2 = false) ∨ (r70 = 0 ∧ (bfA w h (st0 p0) (k + 1)).2.2.2 = true) := hov70
              refine lv_istore (lv' := [(9, .int r70), (8, .int (nI k)), (7, .int (nI e7)), (6, .int (nI s6)), (0, .ref o), (1, .ref x1), (2, .long p0), (4, .long p1)]) hx hb dX6_fewestSwitches_73 hl (by decide) rfl (fun ls hl => ?_)
              refine lv_aload_n hx hb dX6_fewestSwitches_75 rfl (lv_at hl 4 rfl) ?_
              refine lv_lload hx hb dX6_fewestSwitches_76 (lv_at hl 7 rfl) ?_
              refine t_calli (va_runV (g := F0 m 78 ls ([.long p1, .ref o])) (As := [.long p1]) (rest := []) ⟨hx, hb, hml, hown, hts⟩ (c_X6_knows_x l D cy A G w70 o p1 hD hT hG_o hM_o hM_a_o hM_b_o ht70) (cwV 1 hts gX6_fewestSwitches_X6_knows rfl rfl rfl (by decide +kernel) ⟨Nat.le_of_ble_eq_true rfl, Nat.le_of_ble_eq_true rfl⟩) (c_preV hM_o rfl hP hK hA hS hV) rfl rfl hl.1 rfl (lv_room (Nat.le_of_ble_eq_true rfl)) dX6_fewestSwitches_78 ⟨Nat.le_of_ble_eq_true rfl, Nat.le_of_ble_eq_true rfl⟩) hS (fun r78 u H locs q78 hP9 hD9 hT9 hS => ?_)
              obtain ⟨rfl, q78⟩ := q78
              have hP : va_P D vwCl w70 H := hP9
              refine lv_if_eq (tgt := 89) hx hb dX6_fewestSwitches_81 (by decide) (fun c81 => ?_) (fun c81 => ?_)
              · skip
                have b81 := bo_f q78 c81
                refine lv_iload hx hb dX6_fewestSwitches_89 (lv_at hl 0 rfl) ?_
                refine lv_if_ne (tgt := 97) hx hb dX6_fewestSwitches_91 (by decide) (fun c91 => ?_) (fun c91 => ?_)
                · skip
                  have d91 := c91
                  rw [fa_eq] at d91
                  refine lv_iinc (v := (nI (k + 1))) (lv' := [(8, .int (nI (k + 1))), (9, .int r70), (7, .int (nI e7)), (6, .int (nI s6)), (0, .ref o), (1, .ref x1), (2, .long p0), (4, .long p1)]) hx hb dX6_fewestSwitches_97 hl (k := 1) rfl (nI_1 _) (by decide) rfl (fun ls hl => ?_)
                  refine lv_goto (tgt := 28) hx hb dX6_fewestSwitches_100 (by decide) ?_
                  exact ih_28 (k + 1) e7 s6 z70 fm70 fs70 (by omega) (ht70) (hrl70) (fun j9 h9 => by by_cases z9 : j9 = k + 1; (rw [z9]; exact ⟨(by rcases hov70 with ⟨-, z1⟩ | ⟨z1, -⟩; exact z1; exact absurd z1 c91), fun y9 => b81 ((hrl70.isIn p1).mp y9)⟩); exact j28_3 j9 (by omega)) (fun j9 h9 => by by_cases z9 : j9 = k; (rw [z9, j28_2.1]; omega); exact j28_4 j9 (by omega)) ((rngC_s (w := w) (h := h) rg9 rk9).2) (by have z9 := (rngC_s (w := w) (h := h) rg9 rk9).2.1.2; have z8 : (bfA w h (st0 p0) (k + 1)).2.2.1 = z70 := hrl70.1; have z7 : _ ≤ (bfA w h (st0 p0) (k + 1)).2.2.1 := z9; omega) (by omega) w70 hF hD hT hM_o hM_a_o hM_b_o _ _ hP hS ls (lv_sub hl [0, 2, 3, 4, 5, 6, 7] rfl)
                · skip
                  have d91 := c91
                  rw [fa_eq] at d91
                  refine lv_bipush (v := (-5)) hx hb dX6_fewestSwitches_94 (by decide) ?_
                  exact W.iret (v := ((-5) : Int32)) hx hb hr (fun t ht hW => ⟨⟨_, (G, w70), rfl, ⟨w70, rfl, hF, (⟨k, (fun j9 h9 => ⟨(j28_3 j9 h9).1, (j28_3 j9 h9).2, (by rcases Nat.lt_or_ge j9 k with z9 | z9; exact j28_4 j9 z9; (rw [show j9 = k by omega, j28_2.1]; omega))⟩), Or.inr ⟨(fun z9 => b81 ((hrl70.isIn p1).mp z9)), (by rcases hov70 with ⟨z1, -⟩ | ⟨-, z2⟩; exact absurd (z1.symm.trans c91) (by decide); exact z2), rfl⟩⟩)⟩, by show va_P D vwCl w70 t.heap; rw [ht]; exact hP, hD, hT⟩, hS.F ht⟩) hS.2.2 dX6_fewestSwitches_96
              · skip
                have b81 := bo_t q78 c81
                refine lv_iload hx hb dX6_fewestSwitches_84 (lv_at hl 3 rfl) ?_
                refine lv_iconst (v := 1) hx hb dX6_fewestSwitches_86 (by decide) ?_
                refine lv_iadd hx hb dX6_fewestSwitches_87 ?_
                refine lv_topi (fun v87 e87 => ?_)
                obtain rfl : v87 = nI (s6 + 1) := e87.trans (nI_1 _)
                exact W.iret (v := (nI (s6 + 1))) hx hb hr (fun t ht hW => ⟨⟨_, (G, w70), rfl, ⟨w70, rfl, hF, (⟨k, (fun j9 h9 => ⟨(j28_3 j9 h9).1, (j28_3 j9 h9).2, (by rcases Nat.lt_or_ge j9 k with z9 | z9; exact j28_4 j9 z9; (rw [show j9 = k by omega, j28_2.1]; omega))⟩), Or.inl ⟨(hrl70.isIn p1).mpr b81, (by have z9 := (rngC_s (w := w) (h := h) rg9 rk9).1; rw [nI_toInt (by omega), z9]; omega)⟩⟩)⟩, by show va_P D vwCl w70 t.heap; rw [ht]; exact hP, hD, hT⟩, hS.F ht⟩) hS.2.2 dX6_fewestSwitches_88
            · skip
              have d49 := c49
              rw [fa_eq] at d49
              have rg9 := rngC_n j28_5 (by rw [j28_2.1]; omega) (show k = e7 by omega)
              rw [j28_2.1] at rg9
              have rk9 : k < zl := by omega
              refine lv_iinc (v := (nI (s6 + 1))) (lv' := [(6, .int (nI (s6 + 1))), (8, .int (nI k)), (7, .int (nI e7)), (0, .ref o), (1, .ref x1), (2, .long p0), (4, .long p1)]) hx hb dX6_fewestSwitches_52 hl (k := 2) rfl (nI_1 _) (by decide) rfl (fun ls hl => ?_)
              refine lv_aload_n hx hb dX6_fewestSwitches_55 rfl (lv_at hl 3 rfl) ?_
              refine t_get (v := .int (nI zl)) (C := RX6) (T := TX6) (N := 3) hx hb hts (by decide +kernel) hown hK hP hM_o rfl 1 (by decide) (hts (.fieldLink RX6 15 "ShadowBench$Meetings" "size" "I") (by decide +kernel)) (fun _ h9 => h9) rfl dX6_fewestSwitches_56 ?_
              refine lv_istore (lv' := [(7, .int (nI zl)), (6, .int (nI (s6 + 1))), (8, .int (nI k)), (0, .ref o), (1, .ref x1), (2, .long p0), (4, .long p1)]) hx hb dX6_fewestSwitches_59 hl (by decide) rfl (fun ls hl => ?_)
              first | have rg9 := rg9 | have rg9 := j28_5
              first | have rk9 := rk9 | have rk9 : k < e7 := (by have z9 := j28_5.1.1; omega)
              refine lv_aload_n hx hb dX6_fewestSwitches_61 rfl (lv_at hl 3 rfl) ?_
              refine lv_aload_n hx hb dX6_fewestSwitches_62 rfl (lv_at hl 4 rfl) ?_
              refine lv_aload_n hx hb dX6_fewestSwitches_63 rfl (lv_at hl 3 rfl) ?_
              refine t_get (v := .ref a_o) (C := RX6) (T := TX6) (N := 3) hx hb hts (by decide +kernel) hown hK hP hM_o rfl 0 (by decide) (hts (.fieldLink RX6 11 "ShadowBench$Meetings" "met" "[J") (by decide +kernel)) (fun _ h9 => h9) rfl dX6_fewestSwitches_64 ?_
              refine lv_iload hx hb dX6_fewestSwitches_67 (lv_at hl 2 rfl) ?_
              refine t_laldM hx hb hK hP hM_a_o (vp_in_iff.mpr ⟨by omega, by omega⟩) dX6_fewestSwitches_69 ?_
              refine lv_topl (fun v69 e69 => ?_)
              have x69 : v69 = (bfA w h (st0 p0) k).1 k := by rw [e69, nI_clamp (n := k) (by omega)]; exact (j28_2.2 k (by omega)).symm
              refine t_calli (va_runV (g := F0 m 70 ls ([.long v69, .ref x1, .ref o])) (As := [.ref x1, .long v69]) (rest := []) ⟨hx, hb, hml, hown, hts⟩ (c_X6_meetNeighbours_x (d := (bfA w h (st0 p0) k).2.1 k + 1) (S := (bfA w h (st0 p0) k)) l D cy A G wl28 o x1 v69 hD hT hG_o hM_o hG_x1 hM_a_o hM_b_o j28_1 j28_2 (j28_3 k (Nat.le_refl _)).1) (cwV 2 hts gX6_fewestSwitches_X6_meetNeighbours rfl rfl rfl (by decide +kernel) ⟨Nat.le_of_ble_eq_true rfl, Nat.le_of_ble_eq_true rfl⟩) (c_preV hM_o rfl hP hK hA hS hV) rfl rfl hl.1 rfl (lv_room (Nat.le_of_ble_eq_true rfl)) dX6_fewestSwitches_70 ⟨Nat.le_of_ble_eq_true rfl, Nat.le_of_ble_eq_true rfl⟩) hS (fun r70 u H locs q70 hP9 hD9 hT9 hS => ?_)
              obtain ⟨w70, rfl, hF70, q70⟩ := q70
              have hP : va_P D vwCl w70 H := hP9
              have hD : va_D A w70 := hD9
              have hT : cT cy G w70 := hT9
              have hF := hF.tr hF70
              obtain ⟨z70, fm70, fs70, hW70, ht70, hrl70, hov70⟩ := q70
              have hM_o : cIn w70 o (.inr (5, [.ref a_o, .int (nI z70), .ref b_o])) := hW70.1
              have hM_a_o : cIn w70 a_o (.inl (cy 1, 20000, .inr (.inl fm70))) := hW70.2.1
              have hM_b_o : cIn w70 b_o (.inl (cy 0, 32768, .inl fs70)) := hW70.2.2
              rw [x69] at hrl70 hov70
              have hrl70 : rlM (bfA w h (st0 p0) (k + 1)) fm70 z70 := hrl70
              have hov70 : (r70 = 1 ∧ (bfA w h (st0 p0) (k + 1)).2.2.2 = false) ∨ (r70 = 0 ∧ (bfA w h (st0 p0) (k + 1)).2.2.2 = true) := hov70
              refine lv_istore (lv' := [(9, .int r70), (7, .int (nI zl)), (6, .int (nI (s6 + 1))), (8, .int (nI k)), (0, .ref o), (1, .ref x1), (2, .long p0), (4, .long p1)]) hx hb dX6_fewestSwitches_73 hl (by decide) rfl (fun ls hl => ?_)
              refine lv_aload_n hx hb dX6_fewestSwitches_75 rfl (lv_at hl 4 rfl) ?_
              refine lv_lload hx hb dX6_fewestSwitches_76 (lv_at hl 7 rfl) ?_
              refine t_calli (va_runV (g := F0 m 78 ls ([.long p1, .ref o])) (As := [.long p1]) (rest := []) ⟨hx, hb, hml, hown, hts⟩ (c_X6_knows_x l D cy A G w70 o p1 hD hT hG_o hM_o hM_a_o hM_b_o ht70) (cwV 1 hts gX6_fewestSwitches_X6_knows rfl rfl rfl (by decide +kernel) ⟨Nat.le_of_ble_eq_true rfl, Nat.le_of_ble_eq_true rfl⟩) (c_preV hM_o rfl hP hK hA hS hV) rfl rfl hl.1 rfl (lv_room (Nat.le_of_ble_eq_true rfl)) dX6_fewestSwitches_78 ⟨Nat.le_of_ble_eq_true rfl, Nat.le_of_ble_eq_true rfl⟩) hS (fun r78 u H locs q78 hP9 hD9 hT9 hS => ?_)
              obtain ⟨rfl, q78⟩ := q78
              have hP : va_P D vwCl w70 H := hP9
              refine lv_if_eq (tgt := 89) hx hb dX6_fewestSwitches_81 (by decide) (fun c81 => ?_) (fun c81 => ?_)
              · skip
                have b81 := bo_f q78 c81
                refine lv_iload hx hb dX6_fewestSwitches_89 (lv_at hl 0 rfl) ?_
                refine lv_if_ne (tgt := 97) hx hb dX6_fewestSwitches_91 (by decide) (fun c91 => ?_) (fun c91 => ?_)
                · skip
                  have d91 := c91
                  rw [fa_eq] at d91
                  refine lv_iinc (v := (nI (k + 1))) (lv' := [(8, .int (nI (k + 1))), (9, .int r70), (7, .int (nI zl)), (6, .int (nI (s6 + 1))), (0, .ref o), (1, .ref x1), (2, .long p0), (4, .long p1)]) hx hb dX6_fewestSwitches_97 hl (k := 3) rfl (nI_1 _) (by decide) rfl (fun ls hl => ?_)
                  refine lv_goto (tgt := 28) hx hb dX6_fewestSwitches_100 (by decide) ?_
                  exact ih_28 (k + 1) zl (s6 + 1) z70 fm70 fs70 (by omega) (ht70) (hrl70) (fun j9 h9 => by by_cases z9 : j9 = k + 1; (rw [z9]; exact ⟨(by rcases hov70 with ⟨-, z1⟩ | ⟨z1, -⟩; exact z1; exact absurd z1 c91), fun y9 => b81 ((hrl70.isIn p1).mp y9)⟩); exact j28_3 j9 (by omega)) (fun j9 h9 => by by_cases z9 : j9 = k; (rw [z9, j28_2.1]; omega); exact j28_4 j9 (by omega)) ((rngC_s (w := w) (h := h) rg9 rk9).2) (by have z9 := (rngC_s (w := w) (h := h) rg9 rk9).2.1.2; have z8 : (bfA w h (st0 p0) (k + 1)).2.2.1 = z70 := hrl70.1; have z7 : _ ≤ (bfA w h (st0 p0) (k + 1)).2.2.1 := z9; omega) (by omega) w70 hF hD hT hM_o hM_a_o hM_b_o _ _ hP hS ls (lv_sub hl [0, 2, 3, 4, 5, 6, 7] rfl)
                · skip
                  have d91 := c91
                  rw [fa_eq] at d91
                  refine lv_bipush (v := (-5)) hx hb dX6_fewestSwitches_94 (by decide) ?_
                  exact W.iret (v := ((-5) : Int32)) hx hb hr (fun t ht hW => ⟨⟨_, (G, w70), rfl, ⟨w70, rfl, hF, (⟨k, (fun j9 h9 => ⟨(j28_3 j9 h9).1, (j28_3 j9 h9).2, (by rcases Nat.lt_or_ge j9 k with z9 | z9; exact j28_4 j9 z9; (rw [show j9 = k by omega, j28_2.1]; omega))⟩), Or.inr ⟨(fun z9 => b81 ((hrl70.isIn p1).mp z9)), (by rcases hov70 with ⟨z1, -⟩ | ⟨-, z2⟩; exact absurd (z1.symm.trans c91) (by decide); exact z2), rfl⟩⟩)⟩, by show va_P D vwCl w70 t.heap; rw [ht]; exact hP, hD, hT⟩, hS.F ht⟩) hS.2.2 dX6_fewestSwitches_96
              · skip
                have b81 := bo_t q78 c81
                refine lv_iload hx hb dX6_fewestSwitches_84 (lv_at hl 2 rfl) ?_
                refine lv_iconst (v := 1) hx hb dX6_fewestSwitches_86 (by decide) ?_
                refine lv_iadd hx hb dX6_fewestSwitches_87 ?_
                refine lv_topi (fun v87 e87 => ?_)
                obtain rfl : v87 = nI ((s6 + 1) + 1) := e87.trans (nI_1 _)
                exact W.iret (v := (nI ((s6 + 1) + 1))) hx hb hr (fun t ht hW => ⟨⟨_, (G, w70), rfl, ⟨w70, rfl, hF, (⟨k, (fun j9 h9 => ⟨(j28_3 j9 h9).1, (j28_3 j9 h9).2, (by rcases Nat.lt_or_ge j9 k with z9 | z9; exact j28_4 j9 z9; (rw [show j9 = k by omega, j28_2.1]; omega))⟩), Or.inl ⟨(hrl70.isIn p1).mpr b81, (by have z9 := (rngC_s (w := w) (h := h) rg9 rk9).1; rw [nI_toInt (by omega), z9]; omega)⟩⟩)⟩, by show va_P D vwCl w70 t.heap; rw [ht]; exact hP, hD, hT⟩, hS.F ht⟩) hS.2.2 dX6_fewestSwitches_88
    exact loop_28 (20000 + 1) 0 1 0 (0 + 1) fm15 fs15 (by omega) (ht15) (⟨rfl, fun i9 h9 => by rw [show i9 = 0 by omega]; exact hn15.symm⟩) (fun j9 h9 => by rw [show j9 = 0 by omega]; exact ⟨rfl, fun ⟨i9, h1, h2⟩ => hne h2⟩) (fun j9 h9 => absurd h9 (Nat.not_lt_zero _)) (rngC_0) (by omega) (by omega) w15 hF hD hT hM_o hM_a_o hM_b_o _ _ hP hS ls (lv_sub hl [0, 1, 2, 3, 4, 5, 6] rfl)

/-- what far answers -/
def faA (w h : Int32) (p q : Int64) (x : Int32) : Prop := (¬ (goodP w h p ∧ goodP w h q) ∧ x = -1) ∨ ((goodP w h p ∧ goodP w h q) ∧ ((¬ (alike w.toNatClampNeg h.toNatClampNeg p q 0 ∧ alike w.toNatClampNeg h.toNatClampNeg p q 1) ∧ x = -2) ∨ ((alike w.toNatClampNeg h.toNatClampNeg p q 0 ∧ alike w.toNatClampNeg h.toNatClampNeg p q 1) ∧ ((p = q ∧ x = 0) ∨ (¬ p = q ∧ farR w.toNatClampNeg h.toNatClampNeg p q x.toInt)))))
theorem faA_eq {w h : Int32} {p q : Int64} {x y : Int32} (hx : faA w h p q x) (hy : faA w h p q y) : x = y := by
  rcases hx with ⟨a, b⟩ | ⟨a, b⟩ <;> rcases hy with ⟨c, d⟩ | ⟨c, d⟩
  · rw [b, d]
  · exact absurd c a
  · exact absurd a c
  · rcases b with ⟨b1, b2⟩ | ⟨b1, b2⟩ <;> rcases d with ⟨d1, d2⟩ | ⟨d1, d2⟩
    · rw [b2, d2]
    · exact absurd d1 b1
    · exact absurd b1 d1
    · rcases b2 with ⟨b3, b4⟩ | ⟨b3, b4⟩ <;> rcases d2 with ⟨d3, d4⟩ | ⟨d3, d4⟩
      · rw [b4, d4]
      · exact absurd b3 d3
      · exact absurd d3 b3
      · exact Int32.toInt_inj.mp (farR_eq b4 d4)
theorem k01 : ∀ k, k < 4 → gB 3 k = 1 → k = 0 ∨ k = 1 := by decide
theorem hiZ_p {w h : Nat} {p : Int64} (hb : w * h ≤ 36) (hp : isPic (w * h) p) : hiZ w h p := fun i h1 _ => pic_hi hb hp h1
set_option maxHeartbeats 4000000 in
set_option maxRecDepth 100000 in
theorem c_X9_far_x (l : Launch) (D : va_G) (cy : Nat → ClassId) (A : Nat → Prop) (G : cG) (ws : va_W) (o : Nat) (wide : Int32) (high : Int32) (p0 : Int64) (p1 : Int64) {bs_o js_o sh_o wk_o ll_o : Nat} {jc_o lc_o : Int32} {mo_o lb_o : Option Nat} (hD : va_D A ws) (hT : cT cy G ws) (hG_o : G o = some (7, 0, 0)) (hM_o : cIn ws o (.inr (8, [.ref bs_o, .ref js_o, .int jc_o, .ref sh_o, .ref wk_o, va_rf mo_o, .ref ll_o, .int lc_o, va_rf lb_o])))  : MetV l yX9_far wsX9_far ({ frames := 5, cells := 7, slots := 53273, locals := 126 }) (cPc D cy A ws [.ref o, .int wide, .int high, .long p0, .long p1]) (fun k n => va_Qi (fun r0 u => cX none (chs [0, 1, 6, 7, 8]) G ws u.1 u.2 ∧ (((k = 4 ∧ n = 502 ∧ cIn u.2 o (.inr (8, [.ref bs_o, .ref js_o, .int jc_o, .ref sh_o, .ref wk_o, va_rf mo_o, .ref ll_o, .int lc_o, va_rf lb_o]))) ∨ (k = 7 ∧ n = 53273 ∧ mo_o = none ∧ ∃ x, cIn u.2 o (.inr (8, [.ref bs_o, .ref js_o, .int jc_o, .ref sh_o, .ref wk_o, .ref x, .ref ll_o, .int lc_o, va_rf lb_o])))) ∧ faA wide high p0 p1 r0)) (cB D cy A) A) A := by
  refine MetV.ofW (cc := cX9_far) (maxL := 8) (ret := (some .int)) (by decide) rfl ?_
  intro p e s m args below meth c s₁ B hml hv
  obtain ⟨rfl, hP, hK, hA, hV⟩ := hv
  have hx := B.exec
  have hb := B.bytes
  have hr := B.returns
  have hts := atoms_spec (ws := wsX9_far) B.pre
  have hown : s.vm.findClass RX9 = some m.cls := findClass_of_methodNamed B.named
  have hlocks := B.notSynchronized
  have hS : va_S A s.heap s.heap [] := va_S.rf
  have hX : cX none (chs [0, 1, 6, 7, 8]) G ws G ws := cX.rf
  have hl := lv_entry ([.ref o, .int wide, .int high, .long p0, .long p1]) (n := 8) (Nat.le_of_ble_eq_true rfl)
  rw [lg_entry_eq]
  generalize (lg_sl ([.ref o, .int wide, .int high, .long p0, .long p1]) ++ List.replicate (8 - (lg_sl ([.ref o, .int wide, .int high, .long p0, .long p1])).length) Slot.unset).toArray = ls at hl ⊢
  have hl : lv_has ls 8 [(0, .ref o), (1, .int wide), (2, .int high), (3, .long p0), (5, .long p1)] := hl
  have k_m2 : (-2 : Int32).toInt = -2 := by decide
  have k_m1 : (-1 : Int32).toInt = -1 := by decide
  have k_0 : (0 : Int32).toInt = 0 := by decide
  have k_3 : (3 : Int32).toInt = 3 := by decide
  obtain ⟨hjc_o, hlc_o, hG_bs_o, hG_js_o, hG_sh_o, hG_wk_o, hmo_o, hG_ll_o, hlb_o⟩ := w7sh hD hT hG_o hM_o
  refine lv_aload_n hx hb dX9_far_0 rfl (lv_at hl 0 rfl) ?_
  refine lv_iload_n hx hb dX9_far_1 rfl (lv_at hl 1 rfl) ?_
  refine lv_iload_n hx hb dX9_far_2 rfl (lv_at hl 2 rfl) ?_
  refine t_calla (va_runV (g := F0 m 3 ls ([.int high, .int wide, .ref o])) (As := [.int wide, .int high]) (rest := []) ⟨hx, hb, hml, hown, hts⟩ (c_X9_boardOf_x l D cy A G ws o wide high hD hT hG_o ) (cwV 2 hts gX9_far_X9_boardOf rfl rfl rfl (by decide +kernel) ⟨Nat.le_of_ble_eq_true rfl, Nat.le_of_ble_eq_true rfl⟩) (c_preV hM_o rfl hP hK hA hS hV) rfl rfl hl.1 rfl (lv_room (Nat.le_of_ble_eq_true rfl)) dX9_far_3 ⟨Nat.le_of_ble_eq_true rfl, Nat.le_of_ble_eq_true rfl⟩) hS (fun r3 u H locs q3 hP9 hD9 hT9 hS => ?_)
  obtain ⟨G3, w3⟩ := u
  obtain ⟨hX9, q3⟩ := q3
  have hX9 : cX none (chs [1, 8]) G ws G3 w3 := hX9
  have hP : va_P D vwCl w3 H := hP9
  have hD : va_D A w3 := hD9
  have hT : cT cy G3 w3 := hT9
  have hM_o := hX9.2.1 _ _ (cP.no hG_o rfl) hM_o
  have hG_o := hX9.1 _ _ hG_o
  have hG_bs_o := hX9.1 _ _ hG_bs_o
  have hG_js_o := hX9.1 _ _ hG_js_o
  have hG_sh_o := hX9.1 _ _ hG_sh_o
  have hG_wk_o := hX9.1 _ _ hG_wk_o
  have hG_ll_o := hX9.1 _ _ hG_ll_o
  have hmo_o := fun x9 z9 => hX9.1 _ _ (hmo_o x9 z9)
  have hlb_o : ∀ x9, lb_o = some x9 → ∃ w9 h9, _ = some (2, w9, h9) := fun x9 z9 => (hlb_o x9 z9).elim fun w9 z9 => z9.elim fun h9 z9 => ⟨w9, h9, hX9.1 _ _ z9⟩
  have hX := hX.tr (hX9.wk (chs_sub (by decide)))
  rcases r3 with _ | x3
  · skip
    have vn3 := q3.2.1 rfl
    refine lv_astoreN (lv' := [(7, .null), (0, .ref o), (1, .int wide), (2, .int high), (3, .long p0), (5, .long p1)]) hx hb dX9_far_6 hl (by decide) rfl (fun ls hl => ?_)
    refine lv_aloadN hx hb dX9_far_8 (lv_at hl 0 rfl) ?_
    refine lv_ifnullN (tgt := 32) hx hb dX9_far_10 (by decide) ?_
    refine lv_iconst (v := (-1)) hx hb dX9_far_32 (by decide) ?_
    refine W.toV (k := 4) (n := 502) ?_
    refine W.widen (k := 4) (n := 502) (Nat.le_of_ble_eq_true rfl) (Nat.le_of_ble_eq_true rfl) ?_
    exact W.iret (v := ((-1) : Int32)) hx hb hr (fun t ht hW => ⟨⟨_, (G3, w3), rfl, ⟨hX, ⟨(Or.inl ⟨rfl, rfl, (by first | exact hM_o | (rw [hopt]; exact hM_o))⟩), (Or.inl ⟨(fun z9 => by first | exact vn3 z9.1.1 | exact b19 z9.1.2 | exact b29 z9.2.2), rfl⟩)⟩⟩, by show va_P D vwCl w3 t.heap; rw [ht]; exact hP, hD, hT⟩, hS.F ht⟩) hS.2.2 dX9_far_33
  · skip
    have hG_x3 := q3.1 x3 rfl
    have vb3 := q3.2.2 x3 rfl
    refine lv_astore (lv' := [(7, .ref x3), (0, .ref o), (1, .int wide), (2, .int high), (3, .long p0), (5, .long p1)]) hx hb dX9_far_6 hl (by decide) rfl (fun ls hl => ?_)
    refine lv_aload hx hb dX9_far_8 (lv_at hl 0 rfl) ?_
    refine lv_ifnull hx hb dX9_far_10 ?_
    refine lv_aload hx hb dX9_far_13 (lv_at hl 0 rfl) ?_
    refine lv_lload_n hx hb dX9_far_15 rfl (lv_at hl 4 rfl) ?_
    obtain ⟨_, hM_x3, hb_x3, l_x3, f_x3, r_x3, rfl, hG_l_x3, hG_f_x3, hG_r_x3⟩ := hT _ _ hG_x3
    refine t_calli (va_runV (g := F0 m 16 ls ([.long p0, .ref x3])) (As := [.long p0]) (rest := []) ⟨hx, hb, hml, hown, hts⟩ (c_X0_isPicture_x l D cy A G3 w3 x3 p0 hD hT hG_x3 ) (cwV 1 hts gX9_far_X0_isPicture rfl rfl rfl (by decide +kernel) ⟨Nat.le_of_ble_eq_true rfl, Nat.le_of_ble_eq_true rfl⟩) (c_preV hM_x3 rfl hP hK hA hS hV) rfl rfl hl.1 rfl (lv_room (Nat.le_of_ble_eq_true rfl)) dX9_far_16 ⟨Nat.le_of_ble_eq_true rfl, Nat.le_of_ble_eq_true rfl⟩) hS (fun r16 u H locs q16 hP9 hD9 hT9 hS => ?_)
    obtain ⟨rfl, q16⟩ := q16
    have hP : va_P D vwCl w3 H := hP9
    refine lv_if_eq (tgt := 32) hx hb dX9_far_19 (by decide) (fun c19 => ?_) (fun c19 => ?_)
    · skip
      have b19 := bo_f q16 c19
      refine lv_iconst (v := (-1)) hx hb dX9_far_32 (by decide) ?_
      refine W.toV (k := 4) (n := 502) ?_
      refine W.widen (k := 4) (n := 502) (Nat.le_of_ble_eq_true rfl) (Nat.le_of_ble_eq_true rfl) ?_
      exact W.iret (v := ((-1) : Int32)) hx hb hr (fun t ht hW => ⟨⟨_, (G3, w3), rfl, ⟨hX, ⟨(Or.inl ⟨rfl, rfl, (by first | exact hM_o | (rw [hopt]; exact hM_o))⟩), (Or.inl ⟨(fun z9 => by first | exact vn3 z9.1.1 | exact b19 z9.1.2 | exact b29 z9.2.2), rfl⟩)⟩⟩, by show va_P D vwCl w3 t.heap; rw [ht]; exact hP, hD, hT⟩, hS.F ht⟩) hS.2.2 dX9_far_33
    · skip
      have b19 := bo_t q16 c19
      refine lv_aload hx hb dX9_far_22 (lv_at hl 0 rfl) ?_
      refine lv_lload hx hb dX9_far_24 (lv_at hl 5 rfl) ?_
      refine t_calli (va_runV (g := F0 m 26 ls ([.long p1, .ref x3])) (As := [.long p1]) (rest := []) ⟨hx, hb, hml, hown, hts⟩ (c_X0_isPicture_x l D cy A G3 w3 x3 p1 hD hT hG_x3 ) (cwV 1 hts gX9_far_X0_isPicture rfl rfl rfl (by decide +kernel) ⟨Nat.le_of_ble_eq_true rfl, Nat.le_of_ble_eq_true rfl⟩) (c_preV hM_x3 rfl hP hK hA hS hV) rfl rfl hl.1 rfl (lv_room (Nat.le_of_ble_eq_true rfl)) dX9_far_26 ⟨Nat.le_of_ble_eq_true rfl, Nat.le_of_ble_eq_true rfl⟩) hS (fun r26 u H locs q26 hP9 hD9 hT9 hS => ?_)
      obtain ⟨rfl, q26⟩ := q26
      have hP : va_P D vwCl w3 H := hP9
      refine lv_if_ne (tgt := 34) hx hb dX9_far_29 (by decide) (fun c29 => ?_) (fun c29 => ?_)
      · skip
        have b29 := bo_t q26 c29
        refine lv_aload hx hb dX9_far_34 (lv_at hl 0 rfl) ?_
        refine lv_lload_n hx hb dX9_far_36 rfl (lv_at hl 4 rfl) ?_
        refine lv_lload hx hb dX9_far_37 (lv_at hl 5 rfl) ?_
        refine lv_iconst (v := 3) hx hb dX9_far_39 (by decide) ?_
        refine t_calli (va_runV (g := F0 m 40 ls ([.int (3 : Int32), .long p1, .long p0, .ref x3])) (As := [.long p0, .long p1, .int (3 : Int32)]) (rest := []) ⟨hx, hb, hml, hown, hts⟩ (c_X0_firstUnlikeWay_x l D cy A G3 w3 x3 p0 p1 (3 : Int32) hD hT hG_x3 ) (cwV 3 hts gX9_far_X0_firstUnlikeWay rfl rfl rfl (by decide +kernel) ⟨Nat.le_of_ble_eq_true rfl, Nat.le_of_ble_eq_true rfl⟩) (c_preV hM_x3 rfl hP hK hA hS hV) rfl rfl hl.1 rfl (lv_room (Nat.le_of_ble_eq_true rfl)) dX9_far_40 ⟨Nat.le_of_ble_eq_true rfl, Nat.le_of_ble_eq_true rfl⟩) hS (fun r40 u H locs q40 hP9 hD9 hT9 hS => ?_)
        obtain ⟨rfl, q40⟩ := q40
        have hP : va_P D vwCl w3 H := hP9
        refine lv_if_lt (tgt := 49) hx hb dX9_far_43 (by decide) (fun c43 => ?_) (fun c43 => ?_)
        · skip
          have d43 := c43
          rw [fa_lt] at d43
          have al9 : alike wide.toNatClampNeg high.toNatClampNeg p0 p1 0 ∧ alike wide.toNatClampNeg high.toNatClampNeg p0 p1 1 := by rcases q40 with ⟨k9, h9, e9, z9⟩ | ⟨e9, z9⟩; (exfalso; have z8 : (nI k9).toInt = (k9 : Int) := nI_toInt (by omega); rw [e9] at d43; omega); exact ⟨Classical.byContradiction fun y9 => z9 0 (by omega) ⟨by decide, y9⟩, Classical.byContradiction fun y9 => z9 1 (by omega) ⟨by decide, y9⟩⟩
          have m36_9 := (wh36 vb3.1 vb3.2).2.2.1
          refine lv_lload_n hx hb dX9_far_49 rfl (lv_at hl 4 rfl) ?_
          refine lv_lload hx hb dX9_far_50 (lv_at hl 5 rfl) ?_
          refine W.lcmp hx hb dX9_far_52 ?_
          refine lv_if_ne (tgt := 58) hx hb dX9_far_53 (by decide) (fun c53 => ?_) (fun c53 => ?_)
          · skip
            have d53 := c53
            rw [lg_cmp_eq, fa_eq64] at d53
            refine lv_aload_n hx hb dX9_far_58 rfl (lv_at hl 1 rfl) ?_
            have hoq : mo_o = none ∨ ∃ x, mo_o = some x := by cases mo_o; exact Or.inl rfl; exact Or.inr ⟨_, rfl⟩
            rcases hoq with hopt | ⟨x59, hopt⟩
            · skip
              rw [hopt] at hM_o
              have hM_o : cIn w3 o (.inr (8, [.ref bs_o, .ref js_o, .int jc_o, .ref sh_o, .ref wk_o, .null, .ref ll_o, .int lc_o, va_rf lb_o])) := hM_o
              refine t_get (v := .null) (C := RX9) (T := TX9) (N := 9) hx hb hts (by decide +kernel) hown hK hP hM_o rfl 5 (by decide) (hts (.fieldLink RX9 38 "ShadowBench" "meetings" "LShadowBench$Meetings;") (by decide +kernel)) (fun _ h9 => h9) rfl dX9_far_59 ?_
              refine lv_ifnonnullN hx hb dX9_far_62 ?_
              refine lv_aload_n hx hb dX9_far_65 rfl (lv_at hl 1 rfl) ?_
              refine t_new (C := RX6) (T := TX6) (N := 3) (ci := 5) (ty0 := tyX6) (fs := [.null, .int 0, .null]) hx hb hts (by decide +kernel) tyX6_ok hown (hts (.classLink RX9 187 RX6) (by decide +kernel)) (hts (.instantiable RX6 3) (by decide +kernel)) (hts (.initialized RX6) (by decide +kernel)) hK hP hD hS hA hT rfl (by decide +kernel) (Nat.le_of_ble_eq_true rfl) (Nat.le_of_ble_eq_true rfl) dX9_far_66 (fun q66 H w66 hM_q66 hO_q66 hF66 hX66 hk66 hP hD hT hS => ?_)
              have hN_q66 := hX.new0 hO_q66 hF66
              have hM_o := hk66 _ _ hM_o
              have hM_x3 := hk66 _ _ hM_x3
              have hX := hX.tr (hX66 _ _)
              refine lv_dup hx hb dX9_far_69 rfl ?_
              refine t_callv (va_runIN (g := F0 m 70 ls ([.ref q66, .ref q66, .ref o])) (As := []) (rest := [.ref q66, .ref o]) (b := q66) ⟨hx, hb, hml, hown, hts⟩ (c_X6_init l D cy A G3 w66 q66 hD hT hO_q66 hM_q66 ) ⟨va_cnB 0 hts gX9_far_X6_init_n189 rfl rfl rfl hV.1.2.2.1 (hts (.initialized RX6) (by decide +kernel)) (by decide +kernel) ⟨Nat.le_of_ble_eq_true rfl, Nat.le_of_ble_eq_true rfl⟩, rfl, hts (.instanceMethod yX6_init) (by decide +kernel)⟩ (c_preS hP hK hA hS hV) rfl rfl hl.1 rfl (lv_room (Nat.le_of_ble_eq_true rfl)) dX9_far_70 ⟨Nat.le_of_ble_eq_true rfl, Nat.le_of_ble_eq_true rfl⟩) hS (fun u H locs q70 hP9 hD9 hT9 hS => ?_)
              obtain ⟨G70, w70⟩ := u
              obtain ⟨hX9, q70⟩ := q70
              have hX9 : cX (some q66) (chs []) G3 w66 G70 w70 := hX9
              have hP : va_P D vwCl w70 H := hP9
              have hD : va_D A w70 := hD9
              have hT : cT cy G70 w70 := hT9
              have hM_o := hX9.2.1 _ _ (cP.no1 (Ne.symm (cne0 hO_q66 hG_o)) hG_o rfl) hM_o
              have hM_x3 := hX9.2.1 _ _ (cP.no1 (Ne.symm (cne0 hO_q66 hG_x3)) hG_x3 rfl) hM_x3
              have hG_o := hX9.1 _ _ hG_o
              have hG_bs_o := hX9.1 _ _ hG_bs_o
              have hG_js_o := hX9.1 _ _ hG_js_o
              have hG_sh_o := hX9.1 _ _ hG_sh_o
              have hG_wk_o := hX9.1 _ _ hG_wk_o
              have hG_ll_o := hX9.1 _ _ hG_ll_o
              have hG_x3 := hX9.1 _ _ hG_x3
              have hG_l_x3 := hX9.1 _ _ hG_l_x3
              have hG_f_x3 := hX9.1 _ _ hG_f_x3
              have hG_r_x3 := hX9.1 _ _ hG_r_x3
              have hlb_o : ∀ x9, lb_o = some x9 → ∃ w9 h9, _ = some (2, w9, h9) := fun x9 z9 => (hlb_o x9 z9).elim fun w9 z9 => z9.elim fun h9 z9 => ⟨w9, h9, hX9.1 _ _ z9⟩
              have hG_q66 : G70 q66 = some (6, 0, 0) := q70.1
              have q70 := q70.2
              have hX := hX.trN hN_q66 (hX9.wk (chs_sub (by decide)))
              refine t_put (v := .ref q66) (C := RX9) (T := TX9) (N := 9) (ty0 := tyX9) hx hb hts (by decide +kernel) tyX9_ok nmX9 hown hK hP hD hS hM_o rfl 5 (by decide) (hts (.fieldLink RX9 38 "ShadowBench" "meetings" "LShadowBench$Meetings;") (by decide +kernel)) (fun _ h9 => h9) rfl rfl rfl (Nat.le_of_ble_eq_true rfl) dX9_far_73 (fun H locs w73 hU73 hP hD hS => ?_)
              have hM_x3 := hU73.2 _ _ (cne hG_x3 hG_o (show (2 : Nat) ≠ 7 by decide)) hM_x3
              have hT := hT.up hU73 hG_o ⟨_, _, _, _, _, _, _, (some q66), lb_o, rfl, ⟨by omega, by omega⟩, ⟨by omega, by omega⟩, hG_bs_o, hG_js_o, hG_sh_o, hG_wk_o, (fun _ z => Option.some.inj z ▸ hG_q66), hG_ll_o, hlb_o⟩
              have hM_o : cIn w73 o (.inr (8, [.ref bs_o, .ref js_o, .int jc_o, .ref sh_o, .ref wk_o, .ref q66, .ref ll_o, .int lc_o, va_rf lb_o])) := hU73.1
              have hX := hX.tr (cX.up hU73 (Or.inr ⟨_, hG_o, rfl⟩))
              refine lv_aload_n hx hb dX9_far_76 rfl (lv_at hl 1 rfl) ?_
              refine t_get (v := .ref q66) (C := RX9) (T := TX9) (N := 9) hx hb hts (by decide +kernel) hown hK hP hM_o rfl 5 (by decide) (hts (.fieldLink RX9 38 "ShadowBench" "meetings" "LShadowBench$Meetings;") (by decide +kernel)) (fun _ h9 => h9) rfl dX9_far_77 ?_
              obtain ⟨_, hM_q66, a_q66, b_q66, z_q66, rfl, hz_q66, hG_a_q66, hG_b_q66⟩ := hT _ _ hG_q66
              obtain ⟨zn9, hzn9⟩ : ∃ z9 : Nat, z_q66 = nI z9 := ⟨z_q66.toNatClampNeg, (cl_nI hz_q66.1).symm⟩
              rw [hzn9] at hM_q66
              obtain ⟨fm9, hM_a_q66⟩ := cLa hT (Or.inl rfl) hG_a_q66
              obtain ⟨fs9, hM_b_q66⟩ := cIa hT (Or.inl rfl) hG_b_q66
              refine lv_aload hx hb dX9_far_80 (lv_at hl 0 rfl) ?_
              refine lv_lload_n hx hb dX9_far_82 rfl (lv_at hl 4 rfl) ?_
              refine lv_lload hx hb dX9_far_83 (lv_at hl 5 rfl) ?_
              refine t_calli (va_runV (g := F0 m 85 ls ([.long p1, .long p0, .ref x3, .ref q66])) (As := [.ref x3, .long p0, .long p1]) (rest := []) ⟨hx, hb, hml, hown, hts⟩ (c_X6_fewestSwitches_x l D cy A G70 w73 q66 x3 p0 p1 hD hT hG_q66 hM_q66 hG_x3 hM_a_q66 hM_b_q66 (hiZ_p m36_9 b19) (hiZ_p m36_9 b29) al9.1 al9.2 (fun z9 => c53 ((lg_cmp_eq _ _).mpr z9))) (cwV 3 hts gX9_far_X6_fewestSwitches rfl rfl rfl (by decide +kernel) ⟨Nat.le_of_ble_eq_true rfl, Nat.le_of_ble_eq_true rfl⟩) (c_preV hM_q66 rfl hP hK hA hS hV) rfl rfl hl.1 rfl (lv_room (Nat.le_of_ble_eq_true rfl)) dX9_far_85 ⟨Nat.le_of_ble_eq_true rfl, Nat.le_of_ble_eq_true rfl⟩) hS (fun r85 u H locs q85 hP9 hD9 hT9 hS => ?_)
              obtain ⟨w85, rfl, hF85, q85⟩ := q85
              have hP : va_P D vwCl w85 H := hP9
              have hD : va_D A w85 := hD9
              have hT : cT cy G70 w85 := hT9
              have hM_o := hF85 _ _ (fun z9 => z9.elim (cne hG_o hG_q66 (show (7 : Nat) ≠ 6 by decide)) (fun z9 => z9.elim (cne hG_o hG_a_q66 (show (7 : Nat) ≠ 1 by decide)) (cne hG_o hG_b_q66 (show (7 : Nat) ≠ 0 by decide)))) hM_o
              have hM_x3 := hF85 _ _ (fun z9 => z9.elim (cne hG_x3 hG_q66 (show (2 : Nat) ≠ 6 by decide)) (fun z9 => z9.elim (cne hG_x3 hG_a_q66 (show (2 : Nat) ≠ 1 by decide)) (cne hG_x3 hG_b_q66 (show (2 : Nat) ≠ 0 by decide)))) hM_x3
              have hX := hX.tr ⟨cE.rf, hF85.wk (fun b9 z9 => by rcases z9 with rfl | rfl | rfl; exact (Or.inr ⟨_, hG_q66, rfl⟩); exact (Or.inr ⟨_, hG_a_q66, rfl⟩); exact (Or.inr ⟨_, hG_b_q66, rfl⟩)), fun _ _ h9 => Or.inl h9⟩
              refine W.toV (k := 7) (n := 53273) ?_
              refine W.widen (k := 7) (n := 53273) (Nat.le_of_ble_eq_true rfl) (Nat.le_of_ble_eq_true rfl) ?_
              exact W.iret (v := r85) hx hb hr (fun t ht hW => ⟨⟨_, (G70, w85), rfl, ⟨hX, ⟨(Or.inr ⟨rfl, rfl, (by first | exact hopt | assumption), _, hM_o⟩), (Or.inr ⟨⟨⟨vb3, b19⟩, vb3, b29⟩, Or.inr ⟨al9, Or.inr ⟨(fun z9 => c53 ((lg_cmp_eq _ _).mpr z9)), q85⟩⟩⟩)⟩⟩, by show va_P D vwCl w85 t.heap; rw [ht]; exact hP, hD, hT⟩, hS.F ht⟩) hS.2.2 dX9_far_88
            · skip
              have hG_x59 := hmo_o x59 hopt
              rw [hopt] at hM_o
              have hM_o : cIn w3 o (.inr (8, [.ref bs_o, .ref js_o, .int jc_o, .ref sh_o, .ref wk_o, .ref x59, .ref ll_o, .int lc_o, va_rf lb_o])) := hM_o
              refine t_get (v := .ref x59) (C := RX9) (T := TX9) (N := 9) hx hb hts (by decide +kernel) hown hK hP hM_o rfl 5 (by decide) (hts (.fieldLink RX9 38 "ShadowBench" "meetings" "LShadowBench$Meetings;") (by decide +kernel)) (fun _ h9 => h9) rfl dX9_far_59 ?_
              refine lv_ifnonnull (tgt := 76) hx hb dX9_far_62 (by decide) ?_
              refine lv_aload_n hx hb dX9_far_76 rfl (lv_at hl 1 rfl) ?_
              refine t_get (v := .ref x59) (C := RX9) (T := TX9) (N := 9) hx hb hts (by decide +kernel) hown hK hP hM_o rfl 5 (by decide) (hts (.fieldLink RX9 38 "ShadowBench" "meetings" "LShadowBench$Meetings;") (by decide +kernel)) (fun _ h9 => h9) rfl dX9_far_77 ?_
              obtain ⟨_, hM_x59, a_x59, b_x59, z_x59, rfl, hz_x59, hG_a_x59, hG_b_x59⟩ := hT _ _ hG_x59
              obtain ⟨zn9, hzn9⟩ : ∃ z9 : Nat, z_x59 = nI z9 := ⟨z_x59.toNatClampNeg, (cl_nI hz_x59.1).symm⟩
              rw [hzn9] at hM_x59
              obtain ⟨fm9, hM_a_x59⟩ := cLa hT (Or.inl rfl) hG_a_x59
              obtain ⟨fs9, hM_b_x59⟩ := cIa hT (Or.inl rfl) hG_b_x59
              refine lv_aload hx hb dX9_far_80 (lv_at hl 0 rfl) ?_
              refine lv_lload_n hx hb dX9_far_82 rfl (lv_at hl 4 rfl) ?_
              refine lv_lload hx hb dX9_far_83 (lv_at hl 5 rfl) ?_
              refine t_calli (va_runV (g := F0 m 85 ls ([.long p1, .long p0, .ref x3, .ref x59])) (As := [.ref x3, .long p0, .long p1]) (rest := []) ⟨hx, hb, hml, hown, hts⟩ (c_X6_fewestSwitches_x l D cy A G3 w3 x59 x3 p0 p1 hD hT hG_x59 hM_x59 hG_x3 hM_a_x59 hM_b_x59 (hiZ_p m36_9 b19) (hiZ_p m36_9 b29) al9.1 al9.2 (fun z9 => c53 ((lg_cmp_eq _ _).mpr z9))) (cwV 3 hts gX9_far_X6_fewestSwitches rfl rfl rfl (by decide +kernel) ⟨Nat.le_of_ble_eq_true rfl, Nat.le_of_ble_eq_true rfl⟩) (c_preV hM_x59 rfl hP hK hA hS hV) rfl rfl hl.1 rfl (lv_room (Nat.le_of_ble_eq_true rfl)) dX9_far_85 ⟨Nat.le_of_ble_eq_true rfl, Nat.le_of_ble_eq_true rfl⟩) hS (fun r85 u H locs q85 hP9 hD9 hT9 hS => ?_)
              obtain ⟨w85, rfl, hF85, q85⟩ := q85
              have hP : va_P D vwCl w85 H := hP9
              have hD : va_D A w85 := hD9
              have hT : cT cy G3 w85 := hT9
              have hM_o := hF85 _ _ (fun z9 => z9.elim (cne hG_o hG_x59 (show (7 : Nat) ≠ 6 by decide)) (fun z9 => z9.elim (cne hG_o hG_a_x59 (show (7 : Nat) ≠ 1 by decide)) (cne hG_o hG_b_x59 (show (7 : Nat) ≠ 0 by decide)))) hM_o
              have hM_x3 := hF85 _ _ (fun z9 => z9.elim (cne hG_x3 hG_x59 (show (2 : Nat) ≠ 6 by decide)) (fun z9 => z9.elim (cne hG_x3 hG_a_x59 (show (2 : Nat) ≠ 1 by decide)) (cne hG_x3 hG_b_x59 (show (2 : Nat) ≠ 0 by decide)))) hM_x3
              have hX := hX.tr ⟨cE.rf, hF85.wk (fun b9 z9 => by rcases z9 with rfl | rfl | rfl; exact (Or.inr ⟨_, hG_x59, rfl⟩); exact (Or.inr ⟨_, hG_a_x59, rfl⟩); exact (Or.inr ⟨_, hG_b_x59, rfl⟩)), fun _ _ h9 => Or.inl h9⟩
              refine W.toV (k := 4) (n := 502) ?_
              refine W.widen (k := 4) (n := 502) (Nat.le_of_ble_eq_true rfl) (Nat.le_of_ble_eq_true rfl) ?_
              exact W.iret (v := r85) hx hb hr (fun t ht hW => ⟨⟨_, (G3, w85), rfl, ⟨hX, ⟨(Or.inl ⟨rfl, rfl, (by first | exact hM_o | (rw [hopt]; exact hM_o))⟩), (Or.inr ⟨⟨⟨vb3, b19⟩, vb3, b29⟩, Or.inr ⟨al9, Or.inr ⟨(fun z9 => c53 ((lg_cmp_eq _ _).mpr z9)), q85⟩⟩⟩)⟩⟩, by show va_P D vwCl w85 t.heap; rw [ht]; exact hP, hD, hT⟩, hS.F ht⟩) hS.2.2 dX9_far_88
          · skip
            have d53 := c53
            rw [lg_cmp_eq, fa_eq64] at d53
            refine lv_iconst (v := 0) hx hb dX9_far_56 (by decide) ?_
            refine W.toV (k := 4) (n := 502) ?_
            refine W.widen (k := 4) (n := 502) (Nat.le_of_ble_eq_true rfl) (Nat.le_of_ble_eq_true rfl) ?_
            exact W.iret (v := (0 : Int32)) hx hb hr (fun t ht hW => ⟨⟨_, (G3, w3), rfl, ⟨hX, ⟨(Or.inl ⟨rfl, rfl, (by first | exact hM_o | (rw [hopt]; exact hM_o))⟩), (Or.inr ⟨⟨⟨vb3, b19⟩, vb3, b29⟩, Or.inr ⟨al9, Or.inl ⟨(lg_cmp_eq _ _).mp c53, rfl⟩⟩⟩)⟩⟩, by show va_P D vwCl w3 t.heap; rw [ht]; exact hP, hD, hT⟩, hS.F ht⟩) hS.2.2 dX9_far_57
        · skip
          have d43 := c43
          rw [fa_lt] at d43
          refine lv_bipush (v := (-2)) hx hb dX9_far_46 (by decide) ?_
          refine W.toV (k := 4) (n := 502) ?_
          refine W.widen (k := 4) (n := 502) (Nat.le_of_ble_eq_true rfl) (Nat.le_of_ble_eq_true rfl) ?_
          exact W.iret (v := ((-2) : Int32)) hx hb hr (fun t ht hW => ⟨⟨_, (G3, w3), rfl, ⟨hX, ⟨(Or.inl ⟨rfl, rfl, (by first | exact hM_o | (rw [hopt]; exact hM_o))⟩), (Or.inr ⟨⟨⟨vb3, b19⟩, vb3, b29⟩, Or.inl ⟨(fun y9 => by rcases q40 with ⟨k9, h9, e9, z9, -⟩ | ⟨e9, z9⟩; (rcases k01 k9 h9 z9.1 with y8 | y8; (rw [y8] at z9; exact z9.2 y9.1); (rw [y8] at z9; exact z9.2 y9.2)); (exfalso; rw [e9] at d43; have z8 : (-1 : Int32).toInt = -1 := rfl; omega)), rfl⟩⟩)⟩⟩, by show va_P D vwCl w3 t.heap; rw [ht]; exact hP, hD, hT⟩, hS.F ht⟩) hS.2.2 dX9_far_48
      · skip
        have b29 := bo_f q26 c29
        refine lv_iconst (v := (-1)) hx hb dX9_far_32 (by decide) ?_
        refine W.toV (k := 4) (n := 502) ?_
        refine W.widen (k := 4) (n := 502) (Nat.le_of_ble_eq_true rfl) (Nat.le_of_ble_eq_true rfl) ?_
        exact W.iret (v := ((-1) : Int32)) hx hb hr (fun t ht hW => ⟨⟨_, (G3, w3), rfl, ⟨hX, ⟨(Or.inl ⟨rfl, rfl, (by first | exact hM_o | (rw [hopt]; exact hM_o))⟩), (Or.inl ⟨(fun z9 => by first | exact vn3 z9.1.1 | exact b19 z9.1.2 | exact b29 z9.2.2), rfl⟩)⟩⟩, by show va_P D vwCl w3 t.heap; rw [ht]; exact hP, hD, hT⟩, hS.F ht⟩) hS.2.2 dX9_far_33

/-- the reference's places as a table: below 0 is free -/
def ocR (pl : Nat → Int32) (k : Nat) : Option Nat := if (pl k).toInt < 0 then none else some (pl k).toNatClampNeg
def hR (p : Int64) : Nat := (((((p * (-7046029254386353131 : Int64)).toUInt64 >>> ((48 : Int32).toInt64.toUInt64 &&& Int64.toUInt64 63)).toInt64)).toInt32).toNatClampNeg
theorem hR_lt (p : Int64) : hR p < 65536 := by
  have b := ush48 (p * (-7046029254386353131 : Int64))
  have e := m_cl b.1
  unfold hR
  omega
theorem ocR_n {pl : Nat → Int32} {k : Nat} (h : (pl k).toInt < 0) : ocR pl k = none := by unfold ocR; rw [if_pos h]
theorem ocR_s {pl : Nat → Int32} {k : Nat} (h : ¬ (pl k).toInt < 0) : ocR pl k = some (pl k).toNatClampNeg := by unfold ocR; rw [if_neg h]
theorem tbR_add {pl : Nat → Int32} {rr : Nat → Int64} {n k : Nat} {p : Int64} {v : Int32} (h : tabOk 65536 hR (ocR pl) rr n) (hv : v.toInt = (n : Int)) (ho : ocR pl k = none) (hno : ∀ i, i < n → rr i ≠ p) (hp : ∃ t, t < 65536 ∧ k = (hR p + t) % 65536 ∧ ∀ t', t' < t → ocR pl ((hR p + t') % 65536) ≠ none) : tabOk 65536 hR (ocR (upd pl k v)) (vp_updL rr n p) (n + 1) := by
  have cv := m_cl (x := v) (by omega)
  refine tab_add h ho hno hp (fun i hi => by unfold vp_updL; rw [if_neg (by omega)]) (by unfold vp_updL; rw [if_pos rfl]) ?_ (fun e he hne => ?_)
  · have e2 : upd pl k v k = v := by unfold upd; rw [if_pos rfl]
    rw [ocR_s (by rw [e2]; omega), e2]
    congr 1
    omega
  · unfold ocR upd
    rw [if_neg hne]

set_option maxHeartbeats 4000000 in
set_option maxRecDepth 100000 in
theorem c_X10_placeOf_x (l : Launch) (D : va_G) (cy : Nat → ClassId) (mo : Nat) (a : Nat → Nat) (f : Nat → Int32) (g : Nat → Int64) (r : Nat → Nat → Int32) (q : Nat → Nat → Int64) (p0 : Int64) (hD : DM cy mo a) (hp1 : PB (r 21)) (hp2 : ∃ e, e < 65536 ∧ (r 21 e).toInt < 0) : Mi l D cy mo a yX10_placeOf wsX10_placeOf ({ frames := 0, cells := 0, slots := 0, locals := 0 }) f g r q [.long p0] (fun r0 u => u = (f, g, r, q) ∧ ((0 ≤ r0.toInt ∧ r0.toInt < 65536) ∧ ∀ n9, n9 ≤ 20000 → tabOk 65536 hR (ocR (r 21)) (q 19) n9 → tabF 65536 hR (ocR (r 21)) (q 19) n9 p0 r0.toNatClampNeg)) := by
  refine Met.ofW (cc := cX10_placeOf) (maxL := 4) (ret := (some .int)) (by decide) rfl ?_
  intro p e s m args below meth c s₁ B hml hv
  obtain ⟨rfl, hP, hK⟩ := hv
  have hx := B.exec
  have hb := B.bytes
  have hr := B.returns
  have hts := atoms_spec (ws := wsX10_placeOf) B.pre
  have hin : ∀ w ∈ u_ws RX10 TX10 35, w ∈ wsX10_placeOf := by decide +kernel
  have hown : s.vm.findClass RX10 = some m.cls := findClass_of_methodNamed B.named
  have hlocks := B.notSynchronized
  have hS : va_S (AM mo a) s.heap s.heap [] := va_S.rf
  have hl := lv_entry ([.ref mo, .long p0]) (n := 4) (Nat.le_of_ble_eq_true rfl)
  rw [lg_entry_eq]
  generalize (lg_sl ([.ref mo, .long p0]) ++ List.replicate (4 - (lg_sl ([.ref mo, .long p0])).length) Slot.unset).toArray = ls at hl ⊢
  have hl : lv_has ls 4 [(0, .ref mo), (1, .long p0)] := hl
  have k_0 : (0 : Int32).toInt = 0 := by decide
  have k_1 : (1 : Int32).toInt = 1 := by decide
  have k_48 : (48 : Int32).toInt = 48 := by decide
  have k_65536 : (65536 : Int32).toInt = 65536 := by decide
  have k_m7046029254386353131L : (-7046029254386353131 : Int64).toInt = -7046029254386353131 := by decide
  obtain ⟨e0, he0, he1⟩ := hp2
  refine lv_lload_n hx hb dX10_placeOf_0 rfl (lv_at hl 1 rfl) ?_
  refine lv_ldc2 hx hb hown (hts (.constantLong RX10 208 (-7046029254386353131)) (by decide +kernel)) dX10_placeOf_1 ?_
  refine lv_lmul hx hb dX10_placeOf_4 ?_
  refine lv_topl (fun v4 e4 => ?_)
  refine lv_bipush (v := 48) hx hb dX10_placeOf_5 (by decide) ?_
  refine lv_lushr (v := (v4.toUInt64 >>> ((48 : Int32).toInt64.toUInt64 &&& Int64.toUInt64 63)).toInt64) hx hb dX10_placeOf_7 rfl ?_
  refine lv_l2i (v := (((v4.toUInt64 >>> ((48 : Int32).toInt64.toUInt64 &&& Int64.toUInt64 63)).toInt64)).toInt32) hx hb dX10_placeOf_8 rfl ?_
  have u9 := ush48 v4
  refine lv_istore_n (lv' := [(3, .int ((((v4.toUInt64 >>> ((48 : Int32).toInt64.toUInt64 &&& Int64.toUInt64 63)).toInt64)).toInt32)), (0, .ref mo), (1, .long p0)]) hx hb dX10_placeOf_9 rfl hl (by decide) rfl (fun ls hl => ?_)
  have loop_10 : ∀ (n : Nat) (x3 : Int32), (0 ≤ x3.toInt ∧ x3.toInt < 65536) → (∃ t9, t9 < 65536 ∧ x3.toNatClampNeg = (hR p0 + t9) % 65536 ∧ ∀ t8, t8 < t9 → ∃ j9, ocR (r 21) ((hR p0 + t8) % 65536) = some j9 ∧ ¬ q 19 j9 = p0) → (((e0 : Int) - x3.toInt) % 65536).toNat < n → ∀ (H : Heap) (locs : List Loc), va_P D vwCl (WM cy mo a f g r q) H → va_S (AM mo a) s.heap H locs → ∀ (ls : Array Slot), lv_has ls 4 [(3, .int x3), (0, .ref mo), (1, .long p0)] → W p l e (headSpec wsX10_placeOf ({ frames := 0, cells := 0, slots := 0, locals := 0 })).room s m #[Value.ref mo, Value.long p0] below meth c H locs 0 0 (MQ below (va_Qi (fun r0 u => u = (f, g, r, q) ∧ ((0 ≤ r0.toInt ∧ r0.toInt < 65536) ∧ ∀ n9, n9 ≤ 20000 → tabOk 65536 hR (ocR (r 21)) (q 19) n9 → tabF 65536 hR (ocR (r 21)) (q 19) n9 p0 r0.toNatClampNeg)) (mB D cy mo a) (AM mo a)) #[Value.ref mo, Value.long p0] s 0 0 (AM mo a)) (F0 m 10 ls []) := by
    intro n
    induction n with
    | zero => intro x3  j10_0 j10_1 hn; exact absurd hn (Nat.not_lt_zero _)
    | succ n ih_10 =>
      intro x3  j10_0 j10_1 hn_10 H locs hP hS ls hl
      refine lv_aload_n hx hb dX10_placeOf_10 rfl (lv_at hl 1 rfl) ?_
      refine m_get (v := .ref (a 21)) hx hb hts hin hown hK hP 21 (by decide) rfl (hts (.fieldLink RX10 49 "ShadowBenchModel" "place" "[I") (by decide +kernel)) rfl dX10_placeOf_11 ?_
      refine lv_iload_n hx hb dX10_placeOf_14 rfl (lv_at hl 0 rfl) ?_
      refine m_iald (w := (r 21)) hx hb hK hP 13 rfl (vp_in_iff.mpr ⟨by omega, by omega⟩) dX10_placeOf_15 ?_
      refine lv_topi (fun v15 e15 => ?_)
      have i15 : v15.toInt = ((r 21) x3.toNatClampNeg).toInt := congrArg Int32.toInt e15
      have t15 := pb_at hp1 (x := x3) (by omega) (by omega) e15
      refine lv_if_lt (tgt := 45) hx hb dX10_placeOf_16 (by decide) (fun c16 => ?_) (fun c16 => ?_)
      · skip
        have d16 := c16
        rw [fa_lt] at d16
        refine lv_iload_n hx hb dX10_placeOf_45 rfl (lv_at hl 0 rfl) ?_
        exact W.iret (v := x3) hx hb hr (fun t ht hW => ⟨⟨_, (f, g, r, q), rfl, ⟨rfl, (by refine ⟨by omega, fun n9 hn9 ht9 => ?_⟩; obtain ⟨t9, h1, h2, h3⟩ := j10_1; exact tab_srch ht9 h1 h2 h3 (by first | exact Or.inr ⟨v28.toNatClampNeg, (by rw [ocR_s (by rw [← e15]; omega), ← e15]), (e29.symm.trans ((lg_cmp_eq _ _).mp c32))⟩ | exact Or.inl (ocR_n (by rw [← e15]; omega))))⟩, by unfold mB; rw [ht]; exact hP⟩, hS.F ht⟩) hS.2.2 dX10_placeOf_46
      · skip
        have d16 := c16
        rw [fa_lt] at d16
        have z16 : x3.toInt ≠ (e0 : Int) := by
          intro z
          have z1 := m_cl (x := x3) (by omega)
          have z2 : x3.toNatClampNeg = e0 := by omega
          rw [z2] at i15
          omega
        refine lv_aload_n hx hb dX10_placeOf_19 rfl (lv_at hl 1 rfl) ?_
        refine m_get (v := .ref (a 19)) hx hb hts hin hown hK hP 19 (by decide) rfl (hts (.fieldLink RX10 41 "ShadowBenchModel" "row" "[J") (by decide +kernel)) rfl dX10_placeOf_20 ?_
        refine lv_aload_n hx hb dX10_placeOf_23 rfl (lv_at hl 1 rfl) ?_
        refine m_get (v := .ref (a 21)) hx hb hts hin hown hK hP 21 (by decide) rfl (hts (.fieldLink RX10 49 "ShadowBenchModel" "place" "[I") (by decide +kernel)) rfl dX10_placeOf_24 ?_
        refine lv_iload_n hx hb dX10_placeOf_27 rfl (lv_at hl 0 rfl) ?_
        refine m_iald (w := (r 21)) hx hb hK hP 13 rfl (vp_in_iff.mpr ⟨by omega, by omega⟩) dX10_placeOf_28 ?_
        refine lv_topi (fun v28 e28 => ?_)
        have i28 : v28.toInt = ((r 21) x3.toNatClampNeg).toInt := congrArg Int32.toInt e28
        have t28 := pb_at hp1 (x := x3) (by omega) (by omega) e28
        have y28 : v28 = v15 := e28.trans e15.symm
        subst y28
        refine m_lald (w := (q 19)) hx hb hK hP 11 rfl (vp_in_iff.mpr ⟨by omega, by omega⟩) dX10_placeOf_29 ?_
        refine lv_topl (fun v29 e29 => ?_)
        refine lv_lload_n hx hb dX10_placeOf_30 rfl (lv_at hl 2 rfl) ?_
        refine W.lcmp hx hb dX10_placeOf_31 ?_
        refine lv_if_eq (tgt := 45) hx hb dX10_placeOf_32 (by decide) (fun c32 => ?_) (fun c32 => ?_)
        · skip
          have d32 := c32
          rw [lg_cmp_eq, fa_eq64] at d32
          refine lv_iload_n hx hb dX10_placeOf_45 rfl (lv_at hl 0 rfl) ?_
          exact W.iret (v := x3) hx hb hr (fun t ht hW => ⟨⟨_, (f, g, r, q), rfl, ⟨rfl, (by refine ⟨by omega, fun n9 hn9 ht9 => ?_⟩; obtain ⟨t9, h1, h2, h3⟩ := j10_1; exact tab_srch ht9 h1 h2 h3 (by first | exact Or.inr ⟨v28.toNatClampNeg, (by rw [ocR_s (by rw [← e15]; omega), ← e15]), (e29.symm.trans ((lg_cmp_eq _ _).mp c32))⟩ | exact Or.inl (ocR_n (by rw [← e15]; omega))))⟩, by unfold mB; rw [ht]; exact hP⟩, hS.F ht⟩) hS.2.2 dX10_placeOf_46
        · skip
          have d32 := c32
          rw [lg_cmp_eq, fa_eq64] at d32
          refine lv_iload_n hx hb dX10_placeOf_35 rfl (lv_at hl 0 rfl) ?_
          refine lv_iconst (v := 1) hx hb dX10_placeOf_36 (by decide) ?_
          refine lv_iadd hx hb dX10_placeOf_37 ?_
          refine lv_topi (fun v37 e37 => ?_)
          have i37 : v37.toInt = x3.toInt + (1 : Int32).toInt := by rw [e37]; exact fb_addI (by omega) (by omega)
          refine lv_ldc hx hb hown (hts (.constant RX10 48 (65536)) (by decide +kernel)) dX10_placeOf_38 ?_
          refine lv_irem hx hb dX10_placeOf_40 (fun z => by rw [fa_eq] at z; omega) ?_
          refine lv_topi (fun v40 e40 => ?_)
          have i40 : v40.toInt = v37.toInt % (65536 : Int32).toInt := by rw [e40]; exact my_irem (by omega) (by omega)
          have j40 : 0 ≤ v40.toInt ∧ v40.toInt < (65536 : Int32).toInt ∧ v40.toInt ≤ v37.toInt := by rw [e40]; exact my_remb (by omega) (by omega)
          rw [show (65536 : Int32).toInt = 65536 from by decide] at i40 j40
          have f40 : v40.toNatClampNeg = (x3.toNatClampNeg + 1) % 65536 := by
            have y1 := m_cl (x := v40) (by omega)
            have y2 := m_cl (x := x3) (by omega)
            omega
          refine lv_istore_n (lv' := [(3, .int v40), (0, .ref mo), (1, .long p0)]) hx hb dX10_placeOf_41 rfl hl (by decide) rfl (fun ls hl => ?_)
          refine lv_goto (tgt := 10) hx hb dX10_placeOf_42 (by decide) ?_
          exact ih_10 v40 (by omega) (by obtain ⟨t9, h1, h2, h3⟩ := j10_1; have oc9 : ocR (r 21) x3.toNatClampNeg = some v28.toNatClampNeg := (by rw [ocR_s (by rw [← e15]; omega), ← e15]); have ne9 : ¬ q 19 v28.toNatClampNeg = p0 := (fun z9 => c32 ((lg_cmp_eq _ _).mpr (e29.trans z9))); have all9 : ∀ t8, t8 < t9 + 1 → ∃ j9, ocR (r 21) ((hR p0 + t8) % 65536) = some j9 ∧ ¬ q 19 j9 = p0 := (fun t8 h8 => by by_cases z9 : t8 = t9; (rw [z9, ← h2]; exact ⟨_, oc9, ne9⟩); exact h3 t8 (by omega)); refine ⟨t9 + 1, ?_, ?_, all9⟩; (refine Classical.byContradiction fun z9 => ?_; obtain ⟨t7, h5, h6⟩ := rnd_ex (hR_lt p0) he0; obtain ⟨j9, h7, -⟩ := all9 t7 (by omega); rw [h6, ocR_n he1] at h7; cases h7); (rw [f40, h2, Nat.mod_add_mod, Nat.add_assoc])) (by omega) _ _ hP hS ls (lv_sub hl [0, 1, 2] rfl)
  exact loop_10 (65536 + 1) ((((v4.toUInt64 >>> ((48 : Int32).toInt64.toUInt64 &&& Int64.toUInt64 63)).toInt64)).toInt32) (by omega) (⟨0, by decide, (by rw [Nat.add_zero, Nat.mod_eq_of_lt (hR_lt p0)]; unfold hR; rw [e4]), fun t8 h8 => absurd h8 (Nat.not_lt_zero _)⟩) (by omega) _ _ hP hS ls (lv_sub hl [0, 1, 2] rfl)
set_option maxHeartbeats 4000000 in
set_option maxRecDepth 100000 in
theorem c_X10_meet_x (l : Launch) (D : va_G) (cy : Nat → ClassId) (mo : Nat) (a : Nat → Nat) (f : Nat → Int32) (g : Nat → Int64) (r : Nat → Nat → Int32) (q : Nat → Nat → Int64) (q0 : Int64) (far0 : Int32) (to0 : Int64) (hD : DM cy mo a) (hp1 : PB (r 21)) (hm : 1 ≤ (f 22).toInt ∧ (f 22).toInt ≤ 20000) (hc : (ct21 (r 21) : Int) ≤ (f 22).toInt) (ht9 : tabOk 65536 hR (ocR (r 21)) (q 19) (f 22).toNatClampNeg) : Mi l D cy mo a yX10_meet wsX10_meet ({ frames := 1, cells := 0, slots := 0, locals := 23 }) f g r q [.long q0, .int far0, .long to0] (fun r0 u => ∃ (pl : Nat → Int32), ∃ (rr : Nat → Int64), ∃ (st : Nat → Int32), ∃ (mn : Int32), u = ((upd f 22 mn), g, (va_up (va_up r 21 pl) 20 st), (va_up q 19 rr)) ∧ ((PB pl ∧ ((f 22).toInt ≤ mn.toInt ∧ mn.toInt ≤ 20000) ∧ (ct21 pl : Int) ≤ mn.toInt) ∧ (((∃ i, i < (f 22).toNatClampNeg ∧ q 19 i = q0) ∧ r0 = 0 ∧ pl = r 21 ∧ rr = q 19 ∧ st = r 20 ∧ mn = f 22) ∨ (¬ (∃ i, i < (f 22).toNatClampNeg ∧ q 19 i = q0) ∧ (f 22).toInt = 20000 ∧ r0 = -5 ∧ pl = r 21 ∧ rr = q 19 ∧ st = r 20 ∧ mn = f 22) ∨ (¬ (∃ i, i < (f 22).toNatClampNeg ∧ q 19 i = q0) ∧ (f 22).toInt < 20000 ∧ mn.toInt = (f 22).toInt + 1 ∧ tabOk 65536 hR (ocR pl) rr mn.toNatClampNeg ∧ (∀ i, i < (f 22).toNatClampNeg → rr i = q 19 i ∧ st i = r 20 i) ∧ rr (f 22).toNatClampNeg = q0 ∧ st (f 22).toNatClampNeg = far0 ∧ ((q0 = to0 ∧ r0 = far0) ∨ (¬ q0 = to0 ∧ r0 = 0)))))) := by
  refine Met.ofW (cc := cX10_meet) (maxL := 7) (ret := (some .int)) (by decide) rfl ?_
  intro p e s m args below meth c s₁ B hml hv
  obtain ⟨rfl, hP, hK⟩ := hv
  have hx := B.exec
  have hb := B.bytes
  have hr := B.returns
  have hts := atoms_spec (ws := wsX10_meet) B.pre
  have hin : ∀ w ∈ u_ws RX10 TX10 35, w ∈ wsX10_meet := by decide +kernel
  have hown : s.vm.findClass RX10 = some m.cls := findClass_of_methodNamed B.named
  have hlocks := B.notSynchronized
  have hS : va_S (AM mo a) s.heap s.heap [] := va_S.rf
  have hl := lv_entry ([.ref mo, .long q0, .int far0, .long to0]) (n := 7) (Nat.le_of_ble_eq_true rfl)
  rw [lg_entry_eq]
  generalize (lg_sl ([.ref mo, .long q0, .int far0, .long to0]) ++ List.replicate (7 - (lg_sl ([.ref mo, .long q0, .int far0, .long to0])).length) Slot.unset).toArray = ls at hl ⊢
  have hl : lv_has ls 7 [(0, .ref mo), (1, .long q0), (3, .int far0), (4, .long to0)] := hl
  have k_m5 : (-5 : Int32).toInt = -5 := by decide
  have k_0 : (0 : Int32).toInt = 0 := by decide
  have k_1 : (1 : Int32).toInt = 1 := by decide
  have k_20000 : (20000 : Int32).toInt = 20000 := by decide
  have cf9 := m_cl (x := f 22) (by omega)
  refine lv_aload_n hx hb dX10_meet_0 rfl (lv_at hl 0 rfl) ?_
  refine lv_lload_n hx hb dX10_meet_1 rfl (lv_at hl 1 rfl) ?_
  refine m_calli (As := [.long q0]) (rest := []) ⟨hx, hb, hml, hown, hts⟩ (c_X10_placeOf_x l D cy mo a f g r q q0 hD hp1 (ct21_free (by omega))) (cwV 1 hts gX10_meet_X10_placeOf rfl rfl rfl (by decide +kernel) ⟨Nat.le_of_ble_eq_true rfl, Nat.le_of_ble_eq_true rfl⟩) hK hP rfl hl.1 rfl (Nat.le_of_ble_eq_true rfl) dX10_meet_2 ⟨Nat.le_of_ble_eq_true rfl, Nat.le_of_ble_eq_true rfl⟩ hS (fun r2 u H locs q2 hP hS => ?_)
  obtain ⟨rfl, q2⟩ := q2
  have hP : va_P D vwCl (WM cy mo a f g r q) H := hP
  have q2 : (0 ≤ r2.toInt ∧ r2.toInt < 65536) ∧ ∀ n9, n9 ≤ 20000 → tabOk 65536 hR (ocR ((r 21))) ((q 19)) n9 → tabF 65536 hR (ocR ((r 21))) ((q 19)) n9 q0 r2.toNatClampNeg := q2
  refine lv_istore (lv' := [(6, .int r2), (0, .ref mo), (1, .long q0), (3, .int far0), (4, .long to0)]) hx hb dX10_meet_5 hl (by decide) rfl (fun ls hl => ?_)
  refine lv_aload_n hx hb dX10_meet_7 rfl (lv_at hl 1 rfl) ?_
  refine m_get (v := .ref (a 21)) hx hb hts hin hown hK hP 21 (by decide) rfl (hts (.fieldLink RX10 49 "ShadowBenchModel" "place" "[I") (by decide +kernel)) rfl dX10_meet_8 ?_
  refine lv_iload hx hb dX10_meet_11 (lv_at hl 0 rfl) ?_
  refine m_iald (w := (r 21)) hx hb hK hP 13 rfl (vp_in_iff.mpr ⟨by omega, by omega⟩) dX10_meet_13 ?_
  refine lv_topi (fun v13 e13 => ?_)
  have i13 : v13.toInt = ((r 21) r2.toNatClampNeg).toInt := congrArg Int32.toInt e13
  refine lv_if_lt (tgt := 19) hx hb dX10_meet_14 (by decide) (fun c14 => ?_) (fun c14 => ?_)
  · skip
    have d14 := c14
    rw [fa_lt] at d14
    refine lv_aload_n hx hb dX10_meet_19 rfl (lv_at hl 1 rfl) ?_
    refine m_get (v := .int (f 22)) hx hb hts hin hown hK hP 22 (by decide) rfl (hts (.fieldLink RX10 217 "ShadowBenchModel" "many" "I") (by decide +kernel)) rfl dX10_meet_20 ?_
    refine lv_sipush (v := 20000) hx hb dX10_meet_23 (by decide) ?_
    refine lv_icmp_ne (tgt := 32) hx hb dX10_meet_26 (by decide) (fun c26 => ?_) (fun c26 => ?_)
    · skip
      have d26 := c26
      rw [fa_eq] at d26
      have hfr : (r 21 r2.toNatClampNeg).toInt < 0 := by omega
      have hcl := m_cl (x := r2) (by omega)
      have hput := ct21_put (p := r 21) (i := r2.toNatClampNeg) (v := f 22) (by omega) hfr
      refine lv_aload_n hx hb dX10_meet_32 rfl (lv_at hl 1 rfl) ?_
      refine m_get (v := .ref (a 21)) hx hb hts hin hown hK hP 21 (by decide) rfl (hts (.fieldLink RX10 49 "ShadowBenchModel" "place" "[I") (by decide +kernel)) rfl dX10_meet_33 ?_
      refine lv_iload hx hb dX10_meet_36 (lv_at hl 0 rfl) ?_
      refine lv_aload_n hx hb dX10_meet_38 rfl (lv_at hl 1 rfl) ?_
      refine m_get (v := .int (f 22)) hx hb hts hin hown hK hP 22 (by decide) rfl (hts (.fieldLink RX10 217 "ShadowBenchModel" "many" "I") (by decide +kernel)) rfl dX10_meet_39 ?_
      refine m_iast (w := (r 21)) hx hb hK hP hD hS 13 rfl (vp_in_iff.mpr ⟨by omega, by omega⟩) (va_up r 21 (upd (r 21) r2.toNatClampNeg (f 22))) (ms_21 cy mo a _ _ _ _ _) dX10_meet_42 (fun H locs hP hS => ?_)
      refine lv_aload_n hx hb dX10_meet_43 rfl (lv_at hl 1 rfl) ?_
      refine m_get (v := .ref (a 19)) hx hb hts hin hown hK hP 19 (by decide) rfl (hts (.fieldLink RX10 41 "ShadowBenchModel" "row" "[J") (by decide +kernel)) rfl dX10_meet_44 ?_
      refine lv_aload_n hx hb dX10_meet_47 rfl (lv_at hl 1 rfl) ?_
      refine m_get (v := .int (f 22)) hx hb hts hin hown hK hP 22 (by decide) rfl (hts (.fieldLink RX10 217 "ShadowBenchModel" "many" "I") (by decide +kernel)) rfl dX10_meet_48 ?_
      refine lv_lload_n hx hb dX10_meet_51 rfl (lv_at hl 2 rfl) ?_
      refine m_last (w := (q 19)) hx hb hK hP hD hS 11 rfl (vp_in_iff.mpr ⟨by omega, by omega⟩) (va_up q 19 (vp_updL (q 19) (f 22).toNatClampNeg q0)) (ms_19 cy mo a _ _ _ _ _) dX10_meet_52 (fun H locs hP hS => ?_)
      refine lv_aload_n hx hb dX10_meet_53 rfl (lv_at hl 1 rfl) ?_
      refine m_get (v := .ref (a 20)) hx hb hts hin hown hK hP 20 (by decide) rfl (hts (.fieldLink RX10 45 "ShadowBenchModel" "steps" "[I") (by decide +kernel)) rfl dX10_meet_54 ?_
      refine lv_aload_n hx hb dX10_meet_57 rfl (lv_at hl 1 rfl) ?_
      refine m_get (v := .int (f 22)) hx hb hts hin hown hK hP 22 (by decide) rfl (hts (.fieldLink RX10 217 "ShadowBenchModel" "many" "I") (by decide +kernel)) rfl dX10_meet_58 ?_
      refine lv_iload_n hx hb dX10_meet_61 rfl (lv_at hl 3 rfl) ?_
      refine m_iast (w := (r 20)) hx hb hK hP hD hS 12 rfl (vp_in_iff.mpr ⟨by omega, by omega⟩) (va_up (va_up r 21 ((upd (r 21) r2.toNatClampNeg (f 22)))) 20 (upd (r 20) (f 22).toNatClampNeg far0)) (ms_20 cy mo a _ _ _ _ _) dX10_meet_62 (fun H locs hP hS => ?_)
      refine lv_aload_n hx hb dX10_meet_63 rfl (lv_at hl 1 rfl) ?_
      refine lv_dup hx hb dX10_meet_64 rfl ?_
      refine m_get (v := .int (f 22)) hx hb hts hin hown hK hP 22 (by decide) rfl (hts (.fieldLink RX10 217 "ShadowBenchModel" "many" "I") (by decide +kernel)) rfl dX10_meet_65 ?_
      refine lv_iconst (v := 1) hx hb dX10_meet_68 (by decide) ?_
      refine lv_iadd hx hb dX10_meet_69 ?_
      refine lv_topi (fun v69 e69 => ?_)
      have i69 : v69.toInt = (f 22).toInt + (1 : Int32).toInt := by rw [e69]; exact fb_addI (by omega) (by omega)
      have cm0 := m_cl (x := v69) (by omega)
      have cm1 : v69.toNatClampNeg = (f 22).toNatClampNeg + 1 := by omega
      refine m_put (v := .int v69) (ty := .int) hx hb hts hin hown hK hP hD hS 22 (by decide) rfl (hts (.fieldLink RX10 217 "ShadowBenchModel" "many" "I") (by decide +kernel)) rfl (by decide +kernel) rfl rfl (upd f 22 v69) g rfl dX10_meet_70 (fun H locs hP hS => ?_)
      refine lv_lload_n hx hb dX10_meet_73 rfl (lv_at hl 2 rfl) ?_
      refine lv_lload hx hb dX10_meet_74 (lv_at hl 4 rfl) ?_
      refine W.lcmp hx hb dX10_meet_76 ?_
      refine lv_if_ne (tgt := 84) hx hb dX10_meet_77 (by decide) (fun c77 => ?_) (fun c77 => ?_)
      · skip
        have d77 := c77
        rw [lg_cmp_eq, fa_eq64] at d77
        refine lv_iconst (v := 0) hx hb dX10_meet_84 (by decide) ?_
        have hP := wm_eq rfl rfl (ec_r_21_20__21_20 r ((upd (r 21) r2.toNatClampNeg (f 22))) ((upd (r 20) (f 22).toNatClampNeg far0))) (ec_q_19__19 q ((vp_updL (q 19) (f 22).toNatClampNeg q0))) hP
        exact W.iret (v := (0 : Int32)) hx hb hr (fun t ht hW => ⟨⟨_, ((upd f 22 v69), g, (va_up (va_up r 21 (((upd (r 21) r2.toNatClampNeg (f 22))))) 20 (((upd (r 20) (f 22).toNatClampNeg far0)))), (va_up q 19 (((vp_updL (q 19) (f 22).toNatClampNeg q0))))), rfl, ⟨((upd (r 21) r2.toNatClampNeg (f 22))), ((vp_updL (q 19) (f 22).toNatClampNeg q0)), ((upd (r 20) (f 22).toNatClampNeg far0)), v69, rfl, ⟨⟨by first | exact hp1 | exact pb_put hp1 (by omega), by omega, by omega⟩, (Or.inr (Or.inr ⟨(by rcases q2.2 (f 22).toNatClampNeg (by omega) ht9 with ⟨i9, y1, y2, y3⟩ | ⟨y1, y2, y4⟩; (exfalso; rw [ocR_n (by rw [← e13]; omega)] at y3; cases y3); exact fun ⟨i9, h1, h2⟩ => y2 i9 h1 h2), by omega, by omega, (by rcases q2.2 (f 22).toNatClampNeg (by omega) ht9 with ⟨i9, y1, y2, y3⟩ | ⟨y1, y2, y4⟩; (exfalso; rw [ocR_n (by rw [← e13]; omega)] at y3; cases y3); (rw [cm1]; exact tbR_add ht9 (by omega) y1 y2 y4)), (fun i9 h9 => ⟨(by unfold vp_updL; rw [if_neg (by omega)]), (by unfold upd; rw [if_neg (by omega)])⟩), (by unfold vp_updL; rw [if_pos rfl]), (by unfold upd; rw [if_pos rfl]), (by first | exact Or.inl ⟨(lg_cmp_eq _ _).mp c77, rfl⟩ | exact Or.inr ⟨(fun z9 => c77 ((lg_cmp_eq _ _).mpr z9)), rfl⟩)⟩))⟩⟩, by unfold mB; rw [ht]; exact hP⟩, hS.F ht⟩) hS.2.2 dX10_meet_85
      · skip
        have d77 := c77
        rw [lg_cmp_eq, fa_eq64] at d77
        refine lv_iload_n hx hb dX10_meet_80 rfl (lv_at hl 3 rfl) ?_
        refine lv_goto (tgt := 85) hx hb dX10_meet_81 (by decide) ?_
        have hP := wm_eq rfl rfl (ec_r_21_20__21_20 r ((upd (r 21) r2.toNatClampNeg (f 22))) ((upd (r 20) (f 22).toNatClampNeg far0))) (ec_q_19__19 q ((vp_updL (q 19) (f 22).toNatClampNeg q0))) hP
        exact W.iret (v := far0) hx hb hr (fun t ht hW => ⟨⟨_, ((upd f 22 v69), g, (va_up (va_up r 21 (((upd (r 21) r2.toNatClampNeg (f 22))))) 20 (((upd (r 20) (f 22).toNatClampNeg far0)))), (va_up q 19 (((vp_updL (q 19) (f 22).toNatClampNeg q0))))), rfl, ⟨((upd (r 21) r2.toNatClampNeg (f 22))), ((vp_updL (q 19) (f 22).toNatClampNeg q0)), ((upd (r 20) (f 22).toNatClampNeg far0)), v69, rfl, ⟨⟨by first | exact hp1 | exact pb_put hp1 (by omega), by omega, by omega⟩, (Or.inr (Or.inr ⟨(by rcases q2.2 (f 22).toNatClampNeg (by omega) ht9 with ⟨i9, y1, y2, y3⟩ | ⟨y1, y2, y4⟩; (exfalso; rw [ocR_n (by rw [← e13]; omega)] at y3; cases y3); exact fun ⟨i9, h1, h2⟩ => y2 i9 h1 h2), by omega, by omega, (by rcases q2.2 (f 22).toNatClampNeg (by omega) ht9 with ⟨i9, y1, y2, y3⟩ | ⟨y1, y2, y4⟩; (exfalso; rw [ocR_n (by rw [← e13]; omega)] at y3; cases y3); (rw [cm1]; exact tbR_add ht9 (by omega) y1 y2 y4)), (fun i9 h9 => ⟨(by unfold vp_updL; rw [if_neg (by omega)]), (by unfold upd; rw [if_neg (by omega)])⟩), (by unfold vp_updL; rw [if_pos rfl]), (by unfold upd; rw [if_pos rfl]), (by first | exact Or.inl ⟨(lg_cmp_eq _ _).mp c77, rfl⟩ | exact Or.inr ⟨(fun z9 => c77 ((lg_cmp_eq _ _).mpr z9)), rfl⟩)⟩))⟩⟩, by unfold mB; rw [ht]; exact hP⟩, hS.F ht⟩) hS.2.2 dX10_meet_85
    · skip
      have d26 := c26
      rw [fa_eq] at d26
      refine lv_bipush (v := (-5)) hx hb dX10_meet_29 (by decide) ?_
      have hP := wm_eq (ec_f___22 f ) rfl (ec_r___21_20 r ) (ec_q___19 q ) hP
      exact W.iret (v := ((-5) : Int32)) hx hb hr (fun t ht hW => ⟨⟨_, ((upd f 22 (f 22)), g, (va_up (va_up r 21 (r 21)) 20 (r 20)), (va_up q 19 (q 19))), rfl, ⟨(r 21), (q 19), (r 20), (f 22), rfl, ⟨⟨by first | exact hp1 | exact pb_put hp1 (by omega), by omega, by omega⟩, (Or.inr (Or.inl ⟨(by rcases q2.2 (f 22).toNatClampNeg (by omega) ht9 with ⟨i9, y1, y2, y3⟩ | ⟨y1, y2, y4⟩; (exfalso; rw [ocR_n (by rw [← e13]; omega)] at y3; cases y3); exact fun ⟨i9, h1, h2⟩ => y2 i9 h1 h2), by omega, rfl, rfl, rfl, rfl, rfl⟩))⟩⟩, by unfold mB; rw [ht]; exact hP⟩, hS.F ht⟩) hS.2.2 dX10_meet_31
  · skip
    have d14 := c14
    rw [fa_lt] at d14
    refine lv_iconst (v := 0) hx hb dX10_meet_17 (by decide) ?_
    have hP := wm_eq (ec_f___22 f ) rfl (ec_r___21_20 r ) (ec_q___19 q ) hP
    exact W.iret (v := (0 : Int32)) hx hb hr (fun t ht hW => ⟨⟨_, ((upd f 22 (f 22)), g, (va_up (va_up r 21 (r 21)) 20 (r 20)), (va_up q 19 (q 19))), rfl, ⟨(r 21), (q 19), (r 20), (f 22), rfl, ⟨⟨by first | exact hp1 | exact pb_put hp1 (by omega), by omega, by omega⟩, (Or.inl ⟨(by rcases q2.2 (f 22).toNatClampNeg (by omega) ht9 with ⟨i9, y1, y2, y3⟩ | ⟨y1, y2, -⟩; exact ⟨i9, y1, y2⟩; (exfalso; rw [ocR_s (by rw [← e13]; omega)] at y1; cases y1)), rfl, rfl, rfl, rfl, rfl⟩)⟩⟩, by unfold mB; rw [ht]; exact hP⟩, hS.F ht⟩) hS.2.2 dX10_meet_18
theorem plc9 {a w x : Int32} (h1 : nI a.toNatClampNeg = a) (h2 : nI w.toNatClampNeg = w) (h3 : nI x.toNatClampNeg = x) : a * w + x = nI (a.toNatClampNeg * w.toNatClampNeg + x.toNatClampNeg) := by
  rw [← nI_add, ← pk_mul, h1, h2, h3]
theorem one_iff {A B : Bool} : ((if A = true then (1 : Int32) else 0) = if B = true then (1 : Int32) else 0) ↔ A = B := by
  cases A <;> cases B <;> decide
theorem sx9 {w h v27 v29 v30 v37 v38 v40 v46 v48 v54 : Int32} {s : Nat} (hw : 1 ≤ w.toInt ∧ w.toInt ≤ 6) (hh : 1 ≤ h.toInt ∧ h.toInt ≤ 6) (is1 : (nI s).toInt = (s : Int)) (i27 : v27.toInt = w.toInt * w.toInt) (i29 : v29.toInt = v27.toInt * h.toInt) (i30 : v30.toInt = (nI s).toInt / v29.toInt) (i37 : v37.toInt = w.toInt * w.toInt) (i38 : v38.toInt = (nI s).toInt / v37.toInt) (i40 : v40.toInt = v38.toInt % h.toInt) (i46 : v46.toInt = (nI s).toInt / w.toInt) (i48 : v48.toInt = v46.toInt % w.toInt) (i54 : v54.toInt = (nI s).toInt % w.toInt) : v30.toNatClampNeg = s / (w.toNatClampNeg * w.toNatClampNeg) / h.toNatClampNeg ∧ v40.toNatClampNeg = s / (w.toNatClampNeg * w.toNatClampNeg) % h.toNatClampNeg ∧ v48.toNatClampNeg = s % (w.toNatClampNeg * w.toNatClampNeg) / w.toNatClampNeg ∧ v54.toNatClampNeg = s % (w.toNatClampNeg * w.toNatClampNeg) % w.toNatClampNeg := by
  have cw := m_cl (x := w) (by omega)
  have ch := m_cl (x := h) (by omega)
  have e30 : v30.toInt = ((s / (w.toNatClampNeg * w.toNatClampNeg * h.toNatClampNeg) : Nat) : Int) := by rw [i30, is1, i29, i27, ← cw, ← ch, Int.natCast_ediv, Int.natCast_mul, Int.natCast_mul]
  have e38 : v38.toInt = ((s / (w.toNatClampNeg * w.toNatClampNeg) : Nat) : Int) := by rw [i38, is1, i37, ← cw, Int.natCast_ediv, Int.natCast_mul]
  have e40 : v40.toInt = ((s / (w.toNatClampNeg * w.toNatClampNeg) % h.toNatClampNeg : Nat) : Int) := by rw [i40, e38, ← ch, Int.natCast_emod]
  have e46 : v46.toInt = ((s / w.toNatClampNeg : Nat) : Int) := by rw [i46, is1, ← cw, Int.natCast_ediv]
  have e48 : v48.toInt = ((s / w.toNatClampNeg % w.toNatClampNeg : Nat) : Int) := by rw [i48, e46, ← cw, Int.natCast_emod]
  have e54 : v54.toInt = ((s % w.toNatClampNeg : Nat) : Int) := by rw [i54, is1, ← cw, Int.natCast_emod]
  have cl : ∀ {v : Int32} {k : Nat}, v.toInt = (k : Int) → v.toNatClampNeg = k := fun {v k} e => by
    have := m_cl (x := v) (by omega)
    omega
  refine ⟨?_, cl e40, ?_, ?_⟩
  · rw [cl e30, Nat.div_div_eq_div_mul]
  · rw [cl e48, Nat.mod_mul_right_div_self]
  · rw [cl e54, Nat.mod_mod_of_dvd s (Nat.dvd_mul_right _ _)]
/-- what the reference has met is what is met -/
def rlR (S : mtS) (rr : Nat → Int64) (st : Nat → Int32) (n : Nat) : Prop := S.2.2.1 = n ∧ ∀ i, i < n → S.1 i = rr i ∧ (st i).toInt = (S.2.1 i : Int)
theorem rlR.m {S : mtS} {rr : Nat → Int64} {st : Nat → Int32} {n : Nat} (h : rlR S rr st n) : rlM S rr n := ⟨h.1, fun i hi => (h.2 i hi).1⟩
section RR9
variable {w h d k : Nat} {p : Int64} {S : mtS}
theorem rr_n {rr rr1 : Nat → Int64} {st st1 : Nat → Int32} {n : Nat} {v : Int32} (hr : rlR (nbA w h p d S k) rr st n) (ho : (nbA w h p d S k).2.2.2 = false) (hs : swq w h p k = true) (hk : ¬ ∃ i, i < n ∧ rr i = swx w h p k) (hn : n < 20000) (h1 : ∀ i, i < n → rr1 i = rr i ∧ st1 i = st i) (h2 : rr1 n = swx w h p k) (h3 : st1 n = v) (hv : v.toInt = (d : Int)) : rlR (nbA w h p d S (k + 1)) rr1 st1 (n + 1) ∧ (nbA w h p d S (k + 1)).2.2.2 = false := by
  have a := rl_n hr.m ho hs hk hn (fun i hi => (h1 i hi).1) h2
  refine ⟨⟨a.1.1, fun i hi => ⟨a.1.2 i hi, ?_⟩⟩, a.2⟩
  have hk' : ¬ ∃ i, i < (nbA w h p d S k).2.2.1 ∧ (nbA w h p d S k).1 i = swx w h p k := fun z => hk ((hr.m.isIn _).mp z)
  have hn' : ¬ (nbA w h p d S k).2.2.1 = 20000 := by rw [hr.1]; omega
  rw [nb_t hs, mtA_n (by rw [ho]; decide) hk' hn']
  show (st1 i).toInt = ((if i = (nbA w h p d S k).2.2.1 then d else (nbA w h p d S k).2.1 i : Nat) : Int)
  rw [hr.1]
  by_cases z : i = n
  · rw [if_pos z, z, h3, hv]
  · rw [if_neg z, (h1 i (by omega)).2]
    exact (hr.2 i (by omega)).2
/-- a picture that is newly met stays met -/
theorem rr_in {rr rr1 : Nat → Int64} {n c : Nat} (hr : rlM (nbA w h p d S k) rr n) (ho : (nbA w h p d S k).2.2.2 = false) (hs : swq w h p k = true) (hk : ¬ ∃ i, i < n ∧ rr i = swx w h p k) (hn : n < 20000) (h1 : ∀ i, i < n → rr1 i = rr i) (h2 : rr1 n = swx w h p k) (hc : k < c) : isIn9 (nbA w h p d S c) (swx w h p k) := by
  have a := rl_n hr ho hs hk hn h1 h2
  have b : isIn9 (nbA w h p d S (k + 1)) (swx w h p k) := (a.1.isIn _).mpr ⟨n, Nat.lt_succ_self _, h2⟩
  have le : ∀ e, mtLe (nbA w h p d S (k + 1)) (nbA w h p d S (k + 1 + e)) := by
    intro e
    induction e with
    | zero => exact mtLe.rf
    | succ e ih =>
      refine ih.tr ?_
      show mtLe (nbA w h p d S (k + 1 + e)) (nbA w h p d S (k + 1 + e + 1))
      simp only [nbA]
      by_cases q : swq w h p (k + 1 + e) = true
      · rw [if_pos q]; exact mtA_le
      · rw [if_neg q]; exact mtLe.rf
  have z := b.le (le (c - (k + 1)))
  rw [show k + 1 + (c - (k + 1)) = c by omega] at z
  exact z
end RR9


set_option maxHeartbeats 4000000 in
set_option maxRecDepth 100000 in
theorem c_X10_meetAll_x (l : Launch) (D : va_G) (cy : Nat → ClassId) (mo : Nat) (a : Nat → Nat) (f : Nat → Int32) (g : Nat → Int64) (r : Nat → Nat → Int32) (q : Nat → Nat → Int64) (w : Int32) (h : Int32) (k0 : Int32) (to0 : Int64) (hD : DM cy mo a) (hw : 1 ≤ w.toInt ∧ w.toInt ≤ 6) (hh : 1 ≤ h.toInt ∧ h.toInt ≤ 6) (hp1 : PB (r 21)) (hm : 1 ≤ (f 22).toInt ∧ (f 22).toInt ≤ 20000) (hc : (ct21 (r 21) : Int) ≤ (f 22).toInt) (hk : 0 ≤ k0.toInt ∧ k0.toInt < 20000) (ht9 : tabOk 65536 hR (ocR (r 21)) (q 19) (f 22).toNatClampNeg) (hS1 : rlR (bfA w.toNatClampNeg h.toNatClampNeg (st0 (q 19 0)) k0.toNatClampNeg) (q 19) (r 20) (f 22).toNatClampNeg) (hS2 : (bfA w.toNatClampNeg h.toNatClampNeg (st0 (q 19 0)) k0.toNatClampNeg).2.2.2 = false) (hk9 : k0.toNatClampNeg < (f 22).toNatClampNeg) (hno9 : ¬ isIn9 (bfA w.toNatClampNeg h.toNatClampNeg (st0 (q 19 0)) k0.toNatClampNeg) to0) (hd9 : (bfA w.toNatClampNeg h.toNatClampNeg (st0 (q 19 0)) k0.toNatClampNeg).2.1 k0.toNatClampNeg ≤ k0.toNatClampNeg) : Mi l D cy mo a yX10_meetAll wsX10_meetAll ({ frames := 2, cells := 0, slots := 0, locals := 49 }) f g r q [.int w, .int h, .int k0, .long to0] (fun r0 u => ∃ (pl : Nat → Int32), ∃ (rr : Nat → Int64), ∃ (st : Nat → Int32), ∃ (mn : Int32), u = ((upd f 22 mn), g, (va_up (va_up r 21 pl) 20 st), (va_up q 19 rr)) ∧ ((PB pl ∧ ((f 22).toInt ≤ mn.toInt ∧ mn.toInt ≤ 20000) ∧ (ct21 pl : Int) ≤ mn.toInt) ∧ rr 0 = q 19 0 ∧ ((r0.toInt = (((bfA w.toNatClampNeg h.toNatClampNeg (st0 (q 19 0)) k0.toNatClampNeg).2.1 k0.toNatClampNeg + 1 : Nat) : Int) ∧ isIn9 (bfA w.toNatClampNeg h.toNatClampNeg (st0 (q 19 0)) (k0.toNatClampNeg + 1)) to0) ∨ (¬ isIn9 (bfA w.toNatClampNeg h.toNatClampNeg (st0 (q 19 0)) (k0.toNatClampNeg + 1)) to0 ∧ (bfA w.toNatClampNeg h.toNatClampNeg (st0 (q 19 0)) (k0.toNatClampNeg + 1)).2.2.2 = true ∧ r0 = -5) ∨ (r0 = 0 ∧ ¬ isIn9 (bfA w.toNatClampNeg h.toNatClampNeg (st0 (q 19 0)) (k0.toNatClampNeg + 1)) to0 ∧ (bfA w.toNatClampNeg h.toNatClampNeg (st0 (q 19 0)) (k0.toNatClampNeg + 1)).2.2.2 = false ∧ rlR (bfA w.toNatClampNeg h.toNatClampNeg (st0 (q 19 0)) (k0.toNatClampNeg + 1)) rr st mn.toNatClampNeg ∧ tabOk 65536 hR (ocR pl) rr mn.toNatClampNeg)))) := by
  refine Met.ofW (cc := cX10_meetAll) (maxL := 17) (ret := (some .int)) (by decide) rfl ?_
  intro p e s m args below meth c s₁ B hml hv
  obtain ⟨rfl, hP, hK⟩ := hv
  have hx := B.exec
  have hb := B.bytes
  have hr := B.returns
  have hts := atoms_spec (ws := wsX10_meetAll) B.pre
  have hin : ∀ w ∈ u_ws RX10 TX10 35, w ∈ wsX10_meetAll := by decide +kernel
  have hown : s.vm.findClass RX10 = some m.cls := findClass_of_methodNamed B.named
  have hlocks := B.notSynchronized
  have hS : va_S (AM mo a) s.heap s.heap [] := va_S.rf
  have hl := lv_entry ([.ref mo, .int w, .int h, .int k0, .long to0]) (n := 17) (Nat.le_of_ble_eq_true rfl)
  rw [lg_entry_eq]
  generalize (lg_sl ([.ref mo, .int w, .int h, .int k0, .long to0]) ++ List.replicate (17 - (lg_sl ([.ref mo, .int w, .int h, .int k0, .long to0])).length) Slot.unset).toArray = ls at hl ⊢
  have hl : lv_has ls 17 [(0, .ref mo), (1, .int w), (2, .int h), (3, .int k0), (4, .long to0)] := hl
  have k_0 : (0 : Int32).toInt = 0 := by decide
  have k_1 : (1 : Int32).toInt = 1 := by decide
  have k_1L : (1 : Int64).toInt = 1 := by decide
  have m4 := mul4 hw hh
  have cf9 := m_cl (x := f 22) (by omega)
  have ck9 := m_cl (x := k0) (by omega)
  have cw8 := m_cl (x := w) (by omega)
  have ch8 := m_cl (x := h) (by omega)
  have hb8 : 1 ≤ w.toNatClampNeg ∧ w.toNatClampNeg ≤ 6 ∧ 1 ≤ h.toNatClampNeg ∧ h.toNatClampNeg ≤ 6 := by omega
  refine lv_aload_n hx hb dX10_meetAll_0 rfl (lv_at hl 0 rfl) ?_
  refine m_get (v := .ref (a 19)) hx hb hts hin hown hK hP 19 (by decide) rfl (hts (.fieldLink RX10 41 "ShadowBenchModel" "row" "[J") (by decide +kernel)) rfl dX10_meetAll_1 ?_
  refine lv_iload_n hx hb dX10_meetAll_4 rfl (lv_at hl 3 rfl) ?_
  refine m_lald (w := (q 19)) hx hb hK hP 11 rfl (vp_in_iff.mpr ⟨by omega, by omega⟩) dX10_meetAll_5 ?_
  refine lv_topl (fun v5 e5 => ?_)
  have x5 : v5 = (bfA w.toNatClampNeg h.toNatClampNeg (st0 (q 19 0)) k0.toNatClampNeg).1 k0.toNatClampNeg := by rw [e5]; exact (hS1.2 _ hk9).1.symm
  refine lv_lstore (lv' := [(6, .long v5), (0, .ref mo), (1, .int w), (2, .int h), (3, .int k0), (4, .long to0)]) hx hb dX10_meetAll_6 hl (by decide) rfl (fun ls hl => ?_)
  refine lv_iconst (v := 0) hx hb dX10_meetAll_8 (by decide) ?_
  refine lv_istore (lv' := [(8, .int (0 : Int32)), (6, .long v5), (0, .ref mo), (1, .int w), (2, .int h), (3, .int k0), (4, .long to0)]) hx hb dX10_meetAll_9 hl (by decide) rfl (fun ls hl => ?_)
  have loop_11 : ∀ (n : Nat) (s1 : Nat) (pl1 : Nat → Int32) (rr1 : Nat → Int64) (st1 : Nat → Int32) (mn1 : Int32), (s1 ≤ 1296) → (PB pl1) → ((f 22).toInt ≤ mn1.toInt ∧ mn1.toInt ≤ 20000) → ((ct21 pl1 : Int) ≤ mn1.toInt) → (s1 ≤ (h.toNatClampNeg * h.toNatClampNeg * (w.toNatClampNeg * w.toNatClampNeg))) → (rlR (nbA w.toNatClampNeg h.toNatClampNeg v5 ((bfA w.toNatClampNeg h.toNatClampNeg (st0 (q 19 0)) k0.toNatClampNeg).2.1 k0.toNatClampNeg + 1) (bfA w.toNatClampNeg h.toNatClampNeg (st0 (q 19 0)) k0.toNatClampNeg) (bs (okS w.toNatClampNeg h.toNatClampNeg) s1)) rr1 st1 mn1.toNatClampNeg) → ((nbA w.toNatClampNeg h.toNatClampNeg v5 ((bfA w.toNatClampNeg h.toNatClampNeg (st0 (q 19 0)) k0.toNatClampNeg).2.1 k0.toNatClampNeg + 1) (bfA w.toNatClampNeg h.toNatClampNeg (st0 (q 19 0)) k0.toNatClampNeg) (bs (okS w.toNatClampNeg h.toNatClampNeg) s1)).2.2.2 = false) → (¬ isIn9 (nbA w.toNatClampNeg h.toNatClampNeg v5 ((bfA w.toNatClampNeg h.toNatClampNeg (st0 (q 19 0)) k0.toNatClampNeg).2.1 k0.toNatClampNeg + 1) (bfA w.toNatClampNeg h.toNatClampNeg (st0 (q 19 0)) k0.toNatClampNeg) (bs (okS w.toNatClampNeg h.toNatClampNeg) s1)) to0) → (tabOk 65536 hR (ocR pl1) rr1 mn1.toNatClampNeg) → (rr1 0 = q 19 0) → (st1 k0.toNatClampNeg = r 20 k0.toNatClampNeg) → 1296 - s1 < n → ∀ (H : Heap) (locs : List Loc), va_P D vwCl (WM cy mo a (upd f 22 mn1) g (va_up (va_up r 21 pl1) 20 st1) (va_up q 19 rr1)) H → va_S (AM mo a) s.heap H locs → ∀ (ls : Array Slot), lv_has ls 17 [(8, .int (nI s1)), (6, .long v5), (0, .ref mo), (1, .int w), (2, .int h), (3, .int k0), (4, .long to0)] → W p l e (headSpec wsX10_meetAll ({ frames := 2, cells := 0, slots := 0, locals := 49 })).room s m #[Value.ref mo, Value.int w, Value.int h, Value.int k0, Value.long to0] below meth c H locs 0 0 (MQ below (va_Qi (fun r0 u => ∃ (pl : Nat → Int32), ∃ (rr : Nat → Int64), ∃ (st : Nat → Int32), ∃ (mn : Int32), u = ((upd f 22 mn), g, (va_up (va_up r 21 pl) 20 st), (va_up q 19 rr)) ∧ ((PB pl ∧ ((f 22).toInt ≤ mn.toInt ∧ mn.toInt ≤ 20000) ∧ (ct21 pl : Int) ≤ mn.toInt) ∧ rr 0 = q 19 0 ∧ ((r0.toInt = (((bfA w.toNatClampNeg h.toNatClampNeg (st0 (q 19 0)) k0.toNatClampNeg).2.1 k0.toNatClampNeg + 1 : Nat) : Int) ∧ isIn9 (bfA w.toNatClampNeg h.toNatClampNeg (st0 (q 19 0)) (k0.toNatClampNeg + 1)) to0) ∨ (¬ isIn9 (bfA w.toNatClampNeg h.toNatClampNeg (st0 (q 19 0)) (k0.toNatClampNeg + 1)) to0 ∧ (bfA w.toNatClampNeg h.toNatClampNeg (st0 (q 19 0)) (k0.toNatClampNeg + 1)).2.2.2 = true ∧ r0 = -5) ∨ (r0 = 0 ∧ ¬ isIn9 (bfA w.toNatClampNeg h.toNatClampNeg (st0 (q 19 0)) (k0.toNatClampNeg + 1)) to0 ∧ (bfA w.toNatClampNeg h.toNatClampNeg (st0 (q 19 0)) (k0.toNatClampNeg + 1)).2.2.2 = false ∧ rlR (bfA w.toNatClampNeg h.toNatClampNeg (st0 (q 19 0)) (k0.toNatClampNeg + 1)) rr st mn.toNatClampNeg ∧ tabOk 65536 hR (ocR pl) rr mn.toNatClampNeg)))) (mB D cy mo a) (AM mo a)) #[Value.ref mo, Value.int w, Value.int h, Value.int k0, Value.long to0] s 0 0 (AM mo a)) (F0 m 11 ls []) := by
    intro n
    induction n with
    | zero => intro s1 pl1 rr1 st1 mn1 j11_0 j11_1 j11_2 j11_3 j11_4 j11_5 j11_6 j11_7 j11_8 j11_9 j11_10 hn; exact absurd hn (Nat.not_lt_zero _)
    | succ n ih_11 =>
      intro s1 pl1 rr1 st1 mn1 j11_0 j11_1 j11_2 j11_3 j11_4 j11_5 j11_6 j11_7 j11_8 j11_9 j11_10 hn_11 H locs hP hS ls hl
      have is1 : (nI s1).toInt = (s1 : Int) := nI_toInt (by omega)
      have cm1 := m_cl (x := mn1) (by omega)
      have km9 : k0.toNatClampNeg < mn1.toNatClampNeg := by omega
      refine lv_iload hx hb dX10_meetAll_11 (lv_at hl 0 rfl) ?_
      refine lv_iload_n hx hb dX10_meetAll_13 rfl (lv_at hl 3 rfl) ?_
      refine lv_iload_n hx hb dX10_meetAll_14 rfl (lv_at hl 4 rfl) ?_
      refine lv_imul hx hb dX10_meetAll_15 ?_
      refine lv_topi (fun v15 e15 => ?_)
      have i15 : v15.toInt = w.toInt * h.toInt := by rw [e15]; exact fb_mulI (by omega) (by omega)
      refine lv_iload_n hx hb dX10_meetAll_16 rfl (lv_at hl 3 rfl) ?_
      have t17 : v15.toInt * w.toInt = w.toInt * h.toInt * w.toInt := by rw [i15]
      refine lv_imul hx hb dX10_meetAll_17 ?_
      refine lv_topi (fun v17 e17 => ?_)
      have i17 : v17.toInt = v15.toInt * w.toInt := by rw [e17]; exact fb_mulI (by omega) (by omega)
      refine lv_iload_n hx hb dX10_meetAll_18 rfl (lv_at hl 4 rfl) ?_
      have t19 : v17.toInt * h.toInt = w.toInt * h.toInt * w.toInt * h.toInt := by rw [i17, t17]
      refine lv_imul hx hb dX10_meetAll_19 ?_
      refine lv_topi (fun v19 e19 => ?_)
      have i19 : v19.toInt = v17.toInt * h.toInt := by rw [e19]; exact fb_mulI (by omega) (by omega)
      have t20 : v19.toInt = (((h.toNatClampNeg * h.toNatClampNeg * (w.toNatClampNeg * w.toNatClampNeg)) : Nat) : Int) := by rw [i19, t19, ← cw8, ← ch8, ← Int.natCast_mul, ← Int.natCast_mul, ← Int.natCast_mul]; congr 1; ac_rfl
      refine lv_icmp_ge (tgt := 240) hx hb dX10_meetAll_20 (by decide) (fun c20 => ?_) (fun c20 => ?_)
      · skip
        have d20 := c20
        rw [fa_le] at d20
        refine lv_iconst (v := 0) hx hb dX10_meetAll_240 (by decide) ?_
        exact W.iret (v := (0 : Int32)) hx hb hr (fun t ht hW => ⟨⟨_, ((upd f 22 mn1), g, (va_up (va_up r 21 pl1) 20 st1), (va_up q 19 rr1)), rfl, ⟨pl1, rr1, st1, mn1, rfl, (by have eb : (bfA w.toNatClampNeg h.toNatClampNeg (st0 (q 19 0)) (k0.toNatClampNeg + 1)) = (nbA w.toNatClampNeg h.toNatClampNeg v5 ((bfA w.toNatClampNeg h.toNatClampNeg (st0 (q 19 0)) k0.toNatClampNeg).2.1 k0.toNatClampNeg + 1) (bfA w.toNatClampNeg h.toNatClampNeg (st0 (q 19 0)) k0.toNatClampNeg) (cfo w.toNatClampNeg h.toNatClampNeg)) := (by rw [x5]; rfl); have ec : (bs (okS w.toNatClampNeg h.toNatClampNeg) s1) = cfo w.toNatClampNeg h.toNatClampNeg := (by rw [show s1 = (h.toNatClampNeg * h.toNatClampNeg * (w.toNatClampNeg * w.toNatClampNeg)) by omega]; exact okS_all hb8); exact ⟨⟨j11_1, by omega, j11_3⟩, j11_9, Or.inr (Or.inr ⟨rfl, (by rw [eb, ← ec]; exact j11_7), (by rw [eb, ← ec]; exact j11_6), (by rw [eb, ← ec]; exact j11_5), j11_8⟩)⟩)⟩, by unfold mB; rw [ht]; exact hP⟩, hS.F ht⟩) hS.2.2 dX10_meetAll_241
      · skip
        have d20 := c20
        rw [fa_le] at d20
        have hs9 : s1 < (h.toNatClampNeg * h.toNatClampNeg * (w.toNatClampNeg * w.toNatClampNeg)) := by omega
        refine lv_iload hx hb dX10_meetAll_23 (lv_at hl 0 rfl) ?_
        refine lv_iload_n hx hb dX10_meetAll_25 rfl (lv_at hl 3 rfl) ?_
        refine lv_iload_n hx hb dX10_meetAll_26 rfl (lv_at hl 3 rfl) ?_
        refine lv_imul hx hb dX10_meetAll_27 ?_
        refine lv_topi (fun v27 e27 => ?_)
        have i27 : v27.toInt = w.toInt * w.toInt := by rw [e27]; exact fb_mulI (by omega) (by omega)
        refine lv_iload_n hx hb dX10_meetAll_28 rfl (lv_at hl 4 rfl) ?_
        have t29 : v27.toInt * h.toInt = w.toInt * w.toInt * h.toInt := by rw [i27]
        refine lv_imul hx hb dX10_meetAll_29 ?_
        refine lv_topi (fun v29 e29 => ?_)
        have i29 : v29.toInt = v27.toInt * h.toInt := by rw [e29]; exact fb_mulI (by omega) (by omega)
        refine lv_idiv hx hb dX10_meetAll_30 (fun z => by rw [fa_eq] at z; omega) ?_
        refine lv_topi (fun v30 e30 => ?_)
        have i30 : v30.toInt = (nI s1).toInt / v29.toInt := by rw [e30]; exact my_idiv (by omega) (by omega)
        have j30 : 0 ≤ v30.toInt ∧ v30.toInt ≤ (nI s1).toInt := by rw [e30]; exact my_divb (by omega) (by omega)
        refine lv_istore (lv' := [(9, .int v30), (8, .int (nI s1)), (6, .long v5), (0, .ref mo), (1, .int w), (2, .int h), (3, .int k0), (4, .long to0)]) hx hb dX10_meetAll_31 hl (by decide) rfl (fun ls hl => ?_)
        refine lv_iload hx hb dX10_meetAll_33 (lv_at hl 1 rfl) ?_
        refine lv_iload_n hx hb dX10_meetAll_35 rfl (lv_at hl 4 rfl) ?_
        refine lv_iload_n hx hb dX10_meetAll_36 rfl (lv_at hl 4 rfl) ?_
        refine lv_imul hx hb dX10_meetAll_37 ?_
        refine lv_topi (fun v37 e37 => ?_)
        have i37 : v37.toInt = w.toInt * w.toInt := by rw [e37]; exact fb_mulI (by omega) (by omega)
        refine lv_idiv hx hb dX10_meetAll_38 (fun z => by rw [fa_eq] at z; omega) ?_
        refine lv_topi (fun v38 e38 => ?_)
        have i38 : v38.toInt = (nI s1).toInt / v37.toInt := by rw [e38]; exact my_idiv (by omega) (by omega)
        have j38 : 0 ≤ v38.toInt ∧ v38.toInt ≤ (nI s1).toInt := by rw [e38]; exact my_divb (by omega) (by omega)
        refine lv_iload_n hx hb dX10_meetAll_39 rfl (lv_at hl 5 rfl) ?_
        refine lv_irem hx hb dX10_meetAll_40 (fun z => by rw [fa_eq] at z; omega) ?_
        refine lv_topi (fun v40 e40 => ?_)
        have i40 : v40.toInt = v38.toInt % h.toInt := by rw [e40]; exact my_irem (by omega) (by omega)
        have j40 : 0 ≤ v40.toInt ∧ v40.toInt < h.toInt ∧ v40.toInt ≤ v38.toInt := by rw [e40]; exact my_remb (by omega) (by omega)
        refine lv_istore (lv' := [(10, .int v40), (9, .int v30), (8, .int (nI s1)), (6, .long v5), (0, .ref mo), (1, .int w), (2, .int h), (3, .int k0), (4, .long to0)]) hx hb dX10_meetAll_41 hl (by decide) rfl (fun ls hl => ?_)
        refine lv_iload hx hb dX10_meetAll_43 (lv_at hl 2 rfl) ?_
        refine lv_iload_n hx hb dX10_meetAll_45 rfl (lv_at hl 5 rfl) ?_
        refine lv_idiv hx hb dX10_meetAll_46 (fun z => by rw [fa_eq] at z; omega) ?_
        refine lv_topi (fun v46 e46 => ?_)
        have i46 : v46.toInt = (nI s1).toInt / w.toInt := by rw [e46]; exact my_idiv (by omega) (by omega)
        have j46 : 0 ≤ v46.toInt ∧ v46.toInt ≤ (nI s1).toInt := by rw [e46]; exact my_divb (by omega) (by omega)
        refine lv_iload_n hx hb dX10_meetAll_47 rfl (lv_at hl 5 rfl) ?_
        refine lv_irem hx hb dX10_meetAll_48 (fun z => by rw [fa_eq] at z; omega) ?_
        refine lv_topi (fun v48 e48 => ?_)
        have i48 : v48.toInt = v46.toInt % w.toInt := by rw [e48]; exact my_irem (by omega) (by omega)
        have j48 : 0 ≤ v48.toInt ∧ v48.toInt < w.toInt ∧ v48.toInt ≤ v46.toInt := by rw [e48]; exact my_remb (by omega) (by omega)
        refine lv_istore (lv' := [(11, .int v48), (10, .int v40), (9, .int v30), (8, .int (nI s1)), (6, .long v5), (0, .ref mo), (1, .int w), (2, .int h), (3, .int k0), (4, .long to0)]) hx hb dX10_meetAll_49 hl (by decide) rfl (fun ls hl => ?_)
        refine lv_iload hx hb dX10_meetAll_51 (lv_at hl 3 rfl) ?_
        refine lv_iload_n hx hb dX10_meetAll_53 rfl (lv_at hl 6 rfl) ?_
        refine lv_irem hx hb dX10_meetAll_54 (fun z => by rw [fa_eq] at z; omega) ?_
        refine lv_topi (fun v54 e54 => ?_)
        have i54 : v54.toInt = (nI s1).toInt % w.toInt := by rw [e54]; exact my_irem (by omega) (by omega)
        have j54 : 0 ≤ v54.toInt ∧ v54.toInt < w.toInt ∧ v54.toInt ≤ (nI s1).toInt := by rw [e54]; exact my_remb (by omega) (by omega)
        refine lv_istore (lv' := [(12, .int v54), (11, .int v48), (10, .int v40), (9, .int v30), (8, .int (nI s1)), (6, .long v5), (0, .ref mo), (1, .int w), (2, .int h), (3, .int k0), (4, .long to0)]) hx hb dX10_meetAll_55 hl (by decide) rfl (fun ls hl => ?_)
        have sx := sx9 hw hh is1 i27 i29 i30 i37 i38 i40 i46 i48 i54
        have c30 := m_cl (x := v30) (by omega)
        have c40 := m_cl (x := v40) (by omega)
        have c48 := m_cl (x := v48) (by omega)
        have c54 := m_cl (x := v54) (by omega)
        have y30 : nI v30.toNatClampNeg = v30 := cl_nI (by omega)
        have y40 : nI v40.toNatClampNeg = v40 := cl_nI (by omega)
        have y48 : nI v48.toNatClampNeg = v48 := cl_nI (by omega)
        have y54 : nI v54.toNatClampNeg = v54 := cl_nI (by omega)
        have yw : nI w.toNatClampNeg = w := cl_nI (by omega)
        have hb9 : 1 ≤ w.toNatClampNeg ∧ w.toNatClampNeg ≤ 6 ∧ 1 ≤ h.toNatClampNeg ∧ h.toNatClampNeg ≤ 6 := by omega
        refine lv_iload hx hb dX10_meetAll_57 (lv_at hl 3 rfl) ?_
        refine lv_iload hx hb dX10_meetAll_59 (lv_at hl 2 rfl) ?_
        refine lv_icmp_ge (tgt := 156) hx hb dX10_meetAll_61 (by decide) (fun c61 => ?_) (fun c61 => ?_)
        · skip
          have d61 := c61
          rw [fa_le] at d61
          have ms9 : (okS w.toNatClampNeg h.toNatClampNeg s1 = false) ∨ (okS w.toNatClampNeg h.toNatClampNeg s1 = true ∧ swq w.toNatClampNeg h.toNatClampNeg v5 (bs (okS w.toNatClampNeg h.toNatClampNeg) s1) = false) := by first | exact Or.inr ⟨ok1, (by rw [at9.1]; unfold swB; rw [Bool.and_eq_false_iff, Bool.and_eq_false_iff]; first | exact Or.inr (by rw [bne_eq_false_iff_eq]; exact one_iff.mp (by rw [← o134, ← o146]; exact c149)) | exact Or.inl (Or.inr (by rw [beq_eq_false_iff_ne]; exact fun z9 => c122 (by rw [o107, o119, z9]))) | exact Or.inl (Or.inl (by rw [beq_eq_false_iff_ne]; exact fun z9 => c95 (by rw [o80, o92, z9]))))⟩ | exact Or.inl (by unfold okS okP; rw [Bool.and_eq_false_iff]; first | exact Or.inl (decide_eq_false (by rw [← sx.1, ← sx.2.1]; omega)) | exact Or.inr (decide_eq_false (by rw [← sx.2.2.1, ← sx.2.2.2]; omega)))
          refine lv_iconst (v := 0) hx hb dX10_meetAll_156 (by decide) ?_
          refine lv_istore (lv' := [(13, .int (0 : Int32)), (12, .int v54), (11, .int v48), (10, .int v40), (9, .int v30), (8, .int (nI s1)), (6, .long v5), (0, .ref mo), (1, .int w), (2, .int h), (3, .int k0), (4, .long to0)]) hx hb dX10_meetAll_157 hl (by decide) rfl (fun ls hl => ?_)
          refine lv_iload hx hb dX10_meetAll_159 (lv_at hl 0 rfl) ?_
          refine lv_if_eq (tgt := 234) hx hb dX10_meetAll_161 (by decide) (fun c161 => ?_) (fun c161 => ?_)
          · skip
            have d161 := c161
            rw [fa_eq] at d161
            refine lv_iinc (v := (nI (s1 + 1))) (lv' := [(8, .int (nI (s1 + 1))), (13, .int (0 : Int32)), (12, .int v54), (11, .int v48), (10, .int v40), (9, .int v30), (6, .long v5), (0, .ref mo), (1, .int w), (2, .int h), (3, .int k0), (4, .long to0)]) hx hb dX10_meetAll_234 hl (k := 5) rfl (nI_1 _) (by decide) rfl (fun ls hl => ?_)
            refine lv_goto (tgt := 11) hx hb dX10_meetAll_237 (by decide) ?_
            exact ih_11 (s1 + 1) pl1 rr1 st1 mn1 (by omega) (by first | exact q221.1.1 | assumption) (by first | (have z9 := q221.1.2.1; omega) | omega) (by first | exact q221.1.2.2 | assumption) (by omega) (by first | (rcases ms9 with z9 | ⟨z8, z9⟩; (rw [bs_f z9]; exact j11_5); (rw [bs_t z8, nb_f z9]; exact j11_5)) | (obtain ⟨p1, p2⟩ := q221; rcases p2 with ⟨z1, z2, z3⟩ | ⟨z1, z2, z3, z4⟩ | ⟨z1, z2, z3, z4, z5, z6, z7, z8⟩; (rw [bs_t ok1, nb_o sq1 j11_6 (by rw [← x205]; exact (j11_5.m.isIn _).mpr z1), z3.2.1, z3.2.2.1, z3.2.2.2]; exact j11_5); exact absurd (z3.symm.trans c228) (by decide); (rw [bs_t ok1, show mn_221.toNatClampNeg = mn1.toNatClampNeg + 1 by have y9 := m_cl (x := mn_221) (by omega); have y8 := m_cl (x := mn1) (by omega); omega]; exact (rr_n j11_5 j11_6 sq1 (by rw [← x205]; exact z1) (by omega) z5 (by rw [← x205]; exact z6) z7 d218).1))) (by first | (rcases ms9 with z9 | ⟨z8, z9⟩; (rw [bs_f z9]; exact j11_6); (rw [bs_t z8, nb_f z9]; exact j11_6)) | (obtain ⟨p1, p2⟩ := q221; rcases p2 with ⟨z1, z2, z3⟩ | ⟨z1, z2, z3, z4⟩ | ⟨z1, z2, z3, z4, z5, z6, z7, z8⟩; (rw [bs_t ok1, nb_o sq1 j11_6 (by rw [← x205]; exact (j11_5.m.isIn _).mpr z1)]; exact j11_6); exact absurd (z3.symm.trans c228) (by decide); (rw [bs_t ok1]; exact (rr_n j11_5 j11_6 sq1 (by rw [← x205]; exact z1) (by omega) z5 (by rw [← x205]; exact z6) z7 d218).2))) (by first | (rcases ms9 with z9 | ⟨z8, z9⟩; (rw [bs_f z9]; exact j11_7); (rw [bs_t z8, nb_f z9]; exact j11_7)) | (obtain ⟨p1, p2⟩ := q221; rcases p2 with ⟨z1, z2, z3⟩ | ⟨z1, z2, z3, z4⟩ | ⟨z1, z2, z3, z4, z5, z6, z7, z8⟩; (rw [bs_t ok1, nb_o sq1 j11_6 (by rw [← x205]; exact (j11_5.m.isIn _).mpr z1)]; exact j11_7); exact absurd (z3.symm.trans c228) (by decide); (rw [bs_t ok1]; intro y9; obtain ⟨i9, h1, h2⟩ := ((rr_n j11_5 j11_6 sq1 (by rw [← x205]; exact z1) (by omega) z5 (by rw [← x205]; exact z6) z7 d218).1.m.isIn _).mp y9; by_cases y8 : i9 = mn1.toNatClampNeg; (rw [y8, z6] at h2; rcases z8 with ⟨y7, y6⟩ | ⟨y7, y6⟩; exact absurd (y6.symm.trans c228) (fun y5 => by have y4 := congrArg Int32.toInt y5; rw [d218] at y4; have : (0 : Int32).toInt = 0 := rfl; omega); exact y7 h2); exact j11_7 ((j11_5.m.isIn _).mpr ⟨i9, by omega, ((z5 i9 (by omega)).1).symm.trans h2⟩)))) (by first | (rcases ms9 with z9 | ⟨z8, z9⟩; (exact j11_8); (exact j11_8)) | (obtain ⟨p1, p2⟩ := q221; rcases p2 with ⟨z1, z2, z3⟩ | ⟨z1, z2, z3, z4⟩ | ⟨z1, z2, z3, z4, z5, z6, z7, z8⟩; (rw [z3.1, z3.2.1, z3.2.2.2]; exact j11_8); exact absurd (z3.symm.trans c228) (by decide); (exact z4))) (by first | (rcases ms9 with z9 | ⟨z8, z9⟩; (exact j11_9); (exact j11_9)) | (obtain ⟨p1, p2⟩ := q221; rcases p2 with ⟨z1, z2, z3⟩ | ⟨z1, z2, z3, z4⟩ | ⟨z1, z2, z3, z4, z5, z6, z7, z8⟩; (rw [z3.2.1]; exact j11_9); exact absurd (z3.symm.trans c228) (by decide); (rw [(z5 0 (by omega)).1]; exact j11_9))) (by first | (rcases ms9 with z9 | ⟨z8, z9⟩; (exact j11_10); (exact j11_10)) | (obtain ⟨p1, p2⟩ := q221; rcases p2 with ⟨z1, z2, z3⟩ | ⟨z1, z2, z3, z4⟩ | ⟨z1, z2, z3, z4, z5, z6, z7, z8⟩; (rw [z3.2.2.1]; exact j11_10); exact absurd (z3.symm.trans c228) (by decide); (exact ((z5 k0.toNatClampNeg km9).2).trans j11_10))) (by first | (clear q221; omega) | omega) _ _ hP hS ls (lv_sub hl [0, 6, 7, 8, 9, 10, 11] rfl)
          · first | exact absurd c161 (by decide) | exact absurd (by decide) c161
        · skip
          have d61 := c61
          rw [fa_le] at d61
          refine lv_iload hx hb dX10_meetAll_64 (lv_at hl 1 rfl) ?_
          refine lv_iload hx hb dX10_meetAll_66 (lv_at hl 0 rfl) ?_
          refine lv_icmp_ge (tgt := 156) hx hb dX10_meetAll_68 (by decide) (fun c68 => ?_) (fun c68 => ?_)
          · skip
            have d68 := c68
            rw [fa_le] at d68
            have ms9 : (okS w.toNatClampNeg h.toNatClampNeg s1 = false) ∨ (okS w.toNatClampNeg h.toNatClampNeg s1 = true ∧ swq w.toNatClampNeg h.toNatClampNeg v5 (bs (okS w.toNatClampNeg h.toNatClampNeg) s1) = false) := by first | exact Or.inr ⟨ok1, (by rw [at9.1]; unfold swB; rw [Bool.and_eq_false_iff, Bool.and_eq_false_iff]; first | exact Or.inr (by rw [bne_eq_false_iff_eq]; exact one_iff.mp (by rw [← o134, ← o146]; exact c149)) | exact Or.inl (Or.inr (by rw [beq_eq_false_iff_ne]; exact fun z9 => c122 (by rw [o107, o119, z9]))) | exact Or.inl (Or.inl (by rw [beq_eq_false_iff_ne]; exact fun z9 => c95 (by rw [o80, o92, z9]))))⟩ | exact Or.inl (by unfold okS okP; rw [Bool.and_eq_false_iff]; first | exact Or.inl (decide_eq_false (by rw [← sx.1, ← sx.2.1]; omega)) | exact Or.inr (decide_eq_false (by rw [← sx.2.2.1, ← sx.2.2.2]; omega)))
            refine lv_iconst (v := 0) hx hb dX10_meetAll_156 (by decide) ?_
            refine lv_istore (lv' := [(13, .int (0 : Int32)), (12, .int v54), (11, .int v48), (10, .int v40), (9, .int v30), (8, .int (nI s1)), (6, .long v5), (0, .ref mo), (1, .int w), (2, .int h), (3, .int k0), (4, .long to0)]) hx hb dX10_meetAll_157 hl (by decide) rfl (fun ls hl => ?_)
            refine lv_iload hx hb dX10_meetAll_159 (lv_at hl 0 rfl) ?_
            refine lv_if_eq (tgt := 234) hx hb dX10_meetAll_161 (by decide) (fun c161 => ?_) (fun c161 => ?_)
            · skip
              have d161 := c161
              rw [fa_eq] at d161
              refine lv_iinc (v := (nI (s1 + 1))) (lv' := [(8, .int (nI (s1 + 1))), (13, .int (0 : Int32)), (12, .int v54), (11, .int v48), (10, .int v40), (9, .int v30), (6, .long v5), (0, .ref mo), (1, .int w), (2, .int h), (3, .int k0), (4, .long to0)]) hx hb dX10_meetAll_234 hl (k := 5) rfl (nI_1 _) (by decide) rfl (fun ls hl => ?_)
              refine lv_goto (tgt := 11) hx hb dX10_meetAll_237 (by decide) ?_
              exact ih_11 (s1 + 1) pl1 rr1 st1 mn1 (by omega) (by first | exact q221.1.1 | assumption) (by first | (have z9 := q221.1.2.1; omega) | omega) (by first | exact q221.1.2.2 | assumption) (by omega) (by first | (rcases ms9 with z9 | ⟨z8, z9⟩; (rw [bs_f z9]; exact j11_5); (rw [bs_t z8, nb_f z9]; exact j11_5)) | (obtain ⟨p1, p2⟩ := q221; rcases p2 with ⟨z1, z2, z3⟩ | ⟨z1, z2, z3, z4⟩ | ⟨z1, z2, z3, z4, z5, z6, z7, z8⟩; (rw [bs_t ok1, nb_o sq1 j11_6 (by rw [← x205]; exact (j11_5.m.isIn _).mpr z1), z3.2.1, z3.2.2.1, z3.2.2.2]; exact j11_5); exact absurd (z3.symm.trans c228) (by decide); (rw [bs_t ok1, show mn_221.toNatClampNeg = mn1.toNatClampNeg + 1 by have y9 := m_cl (x := mn_221) (by omega); have y8 := m_cl (x := mn1) (by omega); omega]; exact (rr_n j11_5 j11_6 sq1 (by rw [← x205]; exact z1) (by omega) z5 (by rw [← x205]; exact z6) z7 d218).1))) (by first | (rcases ms9 with z9 | ⟨z8, z9⟩; (rw [bs_f z9]; exact j11_6); (rw [bs_t z8, nb_f z9]; exact j11_6)) | (obtain ⟨p1, p2⟩ := q221; rcases p2 with ⟨z1, z2, z3⟩ | ⟨z1, z2, z3, z4⟩ | ⟨z1, z2, z3, z4, z5, z6, z7, z8⟩; (rw [bs_t ok1, nb_o sq1 j11_6 (by rw [← x205]; exact (j11_5.m.isIn _).mpr z1)]; exact j11_6); exact absurd (z3.symm.trans c228) (by decide); (rw [bs_t ok1]; exact (rr_n j11_5 j11_6 sq1 (by rw [← x205]; exact z1) (by omega) z5 (by rw [← x205]; exact z6) z7 d218).2))) (by first | (rcases ms9 with z9 | ⟨z8, z9⟩; (rw [bs_f z9]; exact j11_7); (rw [bs_t z8, nb_f z9]; exact j11_7)) | (obtain ⟨p1, p2⟩ := q221; rcases p2 with ⟨z1, z2, z3⟩ | ⟨z1, z2, z3, z4⟩ | ⟨z1, z2, z3, z4, z5, z6, z7, z8⟩; (rw [bs_t ok1, nb_o sq1 j11_6 (by rw [← x205]; exact (j11_5.m.isIn _).mpr z1)]; exact j11_7); exact absurd (z3.symm.trans c228) (by decide); (rw [bs_t ok1]; intro y9; obtain ⟨i9, h1, h2⟩ := ((rr_n j11_5 j11_6 sq1 (by rw [← x205]; exact z1) (by omega) z5 (by rw [← x205]; exact z6) z7 d218).1.m.isIn _).mp y9; by_cases y8 : i9 = mn1.toNatClampNeg; (rw [y8, z6] at h2; rcases z8 with ⟨y7, y6⟩ | ⟨y7, y6⟩; exact absurd (y6.symm.trans c228) (fun y5 => by have y4 := congrArg Int32.toInt y5; rw [d218] at y4; have : (0 : Int32).toInt = 0 := rfl; omega); exact y7 h2); exact j11_7 ((j11_5.m.isIn _).mpr ⟨i9, by omega, ((z5 i9 (by omega)).1).symm.trans h2⟩)))) (by first | (rcases ms9 with z9 | ⟨z8, z9⟩; (exact j11_8); (exact j11_8)) | (obtain ⟨p1, p2⟩ := q221; rcases p2 with ⟨z1, z2, z3⟩ | ⟨z1, z2, z3, z4⟩ | ⟨z1, z2, z3, z4, z5, z6, z7, z8⟩; (rw [z3.1, z3.2.1, z3.2.2.2]; exact j11_8); exact absurd (z3.symm.trans c228) (by decide); (exact z4))) (by first | (rcases ms9 with z9 | ⟨z8, z9⟩; (exact j11_9); (exact j11_9)) | (obtain ⟨p1, p2⟩ := q221; rcases p2 with ⟨z1, z2, z3⟩ | ⟨z1, z2, z3, z4⟩ | ⟨z1, z2, z3, z4, z5, z6, z7, z8⟩; (rw [z3.2.1]; exact j11_9); exact absurd (z3.symm.trans c228) (by decide); (rw [(z5 0 (by omega)).1]; exact j11_9))) (by first | (rcases ms9 with z9 | ⟨z8, z9⟩; (exact j11_10); (exact j11_10)) | (obtain ⟨p1, p2⟩ := q221; rcases p2 with ⟨z1, z2, z3⟩ | ⟨z1, z2, z3, z4⟩ | ⟨z1, z2, z3, z4, z5, z6, z7, z8⟩; (rw [z3.2.2.1]; exact j11_10); exact absurd (z3.symm.trans c228) (by decide); (exact ((z5 k0.toNatClampNeg km9).2).trans j11_10))) (by first | (clear q221; omega) | omega) _ _ hP hS ls (lv_sub hl [0, 6, 7, 8, 9, 10, 11] rfl)
            · first | exact absurd c161 (by decide) | exact absurd (by decide) c161
          · skip
            have d68 := c68
            rw [fa_le] at d68
            have ok1 : okS w.toNatClampNeg h.toNatClampNeg s1 = true := by unfold okS okP; rw [Bool.and_eq_true]; exact ⟨decide_eq_true (by rw [← sx.1, ← sx.2.1]; omega), decide_eq_true (by rw [← sx.2.2.1, ← sx.2.2.2]; omega)⟩
            have fi9 := okS_at hb9 ok1 hs9
            rw [← sx.1, ← sx.2.1, ← sx.2.2.1, ← sx.2.2.2] at fi9
            have lt9 := fo_lt (w := w.toNatClampNeg) (h := h.toNatClampNeg) (y := v30.toNatClampNeg) (v := v40.toNatClampNeg) (x := v48.toNatClampNeg) (u := v54.toNatClampNeg) (by omega) (by omega) (by omega) (by omega) (by omega) (by omega)
            have at9 := swq_at (w := w.toNatClampNeg) (h := h.toNatClampNeg) (p := v5) (y := v30.toNatClampNeg) (v := v40.toNatClampNeg) (x := v48.toNatClampNeg) (u := v54.toNatClampNeg) (by omega) (by omega) (by omega) (by omega) (by omega) (by omega)
            rw [← fi9] at at9 lt9
            have pl9 := sw_pl (w := w.toNatClampNeg) (h := h.toNatClampNeg) (y := v30.toNatClampNeg) (v := v40.toNatClampNeg) (x := v48.toNatClampNeg) (u := v54.toNatClampNeg) (by omega) (by omega) (by omega) (by omega) (by omega) (by omega)
            refine lv_lload hx hb dX10_meetAll_71 (lv_at hl 5 rfl) ?_
            refine lv_iload hx hb dX10_meetAll_73 (lv_at hl 3 rfl) ?_
            refine lv_iload_n hx hb dX10_meetAll_75 rfl (lv_at hl 7 rfl) ?_
            refine lv_imul hx hb dX10_meetAll_76 ?_
            refine lv_topi (fun v76 e76 => ?_)
            refine lv_iload hx hb dX10_meetAll_77 (lv_at hl 1 rfl) ?_
            refine lv_iadd hx hb dX10_meetAll_79 ?_
            refine lv_topi (fun v79 e79 => ?_)
            refine m_pu (As := [.long v5, .int v79]) (rest := []) ⟨hx, hb, hml, hown, hts⟩ (c_X10_one l v5 v79 ) (va_cwS 2 hts gX10_meetAll_X10_one rfl rfl rfl (by decide +kernel) ⟨Nat.le_of_ble_eq_true rfl, Nat.le_of_ble_eq_true rfl⟩) hP rfl hl.1 rfl (Nat.le_of_ble_eq_true rfl) dX10_meetAll_80 ⟨Nat.le_of_ble_eq_true rfl, Nat.le_of_ble_eq_true rfl⟩ hS (fun r80 H locs q80 hP hS => ?_)
            have i80 : r80.toInt = (r_one v5 v79).toInt := congrArg Int32.toInt q80
            have a79 : v79 = nI (v30.toNatClampNeg * w.toNatClampNeg + v48.toNatClampNeg) := by rw [e79, e76]; exact plc9 y30 yw y48
            have o80 : r80 = if lb v5 (v30.toNatClampNeg * w.toNatClampNeg + v48.toNatClampNeg) = true then (1 : Int32) else 0 := by rw [q80, a79, one_lb v5 (by omega)]
            refine lv_lload hx hb dX10_meetAll_83 (lv_at hl 5 rfl) ?_
            refine lv_iload hx hb dX10_meetAll_85 (lv_at hl 2 rfl) ?_
            refine lv_iload_n hx hb dX10_meetAll_87 rfl (lv_at hl 7 rfl) ?_
            refine lv_imul hx hb dX10_meetAll_88 ?_
            refine lv_topi (fun v88 e88 => ?_)
            refine lv_iload hx hb dX10_meetAll_89 (lv_at hl 0 rfl) ?_
            refine lv_iadd hx hb dX10_meetAll_91 ?_
            refine lv_topi (fun v91 e91 => ?_)
            refine m_pu (As := [.long v5, .int v91]) (rest := [.int r80]) ⟨hx, hb, hml, hown, hts⟩ (c_X10_one l v5 v91 ) (va_cwS 2 hts gX10_meetAll_X10_one rfl rfl rfl (by decide +kernel) ⟨Nat.le_of_ble_eq_true rfl, Nat.le_of_ble_eq_true rfl⟩) hP rfl hl.1 rfl (Nat.le_of_ble_eq_true rfl) dX10_meetAll_92 ⟨Nat.le_of_ble_eq_true rfl, Nat.le_of_ble_eq_true rfl⟩ hS (fun r92 H locs q92 hP hS => ?_)
            have i92 : r92.toInt = (r_one v5 v91).toInt := congrArg Int32.toInt q92
            have a91 : v91 = nI (v40.toNatClampNeg * w.toNatClampNeg + v54.toNatClampNeg) := by rw [e91, e88]; exact plc9 y40 yw y54
            have o92 : r92 = if lb v5 (v40.toNatClampNeg * w.toNatClampNeg + v54.toNatClampNeg) = true then (1 : Int32) else 0 := by rw [q92, a91, one_lb v5 (by omega)]
            refine lv_icmp_ne (tgt := 156) hx hb dX10_meetAll_95 (by decide) (fun c95 => ?_) (fun c95 => ?_)
            · skip
              have d95 := c95
              rw [fa_eq] at d95
              have ms9 : (okS w.toNatClampNeg h.toNatClampNeg s1 = false) ∨ (okS w.toNatClampNeg h.toNatClampNeg s1 = true ∧ swq w.toNatClampNeg h.toNatClampNeg v5 (bs (okS w.toNatClampNeg h.toNatClampNeg) s1) = false) := by first | exact Or.inr ⟨ok1, (by rw [at9.1]; unfold swB; rw [Bool.and_eq_false_iff, Bool.and_eq_false_iff]; first | exact Or.inr (by rw [bne_eq_false_iff_eq]; exact one_iff.mp (by rw [← o134, ← o146]; exact c149)) | exact Or.inl (Or.inr (by rw [beq_eq_false_iff_ne]; exact fun z9 => c122 (by rw [o107, o119, z9]))) | exact Or.inl (Or.inl (by rw [beq_eq_false_iff_ne]; exact fun z9 => c95 (by rw [o80, o92, z9]))))⟩ | exact Or.inl (by unfold okS okP; rw [Bool.and_eq_false_iff]; first | exact Or.inl (decide_eq_false (by rw [← sx.1, ← sx.2.1]; omega)) | exact Or.inr (decide_eq_false (by rw [← sx.2.2.1, ← sx.2.2.2]; omega)))
              refine lv_iconst (v := 0) hx hb dX10_meetAll_156 (by decide) ?_
              refine lv_istore (lv' := [(13, .int (0 : Int32)), (12, .int v54), (11, .int v48), (10, .int v40), (9, .int v30), (8, .int (nI s1)), (6, .long v5), (0, .ref mo), (1, .int w), (2, .int h), (3, .int k0), (4, .long to0)]) hx hb dX10_meetAll_157 hl (by decide) rfl (fun ls hl => ?_)
              refine lv_iload hx hb dX10_meetAll_159 (lv_at hl 0 rfl) ?_
              refine lv_if_eq (tgt := 234) hx hb dX10_meetAll_161 (by decide) (fun c161 => ?_) (fun c161 => ?_)
              · skip
                have d161 := c161
                rw [fa_eq] at d161
                refine lv_iinc (v := (nI (s1 + 1))) (lv' := [(8, .int (nI (s1 + 1))), (13, .int (0 : Int32)), (12, .int v54), (11, .int v48), (10, .int v40), (9, .int v30), (6, .long v5), (0, .ref mo), (1, .int w), (2, .int h), (3, .int k0), (4, .long to0)]) hx hb dX10_meetAll_234 hl (k := 5) rfl (nI_1 _) (by decide) rfl (fun ls hl => ?_)
                refine lv_goto (tgt := 11) hx hb dX10_meetAll_237 (by decide) ?_
                exact ih_11 (s1 + 1) pl1 rr1 st1 mn1 (by omega) (by first | exact q221.1.1 | assumption) (by first | (have z9 := q221.1.2.1; omega) | omega) (by first | exact q221.1.2.2 | assumption) (by omega) (by first | (rcases ms9 with z9 | ⟨z8, z9⟩; (rw [bs_f z9]; exact j11_5); (rw [bs_t z8, nb_f z9]; exact j11_5)) | (obtain ⟨p1, p2⟩ := q221; rcases p2 with ⟨z1, z2, z3⟩ | ⟨z1, z2, z3, z4⟩ | ⟨z1, z2, z3, z4, z5, z6, z7, z8⟩; (rw [bs_t ok1, nb_o sq1 j11_6 (by rw [← x205]; exact (j11_5.m.isIn _).mpr z1), z3.2.1, z3.2.2.1, z3.2.2.2]; exact j11_5); exact absurd (z3.symm.trans c228) (by decide); (rw [bs_t ok1, show mn_221.toNatClampNeg = mn1.toNatClampNeg + 1 by have y9 := m_cl (x := mn_221) (by omega); have y8 := m_cl (x := mn1) (by omega); omega]; exact (rr_n j11_5 j11_6 sq1 (by rw [← x205]; exact z1) (by omega) z5 (by rw [← x205]; exact z6) z7 d218).1))) (by first | (rcases ms9 with z9 | ⟨z8, z9⟩; (rw [bs_f z9]; exact j11_6); (rw [bs_t z8, nb_f z9]; exact j11_6)) | (obtain ⟨p1, p2⟩ := q221; rcases p2 with ⟨z1, z2, z3⟩ | ⟨z1, z2, z3, z4⟩ | ⟨z1, z2, z3, z4, z5, z6, z7, z8⟩; (rw [bs_t ok1, nb_o sq1 j11_6 (by rw [← x205]; exact (j11_5.m.isIn _).mpr z1)]; exact j11_6); exact absurd (z3.symm.trans c228) (by decide); (rw [bs_t ok1]; exact (rr_n j11_5 j11_6 sq1 (by rw [← x205]; exact z1) (by omega) z5 (by rw [← x205]; exact z6) z7 d218).2))) (by first | (rcases ms9 with z9 | ⟨z8, z9⟩; (rw [bs_f z9]; exact j11_7); (rw [bs_t z8, nb_f z9]; exact j11_7)) | (obtain ⟨p1, p2⟩ := q221; rcases p2 with ⟨z1, z2, z3⟩ | ⟨z1, z2, z3, z4⟩ | ⟨z1, z2, z3, z4, z5, z6, z7, z8⟩; (rw [bs_t ok1, nb_o sq1 j11_6 (by rw [← x205]; exact (j11_5.m.isIn _).mpr z1)]; exact j11_7); exact absurd (z3.symm.trans c228) (by decide); (rw [bs_t ok1]; intro y9; obtain ⟨i9, h1, h2⟩ := ((rr_n j11_5 j11_6 sq1 (by rw [← x205]; exact z1) (by omega) z5 (by rw [← x205]; exact z6) z7 d218).1.m.isIn _).mp y9; by_cases y8 : i9 = mn1.toNatClampNeg; (rw [y8, z6] at h2; rcases z8 with ⟨y7, y6⟩ | ⟨y7, y6⟩; exact absurd (y6.symm.trans c228) (fun y5 => by have y4 := congrArg Int32.toInt y5; rw [d218] at y4; have : (0 : Int32).toInt = 0 := rfl; omega); exact y7 h2); exact j11_7 ((j11_5.m.isIn _).mpr ⟨i9, by omega, ((z5 i9 (by omega)).1).symm.trans h2⟩)))) (by first | (rcases ms9 with z9 | ⟨z8, z9⟩; (exact j11_8); (exact j11_8)) | (obtain ⟨p1, p2⟩ := q221; rcases p2 with ⟨z1, z2, z3⟩ | ⟨z1, z2, z3, z4⟩ | ⟨z1, z2, z3, z4, z5, z6, z7, z8⟩; (rw [z3.1, z3.2.1, z3.2.2.2]; exact j11_8); exact absurd (z3.symm.trans c228) (by decide); (exact z4))) (by first | (rcases ms9 with z9 | ⟨z8, z9⟩; (exact j11_9); (exact j11_9)) | (obtain ⟨p1, p2⟩ := q221; rcases p2 with ⟨z1, z2, z3⟩ | ⟨z1, z2, z3, z4⟩ | ⟨z1, z2, z3, z4, z5, z6, z7, z8⟩; (rw [z3.2.1]; exact j11_9); exact absurd (z3.symm.trans c228) (by decide); (rw [(z5 0 (by omega)).1]; exact j11_9))) (by first | (rcases ms9 with z9 | ⟨z8, z9⟩; (exact j11_10); (exact j11_10)) | (obtain ⟨p1, p2⟩ := q221; rcases p2 with ⟨z1, z2, z3⟩ | ⟨z1, z2, z3, z4⟩ | ⟨z1, z2, z3, z4, z5, z6, z7, z8⟩; (rw [z3.2.2.1]; exact j11_10); exact absurd (z3.symm.trans c228) (by decide); (exact ((z5 k0.toNatClampNeg km9).2).trans j11_10))) (by first | (clear q221; omega) | omega) _ _ hP hS ls (lv_sub hl [0, 6, 7, 8, 9, 10, 11] rfl)
              · first | exact absurd c161 (by decide) | exact absurd (by decide) c161
            · skip
              have d95 := c95
              rw [fa_eq] at d95
              refine lv_lload hx hb dX10_meetAll_98 (lv_at hl 5 rfl) ?_
              refine lv_iload hx hb dX10_meetAll_100 (lv_at hl 3 rfl) ?_
              refine lv_iload_n hx hb dX10_meetAll_102 rfl (lv_at hl 7 rfl) ?_
              refine lv_imul hx hb dX10_meetAll_103 ?_
              refine lv_topi (fun v103 e103 => ?_)
              refine lv_iload hx hb dX10_meetAll_104 (lv_at hl 0 rfl) ?_
              refine lv_iadd hx hb dX10_meetAll_106 ?_
              refine lv_topi (fun v106 e106 => ?_)
              refine m_pu (As := [.long v5, .int v106]) (rest := []) ⟨hx, hb, hml, hown, hts⟩ (c_X10_one l v5 v106 ) (va_cwS 2 hts gX10_meetAll_X10_one rfl rfl rfl (by decide +kernel) ⟨Nat.le_of_ble_eq_true rfl, Nat.le_of_ble_eq_true rfl⟩) hP rfl hl.1 rfl (Nat.le_of_ble_eq_true rfl) dX10_meetAll_107 ⟨Nat.le_of_ble_eq_true rfl, Nat.le_of_ble_eq_true rfl⟩ hS (fun r107 H locs q107 hP hS => ?_)
              have i107 : r107.toInt = (r_one v5 v106).toInt := congrArg Int32.toInt q107
              have a106 : v106 = nI (v30.toNatClampNeg * w.toNatClampNeg + v54.toNatClampNeg) := by rw [e106, e103]; exact plc9 y30 yw y54
              have o107 : r107 = if lb v5 (v30.toNatClampNeg * w.toNatClampNeg + v54.toNatClampNeg) = true then (1 : Int32) else 0 := by rw [q107, a106, one_lb v5 (by omega)]
              refine lv_lload hx hb dX10_meetAll_110 (lv_at hl 5 rfl) ?_
              refine lv_iload hx hb dX10_meetAll_112 (lv_at hl 2 rfl) ?_
              refine lv_iload_n hx hb dX10_meetAll_114 rfl (lv_at hl 7 rfl) ?_
              refine lv_imul hx hb dX10_meetAll_115 ?_
              refine lv_topi (fun v115 e115 => ?_)
              refine lv_iload hx hb dX10_meetAll_116 (lv_at hl 1 rfl) ?_
              refine lv_iadd hx hb dX10_meetAll_118 ?_
              refine lv_topi (fun v118 e118 => ?_)
              refine m_pu (As := [.long v5, .int v118]) (rest := [.int r107]) ⟨hx, hb, hml, hown, hts⟩ (c_X10_one l v5 v118 ) (va_cwS 2 hts gX10_meetAll_X10_one rfl rfl rfl (by decide +kernel) ⟨Nat.le_of_ble_eq_true rfl, Nat.le_of_ble_eq_true rfl⟩) hP rfl hl.1 rfl (Nat.le_of_ble_eq_true rfl) dX10_meetAll_119 ⟨Nat.le_of_ble_eq_true rfl, Nat.le_of_ble_eq_true rfl⟩ hS (fun r119 H locs q119 hP hS => ?_)
              have i119 : r119.toInt = (r_one v5 v118).toInt := congrArg Int32.toInt q119
              have a118 : v118 = nI (v40.toNatClampNeg * w.toNatClampNeg + v48.toNatClampNeg) := by rw [e118, e115]; exact plc9 y40 yw y48
              have o119 : r119 = if lb v5 (v40.toNatClampNeg * w.toNatClampNeg + v48.toNatClampNeg) = true then (1 : Int32) else 0 := by rw [q119, a118, one_lb v5 (by omega)]
              refine lv_icmp_ne (tgt := 156) hx hb dX10_meetAll_122 (by decide) (fun c122 => ?_) (fun c122 => ?_)
              · skip
                have d122 := c122
                rw [fa_eq] at d122
                have ms9 : (okS w.toNatClampNeg h.toNatClampNeg s1 = false) ∨ (okS w.toNatClampNeg h.toNatClampNeg s1 = true ∧ swq w.toNatClampNeg h.toNatClampNeg v5 (bs (okS w.toNatClampNeg h.toNatClampNeg) s1) = false) := by first | exact Or.inr ⟨ok1, (by rw [at9.1]; unfold swB; rw [Bool.and_eq_false_iff, Bool.and_eq_false_iff]; first | exact Or.inr (by rw [bne_eq_false_iff_eq]; exact one_iff.mp (by rw [← o134, ← o146]; exact c149)) | exact Or.inl (Or.inr (by rw [beq_eq_false_iff_ne]; exact fun z9 => c122 (by rw [o107, o119, z9]))) | exact Or.inl (Or.inl (by rw [beq_eq_false_iff_ne]; exact fun z9 => c95 (by rw [o80, o92, z9]))))⟩ | exact Or.inl (by unfold okS okP; rw [Bool.and_eq_false_iff]; first | exact Or.inl (decide_eq_false (by rw [← sx.1, ← sx.2.1]; omega)) | exact Or.inr (decide_eq_false (by rw [← sx.2.2.1, ← sx.2.2.2]; omega)))
                refine lv_iconst (v := 0) hx hb dX10_meetAll_156 (by decide) ?_
                refine lv_istore (lv' := [(13, .int (0 : Int32)), (12, .int v54), (11, .int v48), (10, .int v40), (9, .int v30), (8, .int (nI s1)), (6, .long v5), (0, .ref mo), (1, .int w), (2, .int h), (3, .int k0), (4, .long to0)]) hx hb dX10_meetAll_157 hl (by decide) rfl (fun ls hl => ?_)
                refine lv_iload hx hb dX10_meetAll_159 (lv_at hl 0 rfl) ?_
                refine lv_if_eq (tgt := 234) hx hb dX10_meetAll_161 (by decide) (fun c161 => ?_) (fun c161 => ?_)
                · skip
                  have d161 := c161
                  rw [fa_eq] at d161
                  refine lv_iinc (v := (nI (s1 + 1))) (lv' := [(8, .int (nI (s1 + 1))), (13, .int (0 : Int32)), (12, .int v54), (11, .int v48), (10, .int v40), (9, .int v30), (6, .long v5), (0, .ref mo), (1, .int w), (2, .int h), (3, .int k0), (4, .long to0)]) hx hb dX10_meetAll_234 hl (k := 5) rfl (nI_1 _) (by decide) rfl (fun ls hl => ?_)
                  refine lv_goto (tgt := 11) hx hb dX10_meetAll_237 (by decide) ?_
                  exact ih_11 (s1 + 1) pl1 rr1 st1 mn1 (by omega) (by first | exact q221.1.1 | assumption) (by first | (have z9 := q221.1.2.1; omega) | omega) (by first | exact q221.1.2.2 | assumption) (by omega) (by first | (rcases ms9 with z9 | ⟨z8, z9⟩; (rw [bs_f z9]; exact j11_5); (rw [bs_t z8, nb_f z9]; exact j11_5)) | (obtain ⟨p1, p2⟩ := q221; rcases p2 with ⟨z1, z2, z3⟩ | ⟨z1, z2, z3, z4⟩ | ⟨z1, z2, z3, z4, z5, z6, z7, z8⟩; (rw [bs_t ok1, nb_o sq1 j11_6 (by rw [← x205]; exact (j11_5.m.isIn _).mpr z1), z3.2.1, z3.2.2.1, z3.2.2.2]; exact j11_5); exact absurd (z3.symm.trans c228) (by decide); (rw [bs_t ok1, show mn_221.toNatClampNeg = mn1.toNatClampNeg + 1 by have y9 := m_cl (x := mn_221) (by omega); have y8 := m_cl (x := mn1) (by omega); omega]; exact (rr_n j11_5 j11_6 sq1 (by rw [← x205]; exact z1) (by omega) z5 (by rw [← x205]; exact z6) z7 d218).1))) (by first | (rcases ms9 with z9 | ⟨z8, z9⟩; (rw [bs_f z9]; exact j11_6); (rw [bs_t z8, nb_f z9]; exact j11_6)) | (obtain ⟨p1, p2⟩ := q221; rcases p2 with ⟨z1, z2, z3⟩ | ⟨z1, z2, z3, z4⟩ | ⟨z1, z2, z3, z4, z5, z6, z7, z8⟩; (rw [bs_t ok1, nb_o sq1 j11_6 (by rw [← x205]; exact (j11_5.m.isIn _).mpr z1)]; exact j11_6); exact absurd (z3.symm.trans c228) (by decide); (rw [bs_t ok1]; exact (rr_n j11_5 j11_6 sq1 (by rw [← x205]; exact z1) (by omega) z5 (by rw [← x205]; exact z6) z7 d218).2))) (by first | (rcases ms9 with z9 | ⟨z8, z9⟩; (rw [bs_f z9]; exact j11_7); (rw [bs_t z8, nb_f z9]; exact j11_7)) | (obtain ⟨p1, p2⟩ := q221; rcases p2 with ⟨z1, z2, z3⟩ | ⟨z1, z2, z3, z4⟩ | ⟨z1, z2, z3, z4, z5, z6, z7, z8⟩; (rw [bs_t ok1, nb_o sq1 j11_6 (by rw [← x205]; exact (j11_5.m.isIn _).mpr z1)]; exact j11_7); exact absurd (z3.symm.trans c228) (by decide); (rw [bs_t ok1]; intro y9; obtain ⟨i9, h1, h2⟩ := ((rr_n j11_5 j11_6 sq1 (by rw [← x205]; exact z1) (by omega) z5 (by rw [← x205]; exact z6) z7 d218).1.m.isIn _).mp y9; by_cases y8 : i9 = mn1.toNatClampNeg; (rw [y8, z6] at h2; rcases z8 with ⟨y7, y6⟩ | ⟨y7, y6⟩; exact absurd (y6.symm.trans c228) (fun y5 => by have y4 := congrArg Int32.toInt y5; rw [d218] at y4; have : (0 : Int32).toInt = 0 := rfl; omega); exact y7 h2); exact j11_7 ((j11_5.m.isIn _).mpr ⟨i9, by omega, ((z5 i9 (by omega)).1).symm.trans h2⟩)))) (by first | (rcases ms9 with z9 | ⟨z8, z9⟩; (exact j11_8); (exact j11_8)) | (obtain ⟨p1, p2⟩ := q221; rcases p2 with ⟨z1, z2, z3⟩ | ⟨z1, z2, z3, z4⟩ | ⟨z1, z2, z3, z4, z5, z6, z7, z8⟩; (rw [z3.1, z3.2.1, z3.2.2.2]; exact j11_8); exact absurd (z3.symm.trans c228) (by decide); (exact z4))) (by first | (rcases ms9 with z9 | ⟨z8, z9⟩; (exact j11_9); (exact j11_9)) | (obtain ⟨p1, p2⟩ := q221; rcases p2 with ⟨z1, z2, z3⟩ | ⟨z1, z2, z3, z4⟩ | ⟨z1, z2, z3, z4, z5, z6, z7, z8⟩; (rw [z3.2.1]; exact j11_9); exact absurd (z3.symm.trans c228) (by decide); (rw [(z5 0 (by omega)).1]; exact j11_9))) (by first | (rcases ms9 with z9 | ⟨z8, z9⟩; (exact j11_10); (exact j11_10)) | (obtain ⟨p1, p2⟩ := q221; rcases p2 with ⟨z1, z2, z3⟩ | ⟨z1, z2, z3, z4⟩ | ⟨z1, z2, z3, z4, z5, z6, z7, z8⟩; (rw [z3.2.2.1]; exact j11_10); exact absurd (z3.symm.trans c228) (by decide); (exact ((z5 k0.toNatClampNeg km9).2).trans j11_10))) (by first | (clear q221; omega) | omega) _ _ hP hS ls (lv_sub hl [0, 6, 7, 8, 9, 10, 11] rfl)
                · first | exact absurd c161 (by decide) | exact absurd (by decide) c161
              · skip
                have d122 := c122
                rw [fa_eq] at d122
                refine lv_lload hx hb dX10_meetAll_125 (lv_at hl 5 rfl) ?_
                refine lv_iload hx hb dX10_meetAll_127 (lv_at hl 3 rfl) ?_
                refine lv_iload_n hx hb dX10_meetAll_129 rfl (lv_at hl 7 rfl) ?_
                refine lv_imul hx hb dX10_meetAll_130 ?_
                refine lv_topi (fun v130 e130 => ?_)
                refine lv_iload hx hb dX10_meetAll_131 (lv_at hl 1 rfl) ?_
                refine lv_iadd hx hb dX10_meetAll_133 ?_
                refine lv_topi (fun v133 e133 => ?_)
                refine m_pu (As := [.long v5, .int v133]) (rest := []) ⟨hx, hb, hml, hown, hts⟩ (c_X10_one l v5 v133 ) (va_cwS 2 hts gX10_meetAll_X10_one rfl rfl rfl (by decide +kernel) ⟨Nat.le_of_ble_eq_true rfl, Nat.le_of_ble_eq_true rfl⟩) hP rfl hl.1 rfl (Nat.le_of_ble_eq_true rfl) dX10_meetAll_134 ⟨Nat.le_of_ble_eq_true rfl, Nat.le_of_ble_eq_true rfl⟩ hS (fun r134 H locs q134 hP hS => ?_)
                have i134 : r134.toInt = (r_one v5 v133).toInt := congrArg Int32.toInt q134
                have a133 : v133 = nI (v30.toNatClampNeg * w.toNatClampNeg + v48.toNatClampNeg) := by rw [e133, e130]; exact plc9 y30 yw y48
                have o134 : r134 = if lb v5 (v30.toNatClampNeg * w.toNatClampNeg + v48.toNatClampNeg) = true then (1 : Int32) else 0 := by rw [q134, a133, one_lb v5 (by omega)]
                refine lv_lload hx hb dX10_meetAll_137 (lv_at hl 5 rfl) ?_
                refine lv_iload hx hb dX10_meetAll_139 (lv_at hl 3 rfl) ?_
                refine lv_iload_n hx hb dX10_meetAll_141 rfl (lv_at hl 7 rfl) ?_
                refine lv_imul hx hb dX10_meetAll_142 ?_
                refine lv_topi (fun v142 e142 => ?_)
                refine lv_iload hx hb dX10_meetAll_143 (lv_at hl 0 rfl) ?_
                refine lv_iadd hx hb dX10_meetAll_145 ?_
                refine lv_topi (fun v145 e145 => ?_)
                refine m_pu (As := [.long v5, .int v145]) (rest := [.int r134]) ⟨hx, hb, hml, hown, hts⟩ (c_X10_one l v5 v145 ) (va_cwS 2 hts gX10_meetAll_X10_one rfl rfl rfl (by decide +kernel) ⟨Nat.le_of_ble_eq_true rfl, Nat.le_of_ble_eq_true rfl⟩) hP rfl hl.1 rfl (Nat.le_of_ble_eq_true rfl) dX10_meetAll_146 ⟨Nat.le_of_ble_eq_true rfl, Nat.le_of_ble_eq_true rfl⟩ hS (fun r146 H locs q146 hP hS => ?_)
                have i146 : r146.toInt = (r_one v5 v145).toInt := congrArg Int32.toInt q146
                have a145 : v145 = nI (v30.toNatClampNeg * w.toNatClampNeg + v54.toNatClampNeg) := by rw [e145, e142]; exact plc9 y30 yw y54
                have o146 : r146 = if lb v5 (v30.toNatClampNeg * w.toNatClampNeg + v54.toNatClampNeg) = true then (1 : Int32) else 0 := by rw [q146, a145, one_lb v5 (by omega)]
                refine lv_icmp_eq (tgt := 156) hx hb dX10_meetAll_149 (by decide) (fun c149 => ?_) (fun c149 => ?_)
                · skip
                  have d149 := c149
                  rw [fa_eq] at d149
                  have ms9 : (okS w.toNatClampNeg h.toNatClampNeg s1 = false) ∨ (okS w.toNatClampNeg h.toNatClampNeg s1 = true ∧ swq w.toNatClampNeg h.toNatClampNeg v5 (bs (okS w.toNatClampNeg h.toNatClampNeg) s1) = false) := by first | exact Or.inr ⟨ok1, (by rw [at9.1]; unfold swB; rw [Bool.and_eq_false_iff, Bool.and_eq_false_iff]; first | exact Or.inr (by rw [bne_eq_false_iff_eq]; exact one_iff.mp (by rw [← o134, ← o146]; exact c149)) | exact Or.inl (Or.inr (by rw [beq_eq_false_iff_ne]; exact fun z9 => c122 (by rw [o107, o119, z9]))) | exact Or.inl (Or.inl (by rw [beq_eq_false_iff_ne]; exact fun z9 => c95 (by rw [o80, o92, z9]))))⟩ | exact Or.inl (by unfold okS okP; rw [Bool.and_eq_false_iff]; first | exact Or.inl (decide_eq_false (by rw [← sx.1, ← sx.2.1]; omega)) | exact Or.inr (decide_eq_false (by rw [← sx.2.2.1, ← sx.2.2.2]; omega)))
                  refine lv_iconst (v := 0) hx hb dX10_meetAll_156 (by decide) ?_
                  refine lv_istore (lv' := [(13, .int (0 : Int32)), (12, .int v54), (11, .int v48), (10, .int v40), (9, .int v30), (8, .int (nI s1)), (6, .long v5), (0, .ref mo), (1, .int w), (2, .int h), (3, .int k0), (4, .long to0)]) hx hb dX10_meetAll_157 hl (by decide) rfl (fun ls hl => ?_)
                  refine lv_iload hx hb dX10_meetAll_159 (lv_at hl 0 rfl) ?_
                  refine lv_if_eq (tgt := 234) hx hb dX10_meetAll_161 (by decide) (fun c161 => ?_) (fun c161 => ?_)
                  · skip
                    have d161 := c161
                    rw [fa_eq] at d161
                    refine lv_iinc (v := (nI (s1 + 1))) (lv' := [(8, .int (nI (s1 + 1))), (13, .int (0 : Int32)), (12, .int v54), (11, .int v48), (10, .int v40), (9, .int v30), (6, .long v5), (0, .ref mo), (1, .int w), (2, .int h), (3, .int k0), (4, .long to0)]) hx hb dX10_meetAll_234 hl (k := 5) rfl (nI_1 _) (by decide) rfl (fun ls hl => ?_)
                    refine lv_goto (tgt := 11) hx hb dX10_meetAll_237 (by decide) ?_
                    exact ih_11 (s1 + 1) pl1 rr1 st1 mn1 (by omega) (by first | exact q221.1.1 | assumption) (by first | (have z9 := q221.1.2.1; omega) | omega) (by first | exact q221.1.2.2 | assumption) (by omega) (by first | (rcases ms9 with z9 | ⟨z8, z9⟩; (rw [bs_f z9]; exact j11_5); (rw [bs_t z8, nb_f z9]; exact j11_5)) | (obtain ⟨p1, p2⟩ := q221; rcases p2 with ⟨z1, z2, z3⟩ | ⟨z1, z2, z3, z4⟩ | ⟨z1, z2, z3, z4, z5, z6, z7, z8⟩; (rw [bs_t ok1, nb_o sq1 j11_6 (by rw [← x205]; exact (j11_5.m.isIn _).mpr z1), z3.2.1, z3.2.2.1, z3.2.2.2]; exact j11_5); exact absurd (z3.symm.trans c228) (by decide); (rw [bs_t ok1, show mn_221.toNatClampNeg = mn1.toNatClampNeg + 1 by have y9 := m_cl (x := mn_221) (by omega); have y8 := m_cl (x := mn1) (by omega); omega]; exact (rr_n j11_5 j11_6 sq1 (by rw [← x205]; exact z1) (by omega) z5 (by rw [← x205]; exact z6) z7 d218).1))) (by first | (rcases ms9 with z9 | ⟨z8, z9⟩; (rw [bs_f z9]; exact j11_6); (rw [bs_t z8, nb_f z9]; exact j11_6)) | (obtain ⟨p1, p2⟩ := q221; rcases p2 with ⟨z1, z2, z3⟩ | ⟨z1, z2, z3, z4⟩ | ⟨z1, z2, z3, z4, z5, z6, z7, z8⟩; (rw [bs_t ok1, nb_o sq1 j11_6 (by rw [← x205]; exact (j11_5.m.isIn _).mpr z1)]; exact j11_6); exact absurd (z3.symm.trans c228) (by decide); (rw [bs_t ok1]; exact (rr_n j11_5 j11_6 sq1 (by rw [← x205]; exact z1) (by omega) z5 (by rw [← x205]; exact z6) z7 d218).2))) (by first | (rcases ms9 with z9 | ⟨z8, z9⟩; (rw [bs_f z9]; exact j11_7); (rw [bs_t z8, nb_f z9]; exact j11_7)) | (obtain ⟨p1, p2⟩ := q221; rcases p2 with ⟨z1, z2, z3⟩ | ⟨z1, z2, z3, z4⟩ | ⟨z1, z2, z3, z4, z5, z6, z7, z8⟩; (rw [bs_t ok1, nb_o sq1 j11_6 (by rw [← x205]; exact (j11_5.m.isIn _).mpr z1)]; exact j11_7); exact absurd (z3.symm.trans c228) (by decide); (rw [bs_t ok1]; intro y9; obtain ⟨i9, h1, h2⟩ := ((rr_n j11_5 j11_6 sq1 (by rw [← x205]; exact z1) (by omega) z5 (by rw [← x205]; exact z6) z7 d218).1.m.isIn _).mp y9; by_cases y8 : i9 = mn1.toNatClampNeg; (rw [y8, z6] at h2; rcases z8 with ⟨y7, y6⟩ | ⟨y7, y6⟩; exact absurd (y6.symm.trans c228) (fun y5 => by have y4 := congrArg Int32.toInt y5; rw [d218] at y4; have : (0 : Int32).toInt = 0 := rfl; omega); exact y7 h2); exact j11_7 ((j11_5.m.isIn _).mpr ⟨i9, by omega, ((z5 i9 (by omega)).1).symm.trans h2⟩)))) (by first | (rcases ms9 with z9 | ⟨z8, z9⟩; (exact j11_8); (exact j11_8)) | (obtain ⟨p1, p2⟩ := q221; rcases p2 with ⟨z1, z2, z3⟩ | ⟨z1, z2, z3, z4⟩ | ⟨z1, z2, z3, z4, z5, z6, z7, z8⟩; (rw [z3.1, z3.2.1, z3.2.2.2]; exact j11_8); exact absurd (z3.symm.trans c228) (by decide); (exact z4))) (by first | (rcases ms9 with z9 | ⟨z8, z9⟩; (exact j11_9); (exact j11_9)) | (obtain ⟨p1, p2⟩ := q221; rcases p2 with ⟨z1, z2, z3⟩ | ⟨z1, z2, z3, z4⟩ | ⟨z1, z2, z3, z4, z5, z6, z7, z8⟩; (rw [z3.2.1]; exact j11_9); exact absurd (z3.symm.trans c228) (by decide); (rw [(z5 0 (by omega)).1]; exact j11_9))) (by first | (rcases ms9 with z9 | ⟨z8, z9⟩; (exact j11_10); (exact j11_10)) | (obtain ⟨p1, p2⟩ := q221; rcases p2 with ⟨z1, z2, z3⟩ | ⟨z1, z2, z3, z4⟩ | ⟨z1, z2, z3, z4, z5, z6, z7, z8⟩; (rw [z3.2.2.1]; exact j11_10); exact absurd (z3.symm.trans c228) (by decide); (exact ((z5 k0.toNatClampNeg km9).2).trans j11_10))) (by first | (clear q221; omega) | omega) _ _ hP hS ls (lv_sub hl [0, 6, 7, 8, 9, 10, 11] rfl)
                  · first | exact absurd c161 (by decide) | exact absurd (by decide) c161
                · skip
                  have d149 := c149
                  rw [fa_eq] at d149
                  refine lv_iconst (v := 1) hx hb dX10_meetAll_152 (by decide) ?_
                  refine lv_goto (tgt := 157) hx hb dX10_meetAll_153 (by decide) ?_
                  refine lv_istore (lv' := [(13, .int (1 : Int32)), (12, .int v54), (11, .int v48), (10, .int v40), (9, .int v30), (8, .int (nI s1)), (6, .long v5), (0, .ref mo), (1, .int w), (2, .int h), (3, .int k0), (4, .long to0)]) hx hb dX10_meetAll_157 hl (by decide) rfl (fun ls hl => ?_)
                  refine lv_iload hx hb dX10_meetAll_159 (lv_at hl 0 rfl) ?_
                  refine lv_if_eq (tgt := 234) hx hb dX10_meetAll_161 (by decide) (fun c161 => ?_) (fun c161 => ?_)
                  · first | exact absurd c161 (by decide) | exact absurd (by decide) c161
                  · skip
                    have d161 := c161
                    rw [fa_eq] at d161
                    have sq1 : swq w.toNatClampNeg h.toNatClampNeg v5 (bs (okS w.toNatClampNeg h.toNatClampNeg) s1) = true := by rw [at9.1]; unfold swB; rw [Bool.and_eq_true, Bool.and_eq_true]; exact ⟨⟨beq_iff_eq.mpr (one_iff.mp (by rw [← o80, ← o92]; exact c95)), beq_iff_eq.mpr (one_iff.mp (by rw [← o107, ← o119]; exact c122))⟩, bne_iff_ne.mpr (fun z9 => c149 (by rw [o134, o146, z9]))⟩
                    refine lv_lload hx hb dX10_meetAll_164 (lv_at hl 6 rfl) ?_
                    refine lv_lconst (v := 1) hx hb dX10_meetAll_166 (by decide) ?_
                    refine lv_iload hx hb dX10_meetAll_167 (lv_at hl 4 rfl) ?_
                    refine lv_iload_n hx hb dX10_meetAll_169 rfl (lv_at hl 8 rfl) ?_
                    refine lv_imul hx hb dX10_meetAll_170 ?_
                    refine lv_topi (fun v170 e170 => ?_)
                    refine lv_iload hx hb dX10_meetAll_171 (lv_at hl 2 rfl) ?_
                    refine lv_iadd hx hb dX10_meetAll_173 ?_
                    refine lv_topi (fun v173 e173 => ?_)
                    refine lv_lshl (v := (1 : Int64) <<< (v173.toInt64 &&& 63)) hx hb dX10_meetAll_174 rfl ?_
                    refine lv_lxor hx hb dX10_meetAll_175 ?_
                    refine lv_topl (fun v175 e175 => ?_)
                    refine lv_lconst (v := 1) hx hb dX10_meetAll_176 (by decide) ?_
                    refine lv_iload hx hb dX10_meetAll_177 (lv_at hl 3 rfl) ?_
                    refine lv_iload_n hx hb dX10_meetAll_179 rfl (lv_at hl 8 rfl) ?_
                    refine lv_imul hx hb dX10_meetAll_180 ?_
                    refine lv_topi (fun v180 e180 => ?_)
                    refine lv_iload hx hb dX10_meetAll_181 (lv_at hl 1 rfl) ?_
                    refine lv_iadd hx hb dX10_meetAll_183 ?_
                    refine lv_topi (fun v183 e183 => ?_)
                    refine lv_lshl (v := (1 : Int64) <<< (v183.toInt64 &&& 63)) hx hb dX10_meetAll_184 rfl ?_
                    refine lv_lxor hx hb dX10_meetAll_185 ?_
                    refine lv_topl (fun v185 e185 => ?_)
                    refine lv_lconst (v := 1) hx hb dX10_meetAll_186 (by decide) ?_
                    refine lv_iload hx hb dX10_meetAll_187 (lv_at hl 4 rfl) ?_
                    refine lv_iload_n hx hb dX10_meetAll_189 rfl (lv_at hl 8 rfl) ?_
                    refine lv_imul hx hb dX10_meetAll_190 ?_
                    refine lv_topi (fun v190 e190 => ?_)
                    refine lv_iload hx hb dX10_meetAll_191 (lv_at hl 1 rfl) ?_
                    refine lv_iadd hx hb dX10_meetAll_193 ?_
                    refine lv_topi (fun v193 e193 => ?_)
                    refine lv_lshl (v := (1 : Int64) <<< (v193.toInt64 &&& 63)) hx hb dX10_meetAll_194 rfl ?_
                    refine lv_lxor hx hb dX10_meetAll_195 ?_
                    refine lv_topl (fun v195 e195 => ?_)
                    refine lv_lconst (v := 1) hx hb dX10_meetAll_196 (by decide) ?_
                    refine lv_iload hx hb dX10_meetAll_197 (lv_at hl 3 rfl) ?_
                    refine lv_iload_n hx hb dX10_meetAll_199 rfl (lv_at hl 8 rfl) ?_
                    refine lv_imul hx hb dX10_meetAll_200 ?_
                    refine lv_topi (fun v200 e200 => ?_)
                    refine lv_iload hx hb dX10_meetAll_201 (lv_at hl 2 rfl) ?_
                    refine lv_iadd hx hb dX10_meetAll_203 ?_
                    refine lv_topi (fun v203 e203 => ?_)
                    refine lv_lshl (v := (1 : Int64) <<< (v203.toInt64 &&& 63)) hx hb dX10_meetAll_204 rfl ?_
                    refine lv_lxor hx hb dX10_meetAll_205 ?_
                    refine lv_topl (fun v205 e205 => ?_)
                    have x205 : v205 = swx w.toNatClampNeg h.toNatClampNeg v5 (bs (okS w.toNatClampNeg h.toNatClampNeg) s1) := by
                      rw [at9.2, e205, e195, e185, e175, show v173 = nI (v30.toNatClampNeg * w.toNatClampNeg + v48.toNatClampNeg) from (by rw [e173, e170]; exact plc9 y30 yw y48), show v183 = nI (v40.toNatClampNeg * w.toNatClampNeg + v54.toNatClampNeg) from (by rw [e183, e180]; exact plc9 y40 yw y54), show v193 = nI (v30.toNatClampNeg * w.toNatClampNeg + v54.toNatClampNeg) from (by rw [e193, e190]; exact plc9 y30 yw y54), show v203 = nI (v40.toNatClampNeg * w.toNatClampNeg + v48.toNatClampNeg) from (by rw [e203, e200]; exact plc9 y40 yw y48)]
                      rfl
                    refine lv_lstore (lv' := [(14, .long v205), (13, .int (1 : Int32)), (12, .int v54), (11, .int v48), (10, .int v40), (9, .int v30), (8, .int (nI s1)), (6, .long v5), (0, .ref mo), (1, .int w), (2, .int h), (3, .int k0), (4, .long to0)]) hx hb dX10_meetAll_206 hl (by decide) rfl (fun ls hl => ?_)
                    refine lv_aload_n hx hb dX10_meetAll_208 rfl (lv_at hl 8 rfl) ?_
                    refine lv_lload hx hb dX10_meetAll_209 (lv_at hl 0 rfl) ?_
                    refine lv_aload_n hx hb dX10_meetAll_211 rfl (lv_at hl 8 rfl) ?_
                    refine m_get (v := .ref (a 20)) hx hb hts hin hown hK hP 20 (by decide) rfl (hts (.fieldLink RX10 45 "ShadowBenchModel" "steps" "[I") (by decide +kernel)) rfl dX10_meetAll_212 ?_
                    refine lv_iload_n hx hb dX10_meetAll_215 rfl (lv_at hl 11 rfl) ?_
                    refine m_iald (w := st1) hx hb hK hP 12 rfl (vp_in_iff.mpr ⟨by omega, by omega⟩) dX10_meetAll_216 ?_
                    refine lv_topi (fun v216 e216 => ?_)
                    have i216 : v216.toInt = (st1 k0.toNatClampNeg).toInt := congrArg Int32.toInt e216
                    have d216 : v216.toInt = (((bfA w.toNatClampNeg h.toNatClampNeg (st0 (q 19 0)) k0.toNatClampNeg).2.1 k0.toNatClampNeg : Nat) : Int) := by have z9 := (hS1.2 _ hk9).2; rw [← j11_10, ← e216] at z9; exact z9
                    refine lv_iconst (v := 1) hx hb dX10_meetAll_217 (by decide) ?_
                    refine lv_iadd hx hb dX10_meetAll_218 ?_
                    refine lv_topi (fun v218 e218 => ?_)
                    have i218 : v218.toInt = v216.toInt + (1 : Int32).toInt := by rw [e218]; exact fb_addI (by omega) (by omega)
                    have d218 : v218.toInt = (((bfA w.toNatClampNeg h.toNatClampNeg (st0 (q 19 0)) k0.toNatClampNeg).2.1 k0.toNatClampNeg + 1 : Nat) : Int) := by omega
                    refine lv_lload hx hb dX10_meetAll_219 (lv_at hl 12 rfl) ?_
                    refine m_calli (As := [.long v205, .int v218, .long to0]) (rest := []) ⟨hx, hb, hml, hown, hts⟩ (c_X10_meet_x l D cy mo a (upd f 22 mn1) g (va_up (va_up r 21 pl1) 20 st1) (va_up q 19 rr1) v205 v218 to0 hD j11_1 (show 1 ≤ mn1.toInt ∧ mn1.toInt ≤ 20000 by omega) j11_3 j11_8) (cwV 3 hts gX10_meetAll_X10_meet rfl rfl rfl (by decide +kernel) ⟨Nat.le_of_ble_eq_true rfl, Nat.le_of_ble_eq_true rfl⟩) hK hP rfl hl.1 rfl (Nat.le_of_ble_eq_true rfl) dX10_meetAll_221 ⟨Nat.le_of_ble_eq_true rfl, Nat.le_of_ble_eq_true rfl⟩ hS (fun r221 u H locs q221 hP hS => ?_)
                    obtain ⟨pl_221, rr_221, st_221, mn_221, rfl, q221⟩ := q221
                    have hP : va_P D vwCl (WM cy mo a (upd f 22 mn_221) g (va_up (va_up r 21 pl_221) 20 st_221) (va_up q 19 rr_221)) H := hP
                    have q221 : (PB pl_221 ∧ ((mn1).toInt ≤ mn_221.toInt ∧ mn_221.toInt ≤ 20000) ∧ (ct21 pl_221 : Int) ≤ mn_221.toInt) ∧ (((∃ i, i < (mn1).toNatClampNeg ∧ (va_up q 19 rr1) 19 i = v205) ∧ r221 = 0 ∧ pl_221 = (va_up (va_up r 21 pl1) 20 st1) 21 ∧ rr_221 = (va_up q 19 rr1) 19 ∧ st_221 = (va_up (va_up r 21 pl1) 20 st1) 20 ∧ mn_221 = (upd f 22 mn1) 22) ∨ (¬ (∃ i, i < (mn1).toNatClampNeg ∧ (va_up q 19 rr1) 19 i = v205) ∧ (mn1).toInt = 20000 ∧ r221 = -5 ∧ pl_221 = (va_up (va_up r 21 pl1) 20 st1) 21 ∧ rr_221 = (va_up q 19 rr1) 19 ∧ st_221 = (va_up (va_up r 21 pl1) 20 st1) 20 ∧ mn_221 = (upd f 22 mn1) 22) ∨ (¬ (∃ i, i < (mn1).toNatClampNeg ∧ (va_up q 19 rr1) 19 i = v205) ∧ (mn1).toInt < 20000 ∧ mn_221.toInt = (mn1).toInt + 1 ∧ tabOk 65536 hR (ocR pl_221) rr_221 mn_221.toNatClampNeg ∧ (∀ i, i < (mn1).toNatClampNeg → rr_221 i = (va_up q 19 rr1) 19 i ∧ st_221 i = (va_up (va_up r 21 pl1) 20 st1) 20 i) ∧ rr_221 (mn1).toNatClampNeg = v205 ∧ st_221 (mn1).toNatClampNeg = v218 ∧ ((v205 = to0 ∧ r221 = v218) ∨ (¬ v205 = to0 ∧ r221 = 0)))) := q221
                    refine lv_istore (lv' := [(16, .int r221), (14, .long v205), (13, .int (1 : Int32)), (12, .int v54), (11, .int v48), (10, .int v40), (9, .int v30), (8, .int (nI s1)), (6, .long v5), (0, .ref mo), (1, .int w), (2, .int h), (3, .int k0), (4, .long to0)]) hx hb dX10_meetAll_224 hl (by decide) rfl (fun ls hl => ?_)
                    refine lv_iload hx hb dX10_meetAll_226 (lv_at hl 0 rfl) ?_
                    refine lv_if_eq (tgt := 234) hx hb dX10_meetAll_228 (by decide) (fun c228 => ?_) (fun c228 => ?_)
                    · skip
                      have d228 := c228
                      rw [fa_eq] at d228
                      refine lv_iinc (v := (nI (s1 + 1))) (lv' := [(8, .int (nI (s1 + 1))), (16, .int r221), (14, .long v205), (13, .int (1 : Int32)), (12, .int v54), (11, .int v48), (10, .int v40), (9, .int v30), (6, .long v5), (0, .ref mo), (1, .int w), (2, .int h), (3, .int k0), (4, .long to0)]) hx hb dX10_meetAll_234 hl (k := 7) rfl (nI_1 _) (by decide) rfl (fun ls hl => ?_)
                      refine lv_goto (tgt := 11) hx hb dX10_meetAll_237 (by decide) ?_
                      exact ih_11 (s1 + 1) pl_221 rr_221 st_221 mn_221 (by omega) (by first | exact q221.1.1 | assumption) (by first | (have z9 := q221.1.2.1; omega) | omega) (by first | exact q221.1.2.2 | assumption) (by omega) (by first | (rcases ms9 with z9 | ⟨z8, z9⟩; (rw [bs_f z9]; exact j11_5); (rw [bs_t z8, nb_f z9]; exact j11_5)) | (obtain ⟨p1, p2⟩ := q221; rcases p2 with ⟨z1, z2, z3⟩ | ⟨z1, z2, z3, z4⟩ | ⟨z1, z2, z3, z4, z5, z6, z7, z8⟩; (rw [bs_t ok1, nb_o sq1 j11_6 (by rw [← x205]; exact (j11_5.m.isIn _).mpr z1), z3.2.1, z3.2.2.1, z3.2.2.2]; exact j11_5); exact absurd (z3.symm.trans c228) (by decide); (rw [bs_t ok1, show mn_221.toNatClampNeg = mn1.toNatClampNeg + 1 by have y9 := m_cl (x := mn_221) (by omega); have y8 := m_cl (x := mn1) (by omega); omega]; exact (rr_n j11_5 j11_6 sq1 (by rw [← x205]; exact z1) (by omega) z5 (by rw [← x205]; exact z6) z7 d218).1))) (by first | (rcases ms9 with z9 | ⟨z8, z9⟩; (rw [bs_f z9]; exact j11_6); (rw [bs_t z8, nb_f z9]; exact j11_6)) | (obtain ⟨p1, p2⟩ := q221; rcases p2 with ⟨z1, z2, z3⟩ | ⟨z1, z2, z3, z4⟩ | ⟨z1, z2, z3, z4, z5, z6, z7, z8⟩; (rw [bs_t ok1, nb_o sq1 j11_6 (by rw [← x205]; exact (j11_5.m.isIn _).mpr z1)]; exact j11_6); exact absurd (z3.symm.trans c228) (by decide); (rw [bs_t ok1]; exact (rr_n j11_5 j11_6 sq1 (by rw [← x205]; exact z1) (by omega) z5 (by rw [← x205]; exact z6) z7 d218).2))) (by first | (rcases ms9 with z9 | ⟨z8, z9⟩; (rw [bs_f z9]; exact j11_7); (rw [bs_t z8, nb_f z9]; exact j11_7)) | (obtain ⟨p1, p2⟩ := q221; rcases p2 with ⟨z1, z2, z3⟩ | ⟨z1, z2, z3, z4⟩ | ⟨z1, z2, z3, z4, z5, z6, z7, z8⟩; (rw [bs_t ok1, nb_o sq1 j11_6 (by rw [← x205]; exact (j11_5.m.isIn _).mpr z1)]; exact j11_7); exact absurd (z3.symm.trans c228) (by decide); (rw [bs_t ok1]; intro y9; obtain ⟨i9, h1, h2⟩ := ((rr_n j11_5 j11_6 sq1 (by rw [← x205]; exact z1) (by omega) z5 (by rw [← x205]; exact z6) z7 d218).1.m.isIn _).mp y9; by_cases y8 : i9 = mn1.toNatClampNeg; (rw [y8, z6] at h2; rcases z8 with ⟨y7, y6⟩ | ⟨y7, y6⟩; exact absurd (y6.symm.trans c228) (fun y5 => by have y4 := congrArg Int32.toInt y5; rw [d218] at y4; have : (0 : Int32).toInt = 0 := rfl; omega); exact y7 h2); exact j11_7 ((j11_5.m.isIn _).mpr ⟨i9, by omega, ((z5 i9 (by omega)).1).symm.trans h2⟩)))) (by first | (rcases ms9 with z9 | ⟨z8, z9⟩; (exact j11_8); (exact j11_8)) | (obtain ⟨p1, p2⟩ := q221; rcases p2 with ⟨z1, z2, z3⟩ | ⟨z1, z2, z3, z4⟩ | ⟨z1, z2, z3, z4, z5, z6, z7, z8⟩; (rw [z3.1, z3.2.1, z3.2.2.2]; exact j11_8); exact absurd (z3.symm.trans c228) (by decide); (exact z4))) (by first | (rcases ms9 with z9 | ⟨z8, z9⟩; (exact j11_9); (exact j11_9)) | (obtain ⟨p1, p2⟩ := q221; rcases p2 with ⟨z1, z2, z3⟩ | ⟨z1, z2, z3, z4⟩ | ⟨z1, z2, z3, z4, z5, z6, z7, z8⟩; (rw [z3.2.1]; exact j11_9); exact absurd (z3.symm.trans c228) (by decide); (rw [(z5 0 (by omega)).1]; exact j11_9))) (by first | (rcases ms9 with z9 | ⟨z8, z9⟩; (exact j11_10); (exact j11_10)) | (obtain ⟨p1, p2⟩ := q221; rcases p2 with ⟨z1, z2, z3⟩ | ⟨z1, z2, z3, z4⟩ | ⟨z1, z2, z3, z4, z5, z6, z7, z8⟩; (rw [z3.2.2.1]; exact j11_10); exact absurd (z3.symm.trans c228) (by decide); (exact ((z5 k0.toNatClampNeg km9).2).trans j11_10))) (by first | (clear q221; omega) | omega) _ _ hP hS ls (lv_sub hl [0, 8, 9, 10, 11, 12, 13] rfl)
                    · skip
                      have d228 := c228
                      rw [fa_eq] at d228
                      refine lv_iload hx hb dX10_meetAll_231 (lv_at hl 0 rfl) ?_
                      exact W.iret (v := r221) hx hb hr (fun t ht hW => ⟨⟨_, ((upd f 22 mn_221), g, (va_up (va_up r 21 pl_221) 20 st_221), (va_up q 19 rr_221)), rfl, ⟨pl_221, rr_221, st_221, mn_221, rfl, (by have eb : (bfA w.toNatClampNeg h.toNatClampNeg (st0 (q 19 0)) (k0.toNatClampNeg + 1)) = (nbA w.toNatClampNeg h.toNatClampNeg v5 ((bfA w.toNatClampNeg h.toNatClampNeg (st0 (q 19 0)) k0.toNatClampNeg).2.1 k0.toNatClampNeg + 1) (bfA w.toNatClampNeg h.toNatClampNeg (st0 (q 19 0)) k0.toNatClampNeg) (cfo w.toNatClampNeg h.toNatClampNeg)) := (by rw [x5]; rfl); obtain ⟨p1, p2⟩ := q221; refine ⟨⟨p1.1, by omega, p1.2.2⟩, ?_, ?_⟩; (rcases p2 with ⟨z1, z2, z3⟩ | ⟨z1, z2, z3, z4⟩ | ⟨z1, z2, z3, z4, z5, z6, z7, z8⟩; exact absurd z2 c228; (rw [z4.2.1]; exact j11_9); (rw [(z5 0 (by omega)).1]; exact j11_9)); (rcases p2 with ⟨z1, z2, z3⟩ | ⟨z1, z2, z3, z4⟩ | ⟨z1, z2, z3, z4, z5, z6, z7, z8⟩; exact absurd z2 c228; (have z0 := rl_f j11_5.m j11_6 sq1 (by rw [← x205]; exact z1) (by omega) lt9; exact Or.inr (Or.inl ⟨(by rw [eb]; exact fun y9 => j11_7 ((j11_5.m.isIn _).mpr ((z0.1.isIn _).mp y9))), (by rw [eb]; exact z0.2), z3⟩)); (rcases z8 with ⟨y1, y2⟩ | ⟨y1, y2⟩; exact Or.inl ⟨(by rw [y2]; exact d218), (by rw [eb, ← y1, x205]; exact rr_in j11_5.m j11_6 sq1 (by rw [← x205]; exact z1) (by omega) (fun i9 h9 => (z5 i9 h9).1) (by rw [← x205]; exact z6) lt9)⟩; exact absurd y2 c228)))⟩, by unfold mB; rw [ht]; exact hP⟩, hS.F ht⟩) hS.2.2 dX10_meetAll_233
  have hP := wm_eq (ec_f___22 f ) rfl (ec_r___21_20 r ) (ec_q___19 q ) hP
  exact loop_11 (1296 + 1) 0 (r 21) (q 19) (r 20) (f 22) (by omega) (hp1) (by omega) (hc) (Nat.zero_le _) (hS1) (hS2) (hno9) (ht9) (rfl) (rfl) (by omega) _ _ hP hS ls (lv_sub hl [0, 1, 2, 3, 4, 5, 6] rfl)

set_option maxHeartbeats 4000000 in
set_option maxRecDepth 100000 in
theorem c_X10_far_x (l : Launch) (D : va_G) (cy : Nat → ClassId) (mo : Nat) (a : Nat → Nat) (f : Nat → Int32) (g : Nat → Int64) (r : Nat → Nat → Int32) (q : Nat → Nat → Int64) (w : Int32) (h : Int32) (p0 : Int64) (p1 : Int64) (hD : DM cy mo a)  : Mi l D cy mo a yX10_far wsX10_far ({ frames := 3, cells := 0, slots := 0, locals := 85 }) f g r q [.int w, .int h, .long p0, .long p1] (fun r0 u => ∃ (pl : Nat → Int32), ∃ (rr : Nat → Int64), ∃ (st : Nat → Int32), ∃ (mn : Int32), u = ((upd (upd f 0 (0 : Int32)) 22 mn), g, (va_up (va_up r 21 pl) 20 st), (va_up q 19 rr)) ∧ (faA w h p0 p1 r0)) := by
  refine Met.ofW (cc := cX10_far) (maxL := 9) (ret := (some .int)) (by decide) rfl ?_
  intro p e s m args below meth c s₁ B hml hv
  obtain ⟨rfl, hP, hK⟩ := hv
  have hx := B.exec
  have hb := B.bytes
  have hr := B.returns
  have hts := atoms_spec (ws := wsX10_far) B.pre
  have hin : ∀ w ∈ u_ws RX10 TX10 35, w ∈ wsX10_far := by decide +kernel
  have hown : s.vm.findClass RX10 = some m.cls := findClass_of_methodNamed B.named
  have hlocks := B.notSynchronized
  have hS : va_S (AM mo a) s.heap s.heap [] := va_S.rf
  have hl := lv_entry ([.ref mo, .int w, .int h, .long p0, .long p1]) (n := 9) (Nat.le_of_ble_eq_true rfl)
  rw [lg_entry_eq]
  generalize (lg_sl ([.ref mo, .int w, .int h, .long p0, .long p1]) ++ List.replicate (9 - (lg_sl ([.ref mo, .int w, .int h, .long p0, .long p1])).length) Slot.unset).toArray = ls at hl ⊢
  have hl : lv_has ls 9 [(0, .ref mo), (1, .int w), (2, .int h), (3, .long p0), (5, .long p1)] := hl
  have k_m5 : (-5 : Int32).toInt = -5 := by decide
  have k_m2 : (-2 : Int32).toInt = -2 := by decide
  have k_m1 : (-1 : Int32).toInt = -1 := by decide
  have k_0 : (0 : Int32).toInt = 0 := by decide
  have k_1 : (1 : Int32).toInt = 1 := by decide
  have k_65536 : (65536 : Int32).toInt = 65536 := by decide
  refine lv_aload_n hx hb dX10_far_0 rfl (lv_at hl 0 rfl) ?_
  refine lv_iconst (v := 0) hx hb dX10_far_1 (by decide) ?_
  refine m_put (v := .int (0 : Int32)) (ty := .int) hx hb hts hin hown hK hP hD hS 0 (by decide) rfl (hts (.fieldLink RX10 79 "ShadowBenchModel" "thrown" "I") (by decide +kernel)) rfl (by decide +kernel) rfl rfl (upd f 0 (0 : Int32)) g rfl dX10_far_2 (fun H locs hP hS => ?_)
  refine lv_iload_n hx hb dX10_far_5 rfl (lv_at hl 1 rfl) ?_
  refine lv_iload_n hx hb dX10_far_6 rfl (lv_at hl 2 rfl) ?_
  refine lv_lload_n hx hb dX10_far_7 rfl (lv_at hl 3 rfl) ?_
  refine m_pu (As := [.int w, .int h, .long p0]) (rest := []) ⟨hx, hb, hml, hown, hts⟩ (c_X10_isPicture l w h p0 ) (va_cwS 3 hts gX10_far_X10_isPicture rfl rfl rfl (by decide +kernel) ⟨Nat.le_of_ble_eq_true rfl, Nat.le_of_ble_eq_true rfl⟩) hP rfl hl.1 rfl (Nat.le_of_ble_eq_true rfl) dX10_far_8 ⟨Nat.le_of_ble_eq_true rfl, Nat.le_of_ble_eq_true rfl⟩ hS (fun r8 H locs q8 hP hS => ?_)
  refine lv_if_eq (tgt := 24) hx hb dX10_far_11 (by decide) (fun c11 => ?_) (fun c11 => ?_)
  · skip
    have b11 := bo_f q8 c11
    refine lv_iconst (v := (-1)) hx hb dX10_far_24 (by decide) ?_
    have hP := wm_eq (ec_f_0__0_22 f (0 : Int32)) rfl (ec_r___21_20 r ) (ec_q___19 q ) hP
    exact W.iret (v := ((-1) : Int32)) hx hb hr (fun t ht hW => ⟨⟨_, ((upd (upd f 0 (0 : Int32)) 22 (f 22)), g, (va_up (va_up r 21 (r 21)) 20 (r 20)), (va_up q 19 (q 19))), rfl, ⟨(r 21), (q 19), (r 20), (f 22), rfl, (Or.inl ⟨(fun z9 => by first | exact goodP_no b11 z9.1 | exact goodP_no b21 z9.2), rfl⟩)⟩, by unfold mB; rw [ht]; exact hP⟩, hS.F ht⟩) hS.2.2 dX10_far_25
  · skip
    have b11 := bo_t q8 c11
    refine lv_iload_n hx hb dX10_far_14 rfl (lv_at hl 1 rfl) ?_
    refine lv_iload_n hx hb dX10_far_15 rfl (lv_at hl 2 rfl) ?_
    refine lv_lload hx hb dX10_far_16 (lv_at hl 4 rfl) ?_
    refine m_pu (As := [.int w, .int h, .long p1]) (rest := []) ⟨hx, hb, hml, hown, hts⟩ (c_X10_isPicture l w h p1 ) (va_cwS 3 hts gX10_far_X10_isPicture rfl rfl rfl (by decide +kernel) ⟨Nat.le_of_ble_eq_true rfl, Nat.le_of_ble_eq_true rfl⟩) hP rfl hl.1 rfl (Nat.le_of_ble_eq_true rfl) dX10_far_18 ⟨Nat.le_of_ble_eq_true rfl, Nat.le_of_ble_eq_true rfl⟩ hS (fun r18 H locs q18 hP hS => ?_)
    refine lv_if_ne (tgt := 26) hx hb dX10_far_21 (by decide) (fun c21 => ?_) (fun c21 => ?_)
    · skip
      have b21 := bo_t q18 c21
      refine lv_iload_n hx hb dX10_far_26 rfl (lv_at hl 1 rfl) ?_
      refine lv_iload_n hx hb dX10_far_27 rfl (lv_at hl 2 rfl) ?_
      refine lv_lload_n hx hb dX10_far_28 rfl (lv_at hl 3 rfl) ?_
      refine lv_lload hx hb dX10_far_29 (lv_at hl 4 rfl) ?_
      refine lv_iconst (v := 0) hx hb dX10_far_31 (by decide) ?_
      refine m_pu (As := [.int w, .int h, .long p0, .long p1, .int (0 : Int32)]) (rest := []) ⟨hx, hb, hml, hown, hts⟩ (c_X10_areAlike_x l w h p0 p1 (0 : Int32) b11.1.1 b11.1.2 (by decide)) (va_cwS 5 hts gX10_far_X10_areAlike rfl rfl rfl (by decide +kernel) ⟨Nat.le_of_ble_eq_true rfl, Nat.le_of_ble_eq_true rfl⟩) hP rfl hl.1 rfl (Nat.le_of_ble_eq_true rfl) dX10_far_32 ⟨Nat.le_of_ble_eq_true rfl, Nat.le_of_ble_eq_true rfl⟩ hS (fun r32 H locs q32 hP hS => ?_)
      refine lv_if_eq (tgt := 50) hx hb dX10_far_35 (by decide) (fun c35 => ?_) (fun c35 => ?_)
      · skip
        have b35 := bo_f q32 c35
        refine lv_bipush (v := (-2)) hx hb dX10_far_50 (by decide) ?_
        have hP := wm_eq (ec_f_0__0_22 f (0 : Int32)) rfl (ec_r___21_20 r ) (ec_q___19 q ) hP
        exact W.iret (v := ((-2) : Int32)) hx hb hr (fun t ht hW => ⟨⟨_, ((upd (upd f 0 (0 : Int32)) 22 (f 22)), g, (va_up (va_up r 21 (r 21)) 20 (r 20)), (va_up q 19 (q 19))), rfl, ⟨(r 21), (q 19), (r 20), (f 22), rfl, (Or.inr ⟨⟨goodP_of b11, goodP_of b21⟩, Or.inl ⟨(fun z9 => by first | exact b35 z9.1 | exact b47 z9.2), rfl⟩⟩)⟩, by unfold mB; rw [ht]; exact hP⟩, hS.F ht⟩) hS.2.2 dX10_far_52
      · skip
        have b35 := bo_t q32 c35
        refine lv_iload_n hx hb dX10_far_38 rfl (lv_at hl 1 rfl) ?_
        refine lv_iload_n hx hb dX10_far_39 rfl (lv_at hl 2 rfl) ?_
        refine lv_lload_n hx hb dX10_far_40 rfl (lv_at hl 3 rfl) ?_
        refine lv_lload hx hb dX10_far_41 (lv_at hl 4 rfl) ?_
        refine lv_iconst (v := 1) hx hb dX10_far_43 (by decide) ?_
        refine m_pu (As := [.int w, .int h, .long p0, .long p1, .int (1 : Int32)]) (rest := []) ⟨hx, hb, hml, hown, hts⟩ (c_X10_areAlike_x l w h p0 p1 (1 : Int32) b11.1.1 b11.1.2 (by decide)) (va_cwS 5 hts gX10_far_X10_areAlike rfl rfl rfl (by decide +kernel) ⟨Nat.le_of_ble_eq_true rfl, Nat.le_of_ble_eq_true rfl⟩) hP rfl hl.1 rfl (Nat.le_of_ble_eq_true rfl) dX10_far_44 ⟨Nat.le_of_ble_eq_true rfl, Nat.le_of_ble_eq_true rfl⟩ hS (fun r44 H locs q44 hP hS => ?_)
        refine lv_if_ne (tgt := 53) hx hb dX10_far_47 (by decide) (fun c47 => ?_) (fun c47 => ?_)
        · skip
          have b47 := bo_t q44 c47
          refine lv_lload_n hx hb dX10_far_53 rfl (lv_at hl 3 rfl) ?_
          refine lv_lload hx hb dX10_far_54 (lv_at hl 4 rfl) ?_
          refine W.lcmp hx hb dX10_far_56 ?_
          refine lv_if_ne (tgt := 62) hx hb dX10_far_57 (by decide) (fun c57 => ?_) (fun c57 => ?_)
          · skip
            have d57 := c57
            rw [lg_cmp_eq, fa_eq64] at d57
            have cw8 := m_cl (x := w) (by omega)
            have ch8 := m_cl (x := h) (by omega)
            have hb8 : 1 ≤ w.toNatClampNeg ∧ w.toNatClampNeg ≤ 6 ∧ 1 ≤ h.toNatClampNeg ∧ h.toNatClampNeg ≤ 6 := by omega
            have m36_9 := (wh36 b11.1.1 b11.1.2).2.2.1
            refine lv_iconst (v := 0) hx hb dX10_far_62 (by decide) ?_
            refine lv_istore (lv' := [(7, .int (0 : Int32)), (0, .ref mo), (1, .int w), (2, .int h), (3, .long p0), (5, .long p1)]) hx hb dX10_far_63 hl (by decide) rfl (fun ls hl => ?_)
            have loop_65 : ∀ (n : Nat) (k : Nat) (pz : Nat → Int32), (k ≤ 65536) → (∀ e, e < k → (pz e).toInt < 0) → 65536 - k < n → ∀ (H : Heap) (locs : List Loc), va_P D vwCl (WM cy mo a (upd f 0 (0 : Int32)) g (va_up r 21 pz) q) H → va_S (AM mo a) s.heap H locs → ∀ (ls : Array Slot), lv_has ls 9 [(7, .int (nI k)), (0, .ref mo), (1, .int w), (2, .int h), (3, .long p0), (5, .long p1)] → W p l e (headSpec wsX10_far ({ frames := 3, cells := 0, slots := 0, locals := 85 })).room s m #[Value.ref mo, Value.int w, Value.int h, Value.long p0, Value.long p1] below meth c H locs 0 0 (MQ below (va_Qi (fun r0 u => ∃ (pl : Nat → Int32), ∃ (rr : Nat → Int64), ∃ (st : Nat → Int32), ∃ (mn : Int32), u = ((upd (upd f 0 (0 : Int32)) 22 mn), g, (va_up (va_up r 21 pl) 20 st), (va_up q 19 rr)) ∧ (faA w h p0 p1 r0)) (mB D cy mo a) (AM mo a)) #[Value.ref mo, Value.int w, Value.int h, Value.long p0, Value.long p1] s 0 0 (AM mo a)) (F0 m 65 ls []) := by
              intro n
              induction n with
              | zero => intro k pz j65_0 j65_1 hn; exact absurd hn (Nat.not_lt_zero _)
              | succ n ih_65 =>
                intro k pz j65_0 j65_1 hn_65 H locs hP hS ls hl
                have ik : (nI k).toInt = (k : Int) := nI_toInt (by omega)
                refine lv_iload hx hb dX10_far_65 (lv_at hl 0 rfl) ?_
                refine lv_ldc hx hb hown (hts (.constant RX10 48 (65536)) (by decide +kernel)) dX10_far_67 ?_
                refine lv_icmp_ge (tgt := 86) hx hb dX10_far_69 (by decide) (fun c69 => ?_) (fun c69 => ?_)
                · skip
                  have d69 := c69
                  rw [fa_le] at d69
                  refine lv_aload_n hx hb dX10_far_86 rfl (lv_at hl 1 rfl) ?_
                  refine m_get (v := .ref (a 19)) hx hb hts hin hown hK hP 19 (by decide) rfl (hts (.fieldLink RX10 41 "ShadowBenchModel" "row" "[J") (by decide +kernel)) rfl dX10_far_87 ?_
                  refine lv_iconst (v := 0) hx hb dX10_far_90 (by decide) ?_
                  refine lv_lload_n hx hb dX10_far_91 rfl (lv_at hl 4 rfl) ?_
                  refine m_last (w := (q 19)) hx hb hK hP hD hS 11 rfl (vp_in_iff.mpr ⟨by omega, by omega⟩) (va_up q 19 (vp_updL (q 19) (0 : Int32).toNatClampNeg p0)) (ms_19 cy mo a _ _ _ _ _) dX10_far_92 (fun H locs hP hS => ?_)
                  refine lv_aload_n hx hb dX10_far_93 rfl (lv_at hl 1 rfl) ?_
                  refine m_get (v := .ref (a 20)) hx hb hts hin hown hK hP 20 (by decide) rfl (hts (.fieldLink RX10 45 "ShadowBenchModel" "steps" "[I") (by decide +kernel)) rfl dX10_far_94 ?_
                  refine lv_iconst (v := 0) hx hb dX10_far_97 (by decide) ?_
                  refine lv_iconst (v := 0) hx hb dX10_far_98 (by decide) ?_
                  refine m_iast (w := (r 20)) hx hb hK hP hD hS 12 rfl (vp_in_iff.mpr ⟨by omega, by omega⟩) (va_up (va_up r 21 pz) 20 (upd (r 20) (0 : Int32).toNatClampNeg (0 : Int32))) (ms_20 cy mo a _ _ _ _ _) dX10_far_99 (fun H locs hP hS => ?_)
                  refine lv_aload_n hx hb dX10_far_100 rfl (lv_at hl 1 rfl) ?_
                  refine m_get (v := .ref (a 21)) hx hb hts hin hown hK hP 21 (by decide) rfl (hts (.fieldLink RX10 49 "ShadowBenchModel" "place" "[I") (by decide +kernel)) rfl dX10_far_101 ?_
                  refine lv_aload_n hx hb dX10_far_104 rfl (lv_at hl 1 rfl) ?_
                  refine lv_lload_n hx hb dX10_far_105 rfl (lv_at hl 4 rfl) ?_
                  refine m_calli (As := [.long p0]) (rest := [.ref (a 21)]) ⟨hx, hb, hml, hown, hts⟩ (c_X10_placeOf_x l D cy mo a (upd f 0 (0 : Int32)) g (va_up (va_up r 21 pz) 20 ((upd (r 20) (0 : Int32).toNatClampNeg (0 : Int32)))) (va_up q 19 ((vp_updL (q 19) (0 : Int32).toNatClampNeg p0))) p0 hD (show PB pz from fun e he => by have := j65_1 e (by omega); omega) (show ∃ e, e < 65536 ∧ (pz e).toInt < 0 from ⟨0, by decide, j65_1 0 (by omega)⟩)) (cwV 1 hts gX10_far_X10_placeOf rfl rfl rfl (by decide +kernel) ⟨Nat.le_of_ble_eq_true rfl, Nat.le_of_ble_eq_true rfl⟩) hK hP rfl hl.1 rfl (Nat.le_of_ble_eq_true rfl) dX10_far_106 ⟨Nat.le_of_ble_eq_true rfl, Nat.le_of_ble_eq_true rfl⟩ hS (fun r106 u H locs q106 hP hS => ?_)
                  obtain ⟨rfl, q106⟩ := q106
                  have hP : va_P D vwCl (WM cy mo a (upd f 0 (0 : Int32)) g (va_up (va_up r 21 pz) 20 ((upd (r 20) (0 : Int32).toNatClampNeg (0 : Int32)))) (va_up q 19 ((vp_updL (q 19) (0 : Int32).toNatClampNeg p0)))) H := hP
                  have q106 : (0 ≤ r106.toInt ∧ r106.toInt < 65536) ∧ ∀ n9, n9 ≤ 20000 → tabOk 65536 hR (ocR (pz)) (((vp_updL (q 19) (0 : Int32).toNatClampNeg p0))) n9 → tabF 65536 hR (ocR (pz)) (((vp_updL (q 19) (0 : Int32).toNatClampNeg p0))) n9 p0 r106.toNatClampNeg := q106
                  refine lv_iconst (v := 0) hx hb dX10_far_109 (by decide) ?_
                  refine m_iast (w := pz) hx hb hK hP hD hS 13 rfl (vp_in_iff.mpr ⟨by omega, by omega⟩) (va_up (va_up (va_up r 21 pz) 20 ((upd (r 20) (0 : Int32).toNatClampNeg (0 : Int32)))) 21 (upd pz r106.toNatClampNeg (0 : Int32))) (ms_21 cy mo a _ _ _ _ _) dX10_far_110 (fun H locs hP hS => ?_)
                  have hP := wm_eq rfl rfl (es_r_21_20__21 r pz ((upd (r 20) (0 : Int32).toNatClampNeg (0 : Int32))) (upd pz r106.toNatClampNeg (0 : Int32))) rfl hP
                  have hcl := m_cl (x := r106) (by omega)
                  have hput := ct21_put (p := pz) (i := r106.toNatClampNeg) (v := (0 : Int32)) (by omega) (j65_1 _ (by omega))
                  have hnn := ct21_none (p := pz) (fun e he => j65_1 e (by omega))
                  have hpb : PB pz := fun e he => (by have := j65_1 e (by omega); omega)
                  refine lv_aload_n hx hb dX10_far_111 rfl (lv_at hl 1 rfl) ?_
                  refine lv_iconst (v := 1) hx hb dX10_far_112 (by decide) ?_
                  refine m_put (v := .int (1 : Int32)) (ty := .int) hx hb hts hin hown hK hP hD hS 22 (by decide) rfl (hts (.fieldLink RX10 217 "ShadowBenchModel" "many" "I") (by decide +kernel)) rfl (by decide +kernel) rfl rfl (upd (upd f 0 (0 : Int32)) 22 (1 : Int32)) g rfl dX10_far_113 (fun H locs hP hS => ?_)
                  refine lv_iconst (v := 0) hx hb dX10_far_116 (by decide) ?_
                  refine lv_istore (lv' := [(7, .int (0 : Int32)), (0, .ref mo), (1, .int w), (2, .int h), (3, .long p0), (5, .long p1)]) hx hb dX10_far_117 hl (by decide) rfl (fun ls hl => ?_)
                  refine lv_iconst (v := 0) hx hb dX10_far_119 (by decide) ?_
                  refine lv_istore (lv' := [(8, .int (0 : Int32)), (7, .int (0 : Int32)), (0, .ref mo), (1, .int w), (2, .int h), (3, .long p0), (5, .long p1)]) hx hb dX10_far_120 hl (by decide) rfl (fun ls hl => ?_)
                  have loop_122 : ∀ (n : Nat) (k2 : Nat) (x7 : Int32) (pl2 : Nat → Int32) (rr2 : Nat → Int64) (st2 : Nat → Int32) (mn2 : Int32), (k2 ≤ 20000) → (PB pl2) → (1 ≤ mn2.toInt ∧ mn2.toInt ≤ 20000) → ((ct21 pl2 : Int) ≤ mn2.toInt) → ((x7 = 0 ∧ rlR (bfA w.toNatClampNeg h.toNatClampNeg (st0 p0) k2) rr2 st2 mn2.toNatClampNeg ∧ tabOk 65536 hR (ocR pl2) rr2 mn2.toNatClampNeg ∧ rr2 0 = p0 ∧ (∀ j9, j9 ≤ k2 → (bfA w.toNatClampNeg h.toNatClampNeg (st0 p0) j9).2.2.2 = false ∧ ¬ isIn9 (bfA w.toNatClampNeg h.toNatClampNeg (st0 p0) j9) p1) ∧ ∀ j9, j9 < k2 → j9 < (bfA w.toNatClampNeg h.toNatClampNeg (st0 p0) j9).2.2.1) ∨ (0 < x7.toInt ∧ farR w.toNatClampNeg h.toNatClampNeg p0 p1 x7.toInt) ∨ (x7 = -5 ∧ farR w.toNatClampNeg h.toNatClampNeg p0 p1 (-5))) → 20000 - k2 < n → ∀ (H : Heap) (locs : List Loc), va_P D vwCl (WM cy mo a (upd (upd f 0 (0 : Int32)) 22 mn2) g (va_up (va_up r 21 pl2) 20 st2) (va_up q 19 rr2)) H → va_S (AM mo a) s.heap H locs → ∀ (ls : Array Slot), lv_has ls 9 [(8, .int (nI k2)), (7, .int x7), (0, .ref mo), (1, .int w), (2, .int h), (3, .long p0), (5, .long p1)] → W p l e (headSpec wsX10_far ({ frames := 3, cells := 0, slots := 0, locals := 85 })).room s m #[Value.ref mo, Value.int w, Value.int h, Value.long p0, Value.long p1] below meth c H locs 0 0 (MQ below (va_Qi (fun r0 u => ∃ (pl : Nat → Int32), ∃ (rr : Nat → Int64), ∃ (st : Nat → Int32), ∃ (mn : Int32), u = ((upd (upd f 0 (0 : Int32)) 22 mn), g, (va_up (va_up r 21 pl) 20 st), (va_up q 19 rr)) ∧ (faA w h p0 p1 r0)) (mB D cy mo a) (AM mo a)) #[Value.ref mo, Value.int w, Value.int h, Value.long p0, Value.long p1] s 0 0 (AM mo a)) (F0 m 122 ls []) := by
                    intro n
                    induction n with
                    | zero => intro k2 x7 pl2 rr2 st2 mn2 j122_0 j122_1 j122_2 j122_3 j122_4 hn; exact absurd hn (Nat.not_lt_zero _)
                    | succ n ih_122 =>
                      intro k2 x7 pl2 rr2 st2 mn2 j122_0 j122_1 j122_2 j122_3 j122_4 hn_122 H locs hP hS ls hl
                      have ik2 : (nI k2).toInt = (k2 : Int) := nI_toInt (by omega)
                      refine lv_iload hx hb dX10_far_122 (lv_at hl 0 rfl) ?_
                      refine lv_aload_n hx hb dX10_far_124 rfl (lv_at hl 2 rfl) ?_
                      refine m_get (v := .int mn2) hx hb hts hin hown hK hP 22 (by decide) rfl (hts (.fieldLink RX10 217 "ShadowBenchModel" "many" "I") (by decide +kernel)) rfl dX10_far_125 ?_
                      refine lv_icmp_ge (tgt := 154) hx hb dX10_far_128 (by decide) (fun c128 => ?_) (fun c128 => ?_)
                      · skip
                        have d128 := c128
                        rw [fa_le] at d128
                        refine lv_iload hx hb dX10_far_154 (lv_at hl 1 rfl) ?_
                        refine lv_if_le (tgt := 164) hx hb dX10_far_156 (by decide) (fun c156 => ?_) (fun c156 => ?_)
                        · skip
                          have d156 := c156
                          rw [fa_le] at d156
                          refine lv_iload hx hb dX10_far_164 (lv_at hl 1 rfl) ?_
                          refine lv_if_ge (tgt := 174) hx hb dX10_far_166 (by decide) (fun c166 => ?_) (fun c166 => ?_)
                          · skip
                            have d166 := c166
                            rw [fa_le] at d166
                            refine lv_bipush (v := (-2)) hx hb dX10_far_174 (by decide) ?_
                            exact W.iret (v := ((-2) : Int32)) hx hb hr (fun t ht hW => ⟨⟨_, ((upd (upd f 0 (0 : Int32)) 22 mn2), g, (va_up (va_up r 21 pl2) 20 st2), (va_up q 19 rr2)), rfl, ⟨pl2, rr2, st2, mn2, rfl, (Or.inr ⟨⟨goodP_of b11, goodP_of b21⟩, Or.inr ⟨⟨b35, b47⟩, Or.inr ⟨(fun z9 => c57 ((lg_cmp_eq _ _).mpr z9)), (by rcases j122_4 with ⟨z1, z2⟩ | ⟨z1, z2⟩ | ⟨z1, z2⟩; (exfalso; have y1 : x7.toInt = 0 := (by rw [z1]; rfl); first | omega | exact absurd z1 c133 | exact (z2.2.2.2.1 k2 (Nat.le_refl _)).2 (far_end hb8 (hiZ_p m36_9 (goodP_of b11).2) (hiZ_p m36_9 (goodP_of b21).2) b35 b47 (fun j9 h9 => (z2.2.2.2.1 j9 h9).1) z2.2.2.2.2 (by rw [z2.1.1]; have := m_cl (x := mn2) (by omega); omega))); (first | exact z2 | (exfalso; omega)); (first | (exfalso; have y1 : x7.toInt = -5 := (by rw [z1]; rfl); omega) | exact z2))⟩⟩⟩)⟩, by unfold mB; rw [ht]; exact hP⟩, hS.F ht⟩) hS.2.2 dX10_far_176
                          · skip
                            have d166 := c166
                            rw [fa_le] at d166
                            refine lv_bipush (v := (-5)) hx hb dX10_far_169 (by decide) ?_
                            refine lv_goto (tgt := 176) hx hb dX10_far_171 (by decide) ?_
                            exact W.iret (v := ((-5) : Int32)) hx hb hr (fun t ht hW => ⟨⟨_, ((upd (upd f 0 (0 : Int32)) 22 mn2), g, (va_up (va_up r 21 pl2) 20 st2), (va_up q 19 rr2)), rfl, ⟨pl2, rr2, st2, mn2, rfl, (Or.inr ⟨⟨goodP_of b11, goodP_of b21⟩, Or.inr ⟨⟨b35, b47⟩, Or.inr ⟨(fun z9 => c57 ((lg_cmp_eq _ _).mpr z9)), (by rcases j122_4 with ⟨z1, z2⟩ | ⟨z1, z2⟩ | ⟨z1, z2⟩; (exfalso; have y1 : x7.toInt = 0 := (by rw [z1]; rfl); first | omega | exact absurd z1 c133 | exact (z2.2.2.2.1 k2 (Nat.le_refl _)).2 (far_end hb8 (hiZ_p m36_9 (goodP_of b11).2) (hiZ_p m36_9 (goodP_of b21).2) b35 b47 (fun j9 h9 => (z2.2.2.2.1 j9 h9).1) z2.2.2.2.2 (by rw [z2.1.1]; have := m_cl (x := mn2) (by omega); omega))); (first | exact z2 | (exfalso; omega)); (first | (exfalso; have y1 : x7.toInt = -5 := (by rw [z1]; rfl); omega) | exact z2))⟩⟩⟩)⟩, by unfold mB; rw [ht]; exact hP⟩, hS.F ht⟩) hS.2.2 dX10_far_176
                        · skip
                          have d156 := c156
                          rw [fa_le] at d156
                          refine lv_iload hx hb dX10_far_159 (lv_at hl 1 rfl) ?_
                          refine lv_goto (tgt := 176) hx hb dX10_far_161 (by decide) ?_
                          exact W.iret (v := x7) hx hb hr (fun t ht hW => ⟨⟨_, ((upd (upd f 0 (0 : Int32)) 22 mn2), g, (va_up (va_up r 21 pl2) 20 st2), (va_up q 19 rr2)), rfl, ⟨pl2, rr2, st2, mn2, rfl, (Or.inr ⟨⟨goodP_of b11, goodP_of b21⟩, Or.inr ⟨⟨b35, b47⟩, Or.inr ⟨(fun z9 => c57 ((lg_cmp_eq _ _).mpr z9)), (by rcases j122_4 with ⟨z1, z2⟩ | ⟨z1, z2⟩ | ⟨z1, z2⟩; (exfalso; have y1 : x7.toInt = 0 := (by rw [z1]; rfl); first | omega | exact absurd z1 c133 | exact (z2.2.2.2.1 k2 (Nat.le_refl _)).2 (far_end hb8 (hiZ_p m36_9 (goodP_of b11).2) (hiZ_p m36_9 (goodP_of b21).2) b35 b47 (fun j9 h9 => (z2.2.2.2.1 j9 h9).1) z2.2.2.2.2 (by rw [z2.1.1]; have := m_cl (x := mn2) (by omega); omega))); (first | exact z2 | (exfalso; omega)); (first | (exfalso; have y1 : x7.toInt = -5 := (by rw [z1]; rfl); omega) | exact z2))⟩⟩⟩)⟩, by unfold mB; rw [ht]; exact hP⟩, hS.F ht⟩) hS.2.2 dX10_far_176
                      · skip
                        have d128 := c128
                        rw [fa_le] at d128
                        refine lv_iload hx hb dX10_far_131 (lv_at hl 1 rfl) ?_
                        refine lv_if_ne (tgt := 154) hx hb dX10_far_133 (by decide) (fun c133 => ?_) (fun c133 => ?_)
                        · skip
                          have d133 := c133
                          rw [fa_eq] at d133
                          refine lv_iload hx hb dX10_far_154 (lv_at hl 1 rfl) ?_
                          refine lv_if_le (tgt := 164) hx hb dX10_far_156 (by decide) (fun c156 => ?_) (fun c156 => ?_)
                          · skip
                            have d156 := c156
                            rw [fa_le] at d156
                            refine lv_iload hx hb dX10_far_164 (lv_at hl 1 rfl) ?_
                            refine lv_if_ge (tgt := 174) hx hb dX10_far_166 (by decide) (fun c166 => ?_) (fun c166 => ?_)
                            · skip
                              have d166 := c166
                              rw [fa_le] at d166
                              refine lv_bipush (v := (-2)) hx hb dX10_far_174 (by decide) ?_
                              exact W.iret (v := ((-2) : Int32)) hx hb hr (fun t ht hW => ⟨⟨_, ((upd (upd f 0 (0 : Int32)) 22 mn2), g, (va_up (va_up r 21 pl2) 20 st2), (va_up q 19 rr2)), rfl, ⟨pl2, rr2, st2, mn2, rfl, (Or.inr ⟨⟨goodP_of b11, goodP_of b21⟩, Or.inr ⟨⟨b35, b47⟩, Or.inr ⟨(fun z9 => c57 ((lg_cmp_eq _ _).mpr z9)), (by rcases j122_4 with ⟨z1, z2⟩ | ⟨z1, z2⟩ | ⟨z1, z2⟩; (exfalso; have y1 : x7.toInt = 0 := (by rw [z1]; rfl); first | omega | exact absurd z1 c133 | exact (z2.2.2.2.1 k2 (Nat.le_refl _)).2 (far_end hb8 (hiZ_p m36_9 (goodP_of b11).2) (hiZ_p m36_9 (goodP_of b21).2) b35 b47 (fun j9 h9 => (z2.2.2.2.1 j9 h9).1) z2.2.2.2.2 (by rw [z2.1.1]; have := m_cl (x := mn2) (by omega); omega))); (first | exact z2 | (exfalso; omega)); (first | (exfalso; have y1 : x7.toInt = -5 := (by rw [z1]; rfl); omega) | exact z2))⟩⟩⟩)⟩, by unfold mB; rw [ht]; exact hP⟩, hS.F ht⟩) hS.2.2 dX10_far_176
                            · skip
                              have d166 := c166
                              rw [fa_le] at d166
                              refine lv_bipush (v := (-5)) hx hb dX10_far_169 (by decide) ?_
                              refine lv_goto (tgt := 176) hx hb dX10_far_171 (by decide) ?_
                              exact W.iret (v := ((-5) : Int32)) hx hb hr (fun t ht hW => ⟨⟨_, ((upd (upd f 0 (0 : Int32)) 22 mn2), g, (va_up (va_up r 21 pl2) 20 st2), (va_up q 19 rr2)), rfl, ⟨pl2, rr2, st2, mn2, rfl, (Or.inr ⟨⟨goodP_of b11, goodP_of b21⟩, Or.inr ⟨⟨b35, b47⟩, Or.inr ⟨(fun z9 => c57 ((lg_cmp_eq _ _).mpr z9)), (by rcases j122_4 with ⟨z1, z2⟩ | ⟨z1, z2⟩ | ⟨z1, z2⟩; (exfalso; have y1 : x7.toInt = 0 := (by rw [z1]; rfl); first | omega | exact absurd z1 c133 | exact (z2.2.2.2.1 k2 (Nat.le_refl _)).2 (far_end hb8 (hiZ_p m36_9 (goodP_of b11).2) (hiZ_p m36_9 (goodP_of b21).2) b35 b47 (fun j9 h9 => (z2.2.2.2.1 j9 h9).1) z2.2.2.2.2 (by rw [z2.1.1]; have := m_cl (x := mn2) (by omega); omega))); (first | exact z2 | (exfalso; omega)); (first | (exfalso; have y1 : x7.toInt = -5 := (by rw [z1]; rfl); omega) | exact z2))⟩⟩⟩)⟩, by unfold mB; rw [ht]; exact hP⟩, hS.F ht⟩) hS.2.2 dX10_far_176
                          · skip
                            have d156 := c156
                            rw [fa_le] at d156
                            refine lv_iload hx hb dX10_far_159 (lv_at hl 1 rfl) ?_
                            refine lv_goto (tgt := 176) hx hb dX10_far_161 (by decide) ?_
                            exact W.iret (v := x7) hx hb hr (fun t ht hW => ⟨⟨_, ((upd (upd f 0 (0 : Int32)) 22 mn2), g, (va_up (va_up r 21 pl2) 20 st2), (va_up q 19 rr2)), rfl, ⟨pl2, rr2, st2, mn2, rfl, (Or.inr ⟨⟨goodP_of b11, goodP_of b21⟩, Or.inr ⟨⟨b35, b47⟩, Or.inr ⟨(fun z9 => c57 ((lg_cmp_eq _ _).mpr z9)), (by rcases j122_4 with ⟨z1, z2⟩ | ⟨z1, z2⟩ | ⟨z1, z2⟩; (exfalso; have y1 : x7.toInt = 0 := (by rw [z1]; rfl); first | omega | exact absurd z1 c133 | exact (z2.2.2.2.1 k2 (Nat.le_refl _)).2 (far_end hb8 (hiZ_p m36_9 (goodP_of b11).2) (hiZ_p m36_9 (goodP_of b21).2) b35 b47 (fun j9 h9 => (z2.2.2.2.1 j9 h9).1) z2.2.2.2.2 (by rw [z2.1.1]; have := m_cl (x := mn2) (by omega); omega))); (first | exact z2 | (exfalso; omega)); (first | (exfalso; have y1 : x7.toInt = -5 := (by rw [z1]; rfl); omega) | exact z2))⟩⟩⟩)⟩, by unfold mB; rw [ht]; exact hP⟩, hS.F ht⟩) hS.2.2 dX10_far_176
                        · skip
                          have d133 := c133
                          rw [fa_eq] at d133
                          have ck2 : (nI k2).toNatClampNeg = k2 := nI_clamp (by omega)
                          obtain ⟨l1, l2, l3, l4, l5⟩ : rlR (bfA w.toNatClampNeg h.toNatClampNeg (st0 p0) k2) rr2 st2 mn2.toNatClampNeg ∧ tabOk 65536 hR (ocR pl2) rr2 mn2.toNatClampNeg ∧ rr2 0 = p0 ∧ (∀ j9, j9 ≤ k2 → (bfA w.toNatClampNeg h.toNatClampNeg (st0 p0) j9).2.2.2 = false ∧ ¬ isIn9 (bfA w.toNatClampNeg h.toNatClampNeg (st0 p0) j9) p1) ∧ ∀ j9, j9 < k2 → j9 < (bfA w.toNatClampNeg h.toNatClampNeg (st0 p0) j9).2.2.1 := by rcases j122_4 with ⟨z1, z2⟩ | ⟨z1, z2⟩ | ⟨z1, z2⟩; exact z2; (exfalso; rw [c133] at z1; exact absurd z1 (by decide)); exact absurd (z1.symm.trans c133) (by decide)
                          have cm2 := m_cl (x := mn2) (by omega)
                          have hs8 : rlR (bfA w.toNatClampNeg h.toNatClampNeg (st0 (rr2 0)) (nI k2).toNatClampNeg) rr2 st2 mn2.toNatClampNeg := by rw [ck2, l3]; exact l1
                          have ho8 : (bfA w.toNatClampNeg h.toNatClampNeg (st0 (rr2 0)) (nI k2).toNatClampNeg).2.2.2 = false := by rw [ck2, l3]; exact (l4 k2 (Nat.le_refl _)).1
                          have hn8 : ¬ isIn9 (bfA w.toNatClampNeg h.toNatClampNeg (st0 (rr2 0)) (nI k2).toNatClampNeg) p1 := by rw [ck2, l3]; exact (l4 k2 (Nat.le_refl _)).2
                          have hk8 : (nI k2).toNatClampNeg < mn2.toNatClampNeg := by omega
                          have hd8 : (bfA w.toNatClampNeg h.toNatClampNeg (st0 (rr2 0)) (nI k2).toNatClampNeg).2.1 (nI k2).toNatClampNeg ≤ (nI k2).toNatClampNeg := by rw [ck2, l3]; exact bfA_Dl k2 l5 k2 (by rw [l1.1]; omega)
                          refine lv_aload_n hx hb dX10_far_136 rfl (lv_at hl 2 rfl) ?_
                          refine lv_iload_n hx hb dX10_far_137 rfl (lv_at hl 3 rfl) ?_
                          refine lv_iload_n hx hb dX10_far_138 rfl (lv_at hl 4 rfl) ?_
                          refine lv_iload hx hb dX10_far_139 (lv_at hl 0 rfl) ?_
                          refine lv_lload hx hb dX10_far_141 (lv_at hl 6 rfl) ?_
                          refine m_calli (As := [.int w, .int h, .int (nI k2), .long p1]) (rest := []) ⟨hx, hb, hml, hown, hts⟩ (c_X10_meetAll_x l D cy mo a (upd (upd f 0 (0 : Int32)) 22 mn2) g (va_up (va_up r 21 pl2) 20 st2) (va_up q 19 rr2) w h (nI k2) p1 hD b11.1.1 b11.1.2 j122_1 (show 1 ≤ mn2.toInt ∧ mn2.toInt ≤ 20000 by omega) j122_3 (by omega) l2 hs8 ho8 hk8 hn8 hd8) (cwV 4 hts gX10_far_X10_meetAll rfl rfl rfl (by decide +kernel) ⟨Nat.le_of_ble_eq_true rfl, Nat.le_of_ble_eq_true rfl⟩) hK hP rfl hl.1 rfl (Nat.le_of_ble_eq_true rfl) dX10_far_143 ⟨Nat.le_of_ble_eq_true rfl, Nat.le_of_ble_eq_true rfl⟩ hS (fun r143 u H locs q143 hP hS => ?_)
                          obtain ⟨pl_143, rr_143, st_143, mn_143, rfl, q143⟩ := q143
                          have hP : va_P D vwCl (WM cy mo a (upd (upd f 0 (0 : Int32)) 22 mn_143) g (va_up (va_up r 21 pl_143) 20 st_143) (va_up q 19 rr_143)) H := hP
                          have q143 : (PB pl_143 ∧ ((mn2).toInt ≤ mn_143.toInt ∧ mn_143.toInt ≤ 20000) ∧ (ct21 pl_143 : Int) ≤ mn_143.toInt) ∧ rr_143 0 = (va_up q 19 rr2) 19 0 ∧ ((r143.toInt = (((bfA w.toNatClampNeg h.toNatClampNeg (st0 (rr2 0)) (nI k2).toNatClampNeg).2.1 (nI k2).toNatClampNeg + 1 : Nat) : Int) ∧ isIn9 (bfA w.toNatClampNeg h.toNatClampNeg (st0 (rr2 0)) ((nI k2).toNatClampNeg + 1)) p1) ∨ (¬ isIn9 (bfA w.toNatClampNeg h.toNatClampNeg (st0 (rr2 0)) ((nI k2).toNatClampNeg + 1)) p1 ∧ (bfA w.toNatClampNeg h.toNatClampNeg (st0 (rr2 0)) ((nI k2).toNatClampNeg + 1)).2.2.2 = true ∧ r143 = -5) ∨ (r143 = 0 ∧ ¬ isIn9 (bfA w.toNatClampNeg h.toNatClampNeg (st0 (rr2 0)) ((nI k2).toNatClampNeg + 1)) p1 ∧ (bfA w.toNatClampNeg h.toNatClampNeg (st0 (rr2 0)) ((nI k2).toNatClampNeg + 1)).2.2.2 = false ∧ rlR (bfA w.toNatClampNeg h.toNatClampNeg (st0 (rr2 0)) ((nI k2).toNatClampNeg + 1)) rr_143 st_143 mn_143.toNatClampNeg ∧ tabOk 65536 hR (ocR pl_143) rr_143 mn_143.toNatClampNeg)) := q143
                          obtain ⟨p1_, p2_, p3_⟩ := q143
                          rw [ck2, l3] at p3_
                          have p2_ : rr_143 0 = p0 := p2_.trans l3
                          have all8 : ∀ j9, j9 ≤ k2 → (bfA w.toNatClampNeg h.toNatClampNeg (st0 p0) j9).2.2.2 = false ∧ ¬ isIn9 (bfA w.toNatClampNeg h.toNatClampNeg (st0 p0) j9) p1 ∧ j9 < (bfA w.toNatClampNeg h.toNatClampNeg (st0 p0) j9).2.2.1 := fun j9 h9 => ⟨(l4 j9 h9).1, (l4 j9 h9).2, (by rcases Nat.lt_or_ge j9 k2 with z9 | z9; exact l5 j9 z9; (rw [show j9 = k2 by omega, l1.1]; omega))⟩
                          refine lv_istore (lv' := [(7, .int r143), (8, .int (nI k2)), (0, .ref mo), (1, .int w), (2, .int h), (3, .long p0), (5, .long p1)]) hx hb dX10_far_146 hl (by decide) rfl (fun ls hl => ?_)
                          refine lv_iinc (v := (nI (k2 + 1))) (lv' := [(8, .int (nI (k2 + 1))), (7, .int r143), (0, .ref mo), (1, .int w), (2, .int h), (3, .long p0), (5, .long p1)]) hx hb dX10_far_148 hl (k := 1) rfl (nI_1 _) (by decide) rfl (fun ls hl => ?_)
                          refine lv_goto (tgt := 122) hx hb dX10_far_151 (by decide) ?_
                          exact ih_122 (k2 + 1) r143 pl_143 rr_143 st_143 mn_143 (by omega) (p1_.1) (by have z9 := p1_.2.1; omega) (p1_.2.2) (by rcases p3_ with ⟨z1, z2⟩ | ⟨z1, z2, z3⟩ | ⟨z1, z2, z3, z4, z5⟩; exact Or.inr (Or.inl ⟨by rw [z1]; omega, k2, all8, Or.inl ⟨z2, by rw [z1]; omega⟩⟩); exact Or.inr (Or.inr ⟨z3, k2, all8, Or.inr ⟨z1, z2, rfl⟩⟩); exact Or.inl ⟨z1, z4, z5, p2_, (fun j9 h9 => by by_cases z9 : j9 = k2 + 1; (rw [z9]; exact ⟨z3, z2⟩); exact l4 j9 (by omega)), (fun j9 h9 => by by_cases z9 : j9 = k2; (rw [z9, l1.1]; omega); exact l5 j9 (by omega))⟩) (by omega) _ _ hP hS ls (lv_sub hl [0, 1, 2, 3, 4, 5, 6] rfl)
                  have hP := wm_eq rfl rfl (ec_r_20_21__21_20 r ((upd (r 20) (0 : Int32).toNatClampNeg (0 : Int32))) ((upd pz r106.toNatClampNeg (0 : Int32)))) (ec_q_19__19 q ((vp_updL (q 19) (0 : Int32).toNatClampNeg p0))) hP
                  exact loop_122 (20000 + 1) 0 (0 : Int32) (((upd pz r106.toNatClampNeg (0 : Int32)))) (((vp_updL (q 19) (0 : Int32).toNatClampNeg p0))) (((upd (r 20) (0 : Int32).toNatClampNeg (0 : Int32)))) (1 : Int32) (by omega) (pb_put hpb (by decide)) (by decide) (by have : (1 : Int32).toInt = 1 := rfl; omega) (by have tb1 : tabOk 65536 hR (ocR (upd pz r106.toNatClampNeg 0)) (vp_updL (q 19) 0 p0) 1 := (by rcases q106.2 0 (by omega) (tab_0 (fun e9 h9 => ocR_n (j65_1 e9 (by omega)))) with ⟨i9, y1, -⟩ | ⟨y1, -, y3⟩; exact absurd y1 (Nat.not_lt_zero _); exact tab_add (tab_0 (m := q 19) (fun e9 h9 => ocR_n (j65_1 e9 (by omega)))) y1 (fun i9 h9 => absurd h9 (Nat.not_lt_zero _)) y3 (fun i9 h9 => absurd h9 (Nat.not_lt_zero _)) (by unfold vp_updL; rw [if_pos rfl]) (by unfold ocR upd; rw [if_pos rfl]; rfl) (fun e9 h9 h8 => by unfold ocR upd; rw [if_neg h8])); exact Or.inl ⟨rfl, ⟨rfl, fun i9 h9 => by rw [show i9 = 0 by have : (1 : Int32).toNatClampNeg = 1 := rfl; omega]; exact ⟨(by unfold vp_updL; rw [if_pos (show (0 : Nat) = (0 : Int32).toNatClampNeg from rfl)]; rfl), (by unfold upd; rw [if_pos (show (0 : Nat) = (0 : Int32).toNatClampNeg from rfl)]; rfl)⟩⟩, tb1, (by unfold vp_updL; rw [if_pos (show (0 : Nat) = (0 : Int32).toNatClampNeg from rfl)]), (fun j9 h9 => by rw [show j9 = 0 by omega]; exact ⟨rfl, fun ⟨i9, h1, h2⟩ => c57 ((lg_cmp_eq _ _).mpr h2)⟩), fun j9 h9 => absurd h9 (Nat.not_lt_zero _)⟩) (by omega) _ _ hP hS ls (lv_sub hl [0, 1, 2, 3, 4, 5, 6] rfl)
                · skip
                  have d69 := c69
                  rw [fa_le] at d69
                  refine lv_aload_n hx hb dX10_far_72 rfl (lv_at hl 1 rfl) ?_
                  refine m_get (v := .ref (a 21)) hx hb hts hin hown hK hP 21 (by decide) rfl (hts (.fieldLink RX10 49 "ShadowBenchModel" "place" "[I") (by decide +kernel)) rfl dX10_far_73 ?_
                  refine lv_iload hx hb dX10_far_76 (lv_at hl 0 rfl) ?_
                  refine lv_iconst (v := (-1)) hx hb dX10_far_78 (by decide) ?_
                  refine m_iast (w := pz) hx hb hK hP hD hS 13 rfl (vp_in_iff.mpr ⟨by omega, by omega⟩) (va_up (va_up r 21 pz) 21 (upd pz (nI k).toNatClampNeg (((-1) : Int32)))) (ms_21 cy mo a _ _ _ _ _) dX10_far_79 (fun H locs hP hS => ?_)
                  have hP := wm_eq rfl rfl (es_r_21__21 r pz (upd pz (nI k).toNatClampNeg (((-1) : Int32)))) rfl hP
                  refine lv_iinc (v := (nI (k + 1))) (lv' := [(7, .int (nI (k + 1))), (0, .ref mo), (1, .int w), (2, .int h), (3, .long p0), (5, .long p1)]) hx hb dX10_far_80 hl (k := 0) rfl (nI_1 _) (by decide) rfl (fun ls hl => ?_)
                  refine lv_goto (tgt := 65) hx hb dX10_far_83 (by decide) ?_
                  have hP := wm_eq rfl rfl (ec_r_21__21 r ((upd pz (nI k).toNatClampNeg (((-1) : Int32))))) rfl hP
                  exact ih_65 (k + 1) (((upd pz (nI k).toNatClampNeg (((-1) : Int32))))) (by omega) (fun e he => by have hck := nI_clamp (n := k) (by omega); unfold upd; split; decide; exact j65_1 e (by omega)) (by omega) _ _ hP hS ls (lv_sub hl [0, 1, 2, 3, 4, 5] rfl)
            have hP := wm_eq rfl rfl (ec_r___21 r ) rfl hP
            exact loop_65 (65536 + 1) 0 (r 21) (by omega) (fun e he => absurd he (Nat.not_lt_zero _)) (by omega) _ _ hP hS ls (lv_sub hl [0, 1, 2, 3, 4, 5] rfl)
          · skip
            have d57 := c57
            rw [lg_cmp_eq, fa_eq64] at d57
            refine lv_iconst (v := 0) hx hb dX10_far_60 (by decide) ?_
            have hP := wm_eq (ec_f_0__0_22 f (0 : Int32)) rfl (ec_r___21_20 r ) (ec_q___19 q ) hP
            exact W.iret (v := (0 : Int32)) hx hb hr (fun t ht hW => ⟨⟨_, ((upd (upd f 0 (0 : Int32)) 22 (f 22)), g, (va_up (va_up r 21 (r 21)) 20 (r 20)), (va_up q 19 (q 19))), rfl, ⟨(r 21), (q 19), (r 20), (f 22), rfl, (Or.inr ⟨⟨goodP_of b11, goodP_of b21⟩, Or.inr ⟨⟨b35, b47⟩, Or.inl ⟨(lg_cmp_eq _ _).mp c57, rfl⟩⟩⟩)⟩, by unfold mB; rw [ht]; exact hP⟩, hS.F ht⟩) hS.2.2 dX10_far_61
        · skip
          have b47 := bo_f q44 c47
          refine lv_bipush (v := (-2)) hx hb dX10_far_50 (by decide) ?_
          have hP := wm_eq (ec_f_0__0_22 f (0 : Int32)) rfl (ec_r___21_20 r ) (ec_q___19 q ) hP
          exact W.iret (v := ((-2) : Int32)) hx hb hr (fun t ht hW => ⟨⟨_, ((upd (upd f 0 (0 : Int32)) 22 (f 22)), g, (va_up (va_up r 21 (r 21)) 20 (r 20)), (va_up q 19 (q 19))), rfl, ⟨(r 21), (q 19), (r 20), (f 22), rfl, (Or.inr ⟨⟨goodP_of b11, goodP_of b21⟩, Or.inl ⟨(fun z9 => by first | exact b35 z9.1 | exact b47 z9.2), rfl⟩⟩)⟩, by unfold mB; rw [ht]; exact hP⟩, hS.F ht⟩) hS.2.2 dX10_far_52
    · skip
      have b21 := bo_f q18 c21
      refine lv_iconst (v := (-1)) hx hb dX10_far_24 (by decide) ?_
      have hP := wm_eq (ec_f_0__0_22 f (0 : Int32)) rfl (ec_r___21_20 r ) (ec_q___19 q ) hP
      exact W.iret (v := ((-1) : Int32)) hx hb hr (fun t ht hW => ⟨⟨_, ((upd (upd f 0 (0 : Int32)) 22 (f 22)), g, (va_up (va_up r 21 (r 21)) 20 (r 20)), (va_up q 19 (q 19))), rfl, ⟨(r 21), (q 19), (r 20), (f 22), rfl, (Or.inl ⟨(fun z9 => by first | exact goodP_no b11 z9.1 | exact goodP_no b21 z9.2), rfl⟩)⟩, by unfold mB; rw [ht]; exact hP⟩, hS.F ht⟩) hS.2.2 dX10_far_25

def h10 (G : cG) (x : Nat) : Prop := (∃ k n, G x = some (3, k, n)) ∨ ∃ n, G x = some (4, n, 0)
theorem hf10_up {G G1 : cG} {x : Nat} (hE : cE G G1) (h : (∃ k n, G x = some (3, k, n)) ∨ ∃ n, G x = some (4, n, 0)) : (∃ k n, G1 x = some (3, k, n)) ∨ ∃ n, G1 x = some (4, n, 0) := by
  rcases h with ⟨k, n, h⟩ | ⟨n, h⟩
  · exact Or.inl ⟨k, n, hE _ _ h⟩
  · exact Or.inr ⟨n, hE _ _ h⟩
section CAR42
variable {p : Program} {l : Launch} {e : Env} {R : Room} {s : State} {m : MethodId} {args : Array Value} {below : List Frame} {meth : Method} {c : Code} {H : Heap} {locs : List Loc} {cells slots : Nat} {Q : State → Prop}
variable {cc : ByteArray} {pc : Nat} {ls : Array Slot} {rest : List Value} {D : va_G} {cy : Nat → ClassId} {A : Nat → Prop} {ws : va_W} {G : cG} {H0 : Heap}
theorem w10sh {a n z : Nat} {fb : Nat → Option Nat} (hD : va_D A ws) (hT : cT cy G ws) (hg : G a = some (10, n, z)) (hM : cIn ws a (.inl (cy 5, cqa n fb))) : ∀ i x, i < n → fb i = some x → (∃ k n, G x = some (3, k, n)) ∨ ∃ n, G x = some (4, n, 0) := by
  obtain ⟨_, h9, f, rfl, hf⟩ := hT _ _ hg
  have z := cIn.eq hD hM h9
  simp only [Sum.inl.injEq, Prod.mk.injEq, Sum.inr.injEq, true_and] at z
  subst z
  exact hf
theorem t_aald10f (hx : p.tables.exec = Jvm.exec) (hb : c.code = cc) (hK : va_K D vwCl (cTy cy) s) (hP : va_P D vwCl ws H) {a n : Nat} {f : Nat → Option Nat} (hM : cIn ws a (.inl (cy 5, cqa n f))) (hf : ∀ i x, i < n → f i = some x → (∃ k n, G x = some (3, k, n)) ∨ ∃ n, G x = some (4, n, 0)) {i : Int32} (hin : vp_in i n) (hdg : decode cc pc = .ok (.aaload, 1))
    (kn : f i.toNatClampNeg = none → W p l e R s m args below meth c H locs cells slots Q (F0 m (pc + 1) ls (.null :: rest)))
    (kj : ∀ x k n, G x = some (3, k, n) → f i.toNatClampNeg = some x → W p l e R s m args below meth c H locs cells slots Q (F0 m (pc + 1) ls (.ref x :: rest)))
    (kr : ∀ x n, G x = some (4, n, 0) → f i.toNatClampNeg = some x → W p l e R s m args below meth c H locs cells slots Q (F0 m (pc + 1) ls (.ref x :: rest))) : W p l e R s m args below meth c H locs cells slots Q (F0 m pc ls (.int i :: .ref a :: rest)) := by
  obtain ⟨q0, hq⟩ := hM
  have hlt : i.toNatClampNeg < n := Nat.not_le.mp fun q => hin (Or.inr q)
  refine va_aldq hx hb hK hP q0 5 hq rfl hin hdg ?_
  cases hv : f i.toNatClampNeg with
  | none => exact kn hv
  | some x =>
    rcases hf _ x hlt hv with ⟨k, n', hg⟩ | ⟨n', hg⟩
    · exact kj x k n' hg hv
    · exact kr x n' hg hv
theorem t_aast10f (hx : p.tables.exec = Jvm.exec) (hb : c.code = cc) (hV : cV s) (hK : va_K D vwCl (cTy cy) s) (hP : va_P D vwCl ws H) (hD : va_D A ws) (hS : va_S A H0 H locs) (hT : cT cy G ws) {a n z v : Nat} (hg : G a = some (10, n, z)) {f : Nat → Option Nat} (hM : cIn ws a (.inl (cy 5, cqa n f))) (hf : ∀ i x, i < n → f i = some x → (∃ k n, G x = some (3, k, n)) ∨ ∃ n, G x = some (4, n, 0)) {i : Int32} (hv : (∃ k n, G v = some (3, k, n)) ∨ ∃ n, G v = some (4, n, 0)) (hin : vp_in i n) (hdg : decode cc pc = .ok (.aastore, 1))
    (kk : ∀ (H1 : Heap) (locs1 : List Loc) (ws1 : va_W), cF (fun b => b = a) ws ws1 → cIn ws1 a (.inl (cy 5, cqa n (va_up f i.toNatClampNeg (some v)))) → (∀ j x, j < n → va_up f i.toNatClampNeg (some v) j = some x → (∃ k n, G x = some (3, k, n)) ∨ ∃ n, G x = some (4, n, 0)) → va_P D vwCl ws1 H1 → va_D A ws1 → cT cy G ws1 → va_S A H0 H1 locs1 → W p l e R s m args below meth c H1 locs1 cells slots Q (F0 m (pc + 1) ls rest)) : W p l e R s m args below meth c H locs cells slots Q (F0 m pc ls (.ref v :: .int i :: .ref a :: rest)) := by
  obtain ⟨q0, hq⟩ := hM
  have hf1 : ∀ j x, j < n → va_up f i.toNatClampNeg (some v) j = some x → (∃ k n, G x = some (3, k, n)) ∨ ∃ n, G x = some (4, n, 0) := fun j x hj hx => c_upf (P := fun i x => (∃ k n, G x = some (3, k, n)) ∨ ∃ n, G x = some (4, n, 0)) hf hv hj hx
  have k : ∀ (H1 : Heap) (locs1 : List Loc), va_P D vwCl (ws.set q0 (a, .inl (cy 5, cqa n (va_up f i.toNatClampNeg (some v))))) H1 → va_D A (ws.set q0 (a, .inl (cy 5, cqa n (va_up f i.toNatClampNeg (some v))))) → va_S A H0 H1 locs1 → W p l e R s m args below meth c H1 locs1 cells slots Q (F0 m (pc + 1) ls rest) := fun H1 locs1 k1 k2 k3 => kk H1 locs1 _ (cF.up (cUp.set hq) rfl) (cUp.set hq).1 hf1 k1 k2 (hT.up (cUp.set hq) hg ⟨_, rfl, hf1⟩) k3
  rcases hv with ⟨k1, k2, hv⟩ | ⟨k1, hv⟩
  · obtain ⟨_, ⟨qk, hqk⟩, b, s', w, h, tw, x, y, ms, rfl, -, -, hJ⟩ := hT _ _ hv
    rcases hJ.kc with rfl | rfl | rfl | rfl
    · exact va_astqO (r := (RX1, TX1, 5)) hx hb hK hP hD hS q0 5 qk 1 hq rfl hV.2.2.1.1 hqk rfl hin hdg k
    · exact va_astqO (r := (RX3, TX3, 5)) hx hb hK hP hD hS q0 5 qk 2 hq rfl hV.2.2.1.2.1 hqk rfl hin hdg k
    · exact va_astqO (r := (RX4, TX4, 5)) hx hb hK hP hD hS q0 5 qk 3 hq rfl hV.2.2.1.2.2.1 hqk rfl hin hdg k
    · exact va_astqO (r := (RX5, TX5, 6)) hx hb hK hP hD hS q0 5 qk 4 hq rfl hV.2.2.1.2.2.2.1 hqk rfl hin hdg k
  · obtain ⟨_, ⟨qk, hqk⟩, hn, b, a', rfl, -⟩ := hT _ _ hv
    exact va_astqO (r := (RX7, TX7, 2)) hx hb hK hP hD hS q0 5 qk 6 hq rfl hV.2.2.1.2.2.2.2 hqk rfl hin hdg k
theorem t_aastNf (hx : p.tables.exec = Jvm.exec) (hb : c.code = cc) (hK : va_K D vwCl (cTy cy) s) (hP : va_P D vwCl ws H) (hD : va_D A ws) (hS : va_S A H0 H locs) (hT : cT cy G ws) {a n z : Nat} (hg : G a = some (10, n, z)) {f : Nat → Option Nat} (hM : cIn ws a (.inl (cy 5, cqa n f))) (hf : ∀ i x, i < n → f i = some x → (∃ k n, G x = some (3, k, n)) ∨ ∃ n, G x = some (4, n, 0)) {i : Int32} (hin : vp_in i n) (hdg : decode cc pc = .ok (.aastore, 1))
    (kk : ∀ (H1 : Heap) (locs1 : List Loc) (ws1 : va_W), cF (fun b => b = a) ws ws1 → cIn ws1 a (.inl (cy 5, cqa n (va_up f i.toNatClampNeg none))) → (∀ j x, j < n → va_up f i.toNatClampNeg none j = some x → (∃ k n, G x = some (3, k, n)) ∨ ∃ n, G x = some (4, n, 0)) → va_P D vwCl ws1 H1 → va_D A ws1 → cT cy G ws1 → va_S A H0 H1 locs1 → W p l e R s m args below meth c H1 locs1 cells slots Q (F0 m (pc + 1) ls rest)) : W p l e R s m args below meth c H locs cells slots Q (F0 m pc ls (.null :: .int i :: .ref a :: rest)) := by
  obtain ⟨q0, hq⟩ := hM
  have hf1 : ∀ j x, j < n → va_up f i.toNatClampNeg none j = some x → (∃ k n, G x = some (3, k, n)) ∨ ∃ n, G x = some (4, n, 0) := fun j x hj hx => by
    unfold va_up at hx
    split at hx
    · cases hx
    · exact hf j x hj hx
  exact va_astqN hx hb hK hP hD hS q0 5 hq rfl hin hdg (fun H1 locs1 k1 k2 k3 => kk H1 locs1 _ (cF.up (cUp.set hq) rfl) (cUp.set hq).1 hf1 k1 k2 (hT.up (cUp.set hq) hg ⟨_, rfl, hf1⟩) k3)
end CAR42
/-- what stands on a shelf: nothing, a job, a row of bytes or of longs and its size -/
def shD (G : cG) (W : va_W) (o : Option Nat) (k n : Int32) : Prop := (o = none ∧ k = 0) ∨ (∃ x a b, o = some x ∧ G x = some (3, a, b) ∧ k = 1) ∨ (∃ x m z a, o = some x ∧ G x = some (4, m, 0) ∧ cIn W x (.inr (6, [.int z, .ref a])) ∧ n.toInt = (m : Int) ∧ ((z = 1 ∧ k = 3) ∨ (z = 0 ∧ k = 4)))
section SHD
variable {cy : Nat → ClassId} {A : Nat → Prop} {G G1 : cG} {W W1 : va_W} {o : Option Nat} {k n : Int32} {x : Nat}
theorem shD_n (h : shD G W none k n) : k = 0 := by
  rcases h with ⟨-, h⟩ | ⟨x, a, b, h, -⟩ | ⟨x, m, z, a, h, -⟩
  · exact h
  · cases h
  · cases h
theorem shD_nz (h : shD G W (some x) k n) : k ≠ 0 := by
  rcases h with ⟨h, -⟩ | ⟨x, a, b, -, -, h⟩ | ⟨x, m, z, a, -, -, -, -, ⟨-, h⟩ | ⟨-, h⟩⟩
  · cases h
  · rw [h]; decide
  · rw [h]; decide
  · rw [h]; decide
theorem shD_j (h : shD G W (some x) k n) {a b : Nat} (hg : G x = some (3, a, b)) : k = 1 := by
  rcases h with ⟨h, -⟩ | ⟨x, a, b, -, -, h⟩ | ⟨y, m, z, a, h, h1, -⟩
  · cases h
  · exact h
  · cases h
    rw [hg] at h1
    cases h1
theorem shD_r (h : shD G W (some x) k n) (hD : va_D A W) {m a : Nat} {z : Int32} (hg : G x = some (4, m, 0)) (hM : cIn W x (.inr (6, [.int z, .ref a]))) : n.toInt = (m : Int) ∧ ((z = 1 ∧ k = 3) ∨ (z = 0 ∧ k = 4)) := by
  rcases h with ⟨h, -⟩ | ⟨y, a, b, h, h1, -⟩ | ⟨y, m', z', a', h, h1, h2, h3, h4⟩
  · cases h
  · cases h
    rw [hg] at h1
    cases h1
  · cases h
    rw [hg] at h1
    cases h1
    have e := cIn.eq hD hM h2
    simp only [Sum.inr.injEq, Prod.mk.injEq, List.cons.injEq, Value.int.injEq, Value.ref.injEq, and_true, true_and] at e
    rw [e.1]
    exact ⟨h3, h4⟩
theorem shD.keep (h : shD G W o k n) {ch : List Nat} (hX : cX none (chs ch) G W G1 W1) (h4 : chs ch 4 = false) : shD G1 W1 o k n := by
  rcases h with h | ⟨x, a, b, h, h1, h2⟩ | ⟨x, m, z, a, h, h1, h2, h3, h4'⟩
  · exact Or.inl h
  · exact Or.inr (Or.inl ⟨x, a, b, h, hX.1 _ _ h1, h2⟩)
  · exact Or.inr (Or.inr ⟨x, m, z, a, h, hX.1 _ _ h1, hX.2.1 _ _ (cP.no h1 h4) h2, h3, h4'⟩)
end SHD
def okSh (d : Int32) : Prop := 0 ≤ d.toInt ∧ d.toInt < 8
def hasP (z i n : Int32) : Prop := (0 ≤ i.toInt ∧ 0 ≤ n.toInt) ∧ i.toInt + n.toInt ≤ z.toInt
/-- the answer of copy, by kinds and sizes -/
def cpA (k z : Nat → Int32) (d i e j n x : Int32) : Prop := (¬ (okSh d ∧ okSh e) ∧ x = -1) ∨ ((okSh d ∧ okSh e) ∧ (((k d.toNatClampNeg = 0 ∨ k e.toNatClampNeg = 0) ∧ x = -11) ∨ ((¬ (k d.toNatClampNeg = 0 ∨ k e.toNatClampNeg = 0)) ∧ ((¬ (3 ≤ (k d.toNatClampNeg).toInt ∧ k d.toNatClampNeg = k e.toNatClampNeg) ∧ x = -12) ∨ ((3 ≤ (k d.toNatClampNeg).toInt ∧ k d.toNatClampNeg = k e.toNatClampNeg) ∧ ((¬ (hasP (z d.toNatClampNeg) i n ∧ hasP (z e.toNatClampNeg) j n) ∧ x = -13) ∨ ((hasP (z d.toNatClampNeg) i n ∧ hasP (z e.toNatClampNeg) j n) ∧ x = n)))))))
theorem two_eq {P : Prop} {A B A' B' : Prop} {x y : Int32} (hx : (P ∧ A) ∨ (¬ P ∧ B)) (hy : (P ∧ A') ∨ (¬ P ∧ B')) (h1 : P → A → A' → x = y) (h2 : ¬ P → B → B' → x = y) : x = y := by
  rcases hx with ⟨p, a⟩ | ⟨p, a⟩ <;> rcases hy with ⟨q, b⟩ | ⟨q, b⟩
  · exact h1 p a b
  · exact absurd p q
  · exact absurd q p
  · exact h2 p a b
theorem cpA_eq {k z : Nat → Int32} {d i e j n x y : Int32} (hx : cpA k z d i e j n x) (hy : cpA k z d i e j n y) : x = y :=
  two_eq (P := okSh d ∧ okSh e) hx.symm hy.symm (fun _ ha hb => two_eq ha hb (fun _ a b => a.trans b.symm) (fun _ ha hb => two_eq ha.symm hb.symm (fun _ ha hb => two_eq ha.symm hb.symm (fun _ a b => a.trans b.symm) (fun _ a b => a.trans b.symm)) (fun _ a b => a.trans b.symm))) (fun _ a b => a.trans b.symm)

def mkOk (d what n : Int32) : Prop := ((0 ≤ d.toInt ∧ d.toInt < 8) ∧ (3 ≤ what.toInt ∧ what.toInt ≤ 4)) ∧ 0 ≤ n.toInt ∧ n.toInt ≤ 60

