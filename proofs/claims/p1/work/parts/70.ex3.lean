
section CAR17
variable {p : Program} {l : Launch} {e : Env} {R : Room} {s : State} {m : MethodId} {args : Array Value} {below : List Frame} {meth : Method} {c : Code} {H : Heap} {locs : List Loc} {cells slots : Nat} {Q : State → Prop}
variable {cc : ByteArray} {pc : Nat} {ls : Array Slot} {rest : List Value} {D : va_G} {cy : Nat → ClassId} {A : Nat → Prop} {ws : va_W} {G : cG} {H0 : Heap}
/-- a row of longs whose content is told, and that has a kind -/
theorem t_lastK (hx : p.tables.exec = Jvm.exec) (hb : c.code = cc) (hK : va_K D vwCl (cTy cy) s) (hP : va_P D vwCl ws H) (hD : va_D A ws) (hS : va_S A H0 H locs) (hT : cT cy G ws) {k9 a n z : Nat} {f : Nat → Int64} (hk9 : k9 = 1 ∨ k9 = 16 ∨ k9 = 17) (hg : G a = some (k9, n, z)) (hM : cIn ws a (.inl (cy 1, n, .inr (.inl f)))) {i : Int32} {x : Int64} (hin : vp_in i n) (hdg : decode cc pc = .ok (.lastore, 1))
    (kk : ∀ (H1 : Heap) (locs1 : List Loc) (ws1 : va_W), cUp ws a (.inl (cy 1, n, .inr (.inl (vp_updL f i.toNatClampNeg x)))) ws1 → va_P D vwCl ws1 H1 → va_D A ws1 → cT cy G ws1 → va_S A H0 H1 locs1 → W p l e R s m args below meth c H1 locs1 cells slots Q (F0 m (pc + 1) ls rest)) : W p l e R s m args below meth c H locs cells slots Q (F0 m pc ls (.long x :: .int i :: .ref a :: rest)) := by
  obtain ⟨q0, hq⟩ := hM
  exact va_last hx hb hK hP hD hS q0 1 hq rfl hin hdg (fun H1 locs1 h1 h2 h3 => kk H1 locs1 _ (cUp.set hq) h1 h2 (hT.up (cUp.set hq) hg (cLo hk9)) h3)
theorem t_ialdM (hx : p.tables.exec = Jvm.exec) (hb : c.code = cc) (hK : va_K D vwCl (cTy cy) s) (hP : va_P D vwCl ws H) {a n : Nat} {f : Nat → Int32} (hM : cIn ws a (.inl (cy 0, n, .inl f))) {i : Int32} (hin : vp_in i n) (hdg : decode cc pc = .ok (.iaload, 1))
    (kk : W p l e R s m args below meth c H locs cells slots Q (F0 m (pc + 1) ls (.int (f i.toNatClampNeg) :: rest))) : W p l e R s m args below meth c H locs cells slots Q (F0 m pc ls (.int i :: .ref a :: rest)) := by
  obtain ⟨q0, hq⟩ := hM
  exact va_iald hx hb hK hP q0 0 hq rfl hin hdg kk
theorem t_iastK (hx : p.tables.exec = Jvm.exec) (hb : c.code = cc) (hK : va_K D vwCl (cTy cy) s) (hP : va_P D vwCl ws H) (hD : va_D A ws) (hS : va_S A H0 H locs) (hT : cT cy G ws) {k9 a n z : Nat} {f : Nat → Int32} (hk9 : k9 = 0 ∨ k9 = 14 ∨ k9 = 20 ∨ k9 = 21 ∨ k9 = 22 ∨ k9 = 23) (hg : G a = some (k9, n, z)) (hM : cIn ws a (.inl (cy 0, n, .inl f))) {i x : Int32} (hin : vp_in i n) (hdg : decode cc pc = .ok (.iastore, 1))
    (kk : ∀ (H1 : Heap) (locs1 : List Loc) (ws1 : va_W), cUp ws a (.inl (cy 0, n, .inl (upd f i.toNatClampNeg x))) ws1 → va_P D vwCl ws1 H1 → va_D A ws1 → cT cy G ws1 → va_S A H0 H1 locs1 → W p l e R s m args below meth c H1 locs1 cells slots Q (F0 m (pc + 1) ls rest)) : W p l e R s m args below meth c H locs cells slots Q (F0 m pc ls (.int x :: .int i :: .ref a :: rest)) := by
  obtain ⟨q0, hq⟩ := hM
  exact va_iast hx hb hK hP hD hS q0 0 hq rfl hin hdg (fun H1 locs1 h1 h2 h3 => kk H1 locs1 _ (cUp.set hq) h1 h2 (hT.up (cUp.set hq) hg (cIo hk9)) h3)
end CAR17

/-- the list's board: none while the list is empty -/
def lsB (G : cG) (lb : Option Nat) (lc : Int32) (lw lh : Nat) : Prop := (lb = none ∧ lc.toInt = 0) ∨ (0 < lc.toInt ∧ ∃ b, lb = some b ∧ G b = some (2, lw, lh))
theorem lsB.up {G G1 : cG} {lb : Option Nat} {lc : Int32} {lw lh : Nat} (h : lsB G lb lc lw lh) (hE : cE G G1) : lsB G1 lb lc lw lh := h.imp id (fun ⟨a, b, c, d⟩ => ⟨a, b, c, hE _ _ d⟩)
theorem lsB.nil {G : cG} {lb : Option Nat} {lc : Int32} {lw lh : Nat} (h : lsB G lb lc lw lh) (e : lb = none) : lc.toInt = 0 := by
  rcases h with z | ⟨_, b, z, _⟩
  · exact z.2
  · rw [e] at z; cases z
theorem lsB.one {G : cG} {lb : Option Nat} {lc : Int32} {lw lh x w h : Nat} (h1 : lsB G lb lc lw lh) (e : lb = some x) (hg : G x = some (2, w, h)) : 0 < lc.toInt ∧ w = lw ∧ h = lh := by
  rcases h1 with ⟨z, _⟩ | ⟨y, b, z, z8⟩
  · rw [e] at z; cases z
  · rw [e] at z
    cases z
    have z7 := hg.symm.trans z8
    simp only [Option.some.injEq, Prod.mk.injEq, true_and] at z7
    exact ⟨y, z7.1, z7.2⟩
def lsO (lc : Int32) (lw lh : Nat) (w h : Int32) : Prop := 0 < lc.toInt ∧ ¬ (w.toInt = (lw : Int) ∧ h.toInt = (lh : Int))
def lsI (fl : Nat → Int64) (lc : Int32) (p : Int64) : Prop := ∃ k : Nat, (k : Int) < lc.toInt ∧ fl k = p
def lsG (fl : Nat → Int64) (lc : Int32) (lw lh : Nat) (w h : Int32) (p : Int64) : Prop := goodP w h p ∧ lc.toInt < 12 ∧ ¬ lsO lc lw lh w h ∧ ¬ lsI fl lc p
def lsA (fl : Nat → Int64) (lc : Int32) (lw lh : Nat) (w h : Int32) (p : Int64) (x : Int32) : Prop := (lsG fl lc lw lh w h p ∧ x.toInt = lc.toInt + 1) ∨ (¬ lsG fl lc lw lh w h p ∧ ((¬ goodP w h p ∧ x = -1) ∨ (goodP w h p ∧ ¬ lc.toInt < 12 ∧ x = -2) ∨ (goodP w h p ∧ lc.toInt < 12 ∧ x = -3)))
section LST
variable {fl : Nat → Int64} {lc : Int32} {lw lh : Nat} {w h : Int32} {p : Int64}
theorem lsG_1 (n : ¬ goodP w h p) : ¬ lsG fl lc lw lh w h p := fun z => n z.1
theorem lsG_2 (n : ¬ lc.toInt < 12) : ¬ lsG fl lc lw lh w h p := fun z => n z.2.1
theorem lsG_3 (n : lsO lc lw lh w h ∨ lsI fl lc p) : ¬ lsG fl lc lw lh w h p := fun z => n.elim z.2.2.1 z.2.2.2
theorem lsA_1 (n : ¬ goodP w h p) : lsA fl lc lw lh w h p (-1) := Or.inr ⟨lsG_1 n, Or.inl ⟨n, rfl⟩⟩
theorem lsA_2 (g : goodP w h p) (n : ¬ lc.toInt < 12) : lsA fl lc lw lh w h p (-2) := Or.inr ⟨lsG_2 n, Or.inr (Or.inl ⟨g, n, rfl⟩)⟩
theorem lsA_3 (g : goodP w h p) (y : lc.toInt < 12) (n : lsO lc lw lh w h ∨ lsI fl lc p) : lsA fl lc lw lh w h p (-3) := Or.inr ⟨lsG_3 n, Or.inr (Or.inr ⟨g, y, rfl⟩)⟩
theorem lsI_c {fl' : Nat → Int64} (e : ∀ k : Nat, (k : Int) < lc.toInt → fl k = fl' k) : lsI fl lc p ↔ lsI fl' lc p := ⟨fun ⟨k, a, b⟩ => ⟨k, a, (e k a).symm.trans b⟩, fun ⟨k, a, b⟩ => ⟨k, a, (e k a).trans b⟩⟩
theorem lsG_c {fl' : Nat → Int64} (e : ∀ k : Nat, (k : Int) < lc.toInt → fl k = fl' k) : lsG fl lc lw lh w h p ↔ lsG fl' lc lw lh w h p := by
  unfold lsG
  rw [lsI_c e]
theorem lsA_eq {fl' : Nat → Int64} {x y : Int32} (e : ∀ k : Nat, (k : Int) < lc.toInt → fl k = fl' k) (hx : lsA fl lc lw lh w h p x) (hy : lsA fl' lc lw lh w h p y) : x = y := by
  rcases hx with ⟨a, b⟩ | ⟨a, b⟩ <;> rcases hy with ⟨c, d⟩ | ⟨c, d⟩
  · exact Int32.toInt_inj.mp (b.trans d.symm)
  · exact absurd ((lsG_c e).mp a) c
  · exact absurd ((lsG_c e).mpr c) a
  · rcases b with ⟨b1, b2⟩ | ⟨b1, b2, b3⟩ | ⟨b1, b2, b3⟩ <;> rcases d with ⟨d1, d2⟩ | ⟨d1, d2, d3⟩ | ⟨d1, d2, d3⟩ <;> first | (rw [b2, d2]; done) | (rw [b3, d3]; done) | exact absurd d1 b1 | exact absurd b1 d1 | exact absurd d2 b2 | exact absurd b2 d2
end LST
/-- a set of ways tells the pictures of the list apart -/
def telA (fl : Nat → Int64) (lc : Int32) (lw lh : Nat) (set : Int32) : Prop := ∀ a b : Nat, (a : Int) < lc.toInt → b < a → ∃ j, j < 4 ∧ unl lw lh (fl a) (fl b) set j
theorem telA_c {fl fl' : Nat → Int64} {lc : Int32} {lw lh : Nat} {set : Int32} (e : ∀ k : Nat, (k : Int) < lc.toInt → fl k = fl' k) : telA fl lc lw lh set ↔ telA fl' lc lw lh set := by
  constructor
  · intro t a b h1 h2; rw [← e a h1, ← e b (by omega)]; exact t a b h1 h2
  · intro t a b h1 h2; rw [e a h1, e b (by omega)]; exact t a b h1 h2
theorem telA_0 {fl : Nat → Int64} {lc : Int32} {lw lh lw' lh' : Nat} {set : Int32} (e : lc.toInt = 0) : telA fl lc lw lh set ↔ telA fl lc lw' lh' set := ⟨fun _ a b h1 h2 => by omega, fun _ a b h1 h2 => by omega⟩
theorem ts_27 {U : Nat → Prop} {x : Int32} {m : Nat} (hm : m = 4) (h : (x = 1 ∧ ∃ j, j < m ∧ U j) ∨ (x = 0 ∧ ∀ j, j < m → ¬ U j)) : (x = 1 ∧ ∃ j, j < 4 ∧ U j) ∨ (x = 0 ∧ ¬ ∃ j, j < 4 ∧ U j) := by
  subst hm
  exact h.imp id (fun ⟨a, b⟩ => ⟨a, fun ⟨j, c, d⟩ => b j c d⟩)
theorem ts_a {P : Prop} {Q : Nat → Prop} {y : Int32} {i : Nat} (h : (y = 1 ∧ P ∧ ∀ b, b < i → Q b) ∨ (y = 0 ∧ ¬ (P ∧ ∀ b, b < i → Q b))) (e : y = 0) : ((0 : Int32) = 1 ∧ P ∧ ∀ b, b < i + 1 → Q b) ∨ ((0 : Int32) = 0 ∧ ¬ (P ∧ ∀ b, b < i + 1 → Q b)) := by
  rcases h with ⟨z, _⟩ | ⟨_, y⟩
  · rw [e] at z; exact absurd z (by decide)
  · exact Or.inr ⟨rfl, fun u => y ⟨u.1, fun b h1 => u.2 b (by omega)⟩⟩
theorem ts_b {P : Prop} {Q : Nat → Prop} {x : Int32} {i : Nat} (h : (x = 1 ∧ Q i) ∨ (x = 0 ∧ ¬ Q i)) (e : x = 0) : ((0 : Int32) = 1 ∧ P ∧ ∀ b, b < i + 1 → Q b) ∨ ((0 : Int32) = 0 ∧ ¬ (P ∧ ∀ b, b < i + 1 → Q b)) := by
  rcases h with ⟨z, _⟩ | ⟨_, y⟩
  · rw [e] at z; exact absurd z (by decide)
  · exact Or.inr ⟨rfl, fun u => y (u.2 i (by omega))⟩
theorem ts_c {P : Prop} {Q : Nat → Prop} {y x : Int32} {i : Nat} (h : (y = 1 ∧ P ∧ ∀ b, b < i → Q b) ∨ (y = 0 ∧ ¬ (P ∧ ∀ b, b < i → Q b))) (h2 : (x = 1 ∧ Q i) ∨ (x = 0 ∧ ¬ Q i)) (e : ¬ y = 0) (e2 : ¬ x = 0) : ((1 : Int32) = 1 ∧ P ∧ ∀ b, b < i + 1 → Q b) ∨ ((1 : Int32) = 0 ∧ ¬ (P ∧ ∀ b, b < i + 1 → Q b)) := by
  rcases h with ⟨_, p, y⟩ | ⟨z, _⟩
  · rcases h2 with ⟨_, q⟩ | ⟨z, _⟩
    · refine Or.inl ⟨rfl, p, fun b h1 => ?_⟩
      by_cases e9 : b = i
      · rw [e9]; exact q
      · exact y b (by omega)
    · exact absurd z e2
  · exact absurd z e
def pc4 (s : Nat) : Nat := s % 2 + s / 2 % 2 + s / 4 % 2 + s / 8 % 2
theorem pc4_le (s : Nat) : pc4 s ≤ 4 := by unfold pc4; omega
def wyA (T : Nat → Prop) (x : Int32) : Prop := (∃ n s, n ≤ 4 ∧ s < 16 ∧ (pc4 s = n ∧ T s) ∧ x = nI s ∧ (∀ m t, m < n → t < 16 → ¬ (pc4 t = m ∧ T t)) ∧ ∀ t, t < s → ¬ (pc4 t = n ∧ T t)) ∨ (x = -2 ∧ ∀ m t, m ≤ 4 → t < 16 → ¬ (pc4 t = m ∧ T t))
theorem wyA_c {T T' : Nat → Prop} {x : Int32} (e : ∀ s, T s ↔ T' s) (h : wyA T x) : wyA T' x := by
  rcases h with ⟨n, s, a, b, ⟨c1, c2⟩, d, f, g⟩ | ⟨a, b⟩
  · exact Or.inl ⟨n, s, a, b, ⟨c1, (e s).mp c2⟩, d, fun m t h1 h2 h3 => f m t h1 h2 ⟨h3.1, (e t).mpr h3.2⟩, fun t h1 h3 => g t h1 ⟨h3.1, (e t).mpr h3.2⟩⟩
  · exact Or.inr ⟨a, fun m t h1 h2 h3 => b m t h1 h2 ⟨h3.1, (e t).mpr h3.2⟩⟩
theorem wyA_eq {T : Nat → Prop} {x y : Int32} (hx : wyA T x) (hy : wyA T y) : x = y := by
  rcases hx with ⟨n, s, a, b, c, d, f, g⟩ | ⟨a, b⟩ <;> rcases hy with ⟨n', s', a', b', c', d', f', g'⟩ | ⟨a', b'⟩
  · have en : n = n' := by
      rcases Nat.lt_trichotomy n n' with z | z | z
      · exact absurd c (f' n s z b)
      · exact z
      · exact absurd c' (f n' s' z b')
    subst en
    have es : s = s' := by
      rcases Nat.lt_trichotomy s s' with z | z | z
      · exact absurd c (g' s z)
      · exact z
      · exact absurd c' (g s' z)
    rw [d, d', es]
  · exact absurd c (b' n s a b)
  · exact absurd c' (b n' s' a' b')
  · rw [a, a']
def bc16 (i : Int32) : Int32 :=
  let a := i - ((i.toUInt32 >>> ((1 : Int32).toUInt32 &&& Int32.toUInt32 31)).toInt32 &&& 1431655765)
  let b := (a &&& 858993459) + ((a.toUInt32 >>> ((2 : Int32).toUInt32 &&& Int32.toUInt32 31)).toInt32 &&& 858993459)
  let d := (b + (b.toUInt32 >>> ((4 : Int32).toUInt32 &&& Int32.toUInt32 31)).toInt32) &&& 252645135
  let f := d + (d.toUInt32 >>> ((8 : Int32).toUInt32 &&& Int32.toUInt32 31)).toInt32
  (f + (f.toUInt32 >>> ((16 : Int32).toUInt32 &&& Int32.toUInt32 31)).toInt32) &&& 63
theorem bc16_0 : ∀ s, s < 16 → bc16 (nI s) = nI (pc4 s) := by decide +kernel
theorem bc16_1 {i : Int32} (h : 0 ≤ i.toInt ∧ i.toInt < 16) : bc16 i = nI (pc4 i.toNatClampNeg) := by
  have e := cl_nI (w := i) h.1
  have c := m_cl (x := i) h.1
  have z := bc16_0 i.toNatClampNeg (by omega)
  rw [e] at z
  exact z
theorem pc4_lb : ∀ s, s < 16 → bs (lb (nI s).toInt64) 36 = pc4 s := by decide +kernel
theorem rn_ones (p : Int64) : ∀ n, n ≤ 36 → r_ones p n = nI (bs (lb p) n) := by
  intro n
  induction n with
  | zero => intro _; rfl
  | succ n ih =>
    intro hn
    simp only [r_ones, bs]
    rw [ih (by omega), one_lb p (by omega)]
    cases lb p n
    · exact nI_add _ 0
    · exact nI_1 _
set_option maxHeartbeats 4000000 in
set_option maxRecDepth 100000 in
theorem c_J6_x (l : Launch) (p0 : Int32) (h0 : 0 ≤ p0.toInt ∧ p0.toInt < 16) : Pu l yJ6_bitCount_0f7a4 wsJ6_bitCount_0f7a4 ({ frames := 0, cells := 0, slots := 0, locals := 0 }) [.int p0] (fun r => r = nI (pc4 p0.toNatClampNeg)) := by
  refine Met.ofW (cc := cJ6_bitCount_0f7a4) (maxL := 1) (ret := (some .int)) (by decide) rfl ?_
  intro p e s m args below meth c s₁ B hml hv
  obtain ⟨rfl, -⟩ := hv
  have hx := B.exec
  have hb := B.bytes
  have hr := B.returns
  have hts := atoms_spec (ws := wsJ6_bitCount_0f7a4) B.pre
  have hown : s.vm.findClass RJ6 = some m.cls := findClass_of_methodNamed B.named
  have hlocks := B.notSynchronized
  have hS : va_S (fun _ => False) s.heap s.heap [] := va_S.rf
  have hl := lv_entry ([.int p0]) (n := 1) (Nat.le_of_ble_eq_true rfl)
  rw [lg_entry_eq]
  generalize (lg_sl ([.int p0]) ++ List.replicate (1 - (lg_sl ([.int p0])).length) Slot.unset).toArray = ls at hl ⊢
  have hl : lv_has ls 1 [(0, .int p0)] := hl
  have hS0 := hS
  have k_0 : (0 : Int32).toInt = 0 := by decide
  have k_1 : (1 : Int32).toInt = 1 := by decide
  have k_2 : (2 : Int32).toInt = 2 := by decide
  have k_4 : (4 : Int32).toInt = 4 := by decide
  have k_8 : (8 : Int32).toInt = 8 := by decide
  have k_16 : (16 : Int32).toInt = 16 := by decide
  have k_63 : (63 : Int32).toInt = 63 := by decide
  have k_252645135 : (252645135 : Int32).toInt = 252645135 := by decide
  have k_858993459 : (858993459 : Int32).toInt = 858993459 := by decide
  have k_1431655765 : (1431655765 : Int32).toInt = 1431655765 := by decide
  refine lv_iload_n hx hb dJ6_bitCount_0f7a4_0 rfl (lv_at hl 0 rfl) ?_
  refine lv_iload_n hx hb dJ6_bitCount_0f7a4_1 rfl (lv_at hl 0 rfl) ?_
  refine lv_iconst (v := 1) hx hb dJ6_bitCount_0f7a4_2 (by decide) ?_
  refine lv_iushr (v := (p0.toUInt32 >>> ((1 : Int32).toUInt32 &&& Int32.toUInt32 31)).toInt32) hx hb dJ6_bitCount_0f7a4_3 rfl ?_
  refine lv_ldcw hx hb hown (hts (.constant RJ6 265 (1431655765)) (by decide +kernel)) dJ6_bitCount_0f7a4_4 ?_
  refine lv_iand hx hb dJ6_bitCount_0f7a4_7 ?_
  refine lv_topi (fun v7 e7 => ?_)
  refine lv_isub hx hb dJ6_bitCount_0f7a4_8 ?_
  refine lv_topi (fun v8 e8 => ?_)
  refine lv_istore_n (lv' := [(0, .int v8)]) hx hb dJ6_bitCount_0f7a4_9 rfl hl (by decide) rfl (fun ls hl => ?_)
  refine lv_iload_n hx hb dJ6_bitCount_0f7a4_10 rfl (lv_at hl 0 rfl) ?_
  refine lv_ldcw hx hb hown (hts (.constant RJ6 266 (858993459)) (by decide +kernel)) dJ6_bitCount_0f7a4_11 ?_
  refine lv_iand hx hb dJ6_bitCount_0f7a4_14 ?_
  refine lv_topi (fun v14 e14 => ?_)
  refine lv_iload_n hx hb dJ6_bitCount_0f7a4_15 rfl (lv_at hl 0 rfl) ?_
  refine lv_iconst (v := 2) hx hb dJ6_bitCount_0f7a4_16 (by decide) ?_
  refine lv_iushr (v := (v8.toUInt32 >>> ((2 : Int32).toUInt32 &&& Int32.toUInt32 31)).toInt32) hx hb dJ6_bitCount_0f7a4_17 rfl ?_
  refine lv_ldcw hx hb hown (hts (.constant RJ6 266 (858993459)) (by decide +kernel)) dJ6_bitCount_0f7a4_18 ?_
  refine lv_iand hx hb dJ6_bitCount_0f7a4_21 ?_
  refine lv_topi (fun v21 e21 => ?_)
  refine lv_iadd hx hb dJ6_bitCount_0f7a4_22 ?_
  refine lv_topi (fun v22 e22 => ?_)
  refine lv_istore_n (lv' := [(0, .int v22)]) hx hb dJ6_bitCount_0f7a4_23 rfl hl (by decide) rfl (fun ls hl => ?_)
  refine lv_iload_n hx hb dJ6_bitCount_0f7a4_24 rfl (lv_at hl 0 rfl) ?_
  refine lv_iload_n hx hb dJ6_bitCount_0f7a4_25 rfl (lv_at hl 0 rfl) ?_
  refine lv_iconst (v := 4) hx hb dJ6_bitCount_0f7a4_26 (by decide) ?_
  refine lv_iushr (v := (v22.toUInt32 >>> ((4 : Int32).toUInt32 &&& Int32.toUInt32 31)).toInt32) hx hb dJ6_bitCount_0f7a4_27 rfl ?_
  refine lv_iadd hx hb dJ6_bitCount_0f7a4_28 ?_
  refine lv_topi (fun v28 e28 => ?_)
  refine lv_ldcw hx hb hown (hts (.constant RJ6 267 (252645135)) (by decide +kernel)) dJ6_bitCount_0f7a4_29 ?_
  refine lv_iand hx hb dJ6_bitCount_0f7a4_32 ?_
  refine lv_topi (fun v32 e32 => ?_)
  refine lv_istore_n (lv' := [(0, .int v32)]) hx hb dJ6_bitCount_0f7a4_33 rfl hl (by decide) rfl (fun ls hl => ?_)
  refine lv_iload_n hx hb dJ6_bitCount_0f7a4_34 rfl (lv_at hl 0 rfl) ?_
  refine lv_iload_n hx hb dJ6_bitCount_0f7a4_35 rfl (lv_at hl 0 rfl) ?_
  refine lv_bipush (v := 8) hx hb dJ6_bitCount_0f7a4_36 (by decide) ?_
  refine lv_iushr (v := (v32.toUInt32 >>> ((8 : Int32).toUInt32 &&& Int32.toUInt32 31)).toInt32) hx hb dJ6_bitCount_0f7a4_38 rfl ?_
  refine lv_iadd hx hb dJ6_bitCount_0f7a4_39 ?_
  refine lv_topi (fun v39 e39 => ?_)
  refine lv_istore_n (lv' := [(0, .int v39)]) hx hb dJ6_bitCount_0f7a4_40 rfl hl (by decide) rfl (fun ls hl => ?_)
  refine lv_iload_n hx hb dJ6_bitCount_0f7a4_41 rfl (lv_at hl 0 rfl) ?_
  refine lv_iload_n hx hb dJ6_bitCount_0f7a4_42 rfl (lv_at hl 0 rfl) ?_
  refine lv_bipush (v := 16) hx hb dJ6_bitCount_0f7a4_43 (by decide) ?_
  refine lv_iushr (v := (v39.toUInt32 >>> ((16 : Int32).toUInt32 &&& Int32.toUInt32 31)).toInt32) hx hb dJ6_bitCount_0f7a4_45 rfl ?_
  refine lv_iadd hx hb dJ6_bitCount_0f7a4_46 ?_
  refine lv_topi (fun v46 e46 => ?_)
  refine lv_istore_n (lv' := [(0, .int v46)]) hx hb dJ6_bitCount_0f7a4_47 rfl hl (by decide) rfl (fun ls hl => ?_)
  refine lv_iload_n hx hb dJ6_bitCount_0f7a4_48 rfl (lv_at hl 0 rfl) ?_
  refine lv_bipush (v := 63) hx hb dJ6_bitCount_0f7a4_49 (by decide) ?_
  refine lv_iand hx hb dJ6_bitCount_0f7a4_51 ?_
  refine lv_topi (fun v51 e51 => ?_)
  exact W.iret (v := v51) hx hb hr (fun t ht hW => ⟨⟨_, (), rfl, (by subst e51 e46 e39 e32 e28 e22 e21 e14 e8 e7; exact bc16_1 h0), trivial⟩, hS.F ht⟩) hS.2.2 dJ6_bitCount_0f7a4_52
set_option maxHeartbeats 4000000 in
set_option maxRecDepth 100000 in
theorem c_X9_isOtherThanListed_x (l : Launch) (D : va_G) (cy : Nat → ClassId) (A : Nat → Prop) (G : cG) (ws : va_W) (o : Nat) (wide : Int32) (high : Int32) {bs_o js_o sh_o wk_o ll_o : Nat} {jc_o lc_o : Int32} {mo_o lb_o : Option Nat} {fl : Nat → Int64} {lw lh : Nat} (hD : va_D A ws) (hT : cT cy G ws) (hG_o : G o = some (7, 0, 0)) (hM_o : cIn ws o (.inr (8, [.ref bs_o, .ref js_o, .int jc_o, .ref sh_o, .ref wk_o, va_rf mo_o, .ref ll_o, .int lc_o, va_rf lb_o]))) (hM_ll_o : cIn ws ll_o (.inl (cy 1, 12, .inr (.inl fl)))) (hlb9 : lsB G lb_o lc_o lw lh) : Ci l D cy A yX9_isOtherThanListed wsX9_isOtherThanListed ({ frames := 0, cells := 0, slots := 0, locals := 0 }) 0 0 ws [.ref o, .int wide, .int high] (fun r0 u => u = (G, ws) ∧ (Bo r0 (lsO lc_o lw lh wide high))) := by
  refine Met.ofW (cc := cX9_isOtherThanListed) (maxL := 3) (ret := (some .boolean)) (by decide) rfl ?_
  intro p e s m args below meth c s₁ B hml hv
  obtain ⟨rfl, hP, hK, hA, hV⟩ := hv
  have hx := B.exec
  have hb := B.bytes
  have hr := B.returns
  have hts := atoms_spec (ws := wsX9_isOtherThanListed) B.pre
  have hown : s.vm.findClass RX9 = some m.cls := findClass_of_methodNamed B.named
  have hlocks := B.notSynchronized
  have hS : va_S A s.heap s.heap [] := va_S.rf
  have hl := lv_entry ([.ref o, .int wide, .int high]) (n := 3) (Nat.le_of_ble_eq_true rfl)
  rw [lg_entry_eq]
  generalize (lg_sl ([.ref o, .int wide, .int high]) ++ List.replicate (3 - (lg_sl ([.ref o, .int wide, .int high])).length) Slot.unset).toArray = ls at hl ⊢
  have hl : lv_has ls 3 [(0, .ref o), (1, .int wide), (2, .int high)] := hl
  have k_0 : (0 : Int32).toInt = 0 := by decide
  have k_1 : (1 : Int32).toInt = 1 := by decide
  obtain ⟨hjc_o, hlc_o, hG_bs_o, hG_js_o, hG_sh_o, hG_wk_o, hmo_o, hG_ll_o, hlb_o⟩ := w7sh hD hT hG_o hM_o
  refine lv_aload_n hx hb dX9_isOtherThanListed_0 rfl (lv_at hl 0 rfl) ?_
  have hoq : lb_o = none ∨ ∃ x, lb_o = some x := by cases lb_o; exact Or.inl rfl; exact Or.inr ⟨_, rfl⟩
  rcases hoq with hopt | ⟨x1, hopt⟩
  · skip
    rw [hopt] at hM_o
    have hM_o : cIn ws o (.inr (8, [.ref bs_o, .ref js_o, .int jc_o, .ref sh_o, .ref wk_o, va_rf mo_o, .ref ll_o, .int lc_o, .null])) := hM_o
    have hl0 := hlb9.nil hopt
    refine t_get (v := .null) (C := RX9) (T := TX9) (N := 9) hx hb hts (by decide +kernel) hown hK hP hM_o rfl 8 (by decide) (hts (.fieldLink RX9 49 "ShadowBench" "listBoard" "LShadowBench$Board;") (by decide +kernel)) (fun _ h9 => h9) rfl dX9_isOtherThanListed_1 ?_
    refine lv_ifnullN (tgt := 33) hx hb dX9_isOtherThanListed_4 (by decide) ?_
    refine lv_iconst (v := 0) hx hb dX9_isOtherThanListed_33 (by decide) ?_
    exact W.zret (v := (0 : Int32)) hx hb hr (by decide) (fun t ht hW => ⟨⟨_, (G, ws), rfl, ⟨rfl, Or.inr ⟨rfl, (by unfold lsO; omega)⟩⟩, by show va_P D vwCl ws t.heap; rw [ht]; exact hP, hD, hT⟩, hS.F ht⟩) hS.2.2 dX9_isOtherThanListed_34
  · skip
    obtain ⟨wx1, hx1, hG_x1⟩ := hlb_o x1 hopt
    rw [hopt] at hM_o
    have hM_o : cIn ws o (.inr (8, [.ref bs_o, .ref js_o, .int jc_o, .ref sh_o, .ref wk_o, va_rf mo_o, .ref ll_o, .int lc_o, .ref x1])) := hM_o
    have hl1 := hlb9.one hopt hG_x1
    refine t_get (v := .ref x1) (C := RX9) (T := TX9) (N := 9) hx hb hts (by decide +kernel) hown hK hP hM_o rfl 8 (by decide) (hts (.fieldLink RX9 49 "ShadowBench" "listBoard" "LShadowBench$Board;") (by decide +kernel)) (fun _ h9 => h9) rfl dX9_isOtherThanListed_1 ?_
    refine lv_ifnull hx hb dX9_isOtherThanListed_4 ?_
    refine lv_aload_n hx hb dX9_isOtherThanListed_7 rfl (lv_at hl 0 rfl) ?_
    refine t_get (v := .ref x1) (C := RX9) (T := TX9) (N := 9) hx hb hts (by decide +kernel) hown hK hP hM_o rfl 8 (by decide) (hts (.fieldLink RX9 49 "ShadowBench" "listBoard" "LShadowBench$Board;") (by decide +kernel)) (fun _ h9 => h9) rfl dX9_isOtherThanListed_8 ?_
    obtain ⟨_, hM_x1, hb_x1, l_x1, f_x1, r_x1, rfl, hG_l_x1, hG_f_x1, hG_r_x1⟩ := hT _ _ hG_x1
    refine t_get (v := .int (nI wx1)) (C := RX0) (T := TX0) (N := 8) hx hb hts (by decide +kernel) hown hK hP hM_x1 rfl 0 (by decide) (hts (.fieldLink RX9 156 "ShadowBench$Board" "wide" "I") (by decide +kernel)) (fun _ h9 => h9) rfl dX9_isOtherThanListed_11 ?_
    have i_w_x1 : (nI wx1).toInt = _ := nI_toInt (by omega)
    refine lv_iload_n hx hb dX9_isOtherThanListed_14 rfl (lv_at hl 1 rfl) ?_
    refine lv_icmp_ne (tgt := 29) hx hb dX9_isOtherThanListed_15 (by decide) (fun c15 => ?_) (fun c15 => ?_)
    · skip
      have d15 := c15
      rw [fa_eq] at d15
      refine lv_iconst (v := 1) hx hb dX9_isOtherThanListed_29 (by decide) ?_
      refine lv_goto (tgt := 34) hx hb dX9_isOtherThanListed_30 (by decide) ?_
      exact W.zret (v := (1 : Int32)) hx hb hr (by decide) (fun t ht hW => ⟨⟨_, (G, ws), rfl, ⟨rfl, Or.inl ⟨rfl, (by unfold lsO; omega)⟩⟩, by show va_P D vwCl ws t.heap; rw [ht]; exact hP, hD, hT⟩, hS.F ht⟩) hS.2.2 dX9_isOtherThanListed_34
    · skip
      have d15 := c15
      rw [fa_eq] at d15
      refine lv_aload_n hx hb dX9_isOtherThanListed_18 rfl (lv_at hl 0 rfl) ?_
      refine t_get (v := .ref x1) (C := RX9) (T := TX9) (N := 9) hx hb hts (by decide +kernel) hown hK hP hM_o rfl 8 (by decide) (hts (.fieldLink RX9 49 "ShadowBench" "listBoard" "LShadowBench$Board;") (by decide +kernel)) (fun _ h9 => h9) rfl dX9_isOtherThanListed_19 ?_
      refine t_get (v := .int (nI hx1)) (C := RX0) (T := TX0) (N := 8) hx hb hts (by decide +kernel) hown hK hP hM_x1 rfl 1 (by decide) (hts (.fieldLink RX9 306 "ShadowBench$Board" "high" "I") (by decide +kernel)) (fun _ h9 => h9) rfl dX9_isOtherThanListed_22 ?_
      have i_h_x1 : (nI hx1).toInt = _ := nI_toInt (by omega)
      refine lv_iload_n hx hb dX9_isOtherThanListed_25 rfl (lv_at hl 2 rfl) ?_
      refine lv_icmp_eq (tgt := 33) hx hb dX9_isOtherThanListed_26 (by decide) (fun c26 => ?_) (fun c26 => ?_)
      · skip
        have d26 := c26
        rw [fa_eq] at d26
        refine lv_iconst (v := 0) hx hb dX9_isOtherThanListed_33 (by decide) ?_
        exact W.zret (v := (0 : Int32)) hx hb hr (by decide) (fun t ht hW => ⟨⟨_, (G, ws), rfl, ⟨rfl, Or.inr ⟨rfl, (by unfold lsO; omega)⟩⟩, by show va_P D vwCl ws t.heap; rw [ht]; exact hP, hD, hT⟩, hS.F ht⟩) hS.2.2 dX9_isOtherThanListed_34
      · skip
        have d26 := c26
        rw [fa_eq] at d26
        refine lv_iconst (v := 1) hx hb dX9_isOtherThanListed_29 (by decide) ?_
        refine lv_goto (tgt := 34) hx hb dX9_isOtherThanListed_30 (by decide) ?_
        exact W.zret (v := (1 : Int32)) hx hb hr (by decide) (fun t ht hW => ⟨⟨_, (G, ws), rfl, ⟨rfl, Or.inl ⟨rfl, (by unfold lsO; omega)⟩⟩, by show va_P D vwCl ws t.heap; rw [ht]; exact hP, hD, hT⟩, hS.F ht⟩) hS.2.2 dX9_isOtherThanListed_34
set_option maxHeartbeats 4000000 in
set_option maxRecDepth 100000 in
theorem c_X9_isListed_x (l : Launch) (D : va_G) (cy : Nat → ClassId) (A : Nat → Prop) (G : cG) (ws : va_W) (o : Nat) (p0 : Int64) {bs_o js_o sh_o wk_o ll_o : Nat} {jc_o lc_o : Int32} {mo_o lb_o : Option Nat} {fl : Nat → Int64} (hD : va_D A ws) (hT : cT cy G ws) (hG_o : G o = some (7, 0, 0)) (hM_o : cIn ws o (.inr (8, [.ref bs_o, .ref js_o, .int jc_o, .ref sh_o, .ref wk_o, va_rf mo_o, .ref ll_o, .int lc_o, va_rf lb_o]))) (hM_ll_o : cIn ws ll_o (.inl (cy 1, 12, .inr (.inl fl))))  : Ci l D cy A yX9_isListed wsX9_isListed ({ frames := 0, cells := 0, slots := 0, locals := 0 }) 0 0 ws [.ref o, .long p0] (fun r0 u => u = (G, ws) ∧ (Bo r0 (lsI fl lc_o p0))) := by
  refine Met.ofW (cc := cX9_isListed) (maxL := 4) (ret := (some .boolean)) (by decide) rfl ?_
  intro p e s m args below meth c s₁ B hml hv
  obtain ⟨rfl, hP, hK, hA, hV⟩ := hv
  have hx := B.exec
  have hb := B.bytes
  have hr := B.returns
  have hts := atoms_spec (ws := wsX9_isListed) B.pre
  have hown : s.vm.findClass RX9 = some m.cls := findClass_of_methodNamed B.named
  have hlocks := B.notSynchronized
  have hS : va_S A s.heap s.heap [] := va_S.rf
  have hl := lv_entry ([.ref o, .long p0]) (n := 4) (Nat.le_of_ble_eq_true rfl)
  rw [lg_entry_eq]
  generalize (lg_sl ([.ref o, .long p0]) ++ List.replicate (4 - (lg_sl ([.ref o, .long p0])).length) Slot.unset).toArray = ls at hl ⊢
  have hl : lv_has ls 4 [(0, .ref o), (1, .long p0)] := hl
  have k_0 : (0 : Int32).toInt = 0 := by decide
  have k_1 : (1 : Int32).toInt = 1 := by decide
  have k_12 : (12 : Int32).toInt = 12 := by decide
  obtain ⟨hjc_o, hlc_o, hG_bs_o, hG_js_o, hG_sh_o, hG_wk_o, hmo_o, hG_ll_o, hlb_o⟩ := w7sh hD hT hG_o hM_o
  refine lv_iconst (v := 0) hx hb dX9_isListed_0 (by decide) ?_
  refine lv_istore_n (lv' := [(3, .int (0 : Int32)), (0, .ref o), (1, .long p0)]) hx hb dX9_isListed_1 rfl hl (by decide) rfl (fun ls hl => ?_)
  have loop_2 : ∀ (n : Nat) (i : Nat), (i ≤ 12) → (∀ k, k < i → ¬ fl k = p0) → 12 - i < n → ∀ (H : Heap) (locs : List Loc), va_P D vwCl ws H → va_S A s.heap H locs → ∀ (ls : Array Slot), lv_has ls 4 [(3, .int (nI i)), (0, .ref o), (1, .long p0)] → W p l e (headSpec wsX9_isListed ({ frames := 0, cells := 0, slots := 0, locals := 0 })).room s m #[Value.ref o, Value.long p0] below meth c H locs 0 0 (MQ below (va_Qi (fun r0 u => u = (G, ws) ∧ (Bo r0 (lsI fl lc_o p0))) (cB D cy A) A) #[Value.ref o, Value.long p0] s 0 0 A) (F0 m 2 ls []) := by
    intro n
    induction n with
    | zero => intro i j2_0 j2_1 hn; exact absurd hn (Nat.not_lt_zero _)
    | succ n ih_2 =>
      intro i j2_0 j2_1 hn_2 H locs hP hS  ls hl
      have ii : (nI i).toInt = (i : Int) := nI_toInt (by omega)
      refine lv_iload_n hx hb dX9_isListed_2 rfl (lv_at hl 0 rfl) ?_
      refine lv_aload_n hx hb dX9_isListed_3 rfl (lv_at hl 1 rfl) ?_
      refine t_get (v := .int lc_o) (C := RX9) (T := TX9) (N := 9) hx hb hts (by decide +kernel) hown hK hP hM_o rfl 7 (by decide) (hts (.fieldLink RX9 46 "ShadowBench" "listCount" "I") (by decide +kernel)) (fun _ h9 => h9) rfl dX9_isListed_4 ?_
      refine lv_icmp_ge (tgt := 35) hx hb dX9_isListed_7 (by decide) (fun c7 => ?_) (fun c7 => ?_)
      · skip
        have d7 := c7
        rw [fa_le] at d7
        refine lv_iconst (v := 0) hx hb dX9_isListed_35 (by decide) ?_
        exact W.zret (v := (0 : Int32)) hx hb hr (by decide) (fun t ht hW => ⟨⟨_, (G, ws), rfl, ⟨rfl, Or.inr ⟨rfl, (fun ⟨k9, h9, z9⟩ => j2_1 k9 (by omega) z9)⟩⟩, by show va_P D vwCl ws t.heap; rw [ht]; exact hP, hD, hT⟩, hS.F ht⟩) hS.2.2 dX9_isListed_36
      · skip
        have d7 := c7
        rw [fa_le] at d7
        refine lv_iload_n hx hb dX9_isListed_10 rfl (lv_at hl 0 rfl) ?_
        refine lv_bipush (v := 12) hx hb dX9_isListed_11 (by decide) ?_
        refine lv_icmp_ge (tgt := 35) hx hb dX9_isListed_13 (by decide) (fun c13 => ?_) (fun c13 => ?_)
        · skip
          have d13 := c13
          rw [fa_le] at d13
          refine lv_iconst (v := 0) hx hb dX9_isListed_35 (by decide) ?_
          exact W.zret (v := (0 : Int32)) hx hb hr (by decide) (fun t ht hW => ⟨⟨_, (G, ws), rfl, ⟨rfl, Or.inr ⟨rfl, (fun ⟨k9, h9, z9⟩ => j2_1 k9 (by omega) z9)⟩⟩, by show va_P D vwCl ws t.heap; rw [ht]; exact hP, hD, hT⟩, hS.F ht⟩) hS.2.2 dX9_isListed_36
        · skip
          have d13 := c13
          rw [fa_le] at d13
          refine lv_aload_n hx hb dX9_isListed_16 rfl (lv_at hl 1 rfl) ?_
          refine t_get (v := .ref ll_o) (C := RX9) (T := TX9) (N := 9) hx hb hts (by decide +kernel) hown hK hP hM_o rfl 6 (by decide) (hts (.fieldLink RX9 42 "ShadowBench" "listed" "[J") (by decide +kernel)) (fun _ h9 => h9) rfl dX9_isListed_17 ?_
          refine lv_iload_n hx hb dX9_isListed_20 rfl (lv_at hl 0 rfl) ?_
          refine t_laldM hx hb hK hP hM_ll_o (vp_in_iff.mpr ⟨by omega, by omega⟩) dX9_isListed_21 ?_
          refine lv_topl (fun v21 e21 => ?_)
          have f21 : v21 = fl i := by rw [e21, nI_clamp (by omega)]
          refine lv_lload_n hx hb dX9_isListed_22 rfl (lv_at hl 2 rfl) ?_
          refine W.lcmp hx hb dX9_isListed_23 ?_
          refine lv_if_ne (tgt := 29) hx hb dX9_isListed_24 (by decide) (fun c24 => ?_) (fun c24 => ?_)
          · skip
            have d24 := c24
            rw [lg_cmp_eq, fa_eq64] at d24
            refine lv_iinc (v := (nI (i + 1))) (lv' := [(3, .int (nI (i + 1))), (0, .ref o), (1, .long p0)]) hx hb dX9_isListed_29 hl (k := 0) rfl (nI_1 _) (by decide) rfl (fun ls hl => ?_)
            refine lv_goto (tgt := 2) hx hb dX9_isListed_32 (by decide) ?_
            exact ih_2 (i + 1) (by omega) (fun k hk => by
            by_cases e9 : k = i
            · rw [e9]; exact fun z9 => c24 ((lg_cmp_eq _ _).mpr (f21.trans z9))
            · exact j2_1 k (by omega)) (by omega) _ _ hP hS  ls (lv_sub hl [0, 1, 2] rfl)
          · skip
            have d24 := c24
            rw [lg_cmp_eq, fa_eq64] at d24
            refine lv_iconst (v := 1) hx hb dX9_isListed_27 (by decide) ?_
            exact W.zret (v := (1 : Int32)) hx hb hr (by decide) (fun t ht hW => ⟨⟨_, (G, ws), rfl, ⟨rfl, Or.inl ⟨rfl, ⟨i, (by omega), f21.symm.trans ((lg_cmp_eq _ _).mp c24)⟩⟩⟩, by show va_P D vwCl ws t.heap; rw [ht]; exact hP, hD, hT⟩, hS.F ht⟩) hS.2.2 dX9_isListed_28
  exact loop_2 (12 + 1) 0 (by omega) (fun k hk => absurd hk (Nat.not_lt_zero _)) (by omega) _ _ hP hS  ls (lv_sub hl [0, 1, 2] rfl)
set_option maxHeartbeats 4000000 in
set_option maxRecDepth 100000 in
theorem c_X9_list_x (l : Launch) (D : va_G) (cy : Nat → ClassId) (A : Nat → Prop) (G : cG) (ws : va_W) (o : Nat) (wide : Int32) (high : Int32) (p0 : Int64) {bs_o js_o sh_o wk_o ll_o : Nat} {jc_o lc_o : Int32} {mo_o lb_o : Option Nat} {fl : Nat → Int64} {lw lh : Nat} (hD : va_D A ws) (hT : cT cy G ws) (hG_o : G o = some (7, 0, 0)) (hM_o : cIn ws o (.inr (8, [.ref bs_o, .ref js_o, .int jc_o, .ref sh_o, .ref wk_o, va_rf mo_o, .ref ll_o, .int lc_o, va_rf lb_o]))) (hM_ll_o : cIn ws ll_o (.inl (cy 1, 12, .inr (.inl fl)))) (hlb9 : lsB G lb_o lc_o lw lh) : Ci l D cy A yX9_list wsX9_list ({ frames := 5, cells := 4, slots := 502, locals := 116 }) 4 502 ws [.ref o, .int wide, .int high, .long p0] (fun r0 u => cX none (chs [1, 7, 8, 17]) G ws u.1 u.2 ∧ (lsA fl lc_o lw lh wide high p0 r0 ∧ ∃ lc lb fl1, cIn u.2 o (.inr (8, [.ref bs_o, .ref js_o, .int jc_o, .ref sh_o, .ref wk_o, va_rf mo_o, .ref ll_o, .int lc, va_rf lb])) ∧ cIn u.2 ll_o (.inl (cy 1, 12, .inr (.inl fl1))) ∧ ((lsG fl lc_o lw lh wide high p0 ∧ lc.toInt = lc_o.toInt + 1 ∧ fl1 = vp_updL fl lc_o.toNatClampNeg p0 ∧ ∃ b, lb = some b ∧ u.1 b = some (2, wide.toNatClampNeg, high.toNatClampNeg)) ∨ (¬ lsG fl lc_o lw lh wide high p0 ∧ lc = lc_o ∧ lb = lb_o ∧ fl1 = fl)))) := by
  refine Met.ofW (cc := cX9_list) (maxL := 6) (ret := (some .int)) (by decide) rfl ?_
  intro p e s m args below meth c s₁ B hml hv
  obtain ⟨rfl, hP, hK, hA, hV⟩ := hv
  have hx := B.exec
  have hb := B.bytes
  have hr := B.returns
  have hts := atoms_spec (ws := wsX9_list) B.pre
  have hown : s.vm.findClass RX9 = some m.cls := findClass_of_methodNamed B.named
  have hlocks := B.notSynchronized
  have hS : va_S A s.heap s.heap [] := va_S.rf
  have hX : cX none (chs [1, 7, 8, 17]) G ws G ws := cX.rf
  have hl := lv_entry ([.ref o, .int wide, .int high, .long p0]) (n := 6) (Nat.le_of_ble_eq_true rfl)
  rw [lg_entry_eq]
  generalize (lg_sl ([.ref o, .int wide, .int high, .long p0]) ++ List.replicate (6 - (lg_sl ([.ref o, .int wide, .int high, .long p0])).length) Slot.unset).toArray = ls at hl ⊢
  have hl : lv_has ls 6 [(0, .ref o), (1, .int wide), (2, .int high), (3, .long p0)] := hl
  have k_m3 : (-3 : Int32).toInt = -3 := by decide
  have k_m2 : (-2 : Int32).toInt = -2 := by decide
  have k_m1 : (-1 : Int32).toInt = -1 := by decide
  have k_0 : (0 : Int32).toInt = 0 := by decide
  have k_1 : (1 : Int32).toInt = 1 := by decide
  have k_12 : (12 : Int32).toInt = 12 := by decide
  obtain ⟨hjc_o, hlc_o, hG_bs_o, hG_js_o, hG_sh_o, hG_wk_o, hmo_o, hG_ll_o, hlb_o⟩ := w7sh hD hT hG_o hM_o
  refine lv_aload_n hx hb dX9_list_0 rfl (lv_at hl 0 rfl) ?_
  refine lv_iload_n hx hb dX9_list_1 rfl (lv_at hl 1 rfl) ?_
  refine lv_iload_n hx hb dX9_list_2 rfl (lv_at hl 2 rfl) ?_
  refine t_calla (va_runV (g := F0 m 3 ls ([.int high, .int wide, .ref o])) (As := [.int wide, .int high]) (rest := []) ⟨hx, hb, hml, hown, hts⟩ (c_X9_boardOf_x l D cy A G ws o wide high hD hT hG_o ) (cwV 2 hts gX9_list_X9_boardOf rfl rfl rfl (by decide +kernel) ⟨Nat.le_of_ble_eq_true rfl, Nat.le_of_ble_eq_true rfl⟩) (c_preV hM_o rfl hP hK hA hS hV) rfl rfl hl.1 rfl (lv_room (Nat.le_of_ble_eq_true rfl)) dX9_list_3 ⟨Nat.le_of_ble_eq_true rfl, Nat.le_of_ble_eq_true rfl⟩) hS (fun r3 u H locs q3 hP9 hD9 hT9 hS => ?_)
  obtain ⟨G3, w3⟩ := u
  obtain ⟨hX9, q3⟩ := q3
  have hX9 : cX none (chs [1, 8]) G ws G3 w3 := hX9
  have hP : va_P D vwCl w3 H := hP9
  have hD : va_D A w3 := hD9
  have hT : cT cy G3 w3 := hT9
  have hM_o := hX9.2.1 _ _ (cP.no hG_o rfl) hM_o
  have hM_ll_o := hX9.2.1 _ _ (cP.no hG_ll_o rfl) hM_ll_o
  have hG_o := hX9.1 _ _ hG_o
  have hG_bs_o := hX9.1 _ _ hG_bs_o
  have hG_js_o := hX9.1 _ _ hG_js_o
  have hG_sh_o := hX9.1 _ _ hG_sh_o
  have hG_wk_o := hX9.1 _ _ hG_wk_o
  have hG_ll_o := hX9.1 _ _ hG_ll_o
  have hmo_o := fun x9 z9 => hX9.1 _ _ (hmo_o x9 z9)
  have hlb_o : ∀ x9, lb_o = some x9 → ∃ w9 h9, _ = some (2, w9, h9) := fun x9 z9 => (hlb_o x9 z9).elim fun w9 z9 => z9.elim fun h9 z9 => ⟨w9, h9, hX9.1 _ _ z9⟩
  have hX := hX.tr (hX9.wk (chs_sub (by decide)))
  rcases r3 with _ | x3
  · skip
    have vn3 := q3.2.1 rfl
    refine lv_astoreN (lv' := [(5, .null), (0, .ref o), (1, .int wide), (2, .int high), (3, .long p0)]) hx hb dX9_list_6 hl (by decide) rfl (fun ls hl => ?_)
    refine lv_aloadN hx hb dX9_list_8 (lv_at hl 0 rfl) ?_
    refine lv_ifnullN (tgt := 22) hx hb dX9_list_10 (by decide) ?_
    refine lv_iconst (v := (-1)) hx hb dX9_list_22 (by decide) ?_
    refine W.widen (k := 4) (n := 502) (Nat.le_of_ble_eq_true rfl) (Nat.le_of_ble_eq_true rfl) ?_
    exact W.iret (v := ((-1) : Int32)) hx hb hr (fun t ht hW => ⟨⟨_, (G3, w3), rfl, ⟨hX, ⟨lsA_1 (fun z9 => by first | exact vn3 z9.1 | exact b19 z9.2), _, lb_o, _, hM_o, hM_ll_o, Or.inr ⟨lsG_1 (fun z9 => by first | exact vn3 z9.1 | exact b19 z9.2), rfl, rfl, rfl⟩⟩⟩, by show va_P D vwCl w3 t.heap; rw [ht]; exact hP, hD, hT⟩, hS.F ht⟩) hS.2.2 dX9_list_23
  · skip
    have hG_x3 := q3.1 x3 rfl
    have vb3 := q3.2.2 x3 rfl
    refine lv_astore (lv' := [(5, .ref x3), (0, .ref o), (1, .int wide), (2, .int high), (3, .long p0)]) hx hb dX9_list_6 hl (by decide) rfl (fun ls hl => ?_)
    refine lv_aload hx hb dX9_list_8 (lv_at hl 0 rfl) ?_
    refine lv_ifnull hx hb dX9_list_10 ?_
    refine lv_aload hx hb dX9_list_13 (lv_at hl 0 rfl) ?_
    refine lv_lload_n hx hb dX9_list_15 rfl (lv_at hl 4 rfl) ?_
    obtain ⟨_, hM_x3, hb_x3, l_x3, f_x3, r_x3, rfl, hG_l_x3, hG_f_x3, hG_r_x3⟩ := hT _ _ hG_x3
    refine t_calli (va_runV (g := F0 m 16 ls ([.long p0, .ref x3])) (As := [.long p0]) (rest := []) ⟨hx, hb, hml, hown, hts⟩ (c_X0_isPicture_x l D cy A G3 w3 x3 p0 hD hT hG_x3 ) (cwV 1 hts gX9_list_X0_isPicture rfl rfl rfl (by decide +kernel) ⟨Nat.le_of_ble_eq_true rfl, Nat.le_of_ble_eq_true rfl⟩) (c_preV hM_x3 rfl hP hK hA hS hV) rfl rfl hl.1 rfl (lv_room (Nat.le_of_ble_eq_true rfl)) dX9_list_16 ⟨Nat.le_of_ble_eq_true rfl, Nat.le_of_ble_eq_true rfl⟩) hS (fun r16 u H locs q16 hP9 hD9 hT9 hS => ?_)
    obtain ⟨rfl, q16⟩ := q16
    have hP : va_P D vwCl w3 H := hP9
    refine lv_if_ne (tgt := 24) hx hb dX9_list_19 (by decide) (fun c19 => ?_) (fun c19 => ?_)
    · skip
      have b19 := bo_t q16 c19
      refine lv_aload_n hx hb dX9_list_24 rfl (lv_at hl 1 rfl) ?_
      refine t_get (v := .int lc_o) (C := RX9) (T := TX9) (N := 9) hx hb hts (by decide +kernel) hown hK hP hM_o rfl 7 (by decide) (hts (.fieldLink RX9 46 "ShadowBench" "listCount" "I") (by decide +kernel)) (fun _ h9 => h9) rfl dX9_list_25 ?_
      refine lv_bipush (v := 12) hx hb dX9_list_28 (by decide) ?_
      refine lv_icmp_lt (tgt := 36) hx hb dX9_list_30 (by decide) (fun c30 => ?_) (fun c30 => ?_)
      · skip
        have d30 := c30
        rw [fa_lt] at d30
        refine lv_aload_n hx hb dX9_list_36 rfl (lv_at hl 1 rfl) ?_
        refine lv_iload_n hx hb dX9_list_37 rfl (lv_at hl 2 rfl) ?_
        refine lv_iload_n hx hb dX9_list_38 rfl (lv_at hl 3 rfl) ?_
        refine t_calli (va_runV (g := F0 m 39 ls ([.int high, .int wide, .ref o])) (As := [.int wide, .int high]) (rest := []) ⟨hx, hb, hml, hown, hts⟩ (c_X9_isOtherThanListed_x l D cy A G3 w3 o wide high hD hT hG_o hM_o hM_ll_o (hlb9.up hX.1)) (cwV 2 hts gX9_list_X9_isOtherThanListed rfl rfl rfl (by decide +kernel) ⟨Nat.le_of_ble_eq_true rfl, Nat.le_of_ble_eq_true rfl⟩) (c_preV hM_o rfl hP hK hA hS hV) rfl rfl hl.1 rfl (lv_room (Nat.le_of_ble_eq_true rfl)) dX9_list_39 ⟨Nat.le_of_ble_eq_true rfl, Nat.le_of_ble_eq_true rfl⟩) hS (fun r39 u H locs q39 hP9 hD9 hT9 hS => ?_)
        obtain ⟨rfl, q39⟩ := q39
        have hP : va_P D vwCl w3 H := hP9
        refine lv_if_ne (tgt := 53) hx hb dX9_list_42 (by decide) (fun c42 => ?_) (fun c42 => ?_)
        · skip
          have b42 := bo_t q39 c42
          refine lv_bipush (v := (-3)) hx hb dX9_list_53 (by decide) ?_
          refine W.widen (k := 4) (n := 502) (Nat.le_of_ble_eq_true rfl) (Nat.le_of_ble_eq_true rfl) ?_
          exact W.iret (v := ((-3) : Int32)) hx hb hr (fun t ht hW => ⟨⟨_, (G3, w3), rfl, ⟨hX, ⟨lsA_3 ⟨vb3, b19⟩ (by omega) (by first | exact Or.inr b50 | exact Or.inl b42), _, lb_o, _, hM_o, hM_ll_o, Or.inr ⟨lsG_3 (by first | exact Or.inr b50 | exact Or.inl b42), rfl, rfl, rfl⟩⟩⟩, by show va_P D vwCl w3 t.heap; rw [ht]; exact hP, hD, hT⟩, hS.F ht⟩) hS.2.2 dX9_list_55
        · skip
          have b42 := bo_f q39 c42
          refine lv_aload_n hx hb dX9_list_45 rfl (lv_at hl 1 rfl) ?_
          refine lv_lload_n hx hb dX9_list_46 rfl (lv_at hl 4 rfl) ?_
          refine t_calli (va_runV (g := F0 m 47 ls ([.long p0, .ref o])) (As := [.long p0]) (rest := []) ⟨hx, hb, hml, hown, hts⟩ (c_X9_isListed_x l D cy A G3 w3 o p0 hD hT hG_o hM_o hM_ll_o ) (cwV 1 hts gX9_list_X9_isListed rfl rfl rfl (by decide +kernel) ⟨Nat.le_of_ble_eq_true rfl, Nat.le_of_ble_eq_true rfl⟩) (c_preV hM_o rfl hP hK hA hS hV) rfl rfl hl.1 rfl (lv_room (Nat.le_of_ble_eq_true rfl)) dX9_list_47 ⟨Nat.le_of_ble_eq_true rfl, Nat.le_of_ble_eq_true rfl⟩) hS (fun r47 u H locs q47 hP9 hD9 hT9 hS => ?_)
          obtain ⟨rfl, q47⟩ := q47
          have hP : va_P D vwCl w3 H := hP9
          refine lv_if_eq (tgt := 56) hx hb dX9_list_50 (by decide) (fun c50 => ?_) (fun c50 => ?_)
          · skip
            have b50 := bo_f q47 c50
            refine lv_aload_n hx hb dX9_list_56 rfl (lv_at hl 1 rfl) ?_
            refine lv_aload hx hb dX9_list_57 (lv_at hl 0 rfl) ?_
            refine t_put (v := .ref x3) (C := RX9) (T := TX9) (N := 9) (ty0 := tyX9) hx hb hts (by decide +kernel) tyX9_ok nmX9 hown hK hP hD hS hM_o rfl 8 (by decide) (hts (.fieldLink RX9 49 "ShadowBench" "listBoard" "LShadowBench$Board;") (by decide +kernel)) (fun _ h9 => h9) rfl rfl rfl (Nat.le_of_ble_eq_true rfl) dX9_list_59 (fun H locs w59 hU59 hP hD hS => ?_)
            have hM_ll_o := hU59.2 _ _ (cne hG_ll_o hG_o (show (17 : Nat) ≠ 7 by decide)) hM_ll_o
            have hM_x3 := hU59.2 _ _ (cne hG_x3 hG_o (show (2 : Nat) ≠ 7 by decide)) hM_x3
            have hT := hT.up hU59 hG_o ⟨_, _, _, _, _, _, _, mo_o, (some x3), rfl, ⟨by omega, by omega⟩, ⟨by omega, by omega⟩, hG_bs_o, hG_js_o, hG_sh_o, hG_wk_o, hmo_o, hG_ll_o, (fun _ z => Option.some.inj z ▸ ⟨_, _, hG_x3⟩)⟩
            have hM_o : cIn w59 o (.inr (8, [.ref bs_o, .ref js_o, .int jc_o, .ref sh_o, .ref wk_o, va_rf mo_o, .ref ll_o, .int lc_o, .ref x3])) := hU59.1
            have hX := hX.tr (cX.up hU59 (Or.inr ⟨_, hG_o, rfl⟩))
            refine lv_aload_n hx hb dX9_list_62 rfl (lv_at hl 1 rfl) ?_
            refine t_get (v := .ref ll_o) (C := RX9) (T := TX9) (N := 9) hx hb hts (by decide +kernel) hown hK hP hM_o rfl 6 (by decide) (hts (.fieldLink RX9 42 "ShadowBench" "listed" "[J") (by decide +kernel)) (fun _ h9 => h9) rfl dX9_list_63 ?_
            refine lv_aload_n hx hb dX9_list_66 rfl (lv_at hl 1 rfl) ?_
            refine t_get (v := .int lc_o) (C := RX9) (T := TX9) (N := 9) hx hb hts (by decide +kernel) hown hK hP hM_o rfl 7 (by decide) (hts (.fieldLink RX9 46 "ShadowBench" "listCount" "I") (by decide +kernel)) (fun _ h9 => h9) rfl dX9_list_67 ?_
            refine lv_lload_n hx hb dX9_list_70 rfl (lv_at hl 4 rfl) ?_
            refine t_lastK hx hb hK hP hD hS hT (Or.inr (Or.inr rfl)) hG_ll_o hM_ll_o (vp_in_iff.mpr ⟨by omega, by omega⟩) dX9_list_71 (fun H locs w71 hU71 hP hD hT hS => ?_)
            have hM_o := hU71.2 _ _ (cne hG_o hG_ll_o (show (7 : Nat) ≠ 17 by decide)) hM_o
            have hM_x3 := hU71.2 _ _ (cne hG_x3 hG_ll_o (show (2 : Nat) ≠ 17 by decide)) hM_x3
            have hM_ll_o := hU71.1
            have hX := hX.tr (cX.up hU71 (Or.inr ⟨_, hG_ll_o, rfl⟩))
            refine lv_aload_n hx hb dX9_list_72 rfl (lv_at hl 1 rfl) ?_
            refine lv_dup hx hb dX9_list_73 rfl ?_
            refine t_get (v := .int lc_o) (C := RX9) (T := TX9) (N := 9) hx hb hts (by decide +kernel) hown hK hP hM_o rfl 7 (by decide) (hts (.fieldLink RX9 46 "ShadowBench" "listCount" "I") (by decide +kernel)) (fun _ h9 => h9) rfl dX9_list_74 ?_
            refine lv_iconst (v := 1) hx hb dX9_list_77 (by decide) ?_
            refine lv_iadd hx hb dX9_list_78 ?_
            refine lv_topi (fun v78 e78 => ?_)
            have i78 : v78.toInt = lc_o.toInt + (1 : Int32).toInt := by rw [e78]; exact fb_addI (by omega) (by omega)
            refine t_put (v := .int v78) (C := RX9) (T := TX9) (N := 9) (ty0 := tyX9) hx hb hts (by decide +kernel) tyX9_ok nmX9 hown hK hP hD hS hM_o rfl 7 (by decide) (hts (.fieldLink RX9 46 "ShadowBench" "listCount" "I") (by decide +kernel)) (fun _ h9 => h9) rfl rfl rfl (Nat.le_of_ble_eq_true rfl) dX9_list_79 (fun H locs w79 hU79 hP hD hS => ?_)
            have hM_ll_o := hU79.2 _ _ (cne hG_ll_o hG_o (show (17 : Nat) ≠ 7 by decide)) hM_ll_o
            have hM_x3 := hU79.2 _ _ (cne hG_x3 hG_o (show (2 : Nat) ≠ 7 by decide)) hM_x3
            have hT := hT.up hU79 hG_o ⟨_, _, _, _, _, _, _, mo_o, (some x3), rfl, ⟨by omega, by omega⟩, ⟨by omega, by omega⟩, hG_bs_o, hG_js_o, hG_sh_o, hG_wk_o, hmo_o, hG_ll_o, (fun _ z => Option.some.inj z ▸ ⟨_, _, hG_x3⟩)⟩
            have hM_o : cIn w79 o (.inr (8, [.ref bs_o, .ref js_o, .int jc_o, .ref sh_o, .ref wk_o, va_rf mo_o, .ref ll_o, .int v78, .ref x3])) := hU79.1
            have hX := hX.tr (cX.up hU79 (Or.inr ⟨_, hG_o, rfl⟩))
            refine lv_aload_n hx hb dX9_list_82 rfl (lv_at hl 1 rfl) ?_
            refine t_get (v := .int v78) (C := RX9) (T := TX9) (N := 9) hx hb hts (by decide +kernel) hown hK hP hM_o rfl 7 (by decide) (hts (.fieldLink RX9 46 "ShadowBench" "listCount" "I") (by decide +kernel)) (fun _ h9 => h9) rfl dX9_list_83 ?_
            refine W.widen (k := 4) (n := 502) (Nat.le_of_ble_eq_true rfl) (Nat.le_of_ble_eq_true rfl) ?_
            exact W.iret (v := v78) hx hb hr (fun t ht hW => ⟨⟨_, (G3, w79), rfl, ⟨hX, ⟨Or.inl ⟨⟨⟨vb3, b19⟩, (by omega), b42, b50⟩, (by omega)⟩, _, (some x3), _, hM_o, hM_ll_o, Or.inl ⟨⟨⟨vb3, b19⟩, (by omega), b42, b50⟩, (by omega), rfl, _, rfl, hG_x3⟩⟩⟩, by show va_P D vwCl w79 t.heap; rw [ht]; exact hP, hD, hT⟩, hS.F ht⟩) hS.2.2 dX9_list_86
          · skip
            have b50 := bo_t q47 c50
            refine lv_bipush (v := (-3)) hx hb dX9_list_53 (by decide) ?_
            refine W.widen (k := 4) (n := 502) (Nat.le_of_ble_eq_true rfl) (Nat.le_of_ble_eq_true rfl) ?_
            exact W.iret (v := ((-3) : Int32)) hx hb hr (fun t ht hW => ⟨⟨_, (G3, w3), rfl, ⟨hX, ⟨lsA_3 ⟨vb3, b19⟩ (by omega) (by first | exact Or.inr b50 | exact Or.inl b42), _, lb_o, _, hM_o, hM_ll_o, Or.inr ⟨lsG_3 (by first | exact Or.inr b50 | exact Or.inl b42), rfl, rfl, rfl⟩⟩⟩, by show va_P D vwCl w3 t.heap; rw [ht]; exact hP, hD, hT⟩, hS.F ht⟩) hS.2.2 dX9_list_55
      · skip
        have d30 := c30
        rw [fa_lt] at d30
        refine lv_bipush (v := (-2)) hx hb dX9_list_33 (by decide) ?_
        refine W.widen (k := 4) (n := 502) (Nat.le_of_ble_eq_true rfl) (Nat.le_of_ble_eq_true rfl) ?_
        exact W.iret (v := ((-2) : Int32)) hx hb hr (fun t ht hW => ⟨⟨_, (G3, w3), rfl, ⟨hX, ⟨lsA_2 ⟨vb3, b19⟩ (by omega), _, lb_o, _, hM_o, hM_ll_o, Or.inr ⟨lsG_2 (by omega), rfl, rfl, rfl⟩⟩⟩, by show va_P D vwCl w3 t.heap; rw [ht]; exact hP, hD, hT⟩, hS.F ht⟩) hS.2.2 dX9_list_35
    · skip
      have b19 := bo_f q16 c19
      refine lv_iconst (v := (-1)) hx hb dX9_list_22 (by decide) ?_
      refine W.widen (k := 4) (n := 502) (Nat.le_of_ble_eq_true rfl) (Nat.le_of_ble_eq_true rfl) ?_
      exact W.iret (v := ((-1) : Int32)) hx hb hr (fun t ht hW => ⟨⟨_, (G3, w3), rfl, ⟨hX, ⟨lsA_1 (fun z9 => by first | exact vn3 z9.1 | exact b19 z9.2), _, lb_o, _, hM_o, hM_ll_o, Or.inr ⟨lsG_1 (fun z9 => by first | exact vn3 z9.1 | exact b19 z9.2), rfl, rfl, rfl⟩⟩⟩, by show va_P D vwCl w3 t.heap; rw [ht]; exact hP, hD, hT⟩, hS.F ht⟩) hS.2.2 dX9_list_23
set_option maxHeartbeats 4000000 in
set_option maxRecDepth 100000 in
theorem c_X9_clear_x (l : Launch) (D : va_G) (cy : Nat → ClassId) (A : Nat → Prop) (G : cG) (ws : va_W) (o : Nat) {bs_o js_o sh_o wk_o ll_o : Nat} {jc_o lc_o : Int32} {mo_o lb_o : Option Nat} (hD : va_D A ws) (hT : cT cy G ws) (hG_o : G o = some (7, 0, 0)) (hM_o : cIn ws o (.inr (8, [.ref bs_o, .ref js_o, .int jc_o, .ref sh_o, .ref wk_o, va_rf mo_o, .ref ll_o, .int lc_o, va_rf lb_o])))  : Ci l D cy A yX9_clear wsX9_clear ({ frames := 0, cells := 0, slots := 0, locals := 0 }) 0 0 ws [.ref o] (fun r0 u => cX none (chs [7]) G ws u.1 u.2 ∧ (r0 = lc_o ∧ cIn u.2 o (.inr (8, [.ref bs_o, .ref js_o, .int jc_o, .ref sh_o, .ref wk_o, va_rf mo_o, .ref ll_o, .int (0 : Int32), va_rf none])))) := by
  refine Met.ofW (cc := cX9_clear) (maxL := 2) (ret := (some .int)) (by decide) rfl ?_
  intro p e s m args below meth c s₁ B hml hv
  obtain ⟨rfl, hP, hK, hA, hV⟩ := hv
  have hx := B.exec
  have hb := B.bytes
  have hr := B.returns
  have hts := atoms_spec (ws := wsX9_clear) B.pre
  have hown : s.vm.findClass RX9 = some m.cls := findClass_of_methodNamed B.named
  have hlocks := B.notSynchronized
  have hS : va_S A s.heap s.heap [] := va_S.rf
  have hX : cX none (chs [7]) G ws G ws := cX.rf
  have hl := lv_entry ([.ref o]) (n := 2) (Nat.le_of_ble_eq_true rfl)
  rw [lg_entry_eq]
  generalize (lg_sl ([.ref o]) ++ List.replicate (2 - (lg_sl ([.ref o])).length) Slot.unset).toArray = ls at hl ⊢
  have hl : lv_has ls 2 [(0, .ref o)] := hl
  have k_0 : (0 : Int32).toInt = 0 := by decide
  obtain ⟨hjc_o, hlc_o, hG_bs_o, hG_js_o, hG_sh_o, hG_wk_o, hmo_o, hG_ll_o, hlb_o⟩ := w7sh hD hT hG_o hM_o
  refine lv_aload_n hx hb dX9_clear_0 rfl (lv_at hl 0 rfl) ?_
  refine t_get (v := .int lc_o) (C := RX9) (T := TX9) (N := 9) hx hb hts (by decide +kernel) hown hK hP hM_o rfl 7 (by decide) (hts (.fieldLink RX9 46 "ShadowBench" "listCount" "I") (by decide +kernel)) (fun _ h9 => h9) rfl dX9_clear_1 ?_
  refine lv_istore_n (lv' := [(1, .int lc_o), (0, .ref o)]) hx hb dX9_clear_4 rfl hl (by decide) rfl (fun ls hl => ?_)
  refine lv_aload_n hx hb dX9_clear_5 rfl (lv_at hl 1 rfl) ?_
  refine lv_iconst (v := 0) hx hb dX9_clear_6 (by decide) ?_
  refine t_put (v := .int (0 : Int32)) (C := RX9) (T := TX9) (N := 9) (ty0 := tyX9) hx hb hts (by decide +kernel) tyX9_ok nmX9 hown hK hP hD hS hM_o rfl 7 (by decide) (hts (.fieldLink RX9 46 "ShadowBench" "listCount" "I") (by decide +kernel)) (fun _ h9 => h9) rfl rfl rfl (Nat.le_of_ble_eq_true rfl) dX9_clear_7 (fun H locs w7 hU7 hP hD hS => ?_)
  have hT := hT.up hU7 hG_o ⟨_, _, _, _, _, _, _, mo_o, lb_o, rfl, ⟨by omega, by omega⟩, ⟨by omega, by omega⟩, hG_bs_o, hG_js_o, hG_sh_o, hG_wk_o, hmo_o, hG_ll_o, hlb_o⟩
  have hM_o : cIn w7 o (.inr (8, [.ref bs_o, .ref js_o, .int jc_o, .ref sh_o, .ref wk_o, va_rf mo_o, .ref ll_o, .int (0 : Int32), va_rf lb_o])) := hU7.1
  have hX := hX.tr (cX.up hU7 (Or.inr ⟨_, hG_o, rfl⟩))
  refine lv_aload_n hx hb dX9_clear_10 rfl (lv_at hl 1 rfl) ?_
  refine lv_null hx hb dX9_clear_11 ?_
  refine t_put (v := .null) (C := RX9) (T := TX9) (N := 9) (ty0 := tyX9) hx hb hts (by decide +kernel) tyX9_ok nmX9 hown hK hP hD hS hM_o rfl 8 (by decide) (hts (.fieldLink RX9 49 "ShadowBench" "listBoard" "LShadowBench$Board;") (by decide +kernel)) (fun _ h9 => h9) rfl rfl rfl (Nat.le_of_ble_eq_true rfl) dX9_clear_12 (fun H locs w12 hU12 hP hD hS => ?_)
  have hT := hT.up hU12 hG_o ⟨_, _, _, _, _, _, _, mo_o, none, rfl, ⟨by omega, by omega⟩, ⟨by omega, by omega⟩, hG_bs_o, hG_js_o, hG_sh_o, hG_wk_o, hmo_o, hG_ll_o, (fun _ z => nomatch z)⟩
  have hM_o : cIn w12 o (.inr (8, [.ref bs_o, .ref js_o, .int jc_o, .ref sh_o, .ref wk_o, va_rf mo_o, .ref ll_o, .int (0 : Int32), .null])) := hU12.1
  have hX := hX.tr (cX.up hU12 (Or.inr ⟨_, hG_o, rfl⟩))
  refine lv_iload_n hx hb dX9_clear_15 rfl (lv_at hl 0 rfl) ?_
  exact W.iret (v := lc_o) hx hb hr (fun t ht hW => ⟨⟨_, (G, w12), rfl, ⟨hX, ⟨rfl, hM_o⟩⟩, by show va_P D vwCl w12 t.heap; rw [ht]; exact hP, hD, hT⟩, hS.F ht⟩) hS.2.2 dX9_clear_16
set_option maxHeartbeats 4000000 in
set_option maxRecDepth 100000 in
theorem c_X9_job_k (l : Launch) (D : va_G) (cy : Nat → ClassId) (A : Nat → Prop) (G : cG) (ws : va_W) (o : Nat) (kind : Int32) (wide : Int32) (high : Int32) {bs_o js_o sh_o wk_o ll_o : Nat} {jc_o lc_o : Int32} {mo_o lb_o : Option Nat} (hD : va_D A ws) (hT : cT cy G ws) (hG_o : G o = some (7, 0, 0)) (hM_o : cIn ws o (.inr (8, [.ref bs_o, .ref js_o, .int jc_o, .ref sh_o, .ref wk_o, va_rf mo_o, .ref ll_o, .int lc_o, va_rf lb_o])))  : Ci l D cy A yX9_job wsX9_job ({ frames := 6, cells := 7, slots := 588, locals := 124 }) 7 588 ws [.ref o, .int kind, .int wide, .int high] (fun r0 u => cX none (chs [1, 7, 8, 9]) G ws u.1 u.2 ∧ (∃ jc, cIn u.2 o (.inr (8, [.ref bs_o, .ref js_o, .int jc, .ref sh_o, .ref wk_o, va_rf mo_o, .ref ll_o, .int lc_o, va_rf lb_o])))) := by
  refine Met.ofW (cc := cX9_job) (maxL := 5) (ret := (some .int)) (by decide) rfl ?_
  intro p e s m args below meth c s₁ B hml hv
  obtain ⟨rfl, hP, hK, hA, hV⟩ := hv
  have hx := B.exec
  have hb := B.bytes
  have hr := B.returns
  have hts := atoms_spec (ws := wsX9_job) B.pre
  have hown : s.vm.findClass RX9 = some m.cls := findClass_of_methodNamed B.named
  have hlocks := B.notSynchronized
  have hS : va_S A s.heap s.heap [] := va_S.rf
  have hX : cX none (chs [1, 7, 8, 9]) G ws G ws := cX.rf
  have hl := lv_entry ([.ref o, .int kind, .int wide, .int high]) (n := 5) (Nat.le_of_ble_eq_true rfl)
  rw [lg_entry_eq]
  generalize (lg_sl ([.ref o, .int kind, .int wide, .int high]) ++ List.replicate (5 - (lg_sl ([.ref o, .int kind, .int wide, .int high])).length) Slot.unset).toArray = ls at hl ⊢
  have hl : lv_has ls 5 [(0, .ref o), (1, .int kind), (2, .int wide), (3, .int high)] := hl
  have k_m2 : (-2 : Int32).toInt = -2 := by decide
  have k_m1 : (-1 : Int32).toInt = -1 := by decide
  have k_0 : (0 : Int32).toInt = 0 := by decide
  have k_1 : (1 : Int32).toInt = 1 := by decide
  have k_3 : (3 : Int32).toInt = 3 := by decide
  have k_8 : (8 : Int32).toInt = 8 := by decide
  obtain ⟨hjc_o, hlc_o, hG_bs_o, hG_js_o, hG_sh_o, hG_wk_o, hmo_o, hG_ll_o, hlb_o⟩ := w7sh hD hT hG_o hM_o
  refine lv_aload_n hx hb dX9_job_0 rfl (lv_at hl 0 rfl) ?_
  refine lv_iload_n hx hb dX9_job_1 rfl (lv_at hl 2 rfl) ?_
  refine lv_iload_n hx hb dX9_job_2 rfl (lv_at hl 3 rfl) ?_
  refine t_calla (va_runV (g := F0 m 3 ls ([.int high, .int wide, .ref o])) (As := [.int wide, .int high]) (rest := []) ⟨hx, hb, hml, hown, hts⟩ (c_X9_boardOf_x l D cy A G ws o wide high hD hT hG_o ) (cwV 2 hts gX9_job_X9_boardOf rfl rfl rfl (by decide +kernel) ⟨Nat.le_of_ble_eq_true rfl, Nat.le_of_ble_eq_true rfl⟩) (c_preV hM_o rfl hP hK hA hS hV) rfl rfl hl.1 rfl (lv_room (Nat.le_of_ble_eq_true rfl)) dX9_job_3 ⟨Nat.le_of_ble_eq_true rfl, Nat.le_of_ble_eq_true rfl⟩) hS (fun r3 u H locs q3 hP9 hD9 hT9 hS => ?_)
  obtain ⟨G3, w3⟩ := u
  obtain ⟨hX9, q3⟩ := q3
  have hX9 : cX none (chs [1, 8]) G ws G3 w3 := hX9
  have hP : va_P D vwCl w3 H := hP9
  have hD : va_D A w3 := hD9
  have hT : cT cy G3 w3 := hT9
  have hM_o := hX9.2.1 _ _ (cP.no hG_o rfl) hM_o
  have hG_o := hX9.1 _ _ hG_o
  have hG_bs_o := hX9.1 _ _ hG_bs_o
  have hG_js_o := hX9.1 _ _ hG_js_o
  have hG_sh_o := hX9.1 _ _ hG_sh_o
  have hG_wk_o := hX9.1 _ _ hG_wk_o
  have hG_ll_o := hX9.1 _ _ hG_ll_o
  have hmo_o := fun x9 z9 => hX9.1 _ _ (hmo_o x9 z9)
  have hlb_o : ∀ x9, lb_o = some x9 → ∃ w9 h9, _ = some (2, w9, h9) := fun x9 z9 => (hlb_o x9 z9).elim fun w9 z9 => z9.elim fun h9 z9 => ⟨w9, h9, hX9.1 _ _ z9⟩
  have hX := hX.tr (hX9.wk (chs_sub (by decide)))
  rcases r3 with _ | x3
  · skip
    have vn3 := q3.2.1 rfl
    refine lv_astoreN (lv' := [(4, .null), (0, .ref o), (1, .int kind), (2, .int wide), (3, .int high)]) hx hb dX9_job_6 hl (by decide) rfl (fun ls hl => ?_)
    refine lv_aloadN hx hb dX9_job_8 (lv_at hl 0 rfl) ?_
    refine lv_ifnullN (tgt := 22) hx hb dX9_job_10 (by decide) ?_
    refine lv_iconst (v := (-1)) hx hb dX9_job_22 (by decide) ?_
    refine W.widen (k := 7) (n := 588) (Nat.le_of_ble_eq_true rfl) (Nat.le_of_ble_eq_true rfl) ?_
    exact W.iret (v := ((-1) : Int32)) hx hb hr (fun t ht hW => ⟨⟨_, (G3, w3), rfl, ⟨hX, ⟨_, hM_o⟩⟩, by show va_P D vwCl w3 t.heap; rw [ht]; exact hP, hD, hT⟩, hS.F ht⟩) hS.2.2 dX9_job_23
  · skip
    have hG_x3 := q3.1 x3 rfl
    have vb3 := q3.2.2 x3 rfl
    refine lv_astore (lv' := [(4, .ref x3), (0, .ref o), (1, .int kind), (2, .int wide), (3, .int high)]) hx hb dX9_job_6 hl (by decide) rfl (fun ls hl => ?_)
    refine lv_aload hx hb dX9_job_8 (lv_at hl 0 rfl) ?_
    refine lv_ifnull hx hb dX9_job_10 ?_
    refine lv_iload_n hx hb dX9_job_13 rfl (lv_at hl 2 rfl) ?_
    refine lv_if_lt (tgt := 22) hx hb dX9_job_14 (by decide) (fun c14 => ?_) (fun c14 => ?_)
    · skip
      have d14 := c14
      rw [fa_lt] at d14
      refine lv_iconst (v := (-1)) hx hb dX9_job_22 (by decide) ?_
      refine W.widen (k := 7) (n := 588) (Nat.le_of_ble_eq_true rfl) (Nat.le_of_ble_eq_true rfl) ?_
      exact W.iret (v := ((-1) : Int32)) hx hb hr (fun t ht hW => ⟨⟨_, (G3, w3), rfl, ⟨hX, ⟨_, hM_o⟩⟩, by show va_P D vwCl w3 t.heap; rw [ht]; exact hP, hD, hT⟩, hS.F ht⟩) hS.2.2 dX9_job_23
    · skip
      have d14 := c14
      rw [fa_lt] at d14
      refine lv_iload_n hx hb dX9_job_17 rfl (lv_at hl 2 rfl) ?_
      refine lv_iconst (v := 3) hx hb dX9_job_18 (by decide) ?_
      refine lv_icmp_le (tgt := 24) hx hb dX9_job_19 (by decide) (fun c19 => ?_) (fun c19 => ?_)
      · skip
        have d19 := c19
        rw [fa_le] at d19
        refine lv_aload_n hx hb dX9_job_24 rfl (lv_at hl 1 rfl) ?_
        refine t_get (v := .int jc_o) (C := RX9) (T := TX9) (N := 9) hx hb hts (by decide +kernel) hown hK hP hM_o rfl 2 (by decide) (hts (.fieldLink RX9 21 "ShadowBench" "jobCount" "I") (by decide +kernel)) (fun _ h9 => h9) rfl dX9_job_25 ?_
        refine lv_bipush (v := 8) hx hb dX9_job_28 (by decide) ?_
        refine lv_icmp_lt (tgt := 36) hx hb dX9_job_30 (by decide) (fun c30 => ?_) (fun c30 => ?_)
        · skip
          have d30 := c30
          rw [fa_lt] at d30
          refine lv_aload_n hx hb dX9_job_36 rfl (lv_at hl 1 rfl) ?_
          refine t_get (v := .ref js_o) (C := RX9) (T := TX9) (N := 9) hx hb hts (by decide +kernel) hown hK hP hM_o rfl 1 (by decide) (hts (.fieldLink RX9 17 "ShadowBench" "jobs" "[LShadowBench$Job;") (by decide +kernel)) (fun _ h9 => h9) rfl dX9_job_37 ?_
          refine lv_aload_n hx hb dX9_job_40 rfl (lv_at hl 1 rfl) ?_
          refine t_get (v := .int jc_o) (C := RX9) (T := TX9) (N := 9) hx hb hts (by decide +kernel) hown hK hP hM_o rfl 2 (by decide) (hts (.fieldLink RX9 21 "ShadowBench" "jobCount" "I") (by decide +kernel)) (fun _ h9 => h9) rfl dX9_job_41 ?_
          refine lv_iload_n hx hb dX9_job_44 rfl (lv_at hl 2 rfl) ?_
          refine lv_aload hx hb dX9_job_45 (lv_at hl 0 rfl) ?_
          refine t_calla (va_runS (g := F0 m 47 ls ([.ref x3, .int kind, .int jc_o, .ref js_o])) (As := [.int kind, .ref x3]) (rest := [.int jc_o, .ref js_o]) ⟨hx, hb, hml, hown, hts⟩ (c_X9_newJob l D cy A G3 w3 kind x3 hD hT hG_x3 ) (va_cwS 2 hts gX9_job_X9_newJob rfl rfl rfl (by decide +kernel) ⟨Nat.le_of_ble_eq_true rfl, Nat.le_of_ble_eq_true rfl⟩) (c_preS hP hK hA hS hV) rfl rfl hl.1 rfl (lv_room (Nat.le_of_ble_eq_true rfl)) dX9_job_47 ⟨Nat.le_of_ble_eq_true rfl, Nat.le_of_ble_eq_true rfl⟩) hS (fun r47 u H locs q47 hP9 hD9 hT9 hS => ?_)
          obtain ⟨G47, w47⟩ := u
          obtain ⟨hX9, q47⟩ := q47
          have hX9 : cX none (chs []) G3 w3 G47 w47 := hX9
          have hP : va_P D vwCl w47 H := hP9
          have hD : va_D A w47 := hD9
          have hT : cT cy G47 w47 := hT9
          have hM_o := hX9.2.1 _ _ (cP.no hG_o rfl) hM_o
          have hG_o := hX9.1 _ _ hG_o
          have hG_bs_o := hX9.1 _ _ hG_bs_o
          have hG_js_o := hX9.1 _ _ hG_js_o
          have hG_sh_o := hX9.1 _ _ hG_sh_o
          have hG_wk_o := hX9.1 _ _ hG_wk_o
          have hG_ll_o := hX9.1 _ _ hG_ll_o
          have hG_x3 := hX9.1 _ _ hG_x3
          have hmo_o := fun x9 z9 => hX9.1 _ _ (hmo_o x9 z9)
          have hlb_o : ∀ x9, lb_o = some x9 → ∃ w9 h9, _ = some (2, w9, h9) := fun x9 z9 => (hlb_o x9 z9).elim fun w9 z9 => z9.elim fun h9 z9 => ⟨w9, h9, hX9.1 _ _ z9⟩
          have hX := hX.tr (hX9.wk (chs_sub (by decide)))
          obtain ⟨x47, k47, n47, rfl, hG_x47⟩ := q47
          refine t_aast9 hx hb hV hK hP hD hS hT hG_js_o hG_x47 (vp_in_iff.mpr ⟨by omega, by omega⟩) dX9_job_50 (fun H locs w50 hU50 hP hD hT hS => ?_)
          have hM_o := hU50 _ _ (cne hG_o hG_js_o (show (7 : Nat) ≠ 9 by decide)) hM_o
          have hX := hX.tr (cX.uF hU50 (Or.inr ⟨_, hG_js_o, rfl⟩))
          refine lv_aload_n hx hb dX9_job_51 rfl (lv_at hl 1 rfl) ?_
          refine lv_dup hx hb dX9_job_52 rfl ?_
          refine t_get (v := .int jc_o) (C := RX9) (T := TX9) (N := 9) hx hb hts (by decide +kernel) hown hK hP hM_o rfl 2 (by decide) (hts (.fieldLink RX9 21 "ShadowBench" "jobCount" "I") (by decide +kernel)) (fun _ h9 => h9) rfl dX9_job_53 ?_
          refine lv_iconst (v := 1) hx hb dX9_job_56 (by decide) ?_
          refine lv_iadd hx hb dX9_job_57 ?_
          refine lv_topi (fun v57 e57 => ?_)
          have i57 : v57.toInt = jc_o.toInt + (1 : Int32).toInt := by rw [e57]; exact fb_addI (by omega) (by omega)
          refine t_put (v := .int v57) (C := RX9) (T := TX9) (N := 9) (ty0 := tyX9) hx hb hts (by decide +kernel) tyX9_ok nmX9 hown hK hP hD hS hM_o rfl 2 (by decide) (hts (.fieldLink RX9 21 "ShadowBench" "jobCount" "I") (by decide +kernel)) (fun _ h9 => h9) rfl rfl rfl (Nat.le_of_ble_eq_true rfl) dX9_job_58 (fun H locs w58 hU58 hP hD hS => ?_)
          have hT := hT.up hU58 hG_o ⟨_, _, _, _, _, _, _, mo_o, lb_o, rfl, ⟨by omega, by omega⟩, ⟨by omega, by omega⟩, hG_bs_o, hG_js_o, hG_sh_o, hG_wk_o, hmo_o, hG_ll_o, hlb_o⟩
          have hM_o : cIn w58 o (.inr (8, [.ref bs_o, .ref js_o, .int v57, .ref sh_o, .ref wk_o, va_rf mo_o, .ref ll_o, .int lc_o, va_rf lb_o])) := hU58.1
          have hX := hX.tr (cX.up hU58 (Or.inr ⟨_, hG_o, rfl⟩))
          refine lv_aload_n hx hb dX9_job_61 rfl (lv_at hl 1 rfl) ?_
          refine t_get (v := .int v57) (C := RX9) (T := TX9) (N := 9) hx hb hts (by decide +kernel) hown hK hP hM_o rfl 2 (by decide) (hts (.fieldLink RX9 21 "ShadowBench" "jobCount" "I") (by decide +kernel)) (fun _ h9 => h9) rfl dX9_job_62 ?_
          refine lv_iconst (v := 1) hx hb dX9_job_65 (by decide) ?_
          refine lv_isub hx hb dX9_job_66 ?_
          refine lv_topi (fun v66 e66 => ?_)
          have i66 : v66.toInt = v57.toInt - (1 : Int32).toInt := by rw [e66]; exact fb_subI (by omega) (by omega)
          refine W.widen (k := 7) (n := 588) (Nat.le_of_ble_eq_true rfl) (Nat.le_of_ble_eq_true rfl) ?_
          exact W.iret (v := v66) hx hb hr (fun t ht hW => ⟨⟨_, (G47, w58), rfl, ⟨hX, ⟨_, hM_o⟩⟩, by show va_P D vwCl w58 t.heap; rw [ht]; exact hP, hD, hT⟩, hS.F ht⟩) hS.2.2 dX9_job_67
        · skip
          have d30 := c30
          rw [fa_lt] at d30
          refine lv_bipush (v := (-2)) hx hb dX9_job_33 (by decide) ?_
          refine W.widen (k := 7) (n := 588) (Nat.le_of_ble_eq_true rfl) (Nat.le_of_ble_eq_true rfl) ?_
          exact W.iret (v := ((-2) : Int32)) hx hb hr (fun t ht hW => ⟨⟨_, (G3, w3), rfl, ⟨hX, ⟨_, hM_o⟩⟩, by show va_P D vwCl w3 t.heap; rw [ht]; exact hP, hD, hT⟩, hS.F ht⟩) hS.2.2 dX9_job_35
      · skip
        have d19 := c19
        rw [fa_le] at d19
        refine lv_iconst (v := (-1)) hx hb dX9_job_22 (by decide) ?_
        refine W.widen (k := 7) (n := 588) (Nat.le_of_ble_eq_true rfl) (Nat.le_of_ble_eq_true rfl) ?_
        exact W.iret (v := ((-1) : Int32)) hx hb hr (fun t ht hW => ⟨⟨_, (G3, w3), rfl, ⟨hX, ⟨_, hM_o⟩⟩, by show va_P D vwCl w3 t.heap; rw [ht]; exact hP, hD, hT⟩, hS.F ht⟩) hS.2.2 dX9_job_23
set_option maxHeartbeats 4000000 in
set_option maxRecDepth 100000 in
theorem c_X9_tellsListApart_x (l : Launch) (D : va_G) (cy : Nat → ClassId) (A : Nat → Prop) (G : cG) (ws : va_W) (o : Nat) (set : Int32) {bs_o js_o sh_o wk_o ll_o : Nat} {jc_o lc_o : Int32} {mo_o lb_o : Option Nat} {fl : Nat → Int64} {lw lh : Nat} (hD : va_D A ws) (hT : cT cy G ws) (hG_o : G o = some (7, 0, 0)) (hM_o : cIn ws o (.inr (8, [.ref bs_o, .ref js_o, .int jc_o, .ref sh_o, .ref wk_o, va_rf mo_o, .ref ll_o, .int lc_o, va_rf lb_o]))) (hM_ll_o : cIn ws ll_o (.inl (cy 1, 12, .inr (.inl fl)))) (hlb9 : lsB G lb_o lc_o lw lh) : Ci l D cy A yX9_tellsListApart wsX9_tellsListApart ({ frames := 4, cells := 0, slots := 0, locals := 98 }) 0 0 ws [.ref o, .int set] (fun r0 u => u = (G, ws) ∧ (Bo r0 (telA fl lc_o lw lh set))) := by
  refine Met.ofW (cc := cX9_tellsListApart) (maxL := 4) (ret := (some .boolean)) (by decide) rfl ?_
  intro p e s m args below meth c s₁ B hml hv
  obtain ⟨rfl, hP, hK, hA, hV⟩ := hv
  have hx := B.exec
  have hb := B.bytes
  have hr := B.returns
  have hts := atoms_spec (ws := wsX9_tellsListApart) B.pre
  have hown : s.vm.findClass RX9 = some m.cls := findClass_of_methodNamed B.named
  have hlocks := B.notSynchronized
  have hS : va_S A s.heap s.heap [] := va_S.rf
  have hl := lv_entry ([.ref o, .int set]) (n := 4) (Nat.le_of_ble_eq_true rfl)
  rw [lg_entry_eq]
  generalize (lg_sl ([.ref o, .int set]) ++ List.replicate (4 - (lg_sl ([.ref o, .int set])).length) Slot.unset).toArray = ls at hl ⊢
  have hl : lv_has ls 4 [(0, .ref o), (1, .int set)] := hl
  have k_0 : (0 : Int32).toInt = 0 := by decide
  have k_1 : (1 : Int32).toInt = 1 := by decide
  have k_12 : (12 : Int32).toInt = 12 := by decide
  obtain ⟨hjc_o, hlc_o, hG_bs_o, hG_js_o, hG_sh_o, hG_wk_o, hmo_o, hG_ll_o, hlb_o⟩ := w7sh hD hT hG_o hM_o
  refine lv_iconst (v := 1) hx hb dX9_tellsListApart_0 (by decide) ?_
  refine lv_istore_n (lv' := [(2, .int (1 : Int32)), (0, .ref o), (1, .int set)]) hx hb dX9_tellsListApart_1 rfl hl (by decide) rfl (fun ls hl => ?_)
  have loop_2 : ∀ (n : Nat) (k : Nat), (1 ≤ k ∧ k ≤ 12) → (∀ a b : Nat, a < k → b < a → ∃ j, j < 4 ∧ unl lw lh (fl a) (fl b) set j) → 12 - k < n → ∀ (H : Heap) (locs : List Loc), va_P D vwCl ws H → va_S A s.heap H locs → ∀ (ls : Array Slot), lv_has ls 4 [(2, .int (nI k)), (0, .ref o), (1, .int set)] → W p l e (headSpec wsX9_tellsListApart ({ frames := 4, cells := 0, slots := 0, locals := 98 })).room s m #[Value.ref o, Value.int set] below meth c H locs 0 0 (MQ below (va_Qi (fun r0 u => u = (G, ws) ∧ (Bo r0 (telA fl lc_o lw lh set))) (cB D cy A) A) #[Value.ref o, Value.int set] s 0 0 A) (F0 m 2 ls []) := by
    intro n
    induction n with
    | zero => intro k j2_0 j2_1 hn; exact absurd hn (Nat.not_lt_zero _)
    | succ n ih_2 =>
      intro k j2_0 j2_1 hn_2 H locs hP hS  ls hl
      have ik : (nI k).toInt = (k : Int) := nI_toInt (by omega)
      refine lv_iload_n hx hb dX9_tellsListApart_2 rfl (lv_at hl 0 rfl) ?_
      refine lv_aload_n hx hb dX9_tellsListApart_3 rfl (lv_at hl 1 rfl) ?_
      refine t_get (v := .int lc_o) (C := RX9) (T := TX9) (N := 9) hx hb hts (by decide +kernel) hown hK hP hM_o rfl 7 (by decide) (hts (.fieldLink RX9 46 "ShadowBench" "listCount" "I") (by decide +kernel)) (fun _ h9 => h9) rfl dX9_tellsListApart_4 ?_
      refine lv_icmp_ge (tgt := 67) hx hb dX9_tellsListApart_7 (by decide) (fun c7 => ?_) (fun c7 => ?_)
      · skip
        have d7 := c7
        rw [fa_le] at d7
        refine lv_iconst (v := 1) hx hb dX9_tellsListApart_67 (by decide) ?_
        exact W.zret (v := (1 : Int32)) hx hb hr (by decide) (fun t ht hW => ⟨⟨_, (G, ws), rfl, ⟨rfl, Or.inl ⟨rfl, (fun a9 b9 h9 h8 => j2_1 a9 b9 (by omega) h8)⟩⟩, by show va_P D vwCl ws t.heap; rw [ht]; exact hP, hD, hT⟩, hS.F ht⟩) hS.2.2 dX9_tellsListApart_68
      · skip
        have d7 := c7
        rw [fa_le] at d7
        refine lv_iload_n hx hb dX9_tellsListApart_10 rfl (lv_at hl 0 rfl) ?_
        refine lv_bipush (v := 12) hx hb dX9_tellsListApart_11 (by decide) ?_
        refine lv_icmp_ge (tgt := 67) hx hb dX9_tellsListApart_13 (by decide) (fun c13 => ?_) (fun c13 => ?_)
        · skip
          have d13 := c13
          rw [fa_le] at d13
          refine lv_iconst (v := 1) hx hb dX9_tellsListApart_67 (by decide) ?_
          exact W.zret (v := (1 : Int32)) hx hb hr (by decide) (fun t ht hW => ⟨⟨_, (G, ws), rfl, ⟨rfl, Or.inl ⟨rfl, (fun a9 b9 h9 h8 => j2_1 a9 b9 (by omega) h8)⟩⟩, by show va_P D vwCl ws t.heap; rw [ht]; exact hP, hD, hT⟩, hS.F ht⟩) hS.2.2 dX9_tellsListApart_68
        · skip
          have d13 := c13
          rw [fa_le] at d13
          refine lv_iconst (v := 0) hx hb dX9_tellsListApart_16 (by decide) ?_
          refine lv_istore_n (lv' := [(3, .int (0 : Int32)), (2, .int (nI k)), (0, .ref o), (1, .int set)]) hx hb dX9_tellsListApart_17 rfl hl (by decide) rfl (fun ls hl => ?_)
          have loop_18 : ∀ (n : Nat) (i : Nat), (i ≤ 12) → (∀ b : Nat, b < i → ∃ j, j < 4 ∧ unl lw lh (fl k) (fl b) set j) → 12 - i < n → ∀ (H : Heap) (locs : List Loc), va_P D vwCl ws H → va_S A s.heap H locs → ∀ (ls : Array Slot), lv_has ls 4 [(3, .int (nI i)), (2, .int (nI k)), (0, .ref o), (1, .int set)] → W p l e (headSpec wsX9_tellsListApart ({ frames := 4, cells := 0, slots := 0, locals := 98 })).room s m #[Value.ref o, Value.int set] below meth c H locs 0 0 (MQ below (va_Qi (fun r0 u => u = (G, ws) ∧ (Bo r0 (telA fl lc_o lw lh set))) (cB D cy A) A) #[Value.ref o, Value.int set] s 0 0 A) (F0 m 18 ls []) := by
            intro n
            induction n with
            | zero => intro i j18_0 j18_1 hn; exact absurd hn (Nat.not_lt_zero _)
            | succ n ih_18 =>
              intro i j18_0 j18_1 hn_18 H locs hP hS  ls hl
              have ii : (nI i).toInt = (i : Int) := nI_toInt (by omega)
              refine lv_iload_n hx hb dX9_tellsListApart_18 rfl (lv_at hl 0 rfl) ?_
              refine lv_iload_n hx hb dX9_tellsListApart_19 rfl (lv_at hl 1 rfl) ?_
              refine lv_icmp_ge (tgt := 61) hx hb dX9_tellsListApart_20 (by decide) (fun c20 => ?_) (fun c20 => ?_)
              · skip
                have d20 := c20
                rw [fa_le] at d20
                refine lv_iinc (v := (nI (k + 1))) (lv' := [(2, .int (nI (k + 1))), (3, .int (nI i)), (0, .ref o), (1, .int set)]) hx hb dX9_tellsListApart_61 hl (k := 1) rfl (nI_1 _) (by decide) rfl (fun ls hl => ?_)
                refine lv_goto (tgt := 2) hx hb dX9_tellsListApart_64 (by decide) ?_
                exact ih_2 (k + 1) (by omega) (fun a b h1 h2 => by
            by_cases e9 : a = k
            · rw [e9] at h2 ⊢; exact j18_1 b (by omega)
            · exact j2_1 a b (by omega) h2) (by omega) _ _ hP hS  ls (lv_sub hl [0, 2, 3] rfl)
              · skip
                have d20 := c20
                rw [fa_le] at d20
                refine lv_aload_n hx hb dX9_tellsListApart_23 rfl (lv_at hl 2 rfl) ?_
                have hoq : lb_o = none ∨ ∃ x, lb_o = some x := by cases lb_o; exact Or.inl rfl; exact Or.inr ⟨_, rfl⟩
                rcases hoq with hopt | ⟨x24, hopt⟩
                · skip
                  rw [hopt] at hM_o
                  have hM_o : cIn ws o (.inr (8, [.ref bs_o, .ref js_o, .int jc_o, .ref sh_o, .ref wk_o, va_rf mo_o, .ref ll_o, .int lc_o, .null])) := hM_o
                  have hl0 := hlb9.nil hopt
                  refine t_get (v := .null) (C := RX9) (T := TX9) (N := 9) hx hb hts (by decide +kernel) hown hK hP hM_o rfl 8 (by decide) (hts (.fieldLink RX9 49 "ShadowBench" "listBoard" "LShadowBench$Board;") (by decide +kernel)) (fun _ h9 => h9) rfl dX9_tellsListApart_24 ?_
                  refine lv_ifnullN (tgt := 53) hx hb dX9_tellsListApart_27 (by decide) ?_
                  refine lv_iconst (v := 0) hx hb dX9_tellsListApart_53 (by decide) ?_
                  exact W.zret (v := (0 : Int32)) hx hb hr (by decide) (fun t ht hW => ⟨⟨_, (G, ws), rfl, ⟨rfl, Or.inr ⟨rfl, (fun z9 => by first | (exfalso; omega) | (obtain ⟨j9, h9, y9⟩ := z9 k i (by omega) (by omega); rcases q47 with ⟨k8, h8, e8, -, -⟩ | ⟨e8, y8⟩; (have z8 : (nI k8).toInt = (k8 : Int) := nI_toInt (by omega)); (rw [e8] at d50; omega); exact y8 j9 h9 y9))⟩⟩, by show va_P D vwCl ws t.heap; rw [ht]; exact hP, hD, hT⟩, hS.F ht⟩) hS.2.2 dX9_tellsListApart_54
                · skip
                  obtain ⟨wx24, hx24, hG_x24⟩ := hlb_o x24 hopt
                  rw [hopt] at hM_o
                  have hM_o : cIn ws o (.inr (8, [.ref bs_o, .ref js_o, .int jc_o, .ref sh_o, .ref wk_o, va_rf mo_o, .ref ll_o, .int lc_o, .ref x24])) := hM_o
                  have hl1 := hlb9.one hopt hG_x24
                  refine t_get (v := .ref x24) (C := RX9) (T := TX9) (N := 9) hx hb hts (by decide +kernel) hown hK hP hM_o rfl 8 (by decide) (hts (.fieldLink RX9 49 "ShadowBench" "listBoard" "LShadowBench$Board;") (by decide +kernel)) (fun _ h9 => h9) rfl dX9_tellsListApart_24 ?_
                  refine lv_ifnull hx hb dX9_tellsListApart_27 ?_
                  refine lv_aload_n hx hb dX9_tellsListApart_30 rfl (lv_at hl 2 rfl) ?_
                  refine t_get (v := .ref x24) (C := RX9) (T := TX9) (N := 9) hx hb hts (by decide +kernel) hown hK hP hM_o rfl 8 (by decide) (hts (.fieldLink RX9 49 "ShadowBench" "listBoard" "LShadowBench$Board;") (by decide +kernel)) (fun _ h9 => h9) rfl dX9_tellsListApart_31 ?_
                  refine lv_aload_n hx hb dX9_tellsListApart_34 rfl (lv_at hl 2 rfl) ?_
                  refine t_get (v := .ref ll_o) (C := RX9) (T := TX9) (N := 9) hx hb hts (by decide +kernel) hown hK hP hM_o rfl 6 (by decide) (hts (.fieldLink RX9 42 "ShadowBench" "listed" "[J") (by decide +kernel)) (fun _ h9 => h9) rfl dX9_tellsListApart_35 ?_
                  refine lv_iload_n hx hb dX9_tellsListApart_38 rfl (lv_at hl 1 rfl) ?_
                  refine t_laldM hx hb hK hP hM_ll_o (vp_in_iff.mpr ⟨by omega, by omega⟩) dX9_tellsListApart_39 ?_
                  refine lv_topl (fun v39 e39 => ?_)
                  have f39 : v39 = fl k := by rw [e39, nI_clamp (by omega)]
                  refine lv_aload_n hx hb dX9_tellsListApart_40 rfl (lv_at hl 2 rfl) ?_
                  refine t_get (v := .ref ll_o) (C := RX9) (T := TX9) (N := 9) hx hb hts (by decide +kernel) hown hK hP hM_o rfl 6 (by decide) (hts (.fieldLink RX9 42 "ShadowBench" "listed" "[J") (by decide +kernel)) (fun _ h9 => h9) rfl dX9_tellsListApart_41 ?_
                  refine lv_iload_n hx hb dX9_tellsListApart_44 rfl (lv_at hl 0 rfl) ?_
                  refine t_laldM hx hb hK hP hM_ll_o (vp_in_iff.mpr ⟨by omega, by omega⟩) dX9_tellsListApart_45 ?_
                  refine lv_topl (fun v45 e45 => ?_)
                  have f45 : v45 = fl i := by rw [e45, nI_clamp (by omega)]
                  refine lv_iload_n hx hb dX9_tellsListApart_46 rfl (lv_at hl 3 rfl) ?_
                  obtain ⟨_, hM_x24, hb_x24, l_x24, f_x24, r_x24, rfl, hG_l_x24, hG_f_x24, hG_r_x24⟩ := hT _ _ hG_x24
                  refine t_calli (va_runV (g := F0 m 47 ls ([.int set, .long v45, .long v39, .ref x24])) (As := [.long v39, .long v45, .int set]) (rest := []) ⟨hx, hb, hml, hown, hts⟩ (c_X0_firstUnlikeWay_x l D cy A G ws x24 v39 v45 set hD hT hG_x24 ) (cwV 3 hts gX9_tellsListApart_X0_firstUnlikeWay rfl rfl rfl (by decide +kernel) ⟨Nat.le_of_ble_eq_true rfl, Nat.le_of_ble_eq_true rfl⟩) (c_preV hM_x24 rfl hP hK hA hS hV) rfl rfl hl.1 rfl (lv_room (Nat.le_of_ble_eq_true rfl)) dX9_tellsListApart_47 ⟨Nat.le_of_ble_eq_true rfl, Nat.le_of_ble_eq_true rfl⟩) hS (fun r47 u H locs q47 hP9 hD9 hT9 hS => ?_)
                  obtain ⟨rfl, q47⟩ := q47
                  have hP : va_P D vwCl ws H := hP9
                  rw [hl1.2.1, hl1.2.2, f39, f45] at q47
                  refine lv_if_ge (tgt := 55) hx hb dX9_tellsListApart_50 (by decide) (fun c50 => ?_) (fun c50 => ?_)
                  · skip
                    have d50 := c50
                    rw [fa_le] at d50
                    refine lv_iinc (v := (nI (i + 1))) (lv' := [(3, .int (nI (i + 1))), (2, .int (nI k)), (0, .ref o), (1, .int set)]) hx hb dX9_tellsListApart_55 hl (k := 0) rfl (nI_1 _) (by decide) rfl (fun ls hl => ?_)
                    refine lv_goto (tgt := 18) hx hb dX9_tellsListApart_58 (by decide) ?_
                    exact ih_18 (i + 1) (by omega) (fun b h1 => by
            by_cases e9 : b = i
            · rw [e9]
              rcases q47 with ⟨k8, h8, e8, y8, -⟩ | ⟨e8, y8⟩
              · exact ⟨k8, h8, y8⟩
              · exfalso
                rw [e8] at d50
                have z8 : (-1 : Int32).toInt = -1 := rfl
                omega
            · exact j18_1 b (by omega)) (by omega) _ _ hP hS  ls (lv_sub hl [0, 1, 2, 3] rfl)
                  · skip
                    have d50 := c50
                    rw [fa_le] at d50
                    refine lv_iconst (v := 0) hx hb dX9_tellsListApart_53 (by decide) ?_
                    exact W.zret (v := (0 : Int32)) hx hb hr (by decide) (fun t ht hW => ⟨⟨_, (G, ws), rfl, ⟨rfl, Or.inr ⟨rfl, (fun z9 => by first | (exfalso; omega) | (obtain ⟨j9, h9, y9⟩ := z9 k i (by omega) (by omega); rcases q47 with ⟨k8, h8, e8, -, -⟩ | ⟨e8, y8⟩; (have z8 : (nI k8).toInt = (k8 : Int) := nI_toInt (by omega)); (rw [e8] at d50; omega); exact y8 j9 h9 y9))⟩⟩, by show va_P D vwCl ws t.heap; rw [ht]; exact hP, hD, hT⟩, hS.F ht⟩) hS.2.2 dX9_tellsListApart_54
          exact loop_18 (12 + 1) 0 (by omega) (fun b h => absurd h (Nat.not_lt_zero _)) (by omega) _ _ hP hS  ls (lv_sub hl [0, 1, 2, 3] rfl)
  exact loop_2 (12 + 1) 1 (by omega) (fun a b h1 h2 => by omega) (by omega) _ _ hP hS  ls (lv_sub hl [0, 1, 2] rfl)
set_option maxHeartbeats 4000000 in
set_option maxRecDepth 100000 in
theorem c_X9_ways_x (l : Launch) (D : va_G) (cy : Nat → ClassId) (A : Nat → Prop) (G : cG) (ws : va_W) (o : Nat) {bs_o js_o sh_o wk_o ll_o : Nat} {jc_o lc_o : Int32} {mo_o lb_o : Option Nat} {fl : Nat → Int64} {lw lh : Nat} (hD : va_D A ws) (hT : cT cy G ws) (hG_o : G o = some (7, 0, 0)) (hM_o : cIn ws o (.inr (8, [.ref bs_o, .ref js_o, .int jc_o, .ref sh_o, .ref wk_o, va_rf mo_o, .ref ll_o, .int lc_o, va_rf lb_o]))) (hM_ll_o : cIn ws ll_o (.inl (cy 1, 12, .inr (.inl fl)))) (hlb9 : lsB G lb_o lc_o lw lh) : Ci l D cy A yX9_ways wsX9_ways ({ frames := 5, cells := 0, slots := 0, locals := 121 }) 0 0 ws [.ref o] (fun r0 u => u = (G, ws) ∧ (wyA (fun s => telA fl lc_o lw lh (nI s)) r0)) := by
  refine Met.ofW (cc := cX9_ways) (maxL := 3) (ret := (some .int)) (by decide) rfl ?_
  intro p e s m args below meth c s₁ B hml hv
  obtain ⟨rfl, hP, hK, hA, hV⟩ := hv
  have hx := B.exec
  have hb := B.bytes
  have hr := B.returns
  have hts := atoms_spec (ws := wsX9_ways) B.pre
  have hown : s.vm.findClass RX9 = some m.cls := findClass_of_methodNamed B.named
  have hlocks := B.notSynchronized
  have hS : va_S A s.heap s.heap [] := va_S.rf
  have hl := lv_entry ([.ref o]) (n := 3) (Nat.le_of_ble_eq_true rfl)
  rw [lg_entry_eq]
  generalize (lg_sl ([.ref o]) ++ List.replicate (3 - (lg_sl ([.ref o])).length) Slot.unset).toArray = ls at hl ⊢
  have hl : lv_has ls 3 [(0, .ref o)] := hl
  have k_m2 : (-2 : Int32).toInt = -2 := by decide
  have k_0 : (0 : Int32).toInt = 0 := by decide
  have k_4 : (4 : Int32).toInt = 4 := by decide
  have k_16 : (16 : Int32).toInt = 16 := by decide
  obtain ⟨hjc_o, hlc_o, hG_bs_o, hG_js_o, hG_sh_o, hG_wk_o, hmo_o, hG_ll_o, hlb_o⟩ := w7sh hD hT hG_o hM_o
  refine lv_iconst (v := 0) hx hb dX9_ways_0 (by decide) ?_
  refine lv_istore_n (lv' := [(1, .int (0 : Int32)), (0, .ref o)]) hx hb dX9_ways_1 rfl hl (by decide) rfl (fun ls hl => ?_)
  have loop_2 : ∀ (n : Nat) (k : Nat), (k ≤ 5) → (∀ m t, m < k → t < 16 → ¬ (pc4 t = m ∧ telA fl lc_o lw lh (nI t))) → 5 - k < n → ∀ (H : Heap) (locs : List Loc), va_P D vwCl ws H → va_S A s.heap H locs → ∀ (ls : Array Slot), lv_has ls 3 [(1, .int (nI k)), (0, .ref o)] → W p l e (headSpec wsX9_ways ({ frames := 5, cells := 0, slots := 0, locals := 121 })).room s m #[Value.ref o] below meth c H locs 0 0 (MQ below (va_Qi (fun r0 u => u = (G, ws) ∧ (wyA (fun s => telA fl lc_o lw lh (nI s)) r0)) (cB D cy A) A) #[Value.ref o] s 0 0 A) (F0 m 2 ls []) := by
    intro n
    induction n with
    | zero => intro k j2_0 j2_1 hn; exact absurd hn (Nat.not_lt_zero _)
    | succ n ih_2 =>
      intro k j2_0 j2_1 hn_2 H locs hP hS  ls hl
      have ik : (nI k).toInt = (k : Int) := nI_toInt (by omega)
      refine lv_iload_n hx hb dX9_ways_2 rfl (lv_at hl 0 rfl) ?_
      refine lv_iconst (v := 4) hx hb dX9_ways_3 (by decide) ?_
      refine lv_icmp_gt (tgt := 45) hx hb dX9_ways_4 (by decide) (fun c4 => ?_) (fun c4 => ?_)
      · skip
        have d4 := c4
        rw [fa_lt] at d4
        refine lv_bipush (v := (-2)) hx hb dX9_ways_45 (by decide) ?_
        exact W.iret (v := ((-2) : Int32)) hx hb hr (fun t ht hW => ⟨⟨_, (G, ws), rfl, ⟨rfl, (Or.inr ⟨rfl, fun m9 t9 h9 h8 => j2_1 m9 t9 (by omega) h8⟩)⟩, by show va_P D vwCl ws t.heap; rw [ht]; exact hP, hD, hT⟩, hS.F ht⟩) hS.2.2 dX9_ways_47
      · skip
        have d4 := c4
        rw [fa_lt] at d4
        refine lv_iconst (v := 0) hx hb dX9_ways_7 (by decide) ?_
        refine lv_istore_n (lv' := [(2, .int (0 : Int32)), (1, .int (nI k)), (0, .ref o)]) hx hb dX9_ways_8 rfl hl (by decide) rfl (fun ls hl => ?_)
        have loop_9 : ∀ (n : Nat) (i : Nat), (i ≤ 16) → (∀ t, t < i → ¬ (pc4 t = k ∧ telA fl lc_o lw lh (nI t))) → 16 - i < n → ∀ (H : Heap) (locs : List Loc), va_P D vwCl ws H → va_S A s.heap H locs → ∀ (ls : Array Slot), lv_has ls 3 [(2, .int (nI i)), (1, .int (nI k)), (0, .ref o)] → W p l e (headSpec wsX9_ways ({ frames := 5, cells := 0, slots := 0, locals := 121 })).room s m #[Value.ref o] below meth c H locs 0 0 (MQ below (va_Qi (fun r0 u => u = (G, ws) ∧ (wyA (fun s => telA fl lc_o lw lh (nI s)) r0)) (cB D cy A) A) #[Value.ref o] s 0 0 A) (F0 m 9 ls []) := by
          intro n
          induction n with
          | zero => intro i j9_0 j9_1 hn; exact absurd hn (Nat.not_lt_zero _)
          | succ n ih_9 =>
            intro i j9_0 j9_1 hn_9 H locs hP hS  ls hl
            have ii : (nI i).toInt = (i : Int) := nI_toInt (by omega)
            refine lv_iload_n hx hb dX9_ways_9 rfl (lv_at hl 0 rfl) ?_
            refine lv_bipush (v := 16) hx hb dX9_ways_10 (by decide) ?_
            refine lv_icmp_ge (tgt := 39) hx hb dX9_ways_12 (by decide) (fun c12 => ?_) (fun c12 => ?_)
            · skip
              have d12 := c12
              rw [fa_le] at d12
              refine lv_iinc (v := (nI (k + 1))) (lv' := [(1, .int (nI (k + 1))), (2, .int (nI i)), (0, .ref o)]) hx hb dX9_ways_39 hl (k := 1) rfl (nI_1 _) (by decide) rfl (fun ls hl => ?_)
              refine lv_goto (tgt := 2) hx hb dX9_ways_42 (by decide) ?_
              exact ih_2 (k + 1) (by omega) (fun m t h1 h2 => by
            by_cases e9 : m = k
            · rw [e9]; exact j9_1 t (by omega)
            · exact j2_1 m t (by omega) h2) (by omega) _ _ hP hS  ls (lv_sub hl [0, 2] rfl)
            · skip
              have d12 := c12
              rw [fa_le] at d12
              refine lv_iload_n hx hb dX9_ways_15 rfl (lv_at hl 0 rfl) ?_
              refine t_pu (As := [.int (nI i)]) (rest := []) ⟨hx, hb, hml, hown, hts⟩ (c_J6_x l (nI i) (by omega)) (va_cwS 1 hts gX9_ways_J6_bitCount_0f7a4 rfl rfl rfl (by decide +kernel) ⟨Nat.le_of_ble_eq_true rfl, Nat.le_of_ble_eq_true rfl⟩) hP rfl hl.1 rfl (Nat.le_of_ble_eq_true rfl) dX9_ways_16 ⟨Nat.le_of_ble_eq_true rfl, Nat.le_of_ble_eq_true rfl⟩ hS (fun r16 H locs q16 hP hS => ?_)
              have f16 : r16 = nI (pc4 i) := by rw [q16, nI_clamp (by omega)]
              have b16 := pc4_le i
              have g16 : r16 = nI k ↔ pc4 i = k := by rw [f16]; exact nI_eq (by omega) (by omega)
              refine lv_iload_n hx hb dX9_ways_19 rfl (lv_at hl 1 rfl) ?_
              refine lv_icmp_ne (tgt := 33) hx hb dX9_ways_20 (by decide) (fun c20 => ?_) (fun c20 => ?_)
              · skip
                have d20 := c20
                rw [fa_eq] at d20
                refine lv_iinc (v := (nI (i + 1))) (lv' := [(2, .int (nI (i + 1))), (1, .int (nI k)), (0, .ref o)]) hx hb dX9_ways_33 hl (k := 0) rfl (nI_1 _) (by decide) rfl (fun ls hl => ?_)
                refine lv_goto (tgt := 9) hx hb dX9_ways_36 (by decide) ?_
                exact ih_9 (i + 1) (by omega) (fun t h1 => by
            by_cases e9 : t = i
            · rw [e9]; first | exact fun z9 => c20 (g16.mpr z9.1) | exact fun z9 => b28 z9.2
            · exact j9_1 t (by omega)) (by omega) _ _ hP hS  ls (lv_sub hl [0, 1, 2] rfl)
              · skip
                have d20 := c20
                rw [fa_eq] at d20
                refine lv_aload_n hx hb dX9_ways_23 rfl (lv_at hl 2 rfl) ?_
                refine lv_iload_n hx hb dX9_ways_24 rfl (lv_at hl 0 rfl) ?_
                refine t_calli (va_runV (g := F0 m 25 ls ([.int (nI i), .ref o])) (As := [.int (nI i)]) (rest := []) ⟨hx, hb, hml, hown, hts⟩ (c_X9_tellsListApart_x l D cy A G ws o (nI i) hD hT hG_o hM_o hM_ll_o hlb9) (cwV 1 hts gX9_ways_X9_tellsListApart rfl rfl rfl (by decide +kernel) ⟨Nat.le_of_ble_eq_true rfl, Nat.le_of_ble_eq_true rfl⟩) (c_preV hM_o rfl hP hK hA hS hV) rfl rfl hl.1 rfl (lv_room (Nat.le_of_ble_eq_true rfl)) dX9_ways_25 ⟨Nat.le_of_ble_eq_true rfl, Nat.le_of_ble_eq_true rfl⟩) hS (fun r25 u H locs q25 hP9 hD9 hT9 hS => ?_)
                obtain ⟨rfl, q25⟩ := q25
                have hP : va_P D vwCl ws H := hP9
                refine lv_if_eq (tgt := 33) hx hb dX9_ways_28 (by decide) (fun c28 => ?_) (fun c28 => ?_)
                · skip
                  have b28 := bo_f q25 c28
                  refine lv_iinc (v := (nI (i + 1))) (lv' := [(2, .int (nI (i + 1))), (1, .int (nI k)), (0, .ref o)]) hx hb dX9_ways_33 hl (k := 0) rfl (nI_1 _) (by decide) rfl (fun ls hl => ?_)
                  refine lv_goto (tgt := 9) hx hb dX9_ways_36 (by decide) ?_
                  exact ih_9 (i + 1) (by omega) (fun t h1 => by
            by_cases e9 : t = i
            · rw [e9]; first | exact fun z9 => c20 (g16.mpr z9.1) | exact fun z9 => b28 z9.2
            · exact j9_1 t (by omega)) (by omega) _ _ hP hS  ls (lv_sub hl [0, 1, 2] rfl)
                · skip
                  have b28 := bo_t q25 c28
                  refine lv_iload_n hx hb dX9_ways_31 rfl (lv_at hl 0 rfl) ?_
                  exact W.iret (v := (nI i)) hx hb hr (fun t ht hW => ⟨⟨_, (G, ws), rfl, ⟨rfl, (Or.inl ⟨k, i, (by omega), (by omega), ⟨g16.mp c20, b28⟩, rfl, j2_1, j9_1⟩)⟩, by show va_P D vwCl ws t.heap; rw [ht]; exact hP, hD, hT⟩, hS.F ht⟩) hS.2.2 dX9_ways_32
        exact loop_9 (16 + 1) 0 (by omega) (fun t h => absurd h (Nat.not_lt_zero _)) (by omega) _ _ hP hS  ls (lv_sub hl [0, 1, 2] rfl)
  exact loop_2 (5 + 1) 0 (by omega) (fun m t h => absurd h (Nat.not_lt_zero _)) (by omega) _ _ hP hS  ls (lv_sub hl [0, 1] rfl)

set_option maxHeartbeats 4000000 in
set_option maxRecDepth 100000 in
theorem c_X10_list_x (l : Launch) (D : va_G) (cy : Nat → ClassId) (mo : Nat) (a : Nat → Nat) (f : Nat → Int32) (g : Nat → Int64) (r : Nat → Nat → Int32) (q : Nat → Nat → Int64) (w : Int32) (h : Int32) (p0 : Int64) (hD : DM cy mo a) (hI : MI f r) : Mi l D cy mo a yX10_list wsX10_list ({ frames := 3, cells := 0, slots := 0, locals := 69 }) f g r q [.int w, .int h, .long p0] (fun r0 u => ∃ (lc : Int32), ∃ (lw : Int32), ∃ (lh : Int32), ∃ (ls1 : Nat → Int64), u = ((upd (upd (upd (upd f 0 (0 : Int32)) 23 lc) 24 lw) 25 lh), g, r, (va_up q 26 ls1)) ∧ (lsA (q 26) (f 23) (f 24).toNatClampNeg (f 25).toNatClampNeg w h p0 r0 ∧ ((lsG (q 26) (f 23) (f 24).toNatClampNeg (f 25).toNatClampNeg w h p0 ∧ lc.toInt = (f 23).toInt + 1 ∧ lw = w ∧ lh = h ∧ ls1 = vp_updL (q 26) (f 23).toNatClampNeg p0) ∨ (¬ lsG (q 26) (f 23) (f 24).toNatClampNeg (f 25).toNatClampNeg w h p0 ∧ lc = f 23 ∧ lw = f 24 ∧ lh = f 25 ∧ ls1 = q 26)) ∧ MI (upd (upd (upd (upd f 0 (0 : Int32)) 23 lc) 24 lw) 25 lh) r)) := by
  refine Met.ofW (cc := cX10_list) (maxL := 7) (ret := (some .int)) (by decide) rfl ?_
  intro p e s m args below meth c s₁ B hml hv
  obtain ⟨rfl, hP, hK⟩ := hv
  have hx := B.exec
  have hb := B.bytes
  have hr := B.returns
  have hts := atoms_spec (ws := wsX10_list) B.pre
  have hin : ∀ w ∈ u_ws RX10 TX10 35, w ∈ wsX10_list := by decide +kernel
  have hown : s.vm.findClass RX10 = some m.cls := findClass_of_methodNamed B.named
  have hlocks := B.notSynchronized
  have hS : va_S (AM mo a) s.heap s.heap [] := va_S.rf
  have hl := lv_entry ([.ref mo, .int w, .int h, .long p0]) (n := 7) (Nat.le_of_ble_eq_true rfl)
  rw [lg_entry_eq]
  generalize (lg_sl ([.ref mo, .int w, .int h, .long p0]) ++ List.replicate (7 - (lg_sl ([.ref mo, .int w, .int h, .long p0])).length) Slot.unset).toArray = ls at hl ⊢
  have hl : lv_has ls 7 [(0, .ref mo), (1, .int w), (2, .int h), (3, .long p0)] := hl
  have k_m3 : (-3 : Int32).toInt = -3 := by decide
  have k_m2 : (-2 : Int32).toInt = -2 := by decide
  have k_m1 : (-1 : Int32).toInt = -1 := by decide
  have k_0 : (0 : Int32).toInt = 0 := by decide
  have k_1 : (1 : Int32).toInt = 1 := by decide
  have k_12 : (12 : Int32).toInt = 12 := by decide
  have hI1 := hI.2.2.1
  refine lv_aload_n hx hb dX10_list_0 rfl (lv_at hl 0 rfl) ?_
  refine lv_iconst (v := 0) hx hb dX10_list_1 (by decide) ?_
  refine m_put (v := .int (0 : Int32)) (ty := .int) hx hb hts hin hown hK hP hD hS 0 (by decide) rfl (hts (.fieldLink RX10 79 "ShadowBenchModel" "thrown" "I") (by decide +kernel)) rfl (by decide +kernel) rfl rfl (upd f 0 (0 : Int32)) g rfl dX10_list_2 (fun H locs hP hS => ?_)
  refine lv_iload_n hx hb dX10_list_5 rfl (lv_at hl 1 rfl) ?_
  refine lv_iload_n hx hb dX10_list_6 rfl (lv_at hl 2 rfl) ?_
  refine lv_lload_n hx hb dX10_list_7 rfl (lv_at hl 3 rfl) ?_
  refine m_pu (As := [.int w, .int h, .long p0]) (rest := []) ⟨hx, hb, hml, hown, hts⟩ (c_X10_isPicture l w h p0 ) (va_cwS 3 hts gX10_list_X10_isPicture rfl rfl rfl (by decide +kernel) ⟨Nat.le_of_ble_eq_true rfl, Nat.le_of_ble_eq_true rfl⟩) hP rfl hl.1 rfl (Nat.le_of_ble_eq_true rfl) dX10_list_8 ⟨Nat.le_of_ble_eq_true rfl, Nat.le_of_ble_eq_true rfl⟩ hS (fun r8 H locs q8 hP hS => ?_)
  refine lv_if_ne (tgt := 16) hx hb dX10_list_11 (by decide) (fun c11 => ?_) (fun c11 => ?_)
  · skip
    have b11 := bo_t q8 c11
    refine lv_aload_n hx hb dX10_list_16 rfl (lv_at hl 0 rfl) ?_
    refine m_get (v := .int (f 23)) hx hb hts hin hown hK hP 23 (by decide) rfl (hts (.fieldLink RX10 230 "ShadowBenchModel" "listed" "I") (by decide +kernel)) rfl dX10_list_17 ?_
    refine lv_bipush (v := 12) hx hb dX10_list_20 (by decide) ?_
    refine lv_icmp_ne (tgt := 28) hx hb dX10_list_22 (by decide) (fun c22 => ?_) (fun c22 => ?_)
    · skip
      have d22 := c22
      rw [fa_eq] at d22
      refine lv_aload_n hx hb dX10_list_28 rfl (lv_at hl 0 rfl) ?_
      refine m_get (v := .int (f 23)) hx hb hts hin hown hK hP 23 (by decide) rfl (hts (.fieldLink RX10 230 "ShadowBenchModel" "listed" "I") (by decide +kernel)) rfl dX10_list_29 ?_
      refine lv_if_le (tgt := 55) hx hb dX10_list_32 (by decide) (fun c32 => ?_) (fun c32 => ?_)
      · skip
        have d32 := c32
        rw [fa_le] at d32
        refine lv_iconst (v := 0) hx hb dX10_list_55 (by decide) ?_
        refine lv_istore (lv' := [(5, .int (0 : Int32)), (0, .ref mo), (1, .int w), (2, .int h), (3, .long p0)]) hx hb dX10_list_56 hl (by decide) rfl (fun ls hl => ?_)
        refine lv_iconst (v := 0) hx hb dX10_list_58 (by decide) ?_
        refine lv_istore (lv' := [(6, .int (0 : Int32)), (5, .int (0 : Int32)), (0, .ref mo), (1, .int w), (2, .int h), (3, .long p0)]) hx hb dX10_list_59 hl (by decide) rfl (fun ls hl => ?_)
        have loop_61 : ∀ (n : Nat) (k : Nat) (x5 : Int32), (k ≤ 12 ∧ (k : Int) ≤ (f 23).toInt) → ((x5 = 1 ∧ (lsO (f 23) (f 24).toNatClampNeg (f 25).toNatClampNeg w h ∨ ∃ j, j < k ∧ q 26 j = p0)) ∨ (x5 = 0 ∧ ¬ lsO (f 23) (f 24).toNatClampNeg (f 25).toNatClampNeg w h ∧ ∀ j, j < k → ¬ q 26 j = p0)) → 12 - k < n → ∀ (H : Heap) (locs : List Loc), va_P D vwCl (WM cy mo a (upd f 0 (0 : Int32)) g r q) H → va_S (AM mo a) s.heap H locs → ∀ (ls : Array Slot), lv_has ls 7 [(6, .int (nI k)), (5, .int x5), (0, .ref mo), (1, .int w), (2, .int h), (3, .long p0)] → W p l e (headSpec wsX10_list ({ frames := 3, cells := 0, slots := 0, locals := 69 })).room s m #[Value.ref mo, Value.int w, Value.int h, Value.long p0] below meth c H locs 0 0 (MQ below (va_Qi (fun r0 u => ∃ (lc : Int32), ∃ (lw : Int32), ∃ (lh : Int32), ∃ (ls1 : Nat → Int64), u = ((upd (upd (upd (upd f 0 (0 : Int32)) 23 lc) 24 lw) 25 lh), g, r, (va_up q 26 ls1)) ∧ (lsA (q 26) (f 23) (f 24).toNatClampNeg (f 25).toNatClampNeg w h p0 r0 ∧ ((lsG (q 26) (f 23) (f 24).toNatClampNeg (f 25).toNatClampNeg w h p0 ∧ lc.toInt = (f 23).toInt + 1 ∧ lw = w ∧ lh = h ∧ ls1 = vp_updL (q 26) (f 23).toNatClampNeg p0) ∨ (¬ lsG (q 26) (f 23) (f 24).toNatClampNeg (f 25).toNatClampNeg w h p0 ∧ lc = f 23 ∧ lw = f 24 ∧ lh = f 25 ∧ ls1 = q 26)) ∧ MI (upd (upd (upd (upd f 0 (0 : Int32)) 23 lc) 24 lw) 25 lh) r)) (mB D cy mo a) (AM mo a)) #[Value.ref mo, Value.int w, Value.int h, Value.long p0] s 0 0 (AM mo a)) (F0 m 61 ls []) := by
          intro n
          induction n with
          | zero => intro k x5  j61_0 j61_1 hn; exact absurd hn (Nat.not_lt_zero _)
          | succ n ih_61 =>
            intro k x5  j61_0 j61_1 hn_61 H locs hP hS ls hl
            have ik : (nI k).toInt = (k : Int) := nI_toInt (by omega)
            refine lv_iload hx hb dX10_list_61 (lv_at hl 0 rfl) ?_
            refine lv_aload_n hx hb dX10_list_63 rfl (lv_at hl 2 rfl) ?_
            refine m_get (v := .int (f 23)) hx hb hts hin hown hK hP 23 (by decide) rfl (hts (.fieldLink RX10 230 "ShadowBenchModel" "listed" "I") (by decide +kernel)) rfl dX10_list_64 ?_
            refine lv_icmp_ge (tgt := 100) hx hb dX10_list_67 (by decide) (fun c67 => ?_) (fun c67 => ?_)
            · skip
              have d67 := c67
              rw [fa_le] at d67
              refine lv_iload hx hb dX10_list_100 (lv_at hl 1 rfl) ?_
              refine lv_if_eq (tgt := 108) hx hb dX10_list_102 (by decide) (fun c102 => ?_) (fun c102 => ?_)
              · skip
                have d102 := c102
                rw [fa_eq] at d102
                refine lv_aload_n hx hb dX10_list_108 rfl (lv_at hl 2 rfl) ?_
                refine lv_iload_n hx hb dX10_list_109 rfl (lv_at hl 3 rfl) ?_
                refine m_put (v := .int w) (ty := .int) hx hb hts hin hown hK hP hD hS 24 (by decide) rfl (hts (.fieldLink RX10 233 "ShadowBenchModel" "listWide" "I") (by decide +kernel)) rfl (by decide +kernel) rfl rfl (upd (upd f 0 (0 : Int32)) 24 w) g rfl dX10_list_110 (fun H locs hP hS => ?_)
                refine lv_aload_n hx hb dX10_list_113 rfl (lv_at hl 2 rfl) ?_
                refine lv_iload_n hx hb dX10_list_114 rfl (lv_at hl 4 rfl) ?_
                refine m_put (v := .int h) (ty := .int) hx hb hts hin hown hK hP hD hS 25 (by decide) rfl (hts (.fieldLink RX10 236 "ShadowBenchModel" "listHigh" "I") (by decide +kernel)) rfl (by decide +kernel) rfl rfl (upd (upd (upd f 0 (0 : Int32)) 24 w) 25 h) g rfl dX10_list_115 (fun H locs hP hS => ?_)
                refine lv_aload_n hx hb dX10_list_118 rfl (lv_at hl 2 rfl) ?_
                refine m_get (v := .ref (a 26)) hx hb hts hin hown hK hP 26 (by decide) rfl (hts (.fieldLink RX10 52 "ShadowBenchModel" "list" "[J") (by decide +kernel)) rfl dX10_list_119 ?_
                refine lv_aload_n hx hb dX10_list_122 rfl (lv_at hl 2 rfl) ?_
                refine m_get (v := .int (f 23)) hx hb hts hin hown hK hP 23 (by decide) rfl (hts (.fieldLink RX10 230 "ShadowBenchModel" "listed" "I") (by decide +kernel)) rfl dX10_list_123 ?_
                refine lv_lload_n hx hb dX10_list_126 rfl (lv_at hl 5 rfl) ?_
                refine m_last (w := (q 26)) hx hb hK hP hD hS 14 rfl (vp_in_iff.mpr ⟨by omega, by omega⟩) (va_up q 26 (vp_updL (q 26) (f 23).toNatClampNeg p0)) (ms_26 cy mo a _ _ _ _ _) dX10_list_127 (fun H locs hP hS => ?_)
                refine lv_aload_n hx hb dX10_list_128 rfl (lv_at hl 2 rfl) ?_
                refine lv_dup hx hb dX10_list_129 rfl ?_
                refine m_get (v := .int (f 23)) hx hb hts hin hown hK hP 23 (by decide) rfl (hts (.fieldLink RX10 230 "ShadowBenchModel" "listed" "I") (by decide +kernel)) rfl dX10_list_130 ?_
                refine lv_iconst (v := 1) hx hb dX10_list_133 (by decide) ?_
                refine lv_iadd hx hb dX10_list_134 ?_
                refine lv_topi (fun v134 e134 => ?_)
                have i134 : v134.toInt = (f 23).toInt + (1 : Int32).toInt := by rw [e134]; exact fb_addI (by omega) (by omega)
                refine m_put (v := .int v134) (ty := .int) hx hb hts hin hown hK hP hD hS 23 (by decide) rfl (hts (.fieldLink RX10 230 "ShadowBenchModel" "listed" "I") (by decide +kernel)) rfl (by decide +kernel) rfl rfl (upd (upd (upd (upd f 0 (0 : Int32)) 24 w) 25 h) 23 v134) g rfl dX10_list_135 (fun H locs hP hS => ?_)
                refine lv_aload_n hx hb dX10_list_138 rfl (lv_at hl 2 rfl) ?_
                refine m_get (v := .int v134) hx hb hts hin hown hK hP 23 (by decide) rfl (hts (.fieldLink RX10 230 "ShadowBenchModel" "listed" "I") (by decide +kernel)) rfl dX10_list_139 ?_
                have hP := wm_eq (ec_f_0_24_25_23__0_23_24_25 f (0 : Int32) w h v134) rfl rfl (ec_q_26__26 q ((vp_updL (q 26) (f 23).toNatClampNeg p0))) hP
                exact W.iret (v := v134) hx hb hr (fun t ht hW => ⟨⟨_, ((upd (upd (upd (upd f 0 (0 : Int32)) 23 v134) 24 w) 25 h), g, r, (va_up q 26 (((vp_updL (q 26) (f 23).toNatClampNeg p0))))), rfl, ⟨v134, w, h, ((vp_updL (q 26) (f 23).toNatClampNeg p0)), rfl, ⟨Or.inl ⟨⟨goodP_of b11, (by omega), (by rcases j61_1 with ⟨z9, _⟩ | ⟨_, z9, _⟩; exact absurd (z9.symm.trans c102) (by decide); exact z9), (by rcases j61_1 with ⟨z9, _⟩ | ⟨_, _, z9⟩; exact absurd (z9.symm.trans c102) (by decide); exact fun ⟨j9, h9, y9⟩ => z9 j9 (by omega) y9)⟩, (by omega)⟩, Or.inl ⟨⟨goodP_of b11, (by omega), (by rcases j61_1 with ⟨z9, _⟩ | ⟨_, z9, _⟩; exact absurd (z9.symm.trans c102) (by decide); exact z9), (by rcases j61_1 with ⟨z9, _⟩ | ⟨_, _, z9⟩; exact absurd (z9.symm.trans c102) (by decide); exact fun ⟨j9, h9, y9⟩ => z9 j9 (by omega) y9)⟩, (by omega), rfl, rfl, rfl⟩, (by first | exact hI | exact mi_li hI rfl (show 0 ≤ v134.toInt ∧ v134.toInt ≤ 12 by omega) (fun _ => ⟨show 1 ≤ w.toInt ∧ w.toInt ≤ 6 by omega, show 1 ≤ h.toInt ∧ h.toInt ≤ 6 by omega⟩) rfl rfl rfl rfl)⟩⟩, by unfold mB; rw [ht]; exact hP⟩, hS.F ht⟩) hS.2.2 dX10_list_142
              · skip
                have d102 := c102
                rw [fa_eq] at d102
                refine lv_bipush (v := (-3)) hx hb dX10_list_105 (by decide) ?_
                have hP := wm_eq (ec_f_0__0_23_24_25 f (0 : Int32)) rfl rfl (ec_q___26 q ) hP
                exact W.iret (v := ((-3) : Int32)) hx hb hr (fun t ht hW => ⟨⟨_, ((upd (upd (upd (upd f 0 (0 : Int32)) 23 (f 23)) 24 (f 24)) 25 (f 25)), g, r, (va_up q 26 (q 26))), rfl, ⟨(f 23), (f 24), (f 25), (q 26), rfl, ⟨lsA_3 (goodP_of b11) (by omega) (by rcases j61_1 with ⟨_, z9⟩ | ⟨z9, _⟩; exact z9.imp id (fun ⟨j9, h9, y9⟩ => ⟨j9, (by omega), y9⟩); exact absurd z9 c102), Or.inr ⟨lsG_3 (by rcases j61_1 with ⟨_, z9⟩ | ⟨z9, _⟩; exact z9.imp id (fun ⟨j9, h9, y9⟩ => ⟨j9, (by omega), y9⟩); exact absurd z9 c102), rfl, rfl, rfl, rfl⟩, (by first | exact hI | exact mi_li hI rfl (show 0 ≤ (f 23).toInt ∧ (f 23).toInt ≤ 12 by omega) (fun _ => ⟨show 1 ≤ (f 24).toInt ∧ (f 24).toInt ≤ 6 by omega, show 1 ≤ (f 25).toInt ∧ (f 25).toInt ≤ 6 by omega⟩) rfl rfl rfl rfl)⟩⟩, by unfold mB; rw [ht]; exact hP⟩, hS.F ht⟩) hS.2.2 dX10_list_107
            · skip
              have d67 := c67
              rw [fa_le] at d67
              refine lv_iload hx hb dX10_list_70 (lv_at hl 1 rfl) ?_
              refine lv_if_ne (tgt := 87) hx hb dX10_list_72 (by decide) (fun c72 => ?_) (fun c72 => ?_)
              · skip
                have d72 := c72
                rw [fa_eq] at d72
                refine lv_iconst (v := 1) hx hb dX10_list_87 (by decide) ?_
                refine lv_goto (tgt := 92) hx hb dX10_list_88 (by decide) ?_
                refine lv_istore (lv' := [(5, .int (1 : Int32)), (6, .int (nI k)), (0, .ref mo), (1, .int w), (2, .int h), (3, .long p0)]) hx hb dX10_list_92 hl (by decide) rfl (fun ls hl => ?_)
                refine lv_iinc (v := (nI (k + 1))) (lv' := [(6, .int (nI (k + 1))), (5, .int (1 : Int32)), (0, .ref mo), (1, .int w), (2, .int h), (3, .long p0)]) hx hb dX10_list_94 hl (k := 1) rfl (nI_1 _) (by decide) rfl (fun ls hl => ?_)
                refine lv_goto (tgt := 61) hx hb dX10_list_97 (by decide) ?_
                exact ih_61 (k + 1) (1 : Int32) (by omega) (by
                                                                                          first
                                                                                          | exact Or.inl ⟨rfl, Or.inr ⟨k, by omega, f81.symm.trans ((lg_cmp_eq _ _).mp c84)⟩⟩
                                                                                          | exact Or.inr ⟨rfl, (by rcases j61_1 with ⟨z9, _⟩ | ⟨_, z9, _⟩; exact absurd (z9.symm.trans c72) (by decide); exact z9), fun j hj => by
                                                                                              by_cases e9 : j = k
                                                                                              · rw [e9]; exact fun z9 => c84 ((lg_cmp_eq _ _).mpr (f81.trans z9))
                                                                                              · rcases j61_1 with ⟨z9, _⟩ | ⟨_, _, z9⟩
                                                                                                · exact absurd (z9.symm.trans c72) (by decide)
                                                                                                · exact z9 j (by omega)⟩
                                                                                          | exact Or.inl ⟨rfl, by
                                                                                              rcases j61_1 with ⟨_, z9⟩ | ⟨z9, _⟩
                                                                                              · exact z9.imp id (fun ⟨j9, h9, y9⟩ => ⟨j9, by omega, y9⟩)
                                                                                              · exact absurd z9 c72⟩) (by omega) _ _ hP hS ls (lv_sub hl [0, 1, 2, 3, 4, 5] rfl)
              · skip
                have d72 := c72
                rw [fa_eq] at d72
                refine lv_aload_n hx hb dX10_list_75 rfl (lv_at hl 2 rfl) ?_
                refine m_get (v := .ref (a 26)) hx hb hts hin hown hK hP 26 (by decide) rfl (hts (.fieldLink RX10 52 "ShadowBenchModel" "list" "[J") (by decide +kernel)) rfl dX10_list_76 ?_
                refine lv_iload hx hb dX10_list_79 (lv_at hl 0 rfl) ?_
                refine m_lald (w := (q 26)) hx hb hK hP 14 rfl (vp_in_iff.mpr ⟨by omega, by omega⟩) dX10_list_81 ?_
                refine lv_topl (fun v81 e81 => ?_)
                have f81 : v81 = q 26 k := by rw [e81, nI_clamp (by omega)]
                refine lv_lload_n hx hb dX10_list_82 rfl (lv_at hl 5 rfl) ?_
                refine W.lcmp hx hb dX10_list_83 ?_
                refine lv_if_ne (tgt := 91) hx hb dX10_list_84 (by decide) (fun c84 => ?_) (fun c84 => ?_)
                · skip
                  have d84 := c84
                  rw [lg_cmp_eq, fa_eq64] at d84
                  refine lv_iconst (v := 0) hx hb dX10_list_91 (by decide) ?_
                  refine lv_istore (lv' := [(5, .int (0 : Int32)), (6, .int (nI k)), (0, .ref mo), (1, .int w), (2, .int h), (3, .long p0)]) hx hb dX10_list_92 hl (by decide) rfl (fun ls hl => ?_)
                  refine lv_iinc (v := (nI (k + 1))) (lv' := [(6, .int (nI (k + 1))), (5, .int (0 : Int32)), (0, .ref mo), (1, .int w), (2, .int h), (3, .long p0)]) hx hb dX10_list_94 hl (k := 1) rfl (nI_1 _) (by decide) rfl (fun ls hl => ?_)
                  refine lv_goto (tgt := 61) hx hb dX10_list_97 (by decide) ?_
                  exact ih_61 (k + 1) (0 : Int32) (by omega) (by
                                                                                          first
                                                                                          | exact Or.inl ⟨rfl, Or.inr ⟨k, by omega, f81.symm.trans ((lg_cmp_eq _ _).mp c84)⟩⟩
                                                                                          | exact Or.inr ⟨rfl, (by rcases j61_1 with ⟨z9, _⟩ | ⟨_, z9, _⟩; exact absurd (z9.symm.trans c72) (by decide); exact z9), fun j hj => by
                                                                                              by_cases e9 : j = k
                                                                                              · rw [e9]; exact fun z9 => c84 ((lg_cmp_eq _ _).mpr (f81.trans z9))
                                                                                              · rcases j61_1 with ⟨z9, _⟩ | ⟨_, _, z9⟩
                                                                                                · exact absurd (z9.symm.trans c72) (by decide)
                                                                                                · exact z9 j (by omega)⟩
                                                                                          | exact Or.inl ⟨rfl, by
                                                                                              rcases j61_1 with ⟨_, z9⟩ | ⟨z9, _⟩
                                                                                              · exact z9.imp id (fun ⟨j9, h9, y9⟩ => ⟨j9, by omega, y9⟩)
                                                                                              · exact absurd z9 c72⟩) (by omega) _ _ hP hS ls (lv_sub hl [0, 1, 2, 3, 4, 5] rfl)
                · skip
                  have d84 := c84
                  rw [lg_cmp_eq, fa_eq64] at d84
                  refine lv_iconst (v := 1) hx hb dX10_list_87 (by decide) ?_
                  refine lv_goto (tgt := 92) hx hb dX10_list_88 (by decide) ?_
                  refine lv_istore (lv' := [(5, .int (1 : Int32)), (6, .int (nI k)), (0, .ref mo), (1, .int w), (2, .int h), (3, .long p0)]) hx hb dX10_list_92 hl (by decide) rfl (fun ls hl => ?_)
                  refine lv_iinc (v := (nI (k + 1))) (lv' := [(6, .int (nI (k + 1))), (5, .int (1 : Int32)), (0, .ref mo), (1, .int w), (2, .int h), (3, .long p0)]) hx hb dX10_list_94 hl (k := 1) rfl (nI_1 _) (by decide) rfl (fun ls hl => ?_)
                  refine lv_goto (tgt := 61) hx hb dX10_list_97 (by decide) ?_
                  exact ih_61 (k + 1) (1 : Int32) (by omega) (by
                                                                                          first
                                                                                          | exact Or.inl ⟨rfl, Or.inr ⟨k, by omega, f81.symm.trans ((lg_cmp_eq _ _).mp c84)⟩⟩
                                                                                          | exact Or.inr ⟨rfl, (by rcases j61_1 with ⟨z9, _⟩ | ⟨_, z9, _⟩; exact absurd (z9.symm.trans c72) (by decide); exact z9), fun j hj => by
                                                                                              by_cases e9 : j = k
                                                                                              · rw [e9]; exact fun z9 => c84 ((lg_cmp_eq _ _).mpr (f81.trans z9))
                                                                                              · rcases j61_1 with ⟨z9, _⟩ | ⟨_, _, z9⟩
                                                                                                · exact absurd (z9.symm.trans c72) (by decide)
                                                                                                · exact z9 j (by omega)⟩
                                                                                          | exact Or.inl ⟨rfl, by
                                                                                              rcases j61_1 with ⟨_, z9⟩ | ⟨z9, _⟩
                                                                                              · exact z9.imp id (fun ⟨j9, h9, y9⟩ => ⟨j9, by omega, y9⟩)
                                                                                              · exact absurd z9 c72⟩) (by omega) _ _ hP hS ls (lv_sub hl [0, 1, 2, 3, 4, 5] rfl)
        exact loop_61 (12 + 1) 0 (0 : Int32) (by omega) (by first | exact Or.inr ⟨rfl, (by unfold lsO; omega), fun j hj => absurd hj (Nat.not_lt_zero _)⟩ | exact Or.inl ⟨rfl, Or.inl (by unfold lsO; omega)⟩) (by omega) _ _ hP hS ls (lv_sub hl [0, 1, 2, 3, 4, 5] rfl)
      · skip
        have d32 := c32
        rw [fa_le] at d32
        have hLw := hI.2.2.2.1 (by omega)
        have c24 := m_cl (x := f 24) (by omega)
        have c25 := m_cl (x := f 25) (by omega)
        refine lv_iload_n hx hb dX10_list_35 rfl (lv_at hl 1 rfl) ?_
        refine lv_aload_n hx hb dX10_list_36 rfl (lv_at hl 0 rfl) ?_
        refine m_get (v := .int (f 24)) hx hb hts hin hown hK hP 24 (by decide) rfl (hts (.fieldLink RX10 233 "ShadowBenchModel" "listWide" "I") (by decide +kernel)) rfl dX10_list_37 ?_
        refine lv_icmp_ne (tgt := 51) hx hb dX10_list_40 (by decide) (fun c40 => ?_) (fun c40 => ?_)
        · skip
          have d40 := c40
          rw [fa_eq] at d40
          refine lv_iconst (v := 1) hx hb dX10_list_51 (by decide) ?_
          refine lv_goto (tgt := 56) hx hb dX10_list_52 (by decide) ?_
          refine lv_istore (lv' := [(5, .int (1 : Int32)), (0, .ref mo), (1, .int w), (2, .int h), (3, .long p0)]) hx hb dX10_list_56 hl (by decide) rfl (fun ls hl => ?_)
          refine lv_iconst (v := 0) hx hb dX10_list_58 (by decide) ?_
          refine lv_istore (lv' := [(6, .int (0 : Int32)), (5, .int (1 : Int32)), (0, .ref mo), (1, .int w), (2, .int h), (3, .long p0)]) hx hb dX10_list_59 hl (by decide) rfl (fun ls hl => ?_)
          have loop_61 : ∀ (n : Nat) (k : Nat) (x5 : Int32), (k ≤ 12 ∧ (k : Int) ≤ (f 23).toInt) → ((x5 = 1 ∧ (lsO (f 23) (f 24).toNatClampNeg (f 25).toNatClampNeg w h ∨ ∃ j, j < k ∧ q 26 j = p0)) ∨ (x5 = 0 ∧ ¬ lsO (f 23) (f 24).toNatClampNeg (f 25).toNatClampNeg w h ∧ ∀ j, j < k → ¬ q 26 j = p0)) → 12 - k < n → ∀ (H : Heap) (locs : List Loc), va_P D vwCl (WM cy mo a (upd f 0 (0 : Int32)) g r q) H → va_S (AM mo a) s.heap H locs → ∀ (ls : Array Slot), lv_has ls 7 [(6, .int (nI k)), (5, .int x5), (0, .ref mo), (1, .int w), (2, .int h), (3, .long p0)] → W p l e (headSpec wsX10_list ({ frames := 3, cells := 0, slots := 0, locals := 69 })).room s m #[Value.ref mo, Value.int w, Value.int h, Value.long p0] below meth c H locs 0 0 (MQ below (va_Qi (fun r0 u => ∃ (lc : Int32), ∃ (lw : Int32), ∃ (lh : Int32), ∃ (ls1 : Nat → Int64), u = ((upd (upd (upd (upd f 0 (0 : Int32)) 23 lc) 24 lw) 25 lh), g, r, (va_up q 26 ls1)) ∧ (lsA (q 26) (f 23) (f 24).toNatClampNeg (f 25).toNatClampNeg w h p0 r0 ∧ ((lsG (q 26) (f 23) (f 24).toNatClampNeg (f 25).toNatClampNeg w h p0 ∧ lc.toInt = (f 23).toInt + 1 ∧ lw = w ∧ lh = h ∧ ls1 = vp_updL (q 26) (f 23).toNatClampNeg p0) ∨ (¬ lsG (q 26) (f 23) (f 24).toNatClampNeg (f 25).toNatClampNeg w h p0 ∧ lc = f 23 ∧ lw = f 24 ∧ lh = f 25 ∧ ls1 = q 26)) ∧ MI (upd (upd (upd (upd f 0 (0 : Int32)) 23 lc) 24 lw) 25 lh) r)) (mB D cy mo a) (AM mo a)) #[Value.ref mo, Value.int w, Value.int h, Value.long p0] s 0 0 (AM mo a)) (F0 m 61 ls []) := by
            intro n
            induction n with
            | zero => intro k x5  j61_0 j61_1 hn; exact absurd hn (Nat.not_lt_zero _)
            | succ n ih_61 =>
              intro k x5  j61_0 j61_1 hn_61 H locs hP hS ls hl
              have ik : (nI k).toInt = (k : Int) := nI_toInt (by omega)
              refine lv_iload hx hb dX10_list_61 (lv_at hl 0 rfl) ?_
              refine lv_aload_n hx hb dX10_list_63 rfl (lv_at hl 2 rfl) ?_
              refine m_get (v := .int (f 23)) hx hb hts hin hown hK hP 23 (by decide) rfl (hts (.fieldLink RX10 230 "ShadowBenchModel" "listed" "I") (by decide +kernel)) rfl dX10_list_64 ?_
              refine lv_icmp_ge (tgt := 100) hx hb dX10_list_67 (by decide) (fun c67 => ?_) (fun c67 => ?_)
              · skip
                have d67 := c67
                rw [fa_le] at d67
                refine lv_iload hx hb dX10_list_100 (lv_at hl 1 rfl) ?_
                refine lv_if_eq (tgt := 108) hx hb dX10_list_102 (by decide) (fun c102 => ?_) (fun c102 => ?_)
                · skip
                  have d102 := c102
                  rw [fa_eq] at d102
                  refine lv_aload_n hx hb dX10_list_108 rfl (lv_at hl 2 rfl) ?_
                  refine lv_iload_n hx hb dX10_list_109 rfl (lv_at hl 3 rfl) ?_
                  refine m_put (v := .int w) (ty := .int) hx hb hts hin hown hK hP hD hS 24 (by decide) rfl (hts (.fieldLink RX10 233 "ShadowBenchModel" "listWide" "I") (by decide +kernel)) rfl (by decide +kernel) rfl rfl (upd (upd f 0 (0 : Int32)) 24 w) g rfl dX10_list_110 (fun H locs hP hS => ?_)
                  refine lv_aload_n hx hb dX10_list_113 rfl (lv_at hl 2 rfl) ?_
                  refine lv_iload_n hx hb dX10_list_114 rfl (lv_at hl 4 rfl) ?_
                  refine m_put (v := .int h) (ty := .int) hx hb hts hin hown hK hP hD hS 25 (by decide) rfl (hts (.fieldLink RX10 236 "ShadowBenchModel" "listHigh" "I") (by decide +kernel)) rfl (by decide +kernel) rfl rfl (upd (upd (upd f 0 (0 : Int32)) 24 w) 25 h) g rfl dX10_list_115 (fun H locs hP hS => ?_)
                  refine lv_aload_n hx hb dX10_list_118 rfl (lv_at hl 2 rfl) ?_
                  refine m_get (v := .ref (a 26)) hx hb hts hin hown hK hP 26 (by decide) rfl (hts (.fieldLink RX10 52 "ShadowBenchModel" "list" "[J") (by decide +kernel)) rfl dX10_list_119 ?_
                  refine lv_aload_n hx hb dX10_list_122 rfl (lv_at hl 2 rfl) ?_
                  refine m_get (v := .int (f 23)) hx hb hts hin hown hK hP 23 (by decide) rfl (hts (.fieldLink RX10 230 "ShadowBenchModel" "listed" "I") (by decide +kernel)) rfl dX10_list_123 ?_
                  refine lv_lload_n hx hb dX10_list_126 rfl (lv_at hl 5 rfl) ?_
                  refine m_last (w := (q 26)) hx hb hK hP hD hS 14 rfl (vp_in_iff.mpr ⟨by omega, by omega⟩) (va_up q 26 (vp_updL (q 26) (f 23).toNatClampNeg p0)) (ms_26 cy mo a _ _ _ _ _) dX10_list_127 (fun H locs hP hS => ?_)
                  refine lv_aload_n hx hb dX10_list_128 rfl (lv_at hl 2 rfl) ?_
                  refine lv_dup hx hb dX10_list_129 rfl ?_
                  refine m_get (v := .int (f 23)) hx hb hts hin hown hK hP 23 (by decide) rfl (hts (.fieldLink RX10 230 "ShadowBenchModel" "listed" "I") (by decide +kernel)) rfl dX10_list_130 ?_
                  refine lv_iconst (v := 1) hx hb dX10_list_133 (by decide) ?_
                  refine lv_iadd hx hb dX10_list_134 ?_
                  refine lv_topi (fun v134 e134 => ?_)
                  have i134 : v134.toInt = (f 23).toInt + (1 : Int32).toInt := by rw [e134]; exact fb_addI (by omega) (by omega)
                  refine m_put (v := .int v134) (ty := .int) hx hb hts hin hown hK hP hD hS 23 (by decide) rfl (hts (.fieldLink RX10 230 "ShadowBenchModel" "listed" "I") (by decide +kernel)) rfl (by decide +kernel) rfl rfl (upd (upd (upd (upd f 0 (0 : Int32)) 24 w) 25 h) 23 v134) g rfl dX10_list_135 (fun H locs hP hS => ?_)
                  refine lv_aload_n hx hb dX10_list_138 rfl (lv_at hl 2 rfl) ?_
                  refine m_get (v := .int v134) hx hb hts hin hown hK hP 23 (by decide) rfl (hts (.fieldLink RX10 230 "ShadowBenchModel" "listed" "I") (by decide +kernel)) rfl dX10_list_139 ?_
                  have hP := wm_eq (ec_f_0_24_25_23__0_23_24_25 f (0 : Int32) w h v134) rfl rfl (ec_q_26__26 q ((vp_updL (q 26) (f 23).toNatClampNeg p0))) hP
                  exact W.iret (v := v134) hx hb hr (fun t ht hW => ⟨⟨_, ((upd (upd (upd (upd f 0 (0 : Int32)) 23 v134) 24 w) 25 h), g, r, (va_up q 26 (((vp_updL (q 26) (f 23).toNatClampNeg p0))))), rfl, ⟨v134, w, h, ((vp_updL (q 26) (f 23).toNatClampNeg p0)), rfl, ⟨Or.inl ⟨⟨goodP_of b11, (by omega), (by rcases j61_1 with ⟨z9, _⟩ | ⟨_, z9, _⟩; exact absurd (z9.symm.trans c102) (by decide); exact z9), (by rcases j61_1 with ⟨z9, _⟩ | ⟨_, _, z9⟩; exact absurd (z9.symm.trans c102) (by decide); exact fun ⟨j9, h9, y9⟩ => z9 j9 (by omega) y9)⟩, (by omega)⟩, Or.inl ⟨⟨goodP_of b11, (by omega), (by rcases j61_1 with ⟨z9, _⟩ | ⟨_, z9, _⟩; exact absurd (z9.symm.trans c102) (by decide); exact z9), (by rcases j61_1 with ⟨z9, _⟩ | ⟨_, _, z9⟩; exact absurd (z9.symm.trans c102) (by decide); exact fun ⟨j9, h9, y9⟩ => z9 j9 (by omega) y9)⟩, (by omega), rfl, rfl, rfl⟩, (by first | exact hI | exact mi_li hI rfl (show 0 ≤ v134.toInt ∧ v134.toInt ≤ 12 by omega) (fun _ => ⟨show 1 ≤ w.toInt ∧ w.toInt ≤ 6 by omega, show 1 ≤ h.toInt ∧ h.toInt ≤ 6 by omega⟩) rfl rfl rfl rfl)⟩⟩, by unfold mB; rw [ht]; exact hP⟩, hS.F ht⟩) hS.2.2 dX10_list_142
                · skip
                  have d102 := c102
                  rw [fa_eq] at d102
                  refine lv_bipush (v := (-3)) hx hb dX10_list_105 (by decide) ?_
                  have hP := wm_eq (ec_f_0__0_23_24_25 f (0 : Int32)) rfl rfl (ec_q___26 q ) hP
                  exact W.iret (v := ((-3) : Int32)) hx hb hr (fun t ht hW => ⟨⟨_, ((upd (upd (upd (upd f 0 (0 : Int32)) 23 (f 23)) 24 (f 24)) 25 (f 25)), g, r, (va_up q 26 (q 26))), rfl, ⟨(f 23), (f 24), (f 25), (q 26), rfl, ⟨lsA_3 (goodP_of b11) (by omega) (by rcases j61_1 with ⟨_, z9⟩ | ⟨z9, _⟩; exact z9.imp id (fun ⟨j9, h9, y9⟩ => ⟨j9, (by omega), y9⟩); exact absurd z9 c102), Or.inr ⟨lsG_3 (by rcases j61_1 with ⟨_, z9⟩ | ⟨z9, _⟩; exact z9.imp id (fun ⟨j9, h9, y9⟩ => ⟨j9, (by omega), y9⟩); exact absurd z9 c102), rfl, rfl, rfl, rfl⟩, (by first | exact hI | exact mi_li hI rfl (show 0 ≤ (f 23).toInt ∧ (f 23).toInt ≤ 12 by omega) (fun _ => ⟨show 1 ≤ (f 24).toInt ∧ (f 24).toInt ≤ 6 by omega, show 1 ≤ (f 25).toInt ∧ (f 25).toInt ≤ 6 by omega⟩) rfl rfl rfl rfl)⟩⟩, by unfold mB; rw [ht]; exact hP⟩, hS.F ht⟩) hS.2.2 dX10_list_107
              · skip
                have d67 := c67
                rw [fa_le] at d67
                refine lv_iload hx hb dX10_list_70 (lv_at hl 1 rfl) ?_
                refine lv_if_ne (tgt := 87) hx hb dX10_list_72 (by decide) (fun c72 => ?_) (fun c72 => ?_)
                · skip
                  have d72 := c72
                  rw [fa_eq] at d72
                  refine lv_iconst (v := 1) hx hb dX10_list_87 (by decide) ?_
                  refine lv_goto (tgt := 92) hx hb dX10_list_88 (by decide) ?_
                  refine lv_istore (lv' := [(5, .int (1 : Int32)), (6, .int (nI k)), (0, .ref mo), (1, .int w), (2, .int h), (3, .long p0)]) hx hb dX10_list_92 hl (by decide) rfl (fun ls hl => ?_)
                  refine lv_iinc (v := (nI (k + 1))) (lv' := [(6, .int (nI (k + 1))), (5, .int (1 : Int32)), (0, .ref mo), (1, .int w), (2, .int h), (3, .long p0)]) hx hb dX10_list_94 hl (k := 1) rfl (nI_1 _) (by decide) rfl (fun ls hl => ?_)
                  refine lv_goto (tgt := 61) hx hb dX10_list_97 (by decide) ?_
                  exact ih_61 (k + 1) (1 : Int32) (by omega) (by
                                                                                          first
                                                                                          | exact Or.inl ⟨rfl, Or.inr ⟨k, by omega, f81.symm.trans ((lg_cmp_eq _ _).mp c84)⟩⟩
                                                                                          | exact Or.inr ⟨rfl, (by rcases j61_1 with ⟨z9, _⟩ | ⟨_, z9, _⟩; exact absurd (z9.symm.trans c72) (by decide); exact z9), fun j hj => by
                                                                                              by_cases e9 : j = k
                                                                                              · rw [e9]; exact fun z9 => c84 ((lg_cmp_eq _ _).mpr (f81.trans z9))
                                                                                              · rcases j61_1 with ⟨z9, _⟩ | ⟨_, _, z9⟩
                                                                                                · exact absurd (z9.symm.trans c72) (by decide)
                                                                                                · exact z9 j (by omega)⟩
                                                                                          | exact Or.inl ⟨rfl, by
                                                                                              rcases j61_1 with ⟨_, z9⟩ | ⟨z9, _⟩
                                                                                              · exact z9.imp id (fun ⟨j9, h9, y9⟩ => ⟨j9, by omega, y9⟩)
                                                                                              · exact absurd z9 c72⟩) (by omega) _ _ hP hS ls (lv_sub hl [0, 1, 2, 3, 4, 5] rfl)
                · skip
                  have d72 := c72
                  rw [fa_eq] at d72
                  refine lv_aload_n hx hb dX10_list_75 rfl (lv_at hl 2 rfl) ?_
                  refine m_get (v := .ref (a 26)) hx hb hts hin hown hK hP 26 (by decide) rfl (hts (.fieldLink RX10 52 "ShadowBenchModel" "list" "[J") (by decide +kernel)) rfl dX10_list_76 ?_
                  refine lv_iload hx hb dX10_list_79 (lv_at hl 0 rfl) ?_
                  refine m_lald (w := (q 26)) hx hb hK hP 14 rfl (vp_in_iff.mpr ⟨by omega, by omega⟩) dX10_list_81 ?_
                  refine lv_topl (fun v81 e81 => ?_)
                  have f81 : v81 = q 26 k := by rw [e81, nI_clamp (by omega)]
                  refine lv_lload_n hx hb dX10_list_82 rfl (lv_at hl 5 rfl) ?_
                  refine W.lcmp hx hb dX10_list_83 ?_
                  refine lv_if_ne (tgt := 91) hx hb dX10_list_84 (by decide) (fun c84 => ?_) (fun c84 => ?_)
                  · skip
                    have d84 := c84
                    rw [lg_cmp_eq, fa_eq64] at d84
                    refine lv_iconst (v := 0) hx hb dX10_list_91 (by decide) ?_
                    refine lv_istore (lv' := [(5, .int (0 : Int32)), (6, .int (nI k)), (0, .ref mo), (1, .int w), (2, .int h), (3, .long p0)]) hx hb dX10_list_92 hl (by decide) rfl (fun ls hl => ?_)
                    refine lv_iinc (v := (nI (k + 1))) (lv' := [(6, .int (nI (k + 1))), (5, .int (0 : Int32)), (0, .ref mo), (1, .int w), (2, .int h), (3, .long p0)]) hx hb dX10_list_94 hl (k := 1) rfl (nI_1 _) (by decide) rfl (fun ls hl => ?_)
                    refine lv_goto (tgt := 61) hx hb dX10_list_97 (by decide) ?_
                    exact ih_61 (k + 1) (0 : Int32) (by omega) (by
                                                                                          first
                                                                                          | exact Or.inl ⟨rfl, Or.inr ⟨k, by omega, f81.symm.trans ((lg_cmp_eq _ _).mp c84)⟩⟩
                                                                                          | exact Or.inr ⟨rfl, (by rcases j61_1 with ⟨z9, _⟩ | ⟨_, z9, _⟩; exact absurd (z9.symm.trans c72) (by decide); exact z9), fun j hj => by
                                                                                              by_cases e9 : j = k
                                                                                              · rw [e9]; exact fun z9 => c84 ((lg_cmp_eq _ _).mpr (f81.trans z9))
                                                                                              · rcases j61_1 with ⟨z9, _⟩ | ⟨_, _, z9⟩
                                                                                                · exact absurd (z9.symm.trans c72) (by decide)
                                                                                                · exact z9 j (by omega)⟩
                                                                                          | exact Or.inl ⟨rfl, by
                                                                                              rcases j61_1 with ⟨_, z9⟩ | ⟨z9, _⟩
                                                                                              · exact z9.imp id (fun ⟨j9, h9, y9⟩ => ⟨j9, by omega, y9⟩)
                                                                                              · exact absurd z9 c72⟩) (by omega) _ _ hP hS ls (lv_sub hl [0, 1, 2, 3, 4, 5] rfl)
                  · skip
                    have d84 := c84
                    rw [lg_cmp_eq, fa_eq64] at d84
                    refine lv_iconst (v := 1) hx hb dX10_list_87 (by decide) ?_
                    refine lv_goto (tgt := 92) hx hb dX10_list_88 (by decide) ?_
                    refine lv_istore (lv' := [(5, .int (1 : Int32)), (6, .int (nI k)), (0, .ref mo), (1, .int w), (2, .int h), (3, .long p0)]) hx hb dX10_list_92 hl (by decide) rfl (fun ls hl => ?_)
                    refine lv_iinc (v := (nI (k + 1))) (lv' := [(6, .int (nI (k + 1))), (5, .int (1 : Int32)), (0, .ref mo), (1, .int w), (2, .int h), (3, .long p0)]) hx hb dX10_list_94 hl (k := 1) rfl (nI_1 _) (by decide) rfl (fun ls hl => ?_)
                    refine lv_goto (tgt := 61) hx hb dX10_list_97 (by decide) ?_
                    exact ih_61 (k + 1) (1 : Int32) (by omega) (by
                                                                                          first
                                                                                          | exact Or.inl ⟨rfl, Or.inr ⟨k, by omega, f81.symm.trans ((lg_cmp_eq _ _).mp c84)⟩⟩
                                                                                          | exact Or.inr ⟨rfl, (by rcases j61_1 with ⟨z9, _⟩ | ⟨_, z9, _⟩; exact absurd (z9.symm.trans c72) (by decide); exact z9), fun j hj => by
                                                                                              by_cases e9 : j = k
                                                                                              · rw [e9]; exact fun z9 => c84 ((lg_cmp_eq _ _).mpr (f81.trans z9))
                                                                                              · rcases j61_1 with ⟨z9, _⟩ | ⟨_, _, z9⟩
                                                                                                · exact absurd (z9.symm.trans c72) (by decide)
                                                                                                · exact z9 j (by omega)⟩
                                                                                          | exact Or.inl ⟨rfl, by
                                                                                              rcases j61_1 with ⟨_, z9⟩ | ⟨z9, _⟩
                                                                                              · exact z9.imp id (fun ⟨j9, h9, y9⟩ => ⟨j9, by omega, y9⟩)
                                                                                              · exact absurd z9 c72⟩) (by omega) _ _ hP hS ls (lv_sub hl [0, 1, 2, 3, 4, 5] rfl)
          exact loop_61 (12 + 1) 0 (1 : Int32) (by omega) (by first | exact Or.inr ⟨rfl, (by unfold lsO; omega), fun j hj => absurd hj (Nat.not_lt_zero _)⟩ | exact Or.inl ⟨rfl, Or.inl (by unfold lsO; omega)⟩) (by omega) _ _ hP hS ls (lv_sub hl [0, 1, 2, 3, 4, 5] rfl)
        · skip
          have d40 := c40
          rw [fa_eq] at d40
          refine lv_iload_n hx hb dX10_list_43 rfl (lv_at hl 2 rfl) ?_
          refine lv_aload_n hx hb dX10_list_44 rfl (lv_at hl 0 rfl) ?_
          refine m_get (v := .int (f 25)) hx hb hts hin hown hK hP 25 (by decide) rfl (hts (.fieldLink RX10 236 "ShadowBenchModel" "listHigh" "I") (by decide +kernel)) rfl dX10_list_45 ?_
          refine lv_icmp_eq (tgt := 55) hx hb dX10_list_48 (by decide) (fun c48 => ?_) (fun c48 => ?_)
          · skip
            have d48 := c48
            rw [fa_eq] at d48
            refine lv_iconst (v := 0) hx hb dX10_list_55 (by decide) ?_
            refine lv_istore (lv' := [(5, .int (0 : Int32)), (0, .ref mo), (1, .int w), (2, .int h), (3, .long p0)]) hx hb dX10_list_56 hl (by decide) rfl (fun ls hl => ?_)
            refine lv_iconst (v := 0) hx hb dX10_list_58 (by decide) ?_
            refine lv_istore (lv' := [(6, .int (0 : Int32)), (5, .int (0 : Int32)), (0, .ref mo), (1, .int w), (2, .int h), (3, .long p0)]) hx hb dX10_list_59 hl (by decide) rfl (fun ls hl => ?_)
            have loop_61 : ∀ (n : Nat) (k : Nat) (x5 : Int32), (k ≤ 12 ∧ (k : Int) ≤ (f 23).toInt) → ((x5 = 1 ∧ (lsO (f 23) (f 24).toNatClampNeg (f 25).toNatClampNeg w h ∨ ∃ j, j < k ∧ q 26 j = p0)) ∨ (x5 = 0 ∧ ¬ lsO (f 23) (f 24).toNatClampNeg (f 25).toNatClampNeg w h ∧ ∀ j, j < k → ¬ q 26 j = p0)) → 12 - k < n → ∀ (H : Heap) (locs : List Loc), va_P D vwCl (WM cy mo a (upd f 0 (0 : Int32)) g r q) H → va_S (AM mo a) s.heap H locs → ∀ (ls : Array Slot), lv_has ls 7 [(6, .int (nI k)), (5, .int x5), (0, .ref mo), (1, .int w), (2, .int h), (3, .long p0)] → W p l e (headSpec wsX10_list ({ frames := 3, cells := 0, slots := 0, locals := 69 })).room s m #[Value.ref mo, Value.int w, Value.int h, Value.long p0] below meth c H locs 0 0 (MQ below (va_Qi (fun r0 u => ∃ (lc : Int32), ∃ (lw : Int32), ∃ (lh : Int32), ∃ (ls1 : Nat → Int64), u = ((upd (upd (upd (upd f 0 (0 : Int32)) 23 lc) 24 lw) 25 lh), g, r, (va_up q 26 ls1)) ∧ (lsA (q 26) (f 23) (f 24).toNatClampNeg (f 25).toNatClampNeg w h p0 r0 ∧ ((lsG (q 26) (f 23) (f 24).toNatClampNeg (f 25).toNatClampNeg w h p0 ∧ lc.toInt = (f 23).toInt + 1 ∧ lw = w ∧ lh = h ∧ ls1 = vp_updL (q 26) (f 23).toNatClampNeg p0) ∨ (¬ lsG (q 26) (f 23) (f 24).toNatClampNeg (f 25).toNatClampNeg w h p0 ∧ lc = f 23 ∧ lw = f 24 ∧ lh = f 25 ∧ ls1 = q 26)) ∧ MI (upd (upd (upd (upd f 0 (0 : Int32)) 23 lc) 24 lw) 25 lh) r)) (mB D cy mo a) (AM mo a)) #[Value.ref mo, Value.int w, Value.int h, Value.long p0] s 0 0 (AM mo a)) (F0 m 61 ls []) := by
              intro n
              induction n with
              | zero => intro k x5  j61_0 j61_1 hn; exact absurd hn (Nat.not_lt_zero _)
              | succ n ih_61 =>
                intro k x5  j61_0 j61_1 hn_61 H locs hP hS ls hl
                have ik : (nI k).toInt = (k : Int) := nI_toInt (by omega)
                refine lv_iload hx hb dX10_list_61 (lv_at hl 0 rfl) ?_
                refine lv_aload_n hx hb dX10_list_63 rfl (lv_at hl 2 rfl) ?_
                refine m_get (v := .int (f 23)) hx hb hts hin hown hK hP 23 (by decide) rfl (hts (.fieldLink RX10 230 "ShadowBenchModel" "listed" "I") (by decide +kernel)) rfl dX10_list_64 ?_
                refine lv_icmp_ge (tgt := 100) hx hb dX10_list_67 (by decide) (fun c67 => ?_) (fun c67 => ?_)
                · skip
                  have d67 := c67
                  rw [fa_le] at d67
                  refine lv_iload hx hb dX10_list_100 (lv_at hl 1 rfl) ?_
                  refine lv_if_eq (tgt := 108) hx hb dX10_list_102 (by decide) (fun c102 => ?_) (fun c102 => ?_)
                  · skip
                    have d102 := c102
                    rw [fa_eq] at d102
                    refine lv_aload_n hx hb dX10_list_108 rfl (lv_at hl 2 rfl) ?_
                    refine lv_iload_n hx hb dX10_list_109 rfl (lv_at hl 3 rfl) ?_
                    refine m_put (v := .int w) (ty := .int) hx hb hts hin hown hK hP hD hS 24 (by decide) rfl (hts (.fieldLink RX10 233 "ShadowBenchModel" "listWide" "I") (by decide +kernel)) rfl (by decide +kernel) rfl rfl (upd (upd f 0 (0 : Int32)) 24 w) g rfl dX10_list_110 (fun H locs hP hS => ?_)
                    refine lv_aload_n hx hb dX10_list_113 rfl (lv_at hl 2 rfl) ?_
                    refine lv_iload_n hx hb dX10_list_114 rfl (lv_at hl 4 rfl) ?_
                    refine m_put (v := .int h) (ty := .int) hx hb hts hin hown hK hP hD hS 25 (by decide) rfl (hts (.fieldLink RX10 236 "ShadowBenchModel" "listHigh" "I") (by decide +kernel)) rfl (by decide +kernel) rfl rfl (upd (upd (upd f 0 (0 : Int32)) 24 w) 25 h) g rfl dX10_list_115 (fun H locs hP hS => ?_)
                    refine lv_aload_n hx hb dX10_list_118 rfl (lv_at hl 2 rfl) ?_
                    refine m_get (v := .ref (a 26)) hx hb hts hin hown hK hP 26 (by decide) rfl (hts (.fieldLink RX10 52 "ShadowBenchModel" "list" "[J") (by decide +kernel)) rfl dX10_list_119 ?_
                    refine lv_aload_n hx hb dX10_list_122 rfl (lv_at hl 2 rfl) ?_
                    refine m_get (v := .int (f 23)) hx hb hts hin hown hK hP 23 (by decide) rfl (hts (.fieldLink RX10 230 "ShadowBenchModel" "listed" "I") (by decide +kernel)) rfl dX10_list_123 ?_
                    refine lv_lload_n hx hb dX10_list_126 rfl (lv_at hl 5 rfl) ?_
                    refine m_last (w := (q 26)) hx hb hK hP hD hS 14 rfl (vp_in_iff.mpr ⟨by omega, by omega⟩) (va_up q 26 (vp_updL (q 26) (f 23).toNatClampNeg p0)) (ms_26 cy mo a _ _ _ _ _) dX10_list_127 (fun H locs hP hS => ?_)
                    refine lv_aload_n hx hb dX10_list_128 rfl (lv_at hl 2 rfl) ?_
                    refine lv_dup hx hb dX10_list_129 rfl ?_
                    refine m_get (v := .int (f 23)) hx hb hts hin hown hK hP 23 (by decide) rfl (hts (.fieldLink RX10 230 "ShadowBenchModel" "listed" "I") (by decide +kernel)) rfl dX10_list_130 ?_
                    refine lv_iconst (v := 1) hx hb dX10_list_133 (by decide) ?_
                    refine lv_iadd hx hb dX10_list_134 ?_
                    refine lv_topi (fun v134 e134 => ?_)
                    have i134 : v134.toInt = (f 23).toInt + (1 : Int32).toInt := by rw [e134]; exact fb_addI (by omega) (by omega)
                    refine m_put (v := .int v134) (ty := .int) hx hb hts hin hown hK hP hD hS 23 (by decide) rfl (hts (.fieldLink RX10 230 "ShadowBenchModel" "listed" "I") (by decide +kernel)) rfl (by decide +kernel) rfl rfl (upd (upd (upd (upd f 0 (0 : Int32)) 24 w) 25 h) 23 v134) g rfl dX10_list_135 (fun H locs hP hS => ?_)
                    refine lv_aload_n hx hb dX10_list_138 rfl (lv_at hl 2 rfl) ?_
                    refine m_get (v := .int v134) hx hb hts hin hown hK hP 23 (by decide) rfl (hts (.fieldLink RX10 230 "ShadowBenchModel" "listed" "I") (by decide +kernel)) rfl dX10_list_139 ?_
                    have hP := wm_eq (ec_f_0_24_25_23__0_23_24_25 f (0 : Int32) w h v134) rfl rfl (ec_q_26__26 q ((vp_updL (q 26) (f 23).toNatClampNeg p0))) hP
                    exact W.iret (v := v134) hx hb hr (fun t ht hW => ⟨⟨_, ((upd (upd (upd (upd f 0 (0 : Int32)) 23 v134) 24 w) 25 h), g, r, (va_up q 26 (((vp_updL (q 26) (f 23).toNatClampNeg p0))))), rfl, ⟨v134, w, h, ((vp_updL (q 26) (f 23).toNatClampNeg p0)), rfl, ⟨Or.inl ⟨⟨goodP_of b11, (by omega), (by rcases j61_1 with ⟨z9, _⟩ | ⟨_, z9, _⟩; exact absurd (z9.symm.trans c102) (by decide); exact z9), (by rcases j61_1 with ⟨z9, _⟩ | ⟨_, _, z9⟩; exact absurd (z9.symm.trans c102) (by decide); exact fun ⟨j9, h9, y9⟩ => z9 j9 (by omega) y9)⟩, (by omega)⟩, Or.inl ⟨⟨goodP_of b11, (by omega), (by rcases j61_1 with ⟨z9, _⟩ | ⟨_, z9, _⟩; exact absurd (z9.symm.trans c102) (by decide); exact z9), (by rcases j61_1 with ⟨z9, _⟩ | ⟨_, _, z9⟩; exact absurd (z9.symm.trans c102) (by decide); exact fun ⟨j9, h9, y9⟩ => z9 j9 (by omega) y9)⟩, (by omega), rfl, rfl, rfl⟩, (by first | exact hI | exact mi_li hI rfl (show 0 ≤ v134.toInt ∧ v134.toInt ≤ 12 by omega) (fun _ => ⟨show 1 ≤ w.toInt ∧ w.toInt ≤ 6 by omega, show 1 ≤ h.toInt ∧ h.toInt ≤ 6 by omega⟩) rfl rfl rfl rfl)⟩⟩, by unfold mB; rw [ht]; exact hP⟩, hS.F ht⟩) hS.2.2 dX10_list_142
                  · skip
                    have d102 := c102
                    rw [fa_eq] at d102
                    refine lv_bipush (v := (-3)) hx hb dX10_list_105 (by decide) ?_
                    have hP := wm_eq (ec_f_0__0_23_24_25 f (0 : Int32)) rfl rfl (ec_q___26 q ) hP
                    exact W.iret (v := ((-3) : Int32)) hx hb hr (fun t ht hW => ⟨⟨_, ((upd (upd (upd (upd f 0 (0 : Int32)) 23 (f 23)) 24 (f 24)) 25 (f 25)), g, r, (va_up q 26 (q 26))), rfl, ⟨(f 23), (f 24), (f 25), (q 26), rfl, ⟨lsA_3 (goodP_of b11) (by omega) (by rcases j61_1 with ⟨_, z9⟩ | ⟨z9, _⟩; exact z9.imp id (fun ⟨j9, h9, y9⟩ => ⟨j9, (by omega), y9⟩); exact absurd z9 c102), Or.inr ⟨lsG_3 (by rcases j61_1 with ⟨_, z9⟩ | ⟨z9, _⟩; exact z9.imp id (fun ⟨j9, h9, y9⟩ => ⟨j9, (by omega), y9⟩); exact absurd z9 c102), rfl, rfl, rfl, rfl⟩, (by first | exact hI | exact mi_li hI rfl (show 0 ≤ (f 23).toInt ∧ (f 23).toInt ≤ 12 by omega) (fun _ => ⟨show 1 ≤ (f 24).toInt ∧ (f 24).toInt ≤ 6 by omega, show 1 ≤ (f 25).toInt ∧ (f 25).toInt ≤ 6 by omega⟩) rfl rfl rfl rfl)⟩⟩, by unfold mB; rw [ht]; exact hP⟩, hS.F ht⟩) hS.2.2 dX10_list_107
                · skip
                  have d67 := c67
                  rw [fa_le] at d67
                  refine lv_iload hx hb dX10_list_70 (lv_at hl 1 rfl) ?_
                  refine lv_if_ne (tgt := 87) hx hb dX10_list_72 (by decide) (fun c72 => ?_) (fun c72 => ?_)
                  · skip
                    have d72 := c72
                    rw [fa_eq] at d72
                    refine lv_iconst (v := 1) hx hb dX10_list_87 (by decide) ?_
                    refine lv_goto (tgt := 92) hx hb dX10_list_88 (by decide) ?_
                    refine lv_istore (lv' := [(5, .int (1 : Int32)), (6, .int (nI k)), (0, .ref mo), (1, .int w), (2, .int h), (3, .long p0)]) hx hb dX10_list_92 hl (by decide) rfl (fun ls hl => ?_)
                    refine lv_iinc (v := (nI (k + 1))) (lv' := [(6, .int (nI (k + 1))), (5, .int (1 : Int32)), (0, .ref mo), (1, .int w), (2, .int h), (3, .long p0)]) hx hb dX10_list_94 hl (k := 1) rfl (nI_1 _) (by decide) rfl (fun ls hl => ?_)
                    refine lv_goto (tgt := 61) hx hb dX10_list_97 (by decide) ?_
                    exact ih_61 (k + 1) (1 : Int32) (by omega) (by
                                                                                          first
                                                                                          | exact Or.inl ⟨rfl, Or.inr ⟨k, by omega, f81.symm.trans ((lg_cmp_eq _ _).mp c84)⟩⟩
                                                                                          | exact Or.inr ⟨rfl, (by rcases j61_1 with ⟨z9, _⟩ | ⟨_, z9, _⟩; exact absurd (z9.symm.trans c72) (by decide); exact z9), fun j hj => by
                                                                                              by_cases e9 : j = k
                                                                                              · rw [e9]; exact fun z9 => c84 ((lg_cmp_eq _ _).mpr (f81.trans z9))
                                                                                              · rcases j61_1 with ⟨z9, _⟩ | ⟨_, _, z9⟩
                                                                                                · exact absurd (z9.symm.trans c72) (by decide)
                                                                                                · exact z9 j (by omega)⟩
                                                                                          | exact Or.inl ⟨rfl, by
                                                                                              rcases j61_1 with ⟨_, z9⟩ | ⟨z9, _⟩
                                                                                              · exact z9.imp id (fun ⟨j9, h9, y9⟩ => ⟨j9, by omega, y9⟩)
                                                                                              · exact absurd z9 c72⟩) (by omega) _ _ hP hS ls (lv_sub hl [0, 1, 2, 3, 4, 5] rfl)
                  · skip
                    have d72 := c72
                    rw [fa_eq] at d72
                    refine lv_aload_n hx hb dX10_list_75 rfl (lv_at hl 2 rfl) ?_
                    refine m_get (v := .ref (a 26)) hx hb hts hin hown hK hP 26 (by decide) rfl (hts (.fieldLink RX10 52 "ShadowBenchModel" "list" "[J") (by decide +kernel)) rfl dX10_list_76 ?_
                    refine lv_iload hx hb dX10_list_79 (lv_at hl 0 rfl) ?_
                    refine m_lald (w := (q 26)) hx hb hK hP 14 rfl (vp_in_iff.mpr ⟨by omega, by omega⟩) dX10_list_81 ?_
                    refine lv_topl (fun v81 e81 => ?_)
                    have f81 : v81 = q 26 k := by rw [e81, nI_clamp (by omega)]
                    refine lv_lload_n hx hb dX10_list_82 rfl (lv_at hl 5 rfl) ?_
                    refine W.lcmp hx hb dX10_list_83 ?_
                    refine lv_if_ne (tgt := 91) hx hb dX10_list_84 (by decide) (fun c84 => ?_) (fun c84 => ?_)
                    · skip
                      have d84 := c84
                      rw [lg_cmp_eq, fa_eq64] at d84
                      refine lv_iconst (v := 0) hx hb dX10_list_91 (by decide) ?_
                      refine lv_istore (lv' := [(5, .int (0 : Int32)), (6, .int (nI k)), (0, .ref mo), (1, .int w), (2, .int h), (3, .long p0)]) hx hb dX10_list_92 hl (by decide) rfl (fun ls hl => ?_)
                      refine lv_iinc (v := (nI (k + 1))) (lv' := [(6, .int (nI (k + 1))), (5, .int (0 : Int32)), (0, .ref mo), (1, .int w), (2, .int h), (3, .long p0)]) hx hb dX10_list_94 hl (k := 1) rfl (nI_1 _) (by decide) rfl (fun ls hl => ?_)
                      refine lv_goto (tgt := 61) hx hb dX10_list_97 (by decide) ?_
                      exact ih_61 (k + 1) (0 : Int32) (by omega) (by
                                                                                          first
                                                                                          | exact Or.inl ⟨rfl, Or.inr ⟨k, by omega, f81.symm.trans ((lg_cmp_eq _ _).mp c84)⟩⟩
                                                                                          | exact Or.inr ⟨rfl, (by rcases j61_1 with ⟨z9, _⟩ | ⟨_, z9, _⟩; exact absurd (z9.symm.trans c72) (by decide); exact z9), fun j hj => by
                                                                                              by_cases e9 : j = k
                                                                                              · rw [e9]; exact fun z9 => c84 ((lg_cmp_eq _ _).mpr (f81.trans z9))
                                                                                              · rcases j61_1 with ⟨z9, _⟩ | ⟨_, _, z9⟩
                                                                                                · exact absurd (z9.symm.trans c72) (by decide)
                                                                                                · exact z9 j (by omega)⟩
                                                                                          | exact Or.inl ⟨rfl, by
                                                                                              rcases j61_1 with ⟨_, z9⟩ | ⟨z9, _⟩
                                                                                              · exact z9.imp id (fun ⟨j9, h9, y9⟩ => ⟨j9, by omega, y9⟩)
                                                                                              · exact absurd z9 c72⟩) (by omega) _ _ hP hS ls (lv_sub hl [0, 1, 2, 3, 4, 5] rfl)
                    · skip
                      have d84 := c84
                      rw [lg_cmp_eq, fa_eq64] at d84
                      refine lv_iconst (v := 1) hx hb dX10_list_87 (by decide) ?_
                      refine lv_goto (tgt := 92) hx hb dX10_list_88 (by decide) ?_
                      refine lv_istore (lv' := [(5, .int (1 : Int32)), (6, .int (nI k)), (0, .ref mo), (1, .int w), (2, .int h), (3, .long p0)]) hx hb dX10_list_92 hl (by decide) rfl (fun ls hl => ?_)
                      refine lv_iinc (v := (nI (k + 1))) (lv' := [(6, .int (nI (k + 1))), (5, .int (1 : Int32)), (0, .ref mo), (1, .int w), (2, .int h), (3, .long p0)]) hx hb dX10_list_94 hl (k := 1) rfl (nI_1 _) (by decide) rfl (fun ls hl => ?_)
                      refine lv_goto (tgt := 61) hx hb dX10_list_97 (by decide) ?_
                      exact ih_61 (k + 1) (1 : Int32) (by omega) (by
                                                                                          first
                                                                                          | exact Or.inl ⟨rfl, Or.inr ⟨k, by omega, f81.symm.trans ((lg_cmp_eq _ _).mp c84)⟩⟩
                                                                                          | exact Or.inr ⟨rfl, (by rcases j61_1 with ⟨z9, _⟩ | ⟨_, z9, _⟩; exact absurd (z9.symm.trans c72) (by decide); exact z9), fun j hj => by
                                                                                              by_cases e9 : j = k
                                                                                              · rw [e9]; exact fun z9 => c84 ((lg_cmp_eq _ _).mpr (f81.trans z9))
                                                                                              · rcases j61_1 with ⟨z9, _⟩ | ⟨_, _, z9⟩
                                                                                                · exact absurd (z9.symm.trans c72) (by decide)
                                                                                                · exact z9 j (by omega)⟩
                                                                                          | exact Or.inl ⟨rfl, by
                                                                                              rcases j61_1 with ⟨_, z9⟩ | ⟨z9, _⟩
                                                                                              · exact z9.imp id (fun ⟨j9, h9, y9⟩ => ⟨j9, by omega, y9⟩)
                                                                                              · exact absurd z9 c72⟩) (by omega) _ _ hP hS ls (lv_sub hl [0, 1, 2, 3, 4, 5] rfl)
            exact loop_61 (12 + 1) 0 (0 : Int32) (by omega) (by first | exact Or.inr ⟨rfl, (by unfold lsO; omega), fun j hj => absurd hj (Nat.not_lt_zero _)⟩ | exact Or.inl ⟨rfl, Or.inl (by unfold lsO; omega)⟩) (by omega) _ _ hP hS ls (lv_sub hl [0, 1, 2, 3, 4, 5] rfl)
          · skip
            have d48 := c48
            rw [fa_eq] at d48
            refine lv_iconst (v := 1) hx hb dX10_list_51 (by decide) ?_
            refine lv_goto (tgt := 56) hx hb dX10_list_52 (by decide) ?_
            refine lv_istore (lv' := [(5, .int (1 : Int32)), (0, .ref mo), (1, .int w), (2, .int h), (3, .long p0)]) hx hb dX10_list_56 hl (by decide) rfl (fun ls hl => ?_)
            refine lv_iconst (v := 0) hx hb dX10_list_58 (by decide) ?_
            refine lv_istore (lv' := [(6, .int (0 : Int32)), (5, .int (1 : Int32)), (0, .ref mo), (1, .int w), (2, .int h), (3, .long p0)]) hx hb dX10_list_59 hl (by decide) rfl (fun ls hl => ?_)
            have loop_61 : ∀ (n : Nat) (k : Nat) (x5 : Int32), (k ≤ 12 ∧ (k : Int) ≤ (f 23).toInt) → ((x5 = 1 ∧ (lsO (f 23) (f 24).toNatClampNeg (f 25).toNatClampNeg w h ∨ ∃ j, j < k ∧ q 26 j = p0)) ∨ (x5 = 0 ∧ ¬ lsO (f 23) (f 24).toNatClampNeg (f 25).toNatClampNeg w h ∧ ∀ j, j < k → ¬ q 26 j = p0)) → 12 - k < n → ∀ (H : Heap) (locs : List Loc), va_P D vwCl (WM cy mo a (upd f 0 (0 : Int32)) g r q) H → va_S (AM mo a) s.heap H locs → ∀ (ls : Array Slot), lv_has ls 7 [(6, .int (nI k)), (5, .int x5), (0, .ref mo), (1, .int w), (2, .int h), (3, .long p0)] → W p l e (headSpec wsX10_list ({ frames := 3, cells := 0, slots := 0, locals := 69 })).room s m #[Value.ref mo, Value.int w, Value.int h, Value.long p0] below meth c H locs 0 0 (MQ below (va_Qi (fun r0 u => ∃ (lc : Int32), ∃ (lw : Int32), ∃ (lh : Int32), ∃ (ls1 : Nat → Int64), u = ((upd (upd (upd (upd f 0 (0 : Int32)) 23 lc) 24 lw) 25 lh), g, r, (va_up q 26 ls1)) ∧ (lsA (q 26) (f 23) (f 24).toNatClampNeg (f 25).toNatClampNeg w h p0 r0 ∧ ((lsG (q 26) (f 23) (f 24).toNatClampNeg (f 25).toNatClampNeg w h p0 ∧ lc.toInt = (f 23).toInt + 1 ∧ lw = w ∧ lh = h ∧ ls1 = vp_updL (q 26) (f 23).toNatClampNeg p0) ∨ (¬ lsG (q 26) (f 23) (f 24).toNatClampNeg (f 25).toNatClampNeg w h p0 ∧ lc = f 23 ∧ lw = f 24 ∧ lh = f 25 ∧ ls1 = q 26)) ∧ MI (upd (upd (upd (upd f 0 (0 : Int32)) 23 lc) 24 lw) 25 lh) r)) (mB D cy mo a) (AM mo a)) #[Value.ref mo, Value.int w, Value.int h, Value.long p0] s 0 0 (AM mo a)) (F0 m 61 ls []) := by
              intro n
              induction n with
              | zero => intro k x5  j61_0 j61_1 hn; exact absurd hn (Nat.not_lt_zero _)
              | succ n ih_61 =>
                intro k x5  j61_0 j61_1 hn_61 H locs hP hS ls hl
                have ik : (nI k).toInt = (k : Int) := nI_toInt (by omega)
                refine lv_iload hx hb dX10_list_61 (lv_at hl 0 rfl) ?_
                refine lv_aload_n hx hb dX10_list_63 rfl (lv_at hl 2 rfl) ?_
                refine m_get (v := .int (f 23)) hx hb hts hin hown hK hP 23 (by decide) rfl (hts (.fieldLink RX10 230 "ShadowBenchModel" "listed" "I") (by decide +kernel)) rfl dX10_list_64 ?_
                refine lv_icmp_ge (tgt := 100) hx hb dX10_list_67 (by decide) (fun c67 => ?_) (fun c67 => ?_)
                · skip
                  have d67 := c67
                  rw [fa_le] at d67
                  refine lv_iload hx hb dX10_list_100 (lv_at hl 1 rfl) ?_
                  refine lv_if_eq (tgt := 108) hx hb dX10_list_102 (by decide) (fun c102 => ?_) (fun c102 => ?_)
                  · skip
                    have d102 := c102
                    rw [fa_eq] at d102
                    refine lv_aload_n hx hb dX10_list_108 rfl (lv_at hl 2 rfl) ?_
                    refine lv_iload_n hx hb dX10_list_109 rfl (lv_at hl 3 rfl) ?_
                    refine m_put (v := .int w) (ty := .int) hx hb hts hin hown hK hP hD hS 24 (by decide) rfl (hts (.fieldLink RX10 233 "ShadowBenchModel" "listWide" "I") (by decide +kernel)) rfl (by decide +kernel) rfl rfl (upd (upd f 0 (0 : Int32)) 24 w) g rfl dX10_list_110 (fun H locs hP hS => ?_)
                    refine lv_aload_n hx hb dX10_list_113 rfl (lv_at hl 2 rfl) ?_
                    refine lv_iload_n hx hb dX10_list_114 rfl (lv_at hl 4 rfl) ?_
                    refine m_put (v := .int h) (ty := .int) hx hb hts hin hown hK hP hD hS 25 (by decide) rfl (hts (.fieldLink RX10 236 "ShadowBenchModel" "listHigh" "I") (by decide +kernel)) rfl (by decide +kernel) rfl rfl (upd (upd (upd f 0 (0 : Int32)) 24 w) 25 h) g rfl dX10_list_115 (fun H locs hP hS => ?_)
                    refine lv_aload_n hx hb dX10_list_118 rfl (lv_at hl 2 rfl) ?_
                    refine m_get (v := .ref (a 26)) hx hb hts hin hown hK hP 26 (by decide) rfl (hts (.fieldLink RX10 52 "ShadowBenchModel" "list" "[J") (by decide +kernel)) rfl dX10_list_119 ?_
                    refine lv_aload_n hx hb dX10_list_122 rfl (lv_at hl 2 rfl) ?_
                    refine m_get (v := .int (f 23)) hx hb hts hin hown hK hP 23 (by decide) rfl (hts (.fieldLink RX10 230 "ShadowBenchModel" "listed" "I") (by decide +kernel)) rfl dX10_list_123 ?_
                    refine lv_lload_n hx hb dX10_list_126 rfl (lv_at hl 5 rfl) ?_
                    refine m_last (w := (q 26)) hx hb hK hP hD hS 14 rfl (vp_in_iff.mpr ⟨by omega, by omega⟩) (va_up q 26 (vp_updL (q 26) (f 23).toNatClampNeg p0)) (ms_26 cy mo a _ _ _ _ _) dX10_list_127 (fun H locs hP hS => ?_)
                    refine lv_aload_n hx hb dX10_list_128 rfl (lv_at hl 2 rfl) ?_
                    refine lv_dup hx hb dX10_list_129 rfl ?_
                    refine m_get (v := .int (f 23)) hx hb hts hin hown hK hP 23 (by decide) rfl (hts (.fieldLink RX10 230 "ShadowBenchModel" "listed" "I") (by decide +kernel)) rfl dX10_list_130 ?_
                    refine lv_iconst (v := 1) hx hb dX10_list_133 (by decide) ?_
                    refine lv_iadd hx hb dX10_list_134 ?_
                    refine lv_topi (fun v134 e134 => ?_)
                    have i134 : v134.toInt = (f 23).toInt + (1 : Int32).toInt := by rw [e134]; exact fb_addI (by omega) (by omega)
                    refine m_put (v := .int v134) (ty := .int) hx hb hts hin hown hK hP hD hS 23 (by decide) rfl (hts (.fieldLink RX10 230 "ShadowBenchModel" "listed" "I") (by decide +kernel)) rfl (by decide +kernel) rfl rfl (upd (upd (upd (upd f 0 (0 : Int32)) 24 w) 25 h) 23 v134) g rfl dX10_list_135 (fun H locs hP hS => ?_)
                    refine lv_aload_n hx hb dX10_list_138 rfl (lv_at hl 2 rfl) ?_
                    refine m_get (v := .int v134) hx hb hts hin hown hK hP 23 (by decide) rfl (hts (.fieldLink RX10 230 "ShadowBenchModel" "listed" "I") (by decide +kernel)) rfl dX10_list_139 ?_
                    have hP := wm_eq (ec_f_0_24_25_23__0_23_24_25 f (0 : Int32) w h v134) rfl rfl (ec_q_26__26 q ((vp_updL (q 26) (f 23).toNatClampNeg p0))) hP
                    exact W.iret (v := v134) hx hb hr (fun t ht hW => ⟨⟨_, ((upd (upd (upd (upd f 0 (0 : Int32)) 23 v134) 24 w) 25 h), g, r, (va_up q 26 (((vp_updL (q 26) (f 23).toNatClampNeg p0))))), rfl, ⟨v134, w, h, ((vp_updL (q 26) (f 23).toNatClampNeg p0)), rfl, ⟨Or.inl ⟨⟨goodP_of b11, (by omega), (by rcases j61_1 with ⟨z9, _⟩ | ⟨_, z9, _⟩; exact absurd (z9.symm.trans c102) (by decide); exact z9), (by rcases j61_1 with ⟨z9, _⟩ | ⟨_, _, z9⟩; exact absurd (z9.symm.trans c102) (by decide); exact fun ⟨j9, h9, y9⟩ => z9 j9 (by omega) y9)⟩, (by omega)⟩, Or.inl ⟨⟨goodP_of b11, (by omega), (by rcases j61_1 with ⟨z9, _⟩ | ⟨_, z9, _⟩; exact absurd (z9.symm.trans c102) (by decide); exact z9), (by rcases j61_1 with ⟨z9, _⟩ | ⟨_, _, z9⟩; exact absurd (z9.symm.trans c102) (by decide); exact fun ⟨j9, h9, y9⟩ => z9 j9 (by omega) y9)⟩, (by omega), rfl, rfl, rfl⟩, (by first | exact hI | exact mi_li hI rfl (show 0 ≤ v134.toInt ∧ v134.toInt ≤ 12 by omega) (fun _ => ⟨show 1 ≤ w.toInt ∧ w.toInt ≤ 6 by omega, show 1 ≤ h.toInt ∧ h.toInt ≤ 6 by omega⟩) rfl rfl rfl rfl)⟩⟩, by unfold mB; rw [ht]; exact hP⟩, hS.F ht⟩) hS.2.2 dX10_list_142
                  · skip
                    have d102 := c102
                    rw [fa_eq] at d102
                    refine lv_bipush (v := (-3)) hx hb dX10_list_105 (by decide) ?_
                    have hP := wm_eq (ec_f_0__0_23_24_25 f (0 : Int32)) rfl rfl (ec_q___26 q ) hP
                    exact W.iret (v := ((-3) : Int32)) hx hb hr (fun t ht hW => ⟨⟨_, ((upd (upd (upd (upd f 0 (0 : Int32)) 23 (f 23)) 24 (f 24)) 25 (f 25)), g, r, (va_up q 26 (q 26))), rfl, ⟨(f 23), (f 24), (f 25), (q 26), rfl, ⟨lsA_3 (goodP_of b11) (by omega) (by rcases j61_1 with ⟨_, z9⟩ | ⟨z9, _⟩; exact z9.imp id (fun ⟨j9, h9, y9⟩ => ⟨j9, (by omega), y9⟩); exact absurd z9 c102), Or.inr ⟨lsG_3 (by rcases j61_1 with ⟨_, z9⟩ | ⟨z9, _⟩; exact z9.imp id (fun ⟨j9, h9, y9⟩ => ⟨j9, (by omega), y9⟩); exact absurd z9 c102), rfl, rfl, rfl, rfl⟩, (by first | exact hI | exact mi_li hI rfl (show 0 ≤ (f 23).toInt ∧ (f 23).toInt ≤ 12 by omega) (fun _ => ⟨show 1 ≤ (f 24).toInt ∧ (f 24).toInt ≤ 6 by omega, show 1 ≤ (f 25).toInt ∧ (f 25).toInt ≤ 6 by omega⟩) rfl rfl rfl rfl)⟩⟩, by unfold mB; rw [ht]; exact hP⟩, hS.F ht⟩) hS.2.2 dX10_list_107
                · skip
                  have d67 := c67
                  rw [fa_le] at d67
                  refine lv_iload hx hb dX10_list_70 (lv_at hl 1 rfl) ?_
                  refine lv_if_ne (tgt := 87) hx hb dX10_list_72 (by decide) (fun c72 => ?_) (fun c72 => ?_)
                  · skip
                    have d72 := c72
                    rw [fa_eq] at d72
                    refine lv_iconst (v := 1) hx hb dX10_list_87 (by decide) ?_
                    refine lv_goto (tgt := 92) hx hb dX10_list_88 (by decide) ?_
                    refine lv_istore (lv' := [(5, .int (1 : Int32)), (6, .int (nI k)), (0, .ref mo), (1, .int w), (2, .int h), (3, .long p0)]) hx hb dX10_list_92 hl (by decide) rfl (fun ls hl => ?_)
                    refine lv_iinc (v := (nI (k + 1))) (lv' := [(6, .int (nI (k + 1))), (5, .int (1 : Int32)), (0, .ref mo), (1, .int w), (2, .int h), (3, .long p0)]) hx hb dX10_list_94 hl (k := 1) rfl (nI_1 _) (by decide) rfl (fun ls hl => ?_)
                    refine lv_goto (tgt := 61) hx hb dX10_list_97 (by decide) ?_
                    exact ih_61 (k + 1) (1 : Int32) (by omega) (by
                                                                                          first
                                                                                          | exact Or.inl ⟨rfl, Or.inr ⟨k, by omega, f81.symm.trans ((lg_cmp_eq _ _).mp c84)⟩⟩
                                                                                          | exact Or.inr ⟨rfl, (by rcases j61_1 with ⟨z9, _⟩ | ⟨_, z9, _⟩; exact absurd (z9.symm.trans c72) (by decide); exact z9), fun j hj => by
                                                                                              by_cases e9 : j = k
                                                                                              · rw [e9]; exact fun z9 => c84 ((lg_cmp_eq _ _).mpr (f81.trans z9))
                                                                                              · rcases j61_1 with ⟨z9, _⟩ | ⟨_, _, z9⟩
                                                                                                · exact absurd (z9.symm.trans c72) (by decide)
                                                                                                · exact z9 j (by omega)⟩
                                                                                          | exact Or.inl ⟨rfl, by
                                                                                              rcases j61_1 with ⟨_, z9⟩ | ⟨z9, _⟩
                                                                                              · exact z9.imp id (fun ⟨j9, h9, y9⟩ => ⟨j9, by omega, y9⟩)
                                                                                              · exact absurd z9 c72⟩) (by omega) _ _ hP hS ls (lv_sub hl [0, 1, 2, 3, 4, 5] rfl)
                  · skip
                    have d72 := c72
                    rw [fa_eq] at d72
                    refine lv_aload_n hx hb dX10_list_75 rfl (lv_at hl 2 rfl) ?_
                    refine m_get (v := .ref (a 26)) hx hb hts hin hown hK hP 26 (by decide) rfl (hts (.fieldLink RX10 52 "ShadowBenchModel" "list" "[J") (by decide +kernel)) rfl dX10_list_76 ?_
                    refine lv_iload hx hb dX10_list_79 (lv_at hl 0 rfl) ?_
                    refine m_lald (w := (q 26)) hx hb hK hP 14 rfl (vp_in_iff.mpr ⟨by omega, by omega⟩) dX10_list_81 ?_
                    refine lv_topl (fun v81 e81 => ?_)
                    have f81 : v81 = q 26 k := by rw [e81, nI_clamp (by omega)]
                    refine lv_lload_n hx hb dX10_list_82 rfl (lv_at hl 5 rfl) ?_
                    refine W.lcmp hx hb dX10_list_83 ?_
                    refine lv_if_ne (tgt := 91) hx hb dX10_list_84 (by decide) (fun c84 => ?_) (fun c84 => ?_)
                    · skip
                      have d84 := c84
                      rw [lg_cmp_eq, fa_eq64] at d84
                      refine lv_iconst (v := 0) hx hb dX10_list_91 (by decide) ?_
                      refine lv_istore (lv' := [(5, .int (0 : Int32)), (6, .int (nI k)), (0, .ref mo), (1, .int w), (2, .int h), (3, .long p0)]) hx hb dX10_list_92 hl (by decide) rfl (fun ls hl => ?_)
                      refine lv_iinc (v := (nI (k + 1))) (lv' := [(6, .int (nI (k + 1))), (5, .int (0 : Int32)), (0, .ref mo), (1, .int w), (2, .int h), (3, .long p0)]) hx hb dX10_list_94 hl (k := 1) rfl (nI_1 _) (by decide) rfl (fun ls hl => ?_)
                      refine lv_goto (tgt := 61) hx hb dX10_list_97 (by decide) ?_
                      exact ih_61 (k + 1) (0 : Int32) (by omega) (by
                                                                                          first
                                                                                          | exact Or.inl ⟨rfl, Or.inr ⟨k, by omega, f81.symm.trans ((lg_cmp_eq _ _).mp c84)⟩⟩
                                                                                          | exact Or.inr ⟨rfl, (by rcases j61_1 with ⟨z9, _⟩ | ⟨_, z9, _⟩; exact absurd (z9.symm.trans c72) (by decide); exact z9), fun j hj => by
                                                                                              by_cases e9 : j = k
                                                                                              · rw [e9]; exact fun z9 => c84 ((lg_cmp_eq _ _).mpr (f81.trans z9))
                                                                                              · rcases j61_1 with ⟨z9, _⟩ | ⟨_, _, z9⟩
                                                                                                · exact absurd (z9.symm.trans c72) (by decide)
                                                                                                · exact z9 j (by omega)⟩
                                                                                          | exact Or.inl ⟨rfl, by
                                                                                              rcases j61_1 with ⟨_, z9⟩ | ⟨z9, _⟩
                                                                                              · exact z9.imp id (fun ⟨j9, h9, y9⟩ => ⟨j9, by omega, y9⟩)
                                                                                              · exact absurd z9 c72⟩) (by omega) _ _ hP hS ls (lv_sub hl [0, 1, 2, 3, 4, 5] rfl)
                    · skip
                      have d84 := c84
                      rw [lg_cmp_eq, fa_eq64] at d84
                      refine lv_iconst (v := 1) hx hb dX10_list_87 (by decide) ?_
                      refine lv_goto (tgt := 92) hx hb dX10_list_88 (by decide) ?_
                      refine lv_istore (lv' := [(5, .int (1 : Int32)), (6, .int (nI k)), (0, .ref mo), (1, .int w), (2, .int h), (3, .long p0)]) hx hb dX10_list_92 hl (by decide) rfl (fun ls hl => ?_)
                      refine lv_iinc (v := (nI (k + 1))) (lv' := [(6, .int (nI (k + 1))), (5, .int (1 : Int32)), (0, .ref mo), (1, .int w), (2, .int h), (3, .long p0)]) hx hb dX10_list_94 hl (k := 1) rfl (nI_1 _) (by decide) rfl (fun ls hl => ?_)
                      refine lv_goto (tgt := 61) hx hb dX10_list_97 (by decide) ?_
                      exact ih_61 (k + 1) (1 : Int32) (by omega) (by
                                                                                          first
                                                                                          | exact Or.inl ⟨rfl, Or.inr ⟨k, by omega, f81.symm.trans ((lg_cmp_eq _ _).mp c84)⟩⟩
                                                                                          | exact Or.inr ⟨rfl, (by rcases j61_1 with ⟨z9, _⟩ | ⟨_, z9, _⟩; exact absurd (z9.symm.trans c72) (by decide); exact z9), fun j hj => by
                                                                                              by_cases e9 : j = k
                                                                                              · rw [e9]; exact fun z9 => c84 ((lg_cmp_eq _ _).mpr (f81.trans z9))
                                                                                              · rcases j61_1 with ⟨z9, _⟩ | ⟨_, _, z9⟩
                                                                                                · exact absurd (z9.symm.trans c72) (by decide)
                                                                                                · exact z9 j (by omega)⟩
                                                                                          | exact Or.inl ⟨rfl, by
                                                                                              rcases j61_1 with ⟨_, z9⟩ | ⟨z9, _⟩
                                                                                              · exact z9.imp id (fun ⟨j9, h9, y9⟩ => ⟨j9, by omega, y9⟩)
                                                                                              · exact absurd z9 c72⟩) (by omega) _ _ hP hS ls (lv_sub hl [0, 1, 2, 3, 4, 5] rfl)
            exact loop_61 (12 + 1) 0 (1 : Int32) (by omega) (by first | exact Or.inr ⟨rfl, (by unfold lsO; omega), fun j hj => absurd hj (Nat.not_lt_zero _)⟩ | exact Or.inl ⟨rfl, Or.inl (by unfold lsO; omega)⟩) (by omega) _ _ hP hS ls (lv_sub hl [0, 1, 2, 3, 4, 5] rfl)
    · skip
      have d22 := c22
      rw [fa_eq] at d22
      refine lv_bipush (v := (-2)) hx hb dX10_list_25 (by decide) ?_
      have hP := wm_eq (ec_f_0__0_23_24_25 f (0 : Int32)) rfl rfl (ec_q___26 q ) hP
      exact W.iret (v := ((-2) : Int32)) hx hb hr (fun t ht hW => ⟨⟨_, ((upd (upd (upd (upd f 0 (0 : Int32)) 23 (f 23)) 24 (f 24)) 25 (f 25)), g, r, (va_up q 26 (q 26))), rfl, ⟨(f 23), (f 24), (f 25), (q 26), rfl, ⟨lsA_2 (goodP_of b11) (by omega), Or.inr ⟨lsG_2 (by omega), rfl, rfl, rfl, rfl⟩, (by first | exact hI | exact mi_li hI rfl (show 0 ≤ (f 23).toInt ∧ (f 23).toInt ≤ 12 by omega) (fun _ => ⟨show 1 ≤ (f 24).toInt ∧ (f 24).toInt ≤ 6 by omega, show 1 ≤ (f 25).toInt ∧ (f 25).toInt ≤ 6 by omega⟩) rfl rfl rfl rfl)⟩⟩, by unfold mB; rw [ht]; exact hP⟩, hS.F ht⟩) hS.2.2 dX10_list_27
  · skip
    have b11 := bo_f q8 c11
    refine lv_iconst (v := (-1)) hx hb dX10_list_14 (by decide) ?_
    have hP := wm_eq (ec_f_0__0_23_24_25 f (0 : Int32)) rfl rfl (ec_q___26 q ) hP
    exact W.iret (v := ((-1) : Int32)) hx hb hr (fun t ht hW => ⟨⟨_, ((upd (upd (upd (upd f 0 (0 : Int32)) 23 (f 23)) 24 (f 24)) 25 (f 25)), g, r, (va_up q 26 (q 26))), rfl, ⟨(f 23), (f 24), (f 25), (q 26), rfl, ⟨lsA_1 (goodP_no b11), Or.inr ⟨lsG_1 (goodP_no b11), rfl, rfl, rfl, rfl⟩, (by first | exact hI | exact mi_li hI rfl (show 0 ≤ (f 23).toInt ∧ (f 23).toInt ≤ 12 by omega) (fun _ => ⟨show 1 ≤ (f 24).toInt ∧ (f 24).toInt ≤ 6 by omega, show 1 ≤ (f 25).toInt ∧ (f 25).toInt ≤ 6 by omega⟩) rfl rfl rfl rfl)⟩⟩, by unfold mB; rw [ht]; exact hP⟩, hS.F ht⟩) hS.2.2 dX10_list_15
set_option maxHeartbeats 4000000 in
set_option maxRecDepth 100000 in
theorem c_X10_tells_x (l : Launch) (D : va_G) (cy : Nat → ClassId) (mo : Nat) (a : Nat → Nat) (f : Nat → Int32) (g : Nat → Int64) (r : Nat → Nat → Int32) (q : Nat → Nat → Int64) (ways : Int32) (hD : DM cy mo a) (hI : MI f r) : Mi l D cy mo a yX10_tells wsX10_tells ({ frames := 3, cells := 0, slots := 0, locals := 78 }) f g r q [.int ways] (fun r0 u => u = (f, g, r, q) ∧ (Bo r0 (telA (q 26) (f 23) (f 24).toNatClampNeg (f 25).toNatClampNeg ways))) := by
  refine Met.ofW (cc := cX10_tells) (maxL := 7) (ret := (some .boolean)) (by decide) rfl ?_
  intro p e s m args below meth c s₁ B hml hv
  obtain ⟨rfl, hP, hK⟩ := hv
  have hx := B.exec
  have hb := B.bytes
  have hr := B.returns
  have hts := atoms_spec (ws := wsX10_tells) B.pre
  have hin : ∀ w ∈ u_ws RX10 TX10 35, w ∈ wsX10_tells := by decide +kernel
  have hown : s.vm.findClass RX10 = some m.cls := findClass_of_methodNamed B.named
  have hlocks := B.notSynchronized
  have hS : va_S (AM mo a) s.heap s.heap [] := va_S.rf
  have hl := lv_entry ([.ref mo, .int ways]) (n := 7) (Nat.le_of_ble_eq_true rfl)
  rw [lg_entry_eq]
  generalize (lg_sl ([.ref mo, .int ways]) ++ List.replicate (7 - (lg_sl ([.ref mo, .int ways])).length) Slot.unset).toArray = ls at hl ⊢
  have hl : lv_has ls 7 [(0, .ref mo), (1, .int ways)] := hl
  have k_0 : (0 : Int32).toInt = 0 := by decide
  have k_1 : (1 : Int32).toInt = 1 := by decide
  have k_4 : (4 : Int32).toInt = 4 := by decide
  have hI1 := hI.2.2.1
  refine lv_iconst (v := 1) hx hb dX10_tells_0 (by decide) ?_
  refine lv_istore_n (lv' := [(2, .int (1 : Int32)), (0, .ref mo), (1, .int ways)]) hx hb dX10_tells_1 rfl hl (by decide) rfl (fun ls hl => ?_)
  refine lv_iconst (v := 0) hx hb dX10_tells_2 (by decide) ?_
  refine lv_istore_n (lv' := [(3, .int (0 : Int32)), (2, .int (1 : Int32)), (0, .ref mo), (1, .int ways)]) hx hb dX10_tells_3 rfl hl (by decide) rfl (fun ls hl => ?_)
  have loop_4 : ∀ (n : Nat) (k : Nat) (x2 : Int32), (k ≤ 12 ∧ (k : Int) ≤ (f 23).toInt) → ((x2 = 1 ∧ ∀ a b : Nat, a < k → b < a → ∃ j, j < 4 ∧ unl (f 24).toNatClampNeg (f 25).toNatClampNeg (q 26 a) (q 26 b) ways j) ∨ (x2 = 0 ∧ ¬ ∀ a b : Nat, a < k → b < a → ∃ j, j < 4 ∧ unl (f 24).toNatClampNeg (f 25).toNatClampNeg (q 26 a) (q 26 b) ways j)) → 12 - k < n → ∀ (H : Heap) (locs : List Loc), va_P D vwCl (WM cy mo a f g r q) H → va_S (AM mo a) s.heap H locs → ∀ (ls : Array Slot), lv_has ls 7 [(3, .int (nI k)), (2, .int x2), (0, .ref mo), (1, .int ways)] → W p l e (headSpec wsX10_tells ({ frames := 3, cells := 0, slots := 0, locals := 78 })).room s m #[Value.ref mo, Value.int ways] below meth c H locs 0 0 (MQ below (va_Qi (fun r0 u => u = (f, g, r, q) ∧ (Bo r0 (telA (q 26) (f 23) (f 24).toNatClampNeg (f 25).toNatClampNeg ways))) (mB D cy mo a) (AM mo a)) #[Value.ref mo, Value.int ways] s 0 0 (AM mo a)) (F0 m 4 ls []) := by
    intro n
    induction n with
    | zero => intro k x2  j4_0 j4_1 hn; exact absurd hn (Nat.not_lt_zero _)
    | succ n ih_4 =>
      intro k x2  j4_0 j4_1 hn_4 H locs hP hS ls hl
      have ik : (nI k).toInt = (k : Int) := nI_toInt (by omega)
      refine lv_iload_n hx hb dX10_tells_4 rfl (lv_at hl 0 rfl) ?_
      refine lv_aload_n hx hb dX10_tells_5 rfl (lv_at hl 2 rfl) ?_
      refine m_get (v := .int (f 23)) hx hb hts hin hown hK hP 23 (by decide) rfl (hts (.fieldLink RX10 230 "ShadowBenchModel" "listed" "I") (by decide +kernel)) rfl dX10_tells_6 ?_
      refine lv_icmp_ge (tgt := 117) hx hb dX10_tells_9 (by decide) (fun c9 => ?_) (fun c9 => ?_)
      · skip
        have d9 := c9
        rw [fa_le] at d9
        refine lv_iload_n hx hb dX10_tells_117 rfl (lv_at hl 1 rfl) ?_
        exact W.zret (v := x2) hx hb hr (by rcases j4_1 with ⟨z, _⟩ | ⟨z, _⟩ <;> rw [z] <;> rfl) (fun t ht hW => ⟨⟨_, (f, g, r, q), rfl, ⟨rfl, (by rcases j4_1 with ⟨z, y⟩ | ⟨z, y⟩; exact Or.inl ⟨z, fun a9 b9 h9 h8 => y a9 b9 (by omega) h8⟩; exact Or.inr ⟨z, fun u9 => y (fun a9 b9 h9 h8 => u9 a9 b9 (by omega) h8)⟩)⟩, by unfold mB; rw [ht]; exact hP⟩, hS.F ht⟩) hS.2.2 dX10_tells_118
      · skip
        have d9 := c9
        rw [fa_le] at d9
        refine lv_iconst (v := 0) hx hb dX10_tells_12 (by decide) ?_
        refine lv_istore (lv' := [(4, .int (0 : Int32)), (3, .int (nI k)), (2, .int x2), (0, .ref mo), (1, .int ways)]) hx hb dX10_tells_13 hl (by decide) rfl (fun ls hl => ?_)
        have loop_15 : ∀ (n : Nat) (i : Nat) (y2 : Int32), (i ≤ k) → ((y2 = 1 ∧ (∀ a b : Nat, a < k → b < a → ∃ j, j < 4 ∧ unl (f 24).toNatClampNeg (f 25).toNatClampNeg (q 26 a) (q 26 b) ways j) ∧ ∀ b : Nat, b < i → ∃ j, j < 4 ∧ unl (f 24).toNatClampNeg (f 25).toNatClampNeg (q 26 k) (q 26 b) ways j) ∨ (y2 = 0 ∧ ¬ ((∀ a b : Nat, a < k → b < a → ∃ j, j < 4 ∧ unl (f 24).toNatClampNeg (f 25).toNatClampNeg (q 26 a) (q 26 b) ways j) ∧ ∀ b : Nat, b < i → ∃ j, j < 4 ∧ unl (f 24).toNatClampNeg (f 25).toNatClampNeg (q 26 k) (q 26 b) ways j))) → 12 - i < n → ∀ (H : Heap) (locs : List Loc), va_P D vwCl (WM cy mo a f g r q) H → va_S (AM mo a) s.heap H locs → ∀ (ls : Array Slot), lv_has ls 7 [(4, .int (nI i)), (3, .int (nI k)), (2, .int y2), (0, .ref mo), (1, .int ways)] → W p l e (headSpec wsX10_tells ({ frames := 3, cells := 0, slots := 0, locals := 78 })).room s m #[Value.ref mo, Value.int ways] below meth c H locs 0 0 (MQ below (va_Qi (fun r0 u => u = (f, g, r, q) ∧ (Bo r0 (telA (q 26) (f 23) (f 24).toNatClampNeg (f 25).toNatClampNeg ways))) (mB D cy mo a) (AM mo a)) #[Value.ref mo, Value.int ways] s 0 0 (AM mo a)) (F0 m 15 ls []) := by
          intro n
          induction n with
          | zero => intro i y2  j15_0 j15_1 hn; exact absurd hn (Nat.not_lt_zero _)
          | succ n ih_15 =>
            intro i y2  j15_0 j15_1 hn_15 H locs hP hS ls hl
            have ii : (nI i).toInt = (i : Int) := nI_toInt (by omega)
            refine lv_iload hx hb dX10_tells_15 (lv_at hl 0 rfl) ?_
            refine lv_iload_n hx hb dX10_tells_17 rfl (lv_at hl 1 rfl) ?_
            refine lv_icmp_ge (tgt := 111) hx hb dX10_tells_18 (by decide) (fun c18 => ?_) (fun c18 => ?_)
            · skip
              have d18 := c18
              rw [fa_le] at d18
              refine lv_iinc (v := (nI (k + 1))) (lv' := [(3, .int (nI (k + 1))), (4, .int (nI i)), (2, .int y2), (0, .ref mo), (1, .int ways)]) hx hb dX10_tells_111 hl (k := 1) rfl (nI_1 _) (by decide) rfl (fun ls hl => ?_)
              refine lv_goto (tgt := 4) hx hb dX10_tells_114 (by decide) ?_
              exact ih_4 (k + 1) y2 (by omega) (by
                                                                                          have hik : i = k := by omega
                                                                                          rcases j15_1 with ⟨z, y, x⟩ | ⟨z, y⟩
                                                                                          · exact Or.inl ⟨z, fun a b h1 h2 => by
                                                                                              by_cases e9 : a = k
                                                                                              · rw [e9] at h2 ⊢; exact x b (by omega)
                                                                                              · exact y a b (by omega) h2⟩
                                                                                          · exact Or.inr ⟨z, fun u9 => y ⟨fun a b h1 h2 => u9 a b (by omega) h2, fun b h1 => u9 k b (by omega) (by omega)⟩⟩) (by omega) _ _ hP hS ls (lv_sub hl [0, 2, 3, 4] rfl)
            · skip
              have d18 := c18
              rw [fa_le] at d18
              refine lv_iconst (v := 0) hx hb dX10_tells_21 (by decide) ?_
              refine lv_istore (lv' := [(5, .int (0 : Int32)), (4, .int (nI i)), (3, .int (nI k)), (2, .int y2), (0, .ref mo), (1, .int ways)]) hx hb dX10_tells_22 hl (by decide) rfl (fun ls hl => ?_)
              refine lv_iconst (v := 0) hx hb dX10_tells_24 (by decide) ?_
              refine lv_istore (lv' := [(6, .int (0 : Int32)), (5, .int (0 : Int32)), (4, .int (nI i)), (3, .int (nI k)), (2, .int y2), (0, .ref mo), (1, .int ways)]) hx hb dX10_tells_25 hl (by decide) rfl (fun ls hl => ?_)
              have loop_27 : ∀ (n : Nat) (m1 : Nat) (x5 : Int32), (m1 ≤ 4) → ((x5 = 1 ∧ ∃ j, j < m1 ∧ unl (f 24).toNatClampNeg (f 25).toNatClampNeg (q 26 k) (q 26 i) ways j) ∨ (x5 = 0 ∧ ∀ j, j < m1 → ¬ unl (f 24).toNatClampNeg (f 25).toNatClampNeg (q 26 k) (q 26 i) ways j)) → 4 - m1 < n → ∀ (H : Heap) (locs : List Loc), va_P D vwCl (WM cy mo a f g r q) H → va_S (AM mo a) s.heap H locs → ∀ (ls : Array Slot), lv_has ls 7 [(6, .int (nI m1)), (5, .int x5), (4, .int (nI i)), (3, .int (nI k)), (2, .int y2), (0, .ref mo), (1, .int ways)] → W p l e (headSpec wsX10_tells ({ frames := 3, cells := 0, slots := 0, locals := 78 })).room s m #[Value.ref mo, Value.int ways] below meth c H locs 0 0 (MQ below (va_Qi (fun r0 u => u = (f, g, r, q) ∧ (Bo r0 (telA (q 26) (f 23) (f 24).toNatClampNeg (f 25).toNatClampNeg ways))) (mB D cy mo a) (AM mo a)) #[Value.ref mo, Value.int ways] s 0 0 (AM mo a)) (F0 m 27 ls []) := by
                intro n
                induction n with
                | zero => intro m1 x5  j27_0 j27_1 hn; exact absurd hn (Nat.not_lt_zero _)
                | succ n ih_27 =>
                  intro m1 x5  j27_0 j27_1 hn_27 H locs hP hS ls hl
                  have im1 : (nI m1).toInt = (m1 : Int) := nI_toInt (by omega)
                  refine lv_iload hx hb dX10_tells_27 (lv_at hl 0 rfl) ?_
                  refine lv_iconst (v := 4) hx hb dX10_tells_29 (by decide) ?_
                  refine lv_icmp_ge (tgt := 90) hx hb dX10_tells_30 (by decide) (fun c30 => ?_) (fun c30 => ?_)
                  · skip
                    have d30 := c30
                    rw [fa_le] at d30
                    refine lv_iload_n hx hb dX10_tells_90 rfl (lv_at hl 4 rfl) ?_
                    refine lv_if_eq (tgt := 103) hx hb dX10_tells_91 (by decide) (fun c91 => ?_) (fun c91 => ?_)
                    · skip
                      have d91 := c91
                      rw [fa_eq] at d91
                      refine lv_iconst (v := 0) hx hb dX10_tells_103 (by decide) ?_
                      refine lv_istore_n (lv' := [(2, .int (0 : Int32)), (6, .int (nI m1)), (5, .int x5), (4, .int (nI i)), (3, .int (nI k)), (0, .ref mo), (1, .int ways)]) hx hb dX10_tells_104 rfl hl (by decide) rfl (fun ls hl => ?_)
                      refine lv_iinc (v := (nI (i + 1))) (lv' := [(4, .int (nI (i + 1))), (2, .int (0 : Int32)), (6, .int (nI m1)), (5, .int x5), (3, .int (nI k)), (0, .ref mo), (1, .int ways)]) hx hb dX10_tells_105 hl (k := 3) rfl (nI_1 _) (by decide) rfl (fun ls hl => ?_)
                      refine lv_goto (tgt := 15) hx hb dX10_tells_108 (by decide) ?_
                      exact ih_15 (i + 1) (0 : Int32) (by omega) (by first | exact ts_c (Q := fun b => ∃ j, j < 4 ∧ unl (f 24).toNatClampNeg (f 25).toNatClampNeg (q 26 k) (q 26 b) ways j) j15_1 (ts_27 (show m1 = 4 by omega) j27_1) c91 c96 | exact ts_a (Q := fun b => ∃ j, j < 4 ∧ unl (f 24).toNatClampNeg (f 25).toNatClampNeg (q 26 k) (q 26 b) ways j) j15_1 c91 | exact ts_b (Q := fun b => ∃ j, j < 4 ∧ unl (f 24).toNatClampNeg (f 25).toNatClampNeg (q 26 k) (q 26 b) ways j) (ts_27 (show m1 = 4 by omega) j27_1) c96) (by first | (clear j27_1; omega) | omega) _ _ hP hS ls (lv_sub hl [0, 4, 1, 5, 6] rfl)
                    · skip
                      have d91 := c91
                      rw [fa_eq] at d91
                      refine lv_iload hx hb dX10_tells_94 (lv_at hl 1 rfl) ?_
                      refine lv_if_eq (tgt := 103) hx hb dX10_tells_96 (by decide) (fun c96 => ?_) (fun c96 => ?_)
                      · skip
                        have d96 := c96
                        rw [fa_eq] at d96
                        refine lv_iconst (v := 0) hx hb dX10_tells_103 (by decide) ?_
                        refine lv_istore_n (lv' := [(2, .int (0 : Int32)), (6, .int (nI m1)), (5, .int x5), (4, .int (nI i)), (3, .int (nI k)), (0, .ref mo), (1, .int ways)]) hx hb dX10_tells_104 rfl hl (by decide) rfl (fun ls hl => ?_)
                        refine lv_iinc (v := (nI (i + 1))) (lv' := [(4, .int (nI (i + 1))), (2, .int (0 : Int32)), (6, .int (nI m1)), (5, .int x5), (3, .int (nI k)), (0, .ref mo), (1, .int ways)]) hx hb dX10_tells_105 hl (k := 3) rfl (nI_1 _) (by decide) rfl (fun ls hl => ?_)
                        refine lv_goto (tgt := 15) hx hb dX10_tells_108 (by decide) ?_
                        exact ih_15 (i + 1) (0 : Int32) (by omega) (by first | exact ts_c (Q := fun b => ∃ j, j < 4 ∧ unl (f 24).toNatClampNeg (f 25).toNatClampNeg (q 26 k) (q 26 b) ways j) j15_1 (ts_27 (show m1 = 4 by omega) j27_1) c91 c96 | exact ts_a (Q := fun b => ∃ j, j < 4 ∧ unl (f 24).toNatClampNeg (f 25).toNatClampNeg (q 26 k) (q 26 b) ways j) j15_1 c91 | exact ts_b (Q := fun b => ∃ j, j < 4 ∧ unl (f 24).toNatClampNeg (f 25).toNatClampNeg (q 26 k) (q 26 b) ways j) (ts_27 (show m1 = 4 by omega) j27_1) c96) (by first | (clear j27_1; omega) | omega) _ _ hP hS ls (lv_sub hl [0, 4, 1, 5, 6] rfl)
                      · skip
                        have d96 := c96
                        rw [fa_eq] at d96
                        refine lv_iconst (v := 1) hx hb dX10_tells_99 (by decide) ?_
                        refine lv_goto (tgt := 104) hx hb dX10_tells_100 (by decide) ?_
                        refine lv_istore_n (lv' := [(2, .int (1 : Int32)), (6, .int (nI m1)), (5, .int x5), (4, .int (nI i)), (3, .int (nI k)), (0, .ref mo), (1, .int ways)]) hx hb dX10_tells_104 rfl hl (by decide) rfl (fun ls hl => ?_)
                        refine lv_iinc (v := (nI (i + 1))) (lv' := [(4, .int (nI (i + 1))), (2, .int (1 : Int32)), (6, .int (nI m1)), (5, .int x5), (3, .int (nI k)), (0, .ref mo), (1, .int ways)]) hx hb dX10_tells_105 hl (k := 3) rfl (nI_1 _) (by decide) rfl (fun ls hl => ?_)
                        refine lv_goto (tgt := 15) hx hb dX10_tells_108 (by decide) ?_
                        exact ih_15 (i + 1) (1 : Int32) (by omega) (by first | exact ts_c (Q := fun b => ∃ j, j < 4 ∧ unl (f 24).toNatClampNeg (f 25).toNatClampNeg (q 26 k) (q 26 b) ways j) j15_1 (ts_27 (show m1 = 4 by omega) j27_1) c91 c96 | exact ts_a (Q := fun b => ∃ j, j < 4 ∧ unl (f 24).toNatClampNeg (f 25).toNatClampNeg (q 26 k) (q 26 b) ways j) j15_1 c91 | exact ts_b (Q := fun b => ∃ j, j < 4 ∧ unl (f 24).toNatClampNeg (f 25).toNatClampNeg (q 26 k) (q 26 b) ways j) (ts_27 (show m1 = 4 by omega) j27_1) c96) (by first | (clear j27_1; omega) | omega) _ _ hP hS ls (lv_sub hl [0, 4, 1, 5, 6] rfl)
                  · skip
                    have d30 := c30
                    rw [fa_le] at d30
                    refine lv_iload hx hb dX10_tells_33 (lv_at hl 1 rfl) ?_
                    refine lv_if_ne (tgt := 77) hx hb dX10_tells_35 (by decide) (fun c35 => ?_) (fun c35 => ?_)
                    · skip
                      have d35 := c35
                      rw [fa_eq] at d35
                      refine lv_iconst (v := 1) hx hb dX10_tells_77 (by decide) ?_
                      refine lv_goto (tgt := 82) hx hb dX10_tells_78 (by decide) ?_
                      refine lv_istore (lv' := [(5, .int (1 : Int32)), (6, .int (nI m1)), (4, .int (nI i)), (3, .int (nI k)), (2, .int y2), (0, .ref mo), (1, .int ways)]) hx hb dX10_tells_82 hl (by decide) rfl (fun ls hl => ?_)
                      refine lv_iinc (v := (nI (m1 + 1))) (lv' := [(6, .int (nI (m1 + 1))), (5, .int (1 : Int32)), (4, .int (nI i)), (3, .int (nI k)), (2, .int y2), (0, .ref mo), (1, .int ways)]) hx hb dX10_tells_84 hl (k := 1) rfl (nI_1 _) (by decide) rfl (fun ls hl => ?_)
                      refine lv_goto (tgt := 27) hx hb dX10_tells_87 (by decide) ?_
                      exact ih_27 (m1 + 1) (1 : Int32) (by omega) (by
                                                                                          first
                                                                                          | exact Or.inl ⟨rfl, m1, by omega, hB.trans c45, b74⟩
                                                                                          | exact Or.inl ⟨rfl, by
                                                                                              rcases j27_1 with ⟨_, j9, h9, y9⟩ | ⟨z9, _⟩
                                                                                              · exact ⟨j9, by omega, y9⟩
                                                                                              · exact absurd z9 c35⟩
                                                                                          | exact Or.inr ⟨rfl, fun j hj => by
                                                                                              by_cases e9 : j = m1
                                                                                              · rw [e9]; first | exact fun z9 => c45 (hB.symm.trans z9.1) | exact fun z9 => z9.2 b74
                                                                                              · rcases j27_1 with ⟨z9, _⟩ | ⟨_, z9⟩
                                                                                                · exact absurd (z9.symm.trans c35) (by decide)
                                                                                                · exact z9 j (by omega)⟩) (by omega) _ _ hP hS ls (lv_sub hl [0, 1, 2, 3, 4, 5, 6] rfl)
                    · skip
                      have d35 := c35
                      rw [fa_eq] at d35
                      refine lv_iload_n hx hb dX10_tells_38 rfl (lv_at hl 6 rfl) ?_
                      refine lv_iload hx hb dX10_tells_39 (lv_at hl 0 rfl) ?_
                      refine lv_ishr hx hb dX10_tells_41 ?_
                      refine lv_topi (fun v41 e41 => ?_)
                      refine lv_iconst (v := 1) hx hb dX10_tells_42 (by decide) ?_
                      refine lv_iand hx hb dX10_tells_43 ?_
                      refine lv_topi (fun v43 e43 => ?_)
                      refine lv_iconst (v := 1) hx hb dX10_tells_44 (by decide) ?_
                      have hB : gB ways m1 = v43 := by rw [e43, e41]; rfl
                      refine lv_icmp_ne (tgt := 81) hx hb dX10_tells_45 (by decide) (fun c45 => ?_) (fun c45 => ?_)
                      · skip
                        have d45 := c45
                        rw [fa_eq] at d45
                        refine lv_iconst (v := 0) hx hb dX10_tells_81 (by decide) ?_
                        refine lv_istore (lv' := [(5, .int (0 : Int32)), (6, .int (nI m1)), (4, .int (nI i)), (3, .int (nI k)), (2, .int y2), (0, .ref mo), (1, .int ways)]) hx hb dX10_tells_82 hl (by decide) rfl (fun ls hl => ?_)
                        refine lv_iinc (v := (nI (m1 + 1))) (lv' := [(6, .int (nI (m1 + 1))), (5, .int (0 : Int32)), (4, .int (nI i)), (3, .int (nI k)), (2, .int y2), (0, .ref mo), (1, .int ways)]) hx hb dX10_tells_84 hl (k := 1) rfl (nI_1 _) (by decide) rfl (fun ls hl => ?_)
                        refine lv_goto (tgt := 27) hx hb dX10_tells_87 (by decide) ?_
                        exact ih_27 (m1 + 1) (0 : Int32) (by omega) (by
                                                                                          first
                                                                                          | exact Or.inl ⟨rfl, m1, by omega, hB.trans c45, b74⟩
                                                                                          | exact Or.inl ⟨rfl, by
                                                                                              rcases j27_1 with ⟨_, j9, h9, y9⟩ | ⟨z9, _⟩
                                                                                              · exact ⟨j9, by omega, y9⟩
                                                                                              · exact absurd z9 c35⟩
                                                                                          | exact Or.inr ⟨rfl, fun j hj => by
                                                                                              by_cases e9 : j = m1
                                                                                              · rw [e9]; first | exact fun z9 => c45 (hB.symm.trans z9.1) | exact fun z9 => z9.2 b74
                                                                                              · rcases j27_1 with ⟨z9, _⟩ | ⟨_, z9⟩
                                                                                                · exact absurd (z9.symm.trans c35) (by decide)
                                                                                                · exact z9 j (by omega)⟩) (by omega) _ _ hP hS ls (lv_sub hl [0, 1, 2, 3, 4, 5, 6] rfl)
                      · skip
                        have d45 := c45
                        rw [fa_eq] at d45
                        have hLw := hI.2.2.2.1 (by omega)
                        refine lv_aload_n hx hb dX10_tells_48 rfl (lv_at hl 5 rfl) ?_
                        refine m_get (v := .int (f 24)) hx hb hts hin hown hK hP 24 (by decide) rfl (hts (.fieldLink RX10 233 "ShadowBenchModel" "listWide" "I") (by decide +kernel)) rfl dX10_tells_49 ?_
                        refine lv_aload_n hx hb dX10_tells_52 rfl (lv_at hl 5 rfl) ?_
                        refine m_get (v := .int (f 25)) hx hb hts hin hown hK hP 25 (by decide) rfl (hts (.fieldLink RX10 236 "ShadowBenchModel" "listHigh" "I") (by decide +kernel)) rfl dX10_tells_53 ?_
                        refine lv_aload_n hx hb dX10_tells_56 rfl (lv_at hl 5 rfl) ?_
                        refine m_get (v := .ref (a 26)) hx hb hts hin hown hK hP 26 (by decide) rfl (hts (.fieldLink RX10 52 "ShadowBenchModel" "list" "[J") (by decide +kernel)) rfl dX10_tells_57 ?_
                        refine lv_iload_n hx hb dX10_tells_60 rfl (lv_at hl 3 rfl) ?_
                        refine m_lald (w := (q 26)) hx hb hK hP 14 rfl (vp_in_iff.mpr ⟨by omega, by omega⟩) dX10_tells_61 ?_
                        refine lv_topl (fun v61 e61 => ?_)
                        have f61 : v61 = q 26 k := by rw [e61, nI_clamp (by omega)]
                        refine lv_aload_n hx hb dX10_tells_62 rfl (lv_at hl 5 rfl) ?_
                        refine m_get (v := .ref (a 26)) hx hb hts hin hown hK hP 26 (by decide) rfl (hts (.fieldLink RX10 52 "ShadowBenchModel" "list" "[J") (by decide +kernel)) rfl dX10_tells_63 ?_
                        refine lv_iload hx hb dX10_tells_66 (lv_at hl 2 rfl) ?_
                        refine m_lald (w := (q 26)) hx hb hK hP 14 rfl (vp_in_iff.mpr ⟨by omega, by omega⟩) dX10_tells_68 ?_
                        refine lv_topl (fun v68 e68 => ?_)
                        have f68 : v68 = q 26 i := by rw [e68, nI_clamp (by omega)]
                        refine lv_iload hx hb dX10_tells_69 (lv_at hl 0 rfl) ?_
                        refine m_pu (As := [.int (f 24), .int (f 25), .long v61, .long v68, .int (nI m1)]) (rest := []) ⟨hx, hb, hml, hown, hts⟩ (c_X10_areAlike_x l (f 24) (f 25) v61 v68 (nI m1) hLw.1 hLw.2 (by omega)) (va_cwS 5 hts gX10_tells_X10_areAlike rfl rfl rfl (by decide +kernel) ⟨Nat.le_of_ble_eq_true rfl, Nat.le_of_ble_eq_true rfl⟩) hP rfl hl.1 rfl (Nat.le_of_ble_eq_true rfl) dX10_tells_71 ⟨Nat.le_of_ble_eq_true rfl, Nat.le_of_ble_eq_true rfl⟩ hS (fun r71 H locs q71 hP hS => ?_)
                        rw [nI_clamp (n := m1) (by omega), f61, f68] at q71
                        refine lv_if_ne (tgt := 81) hx hb dX10_tells_74 (by decide) (fun c74 => ?_) (fun c74 => ?_)
                        · skip
                          have b74 := bo_t q71 c74
                          refine lv_iconst (v := 0) hx hb dX10_tells_81 (by decide) ?_
                          refine lv_istore (lv' := [(5, .int (0 : Int32)), (6, .int (nI m1)), (4, .int (nI i)), (3, .int (nI k)), (2, .int y2), (0, .ref mo), (1, .int ways)]) hx hb dX10_tells_82 hl (by decide) rfl (fun ls hl => ?_)
                          refine lv_iinc (v := (nI (m1 + 1))) (lv' := [(6, .int (nI (m1 + 1))), (5, .int (0 : Int32)), (4, .int (nI i)), (3, .int (nI k)), (2, .int y2), (0, .ref mo), (1, .int ways)]) hx hb dX10_tells_84 hl (k := 1) rfl (nI_1 _) (by decide) rfl (fun ls hl => ?_)
                          refine lv_goto (tgt := 27) hx hb dX10_tells_87 (by decide) ?_
                          exact ih_27 (m1 + 1) (0 : Int32) (by omega) (by
                                                                                          first
                                                                                          | exact Or.inl ⟨rfl, m1, by omega, hB.trans c45, b74⟩
                                                                                          | exact Or.inl ⟨rfl, by
                                                                                              rcases j27_1 with ⟨_, j9, h9, y9⟩ | ⟨z9, _⟩
                                                                                              · exact ⟨j9, by omega, y9⟩
                                                                                              · exact absurd z9 c35⟩
                                                                                          | exact Or.inr ⟨rfl, fun j hj => by
                                                                                              by_cases e9 : j = m1
                                                                                              · rw [e9]; first | exact fun z9 => c45 (hB.symm.trans z9.1) | exact fun z9 => z9.2 b74
                                                                                              · rcases j27_1 with ⟨z9, _⟩ | ⟨_, z9⟩
                                                                                                · exact absurd (z9.symm.trans c35) (by decide)
                                                                                                · exact z9 j (by omega)⟩) (by omega) _ _ hP hS ls (lv_sub hl [0, 1, 2, 3, 4, 5, 6] rfl)
                        · skip
                          have b74 := bo_f q71 c74
                          refine lv_iconst (v := 1) hx hb dX10_tells_77 (by decide) ?_
                          refine lv_goto (tgt := 82) hx hb dX10_tells_78 (by decide) ?_
                          refine lv_istore (lv' := [(5, .int (1 : Int32)), (6, .int (nI m1)), (4, .int (nI i)), (3, .int (nI k)), (2, .int y2), (0, .ref mo), (1, .int ways)]) hx hb dX10_tells_82 hl (by decide) rfl (fun ls hl => ?_)
                          refine lv_iinc (v := (nI (m1 + 1))) (lv' := [(6, .int (nI (m1 + 1))), (5, .int (1 : Int32)), (4, .int (nI i)), (3, .int (nI k)), (2, .int y2), (0, .ref mo), (1, .int ways)]) hx hb dX10_tells_84 hl (k := 1) rfl (nI_1 _) (by decide) rfl (fun ls hl => ?_)
                          refine lv_goto (tgt := 27) hx hb dX10_tells_87 (by decide) ?_
                          exact ih_27 (m1 + 1) (1 : Int32) (by omega) (by
                                                                                          first
                                                                                          | exact Or.inl ⟨rfl, m1, by omega, hB.trans c45, b74⟩
                                                                                          | exact Or.inl ⟨rfl, by
                                                                                              rcases j27_1 with ⟨_, j9, h9, y9⟩ | ⟨z9, _⟩
                                                                                              · exact ⟨j9, by omega, y9⟩
                                                                                              · exact absurd z9 c35⟩
                                                                                          | exact Or.inr ⟨rfl, fun j hj => by
                                                                                              by_cases e9 : j = m1
                                                                                              · rw [e9]; first | exact fun z9 => c45 (hB.symm.trans z9.1) | exact fun z9 => z9.2 b74
                                                                                              · rcases j27_1 with ⟨z9, _⟩ | ⟨_, z9⟩
                                                                                                · exact absurd (z9.symm.trans c35) (by decide)
                                                                                                · exact z9 j (by omega)⟩) (by omega) _ _ hP hS ls (lv_sub hl [0, 1, 2, 3, 4, 5, 6] rfl)
              exact loop_27 (4 + 1) 0 (0 : Int32) (by omega) (Or.inr ⟨rfl, fun j h => absurd h (Nat.not_lt_zero _)⟩) (by omega) _ _ hP hS ls (lv_sub hl [0, 1, 2, 3, 4, 5, 6] rfl)
        exact loop_15 (12 + 1) 0 x2 (by omega) (by rcases j4_1 with ⟨z, y⟩ | ⟨z, y⟩; exact Or.inl ⟨z, y, fun b h => absurd h (Nat.not_lt_zero _)⟩; exact Or.inr ⟨z, fun u9 => y u9.1⟩) (by omega) _ _ hP hS ls (lv_sub hl [0, 1, 2, 3, 4] rfl)
  exact loop_4 (12 + 1) 0 (1 : Int32) (by omega) (Or.inl ⟨rfl, fun a b h => absurd h (Nat.not_lt_zero _)⟩) (by omega) _ _ hP hS ls (lv_sub hl [0, 1, 2, 3] rfl)
set_option maxHeartbeats 4000000 in
set_option maxRecDepth 100000 in
theorem c_X10_ways_x (l : Launch) (D : va_G) (cy : Nat → ClassId) (mo : Nat) (a : Nat → Nat) (f : Nat → Int32) (g : Nat → Int64) (r : Nat → Nat → Int32) (q : Nat → Nat → Int64)  (hD : DM cy mo a) (hI : MI f r) : Mi l D cy mo a yX10_ways wsX10_ways ({ frames := 4, cells := 0, slots := 0, locals := 104 }) f g r q [] (fun r0 u => u = ((upd f 0 (0 : Int32)), g, r, q) ∧ (wyA (fun s => telA (q 26) (f 23) (f 24).toNatClampNeg (f 25).toNatClampNeg (nI s)) r0)) := by
  refine Met.ofW (cc := cX10_ways) (maxL := 3) (ret := (some .int)) (by decide) rfl ?_
  intro p e s m args below meth c s₁ B hml hv
  obtain ⟨rfl, hP, hK⟩ := hv
  have hx := B.exec
  have hb := B.bytes
  have hr := B.returns
  have hts := atoms_spec (ws := wsX10_ways) B.pre
  have hin : ∀ w ∈ u_ws RX10 TX10 35, w ∈ wsX10_ways := by decide +kernel
  have hown : s.vm.findClass RX10 = some m.cls := findClass_of_methodNamed B.named
  have hlocks := B.notSynchronized
  have hS : va_S (AM mo a) s.heap s.heap [] := va_S.rf
  have hl := lv_entry ([.ref mo]) (n := 3) (Nat.le_of_ble_eq_true rfl)
  rw [lg_entry_eq]
  generalize (lg_sl ([.ref mo]) ++ List.replicate (3 - (lg_sl ([.ref mo])).length) Slot.unset).toArray = ls at hl ⊢
  have hl : lv_has ls 3 [(0, .ref mo)] := hl
  have k_m2 : (-2 : Int32).toInt = -2 := by decide
  have k_0 : (0 : Int32).toInt = 0 := by decide
  have k_4 : (4 : Int32).toInt = 4 := by decide
  have k_16 : (16 : Int32).toInt = 16 := by decide
  refine lv_aload_n hx hb dX10_ways_0 rfl (lv_at hl 0 rfl) ?_
  refine lv_iconst (v := 0) hx hb dX10_ways_1 (by decide) ?_
  refine m_put (v := .int (0 : Int32)) (ty := .int) hx hb hts hin hown hK hP hD hS 0 (by decide) rfl (hts (.fieldLink RX10 79 "ShadowBenchModel" "thrown" "I") (by decide +kernel)) rfl (by decide +kernel) rfl rfl (upd f 0 (0 : Int32)) g rfl dX10_ways_2 (fun H locs hP hS => ?_)
  refine lv_iconst (v := 0) hx hb dX10_ways_5 (by decide) ?_
  refine lv_istore_n (lv' := [(1, .int (0 : Int32)), (0, .ref mo)]) hx hb dX10_ways_6 rfl hl (by decide) rfl (fun ls hl => ?_)
  have loop_7 : ∀ (n : Nat) (k : Nat), (k ≤ 5) → (∀ m t, m < k → t < 16 → ¬ (pc4 t = m ∧ telA (q 26) (f 23) (f 24).toNatClampNeg (f 25).toNatClampNeg (nI t))) → 5 - k < n → ∀ (H : Heap) (locs : List Loc), va_P D vwCl (WM cy mo a (upd f 0 (0 : Int32)) g r q) H → va_S (AM mo a) s.heap H locs → ∀ (ls : Array Slot), lv_has ls 3 [(1, .int (nI k)), (0, .ref mo)] → W p l e (headSpec wsX10_ways ({ frames := 4, cells := 0, slots := 0, locals := 104 })).room s m #[Value.ref mo] below meth c H locs 0 0 (MQ below (va_Qi (fun r0 u => u = ((upd f 0 (0 : Int32)), g, r, q) ∧ (wyA (fun s => telA (q 26) (f 23) (f 24).toNatClampNeg (f 25).toNatClampNeg (nI s)) r0)) (mB D cy mo a) (AM mo a)) #[Value.ref mo] s 0 0 (AM mo a)) (F0 m 7 ls []) := by
    intro n
    induction n with
    | zero => intro k  j7_0 j7_1 hn; exact absurd hn (Nat.not_lt_zero _)
    | succ n ih_7 =>
      intro k  j7_0 j7_1 hn_7 H locs hP hS ls hl
      have ik : (nI k).toInt = (k : Int) := nI_toInt (by omega)
      refine lv_iload_n hx hb dX10_ways_7 rfl (lv_at hl 0 rfl) ?_
      refine lv_iconst (v := 4) hx hb dX10_ways_8 (by decide) ?_
      refine lv_icmp_gt (tgt := 51) hx hb dX10_ways_9 (by decide) (fun c9 => ?_) (fun c9 => ?_)
      · skip
        have d9 := c9
        rw [fa_lt] at d9
        refine lv_bipush (v := (-2)) hx hb dX10_ways_51 (by decide) ?_
        exact W.iret (v := ((-2) : Int32)) hx hb hr (fun t ht hW => ⟨⟨_, ((upd f 0 (0 : Int32)), g, r, q), rfl, ⟨rfl, (Or.inr ⟨rfl, fun m9 t9 h9 h8 => j7_1 m9 t9 (by omega) h8⟩)⟩, by unfold mB; rw [ht]; exact hP⟩, hS.F ht⟩) hS.2.2 dX10_ways_53
      · skip
        have d9 := c9
        rw [fa_lt] at d9
        refine lv_iconst (v := 0) hx hb dX10_ways_12 (by decide) ?_
        refine lv_istore_n (lv' := [(2, .int (0 : Int32)), (1, .int (nI k)), (0, .ref mo)]) hx hb dX10_ways_13 rfl hl (by decide) rfl (fun ls hl => ?_)
        have loop_14 : ∀ (n : Nat) (i : Nat), (i ≤ 16) → (∀ t, t < i → ¬ (pc4 t = k ∧ telA (q 26) (f 23) (f 24).toNatClampNeg (f 25).toNatClampNeg (nI t))) → 16 - i < n → ∀ (H : Heap) (locs : List Loc), va_P D vwCl (WM cy mo a (upd f 0 (0 : Int32)) g r q) H → va_S (AM mo a) s.heap H locs → ∀ (ls : Array Slot), lv_has ls 3 [(2, .int (nI i)), (1, .int (nI k)), (0, .ref mo)] → W p l e (headSpec wsX10_ways ({ frames := 4, cells := 0, slots := 0, locals := 104 })).room s m #[Value.ref mo] below meth c H locs 0 0 (MQ below (va_Qi (fun r0 u => u = ((upd f 0 (0 : Int32)), g, r, q) ∧ (wyA (fun s => telA (q 26) (f 23) (f 24).toNatClampNeg (f 25).toNatClampNeg (nI s)) r0)) (mB D cy mo a) (AM mo a)) #[Value.ref mo] s 0 0 (AM mo a)) (F0 m 14 ls []) := by
          intro n
          induction n with
          | zero => intro i  j14_0 j14_1 hn; exact absurd hn (Nat.not_lt_zero _)
          | succ n ih_14 =>
            intro i  j14_0 j14_1 hn_14 H locs hP hS ls hl
            have ii : (nI i).toInt = (i : Int) := nI_toInt (by omega)
            refine lv_iload_n hx hb dX10_ways_14 rfl (lv_at hl 0 rfl) ?_
            refine lv_bipush (v := 16) hx hb dX10_ways_15 (by decide) ?_
            refine lv_icmp_ge (tgt := 45) hx hb dX10_ways_17 (by decide) (fun c17 => ?_) (fun c17 => ?_)
            · skip
              have d17 := c17
              rw [fa_le] at d17
              refine lv_iinc (v := (nI (k + 1))) (lv' := [(1, .int (nI (k + 1))), (2, .int (nI i)), (0, .ref mo)]) hx hb dX10_ways_45 hl (k := 1) rfl (nI_1 _) (by decide) rfl (fun ls hl => ?_)
              refine lv_goto (tgt := 7) hx hb dX10_ways_48 (by decide) ?_
              exact ih_7 (k + 1) (by omega) (fun m t h1 h2 => by
                                                                                          by_cases e9 : m = k
                                                                                          · rw [e9]; exact j14_1 t (by omega)
                                                                                          · exact j7_1 m t (by omega) h2) (by omega) _ _ hP hS ls (lv_sub hl [0, 2] rfl)
            · skip
              have d17 := c17
              rw [fa_le] at d17
              refine lv_iload_n hx hb dX10_ways_20 rfl (lv_at hl 0 rfl) ?_
              refine lv_i2l (v := (nI i).toInt64) hx hb dX10_ways_21 rfl ?_
              refine m_pu (As := [.long ((nI i).toInt64)]) (rest := []) ⟨hx, hb, hml, hown, hts⟩ (c_X10_countOnes l ((nI i).toInt64) ) (va_cwS 1 hts gX10_ways_X10_countOnes rfl rfl rfl (by decide +kernel) ⟨Nat.le_of_ble_eq_true rfl, Nat.le_of_ble_eq_true rfl⟩) hP rfl hl.1 rfl (Nat.le_of_ble_eq_true rfl) dX10_ways_22 ⟨Nat.le_of_ble_eq_true rfl, Nat.le_of_ble_eq_true rfl⟩ hS (fun r22 H locs q22 hP hS => ?_)
              have f22 : r22 = nI (pc4 i) := by rw [q22, rn_ones _ 36 (Nat.le_refl _), pc4_lb i (by omega)]
              have b22 := pc4_le i
              have g22 : r22 = nI k ↔ pc4 i = k := by rw [f22]; exact nI_eq (by omega) (by omega)
              refine lv_iload_n hx hb dX10_ways_25 rfl (lv_at hl 1 rfl) ?_
              refine lv_icmp_ne (tgt := 39) hx hb dX10_ways_26 (by decide) (fun c26 => ?_) (fun c26 => ?_)
              · skip
                have d26 := c26
                rw [fa_eq] at d26
                refine lv_iinc (v := (nI (i + 1))) (lv' := [(2, .int (nI (i + 1))), (1, .int (nI k)), (0, .ref mo)]) hx hb dX10_ways_39 hl (k := 0) rfl (nI_1 _) (by decide) rfl (fun ls hl => ?_)
                refine lv_goto (tgt := 14) hx hb dX10_ways_42 (by decide) ?_
                exact ih_14 (i + 1) (by omega) (fun t h1 => by
                                                                                          by_cases e9 : t = i
                                                                                          · rw [e9]; first | exact fun z9 => c26 (g22.mpr z9.1) | exact fun z9 => b34 z9.2
                                                                                          · exact j14_1 t (by omega)) (by omega) _ _ hP hS ls (lv_sub hl [0, 1, 2] rfl)
              · skip
                have d26 := c26
                rw [fa_eq] at d26
                refine lv_aload_n hx hb dX10_ways_29 rfl (lv_at hl 2 rfl) ?_
                refine lv_iload_n hx hb dX10_ways_30 rfl (lv_at hl 0 rfl) ?_
                refine m_calli (As := [.int (nI i)]) (rest := []) ⟨hx, hb, hml, hown, hts⟩ (c_X10_tells_x l D cy mo a (upd f 0 (0 : Int32)) g r q (nI i) hD hI) (cwV 1 hts gX10_ways_X10_tells rfl rfl rfl (by decide +kernel) ⟨Nat.le_of_ble_eq_true rfl, Nat.le_of_ble_eq_true rfl⟩) hK hP rfl hl.1 rfl (Nat.le_of_ble_eq_true rfl) dX10_ways_31 ⟨Nat.le_of_ble_eq_true rfl, Nat.le_of_ble_eq_true rfl⟩ hS (fun r31 u H locs q31 hP hS => ?_)
                obtain ⟨rfl, q31⟩ := q31
                have hP : va_P D vwCl (WM cy mo a (upd f 0 (0 : Int32)) g r q) H := hP
                have q31 : Bo r31 (telA ((q 26)) ((f 23)) ((f 24)).toNatClampNeg ((f 25)).toNatClampNeg (nI i)) := q31
                refine lv_if_eq (tgt := 39) hx hb dX10_ways_34 (by decide) (fun c34 => ?_) (fun c34 => ?_)
                · skip
                  have b34 := bo_f q31 c34
                  refine lv_iinc (v := (nI (i + 1))) (lv' := [(2, .int (nI (i + 1))), (1, .int (nI k)), (0, .ref mo)]) hx hb dX10_ways_39 hl (k := 0) rfl (nI_1 _) (by decide) rfl (fun ls hl => ?_)
                  refine lv_goto (tgt := 14) hx hb dX10_ways_42 (by decide) ?_
                  exact ih_14 (i + 1) (by omega) (fun t h1 => by
                                                                                          by_cases e9 : t = i
                                                                                          · rw [e9]; first | exact fun z9 => c26 (g22.mpr z9.1) | exact fun z9 => b34 z9.2
                                                                                          · exact j14_1 t (by omega)) (by omega) _ _ hP hS ls (lv_sub hl [0, 1, 2] rfl)
                · skip
                  have b34 := bo_t q31 c34
                  refine lv_iload_n hx hb dX10_ways_37 rfl (lv_at hl 0 rfl) ?_
                  exact W.iret (v := (nI i)) hx hb hr (fun t ht hW => ⟨⟨_, ((upd f 0 (0 : Int32)), g, r, q), rfl, ⟨rfl, (Or.inl ⟨k, i, (by omega), (by omega), ⟨g22.mp c26, b34⟩, rfl, j7_1, j14_1⟩)⟩, by unfold mB; rw [ht]; exact hP⟩, hS.F ht⟩) hS.2.2 dX10_ways_38
        exact loop_14 (16 + 1) 0 (by omega) (fun t h => absurd h (Nat.not_lt_zero _)) (by omega) _ _ hP hS ls (lv_sub hl [0, 1, 2] rfl)
  exact loop_7 (5 + 1) 0 (by omega) (fun m t h => absurd h (Nat.not_lt_zero _)) (by omega) _ _ hP hS ls (lv_sub hl [0, 1] rfl)

theorem pr_all : ∀ n, n < 7 → ∀ i, i < n * (n - 1) / 2 → prA n i < prB n i ∧ prB n i < n := by decide +kernel
theorem dne {i a b : Nat} (h : a ≠ b) : (decide (i = a) && decide (i = b)) = false := by
  by_cases e : i = a
  · rw [decide_eq_false (fun z => h (e.symm.trans z)), Bool.and_false]
  · rw [decide_eq_false e, Bool.false_and]
theorem b4 (P A B C D : Bool) (h1 : (A && B) = false) (h2 : (A && C) = false) (h3 : (A && D) = false) (h4 : (B && C) = false) (h5 : (B && D) = false) (h6 : (C && D) = false) : (P ^^ ((A || B) || (C || D))) = ((((P ^^ A) ^^ B) ^^ C) ^^ D) := by
  revert h1 h2 h3 h4 h5 h6
  cases P <;> cases A <;> cases B <;> cases C <;> cases D <;> decide
section FOUR
variable {p : Int64} {a b c d : Nat}
theorem x4 (ha : a < 64) (hb : b < 64) (hc : c < 64) (hd : d < 64) (hab : a ≠ b) (hac : a ≠ c) (had : a ≠ d) (hbc : b ≠ c) (hbd : b ≠ d) (hcd : c ≠ d) : p ^^^ ((l1 a ||| l1 b) ||| (l1 c ||| l1 d)) = p ^^^ l1 a ^^^ l1 b ^^^ l1 c ^^^ l1 d := by
  apply lb_ext
  intro i hi
  simp only [lb_xor, lb_or, lb_l1 ha hi, lb_l1 hb hi, lb_l1 hc hi, lb_l1 hd hi]
  exact b4 _ _ _ _ _ (dne hab) (dne hac) (dne had) (dne hbc) (dne hbd) (dne hcd)
theorem or_cm (x y : Int64) : x ||| y = y ||| x := lb_ext (fun i _ => by rw [lb_or, lb_or, Bool.or_comm])
theorem s4 (ha : a < 64) (hb : b < 64) (hc : c < 64) (hd : d < 64) (hac : a ≠ c) (had : a ≠ d) (hbc : b ≠ c) (hbd : b ≠ d) : p &&& ((l1 a ||| l1 b) ||| (l1 c ||| l1 d)) = l1 a ||| l1 b ↔ (lb p a = true ∧ lb p b = true ∧ lb p c = false ∧ lb p d = false) := by
  constructor
  · intro h
    have z : ∀ i, i < 64 → (lb p i && ((decide (i = a) || decide (i = b)) || (decide (i = c) || decide (i = d)))) = (decide (i = a) || decide (i = b)) := fun i hi => by
      have y := congrArg (fun t => lb t i) h
      simp only [lb_and, lb_or, lb_l1 ha hi, lb_l1 hb hi, lb_l1 hc hi, lb_l1 hd hi] at y
      exact y
    have za := z a ha
    have zb := z b hb
    have zc := z c hc
    have zd := z d hd
    rw [decide_eq_true (rfl : a = a), Bool.true_or, Bool.true_or, Bool.and_true] at za
    rw [decide_eq_true (rfl : b = b), Bool.or_true, Bool.true_or, Bool.and_true] at zb
    rw [decide_eq_true (rfl : c = c), decide_eq_false (Ne.symm hac), decide_eq_false (Ne.symm hbc), Bool.true_or, Bool.or_true, Bool.and_true, Bool.or_false] at zc
    rw [decide_eq_true (rfl : d = d), decide_eq_false (Ne.symm had), decide_eq_false (Ne.symm hbd), Bool.or_true, Bool.or_true, Bool.and_true, Bool.or_false] at zd
    exact ⟨za, zb, zc, zd⟩
  · rintro ⟨h1, h2, h3, h4⟩
    apply lb_ext
    intro i hi
    simp only [lb_and, lb_or, lb_l1 ha hi, lb_l1 hb hi, lb_l1 hc hi, lb_l1 hd hi]
    by_cases e1 : i = a
    · rw [decide_eq_true e1, e1, h1]; rfl
    · by_cases e2 : i = b
      · rw [decide_eq_true e2, e2, h2, Bool.or_true, Bool.true_or]; rfl
      · rw [decide_eq_false e1, decide_eq_false e2]
        by_cases e3 : i = c
        · rw [e3, h3]; rfl
        · by_cases e4 : i = d
          · rw [e4, h4]; rfl
          · rw [decide_eq_false e3, decide_eq_false e4]; cases lb p i <;> rfl
theorem sw_is (ha : a < 64) (hb : b < 64) (hc : c < 64) (hd : d < 64) (hac : a ≠ c) (had : a ≠ d) (hbc : b ≠ c) (hbd : b ≠ d) : (p &&& ((l1 a ||| l1 b) ||| (l1 c ||| l1 d)) = l1 a ||| l1 b ∨ p &&& ((l1 a ||| l1 b) ||| (l1 c ||| l1 d)) = l1 c ||| l1 d) ↔ ((lb p a == lb p b) && (lb p c == lb p d) && (lb p a != lb p c)) = true := by
  rw [s4 ha hb hc hd hac had hbc hbd, or_cm (l1 a ||| l1 b) (l1 c ||| l1 d), s4 hc hd ha hb (Ne.symm hac) (Ne.symm hbc) (Ne.symm had) (Ne.symm hbd)]
  cases lb p a <;> cases lb p b <;> cases lb p c <;> cases lb p d <;> decide
theorem x4_ne (ha : a < 64) (hb : b < 64) (hc : c < 64) (hd : d < 64) (hab : a ≠ b) (hac : a ≠ c) (had : a ≠ d) : p ^^^ l1 a ^^^ l1 b ^^^ l1 c ^^^ l1 d ≠ p := fun h => by
  have y := congrArg (fun t => lb t a) h
  simp only [lb_xor, lb_l1 ha ha, lb_l1 hb ha, lb_l1 hc ha, lb_l1 hd ha] at y
  rw [decide_eq_false hab, decide_eq_false hac, decide_eq_false had] at y
  revert y
  cases lb p a <;> decide
end FOUR
/-- a switch of rows y, v and columns x, u, and the picture behind it -/
def swB (w : Nat) (p : Int64) (y v x u : Nat) : Bool := (lb p (y * w + x) == lb p (v * w + u)) && (lb p (y * w + u) == lb p (v * w + x)) && (lb p (y * w + x) != lb p (y * w + u))
def swX (w : Nat) (p : Int64) (y v x u : Nat) : Int64 := p ^^^ l1 (y * w + x) ^^^ l1 (v * w + u) ^^^ l1 (y * w + u) ^^^ l1 (v * w + x)
def swq (w h : Nat) (p : Int64) (q : Nat) : Bool := swB w p (prA h (q / (w * (w - 1) / 2))) (prB h (q / (w * (w - 1) / 2))) (prA w (q % (w * (w - 1) / 2))) (prB w (q % (w * (w - 1) / 2)))
def swx (w h : Nat) (p : Int64) (q : Nat) : Int64 := swX w p (prA h (q / (w * (w - 1) / 2))) (prB h (q / (w * (w - 1) / 2))) (prA w (q % (w * (w - 1) / 2))) (prB w (q % (w * (w - 1) / 2)))
theorem fo_ok {w h q : Nat} (hb : 1 ≤ w ∧ w ≤ 6 ∧ 1 ≤ h ∧ h ≤ 6) (hq : q < cfo w h) : (prA h (q / (w * (w - 1) / 2)) < prB h (q / (w * (w - 1) / 2)) ∧ prB h (q / (w * (w - 1) / 2)) < h) ∧ prA w (q % (w * (w - 1) / 2)) < prB w (q % (w * (w - 1) / 2)) ∧ prB w (q % (w * (w - 1) / 2)) < w := by
  have h0 : 0 < (w * (w - 1) / 2) := by
    rcases Nat.eq_zero_or_pos (w * (w - 1) / 2) with z | z
    · unfold cfo at hq; rw [z, Nat.zero_mul] at hq; exact absurd hq (Nat.not_lt_zero _)
    · exact z
  exact ⟨pr_all h (by omega) _ (Nat.div_lt_of_lt_mul hq), pr_all w (by omega) _ (Nat.mod_lt _ h0)⟩
theorem sw_pl {w h y v x u : Nat} (hw : w ≤ 6) (hh : h ≤ 6) (hyv : y < v) (hv : v < h) (hxu : x < u) (hu : u < w) : (y * w + x < 64 ∧ v * w + u < 64 ∧ y * w + u < 64 ∧ v * w + x < 64) ∧ y * w + x ≠ v * w + u ∧ y * w + x ≠ y * w + u ∧ y * w + x ≠ v * w + x ∧ v * w + u ≠ y * w + u ∧ v * w + u ≠ v * w + x ∧ y * w + u ≠ v * w + x := by
  have a := kw_b (k := v) (i := u) hw hh hu hv
  have m := Nat.mul_le_mul_right w (show y + 1 ≤ v from hyv)
  rw [Nat.succ_mul] at m
  omega
theorem beh_is {w h q : Nat} {p v19 v25 v26 v32 : Int64} (hb : 1 ≤ w ∧ w ≤ 6 ∧ 1 ≤ h ∧ h ≤ 6) (hq : q < cfo w h) (e19 : v19 = bFN w h (cfo w h) q) (e25 : v25 = bRN w h (cfo w h) q) (e26 : v26 = v19 ||| v25) (e32 : v32 = p &&& v26) : ((v32 = v19 ∨ v32 = v25) ↔ swq w h p q = true) ∧ p ^^^ v26 = swx w h p q := by
  obtain ⟨⟨o1, o2⟩, o3, o4⟩ := fo_ok hb hq
  obtain ⟨⟨l1', l2, l3, l4⟩, n1, n2, n3, n4, n5, n6⟩ := sw_pl hb.2.1 hb.2.2.2 o1 o2 o3 o4
  unfold bFN at e19
  unfold bRN at e25
  rw [if_pos hq] at e19 e25
  subst e19
  subst e25
  subst e26
  subst e32
  exact ⟨sw_is l1' l2 l3 l4 n2 n3 n4 n5, x4 l1' l2 l3 l4 n1 n2 n3 n4 n5 n6⟩
theorem beh_eq {w h q : Nat} {p r : Int64} (hb : 1 ≤ w ∧ w ≤ 6 ∧ 1 ≤ h ∧ h ≤ 6) (hq : q < cfo w h) (e : r = if swq w h p q then swx w h p q else p) : r = p ↔ swq w h p q = false := by
  obtain ⟨⟨o1, o2⟩, o3, o4⟩ := fo_ok hb hq
  obtain ⟨⟨l1', l2, l3, l4⟩, n1, n2, n3, -⟩ := sw_pl hb.2.1 hb.2.2.2 o1 o2 o3 o4
  cases hs : swq w h p q
  · rw [hs] at e
    exact ⟨fun _ => rfl, fun _ => e⟩
  · rw [hs] at e
    exact ⟨fun z => absurd (e.symm.trans z) (x4_ne l1' l2 l3 l4 n1 n2 n3), fun z => by cases z⟩
theorem swq_at {w h y v x u : Nat} {p : Int64} (hw : w < 7) (hh : h < 7) (hyv : y < v) (hv : v < h) (hxu : x < u) (hu : u < w) : swq w h p (prI h y v * (w * (w - 1) / 2) + prI w x u) = swB w p y v x u ∧ swx w h p (prI h y v * (w * (w - 1) / 2) + prI w x u) = swX w p y v x u := by
  obtain ⟨-, a2, a3⟩ := prI_0 h hh y (by omega) v hv hyv
  obtain ⟨b1, b2, b3⟩ := prI_0 w hw x (by omega) u hu hxu
  obtain ⟨c1, c2⟩ := prQ (a := prI h y v) b1
  unfold swq swx
  rw [c1, c2, a2, a3, b2, b3]
  exact ⟨rfl, rfl⟩
theorem bs_t {f : Nat → Bool} {n : Nat} (h : f n = true) : bs f (n + 1) = bs f n + 1 := by simp only [bs, h, Bool.toNat_true]
theorem bs_f {f : Nat → Bool} {n : Nat} (h : f n = false) : bs f (n + 1) = bs f n := by simp only [bs, h, Bool.toNat_false, Nat.add_zero]
theorem bs_inc (f : Nat → Bool) {a b : Nat} (h : a ≤ b) : bs f a ≤ bs f b := by
  obtain ⟨k, rfl⟩ : ∃ k, b = a + k := ⟨b - a, by omega⟩
  rw [bs_add]
  exact Nat.le_add_right _ _
theorem bs_inj {f : Nat → Bool} {a b : Nat} (ha : f a = true) (hb : f b = true) (e : bs f a = bs f b) : a = b := by
  rcases Nat.lt_trichotomy a b with z | z | z
  · have := bs_inc f (show a + 1 ≤ b from z); rw [bs_t ha] at this; omega
  · exact z
  · have := bs_inc f (show b + 1 ≤ a from z); rw [bs_t hb] at this; omega
def swA (w h : Int32) (p : Int64) (x : Int32) : Prop := (goodP w h p ∧ x = nI (bs (swq w.toNatClampNeg h.toNatClampNeg p) (cfo w.toNatClampNeg h.toNatClampNeg))) ∨ (¬ goodP w h p ∧ x = -1)
theorem swA_eq {w h : Int32} {p : Int64} {x y : Int32} (hx : swA w h p x) (hy : swA w h p y) : x = y := by
  rcases hx with ⟨a, b⟩ | ⟨a, b⟩ <;> rcases hy with ⟨c, d⟩ | ⟨c, d⟩
  · rw [b, d]
  · exact absurd a c
  · exact absurd c a
  · rw [b, d]
/-- the i-th picture behind a switch, or none -/
def swR (w h : Nat) (p : Int64) (i : Int) (x : Int64) : Prop := (∃ q, q < cfo w h ∧ swq w h p q = true ∧ (bs (swq w h p) q : Int) = i ∧ x = swx w h p q) ∨ ((bs (swq w h p) (cfo w h) : Int) ≤ i ∧ x = -2)
def swS (w h : Int32) (p : Int64) (i : Int32) (x : Int64) : Prop := ((goodP w h p ∧ 0 ≤ i.toInt) ∧ swR w.toNatClampNeg h.toNatClampNeg p i.toInt x) ∨ (¬ (goodP w h p ∧ 0 ≤ i.toInt) ∧ x = -1)
theorem swS_eq {w h : Int32} {p : Int64} {i : Int32} {x y : Int64} (hx : swS w h p i x) (hy : swS w h p i y) : x = y := by
  rcases hx with ⟨a, b⟩ | ⟨a, b⟩ <;> rcases hy with ⟨c, d⟩ | ⟨c, d⟩
  · rcases b with ⟨q, b1, b2, b3, b4⟩ | ⟨b1, b2⟩ <;> rcases d with ⟨q', d1, d2, d3, d4⟩ | ⟨d1, d2⟩
    · rw [b4, d4, bs_inj b2 d2 (by omega)]
    · have := bs_inc (swq w.toNatClampNeg h.toNatClampNeg p) (show q + 1 ≤ _ from b1); rw [bs_t b2] at this; omega
    · have := bs_inc (swq w.toNatClampNeg h.toNatClampNeg p) (show q' + 1 ≤ _ from d1); rw [bs_t d2] at this; omega
    · rw [b2, d2]
  · exact absurd a c
  · exact absurd c a
  · rw [b, d]
/-- what the reference holds behind n fours -/
def swI (w h : Nat) (p : Int64) (i : Int) (n : Nat) (bh : Int64) : Prop := 0 ≤ i → i < (bs (swq w h p) n : Int) → ∃ q, q < n ∧ swq w h p q = true ∧ (bs (swq w h p) q : Int) = i ∧ bh = swx w h p q
theorem swI_0 {w h : Nat} {p : Int64} {i : Int} {bh : Int64} : swI w h p i 0 bh := fun h1 h2 => by
  have : bs (swq w h p) 0 = 0 := rfl
  omega
theorem swI_f {w h : Nat} {p : Int64} {i : Int} {n : Nat} {bh : Int64} (h0 : swI w h p i n bh) (hf : swq w h p n = false) : swI w h p i (n + 1) bh := fun h1 h2 => by
  rw [bs_f hf] at h2
  obtain ⟨q, q1, q2⟩ := h0 h1 h2
  exact ⟨q, by omega, q2⟩
theorem swI_t {w h : Nat} {p : Int64} {i : Int} {n : Nat} {bh : Int64} (h0 : swI w h p i n bh) (hf : swq w h p n = true) (hn : ¬ (bs (swq w h p) n : Int) = i) : swI w h p i (n + 1) bh := fun h1 h2 => by
  rw [bs_t hf] at h2
  obtain ⟨q, q1, q2⟩ := h0 h1 (by omega)
  exact ⟨q, by omega, q2⟩
theorem swI_n {w h : Nat} {p : Int64} {i : Int} {n : Nat} {bh : Int64} (hf : swq w h p n = true) (hn : (bs (swq w h p) n : Int) = i) (hb : bh = swx w h p n) : swI w h p i (n + 1) bh := fun _ _ => ⟨n, Nat.lt_succ_self _, hf, hn, hb⟩
theorem sw_yes {a b c d : Bool} {ra rb rc rd : Int32} (fa : ra = if a then 1 else 0) (fb : rb = if b then 1 else 0) (fc : rc = if c then 1 else 0) (fd : rd = if d then 1 else 0) : (ra = rb ∧ rc = rd ∧ ¬ ra = rc) ↔ ((a == b) && (c == d) && (a != c)) = true := by
  subst fa
  subst fb
  subst fc
  subst fd
  cases a <;> cases b <;> cases c <;> cases d <;> decide
theorem b_not {x : Bool} (h : ¬ x = true) : x = false := by cases x; rfl; exact absurd rfl h

theorem b_not2 {x : Bool} (h : ¬ x = false) : x = true := by cases x; exact absurd rfl h; rfl
set_option maxHeartbeats 4000000 in
set_option maxRecDepth 100000 in
theorem c_X0_behindFour_x (l : Launch) (D : va_G) (cy : Nat → ClassId) (A : Nat → Prop) (G : cG) (ws : va_W) (o : Nat) (four : Nat) (p0 : Int64) {w h : Nat} (hD : va_D A ws) (hT : cT cy G ws) (hG_o : G o = some (2, w, h)) (hq1 : four < cfo w h) : Cl l D cy A yX0_behindFour wsX0_behindFour ({ frames := 0, cells := 0, slots := 0, locals := 0 }) 0 0 ws [.ref o, .int (nI four), .long p0] (fun r0 u => u = (G, ws) ∧ (r0 = if swq w h p0 four then swx w h p0 four else p0)) := by
  refine Met.ofW (cc := cX0_behindFour) (maxL := 9) (ret := (some .long)) (by decide) rfl ?_
  intro p e s m args below meth c s₁ B hml hv
  obtain ⟨rfl, hP, hK, hA, hV⟩ := hv
  have hx := B.exec
  have hb := B.bytes
  have hr := B.returns
  have hts := atoms_spec (ws := wsX0_behindFour) B.pre
  have hown : s.vm.findClass RX0 = some m.cls := findClass_of_methodNamed B.named
  have hlocks := B.notSynchronized
  have hS : va_S A s.heap s.heap [] := va_S.rf
  have hl := lv_entry ([.ref o, .int (nI four), .long p0]) (n := 9) (Nat.le_of_ble_eq_true rfl)
  rw [lg_entry_eq]
  generalize (lg_sl ([.ref o, .int (nI four), .long p0]) ++ List.replicate (9 - (lg_sl ([.ref o, .int (nI four), .long p0])).length) Slot.unset).toArray = ls at hl ⊢
  have hl : lv_has ls 9 [(0, .ref o), (1, .int (nI four)), (2, .long p0)] := hl
  have k_0 : (0 : Int32).toInt = 0 := by decide
  have k_1 : (1 : Int32).toInt = 1 := by decide
  have hb9 := c_hb hT hG_o
  have cf9 := cb_fo hb9
  have ifour : (nI four).toInt = (four : Int) := nI_toInt (by omega)
  have icf : (nI (cfo w h)).toInt = (cfo w h : Int) := nI_toInt (by omega)
  have cq9 : (nI four).toNatClampNeg = four := nI_clamp (by omega)
  refine lv_iload_n hx hb dX0_behindFour_0 rfl (lv_at hl 1 rfl) ?_
  refine lv_if_lt (tgt := 12) hx hb dX0_behindFour_1 (by decide) (fun c1 => ?_) (fun c1 => ?_)
  · skip
    have d1 := c1
    rw [fa_lt] at d1
    refine lv_lload_n hx hb dX0_behindFour_12 rfl (lv_at hl 2 rfl) ?_
    exact W.lret (v := p0) hx hb hr (fun t ht hW => ⟨⟨_, (G, ws), rfl, ⟨rfl, (by exfalso; omega)⟩, by show va_P D vwCl ws t.heap; rw [ht]; exact hP, hD, hT⟩, hS.F ht⟩) hS.2.2 dX0_behindFour_13
  · skip
    have d1 := c1
    rw [fa_lt] at d1
    refine lv_iload_n hx hb dX0_behindFour_4 rfl (lv_at hl 1 rfl) ?_
    refine lv_aload_n hx hb dX0_behindFour_5 rfl (lv_at hl 0 rfl) ?_
    obtain ⟨_, hM_o, hb_o, l_o, f_o, r_o, rfl, hG_l_o, hG_f_o, hG_r_o⟩ := hT _ _ hG_o
    refine t_get (v := .int (nI (cfo w h))) (C := RX0) (T := TX0) (N := 8) hx hb hts (by decide +kernel) hown hK hP hM_o rfl 4 (by decide) (hts (.fieldLink RX0 30 "ShadowBench$Board" "fours" "I") (by decide +kernel)) (fun _ h9 => h9) rfl dX0_behindFour_6 ?_
    have m_fo_o := cb_fo hb_o
    have i_fo_o : (nI (cfo w h)).toInt = _ := nI_toInt (by omega)
    refine lv_icmp_lt (tgt := 14) hx hb dX0_behindFour_9 (by decide) (fun c9 => ?_) (fun c9 => ?_)
    · skip
      have d9 := c9
      rw [fa_lt] at d9
      refine lv_aload_n hx hb dX0_behindFour_14 rfl (lv_at hl 0 rfl) ?_
      refine t_get (v := .ref f_o) (C := RX0) (T := TX0) (N := 8) hx hb hts (by decide +kernel) hown hK hP hM_o rfl 6 (by decide) (hts (.fieldLink RX0 33 "ShadowBench$Board" "falling" "[J") (by decide +kernel)) (fun _ h9 => h9) rfl dX0_behindFour_15 ?_
      refine lv_iload_n hx hb dX0_behindFour_18 rfl (lv_at hl 1 rfl) ?_
      refine t_lald12 hx hb hK hP hT hG_f_o (vp_in_iff.mpr ⟨by omega, by omega⟩) dX0_behindFour_19 ?_
      refine lv_topl (fun v19 e19 => ?_)
      rw [cq9] at e19
      refine lv_aload_n hx hb dX0_behindFour_20 rfl (lv_at hl 0 rfl) ?_
      refine t_get (v := .ref r_o) (C := RX0) (T := TX0) (N := 8) hx hb hts (by decide +kernel) hown hK hP hM_o rfl 7 (by decide) (hts (.fieldLink RX0 36 "ShadowBench$Board" "rising" "[J") (by decide +kernel)) (fun _ h9 => h9) rfl dX0_behindFour_21 ?_
      refine lv_iload_n hx hb dX0_behindFour_24 rfl (lv_at hl 1 rfl) ?_
      refine t_lald13 hx hb hK hP hT hG_r_o (vp_in_iff.mpr ⟨by omega, by omega⟩) dX0_behindFour_25 ?_
      refine lv_topl (fun v25 e25 => ?_)
      rw [cq9] at e25
      refine lv_lor hx hb dX0_behindFour_26 ?_
      refine lv_topl (fun v26 e26 => ?_)
      refine lv_lstore (lv' := [(4, .long v26), (0, .ref o), (1, .int (nI four)), (2, .long p0)]) hx hb dX0_behindFour_27 hl (by decide) rfl (fun ls hl => ?_)
      refine lv_lload_n hx hb dX0_behindFour_29 rfl (lv_at hl 3 rfl) ?_
      refine lv_lload hx hb dX0_behindFour_30 (lv_at hl 0 rfl) ?_
      refine lv_land hx hb dX0_behindFour_32 ?_
      refine lv_topl (fun v32 e32 => ?_)
      have hbh := beh_is (p := p0) hb9 hq1 e19 e25 e26 e32
      refine lv_lstore (lv' := [(6, .long v32), (4, .long v26), (0, .ref o), (1, .int (nI four)), (2, .long p0)]) hx hb dX0_behindFour_33 hl (by decide) rfl (fun ls hl => ?_)
      refine lv_lload hx hb dX0_behindFour_35 (lv_at hl 0 rfl) ?_
      refine lv_aload_n hx hb dX0_behindFour_37 rfl (lv_at hl 2 rfl) ?_
      refine t_get (v := .ref f_o) (C := RX0) (T := TX0) (N := 8) hx hb hts (by decide +kernel) hown hK hP hM_o rfl 6 (by decide) (hts (.fieldLink RX0 33 "ShadowBench$Board" "falling" "[J") (by decide +kernel)) (fun _ h9 => h9) rfl dX0_behindFour_38 ?_
      refine lv_iload_n hx hb dX0_behindFour_41 rfl (lv_at hl 3 rfl) ?_
      refine t_lald12 hx hb hK hP hT hG_f_o (vp_in_iff.mpr ⟨by omega, by omega⟩) dX0_behindFour_42 ?_
      refine lv_topl (fun v42 e42 => ?_)
      rw [cq9] at e42
      refine W.lcmp hx hb dX0_behindFour_43 ?_
      refine lv_if_eq (tgt := 59) hx hb dX0_behindFour_44 (by decide) (fun c44 => ?_) (fun c44 => ?_)
      · skip
        have d44 := c44
        rw [lg_cmp_eq, fa_eq64] at d44
        refine lv_iconst (v := 1) hx hb dX0_behindFour_59 (by decide) ?_
        refine lv_goto (tgt := 64) hx hb dX0_behindFour_60 (by decide) ?_
        refine lv_istore (lv' := [(8, .int (1 : Int32)), (6, .long v32), (4, .long v26), (0, .ref o), (1, .int (nI four)), (2, .long p0)]) hx hb dX0_behindFour_64 hl (by decide) rfl (fun ls hl => ?_)
        refine lv_iload hx hb dX0_behindFour_66 (lv_at hl 0 rfl) ?_
        refine lv_if_eq (tgt := 78) hx hb dX0_behindFour_68 (by decide) (fun c68 => ?_) (fun c68 => ?_)
        · first | exact absurd c68 (by decide) | exact absurd (by decide) c68
        · skip
          have d68 := c68
          rw [fa_eq] at d68
          refine lv_lload_n hx hb dX0_behindFour_71 rfl (lv_at hl 5 rfl) ?_
          refine lv_lload hx hb dX0_behindFour_72 (lv_at hl 2 rfl) ?_
          refine lv_lxor hx hb dX0_behindFour_74 ?_
          refine lv_topl (fun v74 e74 => ?_)
          refine lv_goto (tgt := 79) hx hb dX0_behindFour_75 (by decide) ?_
          exact W.lret (v := v74) hx hb hr (fun t ht hW => ⟨⟨_, (G, ws), rfl, ⟨rfl, (by first | (rw [if_pos (hbh.1.mp (Or.inl (((lg_cmp_eq _ _).mp c44).trans (e42.trans e19.symm)))), e74]; exact hbh.2) | (rw [if_pos (hbh.1.mp (Or.inr (((lg_cmp_eq _ _).mp c56).trans (e54.trans e25.symm)))), e74]; exact hbh.2) | (rw [if_neg (fun z9 => (hbh.1.mpr z9).elim (fun y9 => c44 ((lg_cmp_eq _ _).mpr (y9.trans (e19.trans e42.symm)))) (fun y9 => c56 ((lg_cmp_eq _ _).mpr (y9.trans (e25.trans e54.symm)))))]))⟩, by show va_P D vwCl ws t.heap; rw [ht]; exact hP, hD, hT⟩, hS.F ht⟩) hS.2.2 dX0_behindFour_79
      · skip
        have d44 := c44
        rw [lg_cmp_eq, fa_eq64] at d44
        refine lv_lload hx hb dX0_behindFour_47 (lv_at hl 0 rfl) ?_
        refine lv_aload_n hx hb dX0_behindFour_49 rfl (lv_at hl 2 rfl) ?_
        refine t_get (v := .ref r_o) (C := RX0) (T := TX0) (N := 8) hx hb hts (by decide +kernel) hown hK hP hM_o rfl 7 (by decide) (hts (.fieldLink RX0 36 "ShadowBench$Board" "rising" "[J") (by decide +kernel)) (fun _ h9 => h9) rfl dX0_behindFour_50 ?_
        refine lv_iload_n hx hb dX0_behindFour_53 rfl (lv_at hl 3 rfl) ?_
        refine t_lald13 hx hb hK hP hT hG_r_o (vp_in_iff.mpr ⟨by omega, by omega⟩) dX0_behindFour_54 ?_
        refine lv_topl (fun v54 e54 => ?_)
        rw [cq9] at e54
        refine W.lcmp hx hb dX0_behindFour_55 ?_
        refine lv_if_ne (tgt := 63) hx hb dX0_behindFour_56 (by decide) (fun c56 => ?_) (fun c56 => ?_)
        · skip
          have d56 := c56
          rw [lg_cmp_eq, fa_eq64] at d56
          refine lv_iconst (v := 0) hx hb dX0_behindFour_63 (by decide) ?_
          refine lv_istore (lv' := [(8, .int (0 : Int32)), (6, .long v32), (4, .long v26), (0, .ref o), (1, .int (nI four)), (2, .long p0)]) hx hb dX0_behindFour_64 hl (by decide) rfl (fun ls hl => ?_)
          refine lv_iload hx hb dX0_behindFour_66 (lv_at hl 0 rfl) ?_
          refine lv_if_eq (tgt := 78) hx hb dX0_behindFour_68 (by decide) (fun c68 => ?_) (fun c68 => ?_)
          · skip
            have d68 := c68
            rw [fa_eq] at d68
            refine lv_lload_n hx hb dX0_behindFour_78 rfl (lv_at hl 5 rfl) ?_
            exact W.lret (v := p0) hx hb hr (fun t ht hW => ⟨⟨_, (G, ws), rfl, ⟨rfl, (by first | (rw [if_pos (hbh.1.mp (Or.inl (((lg_cmp_eq _ _).mp c44).trans (e42.trans e19.symm)))), e74]; exact hbh.2) | (rw [if_pos (hbh.1.mp (Or.inr (((lg_cmp_eq _ _).mp c56).trans (e54.trans e25.symm)))), e74]; exact hbh.2) | (rw [if_neg (fun z9 => (hbh.1.mpr z9).elim (fun y9 => c44 ((lg_cmp_eq _ _).mpr (y9.trans (e19.trans e42.symm)))) (fun y9 => c56 ((lg_cmp_eq _ _).mpr (y9.trans (e25.trans e54.symm)))))]))⟩, by show va_P D vwCl ws t.heap; rw [ht]; exact hP, hD, hT⟩, hS.F ht⟩) hS.2.2 dX0_behindFour_79
          · first | exact absurd c68 (by decide) | exact absurd (by decide) c68
        · skip
          have d56 := c56
          rw [lg_cmp_eq, fa_eq64] at d56
          refine lv_iconst (v := 1) hx hb dX0_behindFour_59 (by decide) ?_
          refine lv_goto (tgt := 64) hx hb dX0_behindFour_60 (by decide) ?_
          refine lv_istore (lv' := [(8, .int (1 : Int32)), (6, .long v32), (4, .long v26), (0, .ref o), (1, .int (nI four)), (2, .long p0)]) hx hb dX0_behindFour_64 hl (by decide) rfl (fun ls hl => ?_)
          refine lv_iload hx hb dX0_behindFour_66 (lv_at hl 0 rfl) ?_
          refine lv_if_eq (tgt := 78) hx hb dX0_behindFour_68 (by decide) (fun c68 => ?_) (fun c68 => ?_)
          · first | exact absurd c68 (by decide) | exact absurd (by decide) c68
          · skip
            have d68 := c68
            rw [fa_eq] at d68
            refine lv_lload_n hx hb dX0_behindFour_71 rfl (lv_at hl 5 rfl) ?_
            refine lv_lload hx hb dX0_behindFour_72 (lv_at hl 2 rfl) ?_
            refine lv_lxor hx hb dX0_behindFour_74 ?_
            refine lv_topl (fun v74 e74 => ?_)
            refine lv_goto (tgt := 79) hx hb dX0_behindFour_75 (by decide) ?_
            exact W.lret (v := v74) hx hb hr (fun t ht hW => ⟨⟨_, (G, ws), rfl, ⟨rfl, (by first | (rw [if_pos (hbh.1.mp (Or.inl (((lg_cmp_eq _ _).mp c44).trans (e42.trans e19.symm)))), e74]; exact hbh.2) | (rw [if_pos (hbh.1.mp (Or.inr (((lg_cmp_eq _ _).mp c56).trans (e54.trans e25.symm)))), e74]; exact hbh.2) | (rw [if_neg (fun z9 => (hbh.1.mpr z9).elim (fun y9 => c44 ((lg_cmp_eq _ _).mpr (y9.trans (e19.trans e42.symm)))) (fun y9 => c56 ((lg_cmp_eq _ _).mpr (y9.trans (e25.trans e54.symm)))))]))⟩, by show va_P D vwCl ws t.heap; rw [ht]; exact hP, hD, hT⟩, hS.F ht⟩) hS.2.2 dX0_behindFour_79
    · skip
      have d9 := c9
      rw [fa_lt] at d9
      refine lv_lload_n hx hb dX0_behindFour_12 rfl (lv_at hl 2 rfl) ?_
      exact W.lret (v := p0) hx hb hr (fun t ht hW => ⟨⟨_, (G, ws), rfl, ⟨rfl, (by exfalso; omega)⟩, by show va_P D vwCl ws t.heap; rw [ht]; exact hP, hD, hT⟩, hS.F ht⟩) hS.2.2 dX0_behindFour_13
set_option maxHeartbeats 4000000 in
set_option maxRecDepth 100000 in
theorem c_X9_switches_x (l : Launch) (D : va_G) (cy : Nat → ClassId) (A : Nat → Prop) (G : cG) (ws : va_W) (o : Nat) (wide : Int32) (high : Int32) (p0 : Int64)  (hD : va_D A ws) (hT : cT cy G ws) (hG_o : G o = some (7, 0, 0))  : Ci l D cy A yX9_switches wsX9_switches ({ frames := 5, cells := 4, slots := 502, locals := 116 }) 4 502 ws [.ref o, .int wide, .int high, .long p0] (fun r0 u => cX none (chs [1, 8]) G ws u.1 u.2 ∧ (swA wide high p0 r0)) := by
  refine Met.ofW (cc := cX9_switches) (maxL := 8) (ret := (some .int)) (by decide) rfl ?_
  intro p e s m args below meth c s₁ B hml hv
  obtain ⟨rfl, hP, hK, hA, hV⟩ := hv
  have hx := B.exec
  have hb := B.bytes
  have hr := B.returns
  have hts := atoms_spec (ws := wsX9_switches) B.pre
  have hown : s.vm.findClass RX9 = some m.cls := findClass_of_methodNamed B.named
  have hlocks := B.notSynchronized
  have hS : va_S A s.heap s.heap [] := va_S.rf
  have hX : cX none (chs [1, 8]) G ws G ws := cX.rf
  have hl := lv_entry ([.ref o, .int wide, .int high, .long p0]) (n := 8) (Nat.le_of_ble_eq_true rfl)
  rw [lg_entry_eq]
  generalize (lg_sl ([.ref o, .int wide, .int high, .long p0]) ++ List.replicate (8 - (lg_sl ([.ref o, .int wide, .int high, .long p0])).length) Slot.unset).toArray = ls at hl ⊢
  have hl : lv_has ls 8 [(0, .ref o), (1, .int wide), (2, .int high), (3, .long p0)] := hl
  have k_m1 : (-1 : Int32).toInt = -1 := by decide
  have k_0 : (0 : Int32).toInt = 0 := by decide
  refine lv_aload_n hx hb dX9_switches_0 rfl (lv_at hl 0 rfl) ?_
  refine lv_iload_n hx hb dX9_switches_1 rfl (lv_at hl 1 rfl) ?_
  refine lv_iload_n hx hb dX9_switches_2 rfl (lv_at hl 2 rfl) ?_
  obtain ⟨_, hM_o, bs_o, js_o, sh_o, wk_o, ll_o, jc_o, lc_o, mo_o, lb_o, rfl, hjc_o, hlc_o, hG_bs_o, hG_js_o, hG_sh_o, hG_wk_o, hmo_o, hG_ll_o, hlb_o⟩ := hT _ _ hG_o
  refine t_calla (va_runV (g := F0 m 3 ls ([.int high, .int wide, .ref o])) (As := [.int wide, .int high]) (rest := []) ⟨hx, hb, hml, hown, hts⟩ (c_X9_boardOf_x l D cy A G ws o wide high hD hT hG_o ) (cwV 2 hts gX9_switches_X9_boardOf rfl rfl rfl (by decide +kernel) ⟨Nat.le_of_ble_eq_true rfl, Nat.le_of_ble_eq_true rfl⟩) (c_preV hM_o rfl hP hK hA hS hV) rfl rfl hl.1 rfl (lv_room (Nat.le_of_ble_eq_true rfl)) dX9_switches_3 ⟨Nat.le_of_ble_eq_true rfl, Nat.le_of_ble_eq_true rfl⟩) hS (fun r3 u H locs q3 hP9 hD9 hT9 hS => ?_)
  obtain ⟨G3, w3⟩ := u
  obtain ⟨hX9, q3⟩ := q3
  have hX9 : cX none (chs [1, 8]) G ws G3 w3 := hX9
  have hP : va_P D vwCl w3 H := hP9
  have hD : va_D A w3 := hD9
  have hT : cT cy G3 w3 := hT9
  have hM_o := hX9.2.1 _ _ (cP.no hG_o rfl) hM_o
  have hG_o := hX9.1 _ _ hG_o
  have hG_bs_o := hX9.1 _ _ hG_bs_o
  have hG_js_o := hX9.1 _ _ hG_js_o
  have hG_sh_o := hX9.1 _ _ hG_sh_o
  have hG_wk_o := hX9.1 _ _ hG_wk_o
  have hG_ll_o := hX9.1 _ _ hG_ll_o
  have hX := hX.tr hX9
  rcases r3 with _ | x3
  · skip
    have vn3 := q3.2.1 rfl
    refine lv_astoreN (lv' := [(5, .null), (0, .ref o), (1, .int wide), (2, .int high), (3, .long p0)]) hx hb dX9_switches_6 hl (by decide) rfl (fun ls hl => ?_)
    refine lv_aloadN hx hb dX9_switches_8 (lv_at hl 0 rfl) ?_
    refine lv_ifnullN (tgt := 22) hx hb dX9_switches_10 (by decide) ?_
    refine lv_iconst (v := (-1)) hx hb dX9_switches_22 (by decide) ?_
    refine W.widen (k := 4) (n := 502) (Nat.le_of_ble_eq_true rfl) (Nat.le_of_ble_eq_true rfl) ?_
    exact W.iret (v := ((-1) : Int32)) hx hb hr (fun t ht hW => ⟨⟨_, (G3, w3), rfl, ⟨hX, (Or.inr ⟨(fun z9 => by first | exact vn3 z9.1 | exact b19 z9.2), rfl⟩)⟩, by show va_P D vwCl w3 t.heap; rw [ht]; exact hP, hD, hT⟩, hS.F ht⟩) hS.2.2 dX9_switches_23
  · skip
    have hG_x3 := q3.1 x3 rfl
    have vb3 := q3.2.2 x3 rfl
    refine lv_astore (lv' := [(5, .ref x3), (0, .ref o), (1, .int wide), (2, .int high), (3, .long p0)]) hx hb dX9_switches_6 hl (by decide) rfl (fun ls hl => ?_)
    refine lv_aload hx hb dX9_switches_8 (lv_at hl 0 rfl) ?_
    refine lv_ifnull hx hb dX9_switches_10 ?_
    refine lv_aload hx hb dX9_switches_13 (lv_at hl 0 rfl) ?_
    refine lv_lload_n hx hb dX9_switches_15 rfl (lv_at hl 4 rfl) ?_
    obtain ⟨_, hM_x3, hb_x3, l_x3, f_x3, r_x3, rfl, hG_l_x3, hG_f_x3, hG_r_x3⟩ := hT _ _ hG_x3
    refine t_calli (va_runV (g := F0 m 16 ls ([.long p0, .ref x3])) (As := [.long p0]) (rest := []) ⟨hx, hb, hml, hown, hts⟩ (c_X0_isPicture_x l D cy A G3 w3 x3 p0 hD hT hG_x3 ) (cwV 1 hts gX9_switches_X0_isPicture rfl rfl rfl (by decide +kernel) ⟨Nat.le_of_ble_eq_true rfl, Nat.le_of_ble_eq_true rfl⟩) (c_preV hM_x3 rfl hP hK hA hS hV) rfl rfl hl.1 rfl (lv_room (Nat.le_of_ble_eq_true rfl)) dX9_switches_16 ⟨Nat.le_of_ble_eq_true rfl, Nat.le_of_ble_eq_true rfl⟩) hS (fun r16 u H locs q16 hP9 hD9 hT9 hS => ?_)
    obtain ⟨rfl, q16⟩ := q16
    have hP : va_P D vwCl w3 H := hP9
    refine lv_if_ne (tgt := 24) hx hb dX9_switches_19 (by decide) (fun c19 => ?_) (fun c19 => ?_)
    · skip
      have b19 := bo_t q16 c19
      have hb9 := c_hb hT hG_x3
      have cf9 := cb_fo hb9
      have icf : (nI (cfo wide.toNatClampNeg high.toNatClampNeg)).toInt = ((cfo wide.toNatClampNeg high.toNatClampNeg) : Int) := nI_toInt (by omega)
      refine lv_iconst (v := 0) hx hb dX9_switches_24 (by decide) ?_
      refine lv_istore (lv' := [(6, .int (0 : Int32)), (5, .ref x3), (0, .ref o), (1, .int wide), (2, .int high), (3, .long p0)]) hx hb dX9_switches_25 hl (by decide) rfl (fun ls hl => ?_)
      refine lv_iconst (v := 0) hx hb dX9_switches_27 (by decide) ?_
      refine lv_istore (lv' := [(7, .int (0 : Int32)), (6, .int (0 : Int32)), (5, .ref x3), (0, .ref o), (1, .int wide), (2, .int high), (3, .long p0)]) hx hb dX9_switches_28 hl (by decide) rfl (fun ls hl => ?_)
      have loop_30 : ∀ (n : Nat) (i : Nat) (c6 : Nat), (i ≤ (cfo wide.toNatClampNeg high.toNatClampNeg)) → (c6 = bs (swq wide.toNatClampNeg high.toNatClampNeg p0) i) → (cfo wide.toNatClampNeg high.toNatClampNeg) - i < n → ∀ (H : Heap) (locs : List Loc), va_P D vwCl w3 H → va_S A s.heap H locs → ∀ (ls : Array Slot), lv_has ls 8 [(7, .int (nI i)), (6, .int (nI c6)), (5, .ref x3), (0, .ref o), (1, .int wide), (2, .int high), (3, .long p0)] → W p l e (headSpec wsX9_switches ({ frames := 5, cells := 4, slots := 502, locals := 116 })).room s m #[Value.ref o, Value.int wide, Value.int high, Value.long p0] below meth c H locs 4 502 (MQ below (va_Qi (fun r0 u => cX none (chs [1, 8]) G ws u.1 u.2 ∧ (swA wide high p0 r0)) (cB D cy A) A) #[Value.ref o, Value.int wide, Value.int high, Value.long p0] s 4 502 A) (F0 m 30 ls []) := by
        intro n
        induction n with
        | zero => intro i c6 j30_0 j30_1 hn; exact absurd hn (Nat.not_lt_zero _)
        | succ n ih_30 =>
          intro i c6 j30_0 j30_1 hn_30 H locs hP hS  ls hl
          have ii : (nI i).toInt = (i : Int) := nI_toInt (by omega)
          refine lv_iload hx hb dX9_switches_30 (lv_at hl 0 rfl) ?_
          refine lv_aload hx hb dX9_switches_32 (lv_at hl 2 rfl) ?_
          refine t_get (v := .int (nI (cfo wide.toNatClampNeg high.toNatClampNeg))) (C := RX0) (T := TX0) (N := 8) hx hb hts (by decide +kernel) hown hK hP hM_x3 rfl 4 (by decide) (hts (.fieldLink RX9 176 "ShadowBench$Board" "fours" "I") (by decide +kernel)) (fun _ h9 => h9) rfl dX9_switches_34 ?_
          have m_fo_x3 := cb_fo hb_x3
          have i_fo_x3 : (nI (cfo wide.toNatClampNeg high.toNatClampNeg)).toInt = _ := nI_toInt (by omega)
          refine lv_icmp_ge (tgt := 62) hx hb dX9_switches_37 (by decide) (fun c37 => ?_) (fun c37 => ?_)
          · skip
            have d37 := c37
            rw [fa_le] at d37
            refine lv_iload hx hb dX9_switches_62 (lv_at hl 1 rfl) ?_
            refine W.widen (k := 4) (n := 502) (Nat.le_of_ble_eq_true rfl) (Nat.le_of_ble_eq_true rfl) ?_
            exact W.iret (v := (nI c6)) hx hb hr (fun t ht hW => ⟨⟨_, (G3, w3), rfl, ⟨hX, (Or.inl ⟨⟨vb3, b19⟩, (by rw [j30_1, show i = (cfo wide.toNatClampNeg high.toNatClampNeg) by omega])⟩)⟩, by show va_P D vwCl w3 t.heap; rw [ht]; exact hP, hD, hT⟩, hS.F ht⟩) hS.2.2 dX9_switches_64
          · skip
            have d37 := c37
            rw [fa_le] at d37
            refine lv_aload hx hb dX9_switches_40 (lv_at hl 2 rfl) ?_
            refine lv_iload hx hb dX9_switches_42 (lv_at hl 0 rfl) ?_
            refine lv_lload_n hx hb dX9_switches_44 rfl (lv_at hl 6 rfl) ?_
            refine t_calll (va_runV (g := F0 m 45 ls ([.long p0, .int (nI i), .ref x3])) (As := [.int (nI i), .long p0]) (rest := []) ⟨hx, hb, hml, hown, hts⟩ (c_X0_behindFour_x l D cy A G3 w3 x3 i p0 hD hT hG_x3 (by omega)) (cwV 2 hts gX9_switches_X0_behindFour rfl rfl rfl (by decide +kernel) ⟨Nat.le_of_ble_eq_true rfl, Nat.le_of_ble_eq_true rfl⟩) (c_preV hM_x3 rfl hP hK hA hS hV) rfl rfl hl.1 rfl (lv_room (Nat.le_of_ble_eq_true rfl)) dX9_switches_45 ⟨Nat.le_of_ble_eq_true rfl, Nat.le_of_ble_eq_true rfl⟩) hS (fun r45 u H locs q45 hP9 hD9 hT9 hS => ?_)
            obtain ⟨rfl, q45⟩ := q45
            have hP : va_P D vwCl w3 H := hP9
            refine lv_lload_n hx hb dX9_switches_48 rfl (lv_at hl 6 rfl) ?_
            refine W.lcmp hx hb dX9_switches_49 ?_
            have be9 := beh_eq hb9 (show i < (cfo wide.toNatClampNeg high.toNatClampNeg) by omega) q45
            refine lv_if_eq (tgt := 56) hx hb dX9_switches_50 (by decide) (fun c50 => ?_) (fun c50 => ?_)
            · skip
              have d50 := c50
              rw [lg_cmp_eq, fa_eq64] at d50
              refine lv_iinc (v := (nI (i + 1))) (lv' := [(7, .int (nI (i + 1))), (6, .int (nI c6)), (5, .ref x3), (0, .ref o), (1, .int wide), (2, .int high), (3, .long p0)]) hx hb dX9_switches_56 hl (k := 0) rfl (nI_1 _) (by decide) rfl (fun ls hl => ?_)
              refine lv_goto (tgt := 30) hx hb dX9_switches_59 (by decide) ?_
              exact ih_30 (i + 1) c6 (by omega) (by first | (rw [bs_f (be9.mp ((lg_cmp_eq _ _).mp c50))]; exact j30_1) | (rw [bs_t (b_not2 (fun z9 => c50 ((lg_cmp_eq _ _).mpr (be9.mpr z9))))]; omega)) (by omega) _ _ hP hS  ls (lv_sub hl [0, 1, 2, 3, 4, 5, 6] rfl)
            · skip
              have d50 := c50
              rw [lg_cmp_eq, fa_eq64] at d50
              refine lv_iinc (v := (nI (c6 + 1))) (lv' := [(6, .int (nI (c6 + 1))), (7, .int (nI i)), (5, .ref x3), (0, .ref o), (1, .int wide), (2, .int high), (3, .long p0)]) hx hb dX9_switches_53 hl (k := 1) rfl (nI_1 _) (by decide) rfl (fun ls hl => ?_)
              refine lv_iinc (v := (nI (i + 1))) (lv' := [(7, .int (nI (i + 1))), (6, .int (nI (c6 + 1))), (5, .ref x3), (0, .ref o), (1, .int wide), (2, .int high), (3, .long p0)]) hx hb dX9_switches_56 hl (k := 1) rfl (nI_1 _) (by decide) rfl (fun ls hl => ?_)
              refine lv_goto (tgt := 30) hx hb dX9_switches_59 (by decide) ?_
              exact ih_30 (i + 1) (c6 + 1) (by omega) (by first | (rw [bs_f (be9.mp ((lg_cmp_eq _ _).mp c50))]; exact j30_1) | (rw [bs_t (b_not2 (fun z9 => c50 ((lg_cmp_eq _ _).mpr (be9.mpr z9))))]; omega)) (by omega) _ _ hP hS  ls (lv_sub hl [0, 1, 2, 3, 4, 5, 6] rfl)
      exact loop_30 ((cfo wide.toNatClampNeg high.toNatClampNeg) + 1) 0 0 (by omega) (rfl) (by omega) _ _ hP hS  ls (lv_sub hl [0, 1, 2, 3, 4, 5, 6] rfl)
    · skip
      have b19 := bo_f q16 c19
      refine lv_iconst (v := (-1)) hx hb dX9_switches_22 (by decide) ?_
      refine W.widen (k := 4) (n := 502) (Nat.le_of_ble_eq_true rfl) (Nat.le_of_ble_eq_true rfl) ?_
      exact W.iret (v := ((-1) : Int32)) hx hb hr (fun t ht hW => ⟨⟨_, (G3, w3), rfl, ⟨hX, (Or.inr ⟨(fun z9 => by first | exact vn3 z9.1 | exact b19 z9.2), rfl⟩)⟩, by show va_P D vwCl w3 t.heap; rw [ht]; exact hP, hD, hT⟩, hS.F ht⟩) hS.2.2 dX9_switches_23
set_option maxHeartbeats 4000000 in
set_option maxRecDepth 100000 in
theorem c_X9_switched_x (l : Launch) (D : va_G) (cy : Nat → ClassId) (A : Nat → Prop) (G : cG) (ws : va_W) (o : Nat) (wide : Int32) (high : Int32) (p0 : Int64) (i0 : Int32)  (hD : va_D A ws) (hT : cT cy G ws) (hG_o : G o = some (7, 0, 0))  : Cl l D cy A yX9_switched wsX9_switched ({ frames := 5, cells := 4, slots := 502, locals := 116 }) 4 502 ws [.ref o, .int wide, .int high, .long p0, .int i0] (fun r0 u => cX none (chs [1, 8]) G ws u.1 u.2 ∧ (swS wide high p0 i0 r0)) := by
  refine Met.ofW (cc := cX9_switched) (maxL := 11) (ret := (some .long)) (by decide) rfl ?_
  intro p e s m args below meth c s₁ B hml hv
  obtain ⟨rfl, hP, hK, hA, hV⟩ := hv
  have hx := B.exec
  have hb := B.bytes
  have hr := B.returns
  have hts := atoms_spec (ws := wsX9_switched) B.pre
  have hown : s.vm.findClass RX9 = some m.cls := findClass_of_methodNamed B.named
  have hlocks := B.notSynchronized
  have hS : va_S A s.heap s.heap [] := va_S.rf
  have hX : cX none (chs [1, 8]) G ws G ws := cX.rf
  have hl := lv_entry ([.ref o, .int wide, .int high, .long p0, .int i0]) (n := 11) (Nat.le_of_ble_eq_true rfl)
  rw [lg_entry_eq]
  generalize (lg_sl ([.ref o, .int wide, .int high, .long p0, .int i0]) ++ List.replicate (11 - (lg_sl ([.ref o, .int wide, .int high, .long p0, .int i0])).length) Slot.unset).toArray = ls at hl ⊢
  have hl : lv_has ls 11 [(0, .ref o), (1, .int wide), (2, .int high), (3, .long p0), (5, .int i0)] := hl
  have k_0 : (0 : Int32).toInt = 0 := by decide
  have k_m2L : (-2 : Int64).toInt = -2 := by decide
  have k_m1L : (-1 : Int64).toInt = -1 := by decide
  refine lv_aload_n hx hb dX9_switched_0 rfl (lv_at hl 0 rfl) ?_
  refine lv_iload_n hx hb dX9_switched_1 rfl (lv_at hl 1 rfl) ?_
  refine lv_iload_n hx hb dX9_switched_2 rfl (lv_at hl 2 rfl) ?_
  obtain ⟨_, hM_o, bs_o, js_o, sh_o, wk_o, ll_o, jc_o, lc_o, mo_o, lb_o, rfl, hjc_o, hlc_o, hG_bs_o, hG_js_o, hG_sh_o, hG_wk_o, hmo_o, hG_ll_o, hlb_o⟩ := hT _ _ hG_o
  refine t_calla (va_runV (g := F0 m 3 ls ([.int high, .int wide, .ref o])) (As := [.int wide, .int high]) (rest := []) ⟨hx, hb, hml, hown, hts⟩ (c_X9_boardOf_x l D cy A G ws o wide high hD hT hG_o ) (cwV 2 hts gX9_switched_X9_boardOf rfl rfl rfl (by decide +kernel) ⟨Nat.le_of_ble_eq_true rfl, Nat.le_of_ble_eq_true rfl⟩) (c_preV hM_o rfl hP hK hA hS hV) rfl rfl hl.1 rfl (lv_room (Nat.le_of_ble_eq_true rfl)) dX9_switched_3 ⟨Nat.le_of_ble_eq_true rfl, Nat.le_of_ble_eq_true rfl⟩) hS (fun r3 u H locs q3 hP9 hD9 hT9 hS => ?_)
  obtain ⟨G3, w3⟩ := u
  obtain ⟨hX9, q3⟩ := q3
  have hX9 : cX none (chs [1, 8]) G ws G3 w3 := hX9
  have hP : va_P D vwCl w3 H := hP9
  have hD : va_D A w3 := hD9
  have hT : cT cy G3 w3 := hT9
  have hM_o := hX9.2.1 _ _ (cP.no hG_o rfl) hM_o
  have hG_o := hX9.1 _ _ hG_o
  have hG_bs_o := hX9.1 _ _ hG_bs_o
  have hG_js_o := hX9.1 _ _ hG_js_o
  have hG_sh_o := hX9.1 _ _ hG_sh_o
  have hG_wk_o := hX9.1 _ _ hG_wk_o
  have hG_ll_o := hX9.1 _ _ hG_ll_o
  have hX := hX.tr hX9
  rcases r3 with _ | x3
  · skip
    have vn3 := q3.2.1 rfl
    refine lv_astoreN (lv' := [(6, .null), (0, .ref o), (1, .int wide), (2, .int high), (3, .long p0), (5, .int i0)]) hx hb dX9_switched_6 hl (by decide) rfl (fun ls hl => ?_)
    refine lv_aloadN hx hb dX9_switched_8 (lv_at hl 0 rfl) ?_
    refine lv_ifnullN (tgt := 27) hx hb dX9_switched_10 (by decide) ?_
    refine lv_ldc2 hx hb hown (hts (.constantLong RX9 143 (-1)) (by decide +kernel)) dX9_switched_27 ?_
    refine W.widen (k := 4) (n := 502) (Nat.le_of_ble_eq_true rfl) (Nat.le_of_ble_eq_true rfl) ?_
    exact W.lret (v := (-1 : Int64)) hx hb hr (fun t ht hW => ⟨⟨_, (G3, w3), rfl, ⟨hX, (Or.inr ⟨(fun z9 => by first | exact vn3 z9.1.1 | exact b19 z9.1.2 | omega), rfl⟩)⟩, by show va_P D vwCl w3 t.heap; rw [ht]; exact hP, hD, hT⟩, hS.F ht⟩) hS.2.2 dX9_switched_30
  · skip
    have hG_x3 := q3.1 x3 rfl
    have vb3 := q3.2.2 x3 rfl
    refine lv_astore (lv' := [(6, .ref x3), (0, .ref o), (1, .int wide), (2, .int high), (3, .long p0), (5, .int i0)]) hx hb dX9_switched_6 hl (by decide) rfl (fun ls hl => ?_)
    refine lv_aload hx hb dX9_switched_8 (lv_at hl 0 rfl) ?_
    refine lv_ifnull hx hb dX9_switched_10 ?_
    refine lv_aload hx hb dX9_switched_13 (lv_at hl 0 rfl) ?_
    refine lv_lload_n hx hb dX9_switched_15 rfl (lv_at hl 4 rfl) ?_
    obtain ⟨_, hM_x3, hb_x3, l_x3, f_x3, r_x3, rfl, hG_l_x3, hG_f_x3, hG_r_x3⟩ := hT _ _ hG_x3
    refine t_calli (va_runV (g := F0 m 16 ls ([.long p0, .ref x3])) (As := [.long p0]) (rest := []) ⟨hx, hb, hml, hown, hts⟩ (c_X0_isPicture_x l D cy A G3 w3 x3 p0 hD hT hG_x3 ) (cwV 1 hts gX9_switched_X0_isPicture rfl rfl rfl (by decide +kernel) ⟨Nat.le_of_ble_eq_true rfl, Nat.le_of_ble_eq_true rfl⟩) (c_preV hM_x3 rfl hP hK hA hS hV) rfl rfl hl.1 rfl (lv_room (Nat.le_of_ble_eq_true rfl)) dX9_switched_16 ⟨Nat.le_of_ble_eq_true rfl, Nat.le_of_ble_eq_true rfl⟩) hS (fun r16 u H locs q16 hP9 hD9 hT9 hS => ?_)
    obtain ⟨rfl, q16⟩ := q16
    have hP : va_P D vwCl w3 H := hP9
    refine lv_if_eq (tgt := 27) hx hb dX9_switched_19 (by decide) (fun c19 => ?_) (fun c19 => ?_)
    · skip
      have b19 := bo_f q16 c19
      refine lv_ldc2 hx hb hown (hts (.constantLong RX9 143 (-1)) (by decide +kernel)) dX9_switched_27 ?_
      refine W.widen (k := 4) (n := 502) (Nat.le_of_ble_eq_true rfl) (Nat.le_of_ble_eq_true rfl) ?_
      exact W.lret (v := (-1 : Int64)) hx hb hr (fun t ht hW => ⟨⟨_, (G3, w3), rfl, ⟨hX, (Or.inr ⟨(fun z9 => by first | exact vn3 z9.1.1 | exact b19 z9.1.2 | omega), rfl⟩)⟩, by show va_P D vwCl w3 t.heap; rw [ht]; exact hP, hD, hT⟩, hS.F ht⟩) hS.2.2 dX9_switched_30
    · skip
      have b19 := bo_t q16 c19
      refine lv_iload hx hb dX9_switched_22 (lv_at hl 5 rfl) ?_
      refine lv_if_ge (tgt := 31) hx hb dX9_switched_24 (by decide) (fun c24 => ?_) (fun c24 => ?_)
      · skip
        have d24 := c24
        rw [fa_le] at d24
        have hb9 := c_hb hT hG_x3
        have cf9 := cb_fo hb9
        have icf : (nI (cfo wide.toNatClampNeg high.toNatClampNeg)).toInt = ((cfo wide.toNatClampNeg high.toNatClampNeg) : Int) := nI_toInt (by omega)
        refine lv_iconst (v := 0) hx hb dX9_switched_31 (by decide) ?_
        refine lv_istore (lv' := [(7, .int (0 : Int32)), (6, .ref x3), (0, .ref o), (1, .int wide), (2, .int high), (3, .long p0), (5, .int i0)]) hx hb dX9_switched_32 hl (by decide) rfl (fun ls hl => ?_)
        refine lv_iconst (v := 0) hx hb dX9_switched_34 (by decide) ?_
        refine lv_istore (lv' := [(8, .int (0 : Int32)), (7, .int (0 : Int32)), (6, .ref x3), (0, .ref o), (1, .int wide), (2, .int high), (3, .long p0), (5, .int i0)]) hx hb dX9_switched_35 hl (by decide) rfl (fun ls hl => ?_)
        have loop_37 : ∀ (n : Nat) (i : Nat) (c7 : Nat), (i ≤ (cfo wide.toNatClampNeg high.toNatClampNeg)) → (c7 = bs (swq wide.toNatClampNeg high.toNatClampNeg p0) i) → ((c7 : Int) ≤ i0.toInt) → (cfo wide.toNatClampNeg high.toNatClampNeg) - i < n → ∀ (H : Heap) (locs : List Loc), va_P D vwCl w3 H → va_S A s.heap H locs → ∀ (ls : Array Slot), lv_has ls 11 [(8, .int (nI i)), (7, .int (nI c7)), (6, .ref x3), (0, .ref o), (1, .int wide), (2, .int high), (3, .long p0), (5, .int i0)] → W p l e (headSpec wsX9_switched ({ frames := 5, cells := 4, slots := 502, locals := 116 })).room s m #[Value.ref o, Value.int wide, Value.int high, Value.long p0, Value.int i0] below meth c H locs 4 502 (MQ below (va_Ql (fun r0 u => cX none (chs [1, 8]) G ws u.1 u.2 ∧ (swS wide high p0 i0 r0)) (cB D cy A) A) #[Value.ref o, Value.int wide, Value.int high, Value.long p0, Value.int i0] s 4 502 A) (F0 m 37 ls []) := by
          intro n
          induction n with
          | zero => intro i c7 j37_0 j37_1 j37_2 hn; exact absurd hn (Nat.not_lt_zero _)
          | succ n ih_37 =>
            intro i c7 j37_0 j37_1 j37_2 hn_37 H locs hP hS  ls hl
            have ii : (nI i).toInt = (i : Int) := nI_toInt (by omega)
            refine lv_iload hx hb dX9_switched_37 (lv_at hl 0 rfl) ?_
            refine lv_aload hx hb dX9_switched_39 (lv_at hl 2 rfl) ?_
            refine t_get (v := .int (nI (cfo wide.toNatClampNeg high.toNatClampNeg))) (C := RX0) (T := TX0) (N := 8) hx hb hts (by decide +kernel) hown hK hP hM_x3 rfl 4 (by decide) (hts (.fieldLink RX9 176 "ShadowBench$Board" "fours" "I") (by decide +kernel)) (fun _ h9 => h9) rfl dX9_switched_41 ?_
            have m_fo_x3 := cb_fo hb_x3
            have i_fo_x3 : (nI (cfo wide.toNatClampNeg high.toNatClampNeg)).toInt = _ := nI_toInt (by omega)
            refine lv_icmp_ge (tgt := 83) hx hb dX9_switched_44 (by decide) (fun c44 => ?_) (fun c44 => ?_)
            · skip
              have d44 := c44
              rw [fa_le] at d44
              refine lv_ldc2 hx hb hown (hts (.constantLong RX9 151 (-2)) (by decide +kernel)) dX9_switched_83 ?_
              refine W.widen (k := 4) (n := 502) (Nat.le_of_ble_eq_true rfl) (Nat.le_of_ble_eq_true rfl) ?_
              exact W.lret (v := (-2 : Int64)) hx hb hr (fun t ht hW => ⟨⟨_, (G3, w3), rfl, ⟨hX, (Or.inl ⟨⟨⟨vb3, b19⟩, by omega⟩, Or.inr ⟨(by rw [← show i = (cfo wide.toNatClampNeg high.toNatClampNeg) by omega]; omega), rfl⟩⟩)⟩, by show va_P D vwCl w3 t.heap; rw [ht]; exact hP, hD, hT⟩, hS.F ht⟩) hS.2.2 dX9_switched_86
            · skip
              have d44 := c44
              rw [fa_le] at d44
              refine lv_aload hx hb dX9_switched_47 (lv_at hl 2 rfl) ?_
              refine lv_iload hx hb dX9_switched_49 (lv_at hl 0 rfl) ?_
              refine lv_lload_n hx hb dX9_switched_51 rfl (lv_at hl 6 rfl) ?_
              refine t_calll (va_runV (g := F0 m 52 ls ([.long p0, .int (nI i), .ref x3])) (As := [.int (nI i), .long p0]) (rest := []) ⟨hx, hb, hml, hown, hts⟩ (c_X0_behindFour_x l D cy A G3 w3 x3 i p0 hD hT hG_x3 (by omega)) (cwV 2 hts gX9_switched_X0_behindFour rfl rfl rfl (by decide +kernel) ⟨Nat.le_of_ble_eq_true rfl, Nat.le_of_ble_eq_true rfl⟩) (c_preV hM_x3 rfl hP hK hA hS hV) rfl rfl hl.1 rfl (lv_room (Nat.le_of_ble_eq_true rfl)) dX9_switched_52 ⟨Nat.le_of_ble_eq_true rfl, Nat.le_of_ble_eq_true rfl⟩) hS (fun r52 u H locs q52 hP9 hD9 hT9 hS => ?_)
              obtain ⟨rfl, q52⟩ := q52
              have hP : va_P D vwCl w3 H := hP9
              refine lv_lstore (lv' := [(9, .long r52), (8, .int (nI i)), (7, .int (nI c7)), (6, .ref x3), (0, .ref o), (1, .int wide), (2, .int high), (3, .long p0), (5, .int i0)]) hx hb dX9_switched_55 hl (by decide) rfl (fun ls hl => ?_)
              refine lv_lload hx hb dX9_switched_57 (lv_at hl 0 rfl) ?_
              refine lv_lload_n hx hb dX9_switched_59 rfl (lv_at hl 7 rfl) ?_
              refine W.lcmp hx hb dX9_switched_60 ?_
              have be9 := beh_eq hb9 (show i < (cfo wide.toNatClampNeg high.toNatClampNeg) by omega) q52
              refine lv_if_eq (tgt := 77) hx hb dX9_switched_61 (by decide) (fun c61 => ?_) (fun c61 => ?_)
              · skip
                have d61 := c61
                rw [lg_cmp_eq, fa_eq64] at d61
                refine lv_iinc (v := (nI (i + 1))) (lv' := [(8, .int (nI (i + 1))), (9, .long r52), (7, .int (nI c7)), (6, .ref x3), (0, .ref o), (1, .int wide), (2, .int high), (3, .long p0), (5, .int i0)]) hx hb dX9_switched_77 hl (k := 1) rfl (nI_1 _) (by decide) rfl (fun ls hl => ?_)
                refine lv_goto (tgt := 37) hx hb dX9_switched_80 (by decide) ?_
                exact ih_37 (i + 1) c7 (by omega) (by first | (rw [bs_f (be9.mp ((lg_cmp_eq _ _).mp c61))]; exact j37_1) | (rw [bs_t st9]; omega)) (by first | exact j37_2 | (have z9 : ¬ (nI c7).toInt = i0.toInt := (fun y9 => c68 (Int32.toInt_inj.mp y9)); omega)) (by omega) _ _ hP hS  ls (lv_sub hl [0, 2, 3, 4, 5, 6, 7, 8] rfl)
              · skip
                have d61 := c61
                rw [lg_cmp_eq, fa_eq64] at d61
                have st9 : swq wide.toNatClampNeg high.toNatClampNeg p0 i = true := b_not2 (fun z9 => c61 ((lg_cmp_eq _ _).mpr (be9.mpr z9)))
                have ic7 : (nI c7).toInt = (c7 : Int) := nI_toInt (by have := bs_le (swq wide.toNatClampNeg high.toNatClampNeg p0) i; omega)
                refine lv_iload hx hb dX9_switched_64 (lv_at hl 2 rfl) ?_
                refine lv_iload hx hb dX9_switched_66 (lv_at hl 8 rfl) ?_
                refine lv_icmp_ne (tgt := 74) hx hb dX9_switched_68 (by decide) (fun c68 => ?_) (fun c68 => ?_)
                · skip
                  have d68 := c68
                  rw [fa_eq] at d68
                  refine lv_iinc (v := (nI (c7 + 1))) (lv' := [(7, .int (nI (c7 + 1))), (9, .long r52), (8, .int (nI i)), (6, .ref x3), (0, .ref o), (1, .int wide), (2, .int high), (3, .long p0), (5, .int i0)]) hx hb dX9_switched_74 hl (k := 2) rfl (nI_1 _) (by decide) rfl (fun ls hl => ?_)
                  refine lv_iinc (v := (nI (i + 1))) (lv' := [(8, .int (nI (i + 1))), (7, .int (nI (c7 + 1))), (9, .long r52), (6, .ref x3), (0, .ref o), (1, .int wide), (2, .int high), (3, .long p0), (5, .int i0)]) hx hb dX9_switched_77 hl (k := 2) rfl (nI_1 _) (by decide) rfl (fun ls hl => ?_)
                  refine lv_goto (tgt := 37) hx hb dX9_switched_80 (by decide) ?_
                  exact ih_37 (i + 1) (c7 + 1) (by omega) (by first | (rw [bs_f (be9.mp ((lg_cmp_eq _ _).mp c61))]; exact j37_1) | (rw [bs_t st9]; omega)) (by first | exact j37_2 | (have z9 : ¬ (nI c7).toInt = i0.toInt := (fun y9 => c68 (Int32.toInt_inj.mp y9)); omega)) (by omega) _ _ hP hS  ls (lv_sub hl [0, 1, 3, 4, 5, 6, 7, 8] rfl)
                · skip
                  have d68 := c68
                  rw [fa_eq] at d68
                  have d71 := congrArg Int32.toInt c68
                  refine lv_lload hx hb dX9_switched_71 (lv_at hl 0 rfl) ?_
                  refine W.widen (k := 4) (n := 502) (Nat.le_of_ble_eq_true rfl) (Nat.le_of_ble_eq_true rfl) ?_
                  exact W.lret (v := r52) hx hb hr (fun t ht hW => ⟨⟨_, (G3, w3), rfl, ⟨hX, (Or.inl ⟨⟨⟨vb3, b19⟩, by omega⟩, Or.inl ⟨i, by omega, st9, by omega, (by rw [q52, if_pos st9])⟩⟩)⟩, by show va_P D vwCl w3 t.heap; rw [ht]; exact hP, hD, hT⟩, hS.F ht⟩) hS.2.2 dX9_switched_73
        exact loop_37 ((cfo wide.toNatClampNeg high.toNatClampNeg) + 1) 0 0 (by omega) (rfl) (by omega) (by omega) _ _ hP hS  ls (lv_sub hl [0, 1, 2, 3, 4, 5, 6, 7] rfl)
      · skip
        have d24 := c24
        rw [fa_le] at d24
        refine lv_ldc2 hx hb hown (hts (.constantLong RX9 143 (-1)) (by decide +kernel)) dX9_switched_27 ?_
        refine W.widen (k := 4) (n := 502) (Nat.le_of_ble_eq_true rfl) (Nat.le_of_ble_eq_true rfl) ?_
        exact W.lret (v := (-1 : Int64)) hx hb hr (fun t ht hW => ⟨⟨_, (G3, w3), rfl, ⟨hX, (Or.inr ⟨(fun z9 => by first | exact vn3 z9.1.1 | exact b19 z9.1.2 | omega), rfl⟩)⟩, by show va_P D vwCl w3 t.heap; rw [ht]; exact hP, hD, hT⟩, hS.F ht⟩) hS.2.2 dX9_switched_30

set_option maxHeartbeats 4000000 in
set_option maxRecDepth 100000 in
theorem c_X10_goSwitches_x (l : Launch) (D : va_G) (cy : Nat → ClassId) (mo : Nat) (a : Nat → Nat) (f : Nat → Int32) (g : Nat → Int64) (r : Nat → Nat → Int32) (q : Nat → Nat → Int64) (w : Int32) (h : Int32) (p0 : Int64) (at0 : Int32) (hD : DM cy mo a) (hw : 1 ≤ w.toInt ∧ w.toInt ≤ 6) (hh : 1 ≤ h.toInt ∧ h.toInt ≤ 6) : Mi l D cy mo a yX10_goSwitches wsX10_goSwitches ({ frames := 1, cells := 0, slots := 0, locals := 22 }) f g r q [.int w, .int h, .long p0, .int at0] (fun r0 u => ∃ (bh : Int64), u = (f, (vp_updL g 18 bh), r, q) ∧ (r0 = nI (bs (swq w.toNatClampNeg h.toNatClampNeg p0) (cfo w.toNatClampNeg h.toNatClampNeg)) ∧ swI w.toNatClampNeg h.toNatClampNeg p0 at0.toInt (cfo w.toNatClampNeg h.toNatClampNeg) bh)) := by
  refine Met.ofW (cc := cX10_goSwitches) (maxL := 15) (ret := (some .int)) (by decide) rfl ?_
  intro p e s m args below meth c s₁ B hml hv
  obtain ⟨rfl, hP, hK⟩ := hv
  have hx := B.exec
  have hb := B.bytes
  have hr := B.returns
  have hts := atoms_spec (ws := wsX10_goSwitches) B.pre
  have hin : ∀ w ∈ u_ws RX10 TX10 35, w ∈ wsX10_goSwitches := by decide +kernel
  have hown : s.vm.findClass RX10 = some m.cls := findClass_of_methodNamed B.named
  have hlocks := B.notSynchronized
  have hS : va_S (AM mo a) s.heap s.heap [] := va_S.rf
  have hl := lv_entry ([.ref mo, .int w, .int h, .long p0, .int at0]) (n := 15) (Nat.le_of_ble_eq_true rfl)
  rw [lg_entry_eq]
  generalize (lg_sl ([.ref mo, .int w, .int h, .long p0, .int at0]) ++ List.replicate (15 - (lg_sl ([.ref mo, .int w, .int h, .long p0, .int at0])).length) Slot.unset).toArray = ls at hl ⊢
  have hl : lv_has ls 15 [(0, .ref mo), (1, .int w), (2, .int h), (3, .long p0), (5, .int at0)] := hl
  have k_0 : (0 : Int32).toInt = 0 := by decide
  have k_1 : (1 : Int32).toInt = 1 := by decide
  have k_1L : (1 : Int64).toInt = 1 := by decide
  obtain ⟨ha, hb9, h36, hwn⟩ := wh36 hw hh
  have ew := cl_nI (w := w) (by omega)
  have eh := cl_nI (w := h) (by omega)
  obtain ⟨A9, hA9⟩ : ∃ z, z = w.toNatClampNeg := ⟨_, rfl⟩
  obtain ⟨B9, hB9⟩ : ∃ z, z = h.toNatClampNeg := ⟨_, rfl⟩
  rw [← hA9] at ha h36 hwn ew
  rw [← hB9] at hb9 h36 hwn eh
  have aw : w.toInt = (A9 : Int) := by rw [← ew]; exact nI_toInt (by omega)
  have ah : h.toInt = (B9 : Int) := by rw [← eh]; exact nI_toInt (by omega)
  refine lv_iconst (v := 0) hx hb dX10_goSwitches_0 (by decide) ?_
  refine lv_istore (lv' := [(6, .int (0 : Int32)), (0, .ref mo), (1, .int w), (2, .int h), (3, .long p0), (5, .int at0)]) hx hb dX10_goSwitches_1 hl (by decide) rfl (fun ls hl => ?_)
  refine lv_iconst (v := 0) hx hb dX10_goSwitches_3 (by decide) ?_
  refine lv_istore (lv' := [(7, .int (0 : Int32)), (6, .int (0 : Int32)), (0, .ref mo), (1, .int w), (2, .int h), (3, .long p0), (5, .int at0)]) hx hb dX10_goSwitches_4 hl (by decide) rfl (fun ls hl => ?_)
  have loop_6 : ∀ (n : Nat) (k : Nat) (x6 : Nat) (bh1 : Int64), (k ≤ B9) → (x6 = bs (swq A9 B9 p0) (prS B9 k * (A9 * (A9 - 1) / 2))) → (swI A9 B9 p0 at0.toInt (prS B9 k * (A9 * (A9 - 1) / 2)) bh1) → 6 - k < n → ∀ (H : Heap) (locs : List Loc), va_P D vwCl (WM cy mo a f (vp_updL g 18 bh1) r q) H → va_S (AM mo a) s.heap H locs → ∀ (ls : Array Slot), lv_has ls 15 [(7, .int (nI k)), (6, .int (nI x6)), (0, .ref mo), (1, .int w), (2, .int h), (3, .long p0), (5, .int at0)] → W p l e (headSpec wsX10_goSwitches ({ frames := 1, cells := 0, slots := 0, locals := 22 })).room s m #[Value.ref mo, Value.int w, Value.int h, Value.long p0, Value.int at0] below meth c H locs 0 0 (MQ below (va_Qi (fun r0 u => ∃ (bh : Int64), u = (f, (vp_updL g 18 bh), r, q) ∧ (r0 = nI (bs (swq w.toNatClampNeg h.toNatClampNeg p0) (cfo w.toNatClampNeg h.toNatClampNeg)) ∧ swI w.toNatClampNeg h.toNatClampNeg p0 at0.toInt (cfo w.toNatClampNeg h.toNatClampNeg) bh)) (mB D cy mo a) (AM mo a)) #[Value.ref mo, Value.int w, Value.int h, Value.long p0, Value.int at0] s 0 0 (AM mo a)) (F0 m 6 ls []) := by
    intro n
    induction n with
    | zero => intro k x6 bh1 j6_0 j6_1 j6_2 hn; exact absurd hn (Nat.not_lt_zero _)
    | succ n ih_6 =>
      intro k x6 bh1 j6_0 j6_1 j6_2 hn_6 H locs hP hS ls hl
      have ik : (nI k).toInt = (k : Int) := nI_toInt (by omega)
      refine lv_iload hx hb dX10_goSwitches_6 (lv_at hl 0 rfl) ?_
      refine lv_iload_n hx hb dX10_goSwitches_8 rfl (lv_at hl 4 rfl) ?_
      refine lv_icmp_ge (tgt := 204) hx hb dX10_goSwitches_9 (by decide) (fun c9 => ?_) (fun c9 => ?_)
      · skip
        have d9 := c9
        rw [fa_le] at d9
        refine lv_iload hx hb dX10_goSwitches_204 (lv_at hl 1 rfl) ?_
        exact W.iret (v := (nI x6)) hx hb hr (fun t ht hW => ⟨⟨_, (f, (vp_updL g 18 bh1), r, q), rfl, ⟨bh1, rfl, (by have z9 : (prS B9 k * (A9 * (A9 - 1) / 2)) = cfo A9 B9 := (by have z8 := (prS_0 B9 (by omega) 0 (by omega)).2.2; rw [show k = B9 by omega, z8]; unfold cfo; rw [Nat.mul_comm]); rw [z9] at j6_1 j6_2; rw [← hA9, ← hB9, j6_1]; exact ⟨rfl, j6_2⟩)⟩, by unfold mB; rw [ht]; exact hP⟩, hS.F ht⟩) hS.2.2 dX10_goSwitches_206
      · skip
        have d9 := c9
        rw [fa_le] at d9
        refine lv_iload hx hb dX10_goSwitches_12 (lv_at hl 0 rfl) ?_
        refine lv_iconst (v := 1) hx hb dX10_goSwitches_14 (by decide) ?_
        refine lv_iadd hx hb dX10_goSwitches_15 ?_
        refine lv_topi (fun v15 e15 => ?_)
        obtain rfl : v15 = nI (k + 1) := e15.trans (nI_1 _)
        refine lv_istore (lv' := [(8, .int (nI (k + 1))), (7, .int (nI k)), (6, .int (nI x6)), (0, .ref mo), (1, .int w), (2, .int h), (3, .long p0), (5, .int at0)]) hx hb dX10_goSwitches_16 hl (by decide) rfl (fun ls hl => ?_)
        have loop_18 : ∀ (n : Nat) (k2 : Nat) (y6 : Nat) (bh2 : Int64), (k + 1 ≤ k2 ∧ k2 ≤ B9) → (y6 = bs (swq A9 B9 p0) ((prS B9 k + (k2 - (k + 1))) * (A9 * (A9 - 1) / 2))) → (swI A9 B9 p0 at0.toInt ((prS B9 k + (k2 - (k + 1))) * (A9 * (A9 - 1) / 2)) bh2) → 6 - k2 < n → ∀ (H : Heap) (locs : List Loc), va_P D vwCl (WM cy mo a f (vp_updL g 18 bh2) r q) H → va_S (AM mo a) s.heap H locs → ∀ (ls : Array Slot), lv_has ls 15 [(8, .int (nI k2)), (7, .int (nI k)), (6, .int (nI y6)), (0, .ref mo), (1, .int w), (2, .int h), (3, .long p0), (5, .int at0)] → W p l e (headSpec wsX10_goSwitches ({ frames := 1, cells := 0, slots := 0, locals := 22 })).room s m #[Value.ref mo, Value.int w, Value.int h, Value.long p0, Value.int at0] below meth c H locs 0 0 (MQ below (va_Qi (fun r0 u => ∃ (bh : Int64), u = (f, (vp_updL g 18 bh), r, q) ∧ (r0 = nI (bs (swq w.toNatClampNeg h.toNatClampNeg p0) (cfo w.toNatClampNeg h.toNatClampNeg)) ∧ swI w.toNatClampNeg h.toNatClampNeg p0 at0.toInt (cfo w.toNatClampNeg h.toNatClampNeg) bh)) (mB D cy mo a) (AM mo a)) #[Value.ref mo, Value.int w, Value.int h, Value.long p0, Value.int at0] s 0 0 (AM mo a)) (F0 m 18 ls []) := by
          intro n
          induction n with
          | zero => intro k2 y6 bh2 j18_0 j18_1 j18_2 hn; exact absurd hn (Nat.not_lt_zero _)
          | succ n ih_18 =>
            intro k2 y6 bh2 j18_0 j18_1 j18_2 hn_18 H locs hP hS ls hl
            have ik2 : (nI k2).toInt = (k2 : Int) := nI_toInt (by omega)
            refine lv_iload hx hb dX10_goSwitches_18 (lv_at hl 0 rfl) ?_
            refine lv_iload_n hx hb dX10_goSwitches_20 rfl (lv_at hl 5 rfl) ?_
            refine lv_icmp_ge (tgt := 198) hx hb dX10_goSwitches_21 (by decide) (fun c21 => ?_) (fun c21 => ?_)
            · skip
              have d21 := c21
              rw [fa_le] at d21
              refine lv_iinc (v := (nI (k + 1))) (lv' := [(7, .int (nI (k + 1))), (8, .int (nI k2)), (6, .int (nI y6)), (0, .ref mo), (1, .int w), (2, .int h), (3, .long p0), (5, .int at0)]) hx hb dX10_goSwitches_198 hl (k := 1) rfl (nI_1 _) (by decide) rfl (fun ls hl => ?_)
              refine lv_goto (tgt := 6) hx hb dX10_goSwitches_201 (by decide) ?_
              exact ih_6 (k + 1) y6 bh2 (by omega) (by rw [(prS_0 B9 (by omega) k (by omega)).1, show B9 - (k + 1) = k2 - (k + 1) by omega]; exact j18_1) (by rw [(prS_0 B9 (by omega) k (by omega)).1, show B9 - (k + 1) = k2 - (k + 1) by omega]; exact j18_2) (by omega) _ _ hP hS ls (lv_sub hl [0, 2, 3, 4, 5, 6, 7] rfl)
            · skip
              have d21 := c21
              rw [fa_le] at d21
              refine lv_iconst (v := 0) hx hb dX10_goSwitches_24 (by decide) ?_
              refine lv_istore (lv' := [(9, .int (0 : Int32)), (8, .int (nI k2)), (7, .int (nI k)), (6, .int (nI y6)), (0, .ref mo), (1, .int w), (2, .int h), (3, .long p0), (5, .int at0)]) hx hb dX10_goSwitches_25 hl (by decide) rfl (fun ls hl => ?_)
              have loop_27 : ∀ (n : Nat) (k3 : Nat) (z6 : Nat) (bh3 : Int64), (k3 ≤ A9) → (z6 = bs (swq A9 B9 p0) (prI B9 k k2 * (A9 * (A9 - 1) / 2) + prS A9 k3)) → (swI A9 B9 p0 at0.toInt (prI B9 k k2 * (A9 * (A9 - 1) / 2) + prS A9 k3) bh3) → 6 - k3 < n → ∀ (H : Heap) (locs : List Loc), va_P D vwCl (WM cy mo a f (vp_updL g 18 bh3) r q) H → va_S (AM mo a) s.heap H locs → ∀ (ls : Array Slot), lv_has ls 15 [(9, .int (nI k3)), (8, .int (nI k2)), (7, .int (nI k)), (6, .int (nI z6)), (0, .ref mo), (1, .int w), (2, .int h), (3, .long p0), (5, .int at0)] → W p l e (headSpec wsX10_goSwitches ({ frames := 1, cells := 0, slots := 0, locals := 22 })).room s m #[Value.ref mo, Value.int w, Value.int h, Value.long p0, Value.int at0] below meth c H locs 0 0 (MQ below (va_Qi (fun r0 u => ∃ (bh : Int64), u = (f, (vp_updL g 18 bh), r, q) ∧ (r0 = nI (bs (swq w.toNatClampNeg h.toNatClampNeg p0) (cfo w.toNatClampNeg h.toNatClampNeg)) ∧ swI w.toNatClampNeg h.toNatClampNeg p0 at0.toInt (cfo w.toNatClampNeg h.toNatClampNeg) bh)) (mB D cy mo a) (AM mo a)) #[Value.ref mo, Value.int w, Value.int h, Value.long p0, Value.int at0] s 0 0 (AM mo a)) (F0 m 27 ls []) := by
                intro n
                induction n with
                | zero => intro k3 z6 bh3 j27_0 j27_1 j27_2 hn; exact absurd hn (Nat.not_lt_zero _)
                | succ n ih_27 =>
                  intro k3 z6 bh3 j27_0 j27_1 j27_2 hn_27 H locs hP hS ls hl
                  have ik3 : (nI k3).toInt = (k3 : Int) := nI_toInt (by omega)
                  refine lv_iload hx hb dX10_goSwitches_27 (lv_at hl 0 rfl) ?_
                  refine lv_iload_n hx hb dX10_goSwitches_29 rfl (lv_at hl 5 rfl) ?_
                  refine lv_icmp_ge (tgt := 192) hx hb dX10_goSwitches_30 (by decide) (fun c30 => ?_) (fun c30 => ?_)
                  · skip
                    have d30 := c30
                    rw [fa_le] at d30
                    refine lv_iinc (v := (nI (k2 + 1))) (lv' := [(8, .int (nI (k2 + 1))), (9, .int (nI k3)), (7, .int (nI k)), (6, .int (nI z6)), (0, .ref mo), (1, .int w), (2, .int h), (3, .long p0), (5, .int at0)]) hx hb dX10_goSwitches_192 hl (k := 1) rfl (nI_1 _) (by decide) rfl (fun ls hl => ?_)
                    refine lv_goto (tgt := 18) hx hb dX10_goSwitches_195 (by decide) ?_
                    exact ih_18 (k2 + 1) z6 bh3 (by omega) (by rw [show (prS B9 k + (k2 + 1 - (k + 1))) * (A9 * (A9 - 1) / 2) = prI B9 k k2 * (A9 * (A9 - 1) / 2) + prS A9 k3 by have z8 := (prS_0 A9 (by omega) 0 (by omega)).2.2; rw [show k3 = A9 by omega, z8, ← Nat.succ_mul, show k2 + 1 - (k + 1) = k2 - (k + 1) + 1 by omega]; rfl]; exact j27_1) (by rw [show (prS B9 k + (k2 + 1 - (k + 1))) * (A9 * (A9 - 1) / 2) = prI B9 k k2 * (A9 * (A9 - 1) / 2) + prS A9 k3 by have z8 := (prS_0 A9 (by omega) 0 (by omega)).2.2; rw [show k3 = A9 by omega, z8, ← Nat.succ_mul, show k2 + 1 - (k + 1) = k2 - (k + 1) + 1 by omega]; rfl]; exact j27_2) (by omega) _ _ hP hS ls (lv_sub hl [0, 2, 3, 4, 5, 6, 7, 8] rfl)
                  · skip
                    have d30 := c30
                    rw [fa_le] at d30
                    refine lv_iload hx hb dX10_goSwitches_33 (lv_at hl 0 rfl) ?_
                    refine lv_iconst (v := 1) hx hb dX10_goSwitches_35 (by decide) ?_
                    refine lv_iadd hx hb dX10_goSwitches_36 ?_
                    refine lv_topi (fun v36 e36 => ?_)
                    obtain rfl : v36 = nI (k3 + 1) := e36.trans (nI_1 _)
                    refine lv_istore (lv' := [(10, .int (nI (k3 + 1))), (9, .int (nI k3)), (8, .int (nI k2)), (7, .int (nI k)), (6, .int (nI z6)), (0, .ref mo), (1, .int w), (2, .int h), (3, .long p0), (5, .int at0)]) hx hb dX10_goSwitches_37 hl (by decide) rfl (fun ls hl => ?_)
                    have loop_39 : ∀ (n : Nat) (k4 : Nat) (u6 : Nat) (bh4 : Int64), (k3 + 1 ≤ k4 ∧ k4 ≤ A9) → (u6 = bs (swq A9 B9 p0) (prI B9 k k2 * (A9 * (A9 - 1) / 2) + prS A9 k3 + (k4 - (k3 + 1)))) → (swI A9 B9 p0 at0.toInt (prI B9 k k2 * (A9 * (A9 - 1) / 2) + prS A9 k3 + (k4 - (k3 + 1))) bh4) → 6 - k4 < n → ∀ (H : Heap) (locs : List Loc), va_P D vwCl (WM cy mo a f (vp_updL g 18 bh4) r q) H → va_S (AM mo a) s.heap H locs → ∀ (ls : Array Slot), lv_has ls 15 [(10, .int (nI k4)), (9, .int (nI k3)), (8, .int (nI k2)), (7, .int (nI k)), (6, .int (nI u6)), (0, .ref mo), (1, .int w), (2, .int h), (3, .long p0), (5, .int at0)] → W p l e (headSpec wsX10_goSwitches ({ frames := 1, cells := 0, slots := 0, locals := 22 })).room s m #[Value.ref mo, Value.int w, Value.int h, Value.long p0, Value.int at0] below meth c H locs 0 0 (MQ below (va_Qi (fun r0 u => ∃ (bh : Int64), u = (f, (vp_updL g 18 bh), r, q) ∧ (r0 = nI (bs (swq w.toNatClampNeg h.toNatClampNeg p0) (cfo w.toNatClampNeg h.toNatClampNeg)) ∧ swI w.toNatClampNeg h.toNatClampNeg p0 at0.toInt (cfo w.toNatClampNeg h.toNatClampNeg) bh)) (mB D cy mo a) (AM mo a)) #[Value.ref mo, Value.int w, Value.int h, Value.long p0, Value.int at0] s 0 0 (AM mo a)) (F0 m 39 ls []) := by
                      intro n
                      induction n with
                      | zero => intro k4 u6 bh4 j39_0 j39_1 j39_2 hn; exact absurd hn (Nat.not_lt_zero _)
                      | succ n ih_39 =>
                        intro k4 u6 bh4 j39_0 j39_1 j39_2 hn_39 H locs hP hS ls hl
                        have ik4 : (nI k4).toInt = (k4 : Int) := nI_toInt (by omega)
                        refine lv_iload hx hb dX10_goSwitches_39 (lv_at hl 0 rfl) ?_
                        refine lv_iload_n hx hb dX10_goSwitches_41 rfl (lv_at hl 6 rfl) ?_
                        refine lv_icmp_ge (tgt := 186) hx hb dX10_goSwitches_42 (by decide) (fun c42 => ?_) (fun c42 => ?_)
                        · skip
                          have d42 := c42
                          rw [fa_le] at d42
                          refine lv_iinc (v := (nI (k3 + 1))) (lv' := [(9, .int (nI (k3 + 1))), (10, .int (nI k4)), (8, .int (nI k2)), (7, .int (nI k)), (6, .int (nI u6)), (0, .ref mo), (1, .int w), (2, .int h), (3, .long p0), (5, .int at0)]) hx hb dX10_goSwitches_186 hl (k := 1) rfl (nI_1 _) (by decide) rfl (fun ls hl => ?_)
                          refine lv_goto (tgt := 27) hx hb dX10_goSwitches_189 (by decide) ?_
                          exact ih_27 (k3 + 1) u6 bh4 (by omega) (by rw [(prS_0 A9 (by omega) k3 (by omega)).1, show A9 - (k3 + 1) = k4 - (k3 + 1) by omega, ← Nat.add_assoc]; exact j39_1) (by rw [(prS_0 A9 (by omega) k3 (by omega)).1, show A9 - (k3 + 1) = k4 - (k3 + 1) by omega, ← Nat.add_assoc]; exact j39_2) (by omega) _ _ hP hS ls (lv_sub hl [0, 2, 3, 4, 5, 6, 7, 8, 9] rfl)
                        · skip
                          have d42 := c42
                          rw [fa_le] at d42
                          have ei9 : (prI B9 k k2 * (A9 * (A9 - 1) / 2) + prS A9 k3 + (k4 - (k3 + 1))) = (prI B9 k k2 * (A9 * (A9 - 1) / 2) + prI A9 k3 k4) := by unfold prI; omega
                          have at9 := swq_at (w := A9) (h := B9) (p := p0) (y := k) (v := k2) (x := k3) (u := k4) (by omega) (by omega) (by omega) (by omega) (by omega) (by omega)
                          have cf9 := cb_fo (w := A9) (h := B9) (by omega)
                          have lt9 := fo_lt (w := A9) (h := B9) (y := k) (v := k2) (x := k3) (u := k4) (by omega) (by omega) (by omega) (by omega) (by omega) (by omega)
                          have bl9 := bs_le (swq A9 B9 p0) (prI B9 k k2 * (A9 * (A9 - 1) / 2) + prS A9 k3 + (k4 - (k3 + 1)))
                          have ic6 : (nI u6).toInt = (u6 : Int) := nI_toInt (by rw [← j39_1] at bl9; omega)
                          refine lv_lload_n hx hb dX10_goSwitches_45 rfl (lv_at hl 8 rfl) ?_
                          refine lv_iload hx hb dX10_goSwitches_46 (lv_at hl 3 rfl) ?_
                          refine lv_iload_n hx hb dX10_goSwitches_48 rfl (lv_at hl 6 rfl) ?_
                          refine lv_imul hx hb dX10_goSwitches_49 ?_
                          refine lv_topi (fun v49 e49 => ?_)
                          refine lv_iload hx hb dX10_goSwitches_50 (lv_at hl 1 rfl) ?_
                          refine lv_iadd hx hb dX10_goSwitches_52 ?_
                          refine lv_topi (fun v52 e52 => ?_)
                          refine m_pu (As := [.long p0, .int v52]) (rest := []) ⟨hx, hb, hml, hown, hts⟩ (c_X10_one l p0 v52 ) (va_cwS 2 hts gX10_goSwitches_X10_one rfl rfl rfl (by decide +kernel) ⟨Nat.le_of_ble_eq_true rfl, Nat.le_of_ble_eq_true rfl⟩) hP rfl hl.1 rfl (Nat.le_of_ble_eq_true rfl) dX10_goSwitches_53 ⟨Nat.le_of_ble_eq_true rfl, Nat.le_of_ble_eq_true rfl⟩ hS (fun r53 H locs q53 hP hS => ?_)
                          have i53 : r53.toInt = (r_one p0 v52).toInt := congrArg Int32.toInt q53
                          refine lv_istore (lv' := [(11, .int r53), (10, .int (nI k4)), (9, .int (nI k3)), (8, .int (nI k2)), (7, .int (nI k)), (6, .int (nI u6)), (0, .ref mo), (1, .int w), (2, .int h), (3, .long p0), (5, .int at0)]) hx hb dX10_goSwitches_56 hl (by decide) rfl (fun ls hl => ?_)
                          refine lv_lload_n hx hb dX10_goSwitches_58 rfl (lv_at hl 9 rfl) ?_
                          refine lv_iload hx hb dX10_goSwitches_59 (lv_at hl 3 rfl) ?_
                          refine lv_iload_n hx hb dX10_goSwitches_61 rfl (lv_at hl 7 rfl) ?_
                          refine lv_imul hx hb dX10_goSwitches_62 ?_
                          refine lv_topi (fun v62 e62 => ?_)
                          refine lv_iload hx hb dX10_goSwitches_63 (lv_at hl 1 rfl) ?_
                          refine lv_iadd hx hb dX10_goSwitches_65 ?_
                          refine lv_topi (fun v65 e65 => ?_)
                          refine m_pu (As := [.long p0, .int v65]) (rest := []) ⟨hx, hb, hml, hown, hts⟩ (c_X10_one l p0 v65 ) (va_cwS 2 hts gX10_goSwitches_X10_one rfl rfl rfl (by decide +kernel) ⟨Nat.le_of_ble_eq_true rfl, Nat.le_of_ble_eq_true rfl⟩) hP rfl hl.1 rfl (Nat.le_of_ble_eq_true rfl) dX10_goSwitches_66 ⟨Nat.le_of_ble_eq_true rfl, Nat.le_of_ble_eq_true rfl⟩ hS (fun r66 H locs q66 hP hS => ?_)
                          have i66 : r66.toInt = (r_one p0 v65).toInt := congrArg Int32.toInt q66
                          refine lv_istore (lv' := [(12, .int r66), (11, .int r53), (10, .int (nI k4)), (9, .int (nI k3)), (8, .int (nI k2)), (7, .int (nI k)), (6, .int (nI u6)), (0, .ref mo), (1, .int w), (2, .int h), (3, .long p0), (5, .int at0)]) hx hb dX10_goSwitches_69 hl (by decide) rfl (fun ls hl => ?_)
                          refine lv_lload_n hx hb dX10_goSwitches_71 rfl (lv_at hl 10 rfl) ?_
                          refine lv_iload hx hb dX10_goSwitches_72 (lv_at hl 5 rfl) ?_
                          refine lv_iload_n hx hb dX10_goSwitches_74 rfl (lv_at hl 8 rfl) ?_
                          refine lv_imul hx hb dX10_goSwitches_75 ?_
                          refine lv_topi (fun v75 e75 => ?_)
                          refine lv_iload hx hb dX10_goSwitches_76 (lv_at hl 2 rfl) ?_
                          refine lv_iadd hx hb dX10_goSwitches_78 ?_
                          refine lv_topi (fun v78 e78 => ?_)
                          refine m_pu (As := [.long p0, .int v78]) (rest := []) ⟨hx, hb, hml, hown, hts⟩ (c_X10_one l p0 v78 ) (va_cwS 2 hts gX10_goSwitches_X10_one rfl rfl rfl (by decide +kernel) ⟨Nat.le_of_ble_eq_true rfl, Nat.le_of_ble_eq_true rfl⟩) hP rfl hl.1 rfl (Nat.le_of_ble_eq_true rfl) dX10_goSwitches_79 ⟨Nat.le_of_ble_eq_true rfl, Nat.le_of_ble_eq_true rfl⟩ hS (fun r79 H locs q79 hP hS => ?_)
                          have i79 : r79.toInt = (r_one p0 v78).toInt := congrArg Int32.toInt q79
                          refine lv_istore (lv' := [(13, .int r79), (12, .int r66), (11, .int r53), (10, .int (nI k4)), (9, .int (nI k3)), (8, .int (nI k2)), (7, .int (nI k)), (6, .int (nI u6)), (0, .ref mo), (1, .int w), (2, .int h), (3, .long p0), (5, .int at0)]) hx hb dX10_goSwitches_82 hl (by decide) rfl (fun ls hl => ?_)
                          refine lv_lload_n hx hb dX10_goSwitches_84 rfl (lv_at hl 11 rfl) ?_
                          refine lv_iload hx hb dX10_goSwitches_85 (lv_at hl 5 rfl) ?_
                          refine lv_iload_n hx hb dX10_goSwitches_87 rfl (lv_at hl 9 rfl) ?_
                          refine lv_imul hx hb dX10_goSwitches_88 ?_
                          refine lv_topi (fun v88 e88 => ?_)
                          refine lv_iload hx hb dX10_goSwitches_89 (lv_at hl 4 rfl) ?_
                          refine lv_iadd hx hb dX10_goSwitches_91 ?_
                          refine lv_topi (fun v91 e91 => ?_)
                          refine m_pu (As := [.long p0, .int v91]) (rest := []) ⟨hx, hb, hml, hown, hts⟩ (c_X10_one l p0 v91 ) (va_cwS 2 hts gX10_goSwitches_X10_one rfl rfl rfl (by decide +kernel) ⟨Nat.le_of_ble_eq_true rfl, Nat.le_of_ble_eq_true rfl⟩) hP rfl hl.1 rfl (Nat.le_of_ble_eq_true rfl) dX10_goSwitches_92 ⟨Nat.le_of_ble_eq_true rfl, Nat.le_of_ble_eq_true rfl⟩ hS (fun r92 H locs q92 hP hS => ?_)
                          have i92 : r92.toInt = (r_one p0 v91).toInt := congrArg Int32.toInt q92
                          refine lv_istore (lv' := [(14, .int r92), (13, .int r79), (12, .int r66), (11, .int r53), (10, .int (nI k4)), (9, .int (nI k3)), (8, .int (nI k2)), (7, .int (nI k)), (6, .int (nI u6)), (0, .ref mo), (1, .int w), (2, .int h), (3, .long p0), (5, .int at0)]) hx hb dX10_goSwitches_95 hl (by decide) rfl (fun ls hl => ?_)
                          have f53 : r53 = if lb p0 (k * A9 + k3) then 1 else 0 := by
                            have hkm : k * A9 ≤ 6 * 6 := Nat.mul_le_mul (by omega) (by omega)
                            rw [q53, e52, e49, ← ew, pk_mul, nI_add]
                            exact one_lb p0 (by omega)
                          have f66 : r66 = if lb p0 (k2 * A9 + k4) then 1 else 0 := by
                            have hkm : k2 * A9 ≤ 6 * 6 := Nat.mul_le_mul (by omega) (by omega)
                            rw [q66, e65, e62, ← ew, pk_mul, nI_add]
                            exact one_lb p0 (by omega)
                          have f79 : r79 = if lb p0 (k * A9 + k4) then 1 else 0 := by
                            have hkm : k * A9 ≤ 6 * 6 := Nat.mul_le_mul (by omega) (by omega)
                            rw [q79, e78, e75, ← ew, pk_mul, nI_add]
                            exact one_lb p0 (by omega)
                          have f92 : r92 = if lb p0 (k2 * A9 + k3) then 1 else 0 := by
                            have hkm : k2 * A9 ≤ 6 * 6 := Nat.mul_le_mul (by omega) (by omega)
                            rw [q92, e91, e88, ← ew, pk_mul, nI_add]
                            exact one_lb p0 (by omega)
                          have sy9 := sw_yes f53 f66 f79 f92
                          refine lv_iload hx hb dX10_goSwitches_97 (lv_at hl 3 rfl) ?_
                          refine lv_iload hx hb dX10_goSwitches_99 (lv_at hl 2 rfl) ?_
                          refine lv_icmp_ne (tgt := 180) hx hb dX10_goSwitches_101 (by decide) (fun c101 => ?_) (fun c101 => ?_)
                          · skip
                            have d101 := c101
                            rw [fa_eq] at d101
                            first | have st9 : swq A9 B9 p0 (prI B9 k k2 * (A9 * (A9 - 1) / 2) + prS A9 k3 + (k4 - (k3 + 1))) = true := st9 | have st9 : swq A9 B9 p0 (prI B9 k k2 * (A9 * (A9 - 1) / 2) + prS A9 k3 + (k4 - (k3 + 1))) = false := b_not (by rw [ei9, at9.1]; exact fun z9 => c101 (sy9.mpr z9).1) | have st9 : swq A9 B9 p0 (prI B9 k k2 * (A9 * (A9 - 1) / 2) + prS A9 k3 + (k4 - (k3 + 1))) = false := b_not (by rw [ei9, at9.1]; exact fun z9 => c108 (sy9.mpr z9).2.1) | have st9 : swq A9 B9 p0 (prI B9 k k2 * (A9 * (A9 - 1) / 2) + prS A9 k3 + (k4 - (k3 + 1))) = false := b_not (by rw [ei9, at9.1]; exact fun z9 => (sy9.mpr z9).2.2 c115)
                            refine lv_iinc (v := (nI (k4 + 1))) (lv' := [(10, .int (nI (k4 + 1))), (14, .int r92), (13, .int r79), (12, .int r66), (11, .int r53), (9, .int (nI k3)), (8, .int (nI k2)), (7, .int (nI k)), (6, .int (nI u6)), (0, .ref mo), (1, .int w), (2, .int h), (3, .long p0), (5, .int at0)]) hx hb dX10_goSwitches_180 hl (k := 4) rfl (nI_1 _) (by decide) rfl (fun ls hl => ?_)
                            refine lv_goto (tgt := 39) hx hb dX10_goSwitches_183 (by decide) ?_
                            exact ih_39 (k4 + 1) u6 bh4 (by omega) (by rw [show k4 + 1 - (k3 + 1) = k4 - (k3 + 1) + 1 by omega, ← Nat.add_assoc]; first | (rw [bs_t st9]; omega) | (rw [bs_f st9]; exact j39_1)) (by rw [show k4 + 1 - (k3 + 1) = k4 - (k3 + 1) + 1 by omega, ← Nat.add_assoc]; first | exact swI_f j39_2 st9 | exact swI_n st9 (by rw [← j39_1, ← ic6, c123]) f166 | exact swI_t j39_2 st9 (by rw [← j39_1, ← ic6]; exact fun z9 => c123 (Int32.toInt_inj.mp z9))) (by omega) _ _ hP hS ls (lv_sub hl [0, 5, 6, 7, 8, 9, 10, 11, 12, 13] rfl)
                          · skip
                            have d101 := c101
                            rw [fa_eq] at d101
                            refine lv_iload hx hb dX10_goSwitches_104 (lv_at hl 1 rfl) ?_
                            refine lv_iload hx hb dX10_goSwitches_106 (lv_at hl 0 rfl) ?_
                            refine lv_icmp_ne (tgt := 180) hx hb dX10_goSwitches_108 (by decide) (fun c108 => ?_) (fun c108 => ?_)
                            · skip
                              have d108 := c108
                              rw [fa_eq] at d108
                              first | have st9 : swq A9 B9 p0 (prI B9 k k2 * (A9 * (A9 - 1) / 2) + prS A9 k3 + (k4 - (k3 + 1))) = true := st9 | have st9 : swq A9 B9 p0 (prI B9 k k2 * (A9 * (A9 - 1) / 2) + prS A9 k3 + (k4 - (k3 + 1))) = false := b_not (by rw [ei9, at9.1]; exact fun z9 => c101 (sy9.mpr z9).1) | have st9 : swq A9 B9 p0 (prI B9 k k2 * (A9 * (A9 - 1) / 2) + prS A9 k3 + (k4 - (k3 + 1))) = false := b_not (by rw [ei9, at9.1]; exact fun z9 => c108 (sy9.mpr z9).2.1) | have st9 : swq A9 B9 p0 (prI B9 k k2 * (A9 * (A9 - 1) / 2) + prS A9 k3 + (k4 - (k3 + 1))) = false := b_not (by rw [ei9, at9.1]; exact fun z9 => (sy9.mpr z9).2.2 c115)
                              refine lv_iinc (v := (nI (k4 + 1))) (lv' := [(10, .int (nI (k4 + 1))), (14, .int r92), (13, .int r79), (12, .int r66), (11, .int r53), (9, .int (nI k3)), (8, .int (nI k2)), (7, .int (nI k)), (6, .int (nI u6)), (0, .ref mo), (1, .int w), (2, .int h), (3, .long p0), (5, .int at0)]) hx hb dX10_goSwitches_180 hl (k := 4) rfl (nI_1 _) (by decide) rfl (fun ls hl => ?_)
                              refine lv_goto (tgt := 39) hx hb dX10_goSwitches_183 (by decide) ?_
                              exact ih_39 (k4 + 1) u6 bh4 (by omega) (by rw [show k4 + 1 - (k3 + 1) = k4 - (k3 + 1) + 1 by omega, ← Nat.add_assoc]; first | (rw [bs_t st9]; omega) | (rw [bs_f st9]; exact j39_1)) (by rw [show k4 + 1 - (k3 + 1) = k4 - (k3 + 1) + 1 by omega, ← Nat.add_assoc]; first | exact swI_f j39_2 st9 | exact swI_n st9 (by rw [← j39_1, ← ic6, c123]) f166 | exact swI_t j39_2 st9 (by rw [← j39_1, ← ic6]; exact fun z9 => c123 (Int32.toInt_inj.mp z9))) (by omega) _ _ hP hS ls (lv_sub hl [0, 5, 6, 7, 8, 9, 10, 11, 12, 13] rfl)
                            · skip
                              have d108 := c108
                              rw [fa_eq] at d108
                              refine lv_iload hx hb dX10_goSwitches_111 (lv_at hl 3 rfl) ?_
                              refine lv_iload hx hb dX10_goSwitches_113 (lv_at hl 1 rfl) ?_
                              refine lv_icmp_eq (tgt := 180) hx hb dX10_goSwitches_115 (by decide) (fun c115 => ?_) (fun c115 => ?_)
                              · skip
                                have d115 := c115
                                rw [fa_eq] at d115
                                first | have st9 : swq A9 B9 p0 (prI B9 k k2 * (A9 * (A9 - 1) / 2) + prS A9 k3 + (k4 - (k3 + 1))) = true := st9 | have st9 : swq A9 B9 p0 (prI B9 k k2 * (A9 * (A9 - 1) / 2) + prS A9 k3 + (k4 - (k3 + 1))) = false := b_not (by rw [ei9, at9.1]; exact fun z9 => c101 (sy9.mpr z9).1) | have st9 : swq A9 B9 p0 (prI B9 k k2 * (A9 * (A9 - 1) / 2) + prS A9 k3 + (k4 - (k3 + 1))) = false := b_not (by rw [ei9, at9.1]; exact fun z9 => c108 (sy9.mpr z9).2.1) | have st9 : swq A9 B9 p0 (prI B9 k k2 * (A9 * (A9 - 1) / 2) + prS A9 k3 + (k4 - (k3 + 1))) = false := b_not (by rw [ei9, at9.1]; exact fun z9 => (sy9.mpr z9).2.2 c115)
                                refine lv_iinc (v := (nI (k4 + 1))) (lv' := [(10, .int (nI (k4 + 1))), (14, .int r92), (13, .int r79), (12, .int r66), (11, .int r53), (9, .int (nI k3)), (8, .int (nI k2)), (7, .int (nI k)), (6, .int (nI u6)), (0, .ref mo), (1, .int w), (2, .int h), (3, .long p0), (5, .int at0)]) hx hb dX10_goSwitches_180 hl (k := 4) rfl (nI_1 _) (by decide) rfl (fun ls hl => ?_)
                                refine lv_goto (tgt := 39) hx hb dX10_goSwitches_183 (by decide) ?_
                                exact ih_39 (k4 + 1) u6 bh4 (by omega) (by rw [show k4 + 1 - (k3 + 1) = k4 - (k3 + 1) + 1 by omega, ← Nat.add_assoc]; first | (rw [bs_t st9]; omega) | (rw [bs_f st9]; exact j39_1)) (by rw [show k4 + 1 - (k3 + 1) = k4 - (k3 + 1) + 1 by omega, ← Nat.add_assoc]; first | exact swI_f j39_2 st9 | exact swI_n st9 (by rw [← j39_1, ← ic6, c123]) f166 | exact swI_t j39_2 st9 (by rw [← j39_1, ← ic6]; exact fun z9 => c123 (Int32.toInt_inj.mp z9))) (by omega) _ _ hP hS ls (lv_sub hl [0, 5, 6, 7, 8, 9, 10, 11, 12, 13] rfl)
                              · skip
                                have d115 := c115
                                rw [fa_eq] at d115
                                have st9 : swq A9 B9 p0 (prI B9 k k2 * (A9 * (A9 - 1) / 2) + prS A9 k3 + (k4 - (k3 + 1))) = true := by rw [ei9, at9.1]; exact sy9.mp ⟨c101, c108, c115⟩
                                refine lv_aload_n hx hb dX10_goSwitches_118 rfl (lv_at hl 9 rfl) ?_
                                refine lv_iload hx hb dX10_goSwitches_119 (lv_at hl 8 rfl) ?_
                                refine lv_iload hx hb dX10_goSwitches_121 (lv_at hl 13 rfl) ?_
                                refine lv_icmp_ne (tgt := 170) hx hb dX10_goSwitches_123 (by decide) (fun c123 => ?_) (fun c123 => ?_)
                                · skip
                                  have d123 := c123
                                  rw [fa_eq] at d123
                                  refine lv_aload_n hx hb dX10_goSwitches_170 rfl (lv_at hl 9 rfl) ?_
                                  refine m_get (v := .long bh4) hx hb hts hin hown hK hP 18 (by decide) rfl (hts (.fieldLink RX10 201 "ShadowBenchModel" "behind" "J") (by decide +kernel)) rfl dX10_goSwitches_171 ?_
                                  refine m_put (v := .long bh4) (ty := .long) hx hb hts hin hown hK hP hD hS 18 (by decide) rfl (hts (.fieldLink RX10 201 "ShadowBenchModel" "behind" "J") (by decide +kernel)) rfl (by decide +kernel) rfl rfl f (vp_updL g 18 bh4) rfl dX10_goSwitches_174 (fun H locs hP hS => ?_)
                                  refine lv_iinc (v := (nI (u6 + 1))) (lv' := [(6, .int (nI (u6 + 1))), (14, .int r92), (13, .int r79), (12, .int r66), (11, .int r53), (10, .int (nI k4)), (9, .int (nI k3)), (8, .int (nI k2)), (7, .int (nI k)), (0, .ref mo), (1, .int w), (2, .int h), (3, .long p0), (5, .int at0)]) hx hb dX10_goSwitches_177 hl (k := 8) rfl (nI_1 _) (by decide) rfl (fun ls hl => ?_)
                                  first | have st9 : swq A9 B9 p0 (prI B9 k k2 * (A9 * (A9 - 1) / 2) + prS A9 k3 + (k4 - (k3 + 1))) = true := st9 | have st9 : swq A9 B9 p0 (prI B9 k k2 * (A9 * (A9 - 1) / 2) + prS A9 k3 + (k4 - (k3 + 1))) = false := b_not (by rw [ei9, at9.1]; exact fun z9 => c101 (sy9.mpr z9).1) | have st9 : swq A9 B9 p0 (prI B9 k k2 * (A9 * (A9 - 1) / 2) + prS A9 k3 + (k4 - (k3 + 1))) = false := b_not (by rw [ei9, at9.1]; exact fun z9 => c108 (sy9.mpr z9).2.1) | have st9 : swq A9 B9 p0 (prI B9 k k2 * (A9 * (A9 - 1) / 2) + prS A9 k3 + (k4 - (k3 + 1))) = false := b_not (by rw [ei9, at9.1]; exact fun z9 => (sy9.mpr z9).2.2 c115)
                                  refine lv_iinc (v := (nI (k4 + 1))) (lv' := [(10, .int (nI (k4 + 1))), (6, .int (nI (u6 + 1))), (14, .int r92), (13, .int r79), (12, .int r66), (11, .int r53), (9, .int (nI k3)), (8, .int (nI k2)), (7, .int (nI k)), (0, .ref mo), (1, .int w), (2, .int h), (3, .long p0), (5, .int at0)]) hx hb dX10_goSwitches_180 hl (k := 5) rfl (nI_1 _) (by decide) rfl (fun ls hl => ?_)
                                  refine lv_goto (tgt := 39) hx hb dX10_goSwitches_183 (by decide) ?_
                                  exact ih_39 (k4 + 1) (u6 + 1) bh4 (by omega) (by rw [show k4 + 1 - (k3 + 1) = k4 - (k3 + 1) + 1 by omega, ← Nat.add_assoc]; first | (rw [bs_t st9]; omega) | (rw [bs_f st9]; exact j39_1)) (by rw [show k4 + 1 - (k3 + 1) = k4 - (k3 + 1) + 1 by omega, ← Nat.add_assoc]; first | exact swI_f j39_2 st9 | exact swI_n st9 (by rw [← j39_1, ← ic6, c123]) f166 | exact swI_t j39_2 st9 (by rw [← j39_1, ← ic6]; exact fun z9 => c123 (Int32.toInt_inj.mp z9))) (by omega) _ _ hP hS ls (lv_sub hl [0, 6, 7, 8, 1, 9, 10, 11, 12, 13] rfl)
                                · skip
                                  have d123 := c123
                                  rw [fa_eq] at d123
                                  refine lv_lload_n hx hb dX10_goSwitches_126 rfl (lv_at hl 12 rfl) ?_
                                  refine lv_lconst (v := 1) hx hb dX10_goSwitches_127 (by decide) ?_
                                  refine lv_iload hx hb dX10_goSwitches_128 (lv_at hl 7 rfl) ?_
                                  refine lv_iload_n hx hb dX10_goSwitches_130 rfl (lv_at hl 10 rfl) ?_
                                  refine lv_imul hx hb dX10_goSwitches_131 ?_
                                  refine lv_topi (fun v131 e131 => ?_)
                                  refine lv_iload hx hb dX10_goSwitches_132 (lv_at hl 5 rfl) ?_
                                  refine lv_iadd hx hb dX10_goSwitches_134 ?_
                                  refine lv_topi (fun v134 e134 => ?_)
                                  refine lv_lshl (v := (1 : Int64) <<< (v134.toInt64 &&& 63)) hx hb dX10_goSwitches_135 rfl ?_
                                  refine lv_lxor hx hb dX10_goSwitches_136 ?_
                                  refine lv_topl (fun v136 e136 => ?_)
                                  refine lv_lconst (v := 1) hx hb dX10_goSwitches_137 (by decide) ?_
                                  refine lv_iload hx hb dX10_goSwitches_138 (lv_at hl 6 rfl) ?_
                                  refine lv_iload_n hx hb dX10_goSwitches_140 rfl (lv_at hl 10 rfl) ?_
                                  refine lv_imul hx hb dX10_goSwitches_141 ?_
                                  refine lv_topi (fun v141 e141 => ?_)
                                  refine lv_iload hx hb dX10_goSwitches_142 (lv_at hl 4 rfl) ?_
                                  refine lv_iadd hx hb dX10_goSwitches_144 ?_
                                  refine lv_topi (fun v144 e144 => ?_)
                                  refine lv_lshl (v := (1 : Int64) <<< (v144.toInt64 &&& 63)) hx hb dX10_goSwitches_145 rfl ?_
                                  refine lv_lxor hx hb dX10_goSwitches_146 ?_
                                  refine lv_topl (fun v146 e146 => ?_)
                                  refine lv_lconst (v := 1) hx hb dX10_goSwitches_147 (by decide) ?_
                                  refine lv_iload hx hb dX10_goSwitches_148 (lv_at hl 7 rfl) ?_
                                  refine lv_iload_n hx hb dX10_goSwitches_150 rfl (lv_at hl 10 rfl) ?_
                                  refine lv_imul hx hb dX10_goSwitches_151 ?_
                                  refine lv_topi (fun v151 e151 => ?_)
                                  refine lv_iload hx hb dX10_goSwitches_152 (lv_at hl 4 rfl) ?_
                                  refine lv_iadd hx hb dX10_goSwitches_154 ?_
                                  refine lv_topi (fun v154 e154 => ?_)
                                  refine lv_lshl (v := (1 : Int64) <<< (v154.toInt64 &&& 63)) hx hb dX10_goSwitches_155 rfl ?_
                                  refine lv_lxor hx hb dX10_goSwitches_156 ?_
                                  refine lv_topl (fun v156 e156 => ?_)
                                  refine lv_lconst (v := 1) hx hb dX10_goSwitches_157 (by decide) ?_
                                  refine lv_iload hx hb dX10_goSwitches_158 (lv_at hl 6 rfl) ?_
                                  refine lv_iload_n hx hb dX10_goSwitches_160 rfl (lv_at hl 10 rfl) ?_
                                  refine lv_imul hx hb dX10_goSwitches_161 ?_
                                  refine lv_topi (fun v161 e161 => ?_)
                                  refine lv_iload hx hb dX10_goSwitches_162 (lv_at hl 5 rfl) ?_
                                  refine lv_iadd hx hb dX10_goSwitches_164 ?_
                                  refine lv_topi (fun v164 e164 => ?_)
                                  refine lv_lshl (v := (1 : Int64) <<< (v164.toInt64 &&& 63)) hx hb dX10_goSwitches_165 rfl ?_
                                  refine lv_lxor hx hb dX10_goSwitches_166 ?_
                                  refine lv_topl (fun v166 e166 => ?_)
                                  have f166 : v166 = swx A9 B9 p0 (prI B9 k k2 * (A9 * (A9 - 1) / 2) + prS A9 k3 + (k4 - (k3 + 1))) := by
                                    rw [ei9, at9.2, e166, e164, e161, e156, e154, e151, e146, e144, e141, e136, e134, e131, ← ew]
                                    simp only [pk_mul, nI_add]
                                    rfl
                                  refine lv_goto (tgt := 174) hx hb dX10_goSwitches_167 (by decide) ?_
                                  refine m_put (v := .long v166) (ty := .long) hx hb hts hin hown hK hP hD hS 18 (by decide) rfl (hts (.fieldLink RX10 201 "ShadowBenchModel" "behind" "J") (by decide +kernel)) rfl (by decide +kernel) rfl rfl f (vp_updL g 18 v166) rfl dX10_goSwitches_174 (fun H locs hP hS => ?_)
                                  refine lv_iinc (v := (nI (u6 + 1))) (lv' := [(6, .int (nI (u6 + 1))), (14, .int r92), (13, .int r79), (12, .int r66), (11, .int r53), (10, .int (nI k4)), (9, .int (nI k3)), (8, .int (nI k2)), (7, .int (nI k)), (0, .ref mo), (1, .int w), (2, .int h), (3, .long p0), (5, .int at0)]) hx hb dX10_goSwitches_177 hl (k := 8) rfl (nI_1 _) (by decide) rfl (fun ls hl => ?_)
                                  first | have st9 : swq A9 B9 p0 (prI B9 k k2 * (A9 * (A9 - 1) / 2) + prS A9 k3 + (k4 - (k3 + 1))) = true := st9 | have st9 : swq A9 B9 p0 (prI B9 k k2 * (A9 * (A9 - 1) / 2) + prS A9 k3 + (k4 - (k3 + 1))) = false := b_not (by rw [ei9, at9.1]; exact fun z9 => c101 (sy9.mpr z9).1) | have st9 : swq A9 B9 p0 (prI B9 k k2 * (A9 * (A9 - 1) / 2) + prS A9 k3 + (k4 - (k3 + 1))) = false := b_not (by rw [ei9, at9.1]; exact fun z9 => c108 (sy9.mpr z9).2.1) | have st9 : swq A9 B9 p0 (prI B9 k k2 * (A9 * (A9 - 1) / 2) + prS A9 k3 + (k4 - (k3 + 1))) = false := b_not (by rw [ei9, at9.1]; exact fun z9 => (sy9.mpr z9).2.2 c115)
                                  refine lv_iinc (v := (nI (k4 + 1))) (lv' := [(10, .int (nI (k4 + 1))), (6, .int (nI (u6 + 1))), (14, .int r92), (13, .int r79), (12, .int r66), (11, .int r53), (9, .int (nI k3)), (8, .int (nI k2)), (7, .int (nI k)), (0, .ref mo), (1, .int w), (2, .int h), (3, .long p0), (5, .int at0)]) hx hb dX10_goSwitches_180 hl (k := 5) rfl (nI_1 _) (by decide) rfl (fun ls hl => ?_)
                                  refine lv_goto (tgt := 39) hx hb dX10_goSwitches_183 (by decide) ?_
                                  exact ih_39 (k4 + 1) (u6 + 1) v166 (by omega) (by rw [show k4 + 1 - (k3 + 1) = k4 - (k3 + 1) + 1 by omega, ← Nat.add_assoc]; first | (rw [bs_t st9]; omega) | (rw [bs_f st9]; exact j39_1)) (by rw [show k4 + 1 - (k3 + 1) = k4 - (k3 + 1) + 1 by omega, ← Nat.add_assoc]; first | exact swI_f j39_2 st9 | exact swI_n st9 (by rw [← j39_1, ← ic6, c123]) f166 | exact swI_t j39_2 st9 (by rw [← j39_1, ← ic6]; exact fun z9 => c123 (Int32.toInt_inj.mp z9))) (by omega) _ _ hP hS ls (lv_sub hl [0, 6, 7, 8, 1, 9, 10, 11, 12, 13] rfl)
                    exact loop_39 (6 + 1) (k3 + 1) z6 bh3 (by omega) (by rw [Nat.sub_self, Nat.add_zero]; exact j27_1) (by rw [Nat.sub_self, Nat.add_zero]; exact j27_2) (by omega) _ _ hP hS ls (lv_sub hl [0, 1, 2, 3, 4, 5, 6, 7, 8, 9] rfl)
              exact loop_27 (6 + 1) 0 y6 bh2 (by omega) (by rw [(prS_0 A9 (by omega) 0 (by omega)).2.1, Nat.add_zero]; exact j18_1) (by rw [(prS_0 A9 (by omega) 0 (by omega)).2.1, Nat.add_zero]; exact j18_2) (by omega) _ _ hP hS ls (lv_sub hl [0, 1, 2, 3, 4, 5, 6, 7, 8] rfl)
        exact loop_18 (6 + 1) (k + 1) x6 bh1 (by omega) (by rw [Nat.sub_self, Nat.add_zero]; exact j6_1) (by rw [Nat.sub_self, Nat.add_zero]; exact j6_2) (by omega) _ _ hP hS ls (lv_sub hl [0, 1, 2, 3, 4, 5, 6, 7] rfl)
  have hP := wm_eq rfl (ec_g___18 g ) rfl rfl hP
  exact loop_6 (6 + 1) 0 0 (g 18) (by omega) (by rw [(prS_0 B9 (by omega) 0 (by omega)).2.1, Nat.zero_mul]; rfl) (by rw [(prS_0 B9 (by omega) 0 (by omega)).2.1, Nat.zero_mul]; exact swI_0) (by omega) _ _ hP hS ls (lv_sub hl [0, 1, 2, 3, 4, 5, 6] rfl)
set_option maxHeartbeats 4000000 in
set_option maxRecDepth 100000 in
theorem c_X10_switches_x (l : Launch) (D : va_G) (cy : Nat → ClassId) (mo : Nat) (a : Nat → Nat) (f : Nat → Int32) (g : Nat → Int64) (r : Nat → Nat → Int32) (q : Nat → Nat → Int64) (w : Int32) (h : Int32) (p0 : Int64) (hD : DM cy mo a)  : Mi l D cy mo a yX10_switches wsX10_switches ({ frames := 3, cells := 0, slots := 0, locals := 69 }) f g r q [.int w, .int h, .long p0] (fun r0 u => ∃ (bh : Int64), u = ((upd f 0 (0 : Int32)), (vp_updL g 18 bh), r, q) ∧ (swA w h p0 r0)) := by
  refine Met.ofW (cc := cX10_switches) (maxL := 5) (ret := (some .int)) (by decide) rfl ?_
  intro p e s m args below meth c s₁ B hml hv
  obtain ⟨rfl, hP, hK⟩ := hv
  have hx := B.exec
  have hb := B.bytes
  have hr := B.returns
  have hts := atoms_spec (ws := wsX10_switches) B.pre
  have hin : ∀ w ∈ u_ws RX10 TX10 35, w ∈ wsX10_switches := by decide +kernel
  have hown : s.vm.findClass RX10 = some m.cls := findClass_of_methodNamed B.named
  have hlocks := B.notSynchronized
  have hS : va_S (AM mo a) s.heap s.heap [] := va_S.rf
  have hl := lv_entry ([.ref mo, .int w, .int h, .long p0]) (n := 5) (Nat.le_of_ble_eq_true rfl)
  rw [lg_entry_eq]
  generalize (lg_sl ([.ref mo, .int w, .int h, .long p0]) ++ List.replicate (5 - (lg_sl ([.ref mo, .int w, .int h, .long p0])).length) Slot.unset).toArray = ls at hl ⊢
  have hl : lv_has ls 5 [(0, .ref mo), (1, .int w), (2, .int h), (3, .long p0)] := hl
  have k_m1 : (-1 : Int32).toInt = -1 := by decide
  have k_0 : (0 : Int32).toInt = 0 := by decide
  refine lv_aload_n hx hb dX10_switches_0 rfl (lv_at hl 0 rfl) ?_
  refine lv_iconst (v := 0) hx hb dX10_switches_1 (by decide) ?_
  refine m_put (v := .int (0 : Int32)) (ty := .int) hx hb hts hin hown hK hP hD hS 0 (by decide) rfl (hts (.fieldLink RX10 79 "ShadowBenchModel" "thrown" "I") (by decide +kernel)) rfl (by decide +kernel) rfl rfl (upd f 0 (0 : Int32)) g rfl dX10_switches_2 (fun H locs hP hS => ?_)
  refine lv_iload_n hx hb dX10_switches_5 rfl (lv_at hl 1 rfl) ?_
  refine lv_iload_n hx hb dX10_switches_6 rfl (lv_at hl 2 rfl) ?_
  refine lv_lload_n hx hb dX10_switches_7 rfl (lv_at hl 3 rfl) ?_
  refine m_pu (As := [.int w, .int h, .long p0]) (rest := []) ⟨hx, hb, hml, hown, hts⟩ (c_X10_isPicture l w h p0 ) (va_cwS 3 hts gX10_switches_X10_isPicture rfl rfl rfl (by decide +kernel) ⟨Nat.le_of_ble_eq_true rfl, Nat.le_of_ble_eq_true rfl⟩) hP rfl hl.1 rfl (Nat.le_of_ble_eq_true rfl) dX10_switches_8 ⟨Nat.le_of_ble_eq_true rfl, Nat.le_of_ble_eq_true rfl⟩ hS (fun r8 H locs q8 hP hS => ?_)
  refine lv_if_eq (tgt := 25) hx hb dX10_switches_11 (by decide) (fun c11 => ?_) (fun c11 => ?_)
  · skip
    have b11 := bo_f q8 c11
    refine lv_iconst (v := (-1)) hx hb dX10_switches_25 (by decide) ?_
    have hP := wm_eq rfl (ec_g___18 g ) rfl rfl hP
    exact W.iret (v := ((-1) : Int32)) hx hb hr (fun t ht hW => ⟨⟨_, ((upd f 0 (0 : Int32)), (vp_updL g 18 (g 18)), r, q), rfl, ⟨(g 18), rfl, (Or.inr ⟨goodP_no b11, rfl⟩)⟩, by unfold mB; rw [ht]; exact hP⟩, hS.F ht⟩) hS.2.2 dX10_switches_26
  · skip
    have b11 := bo_t q8 c11
    refine lv_aload_n hx hb dX10_switches_14 rfl (lv_at hl 0 rfl) ?_
    refine lv_iload_n hx hb dX10_switches_15 rfl (lv_at hl 1 rfl) ?_
    refine lv_iload_n hx hb dX10_switches_16 rfl (lv_at hl 2 rfl) ?_
    refine lv_lload_n hx hb dX10_switches_17 rfl (lv_at hl 3 rfl) ?_
    refine lv_iconst (v := (-1)) hx hb dX10_switches_18 (by decide) ?_
    refine m_calli (As := [.int w, .int h, .long p0, .int ((-1) : Int32)]) (rest := []) ⟨hx, hb, hml, hown, hts⟩ (c_X10_goSwitches_x l D cy mo a (upd f 0 (0 : Int32)) g r q w h p0 (((-1) : Int32)) hD b11.1.1 b11.1.2) (cwV 4 hts gX10_switches_X10_goSwitches rfl rfl rfl (by decide +kernel) ⟨Nat.le_of_ble_eq_true rfl, Nat.le_of_ble_eq_true rfl⟩) hK hP rfl hl.1 rfl (Nat.le_of_ble_eq_true rfl) dX10_switches_19 ⟨Nat.le_of_ble_eq_true rfl, Nat.le_of_ble_eq_true rfl⟩ hS (fun r19 u H locs q19 hP hS => ?_)
    obtain ⟨bh_19, rfl, q19⟩ := q19
    have hP : va_P D vwCl (WM cy mo a (upd f 0 (0 : Int32)) (vp_updL g 18 bh_19) r q) H := hP
    have q19 : r19 = nI (bs (swq w.toNatClampNeg h.toNatClampNeg p0) (cfo w.toNatClampNeg h.toNatClampNeg)) ∧ swI w.toNatClampNeg h.toNatClampNeg p0 (((-1) : Int32)).toInt (cfo w.toNatClampNeg h.toNatClampNeg) bh_19 := q19
    refine lv_goto (tgt := 26) hx hb dX10_switches_22 (by decide) ?_
    exact W.iret (v := r19) hx hb hr (fun t ht hW => ⟨⟨_, ((upd f 0 (0 : Int32)), (vp_updL g 18 bh_19), r, q), rfl, ⟨bh_19, rfl, (Or.inl ⟨goodP_of b11, q19.1⟩)⟩, by unfold mB; rw [ht]; exact hP⟩, hS.F ht⟩) hS.2.2 dX10_switches_26
set_option maxHeartbeats 4000000 in
set_option maxRecDepth 100000 in
theorem c_X10_switched_x (l : Launch) (D : va_G) (cy : Nat → ClassId) (mo : Nat) (a : Nat → Nat) (f : Nat → Int32) (g : Nat → Int64) (r : Nat → Nat → Int32) (q : Nat → Nat → Int64) (w : Int32) (h : Int32) (p0 : Int64) (i0 : Int32) (hD : DM cy mo a)  : Ml l D cy mo a yX10_switched wsX10_switched ({ frames := 3, cells := 0, slots := 0, locals := 69 }) f g r q [.int w, .int h, .long p0, .int i0] (fun r0 u => ∃ (bh : Int64), u = ((upd f 0 (0 : Int32)), (vp_updL g 18 bh), r, q) ∧ (swS w h p0 i0 r0)) := by
  refine Met.ofW (cc := cX10_switched) (maxL := 6) (ret := (some .long)) (by decide) rfl ?_
  intro p e s m args below meth c s₁ B hml hv
  obtain ⟨rfl, hP, hK⟩ := hv
  have hx := B.exec
  have hb := B.bytes
  have hr := B.returns
  have hts := atoms_spec (ws := wsX10_switched) B.pre
  have hin : ∀ w ∈ u_ws RX10 TX10 35, w ∈ wsX10_switched := by decide +kernel
  have hown : s.vm.findClass RX10 = some m.cls := findClass_of_methodNamed B.named
  have hlocks := B.notSynchronized
  have hS : va_S (AM mo a) s.heap s.heap [] := va_S.rf
  have hl := lv_entry ([.ref mo, .int w, .int h, .long p0, .int i0]) (n := 6) (Nat.le_of_ble_eq_true rfl)
  rw [lg_entry_eq]
  generalize (lg_sl ([.ref mo, .int w, .int h, .long p0, .int i0]) ++ List.replicate (6 - (lg_sl ([.ref mo, .int w, .int h, .long p0, .int i0])).length) Slot.unset).toArray = ls at hl ⊢
  have hl : lv_has ls 6 [(0, .ref mo), (1, .int w), (2, .int h), (3, .long p0), (5, .int i0)] := hl
  have k_0 : (0 : Int32).toInt = 0 := by decide
  have k_m2L : (-2 : Int64).toInt = -2 := by decide
  have k_m1L : (-1 : Int64).toInt = -1 := by decide
  refine lv_aload_n hx hb dX10_switched_0 rfl (lv_at hl 0 rfl) ?_
  refine lv_iconst (v := 0) hx hb dX10_switched_1 (by decide) ?_
  refine m_put (v := .int (0 : Int32)) (ty := .int) hx hb hts hin hown hK hP hD hS 0 (by decide) rfl (hts (.fieldLink RX10 79 "ShadowBenchModel" "thrown" "I") (by decide +kernel)) rfl (by decide +kernel) rfl rfl (upd f 0 (0 : Int32)) g rfl dX10_switched_2 (fun H locs hP hS => ?_)
  refine lv_iload_n hx hb dX10_switched_5 rfl (lv_at hl 1 rfl) ?_
  refine lv_iload_n hx hb dX10_switched_6 rfl (lv_at hl 2 rfl) ?_
  refine lv_lload_n hx hb dX10_switched_7 rfl (lv_at hl 3 rfl) ?_
  refine m_pu (As := [.int w, .int h, .long p0]) (rest := []) ⟨hx, hb, hml, hown, hts⟩ (c_X10_isPicture l w h p0 ) (va_cwS 3 hts gX10_switched_X10_isPicture rfl rfl rfl (by decide +kernel) ⟨Nat.le_of_ble_eq_true rfl, Nat.le_of_ble_eq_true rfl⟩) hP rfl hl.1 rfl (Nat.le_of_ble_eq_true rfl) dX10_switched_8 ⟨Nat.le_of_ble_eq_true rfl, Nat.le_of_ble_eq_true rfl⟩ hS (fun r8 H locs q8 hP hS => ?_)
  refine lv_if_eq (tgt := 19) hx hb dX10_switched_11 (by decide) (fun c11 => ?_) (fun c11 => ?_)
  · skip
    have b11 := bo_f q8 c11
    refine lv_ldc2 hx hb hown (hts (.constantLong RX10 185 (-1)) (by decide +kernel)) dX10_switched_19 ?_
    have hP := wm_eq rfl (ec_g___18 g ) rfl rfl hP
    exact W.lret (v := (-1 : Int64)) hx hb hr (fun t ht hW => ⟨⟨_, ((upd f 0 (0 : Int32)), (vp_updL g 18 (g 18)), r, q), rfl, ⟨(g 18), rfl, (Or.inr ⟨(fun z9 => by first | exact goodP_no b11 z9.1 | (have := z9.2; omega)), rfl⟩)⟩, by unfold mB; rw [ht]; exact hP⟩, hS.F ht⟩) hS.2.2 dX10_switched_22
  · skip
    have b11 := bo_t q8 c11
    refine lv_iload hx hb dX10_switched_14 (lv_at hl 4 rfl) ?_
    refine lv_if_ge (tgt := 23) hx hb dX10_switched_16 (by decide) (fun c16 => ?_) (fun c16 => ?_)
    · skip
      have d16 := c16
      rw [fa_le] at d16
      refine lv_iload hx hb dX10_switched_23 (lv_at hl 4 rfl) ?_
      refine lv_aload_n hx hb dX10_switched_25 rfl (lv_at hl 0 rfl) ?_
      refine lv_iload_n hx hb dX10_switched_26 rfl (lv_at hl 1 rfl) ?_
      refine lv_iload_n hx hb dX10_switched_27 rfl (lv_at hl 2 rfl) ?_
      refine lv_lload_n hx hb dX10_switched_28 rfl (lv_at hl 3 rfl) ?_
      refine lv_iload hx hb dX10_switched_29 (lv_at hl 4 rfl) ?_
      refine m_calli (As := [.int w, .int h, .long p0, .int i0]) (rest := [.int i0]) ⟨hx, hb, hml, hown, hts⟩ (c_X10_goSwitches_x l D cy mo a (upd f 0 (0 : Int32)) g r q w h p0 i0 hD b11.1.1 b11.1.2) (cwV 4 hts gX10_switched_X10_goSwitches rfl rfl rfl (by decide +kernel) ⟨Nat.le_of_ble_eq_true rfl, Nat.le_of_ble_eq_true rfl⟩) hK hP rfl hl.1 rfl (Nat.le_of_ble_eq_true rfl) dX10_switched_31 ⟨Nat.le_of_ble_eq_true rfl, Nat.le_of_ble_eq_true rfl⟩ hS (fun r31 u H locs q31 hP hS => ?_)
      obtain ⟨bh_31, rfl, q31⟩ := q31
      have hP : va_P D vwCl (WM cy mo a (upd f 0 (0 : Int32)) (vp_updL g 18 bh_31) r q) H := hP
      have q31 : r31 = nI (bs (swq w.toNatClampNeg h.toNatClampNeg p0) (cfo w.toNatClampNeg h.toNatClampNeg)) ∧ swI w.toNatClampNeg h.toNatClampNeg p0 i0.toInt (cfo w.toNatClampNeg h.toNatClampNeg) bh_31 := q31
      obtain ⟨ha, hb9, h36, hwn⟩ := wh36 b11.1.1 b11.1.2
      have cf9 := cb_fo (w := w.toNatClampNeg) (h := h.toNatClampNeg) (by omega)
      have bl9 := bs_le (swq w.toNatClampNeg h.toNatClampNeg p0) (cfo w.toNatClampNeg h.toNatClampNeg)
      have i31 : r31.toInt = _ := (congrArg Int32.toInt q31.1).trans (nI_toInt (by omega))
      refine lv_icmp_ge (tgt := 44) hx hb dX10_switched_34 (by decide) (fun c34 => ?_) (fun c34 => ?_)
      · skip
        have d34 := c34
        rw [fa_le] at d34
        refine lv_ldc2 hx hb hown (hts (.constantLong RX10 189 (-2)) (by decide +kernel)) dX10_switched_44 ?_
        exact W.lret (v := (-2 : Int64)) hx hb hr (fun t ht hW => ⟨⟨_, ((upd f 0 (0 : Int32)), (vp_updL g 18 bh_31), r, q), rfl, ⟨bh_31, rfl, (Or.inl ⟨⟨goodP_of b11, by omega⟩, (by first | exact Or.inl (q31.2 (by omega) (by omega)) | exact Or.inr ⟨by omega, rfl⟩)⟩)⟩, by unfold mB; rw [ht]; exact hP⟩, hS.F ht⟩) hS.2.2 dX10_switched_47
      · skip
        have d34 := c34
        rw [fa_le] at d34
        refine lv_aload_n hx hb dX10_switched_37 rfl (lv_at hl 0 rfl) ?_
        refine m_get (v := .long bh_31) hx hb hts hin hown hK hP 18 (by decide) rfl (hts (.fieldLink RX10 201 "ShadowBenchModel" "behind" "J") (by decide +kernel)) rfl dX10_switched_38 ?_
        refine lv_goto (tgt := 47) hx hb dX10_switched_41 (by decide) ?_
        exact W.lret (v := bh_31) hx hb hr (fun t ht hW => ⟨⟨_, ((upd f 0 (0 : Int32)), (vp_updL g 18 bh_31), r, q), rfl, ⟨bh_31, rfl, (Or.inl ⟨⟨goodP_of b11, by omega⟩, (by first | exact Or.inl (q31.2 (by omega) (by omega)) | exact Or.inr ⟨by omega, rfl⟩)⟩)⟩, by unfold mB; rw [ht]; exact hP⟩, hS.F ht⟩) hS.2.2 dX10_switched_47
    · skip
      have d16 := c16
      rw [fa_le] at d16
      refine lv_ldc2 hx hb hown (hts (.constantLong RX10 185 (-1)) (by decide +kernel)) dX10_switched_19 ?_
      have hP := wm_eq rfl (ec_g___18 g ) rfl rfl hP
      exact W.lret (v := (-1 : Int64)) hx hb hr (fun t ht hW => ⟨⟨_, ((upd f 0 (0 : Int32)), (vp_updL g 18 (g 18)), r, q), rfl, ⟨(g 18), rfl, (Or.inr ⟨(fun z9 => by first | exact goodP_no b11 z9.1 | (have := z9.2; omega)), rfl⟩)⟩, by unfold mB; rw [ht]; exact hP⟩, hS.F ht⟩) hS.2.2 dX10_switched_22
