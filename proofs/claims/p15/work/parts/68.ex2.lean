
section CAR17
variable {p : Program} {l : Launch} {e : Env} {R : Room} {s : State} {m : MethodId} {args : Array Value} {below : List Frame} {meth : Method} {c : Code} {H : Heap} {locs : List Loc} {cells slots : Nat} {Q : State → Prop}
variable {cc : ByteArray} {pc : Nat} {ls : Array Slot} {rest : List Value} {D : va_G} {cy : Nat → ClassId} {A : Nat → Prop} {ws : va_W} {G : cG} {H0 : Heap}
/-- a row of longs whose content is told, and that has a kind -/
theorem t_lastK (hx : p.tables.exec = Jvm.exec) (hb : c.code = cc) (hK : va_K D vwCl (cTy cy) s) (hP : va_P D vwCl ws H) (hD : va_D A ws) (hS : va_S A H0 H locs) (hT : cT cy G ws) {k9 a n z : Nat} {f : Nat → Int64} (hk9 : k9 = 1 ∨ k9 = 16 ∨ k9 = 17) (hg : G a = some (k9, n, z)) (hM : cIn ws a (.inl (cy 1, n, .inr (.inl f)))) {i : Int32} {x : Int64} (hin : vp_in i n) (hdg : decode cc pc = .ok (.lastore, 1))
    (kk : ∀ (H1 : Heap) (locs1 : List Loc) (ws1 : va_W), cUp ws a (.inl (cy 1, n, .inr (.inl (vp_updL f i.toNatClampNeg x)))) ws1 → va_P D vwCl ws1 H1 → va_D A ws1 → cT cy G ws1 → va_S A H0 H1 locs1 → W p l e R s m args below meth c H1 locs1 cells slots Q (F0 m (pc + 1) ls rest)) : W p l e R s m args below meth c H locs cells slots Q (F0 m pc ls (.long x :: .int i :: .ref a :: rest)) := by
  obtain ⟨q0, hq⟩ := hM
  exact va_last hx hb hK hP hD hS q0 1 hq rfl hin hdg (fun H1 locs1 h1 h2 h3 => kk H1 locs1 _ (cUp.set hq) h1 h2 (hT.up (cUp.set hq) hg (cLo hk9)) h3)
theorem t_ialdM (hx : p.tables.exec = Jvm.exec) (hb : c.code = cc) (hK : va_K D vwCl (cTy cy) s) (hP : va_P D vwCl ws H) {a n : Nat} {f : Nat → Int32} (hM : cIn ws a (.inl (cy 0, n, .inl f))) {i : Int32} (hin : vp_in i n) (hdg : decode cc pc = .ok (.iaload, 1))
    (kk : W p l e R s m args below meth c H locs cells slots Q (F0 m (pc + 1) ls (.int (f i.toNatClampNeg) :: rest))) : W p l e R s m args below meth c H locs cells slots Q (F0 m pc ls (.int i :: .ref a :: rest)) := by
  obtain ⟨q0, hq⟩ := hM
  exact va_iald hx hb hK hP q0 0 hq rfl hin hdg kk
theorem t_iastK (hx : p.tables.exec = Jvm.exec) (hb : c.code = cc) (hK : va_K D vwCl (cTy cy) s) (hP : va_P D vwCl ws H) (hD : va_D A ws) (hS : va_S A H0 H locs) (hT : cT cy G ws) {k9 a n z : Nat} {f : Nat → Int32} (hk9 : k9 = 0 ∨ k9 = 14 ∨ k9 = 20 ∨ k9 = 21 ∨ k9 = 22 ∨ k9 = 23) (hg : G a = some (k9, n, z)) (hM : cIn ws a (.inl (cy 0, n, .inl f))) {i x : Int32} (hin : vp_in i n) (hdg : decode cc pc = .ok (.iastore, 1))
    (kk : ∀ (H1 : Heap) (locs1 : List Loc) (ws1 : va_W), cUp ws a (.inl (cy 0, n, .inl (upd f i.toNatClampNeg x))) ws1 → va_P D vwCl ws1 H1 → va_D A ws1 → cT cy G ws1 → va_S A H0 H1 locs1 → W p l e R s m args below meth c H1 locs1 cells slots Q (F0 m (pc + 1) ls rest)) : W p l e R s m args below meth c H locs cells slots Q (F0 m pc ls (.int x :: .int i :: .ref a :: rest)) := by
  obtain ⟨q0, hq⟩ := hM
  exact va_iast hx hb hK hP hD hS q0 0 hq rfl hin hdg (fun H1 locs1 h1 h2 h3 => kk H1 locs1 _ (cUp.set hq) h1 h2 (hT.up (cUp.set hq) hg (cIo hk9)) h3)
end CAR17

/-- the list's board: none while the list is empty -/
def lsB (G : cG) (lb : Option Nat) (lc : Int32) (lw lh : Nat) : Prop := (lb = none ∧ lc.toInt = 0) ∨ (0 < lc.toInt ∧ ∃ b, lb = some b ∧ G b = some (2, lw, lh))
theorem lsB.up {G G1 : cG} {lb : Option Nat} {lc : Int32} {lw lh : Nat} (h : lsB G lb lc lw lh) (hE : cE G G1) : lsB G1 lb lc lw lh := h.imp id (fun ⟨a, b, c, d⟩ => ⟨a, b, c, hE _ _ d⟩)
theorem lsB.nil {G : cG} {lb : Option Nat} {lc : Int32} {lw lh : Nat} (h : lsB G lb lc lw lh) (e : lb = none) : lc.toInt = 0 := by
  rcases h with z | ⟨_, b, z, _⟩
  · exact z.2
  · rw [e] at z; cases z
theorem lsB.one {G : cG} {lb : Option Nat} {lc : Int32} {lw lh x w h : Nat} (h1 : lsB G lb lc lw lh) (e : lb = some x) (hg : G x = some (2, w, h)) : 0 < lc.toInt ∧ w = lw ∧ h = lh := by
  rcases h1 with ⟨z, _⟩ | ⟨y, b, z, z8⟩
  · rw [e] at z; cases z
  · rw [e] at z
    cases z
    have z7 := hg.symm.trans z8
    simp only [Option.some.injEq, Prod.mk.injEq, true_and] at z7
    exact ⟨y, z7.1, z7.2⟩
def lsO (lc : Int32) (lw lh : Nat) (w h : Int32) : Prop := 0 < lc.toInt ∧ ¬ (w.toInt = (lw : Int) ∧ h.toInt = (lh : Int))
def lsI (fl : Nat → Int64) (lc : Int32) (p : Int64) : Prop := ∃ k : Nat, (k : Int) < lc.toInt ∧ fl k = p
def lsG (fl : Nat → Int64) (lc : Int32) (lw lh : Nat) (w h : Int32) (p : Int64) : Prop := goodP w h p ∧ lc.toInt < 12 ∧ ¬ lsO lc lw lh w h ∧ ¬ lsI fl lc p
def lsA (fl : Nat → Int64) (lc : Int32) (lw lh : Nat) (w h : Int32) (p : Int64) (x : Int32) : Prop := (lsG fl lc lw lh w h p ∧ x.toInt = lc.toInt + 1) ∨ (¬ lsG fl lc lw lh w h p ∧ ((¬ goodP w h p ∧ x = -1) ∨ (goodP w h p ∧ ¬ lc.toInt < 12 ∧ x = -2) ∨ (goodP w h p ∧ lc.toInt < 12 ∧ x = -3)))
section LST
variable {fl : Nat → Int64} {lc : Int32} {lw lh : Nat} {w h : Int32} {p : Int64}
theorem lsG_1 (n : ¬ goodP w h p) : ¬ lsG fl lc lw lh w h p := fun z => n z.1
theorem lsG_2 (n : ¬ lc.toInt < 12) : ¬ lsG fl lc lw lh w h p := fun z => n z.2.1
theorem lsG_3 (n : lsO lc lw lh w h ∨ lsI fl lc p) : ¬ lsG fl lc lw lh w h p := fun z => n.elim z.2.2.1 z.2.2.2
theorem lsA_1 (n : ¬ goodP w h p) : lsA fl lc lw lh w h p (-1) := Or.inr ⟨lsG_1 n, Or.inl ⟨n, rfl⟩⟩
theorem lsA_2 (g : goodP w h p) (n : ¬ lc.toInt < 12) : lsA fl lc lw lh w h p (-2) := Or.inr ⟨lsG_2 n, Or.inr (Or.inl ⟨g, n, rfl⟩)⟩
theorem lsA_3 (g : goodP w h p) (y : lc.toInt < 12) (n : lsO lc lw lh w h ∨ lsI fl lc p) : lsA fl lc lw lh w h p (-3) := Or.inr ⟨lsG_3 n, Or.inr (Or.inr ⟨g, y, rfl⟩)⟩
theorem lsI_c {fl' : Nat → Int64} (e : ∀ k : Nat, (k : Int) < lc.toInt → fl k = fl' k) : lsI fl lc p ↔ lsI fl' lc p := ⟨fun ⟨k, a, b⟩ => ⟨k, a, (e k a).symm.trans b⟩, fun ⟨k, a, b⟩ => ⟨k, a, (e k a).trans b⟩⟩
theorem lsG_c {fl' : Nat → Int64} (e : ∀ k : Nat, (k : Int) < lc.toInt → fl k = fl' k) : lsG fl lc lw lh w h p ↔ lsG fl' lc lw lh w h p := by
  unfold lsG
  rw [lsI_c e]
theorem lsA_eq {fl' : Nat → Int64} {x y : Int32} (e : ∀ k : Nat, (k : Int) < lc.toInt → fl k = fl' k) (hx : lsA fl lc lw lh w h p x) (hy : lsA fl' lc lw lh w h p y) : x = y := by
  rcases hx with ⟨a, b⟩ | ⟨a, b⟩ <;> rcases hy with ⟨c, d⟩ | ⟨c, d⟩
  · exact Int32.toInt_inj.mp (b.trans d.symm)
  · exact absurd ((lsG_c e).mp a) c
  · exact absurd ((lsG_c e).mpr c) a
  · rcases b with ⟨b1, b2⟩ | ⟨b1, b2, b3⟩ | ⟨b1, b2, b3⟩ <;> rcases d with ⟨d1, d2⟩ | ⟨d1, d2, d3⟩ | ⟨d1, d2, d3⟩ <;> first | (rw [b2, d2]; done) | (rw [b3, d3]; done) | exact absurd d1 b1 | exact absurd b1 d1 | exact absurd d2 b2 | exact absurd b2 d2
end LST
/-- a set of ways tells the pictures of the list apart -/
def telA (fl : Nat → Int64) (lc : Int32) (lw lh : Nat) (set : Int32) : Prop := ∀ a b : Nat, (a : Int) < lc.toInt → b < a → ∃ j, j < 4 ∧ unl lw lh (fl a) (fl b) set j
theorem telA_c {fl fl' : Nat → Int64} {lc : Int32} {lw lh : Nat} {set : Int32} (e : ∀ k : Nat, (k : Int) < lc.toInt → fl k = fl' k) : telA fl lc lw lh set ↔ telA fl' lc lw lh set := by
  constructor
  · intro t a b h1 h2; rw [← e a h1, ← e b (by omega)]; exact t a b h1 h2
  · intro t a b h1 h2; rw [e a h1, e b (by omega)]; exact t a b h1 h2
theorem telA_0 {fl : Nat → Int64} {lc : Int32} {lw lh lw' lh' : Nat} {set : Int32} (e : lc.toInt = 0) : telA fl lc lw lh set ↔ telA fl lc lw' lh' set := ⟨fun _ a b h1 h2 => by omega, fun _ a b h1 h2 => by omega⟩
theorem ts_27 {U : Nat → Prop} {x : Int32} {m : Nat} (hm : m = 4) (h : (x = 1 ∧ ∃ j, j < m ∧ U j) ∨ (x = 0 ∧ ∀ j, j < m → ¬ U j)) : (x = 1 ∧ ∃ j, j < 4 ∧ U j) ∨ (x = 0 ∧ ¬ ∃ j, j < 4 ∧ U j) := by
  subst hm
  exact h.imp id (fun ⟨a, b⟩ => ⟨a, fun ⟨j, c, d⟩ => b j c d⟩)
theorem ts_a {P : Prop} {Q : Nat → Prop} {y : Int32} {i : Nat} (h : (y = 1 ∧ P ∧ ∀ b, b < i → Q b) ∨ (y = 0 ∧ ¬ (P ∧ ∀ b, b < i → Q b))) (e : y = 0) : ((0 : Int32) = 1 ∧ P ∧ ∀ b, b < i + 1 → Q b) ∨ ((0 : Int32) = 0 ∧ ¬ (P ∧ ∀ b, b < i + 1 → Q b)) := by
  rcases h with ⟨z, _⟩ | ⟨_, y⟩
  · rw [e] at z; exact absurd z (by decide)
  · exact Or.inr ⟨rfl, fun u => y ⟨u.1, fun b h1 => u.2 b (by omega)⟩⟩
theorem ts_b {P : Prop} {Q : Nat → Prop} {x : Int32} {i : Nat} (h : (x = 1 ∧ Q i) ∨ (x = 0 ∧ ¬ Q i)) (e : x = 0) : ((0 : Int32) = 1 ∧ P ∧ ∀ b, b < i + 1 → Q b) ∨ ((0 : Int32) = 0 ∧ ¬ (P ∧ ∀ b, b < i + 1 → Q b)) := by
  rcases h with ⟨z, _⟩ | ⟨_, y⟩
  · rw [e] at z; exact absurd z (by decide)
  · exact Or.inr ⟨rfl, fun u => y (u.2 i (by omega))⟩
theorem ts_c {P : Prop} {Q : Nat → Prop} {y x : Int32} {i : Nat} (h : (y = 1 ∧ P ∧ ∀ b, b < i → Q b) ∨ (y = 0 ∧ ¬ (P ∧ ∀ b, b < i → Q b))) (h2 : (x = 1 ∧ Q i) ∨ (x = 0 ∧ ¬ Q i)) (e : ¬ y = 0) (e2 : ¬ x = 0) : ((1 : Int32) = 1 ∧ P ∧ ∀ b, b < i + 1 → Q b) ∨ ((1 : Int32) = 0 ∧ ¬ (P ∧ ∀ b, b < i + 1 → Q b)) := by
  rcases h with ⟨_, p, y⟩ | ⟨z, _⟩
  · rcases h2 with ⟨_, q⟩ | ⟨z, _⟩
    · refine Or.inl ⟨rfl, p, fun b h1 => ?_⟩
      by_cases e9 : b = i
      · rw [e9]; exact q
      · exact y b (by omega)
    · exact absurd z e2
  · exact absurd z e
def pc4 (s : Nat) : Nat := s % 2 + s / 2 % 2 + s / 4 % 2 + s / 8 % 2
theorem pc4_le (s : Nat) : pc4 s ≤ 4 := by unfold pc4; omega
def wyA (T : Nat → Prop) (x : Int32) : Prop := (∃ n s, n ≤ 4 ∧ s < 16 ∧ (pc4 s = n ∧ T s) ∧ x = nI s ∧ (∀ m t, m < n → t < 16 → ¬ (pc4 t = m ∧ T t)) ∧ ∀ t, t < s → ¬ (pc4 t = n ∧ T t)) ∨ (x = -2 ∧ ∀ m t, m ≤ 4 → t < 16 → ¬ (pc4 t = m ∧ T t))
theorem wyA_c {T T' : Nat → Prop} {x : Int32} (e : ∀ s, T s ↔ T' s) (h : wyA T x) : wyA T' x := by
  rcases h with ⟨n, s, a, b, ⟨c1, c2⟩, d, f, g⟩ | ⟨a, b⟩
  · exact Or.inl ⟨n, s, a, b, ⟨c1, (e s).mp c2⟩, d, fun m t h1 h2 h3 => f m t h1 h2 ⟨h3.1, (e t).mpr h3.2⟩, fun t h1 h3 => g t h1 ⟨h3.1, (e t).mpr h3.2⟩⟩
  · exact Or.inr ⟨a, fun m t h1 h2 h3 => b m t h1 h2 ⟨h3.1, (e t).mpr h3.2⟩⟩
theorem wyA_eq {T : Nat → Prop} {x y : Int32} (hx : wyA T x) (hy : wyA T y) : x = y := by
  rcases hx with ⟨n, s, a, b, c, d, f, g⟩ | ⟨a, b⟩ <;> rcases hy with ⟨n', s', a', b', c', d', f', g'⟩ | ⟨a', b'⟩
  · have en : n = n' := by
      rcases Nat.lt_trichotomy n n' with z | z | z
      · exact absurd c (f' n s z b)
      · exact z
      · exact absurd c' (f n' s' z b')
    subst en
    have es : s = s' := by
      rcases Nat.lt_trichotomy s s' with z | z | z
      · exact absurd c (g' s z)
      · exact z
      · exact absurd c' (g s' z)
    rw [d, d', es]
  · exact absurd c (b' n s a b)
  · exact absurd c' (b n' s' a' b')
  · rw [a, a']
def bc16 (i : Int32) : Int32 :=
  let a := i - ((i.toUInt32 >>> ((1 : Int32).toUInt32 &&& Int32.toUInt32 31)).toInt32 &&& 1431655765)
  let b := (a &&& 858993459) + ((a.toUInt32 >>> ((2 : Int32).toUInt32 &&& Int32.toUInt32 31)).toInt32 &&& 858993459)
  let d := (b + (b.toUInt32 >>> ((4 : Int32).toUInt32 &&& Int32.toUInt32 31)).toInt32) &&& 252645135
  let f := d + (d.toUInt32 >>> ((8 : Int32).toUInt32 &&& Int32.toUInt32 31)).toInt32
  (f + (f.toUInt32 >>> ((16 : Int32).toUInt32 &&& Int32.toUInt32 31)).toInt32) &&& 63
theorem bc16_0 : ∀ s, s < 16 → bc16 (nI s) = nI (pc4 s) := by decide +kernel
theorem bc16_1 {i : Int32} (h : 0 ≤ i.toInt ∧ i.toInt < 16) : bc16 i = nI (pc4 i.toNatClampNeg) := by
  have e := cl_nI (w := i) h.1
  have c := m_cl (x := i) h.1
  have z := bc16_0 i.toNatClampNeg (by omega)
  rw [e] at z
  exact z
theorem pc4_lb : ∀ s, s < 16 → bs (lb (nI s).toInt64) 36 = pc4 s := by decide +kernel
theorem rn_ones (p : Int64) : ∀ n, n ≤ 36 → r_ones p n = nI (bs (lb p) n) := by
  intro n
  induction n with
  | zero => intro _; rfl
  | succ n ih =>
    intro hn
    simp only [r_ones, bs]
    rw [ih (by omega), one_lb p (by omega)]
    cases lb p n
    · exact nI_add _ 0
    · exact nI_1 _
set_option maxHeartbeats 4000000 in
set_option maxRecDepth 100000 in
theorem c_J6_x (l : Launch) (p0 : Int32) (h0 : 0 ≤ p0.toInt ∧ p0.toInt < 16) : Pu l yJ6_bitCount_0f7a4 wsJ6_bitCount_0f7a4 ({ frames := 0, cells := 0, slots := 0, locals := 0 }) [.int p0] (fun r => r = nI (pc4 p0.toNatClampNeg)) := by
  refine Met.ofW (cc := cJ6_bitCount_0f7a4) (maxL := 1) (ret := (some .int)) (by decide) rfl ?_
  intro p e s m args below meth c s₁ B hml hv
  obtain ⟨rfl, -⟩ := hv
  have hx := B.exec
  have hb := B.bytes
  have hr := B.returns
  have hts := atoms_spec (ws := wsJ6_bitCount_0f7a4) B.pre
  have hown : s.vm.findClass RJ6 = some m.cls := findClass_of_methodNamed B.named
  have hlocks := B.notSynchronized
  have hS : va_S (fun _ => False) s.heap s.heap [] := va_S.rf
  have hl := lv_entry ([.int p0]) (n := 1) (Nat.le_of_ble_eq_true rfl)
  rw [lg_entry_eq]
  generalize (lg_sl ([.int p0]) ++ List.replicate (1 - (lg_sl ([.int p0])).length) Slot.unset).toArray = ls at hl ⊢
  have hl : lv_has ls 1 [(0, .int p0)] := hl
  have hS0 := hS
  have k_0 : (0 : Int32).toInt = 0 := by decide
  have k_1 : (1 : Int32).toInt = 1 := by decide
  have k_2 : (2 : Int32).toInt = 2 := by decide
  have k_4 : (4 : Int32).toInt = 4 := by decide
  have k_8 : (8 : Int32).toInt = 8 := by decide
  have k_16 : (16 : Int32).toInt = 16 := by decide
  have k_63 : (63 : Int32).toInt = 63 := by decide
  have k_252645135 : (252645135 : Int32).toInt = 252645135 := by decide
  have k_858993459 : (858993459 : Int32).toInt = 858993459 := by decide
  have k_1431655765 : (1431655765 : Int32).toInt = 1431655765 := by decide
  refine lv_iload_n hx hb dJ6_bitCount_0f7a4_0 rfl (lv_at hl 0 rfl) ?_
  refine lv_iload_n hx hb dJ6_bitCount_0f7a4_1 rfl (lv_at hl 0 rfl) ?_
  refine lv_iconst (v := 1) hx hb dJ6_bitCount_0f7a4_2 (by decide) ?_
  refine lv_iushr (v := (p0.toUInt32 >>> ((1 : Int32).toUInt32 &&& Int32.toUInt32 31)).toInt32) hx hb dJ6_bitCount_0f7a4_3 rfl ?_
  refine lv_ldcw hx hb hown (hts (.constant RJ6 265 (1431655765)) (by decide +kernel)) dJ6_bitCount_0f7a4_4 ?_
  refine lv_iand hx hb dJ6_bitCount_0f7a4_7 ?_
  refine lv_topi (fun v7 e7 => ?_)
  refine lv_isub hx hb dJ6_bitCount_0f7a4_8 ?_
  refine lv_topi (fun v8 e8 => ?_)
  refine lv_istore_n (lv' := [(0, .int v8)]) hx hb dJ6_bitCount_0f7a4_9 rfl hl (by decide) rfl (fun ls hl => ?_)
  refine lv_iload_n hx hb dJ6_bitCount_0f7a4_10 rfl (lv_at hl 0 rfl) ?_
  refine lv_ldcw hx hb hown (hts (.constant RJ6 266 (858993459)) (by decide +kernel)) dJ6_bitCount_0f7a4_11 ?_
  refine lv_iand hx hb dJ6_bitCount_0f7a4_14 ?_
  refine lv_topi (fun v14 e14 => ?_)
  refine lv_iload_n hx hb dJ6_bitCount_0f7a4_15 rfl (lv_at hl 0 rfl) ?_
  refine lv_iconst (v := 2) hx hb dJ6_bitCount_0f7a4_16 (by decide) ?_
  refine lv_iushr (v := (v8.toUInt32 >>> ((2 : Int32).toUInt32 &&& Int32.toUInt32 31)).toInt32) hx hb dJ6_bitCount_0f7a4_17 rfl ?_
  refine lv_ldcw hx hb hown (hts (.constant RJ6 266 (858993459)) (by decide +kernel)) dJ6_bitCount_0f7a4_18 ?_
  refine lv_iand hx hb dJ6_bitCount_0f7a4_21 ?_
  refine lv_topi (fun v21 e21 => ?_)
  refine lv_iadd hx hb dJ6_bitCount_0f7a4_22 ?_
  refine lv_topi (fun v22 e22 => ?_)
  refine lv_istore_n (lv' := [(0, .int v22)]) hx hb dJ6_bitCount_0f7a4_23 rfl hl (by decide) rfl (fun ls hl => ?_)
  refine lv_iload_n hx hb dJ6_bitCount_0f7a4_24 rfl (lv_at hl 0 rfl) ?_
  refine lv_iload_n hx hb dJ6_bitCount_0f7a4_25 rfl (lv_at hl 0 rfl) ?_
  refine lv_iconst (v := 4) hx hb dJ6_bitCount_0f7a4_26 (by decide) ?_
  refine lv_iushr (v := (v22.toUInt32 >>> ((4 : Int32).toUInt32 &&& Int32.toUInt32 31)).toInt32) hx hb dJ6_bitCount_0f7a4_27 rfl ?_
  refine lv_iadd hx hb dJ6_bitCount_0f7a4_28 ?_
  refine lv_topi (fun v28 e28 => ?_)
  refine lv_ldcw hx hb hown (hts (.constant RJ6 267 (252645135)) (by decide +kernel)) dJ6_bitCount_0f7a4_29 ?_
  refine lv_iand hx hb dJ6_bitCount_0f7a4_32 ?_
  refine lv_topi (fun v32 e32 => ?_)
  refine lv_istore_n (lv' := [(0, .int v32)]) hx hb dJ6_bitCount_0f7a4_33 rfl hl (by decide) rfl (fun ls hl => ?_)
  refine lv_iload_n hx hb dJ6_bitCount_0f7a4_34 rfl (lv_at hl 0 rfl) ?_
  refine lv_iload_n hx hb dJ6_bitCount_0f7a4_35 rfl (lv_at hl 0 rfl) ?_
  refine lv_bipush (v := 8) hx hb dJ6_bitCount_0f7a4_36 (by decide) ?_
  refine lv_iushr (v := (v32.toUInt32 >>> ((8 : Int32).toUInt32 &&& Int32.toUInt32 31)).toInt32) hx hb dJ6_bitCount_0f7a4_38 rfl ?_
  refine lv_iadd hx hb dJ6_bitCount_0f7a4_39 ?_
  refine lv_topi (fun v39 e39 => ?_)
  refine lv_istore_n (lv' := [(0, .int v39)]) hx hb dJ6_bitCount_0f7a4_40 rfl hl (by decide) rfl (fun ls hl => ?_)
  refine lv_iload_n hx hb dJ6_bitCount_0f7a4_41 rfl (lv_at hl 0 rfl) ?_
  refine lv_iload_n hx hb dJ6_bitCount_0f7a4_42 rfl (lv_at hl 0 rfl) ?_
  refine lv_bipush (v := 16) hx hb dJ6_bitCount_0f7a4_43 (by decide) ?_
  refine lv_iushr (v := (v39.toUInt32 >>> ((16 : Int32).toUInt32 &&& Int32.toUInt32 31)).toInt32) hx hb dJ6_bitCount_0f7a4_45 rfl ?_
  refine lv_iadd hx hb dJ6_bitCount_0f7a4_46 ?_
  refine lv_topi (fun v46 e46 => ?_)
  refine lv_istore_n (lv' := [(0, .int v46)]) hx hb dJ6_bitCount_0f7a4_47 rfl hl (by decide) rfl (fun ls hl => ?_)
  refine lv_iload_n hx hb dJ6_bitCount_0f7a4_48 rfl (lv_at hl 0 rfl) ?_
  refine lv_bipush (v := 63) hx hb dJ6_bitCount_0f7a4_49 (by decide) ?_
  refine lv_iand hx hb dJ6_bitCount_0f7a4_51 ?_
  refine lv_topi (fun v51 e51 => ?_)
  exact W.iret (v := v51) hx hb hr (fun t ht hW => ⟨⟨_, (), rfl, (by subst e51 e46 e39 e32 e28 e22 e21 e14 e8 e7; exact bc16_1 h0), trivial⟩, hS.F ht⟩) hS.2.2 dJ6_bitCount_0f7a4_52
set_option maxHeartbeats 4000000 in
set_option maxRecDepth 100000 in
theorem c_X9_isOtherThanListed_x (l : Launch) (D : va_G) (cy : Nat → ClassId) (A : Nat → Prop) (G : cG) (ws : va_W) (o : Nat) (wide : Int32) (high : Int32) {bs_o js_o sh_o wk_o ll_o : Nat} {jc_o lc_o : Int32} {mo_o lb_o : Option Nat} {fl : Nat → Int64} {lw lh : Nat} (hD : va_D A ws) (hT : cT cy G ws) (hG_o : G o = some (7, 0, 0)) (hM_o : cIn ws o (.inr (8, [.ref bs_o, .ref js_o, .int jc_o, .ref sh_o, .ref wk_o, va_rf mo_o, .ref ll_o, .int lc_o, va_rf lb_o]))) (hM_ll_o : cIn ws ll_o (.inl (cy 1, 12, .inr (.inl fl)))) (hlb9 : lsB G lb_o lc_o lw lh) : Ci l D cy A yX9_isOtherThanListed wsX9_isOtherThanListed ({ frames := 0, cells := 0, slots := 0, locals := 0 }) 0 0 ws [.ref o, .int wide, .int high] (fun r0 u => u = (G, ws) ∧ (Bo r0 (lsO lc_o lw lh wide high))) := by
  refine Met.ofW (cc := cX9_isOtherThanListed) (maxL := 3) (ret := (some .boolean)) (by decide) rfl ?_
  intro p e s m args below meth c s₁ B hml hv
  obtain ⟨rfl, hP, hK, hA, hV⟩ := hv
  have hx := B.exec
  have hb := B.bytes
  have hr := B.returns
  have hts := atoms_spec (ws := wsX9_isOtherThanListed) B.pre
  have hown : s.vm.findClass RX9 = some m.cls := findClass_of_methodNamed B.named
  have hlocks := B.notSynchronized
  have hS : va_S A s.heap s.heap [] := va_S.rf
  have hl := lv_entry ([.ref o, .int wide, .int high]) (n := 3) (Nat.le_of_ble_eq_true rfl)
  rw [lg_entry_eq]
  generalize (lg_sl ([.ref o, .int wide, .int high]) ++ List.replicate (3 - (lg_sl ([.ref o, .int wide, .int high])).length) Slot.unset).toArray = ls at hl ⊢
  have hl : lv_has ls 3 [(0, .ref o), (1, .int wide), (2, .int high)] := hl
  have k_0 : (0 : Int32).toInt = 0 := by decide
  have k_1 : (1 : Int32).toInt = 1 := by decide
  obtain ⟨hjc_o, hlc_o, hG_bs_o, hG_js_o, hG_sh_o, hG_wk_o, hmo_o, hG_ll_o, hlb_o⟩ := w7sh hD hT hG_o hM_o
  refine lv_aload_n hx hb dX9_isOtherThanListed_0 rfl (lv_at hl 0 rfl) ?_
  have hoq : lb_o = none ∨ ∃ x, lb_o = some x := by cases lb_o; exact Or.inl rfl; exact Or.inr ⟨_, rfl⟩
  rcases hoq with hopt | ⟨x1, hopt⟩
  · skip
    rw [hopt] at hM_o
    have hM_o : cIn ws o (.inr (8, [.ref bs_o, .ref js_o, .int jc_o, .ref sh_o, .ref wk_o, va_rf mo_o, .ref ll_o, .int lc_o, .null])) := hM_o
    have hl0 := hlb9.nil hopt
    refine t_get (v := .null) (C := RX9) (T := TX9) (N := 9) hx hb hts (by decide +kernel) hown hK hP hM_o rfl 8 (by decide) (hts (.fieldLink RX9 49 "ShadowBench" "listBoard" "LShadowBench$Board;") (by decide +kernel)) (fun _ h9 => h9) rfl dX9_isOtherThanListed_1 ?_
    refine lv_ifnullN (tgt := 33) hx hb dX9_isOtherThanListed_4 (by decide) ?_
    refine lv_iconst (v := 0) hx hb dX9_isOtherThanListed_33 (by decide) ?_
    exact W.zret (v := (0 : Int32)) hx hb hr (by decide) (fun t ht hW => ⟨⟨_, (G, ws), rfl, ⟨rfl, Or.inr ⟨rfl, (by unfold lsO; omega)⟩⟩, by show va_P D vwCl ws t.heap; rw [ht]; exact hP, hD, hT⟩, hS.F ht⟩) hS.2.2 dX9_isOtherThanListed_34
  · skip
    obtain ⟨wx1, hx1, hG_x1⟩ := hlb_o x1 hopt
    rw [hopt] at hM_o
    have hM_o : cIn ws o (.inr (8, [.ref bs_o, .ref js_o, .int jc_o, .ref sh_o, .ref wk_o, va_rf mo_o, .ref ll_o, .int lc_o, .ref x1])) := hM_o
    have hl1 := hlb9.one hopt hG_x1
    refine t_get (v := .ref x1) (C := RX9) (T := TX9) (N := 9) hx hb hts (by decide +kernel) hown hK hP hM_o rfl 8 (by decide) (hts (.fieldLink RX9 49 "ShadowBench" "listBoard" "LShadowBench$Board;") (by decide +kernel)) (fun _ h9 => h9) rfl dX9_isOtherThanListed_1 ?_
    refine lv_ifnull hx hb dX9_isOtherThanListed_4 ?_
    refine lv_aload_n hx hb dX9_isOtherThanListed_7 rfl (lv_at hl 0 rfl) ?_
    refine t_get (v := .ref x1) (C := RX9) (T := TX9) (N := 9) hx hb hts (by decide +kernel) hown hK hP hM_o rfl 8 (by decide) (hts (.fieldLink RX9 49 "ShadowBench" "listBoard" "LShadowBench$Board;") (by decide +kernel)) (fun _ h9 => h9) rfl dX9_isOtherThanListed_8 ?_
    obtain ⟨_, hM_x1, hb_x1, l_x1, f_x1, r_x1, rfl, hG_l_x1, hG_f_x1, hG_r_x1⟩ := hT _ _ hG_x1
    refine t_get (v := .int (nI wx1)) (C := RX0) (T := TX0) (N := 8) hx hb hts (by decide +kernel) hown hK hP hM_x1 rfl 0 (by decide) (hts (.fieldLink RX9 156 "ShadowBench$Board" "wide" "I") (by decide +kernel)) (fun _ h9 => h9) rfl dX9_isOtherThanListed_11 ?_
    have i_w_x1 : (nI wx1).toInt = _ := nI_toInt (by omega)
    refine lv_iload_n hx hb dX9_isOtherThanListed_14 rfl (lv_at hl 1 rfl) ?_
    refine lv_icmp_ne (tgt := 29) hx hb dX9_isOtherThanListed_15 (by decide) (fun c15 => ?_) (fun c15 => ?_)
    · skip
      have d15 := c15
      rw [fa_eq] at d15
      refine lv_iconst (v := 1) hx hb dX9_isOtherThanListed_29 (by decide) ?_
      refine lv_goto (tgt := 34) hx hb dX9_isOtherThanListed_30 (by decide) ?_
      exact W.zret (v := (1 : Int32)) hx hb hr (by decide) (fun t ht hW => ⟨⟨_, (G, ws), rfl, ⟨rfl, Or.inl ⟨rfl, (by unfold lsO; omega)⟩⟩, by show va_P D vwCl ws t.heap; rw [ht]; exact hP, hD, hT⟩, hS.F ht⟩) hS.2.2 dX9_isOtherThanListed_34
    · skip
      have d15 := c15
      rw [fa_eq] at d15
      refine lv_aload_n hx hb dX9_isOtherThanListed_18 rfl (lv_at hl 0 rfl) ?_
      refine t_get (v := .ref x1) (C := RX9) (T := TX9) (N := 9) hx hb hts (by decide +kernel) hown hK hP hM_o rfl 8 (by decide) (hts (.fieldLink RX9 49 "ShadowBench" "listBoard" "LShadowBench$Board;") (by decide +kernel)) (fun _ h9 => h9) rfl dX9_isOtherThanListed_19 ?_
      refine t_get (v := .int (nI hx1)) (C := RX0) (T := TX0) (N := 8) hx hb hts (by decide +kernel) hown hK hP hM_x1 rfl 1 (by decide) (hts (.fieldLink RX9 306 "ShadowBench$Board" "high" "I") (by decide +kernel)) (fun _ h9 => h9) rfl dX9_isOtherThanListed_22 ?_
      have i_h_x1 : (nI hx1).toInt = _ := nI_toInt (by omega)
      refine lv_iload_n hx hb dX9_isOtherThanListed_25 rfl (lv_at hl 2 rfl) ?_
      refine lv_icmp_eq (tgt := 33) hx hb dX9_isOtherThanListed_26 (by decide) (fun c26 => ?_) (fun c26 => ?_)
      · skip
        have d26 := c26
        rw [fa_eq] at d26
        refine lv_iconst (v := 0) hx hb dX9_isOtherThanListed_33 (by decide) ?_
        exact W.zret (v := (0 : Int32)) hx hb hr (by decide) (fun t ht hW => ⟨⟨_, (G, ws), rfl, ⟨rfl, Or.inr ⟨rfl, (by unfold lsO; omega)⟩⟩, by show va_P D vwCl ws t.heap; rw [ht]; exact hP, hD, hT⟩, hS.F ht⟩) hS.2.2 dX9_isOtherThanListed_34
      · skip
        have d26 := c26
        rw [fa_eq] at d26
        refine lv_iconst (v := 1) hx hb dX9_isOtherThanListed_29 (by decide) ?_
        refine lv_goto (tgt := 34) hx hb dX9_isOtherThanListed_30 (by decide) ?_
        exact W.zret (v := (1 : Int32)) hx hb hr (by decide) (fun t ht hW => ⟨⟨_, (G, ws), rfl, ⟨rfl, Or.inl ⟨rfl, (by unfold lsO; omega)⟩⟩, by show va_P D vwCl ws t.heap; rw [ht]; exact hP, hD, hT⟩, hS.F ht⟩) hS.2.2 dX9_isOtherThanListed_34
set_option maxHeartbeats 4000000 in
set_option maxRecDepth 100000 in
theorem c_X9_isListed_x (l : Launch) (D : va_G) (cy : Nat → ClassId) (A : Nat → Prop) (G : cG) (ws : va_W) (o : Nat) (p0 : Int64) {bs_o js_o sh_o wk_o ll_o : Nat} {jc_o lc_o : Int32} {mo_o lb_o : Option Nat} {fl : Nat → Int64} (hD : va_D A ws) (hT : cT cy G ws) (hG_o : G o = some (7, 0, 0)) (hM_o : cIn ws o (.inr (8, [.ref bs_o, .ref js_o, .int jc_o, .ref sh_o, .ref wk_o, va_rf mo_o, .ref ll_o, .int lc_o, va_rf lb_o]))) (hM_ll_o : cIn ws ll_o (.inl (cy 1, 12, .inr (.inl fl))))  : Ci l D cy A yX9_isListed wsX9_isListed ({ frames := 0, cells := 0, slots := 0, locals := 0 }) 0 0 ws [.ref o, .long p0] (fun r0 u => u = (G, ws) ∧ (Bo r0 (lsI fl lc_o p0))) := by
  refine Met.ofW (cc := cX9_isListed) (maxL := 4) (ret := (some .boolean)) (by decide) rfl ?_
  intro p e s m args below meth c s₁ B hml hv
  obtain ⟨rfl, hP, hK, hA, hV⟩ := hv
  have hx := B.exec
  have hb := B.bytes
  have hr := B.returns
  have hts := atoms_spec (ws := wsX9_isListed) B.pre
  have hown : s.vm.findClass RX9 = some m.cls := findClass_of_methodNamed B.named
  have hlocks := B.notSynchronized
  have hS : va_S A s.heap s.heap [] := va_S.rf
  have hl := lv_entry ([.ref o, .long p0]) (n := 4) (Nat.le_of_ble_eq_true rfl)
  rw [lg_entry_eq]
  generalize (lg_sl ([.ref o, .long p0]) ++ List.replicate (4 - (lg_sl ([.ref o, .long p0])).length) Slot.unset).toArray = ls at hl ⊢
  have hl : lv_has ls 4 [(0, .ref o), (1, .long p0)] := hl
  have k_0 : (0 : Int32).toInt = 0 := by decide
  have k_1 : (1 : Int32).toInt = 1 := by decide
  have k_12 : (12 : Int32).toInt = 12 := by decide
  obtain ⟨hjc_o, hlc_o, hG_bs_o, hG_js_o, hG_sh_o, hG_wk_o, hmo_o, hG_ll_o, hlb_o⟩ := w7sh hD hT hG_o hM_o
  refine lv_iconst (v := 0) hx hb dX9_isListed_0 (by decide) ?_
  refine lv_istore_n (lv' := [(3, .int (0 : Int32)), (0, .ref o), (1, .long p0)]) hx hb dX9_isListed_1 rfl hl (by decide) rfl (fun ls hl => ?_)
  have loop_2 : ∀ (n : Nat) (i : Nat), (i ≤ 12) → (∀ k, k < i → ¬ fl k = p0) → 12 - i < n → ∀ (H : Heap) (locs : List Loc), va_P D vwCl ws H → va_S A s.heap H locs → ∀ (ls : Array Slot), lv_has ls 4 [(3, .int (nI i)), (0, .ref o), (1, .long p0)] → W p l e (headSpec wsX9_isListed ({ frames := 0, cells := 0, slots := 0, locals := 0 })).room s m #[Value.ref o, Value.long p0] below meth c H locs 0 0 (MQ below (va_Qi (fun r0 u => u = (G, ws) ∧ (Bo r0 (lsI fl lc_o p0))) (cB D cy A) A) #[Value.ref o, Value.long p0] s 0 0 A) (F0 m 2 ls []) := by
    intro n
    induction n with
    | zero => intro i j2_0 j2_1 hn; exact absurd hn (Nat.not_lt_zero _)
    | succ n ih_2 =>
      intro i j2_0 j2_1 hn_2 H locs hP hS  ls hl
      have ii : (nI i).toInt = (i : Int) := nI_toInt (by omega)
      refine lv_iload_n hx hb dX9_isListed_2 rfl (lv_at hl 0 rfl) ?_
      refine lv_aload_n hx hb dX9_isListed_3 rfl (lv_at hl 1 rfl) ?_
      refine t_get (v := .int lc_o) (C := RX9) (T := TX9) (N := 9) hx hb hts (by decide +kernel) hown hK hP hM_o rfl 7 (by decide) (hts (.fieldLink RX9 46 "ShadowBench" "listCount" "I") (by decide +kernel)) (fun _ h9 => h9) rfl dX9_isListed_4 ?_
      refine lv_icmp_ge (tgt := 35) hx hb dX9_isListed_7 (by decide) (fun c7 => ?_) (fun c7 => ?_)
      · skip
        have d7 := c7
        rw [fa_le] at d7
        refine lv_iconst (v := 0) hx hb dX9_isListed_35 (by decide) ?_
        exact W.zret (v := (0 : Int32)) hx hb hr (by decide) (fun t ht hW => ⟨⟨_, (G, ws), rfl, ⟨rfl, Or.inr ⟨rfl, (fun ⟨k9, h9, z9⟩ => j2_1 k9 (by omega) z9)⟩⟩, by show va_P D vwCl ws t.heap; rw [ht]; exact hP, hD, hT⟩, hS.F ht⟩) hS.2.2 dX9_isListed_36
      · skip
        have d7 := c7
        rw [fa_le] at d7
        refine lv_iload_n hx hb dX9_isListed_10 rfl (lv_at hl 0 rfl) ?_
        refine lv_bipush (v := 12) hx hb dX9_isListed_11 (by decide) ?_
        refine lv_icmp_ge (tgt := 35) hx hb dX9_isListed_13 (by decide) (fun c13 => ?_) (fun c13 => ?_)
        · skip
          have d13 := c13
          rw [fa_le] at d13
          refine lv_iconst (v := 0) hx hb dX9_isListed_35 (by decide) ?_
          exact W.zret (v := (0 : Int32)) hx hb hr (by decide) (fun t ht hW => ⟨⟨_, (G, ws), rfl, ⟨rfl, Or.inr ⟨rfl, (fun ⟨k9, h9, z9⟩ => j2_1 k9 (by omega) z9)⟩⟩, by show va_P D vwCl ws t.heap; rw [ht]; exact hP, hD, hT⟩, hS.F ht⟩) hS.2.2 dX9_isListed_36
        · skip
          have d13 := c13
          rw [fa_le] at d13
          refine lv_aload_n hx hb dX9_isListed_16 rfl (lv_at hl 1 rfl) ?_
          refine t_get (v := .ref ll_o) (C := RX9) (T := TX9) (N := 9) hx hb hts (by decide +kernel) hown hK hP hM_o rfl 6 (by decide) (hts (.fieldLink RX9 42 "ShadowBench" "listed" "[J") (by decide +kernel)) (fun _ h9 => h9) rfl dX9_isListed_17 ?_
          refine lv_iload_n hx hb dX9_isListed_20 rfl (lv_at hl 0 rfl) ?_
          refine t_laldM hx hb hK hP hM_ll_o (vp_in_iff.mpr ⟨by omega, by omega⟩) dX9_isListed_21 ?_
          refine lv_topl (fun v21 e21 => ?_)
          have f21 : v21 = fl i := by rw [e21, nI_clamp (by omega)]
          refine lv_lload_n hx hb dX9_isListed_22 rfl (lv_at hl 2 rfl) ?_
          refine W.lcmp hx hb dX9_isListed_23 ?_
          refine lv_if_ne (tgt := 29) hx hb dX9_isListed_24 (by decide) (fun c24 => ?_) (fun c24 => ?_)
          · skip
            have d24 := c24
            rw [lg_cmp_eq, fa_eq64] at d24
            refine lv_iinc (v := (nI (i + 1))) (lv' := [(3, .int (nI (i + 1))), (0, .ref o), (1, .long p0)]) hx hb dX9_isListed_29 hl (k := 0) rfl (nI_1 _) (by decide) rfl (fun ls hl => ?_)
            refine lv_goto (tgt := 2) hx hb dX9_isListed_32 (by decide) ?_
            exact ih_2 (i + 1) (by omega) (fun k hk => by
            by_cases e9 : k = i
            · rw [e9]; exact fun z9 => c24 ((lg_cmp_eq _ _).mpr (f21.trans z9))
            · exact j2_1 k (by omega)) (by omega) _ _ hP hS  ls (lv_sub hl [0, 1, 2] rfl)
          · skip
            have d24 := c24
            rw [lg_cmp_eq, fa_eq64] at d24
            refine lv_iconst (v := 1) hx hb dX9_isListed_27 (by decide) ?_
            exact W.zret (v := (1 : Int32)) hx hb hr (by decide) (fun t ht hW => ⟨⟨_, (G, ws), rfl, ⟨rfl, Or.inl ⟨rfl, ⟨i, (by omega), f21.symm.trans ((lg_cmp_eq _ _).mp c24)⟩⟩⟩, by show va_P D vwCl ws t.heap; rw [ht]; exact hP, hD, hT⟩, hS.F ht⟩) hS.2.2 dX9_isListed_28
  exact loop_2 (12 + 1) 0 (by omega) (fun k hk => absurd hk (Nat.not_lt_zero _)) (by omega) _ _ hP hS  ls (lv_sub hl [0, 1, 2] rfl)
set_option maxHeartbeats 4000000 in
set_option maxRecDepth 100000 in
theorem c_X9_list_x (l : Launch) (D : va_G) (cy : Nat → ClassId) (A : Nat → Prop) (G : cG) (ws : va_W) (o : Nat) (wide : Int32) (high : Int32) (p0 : Int64) {bs_o js_o sh_o wk_o ll_o : Nat} {jc_o lc_o : Int32} {mo_o lb_o : Option Nat} {fl : Nat → Int64} {lw lh : Nat} (hD : va_D A ws) (hT : cT cy G ws) (hG_o : G o = some (7, 0, 0)) (hM_o : cIn ws o (.inr (8, [.ref bs_o, .ref js_o, .int jc_o, .ref sh_o, .ref wk_o, va_rf mo_o, .ref ll_o, .int lc_o, va_rf lb_o]))) (hM_ll_o : cIn ws ll_o (.inl (cy 1, 12, .inr (.inl fl)))) (hlb9 : lsB G lb_o lc_o lw lh) : Ci l D cy A yX9_list wsX9_list ({ frames := 5, cells := 4, slots := 502, locals := 116 }) 4 502 ws [.ref o, .int wide, .int high, .long p0] (fun r0 u => cX none (chs [1, 7, 8, 17]) G ws u.1 u.2 ∧ (lsA fl lc_o lw lh wide high p0 r0 ∧ ∃ lc lb fl1, cIn u.2 o (.inr (8, [.ref bs_o, .ref js_o, .int jc_o, .ref sh_o, .ref wk_o, va_rf mo_o, .ref ll_o, .int lc, va_rf lb])) ∧ cIn u.2 ll_o (.inl (cy 1, 12, .inr (.inl fl1))) ∧ ((lsG fl lc_o lw lh wide high p0 ∧ lc.toInt = lc_o.toInt + 1 ∧ fl1 = vp_updL fl lc_o.toNatClampNeg p0 ∧ ∃ b, lb = some b ∧ u.1 b = some (2, wide.toNatClampNeg, high.toNatClampNeg)) ∨ (¬ lsG fl lc_o lw lh wide high p0 ∧ lc = lc_o ∧ lb = lb_o ∧ fl1 = fl)))) := by
  refine Met.ofW (cc := cX9_list) (maxL := 6) (ret := (some .int)) (by decide) rfl ?_
  intro p e s m args below meth c s₁ B hml hv
  obtain ⟨rfl, hP, hK, hA, hV⟩ := hv
  have hx := B.exec
  have hb := B.bytes
  have hr := B.returns
  have hts := atoms_spec (ws := wsX9_list) B.pre
  have hown : s.vm.findClass RX9 = some m.cls := findClass_of_methodNamed B.named
  have hlocks := B.notSynchronized
  have hS : va_S A s.heap s.heap [] := va_S.rf
  have hX : cX none (chs [1, 7, 8, 17]) G ws G ws := cX.rf
  have hl := lv_entry ([.ref o, .int wide, .int high, .long p0]) (n := 6) (Nat.le_of_ble_eq_true rfl)
  rw [lg_entry_eq]
  generalize (lg_sl ([.ref o, .int wide, .int high, .long p0]) ++ List.replicate (6 - (lg_sl ([.ref o, .int wide, .int high, .long p0])).length) Slot.unset).toArray = ls at hl ⊢
  have hl : lv_has ls 6 [(0, .ref o), (1, .int wide), (2, .int high), (3, .long p0)] := hl
  have k_m3 : (-3 : Int32).toInt = -3 := by decide
  have k_m2 : (-2 : Int32).toInt = -2 := by decide
  have k_m1 : (-1 : Int32).toInt = -1 := by decide
  have k_0 : (0 : Int32).toInt = 0 := by decide
  have k_1 : (1 : Int32).toInt = 1 := by decide
  have k_12 : (12 : Int32).toInt = 12 := by decide
  obtain ⟨hjc_o, hlc_o, hG_bs_o, hG_js_o, hG_sh_o, hG_wk_o, hmo_o, hG_ll_o, hlb_o⟩ := w7sh hD hT hG_o hM_o
  refine lv_aload_n hx hb dX9_list_0 rfl (lv_at hl 0 rfl) ?_
  refine lv_iload_n hx hb dX9_list_1 rfl (lv_at hl 1 rfl) ?_
  refine lv_iload_n hx hb dX9_list_2 rfl (lv_at hl 2 rfl) ?_
  refine t_calla (va_runV (g := F0 m 3 ls ([.int high, .int wide, .ref o])) (As := [.int wide, .int high]) (rest := []) ⟨hx, hb, hml, hown, hts⟩ (c_X9_boardOf_x l D cy A G ws o wide high hD hT hG_o ) (cwV 2 hts gX9_list_X9_boardOf rfl rfl rfl (by decide +kernel) ⟨Nat.le_of_ble_eq_true rfl, Nat.le_of_ble_eq_true rfl⟩) (c_preV hM_o rfl hP hK hA hS hV) rfl rfl hl.1 rfl (lv_room (Nat.le_of_ble_eq_true rfl)) dX9_list_3 ⟨Nat.le_of_ble_eq_true rfl, Nat.le_of_ble_eq_true rfl⟩) hS (fun r3 u H locs q3 hP9 hD9 hT9 hS => ?_)
  obtain ⟨G3, w3⟩ := u
  obtain ⟨hX9, q3⟩ := q3
  have hX9 : cX none (chs [1, 8]) G ws G3 w3 := hX9
  have hP : va_P D vwCl w3 H := hP9
  have hD : va_D A w3 := hD9
  have hT : cT cy G3 w3 := hT9
  have hM_o := hX9.2.1 _ _ (cP.no hG_o rfl) hM_o
  have hM_ll_o := hX9.2.1 _ _ (cP.no hG_ll_o rfl) hM_ll_o
  have hG_o := hX9.1 _ _ hG_o
  have hG_bs_o := hX9.1 _ _ hG_bs_o
  have hG_js_o := hX9.1 _ _ hG_js_o
  have hG_sh_o := hX9.1 _ _ hG_sh_o
  have hG_wk_o := hX9.1 _ _ hG_wk_o
  have hG_ll_o := hX9.1 _ _ hG_ll_o
  have hmo_o := fun x9 z9 => hX9.1 _ _ (hmo_o x9 z9)
  have hlb_o : ∀ x9, lb_o = some x9 → ∃ w9 h9, _ = some (2, w9, h9) := fun x9 z9 => (hlb_o x9 z9).elim fun w9 z9 => z9.elim fun h9 z9 => ⟨w9, h9, hX9.1 _ _ z9⟩
  have hX := hX.tr (hX9.wk (chs_sub (by decide)))
  rcases r3 with _ | x3
  · skip
    have vn3 := q3.2.1 rfl
    refine lv_astoreN (lv' := [(5, .null), (0, .ref o), (1, .int wide), (2, .int high), (3, .long p0)]) hx hb dX9_list_6 hl (by decide) rfl (fun ls hl => ?_)
    refine lv_aloadN hx hb dX9_list_8 (lv_at hl 0 rfl) ?_
    refine lv_ifnullN (tgt := 22) hx hb dX9_list_10 (by decide) ?_
    refine lv_iconst (v := (-1)) hx hb dX9_list_22 (by decide) ?_
    refine W.widen (k := 4) (n := 502) (Nat.le_of_ble_eq_true rfl) (Nat.le_of_ble_eq_true rfl) ?_
    exact W.iret (v := ((-1) : Int32)) hx hb hr (fun t ht hW => ⟨⟨_, (G3, w3), rfl, ⟨hX, ⟨lsA_1 (fun z9 => by first | exact vn3 z9.1 | exact b19 z9.2), _, lb_o, _, hM_o, hM_ll_o, Or.inr ⟨lsG_1 (fun z9 => by first | exact vn3 z9.1 | exact b19 z9.2), rfl, rfl, rfl⟩⟩⟩, by show va_P D vwCl w3 t.heap; rw [ht]; exact hP, hD, hT⟩, hS.F ht⟩) hS.2.2 dX9_list_23
  · skip
    have hG_x3 := q3.1 x3 rfl
    have vb3 := q3.2.2 x3 rfl
    refine lv_astore (lv' := [(5, .ref x3), (0, .ref o), (1, .int wide), (2, .int high), (3, .long p0)]) hx hb dX9_list_6 hl (by decide) rfl (fun ls hl => ?_)
    refine lv_aload hx hb dX9_list_8 (lv_at hl 0 rfl) ?_
    refine lv_ifnull hx hb dX9_list_10 ?_
    refine lv_aload hx hb dX9_list_13 (lv_at hl 0 rfl) ?_
    refine lv_lload_n hx hb dX9_list_15 rfl (lv_at hl 4 rfl) ?_
    obtain ⟨_, hM_x3, hb_x3, l_x3, f_x3, r_x3, rfl, hG_l_x3, hG_f_x3, hG_r_x3⟩ := hT _ _ hG_x3
    refine t_calli (va_runV (g := F0 m 16 ls ([.long p0, .ref x3])) (As := [.long p0]) (rest := []) ⟨hx, hb, hml, hown, hts⟩ (c_X0_isPicture_x l D cy A G3 w3 x3 p0 hD hT hG_x3 ) (cwV 1 hts gX9_list_X0_isPicture rfl rfl rfl (by decide +kernel) ⟨Nat.le_of_ble_eq_true rfl, Nat.le_of_ble_eq_true rfl⟩) (c_preV hM_x3 rfl hP hK hA hS hV) rfl rfl hl.1 rfl (lv_room (Nat.le_of_ble_eq_true rfl)) dX9_list_16 ⟨Nat.le_of_ble_eq_true rfl, Nat.le_of_ble_eq_true rfl⟩) hS (fun r16 u H locs q16 hP9 hD9 hT9 hS => ?_)
    obtain ⟨rfl, q16⟩ := q16
    have hP : va_P D vwCl w3 H := hP9
    refine lv_if_ne (tgt := 24) hx hb dX9_list_19 (by decide) (fun c19 => ?_) (fun c19 => ?_)
    · skip
      have b19 := bo_t q16 c19
      refine lv_aload_n hx hb dX9_list_24 rfl (lv_at hl 1 rfl) ?_
      refine t_get (v := .int lc_o) (C := RX9) (T := TX9) (N := 9) hx hb hts (by decide +kernel) hown hK hP hM_o rfl 7 (by decide) (hts (.fieldLink RX9 46 "ShadowBench" "listCount" "I") (by decide +kernel)) (fun _ h9 => h9) rfl dX9_list_25 ?_
      refine lv_bipush (v := 12) hx hb dX9_list_28 (by decide) ?_
      refine lv_icmp_lt (tgt := 36) hx hb dX9_list_30 (by decide) (fun c30 => ?_) (fun c30 => ?_)
      · skip
        have d30 := c30
        rw [fa_lt] at d30
        refine lv_aload_n hx hb dX9_list_36 rfl (lv_at hl 1 rfl) ?_
        refine lv_iload_n hx hb dX9_list_37 rfl (lv_at hl 2 rfl) ?_
        refine lv_iload_n hx hb dX9_list_38 rfl (lv_at hl 3 rfl) ?_
        refine t_calli (va_runV (g := F0 m 39 ls ([.int high, .int wide, .ref o])) (As := [.int wide, .int high]) (rest := []) ⟨hx, hb, hml, hown, hts⟩ (c_X9_isOtherThanListed_x l D cy A G3 w3 o wide high hD hT hG_o hM_o hM_ll_o (hlb9.up hX.1)) (cwV 2 hts gX9_list_X9_isOtherThanListed rfl rfl rfl (by decide +kernel) ⟨Nat.le_of_ble_eq_true rfl, Nat.le_of_ble_eq_true rfl⟩) (c_preV hM_o rfl hP hK hA hS hV) rfl rfl hl.1 rfl (lv_room (Nat.le_of_ble_eq_true rfl)) dX9_list_39 ⟨Nat.le_of_ble_eq_true rfl, Nat.le_of_ble_eq_true rfl⟩) hS (fun r39 u H locs q39 hP9 hD9 hT9 hS => ?_)
        obtain ⟨rfl, q39⟩ := q39
        have hP : va_P D vwCl w3 H := hP9
        refine lv_if_ne (tgt := 53) hx hb dX9_list_42 (by decide) (fun c42 => ?_) (fun c42 => ?_)
        · skip
          have b42 := bo_t q39 c42
          refine lv_bipush (v := (-3)) hx hb dX9_list_53 (by decide) ?_
          refine W.widen (k := 4) (n := 502) (Nat.le_of_ble_eq_true rfl) (Nat.le_of_ble_eq_true rfl) ?_
          exact W.iret (v := ((-3) : Int32)) hx hb hr (fun t ht hW => ⟨⟨_, (G3, w3), rfl, ⟨hX, ⟨lsA_3 ⟨vb3, b19⟩ (by omega) (by first | exact Or.inr b50 | exact Or.inl b42), _, lb_o, _, hM_o, hM_ll_o, Or.inr ⟨lsG_3 (by first | exact Or.inr b50 | exact Or.inl b42), rfl, rfl, rfl⟩⟩⟩, by show va_P D vwCl w3 t.heap; rw [ht]; exact hP, hD, hT⟩, hS.F ht⟩) hS.2.2 dX9_list_55
        · skip
          have b42 := bo_f q39 c42
          refine lv_aload_n hx hb dX9_list_45 rfl (lv_at hl 1 rfl) ?_
          refine lv_lload_n hx hb dX9_list_46 rfl (lv_at hl 4 rfl) ?_
          refine t_calli (va_runV (g := F0 m 47 ls ([.long p0, .ref o])) (As := [.long p0]) (rest := []) ⟨hx, hb, hml, hown, hts⟩ (c_X9_isListed_x l D cy A G3 w3 o p0 hD hT hG_o hM_o hM_ll_o ) (cwV 1 hts gX9_list_X9_isListed rfl rfl rfl (by decide +kernel) ⟨Nat.le_of_ble_eq_true rfl, Nat.le_of_ble_eq_true rfl⟩) (c_preV hM_o rfl hP hK hA hS hV) rfl rfl hl.1 rfl (lv_room (Nat.le_of_ble_eq_true rfl)) dX9_list_47 ⟨Nat.le_of_ble_eq_true rfl, Nat.le_of_ble_eq_true rfl⟩) hS (fun r47 u H locs q47 hP9 hD9 hT9 hS => ?_)
          obtain ⟨rfl, q47⟩ := q47
          have hP : va_P D vwCl w3 H := hP9
          refine lv_if_eq (tgt := 56) hx hb dX9_list_50 (by decide) (fun c50 => ?_) (fun c50 => ?_)
          · skip
            have b50 := bo_f q47 c50
            refine lv_aload_n hx hb dX9_list_56 rfl (lv_at hl 1 rfl) ?_
            refine lv_aload hx hb dX9_list_57 (lv_at hl 0 rfl) ?_
            refine t_put (v := .ref x3) (C := RX9) (T := TX9) (N := 9) (ty0 := tyX9) hx hb hts (by decide +kernel) tyX9_ok nmX9 hown hK hP hD hS hM_o rfl 8 (by decide) (hts (.fieldLink RX9 49 "ShadowBench" "listBoard" "LShadowBench$Board;") (by decide +kernel)) (fun _ h9 => h9) rfl rfl rfl (Nat.le_of_ble_eq_true rfl) dX9_list_59 (fun H locs w59 hU59 hP hD hS => ?_)
            have hM_ll_o := hU59.2 _ _ (cne hG_ll_o hG_o (show (17 : Nat) ≠ 7 by decide)) hM_ll_o
            have hM_x3 := hU59.2 _ _ (cne hG_x3 hG_o (show (2 : Nat) ≠ 7 by decide)) hM_x3
            have hT := hT.up hU59 hG_o ⟨_, _, _, _, _, _, _, mo_o, (some x3), rfl, ⟨by omega, by omega⟩, ⟨by omega, by omega⟩, hG_bs_o, hG_js_o, hG_sh_o, hG_wk_o, hmo_o, hG_ll_o, (fun _ z => Option.some.inj z ▸ ⟨_, _, hG_x3⟩)⟩
            have hM_o : cIn w59 o (.inr (8, [.ref bs_o, .ref js_o, .int jc_o, .ref sh_o, .ref wk_o, va_rf mo_o, .ref ll_o, .int lc_o, .ref x3])) := hU59.1
            have hX := hX.tr (cX.up hU59 (Or.inr ⟨_, hG_o, rfl⟩))
            refine lv_aload_n hx hb dX9_list_62 rfl (lv_at hl 1 rfl) ?_
            refine t_get (v := .ref ll_o) (C := RX9) (T := TX9) (N := 9) hx hb hts (by decide +kernel) hown hK hP hM_o rfl 6 (by decide) (hts (.fieldLink RX9 42 "ShadowBench" "listed" "[J") (by decide +kernel)) (fun _ h9 => h9) rfl dX9_list_63 ?_
            refine lv_aload_n hx hb dX9_list_66 rfl (lv_at hl 1 rfl) ?_
            refine t_get (v := .int lc_o) (C := RX9) (T := TX9) (N := 9) hx hb hts (by decide +kernel) hown hK hP hM_o rfl 7 (by decide) (hts (.fieldLink RX9 46 "ShadowBench" "listCount" "I") (by decide +kernel)) (fun _ h9 => h9) rfl dX9_list_67 ?_
            refine lv_lload_n hx hb dX9_list_70 rfl (lv_at hl 4 rfl) ?_
            refine t_lastK hx hb hK hP hD hS hT (Or.inr (Or.inr rfl)) hG_ll_o hM_ll_o (vp_in_iff.mpr ⟨by omega, by omega⟩) dX9_list_71 (fun H locs w71 hU71 hP hD hT hS => ?_)
            have hM_o := hU71.2 _ _ (cne hG_o hG_ll_o (show (7 : Nat) ≠ 17 by decide)) hM_o
            have hM_x3 := hU71.2 _ _ (cne hG_x3 hG_ll_o (show (2 : Nat) ≠ 17 by decide)) hM_x3
            have hM_ll_o := hU71.1
            have hX := hX.tr (cX.up hU71 (Or.inr ⟨_, hG_ll_o, rfl⟩))
            refine lv_aload_n hx hb dX9_list_72 rfl (lv_at hl 1 rfl) ?_
            refine lv_dup hx hb dX9_list_73 rfl ?_
            refine t_get (v := .int lc_o) (C := RX9) (T := TX9) (N := 9) hx hb hts (by decide +kernel) hown hK hP hM_o rfl 7 (by decide) (hts (.fieldLink RX9 46 "ShadowBench" "listCount" "I") (by decide +kernel)) (fun _ h9 => h9) rfl dX9_list_74 ?_
            refine lv_iconst (v := 1) hx hb dX9_list_77 (by decide) ?_
            refine lv_iadd hx hb dX9_list_78 ?_
            refine lv_topi (fun v78 e78 => ?_)
            have i78 : v78.toInt = lc_o.toInt + (1 : Int32).toInt := by rw [e78]; exact fb_addI (by omega) (by omega)
            refine t_put (v := .int v78) (C := RX9) (T := TX9) (N := 9) (ty0 := tyX9) hx hb hts (by decide +kernel) tyX9_ok nmX9 hown hK hP hD hS hM_o rfl 7 (by decide) (hts (.fieldLink RX9 46 "ShadowBench" "listCount" "I") (by decide +kernel)) (fun _ h9 => h9) rfl rfl rfl (Nat.le_of_ble_eq_true rfl) dX9_list_79 (fun H locs w79 hU79 hP hD hS => ?_)
            have hM_ll_o := hU79.2 _ _ (cne hG_ll_o hG_o (show (17 : Nat) ≠ 7 by decide)) hM_ll_o
            have hM_x3 := hU79.2 _ _ (cne hG_x3 hG_o (show (2 : Nat) ≠ 7 by decide)) hM_x3
            have hT := hT.up hU79 hG_o ⟨_, _, _, _, _, _, _, mo_o, (some x3), rfl, ⟨by omega, by omega⟩, ⟨by omega, by omega⟩, hG_bs_o, hG_js_o, hG_sh_o, hG_wk_o, hmo_o, hG_ll_o, (fun _ z => Option.some.inj z ▸ ⟨_, _, hG_x3⟩)⟩
            have hM_o : cIn w79 o (.inr (8, [.ref bs_o, .ref js_o, .int jc_o, .ref sh_o, .ref wk_o, va_rf mo_o, .ref ll_o, .int v78, .ref x3])) := hU79.1
            have hX := hX.tr (cX.up hU79 (Or.inr ⟨_, hG_o, rfl⟩))
            refine lv_aload_n hx hb dX9_list_82 rfl (lv_at hl 1 rfl) ?_
            refine t_get (v := .int v78) (C := RX9) (T := TX9) (N := 9) hx hb hts (by decide +kernel) hown hK hP hM_o rfl 7 (by decide) (hts (.fieldLink RX9 46 "ShadowBench" "listCount" "I") (by decide +kernel)) (fun _ h9 => h9) rfl dX9_list_83 ?_
            refine W.widen (k := 4) (n := 502) (Nat.le_of_ble_eq_true rfl) (Nat.le_of_ble_eq_true rfl) ?_
            exact W.iret (v := v78) hx hb hr (fun t ht hW => ⟨⟨_, (G3, w79), rfl, ⟨hX, ⟨Or.inl ⟨⟨⟨vb3, b19⟩, (by omega), b42, b50⟩, (by omega)⟩, _, (some x3), _, hM_o, hM_ll_o, Or.inl ⟨⟨⟨vb3, b19⟩, (by omega), b42, b50⟩, (by omega), rfl, _, rfl, hG_x3⟩⟩⟩, by show va_P D vwCl w79 t.heap; rw [ht]; exact hP, hD, hT⟩, hS.F ht⟩) hS.2.2 dX9_list_86
          · skip
            have b50 := bo_t q47 c50
            refine lv_bipush (v := (-3)) hx hb dX9_list_53 (by decide) ?_
            refine W.widen (k := 4) (n := 502) (Nat.le_of_ble_eq_true rfl) (Nat.le_of_ble_eq_true rfl) ?_
            exact W.iret (v := ((-3) : Int32)) hx hb hr (fun t ht hW => ⟨⟨_, (G3, w3), rfl, ⟨hX, ⟨lsA_3 ⟨vb3, b19⟩ (by omega) (by first | exact Or.inr b50 | exact Or.inl b42), _, lb_o, _, hM_o, hM_ll_o, Or.inr ⟨lsG_3 (by first | exact Or.inr b50 | exact Or.inl b42), rfl, rfl, rfl⟩⟩⟩, by show va_P D vwCl w3 t.heap; rw [ht]; exact hP, hD, hT⟩, hS.F ht⟩) hS.2.2 dX9_list_55
      · skip
        have d30 := c30
        rw [fa_lt] at d30
        refine lv_bipush (v := (-2)) hx hb dX9_list_33 (by decide) ?_
        refine W.widen (k := 4) (n := 502) (Nat.le_of_ble_eq_true rfl) (Nat.le_of_ble_eq_true rfl) ?_
        exact W.iret (v := ((-2) : Int32)) hx hb hr (fun t ht hW => ⟨⟨_, (G3, w3), rfl, ⟨hX, ⟨lsA_2 ⟨vb3, b19⟩ (by omega), _, lb_o, _, hM_o, hM_ll_o, Or.inr ⟨lsG_2 (by omega), rfl, rfl, rfl⟩⟩⟩, by show va_P D vwCl w3 t.heap; rw [ht]; exact hP, hD, hT⟩, hS.F ht⟩) hS.2.2 dX9_list_35
    · skip
      have b19 := bo_f q16 c19
      refine lv_iconst (v := (-1)) hx hb dX9_list_22 (by decide) ?_
      refine W.widen (k := 4) (n := 502) (Nat.le_of_ble_eq_true rfl) (Nat.le_of_ble_eq_true rfl) ?_
      exact W.iret (v := ((-1) : Int32)) hx hb hr (fun t ht hW => ⟨⟨_, (G3, w3), rfl, ⟨hX, ⟨lsA_1 (fun z9 => by first | exact vn3 z9.1 | exact b19 z9.2), _, lb_o, _, hM_o, hM_ll_o, Or.inr ⟨lsG_1 (fun z9 => by first | exact vn3 z9.1 | exact b19 z9.2), rfl, rfl, rfl⟩⟩⟩, by show va_P D vwCl w3 t.heap; rw [ht]; exact hP, hD, hT⟩, hS.F ht⟩) hS.2.2 dX9_list_23
set_option maxHeartbeats 4000000 in
set_option maxRecDepth 100000 in
theorem c_X9_clear_x (l : Launch) (D : va_G) (cy : Nat → ClassId) (A : Nat → Prop) (G : cG) (ws : va_W) (o : Nat) {bs_o js_o sh_o wk_o ll_o : Nat} {jc_o lc_o : Int32} {mo_o lb_o : Option Nat} (hD : va_D A ws) (hT : cT cy G ws) (hG_o : G o = some (7, 0, 0)) (hM_o : cIn ws o (.inr (8, [.ref bs_o, .ref js_o, .int jc_o, .ref sh_o, .ref wk_o, va_rf mo_o, .ref ll_o, .int lc_o, va_rf lb_o])))  : Ci l D cy A yX9_clear wsX9_clear ({ frames := 0, cells := 0, slots := 0, locals := 0 }) 0 0 ws [.ref o] (fun r0 u => cX none (chs [7]) G ws u.1 u.2 ∧ (r0 = lc_o ∧ cIn u.2 o (.inr (8, [.ref bs_o, .ref js_o, .int jc_o, .ref sh_o, .ref wk_o, va_rf mo_o, .ref ll_o, .int (0 : Int32), va_rf none])))) := by
  refine Met.ofW (cc := cX9_clear) (maxL := 2) (ret := (some .int)) (by decide) rfl ?_
  intro p e s m args below meth c s₁ B hml hv
  obtain ⟨rfl, hP, hK, hA, hV⟩ := hv
  have hx := B.exec
  have hb := B.bytes
  have hr := B.returns
  have hts := atoms_spec (ws := wsX9_clear) B.pre
  have hown : s.vm.findClass RX9 = some m.cls := findClass_of_methodNamed B.named
  have hlocks := B.notSynchronized
  have hS : va_S A s.heap s.heap [] := va_S.rf
  have hX : cX none (chs [7]) G ws G ws := cX.rf
  have hl := lv_entry ([.ref o]) (n := 2) (Nat.le_of_ble_eq_true rfl)
  rw [lg_entry_eq]
  generalize (lg_sl ([.ref o]) ++ List.replicate (2 - (lg_sl ([.ref o])).length) Slot.unset).toArray = ls at hl ⊢
  have hl : lv_has ls 2 [(0, .ref o)] := hl
  have k_0 : (0 : Int32).toInt = 0 := by decide
  obtain ⟨hjc_o, hlc_o, hG_bs_o, hG_js_o, hG_sh_o, hG_wk_o, hmo_o, hG_ll_o, hlb_o⟩ := w7sh hD hT hG_o hM_o
  refine lv_aload_n hx hb dX9_clear_0 rfl (lv_at hl 0 rfl) ?_
  refine t_get (v := .int lc_o) (C := RX9) (T := TX9) (N := 9) hx hb hts (by decide +kernel) hown hK hP hM_o rfl 7 (by decide) (hts (.fieldLink RX9 46 "ShadowBench" "listCount" "I") (by decide +kernel)) (fun _ h9 => h9) rfl dX9_clear_1 ?_
  refine lv_istore_n (lv' := [(1, .int lc_o), (0, .ref o)]) hx hb dX9_clear_4 rfl hl (by decide) rfl (fun ls hl => ?_)
  refine lv_aload_n hx hb dX9_clear_5 rfl (lv_at hl 1 rfl) ?_
  refine lv_iconst (v := 0) hx hb dX9_clear_6 (by decide) ?_
  refine t_put (v := .int (0 : Int32)) (C := RX9) (T := TX9) (N := 9) (ty0 := tyX9) hx hb hts (by decide +kernel) tyX9_ok nmX9 hown hK hP hD hS hM_o rfl 7 (by decide) (hts (.fieldLink RX9 46 "ShadowBench" "listCount" "I") (by decide +kernel)) (fun _ h9 => h9) rfl rfl rfl (Nat.le_of_ble_eq_true rfl) dX9_clear_7 (fun H locs w7 hU7 hP hD hS => ?_)
  have hT := hT.up hU7 hG_o ⟨_, _, _, _, _, _, _, mo_o, lb_o, rfl, ⟨by omega, by omega⟩, ⟨by omega, by omega⟩, hG_bs_o, hG_js_o, hG_sh_o, hG_wk_o, hmo_o, hG_ll_o, hlb_o⟩
  have hM_o : cIn w7 o (.inr (8, [.ref bs_o, .ref js_o, .int jc_o, .ref sh_o, .ref wk_o, va_rf mo_o, .ref ll_o, .int (0 : Int32), va_rf lb_o])) := hU7.1
  have hX := hX.tr (cX.up hU7 (Or.inr ⟨_, hG_o, rfl⟩))
  refine lv_aload_n hx hb dX9_clear_10 rfl (lv_at hl 1 rfl) ?_
  refine lv_null hx hb dX9_clear_11 ?_
  refine t_put (v := .null) (C := RX9) (T := TX9) (N := 9) (ty0 := tyX9) hx hb hts (by decide +kernel) tyX9_ok nmX9 hown hK hP hD hS hM_o rfl 8 (by decide) (hts (.fieldLink RX9 49 "ShadowBench" "listBoard" "LShadowBench$Board;") (by decide +kernel)) (fun _ h9 => h9) rfl rfl rfl (Nat.le_of_ble_eq_true rfl) dX9_clear_12 (fun H locs w12 hU12 hP hD hS => ?_)
  have hT := hT.up hU12 hG_o ⟨_, _, _, _, _, _, _, mo_o, none, rfl, ⟨by omega, by omega⟩, ⟨by omega, by omega⟩, hG_bs_o, hG_js_o, hG_sh_o, hG_wk_o, hmo_o, hG_ll_o, (fun _ z => nomatch z)⟩
  have hM_o : cIn w12 o (.inr (8, [.ref bs_o, .ref js_o, .int jc_o, .ref sh_o, .ref wk_o, va_rf mo_o, .ref ll_o, .int (0 : Int32), .null])) := hU12.1
  have hX := hX.tr (cX.up hU12 (Or.inr ⟨_, hG_o, rfl⟩))
  refine lv_iload_n hx hb dX9_clear_15 rfl (lv_at hl 0 rfl) ?_
  exact W.iret (v := lc_o) hx hb hr (fun t ht hW => ⟨⟨_, (G, w12), rfl, ⟨hX, ⟨rfl, hM_o⟩⟩, by show va_P D vwCl w12 t.heap; rw [ht]; exact hP, hD, hT⟩, hS.F ht⟩) hS.2.2 dX9_clear_16
set_option maxHeartbeats 4000000 in
set_option maxRecDepth 100000 in
theorem c_X9_job_k (l : Launch) (D : va_G) (cy : Nat → ClassId) (A : Nat → Prop) (G : cG) (ws : va_W) (o : Nat) (kind : Int32) (wide : Int32) (high : Int32) {bs_o js_o sh_o wk_o ll_o : Nat} {jc_o lc_o : Int32} {mo_o lb_o : Option Nat} (hD : va_D A ws) (hT : cT cy G ws) (hG_o : G o = some (7, 0, 0)) (hM_o : cIn ws o (.inr (8, [.ref bs_o, .ref js_o, .int jc_o, .ref sh_o, .ref wk_o, va_rf mo_o, .ref ll_o, .int lc_o, va_rf lb_o])))  : Ci l D cy A yX9_job wsX9_job ({ frames := 6, cells := 7, slots := 588, locals := 124 }) 7 588 ws [.ref o, .int kind, .int wide, .int high] (fun r0 u => cX none (chs [1, 7, 8, 9]) G ws u.1 u.2 ∧ (∃ jc, cIn u.2 o (.inr (8, [.ref bs_o, .ref js_o, .int jc, .ref sh_o, .ref wk_o, va_rf mo_o, .ref ll_o, .int lc_o, va_rf lb_o])))) := by
  refine Met.ofW (cc := cX9_job) (maxL := 5) (ret := (some .int)) (by decide) rfl ?_
  intro p e s m args below meth c s₁ B hml hv
  obtain ⟨rfl, hP, hK, hA, hV⟩ := hv
  have hx := B.exec
  have hb := B.bytes
  have hr := B.returns
  have hts := atoms_spec (ws := wsX9_job) B.pre
  have hown : s.vm.findClass RX9 = some m.cls := findClass_of_methodNamed B.named
  have hlocks := B.notSynchronized
  have hS : va_S A s.heap s.heap [] := va_S.rf
  have hX : cX none (chs [1, 7, 8, 9]) G ws G ws := cX.rf
  have hl := lv_entry ([.ref o, .int kind, .int wide, .int high]) (n := 5) (Nat.le_of_ble_eq_true rfl)
  rw [lg_entry_eq]
  generalize (lg_sl ([.ref o, .int kind, .int wide, .int high]) ++ List.replicate (5 - (lg_sl ([.ref o, .int kind, .int wide, .int high])).length) Slot.unset).toArray = ls at hl ⊢
  have hl : lv_has ls 5 [(0, .ref o), (1, .int kind), (2, .int wide), (3, .int high)] := hl
  have k_m2 : (-2 : Int32).toInt = -2 := by decide
  have k_m1 : (-1 : Int32).toInt = -1 := by decide
  have k_0 : (0 : Int32).toInt = 0 := by decide
  have k_1 : (1 : Int32).toInt = 1 := by decide
  have k_3 : (3 : Int32).toInt = 3 := by decide
  have k_8 : (8 : Int32).toInt = 8 := by decide
  obtain ⟨hjc_o, hlc_o, hG_bs_o, hG_js_o, hG_sh_o, hG_wk_o, hmo_o, hG_ll_o, hlb_o⟩ := w7sh hD hT hG_o hM_o
  refine lv_aload_n hx hb dX9_job_0 rfl (lv_at hl 0 rfl) ?_
  refine lv_iload_n hx hb dX9_job_1 rfl (lv_at hl 2 rfl) ?_
  refine lv_iload_n hx hb dX9_job_2 rfl (lv_at hl 3 rfl) ?_
  refine t_calla (va_runV (g := F0 m 3 ls ([.int high, .int wide, .ref o])) (As := [.int wide, .int high]) (rest := []) ⟨hx, hb, hml, hown, hts⟩ (c_X9_boardOf_x l D cy A G ws o wide high hD hT hG_o ) (cwV 2 hts gX9_job_X9_boardOf rfl rfl rfl (by decide +kernel) ⟨Nat.le_of_ble_eq_true rfl, Nat.le_of_ble_eq_true rfl⟩) (c_preV hM_o rfl hP hK hA hS hV) rfl rfl hl.1 rfl (lv_room (Nat.le_of_ble_eq_true rfl)) dX9_job_3 ⟨Nat.le_of_ble_eq_true rfl, Nat.le_of_ble_eq_true rfl⟩) hS (fun r3 u H locs q3 hP9 hD9 hT9 hS => ?_)
  obtain ⟨G3, w3⟩ := u
  obtain ⟨hX9, q3⟩ := q3
  have hX9 : cX none (chs [1, 8]) G ws G3 w3 := hX9
  have hP : va_P D vwCl w3 H := hP9
  have hD : va_D A w3 := hD9
  have hT : cT cy G3 w3 := hT9
  have hM_o := hX9.2.1 _ _ (cP.no hG_o rfl) hM_o
  have hG_o := hX9.1 _ _ hG_o
  have hG_bs_o := hX9.1 _ _ hG_bs_o
  have hG_js_o := hX9.1 _ _ hG_js_o
  have hG_sh_o := hX9.1 _ _ hG_sh_o
  have hG_wk_o := hX9.1 _ _ hG_wk_o
  have hG_ll_o := hX9.1 _ _ hG_ll_o
  have hmo_o := fun x9 z9 => hX9.1 _ _ (hmo_o x9 z9)
  have hlb_o : ∀ x9, lb_o = some x9 → ∃ w9 h9, _ = some (2, w9, h9) := fun x9 z9 => (hlb_o x9 z9).elim fun w9 z9 => z9.elim fun h9 z9 => ⟨w9, h9, hX9.1 _ _ z9⟩
  have hX := hX.tr (hX9.wk (chs_sub (by decide)))
  rcases r3 with _ | x3
  · skip
    have vn3 := q3.2.1 rfl
    refine lv_astoreN (lv' := [(4, .null), (0, .ref o), (1, .int kind), (2, .int wide), (3, .int high)]) hx hb dX9_job_6 hl (by decide) rfl (fun ls hl => ?_)
    refine lv_aloadN hx hb dX9_job_8 (lv_at hl 0 rfl) ?_
    refine lv_ifnullN (tgt := 22) hx hb dX9_job_10 (by decide) ?_
    refine lv_iconst (v := (-1)) hx hb dX9_job_22 (by decide) ?_
    refine W.widen (k := 7) (n := 588) (Nat.le_of_ble_eq_true rfl) (Nat.le_of_ble_eq_true rfl) ?_
    exact W.iret (v := ((-1) : Int32)) hx hb hr (fun t ht hW => ⟨⟨_, (G3, w3), rfl, ⟨hX, ⟨_, hM_o⟩⟩, by show va_P D vwCl w3 t.heap; rw [ht]; exact hP, hD, hT⟩, hS.F ht⟩) hS.2.2 dX9_job_23
  · skip
    have hG_x3 := q3.1 x3 rfl
    have vb3 := q3.2.2 x3 rfl
    refine lv_astore (lv' := [(4, .ref x3), (0, .ref o), (1, .int kind), (2, .int wide), (3, .int high)]) hx hb dX9_job_6 hl (by decide) rfl (fun ls hl => ?_)
    refine lv_aload hx hb dX9_job_8 (lv_at hl 0 rfl) ?_
    refine lv_ifnull hx hb dX9_job_10 ?_
    refine lv_iload_n hx hb dX9_job_13 rfl (lv_at hl 2 rfl) ?_
    refine lv_if_lt (tgt := 22) hx hb dX9_job_14 (by decide) (fun c14 => ?_) (fun c14 => ?_)
    · skip
      have d14 := c14
      rw [fa_lt] at d14
      refine lv_iconst (v := (-1)) hx hb dX9_job_22 (by decide) ?_
      refine W.widen (k := 7) (n := 588) (Nat.le_of_ble_eq_true rfl) (Nat.le_of_ble_eq_true rfl) ?_
      exact W.iret (v := ((-1) : Int32)) hx hb hr (fun t ht hW => ⟨⟨_, (G3, w3), rfl, ⟨hX, ⟨_, hM_o⟩⟩, by show va_P D vwCl w3 t.heap; rw [ht]; exact hP, hD, hT⟩, hS.F ht⟩) hS.2.2 dX9_job_23
    · skip
      have d14 := c14
      rw [fa_lt] at d14
      refine lv_iload_n hx hb dX9_job_17 rfl (lv_at hl 2 rfl) ?_
      refine lv_iconst (v := 3) hx hb dX9_job_18 (by decide) ?_
      refine lv_icmp_le (tgt := 24) hx hb dX9_job_19 (by decide) (fun c19 => ?_) (fun c19 => ?_)
      · skip
        have d19 := c19
        rw [fa_le] at d19
        refine lv_aload_n hx hb dX9_job_24 rfl (lv_at hl 1 rfl) ?_
        refine t_get (v := .int jc_o) (C := RX9) (T := TX9) (N := 9) hx hb hts (by decide +kernel) hown hK hP hM_o rfl 2 (by decide) (hts (.fieldLink RX9 21 "ShadowBench" "jobCount" "I") (by decide +kernel)) (fun _ h9 => h9) rfl dX9_job_25 ?_
        refine lv_bipush (v := 8) hx hb dX9_job_28 (by decide) ?_
        refine lv_icmp_lt (tgt := 36) hx hb dX9_job_30 (by decide) (fun c30 => ?_) (fun c30 => ?_)
        · skip
          have d30 := c30
          rw [fa_lt] at d30
          refine lv_aload_n hx hb dX9_job_36 rfl (lv_at hl 1 rfl) ?_
          refine t_get (v := .ref js_o) (C := RX9) (T := TX9) (N := 9) hx hb hts (by decide +kernel) hown hK hP hM_o rfl 1 (by decide) (hts (.fieldLink RX9 17 "ShadowBench" "jobs" "[LShadowBench$Job;") (by decide +kernel)) (fun _ h9 => h9) rfl dX9_job_37 ?_
          refine lv_aload_n hx hb dX9_job_40 rfl (lv_at hl 1 rfl) ?_
          refine t_get (v := .int jc_o) (C := RX9) (T := TX9) (N := 9) hx hb hts (by decide +kernel) hown hK hP hM_o rfl 2 (by decide) (hts (.fieldLink RX9 21 "ShadowBench" "jobCount" "I") (by decide +kernel)) (fun _ h9 => h9) rfl dX9_job_41 ?_
          refine lv_iload_n hx hb dX9_job_44 rfl (lv_at hl 2 rfl) ?_
          refine lv_aload hx hb dX9_job_45 (lv_at hl 0 rfl) ?_
          refine t_calla (va_runS (g := F0 m 47 ls ([.ref x3, .int kind, .int jc_o, .ref js_o])) (As := [.int kind, .ref x3]) (rest := [.int jc_o, .ref js_o]) ⟨hx, hb, hml, hown, hts⟩ (c_X9_newJob l D cy A G3 w3 kind x3 hD hT hG_x3 ) (va_cwS 2 hts gX9_job_X9_newJob rfl rfl rfl (by decide +kernel) ⟨Nat.le_of_ble_eq_true rfl, Nat.le_of_ble_eq_true rfl⟩) (c_preS hP hK hA hS hV) rfl rfl hl.1 rfl (lv_room (Nat.le_of_ble_eq_true rfl)) dX9_job_47 ⟨Nat.le_of_ble_eq_true rfl, Nat.le_of_ble_eq_true rfl⟩) hS (fun r47 u H locs q47 hP9 hD9 hT9 hS => ?_)
          obtain ⟨G47, w47⟩ := u
          obtain ⟨hX9, q47⟩ := q47
          have hX9 : cX none (chs []) G3 w3 G47 w47 := hX9
          have hP : va_P D vwCl w47 H := hP9
          have hD : va_D A w47 := hD9
          have hT : cT cy G47 w47 := hT9
          have hM_o := hX9.2.1 _ _ (cP.no hG_o rfl) hM_o
          have hG_o := hX9.1 _ _ hG_o
          have hG_bs_o := hX9.1 _ _ hG_bs_o
          have hG_js_o := hX9.1 _ _ hG_js_o
          have hG_sh_o := hX9.1 _ _ hG_sh_o
          have hG_wk_o := hX9.1 _ _ hG_wk_o
          have hG_ll_o := hX9.1 _ _ hG_ll_o
          have hG_x3 := hX9.1 _ _ hG_x3
          have hmo_o := fun x9 z9 => hX9.1 _ _ (hmo_o x9 z9)
          have hlb_o : ∀ x9, lb_o = some x9 → ∃ w9 h9, _ = some (2, w9, h9) := fun x9 z9 => (hlb_o x9 z9).elim fun w9 z9 => z9.elim fun h9 z9 => ⟨w9, h9, hX9.1 _ _ z9⟩
          have hX := hX.tr (hX9.wk (chs_sub (by decide)))
          obtain ⟨x47, k47, n47, rfl, hG_x47⟩ := q47
          refine t_aast9 hx hb hV hK hP hD hS hT hG_js_o hG_x47 (vp_in_iff.mpr ⟨by omega, by omega⟩) dX9_job_50 (fun H locs w50 hU50 hP hD hT hS => ?_)
          have hM_o := hU50 _ _ (cne hG_o hG_js_o (show (7 : Nat) ≠ 9 by decide)) hM_o
          have hX := hX.tr (cX.uF hU50 (Or.inr ⟨_, hG_js_o, rfl⟩))
          refine lv_aload_n hx hb dX9_job_51 rfl (lv_at hl 1 rfl) ?_
          refine lv_dup hx hb dX9_job_52 rfl ?_
          refine t_get (v := .int jc_o) (C := RX9) (T := TX9) (N := 9) hx hb hts (by decide +kernel) hown hK hP hM_o rfl 2 (by decide) (hts (.fieldLink RX9 21 "ShadowBench" "jobCount" "I") (by decide +kernel)) (fun _ h9 => h9) rfl dX9_job_53 ?_
          refine lv_iconst (v := 1) hx hb dX9_job_56 (by decide) ?_
          refine lv_iadd hx hb dX9_job_57 ?_
          refine lv_topi (fun v57 e57 => ?_)
          have i57 : v57.toInt = jc_o.toInt + (1 : Int32).toInt := by rw [e57]; exact fb_addI (by omega) (by omega)
          refine t_put (v := .int v57) (C := RX9) (T := TX9) (N := 9) (ty0 := tyX9) hx hb hts (by decide +kernel) tyX9_ok nmX9 hown hK hP hD hS hM_o rfl 2 (by decide) (hts (.fieldLink RX9 21 "ShadowBench" "jobCount" "I") (by decide +kernel)) (fun _ h9 => h9) rfl rfl rfl (Nat.le_of_ble_eq_true rfl) dX9_job_58 (fun H locs w58 hU58 hP hD hS => ?_)
          have hT := hT.up hU58 hG_o ⟨_, _, _, _, _, _, _, mo_o, lb_o, rfl, ⟨by omega, by omega⟩, ⟨by omega, by omega⟩, hG_bs_o, hG_js_o, hG_sh_o, hG_wk_o, hmo_o, hG_ll_o, hlb_o⟩
          have hM_o : cIn w58 o (.inr (8, [.ref bs_o, .ref js_o, .int v57, .ref sh_o, .ref wk_o, va_rf mo_o, .ref ll_o, .int lc_o, va_rf lb_o])) := hU58.1
          have hX := hX.tr (cX.up hU58 (Or.inr ⟨_, hG_o, rfl⟩))
          refine lv_aload_n hx hb dX9_job_61 rfl (lv_at hl 1 rfl) ?_
          refine t_get (v := .int v57) (C := RX9) (T := TX9) (N := 9) hx hb hts (by decide +kernel) hown hK hP hM_o rfl 2 (by decide) (hts (.fieldLink RX9 21 "ShadowBench" "jobCount" "I") (by decide +kernel)) (fun _ h9 => h9) rfl dX9_job_62 ?_
          refine lv_iconst (v := 1) hx hb dX9_job_65 (by decide) ?_
          refine lv_isub hx hb dX9_job_66 ?_
          refine lv_topi (fun v66 e66 => ?_)
          have i66 : v66.toInt = v57.toInt - (1 : Int32).toInt := by rw [e66]; exact fb_subI (by omega) (by omega)
          refine W.widen (k := 7) (n := 588) (Nat.le_of_ble_eq_true rfl) (Nat.le_of_ble_eq_true rfl) ?_
          exact W.iret (v := v66) hx hb hr (fun t ht hW => ⟨⟨_, (G47, w58), rfl, ⟨hX, ⟨_, hM_o⟩⟩, by show va_P D vwCl w58 t.heap; rw [ht]; exact hP, hD, hT⟩, hS.F ht⟩) hS.2.2 dX9_job_67
        · skip
          have d30 := c30
          rw [fa_lt] at d30
          refine lv_bipush (v := (-2)) hx hb dX9_job_33 (by decide) ?_
          refine W.widen (k := 7) (n := 588) (Nat.le_of_ble_eq_true rfl) (Nat.le_of_ble_eq_true rfl) ?_
          exact W.iret (v := ((-2) : Int32)) hx hb hr (fun t ht hW => ⟨⟨_, (G3, w3), rfl, ⟨hX, ⟨_, hM_o⟩⟩, by show va_P D vwCl w3 t.heap; rw [ht]; exact hP, hD, hT⟩, hS.F ht⟩) hS.2.2 dX9_job_35
      · skip
        have d19 := c19
        rw [fa_le] at d19
        refine lv_iconst (v := (-1)) hx hb dX9_job_22 (by decide) ?_
        refine W.widen (k := 7) (n := 588) (Nat.le_of_ble_eq_true rfl) (Nat.le_of_ble_eq_true rfl) ?_
        exact W.iret (v := ((-1) : Int32)) hx hb hr (fun t ht hW => ⟨⟨_, (G3, w3), rfl, ⟨hX, ⟨_, hM_o⟩⟩, by show va_P D vwCl w3 t.heap; rw [ht]; exact hP, hD, hT⟩, hS.F ht⟩) hS.2.2 dX9_job_23
set_option maxHeartbeats 4000000 in
set_option maxRecDepth 100000 in
theorem c_X9_tellsListApart_x (l : Launch) (D : va_G) (cy : Nat → ClassId) (A : Nat → Prop) (G : cG) (ws : va_W) (o : Nat) (set : Int32) {bs_o js_o sh_o wk_o ll_o : Nat} {jc_o lc_o : Int32} {mo_o lb_o : Option Nat} {fl : Nat → Int64} {lw lh : Nat} (hD : va_D A ws) (hT : cT cy G ws) (hG_o : G o = some (7, 0, 0)) (hM_o : cIn ws o (.inr (8, [.ref bs_o, .ref js_o, .int jc_o, .ref sh_o, .ref wk_o, va_rf mo_o, .ref ll_o, .int lc_o, va_rf lb_o]))) (hM_ll_o : cIn ws ll_o (.inl (cy 1, 12, .inr (.inl fl)))) (hlb9 : lsB G lb_o lc_o lw lh) : Ci l D cy A yX9_tellsListApart wsX9_tellsListApart ({ frames := 4, cells := 0, slots := 0, locals := 98 }) 0 0 ws [.ref o, .int set] (fun r0 u => u = (G, ws) ∧ (Bo r0 (telA fl lc_o lw lh set))) := by
  refine Met.ofW (cc := cX9_tellsListApart) (maxL := 4) (ret := (some .boolean)) (by decide) rfl ?_
  intro p e s m args below meth c s₁ B hml hv
  obtain ⟨rfl, hP, hK, hA, hV⟩ := hv
  have hx := B.exec
  have hb := B.bytes
  have hr := B.returns
  have hts := atoms_spec (ws := wsX9_tellsListApart) B.pre
  have hown : s.vm.findClass RX9 = some m.cls := findClass_of_methodNamed B.named
  have hlocks := B.notSynchronized
  have hS : va_S A s.heap s.heap [] := va_S.rf
  have hl := lv_entry ([.ref o, .int set]) (n := 4) (Nat.le_of_ble_eq_true rfl)
  rw [lg_entry_eq]
  generalize (lg_sl ([.ref o, .int set]) ++ List.replicate (4 - (lg_sl ([.ref o, .int set])).length) Slot.unset).toArray = ls at hl ⊢
  have hl : lv_has ls 4 [(0, .ref o), (1, .int set)] := hl
  have k_0 : (0 : Int32).toInt = 0 := by decide
  have k_1 : (1 : Int32).toInt = 1 := by decide
  have k_12 : (12 : Int32).toInt = 12 := by decide
  obtain ⟨hjc_o, hlc_o, hG_bs_o, hG_js_o, hG_sh_o, hG_wk_o, hmo_o, hG_ll_o, hlb_o⟩ := w7sh hD hT hG_o hM_o
  refine lv_iconst (v := 1) hx hb dX9_tellsListApart_0 (by decide) ?_
  refine lv_istore_n (lv' := [(2, .int (1 : Int32)), (0, .ref o), (1, .int set)]) hx hb dX9_tellsListApart_1 rfl hl (by decide) rfl (fun ls hl => ?_)
  have loop_2 : ∀ (n : Nat) (k : Nat), (1 ≤ k ∧ k ≤ 12) → (∀ a b : Nat, a < k → b < a → ∃ j, j < 4 ∧ unl lw lh (fl a) (fl b) set j) → 12 - k < n → ∀ (H : Heap) (locs : List Loc), va_P D vwCl ws H → va_S A s.heap H locs → ∀ (ls : Array Slot), lv_has ls 4 [(2, .int (nI k)), (0, .ref o), (1, .int set)] → W p l e (headSpec wsX9_tellsListApart ({ frames := 4, cells := 0, slots := 0, locals := 98 })).room s m #[Value.ref o, Value.int set] below meth c H locs 0 0 (MQ below (va_Qi (fun r0 u => u = (G, ws) ∧ (Bo r0 (telA fl lc_o lw lh set))) (cB D cy A) A) #[Value.ref o, Value.int set] s 0 0 A) (F0 m 2 ls []) := by
    intro n
    induction n with
    | zero => intro k j2_0 j2_1 hn; exact absurd hn (Nat.not_lt_zero _)
    | succ n ih_2 =>
      intro k j2_0 j2_1 hn_2 H locs hP hS  ls hl
      have ik : (nI k).toInt = (k : Int) := nI_toInt (by omega)
      refine lv_iload_n hx hb dX9_tellsListApart_2 rfl (lv_at hl 0 rfl) ?_
      refine lv_aload_n hx hb dX9_tellsListApart_3 rfl (lv_at hl 1 rfl) ?_
      refine t_get (v := .int lc_o) (C := RX9) (T := TX9) (N := 9) hx hb hts (by decide +kernel) hown hK hP hM_o rfl 7 (by decide) (hts (.fieldLink RX9 46 "ShadowBench" "listCount" "I") (by decide +kernel)) (fun _ h9 => h9) rfl dX9_tellsListApart_4 ?_
      refine lv_icmp_ge (tgt := 67) hx hb dX9_tellsListApart_7 (by decide) (fun c7 => ?_) (fun c7 => ?_)
      · skip
        have d7 := c7
        rw [fa_le] at d7
        refine lv_iconst (v := 1) hx hb dX9_tellsListApart_67 (by decide) ?_
        exact W.zret (v := (1 : Int32)) hx hb hr (by decide) (fun t ht hW => ⟨⟨_, (G, ws), rfl, ⟨rfl, Or.inl ⟨rfl, (fun a9 b9 h9 h8 => j2_1 a9 b9 (by omega) h8)⟩⟩, by show va_P D vwCl ws t.heap; rw [ht]; exact hP, hD, hT⟩, hS.F ht⟩) hS.2.2 dX9_tellsListApart_68
      · skip
        have d7 := c7
        rw [fa_le] at d7
        refine lv_iload_n hx hb dX9_tellsListApart_10 rfl (lv_at hl 0 rfl) ?_
        refine lv_bipush (v := 12) hx hb dX9_tellsListApart_11 (by decide) ?_
        refine lv_icmp_ge (tgt := 67) hx hb dX9_tellsListApart_13 (by decide) (fun c13 => ?_) (fun c13 => ?_)
        · skip
          have d13 := c13
          rw [fa_le] at d13
          refine lv_iconst (v := 1) hx hb dX9_tellsListApart_67 (by decide) ?_
          exact W.zret (v := (1 : Int32)) hx hb hr (by decide) (fun t ht hW => ⟨⟨_, (G, ws), rfl, ⟨rfl, Or.inl ⟨rfl, (fun a9 b9 h9 h8 => j2_1 a9 b9 (by omega) h8)⟩⟩, by show va_P D vwCl ws t.heap; rw [ht]; exact hP, hD, hT⟩, hS.F ht⟩) hS.2.2 dX9_tellsListApart_68
        · skip
          have d13 := c13
          rw [fa_le] at d13
          refine lv_iconst (v := 0) hx hb dX9_tellsListApart_16 (by decide) ?_
          refine lv_istore_n (lv' := [(3, .int (0 : Int32)), (2, .int (nI k)), (0, .ref o), (1, .int set)]) hx hb dX9_tellsListApart_17 rfl hl (by decide) rfl (fun ls hl => ?_)
          have loop_18 : ∀ (n : Nat) (i : Nat), (i ≤ 12) → (∀ b : Nat, b < i → ∃ j, j < 4 ∧ unl lw lh (fl k) (fl b) set j) → 12 - i < n → ∀ (H : Heap) (locs : List Loc), va_P D vwCl ws H → va_S A s.heap H locs → ∀ (ls : Array Slot), lv_has ls 4 [(3, .int (nI i)), (2, .int (nI k)), (0, .ref o), (1, .int set)] → W p l e (headSpec wsX9_tellsListApart ({ frames := 4, cells := 0, slots := 0, locals := 98 })).room s m #[Value.ref o, Value.int set] below meth c H locs 0 0 (MQ below (va_Qi (fun r0 u => u = (G, ws) ∧ (Bo r0 (telA fl lc_o lw lh set))) (cB D cy A) A) #[Value.ref o, Value.int set] s 0 0 A) (F0 m 18 ls []) := by
            intro n
            induction n with
            | zero => intro i j18_0 j18_1 hn; exact absurd hn (Nat.not_lt_zero _)
            | succ n ih_18 =>
              intro i j18_0 j18_1 hn_18 H locs hP hS  ls hl
              have ii : (nI i).toInt = (i : Int) := nI_toInt (by omega)
              refine lv_iload_n hx hb dX9_tellsListApart_18 rfl (lv_at hl 0 rfl) ?_
              refine lv_iload_n hx hb dX9_tellsListApart_19 rfl (lv_at hl 1 rfl) ?_
              refine lv_icmp_ge (tgt := 61) hx hb dX9_tellsListApart_20 (by decide) (fun c20 => ?_) (fun c20 => ?_)
              · skip
                have d20 := c20
                rw [fa_le] at d20
                refine lv_iinc (v := (nI (k + 1))) (lv' := [(2, .int (nI (k + 1))), (3, .int (nI i)), (0, .ref o), (1, .int set)]) hx hb dX9_tellsListApart_61 hl (k := 1) rfl (nI_1 _) (by decide) rfl (fun ls hl => ?_)
                refine lv_goto (tgt := 2) hx hb dX9_tellsListApart_64 (by decide) ?_
                exact ih_2 (k + 1) (by omega) (fun a b h1 h2 => by
            by_cases e9 : a = k
            · rw [e9] at h2 ⊢; exact j18_1 b (by omega)
            · exact j2_1 a b (by omega) h2) (by omega) _ _ hP hS  ls (lv_sub hl [0, 2, 3] rfl)
              · skip
                have d20 := c20
                rw [fa_le] at d20
                refine lv_aload_n hx hb dX9_tellsListApart_23 rfl (lv_at hl 2 rfl) ?_
                have hoq : lb_o = none ∨ ∃ x, lb_o = some x := by cases lb_o; exact Or.inl rfl; exact Or.inr ⟨_, rfl⟩
                rcases hoq with hopt | ⟨x24, hopt⟩
                · skip
                  rw [hopt] at hM_o
                  have hM_o : cIn ws o (.inr (8, [.ref bs_o, .ref js_o, .int jc_o, .ref sh_o, .ref wk_o, va_rf mo_o, .ref ll_o, .int lc_o, .null])) := hM_o
                  have hl0 := hlb9.nil hopt
                  refine t_get (v := .null) (C := RX9) (T := TX9) (N := 9) hx hb hts (by decide +kernel) hown hK hP hM_o rfl 8 (by decide) (hts (.fieldLink RX9 49 "ShadowBench" "listBoard" "LShadowBench$Board;") (by decide +kernel)) (fun _ h9 => h9) rfl dX9_tellsListApart_24 ?_
                  refine lv_ifnullN (tgt := 53) hx hb dX9_tellsListApart_27 (by decide) ?_
                  refine lv_iconst (v := 0) hx hb dX9_tellsListApart_53 (by decide) ?_
                  exact W.zret (v := (0 : Int32)) hx hb hr (by decide) (fun t ht hW => ⟨⟨_, (G, ws), rfl, ⟨rfl, Or.inr ⟨rfl, (fun z9 => by first | (exfalso; omega) | (obtain ⟨j9, h9, y9⟩ := z9 k i (by omega) (by omega); rcases q47 with ⟨k8, h8, e8, -, -⟩ | ⟨e8, y8⟩; (have z8 : (nI k8).toInt = (k8 : Int) := nI_toInt (by omega)); (rw [e8] at d50; omega); exact y8 j9 h9 y9))⟩⟩, by show va_P D vwCl ws t.heap; rw [ht]; exact hP, hD, hT⟩, hS.F ht⟩) hS.2.2 dX9_tellsListApart_54
                · skip
                  obtain ⟨wx24, hx24, hG_x24⟩ := hlb_o x24 hopt
                  rw [hopt] at hM_o
                  have hM_o : cIn ws o (.inr (8, [.ref bs_o, .ref js_o, .int jc_o, .ref sh_o, .ref wk_o, va_rf mo_o, .ref ll_o, .int lc_o, .ref x24])) := hM_o
                  have hl1 := hlb9.one hopt hG_x24
                  refine t_get (v := .ref x24) (C := RX9) (T := TX9) (N := 9) hx hb hts (by decide +kernel) hown hK hP hM_o rfl 8 (by decide) (hts (.fieldLink RX9 49 "ShadowBench" "listBoard" "LShadowBench$Board;") (by decide +kernel)) (fun _ h9 => h9) rfl dX9_tellsListApart_24 ?_
                  refine lv_ifnull hx hb dX9_tellsListApart_27 ?_
                  refine lv_aload_n hx hb dX9_tellsListApart_30 rfl (lv_at hl 2 rfl) ?_
                  refine t_get (v := .ref x24) (C := RX9) (T := TX9) (N := 9) hx hb hts (by decide +kernel) hown hK hP hM_o rfl 8 (by decide) (hts (.fieldLink RX9 49 "ShadowBench" "listBoard" "LShadowBench$Board;") (by decide +kernel)) (fun _ h9 => h9) rfl dX9_tellsListApart_31 ?_
                  refine lv_aload_n hx hb dX9_tellsListApart_34 rfl (lv_at hl 2 rfl) ?_
                  refine t_get (v := .ref ll_o) (C := RX9) (T := TX9) (N := 9) hx hb hts (by decide +kernel) hown hK hP hM_o rfl 6 (by decide) (hts (.fieldLink RX9 42 "ShadowBench" "listed" "[J") (by decide +kernel)) (fun _ h9 => h9) rfl dX9_tellsListApart_35 ?_
                  refine lv_iload_n hx hb dX9_tellsListApart_38 rfl (lv_at hl 1 rfl) ?_
                  refine t_laldM hx hb hK hP hM_ll_o (vp_in_iff.mpr ⟨by omega, by omega⟩) dX9_tellsListApart_39 ?_
                  refine lv_topl (fun v39 e39 => ?_)
                  have f39 : v39 = fl k := by rw [e39, nI_clamp (by omega)]
                  refine lv_aload_n hx hb dX9_tellsListApart_40 rfl (lv_at hl 2 rfl) ?_
                  refine t_get (v := .ref ll_o) (C := RX9) (T := TX9) (N := 9) hx hb hts (by decide +kernel) hown hK hP hM_o rfl 6 (by decide) (hts (.fieldLink RX9 42 "ShadowBench" "listed" "[J") (by decide +kernel)) (fun _ h9 => h9) rfl dX9_tellsListApart_41 ?_
                  refine lv_iload_n hx hb dX9_tellsListApart_44 rfl (lv_at hl 0 rfl) ?_
                  refine t_laldM hx hb hK hP hM_ll_o (vp_in_iff.mpr ⟨by omega, by omega⟩) dX9_tellsListApart_45 ?_
                  refine lv_topl (fun v45 e45 => ?_)
                  have f45 : v45 = fl i := by rw [e45, nI_clamp (by omega)]
                  refine lv_iload_n hx hb dX9_tellsListApart_46 rfl (lv_at hl 3 rfl) ?_
                  obtain ⟨_, hM_x24, hb_x24, l_x24, f_x24, r_x24, rfl, hG_l_x24, hG_f_x24, hG_r_x24⟩ := hT _ _ hG_x24
                  refine t_calli (va_runV (g := F0 m 47 ls ([.int set, .long v45, .long v39, .ref x24])) (As := [.long v39, .long v45, .int set]) (rest := []) ⟨hx, hb, hml, hown, hts⟩ (c_X0_firstUnlikeWay_x l D cy A G ws x24 v39 v45 set hD hT hG_x24 ) (cwV 3 hts gX9_tellsListApart_X0_firstUnlikeWay rfl rfl rfl (by decide +kernel) ⟨Nat.le_of_ble_eq_true rfl, Nat.le_of_ble_eq_true rfl⟩) (c_preV hM_x24 rfl hP hK hA hS hV) rfl rfl hl.1 rfl (lv_room (Nat.le_of_ble_eq_true rfl)) dX9_tellsListApart_47 ⟨Nat.le_of_ble_eq_true rfl, Nat.le_of_ble_eq_true rfl⟩) hS (fun r47 u H locs q47 hP9 hD9 hT9 hS => ?_)
                  obtain ⟨rfl, q47⟩ := q47
                  have hP : va_P D vwCl ws H := hP9
                  rw [hl1.2.1, hl1.2.2, f39, f45] at q47
                  refine lv_if_ge (tgt := 55) hx hb dX9_tellsListApart_50 (by decide) (fun c50 => ?_) (fun c50 => ?_)
                  · skip
                    have d50 := c50
                    rw [fa_le] at d50
                    refine lv_iinc (v := (nI (i + 1))) (lv' := [(3, .int (nI (i + 1))), (2, .int (nI k)), (0, .ref o), (1, .int set)]) hx hb dX9_tellsListApart_55 hl (k := 0) rfl (nI_1 _) (by decide) rfl (fun ls hl => ?_)
                    refine lv_goto (tgt := 18) hx hb dX9_tellsListApart_58 (by decide) ?_
                    exact ih_18 (i + 1) (by omega) (fun b h1 => by
            by_cases e9 : b = i
            · rw [e9]
              rcases q47 with ⟨k8, h8, e8, y8, -⟩ | ⟨e8, y8⟩
              · exact ⟨k8, h8, y8⟩
              · exfalso
                rw [e8] at d50
                have z8 : (-1 : Int32).toInt = -1 := rfl
                omega
            · exact j18_1 b (by omega)) (by omega) _ _ hP hS  ls (lv_sub hl [0, 1, 2, 3] rfl)
                  · skip
                    have d50 := c50
                    rw [fa_le] at d50
                    refine lv_iconst (v := 0) hx hb dX9_tellsListApart_53 (by decide) ?_
                    exact W.zret (v := (0 : Int32)) hx hb hr (by decide) (fun t ht hW => ⟨⟨_, (G, ws), rfl, ⟨rfl, Or.inr ⟨rfl, (fun z9 => by first | (exfalso; omega) | (obtain ⟨j9, h9, y9⟩ := z9 k i (by omega) (by omega); rcases q47 with ⟨k8, h8, e8, -, -⟩ | ⟨e8, y8⟩; (have z8 : (nI k8).toInt = (k8 : Int) := nI_toInt (by omega)); (rw [e8] at d50; omega); exact y8 j9 h9 y9))⟩⟩, by show va_P D vwCl ws t.heap; rw [ht]; exact hP, hD, hT⟩, hS.F ht⟩) hS.2.2 dX9_tellsListApart_54
          exact loop_18 (12 + 1) 0 (by omega) (fun b h => absurd h (Nat.not_lt_zero _)) (by omega) _ _ hP hS  ls (lv_sub hl [0, 1, 2, 3] rfl)
  exact loop_2 (12 + 1) 1 (by omega) (fun a b h1 h2 => by omega) (by omega) _ _ hP hS  ls (lv_sub hl [0, 1, 2] rfl)
set_option maxHeartbeats 4000000 in
set_option maxRecDepth 100000 in
theorem c_X9_ways_x (l : Launch) (D : va_G) (cy : Nat → ClassId) (A : Nat → Prop) (G : cG) (ws : va_W) (o : Nat) {bs_o js_o sh_o wk_o ll_o : Nat} {jc_o lc_o : Int32} {mo_o lb_o : Option Nat} {fl : Nat → Int64} {lw lh : Nat} (hD : va_D A ws) (hT : cT cy G ws) (hG_o : G o = some (7, 0, 0)) (hM_o : cIn ws o (.inr (8, [.ref bs_o, .ref js_o, .int jc_o, .ref sh_o, .ref wk_o, va_rf mo_o, .ref ll_o, .int lc_o, va_rf lb_o]))) (hM_ll_o : cIn ws ll_o (.inl (cy 1, 12, .inr (.inl fl)))) (hlb9 : lsB G lb_o lc_o lw lh) : Ci l D cy A yX9_ways wsX9_ways ({ frames := 5, cells := 0, slots := 0, locals := 121 }) 0 0 ws [.ref o] (fun r0 u => u = (G, ws) ∧ (wyA (fun s => telA fl lc_o lw lh (nI s)) r0)) := by
  refine Met.ofW (cc := cX9_ways) (maxL := 3) (ret := (some .int)) (by decide) rfl ?_
  intro p e s m args below meth c s₁ B hml hv
  obtain ⟨rfl, hP, hK, hA, hV⟩ := hv
  have hx := B.exec
  have hb := B.bytes
  have hr := B.returns
  have hts := atoms_spec (ws := wsX9_ways) B.pre
  have hown : s.vm.findClass RX9 = some m.cls := findClass_of_methodNamed B.named
  have hlocks := B.notSynchronized
  have hS : va_S A s.heap s.heap [] := va_S.rf
  have hl := lv_entry ([.ref o]) (n := 3) (Nat.le_of_ble_eq_true rfl)
  rw [lg_entry_eq]
  generalize (lg_sl ([.ref o]) ++ List.replicate (3 - (lg_sl ([.ref o])).length) Slot.unset).toArray = ls at hl ⊢
  have hl : lv_has ls 3 [(0, .ref o)] := hl
  have k_m2 : (-2 : Int32).toInt = -2 := by decide
  have k_0 : (0 : Int32).toInt = 0 := by decide
  have k_4 : (4 : Int32).toInt = 4 := by decide
  have k_16 : (16 : Int32).toInt = 16 := by decide
  obtain ⟨hjc_o, hlc_o, hG_bs_o, hG_js_o, hG_sh_o, hG_wk_o, hmo_o, hG_ll_o, hlb_o⟩ := w7sh hD hT hG_o hM_o
  refine lv_iconst (v := 0) hx hb dX9_ways_0 (by decide) ?_
  refine lv_istore_n (lv' := [(1, .int (0 : Int32)), (0, .ref o)]) hx hb dX9_ways_1 rfl hl (by decide) rfl (fun ls hl => ?_)
  have loop_2 : ∀ (n : Nat) (k : Nat), (k ≤ 5) → (∀ m t, m < k → t < 16 → ¬ (pc4 t = m ∧ telA fl lc_o lw lh (nI t))) → 5 - k < n → ∀ (H : Heap) (locs : List Loc), va_P D vwCl ws H → va_S A s.heap H locs → ∀ (ls : Array Slot), lv_has ls 3 [(1, .int (nI k)), (0, .ref o)] → W p l e (headSpec wsX9_ways ({ frames := 5, cells := 0, slots := 0, locals := 121 })).room s m #[Value.ref o] below meth c H locs 0 0 (MQ below (va_Qi (fun r0 u => u = (G, ws) ∧ (wyA (fun s => telA fl lc_o lw lh (nI s)) r0)) (cB D cy A) A) #[Value.ref o] s 0 0 A) (F0 m 2 ls []) := by
    intro n
    induction n with
    | zero => intro k j2_0 j2_1 hn; exact absurd hn (Nat.not_lt_zero _)
    | succ n ih_2 =>
      intro k j2_0 j2_1 hn_2 H locs hP hS  ls hl
      have ik : (nI k).toInt = (k : Int) := nI_toInt (by omega)
      refine lv_iload_n hx hb dX9_ways_2 rfl (lv_at hl 0 rfl) ?_
      refine lv_iconst (v := 4) hx hb dX9_ways_3 (by decide) ?_
      refine lv_icmp_gt (tgt := 45) hx hb dX9_ways_4 (by decide) (fun c4 => ?_) (fun c4 => ?_)
      · skip
        have d4 := c4
        rw [fa_lt] at d4
        refine lv_bipush (v := (-2)) hx hb dX9_ways_45 (by decide) ?_
        exact W.iret (v := ((-2) : Int32)) hx hb hr (fun t ht hW => ⟨⟨_, (G, ws), rfl, ⟨rfl, (Or.inr ⟨rfl, fun m9 t9 h9 h8 => j2_1 m9 t9 (by omega) h8⟩)⟩, by show va_P D vwCl ws t.heap; rw [ht]; exact hP, hD, hT⟩, hS.F ht⟩) hS.2.2 dX9_ways_47
      · skip
        have d4 := c4
        rw [fa_lt] at d4
        refine lv_iconst (v := 0) hx hb dX9_ways_7 (by decide) ?_
        refine lv_istore_n (lv' := [(2, .int (0 : Int32)), (1, .int (nI k)), (0, .ref o)]) hx hb dX9_ways_8 rfl hl (by decide) rfl (fun ls hl => ?_)
        have loop_9 : ∀ (n : Nat) (i : Nat), (i ≤ 16) → (∀ t, t < i → ¬ (pc4 t = k ∧ telA fl lc_o lw lh (nI t))) → 16 - i < n → ∀ (H : Heap) (locs : List Loc), va_P D vwCl ws H → va_S A s.heap H locs → ∀ (ls : Array Slot), lv_has ls 3 [(2, .int (nI i)), (1, .int (nI k)), (0, .ref o)] → W p l e (headSpec wsX9_ways ({ frames := 5, cells := 0, slots := 0, locals := 121 })).room s m #[Value.ref o] below meth c H locs 0 0 (MQ below (va_Qi (fun r0 u => u = (G, ws) ∧ (wyA (fun s => telA fl lc_o lw lh (nI s)) r0)) (cB D cy A) A) #[Value.ref o] s 0 0 A) (F0 m 9 ls []) := by
          intro n
          induction n with
          | zero => intro i j9_0 j9_1 hn; exact absurd hn (Nat.not_lt_zero _)
          | succ n ih_9 =>
            intro i j9_0 j9_1 hn_9 H locs hP hS  ls hl
            have ii : (nI i).toInt = (i : Int) := nI_toInt (by omega)
            refine lv_iload_n hx hb dX9_ways_9 rfl (lv_at hl 0 rfl) ?_
            refine lv_bipush (v := 16) hx hb dX9_ways_10 (by decide) ?_
            refine lv_icmp_ge (tgt := 39) hx hb dX9_ways_12 (by decide) (fun c12 => ?_) (fun c12 => ?_)
            · skip
              have d12 := c12
              rw [fa_le] at d12
              refine lv_iinc (v := (nI (k + 1))) (lv' := [(1, .int (nI (k + 1))), (2, .int (nI i)), (0, .ref o)]) hx hb dX9_ways_39 hl (k := 1) rfl (nI_1 _) (by decide) rfl (fun ls hl => ?_)
              refine lv_goto (tgt := 2) hx hb dX9_ways_42 (by decide) ?_
              exact ih_2 (k + 1) (by omega) (fun m t h1 h2 => by
            by_cases e9 : m = k
            · rw [e9]; exact j9_1 t (by omega)
            · exact j2_1 m t (by omega) h2) (by omega) _ _ hP hS  ls (lv_sub hl [0, 2] rfl)
            · skip
              have d12 := c12
              rw [fa_le] at d12
              refine lv_iload_n hx hb dX9_ways_15 rfl (lv_at hl 0 rfl) ?_
              refine t_pu (As := [.int (nI i)]) (rest := []) ⟨hx, hb, hml, hown, hts⟩ (c_J6_x l (nI i) (by omega)) (va_cwS 1 hts gX9_ways_J6_bitCount_0f7a4 rfl rfl rfl (by decide +kernel) ⟨Nat.le_of_ble_eq_true rfl, Nat.le_of_ble_eq_true rfl⟩) hP rfl hl.1 rfl (Nat.le_of_ble_eq_true rfl) dX9_ways_16 ⟨Nat.le_of_ble_eq_true rfl, Nat.le_of_ble_eq_true rfl⟩ hS (fun r16 H locs q16 hP hS => ?_)
              have f16 : r16 = nI (pc4 i) := by rw [q16, nI_clamp (by omega)]
              have b16 := pc4_le i
              have g16 : r16 = nI k ↔ pc4 i = k := by rw [f16]; exact nI_eq (by omega) (by omega)
              refine lv_iload_n hx hb dX9_ways_19 rfl (lv_at hl 1 rfl) ?_
              refine lv_icmp_ne (tgt := 33) hx hb dX9_ways_20 (by decide) (fun c20 => ?_) (fun c20 => ?_)
              · skip
                have d20 := c20
                rw [fa_eq] at d20
                refine lv_iinc (v := (nI (i + 1))) (lv' := [(2, .int (nI (i + 1))), (1, .int (nI k)), (0, .ref o)]) hx hb dX9_ways_33 hl (k := 0) rfl (nI_1 _) (by decide) rfl (fun ls hl => ?_)
                refine lv_goto (tgt := 9) hx hb dX9_ways_36 (by decide) ?_
                exact ih_9 (i + 1) (by omega) (fun t h1 => by
            by_cases e9 : t = i
            · rw [e9]; first | exact fun z9 => c20 (g16.mpr z9.1) | exact fun z9 => b28 z9.2
            · exact j9_1 t (by omega)) (by omega) _ _ hP hS  ls (lv_sub hl [0, 1, 2] rfl)
              · skip
                have d20 := c20
                rw [fa_eq] at d20
                refine lv_aload_n hx hb dX9_ways_23 rfl (lv_at hl 2 rfl) ?_
                refine lv_iload_n hx hb dX9_ways_24 rfl (lv_at hl 0 rfl) ?_
                refine t_calli (va_runV (g := F0 m 25 ls ([.int (nI i), .ref o])) (As := [.int (nI i)]) (rest := []) ⟨hx, hb, hml, hown, hts⟩ (c_X9_tellsListApart_x l D cy A G ws o (nI i) hD hT hG_o hM_o hM_ll_o hlb9) (cwV 1 hts gX9_ways_X9_tellsListApart rfl rfl rfl (by decide +kernel) ⟨Nat.le_of_ble_eq_true rfl, Nat.le_of_ble_eq_true rfl⟩) (c_preV hM_o rfl hP hK hA hS hV) rfl rfl hl.1 rfl (lv_room (Nat.le_of_ble_eq_true rfl)) dX9_ways_25 ⟨Nat.le_of_ble_eq_true rfl, Nat.le_of_ble_eq_true rfl⟩) hS (fun r25 u H locs q25 hP9 hD9 hT9 hS => ?_)
                obtain ⟨rfl, q25⟩ := q25
                have hP : va_P D vwCl ws H := hP9
                refine lv_if_eq (tgt := 33) hx hb dX9_ways_28 (by decide) (fun c28 => ?_) (fun c28 => ?_)
                · skip
                  have b28 := bo_f q25 c28
                  refine lv_iinc (v := (nI (i + 1))) (lv' := [(2, .int (nI (i + 1))), (1, .int (nI k)), (0, .ref o)]) hx hb dX9_ways_33 hl (k := 0) rfl (nI_1 _) (by decide) rfl (fun ls hl => ?_)
                  refine lv_goto (tgt := 9) hx hb dX9_ways_36 (by decide) ?_
                  exact ih_9 (i + 1) (by omega) (fun t h1 => by
            by_cases e9 : t = i
            · rw [e9]; first | exact fun z9 => c20 (g16.mpr z9.1) | exact fun z9 => b28 z9.2
            · exact j9_1 t (by omega)) (by omega) _ _ hP hS  ls (lv_sub hl [0, 1, 2] rfl)
                · skip
                  have b28 := bo_t q25 c28
                  refine lv_iload_n hx hb dX9_ways_31 rfl (lv_at hl 0 rfl) ?_
                  exact W.iret (v := (nI i)) hx hb hr (fun t ht hW => ⟨⟨_, (G, ws), rfl, ⟨rfl, (Or.inl ⟨k, i, (by omega), (by omega), ⟨g16.mp c20, b28⟩, rfl, j2_1, j9_1⟩)⟩, by show va_P D vwCl ws t.heap; rw [ht]; exact hP, hD, hT⟩, hS.F ht⟩) hS.2.2 dX9_ways_32
        exact loop_9 (16 + 1) 0 (by omega) (fun t h => absurd h (Nat.not_lt_zero _)) (by omega) _ _ hP hS  ls (lv_sub hl [0, 1, 2] rfl)
  exact loop_2 (5 + 1) 0 (by omega) (fun m t h => absurd h (Nat.not_lt_zero _)) (by omega) _ _ hP hS  ls (lv_sub hl [0, 1] rfl)

set_option maxHeartbeats 4000000 in
set_option maxRecDepth 100000 in
theorem c_X10_list_x (l : Launch) (D : va_G) (cy : Nat → ClassId) (mo : Nat) (a : Nat → Nat) (f : Nat → Int32) (g : Nat → Int64) (r : Nat → Nat → Int32) (q : Nat → Nat → Int64) (w : Int32) (h : Int32) (p0 : Int64) (hD : DM cy mo a) (hI : MI f r) : Mi l D cy mo a yX10_list wsX10_list ({ frames := 3, cells := 0, slots := 0, locals := 69 }) f g r q [.int w, .int h, .long p0] (fun r0 u => ∃ (lc : Int32), ∃ (lw : Int32), ∃ (lh : Int32), ∃ (ls1 : Nat → Int64), u = ((upd (upd (upd (upd f 0 (0 : Int32)) 23 lc) 24 lw) 25 lh), g, r, (va_up q 26 ls1)) ∧ (lsA (q 26) (f 23) (f 24).toNatClampNeg (f 25).toNatClampNeg w h p0 r0 ∧ ((lsG (q 26) (f 23) (f 24).toNatClampNeg (f 25).toNatClampNeg w h p0 ∧ lc.toInt = (f 23).toInt + 1 ∧ lw = w ∧ lh = h ∧ ls1 = vp_updL (q 26) (f 23).toNatClampNeg p0) ∨ (¬ lsG (q 26) (f 23) (f 24).toNatClampNeg (f 25).toNatClampNeg w h p0 ∧ lc = f 23 ∧ lw = f 24 ∧ lh = f 25 ∧ ls1 = q 26)) ∧ MI (upd (upd (upd (upd f 0 (0 : Int32)) 23 lc) 24 lw) 25 lh) r)) := by
  refine Met.ofW (cc := cX10_list) (maxL := 7) (ret := (some .int)) (by decide) rfl ?_
  intro p e s m args below meth c s₁ B hml hv
  obtain ⟨rfl, hP, hK⟩ := hv
  have hx := B.exec
  have hb := B.bytes
  have hr := B.returns
  have hts := atoms_spec (ws := wsX10_list) B.pre
  have hin : ∀ w ∈ u_ws RX10 TX10 35, w ∈ wsX10_list := by decide +kernel
  have hown : s.vm.findClass RX10 = some m.cls := findClass_of_methodNamed B.named
  have hlocks := B.notSynchronized
  have hS : va_S (AM mo a) s.heap s.heap [] := va_S.rf
  have hl := lv_entry ([.ref mo, .int w, .int h, .long p0]) (n := 7) (Nat.le_of_ble_eq_true rfl)
  rw [lg_entry_eq]
  generalize (lg_sl ([.ref mo, .int w, .int h, .long p0]) ++ List.replicate (7 - (lg_sl ([.ref mo, .int w, .int h, .long p0])).length) Slot.unset).toArray = ls at hl ⊢
  have hl : lv_has ls 7 [(0, .ref mo), (1, .int w), (2, .int h), (3, .long p0)] := hl
  have k_m3 : (-3 : Int32).toInt = -3 := by decide
  have k_m2 : (-2 : Int32).toInt = -2 := by decide
  have k_m1 : (-1 : Int32).toInt = -1 := by decide
  have k_0 : (0 : Int32).toInt = 0 := by decide
  have k_1 : (1 : Int32).toInt = 1 := by decide
  have k_12 : (12 : Int32).toInt = 12 := by decide
  have hI1 := hI.2.2.1
  refine lv_aload_n hx hb dX10_list_0 rfl (lv_at hl 0 rfl) ?_
  refine lv_iconst (v := 0) hx hb dX10_list_1 (by decide) ?_
  refine m_put (v := .int (0 : Int32)) (ty := .int) hx hb hts hin hown hK hP hD hS 0 (by decide) rfl (hts (.fieldLink RX10 79 "ShadowBenchModel" "thrown" "I") (by decide +kernel)) rfl (by decide +kernel) rfl rfl (upd f 0 (0 : Int32)) g rfl dX10_list_2 (fun H locs hP hS => ?_)
  refine lv_iload_n hx hb dX10_list_5 rfl (lv_at hl 1 rfl) ?_
  refine lv_iload_n hx hb dX10_list_6 rfl (lv_at hl 2 rfl) ?_
  refine lv_lload_n hx hb dX10_list_7 rfl (lv_at hl 3 rfl) ?_
  refine m_pu (As := [.int w, .int h, .long p0]) (rest := []) ⟨hx, hb, hml, hown, hts⟩ (c_X10_isPicture l w h p0 ) (va_cwS 3 hts gX10_list_X10_isPicture rfl rfl rfl (by decide +kernel) ⟨Nat.le_of_ble_eq_true rfl, Nat.le_of_ble_eq_true rfl⟩) hP rfl hl.1 rfl (Nat.le_of_ble_eq_true rfl) dX10_list_8 ⟨Nat.le_of_ble_eq_true rfl, Nat.le_of_ble_eq_true rfl⟩ hS (fun r8 H locs q8 hP hS => ?_)
  refine lv_if_ne (tgt := 16) hx hb dX10_list_11 (by decide) (fun c11 => ?_) (fun c11 => ?_)
  · skip
    have b11 := bo_t q8 c11
    refine lv_aload_n hx hb dX10_list_16 rfl (lv_at hl 0 rfl) ?_
    refine m_get (v := .int (f 23)) hx hb hts hin hown hK hP 23 (by decide) rfl (hts (.fieldLink RX10 230 "ShadowBenchModel" "listed" "I") (by decide +kernel)) rfl dX10_list_17 ?_
    refine lv_bipush (v := 12) hx hb dX10_list_20 (by decide) ?_
    refine lv_icmp_ne (tgt := 28) hx hb dX10_list_22 (by decide) (fun c22 => ?_) (fun c22 => ?_)
    · skip
      have d22 := c22
      rw [fa_eq] at d22
      refine lv_aload_n hx hb dX10_list_28 rfl (lv_at hl 0 rfl) ?_
      refine m_get (v := .int (f 23)) hx hb hts hin hown hK hP 23 (by decide) rfl (hts (.fieldLink RX10 230 "ShadowBenchModel" "listed" "I") (by decide +kernel)) rfl dX10_list_29 ?_
      refine lv_if_le (tgt := 55) hx hb dX10_list_32 (by decide) (fun c32 => ?_) (fun c32 => ?_)
      · skip
        have d32 := c32
        rw [fa_le] at d32
        refine lv_iconst (v := 0) hx hb dX10_list_55 (by decide) ?_
        refine lv_istore (lv' := [(5, .int (0 : Int32)), (0, .ref mo), (1, .int w), (2, .int h), (3, .long p0)]) hx hb dX10_list_56 hl (by decide) rfl (fun ls hl => ?_)
        refine lv_iconst (v := 0) hx hb dX10_list_58 (by decide) ?_
        refine lv_istore (lv' := [(6, .int (0 : Int32)), (5, .int (0 : Int32)), (0, .ref mo), (1, .int w), (2, .int h), (3, .long p0)]) hx hb dX10_list_59 hl (by decide) rfl (fun ls hl => ?_)
        have loop_61 : ∀ (n : Nat) (k : Nat) (x5 : Int32), (k ≤ 12 ∧ (k : Int) ≤ (f 23).toInt) → ((x5 = 1 ∧ (lsO (f 23) (f 24).toNatClampNeg (f 25).toNatClampNeg w h ∨ ∃ j, j < k ∧ q 26 j = p0)) ∨ (x5 = 0 ∧ ¬ lsO (f 23) (f 24).toNatClampNeg (f 25).toNatClampNeg w h ∧ ∀ j, j < k → ¬ q 26 j = p0)) → 12 - k < n → ∀ (H : Heap) (locs : List Loc), va_P D vwCl (WM cy mo a (upd f 0 (0 : Int32)) g r q) H → va_S (AM mo a) s.heap H locs → ∀ (ls : Array Slot), lv_has ls 7 [(6, .int (nI k)), (5, .int x5), (0, .ref mo), (1, .int w), (2, .int h), (3, .long p0)] → W p l e (headSpec wsX10_list ({ frames := 3, cells := 0, slots := 0, locals := 69 })).room s m #[Value.ref mo, Value.int w, Value.int h, Value.long p0] below meth c H locs 0 0 (MQ below (va_Qi (fun r0 u => ∃ (lc : Int32), ∃ (lw : Int32), ∃ (lh : Int32), ∃ (ls1 : Nat → Int64), u = ((upd (upd (upd (upd f 0 (0 : Int32)) 23 lc) 24 lw) 25 lh), g, r, (va_up q 26 ls1)) ∧ (lsA (q 26) (f 23) (f 24).toNatClampNeg (f 25).toNatClampNeg w h p0 r0 ∧ ((lsG (q 26) (f 23) (f 24).toNatClampNeg (f 25).toNatClampNeg w h p0 ∧ lc.toInt = (f 23).toInt + 1 ∧ lw = w ∧ lh = h ∧ ls1 = vp_updL (q 26) (f 23).toNatClampNeg p0) ∨ (¬ lsG (q 26) (f 23) (f 24).toNatClampNeg (f 25).toNatClampNeg w h p0 ∧ lc = f 23 ∧ lw = f 24 ∧ lh = f 25 ∧ ls1 = q 26)) ∧ MI (upd (upd (upd (upd f 0 (0 : Int32)) 23 lc) 24 lw) 25 lh) r)) (mB D cy mo a) (AM mo a)) #[Value.ref mo, Value.int w, Value.int h, Value.long p0] s 0 0 (AM mo a)) (F0 m 61 ls []) := by
          intro n
          induction n with
          | zero => intro k x5  j61_0 j61_1 hn; exact absurd hn (Nat.not_lt_zero _)
          | succ n ih_61 =>
            intro k x5  j61_0 j61_1 hn_61 H locs hP hS ls hl
            have ik : (nI k).toInt = (k : Int) := nI_toInt (by omega)
            refine lv_iload hx hb dX10_list_61 (lv_at hl 0 rfl) ?_
            refine lv_aload_n hx hb dX10_list_63 rfl (lv_at hl 2 rfl) ?_
            refine m_get (v := .int (f 23)) hx hb hts hin hown hK hP 23 (by decide) rfl (hts (.fieldLink RX10 230 "ShadowBenchModel" "listed" "I") (by decide +kernel)) rfl dX10_list_64 ?_
            refine lv_icmp_ge (tgt := 100) hx hb dX10_list_67 (by decide) (fun c67 => ?_) (fun c67 => ?_)
            · skip
              have d67 := c67
              rw [fa_le] at d67
              refine lv_iload hx hb dX10_list_100 (lv_at hl 1 rfl) ?_
              refine lv_if_eq (tgt := 108) hx hb dX10_list_102 (by decide) (fun c102 => ?_) (fun c102 => ?_)
              · skip
                have d102 := c102
                rw [fa_eq] at d102
                refine lv_aload_n hx hb dX10_list_108 rfl (lv_at hl 2 rfl) ?_
                refine lv_iload_n hx hb dX10_list_109 rfl (lv_at hl 3 rfl) ?_
                refine m_put (v := .int w) (ty := .int) hx hb hts hin hown hK hP hD hS 24 (by decide) rfl (hts (.fieldLink RX10 233 "ShadowBenchModel" "listWide" "I") (by decide +kernel)) rfl (by decide +kernel) rfl rfl (upd (upd f 0 (0 : Int32)) 24 w) g rfl dX10_list_110 (fun H locs hP hS => ?_)
                refine lv_aload_n hx hb dX10_list_113 rfl (lv_at hl 2 rfl) ?_
                refine lv_iload_n hx hb dX10_list_114 rfl (lv_at hl 4 rfl) ?_
                refine m_put (v := .int h) (ty := .int) hx hb hts hin hown hK hP hD hS 25 (by decide) rfl (hts (.fieldLink RX10 236 "ShadowBenchModel" "listHigh" "I") (by decide +kernel)) rfl (by decide +kernel) rfl rfl (upd (upd (upd f 0 (0 : Int32)) 24 w) 25 h) g rfl dX10_list_115 (fun H locs hP hS => ?_)
                refine lv_aload_n hx hb dX10_list_118 rfl (lv_at hl 2 rfl) ?_
                refine m_get (v := .ref (a 26)) hx hb hts hin hown hK hP 26 (by decide) rfl (hts (.fieldLink RX10 52 "ShadowBenchModel" "list" "[J") (by decide +kernel)) rfl dX10_list_119 ?_
                refine lv_aload_n hx hb dX10_list_122 rfl (lv_at hl 2 rfl) ?_
                refine m_get (v := .int (f 23)) hx hb hts hin hown hK hP 23 (by decide) rfl (hts (.fieldLink RX10 230 "ShadowBenchModel" "listed" "I") (by decide +kernel)) rfl dX10_list_123 ?_
                refine lv_lload_n hx hb dX10_list_126 rfl (lv_at hl 5 rfl) ?_
                refine m_last (w := (q 26)) hx hb hK hP hD hS 14 rfl (vp_in_iff.mpr ⟨by omega, by omega⟩) (va_up q 26 (vp_updL (q 26) (f 23).toNatClampNeg p0)) (ms_26 cy mo a _ _ _ _ _) dX10_list_127 (fun H locs hP hS => ?_)
                refine lv_aload_n hx hb dX10_list_128 rfl (lv_at hl 2 rfl) ?_
                refine lv_dup hx hb dX10_list_129 rfl ?_
                refine m_get (v := .int (f 23)) hx hb hts hin hown hK hP 23 (by decide) rfl (hts (.fieldLink RX10 230 "ShadowBenchModel" "listed" "I") (by decide +kernel)) rfl dX10_list_130 ?_
                refine lv_iconst (v := 1) hx hb dX10_list_133 (by decide) ?_
                refine lv_iadd hx hb dX10_list_134 ?_
                refine lv_topi (fun v134 e134 => ?_)
                have i134 : v134.toInt = (f 23).toInt + (1 : Int32).toInt := by rw [e134]; exact fb_addI (by omega) (by omega)
                refine m_put (v := .int v134) (ty := .int) hx hb hts hin hown hK hP hD hS 23 (by decide) rfl (hts (.fieldLink RX10 230 "ShadowBenchModel" "listed" "I") (by decide +kernel)) rfl (by decide +kernel) rfl rfl (upd (upd (upd (upd f 0 (0 : Int32)) 24 w) 25 h) 23 v134) g rfl dX10_list_135 (fun H locs hP hS => ?_)
                refine lv_aload_n hx hb dX10_list_138 rfl (lv_at hl 2 rfl) ?_
                refine m_get (v := .int v134) hx hb hts hin hown hK hP 23 (by decide) rfl (hts (.fieldLink RX10 230 "ShadowBenchModel" "listed" "I") (by decide +kernel)) rfl dX10_list_139 ?_
                have hP := wm_eq (ec_f_0_24_25_23__0_23_24_25 f (0 : Int32) w h v134) rfl rfl (ec_q_26__26 q ((vp_updL (q 26) (f 23).toNatClampNeg p0))) hP
                exact W.iret (v := v134) hx hb hr (fun t ht hW => ⟨⟨_, ((upd (upd (upd (upd f 0 (0 : Int32)) 23 v134) 24 w) 25 h), g, r, (va_up q 26 (((vp_updL (q 26) (f 23).toNatClampNeg p0))))), rfl, ⟨v134, w, h, ((vp_updL (q 26) (f 23).toNatClampNeg p0)), rfl, ⟨Or.inl ⟨⟨goodP_of b11, (by omega), (by rcases j61_1 with ⟨z9, _⟩ | ⟨_, z9, _⟩; exact absurd (z9.symm.trans c102) (by decide); exact z9), (by rcases j61_1 with ⟨z9, _⟩ | ⟨_, _, z9⟩; exact absurd (z9.symm.trans c102) (by decide); exact fun ⟨j9, h9, y9⟩ => z9 j9 (by omega) y9)⟩, (by omega)⟩, Or.inl ⟨⟨goodP_of b11, (by omega), (by rcases j61_1 with ⟨z9, _⟩ | ⟨_, z9, _⟩; exact absurd (z9.symm.trans c102) (by decide); exact z9), (by rcases j61_1 with ⟨z9, _⟩ | ⟨_, _, z9⟩; exact absurd (z9.symm.trans c102) (by decide); exact fun ⟨j9, h9, y9⟩ => z9 j9 (by omega) y9)⟩, (by omega), rfl, rfl, rfl⟩, (by first | exact hI | exact mi_li hI rfl (show 0 ≤ v134.toInt ∧ v134.toInt ≤ 12 by omega) (fun _ => ⟨show 1 ≤ w.toInt ∧ w.toInt ≤ 6 by omega, show 1 ≤ h.toInt ∧ h.toInt ≤ 6 by omega⟩) rfl rfl rfl rfl)⟩⟩, by unfold mB; rw [ht]; exact hP⟩, hS.F ht⟩) hS.2.2 dX10_list_142
              · skip
                have d102 := c102
                rw [fa_eq] at d102
                refine lv_bipush (v := (-3)) hx hb dX10_list_105 (by decide) ?_
                have hP := wm_eq (ec_f_0__0_23_24_25 f (0 : Int32)) rfl rfl (ec_q___26 q ) hP
                exact W.iret (v := ((-3) : Int32)) hx hb hr (fun t ht hW => ⟨⟨_, ((upd (upd (upd (upd f 0 (0 : Int32)) 23 (f 23)) 24 (f 24)) 25 (f 25)), g, r, (va_up q 26 (q 26))), rfl, ⟨(f 23), (f 24), (f 25), (q 26), rfl, ⟨lsA_3 (goodP_of b11) (by omega) (by rcases j61_1 with ⟨_, z9⟩ | ⟨z9, _⟩; exact z9.imp id (fun ⟨j9, h9, y9⟩ => ⟨j9, (by omega), y9⟩); exact absurd z9 c102), Or.inr ⟨lsG_3 (by rcases j61_1 with ⟨_, z9⟩ | ⟨z9, _⟩; exact z9.imp id (fun ⟨j9, h9, y9⟩ => ⟨j9, (by omega), y9⟩); exact absurd z9 c102), rfl, rfl, rfl, rfl⟩, (by first | exact hI | exact mi_li hI rfl (show 0 ≤ (f 23).toInt ∧ (f 23).toInt ≤ 12 by omega) (fun _ => ⟨show 1 ≤ (f 24).toInt ∧ (f 24).toInt ≤ 6 by omega, show 1 ≤ (f 25).toInt ∧ (f 25).toInt ≤ 6 by omega⟩) rfl rfl rfl rfl)⟩⟩, by unfold mB; rw [ht]; exact hP⟩, hS.F ht⟩) hS.2.2 dX10_list_107
            · skip
              have d67 := c67
              rw [fa_le] at d67
              refine lv_iload hx hb dX10_list_70 (lv_at hl 1 rfl) ?_
              refine lv_if_ne (tgt := 87) hx hb dX10_list_72 (by decide) (fun c72 => ?_) (fun c72 => ?_)
              · skip
                have d72 := c72
                rw [fa_eq] at d72
                refine lv_iconst (v := 1) hx hb dX10_list_87 (by decide) ?_
                refine lv_goto (tgt := 92) hx hb dX10_list_88 (by decide) ?_
                refine lv_istore (lv' := [(5, .int (1 : Int32)), (6, .int (nI k)), (0, .ref mo), (1, .int w), (2, .int h), (3, .long p0)]) hx hb dX10_list_92 hl (by decide) rfl (fun ls hl => ?_)
                refine lv_iinc (v := (nI (k + 1))) (lv' := [(6, .int (nI (k + 1))), (5, .int (1 : Int32)), (0, .ref mo), (1, .int w), (2, .int h), (3, .long p0)]) hx hb dX10_list_94 hl (k := 1) rfl (nI_1 _) (by decide) rfl (fun ls hl => ?_)
                refine lv_goto (tgt := 61) hx hb dX10_list_97 (by decide) ?_
                exact ih_61 (k + 1) (1 : Int32) (by omega) (by
                                                                                          first
                                                                                          | exact Or.inl ⟨rfl, Or.inr ⟨k, by omega, f81.symm.trans ((lg_cmp_eq _ _).mp c84)⟩⟩
                                                                                          | exact Or.inr ⟨rfl, (by rcases j61_1 with ⟨z9, _⟩ | ⟨_, z9, _⟩; exact absurd (z9.symm.trans c72) (by decide); exact z9), fun j hj => by
                                                                                              by_cases e9 : j = k
                                                                                              · rw [e9]; exact fun z9 => c84 ((lg_cmp_eq _ _).mpr (f81.trans z9))
                                                                                              · rcases j61_1 with ⟨z9, _⟩ | ⟨_, _, z9⟩
                                                                                                · exact absurd (z9.symm.trans c72) (by decide)
                                                                                                · exact z9 j (by omega)⟩
                                                                                          | exact Or.inl ⟨rfl, by
                                                                                              rcases j61_1 with ⟨_, z9⟩ | ⟨z9, _⟩
                                                                                              · exact z9.imp id (fun ⟨j9, h9, y9⟩ => ⟨j9, by omega, y9⟩)
                                                                                              · exact absurd z9 c72⟩) (by omega) _ _ hP hS ls (lv_sub hl [0, 1, 2, 3, 4, 5] rfl)
              · skip
                have d72 := c72
                rw [fa_eq] at d72
                refine lv_aload_n hx hb dX10_list_75 rfl (lv_at hl 2 rfl) ?_
                refine m_get (v := .ref (a 26)) hx hb hts hin hown hK hP 26 (by decide) rfl (hts (.fieldLink RX10 52 "ShadowBenchModel" "list" "[J") (by decide +kernel)) rfl dX10_list_76 ?_
                refine lv_iload hx hb dX10_list_79 (lv_at hl 0 rfl) ?_
                refine m_lald (w := (q 26)) hx hb hK hP 14 rfl (vp_in_iff.mpr ⟨by omega, by omega⟩) dX10_list_81 ?_
                refine lv_topl (fun v81 e81 => ?_)
                have f81 : v81 = q 26 k := by rw [e81, nI_clamp (by omega)]
                refine lv_lload_n hx hb dX10_list_82 rfl (lv_at hl 5 rfl) ?_
                refine W.lcmp hx hb dX10_list_83 ?_
                refine lv_if_ne (tgt := 91) hx hb dX10_list_84 (by decide) (fun c84 => ?_) (fun c84 => ?_)
                · skip
                  have d84 := c84
                  rw [lg_cmp_eq, fa_eq64] at d84
                  refine lv_iconst (v := 0) hx hb dX10_list_91 (by decide) ?_
                  refine lv_istore (lv' := [(5, .int (0 : Int32)), (6, .int (nI k)), (0, .ref mo), (1, .int w), (2, .int h), (3, .long p0)]) hx hb dX10_list_92 hl (by decide) rfl (fun ls hl => ?_)
                  refine lv_iinc (v := (nI (k + 1))) (lv' := [(6, .int (nI (k + 1))), (5, .int (0 : Int32)), (0, .ref mo), (1, .int w), (2, .int h), (3, .long p0)]) hx hb dX10_list_94 hl (k := 1) rfl (nI_1 _) (by decide) rfl (fun ls hl => ?_)
                  refine lv_goto (tgt := 61) hx hb dX10_list_97 (by decide) ?_
                  exact ih_61 (k + 1) (0 : Int32) (by omega) (by
                                                                                          first
                                                                                          | exact Or.inl ⟨rfl, Or.inr ⟨k, by omega, f81.symm.trans ((lg_cmp_eq _ _).mp c84)⟩⟩
                                                                                          | exact Or.inr ⟨rfl, (by rcases j61_1 with ⟨z9, _⟩ | ⟨_, z9, _⟩; exact absurd (z9.symm.trans c72) (by decide); exact z9), fun j hj => by
                                                                                              by_cases e9 : j = k
                                                                                              · rw [e9]; exact fun z9 => c84 ((lg_cmp_eq _ _).mpr (f81.trans z9))
                                                                                              · rcases j61_1 with ⟨z9, _⟩ | ⟨_, _, z9⟩
                                                                                                · exact absurd (z9.symm.trans c72) (by decide)
                                                                                                · exact z9 j (by omega)⟩
                                                                                          | exact Or.inl ⟨rfl, by
                                                                                              rcases j61_1 with ⟨_, z9⟩ | ⟨z9, _⟩
                                                                                              · exact z9.imp id (fun ⟨j9, h9, y9⟩ => ⟨j9, by omega, y9⟩)
                                                                                              · exact absurd z9 c72⟩) (by omega) _ _ hP hS ls (lv_sub hl [0, 1, 2, 3, 4, 5] rfl)
                · skip
                  have d84 := c84
                  rw [lg_cmp_eq, fa_eq64] at d84
                  refine lv_iconst (v := 1) hx hb dX10_list_87 (by decide) ?_
                  refine lv_goto (tgt := 92) hx hb dX10_list_88 (by decide) ?_
                  refine lv_istore (lv' := [(5, .int (1 : Int32)), (6, .int (nI k)), (0, .ref mo), (1, .int w), (2, .int h), (3, .long p0)]) hx hb dX10_list_92 hl (by decide) rfl (fun ls hl => ?_)
                  refine lv_iinc (v := (nI (k + 1))) (lv' := [(6, .int (nI (k + 1))), (5, .int (1 : Int32)), (0, .ref mo), (1, .int w), (2, .int h), (3, .long p0)]) hx hb dX10_list_94 hl (k := 1) rfl (nI_1 _) (by decide) rfl (fun ls hl => ?_)
                  refine lv_goto (tgt := 61) hx hb dX10_list_97 (by decide) ?_
                  exact ih_61 (k + 1) (1 : Int32) (by omega) (by
                                                                                          first
                                                                                          | exact Or.inl ⟨rfl, Or.inr ⟨k, by omega, f81.symm.trans ((lg_cmp_eq _ _).mp c84)⟩⟩
                                                                                          | exact Or.inr ⟨rfl, (by rcases j61_1 with ⟨z9, _⟩ | ⟨_, z9, _⟩; exact absurd (z9.symm.trans c72) (by decide); exact z9), fun j hj => by
                                                                                              by_cases e9 : j = k
                                                                                              · rw [e9]; exact fun z9 => c84 ((lg_cmp_eq _ _).mpr (f81.trans z9))
                                                                                              · rcases j61_1 with ⟨z9, _⟩ | ⟨_, _, z9⟩
                                                                                                · exact absurd (z9.symm.trans c72) (by decide)
                                                                                                · exact z9 j (by omega)⟩
                                                                                          | exact Or.inl ⟨rfl, by
                                                                                              rcases j61_1 with ⟨_, z9⟩ | ⟨z9, _⟩
                                                                                              · exact z9.imp id (fun ⟨j9, h9, y9⟩ => ⟨j9, by omega, y9⟩)
                                                                                              · exact absurd z9 c72⟩) (by omega) _ _ hP hS ls (lv_sub hl [0, 1, 2, 3, 4, 5] rfl)
        exact loop_61 (12 + 1) 0 (0 : Int32) (by omega) (by first | exact Or.inr ⟨rfl, (by unfold lsO; omega), fun j hj => absurd hj (Nat.not_lt_zero _)⟩ | exact Or.inl ⟨rfl, Or.inl (by unfold lsO; omega)⟩) (by omega) _ _ hP hS ls (lv_sub hl [0, 1, 2, 3, 4, 5] rfl)
      · skip
        have d32 := c32
        rw [fa_le] at d32
        have hLw := hI.2.2.2.1 (by omega)
        have c24 := m_cl (x := f 24) (by omega)
        have c25 := m_cl (x := f 25) (by omega)
        refine lv_iload_n hx hb dX10_list_35 rfl (lv_at hl 1 rfl) ?_
        refine lv_aload_n hx hb dX10_list_36 rfl (lv_at hl 0 rfl) ?_
        refine m_get (v := .int (f 24)) hx hb hts hin hown hK hP 24 (by decide) rfl (hts (.fieldLink RX10 233 "ShadowBenchModel" "listWide" "I") (by decide +kernel)) rfl dX10_list_37 ?_
        refine lv_icmp_ne (tgt := 51) hx hb dX10_list_40 (by decide) (fun c40 => ?_) (fun c40 => ?_)
        · skip
          have d40 := c40
          rw [fa_eq] at d40
          refine lv_iconst (v := 1) hx hb dX10_list_51 (by decide) ?_
          refine lv_goto (tgt := 56) hx hb dX10_list_52 (by decide) ?_
          refine lv_istore (lv' := [(5, .int (1 : Int32)), (0, .ref mo), (1, .int w), (2, .int h), (3, .long p0)]) hx hb dX10_list_56 hl (by decide) rfl (fun ls hl => ?_)
          refine lv_iconst (v := 0) hx hb dX10_list_58 (by decide) ?_
          refine lv_istore (lv' := [(6, .int (0 : Int32)), (5, .int (1 : Int32)), (0, .ref mo), (1, .int w), (2, .int h), (3, .long p0)]) hx hb dX10_list_59 hl (by decide) rfl (fun ls hl => ?_)
          have loop_61 : ∀ (n : Nat) (k : Nat) (x5 : Int32), (k ≤ 12 ∧ (k : Int) ≤ (f 23).toInt) → ((x5 = 1 ∧ (lsO (f 23) (f 24).toNatClampNeg (f 25).toNatClampNeg w h ∨ ∃ j, j < k ∧ q 26 j = p0)) ∨ (x5 = 0 ∧ ¬ lsO (f 23) (f 24).toNatClampNeg (f 25).toNatClampNeg w h ∧ ∀ j, j < k → ¬ q 26 j = p0)) → 12 - k < n → ∀ (H : Heap) (locs : List Loc), va_P D vwCl (WM cy mo a (upd f 0 (0 : Int32)) g r q) H → va_S (AM mo a) s.heap H locs → ∀ (ls : Array Slot), lv_has ls 7 [(6, .int (nI k)), (5, .int x5), (0, .ref mo), (1, .int w), (2, .int h), (3, .long p0)] → W p l e (headSpec wsX10_list ({ frames := 3, cells := 0, slots := 0, locals := 69 })).room s m #[Value.ref mo, Value.int w, Value.int h, Value.long p0] below meth c H locs 0 0 (MQ below (va_Qi (fun r0 u => ∃ (lc : Int32), ∃ (lw : Int32), ∃ (lh : Int32), ∃ (ls1 : Nat → Int64), u = ((upd (upd (upd (upd f 0 (0 : Int32)) 23 lc) 24 lw) 25 lh), g, r, (va_up q 26 ls1)) ∧ (lsA (q 26) (f 23) (f 24).toNatClampNeg (f 25).toNatClampNeg w h p0 r0 ∧ ((lsG (q 26) (f 23) (f 24).toNatClampNeg (f 25).toNatClampNeg w h p0 ∧ lc.toInt = (f 23).toInt + 1 ∧ lw = w ∧ lh = h ∧ ls1 = vp_updL (q 26) (f 23).toNatClampNeg p0) ∨ (¬ lsG (q 26) (f 23) (f 24).toNatClampNeg (f 25).toNatClampNeg w h p0 ∧ lc = f 23 ∧ lw = f 24 ∧ lh = f 25 ∧ ls1 = q 26)) ∧ MI (upd (upd (upd (upd f 0 (0 : Int32)) 23 lc) 24 lw) 25 lh) r)) (mB D cy mo a) (AM mo a)) #[Value.ref mo, Value.int w, Value.int h, Value.long p0] s 0 0 (AM mo a)) (F0 m 61 ls []) := by
            intro n
            induction n with
            | zero => intro k x5  j61_0 j61_1 hn; exact absurd hn (Nat.not_lt_zero _)
            | succ n ih_61 =>
              intro k x5  j61_0 j61_1 hn_61 H locs hP hS ls hl
              have ik : (nI k).toInt = (k : Int) := nI_toInt (by omega)
              refine lv_iload hx hb dX10_list_61 (lv_at hl 0 rfl) ?_
              refine lv_aload_n hx hb dX10_list_63 rfl (lv_at hl 2 rfl) ?_
              refine m_get (v := .int (f 23)) hx hb hts hin hown hK hP 23 (by decide) rfl (hts (.fieldLink RX10 230 "ShadowBenchModel" "listed" "I") (by decide +kernel)) rfl dX10_list_64 ?_
              refine lv_icmp_ge (tgt := 100) hx hb dX10_list_67 (by decide) (fun c67 => ?_) (fun c67 => ?_)
              · skip
                have d67 := c67
                rw [fa_le] at d67
                refine lv_iload hx hb dX10_list_100 (lv_at hl 1 rfl) ?_
                refine lv_if_eq (tgt := 108) hx hb dX10_list_102 (by decide) (fun c102 => ?_) (fun c102 => ?_)
                · skip
                  have d102 := c102
                  rw [fa_eq] at d102
                  refine lv_aload_n hx hb dX10_list_108 rfl (lv_at hl 2 rfl) ?_
                  refine lv_iload_n hx hb dX10_list_109 rfl (lv_at hl 3 rfl) ?_
                  refine m_put (v := .int w) (ty := .int) hx hb hts hin hown hK hP hD hS 24 (by decide) rfl (hts (.fieldLink RX10 233 "ShadowBenchModel" "listWide" "I") (by decide +kernel)) rfl (by decide +kernel) rfl rfl (upd (upd f 0 (0 : Int32)) 24 w) g rfl dX10_list_110 (fun H locs hP hS => ?_)
                  refine lv_aload_n hx hb dX10_list_113 rfl (lv_at hl 2 rfl) ?_
                  refine lv_iload_n hx hb dX10_list_114 rfl (lv_at hl 4 rfl) ?_
                  refine m_put (v := .int h) (ty := .int) hx hb hts hin hown hK hP hD hS 25 (by decide) rfl (hts (.fieldLink RX10 236 "ShadowBenchModel" "listHigh" "I") (by decide +kernel)) rfl (by decide +kernel) rfl rfl (upd (upd (upd f 0 (0 : Int32)) 24 w) 25 h) g rfl dX10_list_115 (fun H locs hP hS => ?_)
                  refine lv_aload_n hx hb dX10_list_118 rfl (lv_at hl 2 rfl) ?_
                  refine m_get (v := .ref (a 26)) hx hb hts hin hown hK hP 26 (by decide) rfl (hts (.fieldLink RX10 52 "ShadowBenchModel" "list" "[J") (by decide +kernel)) rfl dX10_list_119 ?_
                  refine lv_aload_n hx hb dX10_list_122 rfl (lv_at hl 2 rfl) ?_
                  refine m_get (v := .int (f 23)) hx hb hts hin hown hK hP 23 (by decide) rfl (hts (.fieldLink RX10 230 "ShadowBenchModel" "listed" "I") (by decide +kernel)) rfl dX10_list_123 ?_
                  refine lv_lload_n hx hb dX10_list_126 rfl (lv_at hl 5 rfl) ?_
                  refine m_last (w := (q 26)) hx hb hK hP hD hS 14 rfl (vp_in_iff.mpr ⟨by omega, by omega⟩) (va_up q 26 (vp_updL (q 26) (f 23).toNatClampNeg p0)) (ms_26 cy mo a _ _ _ _ _) dX10_list_127 (fun H locs hP hS => ?_)
                  refine lv_aload_n hx hb dX10_list_128 rfl (lv_at hl 2 rfl) ?_
                  refine lv_dup hx hb dX10_list_129 rfl ?_
                  refine m_get (v := .int (f 23)) hx hb hts hin hown hK hP 23 (by decide) rfl (hts (.fieldLink RX10 230 "ShadowBenchModel" "listed" "I") (by decide +kernel)) rfl dX10_list_130 ?_
                  refine lv_iconst (v := 1) hx hb dX10_list_133 (by decide) ?_
                  refine lv_iadd hx hb dX10_list_134 ?_
                  refine lv_topi (fun v134 e134 => ?_)
                  have i134 : v134.toInt = (f 23).toInt + (1 : Int32).toInt := by rw [e134]; exact fb_addI (by omega) (by omega)
                  refine m_put (v := .int v134) (ty := .int) hx hb hts hin hown hK hP hD hS 23 (by decide) rfl (hts (.fieldLink RX10 230 "ShadowBenchModel" "listed" "I") (by decide +kernel)) rfl (by decide +kernel) rfl rfl (upd (upd (upd (upd f 0 (0 : Int32)) 24 w) 25 h) 23 v134) g rfl dX10_list_135 (fun H locs hP hS => ?_)
                  refine lv_aload_n hx hb dX10_list_138 rfl (lv_at hl 2 rfl) ?_
                  refine m_get (v := .int v134) hx hb hts hin hown hK hP 23 (by decide) rfl (hts (.fieldLink RX10 230 "ShadowBenchModel" "listed" "I") (by decide +kernel)) rfl dX10_list_139 ?_
                  have hP := wm_eq (ec_f_0_24_25_23__0_23_24_25 f (0 : Int32) w h v134) rfl rfl (ec_q_26__26 q ((vp_updL (q 26) (f 23).toNatClampNeg p0))) hP
                  exact W.iret (v := v134) hx hb hr (fun t ht hW => ⟨⟨_, ((upd (upd (upd (upd f 0 (0 : Int32)) 23 v134) 24 w) 25 h), g, r, (va_up q 26 (((vp_updL (q 26) (f 23).toNatClampNeg p0))))), rfl, ⟨v134, w, h, ((vp_updL (q 26) (f 23).toNatClampNeg p0)), rfl, ⟨Or.inl ⟨⟨goodP_of b11, (by omega), (by rcases j61_1 with ⟨z9, _⟩ | ⟨_, z9, _⟩; exact absurd (z9.symm.trans c102) (by decide); exact z9), (by rcases j61_1 with ⟨z9, _⟩ | ⟨_, _, z9⟩; exact absurd (z9.symm.trans c102) (by decide); exact fun ⟨j9, h9, y9⟩ => z9 j9 (by omega) y9)⟩, (by omega)⟩, Or.inl ⟨⟨goodP_of b11, (by omega), (by rcases j61_1 with ⟨z9, _⟩ | ⟨_, z9, _⟩; exact absurd (z9.symm.trans c102) (by decide); exact z9), (by rcases j61_1 with ⟨z9, _⟩ | ⟨_, _, z9⟩; exact absurd (z9.symm.trans c102) (by decide); exact fun ⟨j9, h9, y9⟩ => z9 j9 (by omega) y9)⟩, (by omega), rfl, rfl, rfl⟩, (by first | exact hI | exact mi_li hI rfl (show 0 ≤ v134.toInt ∧ v134.toInt ≤ 12 by omega) (fun _ => ⟨show 1 ≤ w.toInt ∧ w.toInt ≤ 6 by omega, show 1 ≤ h.toInt ∧ h.toInt ≤ 6 by omega⟩) rfl rfl rfl rfl)⟩⟩, by unfold mB; rw [ht]; exact hP⟩, hS.F ht⟩) hS.2.2 dX10_list_142
                · skip
                  have d102 := c102
                  rw [fa_eq] at d102
                  refine lv_bipush (v := (-3)) hx hb dX10_list_105 (by decide) ?_
                  have hP := wm_eq (ec_f_0__0_23_24_25 f (0 : Int32)) rfl rfl (ec_q___26 q ) hP
                  exact W.iret (v := ((-3) : Int32)) hx hb hr (fun t ht hW => ⟨⟨_, ((upd (upd (upd (upd f 0 (0 : Int32)) 23 (f 23)) 24 (f 24)) 25 (f 25)), g, r, (va_up q 26 (q 26))), rfl, ⟨(f 23), (f 24), (f 25), (q 26), rfl, ⟨lsA_3 (goodP_of b11) (by omega) (by rcases j61_1 with ⟨_, z9⟩ | ⟨z9, _⟩; exact z9.imp id (fun ⟨j9, h9, y9⟩ => ⟨j9, (by omega), y9⟩); exact absurd z9 c102), Or.inr ⟨lsG_3 (by rcases j61_1 with ⟨_, z9⟩ | ⟨z9, _⟩; exact z9.imp id (fun ⟨j9, h9, y9⟩ => ⟨j9, (by omega), y9⟩); exact absurd z9 c102), rfl, rfl, rfl, rfl⟩, (by first | exact hI | exact mi_li hI rfl (show 0 ≤ (f 23).toInt ∧ (f 23).toInt ≤ 12 by omega) (fun _ => ⟨show 1 ≤ (f 24).toInt ∧ (f 24).toInt ≤ 6 by omega, show 1 ≤ (f 25).toInt ∧ (f 25).toInt ≤ 6 by omega⟩) rfl rfl rfl rfl)⟩⟩, by unfold mB; rw [ht]; exact hP⟩, hS.F ht⟩) hS.2.2 dX10_list_107
              · skip
                have d67 := c67
                rw [fa_le] at d67
                refine lv_iload hx hb dX10_list_70 (lv_at hl 1 rfl) ?_
                refine lv_if_ne (tgt := 87) hx hb dX10_list_72 (by decide) (fun c72 => ?_) (fun c72 => ?_)
                · skip
                  have d72 := c72
                  rw [fa_eq] at d72
                  refine lv_iconst (v := 1) hx hb dX10_list_87 (by decide) ?_
                  refine lv_goto (tgt := 92) hx hb dX10_list_88 (by decide) ?_
                  refine lv_istore (lv' := [(5, .int (1 : Int32)), (6, .int (nI k)), (0, .ref mo), (1, .int w), (2, .int h), (3, .long p0)]) hx hb dX10_list_92 hl (by decide) rfl (fun ls hl => ?_)
                  refine lv_iinc (v := (nI (k + 1))) (lv' := [(6, .int (nI (k + 1))), (5, .int (1 : Int32)), (0, .ref mo), (1, .int w), (2, .int h), (3, .long p0)]) hx hb dX10_list_94 hl (k := 1) rfl (nI_1 _) (by decide) rfl (fun ls hl => ?_)
                  refine lv_goto (tgt := 61) hx hb dX10_list_97 (by decide) ?_
                  exact ih_61 (k + 1) (1 : Int32) (by omega) (by
                                                                                          first
                                                                                          | exact Or.inl ⟨rfl, Or.inr ⟨k, by omega, f81.symm.trans ((lg_cmp_eq _ _).mp c84)⟩⟩
                                                                                          | exact Or.inr ⟨rfl, (by rcases j61_1 with ⟨z9, _⟩ | ⟨_, z9, _⟩; exact absurd (z9.symm.trans c72) (by decide); exact z9), fun j hj => by
                                                                                              by_cases e9 : j = k
                                                                                              · rw [e9]; exact fun z9 => c84 ((lg_cmp_eq _ _).mpr (f81.trans z9))
                                                                                              · rcases j61_1 with ⟨z9, _⟩ | ⟨_, _, z9⟩
                                                                                                · exact absurd (z9.symm.trans c72) (by decide)
                                                                                                · exact z9 j (by omega)⟩
                                                                                          | exact Or.inl ⟨rfl, by
                                                                                              rcases j61_1 with ⟨_, z9⟩ | ⟨z9, _⟩
                                                                                              · exact z9.imp id (fun ⟨j9, h9, y9⟩ => ⟨j9, by omega, y9⟩)
                                                                                              · exact absurd z9 c72⟩) (by omega) _ _ hP hS ls (lv_sub hl [0, 1, 2, 3, 4, 5] rfl)
                · skip
                  have d72 := c72
                  rw [fa_eq] at d72
                  refine lv_aload_n hx hb dX10_list_75 rfl (lv_at hl 2 rfl) ?_
                  refine m_get (v := .ref (a 26)) hx hb hts hin hown hK hP 26 (by decide) rfl (hts (.fieldLink RX10 52 "ShadowBenchModel" "list" "[J") (by decide +kernel)) rfl dX10_list_76 ?_
                  refine lv_iload hx hb dX10_list_79 (lv_at hl 0 rfl) ?_
                  refine m_lald (w := (q 26)) hx hb hK hP 14 rfl (vp_in_iff.mpr ⟨by omega, by omega⟩) dX10_list_81 ?_
                  refine lv_topl (fun v81 e81 => ?_)
                  have f81 : v81 = q 26 k := by rw [e81, nI_clamp (by omega)]
                  refine lv_lload_n hx hb dX10_list_82 rfl (lv_at hl 5 rfl) ?_
                  refine W.lcmp hx hb dX10_list_83 ?_
                  refine lv_if_ne (tgt := 91) hx hb dX10_list_84 (by decide) (fun c84 => ?_) (fun c84 => ?_)
                  · skip
                    have d84 := c84
                    rw [lg_cmp_eq, fa_eq64] at d84
                    refine lv_iconst (v := 0) hx hb dX10_list_91 (by decide) ?_
                    refine lv_istore (lv' := [(5, .int (0 : Int32)), (6, .int (nI k)), (0, .ref mo), (1, .int w), (2, .int h), (3, .long p0)]) hx hb dX10_list_92 hl (by decide) rfl (fun ls hl => ?_)
                    refine lv_iinc (v := (nI (k + 1))) (lv' := [(6, .int (nI (k + 1))), (5, .int (0 : Int32)), (0, .ref mo), (1, .int w), (2, .int h), (3, .long p0)]) hx hb dX10_list_94 hl (k := 1) rfl (nI_1 _) (by decide) rfl (fun ls hl => ?_)
                    refine lv_goto (tgt := 61) hx hb dX10_list_97 (by decide) ?_
                    exact ih_61 (k + 1) (0 : Int32) (by omega) (by
                                                                                          first
                                                                                          | exact Or.inl ⟨rfl, Or.inr ⟨k, by omega, f81.symm.trans ((lg_cmp_eq _ _).mp c84)⟩⟩
                                                                                          | exact Or.inr ⟨rfl, (by rcases j61_1 with ⟨z9, _⟩ | ⟨_, z9, _⟩; exact absurd (z9.symm.trans c72) (by decide); exact z9), fun j hj => by
                                                                                              by_cases e9 : j = k
                                                                                              · rw [e9]; exact fun z9 => c84 ((lg_cmp_eq _ _).mpr (f81.trans z9))
                                                                                              · rcases j61_1 with ⟨z9, _⟩ | ⟨_, _, z9⟩
                                                                                                · exact absurd (z9.symm.trans c72) (by decide)
                                                                                                · exact z9 j (by omega)⟩
                                                                                          | exact Or.inl ⟨rfl, by
                                                                                              rcases j61_1 with ⟨_, z9⟩ | ⟨z9, _⟩
                                                                                              · exact z9.imp id (fun ⟨j9, h9, y9⟩ => ⟨j9, by omega, y9⟩)
                                                                                              · exact absurd z9 c72⟩) (by omega) _ _ hP hS ls (lv_sub hl [0, 1, 2, 3, 4, 5] rfl)
                  · skip
                    have d84 := c84
                    rw [lg_cmp_eq, fa_eq64] at d84
                    refine lv_iconst (v := 1) hx hb dX10_list_87 (by decide) ?_
                    refine lv_goto (tgt := 92) hx hb dX10_list_88 (by decide) ?_
                    refine lv_istore (lv' := [(5, .int (1 : Int32)), (6, .int (nI k)), (0, .ref mo), (1, .int w), (2, .int h), (3, .long p0)]) hx hb dX10_list_92 hl (by decide) rfl (fun ls hl => ?_)
                    refine lv_iinc (v := (nI (k + 1))) (lv' := [(6, .int (nI (k + 1))), (5, .int (1 : Int32)), (0, .ref mo), (1, .int w), (2, .int h), (3, .long p0)]) hx hb dX10_list_94 hl (k := 1) rfl (nI_1 _) (by decide) rfl (fun ls hl => ?_)
                    refine lv_goto (tgt := 61) hx hb dX10_list_97 (by decide) ?_
                    exact ih_61 (k + 1) (1 : Int32) (by omega) (by
                                                                                          first
                                                                                          | exact Or.inl ⟨rfl, Or.inr ⟨k, by omega, f81.symm.trans ((lg_cmp_eq _ _).mp c84)⟩⟩
                                                                                          | exact Or.inr ⟨rfl, (by rcases j61_1 with ⟨z9, _⟩ | ⟨_, z9, _⟩; exact absurd (z9.symm.trans c72) (by decide); exact z9), fun j hj => by
                                                                                              by_cases e9 : j = k
                                                                                              · rw [e9]; exact fun z9 => c84 ((lg_cmp_eq _ _).mpr (f81.trans z9))
                                                                                              · rcases j61_1 with ⟨z9, _⟩ | ⟨_, _, z9⟩
                                                                                                · exact absurd (z9.symm.trans c72) (by decide)
                                                                                                · exact z9 j (by omega)⟩
                                                                                          | exact Or.inl ⟨rfl, by
                                                                                              rcases j61_1 with ⟨_, z9⟩ | ⟨z9, _⟩
                                                                                              · exact z9.imp id (fun ⟨j9, h9, y9⟩ => ⟨j9, by omega, y9⟩)
                                                                                              · exact absurd z9 c72⟩) (by omega) _ _ hP hS ls (lv_sub hl [0, 1, 2, 3, 4, 5] rfl)
          exact loop_61 (12 + 1) 0 (1 : Int32) (by omega) (by first | exact Or.inr ⟨rfl, (by unfold lsO; omega), fun j hj => absurd hj (Nat.not_lt_zero _)⟩ | exact Or.inl ⟨rfl, Or.inl (by unfold lsO; omega)⟩) (by omega) _ _ hP hS ls (lv_sub hl [0, 1, 2, 3, 4, 5] rfl)
        · skip
          have d40 := c40
          rw [fa_eq] at d40
          refine lv_iload_n hx hb dX10_list_43 rfl (lv_at hl 2 rfl) ?_
          refine lv_aload_n hx hb dX10_list_44 rfl (lv_at hl 0 rfl) ?_
          refine m_get (v := .int (f 25)) hx hb hts hin hown hK hP 25 (by decide) rfl (hts (.fieldLink RX10 236 "ShadowBenchModel" "listHigh" "I") (by decide +kernel)) rfl dX10_list_45 ?_
          refine lv_icmp_eq (tgt := 55) hx hb dX10_list_48 (by decide) (fun c48 => ?_) (fun c48 => ?_)
          · skip
            have d48 := c48
            rw [fa_eq] at d48
            refine lv_iconst (v := 0) hx hb dX10_list_55 (by decide) ?_
            refine lv_istore (lv' := [(5, .int (0 : Int32)), (0, .ref mo), (1, .int w), (2, .int h), (3, .long p0)]) hx hb dX10_list_56 hl (by decide) rfl (fun ls hl => ?_)
            refine lv_iconst (v := 0) hx hb dX10_list_58 (by decide) ?_
            refine lv_istore (lv' := [(6, .int (0 : Int32)), (5, .int (0 : Int32)), (0, .ref mo), (1, .int w), (2, .int h), (3, .long p0)]) hx hb dX10_list_59 hl (by decide) rfl (fun ls hl => ?_)
            have loop_61 : ∀ (n : Nat) (k : Nat) (x5 : Int32), (k ≤ 12 ∧ (k : Int) ≤ (f 23).toInt) → ((x5 = 1 ∧ (lsO (f 23) (f 24).toNatClampNeg (f 25).toNatClampNeg w h ∨ ∃ j, j < k ∧ q 26 j = p0)) ∨ (x5 = 0 ∧ ¬ lsO (f 23) (f 24).toNatClampNeg (f 25).toNatClampNeg w h ∧ ∀ j, j < k → ¬ q 26 j = p0)) → 12 - k < n → ∀ (H : Heap) (locs : List Loc), va_P D vwCl (WM cy mo a (upd f 0 (0 : Int32)) g r q) H → va_S (AM mo a) s.heap H locs → ∀ (ls : Array Slot), lv_has ls 7 [(6, .int (nI k)), (5, .int x5), (0, .ref mo), (1, .int w), (2, .int h), (3, .long p0)] → W p l e (headSpec wsX10_list ({ frames := 3, cells := 0, slots := 0, locals := 69 })).room s m #[Value.ref mo, Value.int w, Value.int h, Value.long p0] below meth c H locs 0 0 (MQ below (va_Qi (fun r0 u => ∃ (lc : Int32), ∃ (lw : Int32), ∃ (lh : Int32), ∃ (ls1 : Nat → Int64), u = ((upd (upd (upd (upd f 0 (0 : Int32)) 23 lc) 24 lw) 25 lh), g, r, (va_up q 26 ls1)) ∧ (lsA (q 26) (f 23) (f 24).toNatClampNeg (f 25).toNatClampNeg w h p0 r0 ∧ ((lsG (q 26) (f 23) (f 24).toNatClampNeg (f 25).toNatClampNeg w h p0 ∧ lc.toInt = (f 23).toInt + 1 ∧ lw = w ∧ lh = h ∧ ls1 = vp_updL (q 26) (f 23).toNatClampNeg p0) ∨ (¬ lsG (q 26) (f 23) (f 24).toNatClampNeg (f 25).toNatClampNeg w h p0 ∧ lc = f 23 ∧ lw = f 24 ∧ lh = f 25 ∧ ls1 = q 26)) ∧ MI (upd (upd (upd (upd f 0 (0 : Int32)) 23 lc) 24 lw) 25 lh) r)) (mB D cy mo a) (AM mo a)) #[Value.ref mo, Value.int w, Value.int h, Value.long p0] s 0 0 (AM mo a)) (F0 m 61 ls []) := by
              intro n
              induction n with
              | zero => intro k x5  j61_0 j61_1 hn; exact absurd hn (Nat.not_lt_zero _)
              | succ n ih_61 =>
                intro k x5  j61_0 j61_1 hn_61 H locs hP hS ls hl
                have ik : (nI k).toInt = (k : Int) := nI_toInt (by omega)
                refine lv_iload hx hb dX10_list_61 (lv_at hl 0 rfl) ?_
                refine lv_aload_n hx hb dX10_list_63 rfl (lv_at hl 2 rfl) ?_
                refine m_get (v := .int (f 23)) hx hb hts hin hown hK hP 23 (by decide) rfl (hts (.fieldLink RX10 230 "ShadowBenchModel" "listed" "I") (by decide +kernel)) rfl dX10_list_64 ?_
                refine lv_icmp_ge (tgt := 100) hx hb dX10_list_67 (by decide) (fun c67 => ?_) (fun c67 => ?_)
                · skip
                  have d67 := c67
                  rw [fa_le] at d67
                  refine lv_iload hx hb dX10_list_100 (lv_at hl 1 rfl) ?_
                  refine lv_if_eq (tgt := 108) hx hb dX10_list_102 (by decide) (fun c102 => ?_) (fun c102 => ?_)
                  · skip
                    have d102 := c102
                    rw [fa_eq] at d102
                    refine lv_aload_n hx hb dX10_list_108 rfl (lv_at hl 2 rfl) ?_
                    refine lv_iload_n hx hb dX10_list_109 rfl (lv_at hl 3 rfl) ?_
                    refine m_put (v := .int w) (ty := .int) hx hb hts hin hown hK hP hD hS 24 (by decide) rfl (hts (.fieldLink RX10 233 "ShadowBenchModel" "listWide" "I") (by decide +kernel)) rfl (by decide +kernel) rfl rfl (upd (upd f 0 (0 : Int32)) 24 w) g rfl dX10_list_110 (fun H locs hP hS => ?_)
                    refine lv_aload_n hx hb dX10_list_113 rfl (lv_at hl 2 rfl) ?_
                    refine lv_iload_n hx hb dX10_list_114 rfl (lv_at hl 4 rfl) ?_
                    refine m_put (v := .int h) (ty := .int) hx hb hts hin hown hK hP hD hS 25 (by decide) rfl (hts (.fieldLink RX10 236 "ShadowBenchModel" "listHigh" "I") (by decide +kernel)) rfl (by decide +kernel) rfl rfl (upd (upd (upd f 0 (0 : Int32)) 24 w) 25 h) g rfl dX10_list_115 (fun H locs hP hS => ?_)
                    refine lv_aload_n hx hb dX10_list_118 rfl (lv_at hl 2 rfl) ?_
                    refine m_get (v := .ref (a 26)) hx hb hts hin hown hK hP 26 (by decide) rfl (hts (.fieldLink RX10 52 "ShadowBenchModel" "list" "[J") (by decide +kernel)) rfl dX10_list_119 ?_
                    refine lv_aload_n hx hb dX10_list_122 rfl (lv_at hl 2 rfl) ?_
                    refine m_get (v := .int (f 23)) hx hb hts hin hown hK hP 23 (by decide) rfl (hts (.fieldLink RX10 230 "ShadowBenchModel" "listed" "I") (by decide +kernel)) rfl dX10_list_123 ?_
                    refine lv_lload_n hx hb dX10_list_126 rfl (lv_at hl 5 rfl) ?_
                    refine m_last (w := (q 26)) hx hb hK hP hD hS 14 rfl (vp_in_iff.mpr ⟨by omega, by omega⟩) (va_up q 26 (vp_updL (q 26) (f 23).toNatClampNeg p0)) (ms_26 cy mo a _ _ _ _ _) dX10_list_127 (fun H locs hP hS => ?_)
                    refine lv_aload_n hx hb dX10_list_128 rfl (lv_at hl 2 rfl) ?_
                    refine lv_dup hx hb dX10_list_129 rfl ?_
                    refine m_get (v := .int (f 23)) hx hb hts hin hown hK hP 23 (by decide) rfl (hts (.fieldLink RX10 230 "ShadowBenchModel" "listed" "I") (by decide +kernel)) rfl dX10_list_130 ?_
                    refine lv_iconst (v := 1) hx hb dX10_list_133 (by decide) ?_
                    refine lv_iadd hx hb dX10_list_134 ?_
                    refine lv_topi (fun v134 e134 => ?_)
                    have i134 : v134.toInt = (f 23).toInt + (1 : Int32).toInt := by rw [e134]; exact fb_addI (by omega) (by omega)
                    refine m_put (v := .int v134) (ty := .int) hx hb hts hin hown hK hP hD hS 23 (by decide) rfl (hts (.fieldLink RX10 230 "ShadowBenchModel" "listed" "I") (by decide +kernel)) rfl (by decide +kernel) rfl rfl (upd (upd (upd (upd f 0 (0 : Int32)) 24 w) 25 h) 23 v134) g rfl dX10_list_135 (fun H locs hP hS => ?_)
                    refine lv_aload_n hx hb dX10_list_138 rfl (lv_at hl 2 rfl) ?_
                    refine m_get (v := .int v134) hx hb hts hin hown hK hP 23 (by decide) rfl (hts (.fieldLink RX10 230 "ShadowBenchModel" "listed" "I") (by decide +kernel)) rfl dX10_list_139 ?_
                    have hP := wm_eq (ec_f_0_24_25_23__0_23_24_25 f (0 : Int32) w h v134) rfl rfl (ec_q_26__26 q ((vp_updL (q 26) (f 23).toNatClampNeg p0))) hP
                    exact W.iret (v := v134) hx hb hr (fun t ht hW => ⟨⟨_, ((upd (upd (upd (upd f 0 (0 : Int32)) 23 v134) 24 w) 25 h), g, r, (va_up q 26 (((vp_updL (q 26) (f 23).toNatClampNeg p0))))), rfl, ⟨v134, w, h, ((vp_updL (q 26) (f 23).toNatClampNeg p0)), rfl, ⟨Or.inl ⟨⟨goodP_of b11, (by omega), (by rcases j61_1 with ⟨z9, _⟩ | ⟨_, z9, _⟩; exact absurd (z9.symm.trans c102) (by decide); exact z9), (by rcases j61_1 with ⟨z9, _⟩ | ⟨_, _, z9⟩; exact absurd (z9.symm.trans c102) (by decide); exact fun ⟨j9, h9, y9⟩ => z9 j9 (by omega) y9)⟩, (by omega)⟩, Or.inl ⟨⟨goodP_of b11, (by omega), (by rcases j61_1 with ⟨z9, _⟩ | ⟨_, z9, _⟩; exact absurd (z9.symm.trans c102) (by decide); exact z9), (by rcases j61_1 with ⟨z9, _⟩ | ⟨_, _, z9⟩; exact absurd (z9.symm.trans c102) (by decide); exact fun ⟨j9, h9, y9⟩ => z9 j9 (by omega) y9)⟩, (by omega), rfl, rfl, rfl⟩, (by first | exact hI | exact mi_li hI rfl (show 0 ≤ v134.toInt ∧ v134.toInt ≤ 12 by omega) (fun _ => ⟨show 1 ≤ w.toInt ∧ w.toInt ≤ 6 by omega, show 1 ≤ h.toInt ∧ h.toInt ≤ 6 by omega⟩) rfl rfl rfl rfl)⟩⟩, by unfold mB; rw [ht]; exact hP⟩, hS.F ht⟩) hS.2.2 dX10_list_142
                  · skip
                    have d102 := c102
                    rw [fa_eq] at d102
                    refine lv_bipush (v := (-3)) hx hb dX10_list_105 (by decide) ?_
                    have hP := wm_eq (ec_f_0__0_23_24_25 f (0 : Int32)) rfl rfl (ec_q___26 q ) hP
                    exact W.iret (v := ((-3) : Int32)) hx hb hr (fun t ht hW => ⟨⟨_, ((upd (upd (upd (upd f 0 (0 : Int32)) 23 (f 23)) 24 (f 24)) 25 (f 25)), g, r, (va_up q 26 (q 26))), rfl, ⟨(f 23), (f 24), (f 25), (q 26), rfl, ⟨lsA_3 (goodP_of b11) (by omega) (by rcases j61_1 with ⟨_, z9⟩ | ⟨z9, _⟩; exact z9.imp id (fun ⟨j9, h9, y9⟩ => ⟨j9, (by omega), y9⟩); exact absurd z9 c102), Or.inr ⟨lsG_3 (by rcases j61_1 with ⟨_, z9⟩ | ⟨z9, _⟩; exact z9.imp id (fun ⟨j9, h9, y9⟩ => ⟨j9, (by omega), y9⟩); exact absurd z9 c102), rfl, rfl, rfl, rfl⟩, (by first | exact hI | exact mi_li hI rfl (show 0 ≤ (f 23).toInt ∧ (f 23).toInt ≤ 12 by omega) (fun _ => ⟨show 1 ≤ (f 24).toInt ∧ (f 24).toInt ≤ 6 by omega, show 1 ≤ (f 25).toInt ∧ (f 25).toInt ≤ 6 by omega⟩) rfl rfl rfl rfl)⟩⟩, by unfold mB; rw [ht]; exact hP⟩, hS.F ht⟩) hS.2.2 dX10_list_107
                · skip
                  have d67 := c67
                  rw [fa_le] at d67
                  refine lv_iload hx hb dX10_list_70 (lv_at hl 1 rfl) ?_
                  refine lv_if_ne (tgt := 87) hx hb dX10_list_72 (by decide) (fun c72 => ?_) (fun c72 => ?_)
                  · skip
                    have d72 := c72
                    rw [fa_eq] at d72
                    refine lv_iconst (v := 1) hx hb dX10_list_87 (by decide) ?_
                    refine lv_goto (tgt := 92) hx hb dX10_list_88 (by decide) ?_
                    refine lv_istore (lv' := [(5, .int (1 : Int32)), (6, .int (nI k)), (0, .ref mo), (1, .int w), (2, .int h), (3, .long p0)]) hx hb dX10_list_92 hl (by decide) rfl (fun ls hl => ?_)
                    refine lv_iinc (v := (nI (k + 1))) (lv' := [(6, .int (nI (k + 1))), (5, .int (1 : Int32)), (0, .ref mo), (1, .int w), (2, .int h), (3, .long p0)]) hx hb dX10_list_94 hl (k := 1) rfl (nI_1 _) (by decide) rfl (fun ls hl => ?_)
                    refine lv_goto (tgt := 61) hx hb dX10_list_97 (by decide) ?_
                    exact ih_61 (k + 1) (1 : Int32) (by omega) (by
                                                                                          first
                                                                                          | exact Or.inl ⟨rfl, Or.inr ⟨k, by omega, f81.symm.trans ((lg_cmp_eq _ _).mp c84)⟩⟩
                                                                                          | exact Or.inr ⟨rfl, (by rcases j61_1 with ⟨z9, _⟩ | ⟨_, z9, _⟩; exact absurd (z9.symm.trans c72) (by decide); exact z9), fun j hj => by
                                                                                              by_cases e9 : j = k
                                                                                              · rw [e9]; exact fun z9 => c84 ((lg_cmp_eq _ _).mpr (f81.trans z9))
                                                                                              · rcases j61_1 with ⟨z9, _⟩ | ⟨_, _, z9⟩
                                                                                                · exact absurd (z9.symm.trans c72) (by decide)
                                                                                                · exact z9 j (by omega)⟩
                                                                                          | exact Or.inl ⟨rfl, by
                                                                                              rcases j61_1 with ⟨_, z9⟩ | ⟨z9, _⟩
                                                                                              · exact z9.imp id (fun ⟨j9, h9, y9⟩ => ⟨j9, by omega, y9⟩)
                                                                                              · exact absurd z9 c72⟩) (by omega) _ _ hP hS ls (lv_sub hl [0, 1, 2, 3, 4, 5] rfl)
                  · skip
                    have d72 := c72
                    rw [fa_eq] at d72
                    refine lv_aload_n hx hb dX10_list_75 rfl (lv_at hl 2 rfl) ?_
                    refine m_get (v := .ref (a 26)) hx hb hts hin hown hK hP 26 (by decide) rfl (hts (.fieldLink RX10 52 "ShadowBenchModel" "list" "[J") (by decide +kernel)) rfl dX10_list_76 ?_
                    refine lv_iload hx hb dX10_list_79 (lv_at hl 0 rfl) ?_
                    refine m_lald (w := (q 26)) hx hb hK hP 14 rfl (vp_in_iff.mpr ⟨by omega, by omega⟩) dX10_list_81 ?_
                    refine lv_topl (fun v81 e81 => ?_)
                    have f81 : v81 = q 26 k := by rw [e81, nI_clamp (by omega)]
                    refine lv_lload_n hx hb dX10_list_82 rfl (lv_at hl 5 rfl) ?_
                    refine W.lcmp hx hb dX10_list_83 ?_
                    refine lv_if_ne (tgt := 91) hx hb dX10_list_84 (by decide) (fun c84 => ?_) (fun c84 => ?_)
                    · skip
                      have d84 := c84
                      rw [lg_cmp_eq, fa_eq64] at d84
                      refine lv_iconst (v := 0) hx hb dX10_list_91 (by decide) ?_
                      refine lv_istore (lv' := [(5, .int (0 : Int32)), (6, .int (nI k)), (0, .ref mo), (1, .int w), (2, .int h), (3, .long p0)]) hx hb dX10_list_92 hl (by decide) rfl (fun ls hl => ?_)
                      refine lv_iinc (v := (nI (k + 1))) (lv' := [(6, .int (nI (k + 1))), (5, .int (0 : Int32)), (0, .ref mo), (1, .int w), (2, .int h), (3, .long p0)]) hx hb dX10_list_94 hl (k := 1) rfl (nI_1 _) (by decide) rfl (fun ls hl => ?_)
                      refine lv_goto (tgt := 61) hx hb dX10_list_97 (by decide) ?_
                      exact ih_61 (k + 1) (0 : Int32) (by omega) (by
                                                                                          first
                                                                                          | exact Or.inl ⟨rfl, Or.inr ⟨k, by omega, f81.symm.trans ((lg_cmp_eq _ _).mp c84)⟩⟩
                                                                                          | exact Or.inr ⟨rfl, (by rcases j61_1 with ⟨z9, _⟩ | ⟨_, z9, _⟩; exact absurd (z9.symm.trans c72) (by decide); exact z9), fun j hj => by
                                                                                              by_cases e9 : j = k
                                                                                              · rw [e9]; exact fun z9 => c84 ((lg_cmp_eq _ _).mpr (f81.trans z9))
                                                                                              · rcases j61_1 with ⟨z9, _⟩ | ⟨_, _, z9⟩
                                                                                                · exact absurd (z9.symm.trans c72) (by decide)
                                                                                                · exact z9 j (by omega)⟩
                                                                                          | exact Or.inl ⟨rfl, by
                                                                                              rcases j61_1 with ⟨_, z9⟩ | ⟨z9, _⟩
                                                                                              · exact z9.imp id (fun ⟨j9, h9, y9⟩ => ⟨j9, by omega, y9⟩)
                                                                                              · exact absurd z9 c72⟩) (by omega) _ _ hP hS ls (lv_sub hl [0, 1, 2, 3, 4, 5] rfl)
                    · skip
                      have d84 := c84
                      rw [lg_cmp_eq, fa_eq64] at d84
                      refine lv_iconst (v := 1) hx hb dX10_list_87 (by decide) ?_
                      refine lv_goto (tgt := 92) hx hb dX10_list_88 (by decide) ?_
                      refine lv_istore (lv' := [(5, .int (1 : Int32)), (6, .int (nI k)), (0, .ref mo), (1, .int w), (2, .int h), (3, .long p0)]) hx hb dX10_list_92 hl (by decide) rfl (fun ls hl => ?_)
                      refine lv_iinc (v := (nI (k + 1))) (lv' := [(6, .int (nI (k + 1))), (5, .int (1 : Int32)), (0, .ref mo), (1, .int w), (2, .int h), (3, .long p0)]) hx hb dX10_list_94 hl (k := 1) rfl (nI_1 _) (by decide) rfl (fun ls hl => ?_)
                      refine lv_goto (tgt := 61) hx hb dX10_list_97 (by decide) ?_
                      exact ih_61 (k + 1) (1 : Int32) (by omega) (by
                                                                                          first
                                                                                          | exact Or.inl ⟨rfl, Or.inr ⟨k, by omega, f81.symm.trans ((lg_cmp_eq _ _).mp c84)⟩⟩
                                                                                          | exact Or.inr ⟨rfl, (by rcases j61_1 with ⟨z9, _⟩ | ⟨_, z9, _⟩; exact absurd (z9.symm.trans c72) (by decide); exact z9), fun j hj => by
                                                                                              by_cases e9 : j = k
                                                                                              · rw [e9]; exact fun z9 => c84 ((lg_cmp_eq _ _).mpr (f81.trans z9))
                                                                                              · rcases j61_1 with ⟨z9, _⟩ | ⟨_, _, z9⟩
                                                                                                · exact absurd (z9.symm.trans c72) (by decide)
                                                                                                · exact z9 j (by omega)⟩
                                                                                          | exact Or.inl ⟨rfl, by
                                                                                              rcases j61_1 with ⟨_, z9⟩ | ⟨z9, _⟩
                                                                                              · exact z9.imp id (fun ⟨j9, h9, y9⟩ => ⟨j9, by omega, y9⟩)
                                                                                              · exact absurd z9 c72⟩) (by omega) _ _ hP hS ls (lv_sub hl [0, 1, 2, 3, 4, 5] rfl)
            exact loop_61 (12 + 1) 0 (0 : Int32) (by omega) (by first | exact Or.inr ⟨rfl, (by unfold lsO; omega), fun j hj => absurd hj (Nat.not_lt_zero _)⟩ | exact Or.inl ⟨rfl, Or.inl (by unfold lsO; omega)⟩) (by omega) _ _ hP hS ls (lv_sub hl [0, 1, 2, 3, 4, 5] rfl)
          · skip
            have d48 := c48
            rw [fa_eq] at d48
            refine lv_iconst (v := 1) hx hb dX10_list_51 (by decide) ?_
            refine lv_goto (tgt := 56) hx hb dX10_list_52 (by decide) ?_
            refine lv_istore (lv' := [(5, .int (1 : Int32)), (0, .ref mo), (1, .int w), (2, .int h), (3, .long p0)]) hx hb dX10_list_56 hl (by decide) rfl (fun ls hl => ?_)
            refine lv_iconst (v := 0) hx hb dX10_list_58 (by decide) ?_
            refine lv_istore (lv' := [(6, .int (0 : Int32)), (5, .int (1 : Int32)), (0, .ref mo), (1, .int w), (2, .int h), (3, .long p0)]) hx hb dX10_list_59 hl (by decide) rfl (fun ls hl => ?_)
            have loop_61 : ∀ (n : Nat) (k : Nat) (x5 : Int32), (k ≤ 12 ∧ (k : Int) ≤ (f 23).toInt) → ((x5 = 1 ∧ (lsO (f 23) (f 24).toNatClampNeg (f 25).toNatClampNeg w h ∨ ∃ j, j < k ∧ q 26 j = p0)) ∨ (x5 = 0 ∧ ¬ lsO (f 23) (f 24).toNatClampNeg (f 25).toNatClampNeg w h ∧ ∀ j, j < k → ¬ q 26 j = p0)) → 12 - k < n → ∀ (H : Heap) (locs : List Loc), va_P D vwCl (WM cy mo a (upd f 0 (0 : Int32)) g r q) H → va_S (AM mo a) s.heap H locs → ∀ (ls : Array Slot), lv_has ls 7 [(6, .int (nI k)), (5, .int x5), (0, .ref mo), (1, .int w), (2, .int h), (3, .long p0)] → W p l e (headSpec wsX10_list ({ frames := 3, cells := 0, slots := 0, locals := 69 })).room s m #[Value.ref mo, Value.int w, Value.int h, Value.long p0] below meth c H locs 0 0 (MQ below (va_Qi (fun r0 u => ∃ (lc : Int32), ∃ (lw : Int32), ∃ (lh : Int32), ∃ (ls1 : Nat → Int64), u = ((upd (upd (upd (upd f 0 (0 : Int32)) 23 lc) 24 lw) 25 lh), g, r, (va_up q 26 ls1)) ∧ (lsA (q 26) (f 23) (f 24).toNatClampNeg (f 25).toNatClampNeg w h p0 r0 ∧ ((lsG (q 26) (f 23) (f 24).toNatClampNeg (f 25).toNatClampNeg w h p0 ∧ lc.toInt = (f 23).toInt + 1 ∧ lw = w ∧ lh = h ∧ ls1 = vp_updL (q 26) (f 23).toNatClampNeg p0) ∨ (¬ lsG (q 26) (f 23) (f 24).toNatClampNeg (f 25).toNatClampNeg w h p0 ∧ lc = f 23 ∧ lw = f 24 ∧ lh = f 25 ∧ ls1 = q 26)) ∧ MI (upd (upd (upd (upd f 0 (0 : Int32)) 23 lc) 24 lw) 25 lh) r)) (mB D cy mo a) (AM mo a)) #[Value.ref mo, Value.int w, Value.int h, Value.long p0] s 0 0 (AM mo a)) (F0 m 61 ls []) := by
              intro n
              induction n with
              | zero => intro k x5  j61_0 j61_1 hn; exact absurd hn (Nat.not_lt_zero _)
              | succ n ih_61 =>
                intro k x5  j61_0 j61_1 hn_61 H locs hP hS ls hl
                have ik : (nI k).toInt = (k : Int) := nI_toInt (by omega)
                refine lv_iload hx hb dX10_list_61 (lv_at hl 0 rfl) ?_
                refine lv_aload_n hx hb dX10_list_63 rfl (lv_at hl 2 rfl) ?_
                refine m_get (v := .int (f 23)) hx hb hts hin hown hK hP 23 (by decide) rfl (hts (.fieldLink RX10 230 "ShadowBenchModel" "listed" "I") (by decide +kernel)) rfl dX10_list_64 ?_
                refine lv_icmp_ge (tgt := 100) hx hb dX10_list_67 (by decide) (fun c67 => ?_) (fun c67 => ?_)
                · skip
                  have d67 := c67
                  rw [fa_le] at d67
                  refine lv_iload hx hb dX10_list_100 (lv_at hl 1 rfl) ?_
                  refine lv_if_eq (tgt := 108) hx hb dX10_list_102 (by decide) (fun c102 => ?_) (fun c102 => ?_)
                  · skip
                    have d102 := c102
                    rw [fa_eq] at d102
                    refine lv_aload_n hx hb dX10_list_108 rfl (lv_at hl 2 rfl) ?_
                    refine lv_iload_n hx hb dX10_list_109 rfl (lv_at hl 3 rfl) ?_
                    refine m_put (v := .int w) (ty := .int) hx hb hts hin hown hK hP hD hS 24 (by decide) rfl (hts (.fieldLink RX10 233 "ShadowBenchModel" "listWide" "I") (by decide +kernel)) rfl (by decide +kernel) rfl rfl (upd (upd f 0 (0 : Int32)) 24 w) g rfl dX10_list_110 (fun H locs hP hS => ?_)
                    refine lv_aload_n hx hb dX10_list_113 rfl (lv_at hl 2 rfl) ?_
                    refine lv_iload_n hx hb dX10_list_114 rfl (lv_at hl 4 rfl) ?_
                    refine m_put (v := .int h) (ty := .int) hx hb hts hin hown hK hP hD hS 25 (by decide) rfl (hts (.fieldLink RX10 236 "ShadowBenchModel" "listHigh" "I") (by decide +kernel)) rfl (by decide +kernel) rfl rfl (upd (upd (upd f 0 (0 : Int32)) 24 w) 25 h) g rfl dX10_list_115 (fun H locs hP hS => ?_)
                    refine lv_aload_n hx hb dX10_list_118 rfl (lv_at hl 2 rfl) ?_
                    refine m_get (v := .ref (a 26)) hx hb hts hin hown hK hP 26 (by decide) rfl (hts (.fieldLink RX10 52 "ShadowBenchModel" "list" "[J") (by decide +kernel)) rfl dX10_list_119 ?_
                    refine lv_aload_n hx hb dX10_list_122 rfl (lv_at hl 2 rfl) ?_
                    refine m_get (v := .int (f 23)) hx hb hts hin hown hK hP 23 (by decide) rfl (hts (.fieldLink RX10 230 "ShadowBenchModel" "listed" "I") (by decide +kernel)) rfl dX10_list_123 ?_
                    refine lv_lload_n hx hb dX10_list_126 rfl (lv_at hl 5 rfl) ?_
                    refine m_last (w := (q 26)) hx hb hK hP hD hS 14 rfl (vp_in_iff.mpr ⟨by omega, by omega⟩) (va_up q 26 (vp_updL (q 26) (f 23).toNatClampNeg p0)) (ms_26 cy mo a _ _ _ _ _) dX10_list_127 (fun H locs hP hS => ?_)
                    refine lv_aload_n hx hb dX10_list_128 rfl (lv_at hl 2 rfl) ?_
                    refine lv_dup hx hb dX10_list_129 rfl ?_
                    refine m_get (v := .int (f 23)) hx hb hts hin hown hK hP 23 (by decide) rfl (hts (.fieldLink RX10 230 "ShadowBenchModel" "listed" "I") (by decide +kernel)) rfl dX10_list_130 ?_
                    refine lv_iconst (v := 1) hx hb dX10_list_133 (by decide) ?_
                    refine lv_iadd hx hb dX10_list_134 ?_
                    refine lv_topi (fun v134 e134 => ?_)
                    have i134 : v134.toInt = (f 23).toInt + (1 : Int32).toInt := by rw [e134]; exact fb_addI (by omega) (by omega)
                    refine m_put (v := .int v134) (ty := .int) hx hb hts hin hown hK hP hD hS 23 (by decide) rfl (hts (.fieldLink RX10 230 "ShadowBenchModel" "listed" "I") (by decide +kernel)) rfl (by decide +kernel) rfl rfl (upd (upd (upd (upd f 0 (0 : Int32)) 24 w) 25 h) 23 v134) g rfl dX10_list_135 (fun H locs hP hS => ?_)
                    refine lv_aload_n hx hb dX10_list_138 rfl (lv_at hl 2 rfl) ?_
                    refine m_get (v := .int v134) hx hb hts hin hown hK hP 23 (by decide) rfl (hts (.fieldLink RX10 230 "ShadowBenchModel" "listed" "I") (by decide +kernel)) rfl dX10_list_139 ?_
                    have hP := wm_eq (ec_f_0_24_25_23__0_23_24_25 f (0 : Int32) w h v134) rfl rfl (ec_q_26__26 q ((vp_updL (q 26) (f 23).toNatClampNeg p0))) hP
                    exact W.iret (v := v134) hx hb hr (fun t ht hW => ⟨⟨_, ((upd (upd (upd (upd f 0 (0 : Int32)) 23 v134) 24 w) 25 h), g, r, (va_up q 26 (((vp_updL (q 26) (f 23).toNatClampNeg p0))))), rfl, ⟨v134, w, h, ((vp_updL (q 26) (f 23).toNatClampNeg p0)), rfl, ⟨Or.inl ⟨⟨goodP_of b11, (by omega), (by rcases j61_1 with ⟨z9, _⟩ | ⟨_, z9, _⟩; exact absurd (z9.symm.trans c102) (by decide); exact z9), (by rcases j61_1 with ⟨z9, _⟩ | ⟨_, _, z9⟩; exact absurd (z9.symm.trans c102) (by decide); exact fun ⟨j9, h9, y9⟩ => z9 j9 (by omega) y9)⟩, (by omega)⟩, Or.inl ⟨⟨goodP_of b11, (by omega), (by rcases j61_1 with ⟨z9, _⟩ | ⟨_, z9, _⟩; exact absurd (z9.symm.trans c102) (by decide); exact z9), (by rcases j61_1 with ⟨z9, _⟩ | ⟨_, _, z9⟩; exact absurd (z9.symm.trans c102) (by decide); exact fun ⟨j9, h9, y9⟩ => z9 j9 (by omega) y9)⟩, (by omega), rfl, rfl, rfl⟩, (by first | exact hI | exact mi_li hI rfl (show 0 ≤ v134.toInt ∧ v134.toInt ≤ 12 by omega) (fun _ => ⟨show 1 ≤ w.toInt ∧ w.toInt ≤ 6 by omega, show 1 ≤ h.toInt ∧ h.toInt ≤ 6 by omega⟩) rfl rfl rfl rfl)⟩⟩, by unfold mB; rw [ht]; exact hP⟩, hS.F ht⟩) hS.2.2 dX10_list_142
                  · skip
                    have d102 := c102
                    rw [fa_eq] at d102
                    refine lv_bipush (v := (-3)) hx hb dX10_list_105 (by decide) ?_
                    have hP := wm_eq (ec_f_0__0_23_24_25 f (0 : Int32)) rfl rfl (ec_q___26 q ) hP
                    exact W.iret (v := ((-3) : Int32)) hx hb hr (fun t ht hW => ⟨⟨_, ((upd (upd (upd (upd f 0 (0 : Int32)) 23 (f 23)) 24 (f 24)) 25 (f 25)), g, r, (va_up q 26 (q 26))), rfl, ⟨(f 23), (f 24), (f 25), (q 26), rfl, ⟨lsA_3 (goodP_of b11) (by omega) (by rcases j61_1 with ⟨_, z9⟩ | ⟨z9, _⟩; exact z9.imp id (fun ⟨j9, h9, y9⟩ => ⟨j9, (by omega), y9⟩); exact absurd z9 c102), Or.inr ⟨lsG_3 (by rcases j61_1 with ⟨_, z9⟩ | ⟨z9, _⟩; exact z9.imp id (fun ⟨j9, h9, y9⟩ => ⟨j9, (by omega), y9⟩); exact absurd z9 c102), rfl, rfl, rfl, rfl⟩, (by first | exact hI | exact mi_li hI rfl (show 0 ≤ (f 23).toInt ∧ (f 23).toInt ≤ 12 by omega) (fun _ => ⟨show 1 ≤ (f 24).toInt ∧ (f 24).toInt ≤ 6 by omega, show 1 ≤ (f 25).toInt ∧ (f 25).toInt ≤ 6 by omega⟩) rfl rfl rfl rfl)⟩⟩, by unfold mB; rw [ht]; exact hP⟩, hS.F ht⟩) hS.2.2 dX10_list_107
                · skip
                  have d67 := c67
                  rw [fa_le] at d67
                  refine lv_iload hx hb dX10_list_70 (lv_at hl 1 rfl) ?_
                  refine lv_if_ne (tgt := 87) hx hb dX10_list_72 (by decide) (fun c72 => ?_) (fun c72 => ?_)
                  · skip
                    have d72 := c72
                    rw [fa_eq] at d72
                    refine lv_iconst (v := 1) hx hb dX10_list_87 (by decide) ?_
                    refine lv_goto (tgt := 92) hx hb dX10_list_88 (by decide) ?_
                    refine lv_istore (lv' := [(5, .int (1 : Int32)), (6, .int (nI k)), (0, .ref mo), (1, .int w), (2, .int h), (3, .long p0)]) hx hb dX10_list_92 hl (by decide) rfl (fun ls hl => ?_)
                    refine lv_iinc (v := (nI (k + 1))) (lv' := [(6, .int (nI (k + 1))), (5, .int (1 : Int32)), (0, .ref mo), (1, .int w), (2, .int h), (3, .long p0)]) hx hb dX10_list_94 hl (k := 1) rfl (nI_1 _) (by decide) rfl (fun ls hl => ?_)
                    refine lv_goto (tgt := 61) hx hb dX10_list_97 (by decide) ?_
                    exact ih_61 (k + 1) (1 : Int32) (by omega) (by
                                                                                          first
                                                                                          | exact Or.inl ⟨rfl, Or.inr ⟨k, by omega, f81.symm.trans ((lg_cmp_eq _ _).mp c84)⟩⟩
                                                                                          | exact Or.inr ⟨rfl, (by rcases j61_1 with ⟨z9, _⟩ | ⟨_, z9, _⟩; exact absurd (z9.symm.trans c72) (by decide); exact z9), fun j hj => by
                                                                                              by_cases e9 : j = k
                                                                                              · rw [e9]; exact fun z9 => c84 ((lg_cmp_eq _ _).mpr (f81.trans z9))
                                                                                              · rcases j61_1 with ⟨z9, _⟩ | ⟨_, _, z9⟩
                                                                                                · exact absurd (z9.symm.trans c72) (by decide)
                                                                                                · exact z9 j (by omega)⟩
                                                                                          | exact Or.inl ⟨rfl, by
                                                                                              rcases j61_1 with ⟨_, z9⟩ | ⟨z9, _⟩
                                                                                              · exact z9.imp id (fun ⟨j9, h9, y9⟩ => ⟨j9, by omega, y9⟩)
                                                                                              · exact absurd z9 c72⟩) (by omega) _ _ hP hS ls (lv_sub hl [0, 1, 2, 3, 4, 5] rfl)
                  · skip
                    have d72 := c72
                    rw [fa_eq] at d72
                    refine lv_aload_n hx hb dX10_list_75 rfl (lv_at hl 2 rfl) ?_
                    refine m_get (v := .ref (a 26)) hx hb hts hin hown hK hP 26 (by decide) rfl (hts (.fieldLink RX10 52 "ShadowBenchModel" "list" "[J") (by decide +kernel)) rfl dX10_list_76 ?_
                    refine lv_iload hx hb dX10_list_79 (lv_at hl 0 rfl) ?_
                    refine m_lald (w := (q 26)) hx hb hK hP 14 rfl (vp_in_iff.mpr ⟨by omega, by omega⟩) dX10_list_81 ?_
                    refine lv_topl (fun v81 e81 => ?_)
                    have f81 : v81 = q 26 k := by rw [e81, nI_clamp (by omega)]
                    refine lv_lload_n hx hb dX10_list_82 rfl (lv_at hl 5 rfl) ?_
                    refine W.lcmp hx hb dX10_list_83 ?_
                    refine lv_if_ne (tgt := 91) hx hb dX10_list_84 (by decide) (fun c84 => ?_) (fun c84 => ?_)
                    · skip
                      have d84 := c84
                      rw [lg_cmp_eq, fa_eq64] at d84
                      refine lv_iconst (v := 0) hx hb dX10_list_91 (by decide) ?_
                      refine lv_istore (lv' := [(5, .int (0 : Int32)), (6, .int (nI k)), (0, .ref mo), (1, .int w), (2, .int h), (3, .long p0)]) hx hb dX10_list_92 hl (by decide) rfl (fun ls hl => ?_)
                      refine lv_iinc (v := (nI (k + 1))) (lv' := [(6, .int (nI (k + 1))), (5, .int (0 : Int32)), (0, .ref mo), (1, .int w), (2, .int h), (3, .long p0)]) hx hb dX10_list_94 hl (k := 1) rfl (nI_1 _) (by decide) rfl (fun ls hl => ?_)
                      refine lv_goto (tgt := 61) hx hb dX10_list_97 (by decide) ?_
                      exact ih_61 (k + 1) (0 : Int32) (by omega) (by
                                                                                          first
                                                                                          | exact Or.inl ⟨rfl, Or.inr ⟨k, by omega, f81.symm.trans ((lg_cmp_eq _ _).mp c84)⟩⟩
                                                                                          | exact Or.inr ⟨rfl, (by rcases j61_1 with ⟨z9, _⟩ | ⟨_, z9, _⟩; exact absurd (z9.symm.trans c72) (by decide); exact z9), fun j hj => by
                                                                                              by_cases e9 : j = k
                                                                                              · rw [e9]; exact fun z9 => c84 ((lg_cmp_eq _ _).mpr (f81.trans z9))
                                                                                              · rcases j61_1 with ⟨z9, _⟩ | ⟨_, _, z9⟩
                                                                                                · exact absurd (z9.symm.trans c72) (by decide)
                                                                                                · exact z9 j (by omega)⟩
                                                                                          | exact Or.inl ⟨rfl, by
                                                                                              rcases j61_1 with ⟨_, z9⟩ | ⟨z9, _⟩
                                                                                              · exact z9.imp id (fun ⟨j9, h9, y9⟩ => ⟨j9, by omega, y9⟩)
                                                                                              · exact absurd z9 c72⟩) (by omega) _ _ hP hS ls (lv_sub hl [0, 1, 2, 3, 4, 5] rfl)
                    · skip
                      have d84 := c84
                      rw [lg_cmp_eq, fa_eq64] at d84
                      refine lv_iconst (v := 1) hx hb dX10_list_87 (by decide) ?_
                      refine lv_goto (tgt := 92) hx hb dX10_list_88 (by decide) ?_
                      refine lv_istore (lv' := [(5, .int (1 : Int32)), (6, .int (nI k)), (0, .ref mo), (1, .int w), (2, .int h), (3, .long p0)]) hx hb dX10_list_92 hl (by decide) rfl (fun ls hl => ?_)
                      refine lv_iinc (v := (nI (k + 1))) (lv' := [(6, .int (nI (k + 1))), (5, .int (1 : Int32)), (0, .ref mo), (1, .int w), (2, .int h), (3, .long p0)]) hx hb dX10_list_94 hl (k := 1) rfl (nI_1 _) (by decide) rfl (fun ls hl => ?_)
                      refine lv_goto (tgt := 61) hx hb dX10_list_97 (by decide) ?_
                      exact ih_61 (k + 1) (1 : Int32) (by omega) (by
                                                                                          first
                                                                                          | exact Or.inl ⟨rfl, Or.inr ⟨k, by omega, f81.symm.trans ((lg_cmp_eq _ _).mp c84)⟩⟩
                                                                                          | exact Or.inr ⟨rfl, (by rcases j61_1 with ⟨z9, _⟩ | ⟨_, z9, _⟩; exact absurd (z9.symm.trans c72) (by decide); exact z9), fun j hj => by
                                                                                              by_cases e9 : j = k
                                                                                              · rw [e9]; exact fun z9 => c84 ((lg_cmp_eq _ _).mpr (f81.trans z9))
                                                                                              · rcases j61_1 with ⟨z9, _⟩ | ⟨_, _, z9⟩
                                                                                                · exact absurd (z9.symm.trans c72) (by decide)
                                                                                                · exact z9 j (by omega)⟩
                                                                                          | exact Or.inl ⟨rfl, by
                                                                                              rcases j61_1 with ⟨_, z9⟩ | ⟨z9, _⟩
                                                                                              · exact z9.imp id (fun ⟨j9, h9, y9⟩ => ⟨j9, by omega, y9⟩)
                                                                                              · exact absurd z9 c72⟩) (by omega) _ _ hP hS ls (lv_sub hl [0, 1, 2, 3, 4, 5] rfl)
            exact loop_61 (12 + 1) 0 (1 : Int32) (by omega) (by first | exact Or.inr ⟨rfl, (by unfold lsO; omega), fun j hj => absurd hj (Nat.not_lt_zero _)⟩ | exact Or.inl ⟨rfl, Or.inl (by unfold lsO; omega)⟩) (by omega) _ _ hP hS ls (lv_sub hl [0, 1, 2, 3, 4, 5] rfl)
    · skip
      have d22 := c22
      rw [fa_eq] at d22
      refine lv_bipush (v := (-2)) hx hb dX10_list_25 (by decide) ?_
      have hP := wm_eq (ec_f_0__0_23_24_25 f (0 : Int32)) rfl rfl (ec_q___26 q ) hP
      exact W.iret (v := ((-2) : Int32)) hx hb hr (fun t ht hW => ⟨⟨_, ((upd (upd (upd (upd f 0 (0 : Int32)) 23 (f 23)) 24 (f 24)) 25 (f 25)), g, r, (va_up q 26 (q 26))), rfl, ⟨(f 23), (f 24), (f 25), (q 26), rfl, ⟨lsA_2 (goodP_of b11) (by omega), Or.inr ⟨lsG_2 (by omega), rfl, rfl, rfl, rfl⟩, (by first | exact hI | exact mi_li hI rfl (show 0 ≤ (f 23).toInt ∧ (f 23).toInt ≤ 12 by omega) (fun _ => ⟨show 1 ≤ (f 24).toInt ∧ (f 24).toInt ≤ 6 by omega, show 1 ≤ (f 25).toInt ∧ (f 25).toInt ≤ 6 by omega⟩) rfl rfl rfl rfl)⟩⟩, by unfold mB; rw [ht]; exact hP⟩, hS.F ht⟩) hS.2.2 dX10_list_27
  · skip
    have b11 := bo_f q8 c11
    refine lv_iconst (v := (-1)) hx hb dX10_list_14 (by decide) ?_
    have hP := wm_eq (ec_f_0__0_23_24_25 f (0 : Int32)) rfl rfl (ec_q___26 q ) hP
    exact W.iret (v := ((-1) : Int32)) hx hb hr (fun t ht hW => ⟨⟨_, ((upd (upd (upd (upd f 0 (0 : Int32)) 23 (f 23)) 24 (f 24)) 25 (f 25)), g, r, (va_up q 26 (q 26))), rfl, ⟨(f 23), (f 24), (f 25), (q 26), rfl, ⟨lsA_1 (goodP_no b11), Or.inr ⟨lsG_1 (goodP_no b11), rfl, rfl, rfl, rfl⟩, (by first | exact hI | exact mi_li hI rfl (show 0 ≤ (f 23).toInt ∧ (f 23).toInt ≤ 12 by omega) (fun _ => ⟨show 1 ≤ (f 24).toInt ∧ (f 24).toInt ≤ 6 by omega, show 1 ≤ (f 25).toInt ∧ (f 25).toInt ≤ 6 by omega⟩) rfl rfl rfl rfl)⟩⟩, by unfold mB; rw [ht]; exact hP⟩, hS.F ht⟩) hS.2.2 dX10_list_15
set_option maxHeartbeats 4000000 in
set_option maxRecDepth 100000 in
theorem c_X10_tells_x (l : Launch) (D : va_G) (cy : Nat → ClassId) (mo : Nat) (a : Nat → Nat) (f : Nat → Int32) (g : Nat → Int64) (r : Nat → Nat → Int32) (q : Nat → Nat → Int64) (ways : Int32) (hD : DM cy mo a) (hI : MI f r) : Mi l D cy mo a yX10_tells wsX10_tells ({ frames := 3, cells := 0, slots := 0, locals := 78 }) f g r q [.int ways] (fun r0 u => u = (f, g, r, q) ∧ (Bo r0 (telA (q 26) (f 23) (f 24).toNatClampNeg (f 25).toNatClampNeg ways))) := by
  refine Met.ofW (cc := cX10_tells) (maxL := 7) (ret := (some .boolean)) (by decide) rfl ?_
  intro p e s m args below meth c s₁ B hml hv
  obtain ⟨rfl, hP, hK⟩ := hv
  have hx := B.exec
  have hb := B.bytes
  have hr := B.returns
  have hts := atoms_spec (ws := wsX10_tells) B.pre
  have hin : ∀ w ∈ u_ws RX10 TX10 35, w ∈ wsX10_tells := by decide +kernel
  have hown : s.vm.findClass RX10 = some m.cls := findClass_of_methodNamed B.named
  have hlocks := B.notSynchronized
  have hS : va_S (AM mo a) s.heap s.heap [] := va_S.rf
  have hl := lv_entry ([.ref mo, .int ways]) (n := 7) (Nat.le_of_ble_eq_true rfl)
  rw [lg_entry_eq]
  generalize (lg_sl ([.ref mo, .int ways]) ++ List.replicate (7 - (lg_sl ([.ref mo, .int ways])).length) Slot.unset).toArray = ls at hl ⊢
  have hl : lv_has ls 7 [(0, .ref mo), (1, .int ways)] := hl
  have k_0 : (0 : Int32).toInt = 0 := by decide
  have k_1 : (1 : Int32).toInt = 1 := by decide
  have k_4 : (4 : Int32).toInt = 4 := by decide
  have hI1 := hI.2.2.1
  refine lv_iconst (v := 1) hx hb dX10_tells_0 (by decide) ?_
  refine lv_istore_n (lv' := [(2, .int (1 : Int32)), (0, .ref mo), (1, .int ways)]) hx hb dX10_tells_1 rfl hl (by decide) rfl (fun ls hl => ?_)
  refine lv_iconst (v := 0) hx hb dX10_tells_2 (by decide) ?_
  refine lv_istore_n (lv' := [(3, .int (0 : Int32)), (2, .int (1 : Int32)), (0, .ref mo), (1, .int ways)]) hx hb dX10_tells_3 rfl hl (by decide) rfl (fun ls hl => ?_)
  have loop_4 : ∀ (n : Nat) (k : Nat) (x2 : Int32), (k ≤ 12 ∧ (k : Int) ≤ (f 23).toInt) → ((x2 = 1 ∧ ∀ a b : Nat, a < k → b < a → ∃ j, j < 4 ∧ unl (f 24).toNatClampNeg (f 25).toNatClampNeg (q 26 a) (q 26 b) ways j) ∨ (x2 = 0 ∧ ¬ ∀ a b : Nat, a < k → b < a → ∃ j, j < 4 ∧ unl (f 24).toNatClampNeg (f 25).toNatClampNeg (q 26 a) (q 26 b) ways j)) → 12 - k < n → ∀ (H : Heap) (locs : List Loc), va_P D vwCl (WM cy mo a f g r q) H → va_S (AM mo a) s.heap H locs → ∀ (ls : Array Slot), lv_has ls 7 [(3, .int (nI k)), (2, .int x2), (0, .ref mo), (1, .int ways)] → W p l e (headSpec wsX10_tells ({ frames := 3, cells := 0, slots := 0, locals := 78 })).room s m #[Value.ref mo, Value.int ways] below meth c H locs 0 0 (MQ below (va_Qi (fun r0 u => u = (f, g, r, q) ∧ (Bo r0 (telA (q 26) (f 23) (f 24).toNatClampNeg (f 25).toNatClampNeg ways))) (mB D cy mo a) (AM mo a)) #[Value.ref mo, Value.int ways] s 0 0 (AM mo a)) (F0 m 4 ls []) := by
    intro n
    induction n with
    | zero => intro k x2  j4_0 j4_1 hn; exact absurd hn (Nat.not_lt_zero _)
    | succ n ih_4 =>
      intro k x2  j4_0 j4_1 hn_4 H locs hP hS ls hl
      have ik : (nI k).toInt = (k : Int) := nI_toInt (by omega)
      refine lv_iload_n hx hb dX10_tells_4 rfl (lv_at hl 0 rfl) ?_
      refine lv_aload_n hx hb dX10_tells_5 rfl (lv_at hl 2 rfl) ?_
      refine m_get (v := .int (f 23)) hx hb hts hin hown hK hP 23 (by decide) rfl (hts (.fieldLink RX10 230 "ShadowBenchModel" "listed" "I") (by decide +kernel)) rfl dX10_tells_6 ?_
      refine lv_icmp_ge (tgt := 117) hx hb dX10_tells_9 (by decide) (fun c9 => ?_) (fun c9 => ?_)
      · skip
        have d9 := c9
        rw [fa_le] at d9
        refine lv_iload_n hx hb dX10_tells_117 rfl (lv_at hl 1 rfl) ?_
        exact W.zret (v := x2) hx hb hr (by rcases j4_1 with ⟨z, _⟩ | ⟨z, _⟩ <;> rw [z] <;> rfl) (fun t ht hW => ⟨⟨_, (f, g, r, q), rfl, ⟨rfl, (by rcases j4_1 with ⟨z, y⟩ | ⟨z, y⟩; exact Or.inl ⟨z, fun a9 b9 h9 h8 => y a9 b9 (by omega) h8⟩; exact Or.inr ⟨z, fun u9 => y (fun a9 b9 h9 h8 => u9 a9 b9 (by omega) h8)⟩)⟩, by unfold mB; rw [ht]; exact hP⟩, hS.F ht⟩) hS.2.2 dX10_tells_118
      · skip
        have d9 := c9
        rw [fa_le] at d9
        refine lv_iconst (v := 0) hx hb dX10_tells_12 (by decide) ?_
        refine lv_istore (lv' := [(4, .int (0 : Int32)), (3, .int (nI k)), (2, .int x2), (0, .ref mo), (1, .int ways)]) hx hb dX10_tells_13 hl (by decide) rfl (fun ls hl => ?_)
        have loop_15 : ∀ (n : Nat) (i : Nat) (y2 : Int32), (i ≤ k) → ((y2 = 1 ∧ (∀ a b : Nat, a < k → b < a → ∃ j, j < 4 ∧ unl (f 24).toNatClampNeg (f 25).toNatClampNeg (q 26 a) (q 26 b) ways j) ∧ ∀ b : Nat, b < i → ∃ j, j < 4 ∧ unl (f 24).toNatClampNeg (f 25).toNatClampNeg (q 26 k) (q 26 b) ways j) ∨ (y2 = 0 ∧ ¬ ((∀ a b : Nat, a < k → b < a → ∃ j, j < 4 ∧ unl (f 24).toNatClampNeg (f 25).toNatClampNeg (q 26 a) (q 26 b) ways j) ∧ ∀ b : Nat, b < i → ∃ j, j < 4 ∧ unl (f 24).toNatClampNeg (f 25).toNatClampNeg (q 26 k) (q 26 b) ways j))) → 12 - i < n → ∀ (H : Heap) (locs : List Loc), va_P D vwCl (WM cy mo a f g r q) H → va_S (AM mo a) s.heap H locs → ∀ (ls : Array Slot), lv_has ls 7 [(4, .int (nI i)), (3, .int (nI k)), (2, .int y2), (0, .ref mo), (1, .int ways)] → W p l e (headSpec wsX10_tells ({ frames := 3, cells := 0, slots := 0, locals := 78 })).room s m #[Value.ref mo, Value.int ways] below meth c H locs 0 0 (MQ below (va_Qi (fun r0 u => u = (f, g, r, q) ∧ (Bo r0 (telA (q 26) (f 23) (f 24).toNatClampNeg (f 25).toNatClampNeg ways))) (mB D cy mo a) (AM mo a)) #[Value.ref mo, Value.int ways] s 0 0 (AM mo a)) (F0 m 15 ls []) := by
          intro n
          induction n with
          | zero => intro i y2  j15_0 j15_1 hn; exact absurd hn (Nat.not_lt_zero _)
          | succ n ih_15 =>
            intro i y2  j15_0 j15_1 hn_15 H locs hP hS ls hl
            have ii : (nI i).toInt = (i : Int) := nI_toInt (by omega)
            refine lv_iload hx hb dX10_tells_15 (lv_at hl 0 rfl) ?_
            refine lv_iload_n hx hb dX10_tells_17 rfl (lv_at hl 1 rfl) ?_
            refine lv_icmp_ge (tgt := 111) hx hb dX10_tells_18 (by decide) (fun c18 => ?_) (fun c18 => ?_)
            · skip
              have d18 := c18
              rw [fa_le] at d18
              refine lv_iinc (v := (nI (k + 1))) (lv' := [(3, .int (nI (k + 1))), (4, .int (nI i)), (2, .int y2), (0, .ref mo), (1, .int ways)]) hx hb dX10_tells_111 hl (k := 1) rfl (nI_1 _) (by decide) rfl (fun ls hl => ?_)
              refine lv_goto (tgt := 4) hx hb dX10_tells_114 (by decide) ?_
              exact ih_4 (k + 1) y2 (by omega) (by
                                                                                          have hik : i = k := by omega
                                                                                          rcases j15_1 with ⟨z, y, x⟩ | ⟨z, y⟩
                                                                                          · exact Or.inl ⟨z, fun a b h1 h2 => by
                                                                                              by_cases e9 : a = k
                                                                                              · rw [e9] at h2 ⊢; exact x b (by omega)
                                                                                              · exact y a b (by omega) h2⟩
                                                                                          · exact Or.inr ⟨z, fun u9 => y ⟨fun a b h1 h2 => u9 a b (by omega) h2, fun b h1 => u9 k b (by omega) (by omega)⟩⟩) (by omega) _ _ hP hS ls (lv_sub hl [0, 2, 3, 4] rfl)
            · skip
              have d18 := c18
              rw [fa_le] at d18
              refine lv_iconst (v := 0) hx hb dX10_tells_21 (by decide) ?_
              refine lv_istore (lv' := [(5, .int (0 : Int32)), (4, .int (nI i)), (3, .int (nI k)), (2, .int y2), (0, .ref mo), (1, .int ways)]) hx hb dX10_tells_22 hl (by decide) rfl (fun ls hl => ?_)
              refine lv_iconst (v := 0) hx hb dX10_tells_24 (by decide) ?_
              refine lv_istore (lv' := [(6, .int (0 : Int32)), (5, .int (0 : Int32)), (4, .int (nI i)), (3, .int (nI k)), (2, .int y2), (0, .ref mo), (1, .int ways)]) hx hb dX10_tells_25 hl (by decide) rfl (fun ls hl => ?_)
              have loop_27 : ∀ (n : Nat) (m1 : Nat) (x5 : Int32), (m1 ≤ 4) → ((x5 = 1 ∧ ∃ j, j < m1 ∧ unl (f 24).toNatClampNeg (f 25).toNatClampNeg (q 26 k) (q 26 i) ways j) ∨ (x5 = 0 ∧ ∀ j, j < m1 → ¬ unl (f 24).toNatClampNeg (f 25).toNatClampNeg (q 26 k) (q 26 i) ways j)) → 4 - m1 < n → ∀ (H : Heap) (locs : List Loc), va_P D vwCl (WM cy mo a f g r q) H → va_S (AM mo a) s.heap H locs → ∀ (ls : Array Slot), lv_has ls 7 [(6, .int (nI m1)), (5, .int x5), (4, .int (nI i)), (3, .int (nI k)), (2, .int y2), (0, .ref mo), (1, .int ways)] → W p l e (headSpec wsX10_tells ({ frames := 3, cells := 0, slots := 0, locals := 78 })).room s m #[Value.ref mo, Value.int ways] below meth c H locs 0 0 (MQ below (va_Qi (fun r0 u => u = (f, g, r, q) ∧ (Bo r0 (telA (q 26) (f 23) (f 24).toNatClampNeg (f 25).toNatClampNeg ways))) (mB D cy mo a) (AM mo a)) #[Value.ref mo, Value.int ways] s 0 0 (AM mo a)) (F0 m 27 ls []) := by
                intro n
                induction n with
                | zero => intro m1 x5  j27_0 j27_1 hn; exact absurd hn (Nat.not_lt_zero _)
                | succ n ih_27 =>
                  intro m1 x5  j27_0 j27_1 hn_27 H locs hP hS ls hl
                  have im1 : (nI m1).toInt = (m1 : Int) := nI_toInt (by omega)
                  refine lv_iload hx hb dX10_tells_27 (lv_at hl 0 rfl) ?_
                  refine lv_iconst (v := 4) hx hb dX10_tells_29 (by decide) ?_
                  refine lv_icmp_ge (tgt := 90) hx hb dX10_tells_30 (by decide) (fun c30 => ?_) (fun c30 => ?_)
                  · skip
                    have d30 := c30
                    rw [fa_le] at d30
                    refine lv_iload_n hx hb dX10_tells_90 rfl (lv_at hl 4 rfl) ?_
                    refine lv_if_eq (tgt := 103) hx hb dX10_tells_91 (by decide) (fun c91 => ?_) (fun c91 => ?_)
                    · skip
                      have d91 := c91
                      rw [fa_eq] at d91
                      refine lv_iconst (v := 0) hx hb dX10_tells_103 (by decide) ?_
                      refine lv_istore_n (lv' := [(2, .int (0 : Int32)), (6, .int (nI m1)), (5, .int x5), (4, .int (nI i)), (3, .int (nI k)), (0, .ref mo), (1, .int ways)]) hx hb dX10_tells_104 rfl hl (by decide) rfl (fun ls hl => ?_)
                      refine lv_iinc (v := (nI (i + 1))) (lv' := [(4, .int (nI (i + 1))), (2, .int (0 : Int32)), (6, .int (nI m1)), (5, .int x5), (3, .int (nI k)), (0, .ref mo), (1, .int ways)]) hx hb dX10_tells_105 hl (k := 3) rfl (nI_1 _) (by decide) rfl (fun ls hl => ?_)
                      refine lv_goto (tgt := 15) hx hb dX10_tells_108 (by decide) ?_
                      exact ih_15 (i + 1) (0 : Int32) (by omega) (by first | exact ts_c (Q := fun b => ∃ j, j < 4 ∧ unl (f 24).toNatClampNeg (f 25).toNatClampNeg (q 26 k) (q 26 b) ways j) j15_1 (ts_27 (show m1 = 4 by omega) j27_1) c91 c96 | exact ts_a (Q := fun b => ∃ j, j < 4 ∧ unl (f 24).toNatClampNeg (f 25).toNatClampNeg (q 26 k) (q 26 b) ways j) j15_1 c91 | exact ts_b (Q := fun b => ∃ j, j < 4 ∧ unl (f 24).toNatClampNeg (f 25).toNatClampNeg (q 26 k) (q 26 b) ways j) (ts_27 (show m1 = 4 by omega) j27_1) c96) (by first | (clear j27_1; omega) | omega) _ _ hP hS ls (lv_sub hl [0, 4, 1, 5, 6] rfl)
                    · skip
                      have d91 := c91
                      rw [fa_eq] at d91
                      refine lv_iload hx hb dX10_tells_94 (lv_at hl 1 rfl) ?_
                      refine lv_if_eq (tgt := 103) hx hb dX10_tells_96 (by decide) (fun c96 => ?_) (fun c96 => ?_)
                      · skip
                        have d96 := c96
                        rw [fa_eq] at d96
                        refine lv_iconst (v := 0) hx hb dX10_tells_103 (by decide) ?_
                        refine lv_istore_n (lv' := [(2, .int (0 : Int32)), (6, .int (nI m1)), (5, .int x5), (4, .int (nI i)), (3, .int (nI k)), (0, .ref mo), (1, .int ways)]) hx hb dX10_tells_104 rfl hl (by decide) rfl (fun ls hl => ?_)
                        refine lv_iinc (v := (nI (i + 1))) (lv' := [(4, .int (nI (i + 1))), (2, .int (0 : Int32)), (6, .int (nI m1)), (5, .int x5), (3, .int (nI k)), (0, .ref mo), (1, .int ways)]) hx hb dX10_tells_105 hl (k := 3) rfl (nI_1 _) (by decide) rfl (fun ls hl => ?_)
                        refine lv_goto (tgt := 15) hx hb dX10_tells_108 (by decide) ?_
                        exact ih_15 (i + 1) (0 : Int32) (by omega) (by first | exact ts_c (Q := fun b => ∃ j, j < 4 ∧ unl (f 24).toNatClampNeg (f 25).toNatClampNeg (q 26 k) (q 26 b) ways j) j15_1 (ts_27 (show m1 = 4 by omega) j27_1) c91 c96 | exact ts_a (Q := fun b => ∃ j, j < 4 ∧ unl (f 24).toNatClampNeg (f 25).toNatClampNeg (q 26 k) (q 26 b) ways j) j15_1 c91 | exact ts_b (Q := fun b => ∃ j, j < 4 ∧ unl (f 24).toNatClampNeg (f 25).toNatClampNeg (q 26 k) (q 26 b) ways j) (ts_27 (show m1 = 4 by omega) j27_1) c96) (by first | (clear j27_1; omega) | omega) _ _ hP hS ls (lv_sub hl [0, 4, 1, 5, 6] rfl)
                      · skip
                        have d96 := c96
                        rw [fa_eq] at d96
                        refine lv_iconst (v := 1) hx hb dX10_tells_99 (by decide) ?_
                        refine lv_goto (tgt := 104) hx hb dX10_tells_100 (by decide) ?_
                        refine lv_istore_n (lv' := [(2, .int (1 : Int32)), (6, .int (nI m1)), (5, .int x5), (4, .int (nI i)), (3, .int (nI k)), (0, .ref mo), (1, .int ways)]) hx hb dX10_tells_104 rfl hl (by decide) rfl (fun ls hl => ?_)
                        refine lv_iinc (v := (nI (i + 1))) (lv' := [(4, .int (nI (i + 1))), (2, .int (1 : Int32)), (6, .int (nI m1)), (5, .int x5), (3, .int (nI k)), (0, .ref mo), (1, .int ways)]) hx hb dX10_tells_105 hl (k := 3) rfl (nI_1 _) (by decide) rfl (fun ls hl => ?_)
                        refine lv_goto (tgt := 15) hx hb dX10_tells_108 (by decide) ?_
                        exact ih_15 (i + 1) (1 : Int32) (by omega) (by first | exact ts_c (Q := fun b => ∃ j, j < 4 ∧ unl (f 24).toNatClampNeg (f 25).toNatClampNeg (q 26 k) (q 26 b) ways j) j15_1 (ts_27 (show m1 = 4 by omega) j27_1) c91 c96 | exact ts_a (Q := fun b => ∃ j, j < 4 ∧ unl (f 24).toNatClampNeg (f 25).toNatClampNeg (q 26 k) (q 26 b) ways j) j15_1 c91 | exact ts_b (Q := fun b => ∃ j, j < 4 ∧ unl (f 24).toNatClampNeg (f 25).toNatClampNeg (q 26 k) (q 26 b) ways j) (ts_27 (show m1 = 4 by omega) j27_1) c96) (by first | (clear j27_1; omega) | omega) _ _ hP hS ls (lv_sub hl [0, 4, 1, 5, 6] rfl)
                  · skip
                    have d30 := c30
                    rw [fa_le] at d30
                    refine lv_iload hx hb dX10_tells_33 (lv_at hl 1 rfl) ?_
                    refine lv_if_ne (tgt := 77) hx hb dX10_tells_35 (by decide) (fun c35 => ?_) (fun c35 => ?_)
                    · skip
                      have d35 := c35
                      rw [fa_eq] at d35
                      refine lv_iconst (v := 1) hx hb dX10_tells_77 (by decide) ?_
                      refine lv_goto (tgt := 82) hx hb dX10_tells_78 (by decide) ?_
                      refine lv_istore (lv' := [(5, .int (1 : Int32)), (6, .int (nI m1)), (4, .int (nI i)), (3, .int (nI k)), (2, .int y2), (0, .ref mo), (1, .int ways)]) hx hb dX10_tells_82 hl (by decide) rfl (fun ls hl => ?_)
                      refine lv_iinc (v := (nI (m1 + 1))) (lv' := [(6, .int (nI (m1 + 1))), (5, .int (1 : Int32)), (4, .int (nI i)), (3, .int (nI k)), (2, .int y2), (0, .ref mo), (1, .int ways)]) hx hb dX10_tells_84 hl (k := 1) rfl (nI_1 _) (by decide) rfl (fun ls hl => ?_)
                      refine lv_goto (tgt := 27) hx hb dX10_tells_87 (by decide) ?_
                      exact ih_27 (m1 + 1) (1 : Int32) (by omega) (by
                                                                                          first
                                                                                          | exact Or.inl ⟨rfl, m1, by omega, hB.trans c45, b74⟩
                                                                                          | exact Or.inl ⟨rfl, by
                                                                                              rcases j27_1 with ⟨_, j9, h9, y9⟩ | ⟨z9, _⟩
                                                                                              · exact ⟨j9, by omega, y9⟩
                                                                                              · exact absurd z9 c35⟩
                                                                                          | exact Or.inr ⟨rfl, fun j hj => by
                                                                                              by_cases e9 : j = m1
                                                                                              · rw [e9]; first | exact fun z9 => c45 (hB.symm.trans z9.1) | exact fun z9 => z9.2 b74
                                                                                              · rcases j27_1 with ⟨z9, _⟩ | ⟨_, z9⟩
                                                                                                · exact absurd (z9.symm.trans c35) (by decide)
                                                                                                · exact z9 j (by omega)⟩) (by omega) _ _ hP hS ls (lv_sub hl [0, 1, 2, 3, 4, 5, 6] rfl)
                    · skip
                      have d35 := c35
                      rw [fa_eq] at d35
                      refine lv_iload_n hx hb dX10_tells_38 rfl (lv_at hl 6 rfl) ?_
                      refine lv_iload hx hb dX10_tells_39 (lv_at hl 0 rfl) ?_
                      refine lv_ishr hx hb dX10_tells_41 ?_
                      refine lv_topi (fun v41 e41 => ?_)
                      refine lv_iconst (v := 1) hx hb dX10_tells_42 (by decide) ?_
                      refine lv_iand hx hb dX10_tells_43 ?_
                      refine lv_topi (fun v43 e43 => ?_)
                      refine lv_iconst (v := 1) hx hb dX10_tells_44 (by decide) ?_
                      have hB : gB ways m1 = v43 := by rw [e43, e41]; rfl
                      refine lv_icmp_ne (tgt := 81) hx hb dX10_tells_45 (by decide) (fun c45 => ?_) (fun c45 => ?_)
                      · skip
                        have d45 := c45
                        rw [fa_eq] at d45
                        refine lv_iconst (v := 0) hx hb dX10_tells_81 (by decide) ?_
                        refine lv_istore (lv' := [(5, .int (0 : Int32)), (6, .int (nI m1)), (4, .int (nI i)), (3, .int (nI k)), (2, .int y2), (0, .ref mo), (1, .int ways)]) hx hb dX10_tells_82 hl (by decide) rfl (fun ls hl => ?_)
                        refine lv_iinc (v := (nI (m1 + 1))) (lv' := [(6, .int (nI (m1 + 1))), (5, .int (0 : Int32)), (4, .int (nI i)), (3, .int (nI k)), (2, .int y2), (0, .ref mo), (1, .int ways)]) hx hb dX10_tells_84 hl (k := 1) rfl (nI_1 _) (by decide) rfl (fun ls hl => ?_)
                        refine lv_goto (tgt := 27) hx hb dX10_tells_87 (by decide) ?_
                        exact ih_27 (m1 + 1) (0 : Int32) (by omega) (by
                                                                                          first
                                                                                          | exact Or.inl ⟨rfl, m1, by omega, hB.trans c45, b74⟩
                                                                                          | exact Or.inl ⟨rfl, by
                                                                                              rcases j27_1 with ⟨_, j9, h9, y9⟩ | ⟨z9, _⟩
                                                                                              · exact ⟨j9, by omega, y9⟩
                                                                                              · exact absurd z9 c35⟩
                                                                                          | exact Or.inr ⟨rfl, fun j hj => by
                                                                                              by_cases e9 : j = m1
                                                                                              · rw [e9]; first | exact fun z9 => c45 (hB.symm.trans z9.1) | exact fun z9 => z9.2 b74
                                                                                              · rcases j27_1 with ⟨z9, _⟩ | ⟨_, z9⟩
                                                                                                · exact absurd (z9.symm.trans c35) (by decide)
                                                                                                · exact z9 j (by omega)⟩) (by omega) _ _ hP hS ls (lv_sub hl [0, 1, 2, 3, 4, 5, 6] rfl)
                      · skip
                        have d45 := c45
                        rw [fa_eq] at d45
                        have hLw := hI.2.2.2.1 (by omega)
                        refine lv_aload_n hx hb dX10_tells_48 rfl (lv_at hl 5 rfl) ?_
                        refine m_get (v := .int (f 24)) hx hb hts hin hown hK hP 24 (by decide) rfl (hts (.fieldLink RX10 233 "ShadowBenchModel" "listWide" "I") (by decide +kernel)) rfl dX10_tells_49 ?_
                        refine lv_aload_n hx hb dX10_tells_52 rfl (lv_at hl 5 rfl) ?_
                        refine m_get (v := .int (f 25)) hx hb hts hin hown hK hP 25 (by decide) rfl (hts (.fieldLink RX10 236 "ShadowBenchModel" "listHigh" "I") (by decide +kernel)) rfl dX10_tells_53 ?_
                        refine lv_aload_n hx hb dX10_tells_56 rfl (lv_at hl 5 rfl) ?_
                        refine m_get (v := .ref (a 26)) hx hb hts hin hown hK hP 26 (by decide) rfl (hts (.fieldLink RX10 52 "ShadowBenchModel" "list" "[J") (by decide +kernel)) rfl dX10_tells_57 ?_
                        refine lv_iload_n hx hb dX10_tells_60 rfl (lv_at hl 3 rfl) ?_
                        refine m_lald (w := (q 26)) hx hb hK hP 14 rfl (vp_in_iff.mpr ⟨by omega, by omega⟩) dX10_tells_61 ?_
                        refine lv_topl (fun v61 e61 => ?_)
                        have f61 : v61 = q 26 k := by rw [e61, nI_clamp (by omega)]
                        refine lv_aload_n hx hb dX10_tells_62 rfl (lv_at hl 5 rfl) ?_
                        refine m_get (v := .ref (a 26)) hx hb hts hin hown hK hP 26 (by decide) rfl (hts (.fieldLink RX10 52 "ShadowBenchModel" "list" "[J") (by decide +kernel)) rfl dX10_tells_63 ?_
                        refine lv_iload hx hb dX10_tells_66 (lv_at hl 2 rfl) ?_
                        refine m_lald (w := (q 26)) hx hb hK hP 14 rfl (vp_in_iff.mpr ⟨by omega, by omega⟩) dX10_tells_68 ?_
                        refine lv_topl (fun v68 e68 => ?_)
                        have f68 : v68 = q 26 i := by rw [e68, nI_clamp (by omega)]
                        refine lv_iload hx hb dX10_tells_69 (lv_at hl 0 rfl) ?_
                        refine m_pu (As := [.int (f 24), .int (f 25), .long v61, .long v68, .int (nI m1)]) (rest := []) ⟨hx, hb, hml, hown, hts⟩ (c_X10_areAlike_x l (f 24) (f 25) v61 v68 (nI m1) hLw.1 hLw.2 (by omega)) (va_cwS 5 hts gX10_tells_X10_areAlike rfl rfl rfl (by decide +kernel) ⟨Nat.le_of_ble_eq_true rfl, Nat.le_of_ble_eq_true rfl⟩) hP rfl hl.1 rfl (Nat.le_of_ble_eq_true rfl) dX10_tells_71 ⟨Nat.le_of_ble_eq_true rfl, Nat.le_of_ble_eq_true rfl⟩ hS (fun r71 H locs q71 hP hS => ?_)
                        rw [nI_clamp (n := m1) (by omega), f61, f68] at q71
                        refine lv_if_ne (tgt := 81) hx hb dX10_tells_74 (by decide) (fun c74 => ?_) (fun c74 => ?_)
                        · skip
                          have b74 := bo_t q71 c74
                          refine lv_iconst (v := 0) hx hb dX10_tells_81 (by decide) ?_
                          refine lv_istore (lv' := [(5, .int (0 : Int32)), (6, .int (nI m1)), (4, .int (nI i)), (3, .int (nI k)), (2, .int y2), (0, .ref mo), (1, .int ways)]) hx hb dX10_tells_82 hl (by decide) rfl (fun ls hl => ?_)
                          refine lv_iinc (v := (nI (m1 + 1))) (lv' := [(6, .int (nI (m1 + 1))), (5, .int (0 : Int32)), (4, .int (nI i)), (3, .int (nI k)), (2, .int y2), (0, .ref mo), (1, .int ways)]) hx hb dX10_tells_84 hl (k := 1) rfl (nI_1 _) (by decide) rfl (fun ls hl => ?_)
                          refine lv_goto (tgt := 27) hx hb dX10_tells_87 (by decide) ?_
                          exact ih_27 (m1 + 1) (0 : Int32) (by omega) (by
                                                                                          first
                                                                                          | exact Or.inl ⟨rfl, m1, by omega, hB.trans c45, b74⟩
                                                                                          | exact Or.inl ⟨rfl, by
                                                                                              rcases j27_1 with ⟨_, j9, h9, y9⟩ | ⟨z9, _⟩
                                                                                              · exact ⟨j9, by omega, y9⟩
                                                                                              · exact absurd z9 c35⟩
                                                                                          | exact Or.inr ⟨rfl, fun j hj => by
                                                                                              by_cases e9 : j = m1
                                                                                              · rw [e9]; first | exact fun z9 => c45 (hB.symm.trans z9.1) | exact fun z9 => z9.2 b74
                                                                                              · rcases j27_1 with ⟨z9, _⟩ | ⟨_, z9⟩
                                                                                                · exact absurd (z9.symm.trans c35) (by decide)
                                                                                                · exact z9 j (by omega)⟩) (by omega) _ _ hP hS ls (lv_sub hl [0, 1, 2, 3, 4, 5, 6] rfl)
                        · skip
                          have b74 := bo_f q71 c74
                          refine lv_iconst (v := 1) hx hb dX10_tells_77 (by decide) ?_
                          refine lv_goto (tgt := 82) hx hb dX10_tells_78 (by decide) ?_
                          refine lv_istore (lv' := [(5, .int (1 : Int32)), (6, .int (nI m1)), (4, .int (nI i)), (3, .int (nI k)), (2, .int y2), (0, .ref mo), (1, .int ways)]) hx hb dX10_tells_82 hl (by decide) rfl (fun ls hl => ?_)
                          refine lv_iinc (v := (nI (m1 + 1))) (lv' := [(6, .int (nI (m1 + 1))), (5, .int (1 : Int32)), (4, .int (nI i)), (3, .int (nI k)), (2, .int y2), (0, .ref mo), (1, .int ways)]) hx hb dX10_tells_84 hl (k := 1) rfl (nI_1 _) (by decide) rfl (fun ls hl => ?_)
                          refine lv_goto (tgt := 27) hx hb dX10_tells_87 (by decide) ?_
                          exact ih_27 (m1 + 1) (1 : Int32) (by omega) (by
                                                                                          first
                                                                                          | exact Or.inl ⟨rfl, m1, by omega, hB.trans c45, b74⟩
                                                                                          | exact Or.inl ⟨rfl, by
                                                                                              rcases j27_1 with ⟨_, j9, h9, y9⟩ | ⟨z9, _⟩
                                                                                              · exact ⟨j9, by omega, y9⟩
                                                                                              · exact absurd z9 c35⟩
                                                                                          | exact Or.inr ⟨rfl, fun j hj => by
                                                                                              by_cases e9 : j = m1
                                                                                              · rw [e9]; first | exact fun z9 => c45 (hB.symm.trans z9.1) | exact fun z9 => z9.2 b74
                                                                                              · rcases j27_1 with ⟨z9, _⟩ | ⟨_, z9⟩
                                                                                                · exact absurd (z9.symm.trans c35) (by decide)
                                                                                                · exact z9 j (by omega)⟩) (by omega) _ _ hP hS ls (lv_sub hl [0, 1, 2, 3, 4, 5, 6] rfl)
              exact loop_27 (4 + 1) 0 (0 : Int32) (by omega) (Or.inr ⟨rfl, fun j h => absurd h (Nat.not_lt_zero _)⟩) (by omega) _ _ hP hS ls (lv_sub hl [0, 1, 2, 3, 4, 5, 6] rfl)
        exact loop_15 (12 + 1) 0 x2 (by omega) (by rcases j4_1 with ⟨z, y⟩ | ⟨z, y⟩; exact Or.inl ⟨z, y, fun b h => absurd h (Nat.not_lt_zero _)⟩; exact Or.inr ⟨z, fun u9 => y u9.1⟩) (by omega) _ _ hP hS ls (lv_sub hl [0, 1, 2, 3, 4] rfl)
  exact loop_4 (12 + 1) 0 (1 : Int32) (by omega) (Or.inl ⟨rfl, fun a b h => absurd h (Nat.not_lt_zero _)⟩) (by omega) _ _ hP hS ls (lv_sub hl [0, 1, 2, 3] rfl)
set_option maxHeartbeats 4000000 in
set_option maxRecDepth 100000 in
theorem c_X10_ways_x (l : Launch) (D : va_G) (cy : Nat → ClassId) (mo : Nat) (a : Nat → Nat) (f : Nat → Int32) (g : Nat → Int64) (r : Nat → Nat → Int32) (q : Nat → Nat → Int64)  (hD : DM cy mo a) (hI : MI f r) : Mi l D cy mo a yX10_ways wsX10_ways ({ frames := 4, cells := 0, slots := 0, locals := 104 }) f g r q [] (fun r0 u => u = ((upd f 0 (0 : Int32)), g, r, q) ∧ (wyA (fun s => telA (q 26) (f 23) (f 24).toNatClampNeg (f 25).toNatClampNeg (nI s)) r0)) := by
  refine Met.ofW (cc := cX10_ways) (maxL := 3) (ret := (some .int)) (by decide) rfl ?_
  intro p e s m args below meth c s₁ B hml hv
  obtain ⟨rfl, hP, hK⟩ := hv
  have hx := B.exec
  have hb := B.bytes
  have hr := B.returns
  have hts := atoms_spec (ws := wsX10_ways) B.pre
  have hin : ∀ w ∈ u_ws RX10 TX10 35, w ∈ wsX10_ways := by decide +kernel
  have hown : s.vm.findClass RX10 = some m.cls := findClass_of_methodNamed B.named
  have hlocks := B.notSynchronized
  have hS : va_S (AM mo a) s.heap s.heap [] := va_S.rf
  have hl := lv_entry ([.ref mo]) (n := 3) (Nat.le_of_ble_eq_true rfl)
  rw [lg_entry_eq]
  generalize (lg_sl ([.ref mo]) ++ List.replicate (3 - (lg_sl ([.ref mo])).length) Slot.unset).toArray = ls at hl ⊢
  have hl : lv_has ls 3 [(0, .ref mo)] := hl
  have k_m2 : (-2 : Int32).toInt = -2 := by decide
  have k_0 : (0 : Int32).toInt = 0 := by decide
  have k_4 : (4 : Int32).toInt = 4 := by decide
  have k_16 : (16 : Int32).toInt = 16 := by decide
  refine lv_aload_n hx hb dX10_ways_0 rfl (lv_at hl 0 rfl) ?_
  refine lv_iconst (v := 0) hx hb dX10_ways_1 (by decide) ?_
  refine m_put (v := .int (0 : Int32)) (ty := .int) hx hb hts hin hown hK hP hD hS 0 (by decide) rfl (hts (.fieldLink RX10 79 "ShadowBenchModel" "thrown" "I") (by decide +kernel)) rfl (by decide +kernel) rfl rfl (upd f 0 (0 : Int32)) g rfl dX10_ways_2 (fun H locs hP hS => ?_)
  refine lv_iconst (v := 0) hx hb dX10_ways_5 (by decide) ?_
  refine lv_istore_n (lv' := [(1, .int (0 : Int32)), (0, .ref mo)]) hx hb dX10_ways_6 rfl hl (by decide) rfl (fun ls hl => ?_)
  have loop_7 : ∀ (n : Nat) (k : Nat), (k ≤ 5) → (∀ m t, m < k → t < 16 → ¬ (pc4 t = m ∧ telA (q 26) (f 23) (f 24).toNatClampNeg (f 25).toNatClampNeg (nI t))) → 5 - k < n → ∀ (H : Heap) (locs : List Loc), va_P D vwCl (WM cy mo a (upd f 0 (0 : Int32)) g r q) H → va_S (AM mo a) s.heap H locs → ∀ (ls : Array Slot), lv_has ls 3 [(1, .int (nI k)), (0, .ref mo)] → W p l e (headSpec wsX10_ways ({ frames := 4, cells := 0, slots := 0, locals := 104 })).room s m #[Value.ref mo] below meth c H locs 0 0 (MQ below (va_Qi (fun r0 u => u = ((upd f 0 (0 : Int32)), g, r, q) ∧ (wyA (fun s => telA (q 26) (f 23) (f 24).toNatClampNeg (f 25).toNatClampNeg (nI s)) r0)) (mB D cy mo a) (AM mo a)) #[Value.ref mo] s 0 0 (AM mo a)) (F0 m 7 ls []) := by
    intro n
    induction n with
    | zero => intro k  j7_0 j7_1 hn; exact absurd hn (Nat.not_lt_zero _)
    | succ n ih_7 =>
      intro k  j7_0 j7_1 hn_7 H locs hP hS ls hl
      have ik : (nI k).toInt = (k : Int) := nI_toInt (by omega)
      refine lv_iload_n hx hb dX10_ways_7 rfl (lv_at hl 0 rfl) ?_
      refine lv_iconst (v := 4) hx hb dX10_ways_8 (by decide) ?_
      refine lv_icmp_gt (tgt := 51) hx hb dX10_ways_9 (by decide) (fun c9 => ?_) (fun c9 => ?_)
      · skip
        have d9 := c9
        rw [fa_lt] at d9
        refine lv_bipush (v := (-2)) hx hb dX10_ways_51 (by decide) ?_
        exact W.iret (v := ((-2) : Int32)) hx hb hr (fun t ht hW => ⟨⟨_, ((upd f 0 (0 : Int32)), g, r, q), rfl, ⟨rfl, (Or.inr ⟨rfl, fun m9 t9 h9 h8 => j7_1 m9 t9 (by omega) h8⟩)⟩, by unfold mB; rw [ht]; exact hP⟩, hS.F ht⟩) hS.2.2 dX10_ways_53
      · skip
        have d9 := c9
        rw [fa_lt] at d9
        refine lv_iconst (v := 0) hx hb dX10_ways_12 (by decide) ?_
        refine lv_istore_n (lv' := [(2, .int (0 : Int32)), (1, .int (nI k)), (0, .ref mo)]) hx hb dX10_ways_13 rfl hl (by decide) rfl (fun ls hl => ?_)
        have loop_14 : ∀ (n : Nat) (i : Nat), (i ≤ 16) → (∀ t, t < i → ¬ (pc4 t = k ∧ telA (q 26) (f 23) (f 24).toNatClampNeg (f 25).toNatClampNeg (nI t))) → 16 - i < n → ∀ (H : Heap) (locs : List Loc), va_P D vwCl (WM cy mo a (upd f 0 (0 : Int32)) g r q) H → va_S (AM mo a) s.heap H locs → ∀ (ls : Array Slot), lv_has ls 3 [(2, .int (nI i)), (1, .int (nI k)), (0, .ref mo)] → W p l e (headSpec wsX10_ways ({ frames := 4, cells := 0, slots := 0, locals := 104 })).room s m #[Value.ref mo] below meth c H locs 0 0 (MQ below (va_Qi (fun r0 u => u = ((upd f 0 (0 : Int32)), g, r, q) ∧ (wyA (fun s => telA (q 26) (f 23) (f 24).toNatClampNeg (f 25).toNatClampNeg (nI s)) r0)) (mB D cy mo a) (AM mo a)) #[Value.ref mo] s 0 0 (AM mo a)) (F0 m 14 ls []) := by
          intro n
          induction n with
          | zero => intro i  j14_0 j14_1 hn; exact absurd hn (Nat.not_lt_zero _)
          | succ n ih_14 =>
            intro i  j14_0 j14_1 hn_14 H locs hP hS ls hl
            have ii : (nI i).toInt = (i : Int) := nI_toInt (by omega)
            refine lv_iload_n hx hb dX10_ways_14 rfl (lv_at hl 0 rfl) ?_
            refine lv_bipush (v := 16) hx hb dX10_ways_15 (by decide) ?_
            refine lv_icmp_ge (tgt := 45) hx hb dX10_ways_17 (by decide) (fun c17 => ?_) (fun c17 => ?_)
            · skip
              have d17 := c17
              rw [fa_le] at d17
              refine lv_iinc (v := (nI (k + 1))) (lv' := [(1, .int (nI (k + 1))), (2, .int (nI i)), (0, .ref mo)]) hx hb dX10_ways_45 hl (k := 1) rfl (nI_1 _) (by decide) rfl (fun ls hl => ?_)
              refine lv_goto (tgt := 7) hx hb dX10_ways_48 (by decide) ?_
              exact ih_7 (k + 1) (by omega) (fun m t h1 h2 => by
                                                                                          by_cases e9 : m = k
                                                                                          · rw [e9]; exact j14_1 t (by omega)
                                                                                          · exact j7_1 m t (by omega) h2) (by omega) _ _ hP hS ls (lv_sub hl [0, 2] rfl)
            · skip
              have d17 := c17
              rw [fa_le] at d17
              refine lv_iload_n hx hb dX10_ways_20 rfl (lv_at hl 0 rfl) ?_
              refine lv_i2l (v := (nI i).toInt64) hx hb dX10_ways_21 rfl ?_
              refine m_pu (As := [.long ((nI i).toInt64)]) (rest := []) ⟨hx, hb, hml, hown, hts⟩ (c_X10_countOnes l ((nI i).toInt64) ) (va_cwS 1 hts gX10_ways_X10_countOnes rfl rfl rfl (by decide +kernel) ⟨Nat.le_of_ble_eq_true rfl, Nat.le_of_ble_eq_true rfl⟩) hP rfl hl.1 rfl (Nat.le_of_ble_eq_true rfl) dX10_ways_22 ⟨Nat.le_of_ble_eq_true rfl, Nat.le_of_ble_eq_true rfl⟩ hS (fun r22 H locs q22 hP hS => ?_)
              have f22 : r22 = nI (pc4 i) := by rw [q22, rn_ones _ 36 (Nat.le_refl _), pc4_lb i (by omega)]
              have b22 := pc4_le i
              have g22 : r22 = nI k ↔ pc4 i = k := by rw [f22]; exact nI_eq (by omega) (by omega)
              refine lv_iload_n hx hb dX10_ways_25 rfl (lv_at hl 1 rfl) ?_
              refine lv_icmp_ne (tgt := 39) hx hb dX10_ways_26 (by decide) (fun c26 => ?_) (fun c26 => ?_)
              · skip
                have d26 := c26
                rw [fa_eq] at d26
                refine lv_iinc (v := (nI (i + 1))) (lv' := [(2, .int (nI (i + 1))), (1, .int (nI k)), (0, .ref mo)]) hx hb dX10_ways_39 hl (k := 0) rfl (nI_1 _) (by decide) rfl (fun ls hl => ?_)
                refine lv_goto (tgt := 14) hx hb dX10_ways_42 (by decide) ?_
                exact ih_14 (i + 1) (by omega) (fun t h1 => by
                                                                                          by_cases e9 : t = i
                                                                                          · rw [e9]; first | exact fun z9 => c26 (g22.mpr z9.1) | exact fun z9 => b34 z9.2
                                                                                          · exact j14_1 t (by omega)) (by omega) _ _ hP hS ls (lv_sub hl [0, 1, 2] rfl)
              · skip
                have d26 := c26
                rw [fa_eq] at d26
                refine lv_aload_n hx hb dX10_ways_29 rfl (lv_at hl 2 rfl) ?_
                refine lv_iload_n hx hb dX10_ways_30 rfl (lv_at hl 0 rfl) ?_
                refine m_calli (As := [.int (nI i)]) (rest := []) ⟨hx, hb, hml, hown, hts⟩ (c_X10_tells_x l D cy mo a (upd f 0 (0 : Int32)) g r q (nI i) hD hI) (cwV 1 hts gX10_ways_X10_tells rfl rfl rfl (by decide +kernel) ⟨Nat.le_of_ble_eq_true rfl, Nat.le_of_ble_eq_true rfl⟩) hK hP rfl hl.1 rfl (Nat.le_of_ble_eq_true rfl) dX10_ways_31 ⟨Nat.le_of_ble_eq_true rfl, Nat.le_of_ble_eq_true rfl⟩ hS (fun r31 u H locs q31 hP hS => ?_)
                obtain ⟨rfl, q31⟩ := q31
                have hP : va_P D vwCl (WM cy mo a (upd f 0 (0 : Int32)) g r q) H := hP
                have q31 : Bo r31 (telA ((q 26)) ((f 23)) ((f 24)).toNatClampNeg ((f 25)).toNatClampNeg (nI i)) := q31
                refine lv_if_eq (tgt := 39) hx hb dX10_ways_34 (by decide) (fun c34 => ?_) (fun c34 => ?_)
                · skip
                  have b34 := bo_f q31 c34
                  refine lv_iinc (v := (nI (i + 1))) (lv' := [(2, .int (nI (i + 1))), (1, .int (nI k)), (0, .ref mo)]) hx hb dX10_ways_39 hl (k := 0) rfl (nI_1 _) (by decide) rfl (fun ls hl => ?_)
                  refine lv_goto (tgt := 14) hx hb dX10_ways_42 (by decide) ?_
                  exact ih_14 (i + 1) (by omega) (fun t h1 => by
                                                                                          by_cases e9 : t = i
                                                                                          · rw [e9]; first | exact fun z9 => c26 (g22.mpr z9.1) | exact fun z9 => b34 z9.2
                                                                                          · exact j14_1 t (by omega)) (by omega) _ _ hP hS ls (lv_sub hl [0, 1, 2] rfl)
                · skip
                  have b34 := bo_t q31 c34
                  refine lv_iload_n hx hb dX10_ways_37 rfl (lv_at hl 0 rfl) ?_
                  exact W.iret (v := (nI i)) hx hb hr (fun t ht hW => ⟨⟨_, ((upd f 0 (0 : Int32)), g, r, q), rfl, ⟨rfl, (Or.inl ⟨k, i, (by omega), (by omega), ⟨g22.mp c26, b34⟩, rfl, j7_1, j14_1⟩)⟩, by unfold mB; rw [ht]; exact hP⟩, hS.F ht⟩) hS.2.2 dX10_ways_38
        exact loop_14 (16 + 1) 0 (by omega) (fun t h => absurd h (Nat.not_lt_zero _)) (by omega) _ _ hP hS ls (lv_sub hl [0, 1, 2] rfl)
  exact loop_7 (5 + 1) 0 (by omega) (fun m t h => absurd h (Nat.not_lt_zero _)) (by omega) _ _ hP hS ls (lv_sub hl [0, 1] rfl)
