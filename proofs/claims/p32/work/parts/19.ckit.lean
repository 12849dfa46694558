/-- the class's cells: a list of cells W (address, contents) and a kind of each address G: kind, number, number -/
abbrev cG : Type := Nat → Option (Nat × Nat × Nat)
def cIn (ws : va_W) (a : Nat) (e : va_E) : Prop := ∃ k : Nat, ws[k]? = some (a, e)
def cE (G G' : cG) : Prop := ∀ (a : Nat) (t : Nat × Nat × Nat), G a = some t → G' a = some t
def cTy (cy : Nat → ClassId) : List (ClassId × FieldType) := [(cy 0, .int), (cy 1, .long), (cy 2, .boolean), (cy 3, .object RX0), (cy 4, .object RX3), (cy 5, .object RX2)]
def cfo (w h : Nat) : Nat := w * (w - 1) / 2 * (h * (h - 1) / 2)
abbrev cqa (n : Nat) (f : Nat → Option Nat) : vp_A := (n, .inr (.inr (.inr (.inr f))))
def isBo (z : Int32) : Prop := z = 0 ∨ z = 1
/-- a job's class (1 EvenJob, 2 Job, 3 JoinedJob, 4 MarkedJob) and what it has more -/
def cJk (G : cG) (k n : Nat) (ms : List Value) : Prop := (k = 1 ∧ ms = []) ∨ (k = 2 ∧ ms = []) ∨ (k = 3 ∧ ms = []) ∨ (k = 4 ∧ n ≤ 36 ∧ ∃ c : Nat, ms = [.ref c] ∧ G c = some (0, n, 0))
/-- what a cell of a kind is: 0 int[n], 1 long[n], 2 Board(w, h), 3 a Job (its class, marks), 4 Row(n), 5 Walk, 6 Meetings, 7 ShadowBench, 8 Board[], 9 Job[], 10 Held[] -/
def cok (cy : Nat → ClassId) (G : cG) (t : Nat × Nat × Nat) (e : va_E) : Prop := match t with
  | (0, n, _) => ∃ w : Nat → Int32, e = .inl (cy 0, n, .inl w)
  | (1, n, _) => ∃ w : Nat → Int64, e = .inl (cy 1, n, .inr (.inl w))
  | (2, w, h) => (1 ≤ w ∧ w ≤ 6 ∧ 1 ≤ h ∧ h ≤ 6) ∧ ∃ a b c : Nat, e = .inr (0, [.int (nI w), .int (nI h), .int (nI (w * h)), .int (nI (2 ^ w)), .int (nI (cfo w h)), .ref a, .ref b, .ref c]) ∧ G a = some (1, 44, 0) ∧ G b = some (1, cfo w h, 0) ∧ G c = some (1, cfo w h, 0)
  | (3, k, n) => ∃ (b a w h : Nat) (tw : Int32) (x y : Int64) (ms : List Value), e = .inr (k, .ref b :: .ref a :: .int tw :: .long x :: .long y :: ms) ∧ G b = some (2, w, h) ∧ G a = some (0, 44, 0) ∧ cJk G k n ms
  | (4, n, _) => n ≤ 60 ∧ ∃ (z : Int32) (a : Nat), e = .inr (6, [.int z, .ref a]) ∧ isBo z ∧ G a = some (1, n, 0)
  | (5, _, _) => ∃ (j : Option Nat) (y tr sp : Int32) (fd : Int64) (a1 a2 a3 a4 a5 : Nat), e = .inr (7, [va_rf j, .int y, .int tr, .int sp, .long fd, .ref a1, .ref a2, .ref a3, .ref a4, .ref a5]) ∧ isBo sp ∧ (∀ x, j = some x → ∃ k n, G x = some (3, k, n)) ∧ G a1 = some (0, 6, 0) ∧ G a2 = some (0, 6, 0) ∧ G a3 = some (0, 6, 0) ∧ G a4 = some (0, 6, 0) ∧ G a5 = some (1, 6, 0)
  | (6, _, _) => ∃ (a b : Nat) (z : Int32), e = .inr (5, [.ref a, .int z, .ref b]) ∧ (0 ≤ z.toInt ∧ z.toInt ≤ 20000) ∧ G a = some (1, 20000, 0) ∧ G b = some (0, 32768, 0)
  | (7, _, _) => ∃ (bs js sh wk ll : Nat) (jc lc : Int32) (mo lb : Option Nat), e = .inr (8, [.ref bs, .ref js, .int jc, .ref sh, .ref wk, va_rf mo, .ref ll, .int lc, va_rf lb]) ∧ (0 ≤ jc.toInt ∧ jc.toInt ≤ 8) ∧ (0 ≤ lc.toInt ∧ lc.toInt ≤ 12) ∧ G bs = some (8, 36, 0) ∧ G js = some (9, 8, 0) ∧ G sh = some (10, 8, 0) ∧ G wk = some (5, 0, 0) ∧ (∀ x, mo = some x → G x = some (6, 0, 0)) ∧ G ll = some (1, 12, 0) ∧ (∀ x, lb = some x → ∃ w h, G x = some (2, w, h))
  | (8, n, _) => ∃ f : Nat → Option Nat, e = .inl (cy 3, cqa n f) ∧ ∀ i x, i < n → f i = some x → G x = some (2, i % 6 + 1, i / 6 + 1)
  | (9, n, _) => ∃ f : Nat → Option Nat, e = .inl (cy 4, cqa n f) ∧ ∀ i x, i < n → f i = some x → ∃ k n, G x = some (3, k, n)
  | (10, n, _) => ∃ f : Nat → Option Nat, e = .inl (cy 5, cqa n f) ∧ ∀ i x, i < n → f i = some x → (∃ k n, G x = some (3, k, n)) ∨ ∃ n, G x = some (4, n, 0)
  | _ => True
def cT (cy : Nat → ClassId) (G : cG) (ws : va_W) : Prop := ∀ (a : Nat) (t : Nat × Nat × Nat), G a = some t → ∃ e, cIn ws a e ∧ cok cy G t e
def cUp (ws : va_W) (a : Nat) (e : va_E) (ws1 : va_W) : Prop := cIn ws1 a e ∧ ∀ b e', b ≠ a → cIn ws b e' → cIn ws1 b e'
/-- cells outside P are as they were -/
def cF (P : Nat → Prop) (ws ws1 : va_W) : Prop := ∀ (a : Nat) (e : va_E), ¬ P a → cIn ws a e → cIn ws1 a e
/-- of a kind that ch names -/
def cK (ch : Nat → Bool) (G : cG) (a : Nat) : Prop := ∃ t, G a = some t ∧ ch t.1 = true
theorem cE.rf {G : cG} : cE G G := fun _ _ h => h
theorem cE.tr {G G1 G2 : cG} (h : cE G G1) (h' : cE G1 G2) : cE G G2 := fun a t z => h' a t (h a t z)
theorem cF.rf {P : Nat → Prop} {ws : va_W} : cF P ws ws := fun _ _ _ h => h
theorem cF.tr {P : Nat → Prop} {w w1 w2 : va_W} (h : cF P w w1) (h' : cF P w1 w2) : cF P w w2 := fun a e hp hi => h' a e hp (h a e hp hi)
theorem cF.wk {P P' : Nat → Prop} {w w1 : va_W} (h : cF P w w1) (hc : ∀ a, P a → P' a) : cF P' w w1 := fun a e hp hi => h a e (fun z => hp (hc a z)) hi
theorem cK.no {ch : Nat → Bool} {G : cG} {a : Nat} {t : Nat × Nat × Nat} (hg : G a = some t) (hc : ch t.1 = false) : ¬ cK ch G a := by
  rintro ⟨t', h1, h2⟩
  rw [hg] at h1
  cases h1
  rw [hc] at h2
  cases h2
theorem cK.no0 {ch : Nat → Bool} {G : cG} {a : Nat} (hg : G a = none) : ¬ cK ch G a := by
  rintro ⟨t', h1, h2⟩
  rw [hg] at h1
  cases h1
theorem cok.mono {cy : Nat → ClassId} {G G' : cG} (hE : cE G G') {t : Nat × Nat × Nat} {e : va_E} (h : cok cy G t e) : cok cy G' t e := by
  obtain ⟨k, n, m⟩ := t
  match k, h with
  | 0, h => exact h
  | 1, h => exact h
  | 2, ⟨h0, a, b, c, h1, h2, h3, h4⟩ => exact ⟨h0, a, b, c, h1, hE _ _ h2, hE _ _ h3, hE _ _ h4⟩
  | 3, ⟨b, a, w, h, tw, x, y, ms, h1, h2, h3, h4⟩ =>
    refine ⟨b, a, w, h, tw, x, y, ms, h1, hE _ _ h2, hE _ _ h3, ?_⟩
    rcases h4 with h4 | h4 | h4 | ⟨h4, h5, c, h6, h7⟩
    · exact Or.inl h4
    · exact Or.inr (Or.inl h4)
    · exact Or.inr (Or.inr (Or.inl h4))
    · exact Or.inr (Or.inr (Or.inr ⟨h4, h5, c, h6, hE _ _ h7⟩))
  | 4, ⟨h0, z, a, h1, h2, h3⟩ => exact ⟨h0, z, a, h1, h2, hE _ _ h3⟩
  | 5, ⟨j, y, tr, sp, fd, a1, a2, a3, a4, a5, h1, h2, h3, h4, h5, h6, h7, h8⟩ => exact ⟨j, y, tr, sp, fd, a1, a2, a3, a4, a5, h1, h2, fun x hx => (h3 x hx).elim fun k z => z.elim fun n z => ⟨k, n, hE _ _ z⟩, hE _ _ h4, hE _ _ h5, hE _ _ h6, hE _ _ h7, hE _ _ h8⟩
  | 6, ⟨a, b, z, h1, h2, h3, h4⟩ => exact ⟨a, b, z, h1, h2, hE _ _ h3, hE _ _ h4⟩
  | 7, ⟨bs, js, sh, wk, ll, jc, lc, mo, lb, h1, h2, h3, h4, h5, h6, h7, h8, h9, h10⟩ => exact ⟨bs, js, sh, wk, ll, jc, lc, mo, lb, h1, h2, h3, hE _ _ h4, hE _ _ h5, hE _ _ h6, hE _ _ h7, fun x hx => hE _ _ (h8 x hx), hE _ _ h9, fun x hx => (h10 x hx).elim fun k z => z.elim fun n z => ⟨k, n, hE _ _ z⟩⟩
  | 8, ⟨f, h1, h2⟩ => exact ⟨f, h1, fun i x hi hx => hE _ _ (h2 i x hi hx)⟩
  | 9, ⟨f, h1, h2⟩ => exact ⟨f, h1, fun i x hi hx => (h2 i x hi hx).elim fun k z => z.elim fun n z => ⟨k, n, hE _ _ z⟩⟩
  | 10, ⟨f, h1, h2⟩ =>
    refine ⟨f, h1, fun i x hi hx => ?_⟩
    rcases h2 i x hi hx with ⟨k, n, z⟩ | ⟨n, z⟩
    · exact Or.inl ⟨k, n, hE _ _ z⟩
    · exact Or.inr ⟨n, hE _ _ z⟩
  | _ + 11, h => exact h
theorem cne {G : cG} {a b : Nat} {s t : Nat × Nat × Nat} (ha : G a = some s) (hb : G b = some t) (h : s.1 ≠ t.1) : a ≠ b := by
  rintro rfl
  rw [ha] at hb
  cases hb
  exact h rfl
theorem cIn.eq {A : Nat → Prop} {ws : va_W} (hD : va_D A ws) {a : Nat} {e e' : va_E} (h : cIn ws a e) (h' : cIn ws a e') : e = e' := by
  obtain ⟨k, hk⟩ := h
  obtain ⟨j, hj⟩ := h'
  have := hD.1 k j _ _ hk hj rfl
  subst this
  rw [hk] at hj
  cases hj
  rfl
theorem cUp.set {ws : va_W} {k a : Nat} {e0 e : va_E} (hk : ws[k]? = some (a, e0)) : cUp ws a e (ws.set k (a, e)) := by
  have hlt : k < ws.length := (List.getElem?_eq_some_iff.mp hk).1
  refine ⟨⟨k, by rw [List.getElem?_set_self hlt]⟩, fun b e' hb hi => ?_⟩
  obtain ⟨j, hj⟩ := hi
  refine ⟨j, ?_⟩
  rw [List.getElem?_set_ne (fun h => ?_)]
  · exact hj
  · subst h
    rw [hk] at hj
    cases hj
    exact hb rfl
theorem cT.up {cy : Nat → ClassId} {G : cG} {ws ws1 : va_W} {a : Nat} {e : va_E} {t : Nat × Nat × Nat} (h : cT cy G ws) (hU : cUp ws a e ws1) (hg : G a = some t) (he : cok cy G t e) : cT cy G ws1 := by
  intro b t' hb
  by_cases hab : b = a
  · subst hab
    rw [hg] at hb
    cases hb
    exact ⟨e, hU.1, he⟩
  · obtain ⟨e', h1, h2⟩ := h b t' hb
    exact ⟨e', hU.2 b e' hab h1, h2⟩
theorem cF.up {P : Nat → Prop} {ws ws1 : va_W} {a : Nat} {e : va_E} (hU : cUp ws a e ws1) (ha : P a) : cF P ws ws1 := fun b e' hb hi => hU.2 b e' (fun h => hb (h ▸ ha)) hi
/-- a new cell -/
theorem cT.add {cy : Nat → ClassId} {G : cG} {ws : va_W} {a : Nat} {e : va_E} {t : Nat × Nat × Nat} (h : cT cy G ws) (hn : G a = none) (he : cok cy (va_up G a (some t)) t e) : cT cy (va_up G a (some t)) (ws ++ [(a, e)]) := by
  have hE : cE G (va_up G a (some t)) := fun b t' hb => by
    unfold va_up
    split
    · rename_i hz; subst hz; rw [hn] at hb; cases hb
    · exact hb
  intro b t' hb
  unfold va_up at hb
  split at hb
  · rename_i hz
    subst hz
    cases hb
    exact ⟨e, ⟨ws.length, by simp⟩, he⟩
  · obtain ⟨e', ⟨k, hk⟩, h2⟩ := h b t' hb
    exact ⟨e', ⟨k, by rw [List.getElem?_append_left (List.getElem?_eq_some_iff.mp hk).1]; exact hk⟩, h2.mono hE⟩
theorem cE.add {G : cG} {a : Nat} {t : Nat × Nat × Nat} (hn : G a = none) : cE G (va_up G a (some t)) := fun b t' hb => by
  unfold va_up
  split
  · rename_i hz; subst hz; rw [hn] at hb; cases hb
  · exact hb
theorem cIn.add {ws : va_W} {a : Nat} {e : va_E} {q : Nat × va_E} (h : cIn ws a e) : cIn (ws ++ [q]) a e := by
  obtain ⟨k, hk⟩ := h
  exact ⟨k, by rw [List.getElem?_append_left (List.getElem?_eq_some_iff.mp hk).1]; exact hk⟩
theorem cIn.new {ws : va_W} {a : Nat} {e : va_E} : cIn (ws ++ [(a, e)]) a e := ⟨ws.length, by simp⟩
theorem cG.none {cy : Nat → ClassId} {G : cG} {ws : va_W} {A : Nat → Prop} {a : Nat} {e : va_E} (h : cT cy G ws) (hD : va_D A (ws ++ [(a, e)])) : G a = none := by
  cases hg : G a with
  | none => rfl
  | some t =>
    obtain ⟨e', ⟨k, hk⟩, -⟩ := h a t hg
    have hlt : k < ws.length := (List.getElem?_eq_some_iff.mp hk).1
    have h1 : (ws ++ [(a, e)])[k]? = some (a, e') := by rw [List.getElem?_append_left hlt]; exact hk
    have h2 : (ws ++ [(a, e)])[ws.length]? = some (a, e) := by simp
    have := hD.1 k ws.length _ _ h1 h2 rfl
    omega
abbrev cS : Type := cG × va_W
def cB (D : va_G) (cy : Nat → ClassId) (A : Nat → Prop) : cS → State → Prop := fun u t => va_P D vwCl u.2 t.heap ∧ va_D A u.2 ∧ cT cy u.1 u.2
def cPc (D : va_G) (cy : Nat → ClassId) (A : Nat → Prop) (ws : va_W) (av : List Value) : Array Value → State → Prop := va_Pc av (fun U => va_P D vwCl ws U.heap ∧ va_K D vwCl (cTy cy) U ∧ ∀ q, U.heap.size ≤ q → A q)
/-- an answer that may be null -/
def cQa (post : Option Nat → cS → Prop) (B : cS → State → Prop) (A : Nat → Prop) : Array Value → State → Outcome → State → Prop := fun _ st oc t => (∃ (r : Option Nat) (u : cS), oc = .returned (some (va_rf r)) ∧ post r u ∧ B u t) ∧ va_F A st t
/-- a method of the class that answers an int, a long, nothing, a reference -/
def Ci (l : Launch) (D : va_G) (cy : Nat → ClassId) (A : Nat → Prop) (y : MethodName) (wc : List Cond) (rm : Room) (mc ms : Nat) (ws : va_W) (av : List Value) (post : Int32 → cS → Prop) : Prop := Met l y wc rm (cPc D cy A ws av) (va_Qi post (cB D cy A) A) mc ms A
def Cl (l : Launch) (D : va_G) (cy : Nat → ClassId) (A : Nat → Prop) (y : MethodName) (wc : List Cond) (rm : Room) (mc ms : Nat) (ws : va_W) (av : List Value) (post : Int64 → cS → Prop) : Prop := Met l y wc rm (cPc D cy A ws av) (va_Ql post (cB D cy A) A) mc ms A
def Cv (l : Launch) (D : va_G) (cy : Nat → ClassId) (A : Nat → Prop) (y : MethodName) (wc : List Cond) (rm : Room) (mc ms : Nat) (ws : va_W) (av : List Value) (post : cS → Prop) : Prop := Met l y wc rm (cPc D cy A ws av) (va_Qv post (cB D cy A) A) mc ms A
def Ca (l : Launch) (D : va_G) (cy : Nat → ClassId) (A : Nat → Prop) (y : MethodName) (wc : List Cond) (rm : Room) (mc ms : Nat) (ws : va_W) (av : List Value) (post : Option Nat → cS → Prop) : Prop := Met l y wc rm (cPc D cy A ws av) (cQa post (cB D cy A) A) mc ms A
theorem cy_int {D : va_G} {cl : List vw_C} {tys tys' : List (ClassId × FieldType)} {s : State} {c1 c2 : ClassId} {ty : FieldType} {i j : Nat} (hK : va_K D cl tys s) (hK' : va_K D cl tys' s) (h1 : tys[i]? = some (c1, ty)) (h2 : tys'[j]? = some (c2, ty)) (hp : ty = .int ∨ ty = .long) : c2 = c1 := by
  have a1 := (hK.2 i _ h1).2
  have a2 := (hK'.2 j _ h2).2
  rcases hp with rfl | rfl <;> exact Option.some.inj (a2.symm.trans a1)
theorem txj : ∀ k, k < 5 → TX1 k = TX3 k ∧ TX4 k = TX3 k ∧ TX5 k = TX3 k := by decide +kernel
section CR
variable {p : Program} {l : Launch} {e : Env} {R : Room} {s : State} {m : MethodId} {args : Array Value} {below : List Frame} {meth : Method} {c : Code} {H : Heap} {locs : List Loc} {cells slots : Nat} {Q : State → Prop}
variable {cc : ByteArray} {pc : Nat} {ls : Array Slot} {rest : List Value} {D : va_G} {cy : Nat → ClassId} {A : Nat → Prop} {ws : va_W} {G : cG} {H0 : Heap} {own ref : String} {index : Nat} {Ts : List Cond}
theorem t_get {C : String} {T : u_T} {N ci : Nat} (hx : p.tables.exec = Jvm.exec) (hb : c.code = cc) (hts : ∀ w ∈ Ts, w.before args s = true) (hin : ∀ w ∈ u_ws C T N, w ∈ Ts) (hown : s.vm.findClass own = some m.cls) (hK : va_K D vwCl (cTy cy) s) (hP : va_P D vwCl ws H) {o : Nat} {fs : List Value} (ho : cIn ws o (.inr (ci, fs))) (hc : vwCl[ci]? = some (C, T, N)) (k : Nat) (hk : k < N) (hlink : (Cond.fieldLink own index ref (T k).2.1 (T k).2.2.1).before args s = true) (hsame : ∀ x, s.fieldFound? (T k).1 (T k).2.1 (T k).2.2.1 = some x → s.fieldFound? ref (T k).2.1 (T k).2.2.1 = some x) {v : Value} (hv : fs[k]? = some v) (hdg : decode cc pc = .ok (.getfield index, 3))
    (kk : W p l e R s m args below meth c H locs cells slots Q (F0 m (pc + 3) ls (v :: rest))) : W p l e R s m args below meth c H locs cells slots Q (F0 m pc ls (.ref o :: rest)) := by
  obtain ⟨q0, hq⟩ := ho
  exact va_get hx hb hts hin hown hK hP q0 hq hc k hk hlink hsame hv hdg kk
theorem t_put {C : String} {T : u_T} {N ci : Nat} {ty0 : Nat → FieldType} (hx : p.tables.exec = Jvm.exec) (hb : c.code = cc) (hts : ∀ w ∈ Ts, w.before args s = true) (hin : ∀ w ∈ u_ws C T N, w ∈ Ts) (hty : ∀ k, k < N → parseFieldDescriptor (T k).2.2.1 = some (ty0 k)) (hnm : ∀ a, a < N → ∀ b, b < N → a ≠ b → (T a).2.1 ≠ (T b).2.1) (hown : s.vm.findClass own = some m.cls) (hK : va_K D vwCl (cTy cy) s) (hP : va_P D vwCl ws H) (hD : va_D A ws) (hS : va_S A H0 H locs) {o : Nat} {fs : List Value} (ho : cIn ws o (.inr (ci, fs))) (hc : vwCl[ci]? = some (C, T, N)) (k : Nat) (hk : k < N) (hlink : (Cond.fieldLink own index ref (T k).2.1 (T k).2.2.1).before args s = true) (hsame : ∀ x, s.fieldFound? (T k).1 (T k).2.1 (T k).2.2.1 = some x → s.fieldFound? ref (T k).2.1 (T k).2.2.1 = some x) (hfin : (T k).2.2.2 = false) {v : Value} (hn : narrow (ty0 k) v = v) (hfit : fits (ty0 k) v = true) (hl : k < fs.length) (hdg : decode cc pc = .ok (.putfield index, 3))
    (kk : ∀ (H1 : Heap) (locs1 : List Loc) (ws1 : va_W), cUp ws o (.inr (ci, fs.set k v)) ws1 → va_P D vwCl ws1 H1 → va_D A ws1 → va_S A H0 H1 locs1 → W p l e R s m args below meth c H1 locs1 cells slots Q (F0 m (pc + 3) ls rest)) : W p l e R s m args below meth c H locs cells slots Q (F0 m pc ls (v :: .ref o :: rest)) := by
  obtain ⟨q0, hq⟩ := ho
  exact va_put hx hb hts hin ty0 hty hnm hown hK hP hD hS q0 hq hc k hk hlink hsame hfin (hty k hk) hn hfit hl hdg (fun H1 locs1 h1 h2 h3 => kk H1 locs1 _ (cUp.set hq) h1 h2 h3)
theorem t_putF {C : String} {T : u_T} {N ci : Nat} {ty0 : Nat → FieldType} (hx : p.tables.exec = Jvm.exec) (hb : c.code = cc) (hts : ∀ w ∈ Ts, w.before args s = true) (hin : ∀ w ∈ u_ws C T N, w ∈ Ts) (hty : ∀ k, k < N → parseFieldDescriptor (T k).2.2.1 = some (ty0 k)) (hnm : ∀ a, a < N → ∀ b, b < N → a ≠ b → (T a).2.1 ≠ (T b).2.1) (hown : s.vm.findClass own = some m.cls) (hK : va_K D vwCl (cTy cy) s) (hP : va_P D vwCl ws H) (hD : va_D A ws) (hS : va_S A H0 H locs) {o : Nat} {fs : List Value} (ho : cIn ws o (.inr (ci, fs))) (hc : vwCl[ci]? = some (C, T, N)) (k : Nat) (hk : k < N) (hlink : (Cond.fieldLink own index ref (T k).2.1 (T k).2.2.1).before args s = true) (hsame : ∀ x, s.fieldFound? (T k).1 (T k).2.1 (T k).2.2.1 = some x → s.fieldFound? ref (T k).2.1 (T k).2.2.1 = some x) (hfin : (T k).2.2.2 = true) (hin2 : meth.name = "<init>") (hdecl : (T k).1 = own) {v : Value} (hn : narrow (ty0 k) v = v) (hfit : fits (ty0 k) v = true) (hl : k < fs.length) (hdg : decode cc pc = .ok (.putfield index, 3))
    (kk : ∀ (H1 : Heap) (locs1 : List Loc) (ws1 : va_W), cUp ws o (.inr (ci, fs.set k v)) ws1 → va_P D vwCl ws1 H1 → va_D A ws1 → va_S A H0 H1 locs1 → W p l e R s m args below meth c H1 locs1 cells slots Q (F0 m (pc + 3) ls rest)) : W p l e R s m args below meth c H locs cells slots Q (F0 m pc ls (v :: .ref o :: rest)) := by
  obtain ⟨q0, hq⟩ := ho
  exact va_putF hx hb hts hin ty0 hty hnm hown hK hP hD hS q0 hq hc k hk hlink hsame hfin hin2 hdecl (hty k hk) hn hfit hl hdg (fun H1 locs1 h1 h2 h3 => kk H1 locs1 _ (cUp.set hq) h1 h2 h3)
/-- a field that every job has, of a job of any class -/
theorem t_getJ (hx : p.tables.exec = Jvm.exec) (hb : c.code = cc) (hts : ∀ w ∈ Ts, w.before args s = true) (hinJ : ∀ w ∈ wsX10 ++ wsX30 ++ wsX40 ++ wsX50, w ∈ Ts) (hown : s.vm.findClass own = some m.cls) (hK : va_K D vwCl (cTy cy) s) (hP : va_P D vwCl ws H) {o kc n : Nat} {fs ms : List Value} (hJ : cJk G kc n ms) (ho : cIn ws o (.inr (kc, fs))) (k : Nat) (hk : k < 5) (hlink : (Cond.fieldLink own index ref (TX3 k).2.1 (TX3 k).2.2.1).before args s = true) (hsame : ∀ x, s.fieldFound? (TX3 k).1 (TX3 k).2.1 (TX3 k).2.2.1 = some x → s.fieldFound? ref (TX3 k).2.1 (TX3 k).2.2.1 = some x) {v : Value} (hv : fs[k]? = some v) (hdg : decode cc pc = .ok (.getfield index, 3))
    (kk : W p l e R s m args below meth c H locs cells slots Q (F0 m (pc + 3) ls (v :: rest))) : W p l e R s m args below meth c H locs cells slots Q (F0 m pc ls (.ref o :: rest)) := by
  obtain ⟨t1, t4, t5⟩ := txj k hk
  rcases hJ with ⟨rfl, -⟩ | ⟨rfl, -⟩ | ⟨rfl, -⟩ | ⟨rfl, -⟩
  · exact t_get (C := RX1) (T := TX1) (N := 5) hx hb hts (fun w h => hinJ w (by simp [h])) hown hK hP ho rfl k hk (by rw [t1]; exact hlink) (by rw [t1]; exact hsame) hv hdg kk
  · exact t_get (C := RX3) (T := TX3) (N := 5) hx hb hts (fun w h => hinJ w (by simp [h])) hown hK hP ho rfl k hk hlink hsame hv hdg kk
  · exact t_get (C := RX4) (T := TX4) (N := 5) hx hb hts (fun w h => hinJ w (by simp [h])) hown hK hP ho rfl k hk (by rw [t4]; exact hlink) (by rw [t4]; exact hsame) hv hdg kk
  · exact t_get (C := RX5) (T := TX5) (N := 6) hx hb hts (fun w h => hinJ w (by simp [h])) hown hK hP ho rfl k (by omega) (by rw [t5]; exact hlink) (by rw [t5]; exact hsame) hv hdg kk
theorem t_putJ (hx : p.tables.exec = Jvm.exec) (hb : c.code = cc) (hts : ∀ w ∈ Ts, w.before args s = true) (hinJ : ∀ w ∈ wsX10 ++ wsX30 ++ wsX40 ++ wsX50, w ∈ Ts) (hown : s.vm.findClass own = some m.cls) (hK : va_K D vwCl (cTy cy) s) (hP : va_P D vwCl ws H) (hD : va_D A ws) (hS : va_S A H0 H locs) {o kc n : Nat} {fs ms : List Value} (hJ : cJk G kc n ms) (ho : cIn ws o (.inr (kc, fs))) (k : Nat) (hk : k < 5) (hlink : (Cond.fieldLink own index ref (TX3 k).2.1 (TX3 k).2.2.1).before args s = true) (hsame : ∀ x, s.fieldFound? (TX3 k).1 (TX3 k).2.1 (TX3 k).2.2.1 = some x → s.fieldFound? ref (TX3 k).2.1 (TX3 k).2.2.1 = some x) (hfin : (TX3 k).2.2.2 = false) {v : Value} (hn : narrow (tyX3 k) v = v) (hfit : fits (tyX3 k) v = true) (hl : k < fs.length) (hdg : decode cc pc = .ok (.putfield index, 3))
    (kk : ∀ (H1 : Heap) (locs1 : List Loc) (ws1 : va_W), cUp ws o (.inr (kc, fs.set k v)) ws1 → va_P D vwCl ws1 H1 → va_D A ws1 → va_S A H0 H1 locs1 → W p l e R s m args below meth c H1 locs1 cells slots Q (F0 m (pc + 3) ls rest)) : W p l e R s m args below meth c H locs cells slots Q (F0 m pc ls (v :: .ref o :: rest)) := by
  obtain ⟨t1, t4, t5⟩ := txj k hk
  have y1 : ∀ k, k < 5 → tyX1 k = tyX3 k ∧ tyX4 k = tyX3 k ∧ tyX5 k = tyX3 k := by decide +kernel
  obtain ⟨y1, y4, y5⟩ := y1 k hk
  rcases hJ with ⟨rfl, -⟩ | ⟨rfl, -⟩ | ⟨rfl, -⟩ | ⟨rfl, -⟩
  · exact t_put (C := RX1) (T := TX1) (N := 5) (ty0 := tyX1) hx hb hts (fun w h => hinJ w (by simp [h])) tyX1_ok nmX1 hown hK hP hD hS ho rfl k hk (by rw [t1]; exact hlink) (by rw [t1]; exact hsame) (by rw [t1]; exact hfin) (by rw [y1]; exact hn) (by rw [y1]; exact hfit) hl hdg kk
  · exact t_put (C := RX3) (T := TX3) (N := 5) (ty0 := tyX3) hx hb hts (fun w h => hinJ w (by simp [h])) tyX3_ok nmX3 hown hK hP hD hS ho rfl k hk hlink hsame hfin hn hfit hl hdg kk
  · exact t_put (C := RX4) (T := TX4) (N := 5) (ty0 := tyX4) hx hb hts (fun w h => hinJ w (by simp [h])) tyX4_ok nmX4 hown hK hP hD hS ho rfl k hk (by rw [t4]; exact hlink) (by rw [t4]; exact hsame) (by rw [t4]; exact hfin) (by rw [y4]; exact hn) (by rw [y4]; exact hfit) hl hdg kk
  · exact t_put (C := RX5) (T := TX5) (N := 6) (ty0 := tyX5) hx hb hts (fun w h => hinJ w (by simp [h])) tyX5_ok nmX5 hown hK hP hD hS ho rfl k (by omega) (by rw [t5]; exact hlink) (by rw [t5]; exact hsame) (by rw [t5]; exact hfin) (by rw [y5]; exact hn) (by rw [y5]; exact hfit) hl hdg kk
theorem t_iald (hx : p.tables.exec = Jvm.exec) (hb : c.code = cc) (hK : va_K D vwCl (cTy cy) s) (hP : va_P D vwCl ws H) (hT : cT cy G ws) {a n z : Nat} (hg : G a = some (0, n, z)) {i : Int32} (hin : vp_in i n) (hdg : decode cc pc = .ok (.iaload, 1))
    (kk : ∀ v : Int32, W p l e R s m args below meth c H locs cells slots Q (F0 m (pc + 1) ls (.int v :: rest))) : W p l e R s m args below meth c H locs cells slots Q (F0 m pc ls (.int i :: .ref a :: rest)) := by
  obtain ⟨_, ⟨q0, hq⟩, w, rfl⟩ := hT _ _ hg
  exact va_iald hx hb hK hP q0 0 hq rfl hin hdg (kk _)
theorem t_lald (hx : p.tables.exec = Jvm.exec) (hb : c.code = cc) (hK : va_K D vwCl (cTy cy) s) (hP : va_P D vwCl ws H) (hT : cT cy G ws) {a n z : Nat} (hg : G a = some (1, n, z)) {i : Int32} (hin : vp_in i n) (hdg : decode cc pc = .ok (.laload, 1))
    (kk : ∀ v : Int64, W p l e R s m args below meth c H locs cells slots Q (F0 m (pc + 1) ls (.long v :: rest))) : W p l e R s m args below meth c H locs cells slots Q (F0 m pc ls (.int i :: .ref a :: rest)) := by
  obtain ⟨_, ⟨q0, hq⟩, w, rfl⟩ := hT _ _ hg
  exact va_lald hx hb hK hP q0 1 hq rfl hin hdg (kk _)
theorem t_iast (hx : p.tables.exec = Jvm.exec) (hb : c.code = cc) (hK : va_K D vwCl (cTy cy) s) (hP : va_P D vwCl ws H) (hD : va_D A ws) (hS : va_S A H0 H locs) (hT : cT cy G ws) {a n z : Nat} (hg : G a = some (0, n, z)) {i x : Int32} (hin : vp_in i n) (hdg : decode cc pc = .ok (.iastore, 1))
    (kk : ∀ (H1 : Heap) (locs1 : List Loc) (ws1 : va_W), cF (fun b => b = a) ws ws1 → va_P D vwCl ws1 H1 → va_D A ws1 → cT cy G ws1 → va_S A H0 H1 locs1 → W p l e R s m args below meth c H1 locs1 cells slots Q (F0 m (pc + 1) ls rest)) : W p l e R s m args below meth c H locs cells slots Q (F0 m pc ls (.int x :: .int i :: .ref a :: rest)) := by
  obtain ⟨_, ⟨q0, hq⟩, w, rfl⟩ := hT _ _ hg
  exact va_iast hx hb hK hP hD hS q0 0 hq rfl hin hdg (fun H1 locs1 h1 h2 h3 => kk H1 locs1 _ (cF.up (cUp.set hq) rfl) h1 h2 (hT.up (cUp.set hq) hg ⟨_, rfl⟩) h3)
theorem t_last (hx : p.tables.exec = Jvm.exec) (hb : c.code = cc) (hK : va_K D vwCl (cTy cy) s) (hP : va_P D vwCl ws H) (hD : va_D A ws) (hS : va_S A H0 H locs) (hT : cT cy G ws) {a n z : Nat} (hg : G a = some (1, n, z)) {i : Int32} {x : Int64} (hin : vp_in i n) (hdg : decode cc pc = .ok (.lastore, 1))
    (kk : ∀ (H1 : Heap) (locs1 : List Loc) (ws1 : va_W), cF (fun b => b = a) ws ws1 → va_P D vwCl ws1 H1 → va_D A ws1 → cT cy G ws1 → va_S A H0 H1 locs1 → W p l e R s m args below meth c H1 locs1 cells slots Q (F0 m (pc + 1) ls rest)) : W p l e R s m args below meth c H locs cells slots Q (F0 m pc ls (.long x :: .int i :: .ref a :: rest)) := by
  obtain ⟨_, ⟨q0, hq⟩, w, rfl⟩ := hT _ _ hg
  exact va_last hx hb hK hP hD hS q0 1 hq rfl hin hdg (fun H1 locs1 h1 h2 h3 => kk H1 locs1 _ (cF.up (cUp.set hq) rfl) h1 h2 (hT.up (cUp.set hq) hg ⟨_, rfl⟩) h3)
theorem t_alenI (hx : p.tables.exec = Jvm.exec) (hb : c.code = cc) (hK : va_K D vwCl (cTy cy) s) (hP : va_P D vwCl ws H) (hT : cT cy G ws) {a n z : Nat} (hg : G a = some (0, n, z)) (hdg : decode cc pc = .ok (.arraylength, 1))
    (kk : W p l e R s m args below meth c H locs cells slots Q (F0 m (pc + 1) ls (.int (nI n) :: rest))) : W p l e R s m args below meth c H locs cells slots Q (F0 m pc ls (.ref a :: rest)) := by
  obtain ⟨_, ⟨q0, hq⟩, w, rfl⟩ := hT _ _ hg
  exact va_alen hx hb hK hP q0 0 hq rfl rfl hdg kk
theorem t_alenL (hx : p.tables.exec = Jvm.exec) (hb : c.code = cc) (hK : va_K D vwCl (cTy cy) s) (hP : va_P D vwCl ws H) (hT : cT cy G ws) {a n z : Nat} (hg : G a = some (1, n, z)) (hdg : decode cc pc = .ok (.arraylength, 1))
    (kk : W p l e R s m args below meth c H locs cells slots Q (F0 m (pc + 1) ls (.int (nI n) :: rest))) : W p l e R s m args below meth c H locs cells slots Q (F0 m pc ls (.ref a :: rest)) := by
  obtain ⟨_, ⟨q0, hq⟩, w, rfl⟩ := hT _ _ hg
  exact va_alen hx hb hK hP q0 1 hq rfl rfl hdg kk
end CR

