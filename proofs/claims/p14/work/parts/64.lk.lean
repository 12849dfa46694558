/-! the law: its zones, its invariant, its calls -/
def AL (s : State) : Nat → Prop := fun z => s.heap.size ≤ z
def AC (s : State) (mo : Nat) (a : Nat → Nat) : Nat → Prop := fun z => s.heap.size ≤ z ∧ ¬ AM mo a z
theorem AC.AL {s : State} {mo : Nat} {a : Nat → Nat} {z : Nat} (h : AC s mo a z) : AL s z := h.1
theorem cZ.narrow {A B : Nat → Prop} {U : State} (h : cZ A U) (hAB : ∀ q, B q → A q) : cZ B U := by
  obtain ⟨tX, tY, xX, xY, ⟨a1, a2, a5⟩, ⟨b1, b2, b5⟩⟩ := h
  exact ⟨tX, tY, xX, xY, ⟨a1.narrow hAB, a2.narrow hAB, a5⟩, ⟨b1.narrow hAB, b2.narrow hAB, b5⟩⟩
theorem xT.narrow {A B : Nat → Prop} {U : State} (h : xT A U) (hAB : ∀ q, B q → A q) : xT B U := by
  obtain ⟨h1, h2, h3, h4, h5⟩ := h
  exact ⟨h1, h2, h3, h4.narrow hAB, h5.narrow hAB⟩
/-- what stays over the whole law -/
def LX (p : Program) (l : Launch) (s : State) (m : MethodId) (c : Code) (b L : Nat) (xs : Nat → Int32) (D : va_G) (cy : Nat → ClassId) (mo : Nat) (a : Nat → Nat) : Prop :=
  (p.tables.exec = Jvm.exec ∧ c.code = cL_law ∧ c.maxLocals = 8 ∧ s.vm.findClass RL = some m.cls ∧ (∀ w ∈ wsL_law, w.before #[Value.ref b] s = true)) ∧ (va_X b L xs s s.heap ∧ b < s.heap.size) ∧ (va_K D vwCl (cTy cy) s ∧ cV s ∧ cZ (AL s) s ∧ xT (AL s) s) ∧ l.stackTraces = false ∧ DM cy mo a ∧ ∀ x, AM mo a x → s.heap.size ≤ x
/-- between two calls: M is the table of meetings, where there is one -/
def LI (D : va_G) (cy : Nat → ClassId) (s : State) (xo mo ou : Nat) (a : Nat → Nat) (M : Option Nat) (G : cG) (W : va_W) (f : Nat → Int32) (g : Nat → Int64) (r : Nat → Nat → Int32) (q : Nat → Nat → Int64) (H : Heap) (locs : List Loc) : Prop :=
  va_P D vwCl W H ∧ va_P D vwCl (WM cy mo a f g r q) H ∧ va_D (AC s mo a) W ∧ cT cy G W ∧ G xo = some (7, 0, 0) ∧ G ou = some (1, 1, 0) ∧ MI f r ∧ (∃ (bs js sh wk ll : Nat) (jc lc : Int32) (lb : Option Nat), cIn W xo (.inr (8, [.ref bs, .ref js, .int jc, .ref sh, .ref wk, va_rf M, .ref ll, .int lc, va_rf lb]))) ∧ va_S (AL s) s.heap H locs ∧ ∀ x, AM mo a x → x < H.size
theorem wm_am {cy : Nat → ClassId} {mo : Nat} {a : Nat → Nat} {f : Nat → Int32} {g : Nat → Int64} {r : Nat → Nat → Int32} {q : Nat → Nat → Int64} {k : Nat} {z : Nat × va_E} (h : (WM cy mo a f g r q)[k]? = some z) : AM mo a z.1 := by
  have hm := List.mem_of_getElem? h
  unfold WM at hm
  simp only [List.mem_cons, List.not_mem_nil, or_false] at hm
  rcases hm with rfl | rfl | rfl | rfl | rfl | rfl | rfl | rfl | rfl | rfl | rfl | rfl | rfl | rfl | rfl | rfl | rfl | rfl | rfl | rfl | rfl | rfl | rfl
  · exact Or.inl rfl
  all_goals exact Or.inr ⟨_, rfl⟩
section LWK
variable {p : Program} {l : Launch} {e : Env} {R : Room} {s : State} {m : MethodId} {args : Array Value} {below : List Frame} {meth : Method} {c : Code} {H : Heap} {locs : List Loc} {cells slots : Nat} {Q : State → Prop}
variable {y : MethodName} {bytes cc : ByteArray} {maxL nL n index mc ms : Nat} {ret : Option FieldType} {wc Ts : List Cond} {rm : Room} {own C : String} {As rest st0 av : List Value} {pc : Nat} {ls : Array Slot} {D : va_G} {cy : Nat → ClassId} {xo mo ou : Nat} {a : Nat → Nat} {M : Option Nat} {G : cG} {W' : va_W} {f : Nat → Int32} {g : Nat → Int64} {r : Nat → Nat → Int32} {q : Nat → Nat → Int64} {a9 : Array Value}
theorem LI.fresh (I : LI D cy s xo mo ou a M G W' f g r q H locs) : ∀ z, H.size ≤ z → AC s mo a z := fun z h => ⟨Nat.le_trans I.2.2.2.2.2.2.2.2.1.1 h, fun ha => absurd (I.2.2.2.2.2.2.2.2.2 z ha) (Nat.not_lt.mpr h)⟩
theorem l_pre0 (I : LI D cy s xo mo ou a M G W' f g r q H locs) (hK : va_K D vwCl (cTy cy) s) (hV : cV s) : ∀ U : State, U.heap = H → s.WarmedH U.vm → (va_P D vwCl W' U.heap ∧ va_K D vwCl (cTy cy) U ∧ (∀ z, U.heap.size ≤ z → AC s mo a z) ∧ cV U) := fun U hU hW => ⟨by rw [hU]; exact I.1, va_K.moved hW.alike hK, fun z h => I.fresh z (by rw [← hU]; exact h), hV.warm hW⟩
theorem l_recv (I : LI D cy s xo mo ou a M G W' f g r q H locs) (hK : va_K D vwCl (cTy cy) s) : ∃ cell : Cell, H[xo]? = some cell ∧ cell.vm.isStatics = false ∧ s.vm.findClass RX9 = some cell.cls := by
  obtain ⟨bs, js, sh, wk, ll, jc, lc, lb, k0, hk⟩ := I.2.2.2.2.2.2.2.1
  exact va_recv (ci := 8) hK I.1 rfl hk
theorem l_preV (I : LI D cy s xo mo ou a M G W' f g r q H locs) (hK : va_K D vwCl (cTy cy) s) (hV : cV s) : PreV s H RX9 xo (cPc D cy (AC s mo a) W' (.ref xo :: av)) av := ⟨c_blind, l_recv I hK, fun U hU hW => ⟨rfl, l_pre0 I hK hV U hU hW⟩⟩
theorem l_preE (I : LI D cy s xo mo ou a M G W' f g r q H locs) (hK : va_K D vwCl (cTy cy) s) (hV : cV s) (hZ : cZ (AL s) s) : PreV s H RX9 xo (ePc D cy (AC s mo a) W' (.ref xo :: av)) av := ⟨e_blind, l_recv I hK, fun U hU hW => ⟨rfl, l_pre0 I hK hV U hU hW, (hZ.go hU hW I.2.2.2.2.2.2.2.2.1).narrow (fun _ h => h.1)⟩⟩
theorem l_preX (I : LI D cy s xo mo ou a M G W' f g r q H locs) (hK : va_K D vwCl (cTy cy) s) (hV : cV s) (hZ : cZ (AL s) s) (hXT : xT (AL s) s) : PreV s H RX9 xo (xPc D cy (AC s mo a) W' (.ref xo :: av)) av := ⟨x_blind, l_recv I hK, fun U hU hW => ⟨rfl, l_pre0 I hK hV U hU hW, (hZ.go hU hW I.2.2.2.2.2.2.2.2.1).narrow (fun _ h => h.1), (hXT.go hU hW I.2.2.2.2.2.2.2.2.1).narrow (fun _ h => h.1)⟩⟩
theorem l_preS (I : LI D cy s xo mo ou a M G W' f g r q H locs) (hK : va_K D vwCl (cTy cy) s) (hV : cV s) (hZ : cZ (AL s) s) (hXT : xT (AL s) s) : PreS s H (xPc D cy (AC s mo a) W' av) av := ⟨x_blind, fun U hU hW => ⟨rfl, l_pre0 I hK hV U hU hW, (hZ.go hU hW I.2.2.2.2.2.2.2.2.1).narrow (fun _ h => h.1), (hXT.go hU hW I.2.2.2.2.2.2.2.2.1).narrow (fun _ h => h.1)⟩⟩
/-- behind a call of the class: what of the invariant is to be seen anew -/
theorem LI.cla (I : LI D cy s xo mo ou a M G W' f g r q H locs) {H1 : Heap} {locs1 : List Loc} {G1 : cG} {W1 : va_W} {M1 : Option Nat} (hP : va_P D vwCl W1 H1) (hD : va_D (AC s mo a) W1) (hT : cT cy G1 W1) (hE : cE G G1) (hM : ∃ (bs js sh wk ll : Nat) (jc lc : Int32) (lb : Option Nat), cIn W1 xo (.inr (8, [.ref bs, .ref js, .int jc, .ref sh, .ref wk, va_rf M1, .ref ll, .int lc, va_rf lb]))) (hz : H.size ≤ H1.size) (hk : ∀ z : Nat, z < H.size → ¬ AC s mo a z → H1[z]? = H[z]?) (hS : va_S (AL s) s.heap H1 locs1) : LI D cy s xo mo ou a M1 G1 W1 f g r q H1 locs1 := by
  obtain ⟨h1, h2, h3, h4, h5, h6, h7, h8, h9, h10⟩ := I
  exact ⟨hP, fun k z hkz => (h2 k z hkz).kept (hk z.1 (h2 k z hkz).lt (fun ha => ha.2 (wm_am hkz))), hD, hT, hE _ _ h5, hE _ _ h6, h7, hM, hS, fun x hx => Nat.lt_of_lt_of_le (h10 x hx) hz⟩
theorem lk_i {ch : List Nat} {post : Int32 → cS → Prop} (I : LI D cy s xo mo ou a M G W' f g r q H locs) (hr : va_Run p l e R s m args below meth c H locs cells slots mc ms (F0 m pc ls st0) rest (va_Qi (fun r0 u => cX none (chs ch) G W' u.1 u.2 ∧ post r0 u) (cB D cy (AC s mo a)) (AC s mo a) a9) (AC s mo a)) (h7 : chs ch 7 = false)
    (kk : ∀ (r0 : Int32) (u : cS) (H1 : Heap) (locs1 : List Loc), post r0 u → LI D cy s xo mo ou a M u.1 u.2 f g r q H1 locs1 → W p l e R s m args below meth c H1 locs1 (cells + mc) (slots + ms) Q (F0 m (pc + 3) ls (.int r0 :: rest))) : W p l e R s m args below meth c H locs cells slots Q (F0 m pc ls st0) :=
  va_calli hr I.2.2.2.2.2.2.2.2.1 (fun _ _ h => h.1) (fun _ h => h.1) (fun r0 u t H1 locs1 ht hvm hp hB hz hk hS => by
    obtain ⟨h1, h2, h3⟩ := hB
    rw [ht] at h1
    obtain ⟨bs, js, sh, wk, ll, jc, lc, lb, hM⟩ := I.2.2.2.2.2.2.2.1
    exact kk r0 u H1 locs1 hp.2 (I.cla h1 h2 h3 hp.1.1 ⟨bs, js, sh, wk, ll, jc, lc, lb, hp.1.2.1 _ _ (cP.no I.2.2.2.2.1 h7) hM⟩ hz hk hS))
theorem lk_l {ch : List Nat} {post : Int64 → cS → Prop} (I : LI D cy s xo mo ou a M G W' f g r q H locs) (hr : va_Run p l e R s m args below meth c H locs cells slots mc ms (F0 m pc ls st0) rest (va_Ql (fun r0 u => cX none (chs ch) G W' u.1 u.2 ∧ post r0 u) (cB D cy (AC s mo a)) (AC s mo a) a9) (AC s mo a)) (h7 : chs ch 7 = false)
    (kk : ∀ (r0 : Int64) (u : cS) (H1 : Heap) (locs1 : List Loc), post r0 u → LI D cy s xo mo ou a M u.1 u.2 f g r q H1 locs1 → W p l e R s m args below meth c H1 locs1 (cells + mc) (slots + ms) Q (F0 m (pc + 3) ls (.long r0 :: rest))) : W p l e R s m args below meth c H locs cells slots Q (F0 m pc ls st0) :=
  va_calll hr I.2.2.2.2.2.2.2.2.1 (fun _ _ h => h.1) (fun _ h => h.1) (fun r0 u t H1 locs1 ht hvm hp hB hz hk hS => by
    obtain ⟨h1, h2, h3⟩ := hB
    rw [ht] at h1
    obtain ⟨bs, js, sh, wk, ll, jc, lc, lb, hM⟩ := I.2.2.2.2.2.2.2.1
    exact kk r0 u H1 locs1 hp.2 (I.cla h1 h2 h3 hp.1.1 ⟨bs, js, sh, wk, ll, jc, lc, lb, hp.1.2.1 _ _ (cP.no I.2.2.2.2.1 h7) hM⟩ hz hk hS))
theorem lk_ri {post : Int32 → cS → Prop} (I : LI D cy s xo mo ou a M G W' f g r q H locs) (hr : va_Run p l e R s m args below meth c H locs cells slots mc ms (F0 m pc ls st0) rest (va_Qi (fun r0 u => u = (G, W') ∧ post r0 u) (cB D cy (AC s mo a)) (AC s mo a) a9) (AC s mo a))
    (kk : ∀ (r0 : Int32) (u : cS) (H1 : Heap) (locs1 : List Loc), post r0 u → LI D cy s xo mo ou a M u.1 u.2 f g r q H1 locs1 → W p l e R s m args below meth c H1 locs1 (cells + mc) (slots + ms) Q (F0 m (pc + 3) ls (.int r0 :: rest))) : W p l e R s m args below meth c H locs cells slots Q (F0 m pc ls st0) :=
  va_calli hr I.2.2.2.2.2.2.2.2.1 (fun _ _ h => h.1) (fun _ h => h.1) (fun r0 u t H1 locs1 ht hvm hp hB hz hk hS => by
    obtain ⟨h1, h2, h3⟩ := hB
    obtain ⟨rfl, hp⟩ := hp
    rw [ht] at h1
    exact kk r0 _ H1 locs1 hp (I.cla h1 h2 h3 cE.rf I.2.2.2.2.2.2.2.1 hz hk hS))
theorem lk_rl {post : Int64 → cS → Prop} (I : LI D cy s xo mo ou a M G W' f g r q H locs) (hr : va_Run p l e R s m args below meth c H locs cells slots mc ms (F0 m pc ls st0) rest (va_Ql (fun r0 u => u = (G, W') ∧ post r0 u) (cB D cy (AC s mo a)) (AC s mo a) a9) (AC s mo a))
    (kk : ∀ (r0 : Int64) (u : cS) (H1 : Heap) (locs1 : List Loc), post r0 u → LI D cy s xo mo ou a M u.1 u.2 f g r q H1 locs1 → W p l e R s m args below meth c H1 locs1 (cells + mc) (slots + ms) Q (F0 m (pc + 3) ls (.long r0 :: rest))) : W p l e R s m args below meth c H locs cells slots Q (F0 m pc ls st0) :=
  va_calll hr I.2.2.2.2.2.2.2.2.1 (fun _ _ h => h.1) (fun _ h => h.1) (fun r0 u t H1 locs1 ht hvm hp hB hz hk hS => by
    obtain ⟨h1, h2, h3⟩ := hB
    obtain ⟨rfl, hp⟩ := hp
    rw [ht] at h1
    exact kk r0 _ H1 locs1 hp (I.cla h1 h2 h3 cE.rf I.2.2.2.2.2.2.2.1 hz hk hS))
theorem lk_s {ch : List Nat} {bs js sh wk ll : Nat} (I : LI D cy s xo mo ou a M G W' f g r q H locs) (hr : va_Run p l e R s m args below meth c H locs cells slots mc ms (F0 m pc ls st0) rest (va_Qi (fun r0 u => cX none (chs ch) G W' u.1 u.2 ∧ ∃ jc lc lb, cIn u.2 xo (.inr (8, [.ref bs, .ref js, .int jc, .ref sh, .ref wk, va_rf M, .ref ll, .int lc, va_rf lb]))) (cB D cy (AC s mo a)) (AC s mo a) a9) (AC s mo a))
    (kk : ∀ (r0 : Int32) (u : cS) (H1 : Heap) (locs1 : List Loc), True → LI D cy s xo mo ou a M u.1 u.2 f g r q H1 locs1 → W p l e R s m args below meth c H1 locs1 (cells + mc) (slots + ms) Q (F0 m (pc + 3) ls (.int r0 :: rest))) : W p l e R s m args below meth c H locs cells slots Q (F0 m pc ls st0) :=
  va_calli hr I.2.2.2.2.2.2.2.2.1 (fun _ _ h => h.1) (fun _ h => h.1) (fun r0 u t H1 locs1 ht hvm hp hB hz hk hS => by
    obtain ⟨h1, h2, h3⟩ := hB
    obtain ⟨hX, jc, lc, lb, hM⟩ := hp
    rw [ht] at h1
    exact kk r0 _ H1 locs1 trivial (I.cla h1 h2 h3 hX.1 ⟨bs, js, sh, wk, ll, jc, lc, lb, hM⟩ hz hk hS))
/-- behind a call of the reference -/
theorem LI.ref (I : LI D cy s xo mo ou a M G W' f g r q H locs) {H1 : Heap} {locs1 : List Loc} {f1 : Nat → Int32} {g1 : Nat → Int64} {r1 : Nat → Nat → Int32} {q1 : Nat → Nat → Int64} (hPm : va_P D vwCl (WM cy mo a f1 g1 r1 q1) H1) (hI : MI f1 r1) (hz : H.size ≤ H1.size) (hk : ∀ z : Nat, z < H.size → ¬ AM mo a z → H1[z]? = H[z]?) (hS : va_S (AL s) s.heap H1 locs1) : LI D cy s xo mo ou a M G W' f1 g1 r1 q1 H1 locs1 := by
  obtain ⟨h1, h2, h3, h4, h5, h6, h7, h8, h9, h10⟩ := I
  exact ⟨fun k z hkz => (h1 k z hkz).kept (hk z.1 (h1 k z hkz).lt (h3.2 k z hkz).2), hPm, h3, h4, h5, h6, hI, h8, hS, fun x hx => Nat.lt_of_lt_of_le (h10 x hx) hz⟩
theorem lm_i {post : Int32 → MS → Prop} (I : LI D cy s xo mo ou a M G W' f g r q H locs) (S : CallFix p m c cc nL s args Ts own) (hM : Mi l D cy mo a y wc rm f g r q As post) (cw : CallW R s args own RX10 index y bytes maxL ret wc rm 0 0 n) (hK : va_K D vwCl (cTy cy) s) (hAM : ∀ x, AM mo a x → s.heap.size ≤ x) (hn : As.length = n) (hsize : ls.size = nL) (hstack : st0 = As.reverse ++ .ref mo :: rest) (hW : (rest.map fun v => v.category).sum ≤ 8) (hdg : decode cc pc = .ok (.invokevirtual index, 3)) (hf : cells ≤ R.cells ∧ slots ≤ R.slots)
    (hpost : ∀ r0 u, post r0 u → MI u.1 u.2.2.1)
    (kk : ∀ (r0 : Int32) (u : MS) (H1 : Heap) (locs1 : List Loc), post r0 u → LI D cy s xo mo ou a M G W' u.1 u.2.1 u.2.2.1 u.2.2.2 H1 locs1 → W p l e R s m args below meth c H1 locs1 cells slots Q (F0 m (pc + 3) ls (.int r0 :: rest))) : W p l e R s m args below meth c H locs cells slots Q (F0 m pc ls st0) := by
  have hK3 : va_K D vwCl (mT cy) s := hK.sub [0, 1, 2] rfl
  refine va_calli (va_runV (g := F0 m pc ls st0) S hM cw ⟨m_blind, va_recv hK3 I.2.1 (ci := 9) (q0 := 0) rfl rfl, fun U hU hW => ⟨rfl, by rw [hU]; exact I.2.1, va_K.moved hW.alike hK3⟩⟩ rfl hn hsize hstack (lv_room hW) hdg ⟨hf.1, hf.2⟩) I.2.2.2.2.2.2.2.2.1 (fun z _ h => hAM z h) (fun z h => hAM z h) (fun r0 u t H1 locs1 ht hvm hp hB hz hk hS => ?_)
  unfold mB at hB
  rw [ht] at hB
  exact kk r0 u H1 locs1 hp (I.ref hB (hpost r0 u hp) hz hk hS)
theorem lm_l {post : Int64 → MS → Prop} (I : LI D cy s xo mo ou a M G W' f g r q H locs) (S : CallFix p m c cc nL s args Ts own) (hM : Ml l D cy mo a y wc rm f g r q As post) (cw : CallW R s args own RX10 index y bytes maxL ret wc rm 0 0 n) (hK : va_K D vwCl (cTy cy) s) (hAM : ∀ x, AM mo a x → s.heap.size ≤ x) (hn : As.length = n) (hsize : ls.size = nL) (hstack : st0 = As.reverse ++ .ref mo :: rest) (hW : (rest.map fun v => v.category).sum ≤ 8) (hdg : decode cc pc = .ok (.invokevirtual index, 3)) (hf : cells ≤ R.cells ∧ slots ≤ R.slots)
    (hpost : ∀ r0 u, post r0 u → MI u.1 u.2.2.1)
    (kk : ∀ (r0 : Int64) (u : MS) (H1 : Heap) (locs1 : List Loc), post r0 u → LI D cy s xo mo ou a M G W' u.1 u.2.1 u.2.2.1 u.2.2.2 H1 locs1 → W p l e R s m args below meth c H1 locs1 cells slots Q (F0 m (pc + 3) ls (.long r0 :: rest))) : W p l e R s m args below meth c H locs cells slots Q (F0 m pc ls st0) := by
  have hK3 : va_K D vwCl (mT cy) s := hK.sub [0, 1, 2] rfl
  refine va_calll (va_runV (g := F0 m pc ls st0) S hM cw ⟨m_blind, va_recv hK3 I.2.1 (ci := 9) (q0 := 0) rfl rfl, fun U hU hW => ⟨rfl, by rw [hU]; exact I.2.1, va_K.moved hW.alike hK3⟩⟩ rfl hn hsize hstack (lv_room hW) hdg ⟨hf.1, hf.2⟩) I.2.2.2.2.2.2.2.2.1 (fun z _ h => hAM z h) (fun z h => hAM z h) (fun r0 u t H1 locs1 ht hvm hp hB hz hk hS => ?_)
  unfold mB at hB
  rw [ht] at hB
  exact kk r0 u H1 locs1 hp (I.ref hB (hpost r0 u hp) hz hk hS)
end LWK
/-! an instruction deep in a long code, read off a short piece of it -/
section DSH
def OkS (B : List UInt8) (c : ByteArray) (a : Nat) {α : Type} (r s : Jvm.ClassFile.Decoder α) : Prop := ∀ (k : Nat) (x : α) (k' : Nat), r.runAt ⟨⟨B⟩⟩ k = .ok (x, k') → s.runAt c (a + k) = .ok (x, a + k')
theorem oks_pure {B : List UInt8} {c : ByteArray} {a : Nat} {α : Type} (x : α) : OkS B c a (pure x) (pure x) := fun k x' k' h => by
  have h1 : (Except.ok (x, k) : Except Jvm.ClassFile.DecodeError (α × Nat)) = .ok (x', k') := h
  cases h1
  rfl
theorem oks_bind {B : List UInt8} {c : ByteArray} {a : Nat} {α β : Type} {r s : Jvm.ClassFile.Decoder α} {f g : α → Jvm.ClassFile.Decoder β} (hr : OkS B c a r s) (hf : ∀ x, OkS B c a (f x) (g x)) : OkS B c a (r >>= f) (s >>= g) := by
  intro k y k' h
  have e1 : (r >>= f).runAt ⟨⟨B⟩⟩ k = (r.runAt ⟨⟨B⟩⟩ k).bind (fun p => (f p.1).runAt ⟨⟨B⟩⟩ p.2) := rfl
  have e2 : (s >>= g).runAt c (a + k) = (s.runAt c (a + k)).bind (fun p => (g p.1).runAt c p.2) := rfl
  rw [e1] at h
  rw [e2]
  cases e : r.runAt ⟨⟨B⟩⟩ k with
  | error z => rw [e] at h; cases h
  | ok p =>
    obtain ⟨x, k1⟩ := p
    rw [e] at h
    rw [hr k x k1 e]
    exact hf x k1 y k' h
theorem oks_map {B : List UInt8} {c : ByteArray} {a : Nat} {α β : Type} {r s : Jvm.ClassFile.Decoder α} (f : α → β) (hr : OkS B c a r s) : OkS B c a (f <$> r) (f <$> s) := by
  intro k y k' h
  have e1 : (f <$> r).runAt ⟨⟨B⟩⟩ k = (r.runAt ⟨⟨B⟩⟩ k).bind (fun p => .ok (f p.1, p.2)) := rfl
  have e2 : (f <$> s).runAt c (a + k) = (s.runAt c (a + k)).bind (fun p => .ok (f p.1, p.2)) := rfl
  rw [e1] at h
  rw [e2]
  cases e : r.runAt ⟨⟨B⟩⟩ k with
  | error z => rw [e] at h; cases h
  | ok p =>
    obtain ⟨x, k1⟩ := p
    rw [e] at h
    rw [hr k x k1 e]
    have h1 : (Except.ok (f x, k1) : Except Jvm.ClassFile.DecodeError (β × Nat)) = .ok (y, k') := h
    cases h1
    rfl
theorem u1_ok (bs : List UInt8) (k : Nat) (h : k < bs.length) : (Jvm.ClassFile.Reader.u1 : Jvm.ClassFile.Decoder Nat).runAt ⟨⟨bs⟩⟩ k = .ok ((bs[k]'h).toNat, k + 1) := by
  show (dite (k < (ByteArray.mk ⟨bs⟩).size) (fun h => (do set (k + 1); pure ((ByteArray.mk ⟨bs⟩)[k]'h).toNat : Jvm.ClassFile.Decoder Nat)) (fun _ => throw (Jvm.ClassFile.HasTruncated.truncated k))) ⟨⟨bs⟩⟩ k = _
  rw [dif_pos (show k < (ByteArray.mk ⟨bs⟩).size from h)]
  rfl
theorem u1_no (bs : List UInt8) (k : Nat) (h : ¬ k < bs.length) : (Jvm.ClassFile.Reader.u1 : Jvm.ClassFile.Decoder Nat).runAt ⟨⟨bs⟩⟩ k = .error (Jvm.ClassFile.HasTruncated.truncated k) := by
  show (dite (k < (ByteArray.mk ⟨bs⟩).size) (fun h => (do set (k + 1); pure ((ByteArray.mk ⟨bs⟩)[k]'h).toNat : Jvm.ClassFile.Decoder Nat)) (fun _ => throw (Jvm.ClassFile.HasTruncated.truncated k))) ⟨⟨bs⟩⟩ k = _
  rw [dif_neg (show ¬ k < (ByteArray.mk ⟨bs⟩).size from h)]
  rfl
def d_acc (B l : List UInt8) (a : Nat) : Prop := ∀ (j : Nat) (b : UInt8), B[j]? = some b → l[a + j]? = some b
theorem d_acc0 {B l : List UInt8} {a w : Nat} (h : (l.drop a).take w = B) : d_acc B l a := by
  intro j b hb
  rw [← h, List.getElem?_take] at hb
  split at hb
  · rw [List.getElem?_drop] at hb; exact hb
  · cases hb
theorem d_at {B l : List UInt8} {a : Nat} (h : d_acc B l a) {k : Nat} (hk : k < B.length) : ∃ hk2 : a + k < l.length, l[a + k]'hk2 = B[k]'hk := by
  have e := h k (B[k]'hk) (List.getElem?_eq_getElem hk)
  have hk2 : a + k < l.length := by
    apply Nat.lt_of_not_le
    intro z
    rw [List.getElem?_eq_none z] at e
    cases e
  rw [List.getElem?_eq_getElem hk2] at e
  exact ⟨hk2, Option.some.inj e⟩
theorem oks_u1 {B l : List UInt8} {a : Nat} (h : d_acc B l a) : OkS B ⟨⟨l⟩⟩ a (Jvm.ClassFile.Reader.u1 : Jvm.ClassFile.Decoder Nat) Jvm.ClassFile.Reader.u1 := by
  intro k x k' hx
  by_cases hk : k < B.length
  · obtain ⟨hk2, e⟩ := d_at h hk
    rw [u1_ok B k hk] at hx
    cases hx
    rw [u1_ok l (a + k) hk2, e]
    rfl
  · rw [u1_no B k hk] at hx
    cases hx
theorem oks_u2 {B l : List UInt8} {a : Nat} (h : d_acc B l a) : OkS B ⟨⟨l⟩⟩ a (Jvm.ClassFile.Reader.u2 : Jvm.ClassFile.Decoder Nat) Jvm.ClassFile.Reader.u2 := oks_bind (oks_u1 h) (fun _ => oks_bind (oks_u1 h) (fun _ => oks_pure _))
theorem oks_s1 {B l : List UInt8} {a : Nat} (h : d_acc B l a) : OkS B ⟨⟨l⟩⟩ a (Jvm.ClassFile.Reader.s1 : Jvm.ClassFile.Decoder Int) Jvm.ClassFile.Reader.s1 := oks_map _ (oks_u1 h)
theorem oks_s2 {B l : List UInt8} {a : Nat} (h : d_acc B l a) : OkS B ⟨⟨l⟩⟩ a (Jvm.ClassFile.Reader.s2 : Jvm.ClassFile.Decoder Int) Jvm.ClassFile.Reader.s2 := oks_map _ (oks_u2 h)
def OkO (o : Nat) : Prop := ∀ (B l : List UInt8) (a pc pc' : Nat), d_acc B l a → ∃ M M' : Nat → Jvm.ClassFile.Decoder Jvm.ClassFile.Instr, Jvm.ClassFile.Decoder.instr pc = (Jvm.ClassFile.Reader.u1 >>= M) ∧ Jvm.ClassFile.Decoder.instr pc' = (Jvm.ClassFile.Reader.u1 >>= M') ∧ OkS B ⟨⟨l⟩⟩ a (M o) (M' o)
theorem d_sh {o : Nat} (ho : OkO o) {B l : List UInt8} {a : Nat} (hA : d_acc B l a) {k : Nat} {i : Jvm.ClassFile.Instr} {n : Nat} (h : (B[k]?).map UInt8.toNat = some o ∧ decode ⟨⟨B⟩⟩ k = .ok (i, n)) : decode ⟨⟨l⟩⟩ (a + k) = .ok (i, n) := by
  obtain ⟨h1, h2⟩ := h
  obtain ⟨M, M', e1, e2, hM⟩ := ho B l a k (a + k) hA
  have hk : k < B.length := by
    apply Nat.lt_of_not_le
    intro z
    rw [List.getElem?_eq_none z] at h1
    cases h1
  obtain ⟨hk2, e⟩ := d_at hA hk
  have eo : (B[k]'hk).toNat = o := by
    rw [List.getElem?_eq_getElem hk] at h1
    exact Option.some.inj h1
  have r1 : (Jvm.ClassFile.Decoder.instr k).runAt ⟨⟨B⟩⟩ k = (M o).runAt ⟨⟨B⟩⟩ (k + 1) := by
    rw [e1]
    show ((Jvm.ClassFile.Reader.u1 : Jvm.ClassFile.Decoder Nat).runAt ⟨⟨B⟩⟩ k).bind (fun p => (M p.1).runAt ⟨⟨B⟩⟩ p.2) = _
    rw [u1_ok B k hk, eo]
    rfl
  have r2 : (Jvm.ClassFile.Decoder.instr (a + k)).runAt ⟨⟨l⟩⟩ (a + k) = (M' o).runAt ⟨⟨l⟩⟩ (a + (k + 1)) := by
    rw [e2]
    show ((Jvm.ClassFile.Reader.u1 : Jvm.ClassFile.Decoder Nat).runAt ⟨⟨l⟩⟩ (a + k)).bind (fun p => (M' p.1).runAt ⟨⟨l⟩⟩ p.2) = _
    rw [u1_ok l (a + k) hk2, e, eo]
    rfl
  have f1 : decode ⟨⟨B⟩⟩ k = ((Jvm.ClassFile.Decoder.instr k).runAt ⟨⟨B⟩⟩ k).bind (fun p => .ok (p.1, p.2 - k)) := rfl
  have f2 : decode ⟨⟨l⟩⟩ (a + k) = ((Jvm.ClassFile.Decoder.instr (a + k)).runAt ⟨⟨l⟩⟩ (a + k)).bind (fun p => .ok (p.1, p.2 - (a + k))) := rfl
  rw [f1, r1] at h2
  rw [f2, r2]
  cases e : (M o).runAt ⟨⟨B⟩⟩ (k + 1) with
  | error z => rw [e] at h2; cases h2
  | ok p =>
    obtain ⟨x, k1⟩ := p
    rw [e] at h2
    rw [hM (k + 1) x k1 e]
    have h3 : (Except.ok (x, k1 - k) : Except Jvm.ClassFile.DecodeError (Jvm.ClassFile.Instr × Nat)) = .ok (i, n) := h2
    cases h3
    show Except.ok (_, a + k1 - (a + k)) = _
    rw [Nat.add_sub_add_left]
theorem oo_3 : OkO 3 := fun B l a pc pc' hA => ⟨_, _, rfl, rfl, by first | exact oks_pure _ | exact oks_bind (oks_u1 hA) (fun _ => oks_pure _) | exact oks_bind (oks_u2 hA) (fun _ => oks_pure _) | exact oks_bind (oks_s2 hA) (fun _ => oks_pure _) | exact oks_bind (oks_s1 hA) (fun _ => oks_pure _) | exact oks_bind (oks_u1 hA) (fun _ => oks_bind (oks_s1 hA) (fun _ => oks_pure _))⟩
theorem oo_4 : OkO 4 := fun B l a pc pc' hA => ⟨_, _, rfl, rfl, by first | exact oks_pure _ | exact oks_bind (oks_u1 hA) (fun _ => oks_pure _) | exact oks_bind (oks_u2 hA) (fun _ => oks_pure _) | exact oks_bind (oks_s2 hA) (fun _ => oks_pure _) | exact oks_bind (oks_s1 hA) (fun _ => oks_pure _) | exact oks_bind (oks_u1 hA) (fun _ => oks_bind (oks_s1 hA) (fun _ => oks_pure _))⟩
theorem oo_5 : OkO 5 := fun B l a pc pc' hA => ⟨_, _, rfl, rfl, by first | exact oks_pure _ | exact oks_bind (oks_u1 hA) (fun _ => oks_pure _) | exact oks_bind (oks_u2 hA) (fun _ => oks_pure _) | exact oks_bind (oks_s2 hA) (fun _ => oks_pure _) | exact oks_bind (oks_s1 hA) (fun _ => oks_pure _) | exact oks_bind (oks_u1 hA) (fun _ => oks_bind (oks_s1 hA) (fun _ => oks_pure _))⟩
theorem oo_6 : OkO 6 := fun B l a pc pc' hA => ⟨_, _, rfl, rfl, by first | exact oks_pure _ | exact oks_bind (oks_u1 hA) (fun _ => oks_pure _) | exact oks_bind (oks_u2 hA) (fun _ => oks_pure _) | exact oks_bind (oks_s2 hA) (fun _ => oks_pure _) | exact oks_bind (oks_s1 hA) (fun _ => oks_pure _) | exact oks_bind (oks_u1 hA) (fun _ => oks_bind (oks_s1 hA) (fun _ => oks_pure _))⟩
theorem oo_7 : OkO 7 := fun B l a pc pc' hA => ⟨_, _, rfl, rfl, by first | exact oks_pure _ | exact oks_bind (oks_u1 hA) (fun _ => oks_pure _) | exact oks_bind (oks_u2 hA) (fun _ => oks_pure _) | exact oks_bind (oks_s2 hA) (fun _ => oks_pure _) | exact oks_bind (oks_s1 hA) (fun _ => oks_pure _) | exact oks_bind (oks_u1 hA) (fun _ => oks_bind (oks_s1 hA) (fun _ => oks_pure _))⟩
theorem oo_8 : OkO 8 := fun B l a pc pc' hA => ⟨_, _, rfl, rfl, by first | exact oks_pure _ | exact oks_bind (oks_u1 hA) (fun _ => oks_pure _) | exact oks_bind (oks_u2 hA) (fun _ => oks_pure _) | exact oks_bind (oks_s2 hA) (fun _ => oks_pure _) | exact oks_bind (oks_s1 hA) (fun _ => oks_pure _) | exact oks_bind (oks_u1 hA) (fun _ => oks_bind (oks_s1 hA) (fun _ => oks_pure _))⟩
theorem oo_16 : OkO 16 := fun B l a pc pc' hA => ⟨_, _, rfl, rfl, by first | exact oks_pure _ | exact oks_bind (oks_u1 hA) (fun _ => oks_pure _) | exact oks_bind (oks_u2 hA) (fun _ => oks_pure _) | exact oks_bind (oks_s2 hA) (fun _ => oks_pure _) | exact oks_bind (oks_s1 hA) (fun _ => oks_pure _) | exact oks_bind (oks_u1 hA) (fun _ => oks_bind (oks_s1 hA) (fun _ => oks_pure _))⟩
theorem oo_20 : OkO 20 := fun B l a pc pc' hA => ⟨_, _, rfl, rfl, by first | exact oks_pure _ | exact oks_bind (oks_u1 hA) (fun _ => oks_pure _) | exact oks_bind (oks_u2 hA) (fun _ => oks_pure _) | exact oks_bind (oks_s2 hA) (fun _ => oks_pure _) | exact oks_bind (oks_s1 hA) (fun _ => oks_pure _) | exact oks_bind (oks_u1 hA) (fun _ => oks_bind (oks_s1 hA) (fun _ => oks_pure _))⟩
theorem oo_21 : OkO 21 := fun B l a pc pc' hA => ⟨_, _, rfl, rfl, by first | exact oks_pure _ | exact oks_bind (oks_u1 hA) (fun _ => oks_pure _) | exact oks_bind (oks_u2 hA) (fun _ => oks_pure _) | exact oks_bind (oks_s2 hA) (fun _ => oks_pure _) | exact oks_bind (oks_s1 hA) (fun _ => oks_pure _) | exact oks_bind (oks_u1 hA) (fun _ => oks_bind (oks_s1 hA) (fun _ => oks_pure _))⟩
theorem oo_22 : OkO 22 := fun B l a pc pc' hA => ⟨_, _, rfl, rfl, by first | exact oks_pure _ | exact oks_bind (oks_u1 hA) (fun _ => oks_pure _) | exact oks_bind (oks_u2 hA) (fun _ => oks_pure _) | exact oks_bind (oks_s2 hA) (fun _ => oks_pure _) | exact oks_bind (oks_s1 hA) (fun _ => oks_pure _) | exact oks_bind (oks_u1 hA) (fun _ => oks_bind (oks_s1 hA) (fun _ => oks_pure _))⟩
theorem oo_25 : OkO 25 := fun B l a pc pc' hA => ⟨_, _, rfl, rfl, by first | exact oks_pure _ | exact oks_bind (oks_u1 hA) (fun _ => oks_pure _) | exact oks_bind (oks_u2 hA) (fun _ => oks_pure _) | exact oks_bind (oks_s2 hA) (fun _ => oks_pure _) | exact oks_bind (oks_s1 hA) (fun _ => oks_pure _) | exact oks_bind (oks_u1 hA) (fun _ => oks_bind (oks_s1 hA) (fun _ => oks_pure _))⟩
theorem oo_42 : OkO 42 := fun B l a pc pc' hA => ⟨_, _, rfl, rfl, by first | exact oks_pure _ | exact oks_bind (oks_u1 hA) (fun _ => oks_pure _) | exact oks_bind (oks_u2 hA) (fun _ => oks_pure _) | exact oks_bind (oks_s2 hA) (fun _ => oks_pure _) | exact oks_bind (oks_s1 hA) (fun _ => oks_pure _) | exact oks_bind (oks_u1 hA) (fun _ => oks_bind (oks_s1 hA) (fun _ => oks_pure _))⟩
theorem oo_43 : OkO 43 := fun B l a pc pc' hA => ⟨_, _, rfl, rfl, by first | exact oks_pure _ | exact oks_bind (oks_u1 hA) (fun _ => oks_pure _) | exact oks_bind (oks_u2 hA) (fun _ => oks_pure _) | exact oks_bind (oks_s2 hA) (fun _ => oks_pure _) | exact oks_bind (oks_s1 hA) (fun _ => oks_pure _) | exact oks_bind (oks_u1 hA) (fun _ => oks_bind (oks_s1 hA) (fun _ => oks_pure _))⟩
theorem oo_44 : OkO 44 := fun B l a pc pc' hA => ⟨_, _, rfl, rfl, by first | exact oks_pure _ | exact oks_bind (oks_u1 hA) (fun _ => oks_pure _) | exact oks_bind (oks_u2 hA) (fun _ => oks_pure _) | exact oks_bind (oks_s2 hA) (fun _ => oks_pure _) | exact oks_bind (oks_s1 hA) (fun _ => oks_pure _) | exact oks_bind (oks_u1 hA) (fun _ => oks_bind (oks_s1 hA) (fun _ => oks_pure _))⟩
theorem oo_45 : OkO 45 := fun B l a pc pc' hA => ⟨_, _, rfl, rfl, by first | exact oks_pure _ | exact oks_bind (oks_u1 hA) (fun _ => oks_pure _) | exact oks_bind (oks_u2 hA) (fun _ => oks_pure _) | exact oks_bind (oks_s2 hA) (fun _ => oks_pure _) | exact oks_bind (oks_s1 hA) (fun _ => oks_pure _) | exact oks_bind (oks_u1 hA) (fun _ => oks_bind (oks_s1 hA) (fun _ => oks_pure _))⟩
theorem oo_46 : OkO 46 := fun B l a pc pc' hA => ⟨_, _, rfl, rfl, by first | exact oks_pure _ | exact oks_bind (oks_u1 hA) (fun _ => oks_pure _) | exact oks_bind (oks_u2 hA) (fun _ => oks_pure _) | exact oks_bind (oks_s2 hA) (fun _ => oks_pure _) | exact oks_bind (oks_s1 hA) (fun _ => oks_pure _) | exact oks_bind (oks_u1 hA) (fun _ => oks_bind (oks_s1 hA) (fun _ => oks_pure _))⟩
theorem oo_47 : OkO 47 := fun B l a pc pc' hA => ⟨_, _, rfl, rfl, by first | exact oks_pure _ | exact oks_bind (oks_u1 hA) (fun _ => oks_pure _) | exact oks_bind (oks_u2 hA) (fun _ => oks_pure _) | exact oks_bind (oks_s2 hA) (fun _ => oks_pure _) | exact oks_bind (oks_s1 hA) (fun _ => oks_pure _) | exact oks_bind (oks_u1 hA) (fun _ => oks_bind (oks_s1 hA) (fun _ => oks_pure _))⟩
theorem oo_50 : OkO 50 := fun B l a pc pc' hA => ⟨_, _, rfl, rfl, by first | exact oks_pure _ | exact oks_bind (oks_u1 hA) (fun _ => oks_pure _) | exact oks_bind (oks_u2 hA) (fun _ => oks_pure _) | exact oks_bind (oks_s2 hA) (fun _ => oks_pure _) | exact oks_bind (oks_s1 hA) (fun _ => oks_pure _) | exact oks_bind (oks_u1 hA) (fun _ => oks_bind (oks_s1 hA) (fun _ => oks_pure _))⟩
theorem oo_54 : OkO 54 := fun B l a pc pc' hA => ⟨_, _, rfl, rfl, by first | exact oks_pure _ | exact oks_bind (oks_u1 hA) (fun _ => oks_pure _) | exact oks_bind (oks_u2 hA) (fun _ => oks_pure _) | exact oks_bind (oks_s2 hA) (fun _ => oks_pure _) | exact oks_bind (oks_s1 hA) (fun _ => oks_pure _) | exact oks_bind (oks_u1 hA) (fun _ => oks_bind (oks_s1 hA) (fun _ => oks_pure _))⟩
theorem oo_55 : OkO 55 := fun B l a pc pc' hA => ⟨_, _, rfl, rfl, by first | exact oks_pure _ | exact oks_bind (oks_u1 hA) (fun _ => oks_pure _) | exact oks_bind (oks_u2 hA) (fun _ => oks_pure _) | exact oks_bind (oks_s2 hA) (fun _ => oks_pure _) | exact oks_bind (oks_s1 hA) (fun _ => oks_pure _) | exact oks_bind (oks_u1 hA) (fun _ => oks_bind (oks_s1 hA) (fun _ => oks_pure _))⟩
theorem oo_58 : OkO 58 := fun B l a pc pc' hA => ⟨_, _, rfl, rfl, by first | exact oks_pure _ | exact oks_bind (oks_u1 hA) (fun _ => oks_pure _) | exact oks_bind (oks_u2 hA) (fun _ => oks_pure _) | exact oks_bind (oks_s2 hA) (fun _ => oks_pure _) | exact oks_bind (oks_s1 hA) (fun _ => oks_pure _) | exact oks_bind (oks_u1 hA) (fun _ => oks_bind (oks_s1 hA) (fun _ => oks_pure _))⟩
theorem oo_76 : OkO 76 := fun B l a pc pc' hA => ⟨_, _, rfl, rfl, by first | exact oks_pure _ | exact oks_bind (oks_u1 hA) (fun _ => oks_pure _) | exact oks_bind (oks_u2 hA) (fun _ => oks_pure _) | exact oks_bind (oks_s2 hA) (fun _ => oks_pure _) | exact oks_bind (oks_s1 hA) (fun _ => oks_pure _) | exact oks_bind (oks_u1 hA) (fun _ => oks_bind (oks_s1 hA) (fun _ => oks_pure _))⟩
theorem oo_77 : OkO 77 := fun B l a pc pc' hA => ⟨_, _, rfl, rfl, by first | exact oks_pure _ | exact oks_bind (oks_u1 hA) (fun _ => oks_pure _) | exact oks_bind (oks_u2 hA) (fun _ => oks_pure _) | exact oks_bind (oks_s2 hA) (fun _ => oks_pure _) | exact oks_bind (oks_s1 hA) (fun _ => oks_pure _) | exact oks_bind (oks_u1 hA) (fun _ => oks_bind (oks_s1 hA) (fun _ => oks_pure _))⟩
theorem oo_78 : OkO 78 := fun B l a pc pc' hA => ⟨_, _, rfl, rfl, by first | exact oks_pure _ | exact oks_bind (oks_u1 hA) (fun _ => oks_pure _) | exact oks_bind (oks_u2 hA) (fun _ => oks_pure _) | exact oks_bind (oks_s2 hA) (fun _ => oks_pure _) | exact oks_bind (oks_s1 hA) (fun _ => oks_pure _) | exact oks_bind (oks_u1 hA) (fun _ => oks_bind (oks_s1 hA) (fun _ => oks_pure _))⟩
theorem oo_87 : OkO 87 := fun B l a pc pc' hA => ⟨_, _, rfl, rfl, by first | exact oks_pure _ | exact oks_bind (oks_u1 hA) (fun _ => oks_pure _) | exact oks_bind (oks_u2 hA) (fun _ => oks_pure _) | exact oks_bind (oks_s2 hA) (fun _ => oks_pure _) | exact oks_bind (oks_s1 hA) (fun _ => oks_pure _) | exact oks_bind (oks_u1 hA) (fun _ => oks_bind (oks_s1 hA) (fun _ => oks_pure _))⟩
theorem oo_88 : OkO 88 := fun B l a pc pc' hA => ⟨_, _, rfl, rfl, by first | exact oks_pure _ | exact oks_bind (oks_u1 hA) (fun _ => oks_pure _) | exact oks_bind (oks_u2 hA) (fun _ => oks_pure _) | exact oks_bind (oks_s2 hA) (fun _ => oks_pure _) | exact oks_bind (oks_s1 hA) (fun _ => oks_pure _) | exact oks_bind (oks_u1 hA) (fun _ => oks_bind (oks_s1 hA) (fun _ => oks_pure _))⟩
theorem oo_89 : OkO 89 := fun B l a pc pc' hA => ⟨_, _, rfl, rfl, by first | exact oks_pure _ | exact oks_bind (oks_u1 hA) (fun _ => oks_pure _) | exact oks_bind (oks_u2 hA) (fun _ => oks_pure _) | exact oks_bind (oks_s2 hA) (fun _ => oks_pure _) | exact oks_bind (oks_s1 hA) (fun _ => oks_pure _) | exact oks_bind (oks_u1 hA) (fun _ => oks_bind (oks_s1 hA) (fun _ => oks_pure _))⟩
theorem oo_96 : OkO 96 := fun B l a pc pc' hA => ⟨_, _, rfl, rfl, by first | exact oks_pure _ | exact oks_bind (oks_u1 hA) (fun _ => oks_pure _) | exact oks_bind (oks_u2 hA) (fun _ => oks_pure _) | exact oks_bind (oks_s2 hA) (fun _ => oks_pure _) | exact oks_bind (oks_s1 hA) (fun _ => oks_pure _) | exact oks_bind (oks_u1 hA) (fun _ => oks_bind (oks_s1 hA) (fun _ => oks_pure _))⟩
theorem oo_100 : OkO 100 := fun B l a pc pc' hA => ⟨_, _, rfl, rfl, by first | exact oks_pure _ | exact oks_bind (oks_u1 hA) (fun _ => oks_pure _) | exact oks_bind (oks_u2 hA) (fun _ => oks_pure _) | exact oks_bind (oks_s2 hA) (fun _ => oks_pure _) | exact oks_bind (oks_s1 hA) (fun _ => oks_pure _) | exact oks_bind (oks_u1 hA) (fun _ => oks_bind (oks_s1 hA) (fun _ => oks_pure _))⟩
theorem oo_121 : OkO 121 := fun B l a pc pc' hA => ⟨_, _, rfl, rfl, by first | exact oks_pure _ | exact oks_bind (oks_u1 hA) (fun _ => oks_pure _) | exact oks_bind (oks_u2 hA) (fun _ => oks_pure _) | exact oks_bind (oks_s2 hA) (fun _ => oks_pure _) | exact oks_bind (oks_s1 hA) (fun _ => oks_pure _) | exact oks_bind (oks_u1 hA) (fun _ => oks_bind (oks_s1 hA) (fun _ => oks_pure _))⟩
theorem oo_126 : OkO 126 := fun B l a pc pc' hA => ⟨_, _, rfl, rfl, by first | exact oks_pure _ | exact oks_bind (oks_u1 hA) (fun _ => oks_pure _) | exact oks_bind (oks_u2 hA) (fun _ => oks_pure _) | exact oks_bind (oks_s2 hA) (fun _ => oks_pure _) | exact oks_bind (oks_s1 hA) (fun _ => oks_pure _) | exact oks_bind (oks_u1 hA) (fun _ => oks_bind (oks_s1 hA) (fun _ => oks_pure _))⟩
theorem oo_127 : OkO 127 := fun B l a pc pc' hA => ⟨_, _, rfl, rfl, by first | exact oks_pure _ | exact oks_bind (oks_u1 hA) (fun _ => oks_pure _) | exact oks_bind (oks_u2 hA) (fun _ => oks_pure _) | exact oks_bind (oks_s2 hA) (fun _ => oks_pure _) | exact oks_bind (oks_s1 hA) (fun _ => oks_pure _) | exact oks_bind (oks_u1 hA) (fun _ => oks_bind (oks_s1 hA) (fun _ => oks_pure _))⟩
theorem oo_129 : OkO 129 := fun B l a pc pc' hA => ⟨_, _, rfl, rfl, by first | exact oks_pure _ | exact oks_bind (oks_u1 hA) (fun _ => oks_pure _) | exact oks_bind (oks_u2 hA) (fun _ => oks_pure _) | exact oks_bind (oks_s2 hA) (fun _ => oks_pure _) | exact oks_bind (oks_s1 hA) (fun _ => oks_pure _) | exact oks_bind (oks_u1 hA) (fun _ => oks_bind (oks_s1 hA) (fun _ => oks_pure _))⟩
theorem oo_132 : OkO 132 := fun B l a pc pc' hA => ⟨_, _, rfl, rfl, by first | exact oks_pure _ | exact oks_bind (oks_u1 hA) (fun _ => oks_pure _) | exact oks_bind (oks_u2 hA) (fun _ => oks_pure _) | exact oks_bind (oks_s2 hA) (fun _ => oks_pure _) | exact oks_bind (oks_s1 hA) (fun _ => oks_pure _) | exact oks_bind (oks_u1 hA) (fun _ => oks_bind (oks_s1 hA) (fun _ => oks_pure _))⟩
theorem oo_133 : OkO 133 := fun B l a pc pc' hA => ⟨_, _, rfl, rfl, by first | exact oks_pure _ | exact oks_bind (oks_u1 hA) (fun _ => oks_pure _) | exact oks_bind (oks_u2 hA) (fun _ => oks_pure _) | exact oks_bind (oks_s2 hA) (fun _ => oks_pure _) | exact oks_bind (oks_s1 hA) (fun _ => oks_pure _) | exact oks_bind (oks_u1 hA) (fun _ => oks_bind (oks_s1 hA) (fun _ => oks_pure _))⟩
theorem oo_148 : OkO 148 := fun B l a pc pc' hA => ⟨_, _, rfl, rfl, by first | exact oks_pure _ | exact oks_bind (oks_u1 hA) (fun _ => oks_pure _) | exact oks_bind (oks_u2 hA) (fun _ => oks_pure _) | exact oks_bind (oks_s2 hA) (fun _ => oks_pure _) | exact oks_bind (oks_s1 hA) (fun _ => oks_pure _) | exact oks_bind (oks_u1 hA) (fun _ => oks_bind (oks_s1 hA) (fun _ => oks_pure _))⟩
theorem oo_153 : OkO 153 := fun B l a pc pc' hA => ⟨_, _, rfl, rfl, by first | exact oks_pure _ | exact oks_bind (oks_u1 hA) (fun _ => oks_pure _) | exact oks_bind (oks_u2 hA) (fun _ => oks_pure _) | exact oks_bind (oks_s2 hA) (fun _ => oks_pure _) | exact oks_bind (oks_s1 hA) (fun _ => oks_pure _) | exact oks_bind (oks_u1 hA) (fun _ => oks_bind (oks_s1 hA) (fun _ => oks_pure _))⟩
theorem oo_154 : OkO 154 := fun B l a pc pc' hA => ⟨_, _, rfl, rfl, by first | exact oks_pure _ | exact oks_bind (oks_u1 hA) (fun _ => oks_pure _) | exact oks_bind (oks_u2 hA) (fun _ => oks_pure _) | exact oks_bind (oks_s2 hA) (fun _ => oks_pure _) | exact oks_bind (oks_s1 hA) (fun _ => oks_pure _) | exact oks_bind (oks_u1 hA) (fun _ => oks_bind (oks_s1 hA) (fun _ => oks_pure _))⟩
theorem oo_155 : OkO 155 := fun B l a pc pc' hA => ⟨_, _, rfl, rfl, by first | exact oks_pure _ | exact oks_bind (oks_u1 hA) (fun _ => oks_pure _) | exact oks_bind (oks_u2 hA) (fun _ => oks_pure _) | exact oks_bind (oks_s2 hA) (fun _ => oks_pure _) | exact oks_bind (oks_s1 hA) (fun _ => oks_pure _) | exact oks_bind (oks_u1 hA) (fun _ => oks_bind (oks_s1 hA) (fun _ => oks_pure _))⟩
theorem oo_156 : OkO 156 := fun B l a pc pc' hA => ⟨_, _, rfl, rfl, by first | exact oks_pure _ | exact oks_bind (oks_u1 hA) (fun _ => oks_pure _) | exact oks_bind (oks_u2 hA) (fun _ => oks_pure _) | exact oks_bind (oks_s2 hA) (fun _ => oks_pure _) | exact oks_bind (oks_s1 hA) (fun _ => oks_pure _) | exact oks_bind (oks_u1 hA) (fun _ => oks_bind (oks_s1 hA) (fun _ => oks_pure _))⟩
theorem oo_157 : OkO 157 := fun B l a pc pc' hA => ⟨_, _, rfl, rfl, by first | exact oks_pure _ | exact oks_bind (oks_u1 hA) (fun _ => oks_pure _) | exact oks_bind (oks_u2 hA) (fun _ => oks_pure _) | exact oks_bind (oks_s2 hA) (fun _ => oks_pure _) | exact oks_bind (oks_s1 hA) (fun _ => oks_pure _) | exact oks_bind (oks_u1 hA) (fun _ => oks_bind (oks_s1 hA) (fun _ => oks_pure _))⟩
theorem oo_158 : OkO 158 := fun B l a pc pc' hA => ⟨_, _, rfl, rfl, by first | exact oks_pure _ | exact oks_bind (oks_u1 hA) (fun _ => oks_pure _) | exact oks_bind (oks_u2 hA) (fun _ => oks_pure _) | exact oks_bind (oks_s2 hA) (fun _ => oks_pure _) | exact oks_bind (oks_s1 hA) (fun _ => oks_pure _) | exact oks_bind (oks_u1 hA) (fun _ => oks_bind (oks_s1 hA) (fun _ => oks_pure _))⟩
theorem oo_159 : OkO 159 := fun B l a pc pc' hA => ⟨_, _, rfl, rfl, by first | exact oks_pure _ | exact oks_bind (oks_u1 hA) (fun _ => oks_pure _) | exact oks_bind (oks_u2 hA) (fun _ => oks_pure _) | exact oks_bind (oks_s2 hA) (fun _ => oks_pure _) | exact oks_bind (oks_s1 hA) (fun _ => oks_pure _) | exact oks_bind (oks_u1 hA) (fun _ => oks_bind (oks_s1 hA) (fun _ => oks_pure _))⟩
theorem oo_160 : OkO 160 := fun B l a pc pc' hA => ⟨_, _, rfl, rfl, by first | exact oks_pure _ | exact oks_bind (oks_u1 hA) (fun _ => oks_pure _) | exact oks_bind (oks_u2 hA) (fun _ => oks_pure _) | exact oks_bind (oks_s2 hA) (fun _ => oks_pure _) | exact oks_bind (oks_s1 hA) (fun _ => oks_pure _) | exact oks_bind (oks_u1 hA) (fun _ => oks_bind (oks_s1 hA) (fun _ => oks_pure _))⟩
theorem oo_161 : OkO 161 := fun B l a pc pc' hA => ⟨_, _, rfl, rfl, by first | exact oks_pure _ | exact oks_bind (oks_u1 hA) (fun _ => oks_pure _) | exact oks_bind (oks_u2 hA) (fun _ => oks_pure _) | exact oks_bind (oks_s2 hA) (fun _ => oks_pure _) | exact oks_bind (oks_s1 hA) (fun _ => oks_pure _) | exact oks_bind (oks_u1 hA) (fun _ => oks_bind (oks_s1 hA) (fun _ => oks_pure _))⟩
theorem oo_162 : OkO 162 := fun B l a pc pc' hA => ⟨_, _, rfl, rfl, by first | exact oks_pure _ | exact oks_bind (oks_u1 hA) (fun _ => oks_pure _) | exact oks_bind (oks_u2 hA) (fun _ => oks_pure _) | exact oks_bind (oks_s2 hA) (fun _ => oks_pure _) | exact oks_bind (oks_s1 hA) (fun _ => oks_pure _) | exact oks_bind (oks_u1 hA) (fun _ => oks_bind (oks_s1 hA) (fun _ => oks_pure _))⟩
theorem oo_163 : OkO 163 := fun B l a pc pc' hA => ⟨_, _, rfl, rfl, by first | exact oks_pure _ | exact oks_bind (oks_u1 hA) (fun _ => oks_pure _) | exact oks_bind (oks_u2 hA) (fun _ => oks_pure _) | exact oks_bind (oks_s2 hA) (fun _ => oks_pure _) | exact oks_bind (oks_s1 hA) (fun _ => oks_pure _) | exact oks_bind (oks_u1 hA) (fun _ => oks_bind (oks_s1 hA) (fun _ => oks_pure _))⟩
theorem oo_164 : OkO 164 := fun B l a pc pc' hA => ⟨_, _, rfl, rfl, by first | exact oks_pure _ | exact oks_bind (oks_u1 hA) (fun _ => oks_pure _) | exact oks_bind (oks_u2 hA) (fun _ => oks_pure _) | exact oks_bind (oks_s2 hA) (fun _ => oks_pure _) | exact oks_bind (oks_s1 hA) (fun _ => oks_pure _) | exact oks_bind (oks_u1 hA) (fun _ => oks_bind (oks_s1 hA) (fun _ => oks_pure _))⟩
theorem oo_167 : OkO 167 := fun B l a pc pc' hA => ⟨_, _, rfl, rfl, by first | exact oks_pure _ | exact oks_bind (oks_u1 hA) (fun _ => oks_pure _) | exact oks_bind (oks_u2 hA) (fun _ => oks_pure _) | exact oks_bind (oks_s2 hA) (fun _ => oks_pure _) | exact oks_bind (oks_s1 hA) (fun _ => oks_pure _) | exact oks_bind (oks_u1 hA) (fun _ => oks_bind (oks_s1 hA) (fun _ => oks_pure _))⟩
theorem oo_172 : OkO 172 := fun B l a pc pc' hA => ⟨_, _, rfl, rfl, by first | exact oks_pure _ | exact oks_bind (oks_u1 hA) (fun _ => oks_pure _) | exact oks_bind (oks_u2 hA) (fun _ => oks_pure _) | exact oks_bind (oks_s2 hA) (fun _ => oks_pure _) | exact oks_bind (oks_s1 hA) (fun _ => oks_pure _) | exact oks_bind (oks_u1 hA) (fun _ => oks_bind (oks_s1 hA) (fun _ => oks_pure _))⟩
theorem oo_182 : OkO 182 := fun B l a pc pc' hA => ⟨_, _, rfl, rfl, by first | exact oks_pure _ | exact oks_bind (oks_u1 hA) (fun _ => oks_pure _) | exact oks_bind (oks_u2 hA) (fun _ => oks_pure _) | exact oks_bind (oks_s2 hA) (fun _ => oks_pure _) | exact oks_bind (oks_s1 hA) (fun _ => oks_pure _) | exact oks_bind (oks_u1 hA) (fun _ => oks_bind (oks_s1 hA) (fun _ => oks_pure _))⟩
theorem oo_183 : OkO 183 := fun B l a pc pc' hA => ⟨_, _, rfl, rfl, by first | exact oks_pure _ | exact oks_bind (oks_u1 hA) (fun _ => oks_pure _) | exact oks_bind (oks_u2 hA) (fun _ => oks_pure _) | exact oks_bind (oks_s2 hA) (fun _ => oks_pure _) | exact oks_bind (oks_s1 hA) (fun _ => oks_pure _) | exact oks_bind (oks_u1 hA) (fun _ => oks_bind (oks_s1 hA) (fun _ => oks_pure _))⟩
theorem oo_184 : OkO 184 := fun B l a pc pc' hA => ⟨_, _, rfl, rfl, by first | exact oks_pure _ | exact oks_bind (oks_u1 hA) (fun _ => oks_pure _) | exact oks_bind (oks_u2 hA) (fun _ => oks_pure _) | exact oks_bind (oks_s2 hA) (fun _ => oks_pure _) | exact oks_bind (oks_s1 hA) (fun _ => oks_pure _) | exact oks_bind (oks_u1 hA) (fun _ => oks_bind (oks_s1 hA) (fun _ => oks_pure _))⟩
theorem oo_187 : OkO 187 := fun B l a pc pc' hA => ⟨_, _, rfl, rfl, by first | exact oks_pure _ | exact oks_bind (oks_u1 hA) (fun _ => oks_pure _) | exact oks_bind (oks_u2 hA) (fun _ => oks_pure _) | exact oks_bind (oks_s2 hA) (fun _ => oks_pure _) | exact oks_bind (oks_s1 hA) (fun _ => oks_pure _) | exact oks_bind (oks_u1 hA) (fun _ => oks_bind (oks_s1 hA) (fun _ => oks_pure _))⟩
theorem oo_190 : OkO 190 := fun B l a pc pc' hA => ⟨_, _, rfl, rfl, by first | exact oks_pure _ | exact oks_bind (oks_u1 hA) (fun _ => oks_pure _) | exact oks_bind (oks_u2 hA) (fun _ => oks_pure _) | exact oks_bind (oks_s2 hA) (fun _ => oks_pure _) | exact oks_bind (oks_s1 hA) (fun _ => oks_pure _) | exact oks_bind (oks_u1 hA) (fun _ => oks_bind (oks_s1 hA) (fun _ => oks_pure _))⟩
end DSH
def lawL : List UInt8 := cL_law.data.toList
theorem lawE : cL_law = ⟨⟨lawL⟩⟩ := rfl
theorem d_law {o : Nat} (ho : OkO o) {B : List UInt8} {a : Nat} (hA : d_acc B lawL a) {k : Nat} {i : Jvm.ClassFile.Instr} {n : Nat} (h : (B[k]?).map UInt8.toNat = some o ∧ decode ⟨⟨B⟩⟩ k = .ok (i, n)) : decode cL_law (a + k) = .ok (i, n) := by
  rw [lawE]
  exact d_sh ho hA h

theorem l_in {x4 : Int32} {L : Nat} {c : Int32} {k : Int} (h4 : 0 ≤ x4.toInt ∧ x4.toInt + 8 ≤ (L : Int) ∧ L ≤ 4096) (hc : c.toInt = k) (hk : 0 ≤ k ∧ k < 8) : vp_in (x4 + c) L := by
  have e : (x4 + c).toInt = x4.toInt + c.toInt := fb_addI (by omega) (by omega)
  exact vp_in_iff.mpr ⟨by omega, by omega⟩
theorem l_callV {p : Program} {l : Launch} {e : Env} {R : Room} {s : State} {m : MethodId} {args : Array Value} {below : List Frame} {meth : Method} {c : Code} {H : Heap} {locs : List Loc} {cells slots : Nat} {Q : State → Prop} {y : MethodName} {bytes cc : ByteArray} {maxL nL n index mc ms : Nat} {ret : Option FieldType} {wc Ts : List Cond} {rm : Room} {own C : String} {b : Nat} {As rest st0 : List Value} {Pc : Array Value → State → Prop} {pc : Nat} {ls : Array Slot} {D : va_G} {cy : Nat → ClassId} {A A0 : Nat → Prop} {H0 : Heap} {post : Nat → Nat → Int32 → cS → Prop} (S : CallFix p m c cc nL s args Ts own) (hM : MetV l y wc rm Pc (fun k n => va_Qi (post k n) (cB D cy A) A) A) (cw : CallW R s args own C index y bytes maxL ret wc rm mc ms n) (hp : PreV s H C b Pc As)
    (hn : As.length = n) (hsize : ls.size = nL) (hstack : st0 = As.reverse ++ .ref b :: rest) (hW : (rest.map fun v => v.category).sum ≤ 8) (hdg : decode cc pc = .ok (.invokevirtual index, 3)) (hf : cells + mc ≤ R.cells ∧ slots + ms ≤ R.slots) (hS : va_S A0 H0 H locs) (hA : ∀ q, A q → A0 q)
    (kk : ∀ (k n : Nat) (r : Int32) (u : cS) (H1 : Heap) (locs1 : List Loc), post k n r u → va_P D vwCl u.2 H1 → va_D A u.2 → cT cy u.1 u.2 → H.size ≤ H1.size → (∀ z : Nat, z < H.size → ¬ A z → H1[z]? = H[z]?) → va_S A0 H0 H1 locs1 → W p l e R s m args below meth c H1 locs1 (cells + k) (slots + n) Q (F0 m (pc + 3) ls (.int r :: rest))) : W p l e R s m args below meth c H locs cells slots Q (F0 m pc ls st0) := by
  obtain ⟨⟨hrc, hrs, hfr, hlo, hws, hcw, hcode, hini, hy, hlen, hl⟩, hin, hse⟩ := cw
  obtain ⟨hx, hb, hml, ho, -⟩ := S
  obtain ⟨hbl, ⟨cellB, hcB, hoB, hclB⟩, hPc⟩ := hp
  have hK : Back l R p e below s args y 3 8 (PreOf R mc ms Pc) (fun A' a v B => ∃ k n, PostOf (va_Qi (post k n) (cB D cy A) A) k n A A' a v B) := backV (bytes := bytes) (maxL := maxL) (ret := ret) hM hbl hrc hrs hfr hlo hws hcw (fun a' U hW => word_at hW (Or.inl (by first | rfl | simp [Cond.onTables, Cond.keeps, Cond.steady])) hini)
  intro T hT X
  obtain ⟨v, vm₁, ⟨U', l2, c2, s2⟩, hW₁, X', ⟨k9, n9, g', mk, t, L, e1, e2, hq, h1, hL, h2, h3⟩, st⟩ := callV X hx (C := C) (bytes := bytes) (maxL := maxL) (ret := ret) ho hl hin hse hcode hy hK (by rw [hT]; exact hcB) hoB hclB (g := F0 m pc ls st0) rfl (hsize.trans hml.symm) (argsL := As) (rest := rest) (fun sig h => hn.trans (hlen sig h)) hstack (lv_room hW) (by rw [hb]; exact hdg)
    (fun vm₁ hW₁ => ⟨hf.1, hf.2, hPc (T.setVm vm₁) hT hW₁⟩)
  dsimp only [Pt.U, Pt.locs, Pt.cells, Pt.slots] at X' e1 e2 h1 h2 h3 st
  subst h1; subst h2; subst h3
  obtain ⟨⟨r, u, hv, hp, hB1, hB2, hB3⟩, hz, hk⟩ := hq
  cases hv
  have h0 : ((T.setVm vm₁).calling g' mk (Value.ref b :: As).toArray).heap = H := hT
  rw [h0] at hz hk
  obtain ⟨t2, a1, b1⟩ := kk k9 n9 r u U'.heap (locs ++ L) hp (by rw [e1]; exact hB1) hB2 hB3 (by rw [e1]; exact hz) (fun z g1 g2 => by rw [e1]; exact hk z g1 g2)
    ⟨Nat.le_trans hS.1 (by rw [e1]; exact hz), fun q g1 g2 => by rw [e1, hk q (Nat.lt_of_lt_of_le g1 hS.1) (fun z => g2 (hA q z))]; exact hS.2.1 q g1 g2, fun q hq => by
      rcases List.mem_append.mp hq with h | h
      · exact hS.2.2 q h
      · exact hA _ (hL q h)⟩ U' rfl X'
  exact ⟨t2, st t2 a1, b1⟩

