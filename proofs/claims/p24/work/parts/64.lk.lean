/-! the law: its zones, its invariant, its calls -/
def AL (s : State) : Nat → Prop := fun z => s.heap.size ≤ z
def AC (s : State) (mo : Nat) (a : Nat → Nat) : Nat → Prop := fun z => s.heap.size ≤ z ∧ ¬ AM mo a z
theorem AC.AL {s : State} {mo : Nat} {a : Nat → Nat} {z : Nat} (h : AC s mo a z) : AL s z := h.1
theorem cZ.narrow {A B : Nat → Prop} {U : State} (h : cZ A U) (hAB : ∀ q, B q → A q) : cZ B U := by
  obtain ⟨tX, tY, xX, xY, ⟨a1, a2, a5⟩, ⟨b1, b2, b5⟩⟩ := h
  exact ⟨tX, tY, xX, xY, ⟨a1.narrow hAB, a2.narrow hAB, a5⟩, ⟨b1.narrow hAB, b2.narrow hAB, b5⟩⟩
theorem xT.narrow {A B : Nat → Prop} {U : State} (h : xT A U) (hAB : ∀ q, B q → A q) : xT B U := by
  obtain ⟨h1, h2, h3, h4, h5⟩ := h
  exact ⟨h1, h2, h3, h4.narrow hAB, h5.narrow hAB⟩
/-- what stays over the whole law -/
def LX (p : Program) (l : Launch) (s : State) (m : MethodId) (c : Code) (b L : Nat) (xs : Nat → Int32) (D : va_G) (cy : Nat → ClassId) (mo : Nat) (a : Nat → Nat) : Prop :=
  (p.tables.exec = Jvm.exec ∧ c.code = cL_law ∧ c.maxLocals = 8 ∧ s.vm.findClass RL = some m.cls ∧ (∀ w ∈ wsL_law, w.before #[Value.ref b] s = true)) ∧ (va_X b L xs s s.heap ∧ b < s.heap.size) ∧ (va_K D vwCl (cTy cy) s ∧ cV s ∧ cZ (AL s) s ∧ xT (AL s) s) ∧ l.stackTraces = false ∧ DM cy mo a ∧ ∀ x, AM mo a x → s.heap.size ≤ x
/-- between two calls: M is the table of meetings, where there is one -/
def LI (D : va_G) (cy : Nat → ClassId) (s : State) (xo mo ou : Nat) (a : Nat → Nat) (M : Option Nat) (G : cG) (W : va_W) (f : Nat → Int32) (g : Nat → Int64) (r : Nat → Nat → Int32) (q : Nat → Nat → Int64) (H : Heap) (locs : List Loc) : Prop :=
  va_P D vwCl W H ∧ va_P D vwCl (WM cy mo a f g r q) H ∧ va_D (AC s mo a) W ∧ cT cy G W ∧ G xo = some (7, 0, 0) ∧ G ou = some (1, 1, 0) ∧ MI f r ∧ (∃ (bs js sh wk ll : Nat) (jc lc : Int32) (lb : Option Nat), cIn W xo (.inr (8, [.ref bs, .ref js, .int jc, .ref sh, .ref wk, va_rf M, .ref ll, .int lc, va_rf lb]))) ∧ va_S (AL s) s.heap H locs ∧ ∀ x, AM mo a x → x < H.size
theorem wm_am {cy : Nat → ClassId} {mo : Nat} {a : Nat → Nat} {f : Nat → Int32} {g : Nat → Int64} {r : Nat → Nat → Int32} {q : Nat → Nat → Int64} {k : Nat} {z : Nat × va_E} (h : (WM cy mo a f g r q)[k]? = some z) : AM mo a z.1 := by
  have hm := List.mem_of_getElem? h
  unfold WM at hm
  simp only [List.mem_cons, List.not_mem_nil, or_false] at hm
  rcases hm with rfl | rfl | rfl | rfl | rfl | rfl | rfl | rfl | rfl | rfl | rfl | rfl | rfl | rfl | rfl | rfl | rfl | rfl | rfl | rfl | rfl | rfl | rfl
  · exact Or.inl rfl
  all_goals exact Or.inr ⟨_, rfl⟩
section LWK
variable {p : Program} {l : Launch} {e : Env} {R : Room} {s : State} {m : MethodId} {args : Array Value} {below : List Frame} {meth : Method} {c : Code} {H : Heap} {locs : List Loc} {cells slots : Nat} {Q : State → Prop}
variable {y : MethodName} {bytes cc : ByteArray} {maxL nL n index mc ms : Nat} {ret : Option FieldType} {wc Ts : List Cond} {rm : Room} {own C : String} {As rest st0 av : List Value} {pc : Nat} {ls : Array Slot} {D : va_G} {cy : Nat → ClassId} {xo mo ou : Nat} {a : Nat → Nat} {M : Option Nat} {G : cG} {W' : va_W} {f : Nat → Int32} {g : Nat → Int64} {r : Nat → Nat → Int32} {q : Nat → Nat → Int64} {a9 : Array Value}
theorem LI.fresh (I : LI D cy s xo mo ou a M G W' f g r q H locs) : ∀ z, H.size ≤ z → AC s mo a z := fun z h => ⟨Nat.le_trans I.2.2.2.2.2.2.2.2.1.1 h, fun ha => absurd (I.2.2.2.2.2.2.2.2.2 z ha) (Nat.not_lt.mpr h)⟩
theorem l_pre0 (I : LI D cy s xo mo ou a M G W' f g r q H locs) (hK : va_K D vwCl (cTy cy) s) (hV : cV s) : ∀ U : State, U.heap = H → s.WarmedH U.vm → (va_P D vwCl W' U.heap ∧ va_K D vwCl (cTy cy) U ∧ (∀ z, U.heap.size ≤ z → AC s mo a z) ∧ cV U) := fun U hU hW => ⟨by rw [hU]; exact I.1, va_K.moved hW.alike hK, fun z h => I.fresh z (by rw [← hU]; exact h), hV.warm hW⟩
theorem l_recv (I : LI D cy s xo mo ou a M G W' f g r q H locs) (hK : va_K D vwCl (cTy cy) s) : ∃ cell : Cell, H[xo]? = some cell ∧ cell.vm.isStatics = false ∧ s.vm.findClass RX9 = some cell.cls := by
  obtain ⟨bs, js, sh, wk, ll, jc, lc, lb, k0, hk⟩ := I.2.2.2.2.2.2.2.1
  exact va_recv (ci := 8) hK I.1 rfl hk
theorem l_preV (I : LI D cy s xo mo ou a M G W' f g r q H locs) (hK : va_K D vwCl (cTy cy) s) (hV : cV s) : PreV s H RX9 xo (cPc D cy (AC s mo a) W' (.ref xo :: av)) av := ⟨c_blind, l_recv I hK, fun U hU hW => ⟨rfl, l_pre0 I hK hV U hU hW⟩⟩
theorem l_preE (I : LI D cy s xo mo ou a M G W' f g r q H locs) (hK : va_K D vwCl (cTy cy) s) (hV : cV s) (hZ : cZ (AL s) s) : PreV s H RX9 xo (ePc D cy (AC s mo a) W' (.ref xo :: av)) av := ⟨e_blind, l_recv I hK, fun U hU hW => ⟨rfl, l_pre0 I hK hV U hU hW, (hZ.go hU hW I.2.2.2.2.2.2.2.2.1).narrow (fun _ h => h.1)⟩⟩
theorem l_preX (I : LI D cy s xo mo ou a M G W' f g r q H locs) (hK : va_K D vwCl (cTy cy) s) (hV : cV s) (hZ : cZ (AL s) s) (hXT : xT (AL s) s) : PreV s H RX9 xo (xPc D cy (AC s mo a) W' (.ref xo :: av)) av := ⟨x_blind, l_recv I hK, fun U hU hW => ⟨rfl, l_pre0 I hK hV U hU hW, (hZ.go hU hW I.2.2.2.2.2.2.2.2.1).narrow (fun _ h => h.1), (hXT.go hU hW I.2.2.2.2.2.2.2.2.1).narrow (fun _ h => h.1)⟩⟩
theorem l_preS (I : LI D cy s xo mo ou a M G W' f g r q H locs) (hK : va_K D vwCl (cTy cy) s) (hV : cV s) (hZ : cZ (AL s) s) (hXT : xT (AL s) s) : PreS s H (xPc D cy (AC s mo a) W' av) av := ⟨x_blind, fun U hU hW => ⟨rfl, l_pre0 I hK hV U hU hW, (hZ.go hU hW I.2.2.2.2.2.2.2.2.1).narrow (fun _ h => h.1), (hXT.go hU hW I.2.2.2.2.2.2.2.2.1).narrow (fun _ h => h.1)⟩⟩
/-- behind a call of the class: what of the invariant is to be seen anew -/
theorem LI.cla (I : LI D cy s xo mo ou a M G W' f g r q H locs) {H1 : Heap} {locs1 : List Loc} {G1 : cG} {W1 : va_W} {M1 : Option Nat} (hP : va_P D vwCl W1 H1) (hD : va_D (AC s mo a) W1) (hT : cT cy G1 W1) (hE : cE G G1) (hM : ∃ (bs js sh wk ll : Nat) (jc lc : Int32) (lb : Option Nat), cIn W1 xo (.inr (8, [.ref bs, .ref js, .int jc, .ref sh, .ref wk, va_rf M1, .ref ll, .int lc, va_rf lb]))) (hz : H.size ≤ H1.size) (hk : ∀ z : Nat, z < H.size → ¬ AC s mo a z → H1[z]? = H[z]?) (hS : va_S (AL s) s.heap H1 locs1) : LI D cy s xo mo ou a M1 G1 W1 f g r q H1 locs1 := by
  obtain ⟨h1, h2, h3, h4, h5, h6, h7, h8, h9, h10⟩ := I
  exact ⟨hP, fun k z hkz => (h2 k z hkz).kept (hk z.1 (h2 k z hkz).lt (fun ha => ha.2 (wm_am hkz))), hD, hT, hE _ _ h5, hE _ _ h6, h7, hM, hS, fun x hx => Nat.lt_of_lt_of_le (h10 x hx) hz⟩
theorem lk_i {ch : List Nat} {post : Int32 → cS → Prop} (I : LI D cy s xo mo ou a M G W' f g r q H locs) (hr : va_Run p l e R s m args below meth c H locs cells slots mc ms (F0 m pc ls st0) rest (va_Qi (fun r0 u => cX none (chs ch) G W' u.1 u.2 ∧ post r0 u) (cB D cy (AC s mo a)) (AC s mo a) a9) (AC s mo a)) (h7 : chs ch 7 = false)
    (kk : ∀ (r0 : Int32) (u : cS) (H1 : Heap) (locs1 : List Loc), post r0 u → LI D cy s xo mo ou a M u.1 u.2 f g r q H1 locs1 → W p l e R s m args below meth c H1 locs1 (cells + mc) (slots + ms) Q (F0 m (pc + 3) ls (.int r0 :: rest))) : W p l e R s m args below meth c H locs cells slots Q (F0 m pc ls st0) :=
  va_calli hr I.2.2.2.2.2.2.2.2.1 (fun _ _ h => h.1) (fun _ h => h.1) (fun r0 u t H1 locs1 ht hvm hp hB hz hk hS => by
    obtain ⟨h1, h2, h3⟩ := hB
    rw [ht] at h1
    obtain ⟨bs, js, sh, wk, ll, jc, lc, lb, hM⟩ := I.2.2.2.2.2.2.2.1
    exact kk r0 u H1 locs1 hp.2 (I.cla h1 h2 h3 hp.1.1 ⟨bs, js, sh, wk, ll, jc, lc, lb, hp.1.2.1 _ _ (cP.no I.2.2.2.2.1 h7) hM⟩ hz hk hS))
theorem lk_l {ch : List Nat} {post : Int64 → cS → Prop} (I : LI D cy s xo mo ou a M G W' f g r q H locs) (hr : va_Run p l e R s m args below meth c H locs cells slots mc ms (F0 m pc ls st0) rest (va_Ql (fun r0 u => cX none (chs ch) G W' u.1 u.2 ∧ post r0 u) (cB D cy (AC s mo a)) (AC s mo a) a9) (AC s mo a)) (h7 : chs ch 7 = false)
    (kk : ∀ (r0 : Int64) (u : cS) (H1 : Heap) (locs1 : List Loc), post r0 u → LI D cy s xo mo ou a M u.1 u.2 f g r q H1 locs1 → W p l e R s m args below meth c H1 locs1 (cells + mc) (slots + ms) Q (F0 m (pc + 3) ls (.long r0 :: rest))) : W p l e R s m args below meth c H locs cells slots Q (F0 m pc ls st0) :=
  va_calll hr I.2.2.2.2.2.2.2.2.1 (fun _ _ h => h.1) (fun _ h => h.1) (fun r0 u t H1 locs1 ht hvm hp hB hz hk hS => by
    obtain ⟨h1, h2, h3⟩ := hB
    rw [ht] at h1
    obtain ⟨bs, js, sh, wk, ll, jc, lc, lb, hM⟩ := I.2.2.2.2.2.2.2.1
    exact kk r0 u H1 locs1 hp.2 (I.cla h1 h2 h3 hp.1.1 ⟨bs, js, sh, wk, ll, jc, lc, lb, hp.1.2.1 _ _ (cP.no I.2.2.2.2.1 h7) hM⟩ hz hk hS))
theorem lk_ri {post : Int32 → cS → Prop} (I : LI D cy s xo mo ou a M G W' f g r q H locs) (hr : va_Run p l e R s m args below meth c H locs cells slots mc ms (F0 m pc ls st0) rest (va_Qi (fun r0 u => u = (G, W') ∧ post r0 u) (cB D cy (AC s mo a)) (AC s mo a) a9) (AC s mo a))
    (kk : ∀ (r0 : Int32) (u : cS) (H1 : Heap) (locs1 : List Loc), post r0 u → LI D cy s xo mo ou a M u.1 u.2 f g r q H1 locs1 → W p l e R s m args below meth c H1 locs1 (cells + mc) (slots + ms) Q (F0 m (pc + 3) ls (.int r0 :: rest))) : W p l e R s m args below meth c H locs cells slots Q (F0 m pc ls st0) :=
  va_calli hr I.2.2.2.2.2.2.2.2.1 (fun _ _ h => h.1) (fun _ h => h.1) (fun r0 u t H1 locs1 ht hvm hp hB hz hk hS => by
    obtain ⟨h1, h2, h3⟩ := hB
    obtain ⟨rfl, hp⟩ := hp
    rw [ht] at h1
    exact kk r0 _ H1 locs1 hp (I.cla h1 h2 h3 cE.rf I.2.2.2.2.2.2.2.1 hz hk hS))
theorem lk_rl {post : Int64 → cS → Prop} (I : LI D cy s xo mo ou a M G W' f g r q H locs) (hr : va_Run p l e R s m args below meth c H locs cells slots mc ms (F0 m pc ls st0) rest (va_Ql (fun r0 u => u = (G, W') ∧ post r0 u) (cB D cy (AC s mo a)) (AC s mo a) a9) (AC s mo a))
    (kk : ∀ (r0 : Int64) (u : cS) (H1 : Heap) (locs1 : List Loc), post r0 u → LI D cy s xo mo ou a M u.1 u.2 f g r q H1 locs1 → W p l e R s m args below meth c H1 locs1 (cells + mc) (slots + ms) Q (F0 m (pc + 3) ls (.long r0 :: rest))) : W p l e R s m args below meth c H locs cells slots Q (F0 m pc ls st0) :=
  va_calll hr I.2.2.2.2.2.2.2.2.1 (fun _ _ h => h.1) (fun _ h => h.1) (fun r0 u t H1 locs1 ht hvm hp hB hz hk hS => by
    obtain ⟨h1, h2, h3⟩ := hB
    obtain ⟨rfl, hp⟩ := hp
    rw [ht] at h1
    exact kk r0 _ H1 locs1 hp (I.cla h1 h2 h3 cE.rf I.2.2.2.2.2.2.2.1 hz hk hS))
theorem lk_s {ch : List Nat} {bs js sh wk ll : Nat} (I : LI D cy s xo mo ou a M G W' f g r q H locs) (hr : va_Run p l e R s m args below meth c H locs cells slots mc ms (F0 m pc ls st0) rest (va_Qi (fun r0 u => cX none (chs ch) G W' u.1 u.2 ∧ ∃ jc lc lb, cIn u.2 xo (.inr (8, [.ref bs, .ref js, .int jc, .ref sh, .ref wk, va_rf M, .ref ll, .int lc, va_rf lb]))) (cB D cy (AC s mo a)) (AC s mo a) a9) (AC s mo a))
    (kk : ∀ (r0 : Int32) (u : cS) (H1 : Heap) (locs1 : List Loc), True → LI D cy s xo mo ou a M u.1 u.2 f g r q H1 locs1 → W p l e R s m args below meth c H1 locs1 (cells + mc) (slots + ms) Q (F0 m (pc + 3) ls (.int r0 :: rest))) : W p l e R s m args below meth c H locs cells slots Q (F0 m pc ls st0) :=
  va_calli hr I.2.2.2.2.2.2.2.2.1 (fun _ _ h => h.1) (fun _ h => h.1) (fun r0 u t H1 locs1 ht hvm hp hB hz hk hS => by
    obtain ⟨h1, h2, h3⟩ := hB
    obtain ⟨hX, jc, lc, lb, hM⟩ := hp
    rw [ht] at h1
    exact kk r0 _ H1 locs1 trivial (I.cla h1 h2 h3 hX.1 ⟨bs, js, sh, wk, ll, jc, lc, lb, hM⟩ hz hk hS))
/-- behind a call of the reference -/
theorem LI.ref (I : LI D cy s xo mo ou a M G W' f g r q H locs) {H1 : Heap} {locs1 : List Loc} {f1 : Nat → Int32} {g1 : Nat → Int64} {r1 : Nat → Nat → Int32} {q1 : Nat → Nat → Int64} (hPm : va_P D vwCl (WM cy mo a f1 g1 r1 q1) H1) (hI : MI f1 r1) (hz : H.size ≤ H1.size) (hk : ∀ z : Nat, z < H.size → ¬ AM mo a z → H1[z]? = H[z]?) (hS : va_S (AL s) s.heap H1 locs1) : LI D cy s xo mo ou a M G W' f1 g1 r1 q1 H1 locs1 := by
  obtain ⟨h1, h2, h3, h4, h5, h6, h7, h8, h9, h10⟩ := I
  exact ⟨fun k z hkz => (h1 k z hkz).kept (hk z.1 (h1 k z hkz).lt (h3.2 k z hkz).2), hPm, h3, h4, h5, h6, hI, h8, hS, fun x hx => Nat.lt_of_lt_of_le (h10 x hx) hz⟩
theorem lm_i {post : Int32 → MS → Prop} (I : LI D cy s xo mo ou a M G W' f g r q H locs) (S : CallFix p m c cc nL s args Ts own) (hM : Mi l D cy mo a y wc rm f g r q As post) (cw : CallW R s args own RX10 index y bytes maxL ret wc rm 0 0 n) (hK : va_K D vwCl (cTy cy) s) (hAM : ∀ x, AM mo a x → s.heap.size ≤ x) (hn : As.length = n) (hsize : ls.size = nL) (hstack : st0 = As.reverse ++ .ref mo :: rest) (hW : (rest.map fun v => v.category).sum ≤ 8) (hdg : decode cc pc = .ok (.invokevirtual index, 3)) (hf : cells ≤ R.cells ∧ slots ≤ R.slots)
    (hpost : ∀ r0 u, post r0 u → MI u.1 u.2.2.1)
    (kk : ∀ (r0 : Int32) (u : MS) (H1 : Heap) (locs1 : List Loc), post r0 u → LI D cy s xo mo ou a M G W' u.1 u.2.1 u.2.2.1 u.2.2.2 H1 locs1 → W p l e R s m args below meth c H1 locs1 cells slots Q (F0 m (pc + 3) ls (.int r0 :: rest))) : W p l e R s m args below meth c H locs cells slots Q (F0 m pc ls st0) := by
  have hK3 : va_K D vwCl (mT cy) s := hK.sub [0, 1, 2] rfl
  refine va_calli (va_runV (g := F0 m pc ls st0) S hM cw ⟨m_blind, va_recv hK3 I.2.1 (ci := 9) (q0 := 0) rfl rfl, fun U hU hW => ⟨rfl, by rw [hU]; exact I.2.1, va_K.moved hW.alike hK3⟩⟩ rfl hn hsize hstack (lv_room hW) hdg ⟨hf.1, hf.2⟩) I.2.2.2.2.2.2.2.2.1 (fun z _ h => hAM z h) (fun z h => hAM z h) (fun r0 u t H1 locs1 ht hvm hp hB hz hk hS => ?_)
  unfold mB at hB
  rw [ht] at hB
  exact kk r0 u H1 locs1 hp (I.ref hB (hpost r0 u hp) hz hk hS)
theorem lm_l {post : Int64 → MS → Prop} (I : LI D cy s xo mo ou a M G W' f g r q H locs) (S : CallFix p m c cc nL s args Ts own) (hM : Ml l D cy mo a y wc rm f g r q As post) (cw : CallW R s args own RX10 index y bytes maxL ret wc rm 0 0 n) (hK : va_K D vwCl (cTy cy) s) (hAM : ∀ x, AM mo a x → s.heap.size ≤ x) (hn : As.length = n) (hsize : ls.size = nL) (hstack : st0 = As.reverse ++ .ref mo :: rest) (hW : (rest.map fun v => v.category).sum ≤ 8) (hdg : decode cc pc = .ok (.invokevirtual index, 3)) (hf : cells ≤ R.cells ∧ slots ≤ R.slots)
    (hpost : ∀ r0 u, post r0 u → MI u.1 u.2.2.1)
    (kk : ∀ (r0 : Int64) (u : MS) (H1 : Heap) (locs1 : List Loc), post r0 u → LI D cy s xo mo ou a M G W' u.1 u.2.1 u.2.2.1 u.2.2.2 H1 locs1 → W p l e R s m args below meth c H1 locs1 cells slots Q (F0 m (pc + 3) ls (.long r0 :: rest))) : W p l e R s m args below meth c H locs cells slots Q (F0 m pc ls st0) := by
  have hK3 : va_K D vwCl (mT cy) s := hK.sub [0, 1, 2] rfl
  refine va_calll (va_runV (g := F0 m pc ls st0) S hM cw ⟨m_blind, va_recv hK3 I.2.1 (ci := 9) (q0 := 0) rfl rfl, fun U hU hW => ⟨rfl, by rw [hU]; exact I.2.1, va_K.moved hW.alike hK3⟩⟩ rfl hn hsize hstack (lv_room hW) hdg ⟨hf.1, hf.2⟩) I.2.2.2.2.2.2.2.2.1 (fun z _ h => hAM z h) (fun z h => hAM z h) (fun r0 u t H1 locs1 ht hvm hp hB hz hk hS => ?_)
  unfold mB at hB
  rw [ht] at hB
  exact kk r0 u H1 locs1 hp (I.ref hB (hpost r0 u hp) hz hk hS)
end LWK

theorem l_in {x4 : Int32} {L : Nat} {c : Int32} {k : Int} (h4 : 0 ≤ x4.toInt ∧ x4.toInt + 8 ≤ (L : Int) ∧ L ≤ 4096) (hc : c.toInt = k) (hk : 0 ≤ k ∧ k < 8) : vp_in (x4 + c) L := by
  have e : (x4 + c).toInt = x4.toInt + c.toInt := fb_addI (by omega) (by omega)
  exact vp_in_iff.mpr ⟨by omega, by omega⟩
theorem l_callV {p : Program} {l : Launch} {e : Env} {R : Room} {s : State} {m : MethodId} {args : Array Value} {below : List Frame} {meth : Method} {c : Code} {H : Heap} {locs : List Loc} {cells slots : Nat} {Q : State → Prop} {y : MethodName} {bytes cc : ByteArray} {maxL nL n index mc ms : Nat} {ret : Option FieldType} {wc Ts : List Cond} {rm : Room} {own C : String} {b : Nat} {As rest st0 : List Value} {Pc : Array Value → State → Prop} {pc : Nat} {ls : Array Slot} {D : va_G} {cy : Nat → ClassId} {A A0 : Nat → Prop} {H0 : Heap} {post : Nat → Nat → Int32 → cS → Prop} (S : CallFix p m c cc nL s args Ts own) (hM : MetV l y wc rm Pc (fun k n => va_Qi (post k n) (cB D cy A) A) A) (cw : CallW R s args own C index y bytes maxL ret wc rm mc ms n) (hp : PreV s H C b Pc As)
    (hn : As.length = n) (hsize : ls.size = nL) (hstack : st0 = As.reverse ++ .ref b :: rest) (hW : (rest.map fun v => v.category).sum ≤ 8) (hdg : decode cc pc = .ok (.invokevirtual index, 3)) (hf : cells + mc ≤ R.cells ∧ slots + ms ≤ R.slots) (hS : va_S A0 H0 H locs) (hA : ∀ q, A q → A0 q)
    (kk : ∀ (k n : Nat) (r : Int32) (u : cS) (H1 : Heap) (locs1 : List Loc), post k n r u → va_P D vwCl u.2 H1 → va_D A u.2 → cT cy u.1 u.2 → H.size ≤ H1.size → (∀ z : Nat, z < H.size → ¬ A z → H1[z]? = H[z]?) → va_S A0 H0 H1 locs1 → W p l e R s m args below meth c H1 locs1 (cells + k) (slots + n) Q (F0 m (pc + 3) ls (.int r :: rest))) : W p l e R s m args below meth c H locs cells slots Q (F0 m pc ls st0) := by
  obtain ⟨⟨hrc, hrs, hfr, hlo, hws, hcw, hcode, hini, hy, hlen, hl⟩, hin, hse⟩ := cw
  obtain ⟨hx, hb, hml, ho, -⟩ := S
  obtain ⟨hbl, ⟨cellB, hcB, hoB, hclB⟩, hPc⟩ := hp
  have hK : Back l R p e below s args y 3 8 (PreOf R mc ms Pc) (fun A' a v B => ∃ k n, PostOf (va_Qi (post k n) (cB D cy A) A) k n A A' a v B) := backV (bytes := bytes) (maxL := maxL) (ret := ret) hM hbl hrc hrs hfr hlo hws hcw (fun a' U hW => word_at hW (Or.inl (by first | rfl | simp [Cond.onTables, Cond.keeps, Cond.steady])) hini)
  intro T hT X
  obtain ⟨v, vm₁, ⟨U', l2, c2, s2⟩, hW₁, X', ⟨k9, n9, g', mk, t, L, e1, e2, hq, h1, hL, h2, h3⟩, st⟩ := callV X hx (C := C) (bytes := bytes) (maxL := maxL) (ret := ret) ho hl hin hse hcode hy hK (by rw [hT]; exact hcB) hoB hclB (g := F0 m pc ls st0) rfl (hsize.trans hml.symm) (argsL := As) (rest := rest) (fun sig h => hn.trans (hlen sig h)) hstack (lv_room hW) (by rw [hb]; exact hdg)
    (fun vm₁ hW₁ => ⟨hf.1, hf.2, hPc (T.setVm vm₁) hT hW₁⟩)
  dsimp only [Pt.U, Pt.locs, Pt.cells, Pt.slots] at X' e1 e2 h1 h2 h3 st
  subst h1; subst h2; subst h3
  obtain ⟨⟨r, u, hv, hp, hB1, hB2, hB3⟩, hz, hk⟩ := hq
  cases hv
  have h0 : ((T.setVm vm₁).calling g' mk (Value.ref b :: As).toArray).heap = H := hT
  rw [h0] at hz hk
  obtain ⟨t2, a1, b1⟩ := kk k9 n9 r u U'.heap (locs ++ L) hp (by rw [e1]; exact hB1) hB2 hB3 (by rw [e1]; exact hz) (fun z g1 g2 => by rw [e1]; exact hk z g1 g2)
    ⟨Nat.le_trans hS.1 (by rw [e1]; exact hz), fun q g1 g2 => by rw [e1, hk q (Nat.lt_of_lt_of_le g1 hS.1) (fun z => g2 (hA q z))]; exact hS.2.1 q g1 g2, fun q hq => by
      rcases List.mem_append.mp hq with h | h
      · exact hS.2.2 q h
      · exact hA _ (hL q h)⟩ U' rfl X'
  exact ⟨t2, st t2 a1, b1⟩

