/-! throwing: what a throw needs of the tables and of the heap; calls that may throw -/
abbrev xIA : String := "java/lang/IllegalArgumentException"
abbrev xIS : String := "java/lang/IllegalStateException"
abbrev xUO : String := "java/lang/UnsupportedOperationException"
abbrev xRT : String := "java/lang/RuntimeException"
abbrev xEX : String := "java/lang/Exception"
def xTx : List (String × Nat × String) := [(RX1, 31, "even"), (RX4, 25, "joined"), (RX5, 31, "marked"), (RX9, 225, "no such set of ways, or no such place"), (RX9, 250, "no such shelf"), (RX9, 261, "no row with such a place is held there"), (RX9, 284, "no job is held there"), (RX9, 302, "no such job, or it is not marked"), (RX9, 304, "none fits, or the walk is spent")]
def xT (A : Nat → Prop) (U : State) : Prop :=
  ((va_Nw (.declares (Bundle.initS xRT)) U ∧ va_Nw (.declares (Bundle.initS xEX)) U ∧ va_Nw (.declares (Bundle.initS Bundle.tN)) U) ∧ va_Nw (.castable xIA xIA) U ∧ va_Nw (.castable xIS xIS) U ∧ va_Nw (.castable xUO xUO) U) ∧
  (va_Nc xIA xIS U ∧ va_Nc xUO xIS U ∧ va_Nc xUO xIA U ∧ va_Nc xIS xIA U) ∧ (∀ z ∈ xTx, ∃ sa, vk_R z.1 z.2.1 z.2.2 sa U) ∧
  vx_Zq Bundle.tN "UNASSIGNED_STACK" Bundle.steD A U U.heap ∧ vx_Zq Bundle.tN "SUPPRESSED_SENTINEL" Bundle.listD A U U.heap
theorem xT.go {A : Nat → Prop} {s U : State} {H : Heap} {locs : List Loc} (h : xT A s) (hU : U.heap = H) (hW : s.WarmedH U.vm) (hS : va_S A s.heap H locs) : xT A U := by
  obtain ⟨⟨⟨a1, a2, a3⟩, b1, b2, b3⟩, ⟨c1, c2, c3, c4⟩, d, e1, e2⟩ := h
  refine ⟨⟨⟨a1.warmD hW, a2.warmD hW, a3.warmD hW⟩, b1.warmC hW, b2.warmC hW, b3.warmC hW⟩, ⟨c1.moved hW.alike, c2.moved hW.alike, c3.moved hW.alike, c4.moved hW.alike⟩, fun z hz => ?_, ?_, ?_⟩
  · obtain ⟨sa, hsa⟩ := d z hz
    exact ⟨sa, hsa.warm hW⟩
  · rw [hU]; exact vx_Zq.moved hW.alike (e1.kept hS.2.1)
  · rw [hU]; exact vx_Zq.moved hW.alike (e2.kept hS.2.1)
/-- the words that a throw asks for -/
theorem x_hat {A : Nat → Prop} {s : State} {args : Array Value} {Ts : List Cond} {own X : String} {ic : Nat} (hts : ∀ w ∈ Ts, w.before args s = true) (hT : xT A s) (hX : X = xIA ∨ X = xIS ∨ X = xUO) (h1 : ∀ w ∈ (vx_atS own ic X [xRT, xEX]).filter goodWord, w ∈ Ts)
    (h2 : ∀ w ∈ (vx_atS own ic X [xRT, xEX]).filter (fun w => !goodWord w), w ∈ ([.declares (Bundle.initS xRT), .declares (Bundle.initS xEX), .declares (Bundle.initS Bundle.tN), .castable X X] : List Cond)) : ∀ w ∈ vx_atS own ic X [xRT, xEX], w.before args s = true := by
  obtain ⟨⟨⟨a1, a2, a3⟩, b1, b2, b3⟩, -⟩ := hT
  refine vx_hat (fun w hw => hts w (h1 w hw)) h2 (vx_c (a1.use rfl) (vx_c (a2.use rfl) (vx_c (a3.use rfl) (vx_c ?_ vx_n))))
  rcases hX with rfl | rfl | rfl
  · exact b1.use rfl
  · exact b2.use rfl
  · exact b3.use rfl
def xPc (D : va_G) (cy : Nat → ClassId) (A : Nat → Prop) (ws : va_W) (av : List Value) : Array Value → State → Prop := va_Pc av (fun U => (va_P D vwCl ws U.heap ∧ va_K D vwCl (cTy cy) U ∧ (∀ q, U.heap.size ≤ q → A q) ∧ cV U) ∧ cZ A U ∧ xT A U)
theorem x_blind {D : va_G} {cy : Nat → ClassId} {A : Nat → Prop} {ws : va_W} {av : List Value} : FrameBlind (xPc D cy A ws av) := fun a' U g' mk h => ⟨h.1, ⟨h.2.1.1, va_K.moved (u := U) (U := U.calling g' mk a') (Vm.Alike.refl U.vm) h.2.1.2.1, h.2.1.2.2.1, h.2.1.2.2.2⟩, h.2.2.1, h.2.2.2.go (H := U.heap) (locs := []) rfl (State.WarmedH.refl U) va_S.rf⟩
theorem x_preS {D : va_G} {cy : Nat → ClassId} {A : Nat → Prop} {ws : va_W} {av : List Value} {s : State} {H : Heap} {locs : List Loc} (hP : va_P D vwCl ws H) (hK : va_K D vwCl (cTy cy) s) (hA : ∀ q, s.heap.size ≤ q → A q) (hS : va_S A s.heap H locs) (hV : cV s) (hZ : cZ A s) (hXT : xT A s) : PreS s H (xPc D cy A ws av) av := ⟨x_blind, fun U hU hW => ⟨rfl, ⟨by rw [hU]; exact hP, va_K.moved hW.alike hK, fun q h => hA q (Nat.le_trans hS.1 (by rw [← hU]; exact h)), hV.warm hW⟩, hZ.go hU hW hS, hXT.go hU hW hS⟩⟩
theorem x_preV {D : va_G} {cy : Nat → ClassId} {A : Nat → Prop} {ws : va_W} {av : List Value} {s : State} {H : Heap} {locs : List Loc} {C : String} {b ci N : Nat} {T : u_T} {fs : List Value} (ho : cIn ws b (.inr (ci, fs))) (hc : vwCl[ci]? = some (C, T, N)) (hP : va_P D vwCl ws H) (hK : va_K D vwCl (cTy cy) s) (hA : ∀ q, s.heap.size ≤ q → A q) (hS : va_S A s.heap H locs) (hV : cV s) (hZ : cZ A s) (hXT : xT A s) : PreV s H C b (xPc D cy A ws (.ref b :: av)) av := by
  obtain ⟨q0, hq⟩ := ho
  exact ⟨x_blind, va_recv hK hP hc hq, fun U hU hW => ⟨rfl, ⟨by rw [hU]; exact hP, va_K.moved hW.alike hK, fun q h => hA q (Nat.le_trans hS.1 (by rw [← hU]; exact h)), hV.warm hW⟩, hZ.go hU hW hS, hXT.go hU hW hS⟩⟩
/-- methods that may throw: what is thrown (pe), what stands then (px) -/
def xX (D : va_G) (cy : Nat → ClassId) (A : Nat → Prop) (px : cS → Prop) (pe : String → Prop) : String → State → State → Prop := vx_X px (fun E u t => pe E ∧ cB D cy A u t) A
def Xi (l : Launch) (D : va_G) (cy : Nat → ClassId) (A : Nat → Prop) (y : MethodName) (wc : List Cond) (rm : Room) (mc ms : Nat) (ws : va_W) (av : List Value) (post : Int32 → cS → Prop) (px : cS → Prop) (pe : String → Prop) : Prop := vx_Met l y wc rm (xPc D cy A ws av) (va_Qi post (cB D cy A) A) (xX D cy A px pe) mc ms A
def Xl (l : Launch) (D : va_G) (cy : Nat → ClassId) (A : Nat → Prop) (y : MethodName) (wc : List Cond) (rm : Room) (mc ms : Nat) (ws : va_W) (av : List Value) (post : Int64 → cS → Prop) (px : cS → Prop) (pe : String → Prop) : Prop := vx_Met l y wc rm (xPc D cy A ws av) (va_Ql post (cB D cy A) A) (xX D cy A px pe) mc ms A
def Xv (l : Launch) (D : va_G) (cy : Nat → ClassId) (A : Nat → Prop) (y : MethodName) (wc : List Cond) (rm : Room) (mc ms : Nat) (ws : va_W) (av : List Value) (post : cS → Prop) (px : cS → Prop) (pe : String → Prop) : Prop := vx_Met l y wc rm (xPc D cy A ws av) (va_Qv post (cB D cy A) A) (xX D cy A px pe) mc ms A
def Xa (l : Launch) (D : va_G) (cy : Nat → ClassId) (A : Nat → Prop) (y : MethodName) (wc : List Cond) (rm : Room) (mc ms : Nat) (ws : va_W) (av : List Value) (post : Option Nat → cS → Prop) (px : cS → Prop) (pe : String → Prop) : Prop := vx_Met l y wc rm (xPc D cy A ws av) (cQa post (cB D cy A) A) (xX D cy A px pe) mc ms A
/-- methods that catch what is thrown below them -/
def Yi (l : Launch) (D : va_G) (cy : Nat → ClassId) (A : Nat → Prop) (y : MethodName) (wc : List Cond) (rm : Room) (mc ms : Nat) (ws : va_W) (av : List Value) (post : Int32 → cS → Prop) : Prop := Met l y wc rm (xPc D cy A ws av) (va_Qi post (cB D cy A) A) mc ms A
section XR
variable {p : Program} {l : Launch} {e : Env} {R : Room} {s : State} {m : MethodId} {args : Array Value} {below : List Frame} {meth : Method} {c : Code} {H : Heap} {locs : List Loc} {cells slots : Nat} {Q : State → Prop}
theorem vx_callVU {T : State} (X : Stand p l e R s m args below meth c T locs cells slots) (hexec : p.tables.exec = Jvm.exec) {own C owner : String} {index : Nat} {x y : MethodName} {bytes : ByteArray} {maxL : Nat} {ret : Option FieldType}
    (hown : s.vm.findClass own = some m.cls) (hlink : (Cond.methodLink own index x).before args s = true) (hsame : (Cond.sameMethod x.cls owner x.name x.desc).before args s = true)
    (hd0 : va_Decl s ⟨owner, x.name, x.desc⟩) (howner : owner ≠ "java/lang/invoke/MethodHandle" ∧ owner ≠ "java/lang/invoke/VarHandle")
    (hsel : (Cond.selects C x y).before args s = true) (hinst : (Cond.instanceMethod y).before args s = true) (hcode : (Cond.code y bytes maxL ret).before args s = true)
    {W9 : Nat} {Pre : Pt → Array Value → Prop} {Post : Pt → Array Value → Option Value → Pt → Prop} {PostX : Pt → Array Value → Addr → Pt → Prop} (hK : vx_Back l R p e below s args y 3 W9 Pre Post PostX)
    {b : Addr} {cellB : Cell} (hcell : T.heap[b]? = some cellB) (hobj : cellB.vm.isStatics = false) (hcls : s.vm.findClass C = some cellB.cls)
    {g : JFrame} (hg : g.method = m) (hsize : g.locals.size = c.maxLocals) {argsL rest : List Value} (hlen : ∀ sig, parseMethodDescriptor x.desc = some sig → argsL.length = sig.parameters.length)
    (hstack : g.stack = argsL.reverse ++ .ref b :: rest) (hW : 2 * g.monitorRoom + (rest.map fun v => v.category).sum ≤ W9) (hdg : decode c.code g.pc = .ok (.invokevirtual index, 3))
    (hpre : ∀ vm₁, s.WarmedH vm₁ → Pre ⟨T.setVm vm₁, locs, cells, slots⟩ (Value.ref b :: argsL).toArray) :
    (∃ (v : Option Value) (vm₁ : Vm) (B : Pt), s.WarmedH vm₁ ∧ Stand p l e R s m args below meth c B.U B.locs B.cells B.slots ∧ Post ⟨T.setVm vm₁, locs, cells, slots⟩ (Value.ref b :: argsL).toArray v B ∧
      ∀ target, Steps p.tables e below (B.U.setTop { g with pc := g.pc + 3, stack := v.toList ++ rest }) target → Steps p.tables e below (T.setTop g) target) ∨
    (∃ (q : Addr) (vm₁ : Vm) (B : Pt), s.WarmedH vm₁ ∧ Stand p l e R s m args below meth c B.U B.locs B.cells B.slots ∧ PostX ⟨T.setVm vm₁, locs, cells, slots⟩ (Value.ref b :: argsL).toArray q B ∧
      Steps p.tables e below (T.setTop g) ((B.U.setTop { g with stack := rest }).pushFrame (.throwing q))) := by
  obtain ⟨r0, r, hn, hrm, hstR, hsigR⟩ := hd0
  obtain ⟨cn, ck, r1, hcn, hck, hni, hf, hn1⟩ := Cond.sameMethod_found hsame
  cases hn.symm.trans hn1
  obtain ⟨mk, methM, hnamed, hmethM, -, habM⟩ := Cond.instanceMethod_spec hinst
  obtain ⟨c2, r2, m2, q1, q2, q3, q4, kP, hkP, hkPi⟩ := Cond.selects_spec hsel
  cases hcls.symm.trans q1
  cases hf.symm.trans q2
  cases hnamed.symm.trans q3
  have hselP : selectMethod e.platform s.vm cellB.cls r0 = .method mk := by rw [Launch.admits_selectMethod X.admits]; exact q4
  obtain ⟨vm₁, X₁, hstep₁⟩ := X.invokevirtualUp hexec hown hlink hsame howner hn hrm hstR (a := b) (cell := cellB) hcell
    (fun z h => by rw [h] at hobj; cases hobj) hselP hmethM habM hkP hkPi (g := g) hg (argsL := argsL) (rest := rest) (hlen _ hsigR) hstack hdg
  rcases hK m meth c ⟨T.setVm vm₁, locs, cells, slots⟩ { g with stack := rest } (.invokevirtual index) mk (Value.ref b :: argsL).toArray X₁ hg hsize hdg hW (X₁.named hnamed) (hpre vm₁ X₁.warmed) with ⟨v, B, X', hpost, hsteps⟩ | ⟨q, B, X', hpost, hsteps⟩
  · exact Or.inl ⟨v, vm₁, B, X₁.warmed, X', hpost, fun target h => hstep₁ _ fun acts => by rw [doInvoke_state]; exact hsteps.trans h⟩
  · exact Or.inr ⟨q, vm₁, B, X₁.warmed, X', hpost, hstep₁ _ fun acts => by rw [doInvoke_state]; exact hsteps⟩
theorem vx_runU {x y : MethodName} {bytes cc : ByteArray} {maxL nL mc ms n index : Nat} {ret : Option FieldType} {ws : List Cond} {rm : Room} {Pc : Array Value → State → Prop} {Qc : Array Value → State → Outcome → State → Prop} {XC : String → State → State → Prop} {free : Addr → Prop} {Ts : List Cond} {own C owner : String} {b : Addr} {As rest : List Value} {g : JFrame}
    (S : CallFix p m c cc nL s args Ts own) (hM : vx_Met l y ws rm Pc Qc XC mc ms free) (cw : va_CU R s args own C owner index x y bytes maxL ret ws rm mc ms n) (hp : PreV s H C b Pc As)
    (hg : g.method = m) (hn : As.length = n) (hsize : g.locals.size = nL) (hstack : g.stack = As.reverse ++ .ref b :: rest) (hW : 2 * g.monitorRoom + (rest.map fun v => v.category).sum ≤ 8) (hdg : decode cc g.pc = .ok (.invokevirtual index, 3)) (hf : cells + mc ≤ R.cells ∧ slots + ms ≤ R.slots) :
    vx_Run p l e R s m args below meth c H locs cells slots mc ms g rest (Qc (Value.ref b :: As).toArray) XC free := by
  obtain ⟨hrc, hrs, hfr, hlo, hws, hcw⟩ := cw.back
  have hini := cw.init
  have hK : vx_Back l R p e below s args y 3 8 (PreOf R mc ms Pc) (PostOf Qc mc ms free) (vx_Post XC mc ms free) := vx_back (bytes := bytes) (maxL := maxL) (ret := ret) hM hp.1 hrc hrs hfr hlo hws hcw (fun a' U hW => word_at hW (Or.inl (by first | rfl | simp [Cond.onTables, Cond.keeps, Cond.steady])) hini)
  obtain ⟨hx, hb, hml, ho, -⟩ := S
  obtain ⟨-, ⟨cellB, hcB, hoB, hclB⟩, hPc⟩ := hp
  intro T hT X
  rcases vx_callVU X hx (C := C) (owner := owner) (bytes := bytes) (maxL := maxL) (ret := ret) ho cw.link cw.same cw.decl cw.notMH cw.sel cw.inst cw.code hK (by rw [hT]; exact hcB) hoB hclB hg (hsize.trans hml.symm) (argsL := As) (rest := rest) (fun sig h => hn.trans (cw.len sig h)) hstack hW (by rw [hb]; exact hdg)
    (fun vm₁ hW₁ => ⟨hf.1, hf.2, hPc (T.setVm vm₁) hT hW₁⟩) with ⟨v, vm₁, ⟨U', l2, c2, s2⟩, hW₁, X', ⟨g', mk, t, L, e1, e2, hq, h1, hL, h2, h3⟩, st⟩ | ⟨q, vm₁, ⟨U', l2, c2, s2⟩, hW₁, X', ⟨g', mk, t, L, E, ce, e1, e2, hq, hce, hcv, hcl, h1, hL, h2, h3⟩, st⟩
  · dsimp only [Pt.U, Pt.locs, Pt.cells, Pt.slots] at X' e1 e2 h1 h2 h3 st
    subst h1; subst h2; subst h3
    exact Or.inl ⟨v, (T.setVm vm₁).calling g' mk (Value.ref b :: As).toArray, t, U', L, hT, X', hL, e1, e2, hq, st⟩
  · dsimp only [Pt.U, Pt.locs, Pt.cells, Pt.slots] at X' e1 e2 h1 h2 h3 st hcl
    subst h1; subst h2; subst h3
    exact Or.inr ⟨q, (T.setVm vm₁).calling g' mk (Value.ref b :: As).toArray, t, U', L, E, ce, hT, X', hL, e1, e2, hq, hce, hcv, vx_cls hW₁ hcl, st⟩
variable {D : va_G} {cy : Nat → ClassId} {A : Nat → Prop} {H0 : Heap} {ls : Array Slot} {st0 rest : List Value} {pc mc ms : Nat} {a : Array Value} {px : cS → Prop} {pe : String → Prop}
theorem x_calli {post : Int32 → cS → Prop} (hr : vx_Run p l e R s m args below meth c H locs cells slots mc ms (F0 m pc ls st0) rest (va_Qi post (cB D cy A) A a) (xX D cy A px pe) A) (hS : va_S A H0 H locs)
    (kx : ∀ (E : String) (ce : Cell) (q9 : Nat) (u : cS) (H1 : Heap) (locs1 : List Loc), px u → pe E → va_P D vwCl u.2 H1 → va_D A u.2 → cT cy u.1 u.2 → va_S A H0 H1 locs1 → H1[q9]? = some ce → ce.vm = .none → s.vm.findClass E = some ce.cls → vx_W p l e R s m args below meth c H1 locs1 (cells + mc) (slots + ms) Q (F0 m pc ls rest) q9)
    (kk : ∀ (r : Int32) (u : cS) (H1 : Heap) (locs1 : List Loc), post r u → va_P D vwCl u.2 H1 → va_D A u.2 → cT cy u.1 u.2 → va_S A H0 H1 locs1 → W p l e R s m args below meth c H1 locs1 (cells + mc) (slots + ms) Q (F0 m (pc + 3) ls (.int r :: rest))) : W p l e R s m args below meth c H locs cells slots Q (F0 m pc ls st0) :=
  vx_calli hr hS (fun q _ h => h) (fun q h => h) (fun q _ h => h) (fun E ce q9 u t H1 locs1 ht hal hp hB hz hk hS hc hv hcl => by obtain ⟨he, h1, h2, h3⟩ := hB; rw [ht] at h1; exact kx E ce q9 u H1 locs1 hp he h1 h2 h3 hS hc hv hcl)
    (fun r u t H1 locs1 ht hvm hp hB hz hk hS => by obtain ⟨h1, h2, h3⟩ := hB; rw [ht] at h1; exact kk r u H1 locs1 hp h1 h2 h3 hS)
theorem x_calll {post : Int64 → cS → Prop} (hr : vx_Run p l e R s m args below meth c H locs cells slots mc ms (F0 m pc ls st0) rest (va_Ql post (cB D cy A) A a) (xX D cy A px pe) A) (hS : va_S A H0 H locs)
    (kx : ∀ (E : String) (ce : Cell) (q9 : Nat) (u : cS) (H1 : Heap) (locs1 : List Loc), px u → pe E → va_P D vwCl u.2 H1 → va_D A u.2 → cT cy u.1 u.2 → va_S A H0 H1 locs1 → H1[q9]? = some ce → ce.vm = .none → s.vm.findClass E = some ce.cls → vx_W p l e R s m args below meth c H1 locs1 (cells + mc) (slots + ms) Q (F0 m pc ls rest) q9)
    (kk : ∀ (r : Int64) (u : cS) (H1 : Heap) (locs1 : List Loc), post r u → va_P D vwCl u.2 H1 → va_D A u.2 → cT cy u.1 u.2 → va_S A H0 H1 locs1 → W p l e R s m args below meth c H1 locs1 (cells + mc) (slots + ms) Q (F0 m (pc + 3) ls (.long r :: rest))) : W p l e R s m args below meth c H locs cells slots Q (F0 m pc ls st0) :=
  vx_calll hr hS (fun q _ h => h) (fun q h => h) (fun q _ h => h) (fun E ce q9 u t H1 locs1 ht hal hp hB hz hk hS hc hv hcl => by obtain ⟨he, h1, h2, h3⟩ := hB; rw [ht] at h1; exact kx E ce q9 u H1 locs1 hp he h1 h2 h3 hS hc hv hcl)
    (fun r u t H1 locs1 ht hvm hp hB hz hk hS => by obtain ⟨h1, h2, h3⟩ := hB; rw [ht] at h1; exact kk r u H1 locs1 hp h1 h2 h3 hS)
theorem x_callv {post : cS → Prop} (hr : vx_Run p l e R s m args below meth c H locs cells slots mc ms (F0 m pc ls st0) rest (va_Qv post (cB D cy A) A a) (xX D cy A px pe) A) (hS : va_S A H0 H locs)
    (kx : ∀ (E : String) (ce : Cell) (q9 : Nat) (u : cS) (H1 : Heap) (locs1 : List Loc), px u → pe E → va_P D vwCl u.2 H1 → va_D A u.2 → cT cy u.1 u.2 → va_S A H0 H1 locs1 → H1[q9]? = some ce → ce.vm = .none → s.vm.findClass E = some ce.cls → vx_W p l e R s m args below meth c H1 locs1 (cells + mc) (slots + ms) Q (F0 m pc ls rest) q9)
    (kk : ∀ (u : cS) (H1 : Heap) (locs1 : List Loc), post u → va_P D vwCl u.2 H1 → va_D A u.2 → cT cy u.1 u.2 → va_S A H0 H1 locs1 → W p l e R s m args below meth c H1 locs1 (cells + mc) (slots + ms) Q (F0 m (pc + 3) ls rest)) : W p l e R s m args below meth c H locs cells slots Q (F0 m pc ls st0) :=
  vx_callv hr hS (fun q _ h => h) (fun q h => h) (fun q _ h => h) (fun E ce q9 u t H1 locs1 ht hal hp hB hz hk hS hc hv hcl => by obtain ⟨he, h1, h2, h3⟩ := hB; rw [ht] at h1; exact kx E ce q9 u H1 locs1 hp he h1 h2 h3 hS hc hv hcl)
    (fun u t H1 locs1 ht hvm hp hB hz hk hS => by obtain ⟨h1, h2, h3⟩ := hB; rw [ht] at h1; exact kk u H1 locs1 hp h1 h2 h3 hS)
theorem x_calla {post : Option Nat → cS → Prop} (hr : vx_Run p l e R s m args below meth c H locs cells slots mc ms (F0 m pc ls st0) rest (cQa post (cB D cy A) A a) (xX D cy A px pe) A) (hS : va_S A H0 H locs)
    (kx : ∀ (E : String) (ce : Cell) (q9 : Nat) (u : cS) (H1 : Heap) (locs1 : List Loc), px u → pe E → va_P D vwCl u.2 H1 → va_D A u.2 → cT cy u.1 u.2 → va_S A H0 H1 locs1 → H1[q9]? = some ce → ce.vm = .none → s.vm.findClass E = some ce.cls → vx_W p l e R s m args below meth c H1 locs1 (cells + mc) (slots + ms) Q (F0 m pc ls rest) q9)
    (kk : ∀ (r : Option Nat) (u : cS) (H1 : Heap) (locs1 : List Loc), post r u → va_P D vwCl u.2 H1 → va_D A u.2 → cT cy u.1 u.2 → va_S A H0 H1 locs1 → W p l e R s m args below meth c H1 locs1 (cells + mc) (slots + ms) Q (F0 m (pc + 3) ls (va_rf r :: rest))) : W p l e R s m args below meth c H locs cells slots Q (F0 m pc ls st0) := by
  intro T hT X
  rcases hr T hT X with ⟨v, st₀, t, T', L, h0, X', hL, e1, e2, ⟨⟨r, u, hv, hp, h1, h2, h3⟩, hz, hk⟩, st⟩ | ⟨q, st₀, t, T', L, E, ce, h0, X', hL, e1, e2, ⟨u, hp, ⟨he, h1, h2, h3⟩, hz, hk⟩, hce, hcv, hcl, st⟩
  · cases hv
    rw [h0] at hz hk
    obtain ⟨t2, a1, b1⟩ := kk r u T'.heap (locs ++ L) hp (by rw [e1]; exact h1) h2 h3
      ⟨Nat.le_trans hS.1 (by rw [e1]; exact hz), fun q g1 g2 => by rw [e1, hk q (Nat.lt_of_lt_of_le g1 hS.1) g2]; exact hS.2.1 q g1 g2, fun q hq => by
        rcases List.mem_append.mp hq with h | h
        · exact hS.2.2 q h
        · exact hL q h⟩ T' rfl X'
    exact ⟨t2, st _ a1, b1⟩
  · rw [h0] at hz hk
    obtain ⟨t2, a1, b1⟩ := kx E ce q u T'.heap (locs ++ L) hp he (by rw [e1]; exact h1) h2 h3
      ⟨Nat.le_trans hS.1 (by rw [e1]; exact hz), fun q g1 g2 => by rw [e1, hk q (Nat.lt_of_lt_of_le g1 hS.1) g2]; exact hS.2.1 q g1 g2, fun q hq => by
        rcases List.mem_append.mp hq with h | h
        · exact hS.2.2 q h
        · exact hL q h⟩ (by rw [e1]; exact hce) hcv hcl T' rfl X'
    exact ⟨t2, st.trans a1, b1⟩
/-- an exception that goes on to the caller -/
theorem x_out {E : String} {ce : Cell} {q : Nat} {G' : cG} {ws' : va_W} {Qc : Array Value → State → Outcome → State → Prop} (hno : ∀ x ∈ c.exceptionTable.toList, False) (hlocks : meth.locks = false) (hcell : H[q]? = some ce) (hv : ce.vm = .none) (hcl : s.vm.findClass E = some ce.cls)
    (hpx : px (G', ws')) (hpe : pe E) (hP : va_P D vwCl ws' H) (hD : va_D A ws') (hT : cT cy G' ws') (hS : va_S A s.heap H locs) (hc : cells ≤ mc) (hs : slots ≤ ms) :
    vx_W p l e R s m args below meth c H locs cells slots (vx_MQ below Qc (xX D cy A px pe) args s mc ms A) (F0 m pc ls rest) q :=
  vx_out (fun x h => (hno x h).elim) hlocks hcell hv hcl (fun t ht hal => ⟨(G', ws'), hpx, ⟨hpe, by show va_P D vwCl ws' t.heap; rw [ht]; exact hP, hD, hT⟩, hS.F ht⟩) hS.2.2 hc hs
/-- what stands behind a throw -/
theorem x_thr {E : String} {G' : cG} {ws' : va_W} (hpx : px (G', ws')) (hpe : pe E) (hP : va_P D vwCl ws' H) (hD : va_D A ws') (hT : cT cy G' ws') (hS : va_S A s.heap H locs) :
    ∀ t : State, s.vm.Alike t.vm → H.size ≤ t.heap.size → (∀ q : Nat, q < H.size → t.heap[q]? = H[q]?) → xX D cy A px pe E s t := fun t hal hz hk =>
  ⟨(G', ws'), hpx, ⟨hpe, m_keep hP hk, hD, hT⟩, Nat.le_trans hS.1 hz, fun q h1 h2 => (hk q (Nat.lt_of_lt_of_le h1 hS.1)).trans (hS.2.1 q h1 h2)⟩
end XR
set_option maxHeartbeats 4000000 in
set_option maxRecDepth 100000 in
theorem c_X3_fail (l : Launch) (D : va_G) (cy : Nat → ClassId) (A : Nat → Prop) (G : cG) (ws : va_W) (o : Nat) {n0 : Nat} (hD : va_D A ws) (hT : cT cy G ws) (hG_o : G o = some (3, 2, n0))  : Cv l D cy A yX3_fail wsX3_fail ({ frames := 0, cells := 0, slots := 0, locals := 0 }) 0 0 ws [.ref o] (fun u => u = (G, ws) ∧ (True)) := by
  refine Met.ofW (cc := cX3_fail) (maxL := 1) (ret := none) (by decide) rfl ?_
  intro p e s m args below meth c s₁ B hml hv
  obtain ⟨rfl, hP, hK, hA, hV⟩ := hv
  have hx := B.exec
  have hb := B.bytes
  have hr := B.returns
  have hts := atoms_spec (ws := wsX3_fail) B.pre
  have hown : s.vm.findClass RX3 = some m.cls := findClass_of_methodNamed B.named
  have hlocks := B.notSynchronized
  have hS : va_S A s.heap s.heap [] := va_S.rf
  have hl := lv_entry ([.ref o]) (n := 1) (Nat.le_of_ble_eq_true rfl)
  rw [lg_entry_eq]
  generalize (lg_sl ([.ref o]) ++ List.replicate (1 - (lg_sl ([.ref o])).length) Slot.unset).toArray = ls at hl ⊢
  have hl : lv_has ls 1 [(0, .ref o)] := hl
  have k_0 : (0 : Int32).toInt = 0 := by decide
  exact W.vret hx hb hr (fun t ht hW => ⟨⟨(G, ws), rfl, ⟨rfl, trivial⟩, by show va_P D vwCl ws t.heap; rw [ht]; exact hP, hD, hT⟩, hS.F ht⟩) hS.2.2 dX3_fail_0
set_option maxHeartbeats 4000000 in
set_option maxRecDepth 100000 in
theorem c_X1_fail (l : Launch) (hst : l.stackTraces = false) (D : va_G) (cy : Nat → ClassId) (A : Nat → Prop) (G : cG) (ws : va_W) (o : Nat) {n0 : Nat} (hD : va_D A ws) (hT : cT cy G ws) (hG_o : G o = some (3, 1, n0))  : Xv l D cy A yX1_fail wsX1_fail ({ frames := 6, cells := 1, slots := 6, locals := 90 }) 1 6 ws [.ref o] (fun u => u = (G, ws) ∧ (False)) (fun u => u = (G, ws)) (fun E => E = xIA) := by
  refine vx_ofW (cc := cX1_fail) (maxL := 1) (ret := none) (by decide) rfl ?_
  intro p e s m args below meth c s₁ B hml hno hv
  obtain ⟨rfl, ⟨hP, hK, hA, hV⟩, hZ, hXT⟩ := hv
  have hx := B.exec
  have hb := B.bytes
  have hr := B.returns
  have hts := atoms_spec (ws := wsX1_fail) B.pre
  have hown : s.vm.findClass RX1 = some m.cls := findClass_of_methodNamed B.named
  have hlocks := B.notSynchronized
  have hS : va_S A s.heap s.heap [] := va_S.rf
  have hl := lv_entry ([.ref o]) (n := 1) (Nat.le_of_ble_eq_true rfl)
  rw [lg_entry_eq]
  generalize (lg_sl ([.ref o]) ++ List.replicate (1 - (lg_sl ([.ref o])).length) Slot.unset).toArray = ls at hl ⊢
  have hl : lv_has ls 1 [(0, .ref o)] := hl
  have k_0 : (0 : Int32).toInt = 0 := by decide
  obtain ⟨sa0, hsa0⟩ := hXT.2.2.1 (RX1, 31, "even") (by decide)
  exact vx_throwS (own := RX1) (cls := xIA) (names := [xRT, xEX]) (A := A) (ik := 29) (ic := 33) hx hb hst hown (by decide) (by decide) (hts (.classLink RX1 29 xIA) (by decide +kernel)) (hts (.initialized xIA) (by decide +kernel)) hsa0 (x_hat hts hXT (Or.inl rfl) (by decide +kernel) (by decide +kernel)) (by decide +kernel) hXT.2.2.2.1 hXT.2.2.2.2 hS (by rw [hml]; exact hl.1) dX1_fail_0 dX1_fail_3 dX1_fail_4 dX1_fail_6 dX1_fail_9 (fun x9 h9 => (hno x9 h9).elim) (Nat.le_of_ble_eq_true rfl) (Nat.le_of_ble_eq_true rfl) (Nat.le_of_ble_eq_true rfl) (Nat.le_of_ble_eq_true rfl) hlocks (x_thr (G' := G) (ws' := ws) rfl (rfl) hP hD hT hS) hS.2.2 (Nat.le_of_ble_eq_true rfl) (Nat.le_of_ble_eq_true rfl)
set_option maxHeartbeats 4000000 in
set_option maxRecDepth 100000 in
theorem c_X4_fail (l : Launch) (hst : l.stackTraces = false) (D : va_G) (cy : Nat → ClassId) (A : Nat → Prop) (G : cG) (ws : va_W) (o : Nat) {n0 : Nat} (hD : va_D A ws) (hT : cT cy G ws) (hG_o : G o = some (3, 3, n0))  : Xv l D cy A yX4_fail wsX4_fail ({ frames := 6, cells := 1, slots := 6, locals := 90 }) 1 6 ws [.ref o] (fun u => u = (G, ws) ∧ (False)) (fun u => u = (G, ws)) (fun E => E = xIS) := by
  refine vx_ofW (cc := cX4_fail) (maxL := 1) (ret := none) (by decide) rfl ?_
  intro p e s m args below meth c s₁ B hml hno hv
  obtain ⟨rfl, ⟨hP, hK, hA, hV⟩, hZ, hXT⟩ := hv
  have hx := B.exec
  have hb := B.bytes
  have hr := B.returns
  have hts := atoms_spec (ws := wsX4_fail) B.pre
  have hown : s.vm.findClass RX4 = some m.cls := findClass_of_methodNamed B.named
  have hlocks := B.notSynchronized
  have hS : va_S A s.heap s.heap [] := va_S.rf
  have hl := lv_entry ([.ref o]) (n := 1) (Nat.le_of_ble_eq_true rfl)
  rw [lg_entry_eq]
  generalize (lg_sl ([.ref o]) ++ List.replicate (1 - (lg_sl ([.ref o])).length) Slot.unset).toArray = ls at hl ⊢
  have hl : lv_has ls 1 [(0, .ref o)] := hl
  have k_0 : (0 : Int32).toInt = 0 := by decide
  obtain ⟨sa0, hsa0⟩ := hXT.2.2.1 (RX4, 25, "joined") (by decide)
  exact vx_throwS (own := RX4) (cls := xIS) (names := [xRT, xEX]) (A := A) (ik := 23) (ic := 27) hx hb hst hown (by decide) (by decide) (hts (.classLink RX4 23 xIS) (by decide +kernel)) (hts (.initialized xIS) (by decide +kernel)) hsa0 (x_hat hts hXT (Or.inr (Or.inl rfl)) (by decide +kernel) (by decide +kernel)) (by decide +kernel) hXT.2.2.2.1 hXT.2.2.2.2 hS (by rw [hml]; exact hl.1) dX4_fail_0 dX4_fail_3 dX4_fail_4 dX4_fail_6 dX4_fail_9 (fun x9 h9 => (hno x9 h9).elim) (Nat.le_of_ble_eq_true rfl) (Nat.le_of_ble_eq_true rfl) (Nat.le_of_ble_eq_true rfl) (Nat.le_of_ble_eq_true rfl) hlocks (x_thr (G' := G) (ws' := ws) rfl (rfl) hP hD hT hS) hS.2.2 (Nat.le_of_ble_eq_true rfl) (Nat.le_of_ble_eq_true rfl)
set_option maxHeartbeats 4000000 in
set_option maxRecDepth 100000 in
theorem c_X5_fail (l : Launch) (hst : l.stackTraces = false) (D : va_G) (cy : Nat → ClassId) (A : Nat → Prop) (G : cG) (ws : va_W) (o : Nat) {n0 : Nat} (hD : va_D A ws) (hT : cT cy G ws) (hG_o : G o = some (3, 4, n0))  : Xv l D cy A yX5_fail wsX5_fail ({ frames := 6, cells := 1, slots := 6, locals := 90 }) 1 6 ws [.ref o] (fun u => u = (G, ws) ∧ (False)) (fun u => u = (G, ws)) (fun E => E = xUO) := by
  refine vx_ofW (cc := cX5_fail) (maxL := 1) (ret := none) (by decide) rfl ?_
  intro p e s m args below meth c s₁ B hml hno hv
  obtain ⟨rfl, ⟨hP, hK, hA, hV⟩, hZ, hXT⟩ := hv
  have hx := B.exec
  have hb := B.bytes
  have hr := B.returns
  have hts := atoms_spec (ws := wsX5_fail) B.pre
  have hown : s.vm.findClass RX5 = some m.cls := findClass_of_methodNamed B.named
  have hlocks := B.notSynchronized
  have hS : va_S A s.heap s.heap [] := va_S.rf
  have hl := lv_entry ([.ref o]) (n := 1) (Nat.le_of_ble_eq_true rfl)
  rw [lg_entry_eq]
  generalize (lg_sl ([.ref o]) ++ List.replicate (1 - (lg_sl ([.ref o])).length) Slot.unset).toArray = ls at hl ⊢
  have hl : lv_has ls 1 [(0, .ref o)] := hl
  have k_0 : (0 : Int32).toInt = 0 := by decide
  obtain ⟨sa0, hsa0⟩ := hXT.2.2.1 (RX5, 31, "marked") (by decide)
  exact vx_throwS (own := RX5) (cls := xUO) (names := [xRT, xEX]) (A := A) (ik := 29) (ic := 33) hx hb hst hown (by decide) (by decide) (hts (.classLink RX5 29 xUO) (by decide +kernel)) (hts (.initialized xUO) (by decide +kernel)) hsa0 (x_hat hts hXT (Or.inr (Or.inr rfl)) (by decide +kernel) (by decide +kernel)) (by decide +kernel) hXT.2.2.2.1 hXT.2.2.2.2 hS (by rw [hml]; exact hl.1) dX5_fail_0 dX5_fail_3 dX5_fail_4 dX5_fail_6 dX5_fail_9 (fun x9 h9 => (hno x9 h9).elim) (Nat.le_of_ble_eq_true rfl) (Nat.le_of_ble_eq_true rfl) (Nat.le_of_ble_eq_true rfl) (Nat.le_of_ble_eq_true rfl) hlocks (x_thr (G' := G) (ws' := ws) rfl (rfl) hP hD hT hS) hS.2.2 (Nat.le_of_ble_eq_true rfl) (Nat.le_of_ble_eq_true rfl)
set_option maxHeartbeats 4000000 in
set_option maxRecDepth 100000 in
theorem c_X9_caughtFailure (l : Launch) (hst : l.stackTraces = false) (D : va_G) (cy : Nat → ClassId) (A : Nat → Prop) (G : cG) (ws : va_W) (x1 : Nat) {k1 n1 : Nat} (hD : va_D A ws) (hT : cT cy G ws) (hG_x1 : G x1 = some (3, k1, n1))  : Yi l D cy A yX9_caughtFailure wsX9_caughtFailure ({ frames := 7, cells := 1, slots := 6, locals := 110 }) 1 6 ws [.ref x1] (fun r0 u => u = (G, ws) ∧ (True)) := by
  refine va_MetW (cc := cX9_caughtFailure) (maxL := 2) (ret := (some .int)) (by decide) rfl ?_
  intro p e s m args below meth c s₁ B hml hv
  obtain ⟨rfl, ⟨hP, hK, hA, hV⟩, hZ, hXT⟩ := hv
  have hx := B.exec
  have hb := B.bytes
  have hr := B.returns
  have hts := atoms_spec (ws := wsX9_caughtFailure) B.pre
  have hown : s.vm.findClass RX9 = some m.cls := findClass_of_methodNamed B.named
  have hlocks := B.notSynchronized
  have htab := vx_table (x := yX9_caughtFailure) B (hts (.codeWith yX9_caughtFailure cX9_caughtFailure 2 (some .int) [(0, 4, 7, 259), (0, 4, 10, 223), (0, 4, 13, 349)]) (by decide +kernel))
  have hS : va_S A s.heap s.heap [] := va_S.rf
  have hl := lv_entry ([.ref x1]) (n := 2) (Nat.le_of_ble_eq_true rfl)
  rw [lg_entry_eq]
  generalize (lg_sl ([.ref x1]) ++ List.replicate (2 - (lg_sl ([.ref x1])).length) Slot.unset).toArray = ls at hl ⊢
  have hl : lv_has ls 2 [(0, .ref x1)] := hl
  have k_m15 : (-15 : Int32).toInt = -15 := by decide
  have k_0 : (0 : Int32).toInt = 0 := by decide
  have k_1 : (1 : Int32).toInt = 1 := by decide
  have k_2 : (2 : Int32).toInt = 2 := by decide
  have k_3 : (3 : Int32).toInt = 3 := by decide
  refine lv_aload_n hx hb dX9_caughtFailure_0 rfl (lv_at hl 0 rfl) ?_
  obtain ⟨_, hM_x1, b_x1, s_x1, w_x1, h_x1, t_x1, x_x1, y_x1, ms_x1, rfl, hG_b_x1, hG_s_x1, hJ_x1⟩ := hT _ _ hG_x1
  have hJ9 := hJ_x1
  obtain ⟨hn9, hJ9⟩ := hJ9
  rcases hJ9 with ⟨rfl, rfl⟩ | ⟨rfl, rfl⟩ | ⟨rfl, rfl⟩ | ⟨rfl, c9, rfl, hG_c9⟩
  · skip
    have hM_x1 : cIn ws x1 (.inr (1, [.ref b_x1, .ref s_x1, .int t_x1, .long x_x1, .long y_x1])) := hM_x1
    refine x_callv (vx_runU (g := F0 m 1 ls ([.ref x1])) (As := []) (rest := []) ⟨hx, hb, hml, hown, hts⟩ (c_X1_fail l hst D cy A G ws x1 hD hT hG_x1 ) (va_cwO 0 hts gX9_caughtFailure_X1_fail_u346X1 rfl rfl rfl (b0 := cX3_fail) (m0 := 1) (r0 := none) (by decide +kernel) (by decide +kernel) ⟨Nat.le_of_ble_eq_true rfl, Nat.le_of_ble_eq_true rfl⟩) (x_preV hM_x1 rfl hP hK hA hS hV hZ hXT) rfl rfl hl.1 rfl (lv_room (Nat.le_of_ble_eq_true rfl)) dX9_caughtFailure_1 ⟨Nat.le_of_ble_eq_true rfl, Nat.le_of_ble_eq_true rfl⟩) hS (fun E9 ce9 q9 u H locs px9 pe9 hP9 hD9 hT9 hS hc9 hv9 hcl9 => ?_) (fun u H locs q1 hP9 hD9 hT9 hS => ?_)
    · skip
      obtain rfl := px9
      have hP : va_P D vwCl ws H := hP9
      obtain rfl := pe9
      refine vx_catch (own := RX9) (name := xIA) (E := xIA) hown [⟨0, 4, 7, 259⟩] ⟨0, 4, 10, 223⟩ [⟨0, 4, 13, 349⟩] htab (fun z9 h9 => by rcases List.mem_cons.mp h9 with rfl | h9; exact Or.inr ⟨by decide, xIS, hts (.classLink RX9 259 xIS) (by decide +kernel), hXT.2.1.1⟩; simp at h9) (by decide) (by decide) (hts (.classLink RX9 223 xIA) (by decide +kernel)) (hXT.1.2.1.use rfl) hc9 hv9 hcl9 ?_
      refine lv_astore_n (lv' := [(1, .ref q9), (0, .ref x1)]) hx hb dX9_caughtFailure_10 rfl hl (by decide) rfl (fun ls hl => ?_)
      refine lv_iconst (v := 2) hx hb dX9_caughtFailure_11 (by decide) ?_
      refine W.widen (k := 1) (n := 6) (Nat.le_of_ble_eq_true rfl) (Nat.le_of_ble_eq_true rfl) ?_
      exact W.iret (v := (2 : Int32)) hx hb hr (fun t ht hW => ⟨⟨_, (G, ws), rfl, ⟨rfl, trivial⟩, by show va_P D vwCl ws t.heap; rw [ht]; exact hP, hD, hT⟩, hS.F ht⟩) hS.2.2 dX9_caughtFailure_12
    exact (q1.2 : False).elim
  · skip
    have hM_x1 : cIn ws x1 (.inr (2, [.ref b_x1, .ref s_x1, .int t_x1, .long x_x1, .long y_x1])) := hM_x1
    refine t_callv (va_runV (g := F0 m 1 ls ([.ref x1])) (As := []) (rest := []) ⟨hx, hb, hml, hown, hts⟩ (c_X3_fail l D cy A G ws x1 hD hT hG_x1 ) (cwV 0 hts gX9_caughtFailure_X3_fail rfl rfl rfl (by decide +kernel) ⟨Nat.le_of_ble_eq_true rfl, Nat.le_of_ble_eq_true rfl⟩) (c_preV hM_x1 rfl hP hK hA hS hV) rfl rfl hl.1 rfl (lv_room (Nat.le_of_ble_eq_true rfl)) dX9_caughtFailure_1 ⟨Nat.le_of_ble_eq_true rfl, Nat.le_of_ble_eq_true rfl⟩) hS (fun u H locs q1 hP9 hD9 hT9 hS => ?_)
    obtain ⟨rfl, q1⟩ := q1
    have hP : va_P D vwCl ws H := hP9
    refine lv_goto (tgt := 16) hx hb dX9_caughtFailure_4 (by decide) ?_
    refine lv_bipush (v := (-15)) hx hb dX9_caughtFailure_16 (by decide) ?_
    refine W.widen (k := 1) (n := 6) (Nat.le_of_ble_eq_true rfl) (Nat.le_of_ble_eq_true rfl) ?_
    exact W.iret (v := ((-15) : Int32)) hx hb hr (fun t ht hW => ⟨⟨_, (G, ws), rfl, ⟨rfl, trivial⟩, by show va_P D vwCl ws t.heap; rw [ht]; exact hP, hD, hT⟩, hS.F ht⟩) hS.2.2 dX9_caughtFailure_18
  · skip
    have hM_x1 : cIn ws x1 (.inr (3, [.ref b_x1, .ref s_x1, .int t_x1, .long x_x1, .long y_x1])) := hM_x1
    refine x_callv (vx_runU (g := F0 m 1 ls ([.ref x1])) (As := []) (rest := []) ⟨hx, hb, hml, hown, hts⟩ (c_X4_fail l hst D cy A G ws x1 hD hT hG_x1 ) (va_cwO 0 hts gX9_caughtFailure_X4_fail_u346X4 rfl rfl rfl (b0 := cX3_fail) (m0 := 1) (r0 := none) (by decide +kernel) (by decide +kernel) ⟨Nat.le_of_ble_eq_true rfl, Nat.le_of_ble_eq_true rfl⟩) (x_preV hM_x1 rfl hP hK hA hS hV hZ hXT) rfl rfl hl.1 rfl (lv_room (Nat.le_of_ble_eq_true rfl)) dX9_caughtFailure_1 ⟨Nat.le_of_ble_eq_true rfl, Nat.le_of_ble_eq_true rfl⟩) hS (fun E9 ce9 q9 u H locs px9 pe9 hP9 hD9 hT9 hS hc9 hv9 hcl9 => ?_) (fun u H locs q1 hP9 hD9 hT9 hS => ?_)
    · skip
      obtain rfl := px9
      have hP : va_P D vwCl ws H := hP9
      obtain rfl := pe9
      refine vx_catch (own := RX9) (name := xIS) (E := xIS) hown [] ⟨0, 4, 7, 259⟩ [⟨0, 4, 10, 223⟩, ⟨0, 4, 13, 349⟩] htab (fun z9 h9 => by simp at h9) (by decide) (by decide) (hts (.classLink RX9 259 xIS) (by decide +kernel)) (hXT.1.2.2.1.use rfl) hc9 hv9 hcl9 ?_
      refine lv_astore_n (lv' := [(1, .ref q9), (0, .ref x1)]) hx hb dX9_caughtFailure_7 rfl hl (by decide) rfl (fun ls hl => ?_)
      refine lv_iconst (v := 1) hx hb dX9_caughtFailure_8 (by decide) ?_
      refine W.widen (k := 1) (n := 6) (Nat.le_of_ble_eq_true rfl) (Nat.le_of_ble_eq_true rfl) ?_
      exact W.iret (v := (1 : Int32)) hx hb hr (fun t ht hW => ⟨⟨_, (G, ws), rfl, ⟨rfl, trivial⟩, by show va_P D vwCl ws t.heap; rw [ht]; exact hP, hD, hT⟩, hS.F ht⟩) hS.2.2 dX9_caughtFailure_9
    exact (q1.2 : False).elim
  · skip
    have hM_x1 : cIn ws x1 (.inr (4, [.ref b_x1, .ref s_x1, .int t_x1, .long x_x1, .long y_x1, .ref c9])) := hM_x1
    have hn36 := cb_mul (c_hb hT hG_b_x1)
    refine x_callv (vx_runU (g := F0 m 1 ls ([.ref x1])) (As := []) (rest := []) ⟨hx, hb, hml, hown, hts⟩ (c_X5_fail l hst D cy A G ws x1 hD hT hG_x1 ) (va_cwO 0 hts gX9_caughtFailure_X5_fail_u346X5 rfl rfl rfl (b0 := cX3_fail) (m0 := 1) (r0 := none) (by decide +kernel) (by decide +kernel) ⟨Nat.le_of_ble_eq_true rfl, Nat.le_of_ble_eq_true rfl⟩) (x_preV hM_x1 rfl hP hK hA hS hV hZ hXT) rfl rfl hl.1 rfl (lv_room (Nat.le_of_ble_eq_true rfl)) dX9_caughtFailure_1 ⟨Nat.le_of_ble_eq_true rfl, Nat.le_of_ble_eq_true rfl⟩) hS (fun E9 ce9 q9 u H locs px9 pe9 hP9 hD9 hT9 hS hc9 hv9 hcl9 => ?_) (fun u H locs q1 hP9 hD9 hT9 hS => ?_)
    · skip
      obtain rfl := px9
      have hP : va_P D vwCl ws H := hP9
      obtain rfl := pe9
      refine vx_catch (own := RX9) (name := xUO) (E := xUO) hown [⟨0, 4, 7, 259⟩, ⟨0, 4, 10, 223⟩] ⟨0, 4, 13, 349⟩ [] htab (fun z9 h9 => by rcases List.mem_cons.mp h9 with rfl | h9; exact Or.inr ⟨by decide, xIS, hts (.classLink RX9 259 xIS) (by decide +kernel), hXT.2.1.2.1⟩; rcases List.mem_cons.mp h9 with rfl | h9; exact Or.inr ⟨by decide, xIA, hts (.classLink RX9 223 xIA) (by decide +kernel), hXT.2.1.2.2.1⟩; simp at h9) (by decide) (by decide) (hts (.classLink RX9 349 xUO) (by decide +kernel)) (hXT.1.2.2.2.use rfl) hc9 hv9 hcl9 ?_
      refine lv_astore_n (lv' := [(1, .ref q9), (0, .ref x1)]) hx hb dX9_caughtFailure_13 rfl hl (by decide) rfl (fun ls hl => ?_)
      refine lv_iconst (v := 3) hx hb dX9_caughtFailure_14 (by decide) ?_
      refine W.widen (k := 1) (n := 6) (Nat.le_of_ble_eq_true rfl) (Nat.le_of_ble_eq_true rfl) ?_
      exact W.iret (v := (3 : Int32)) hx hb hr (fun t ht hW => ⟨⟨_, (G, ws), rfl, ⟨rfl, trivial⟩, by show va_P D vwCl ws t.heap; rw [ht]; exact hP, hD, hT⟩, hS.F ht⟩) hS.2.2 dX9_caughtFailure_15
    exact (q1.2 : False).elim
set_option maxHeartbeats 4000000 in
set_option maxRecDepth 100000 in
theorem c_X9_toss (l : Launch) (hst : l.stackTraces = false) (D : va_G) (cy : Nat → ClassId) (A : Nat → Prop) (G : cG) (ws : va_W) (o : Nat) (d : Int32)  (hD : va_D A ws) (hT : cT cy G ws) (hG_o : G o = some (7, 0, 0))  : Yi l D cy A yX9_toss wsX9_toss ({ frames := 8, cells := 1, slots := 6, locals := 131 }) 1 6 ws [.ref o, .int d] (fun r0 u => u = (G, ws) ∧ (True)) := by
  refine Met.ofW (cc := cX9_toss) (maxL := 4) (ret := (some .int)) (by decide) rfl ?_
  intro p e s m args below meth c s₁ B hml hv
  obtain ⟨rfl, ⟨hP, hK, hA, hV⟩, hZ, hXT⟩ := hv
  have hx := B.exec
  have hb := B.bytes
  have hr := B.returns
  have hts := atoms_spec (ws := wsX9_toss) B.pre
  have hown : s.vm.findClass RX9 = some m.cls := findClass_of_methodNamed B.named
  have hlocks := B.notSynchronized
  have hS : va_S A s.heap s.heap [] := va_S.rf
  have hl := lv_entry ([.ref o, .int d]) (n := 4) (Nat.le_of_ble_eq_true rfl)
  rw [lg_entry_eq]
  generalize (lg_sl ([.ref o, .int d]) ++ List.replicate (4 - (lg_sl ([.ref o, .int d])).length) Slot.unset).toArray = ls at hl ⊢
  have hl : lv_has ls 4 [(0, .ref o), (1, .int d)] := hl
  have k_m12 : (-12 : Int32).toInt = -12 := by decide
  have k_m11 : (-11 : Int32).toInt = -11 := by decide
  have k_m1 : (-1 : Int32).toInt = -1 := by decide
  have k_0 : (0 : Int32).toInt = 0 := by decide
  refine lv_iload_n hx hb dX9_toss_0 rfl (lv_at hl 1 rfl) ?_
  refine t_pu (As := [.int d]) (rest := []) ⟨hx, hb, hml, hown, hts⟩ (c_X9_isShelf l d ) (va_cwS 1 hts gX9_toss_X9_isShelf rfl rfl rfl (by decide +kernel) ⟨Nat.le_of_ble_eq_true rfl, Nat.le_of_ble_eq_true rfl⟩) hP rfl hl.1 rfl (Nat.le_of_ble_eq_true rfl) dX9_toss_1 ⟨Nat.le_of_ble_eq_true rfl, Nat.le_of_ble_eq_true rfl⟩ hS (fun r1 H locs q1 hP hS => ?_)
  refine lv_if_ne (tgt := 9) hx hb dX9_toss_4 (by decide) (fun c4 => ?_) (fun c4 => ?_)
  · skip
    have b4 := bo_t q1 c4
    refine lv_aload_n hx hb dX9_toss_9 rfl (lv_at hl 0 rfl) ?_
    obtain ⟨_, hM_o, bs_o, js_o, sh_o, wk_o, ll_o, jc_o, lc_o, mo_o, lb_o, rfl, hjc_o, hlc_o, hG_bs_o, hG_js_o, hG_sh_o, hG_wk_o, hmo_o, hG_ll_o, hlb_o⟩ := hT _ _ hG_o
    refine t_get (v := .ref sh_o) (C := RX9) (T := TX9) (N := 9) hx hb hts (by decide +kernel) hown hK hP hM_o rfl 3 (by decide) (hts (.fieldLink RX9 27 "ShadowBench" "shelves" "[LShadowBench$Held;") (by decide +kernel)) (fun _ h9 => h9) rfl dX9_toss_10 ?_
    refine lv_iload_n hx hb dX9_toss_13 rfl (lv_at hl 1 rfl) ?_
    refine t_aald10 hx hb hK hP hT hG_sh_o (vp_in_iff.mpr ⟨by omega, by omega⟩) dX9_toss_14 ?_ (fun x14 kx14 nx14 hG_x14 => ?_) (fun x14 nx14 hG_x14 => ?_)
    · skip
      refine lv_ifnonnullN hx hb dX9_toss_15 ?_
      refine lv_bipush (v := (-11)) hx hb dX9_toss_18 (by decide) ?_
      refine W.widen (k := 1) (n := 6) (Nat.le_of_ble_eq_true rfl) (Nat.le_of_ble_eq_true rfl) ?_
      exact W.iret (v := ((-11) : Int32)) hx hb hr (fun t ht hW => ⟨⟨_, (G, ws), rfl, ⟨rfl, trivial⟩, by show va_P D vwCl ws t.heap; rw [ht]; exact hP, hD, hT⟩, hS.F ht⟩) hS.2.2 dX9_toss_20
    · skip
      refine lv_ifnonnull (tgt := 21) hx hb dX9_toss_15 (by decide) ?_
      refine lv_aload_n hx hb dX9_toss_21 rfl (lv_at hl 0 rfl) ?_
      refine t_get (v := .ref sh_o) (C := RX9) (T := TX9) (N := 9) hx hb hts (by decide +kernel) hown hK hP hM_o rfl 3 (by decide) (hts (.fieldLink RX9 27 "ShadowBench" "shelves" "[LShadowBench$Held;") (by decide +kernel)) (fun _ h9 => h9) rfl dX9_toss_22 ?_
      refine lv_iload_n hx hb dX9_toss_25 rfl (lv_at hl 1 rfl) ?_
      refine t_aald10 hx hb hK hP hT hG_sh_o (vp_in_iff.mpr ⟨by omega, by omega⟩) dX9_toss_26 ?_ (fun x26 kx26 nx26 hG_x26 => ?_) (fun x26 nx26 hG_x26 => ?_)
      · skip
        refine lv_astore_nN (lv' := [(3, .null), (0, .ref o), (1, .int d)]) hx hb dX9_toss_27 rfl hl (by decide) rfl (fun ls hl => ?_)
        refine lv_aload_nN hx hb dX9_toss_28 rfl (lv_at hl 0 rfl) ?_
        refine lv_instN hx hb dX9_toss_29 ?_
        refine lv_if_eq (tgt := 45) hx hb dX9_toss_32 (by decide) (fun c32 => ?_) (fun c32 => ?_)
        · skip
          have d32 := c32
          rw [fa_eq] at d32
          refine lv_bipush (v := (-12)) hx hb dX9_toss_45 (by decide) ?_
          refine W.widen (k := 1) (n := 6) (Nat.le_of_ble_eq_true rfl) (Nat.le_of_ble_eq_true rfl) ?_
          exact W.iret (v := ((-12) : Int32)) hx hb hr (fun t ht hW => ⟨⟨_, (G, ws), rfl, ⟨rfl, trivial⟩, by show va_P D vwCl ws t.heap; rw [ht]; exact hP, hD, hT⟩, hS.F ht⟩) hS.2.2 dX9_toss_47
        · first | exact absurd c32 (by decide) | exact absurd (by decide) c32
      · skip
        refine lv_astore_n (lv' := [(3, .ref x26), (0, .ref o), (1, .int d)]) hx hb dX9_toss_27 rfl hl (by decide) rfl (fun ls hl => ?_)
        refine lv_aload_n hx hb dX9_toss_28 rfl (lv_at hl 0 rfl) ?_
        obtain ⟨_, hM_x26, b_x26, s_x26, w_x26, h_x26, t_x26, x_x26, y_x26, ms_x26, rfl, hG_b_x26, hG_s_x26, hJ_x26⟩ := hT _ _ hG_x26
        refine t_instJ hx hb hV hown (hts (.classLink RX9 15 RX3) (by decide +kernel)) hK hP hJ_x26.kc hM_x26 dX9_toss_29 ?_
        refine lv_if_eq (tgt := 45) hx hb dX9_toss_32 (by decide) (fun c32 => ?_) (fun c32 => ?_)
        · first | exact absurd c32 (by decide) | exact absurd (by decide) c32
        · skip
          have d32 := c32
          rw [fa_eq] at d32
          refine lv_aload_n hx hb dX9_toss_35 rfl (lv_at hl 0 rfl) ?_
          refine t_castJ hx hb hV hown (hts (.classLink RX9 15 RX3) (by decide +kernel)) hK hP hJ_x26.kc hM_x26 dX9_toss_36 ?_
          refine lv_astore_n (lv' := [(2, .ref x26), (3, .ref x26), (0, .ref o), (1, .int d)]) hx hb dX9_toss_39 rfl hl (by decide) rfl (fun ls hl => ?_)
          refine lv_aload_n hx hb dX9_toss_40 rfl (lv_at hl 0 rfl) ?_
          refine t_calli (vx_runSW (g := F0 m 41 ls ([.ref x26])) (As := [.ref x26]) (rest := []) ⟨hx, hb, hml, hown, hts⟩ (c_X9_caughtFailure l hst D cy A G ws x26 hD hT hG_x26 ) (vx_cwSW 1 hts gX9_toss_X9_caughtFailure rfl rfl rfl (by decide +kernel) ⟨Nat.le_of_ble_eq_true rfl, Nat.le_of_ble_eq_true rfl⟩) (x_preS hP hK hA hS hV hZ hXT) rfl rfl hl.1 rfl (lv_room (Nat.le_of_ble_eq_true rfl)) dX9_toss_41 ⟨Nat.le_of_ble_eq_true rfl, Nat.le_of_ble_eq_true rfl⟩) hS (fun r41 u H locs q41 hP9 hD9 hT9 hS => ?_)
          obtain ⟨rfl, q41⟩ := q41
          have hP : va_P D vwCl ws H := hP9
          refine W.widen (k := 1) (n := 6) (Nat.le_of_ble_eq_true rfl) (Nat.le_of_ble_eq_true rfl) ?_
          exact W.iret (v := r41) hx hb hr (fun t ht hW => ⟨⟨_, (G, ws), rfl, ⟨rfl, trivial⟩, by show va_P D vwCl ws t.heap; rw [ht]; exact hP, hD, hT⟩, hS.F ht⟩) hS.2.2 dX9_toss_44
      · skip
        refine lv_astore_n (lv' := [(3, .ref x26), (0, .ref o), (1, .int d)]) hx hb dX9_toss_27 rfl hl (by decide) rfl (fun ls hl => ?_)
        refine lv_aload_n hx hb dX9_toss_28 rfl (lv_at hl 0 rfl) ?_
        obtain ⟨_, hM_x26, hn_x26, z_x26, a_x26, rfl, hz_x26, hG_a_x26⟩ := hT _ _ hG_x26
        refine va_instNo hx hb hown (hts (.classLink RX9 15 RX3) (by decide +kernel)) hV.2.2.2.2.2 (t_recJ hK hP hM_x26 rfl) dX9_toss_29 ?_
        refine lv_if_eq (tgt := 45) hx hb dX9_toss_32 (by decide) (fun c32 => ?_) (fun c32 => ?_)
        · skip
          have d32 := c32
          rw [fa_eq] at d32
          refine lv_bipush (v := (-12)) hx hb dX9_toss_45 (by decide) ?_
          refine W.widen (k := 1) (n := 6) (Nat.le_of_ble_eq_true rfl) (Nat.le_of_ble_eq_true rfl) ?_
          exact W.iret (v := ((-12) : Int32)) hx hb hr (fun t ht hW => ⟨⟨_, (G, ws), rfl, ⟨rfl, trivial⟩, by show va_P D vwCl ws t.heap; rw [ht]; exact hP, hD, hT⟩, hS.F ht⟩) hS.2.2 dX9_toss_47
        · first | exact absurd c32 (by decide) | exact absurd (by decide) c32
    · skip
      refine lv_ifnonnull (tgt := 21) hx hb dX9_toss_15 (by decide) ?_
      refine lv_aload_n hx hb dX9_toss_21 rfl (lv_at hl 0 rfl) ?_
      refine t_get (v := .ref sh_o) (C := RX9) (T := TX9) (N := 9) hx hb hts (by decide +kernel) hown hK hP hM_o rfl 3 (by decide) (hts (.fieldLink RX9 27 "ShadowBench" "shelves" "[LShadowBench$Held;") (by decide +kernel)) (fun _ h9 => h9) rfl dX9_toss_22 ?_
      refine lv_iload_n hx hb dX9_toss_25 rfl (lv_at hl 1 rfl) ?_
      refine t_aald10 hx hb hK hP hT hG_sh_o (vp_in_iff.mpr ⟨by omega, by omega⟩) dX9_toss_26 ?_ (fun x26 kx26 nx26 hG_x26 => ?_) (fun x26 nx26 hG_x26 => ?_)
      · skip
        refine lv_astore_nN (lv' := [(3, .null), (0, .ref o), (1, .int d)]) hx hb dX9_toss_27 rfl hl (by decide) rfl (fun ls hl => ?_)
        refine lv_aload_nN hx hb dX9_toss_28 rfl (lv_at hl 0 rfl) ?_
        refine lv_instN hx hb dX9_toss_29 ?_
        refine lv_if_eq (tgt := 45) hx hb dX9_toss_32 (by decide) (fun c32 => ?_) (fun c32 => ?_)
        · skip
          have d32 := c32
          rw [fa_eq] at d32
          refine lv_bipush (v := (-12)) hx hb dX9_toss_45 (by decide) ?_
          refine W.widen (k := 1) (n := 6) (Nat.le_of_ble_eq_true rfl) (Nat.le_of_ble_eq_true rfl) ?_
          exact W.iret (v := ((-12) : Int32)) hx hb hr (fun t ht hW => ⟨⟨_, (G, ws), rfl, ⟨rfl, trivial⟩, by show va_P D vwCl ws t.heap; rw [ht]; exact hP, hD, hT⟩, hS.F ht⟩) hS.2.2 dX9_toss_47
        · first | exact absurd c32 (by decide) | exact absurd (by decide) c32
      · skip
        refine lv_astore_n (lv' := [(3, .ref x26), (0, .ref o), (1, .int d)]) hx hb dX9_toss_27 rfl hl (by decide) rfl (fun ls hl => ?_)
        refine lv_aload_n hx hb dX9_toss_28 rfl (lv_at hl 0 rfl) ?_
        obtain ⟨_, hM_x26, b_x26, s_x26, w_x26, h_x26, t_x26, x_x26, y_x26, ms_x26, rfl, hG_b_x26, hG_s_x26, hJ_x26⟩ := hT _ _ hG_x26
        refine t_instJ hx hb hV hown (hts (.classLink RX9 15 RX3) (by decide +kernel)) hK hP hJ_x26.kc hM_x26 dX9_toss_29 ?_
        refine lv_if_eq (tgt := 45) hx hb dX9_toss_32 (by decide) (fun c32 => ?_) (fun c32 => ?_)
        · first | exact absurd c32 (by decide) | exact absurd (by decide) c32
        · skip
          have d32 := c32
          rw [fa_eq] at d32
          refine lv_aload_n hx hb dX9_toss_35 rfl (lv_at hl 0 rfl) ?_
          refine t_castJ hx hb hV hown (hts (.classLink RX9 15 RX3) (by decide +kernel)) hK hP hJ_x26.kc hM_x26 dX9_toss_36 ?_
          refine lv_astore_n (lv' := [(2, .ref x26), (3, .ref x26), (0, .ref o), (1, .int d)]) hx hb dX9_toss_39 rfl hl (by decide) rfl (fun ls hl => ?_)
          refine lv_aload_n hx hb dX9_toss_40 rfl (lv_at hl 0 rfl) ?_
          refine t_calli (vx_runSW (g := F0 m 41 ls ([.ref x26])) (As := [.ref x26]) (rest := []) ⟨hx, hb, hml, hown, hts⟩ (c_X9_caughtFailure l hst D cy A G ws x26 hD hT hG_x26 ) (vx_cwSW 1 hts gX9_toss_X9_caughtFailure rfl rfl rfl (by decide +kernel) ⟨Nat.le_of_ble_eq_true rfl, Nat.le_of_ble_eq_true rfl⟩) (x_preS hP hK hA hS hV hZ hXT) rfl rfl hl.1 rfl (lv_room (Nat.le_of_ble_eq_true rfl)) dX9_toss_41 ⟨Nat.le_of_ble_eq_true rfl, Nat.le_of_ble_eq_true rfl⟩) hS (fun r41 u H locs q41 hP9 hD9 hT9 hS => ?_)
          obtain ⟨rfl, q41⟩ := q41
          have hP : va_P D vwCl ws H := hP9
          refine W.widen (k := 1) (n := 6) (Nat.le_of_ble_eq_true rfl) (Nat.le_of_ble_eq_true rfl) ?_
          exact W.iret (v := r41) hx hb hr (fun t ht hW => ⟨⟨_, (G, ws), rfl, ⟨rfl, trivial⟩, by show va_P D vwCl ws t.heap; rw [ht]; exact hP, hD, hT⟩, hS.F ht⟩) hS.2.2 dX9_toss_44
      · skip
        refine lv_astore_n (lv' := [(3, .ref x26), (0, .ref o), (1, .int d)]) hx hb dX9_toss_27 rfl hl (by decide) rfl (fun ls hl => ?_)
        refine lv_aload_n hx hb dX9_toss_28 rfl (lv_at hl 0 rfl) ?_
        obtain ⟨_, hM_x26, hn_x26, z_x26, a_x26, rfl, hz_x26, hG_a_x26⟩ := hT _ _ hG_x26
        refine va_instNo hx hb hown (hts (.classLink RX9 15 RX3) (by decide +kernel)) hV.2.2.2.2.2 (t_recJ hK hP hM_x26 rfl) dX9_toss_29 ?_
        refine lv_if_eq (tgt := 45) hx hb dX9_toss_32 (by decide) (fun c32 => ?_) (fun c32 => ?_)
        · skip
          have d32 := c32
          rw [fa_eq] at d32
          refine lv_bipush (v := (-12)) hx hb dX9_toss_45 (by decide) ?_
          refine W.widen (k := 1) (n := 6) (Nat.le_of_ble_eq_true rfl) (Nat.le_of_ble_eq_true rfl) ?_
          exact W.iret (v := ((-12) : Int32)) hx hb hr (fun t ht hW => ⟨⟨_, (G, ws), rfl, ⟨rfl, trivial⟩, by show va_P D vwCl ws t.heap; rw [ht]; exact hP, hD, hT⟩, hS.F ht⟩) hS.2.2 dX9_toss_47
        · first | exact absurd c32 (by decide) | exact absurd (by decide) c32
  · skip
    have b4 := bo_f q1 c4
    refine lv_iconst (v := (-1)) hx hb dX9_toss_7 (by decide) ?_
    refine W.widen (k := 1) (n := 6) (Nat.le_of_ble_eq_true rfl) (Nat.le_of_ble_eq_true rfl) ?_
    exact W.iret (v := ((-1) : Int32)) hx hb hr (fun t ht hW => ⟨⟨_, (G, ws), rfl, ⟨rfl, trivial⟩, by show va_P D vwCl ws t.heap; rw [ht]; exact hP, hD, hT⟩, hS.F ht⟩) hS.2.2 dX9_toss_8
set_option maxHeartbeats 4000000 in
set_option maxRecDepth 100000 in
theorem c_X9_markedJobOf (l : Launch) (hst : l.stackTraces = false) (D : va_G) (cy : Nat → ClassId) (A : Nat → Prop) (G : cG) (ws : va_W) (o : Nat) (j : Int32)  (hD : va_D A ws) (hT : cT cy G ws) (hG_o : G o = some (7, 0, 0))  : Xa l D cy A yX9_markedJobOf wsX9_markedJobOf ({ frames := 6, cells := 1, slots := 6, locals := 90 }) 1 6 ws [.ref o, .int j] (fun r0 u => u = (G, ws) ∧ (∃ x n, r0 = some x ∧ G x = some (3, 4, n))) (fun u => u = (G, ws)) (fun E => E = xIA ∨ E = xIS) := by
  refine vx_ofW (cc := cX9_markedJobOf) (maxL := 4) (ret := (some (.object "ShadowBench$MarkedJob"))) (by decide) rfl ?_
  intro p e s m args below meth c s₁ B hml hno hv
  obtain ⟨rfl, ⟨hP, hK, hA, hV⟩, hZ, hXT⟩ := hv
  have hx := B.exec
  have hb := B.bytes
  have hr := B.returns
  have hts := atoms_spec (ws := wsX9_markedJobOf) B.pre
  have hown : s.vm.findClass RX9 = some m.cls := findClass_of_methodNamed B.named
  have hlocks := B.notSynchronized
  have hS : va_S A s.heap s.heap [] := va_S.rf
  have hl := lv_entry ([.ref o, .int j]) (n := 4) (Nat.le_of_ble_eq_true rfl)
  rw [lg_entry_eq]
  generalize (lg_sl ([.ref o, .int j]) ++ List.replicate (4 - (lg_sl ([.ref o, .int j])).length) Slot.unset).toArray = ls at hl ⊢
  have hl : lv_has ls 4 [(0, .ref o), (1, .int j)] := hl
  have k_0 : (0 : Int32).toInt = 0 := by decide
  refine lv_aload_n hx hb dX9_markedJobOf_0 rfl (lv_at hl 0 rfl) ?_
  refine lv_iload_n hx hb dX9_markedJobOf_1 rfl (lv_at hl 1 rfl) ?_
  obtain ⟨_, hM_o, bs_o, js_o, sh_o, wk_o, ll_o, jc_o, lc_o, mo_o, lb_o, rfl, hjc_o, hlc_o, hG_bs_o, hG_js_o, hG_sh_o, hG_wk_o, hmo_o, hG_ll_o, hlb_o⟩ := hT _ _ hG_o
  refine t_calla (va_runV (g := F0 m 2 ls ([.int j, .ref o])) (As := [.int j]) (rest := []) ⟨hx, hb, hml, hown, hts⟩ (c_X9_jobOf l D cy A G ws o j hD hT hG_o ) (cwV 1 hts gX9_markedJobOf_X9_jobOf rfl rfl rfl (by decide +kernel) ⟨Nat.le_of_ble_eq_true rfl, Nat.le_of_ble_eq_true rfl⟩) (c_preV hM_o rfl hP hK hA hS hV) rfl rfl hl.1 rfl (lv_room (Nat.le_of_ble_eq_true rfl)) dX9_markedJobOf_2 ⟨Nat.le_of_ble_eq_true rfl, Nat.le_of_ble_eq_true rfl⟩) hS (fun r2 u H locs q2 hP9 hD9 hT9 hS => ?_)
  obtain ⟨rfl, q2⟩ := q2
  have hP : va_P D vwCl ws H := hP9
  rcases r2 with _ | x2
  · skip
    refine lv_astore_nN (lv' := [(3, .null), (0, .ref o), (1, .int j)]) hx hb dX9_markedJobOf_5 rfl hl (by decide) rfl (fun ls hl => ?_)
    refine lv_aload_nN hx hb dX9_markedJobOf_6 rfl (lv_at hl 0 rfl) ?_
    refine lv_instN hx hb dX9_markedJobOf_7 ?_
    refine lv_if_eq (tgt := 20) hx hb dX9_markedJobOf_10 (by decide) (fun c10 => ?_) (fun c10 => ?_)
    · skip
      have d10 := c10
      rw [fa_eq] at d10
      obtain ⟨sa20, hsa20⟩ := hXT.2.2.1 (RX9, 302, "no such job, or it is not marked") (by decide)
      exact vx_throwSW (own := RX9) (cls := xIA) (names := [xRT, xEX]) (A := A) (ik := 223) (ic := 227) hx hb hst hown (by decide) (by decide) (hts (.classLink RX9 223 xIA) (by decide +kernel)) (hts (.initialized xIA) (by decide +kernel)) hsa20 (x_hat hts hXT (Or.inl rfl) (by decide +kernel) (by decide +kernel)) (by decide +kernel) hXT.2.2.2.1 hXT.2.2.2.2 hS (by rw [hml]; exact hl.1) dX9_markedJobOf_20 dX9_markedJobOf_23 dX9_markedJobOf_24 dX9_markedJobOf_27 dX9_markedJobOf_30 (fun x9 h9 => (hno x9 h9).elim) (Nat.le_of_ble_eq_true rfl) (Nat.le_of_ble_eq_true rfl) (Nat.le_of_ble_eq_true rfl) (Nat.le_of_ble_eq_true rfl) hlocks (x_thr (G' := G) (ws' := ws) rfl (Or.inl rfl) hP hD hT hS) hS.2.2 (Nat.le_of_ble_eq_true rfl) (Nat.le_of_ble_eq_true rfl)
    · first | exact absurd c10 (by decide) | exact absurd (by decide) c10
  · skip
    obtain ⟨kx2, nx2, hG_x2⟩ := q2 x2 rfl
    refine lv_astore_n (lv' := [(3, .ref x2), (0, .ref o), (1, .int j)]) hx hb dX9_markedJobOf_5 rfl hl (by decide) rfl (fun ls hl => ?_)
    refine lv_aload_n hx hb dX9_markedJobOf_6 rfl (lv_at hl 0 rfl) ?_
    obtain ⟨_, hM_x2, b_x2, s_x2, w_x2, h_x2, t_x2, x_x2, y_x2, ms_x2, rfl, hG_b_x2, hG_s_x2, hJ_x2⟩ := hT _ _ hG_x2
    have hJ9 := hJ_x2
    obtain ⟨hn9, hJ9⟩ := hJ9
    rcases hJ9 with ⟨rfl, rfl⟩ | ⟨rfl, rfl⟩ | ⟨rfl, rfl⟩ | ⟨rfl, c9, rfl, hG_c9⟩
    · skip
      have hM_x2 : cIn ws x2 (.inr (1, [.ref b_x2, .ref s_x2, .int t_x2, .long x_x2, .long y_x2])) := hM_x2
      refine va_instNo hx hb hown (hts (.classLink RX9 112 RX5) (by decide +kernel)) hV.2.2.2.1.1 (t_recJ hK hP hM_x2 rfl) dX9_markedJobOf_7 ?_
      refine lv_if_eq (tgt := 20) hx hb dX9_markedJobOf_10 (by decide) (fun c10 => ?_) (fun c10 => ?_)
      · skip
        have d10 := c10
        rw [fa_eq] at d10
        obtain ⟨sa20, hsa20⟩ := hXT.2.2.1 (RX9, 302, "no such job, or it is not marked") (by decide)
        exact vx_throwSW (own := RX9) (cls := xIA) (names := [xRT, xEX]) (A := A) (ik := 223) (ic := 227) hx hb hst hown (by decide) (by decide) (hts (.classLink RX9 223 xIA) (by decide +kernel)) (hts (.initialized xIA) (by decide +kernel)) hsa20 (x_hat hts hXT (Or.inl rfl) (by decide +kernel) (by decide +kernel)) (by decide +kernel) hXT.2.2.2.1 hXT.2.2.2.2 hS (by rw [hml]; exact hl.1) dX9_markedJobOf_20 dX9_markedJobOf_23 dX9_markedJobOf_24 dX9_markedJobOf_27 dX9_markedJobOf_30 (fun x9 h9 => (hno x9 h9).elim) (Nat.le_of_ble_eq_true rfl) (Nat.le_of_ble_eq_true rfl) (Nat.le_of_ble_eq_true rfl) (Nat.le_of_ble_eq_true rfl) hlocks (x_thr (G' := G) (ws' := ws) rfl (Or.inl rfl) hP hD hT hS) hS.2.2 (Nat.le_of_ble_eq_true rfl) (Nat.le_of_ble_eq_true rfl)
      · first | exact absurd c10 (by decide) | exact absurd (by decide) c10
    · skip
      have hM_x2 : cIn ws x2 (.inr (2, [.ref b_x2, .ref s_x2, .int t_x2, .long x_x2, .long y_x2])) := hM_x2
      refine va_instNo hx hb hown (hts (.classLink RX9 112 RX5) (by decide +kernel)) hV.2.2.2.1.2.1 (t_recJ hK hP hM_x2 rfl) dX9_markedJobOf_7 ?_
      refine lv_if_eq (tgt := 20) hx hb dX9_markedJobOf_10 (by decide) (fun c10 => ?_) (fun c10 => ?_)
      · skip
        have d10 := c10
        rw [fa_eq] at d10
        obtain ⟨sa20, hsa20⟩ := hXT.2.2.1 (RX9, 302, "no such job, or it is not marked") (by decide)
        exact vx_throwSW (own := RX9) (cls := xIA) (names := [xRT, xEX]) (A := A) (ik := 223) (ic := 227) hx hb hst hown (by decide) (by decide) (hts (.classLink RX9 223 xIA) (by decide +kernel)) (hts (.initialized xIA) (by decide +kernel)) hsa20 (x_hat hts hXT (Or.inl rfl) (by decide +kernel) (by decide +kernel)) (by decide +kernel) hXT.2.2.2.1 hXT.2.2.2.2 hS (by rw [hml]; exact hl.1) dX9_markedJobOf_20 dX9_markedJobOf_23 dX9_markedJobOf_24 dX9_markedJobOf_27 dX9_markedJobOf_30 (fun x9 h9 => (hno x9 h9).elim) (Nat.le_of_ble_eq_true rfl) (Nat.le_of_ble_eq_true rfl) (Nat.le_of_ble_eq_true rfl) (Nat.le_of_ble_eq_true rfl) hlocks (x_thr (G' := G) (ws' := ws) rfl (Or.inl rfl) hP hD hT hS) hS.2.2 (Nat.le_of_ble_eq_true rfl) (Nat.le_of_ble_eq_true rfl)
      · first | exact absurd c10 (by decide) | exact absurd (by decide) c10
    · skip
      have hM_x2 : cIn ws x2 (.inr (3, [.ref b_x2, .ref s_x2, .int t_x2, .long x_x2, .long y_x2])) := hM_x2
      refine va_instNo hx hb hown (hts (.classLink RX9 112 RX5) (by decide +kernel)) hV.2.2.2.1.2.2 (t_recJ hK hP hM_x2 rfl) dX9_markedJobOf_7 ?_
      refine lv_if_eq (tgt := 20) hx hb dX9_markedJobOf_10 (by decide) (fun c10 => ?_) (fun c10 => ?_)
      · skip
        have d10 := c10
        rw [fa_eq] at d10
        obtain ⟨sa20, hsa20⟩ := hXT.2.2.1 (RX9, 302, "no such job, or it is not marked") (by decide)
        exact vx_throwSW (own := RX9) (cls := xIA) (names := [xRT, xEX]) (A := A) (ik := 223) (ic := 227) hx hb hst hown (by decide) (by decide) (hts (.classLink RX9 223 xIA) (by decide +kernel)) (hts (.initialized xIA) (by decide +kernel)) hsa20 (x_hat hts hXT (Or.inl rfl) (by decide +kernel) (by decide +kernel)) (by decide +kernel) hXT.2.2.2.1 hXT.2.2.2.2 hS (by rw [hml]; exact hl.1) dX9_markedJobOf_20 dX9_markedJobOf_23 dX9_markedJobOf_24 dX9_markedJobOf_27 dX9_markedJobOf_30 (fun x9 h9 => (hno x9 h9).elim) (Nat.le_of_ble_eq_true rfl) (Nat.le_of_ble_eq_true rfl) (Nat.le_of_ble_eq_true rfl) (Nat.le_of_ble_eq_true rfl) hlocks (x_thr (G' := G) (ws' := ws) rfl (Or.inl rfl) hP hD hT hS) hS.2.2 (Nat.le_of_ble_eq_true rfl) (Nat.le_of_ble_eq_true rfl)
      · first | exact absurd c10 (by decide) | exact absurd (by decide) c10
    · skip
      have hM_x2 : cIn ws x2 (.inr (4, [.ref b_x2, .ref s_x2, .int t_x2, .long x_x2, .long y_x2, .ref c9])) := hM_x2
      have hn36 := cb_mul (c_hb hT hG_b_x2)
      refine va_instS hx hb hown (hts (.classLink RX9 112 RX5) (by decide +kernel)) (hK.1 4 _ rfl).2 (t_recJ hK hP hM_x2 rfl) dX9_markedJobOf_7 ?_
      refine lv_if_eq (tgt := 20) hx hb dX9_markedJobOf_10 (by decide) (fun c10 => ?_) (fun c10 => ?_)
      · first | exact absurd c10 (by decide) | exact absurd (by decide) c10
      · skip
        have d10 := c10
        rw [fa_eq] at d10
        refine lv_aload_n hx hb dX9_markedJobOf_13 rfl (lv_at hl 0 rfl) ?_
        refine va_castS hx hb hown (hts (.classLink RX9 112 RX5) (by decide +kernel)) (hK.1 4 _ rfl).2 (t_recJ hK hP hM_x2 rfl) dX9_markedJobOf_14 ?_
        refine lv_astore_n (lv' := [(2, .ref x2), (3, .ref x2), (0, .ref o), (1, .int j)]) hx hb dX9_markedJobOf_17 rfl hl (by decide) rfl (fun ls hl => ?_)
        refine lv_aload_n hx hb dX9_markedJobOf_18 rfl (lv_at hl 0 rfl) ?_
        refine vx_ret ?_
        refine W.widen (k := 1) (n := 6) (Nat.le_of_ble_eq_true rfl) (Nat.le_of_ble_eq_true rfl) ?_
        exact W.aret (v := .ref x2) hx hb hr (Or.inl ⟨_, rfl⟩) (Or.inr ⟨_, rfl⟩) (fun t ht hW => ⟨⟨(some x2), (G, ws), rfl, ⟨rfl, ⟨_, _, rfl, hG_x2⟩⟩, by show va_P D vwCl ws t.heap; rw [ht]; exact hP, hD, hT⟩, hS.F ht⟩) hS.2.2 dX9_markedJobOf_19
set_option maxHeartbeats 4000000 in
set_option maxRecDepth 100000 in
theorem c_X9_worthiest (l : Launch) (hst : l.stackTraces = false) (D : va_G) (cy : Nat → ClassId) (A : Nat → Prop) (G : cG) (ws : va_W) (o : Nat) (x1 : Nat) {n1 : Nat} (hD : va_D A ws) (hT : cT cy G ws) (hG_o : G o = some (7, 0, 0)) (hG_x1 : G x1 = some (3, 4, n1))  : Xl l D cy A yX9_worthiest wsX9_worthiest ({ frames := 6, cells := 1, slots := 6, locals := 144 }) 1 6 ws [.ref o, .ref x1] (fun r0 u => cX none (chs [1, 5, 20, 21, 22, 23]) G ws u.1 u.2 ∧ (True)) (fun u => cX none (chs [1, 5, 20, 21, 22, 23]) G ws u.1 u.2) (fun E => E = xIA ∨ E = xIS) := by
  refine vx_ofW (cc := cX9_worthiest) (maxL := 7) (ret := (some .long)) (by decide) rfl ?_
  intro p e s m args below meth c s₁ B hml hno hv
  obtain ⟨rfl, ⟨hP, hK, hA, hV⟩, hZ, hXT⟩ := hv
  have hx := B.exec
  have hb := B.bytes
  have hr := B.returns
  have hts := atoms_spec (ws := wsX9_worthiest) B.pre
  have hown : s.vm.findClass RX9 = some m.cls := findClass_of_methodNamed B.named
  have hlocks := B.notSynchronized
  have hS : va_S A s.heap s.heap [] := va_S.rf
  have hX : cX none (chs [1, 5, 20, 21, 22, 23]) G ws G ws := cX.rf
  have hl := lv_entry ([.ref o, .ref x1]) (n := 7) (Nat.le_of_ble_eq_true rfl)
  rw [lg_entry_eq]
  generalize (lg_sl ([.ref o, .ref x1]) ++ List.replicate (7 - (lg_sl ([.ref o, .ref x1])).length) Slot.unset).toArray = ls at hl ⊢
  have hl : lv_has ls 7 [(0, .ref o), (1, .ref x1)] := hl
  have k_0 : (0 : Int32).toInt = 0 := by decide
  have k_1000000 : (1000000 : Int32).toInt = 1000000 := by decide
  have k_0L : (0 : Int64).toInt = 0 := by decide
  refine lv_aload_n hx hb dX9_worthiest_0 rfl (lv_at hl 0 rfl) ?_
  obtain ⟨_, hM_o, bs_o, js_o, sh_o, wk_o, ll_o, jc_o, lc_o, mo_o, lb_o, rfl, hjc_o, hlc_o, hG_bs_o, hG_js_o, hG_sh_o, hG_wk_o, hmo_o, hG_ll_o, hlb_o⟩ := hT _ _ hG_o
  refine t_get (v := .ref wk_o) (C := RX9) (T := TX9) (N := 9) hx hb hts (by decide +kernel) hown hK hP hM_o rfl 4 (by decide) (hts (.fieldLink RX9 34 "ShadowBench" "walk" "LShadowBench$Walk;") (by decide +kernel)) (fun _ h9 => h9) rfl dX9_worthiest_1 ?_
  refine lv_aload_n hx hb dX9_worthiest_4 rfl (lv_at hl 1 rfl) ?_
  obtain ⟨_, hM_wk_o, j_wk_o, y_wk_o, tr_wk_o, sp_wk_o, fd_wk_o, a1_wk_o, a2_wk_o, a3_wk_o, a4_wk_o, a5_wk_o, rfl, hsp_wk_o, hj_wk_o, hG_a1_wk_o, hG_a2_wk_o, hG_a3_wk_o, hG_a4_wk_o, hG_a5_wk_o⟩ := hT _ _ hG_wk_o
  refine t_callv (va_runV (g := F0 m 5 ls ([.ref x1, .ref wk_o])) (As := [.ref x1]) (rest := []) ⟨hx, hb, hml, hown, hts⟩ (c_X8_start l D cy A G ws wk_o x1 hD hT hG_wk_o hG_x1 ) (cwV 1 hts gX9_worthiest_X8_start rfl rfl rfl (by decide +kernel) ⟨Nat.le_of_ble_eq_true rfl, Nat.le_of_ble_eq_true rfl⟩) (c_preV hM_wk_o rfl hP hK hA hS hV) rfl rfl hl.1 rfl (lv_room (Nat.le_of_ble_eq_true rfl)) dX9_worthiest_5 ⟨Nat.le_of_ble_eq_true rfl, Nat.le_of_ble_eq_true rfl⟩) hS (fun u H locs q5 hP9 hD9 hT9 hS => ?_)
  obtain ⟨G5, w5⟩ := u
  obtain ⟨hX9, q5⟩ := q5
  have hX9 : cX none (chs [1, 5, 20, 21, 22, 23]) G ws G5 w5 := hX9
  have hP : va_P D vwCl w5 H := hP9
  have hD : va_D A w5 := hD9
  have hT : cT cy G5 w5 := hT9
  have hM_o := hX9.2.1 _ _ (cP.no hG_o rfl) hM_o
  have hG_o := hX9.1 _ _ hG_o
  have hG_x1 := hX9.1 _ _ hG_x1
  have hG_bs_o := hX9.1 _ _ hG_bs_o
  have hG_js_o := hX9.1 _ _ hG_js_o
  have hG_sh_o := hX9.1 _ _ hG_sh_o
  have hG_wk_o := hX9.1 _ _ hG_wk_o
  have hG_ll_o := hX9.1 _ _ hG_ll_o
  have hG_a1_wk_o := hX9.1 _ _ hG_a1_wk_o
  have hG_a2_wk_o := hX9.1 _ _ hG_a2_wk_o
  have hG_a3_wk_o := hX9.1 _ _ hG_a3_wk_o
  have hG_a4_wk_o := hX9.1 _ _ hG_a4_wk_o
  have hG_a5_wk_o := hX9.1 _ _ hG_a5_wk_o
  have hX := hX.tr hX9
  refine lv_iconst (v := 0) hx hb dX9_worthiest_8 (by decide) ?_
  refine lv_istore_n (lv' := [(2, .int (0 : Int32)), (0, .ref o), (1, .ref x1)]) hx hb dX9_worthiest_9 rfl hl (by decide) rfl (fun ls hl => ?_)
  refine lv_iconst (v := 0) hx hb dX9_worthiest_10 (by decide) ?_
  refine lv_istore_n (lv' := [(3, .int (0 : Int32)), (2, .int (0 : Int32)), (0, .ref o), (1, .ref x1)]) hx hb dX9_worthiest_11 rfl hl (by decide) rfl (fun ls hl => ?_)
  refine lv_lconst (v := 0) hx hb dX9_worthiest_12 (by decide) ?_
  refine lv_lstore (lv' := [(4, .long (0 : Int64)), (3, .int (0 : Int32)), (2, .int (0 : Int32)), (0, .ref o), (1, .ref x1)]) hx hb dX9_worthiest_13 hl (by decide) rfl (fun ls hl => ?_)
  have loop_15 : ∀ (n : Nat) (x4 : Int64) (x3 : Int32) (i : Nat), (i ≤ 1000000) → 1000000 - i < n → ∀ (Gl15 : cG) (wl15 : va_W), cE G5 Gl15 → cX none (chs [1, 5, 20, 21, 22, 23]) G ws Gl15 wl15 → va_D A wl15 → cT cy Gl15 wl15 → ∀ (H : Heap) (locs : List Loc), va_P D vwCl wl15 H → va_S A s.heap H locs → ∀ (ls : Array Slot), lv_has ls 7 [(4, .long x4), (3, .int x3), (2, .int (nI i)), (0, .ref o), (1, .ref x1)] → W p l e (headSpec wsX9_worthiest ({ frames := 6, cells := 1, slots := 6, locals := 144 })).room s m #[Value.ref o, Value.ref x1] below meth c H locs 0 0 (vx_MQ below (va_Ql (fun r0 u => cX none (chs [1, 5, 20, 21, 22, 23]) G ws u.1 u.2 ∧ (True)) (cB D cy A) A) (xX D cy A (fun u => cX none (chs [1, 5, 20, 21, 22, 23]) G ws u.1 u.2) (fun E => E = xIA ∨ E = xIS)) #[Value.ref o, Value.ref x1] s 1 6 A) (F0 m 15 ls []) := by
    intro n
    induction n with
    | zero => intro x4 x3 i j15_0 hn; exact absurd hn (Nat.not_lt_zero _)
    | succ n ih_15 =>
      intro x4 x3 i j15_0 hn_15 Gl15 wl15 hEl15 hX hD hT H locs hP hS  ls hl
      have hG_o := hEl15 _ _ hG_o
      have hG_x1 := hEl15 _ _ hG_x1
      have hG_bs_o := hEl15 _ _ hG_bs_o
      have hG_js_o := hEl15 _ _ hG_js_o
      have hG_sh_o := hEl15 _ _ hG_sh_o
      have hG_wk_o := hEl15 _ _ hG_wk_o
      have hG_ll_o := hEl15 _ _ hG_ll_o
      have hG_a1_wk_o := hEl15 _ _ hG_a1_wk_o
      have hG_a2_wk_o := hEl15 _ _ hG_a2_wk_o
      have hG_a3_wk_o := hEl15 _ _ hG_a3_wk_o
      have hG_a4_wk_o := hEl15 _ _ hG_a4_wk_o
      have hG_a5_wk_o := hEl15 _ _ hG_a5_wk_o
      have ik_i : (nI i).toInt = (i : Int) := nI_toInt (by omega)
      refine lv_iload_n hx hb dX9_worthiest_15 rfl (lv_at hl 2 rfl) ?_
      refine lv_ldc hx hb hown (hts (.constant RX9 135 (1000000)) (by decide +kernel)) dX9_worthiest_16 ?_
      refine lv_icmp_ge (tgt := 72) hx hb dX9_worthiest_18 (by decide) (fun c18 => ?_) (fun c18 => ?_)
      · skip
        have d18 := c18
        rw [fa_le] at d18
        refine lv_iload_n hx hb dX9_worthiest_72 rfl (lv_at hl 2 rfl) ?_
        refine lv_if_eq (tgt := 86) hx hb dX9_worthiest_73 (by decide) (fun c73 => ?_) (fun c73 => ?_)
        · skip
          have d73 := c73
          rw [fa_eq] at d73
          obtain ⟨sa86, hsa86⟩ := hXT.2.2.1 (RX9, 304, "none fits, or the walk is spent") (by decide)
          exact vx_throwSW (own := RX9) (cls := xIS) (names := [xRT, xEX]) (A := A) (ik := 259) (ic := 263) hx hb hst hown (by decide) (by decide) (hts (.classLink RX9 259 xIS) (by decide +kernel)) (hts (.initialized xIS) (by decide +kernel)) hsa86 (x_hat hts hXT (Or.inr (Or.inl rfl)) (by decide +kernel) (by decide +kernel)) (by decide +kernel) hXT.2.2.2.1 hXT.2.2.2.2 hS (by rw [hml]; exact hl.1) dX9_worthiest_86 dX9_worthiest_89 dX9_worthiest_90 dX9_worthiest_93 dX9_worthiest_96 (fun x9 h9 => (hno x9 h9).elim) (Nat.le_of_ble_eq_true rfl) (Nat.le_of_ble_eq_true rfl) (Nat.le_of_ble_eq_true rfl) (Nat.le_of_ble_eq_true rfl) hlocks (x_thr (G' := Gl15) (ws' := wl15) hX (Or.inr (rfl)) hP hD hT hS) hS.2.2 (Nat.le_of_ble_eq_true rfl) (Nat.le_of_ble_eq_true rfl)
        · skip
          have d73 := c73
          rw [fa_eq] at d73
          refine lv_aload_n hx hb dX9_worthiest_76 rfl (lv_at hl 3 rfl) ?_
          obtain ⟨_, hM_o, bsv1_o, jsv1_o, shv1_o, wkv1_o, llv1_o, jcv1_o, lcv1_o, mov1_o, lbv1_o, rfl, hjc_o, hlc_o, hG_bsv1_o, hG_jsv1_o, hG_shv1_o, hG_wkv1_o, hmo_o, hG_llv1_o, hlb_o⟩ := hT _ _ hG_o
          refine t_get (v := .ref wkv1_o) (C := RX9) (T := TX9) (N := 9) hx hb hts (by decide +kernel) hown hK hP hM_o rfl 4 (by decide) (hts (.fieldLink RX9 34 "ShadowBench" "walk" "LShadowBench$Walk;") (by decide +kernel)) (fun _ h9 => h9) rfl dX9_worthiest_77 ?_
          obtain ⟨_, hM_wkv1_o, j_wkv1_o, y_wkv1_o, tr_wkv1_o, sp_wkv1_o, fd_wkv1_o, a1_wkv1_o, a2_wkv1_o, a3_wkv1_o, a4_wkv1_o, a5_wkv1_o, rfl, hsp_wkv1_o, hj_wkv1_o, hG_a1_wkv1_o, hG_a2_wkv1_o, hG_a3_wkv1_o, hG_a4_wkv1_o, hG_a5_wkv1_o⟩ := hT _ _ hG_wkv1_o
          refine t_calli (va_runV (g := F0 m 80 ls ([.ref wkv1_o])) (As := []) (rest := []) ⟨hx, hb, hml, hown, hts⟩ (c_X8_isSpent l D cy A Gl15 wl15 wkv1_o hD hT hG_wkv1_o ) (cwV 0 hts gX9_worthiest_X8_isSpent rfl rfl rfl (by decide +kernel) ⟨Nat.le_of_ble_eq_true rfl, Nat.le_of_ble_eq_true rfl⟩) (c_preV hM_wkv1_o rfl hP hK hA hS hV) rfl rfl hl.1 rfl (lv_room (Nat.le_of_ble_eq_true rfl)) dX9_worthiest_80 ⟨Nat.le_of_ble_eq_true rfl, Nat.le_of_ble_eq_true rfl⟩) hS (fun r80 u H locs q80 hP9 hD9 hT9 hS => ?_)
          obtain ⟨rfl, q80⟩ := q80
          have hP : va_P D vwCl wl15 H := hP9
          refine lv_if_eq (tgt := 97) hx hb dX9_worthiest_83 (by decide) (fun c83 => ?_) (fun c83 => ?_)
          · skip
            have d83 := c83
            rw [fa_eq] at d83
            refine lv_lload hx hb dX9_worthiest_97 (lv_at hl 0 rfl) ?_
            refine vx_ret ?_
            refine W.widen (k := 1) (n := 6) (Nat.le_of_ble_eq_true rfl) (Nat.le_of_ble_eq_true rfl) ?_
            exact W.lret (v := x4) hx hb hr (fun t ht hW => ⟨⟨_, (Gl15, wl15), rfl, ⟨hX, trivial⟩, by show va_P D vwCl wl15 t.heap; rw [ht]; exact hP, hD, hT⟩, hS.F ht⟩) hS.2.2 dX9_worthiest_99
          · skip
            have d83 := c83
            rw [fa_eq] at d83
            obtain ⟨sa86, hsa86⟩ := hXT.2.2.1 (RX9, 304, "none fits, or the walk is spent") (by decide)
            exact vx_throwSW (own := RX9) (cls := xIS) (names := [xRT, xEX]) (A := A) (ik := 259) (ic := 263) hx hb hst hown (by decide) (by decide) (hts (.classLink RX9 259 xIS) (by decide +kernel)) (hts (.initialized xIS) (by decide +kernel)) hsa86 (x_hat hts hXT (Or.inr (Or.inl rfl)) (by decide +kernel) (by decide +kernel)) (by decide +kernel) hXT.2.2.2.1 hXT.2.2.2.2 hS (by rw [hml]; exact hl.1) dX9_worthiest_86 dX9_worthiest_89 dX9_worthiest_90 dX9_worthiest_93 dX9_worthiest_96 (fun x9 h9 => (hno x9 h9).elim) (Nat.le_of_ble_eq_true rfl) (Nat.le_of_ble_eq_true rfl) (Nat.le_of_ble_eq_true rfl) (Nat.le_of_ble_eq_true rfl) hlocks (x_thr (G' := Gl15) (ws' := wl15) hX (Or.inr (rfl)) hP hD hT hS) hS.2.2 (Nat.le_of_ble_eq_true rfl) (Nat.le_of_ble_eq_true rfl)
      · skip
        have d18 := c18
        rw [fa_le] at d18
        refine lv_aload_n hx hb dX9_worthiest_21 rfl (lv_at hl 3 rfl) ?_
        obtain ⟨_, hM_o, bsv1_o, jsv1_o, shv1_o, wkv1_o, llv1_o, jcv1_o, lcv1_o, mov1_o, lbv1_o, rfl, hjc_o, hlc_o, hG_bsv1_o, hG_jsv1_o, hG_shv1_o, hG_wkv1_o, hmo_o, hG_llv1_o, hlb_o⟩ := hT _ _ hG_o
        refine t_get (v := .ref wkv1_o) (C := RX9) (T := TX9) (N := 9) hx hb hts (by decide +kernel) hown hK hP hM_o rfl 4 (by decide) (hts (.fieldLink RX9 34 "ShadowBench" "walk" "LShadowBench$Walk;") (by decide +kernel)) (fun _ h9 => h9) rfl dX9_worthiest_22 ?_
        obtain ⟨_, hM_wkv1_o, j_wkv1_o, y_wkv1_o, tr_wkv1_o, sp_wkv1_o, fd_wkv1_o, a1_wkv1_o, a2_wkv1_o, a3_wkv1_o, a4_wkv1_o, a5_wkv1_o, rfl, hsp_wkv1_o, hj_wkv1_o, hG_a1_wkv1_o, hG_a2_wkv1_o, hG_a3_wkv1_o, hG_a4_wkv1_o, hG_a5_wkv1_o⟩ := hT _ _ hG_wkv1_o
        refine t_calli (va_runV (g := F0 m 25 ls ([.ref wkv1_o])) (As := []) (rest := []) ⟨hx, hb, hml, hown, hts⟩ (c_X8_advance l D cy A Gl15 wl15 wkv1_o hD hT hG_wkv1_o ) (cwV 0 hts gX9_worthiest_X8_advance rfl rfl rfl (by decide +kernel) ⟨Nat.le_of_ble_eq_true rfl, Nat.le_of_ble_eq_true rfl⟩) (c_preV hM_wkv1_o rfl hP hK hA hS hV) rfl rfl hl.1 rfl (lv_room (Nat.le_of_ble_eq_true rfl)) dX9_worthiest_25 ⟨Nat.le_of_ble_eq_true rfl, Nat.le_of_ble_eq_true rfl⟩) hS (fun r25 u H locs q25 hP9 hD9 hT9 hS => ?_)
        obtain ⟨G25, w25⟩ := u
        obtain ⟨hX9, q25⟩ := q25
        have hX9 : cX none (chs [1, 5, 20, 21, 22, 23]) Gl15 wl15 G25 w25 := hX9
        have hP : va_P D vwCl w25 H := hP9
        have hD : va_D A w25 := hD9
        have hT : cT cy G25 w25 := hT9
        have hM_o := hX9.2.1 _ _ (cP.no hG_o rfl) hM_o
        have hG_o := hX9.1 _ _ hG_o
        have hG_x1 := hX9.1 _ _ hG_x1
        have hG_bs_o := hX9.1 _ _ hG_bs_o
        have hG_js_o := hX9.1 _ _ hG_js_o
        have hG_sh_o := hX9.1 _ _ hG_sh_o
        have hG_wk_o := hX9.1 _ _ hG_wk_o
        have hG_ll_o := hX9.1 _ _ hG_ll_o
        have hG_a1_wk_o := hX9.1 _ _ hG_a1_wk_o
        have hG_a2_wk_o := hX9.1 _ _ hG_a2_wk_o
        have hG_a3_wk_o := hX9.1 _ _ hG_a3_wk_o
        have hG_a4_wk_o := hX9.1 _ _ hG_a4_wk_o
        have hG_a5_wk_o := hX9.1 _ _ hG_a5_wk_o
        have hG_bsv1_o := hX9.1 _ _ hG_bsv1_o
        have hG_jsv1_o := hX9.1 _ _ hG_jsv1_o
        have hG_shv1_o := hX9.1 _ _ hG_shv1_o
        have hG_wkv1_o := hX9.1 _ _ hG_wkv1_o
        have hG_llv1_o := hX9.1 _ _ hG_llv1_o
        have hG_a1_wkv1_o := hX9.1 _ _ hG_a1_wkv1_o
        have hG_a2_wkv1_o := hX9.1 _ _ hG_a2_wkv1_o
        have hG_a3_wkv1_o := hX9.1 _ _ hG_a3_wkv1_o
        have hG_a4_wkv1_o := hX9.1 _ _ hG_a4_wkv1_o
        have hG_a5_wkv1_o := hX9.1 _ _ hG_a5_wkv1_o
        have hEl15 := hEl15.tr hX9.1
        have hX := hX.tr hX9
        refine lv_if_eq (tgt := 72) hx hb dX9_worthiest_28 (by decide) (fun c28 => ?_) (fun c28 => ?_)
        · skip
          have d28 := c28
          rw [fa_eq] at d28
          refine lv_iload_n hx hb dX9_worthiest_72 rfl (lv_at hl 2 rfl) ?_
          refine lv_if_eq (tgt := 86) hx hb dX9_worthiest_73 (by decide) (fun c73 => ?_) (fun c73 => ?_)
          · skip
            have d73 := c73
            rw [fa_eq] at d73
            obtain ⟨sa86, hsa86⟩ := hXT.2.2.1 (RX9, 304, "none fits, or the walk is spent") (by decide)
            exact vx_throwSW (own := RX9) (cls := xIS) (names := [xRT, xEX]) (A := A) (ik := 259) (ic := 263) hx hb hst hown (by decide) (by decide) (hts (.classLink RX9 259 xIS) (by decide +kernel)) (hts (.initialized xIS) (by decide +kernel)) hsa86 (x_hat hts hXT (Or.inr (Or.inl rfl)) (by decide +kernel) (by decide +kernel)) (by decide +kernel) hXT.2.2.2.1 hXT.2.2.2.2 hS (by rw [hml]; exact hl.1) dX9_worthiest_86 dX9_worthiest_89 dX9_worthiest_90 dX9_worthiest_93 dX9_worthiest_96 (fun x9 h9 => (hno x9 h9).elim) (Nat.le_of_ble_eq_true rfl) (Nat.le_of_ble_eq_true rfl) (Nat.le_of_ble_eq_true rfl) (Nat.le_of_ble_eq_true rfl) hlocks (x_thr (G' := G25) (ws' := w25) hX (Or.inr (rfl)) hP hD hT hS) hS.2.2 (Nat.le_of_ble_eq_true rfl) (Nat.le_of_ble_eq_true rfl)
          · skip
            have d73 := c73
            rw [fa_eq] at d73
            refine lv_aload_n hx hb dX9_worthiest_76 rfl (lv_at hl 3 rfl) ?_
            refine t_get (v := .ref wkv1_o) (C := RX9) (T := TX9) (N := 9) hx hb hts (by decide +kernel) hown hK hP hM_o rfl 4 (by decide) (hts (.fieldLink RX9 34 "ShadowBench" "walk" "LShadowBench$Walk;") (by decide +kernel)) (fun _ h9 => h9) rfl dX9_worthiest_77 ?_
            obtain ⟨_, hM_wkv1_o, jv1_wkv1_o, yv1_wkv1_o, trv1_wkv1_o, spv1_wkv1_o, fdv1_wkv1_o, a1v1_wkv1_o, a2v1_wkv1_o, a3v1_wkv1_o, a4v1_wkv1_o, a5v1_wkv1_o, rfl, hsp_wkv1_o, hj_wkv1_o, hG_a1v1_wkv1_o, hG_a2v1_wkv1_o, hG_a3v1_wkv1_o, hG_a4v1_wkv1_o, hG_a5v1_wkv1_o⟩ := hT _ _ hG_wkv1_o
            refine t_calli (va_runV (g := F0 m 80 ls ([.ref wkv1_o])) (As := []) (rest := []) ⟨hx, hb, hml, hown, hts⟩ (c_X8_isSpent l D cy A G25 w25 wkv1_o hD hT hG_wkv1_o ) (cwV 0 hts gX9_worthiest_X8_isSpent rfl rfl rfl (by decide +kernel) ⟨Nat.le_of_ble_eq_true rfl, Nat.le_of_ble_eq_true rfl⟩) (c_preV hM_wkv1_o rfl hP hK hA hS hV) rfl rfl hl.1 rfl (lv_room (Nat.le_of_ble_eq_true rfl)) dX9_worthiest_80 ⟨Nat.le_of_ble_eq_true rfl, Nat.le_of_ble_eq_true rfl⟩) hS (fun r80 u H locs q80 hP9 hD9 hT9 hS => ?_)
            obtain ⟨rfl, q80⟩ := q80
            have hP : va_P D vwCl w25 H := hP9
            refine lv_if_eq (tgt := 97) hx hb dX9_worthiest_83 (by decide) (fun c83 => ?_) (fun c83 => ?_)
            · skip
              have d83 := c83
              rw [fa_eq] at d83
              refine lv_lload hx hb dX9_worthiest_97 (lv_at hl 0 rfl) ?_
              refine vx_ret ?_
              refine W.widen (k := 1) (n := 6) (Nat.le_of_ble_eq_true rfl) (Nat.le_of_ble_eq_true rfl) ?_
              exact W.lret (v := x4) hx hb hr (fun t ht hW => ⟨⟨_, (G25, w25), rfl, ⟨hX, trivial⟩, by show va_P D vwCl w25 t.heap; rw [ht]; exact hP, hD, hT⟩, hS.F ht⟩) hS.2.2 dX9_worthiest_99
            · skip
              have d83 := c83
              rw [fa_eq] at d83
              obtain ⟨sa86, hsa86⟩ := hXT.2.2.1 (RX9, 304, "none fits, or the walk is spent") (by decide)
              exact vx_throwSW (own := RX9) (cls := xIS) (names := [xRT, xEX]) (A := A) (ik := 259) (ic := 263) hx hb hst hown (by decide) (by decide) (hts (.classLink RX9 259 xIS) (by decide +kernel)) (hts (.initialized xIS) (by decide +kernel)) hsa86 (x_hat hts hXT (Or.inr (Or.inl rfl)) (by decide +kernel) (by decide +kernel)) (by decide +kernel) hXT.2.2.2.1 hXT.2.2.2.2 hS (by rw [hml]; exact hl.1) dX9_worthiest_86 dX9_worthiest_89 dX9_worthiest_90 dX9_worthiest_93 dX9_worthiest_96 (fun x9 h9 => (hno x9 h9).elim) (Nat.le_of_ble_eq_true rfl) (Nat.le_of_ble_eq_true rfl) (Nat.le_of_ble_eq_true rfl) (Nat.le_of_ble_eq_true rfl) hlocks (x_thr (G' := G25) (ws' := w25) hX (Or.inr (rfl)) hP hD hT hS) hS.2.2 (Nat.le_of_ble_eq_true rfl) (Nat.le_of_ble_eq_true rfl)
        · skip
          have d28 := c28
          rw [fa_eq] at d28
          refine lv_aload_n hx hb dX9_worthiest_31 rfl (lv_at hl 4 rfl) ?_
          refine lv_aload_n hx hb dX9_worthiest_32 rfl (lv_at hl 3 rfl) ?_
          refine t_get (v := .ref wkv1_o) (C := RX9) (T := TX9) (N := 9) hx hb hts (by decide +kernel) hown hK hP hM_o rfl 4 (by decide) (hts (.fieldLink RX9 34 "ShadowBench" "walk" "LShadowBench$Walk;") (by decide +kernel)) (fun _ h9 => h9) rfl dX9_worthiest_33 ?_
          obtain ⟨_, hM_wkv1_o, jv1_wkv1_o, yv1_wkv1_o, trv1_wkv1_o, spv1_wkv1_o, fdv1_wkv1_o, a1v1_wkv1_o, a2v1_wkv1_o, a3v1_wkv1_o, a4v1_wkv1_o, a5v1_wkv1_o, rfl, hsp_wkv1_o, hj_wkv1_o, hG_a1v1_wkv1_o, hG_a2v1_wkv1_o, hG_a3v1_wkv1_o, hG_a4v1_wkv1_o, hG_a5v1_wkv1_o⟩ := hT _ _ hG_wkv1_o
          refine t_calll (va_runV (g := F0 m 36 ls ([.ref wkv1_o, .ref x1])) (As := []) (rest := [.ref x1]) ⟨hx, hb, hml, hown, hts⟩ (c_X8_found l D cy A G25 w25 wkv1_o hD hT hG_wkv1_o ) (cwV 0 hts gX9_worthiest_X8_found rfl rfl rfl (by decide +kernel) ⟨Nat.le_of_ble_eq_true rfl, Nat.le_of_ble_eq_true rfl⟩) (c_preV hM_wkv1_o rfl hP hK hA hS hV) rfl rfl hl.1 rfl (lv_room (Nat.le_of_ble_eq_true rfl)) dX9_worthiest_36 ⟨Nat.le_of_ble_eq_true rfl, Nat.le_of_ble_eq_true rfl⟩) hS (fun r36 u H locs q36 hP9 hD9 hT9 hS => ?_)
          obtain ⟨rfl, q36⟩ := q36
          have hP : va_P D vwCl w25 H := hP9
          obtain ⟨_, hM_x1, b_x1, s_x1, w_x1, h_x1, t_x1, x_x1, y_x1, ms_x1, rfl, hG_b_x1, hG_s_x1, hJ_x1⟩ := hT _ _ hG_x1
          obtain ⟨hn_x1, c_x1, rfl, hG_c_x1⟩ := cJ4 hJ_x1
          have hn36_x1 := cb_mul (c_hb hT hG_b_x1)
          refine t_calli (va_runV (g := F0 m 39 ls ([.long r36, .ref x1])) (As := [.long r36]) (rest := []) ⟨hx, hb, hml, hown, hts⟩ (c_X5_worthOf l D cy A G25 w25 x1 r36 hD hT hG_x1 ) (cwV 1 hts gX9_worthiest_X5_worthOf rfl rfl rfl (by decide +kernel) ⟨Nat.le_of_ble_eq_true rfl, Nat.le_of_ble_eq_true rfl⟩) (c_preV hM_x1 rfl hP hK hA hS hV) rfl rfl hl.1 rfl (lv_room (Nat.le_of_ble_eq_true rfl)) dX9_worthiest_39 ⟨Nat.le_of_ble_eq_true rfl, Nat.le_of_ble_eq_true rfl⟩) hS (fun r39 u H locs q39 hP9 hD9 hT9 hS => ?_)
          obtain ⟨rfl, q39⟩ := q39
          have hP : va_P D vwCl w25 H := hP9
          refine lv_istore (lv' := [(6, .int r39), (4, .long x4), (3, .int x3), (2, .int (nI i)), (0, .ref o), (1, .ref x1)]) hx hb dX9_worthiest_42 hl (by decide) rfl (fun ls hl => ?_)
          refine lv_iload_n hx hb dX9_worthiest_44 rfl (lv_at hl 3 rfl) ?_
          refine lv_if_eq (tgt := 54) hx hb dX9_worthiest_45 (by decide) (fun c45 => ?_) (fun c45 => ?_)
          · skip
            have d45 := c45
            rw [fa_eq] at d45
            refine lv_iload hx hb dX9_worthiest_54 (lv_at hl 0 rfl) ?_
            refine lv_istore_n (lv' := [(3, .int r39), (6, .int r39), (4, .long x4), (2, .int (nI i)), (0, .ref o), (1, .ref x1)]) hx hb dX9_worthiest_56 rfl hl (by decide) rfl (fun ls hl => ?_)
            refine lv_aload_n hx hb dX9_worthiest_57 rfl (lv_at hl 4 rfl) ?_
            refine t_get (v := .ref wkv1_o) (C := RX9) (T := TX9) (N := 9) hx hb hts (by decide +kernel) hown hK hP hM_o rfl 4 (by decide) (hts (.fieldLink RX9 34 "ShadowBench" "walk" "LShadowBench$Walk;") (by decide +kernel)) (fun _ h9 => h9) rfl dX9_worthiest_58 ?_
            refine t_calll (va_runV (g := F0 m 61 ls ([.ref wkv1_o])) (As := []) (rest := []) ⟨hx, hb, hml, hown, hts⟩ (c_X8_found l D cy A G25 w25 wkv1_o hD hT hG_wkv1_o ) (cwV 0 hts gX9_worthiest_X8_found rfl rfl rfl (by decide +kernel) ⟨Nat.le_of_ble_eq_true rfl, Nat.le_of_ble_eq_true rfl⟩) (c_preV hM_wkv1_o rfl hP hK hA hS hV) rfl rfl hl.1 rfl (lv_room (Nat.le_of_ble_eq_true rfl)) dX9_worthiest_61 ⟨Nat.le_of_ble_eq_true rfl, Nat.le_of_ble_eq_true rfl⟩) hS (fun r61 u H locs q61 hP9 hD9 hT9 hS => ?_)
            obtain ⟨rfl, q61⟩ := q61
            have hP : va_P D vwCl w25 H := hP9
            refine lv_lstore (lv' := [(4, .long r61), (3, .int r39), (6, .int r39), (2, .int (nI i)), (0, .ref o), (1, .ref x1)]) hx hb dX9_worthiest_64 hl (by decide) rfl (fun ls hl => ?_)
            refine lv_iinc (v := (nI (i + 1))) (lv' := [(2, .int (nI (i + 1))), (4, .long r61), (3, .int r39), (6, .int r39), (0, .ref o), (1, .ref x1)]) hx hb dX9_worthiest_66 hl (k := 3) rfl (nI_1 _) (by decide) rfl (fun ls hl => ?_)
            refine lv_goto (tgt := 15) hx hb dX9_worthiest_69 (by decide) ?_
            exact ih_15 r61 r39 (i + 1) (by omega) (by omega) G25 w25 hEl15 hX hD hT _ _ hP hS  ls (lv_sub hl [1, 2, 0, 4, 5] rfl)
          · skip
            have d45 := c45
            rw [fa_eq] at d45
            refine lv_iload hx hb dX9_worthiest_48 (lv_at hl 0 rfl) ?_
            refine lv_iload_n hx hb dX9_worthiest_50 rfl (lv_at hl 2 rfl) ?_
            refine lv_icmp_le (tgt := 66) hx hb dX9_worthiest_51 (by decide) (fun c51 => ?_) (fun c51 => ?_)
            · skip
              have d51 := c51
              rw [fa_le] at d51
              refine lv_iinc (v := (nI (i + 1))) (lv' := [(2, .int (nI (i + 1))), (6, .int r39), (4, .long x4), (3, .int x3), (0, .ref o), (1, .ref x1)]) hx hb dX9_worthiest_66 hl (k := 3) rfl (nI_1 _) (by decide) rfl (fun ls hl => ?_)
              refine lv_goto (tgt := 15) hx hb dX9_worthiest_69 (by decide) ?_
              exact ih_15 x4 x3 (i + 1) (by omega) (by omega) G25 w25 hEl15 hX hD hT _ _ hP hS  ls (lv_sub hl [2, 3, 0, 4, 5] rfl)
            · skip
              have d51 := c51
              rw [fa_le] at d51
              refine lv_iload hx hb dX9_worthiest_54 (lv_at hl 0 rfl) ?_
              refine lv_istore_n (lv' := [(3, .int r39), (6, .int r39), (4, .long x4), (2, .int (nI i)), (0, .ref o), (1, .ref x1)]) hx hb dX9_worthiest_56 rfl hl (by decide) rfl (fun ls hl => ?_)
              refine lv_aload_n hx hb dX9_worthiest_57 rfl (lv_at hl 4 rfl) ?_
              refine t_get (v := .ref wkv1_o) (C := RX9) (T := TX9) (N := 9) hx hb hts (by decide +kernel) hown hK hP hM_o rfl 4 (by decide) (hts (.fieldLink RX9 34 "ShadowBench" "walk" "LShadowBench$Walk;") (by decide +kernel)) (fun _ h9 => h9) rfl dX9_worthiest_58 ?_
              refine t_calll (va_runV (g := F0 m 61 ls ([.ref wkv1_o])) (As := []) (rest := []) ⟨hx, hb, hml, hown, hts⟩ (c_X8_found l D cy A G25 w25 wkv1_o hD hT hG_wkv1_o ) (cwV 0 hts gX9_worthiest_X8_found rfl rfl rfl (by decide +kernel) ⟨Nat.le_of_ble_eq_true rfl, Nat.le_of_ble_eq_true rfl⟩) (c_preV hM_wkv1_o rfl hP hK hA hS hV) rfl rfl hl.1 rfl (lv_room (Nat.le_of_ble_eq_true rfl)) dX9_worthiest_61 ⟨Nat.le_of_ble_eq_true rfl, Nat.le_of_ble_eq_true rfl⟩) hS (fun r61 u H locs q61 hP9 hD9 hT9 hS => ?_)
              obtain ⟨rfl, q61⟩ := q61
              have hP : va_P D vwCl w25 H := hP9
              refine lv_lstore (lv' := [(4, .long r61), (3, .int r39), (6, .int r39), (2, .int (nI i)), (0, .ref o), (1, .ref x1)]) hx hb dX9_worthiest_64 hl (by decide) rfl (fun ls hl => ?_)
              refine lv_iinc (v := (nI (i + 1))) (lv' := [(2, .int (nI (i + 1))), (4, .long r61), (3, .int r39), (6, .int r39), (0, .ref o), (1, .ref x1)]) hx hb dX9_worthiest_66 hl (k := 3) rfl (nI_1 _) (by decide) rfl (fun ls hl => ?_)
              refine lv_goto (tgt := 15) hx hb dX9_worthiest_69 (by decide) ?_
              exact ih_15 r61 r39 (i + 1) (by omega) (by omega) G25 w25 hEl15 hX hD hT _ _ hP hS  ls (lv_sub hl [1, 2, 0, 4, 5] rfl)
  exact loop_15 (1000000 + 1) (0 : Int64) (0 : Int32) 0 (by omega) (by omega) G5 w5 cE.rf hX hD hT _ _ hP hS  ls (lv_sub hl [0, 1, 2, 3, 4] rfl)
set_option maxHeartbeats 4000000 in
set_option maxRecDepth 100000 in
theorem c_X9_best (l : Launch) (hst : l.stackTraces = false) (D : va_G) (cy : Nat → ClassId) (A : Nat → Prop) (G : cG) (ws : va_W) (o : Nat) (j : Int32)  (hD : va_D A ws) (hT : cT cy G ws) (hG_o : G o = some (7, 0, 0))  : Xi l D cy A yX9_best wsX9_best ({ frames := 7, cells := 2, slots := 12, locals := 170 }) 2 12 ws [.ref o, .int j] (fun r0 u => cX none (chs [1, 5, 20, 21, 22, 23]) G ws u.1 u.2 ∧ (True)) (fun u => cX none (chs [1, 5, 20, 21, 22, 23]) G ws u.1 u.2) (fun E => E = xIA ∨ E = xIS) := by
  refine vx_ofW (cc := cX9_best) (maxL := 3) (ret := (some .int)) (by decide) rfl ?_
  intro p e s m args below meth c s₁ B hml hno hv
  obtain ⟨rfl, ⟨hP, hK, hA, hV⟩, hZ, hXT⟩ := hv
  have hx := B.exec
  have hb := B.bytes
  have hr := B.returns
  have hts := atoms_spec (ws := wsX9_best) B.pre
  have hown : s.vm.findClass RX9 = some m.cls := findClass_of_methodNamed B.named
  have hlocks := B.notSynchronized
  have hS : va_S A s.heap s.heap [] := va_S.rf
  have hX : cX none (chs [1, 5, 20, 21, 22, 23]) G ws G ws := cX.rf
  have hl := lv_entry ([.ref o, .int j]) (n := 3) (Nat.le_of_ble_eq_true rfl)
  rw [lg_entry_eq]
  generalize (lg_sl ([.ref o, .int j]) ++ List.replicate (3 - (lg_sl ([.ref o, .int j])).length) Slot.unset).toArray = ls at hl ⊢
  have hl : lv_has ls 3 [(0, .ref o), (1, .int j)] := hl
  have k_0 : (0 : Int32).toInt = 0 := by decide
  refine lv_aload_n hx hb dX9_best_0 rfl (lv_at hl 0 rfl) ?_
  refine lv_iload_n hx hb dX9_best_1 rfl (lv_at hl 1 rfl) ?_
  obtain ⟨_, hM_o, bs_o, js_o, sh_o, wk_o, ll_o, jc_o, lc_o, mo_o, lb_o, rfl, hjc_o, hlc_o, hG_bs_o, hG_js_o, hG_sh_o, hG_wk_o, hmo_o, hG_ll_o, hlb_o⟩ := hT _ _ hG_o
  refine x_calla (vx_runV (g := F0 m 2 ls ([.int j, .ref o])) (As := [.int j]) (rest := []) ⟨hx, hb, hml, hown, hts⟩ (c_X9_markedJobOf l hst D cy A G ws o j hD hT hG_o ) (cwV 1 hts gX9_best_X9_markedJobOf rfl rfl rfl (by decide +kernel) ⟨Nat.le_of_ble_eq_true rfl, Nat.le_of_ble_eq_true rfl⟩) (x_preV hM_o rfl hP hK hA hS hV hZ hXT) rfl rfl hl.1 rfl (lv_room (Nat.le_of_ble_eq_true rfl)) dX9_best_2 ⟨Nat.le_of_ble_eq_true rfl, Nat.le_of_ble_eq_true rfl⟩) hS (fun E9 ce9 q9 u H locs px9 pe9 hP9 hD9 hT9 hS hc9 hv9 hcl9 => ?_) (fun r2 u H locs q2 hP9 hD9 hT9 hS => ?_)
  · skip
    obtain rfl := px9
    have hP : va_P D vwCl ws H := hP9
    exact x_out (G' := G) (ws' := ws) hno hlocks hc9 hv9 hcl9 hX pe9 hP hD hT hS (Nat.le_of_ble_eq_true rfl) (Nat.le_of_ble_eq_true rfl)
  obtain ⟨rfl, q2⟩ := q2
  have hP : va_P D vwCl ws H := hP9
  obtain ⟨x2, n2, rfl, hG_x2⟩ := q2
  refine lv_astore_n (lv' := [(2, .ref x2), (0, .ref o), (1, .int j)]) hx hb dX9_best_5 rfl hl (by decide) rfl (fun ls hl => ?_)
  refine lv_aload_n hx hb dX9_best_6 rfl (lv_at hl 0 rfl) ?_
  refine lv_aload_n hx hb dX9_best_7 rfl (lv_at hl 1 rfl) ?_
  refine lv_aload_n hx hb dX9_best_8 rfl (lv_at hl 0 rfl) ?_
  refine x_calll (vx_runV (g := F0 m 9 ls ([.ref x2, .ref o, .ref x2])) (As := [.ref x2]) (rest := [.ref x2]) ⟨hx, hb, hml, hown, hts⟩ (c_X9_worthiest l hst D cy A G ws o x2 hD hT hG_o hG_x2 ) (cwV 1 hts gX9_best_X9_worthiest rfl rfl rfl (by decide +kernel) ⟨Nat.le_of_ble_eq_true rfl, Nat.le_of_ble_eq_true rfl⟩) (x_preV hM_o rfl hP hK hA hS hV hZ hXT) rfl rfl hl.1 rfl (lv_room (Nat.le_of_ble_eq_true rfl)) dX9_best_9 ⟨Nat.le_of_ble_eq_true rfl, Nat.le_of_ble_eq_true rfl⟩) hS (fun E9 ce9 q9 u H locs px9 pe9 hP9 hD9 hT9 hS hc9 hv9 hcl9 => ?_) (fun r9 u H locs q9 hP9 hD9 hT9 hS => ?_)
  · skip
    obtain ⟨Gx9, wx9⟩ := u
    have hX9 : cX none (chs [1, 5, 20, 21, 22, 23]) G ws Gx9 wx9 := px9
    have hP : va_P D vwCl wx9 H := hP9
    have hD : va_D A wx9 := hD9
    have hT : cT cy Gx9 wx9 := hT9
    have hX := hX.tr hX9
    exact x_out (G' := Gx9) (ws' := wx9) hno hlocks hc9 hv9 hcl9 hX pe9 hP hD hT hS (Nat.le_of_ble_eq_true rfl) (Nat.le_of_ble_eq_true rfl)
  obtain ⟨G9, w9⟩ := u
  obtain ⟨hX9, q9⟩ := q9
  have hX9 : cX none (chs [1, 5, 20, 21, 22, 23]) G ws G9 w9 := hX9
  have hP : va_P D vwCl w9 H := hP9
  have hD : va_D A w9 := hD9
  have hT : cT cy G9 w9 := hT9
  have hM_o := hX9.2.1 _ _ (cP.no hG_o rfl) hM_o
  have hG_o := hX9.1 _ _ hG_o
  have hG_bs_o := hX9.1 _ _ hG_bs_o
  have hG_js_o := hX9.1 _ _ hG_js_o
  have hG_sh_o := hX9.1 _ _ hG_sh_o
  have hG_wk_o := hX9.1 _ _ hG_wk_o
  have hG_ll_o := hX9.1 _ _ hG_ll_o
  have hG_x2 := hX9.1 _ _ hG_x2
  have hX := hX.tr hX9
  obtain ⟨_, hM_x2, b_x2, s_x2, w_x2, h_x2, t_x2, x_x2, y_x2, ms_x2, rfl, hG_b_x2, hG_s_x2, hJ_x2⟩ := hT _ _ hG_x2
  obtain ⟨hn_x2, c_x2, rfl, hG_c_x2⟩ := cJ4 hJ_x2
  have hn36_x2 := cb_mul (c_hb hT hG_b_x2)
  refine t_calli (va_runV (g := F0 m 12 ls ([.long r9, .ref x2])) (As := [.long r9]) (rest := []) ⟨hx, hb, hml, hown, hts⟩ (c_X5_worthOf l D cy A G9 w9 x2 r9 hD hT hG_x2 ) (cwV 1 hts gX9_best_X5_worthOf rfl rfl rfl (by decide +kernel) ⟨Nat.le_of_ble_eq_true rfl, Nat.le_of_ble_eq_true rfl⟩) (c_preV hM_x2 rfl hP hK hA hS hV) rfl rfl hl.1 rfl (lv_room (Nat.le_of_ble_eq_true rfl)) dX9_best_12 ⟨Nat.le_of_ble_eq_true rfl, Nat.le_of_ble_eq_true rfl⟩) hS (fun r12 u H locs q12 hP9 hD9 hT9 hS => ?_)
  obtain ⟨rfl, q12⟩ := q12
  have hP : va_P D vwCl w9 H := hP9
  refine vx_ret ?_
  refine W.widen (k := 2) (n := 12) (Nat.le_of_ble_eq_true rfl) (Nat.le_of_ble_eq_true rfl) ?_
  exact W.iret (v := r12) hx hb hr (fun t ht hW => ⟨⟨_, (G9, w9), rfl, ⟨hX, trivial⟩, by show va_P D vwCl w9 t.heap; rw [ht]; exact hP, hD, hT⟩, hS.F ht⟩) hS.2.2 dX9_best_15
set_option maxHeartbeats 4000000 in
set_option maxRecDepth 100000 in
theorem c_X9_bestOne (l : Launch) (hst : l.stackTraces = false) (D : va_G) (cy : Nat → ClassId) (A : Nat → Prop) (G : cG) (ws : va_W) (o : Nat) (j : Int32)  (hD : va_D A ws) (hT : cT cy G ws) (hG_o : G o = some (7, 0, 0))  : Xl l D cy A yX9_bestOne wsX9_bestOne ({ frames := 7, cells := 2, slots := 12, locals := 170 }) 2 12 ws [.ref o, .int j] (fun r0 u => cX none (chs [1, 5, 20, 21, 22, 23]) G ws u.1 u.2 ∧ (True)) (fun u => cX none (chs [1, 5, 20, 21, 22, 23]) G ws u.1 u.2) (fun E => E = xIA ∨ E = xIS) := by
  refine vx_ofW (cc := cX9_bestOne) (maxL := 2) (ret := (some .long)) (by decide) rfl ?_
  intro p e s m args below meth c s₁ B hml hno hv
  obtain ⟨rfl, ⟨hP, hK, hA, hV⟩, hZ, hXT⟩ := hv
  have hx := B.exec
  have hb := B.bytes
  have hr := B.returns
  have hts := atoms_spec (ws := wsX9_bestOne) B.pre
  have hown : s.vm.findClass RX9 = some m.cls := findClass_of_methodNamed B.named
  have hlocks := B.notSynchronized
  have hS : va_S A s.heap s.heap [] := va_S.rf
  have hX : cX none (chs [1, 5, 20, 21, 22, 23]) G ws G ws := cX.rf
  have hl := lv_entry ([.ref o, .int j]) (n := 2) (Nat.le_of_ble_eq_true rfl)
  rw [lg_entry_eq]
  generalize (lg_sl ([.ref o, .int j]) ++ List.replicate (2 - (lg_sl ([.ref o, .int j])).length) Slot.unset).toArray = ls at hl ⊢
  have hl : lv_has ls 2 [(0, .ref o), (1, .int j)] := hl
  have k_0 : (0 : Int32).toInt = 0 := by decide
  refine lv_aload_n hx hb dX9_bestOne_0 rfl (lv_at hl 0 rfl) ?_
  refine lv_aload_n hx hb dX9_bestOne_1 rfl (lv_at hl 0 rfl) ?_
  refine lv_iload_n hx hb dX9_bestOne_2 rfl (lv_at hl 1 rfl) ?_
  obtain ⟨_, hM_o, bs_o, js_o, sh_o, wk_o, ll_o, jc_o, lc_o, mo_o, lb_o, rfl, hjc_o, hlc_o, hG_bs_o, hG_js_o, hG_sh_o, hG_wk_o, hmo_o, hG_ll_o, hlb_o⟩ := hT _ _ hG_o
  refine x_calla (vx_runV (g := F0 m 3 ls ([.int j, .ref o, .ref o])) (As := [.int j]) (rest := [.ref o]) ⟨hx, hb, hml, hown, hts⟩ (c_X9_markedJobOf l hst D cy A G ws o j hD hT hG_o ) (cwV 1 hts gX9_bestOne_X9_markedJobOf rfl rfl rfl (by decide +kernel) ⟨Nat.le_of_ble_eq_true rfl, Nat.le_of_ble_eq_true rfl⟩) (x_preV hM_o rfl hP hK hA hS hV hZ hXT) rfl rfl hl.1 rfl (lv_room (Nat.le_of_ble_eq_true rfl)) dX9_bestOne_3 ⟨Nat.le_of_ble_eq_true rfl, Nat.le_of_ble_eq_true rfl⟩) hS (fun E9 ce9 q9 u H locs px9 pe9 hP9 hD9 hT9 hS hc9 hv9 hcl9 => ?_) (fun r3 u H locs q3 hP9 hD9 hT9 hS => ?_)
  · skip
    obtain rfl := px9
    have hP : va_P D vwCl ws H := hP9
    exact x_out (G' := G) (ws' := ws) hno hlocks hc9 hv9 hcl9 hX pe9 hP hD hT hS (Nat.le_of_ble_eq_true rfl) (Nat.le_of_ble_eq_true rfl)
  obtain ⟨rfl, q3⟩ := q3
  have hP : va_P D vwCl ws H := hP9
  obtain ⟨x3, n3, rfl, hG_x3⟩ := q3
  refine x_calll (vx_runV (g := F0 m 6 ls ([.ref x3, .ref o])) (As := [.ref x3]) (rest := []) ⟨hx, hb, hml, hown, hts⟩ (c_X9_worthiest l hst D cy A G ws o x3 hD hT hG_o hG_x3 ) (cwV 1 hts gX9_bestOne_X9_worthiest rfl rfl rfl (by decide +kernel) ⟨Nat.le_of_ble_eq_true rfl, Nat.le_of_ble_eq_true rfl⟩) (x_preV hM_o rfl hP hK hA hS hV hZ hXT) rfl rfl hl.1 rfl (lv_room (Nat.le_of_ble_eq_true rfl)) dX9_bestOne_6 ⟨Nat.le_of_ble_eq_true rfl, Nat.le_of_ble_eq_true rfl⟩) hS (fun E9 ce9 q9 u H locs px9 pe9 hP9 hD9 hT9 hS hc9 hv9 hcl9 => ?_) (fun r6 u H locs q6 hP9 hD9 hT9 hS => ?_)
  · skip
    obtain ⟨Gx6, wx6⟩ := u
    have hX9 : cX none (chs [1, 5, 20, 21, 22, 23]) G ws Gx6 wx6 := px9
    have hP : va_P D vwCl wx6 H := hP9
    have hD : va_D A wx6 := hD9
    have hT : cT cy Gx6 wx6 := hT9
    have hX := hX.tr hX9
    exact x_out (G' := Gx6) (ws' := wx6) hno hlocks hc9 hv9 hcl9 hX pe9 hP hD hT hS (Nat.le_of_ble_eq_true rfl) (Nat.le_of_ble_eq_true rfl)
  obtain ⟨G6, w6⟩ := u
  obtain ⟨hX9, q6⟩ := q6
  have hX9 : cX none (chs [1, 5, 20, 21, 22, 23]) G ws G6 w6 := hX9
  have hP : va_P D vwCl w6 H := hP9
  have hD : va_D A w6 := hD9
  have hT : cT cy G6 w6 := hT9
  have hM_o := hX9.2.1 _ _ (cP.no hG_o rfl) hM_o
  have hG_o := hX9.1 _ _ hG_o
  have hG_bs_o := hX9.1 _ _ hG_bs_o
  have hG_js_o := hX9.1 _ _ hG_js_o
  have hG_sh_o := hX9.1 _ _ hG_sh_o
  have hG_wk_o := hX9.1 _ _ hG_wk_o
  have hG_ll_o := hX9.1 _ _ hG_ll_o
  have hG_x3 := hX9.1 _ _ hG_x3
  have hX := hX.tr hX9
  refine vx_ret ?_
  refine W.widen (k := 2) (n := 12) (Nat.le_of_ble_eq_true rfl) (Nat.le_of_ble_eq_true rfl) ?_
  exact W.lret (v := r6) hx hb hr (fun t ht hW => ⟨⟨_, (G6, w6), rfl, ⟨hX, trivial⟩, by show va_P D vwCl w6 t.heap; rw [ht]; exact hP, hD, hT⟩, hS.F ht⟩) hS.2.2 dX9_bestOne_9
set_option maxHeartbeats 4000000 in
set_option maxRecDepth 100000 in
theorem c_X9_ghost (l : Launch) (hst : l.stackTraces = false) (D : va_G) (cy : Nat → ClassId) (A : Nat → Prop) (G : cG) (ws : va_W) (o : Nat) (set : Int32) (x : Int32) (y : Int32)  (hD : va_D A ws) (hT : cT cy G ws) (hG_o : G o = some (7, 0, 0))  : Xi l D cy A yX9_ghost wsX9_ghost ({ frames := 6, cells := 1, slots := 6, locals := 120 }) 1 6 ws [.ref o, .int set, .int x, .int y] (fun r0 u => u = (G, ws) ∧ (True)) (fun u => u = (G, ws)) (fun E => E = xIA) := by
  refine vx_ofW (cc := cX9_ghost) (maxL := 5) (ret := (some .int)) (by decide) rfl ?_
  intro p e s m args below meth c s₁ B hml hno hv
  obtain ⟨rfl, ⟨hP, hK, hA, hV⟩, hZ, hXT⟩ := hv
  have hx := B.exec
  have hb := B.bytes
  have hr := B.returns
  have hts := atoms_spec (ws := wsX9_ghost) B.pre
  have hown : s.vm.findClass RX9 = some m.cls := findClass_of_methodNamed B.named
  have hlocks := B.notSynchronized
  have hS : va_S A s.heap s.heap [] := va_S.rf
  have hl := lv_entry ([.ref o, .int set, .int x, .int y]) (n := 5) (Nat.le_of_ble_eq_true rfl)
  rw [lg_entry_eq]
  generalize (lg_sl ([.ref o, .int set, .int x, .int y]) ++ List.replicate (5 - (lg_sl ([.ref o, .int set, .int x, .int y])).length) Slot.unset).toArray = ls at hl ⊢
  have hl : lv_has ls 5 [(0, .ref o), (1, .int set), (2, .int x), (3, .int y)] := hl
  have k_0 : (0 : Int32).toInt = 0 := by decide
  have k_1 : (1 : Int32).toInt = 1 := by decide
  have k_3 : (3 : Int32).toInt = 3 := by decide
  have k_9 : (9 : Int32).toInt = 9 := by decide
  refine lv_iload_n hx hb dX9_ghost_0 rfl (lv_at hl 1 rfl) ?_
  refine t_pu (As := [.int set]) (rest := []) ⟨hx, hb, hml, hown, hts⟩ (c_X9_isGhostSet l set ) (va_cwS 1 hts gX9_ghost_X9_isGhostSet rfl rfl rfl (by decide +kernel) ⟨Nat.le_of_ble_eq_true rfl, Nat.le_of_ble_eq_true rfl⟩) hP rfl hl.1 rfl (Nat.le_of_ble_eq_true rfl) dX9_ghost_1 ⟨Nat.le_of_ble_eq_true rfl, Nat.le_of_ble_eq_true rfl⟩ hS (fun r1 H locs q1 hP hS => ?_)
  refine lv_if_eq (tgt := 27) hx hb dX9_ghost_4 (by decide) (fun c4 => ?_) (fun c4 => ?_)
  · skip
    have b4 := bo_f q1 c4
    obtain ⟨sa27, hsa27⟩ := hXT.2.2.1 (RX9, 225, "no such set of ways, or no such place") (by decide)
    exact vx_throwS (own := RX9) (cls := xIA) (names := [xRT, xEX]) (A := A) (ik := 223) (ic := 227) hx hb hst hown (by decide) (by decide) (hts (.classLink RX9 223 xIA) (by decide +kernel)) (hts (.initialized xIA) (by decide +kernel)) hsa27 (x_hat hts hXT (Or.inl rfl) (by decide +kernel) (by decide +kernel)) (by decide +kernel) hXT.2.2.2.1 hXT.2.2.2.2 hS (by rw [hml]; exact hl.1) dX9_ghost_27 dX9_ghost_30 dX9_ghost_31 dX9_ghost_33 dX9_ghost_36 (fun x9 h9 => (hno x9 h9).elim) (Nat.le_of_ble_eq_true rfl) (Nat.le_of_ble_eq_true rfl) (Nat.le_of_ble_eq_true rfl) (Nat.le_of_ble_eq_true rfl) hlocks (x_thr (G' := G) (ws' := ws) rfl (rfl) hP hD hT hS) hS.2.2 (Nat.le_of_ble_eq_true rfl) (Nat.le_of_ble_eq_true rfl)
  · skip
    have b4 := bo_t q1 c4
    refine lv_iload_n hx hb dX9_ghost_7 rfl (lv_at hl 2 rfl) ?_
    refine lv_if_lt (tgt := 27) hx hb dX9_ghost_8 (by decide) (fun c8 => ?_) (fun c8 => ?_)
    · skip
      have d8 := c8
      rw [fa_lt] at d8
      obtain ⟨sa27, hsa27⟩ := hXT.2.2.1 (RX9, 225, "no such set of ways, or no such place") (by decide)
      exact vx_throwS (own := RX9) (cls := xIA) (names := [xRT, xEX]) (A := A) (ik := 223) (ic := 227) hx hb hst hown (by decide) (by decide) (hts (.classLink RX9 223 xIA) (by decide +kernel)) (hts (.initialized xIA) (by decide +kernel)) hsa27 (x_hat hts hXT (Or.inl rfl) (by decide +kernel) (by decide +kernel)) (by decide +kernel) hXT.2.2.2.1 hXT.2.2.2.2 hS (by rw [hml]; exact hl.1) dX9_ghost_27 dX9_ghost_30 dX9_ghost_31 dX9_ghost_33 dX9_ghost_36 (fun x9 h9 => (hno x9 h9).elim) (Nat.le_of_ble_eq_true rfl) (Nat.le_of_ble_eq_true rfl) (Nat.le_of_ble_eq_true rfl) (Nat.le_of_ble_eq_true rfl) hlocks (x_thr (G' := G) (ws' := ws) rfl (rfl) hP hD hT hS) hS.2.2 (Nat.le_of_ble_eq_true rfl) (Nat.le_of_ble_eq_true rfl)
    · skip
      have d8 := c8
      rw [fa_lt] at d8
      refine lv_iload_n hx hb dX9_ghost_11 rfl (lv_at hl 2 rfl) ?_
      refine lv_bipush (v := 9) hx hb dX9_ghost_12 (by decide) ?_
      refine lv_icmp_ge (tgt := 27) hx hb dX9_ghost_14 (by decide) (fun c14 => ?_) (fun c14 => ?_)
      · skip
        have d14 := c14
        rw [fa_le] at d14
        obtain ⟨sa27, hsa27⟩ := hXT.2.2.1 (RX9, 225, "no such set of ways, or no such place") (by decide)
        exact vx_throwS (own := RX9) (cls := xIA) (names := [xRT, xEX]) (A := A) (ik := 223) (ic := 227) hx hb hst hown (by decide) (by decide) (hts (.classLink RX9 223 xIA) (by decide +kernel)) (hts (.initialized xIA) (by decide +kernel)) hsa27 (x_hat hts hXT (Or.inl rfl) (by decide +kernel) (by decide +kernel)) (by decide +kernel) hXT.2.2.2.1 hXT.2.2.2.2 hS (by rw [hml]; exact hl.1) dX9_ghost_27 dX9_ghost_30 dX9_ghost_31 dX9_ghost_33 dX9_ghost_36 (fun x9 h9 => (hno x9 h9).elim) (Nat.le_of_ble_eq_true rfl) (Nat.le_of_ble_eq_true rfl) (Nat.le_of_ble_eq_true rfl) (Nat.le_of_ble_eq_true rfl) hlocks (x_thr (G' := G) (ws' := ws) rfl (rfl) hP hD hT hS) hS.2.2 (Nat.le_of_ble_eq_true rfl) (Nat.le_of_ble_eq_true rfl)
      · skip
        have d14 := c14
        rw [fa_le] at d14
        refine lv_iload_n hx hb dX9_ghost_17 rfl (lv_at hl 3 rfl) ?_
        refine lv_if_lt (tgt := 27) hx hb dX9_ghost_18 (by decide) (fun c18 => ?_) (fun c18 => ?_)
        · skip
          have d18 := c18
          rw [fa_lt] at d18
          obtain ⟨sa27, hsa27⟩ := hXT.2.2.1 (RX9, 225, "no such set of ways, or no such place") (by decide)
          exact vx_throwS (own := RX9) (cls := xIA) (names := [xRT, xEX]) (A := A) (ik := 223) (ic := 227) hx hb hst hown (by decide) (by decide) (hts (.classLink RX9 223 xIA) (by decide +kernel)) (hts (.initialized xIA) (by decide +kernel)) hsa27 (x_hat hts hXT (Or.inl rfl) (by decide +kernel) (by decide +kernel)) (by decide +kernel) hXT.2.2.2.1 hXT.2.2.2.2 hS (by rw [hml]; exact hl.1) dX9_ghost_27 dX9_ghost_30 dX9_ghost_31 dX9_ghost_33 dX9_ghost_36 (fun x9 h9 => (hno x9 h9).elim) (Nat.le_of_ble_eq_true rfl) (Nat.le_of_ble_eq_true rfl) (Nat.le_of_ble_eq_true rfl) (Nat.le_of_ble_eq_true rfl) hlocks (x_thr (G' := G) (ws' := ws) rfl (rfl) hP hD hT hS) hS.2.2 (Nat.le_of_ble_eq_true rfl) (Nat.le_of_ble_eq_true rfl)
        · skip
          have d18 := c18
          rw [fa_lt] at d18
          refine lv_iload_n hx hb dX9_ghost_21 rfl (lv_at hl 3 rfl) ?_
          refine lv_bipush (v := 9) hx hb dX9_ghost_22 (by decide) ?_
          refine lv_icmp_lt (tgt := 37) hx hb dX9_ghost_24 (by decide) (fun c24 => ?_) (fun c24 => ?_)
          · skip
            have d24 := c24
            rw [fa_lt] at d24
            refine lv_iload_n hx hb dX9_ghost_37 rfl (lv_at hl 1 rfl) ?_
            refine lv_iconst (v := 3) hx hb dX9_ghost_38 (by decide) ?_
            refine lv_ishr hx hb dX9_ghost_39 ?_
            refine lv_topi (fun v39 e39 => ?_)
            refine lv_iconst (v := 1) hx hb dX9_ghost_40 (by decide) ?_
            refine lv_iand hx hb dX9_ghost_41 ?_
            refine lv_topi (fun v41 e41 => ?_)
            refine lv_istore (lv' := [(4, .int v41), (0, .ref o), (1, .int set), (2, .int x), (3, .int y)]) hx hb dX9_ghost_42 hl (by decide) rfl (fun ls hl => ?_)
            refine lv_iload_n hx hb dX9_ghost_44 rfl (lv_at hl 2 rfl) ?_
            refine lv_iconst (v := 3) hx hb dX9_ghost_45 (by decide) ?_
            refine lv_iload_n hx hb dX9_ghost_46 rfl (lv_at hl 3 rfl) ?_
            refine lv_iload_n hx hb dX9_ghost_47 rfl (lv_at hl 4 rfl) ?_
            refine lv_iload hx hb dX9_ghost_48 (lv_at hl 0 rfl) ?_
            refine lv_isub hx hb dX9_ghost_50 ?_
            refine lv_topi (fun v50 e50 => ?_)
            refine t_calli (va_runS (g := F0 m 51 ls ([.int v50, .int x, .int (3 : Int32), .int set])) (As := [.int set, .int (3 : Int32), .int x, .int v50]) (rest := []) ⟨hx, hb, hml, hown, hts⟩ (c_X9_ghostNumber_4 l D cy A G ws set (3 : Int32) x v50 hD hT (by omega)) (va_cwS 4 hts gX9_ghost_X9_ghostNumber rfl rfl rfl (by decide +kernel) ⟨Nat.le_of_ble_eq_true rfl, Nat.le_of_ble_eq_true rfl⟩) (e_preS hP hK hA hS hV hZ) rfl rfl hl.1 rfl (lv_room (Nat.le_of_ble_eq_true rfl)) dX9_ghost_51 ⟨Nat.le_of_ble_eq_true rfl, Nat.le_of_ble_eq_true rfl⟩) hS (fun r51 u H locs q51 hP9 hD9 hT9 hS => ?_)
            obtain ⟨rfl, q51⟩ := q51
            have hP : va_P D vwCl ws H := hP9
            refine vx_ret ?_
            refine W.widen (k := 1) (n := 6) (Nat.le_of_ble_eq_true rfl) (Nat.le_of_ble_eq_true rfl) ?_
            exact W.iret (v := r51) hx hb hr (fun t ht hW => ⟨⟨_, (G, ws), rfl, ⟨rfl, trivial⟩, by show va_P D vwCl ws t.heap; rw [ht]; exact hP, hD, hT⟩, hS.F ht⟩) hS.2.2 dX9_ghost_54
          · skip
            have d24 := c24
            rw [fa_lt] at d24
            obtain ⟨sa27, hsa27⟩ := hXT.2.2.1 (RX9, 225, "no such set of ways, or no such place") (by decide)
            exact vx_throwS (own := RX9) (cls := xIA) (names := [xRT, xEX]) (A := A) (ik := 223) (ic := 227) hx hb hst hown (by decide) (by decide) (hts (.classLink RX9 223 xIA) (by decide +kernel)) (hts (.initialized xIA) (by decide +kernel)) hsa27 (x_hat hts hXT (Or.inl rfl) (by decide +kernel) (by decide +kernel)) (by decide +kernel) hXT.2.2.2.1 hXT.2.2.2.2 hS (by rw [hml]; exact hl.1) dX9_ghost_27 dX9_ghost_30 dX9_ghost_31 dX9_ghost_33 dX9_ghost_36 (fun x9 h9 => (hno x9 h9).elim) (Nat.le_of_ble_eq_true rfl) (Nat.le_of_ble_eq_true rfl) (Nat.le_of_ble_eq_true rfl) (Nat.le_of_ble_eq_true rfl) hlocks (x_thr (G' := G) (ws' := ws) rfl (rfl) hP hD hT hS) hS.2.2 (Nat.le_of_ble_eq_true rfl) (Nat.le_of_ble_eq_true rfl)
set_option maxHeartbeats 4000000 in
set_option maxRecDepth 100000 in
theorem c_X9_element (l : Launch) (hst : l.stackTraces = false) (D : va_G) (cy : Nat → ClassId) (A : Nat → Prop) (G : cG) (ws : va_W) (o : Nat) (d : Int32) (i : Int32)  (hD : va_D A ws) (hT : cT cy G ws) (hG_o : G o = some (7, 0, 0))  : Xl l D cy A yX9_element wsX9_element ({ frames := 6, cells := 1, slots := 6, locals := 90 }) 1 6 ws [.ref o, .int d, .int i] (fun r0 u => u = (G, ws) ∧ (True)) (fun u => u = (G, ws)) (fun E => E = xIA ∨ E = xIS) := by
  refine vx_ofW (cc := cX9_element) (maxL := 5) (ret := (some .long)) (by decide) rfl ?_
  intro p e s m args below meth c s₁ B hml hno hv
  obtain ⟨rfl, ⟨hP, hK, hA, hV⟩, hZ, hXT⟩ := hv
  have hx := B.exec
  have hb := B.bytes
  have hr := B.returns
  have hts := atoms_spec (ws := wsX9_element) B.pre
  have hown : s.vm.findClass RX9 = some m.cls := findClass_of_methodNamed B.named
  have hlocks := B.notSynchronized
  have hS : va_S A s.heap s.heap [] := va_S.rf
  have hl := lv_entry ([.ref o, .int d, .int i]) (n := 5) (Nat.le_of_ble_eq_true rfl)
  rw [lg_entry_eq]
  generalize (lg_sl ([.ref o, .int d, .int i]) ++ List.replicate (5 - (lg_sl ([.ref o, .int d, .int i])).length) Slot.unset).toArray = ls at hl ⊢
  have hl : lv_has ls 5 [(0, .ref o), (1, .int d), (2, .int i)] := hl
  have k_0 : (0 : Int32).toInt = 0 := by decide
  have k_1 : (1 : Int32).toInt = 1 := by decide
  refine lv_iload_n hx hb dX9_element_0 rfl (lv_at hl 1 rfl) ?_
  refine t_pu (As := [.int d]) (rest := []) ⟨hx, hb, hml, hown, hts⟩ (c_X9_isShelf l d ) (va_cwS 1 hts gX9_element_X9_isShelf rfl rfl rfl (by decide +kernel) ⟨Nat.le_of_ble_eq_true rfl, Nat.le_of_ble_eq_true rfl⟩) hP rfl hl.1 rfl (Nat.le_of_ble_eq_true rfl) dX9_element_1 ⟨Nat.le_of_ble_eq_true rfl, Nat.le_of_ble_eq_true rfl⟩ hS (fun r1 H locs q1 hP hS => ?_)
  refine lv_if_ne (tgt := 17) hx hb dX9_element_4 (by decide) (fun c4 => ?_) (fun c4 => ?_)
  · skip
    have b4 := bo_t q1 c4
    refine lv_aload_n hx hb dX9_element_17 rfl (lv_at hl 0 rfl) ?_
    obtain ⟨_, hM_o, bs_o, js_o, sh_o, wk_o, ll_o, jc_o, lc_o, mo_o, lb_o, rfl, hjc_o, hlc_o, hG_bs_o, hG_js_o, hG_sh_o, hG_wk_o, hmo_o, hG_ll_o, hlb_o⟩ := hT _ _ hG_o
    refine t_get (v := .ref sh_o) (C := RX9) (T := TX9) (N := 9) hx hb hts (by decide +kernel) hown hK hP hM_o rfl 3 (by decide) (hts (.fieldLink RX9 27 "ShadowBench" "shelves" "[LShadowBench$Held;") (by decide +kernel)) (fun _ h9 => h9) rfl dX9_element_18 ?_
    refine lv_iload_n hx hb dX9_element_21 rfl (lv_at hl 1 rfl) ?_
    refine t_aald10 hx hb hK hP hT hG_sh_o (vp_in_iff.mpr ⟨by omega, by omega⟩) dX9_element_22 ?_ (fun x22 kx22 nx22 hG_x22 => ?_) (fun x22 nx22 hG_x22 => ?_)
    · skip
      refine lv_astoreN (lv' := [(4, .null), (0, .ref o), (1, .int d), (2, .int i)]) hx hb dX9_element_23 hl (by decide) rfl (fun ls hl => ?_)
      refine lv_aloadN hx hb dX9_element_25 (lv_at hl 0 rfl) ?_
      refine lv_instN hx hb dX9_element_27 ?_
      refine lv_if_eq (tgt := 54) hx hb dX9_element_30 (by decide) (fun c30 => ?_) (fun c30 => ?_)
      · skip
        have d30 := c30
        rw [fa_eq] at d30
        obtain ⟨sa54, hsa54⟩ := hXT.2.2.1 (RX9, 261, "no row with such a place is held there") (by decide)
        exact vx_throwSW (own := RX9) (cls := xIS) (names := [xRT, xEX]) (A := A) (ik := 259) (ic := 263) hx hb hst hown (by decide) (by decide) (hts (.classLink RX9 259 xIS) (by decide +kernel)) (hts (.initialized xIS) (by decide +kernel)) hsa54 (x_hat hts hXT (Or.inr (Or.inl rfl)) (by decide +kernel) (by decide +kernel)) (by decide +kernel) hXT.2.2.2.1 hXT.2.2.2.2 hS (by rw [hml]; exact hl.1) dX9_element_54 dX9_element_57 dX9_element_58 dX9_element_61 dX9_element_64 (fun x9 h9 => (hno x9 h9).elim) (Nat.le_of_ble_eq_true rfl) (Nat.le_of_ble_eq_true rfl) (Nat.le_of_ble_eq_true rfl) (Nat.le_of_ble_eq_true rfl) hlocks (x_thr (G' := G) (ws' := ws) rfl (Or.inr (rfl)) hP hD hT hS) hS.2.2 (Nat.le_of_ble_eq_true rfl) (Nat.le_of_ble_eq_true rfl)
      · first | exact absurd c30 (by decide) | exact absurd (by decide) c30
    · skip
      refine lv_astore (lv' := [(4, .ref x22), (0, .ref o), (1, .int d), (2, .int i)]) hx hb dX9_element_23 hl (by decide) rfl (fun ls hl => ?_)
      refine lv_aload hx hb dX9_element_25 (lv_at hl 0 rfl) ?_
      obtain ⟨_, hM_x22, b_x22, s_x22, w_x22, h_x22, t_x22, x_x22, y_x22, ms_x22, rfl, hG_b_x22, hG_s_x22, hJ_x22⟩ := hT _ _ hG_x22
      refine t_instRN hx hb hV hown (hts (.classLink RX9 245 RX7) (by decide +kernel)) hK hP hJ_x22.kc hM_x22 dX9_element_27 ?_
      refine lv_if_eq (tgt := 54) hx hb dX9_element_30 (by decide) (fun c30 => ?_) (fun c30 => ?_)
      · skip
        have d30 := c30
        rw [fa_eq] at d30
        obtain ⟨sa54, hsa54⟩ := hXT.2.2.1 (RX9, 261, "no row with such a place is held there") (by decide)
        exact vx_throwSW (own := RX9) (cls := xIS) (names := [xRT, xEX]) (A := A) (ik := 259) (ic := 263) hx hb hst hown (by decide) (by decide) (hts (.classLink RX9 259 xIS) (by decide +kernel)) (hts (.initialized xIS) (by decide +kernel)) hsa54 (x_hat hts hXT (Or.inr (Or.inl rfl)) (by decide +kernel) (by decide +kernel)) (by decide +kernel) hXT.2.2.2.1 hXT.2.2.2.2 hS (by rw [hml]; exact hl.1) dX9_element_54 dX9_element_57 dX9_element_58 dX9_element_61 dX9_element_64 (fun x9 h9 => (hno x9 h9).elim) (Nat.le_of_ble_eq_true rfl) (Nat.le_of_ble_eq_true rfl) (Nat.le_of_ble_eq_true rfl) (Nat.le_of_ble_eq_true rfl) hlocks (x_thr (G' := G) (ws' := ws) rfl (Or.inr (rfl)) hP hD hT hS) hS.2.2 (Nat.le_of_ble_eq_true rfl) (Nat.le_of_ble_eq_true rfl)
      · first | exact absurd c30 (by decide) | exact absurd (by decide) c30
    · skip
      refine lv_astore (lv' := [(4, .ref x22), (0, .ref o), (1, .int d), (2, .int i)]) hx hb dX9_element_23 hl (by decide) rfl (fun ls hl => ?_)
      refine lv_aload hx hb dX9_element_25 (lv_at hl 0 rfl) ?_
      obtain ⟨_, hM_x22, hn_x22, z_x22, a_x22, rfl, hz_x22, hG_a_x22⟩ := hT _ _ hG_x22
      refine va_instS hx hb hown (hts (.classLink RX9 245 RX7) (by decide +kernel)) (hK.1 6 _ rfl).2 (t_recJ hK hP hM_x22 rfl) dX9_element_27 ?_
      refine lv_if_eq (tgt := 54) hx hb dX9_element_30 (by decide) (fun c30 => ?_) (fun c30 => ?_)
      · first | exact absurd c30 (by decide) | exact absurd (by decide) c30
      · skip
        have d30 := c30
        rw [fa_eq] at d30
        refine lv_aload hx hb dX9_element_33 (lv_at hl 0 rfl) ?_
        refine va_castS hx hb hown (hts (.classLink RX9 245 RX7) (by decide +kernel)) (hK.1 6 _ rfl).2 (t_recJ hK hP hM_x22 rfl) dX9_element_35 ?_
        refine lv_astore_n (lv' := [(3, .ref x22), (4, .ref x22), (0, .ref o), (1, .int d), (2, .int i)]) hx hb dX9_element_38 rfl hl (by decide) rfl (fun ls hl => ?_)
        refine lv_aload_n hx hb dX9_element_39 rfl (lv_at hl 0 rfl) ?_
        refine lv_iload_n hx hb dX9_element_40 rfl (lv_at hl 4 rfl) ?_
        refine lv_iconst (v := 1) hx hb dX9_element_41 (by decide) ?_
        refine t_calli (va_runV (g := F0 m 42 ls ([.int (1 : Int32), .int i, .ref x22])) (As := [.int i, .int (1 : Int32)]) (rest := []) ⟨hx, hb, hml, hown, hts⟩ (c_X7_has l D cy A G ws x22 i (1 : Int32) hD hT hG_x22 ) (cwV 2 hts gX9_element_X7_has rfl rfl rfl (by decide +kernel) ⟨Nat.le_of_ble_eq_true rfl, Nat.le_of_ble_eq_true rfl⟩) (c_preV hM_x22 rfl hP hK hA hS hV) rfl rfl hl.1 rfl (lv_room (Nat.le_of_ble_eq_true rfl)) dX9_element_42 ⟨Nat.le_of_ble_eq_true rfl, Nat.le_of_ble_eq_true rfl⟩) hS (fun r42 u H locs q42 hP9 hD9 hT9 hS => ?_)
        obtain ⟨rfl, q42⟩ := q42
        have hP : va_P D vwCl ws H := hP9
        refine lv_if_eq (tgt := 54) hx hb dX9_element_45 (by decide) (fun c45 => ?_) (fun c45 => ?_)
        · skip
          have b45 := bo_f q42 c45
          obtain ⟨sa54, hsa54⟩ := hXT.2.2.1 (RX9, 261, "no row with such a place is held there") (by decide)
          exact vx_throwSW (own := RX9) (cls := xIS) (names := [xRT, xEX]) (A := A) (ik := 259) (ic := 263) hx hb hst hown (by decide) (by decide) (hts (.classLink RX9 259 xIS) (by decide +kernel)) (hts (.initialized xIS) (by decide +kernel)) hsa54 (x_hat hts hXT (Or.inr (Or.inl rfl)) (by decide +kernel) (by decide +kernel)) (by decide +kernel) hXT.2.2.2.1 hXT.2.2.2.2 hS (by rw [hml]; exact hl.1) dX9_element_54 dX9_element_57 dX9_element_58 dX9_element_61 dX9_element_64 (fun x9 h9 => (hno x9 h9).elim) (Nat.le_of_ble_eq_true rfl) (Nat.le_of_ble_eq_true rfl) (Nat.le_of_ble_eq_true rfl) (Nat.le_of_ble_eq_true rfl) hlocks (x_thr (G' := G) (ws' := ws) rfl (Or.inr (rfl)) hP hD hT hS) hS.2.2 (Nat.le_of_ble_eq_true rfl) (Nat.le_of_ble_eq_true rfl)
        · skip
          have b45 := bo_t q42 c45
          refine lv_aload_n hx hb dX9_element_48 rfl (lv_at hl 0 rfl) ?_
          refine lv_iload_n hx hb dX9_element_49 rfl (lv_at hl 4 rfl) ?_
          refine t_calll (va_runV (g := F0 m 50 ls ([.int i, .ref x22])) (As := [.int i]) (rest := []) ⟨hx, hb, hml, hown, hts⟩ (c_X7_numberAt l D cy A G ws x22 i hD hT hG_x22 ) (cwV 1 hts gX9_element_X7_numberAt rfl rfl rfl (by decide +kernel) ⟨Nat.le_of_ble_eq_true rfl, Nat.le_of_ble_eq_true rfl⟩) (c_preV hM_x22 rfl hP hK hA hS hV) rfl rfl hl.1 rfl (lv_room (Nat.le_of_ble_eq_true rfl)) dX9_element_50 ⟨Nat.le_of_ble_eq_true rfl, Nat.le_of_ble_eq_true rfl⟩) hS (fun r50 u H locs q50 hP9 hD9 hT9 hS => ?_)
          obtain ⟨rfl, q50⟩ := q50
          have hP : va_P D vwCl ws H := hP9
          refine vx_ret ?_
          refine W.widen (k := 1) (n := 6) (Nat.le_of_ble_eq_true rfl) (Nat.le_of_ble_eq_true rfl) ?_
          exact W.lret (v := r50) hx hb hr (fun t ht hW => ⟨⟨_, (G, ws), rfl, ⟨rfl, trivial⟩, by show va_P D vwCl ws t.heap; rw [ht]; exact hP, hD, hT⟩, hS.F ht⟩) hS.2.2 dX9_element_53
  · skip
    have b4 := bo_f q1 c4
    obtain ⟨sa7, hsa7⟩ := hXT.2.2.1 (RX9, 250, "no such shelf") (by decide)
    exact vx_throwS (own := RX9) (cls := xIA) (names := [xRT, xEX]) (A := A) (ik := 223) (ic := 227) hx hb hst hown (by decide) (by decide) (hts (.classLink RX9 223 xIA) (by decide +kernel)) (hts (.initialized xIA) (by decide +kernel)) hsa7 (x_hat hts hXT (Or.inl rfl) (by decide +kernel) (by decide +kernel)) (by decide +kernel) hXT.2.2.2.1 hXT.2.2.2.2 hS (by rw [hml]; exact hl.1) dX9_element_7 dX9_element_10 dX9_element_11 dX9_element_13 dX9_element_16 (fun x9 h9 => (hno x9 h9).elim) (Nat.le_of_ble_eq_true rfl) (Nat.le_of_ble_eq_true rfl) (Nat.le_of_ble_eq_true rfl) (Nat.le_of_ble_eq_true rfl) hlocks (x_thr (G' := G) (ws' := ws) rfl (Or.inl rfl) hP hD hT hS) hS.2.2 (Nat.le_of_ble_eq_true rfl) (Nat.le_of_ble_eq_true rfl)
set_option maxHeartbeats 4000000 in
set_option maxRecDepth 100000 in
theorem c_X9_weight (l : Launch) (hst : l.stackTraces = false) (D : va_G) (cy : Nat → ClassId) (A : Nat → Prop) (G : cG) (ws : va_W) (o : Nat) (d : Int32)  (hD : va_D A ws) (hT : cT cy G ws) (hG_o : G o = some (7, 0, 0))  : Xi l D cy A yX9_weight wsX9_weight ({ frames := 6, cells := 1, slots := 6, locals := 90 }) 1 6 ws [.ref o, .int d] (fun r0 u => u = (G, ws) ∧ (True)) (fun u => u = (G, ws)) (fun E => E = xIA ∨ E = xIS) := by
  refine vx_ofW (cc := cX9_weight) (maxL := 4) (ret := (some .int)) (by decide) rfl ?_
  intro p e s m args below meth c s₁ B hml hno hv
  obtain ⟨rfl, ⟨hP, hK, hA, hV⟩, hZ, hXT⟩ := hv
  have hx := B.exec
  have hb := B.bytes
  have hr := B.returns
  have hts := atoms_spec (ws := wsX9_weight) B.pre
  have hown : s.vm.findClass RX9 = some m.cls := findClass_of_methodNamed B.named
  have hlocks := B.notSynchronized
  have hS : va_S A s.heap s.heap [] := va_S.rf
  have hl := lv_entry ([.ref o, .int d]) (n := 4) (Nat.le_of_ble_eq_true rfl)
  rw [lg_entry_eq]
  generalize (lg_sl ([.ref o, .int d]) ++ List.replicate (4 - (lg_sl ([.ref o, .int d])).length) Slot.unset).toArray = ls at hl ⊢
  have hl : lv_has ls 4 [(0, .ref o), (1, .int d)] := hl
  have k_0 : (0 : Int32).toInt = 0 := by decide
  refine lv_iload_n hx hb dX9_weight_0 rfl (lv_at hl 1 rfl) ?_
  refine t_pu (As := [.int d]) (rest := []) ⟨hx, hb, hml, hown, hts⟩ (c_X9_isShelf l d ) (va_cwS 1 hts gX9_weight_X9_isShelf rfl rfl rfl (by decide +kernel) ⟨Nat.le_of_ble_eq_true rfl, Nat.le_of_ble_eq_true rfl⟩) hP rfl hl.1 rfl (Nat.le_of_ble_eq_true rfl) dX9_weight_1 ⟨Nat.le_of_ble_eq_true rfl, Nat.le_of_ble_eq_true rfl⟩ hS (fun r1 H locs q1 hP hS => ?_)
  refine lv_if_ne (tgt := 17) hx hb dX9_weight_4 (by decide) (fun c4 => ?_) (fun c4 => ?_)
  · skip
    have b4 := bo_t q1 c4
    refine lv_aload_n hx hb dX9_weight_17 rfl (lv_at hl 0 rfl) ?_
    obtain ⟨_, hM_o, bs_o, js_o, sh_o, wk_o, ll_o, jc_o, lc_o, mo_o, lb_o, rfl, hjc_o, hlc_o, hG_bs_o, hG_js_o, hG_sh_o, hG_wk_o, hmo_o, hG_ll_o, hlb_o⟩ := hT _ _ hG_o
    refine t_get (v := .ref sh_o) (C := RX9) (T := TX9) (N := 9) hx hb hts (by decide +kernel) hown hK hP hM_o rfl 3 (by decide) (hts (.fieldLink RX9 27 "ShadowBench" "shelves" "[LShadowBench$Held;") (by decide +kernel)) (fun _ h9 => h9) rfl dX9_weight_18 ?_
    refine lv_iload_n hx hb dX9_weight_21 rfl (lv_at hl 1 rfl) ?_
    refine t_aald10 hx hb hK hP hT hG_sh_o (vp_in_iff.mpr ⟨by omega, by omega⟩) dX9_weight_22 ?_ (fun x22 kx22 nx22 hG_x22 => ?_) (fun x22 nx22 hG_x22 => ?_)
    · skip
      refine lv_astore_nN (lv' := [(3, .null), (0, .ref o), (1, .int d)]) hx hb dX9_weight_23 rfl hl (by decide) rfl (fun ls hl => ?_)
      refine lv_aload_nN hx hb dX9_weight_24 rfl (lv_at hl 0 rfl) ?_
      refine lv_instN hx hb dX9_weight_25 ?_
      refine lv_if_eq (tgt := 41) hx hb dX9_weight_28 (by decide) (fun c28 => ?_) (fun c28 => ?_)
      · skip
        have d28 := c28
        rw [fa_eq] at d28
        obtain ⟨sa41, hsa41⟩ := hXT.2.2.1 (RX9, 284, "no job is held there") (by decide)
        exact vx_throwSW (own := RX9) (cls := xIS) (names := [xRT, xEX]) (A := A) (ik := 259) (ic := 263) hx hb hst hown (by decide) (by decide) (hts (.classLink RX9 259 xIS) (by decide +kernel)) (hts (.initialized xIS) (by decide +kernel)) hsa41 (x_hat hts hXT (Or.inr (Or.inl rfl)) (by decide +kernel) (by decide +kernel)) (by decide +kernel) hXT.2.2.2.1 hXT.2.2.2.2 hS (by rw [hml]; exact hl.1) dX9_weight_41 dX9_weight_44 dX9_weight_45 dX9_weight_48 dX9_weight_51 (fun x9 h9 => (hno x9 h9).elim) (Nat.le_of_ble_eq_true rfl) (Nat.le_of_ble_eq_true rfl) (Nat.le_of_ble_eq_true rfl) (Nat.le_of_ble_eq_true rfl) hlocks (x_thr (G' := G) (ws' := ws) rfl (Or.inr (rfl)) hP hD hT hS) hS.2.2 (Nat.le_of_ble_eq_true rfl) (Nat.le_of_ble_eq_true rfl)
      · first | exact absurd c28 (by decide) | exact absurd (by decide) c28
    · skip
      refine lv_astore_n (lv' := [(3, .ref x22), (0, .ref o), (1, .int d)]) hx hb dX9_weight_23 rfl hl (by decide) rfl (fun ls hl => ?_)
      refine lv_aload_n hx hb dX9_weight_24 rfl (lv_at hl 0 rfl) ?_
      obtain ⟨_, hM_x22, b_x22, s_x22, w_x22, h_x22, t_x22, x_x22, y_x22, ms_x22, rfl, hG_b_x22, hG_s_x22, hJ_x22⟩ := hT _ _ hG_x22
      refine t_instJ hx hb hV hown (hts (.classLink RX9 15 RX3) (by decide +kernel)) hK hP hJ_x22.kc hM_x22 dX9_weight_25 ?_
      refine lv_if_eq (tgt := 41) hx hb dX9_weight_28 (by decide) (fun c28 => ?_) (fun c28 => ?_)
      · first | exact absurd c28 (by decide) | exact absurd (by decide) c28
      · skip
        have d28 := c28
        rw [fa_eq] at d28
        refine lv_aload_n hx hb dX9_weight_31 rfl (lv_at hl 0 rfl) ?_
        refine t_castJ hx hb hV hown (hts (.classLink RX9 15 RX3) (by decide +kernel)) hK hP hJ_x22.kc hM_x22 dX9_weight_32 ?_
        refine lv_astore_n (lv' := [(2, .ref x22), (3, .ref x22), (0, .ref o), (1, .int d)]) hx hb dX9_weight_35 rfl hl (by decide) rfl (fun ls hl => ?_)
        refine lv_aload_n hx hb dX9_weight_36 rfl (lv_at hl 0 rfl) ?_
        have hJ9 := hJ_x22
        obtain ⟨hn9, hJ9⟩ := hJ9
        rcases hJ9 with ⟨rfl, rfl⟩ | ⟨rfl, rfl⟩ | ⟨rfl, rfl⟩ | ⟨rfl, c9, rfl, hG_c9⟩
        · skip
          have hM_x22 : cIn ws x22 (.inr (1, [.ref b_x22, .ref s_x22, .int t_x22, .long x_x22, .long y_x22])) := hM_x22
          refine t_calli (va_runU (g := F0 m 37 ls ([.ref x22])) (As := []) (rest := []) ⟨hx, hb, hml, hown, hts⟩ (c_X1_heft l D cy A G ws x22 hD hT hG_x22 ) (va_cwO 0 hts gX9_weight_X1_heft_u280X1 rfl rfl rfl (b0 := cX3_heft) (m0 := 1) (r0 := (some .int)) (by decide +kernel) (by decide +kernel) ⟨Nat.le_of_ble_eq_true rfl, Nat.le_of_ble_eq_true rfl⟩) (c_preV hM_x22 rfl hP hK hA hS hV) rfl rfl hl.1 rfl (lv_room (Nat.le_of_ble_eq_true rfl)) dX9_weight_37 ⟨Nat.le_of_ble_eq_true rfl, Nat.le_of_ble_eq_true rfl⟩) hS (fun r37 u H locs q37 hP9 hD9 hT9 hS => ?_)
          obtain ⟨rfl, q37⟩ := q37
          have hP : va_P D vwCl ws H := hP9
          refine vx_ret ?_
          refine W.widen (k := 1) (n := 6) (Nat.le_of_ble_eq_true rfl) (Nat.le_of_ble_eq_true rfl) ?_
          exact W.iret (v := r37) hx hb hr (fun t ht hW => ⟨⟨_, (G, ws), rfl, ⟨rfl, trivial⟩, by show va_P D vwCl ws t.heap; rw [ht]; exact hP, hD, hT⟩, hS.F ht⟩) hS.2.2 dX9_weight_40
        · skip
          have hM_x22 : cIn ws x22 (.inr (2, [.ref b_x22, .ref s_x22, .int t_x22, .long x_x22, .long y_x22])) := hM_x22
          refine t_calli (va_runV (g := F0 m 37 ls ([.ref x22])) (As := []) (rest := []) ⟨hx, hb, hml, hown, hts⟩ (c_X3_heft l D cy A G ws x22 hD hT hG_x22 ) (cwV 0 hts gX9_weight_X3_heft rfl rfl rfl (by decide +kernel) ⟨Nat.le_of_ble_eq_true rfl, Nat.le_of_ble_eq_true rfl⟩) (c_preV hM_x22 rfl hP hK hA hS hV) rfl rfl hl.1 rfl (lv_room (Nat.le_of_ble_eq_true rfl)) dX9_weight_37 ⟨Nat.le_of_ble_eq_true rfl, Nat.le_of_ble_eq_true rfl⟩) hS (fun r37 u H locs q37 hP9 hD9 hT9 hS => ?_)
          obtain ⟨rfl, q37⟩ := q37
          have hP : va_P D vwCl ws H := hP9
          refine vx_ret ?_
          refine W.widen (k := 1) (n := 6) (Nat.le_of_ble_eq_true rfl) (Nat.le_of_ble_eq_true rfl) ?_
          exact W.iret (v := r37) hx hb hr (fun t ht hW => ⟨⟨_, (G, ws), rfl, ⟨rfl, trivial⟩, by show va_P D vwCl ws t.heap; rw [ht]; exact hP, hD, hT⟩, hS.F ht⟩) hS.2.2 dX9_weight_40
        · skip
          have hM_x22 : cIn ws x22 (.inr (3, [.ref b_x22, .ref s_x22, .int t_x22, .long x_x22, .long y_x22])) := hM_x22
          refine t_calli (va_runU (g := F0 m 37 ls ([.ref x22])) (As := []) (rest := []) ⟨hx, hb, hml, hown, hts⟩ (c_X4_heft l D cy A G ws x22 hD hT hG_x22 ) (va_cwO 0 hts gX9_weight_X4_heft_u280X4 rfl rfl rfl (b0 := cX3_heft) (m0 := 1) (r0 := (some .int)) (by decide +kernel) (by decide +kernel) ⟨Nat.le_of_ble_eq_true rfl, Nat.le_of_ble_eq_true rfl⟩) (c_preV hM_x22 rfl hP hK hA hS hV) rfl rfl hl.1 rfl (lv_room (Nat.le_of_ble_eq_true rfl)) dX9_weight_37 ⟨Nat.le_of_ble_eq_true rfl, Nat.le_of_ble_eq_true rfl⟩) hS (fun r37 u H locs q37 hP9 hD9 hT9 hS => ?_)
          obtain ⟨rfl, q37⟩ := q37
          have hP : va_P D vwCl ws H := hP9
          refine vx_ret ?_
          refine W.widen (k := 1) (n := 6) (Nat.le_of_ble_eq_true rfl) (Nat.le_of_ble_eq_true rfl) ?_
          exact W.iret (v := r37) hx hb hr (fun t ht hW => ⟨⟨_, (G, ws), rfl, ⟨rfl, trivial⟩, by show va_P D vwCl ws t.heap; rw [ht]; exact hP, hD, hT⟩, hS.F ht⟩) hS.2.2 dX9_weight_40
        · skip
          have hM_x22 : cIn ws x22 (.inr (4, [.ref b_x22, .ref s_x22, .int t_x22, .long x_x22, .long y_x22, .ref c9])) := hM_x22
          have hn36 := cb_mul (c_hb hT hG_b_x22)
          refine t_calli (va_runU (g := F0 m 37 ls ([.ref x22])) (As := []) (rest := []) ⟨hx, hb, hml, hown, hts⟩ (c_X5_heft l D cy A G ws x22 hD hT hG_x22 ) (va_cwO 0 hts gX9_weight_X5_heft_u280X5 rfl rfl rfl (b0 := cX3_heft) (m0 := 1) (r0 := (some .int)) (by decide +kernel) (by decide +kernel) ⟨Nat.le_of_ble_eq_true rfl, Nat.le_of_ble_eq_true rfl⟩) (c_preV hM_x22 rfl hP hK hA hS hV) rfl rfl hl.1 rfl (lv_room (Nat.le_of_ble_eq_true rfl)) dX9_weight_37 ⟨Nat.le_of_ble_eq_true rfl, Nat.le_of_ble_eq_true rfl⟩) hS (fun r37 u H locs q37 hP9 hD9 hT9 hS => ?_)
          obtain ⟨rfl, q37⟩ := q37
          have hP : va_P D vwCl ws H := hP9
          refine vx_ret ?_
          refine W.widen (k := 1) (n := 6) (Nat.le_of_ble_eq_true rfl) (Nat.le_of_ble_eq_true rfl) ?_
          exact W.iret (v := r37) hx hb hr (fun t ht hW => ⟨⟨_, (G, ws), rfl, ⟨rfl, trivial⟩, by show va_P D vwCl ws t.heap; rw [ht]; exact hP, hD, hT⟩, hS.F ht⟩) hS.2.2 dX9_weight_40
    · skip
      refine lv_astore_n (lv' := [(3, .ref x22), (0, .ref o), (1, .int d)]) hx hb dX9_weight_23 rfl hl (by decide) rfl (fun ls hl => ?_)
      refine lv_aload_n hx hb dX9_weight_24 rfl (lv_at hl 0 rfl) ?_
      obtain ⟨_, hM_x22, hn_x22, z_x22, a_x22, rfl, hz_x22, hG_a_x22⟩ := hT _ _ hG_x22
      refine va_instNo hx hb hown (hts (.classLink RX9 15 RX3) (by decide +kernel)) hV.2.2.2.2.2 (t_recJ hK hP hM_x22 rfl) dX9_weight_25 ?_
      refine lv_if_eq (tgt := 41) hx hb dX9_weight_28 (by decide) (fun c28 => ?_) (fun c28 => ?_)
      · skip
        have d28 := c28
        rw [fa_eq] at d28
        obtain ⟨sa41, hsa41⟩ := hXT.2.2.1 (RX9, 284, "no job is held there") (by decide)
        exact vx_throwSW (own := RX9) (cls := xIS) (names := [xRT, xEX]) (A := A) (ik := 259) (ic := 263) hx hb hst hown (by decide) (by decide) (hts (.classLink RX9 259 xIS) (by decide +kernel)) (hts (.initialized xIS) (by decide +kernel)) hsa41 (x_hat hts hXT (Or.inr (Or.inl rfl)) (by decide +kernel) (by decide +kernel)) (by decide +kernel) hXT.2.2.2.1 hXT.2.2.2.2 hS (by rw [hml]; exact hl.1) dX9_weight_41 dX9_weight_44 dX9_weight_45 dX9_weight_48 dX9_weight_51 (fun x9 h9 => (hno x9 h9).elim) (Nat.le_of_ble_eq_true rfl) (Nat.le_of_ble_eq_true rfl) (Nat.le_of_ble_eq_true rfl) (Nat.le_of_ble_eq_true rfl) hlocks (x_thr (G' := G) (ws' := ws) rfl (Or.inr (rfl)) hP hD hT hS) hS.2.2 (Nat.le_of_ble_eq_true rfl) (Nat.le_of_ble_eq_true rfl)
      · first | exact absurd c28 (by decide) | exact absurd (by decide) c28
  · skip
    have b4 := bo_f q1 c4
    obtain ⟨sa7, hsa7⟩ := hXT.2.2.1 (RX9, 250, "no such shelf") (by decide)
    exact vx_throwS (own := RX9) (cls := xIA) (names := [xRT, xEX]) (A := A) (ik := 223) (ic := 227) hx hb hst hown (by decide) (by decide) (hts (.classLink RX9 223 xIA) (by decide +kernel)) (hts (.initialized xIA) (by decide +kernel)) hsa7 (x_hat hts hXT (Or.inl rfl) (by decide +kernel) (by decide +kernel)) (by decide +kernel) hXT.2.2.2.1 hXT.2.2.2.2 hS (by rw [hml]; exact hl.1) dX9_weight_7 dX9_weight_10 dX9_weight_11 dX9_weight_13 dX9_weight_16 (fun x9 h9 => (hno x9 h9).elim) (Nat.le_of_ble_eq_true rfl) (Nat.le_of_ble_eq_true rfl) (Nat.le_of_ble_eq_true rfl) (Nat.le_of_ble_eq_true rfl) hlocks (x_thr (G' := G) (ws' := ws) rfl (Or.inl rfl) hP hD hT hS) hS.2.2 (Nat.le_of_ble_eq_true rfl) (Nat.le_of_ble_eq_true rfl)
set_option maxHeartbeats 4000000 in
set_option maxRecDepth 100000 in
theorem c_L_best (l : Launch) (hst : l.stackTraces = false) (D : va_G) (cy : Nat → ClassId) (A : Nat → Prop) (G : cG) (ws : va_W) (x : Nat) (p0 : Int32) (ou : Nat)  (hD : va_D A ws) (hT : cT cy G ws) (hG_x : G x = some (7, 0, 0)) (hG_ou : G ou = some (1, 1, 0))  : Yi l D cy A yL_best wsL_best ({ frames := 8, cells := 2, slots := 12, locals := 192 }) 2 12 ws [.ref x, .int p0, .ref ou] (fun r0 u => cX none (chs [1, 5, 20, 21, 22, 23]) G ws u.1 u.2 ∧ (True)) := by
  refine va_MetW (cc := cL_best) (maxL := 4) (ret := (some .int)) (by decide) rfl ?_
  intro p e s m args below meth c s₁ B hml hv
  obtain ⟨rfl, ⟨hP, hK, hA, hV⟩, hZ, hXT⟩ := hv
  have hx := B.exec
  have hb := B.bytes
  have hr := B.returns
  have hts := atoms_spec (ws := wsL_best) B.pre
  have hown : s.vm.findClass RL = some m.cls := findClass_of_methodNamed B.named
  have hlocks := B.notSynchronized
  have htab := vx_table (x := yL_best) B (hts (.codeWith yL_best cL_best 4 (some .int) [(0, 9, 12, 13), (0, 9, 15, 15)]) (by decide +kernel))
  have hS : va_S A s.heap s.heap [] := va_S.rf
  have hX : cX none (chs [1, 5, 20, 21, 22, 23]) G ws G ws := cX.rf
  have hl := lv_entry ([.ref x, .int p0, .ref ou]) (n := 4) (Nat.le_of_ble_eq_true rfl)
  rw [lg_entry_eq]
  generalize (lg_sl ([.ref x, .int p0, .ref ou]) ++ List.replicate (4 - (lg_sl ([.ref x, .int p0, .ref ou])).length) Slot.unset).toArray = ls at hl ⊢
  have hl : lv_has ls 4 [(0, .ref x), (1, .int p0), (2, .ref ou)] := hl
  have k_0 : (0 : Int32).toInt = 0 := by decide
  have k_1 : (1 : Int32).toInt = 1 := by decide
  have k_2 : (2 : Int32).toInt = 2 := by decide
  refine lv_aload_n hx hb dL_best_0 rfl (lv_at hl 2 rfl) ?_
  refine lv_iconst (v := 0) hx hb dL_best_1 (by decide) ?_
  refine lv_aload_n hx hb dL_best_2 rfl (lv_at hl 0 rfl) ?_
  refine lv_iload_n hx hb dL_best_3 rfl (lv_at hl 1 rfl) ?_
  obtain ⟨_, hM_x, bs_x, js_x, sh_x, wk_x, ll_x, jc_x, lc_x, mo_x, lb_x, rfl, hjc_x, hlc_x, hG_bs_x, hG_js_x, hG_sh_x, hG_wk_x, hmo_x, hG_ll_x, hlb_x⟩ := hT _ _ hG_x
  refine x_calli (vx_runV (g := F0 m 4 ls ([.int p0, .ref x, .int (0 : Int32), .ref ou])) (As := [.int p0]) (rest := [.int (0 : Int32), .ref ou]) ⟨hx, hb, hml, hown, hts⟩ (c_X9_best l hst D cy A G ws x p0 hD hT hG_x ) (cwV 1 hts gL_best_X9_best rfl rfl rfl (by decide +kernel) ⟨Nat.le_of_ble_eq_true rfl, Nat.le_of_ble_eq_true rfl⟩) (x_preV hM_x rfl hP hK hA hS hV hZ hXT) rfl rfl hl.1 rfl (lv_room (Nat.le_of_ble_eq_true rfl)) dL_best_4 ⟨Nat.le_of_ble_eq_true rfl, Nat.le_of_ble_eq_true rfl⟩) hS (fun E9 ce9 q9 u H locs px9 pe9 hP9 hD9 hT9 hS hc9 hv9 hcl9 => ?_) (fun r4 u H locs q4 hP9 hD9 hT9 hS => ?_)
  · skip
    obtain ⟨Gx4, wx4⟩ := u
    have hX9 : cX none (chs [1, 5, 20, 21, 22, 23]) G ws Gx4 wx4 := px9
    have hP : va_P D vwCl wx4 H := hP9
    have hD : va_D A wx4 := hD9
    have hT : cT cy Gx4 wx4 := hT9
    have hX := hX.tr hX9
    rcases pe9 with rfl | rfl
    · skip
      refine vx_catch (own := RL) (name := xIA) (E := xIA) hown [] ⟨0, 9, 12, 13⟩ [⟨0, 9, 15, 15⟩] htab (fun z9 h9 => by simp at h9) (by decide) (by decide) (hts (.classLink RL 13 xIA) (by decide +kernel)) (hXT.1.2.1.use rfl) hc9 hv9 hcl9 ?_
      refine lv_astore_n (lv' := [(3, .ref q9), (0, .ref x), (1, .int p0), (2, .ref ou)]) hx hb dL_best_12 rfl hl (by decide) rfl (fun ls hl => ?_)
      refine lv_iconst (v := 1) hx hb dL_best_13 (by decide) ?_
      refine W.widen (k := 2) (n := 12) (Nat.le_of_ble_eq_true rfl) (Nat.le_of_ble_eq_true rfl) ?_
      exact W.iret (v := (1 : Int32)) hx hb hr (fun t ht hW => ⟨⟨_, (Gx4, wx4), rfl, ⟨hX, trivial⟩, by show va_P D vwCl wx4 t.heap; rw [ht]; exact hP, hD, hT⟩, hS.F ht⟩) hS.2.2 dL_best_14
    · skip
      refine vx_catch (own := RL) (name := xIS) (E := xIS) hown [⟨0, 9, 12, 13⟩] ⟨0, 9, 15, 15⟩ [] htab (fun z9 h9 => by rcases List.mem_cons.mp h9 with rfl | h9; exact Or.inr ⟨by decide, xIA, hts (.classLink RL 13 xIA) (by decide +kernel), hXT.2.1.2.2.2⟩; simp at h9) (by decide) (by decide) (hts (.classLink RL 15 xIS) (by decide +kernel)) (hXT.1.2.2.1.use rfl) hc9 hv9 hcl9 ?_
      refine lv_astore_n (lv' := [(3, .ref q9), (0, .ref x), (1, .int p0), (2, .ref ou)]) hx hb dL_best_15 rfl hl (by decide) rfl (fun ls hl => ?_)
      refine lv_iconst (v := 2) hx hb dL_best_16 (by decide) ?_
      refine W.widen (k := 2) (n := 12) (Nat.le_of_ble_eq_true rfl) (Nat.le_of_ble_eq_true rfl) ?_
      exact W.iret (v := (2 : Int32)) hx hb hr (fun t ht hW => ⟨⟨_, (Gx4, wx4), rfl, ⟨hX, trivial⟩, by show va_P D vwCl wx4 t.heap; rw [ht]; exact hP, hD, hT⟩, hS.F ht⟩) hS.2.2 dL_best_17
  obtain ⟨G4, w4⟩ := u
  obtain ⟨hX9, q4⟩ := q4
  have hX9 : cX none (chs [1, 5, 20, 21, 22, 23]) G ws G4 w4 := hX9
  have hP : va_P D vwCl w4 H := hP9
  have hD : va_D A w4 := hD9
  have hT : cT cy G4 w4 := hT9
  have hM_x := hX9.2.1 _ _ (cP.no hG_x rfl) hM_x
  have hG_x := hX9.1 _ _ hG_x
  have hG_ou := hX9.1 _ _ hG_ou
  have hG_bs_x := hX9.1 _ _ hG_bs_x
  have hG_js_x := hX9.1 _ _ hG_js_x
  have hG_sh_x := hX9.1 _ _ hG_sh_x
  have hG_wk_x := hX9.1 _ _ hG_wk_x
  have hG_ll_x := hX9.1 _ _ hG_ll_x
  have hX := hX.tr hX9
  refine lv_i2l (v := r4.toInt64) hx hb dL_best_7 rfl ?_
  refine t_last hx hb hK hP hD hS hT (Or.inl rfl) hG_ou (vp_in_iff.mpr ⟨by omega, by omega⟩) dL_best_8 (fun H locs w8 hU8 hP hD hT hS => ?_)
  have hM_x := hU8 _ _ (cne hG_x hG_ou (show (7 : Nat) ≠ 1 by decide)) hM_x
  have hX := hX.tr (cX.uF hU8 (Or.inr ⟨_, hG_ou, rfl⟩))
  refine lv_goto (tgt := 18) hx hb dL_best_9 (by decide) ?_
  refine lv_iconst (v := 0) hx hb dL_best_18 (by decide) ?_
  refine W.widen (k := 2) (n := 12) (Nat.le_of_ble_eq_true rfl) (Nat.le_of_ble_eq_true rfl) ?_
  exact W.iret (v := (0 : Int32)) hx hb hr (fun t ht hW => ⟨⟨_, (G4, w8), rfl, ⟨hX, trivial⟩, by show va_P D vwCl w8 t.heap; rw [ht]; exact hP, hD, hT⟩, hS.F ht⟩) hS.2.2 dL_best_19
set_option maxHeartbeats 4000000 in
set_option maxRecDepth 100000 in
theorem c_L_bestOne (l : Launch) (hst : l.stackTraces = false) (D : va_G) (cy : Nat → ClassId) (A : Nat → Prop) (G : cG) (ws : va_W) (x : Nat) (p0 : Int32) (ou : Nat)  (hD : va_D A ws) (hT : cT cy G ws) (hG_x : G x = some (7, 0, 0)) (hG_ou : G ou = some (1, 1, 0))  : Yi l D cy A yL_bestOne wsL_bestOne ({ frames := 8, cells := 2, slots := 12, locals := 191 }) 2 12 ws [.ref x, .int p0, .ref ou] (fun r0 u => cX none (chs [1, 5, 20, 21, 22, 23]) G ws u.1 u.2 ∧ (True)) := by
  refine va_MetW (cc := cL_bestOne) (maxL := 4) (ret := (some .int)) (by decide) rfl ?_
  intro p e s m args below meth c s₁ B hml hv
  obtain ⟨rfl, ⟨hP, hK, hA, hV⟩, hZ, hXT⟩ := hv
  have hx := B.exec
  have hb := B.bytes
  have hr := B.returns
  have hts := atoms_spec (ws := wsL_bestOne) B.pre
  have hown : s.vm.findClass RL = some m.cls := findClass_of_methodNamed B.named
  have hlocks := B.notSynchronized
  have htab := vx_table (x := yL_bestOne) B (hts (.codeWith yL_bestOne cL_bestOne 4 (some .int) [(0, 8, 11, 13), (0, 8, 14, 15)]) (by decide +kernel))
  have hS : va_S A s.heap s.heap [] := va_S.rf
  have hX : cX none (chs [1, 5, 20, 21, 22, 23]) G ws G ws := cX.rf
  have hl := lv_entry ([.ref x, .int p0, .ref ou]) (n := 4) (Nat.le_of_ble_eq_true rfl)
  rw [lg_entry_eq]
  generalize (lg_sl ([.ref x, .int p0, .ref ou]) ++ List.replicate (4 - (lg_sl ([.ref x, .int p0, .ref ou])).length) Slot.unset).toArray = ls at hl ⊢
  have hl : lv_has ls 4 [(0, .ref x), (1, .int p0), (2, .ref ou)] := hl
  have k_0 : (0 : Int32).toInt = 0 := by decide
  have k_1 : (1 : Int32).toInt = 1 := by decide
  have k_2 : (2 : Int32).toInt = 2 := by decide
  refine lv_aload_n hx hb dL_bestOne_0 rfl (lv_at hl 2 rfl) ?_
  refine lv_iconst (v := 0) hx hb dL_bestOne_1 (by decide) ?_
  refine lv_aload_n hx hb dL_bestOne_2 rfl (lv_at hl 0 rfl) ?_
  refine lv_iload_n hx hb dL_bestOne_3 rfl (lv_at hl 1 rfl) ?_
  obtain ⟨_, hM_x, bs_x, js_x, sh_x, wk_x, ll_x, jc_x, lc_x, mo_x, lb_x, rfl, hjc_x, hlc_x, hG_bs_x, hG_js_x, hG_sh_x, hG_wk_x, hmo_x, hG_ll_x, hlb_x⟩ := hT _ _ hG_x
  refine x_calll (vx_runV (g := F0 m 4 ls ([.int p0, .ref x, .int (0 : Int32), .ref ou])) (As := [.int p0]) (rest := [.int (0 : Int32), .ref ou]) ⟨hx, hb, hml, hown, hts⟩ (c_X9_bestOne l hst D cy A G ws x p0 hD hT hG_x ) (cwV 1 hts gL_bestOne_X9_bestOne rfl rfl rfl (by decide +kernel) ⟨Nat.le_of_ble_eq_true rfl, Nat.le_of_ble_eq_true rfl⟩) (x_preV hM_x rfl hP hK hA hS hV hZ hXT) rfl rfl hl.1 rfl (lv_room (Nat.le_of_ble_eq_true rfl)) dL_bestOne_4 ⟨Nat.le_of_ble_eq_true rfl, Nat.le_of_ble_eq_true rfl⟩) hS (fun E9 ce9 q9 u H locs px9 pe9 hP9 hD9 hT9 hS hc9 hv9 hcl9 => ?_) (fun r4 u H locs q4 hP9 hD9 hT9 hS => ?_)
  · skip
    obtain ⟨Gx4, wx4⟩ := u
    have hX9 : cX none (chs [1, 5, 20, 21, 22, 23]) G ws Gx4 wx4 := px9
    have hP : va_P D vwCl wx4 H := hP9
    have hD : va_D A wx4 := hD9
    have hT : cT cy Gx4 wx4 := hT9
    have hX := hX.tr hX9
    rcases pe9 with rfl | rfl
    · skip
      refine vx_catch (own := RL) (name := xIA) (E := xIA) hown [] ⟨0, 8, 11, 13⟩ [⟨0, 8, 14, 15⟩] htab (fun z9 h9 => by simp at h9) (by decide) (by decide) (hts (.classLink RL 13 xIA) (by decide +kernel)) (hXT.1.2.1.use rfl) hc9 hv9 hcl9 ?_
      refine lv_astore_n (lv' := [(3, .ref q9), (0, .ref x), (1, .int p0), (2, .ref ou)]) hx hb dL_bestOne_11 rfl hl (by decide) rfl (fun ls hl => ?_)
      refine lv_iconst (v := 1) hx hb dL_bestOne_12 (by decide) ?_
      refine W.widen (k := 2) (n := 12) (Nat.le_of_ble_eq_true rfl) (Nat.le_of_ble_eq_true rfl) ?_
      exact W.iret (v := (1 : Int32)) hx hb hr (fun t ht hW => ⟨⟨_, (Gx4, wx4), rfl, ⟨hX, trivial⟩, by show va_P D vwCl wx4 t.heap; rw [ht]; exact hP, hD, hT⟩, hS.F ht⟩) hS.2.2 dL_bestOne_13
    · skip
      refine vx_catch (own := RL) (name := xIS) (E := xIS) hown [⟨0, 8, 11, 13⟩] ⟨0, 8, 14, 15⟩ [] htab (fun z9 h9 => by rcases List.mem_cons.mp h9 with rfl | h9; exact Or.inr ⟨by decide, xIA, hts (.classLink RL 13 xIA) (by decide +kernel), hXT.2.1.2.2.2⟩; simp at h9) (by decide) (by decide) (hts (.classLink RL 15 xIS) (by decide +kernel)) (hXT.1.2.2.1.use rfl) hc9 hv9 hcl9 ?_
      refine lv_astore_n (lv' := [(3, .ref q9), (0, .ref x), (1, .int p0), (2, .ref ou)]) hx hb dL_bestOne_14 rfl hl (by decide) rfl (fun ls hl => ?_)
      refine lv_iconst (v := 2) hx hb dL_bestOne_15 (by decide) ?_
      refine W.widen (k := 2) (n := 12) (Nat.le_of_ble_eq_true rfl) (Nat.le_of_ble_eq_true rfl) ?_
      exact W.iret (v := (2 : Int32)) hx hb hr (fun t ht hW => ⟨⟨_, (Gx4, wx4), rfl, ⟨hX, trivial⟩, by show va_P D vwCl wx4 t.heap; rw [ht]; exact hP, hD, hT⟩, hS.F ht⟩) hS.2.2 dL_bestOne_16
  obtain ⟨G4, w4⟩ := u
  obtain ⟨hX9, q4⟩ := q4
  have hX9 : cX none (chs [1, 5, 20, 21, 22, 23]) G ws G4 w4 := hX9
  have hP : va_P D vwCl w4 H := hP9
  have hD : va_D A w4 := hD9
  have hT : cT cy G4 w4 := hT9
  have hM_x := hX9.2.1 _ _ (cP.no hG_x rfl) hM_x
  have hG_x := hX9.1 _ _ hG_x
  have hG_ou := hX9.1 _ _ hG_ou
  have hG_bs_x := hX9.1 _ _ hG_bs_x
  have hG_js_x := hX9.1 _ _ hG_js_x
  have hG_sh_x := hX9.1 _ _ hG_sh_x
  have hG_wk_x := hX9.1 _ _ hG_wk_x
  have hG_ll_x := hX9.1 _ _ hG_ll_x
  have hX := hX.tr hX9
  refine t_last hx hb hK hP hD hS hT (Or.inl rfl) hG_ou (vp_in_iff.mpr ⟨by omega, by omega⟩) dL_bestOne_7 (fun H locs w7 hU7 hP hD hT hS => ?_)
  have hM_x := hU7 _ _ (cne hG_x hG_ou (show (7 : Nat) ≠ 1 by decide)) hM_x
  have hX := hX.tr (cX.uF hU7 (Or.inr ⟨_, hG_ou, rfl⟩))
  refine lv_goto (tgt := 17) hx hb dL_bestOne_8 (by decide) ?_
  refine lv_iconst (v := 0) hx hb dL_bestOne_17 (by decide) ?_
  refine W.widen (k := 2) (n := 12) (Nat.le_of_ble_eq_true rfl) (Nat.le_of_ble_eq_true rfl) ?_
  exact W.iret (v := (0 : Int32)) hx hb hr (fun t ht hW => ⟨⟨_, (G4, w7), rfl, ⟨hX, trivial⟩, by show va_P D vwCl w7 t.heap; rw [ht]; exact hP, hD, hT⟩, hS.F ht⟩) hS.2.2 dL_bestOne_18
set_option maxHeartbeats 4000000 in
set_option maxRecDepth 100000 in
theorem c_L_ghost (l : Launch) (hst : l.stackTraces = false) (D : va_G) (cy : Nat → ClassId) (A : Nat → Prop) (G : cG) (ws : va_W) (x : Nat) (p0 : Int32) (p1 : Int32) (p2 : Int32) (ou : Nat)  (hD : va_D A ws) (hT : cT cy G ws) (hG_x : G x = some (7, 0, 0)) (hG_ou : G ou = some (1, 1, 0))  : Yi l D cy A yL_ghost wsL_ghost ({ frames := 7, cells := 1, slots := 6, locals := 144 }) 1 6 ws [.ref x, .int p0, .int p1, .int p2, .ref ou] (fun r0 u => cX none (chs [1]) G ws u.1 u.2 ∧ (True)) := by
  refine va_MetW (cc := cL_ghost) (maxL := 6) (ret := (some .int)) (by decide) rfl ?_
  intro p e s m args below meth c s₁ B hml hv
  obtain ⟨rfl, ⟨hP, hK, hA, hV⟩, hZ, hXT⟩ := hv
  have hx := B.exec
  have hb := B.bytes
  have hr := B.returns
  have hts := atoms_spec (ws := wsL_ghost) B.pre
  have hown : s.vm.findClass RL = some m.cls := findClass_of_methodNamed B.named
  have hlocks := B.notSynchronized
  have htab := vx_table (x := yL_ghost) B (hts (.codeWith yL_ghost cL_ghost 6 (some .int) [(0, 12, 15, 13)]) (by decide +kernel))
  have hS : va_S A s.heap s.heap [] := va_S.rf
  have hX : cX none (chs [1]) G ws G ws := cX.rf
  have hl := lv_entry ([.ref x, .int p0, .int p1, .int p2, .ref ou]) (n := 6) (Nat.le_of_ble_eq_true rfl)
  rw [lg_entry_eq]
  generalize (lg_sl ([.ref x, .int p0, .int p1, .int p2, .ref ou]) ++ List.replicate (6 - (lg_sl ([.ref x, .int p0, .int p1, .int p2, .ref ou])).length) Slot.unset).toArray = ls at hl ⊢
  have hl : lv_has ls 6 [(0, .ref x), (1, .int p0), (2, .int p1), (3, .int p2), (4, .ref ou)] := hl
  have k_0 : (0 : Int32).toInt = 0 := by decide
  have k_1 : (1 : Int32).toInt = 1 := by decide
  refine lv_aload hx hb dL_ghost_0 (lv_at hl 4 rfl) ?_
  refine lv_iconst (v := 0) hx hb dL_ghost_2 (by decide) ?_
  refine lv_aload_n hx hb dL_ghost_3 rfl (lv_at hl 0 rfl) ?_
  refine lv_iload_n hx hb dL_ghost_4 rfl (lv_at hl 1 rfl) ?_
  refine lv_iload_n hx hb dL_ghost_5 rfl (lv_at hl 2 rfl) ?_
  refine lv_iload_n hx hb dL_ghost_6 rfl (lv_at hl 3 rfl) ?_
  obtain ⟨_, hM_x, bs_x, js_x, sh_x, wk_x, ll_x, jc_x, lc_x, mo_x, lb_x, rfl, hjc_x, hlc_x, hG_bs_x, hG_js_x, hG_sh_x, hG_wk_x, hmo_x, hG_ll_x, hlb_x⟩ := hT _ _ hG_x
  refine x_calli (vx_runV (g := F0 m 7 ls ([.int p2, .int p1, .int p0, .ref x, .int (0 : Int32), .ref ou])) (As := [.int p0, .int p1, .int p2]) (rest := [.int (0 : Int32), .ref ou]) ⟨hx, hb, hml, hown, hts⟩ (c_X9_ghost l hst D cy A G ws x p0 p1 p2 hD hT hG_x ) (cwV 3 hts gL_ghost_X9_ghost rfl rfl rfl (by decide +kernel) ⟨Nat.le_of_ble_eq_true rfl, Nat.le_of_ble_eq_true rfl⟩) (x_preV hM_x rfl hP hK hA hS hV hZ hXT) rfl rfl hl.1 rfl (lv_room (Nat.le_of_ble_eq_true rfl)) dL_ghost_7 ⟨Nat.le_of_ble_eq_true rfl, Nat.le_of_ble_eq_true rfl⟩) hS (fun E9 ce9 q9 u H locs px9 pe9 hP9 hD9 hT9 hS hc9 hv9 hcl9 => ?_) (fun r7 u H locs q7 hP9 hD9 hT9 hS => ?_)
  · skip
    obtain rfl := px9
    have hP : va_P D vwCl ws H := hP9
    obtain rfl := pe9
    refine vx_catch (own := RL) (name := xIA) (E := xIA) hown [] ⟨0, 12, 15, 13⟩ [] htab (fun z9 h9 => by simp at h9) (by decide) (by decide) (hts (.classLink RL 13 xIA) (by decide +kernel)) (hXT.1.2.1.use rfl) hc9 hv9 hcl9 ?_
    refine lv_astore (lv' := [(5, .ref q9), (0, .ref x), (1, .int p0), (2, .int p1), (3, .int p2), (4, .ref ou)]) hx hb dL_ghost_15 hl (by decide) rfl (fun ls hl => ?_)
    refine lv_iconst (v := 1) hx hb dL_ghost_17 (by decide) ?_
    refine W.widen (k := 1) (n := 6) (Nat.le_of_ble_eq_true rfl) (Nat.le_of_ble_eq_true rfl) ?_
    exact W.iret (v := (1 : Int32)) hx hb hr (fun t ht hW => ⟨⟨_, (G, ws), rfl, ⟨hX, trivial⟩, by show va_P D vwCl ws t.heap; rw [ht]; exact hP, hD, hT⟩, hS.F ht⟩) hS.2.2 dL_ghost_18
  obtain ⟨rfl, q7⟩ := q7
  have hP : va_P D vwCl ws H := hP9
  refine lv_i2l (v := r7.toInt64) hx hb dL_ghost_10 rfl ?_
  refine t_last hx hb hK hP hD hS hT (Or.inl rfl) hG_ou (vp_in_iff.mpr ⟨by omega, by omega⟩) dL_ghost_11 (fun H locs w11 hU11 hP hD hT hS => ?_)
  have hM_x := hU11 _ _ (cne hG_x hG_ou (show (7 : Nat) ≠ 1 by decide)) hM_x
  have hX := hX.tr (cX.uF hU11 (Or.inr ⟨_, hG_ou, rfl⟩))
  refine lv_goto (tgt := 19) hx hb dL_ghost_12 (by decide) ?_
  refine lv_iconst (v := 0) hx hb dL_ghost_19 (by decide) ?_
  refine W.widen (k := 1) (n := 6) (Nat.le_of_ble_eq_true rfl) (Nat.le_of_ble_eq_true rfl) ?_
  exact W.iret (v := (0 : Int32)) hx hb hr (fun t ht hW => ⟨⟨_, (G, w11), rfl, ⟨hX, trivial⟩, by show va_P D vwCl w11 t.heap; rw [ht]; exact hP, hD, hT⟩, hS.F ht⟩) hS.2.2 dL_ghost_20
set_option maxHeartbeats 4000000 in
set_option maxRecDepth 100000 in
theorem c_L_element (l : Launch) (hst : l.stackTraces = false) (D : va_G) (cy : Nat → ClassId) (A : Nat → Prop) (G : cG) (ws : va_W) (x : Nat) (p0 : Int32) (p1 : Int32) (ou : Nat)  (hD : va_D A ws) (hT : cT cy G ws) (hG_x : G x = some (7, 0, 0)) (hG_ou : G ou = some (1, 1, 0))  : Yi l D cy A yL_element wsL_element ({ frames := 7, cells := 1, slots := 6, locals := 114 }) 1 6 ws [.ref x, .int p0, .int p1, .ref ou] (fun r0 u => cX none (chs [1]) G ws u.1 u.2 ∧ (True)) := by
  refine va_MetW (cc := cL_element) (maxL := 5) (ret := (some .int)) (by decide) rfl ?_
  intro p e s m args below meth c s₁ B hml hv
  obtain ⟨rfl, ⟨hP, hK, hA, hV⟩, hZ, hXT⟩ := hv
  have hx := B.exec
  have hb := B.bytes
  have hr := B.returns
  have hts := atoms_spec (ws := wsL_element) B.pre
  have hown : s.vm.findClass RL = some m.cls := findClass_of_methodNamed B.named
  have hlocks := B.notSynchronized
  have htab := vx_table (x := yL_element) B (hts (.codeWith yL_element cL_element 5 (some .int) [(0, 9, 12, 13), (0, 9, 16, 15)]) (by decide +kernel))
  have hS : va_S A s.heap s.heap [] := va_S.rf
  have hX : cX none (chs [1]) G ws G ws := cX.rf
  have hl := lv_entry ([.ref x, .int p0, .int p1, .ref ou]) (n := 5) (Nat.le_of_ble_eq_true rfl)
  rw [lg_entry_eq]
  generalize (lg_sl ([.ref x, .int p0, .int p1, .ref ou]) ++ List.replicate (5 - (lg_sl ([.ref x, .int p0, .int p1, .ref ou])).length) Slot.unset).toArray = ls at hl ⊢
  have hl : lv_has ls 5 [(0, .ref x), (1, .int p0), (2, .int p1), (3, .ref ou)] := hl
  have k_0 : (0 : Int32).toInt = 0 := by decide
  have k_1 : (1 : Int32).toInt = 1 := by decide
  have k_2 : (2 : Int32).toInt = 2 := by decide
  refine lv_aload_n hx hb dL_element_0 rfl (lv_at hl 3 rfl) ?_
  refine lv_iconst (v := 0) hx hb dL_element_1 (by decide) ?_
  refine lv_aload_n hx hb dL_element_2 rfl (lv_at hl 0 rfl) ?_
  refine lv_iload_n hx hb dL_element_3 rfl (lv_at hl 1 rfl) ?_
  refine lv_iload_n hx hb dL_element_4 rfl (lv_at hl 2 rfl) ?_
  obtain ⟨_, hM_x, bs_x, js_x, sh_x, wk_x, ll_x, jc_x, lc_x, mo_x, lb_x, rfl, hjc_x, hlc_x, hG_bs_x, hG_js_x, hG_sh_x, hG_wk_x, hmo_x, hG_ll_x, hlb_x⟩ := hT _ _ hG_x
  refine x_calll (vx_runV (g := F0 m 5 ls ([.int p1, .int p0, .ref x, .int (0 : Int32), .ref ou])) (As := [.int p0, .int p1]) (rest := [.int (0 : Int32), .ref ou]) ⟨hx, hb, hml, hown, hts⟩ (c_X9_element l hst D cy A G ws x p0 p1 hD hT hG_x ) (cwV 2 hts gL_element_X9_element rfl rfl rfl (by decide +kernel) ⟨Nat.le_of_ble_eq_true rfl, Nat.le_of_ble_eq_true rfl⟩) (x_preV hM_x rfl hP hK hA hS hV hZ hXT) rfl rfl hl.1 rfl (lv_room (Nat.le_of_ble_eq_true rfl)) dL_element_5 ⟨Nat.le_of_ble_eq_true rfl, Nat.le_of_ble_eq_true rfl⟩) hS (fun E9 ce9 q9 u H locs px9 pe9 hP9 hD9 hT9 hS hc9 hv9 hcl9 => ?_) (fun r5 u H locs q5 hP9 hD9 hT9 hS => ?_)
  · skip
    obtain rfl := px9
    have hP : va_P D vwCl ws H := hP9
    rcases pe9 with rfl | rfl
    · skip
      refine vx_catch (own := RL) (name := xIA) (E := xIA) hown [] ⟨0, 9, 12, 13⟩ [⟨0, 9, 16, 15⟩] htab (fun z9 h9 => by simp at h9) (by decide) (by decide) (hts (.classLink RL 13 xIA) (by decide +kernel)) (hXT.1.2.1.use rfl) hc9 hv9 hcl9 ?_
      refine lv_astore (lv' := [(4, .ref q9), (0, .ref x), (1, .int p0), (2, .int p1), (3, .ref ou)]) hx hb dL_element_12 hl (by decide) rfl (fun ls hl => ?_)
      refine lv_iconst (v := 1) hx hb dL_element_14 (by decide) ?_
      refine W.widen (k := 1) (n := 6) (Nat.le_of_ble_eq_true rfl) (Nat.le_of_ble_eq_true rfl) ?_
      exact W.iret (v := (1 : Int32)) hx hb hr (fun t ht hW => ⟨⟨_, (G, ws), rfl, ⟨hX, trivial⟩, by show va_P D vwCl ws t.heap; rw [ht]; exact hP, hD, hT⟩, hS.F ht⟩) hS.2.2 dL_element_15
    · skip
      refine vx_catch (own := RL) (name := xIS) (E := xIS) hown [⟨0, 9, 12, 13⟩] ⟨0, 9, 16, 15⟩ [] htab (fun z9 h9 => by rcases List.mem_cons.mp h9 with rfl | h9; exact Or.inr ⟨by decide, xIA, hts (.classLink RL 13 xIA) (by decide +kernel), hXT.2.1.2.2.2⟩; simp at h9) (by decide) (by decide) (hts (.classLink RL 15 xIS) (by decide +kernel)) (hXT.1.2.2.1.use rfl) hc9 hv9 hcl9 ?_
      refine lv_astore (lv' := [(4, .ref q9), (0, .ref x), (1, .int p0), (2, .int p1), (3, .ref ou)]) hx hb dL_element_16 hl (by decide) rfl (fun ls hl => ?_)
      refine lv_iconst (v := 2) hx hb dL_element_18 (by decide) ?_
      refine W.widen (k := 1) (n := 6) (Nat.le_of_ble_eq_true rfl) (Nat.le_of_ble_eq_true rfl) ?_
      exact W.iret (v := (2 : Int32)) hx hb hr (fun t ht hW => ⟨⟨_, (G, ws), rfl, ⟨hX, trivial⟩, by show va_P D vwCl ws t.heap; rw [ht]; exact hP, hD, hT⟩, hS.F ht⟩) hS.2.2 dL_element_19
  obtain ⟨rfl, q5⟩ := q5
  have hP : va_P D vwCl ws H := hP9
  refine t_last hx hb hK hP hD hS hT (Or.inl rfl) hG_ou (vp_in_iff.mpr ⟨by omega, by omega⟩) dL_element_8 (fun H locs w8 hU8 hP hD hT hS => ?_)
  have hM_x := hU8 _ _ (cne hG_x hG_ou (show (7 : Nat) ≠ 1 by decide)) hM_x
  have hX := hX.tr (cX.uF hU8 (Or.inr ⟨_, hG_ou, rfl⟩))
  refine lv_goto (tgt := 20) hx hb dL_element_9 (by decide) ?_
  refine lv_iconst (v := 0) hx hb dL_element_20 (by decide) ?_
  refine W.widen (k := 1) (n := 6) (Nat.le_of_ble_eq_true rfl) (Nat.le_of_ble_eq_true rfl) ?_
  exact W.iret (v := (0 : Int32)) hx hb hr (fun t ht hW => ⟨⟨_, (G, w8), rfl, ⟨hX, trivial⟩, by show va_P D vwCl w8 t.heap; rw [ht]; exact hP, hD, hT⟩, hS.F ht⟩) hS.2.2 dL_element_21
set_option maxHeartbeats 4000000 in
set_option maxRecDepth 100000 in
theorem c_L_weight (l : Launch) (hst : l.stackTraces = false) (D : va_G) (cy : Nat → ClassId) (A : Nat → Prop) (G : cG) (ws : va_W) (x : Nat) (p0 : Int32) (ou : Nat)  (hD : va_D A ws) (hT : cT cy G ws) (hG_x : G x = some (7, 0, 0)) (hG_ou : G ou = some (1, 1, 0))  : Yi l D cy A yL_weight wsL_weight ({ frames := 7, cells := 1, slots := 6, locals := 113 }) 1 6 ws [.ref x, .int p0, .ref ou] (fun r0 u => cX none (chs [1]) G ws u.1 u.2 ∧ (True)) := by
  refine va_MetW (cc := cL_weight) (maxL := 4) (ret := (some .int)) (by decide) rfl ?_
  intro p e s m args below meth c s₁ B hml hv
  obtain ⟨rfl, ⟨hP, hK, hA, hV⟩, hZ, hXT⟩ := hv
  have hx := B.exec
  have hb := B.bytes
  have hr := B.returns
  have hts := atoms_spec (ws := wsL_weight) B.pre
  have hown : s.vm.findClass RL = some m.cls := findClass_of_methodNamed B.named
  have hlocks := B.notSynchronized
  have htab := vx_table (x := yL_weight) B (hts (.codeWith yL_weight cL_weight 4 (some .int) [(0, 9, 12, 13), (0, 9, 15, 15)]) (by decide +kernel))
  have hS : va_S A s.heap s.heap [] := va_S.rf
  have hX : cX none (chs [1]) G ws G ws := cX.rf
  have hl := lv_entry ([.ref x, .int p0, .ref ou]) (n := 4) (Nat.le_of_ble_eq_true rfl)
  rw [lg_entry_eq]
  generalize (lg_sl ([.ref x, .int p0, .ref ou]) ++ List.replicate (4 - (lg_sl ([.ref x, .int p0, .ref ou])).length) Slot.unset).toArray = ls at hl ⊢
  have hl : lv_has ls 4 [(0, .ref x), (1, .int p0), (2, .ref ou)] := hl
  have k_0 : (0 : Int32).toInt = 0 := by decide
  have k_1 : (1 : Int32).toInt = 1 := by decide
  have k_2 : (2 : Int32).toInt = 2 := by decide
  refine lv_aload_n hx hb dL_weight_0 rfl (lv_at hl 2 rfl) ?_
  refine lv_iconst (v := 0) hx hb dL_weight_1 (by decide) ?_
  refine lv_aload_n hx hb dL_weight_2 rfl (lv_at hl 0 rfl) ?_
  refine lv_iload_n hx hb dL_weight_3 rfl (lv_at hl 1 rfl) ?_
  obtain ⟨_, hM_x, bs_x, js_x, sh_x, wk_x, ll_x, jc_x, lc_x, mo_x, lb_x, rfl, hjc_x, hlc_x, hG_bs_x, hG_js_x, hG_sh_x, hG_wk_x, hmo_x, hG_ll_x, hlb_x⟩ := hT _ _ hG_x
  refine x_calli (vx_runV (g := F0 m 4 ls ([.int p0, .ref x, .int (0 : Int32), .ref ou])) (As := [.int p0]) (rest := [.int (0 : Int32), .ref ou]) ⟨hx, hb, hml, hown, hts⟩ (c_X9_weight l hst D cy A G ws x p0 hD hT hG_x ) (cwV 1 hts gL_weight_X9_weight rfl rfl rfl (by decide +kernel) ⟨Nat.le_of_ble_eq_true rfl, Nat.le_of_ble_eq_true rfl⟩) (x_preV hM_x rfl hP hK hA hS hV hZ hXT) rfl rfl hl.1 rfl (lv_room (Nat.le_of_ble_eq_true rfl)) dL_weight_4 ⟨Nat.le_of_ble_eq_true rfl, Nat.le_of_ble_eq_true rfl⟩) hS (fun E9 ce9 q9 u H locs px9 pe9 hP9 hD9 hT9 hS hc9 hv9 hcl9 => ?_) (fun r4 u H locs q4 hP9 hD9 hT9 hS => ?_)
  · skip
    obtain rfl := px9
    have hP : va_P D vwCl ws H := hP9
    rcases pe9 with rfl | rfl
    · skip
      refine vx_catch (own := RL) (name := xIA) (E := xIA) hown [] ⟨0, 9, 12, 13⟩ [⟨0, 9, 15, 15⟩] htab (fun z9 h9 => by simp at h9) (by decide) (by decide) (hts (.classLink RL 13 xIA) (by decide +kernel)) (hXT.1.2.1.use rfl) hc9 hv9 hcl9 ?_
      refine lv_astore_n (lv' := [(3, .ref q9), (0, .ref x), (1, .int p0), (2, .ref ou)]) hx hb dL_weight_12 rfl hl (by decide) rfl (fun ls hl => ?_)
      refine lv_iconst (v := 1) hx hb dL_weight_13 (by decide) ?_
      refine W.widen (k := 1) (n := 6) (Nat.le_of_ble_eq_true rfl) (Nat.le_of_ble_eq_true rfl) ?_
      exact W.iret (v := (1 : Int32)) hx hb hr (fun t ht hW => ⟨⟨_, (G, ws), rfl, ⟨hX, trivial⟩, by show va_P D vwCl ws t.heap; rw [ht]; exact hP, hD, hT⟩, hS.F ht⟩) hS.2.2 dL_weight_14
    · skip
      refine vx_catch (own := RL) (name := xIS) (E := xIS) hown [⟨0, 9, 12, 13⟩] ⟨0, 9, 15, 15⟩ [] htab (fun z9 h9 => by rcases List.mem_cons.mp h9 with rfl | h9; exact Or.inr ⟨by decide, xIA, hts (.classLink RL 13 xIA) (by decide +kernel), hXT.2.1.2.2.2⟩; simp at h9) (by decide) (by decide) (hts (.classLink RL 15 xIS) (by decide +kernel)) (hXT.1.2.2.1.use rfl) hc9 hv9 hcl9 ?_
      refine lv_astore_n (lv' := [(3, .ref q9), (0, .ref x), (1, .int p0), (2, .ref ou)]) hx hb dL_weight_15 rfl hl (by decide) rfl (fun ls hl => ?_)
      refine lv_iconst (v := 2) hx hb dL_weight_16 (by decide) ?_
      refine W.widen (k := 1) (n := 6) (Nat.le_of_ble_eq_true rfl) (Nat.le_of_ble_eq_true rfl) ?_
      exact W.iret (v := (2 : Int32)) hx hb hr (fun t ht hW => ⟨⟨_, (G, ws), rfl, ⟨hX, trivial⟩, by show va_P D vwCl ws t.heap; rw [ht]; exact hP, hD, hT⟩, hS.F ht⟩) hS.2.2 dL_weight_17
  obtain ⟨rfl, q4⟩ := q4
  have hP : va_P D vwCl ws H := hP9
  refine lv_i2l (v := r4.toInt64) hx hb dL_weight_7 rfl ?_
  refine t_last hx hb hK hP hD hS hT (Or.inl rfl) hG_ou (vp_in_iff.mpr ⟨by omega, by omega⟩) dL_weight_8 (fun H locs w8 hU8 hP hD hT hS => ?_)
  have hM_x := hU8 _ _ (cne hG_x hG_ou (show (7 : Nat) ≠ 1 by decide)) hM_x
  have hX := hX.tr (cX.uF hU8 (Or.inr ⟨_, hG_ou, rfl⟩))
  refine lv_goto (tgt := 18) hx hb dL_weight_9 (by decide) ?_
  refine lv_iconst (v := 0) hx hb dL_weight_18 (by decide) ?_
  refine W.widen (k := 1) (n := 6) (Nat.le_of_ble_eq_true rfl) (Nat.le_of_ble_eq_true rfl) ?_
  exact W.iret (v := (0 : Int32)) hx hb hr (fun t ht hW => ⟨⟨_, (G, w8), rfl, ⟨hX, trivial⟩, by show va_P D vwCl w8 t.heap; rw [ht]; exact hP, hD, hT⟩, hS.F ht⟩) hS.2.2 dL_weight_19
