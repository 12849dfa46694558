/-- what make answers -/
def mkAns (d what n : Int32) : Int32 := if (0 ≤ d.toInt ∧ d.toInt < 8) ∧ (3 ≤ what.toInt ∧ what.toInt ≤ 4) ∧ n.toInt ≤ 60 then (if n.toInt < 0 then -14 else 0) else -1
/-- a method that takes room by what it does: k cells of n slots -/
def MetV (l : Launch) (y : MethodName) (wc : List Cond) (rm : Room) (Pc : Array Value → State → Prop) (Qk : Nat → Nat → Array Value → State → Outcome → State → Prop) (free : Addr → Prop) : Prop :=
  MetFree l y (headSpec wc rm) Pc (fun _ _ _ _ _ => True) (fun a st o t => ∃ k n, Qk k n a st o t ∧ ∃ L, FrameEnd st o t L k n ∧ ∀ q ∈ L, free q.base)
def MQV (below : List Frame) (Qk : Nat → Nat → Array Value → State → Outcome → State → Prop) (a : Array Value) (s : State) (free : Addr → Prop) : State → Prop := fun t =>
  ∃ o, t.status = .running ∧ Ended t below o ∧ ∃ k n, Qk k n a s o t ∧ ∃ L, FrameEnd s o t L k n ∧ ∀ q ∈ L, free q.base
theorem MQV.of {below : List Frame} {Qk : Nat → Nat → Array Value → State → Outcome → State → Prop} {a : Array Value} {s : State} {free : Addr → Prop} {k n : Nat} {t : State} (h : MQ below (Qk k n) a s k n free t) : MQV below Qk a s free t := by
  obtain ⟨o, h1, h2, h3, h4⟩ := h
  exact ⟨o, h1, h2, k, n, h3, h4⟩
theorem MetV.ofW {l : Launch} {y : MethodName} {wc ws' : List Cond} {rm : Room} {Pc : Array Value → State → Prop} {Qk : Nat → Nat → Array Value → State → Outcome → State → Prop} {free : Addr → Prop} {cc : ByteArray} {maxL : Nat} {ret : Option FieldType}
    (hy : plainName y.cls = true) (hw : wc = Cond.code y cc maxL ret :: ws')
    (body : ∀ p e s m args below meth c s₁, BodyLoose p l y (headSpec wc rm) cc maxL ret e s m args below meth c s₁ → c.maxLocals = maxL → Pc args s →
      W p l e (headSpec wc rm).room s m args below meth c s.heap [] 0 0 (MQV below Qk args s free) (entryFrame m args maxL)) : MetV l y wc rm Pc Qk free := by
  refine MetFree.of_bodyS (code := cc) (maxLocals := maxL) (ret := ret) hy ?_ ?_
  · intro args s m h hn
    obtain ⟨meth, c, h1, h2, h3, h4, h5, h6, -, -⟩ := Cond.code_spec hn (atoms_spec (ws := wc) h _ (by rw [hw]; exact List.mem_cons_self))
    exact ⟨meth, c, h1, h2, h3, h4, h5, h6⟩
  · intro p e s m args below meth c s₁ B hml hP _
    have hh0 : s₁.heap = s.heap := by rw [B.state]; rfl
    obtain ⟨t, a1, o, b1, b2, b3⟩ := body p e s m args below meth c s₁ B hml hP s₁ hh0 (Stand.of_body B)
    exact ⟨t, o, a1, b1, b2, b3⟩
section VYB
variable {p : Program} {l : Launch} {e : Env} {R : Room} {s : State} {m : MethodId} {args : Array Value} {below : List Frame} {meth : Method} {c : Code} {H : Heap} {locs : List Loc} {cells slots : Nat} {Q : State → Prop}
theorem W.toV {Qk : Nat → Nat → Array Value → State → Outcome → State → Prop} {a : Array Value} {free : Addr → Prop} {k n : Nat} {g : JFrame} (h : W p l e R s m args below meth c H locs cells slots (MQ below (Qk k n) a s k n free) g) : W p l e R s m args below meth c H locs cells slots (MQV below Qk a s free) g := by
  intro T hT X
  obtain ⟨t, a1, b1⟩ := h T hT X
  exact ⟨t, a1, MQV.of b1⟩
variable {y : MethodName} {bytes cc : ByteArray} {maxL nL n index mc ms len W9 : Nat} {ret : Option FieldType} {wc Ts : List Cond} {rm : Room} {own C : String} {b : Nat} {As rest st0 : List Value} {Pc : Array Value → State → Prop} {Qk : Nat → Nat → Array Value → State → Outcome → State → Prop} {free : Addr → Prop} {sargs : Array Value} {pc : Nat} {ls : Array Slot}
theorem backV (hM : MetV l y wc rm Pc Qk free) (hblind : FrameBlind Pc) (hrc : rm.cells = mc) (hrs : rm.slots = ms)
    (hframes : rm.frames + 1 ≤ R.frames) (hlocals : W9 + (maxL + 11) + rm.locals ≤ R.locals)
    (hws : ∀ w ∈ wc, ∀ a' U, s.WarmedH U.vm → w.before a' U = true) (hcode : Cond.code y bytes maxL ret ∈ wc) (hinit : ∀ a' U, s.WarmedH U.vm → (Cond.initialized y.cls).before a' U = true) :
    Back l R p e below s sargs y len W9 (PreOf R mc ms Pc) (fun A a v B => ∃ k n, PostOf (Qk k n) k n free A a v B) := by
  refine Back.of_free (S := headSpec wc rm) (P := Pc) (K := fun _ _ _ _ _ => True) (Q := fun a st o t => ∃ k n, Qk k n a st o t ∧ ∃ L, FrameEnd st o t L k n ∧ ∀ q ∈ L, free q.base) (bytes := bytes) (maxL := maxL) (ret := ret)
    (E := fun a st o t L k n => Qk k n a st o t ∧ ∀ q ∈ L, free q.base) hM hframes hlocals ?_ ?_ (fun _ _ _ _ _ _ _ _ _ => trivial) ?_ ?_
  · intro m meth c A a X hp
    exact ⟨atoms_intro fun w hw => hws w hw _ _ X.warmed, hws _ hcode _ _ X.warmed, hinit _ _ X.warmed, by rw [show (headSpec wc rm).room.cells = mc from hrc]; exact hp.1, by rw [show (headSpec wc rm).room.slots = ms from hrs]; exact hp.2.1⟩
  · intro m meth c A a g mk X hp
    exact hblind _ _ _ _ hp.2.2
  · intro a st o t ⟨k, n, hq, L, hF, hL⟩
    exact ⟨L, k, n, hF, hq, hL⟩
  · intro m meth c A a g mk v t L k n X hp hq hF ⟨e1, hL⟩
    exact ⟨k, n, g, mk, t, L, rfl, rfl, e1, rfl, hL, rfl, rfl⟩
/-- a virtual call of a method that takes room by what it does, and answers an int -/
theorem t_callV {D : va_G} {cy : Nat → ClassId} {A : Nat → Prop} {H0 : Heap} {post : Nat → Nat → Int32 → cS → Prop} (S : CallFix p m c cc nL s args Ts own) (hM : MetV l y wc rm Pc (fun k n => va_Qi (post k n) (cB D cy A) A) A) (cw : CallW R s args own C index y bytes maxL ret wc rm mc ms n) (hp : PreV s H C b Pc As)
    (hn : As.length = n) (hsize : ls.size = nL) (hstack : st0 = As.reverse ++ .ref b :: rest) (hW : (rest.map fun v => v.category).sum ≤ 8) (hdg : decode cc pc = .ok (.invokevirtual index, 3)) (hf : cells + mc ≤ R.cells ∧ slots + ms ≤ R.slots) (hS : va_S A H0 H locs)
    (kk : ∀ (k n : Nat) (r : Int32) (u : cS) (H1 : Heap) (locs1 : List Loc), post k n r u → va_P D vwCl u.2 H1 → va_D A u.2 → cT cy u.1 u.2 → va_S A H0 H1 locs1 → W p l e R s m args below meth c H1 locs1 (cells + k) (slots + n) Q (F0 m (pc + 3) ls (.int r :: rest))) : W p l e R s m args below meth c H locs cells slots Q (F0 m pc ls st0) := by
  obtain ⟨⟨hrc, hrs, hfr, hlo, hws, hcw, hcode, hini, hy, hlen, hl⟩, hin, hse⟩ := cw
  obtain ⟨hx, hb, hml, ho, -⟩ := S
  obtain ⟨hbl, ⟨cellB, hcB, hoB, hclB⟩, hPc⟩ := hp
  have hK : Back l R p e below s args y 3 8 (PreOf R mc ms Pc) (fun A' a v B => ∃ k n, PostOf (va_Qi (post k n) (cB D cy A) A) k n A A' a v B) := backV (bytes := bytes) (maxL := maxL) (ret := ret) hM hbl hrc hrs hfr hlo hws hcw (fun a' U hW => word_at hW (Or.inl (by first | rfl | simp [Cond.onTables, Cond.keeps, Cond.steady])) hini)
  intro T hT X
  obtain ⟨v, vm₁, ⟨U', l2, c2, s2⟩, hW₁, X', ⟨k9, n9, g', mk, t, L, e1, e2, hq, h1, hL, h2, h3⟩, st⟩ := callV X hx (C := C) (bytes := bytes) (maxL := maxL) (ret := ret) ho hl hin hse hcode hy hK (by rw [hT]; exact hcB) hoB hclB (g := F0 m pc ls st0) rfl (hsize.trans hml.symm) (argsL := As) (rest := rest) (fun sig h => hn.trans (hlen sig h)) hstack (lv_room hW) (by rw [hb]; exact hdg)
    (fun vm₁ hW₁ => ⟨hf.1, hf.2, hPc (T.setVm vm₁) hT hW₁⟩)
  dsimp only [Pt.U, Pt.locs, Pt.cells, Pt.slots] at X' e1 e2 h1 h2 h3 st
  subst h1; subst h2; subst h3
  obtain ⟨⟨r, u, hv, hp, hB1, hB2, hB3⟩, hz, hk⟩ := hq
  cases hv
  have h0 : ((T.setVm vm₁).calling g' mk (Value.ref b :: As).toArray).heap = H := hT
  rw [h0] at hz hk
  obtain ⟨t2, a1, b1⟩ := kk k9 n9 r u U'.heap (locs ++ L) hp (by rw [e1]; exact hB1) hB2 hB3
    ⟨Nat.le_trans hS.1 (by rw [e1]; exact hz), fun q g1 g2 => by rw [e1, hk q (Nat.lt_of_lt_of_le g1 hS.1) g2]; exact hS.2.1 q g1 g2, fun q hq => by
      rcases List.mem_append.mp hq with h | h
      · exact hS.2.2 q h
      · exact hL q h⟩ U' rfl X'
  exact ⟨t2, st t2 a1, b1⟩
end VYB
set_option maxHeartbeats 4000000 in
set_option maxRecDepth 100000 in
theorem c_X9_far (l : Launch) (D : va_G) (cy : Nat → ClassId) (A : Nat → Prop) (G : cG) (ws : va_W) (o : Nat) (wide : Int32) (high : Int32) (p0 : Int64) (p1 : Int64) {bs_o js_o sh_o wk_o ll_o : Nat} {jc_o lc_o : Int32} {mo_o lb_o : Option Nat} (hD : va_D A ws) (hT : cT cy G ws) (hG_o : G o = some (7, 0, 0)) (hM_o : cIn ws o (.inr (8, [.ref bs_o, .ref js_o, .int jc_o, .ref sh_o, .ref wk_o, va_rf mo_o, .ref ll_o, .int lc_o, va_rf lb_o])))  : MetV l yX9_far wsX9_far ({ frames := 5, cells := 7, slots := 53273, locals := 126 }) (cPc D cy A ws [.ref o, .int wide, .int high, .long p0, .long p1]) (fun k n => va_Qi (fun r0 u => cX none (chs [0, 1, 6, 7, 8]) G ws u.1 u.2 ∧ ((k = 4 ∧ n = 502 ∧ cIn u.2 o (.inr (8, [.ref bs_o, .ref js_o, .int jc_o, .ref sh_o, .ref wk_o, va_rf mo_o, .ref ll_o, .int lc_o, va_rf lb_o]))) ∨ (k = 7 ∧ n = 53273 ∧ mo_o = none ∧ ∃ x, cIn u.2 o (.inr (8, [.ref bs_o, .ref js_o, .int jc_o, .ref sh_o, .ref wk_o, .ref x, .ref ll_o, .int lc_o, va_rf lb_o]))))) (cB D cy A) A) A := by
  refine MetV.ofW (cc := cX9_far) (maxL := 8) (ret := (some .int)) (by decide) rfl ?_
  intro p e s m args below meth c s₁ B hml hv
  obtain ⟨rfl, hP, hK, hA, hV⟩ := hv
  have hx := B.exec
  have hb := B.bytes
  have hr := B.returns
  have hts := atoms_spec (ws := wsX9_far) B.pre
  have hown : s.vm.findClass RX9 = some m.cls := findClass_of_methodNamed B.named
  have hlocks := B.notSynchronized
  have hS : va_S A s.heap s.heap [] := va_S.rf
  have hX : cX none (chs [0, 1, 6, 7, 8]) G ws G ws := cX.rf
  have hl := lv_entry ([.ref o, .int wide, .int high, .long p0, .long p1]) (n := 8) (Nat.le_of_ble_eq_true rfl)
  rw [lg_entry_eq]
  generalize (lg_sl ([.ref o, .int wide, .int high, .long p0, .long p1]) ++ List.replicate (8 - (lg_sl ([.ref o, .int wide, .int high, .long p0, .long p1])).length) Slot.unset).toArray = ls at hl ⊢
  have hl : lv_has ls 8 [(0, .ref o), (1, .int wide), (2, .int high), (3, .long p0), (5, .long p1)] := hl
  have k_m2 : (-2 : Int32).toInt = -2 := by decide
  have k_m1 : (-1 : Int32).toInt = -1 := by decide
  have k_0 : (0 : Int32).toInt = 0 := by decide
  have k_3 : (3 : Int32).toInt = 3 := by decide
  obtain ⟨hjc_o, hlc_o, hG_bs_o, hG_js_o, hG_sh_o, hG_wk_o, hmo_o, hG_ll_o, hlb_o⟩ := w7sh hD hT hG_o hM_o
  refine lv_aload_n hx hb dX9_far_0 rfl (lv_at hl 0 rfl) ?_
  refine lv_iload_n hx hb dX9_far_1 rfl (lv_at hl 1 rfl) ?_
  refine lv_iload_n hx hb dX9_far_2 rfl (lv_at hl 2 rfl) ?_
  refine t_calla (va_runV (g := F0 m 3 ls ([.int high, .int wide, .ref o])) (As := [.int wide, .int high]) (rest := []) ⟨hx, hb, hml, hown, hts⟩ (c_X9_boardOf l D cy A G ws o wide high hD hT hG_o ) (cwV 2 hts gX9_far_X9_boardOf rfl rfl rfl (by decide +kernel) ⟨Nat.le_of_ble_eq_true rfl, Nat.le_of_ble_eq_true rfl⟩) (c_preV hM_o rfl hP hK hA hS hV) rfl rfl hl.1 rfl (lv_room (Nat.le_of_ble_eq_true rfl)) dX9_far_3 ⟨Nat.le_of_ble_eq_true rfl, Nat.le_of_ble_eq_true rfl⟩) hS (fun r3 u H locs q3 hP9 hD9 hT9 hS => ?_)
  obtain ⟨G3, w3⟩ := u
  obtain ⟨hX9, q3⟩ := q3
  have hX9 : cX none (chs [1, 8]) G ws G3 w3 := hX9
  have hP : va_P D vwCl w3 H := hP9
  have hD : va_D A w3 := hD9
  have hT : cT cy G3 w3 := hT9
  have hM_o := hX9.2.1 _ _ (cP.no hG_o rfl) hM_o
  have hG_o := hX9.1 _ _ hG_o
  have hG_bs_o := hX9.1 _ _ hG_bs_o
  have hG_js_o := hX9.1 _ _ hG_js_o
  have hG_sh_o := hX9.1 _ _ hG_sh_o
  have hG_wk_o := hX9.1 _ _ hG_wk_o
  have hG_ll_o := hX9.1 _ _ hG_ll_o
  have hmo_o := fun x9 z9 => hX9.1 _ _ (hmo_o x9 z9)
  have hlb_o : ∀ x9, lb_o = some x9 → ∃ w9 h9, _ = some (2, w9, h9) := fun x9 z9 => (hlb_o x9 z9).elim fun w9 z9 => z9.elim fun h9 z9 => ⟨w9, h9, hX9.1 _ _ z9⟩
  have hX := hX.tr (hX9.wk (chs_sub (by decide)))
  rcases r3 with _ | x3
  · skip
    refine lv_astoreN (lv' := [(7, .null), (0, .ref o), (1, .int wide), (2, .int high), (3, .long p0), (5, .long p1)]) hx hb dX9_far_6 hl (by decide) rfl (fun ls hl => ?_)
    refine lv_aloadN hx hb dX9_far_8 (lv_at hl 0 rfl) ?_
    refine lv_ifnullN (tgt := 32) hx hb dX9_far_10 (by decide) ?_
    refine lv_iconst (v := (-1)) hx hb dX9_far_32 (by decide) ?_
    refine W.toV (k := 4) (n := 502) ?_
    refine W.widen (k := 4) (n := 502) (Nat.le_of_ble_eq_true rfl) (Nat.le_of_ble_eq_true rfl) ?_
    exact W.iret (v := ((-1) : Int32)) hx hb hr (fun t ht hW => ⟨⟨_, (G3, w3), rfl, ⟨hX, Or.inl ⟨rfl, rfl, (by first | exact hM_o | (rw [hopt]; exact hM_o))⟩⟩, by show va_P D vwCl w3 t.heap; rw [ht]; exact hP, hD, hT⟩, hS.F ht⟩) hS.2.2 dX9_far_33
  · skip
    have hG_x3 := q3 x3 rfl
    refine lv_astore (lv' := [(7, .ref x3), (0, .ref o), (1, .int wide), (2, .int high), (3, .long p0), (5, .long p1)]) hx hb dX9_far_6 hl (by decide) rfl (fun ls hl => ?_)
    refine lv_aload hx hb dX9_far_8 (lv_at hl 0 rfl) ?_
    refine lv_ifnull hx hb dX9_far_10 ?_
    refine lv_aload hx hb dX9_far_13 (lv_at hl 0 rfl) ?_
    refine lv_lload_n hx hb dX9_far_15 rfl (lv_at hl 4 rfl) ?_
    obtain ⟨_, hM_x3, hb_x3, l_x3, f_x3, r_x3, rfl, hG_l_x3, hG_f_x3, hG_r_x3⟩ := hT _ _ hG_x3
    refine t_calli (va_runV (g := F0 m 16 ls ([.long p0, .ref x3])) (As := [.long p0]) (rest := []) ⟨hx, hb, hml, hown, hts⟩ (c_X0_isPicture l D cy A G3 w3 x3 p0 hD hT hG_x3 ) (cwV 1 hts gX9_far_X0_isPicture rfl rfl rfl (by decide +kernel) ⟨Nat.le_of_ble_eq_true rfl, Nat.le_of_ble_eq_true rfl⟩) (c_preV hM_x3 rfl hP hK hA hS hV) rfl rfl hl.1 rfl (lv_room (Nat.le_of_ble_eq_true rfl)) dX9_far_16 ⟨Nat.le_of_ble_eq_true rfl, Nat.le_of_ble_eq_true rfl⟩) hS (fun r16 u H locs q16 hP9 hD9 hT9 hS => ?_)
    obtain ⟨rfl, q16⟩ := q16
    have hP : va_P D vwCl w3 H := hP9
    refine lv_if_eq (tgt := 32) hx hb dX9_far_19 (by decide) (fun c19 => ?_) (fun c19 => ?_)
    · skip
      have d19 := c19
      rw [fa_eq] at d19
      refine lv_iconst (v := (-1)) hx hb dX9_far_32 (by decide) ?_
      refine W.toV (k := 4) (n := 502) ?_
      refine W.widen (k := 4) (n := 502) (Nat.le_of_ble_eq_true rfl) (Nat.le_of_ble_eq_true rfl) ?_
      exact W.iret (v := ((-1) : Int32)) hx hb hr (fun t ht hW => ⟨⟨_, (G3, w3), rfl, ⟨hX, Or.inl ⟨rfl, rfl, (by first | exact hM_o | (rw [hopt]; exact hM_o))⟩⟩, by show va_P D vwCl w3 t.heap; rw [ht]; exact hP, hD, hT⟩, hS.F ht⟩) hS.2.2 dX9_far_33
    · skip
      have d19 := c19
      rw [fa_eq] at d19
      refine lv_aload hx hb dX9_far_22 (lv_at hl 0 rfl) ?_
      refine lv_lload hx hb dX9_far_24 (lv_at hl 5 rfl) ?_
      refine t_calli (va_runV (g := F0 m 26 ls ([.long p1, .ref x3])) (As := [.long p1]) (rest := []) ⟨hx, hb, hml, hown, hts⟩ (c_X0_isPicture l D cy A G3 w3 x3 p1 hD hT hG_x3 ) (cwV 1 hts gX9_far_X0_isPicture rfl rfl rfl (by decide +kernel) ⟨Nat.le_of_ble_eq_true rfl, Nat.le_of_ble_eq_true rfl⟩) (c_preV hM_x3 rfl hP hK hA hS hV) rfl rfl hl.1 rfl (lv_room (Nat.le_of_ble_eq_true rfl)) dX9_far_26 ⟨Nat.le_of_ble_eq_true rfl, Nat.le_of_ble_eq_true rfl⟩) hS (fun r26 u H locs q26 hP9 hD9 hT9 hS => ?_)
      obtain ⟨rfl, q26⟩ := q26
      have hP : va_P D vwCl w3 H := hP9
      refine lv_if_ne (tgt := 34) hx hb dX9_far_29 (by decide) (fun c29 => ?_) (fun c29 => ?_)
      · skip
        have d29 := c29
        rw [fa_eq] at d29
        refine lv_aload hx hb dX9_far_34 (lv_at hl 0 rfl) ?_
        refine lv_lload_n hx hb dX9_far_36 rfl (lv_at hl 4 rfl) ?_
        refine lv_lload hx hb dX9_far_37 (lv_at hl 5 rfl) ?_
        refine lv_iconst (v := 3) hx hb dX9_far_39 (by decide) ?_
        refine t_calli (va_runV (g := F0 m 40 ls ([.int (3 : Int32), .long p1, .long p0, .ref x3])) (As := [.long p0, .long p1, .int (3 : Int32)]) (rest := []) ⟨hx, hb, hml, hown, hts⟩ (c_X0_firstUnlikeWay l D cy A G3 w3 x3 p0 p1 (3 : Int32) hD hT hG_x3 ) (cwV 3 hts gX9_far_X0_firstUnlikeWay rfl rfl rfl (by decide +kernel) ⟨Nat.le_of_ble_eq_true rfl, Nat.le_of_ble_eq_true rfl⟩) (c_preV hM_x3 rfl hP hK hA hS hV) rfl rfl hl.1 rfl (lv_room (Nat.le_of_ble_eq_true rfl)) dX9_far_40 ⟨Nat.le_of_ble_eq_true rfl, Nat.le_of_ble_eq_true rfl⟩) hS (fun r40 u H locs q40 hP9 hD9 hT9 hS => ?_)
        obtain ⟨rfl, q40⟩ := q40
        have hP : va_P D vwCl w3 H := hP9
        refine lv_if_lt (tgt := 49) hx hb dX9_far_43 (by decide) (fun c43 => ?_) (fun c43 => ?_)
        · skip
          have d43 := c43
          rw [fa_lt] at d43
          refine lv_lload_n hx hb dX9_far_49 rfl (lv_at hl 4 rfl) ?_
          refine lv_lload hx hb dX9_far_50 (lv_at hl 5 rfl) ?_
          refine W.lcmp hx hb dX9_far_52 ?_
          refine lv_if_ne (tgt := 58) hx hb dX9_far_53 (by decide) (fun c53 => ?_) (fun c53 => ?_)
          · skip
            have d53 := c53
            rw [lg_cmp_eq, fa_eq64] at d53
            refine lv_aload_n hx hb dX9_far_58 rfl (lv_at hl 1 rfl) ?_
            have hoq : mo_o = none ∨ ∃ x, mo_o = some x := by cases mo_o; exact Or.inl rfl; exact Or.inr ⟨_, rfl⟩
            rcases hoq with hopt | ⟨x59, hopt⟩
            · skip
              rw [hopt] at hM_o
              have hM_o : cIn w3 o (.inr (8, [.ref bs_o, .ref js_o, .int jc_o, .ref sh_o, .ref wk_o, .null, .ref ll_o, .int lc_o, va_rf lb_o])) := hM_o
              refine t_get (v := .null) (C := RX9) (T := TX9) (N := 9) hx hb hts (by decide +kernel) hown hK hP hM_o rfl 5 (by decide) (hts (.fieldLink RX9 38 "ShadowBench" "meetings" "LShadowBench$Meetings;") (by decide +kernel)) (fun _ h9 => h9) rfl dX9_far_59 ?_
              refine lv_ifnonnullN hx hb dX9_far_62 ?_
              refine lv_aload_n hx hb dX9_far_65 rfl (lv_at hl 1 rfl) ?_
              refine t_new (C := RX6) (T := TX6) (N := 3) (ci := 5) (ty0 := tyX6) (fs := [.null, .int 0, .null]) hx hb hts (by decide +kernel) tyX6_ok hown (hts (.classLink RX9 187 RX6) (by decide +kernel)) (hts (.instantiable RX6 3) (by decide +kernel)) (hts (.initialized RX6) (by decide +kernel)) hK hP hD hS hA hT rfl (by decide +kernel) (Nat.le_of_ble_eq_true rfl) (Nat.le_of_ble_eq_true rfl) dX9_far_66 (fun q66 H w66 hM_q66 hO_q66 hF66 hX66 hk66 hP hD hT hS => ?_)
              have hN_q66 := hX.new0 hO_q66 hF66
              have hM_o := hk66 _ _ hM_o
              have hM_x3 := hk66 _ _ hM_x3
              have hX := hX.tr (hX66 _ _)
              refine lv_dup hx hb dX9_far_69 rfl ?_
              refine t_callv (va_runIN (g := F0 m 70 ls ([.ref q66, .ref q66, .ref o])) (As := []) (rest := [.ref q66, .ref o]) (b := q66) ⟨hx, hb, hml, hown, hts⟩ (c_X6_init l D cy A G3 w66 q66 hD hT hO_q66 hM_q66 ) ⟨va_cnB 0 hts gX9_far_X6_init_n189 rfl rfl rfl hV.1.2.2.1 (hts (.initialized RX6) (by decide +kernel)) (by decide +kernel) ⟨Nat.le_of_ble_eq_true rfl, Nat.le_of_ble_eq_true rfl⟩, rfl, hts (.instanceMethod yX6_init) (by decide +kernel)⟩ (c_preS hP hK hA hS hV) rfl rfl hl.1 rfl (lv_room (Nat.le_of_ble_eq_true rfl)) dX9_far_70 ⟨Nat.le_of_ble_eq_true rfl, Nat.le_of_ble_eq_true rfl⟩) hS (fun u H locs q70 hP9 hD9 hT9 hS => ?_)
              obtain ⟨G70, w70⟩ := u
              obtain ⟨hX9, q70⟩ := q70
              have hX9 : cX (some q66) (chs []) G3 w66 G70 w70 := hX9
              have hP : va_P D vwCl w70 H := hP9
              have hD : va_D A w70 := hD9
              have hT : cT cy G70 w70 := hT9
              have hM_o := hX9.2.1 _ _ (cP.no1 (Ne.symm (cne0 hO_q66 hG_o)) hG_o rfl) hM_o
              have hM_x3 := hX9.2.1 _ _ (cP.no1 (Ne.symm (cne0 hO_q66 hG_x3)) hG_x3 rfl) hM_x3
              have hG_o := hX9.1 _ _ hG_o
              have hG_bs_o := hX9.1 _ _ hG_bs_o
              have hG_js_o := hX9.1 _ _ hG_js_o
              have hG_sh_o := hX9.1 _ _ hG_sh_o
              have hG_wk_o := hX9.1 _ _ hG_wk_o
              have hG_ll_o := hX9.1 _ _ hG_ll_o
              have hG_x3 := hX9.1 _ _ hG_x3
              have hG_l_x3 := hX9.1 _ _ hG_l_x3
              have hG_f_x3 := hX9.1 _ _ hG_f_x3
              have hG_r_x3 := hX9.1 _ _ hG_r_x3
              have hlb_o : ∀ x9, lb_o = some x9 → ∃ w9 h9, _ = some (2, w9, h9) := fun x9 z9 => (hlb_o x9 z9).elim fun w9 z9 => z9.elim fun h9 z9 => ⟨w9, h9, hX9.1 _ _ z9⟩
              have hG_q66 : G70 q66 = some (6, 0, 0) := q70.1
              have q70 := q70.2
              have hX := hX.trN hN_q66 (hX9.wk (chs_sub (by decide)))
              refine t_put (v := .ref q66) (C := RX9) (T := TX9) (N := 9) (ty0 := tyX9) hx hb hts (by decide +kernel) tyX9_ok nmX9 hown hK hP hD hS hM_o rfl 5 (by decide) (hts (.fieldLink RX9 38 "ShadowBench" "meetings" "LShadowBench$Meetings;") (by decide +kernel)) (fun _ h9 => h9) rfl rfl rfl (Nat.le_of_ble_eq_true rfl) dX9_far_73 (fun H locs w73 hU73 hP hD hS => ?_)
              have hM_x3 := hU73.2 _ _ (cne hG_x3 hG_o (show (2 : Nat) ≠ 7 by decide)) hM_x3
              have hT := hT.up hU73 hG_o ⟨_, _, _, _, _, _, _, (some q66), lb_o, rfl, ⟨by omega, by omega⟩, ⟨by omega, by omega⟩, hG_bs_o, hG_js_o, hG_sh_o, hG_wk_o, (fun _ z => Option.some.inj z ▸ hG_q66), hG_ll_o, hlb_o⟩
              have hM_o : cIn w73 o (.inr (8, [.ref bs_o, .ref js_o, .int jc_o, .ref sh_o, .ref wk_o, .ref q66, .ref ll_o, .int lc_o, va_rf lb_o])) := hU73.1
              have hX := hX.tr (cX.up hU73 (Or.inr ⟨_, hG_o, rfl⟩))
              refine lv_aload_n hx hb dX9_far_76 rfl (lv_at hl 1 rfl) ?_
              refine t_get (v := .ref q66) (C := RX9) (T := TX9) (N := 9) hx hb hts (by decide +kernel) hown hK hP hM_o rfl 5 (by decide) (hts (.fieldLink RX9 38 "ShadowBench" "meetings" "LShadowBench$Meetings;") (by decide +kernel)) (fun _ h9 => h9) rfl dX9_far_77 ?_
              refine lv_aload hx hb dX9_far_80 (lv_at hl 0 rfl) ?_
              refine lv_lload_n hx hb dX9_far_82 rfl (lv_at hl 4 rfl) ?_
              refine lv_lload hx hb dX9_far_83 (lv_at hl 5 rfl) ?_
              obtain ⟨_, hM_q66, a_q66, b_q66, z_q66, rfl, hz_q66, hG_a_q66, hG_b_q66⟩ := hT _ _ hG_q66
              refine t_calli (va_runV (g := F0 m 85 ls ([.long p1, .long p0, .ref x3, .ref q66])) (As := [.ref x3, .long p0, .long p1]) (rest := []) ⟨hx, hb, hml, hown, hts⟩ (c_X6_fewestSwitches l D cy A G70 w73 q66 x3 p0 p1 hD hT hG_q66 hG_x3 ) (cwV 3 hts gX9_far_X6_fewestSwitches rfl rfl rfl (by decide +kernel) ⟨Nat.le_of_ble_eq_true rfl, Nat.le_of_ble_eq_true rfl⟩) (c_preV hM_q66 rfl hP hK hA hS hV) rfl rfl hl.1 rfl (lv_room (Nat.le_of_ble_eq_true rfl)) dX9_far_85 ⟨Nat.le_of_ble_eq_true rfl, Nat.le_of_ble_eq_true rfl⟩) hS (fun r85 u H locs q85 hP9 hD9 hT9 hS => ?_)
              obtain ⟨G85, w85⟩ := u
              obtain ⟨hX9, q85⟩ := q85
              have hX9 : cX none (chs [0, 1, 6]) G70 w73 G85 w85 := hX9
              have hP : va_P D vwCl w85 H := hP9
              have hD : va_D A w85 := hD9
              have hT : cT cy G85 w85 := hT9
              have hM_o := hX9.2.1 _ _ (cP.no hG_o rfl) hM_o
              have hM_x3 := hX9.2.1 _ _ (cP.no hG_x3 rfl) hM_x3
              have hG_o := hX9.1 _ _ hG_o
              have hG_bs_o := hX9.1 _ _ hG_bs_o
              have hG_js_o := hX9.1 _ _ hG_js_o
              have hG_sh_o := hX9.1 _ _ hG_sh_o
              have hG_wk_o := hX9.1 _ _ hG_wk_o
              have hG_ll_o := hX9.1 _ _ hG_ll_o
              have hG_x3 := hX9.1 _ _ hG_x3
              have hG_l_x3 := hX9.1 _ _ hG_l_x3
              have hG_f_x3 := hX9.1 _ _ hG_f_x3
              have hG_r_x3 := hX9.1 _ _ hG_r_x3
              have hG_q66 := hX9.1 _ _ hG_q66
              have hG_a_q66 := hX9.1 _ _ hG_a_q66
              have hG_b_q66 := hX9.1 _ _ hG_b_q66
              have hlb_o : ∀ x9, lb_o = some x9 → ∃ w9 h9, _ = some (2, w9, h9) := fun x9 z9 => (hlb_o x9 z9).elim fun w9 z9 => z9.elim fun h9 z9 => ⟨w9, h9, hX9.1 _ _ z9⟩
              have hX := hX.tr (hX9.wk (chs_sub (by decide)))
              refine W.toV (k := 7) (n := 53273) ?_
              refine W.widen (k := 7) (n := 53273) (Nat.le_of_ble_eq_true rfl) (Nat.le_of_ble_eq_true rfl) ?_
              exact W.iret (v := r85) hx hb hr (fun t ht hW => ⟨⟨_, (G85, w85), rfl, ⟨hX, Or.inr ⟨rfl, rfl, (by first | exact hopt | assumption), _, hM_o⟩⟩, by show va_P D vwCl w85 t.heap; rw [ht]; exact hP, hD, hT⟩, hS.F ht⟩) hS.2.2 dX9_far_88
            · skip
              have hG_x59 := hmo_o x59 hopt
              rw [hopt] at hM_o
              have hM_o : cIn w3 o (.inr (8, [.ref bs_o, .ref js_o, .int jc_o, .ref sh_o, .ref wk_o, .ref x59, .ref ll_o, .int lc_o, va_rf lb_o])) := hM_o
              refine t_get (v := .ref x59) (C := RX9) (T := TX9) (N := 9) hx hb hts (by decide +kernel) hown hK hP hM_o rfl 5 (by decide) (hts (.fieldLink RX9 38 "ShadowBench" "meetings" "LShadowBench$Meetings;") (by decide +kernel)) (fun _ h9 => h9) rfl dX9_far_59 ?_
              refine lv_ifnonnull (tgt := 76) hx hb dX9_far_62 (by decide) ?_
              refine lv_aload_n hx hb dX9_far_76 rfl (lv_at hl 1 rfl) ?_
              refine t_get (v := .ref x59) (C := RX9) (T := TX9) (N := 9) hx hb hts (by decide +kernel) hown hK hP hM_o rfl 5 (by decide) (hts (.fieldLink RX9 38 "ShadowBench" "meetings" "LShadowBench$Meetings;") (by decide +kernel)) (fun _ h9 => h9) rfl dX9_far_77 ?_
              refine lv_aload hx hb dX9_far_80 (lv_at hl 0 rfl) ?_
              refine lv_lload_n hx hb dX9_far_82 rfl (lv_at hl 4 rfl) ?_
              refine lv_lload hx hb dX9_far_83 (lv_at hl 5 rfl) ?_
              obtain ⟨_, hM_x59, a_x59, b_x59, z_x59, rfl, hz_x59, hG_a_x59, hG_b_x59⟩ := hT _ _ hG_x59
              refine t_calli (va_runV (g := F0 m 85 ls ([.long p1, .long p0, .ref x3, .ref x59])) (As := [.ref x3, .long p0, .long p1]) (rest := []) ⟨hx, hb, hml, hown, hts⟩ (c_X6_fewestSwitches l D cy A G3 w3 x59 x3 p0 p1 hD hT hG_x59 hG_x3 ) (cwV 3 hts gX9_far_X6_fewestSwitches rfl rfl rfl (by decide +kernel) ⟨Nat.le_of_ble_eq_true rfl, Nat.le_of_ble_eq_true rfl⟩) (c_preV hM_x59 rfl hP hK hA hS hV) rfl rfl hl.1 rfl (lv_room (Nat.le_of_ble_eq_true rfl)) dX9_far_85 ⟨Nat.le_of_ble_eq_true rfl, Nat.le_of_ble_eq_true rfl⟩) hS (fun r85 u H locs q85 hP9 hD9 hT9 hS => ?_)
              obtain ⟨G85, w85⟩ := u
              obtain ⟨hX9, q85⟩ := q85
              have hX9 : cX none (chs [0, 1, 6]) G3 w3 G85 w85 := hX9
              have hP : va_P D vwCl w85 H := hP9
              have hD : va_D A w85 := hD9
              have hT : cT cy G85 w85 := hT9
              have hM_o := hX9.2.1 _ _ (cP.no hG_o rfl) hM_o
              have hM_x3 := hX9.2.1 _ _ (cP.no hG_x3 rfl) hM_x3
              have hG_o := hX9.1 _ _ hG_o
              have hG_bs_o := hX9.1 _ _ hG_bs_o
              have hG_js_o := hX9.1 _ _ hG_js_o
              have hG_sh_o := hX9.1 _ _ hG_sh_o
              have hG_wk_o := hX9.1 _ _ hG_wk_o
              have hG_ll_o := hX9.1 _ _ hG_ll_o
              have hG_x3 := hX9.1 _ _ hG_x3
              have hG_l_x3 := hX9.1 _ _ hG_l_x3
              have hG_f_x3 := hX9.1 _ _ hG_f_x3
              have hG_r_x3 := hX9.1 _ _ hG_r_x3
              have hG_x59 := hX9.1 _ _ hG_x59
              have hG_a_x59 := hX9.1 _ _ hG_a_x59
              have hG_b_x59 := hX9.1 _ _ hG_b_x59
              have hlb_o : ∀ x9, lb_o = some x9 → ∃ w9 h9, _ = some (2, w9, h9) := fun x9 z9 => (hlb_o x9 z9).elim fun w9 z9 => z9.elim fun h9 z9 => ⟨w9, h9, hX9.1 _ _ z9⟩
              have hX := hX.tr (hX9.wk (chs_sub (by decide)))
              refine W.toV (k := 4) (n := 502) ?_
              refine W.widen (k := 4) (n := 502) (Nat.le_of_ble_eq_true rfl) (Nat.le_of_ble_eq_true rfl) ?_
              exact W.iret (v := r85) hx hb hr (fun t ht hW => ⟨⟨_, (G85, w85), rfl, ⟨hX, Or.inl ⟨rfl, rfl, (by first | exact hM_o | (rw [hopt]; exact hM_o))⟩⟩, by show va_P D vwCl w85 t.heap; rw [ht]; exact hP, hD, hT⟩, hS.F ht⟩) hS.2.2 dX9_far_88
          · skip
            have d53 := c53
            rw [lg_cmp_eq, fa_eq64] at d53
            refine lv_iconst (v := 0) hx hb dX9_far_56 (by decide) ?_
            refine W.toV (k := 4) (n := 502) ?_
            refine W.widen (k := 4) (n := 502) (Nat.le_of_ble_eq_true rfl) (Nat.le_of_ble_eq_true rfl) ?_
            exact W.iret (v := (0 : Int32)) hx hb hr (fun t ht hW => ⟨⟨_, (G3, w3), rfl, ⟨hX, Or.inl ⟨rfl, rfl, (by first | exact hM_o | (rw [hopt]; exact hM_o))⟩⟩, by show va_P D vwCl w3 t.heap; rw [ht]; exact hP, hD, hT⟩, hS.F ht⟩) hS.2.2 dX9_far_57
        · skip
          have d43 := c43
          rw [fa_lt] at d43
          refine lv_bipush (v := (-2)) hx hb dX9_far_46 (by decide) ?_
          refine W.toV (k := 4) (n := 502) ?_
          refine W.widen (k := 4) (n := 502) (Nat.le_of_ble_eq_true rfl) (Nat.le_of_ble_eq_true rfl) ?_
          exact W.iret (v := ((-2) : Int32)) hx hb hr (fun t ht hW => ⟨⟨_, (G3, w3), rfl, ⟨hX, Or.inl ⟨rfl, rfl, (by first | exact hM_o | (rw [hopt]; exact hM_o))⟩⟩, by show va_P D vwCl w3 t.heap; rw [ht]; exact hP, hD, hT⟩, hS.F ht⟩) hS.2.2 dX9_far_48
      · skip
        have d29 := c29
        rw [fa_eq] at d29
        refine lv_iconst (v := (-1)) hx hb dX9_far_32 (by decide) ?_
        refine W.toV (k := 4) (n := 502) ?_
        refine W.widen (k := 4) (n := 502) (Nat.le_of_ble_eq_true rfl) (Nat.le_of_ble_eq_true rfl) ?_
        exact W.iret (v := ((-1) : Int32)) hx hb hr (fun t ht hW => ⟨⟨_, (G3, w3), rfl, ⟨hX, Or.inl ⟨rfl, rfl, (by first | exact hM_o | (rw [hopt]; exact hM_o))⟩⟩, by show va_P D vwCl w3 t.heap; rw [ht]; exact hP, hD, hT⟩, hS.F ht⟩) hS.2.2 dX9_far_33
set_option maxHeartbeats 4000000 in
set_option maxRecDepth 100000 in
theorem c_X9_make_x (l : Launch) (D : va_G) (cy : Nat → ClassId) (A : Nat → Prop) (G : cG) (ws : va_W) (o : Nat) (d : Int32) (what : Int32) (n1 : Int32)  (hD : va_D A ws) (hT : cT cy G ws) (hG_o : G o = some (7, 0, 0))  : Ci l D cy A yX9_make wsX9_make ({ frames := 3, cells := 2, slots := 62, locals := 62 }) 2 62 ws [.ref o, .int d, .int what, .int n1] (fun r0 u => cX none (chs [10]) G ws u.1 u.2 ∧ (r0 = mkAns d what n1)) := by
  refine Met.ofW (cc := cX9_make) (maxL := 4) (ret := (some .int)) (by decide) rfl ?_
  intro p e s m args below meth c s₁ B hml hv
  obtain ⟨rfl, hP, hK, hA, hV⟩ := hv
  have hx := B.exec
  have hb := B.bytes
  have hr := B.returns
  have hts := atoms_spec (ws := wsX9_make) B.pre
  have hown : s.vm.findClass RX9 = some m.cls := findClass_of_methodNamed B.named
  have hlocks := B.notSynchronized
  have hS : va_S A s.heap s.heap [] := va_S.rf
  have hX : cX none (chs [10]) G ws G ws := cX.rf
  have hl := lv_entry ([.ref o, .int d, .int what, .int n1]) (n := 4) (Nat.le_of_ble_eq_true rfl)
  rw [lg_entry_eq]
  generalize (lg_sl ([.ref o, .int d, .int what, .int n1]) ++ List.replicate (4 - (lg_sl ([.ref o, .int d, .int what, .int n1])).length) Slot.unset).toArray = ls at hl ⊢
  have hl : lv_has ls 4 [(0, .ref o), (1, .int d), (2, .int what), (3, .int n1)] := hl
  have k_m14 : (-14 : Int32).toInt = -14 := by decide
  have k_m1 : (-1 : Int32).toInt = -1 := by decide
  have k_0 : (0 : Int32).toInt = 0 := by decide
  have k_1 : (1 : Int32).toInt = 1 := by decide
  have k_3 : (3 : Int32).toInt = 3 := by decide
  have k_4 : (4 : Int32).toInt = 4 := by decide
  have k_60 : (60 : Int32).toInt = 60 := by decide
  refine lv_iload_n hx hb dX9_make_0 rfl (lv_at hl 1 rfl) ?_
  refine t_pu (As := [.int d]) (rest := []) ⟨hx, hb, hml, hown, hts⟩ (c_X9_isShelf l d ) (va_cwS 1 hts gX9_make_X9_isShelf rfl rfl rfl (by decide +kernel) ⟨Nat.le_of_ble_eq_true rfl, Nat.le_of_ble_eq_true rfl⟩) hP rfl hl.1 rfl (Nat.le_of_ble_eq_true rfl) dX9_make_1 ⟨Nat.le_of_ble_eq_true rfl, Nat.le_of_ble_eq_true rfl⟩ hS (fun r1 H locs q1 hP hS => ?_)
  refine lv_if_eq (tgt := 23) hx hb dX9_make_4 (by decide) (fun c4 => ?_) (fun c4 => ?_)
  · skip
    have b4 := bo_f q1 c4
    refine lv_iconst (v := (-1)) hx hb dX9_make_23 (by decide) ?_
    refine W.widen (k := 2) (n := 62) (Nat.le_of_ble_eq_true rfl) (Nat.le_of_ble_eq_true rfl) ?_
    exact W.iret (v := ((-1) : Int32)) hx hb hr (fun t ht hW => ⟨⟨_, (G, ws), rfl, ⟨hX, (by unfold mkAns; split <;> (try split) <;> first | rfl | (exfalso; omega))⟩, by show va_P D vwCl ws t.heap; rw [ht]; exact hP, hD, hT⟩, hS.F ht⟩) hS.2.2 dX9_make_24
  · skip
    have b4 := bo_t q1 c4
    refine lv_iload_n hx hb dX9_make_7 rfl (lv_at hl 2 rfl) ?_
    refine lv_iconst (v := 3) hx hb dX9_make_8 (by decide) ?_
    refine lv_icmp_eq (tgt := 17) hx hb dX9_make_9 (by decide) (fun c9 => ?_) (fun c9 => ?_)
    · skip
      have d9 := c9
      rw [fa_eq] at d9
      refine lv_iload_n hx hb dX9_make_17 rfl (lv_at hl 3 rfl) ?_
      refine lv_bipush (v := 60) hx hb dX9_make_18 (by decide) ?_
      refine lv_icmp_le (tgt := 25) hx hb dX9_make_20 (by decide) (fun c20 => ?_) (fun c20 => ?_)
      · skip
        have d20 := c20
        rw [fa_le] at d20
        refine lv_iload_n hx hb dX9_make_25 rfl (lv_at hl 3 rfl) ?_
        refine lv_if_ge (tgt := 32) hx hb dX9_make_26 (by decide) (fun c26 => ?_) (fun c26 => ?_)
        · skip
          have d26 := c26
          rw [fa_le] at d26
          refine lv_aload_n hx hb dX9_make_32 rfl (lv_at hl 0 rfl) ?_
          obtain ⟨_, hM_o, bs_o, js_o, sh_o, wk_o, ll_o, jc_o, lc_o, mo_o, lb_o, rfl, hjc_o, hlc_o, hG_bs_o, hG_js_o, hG_sh_o, hG_wk_o, hmo_o, hG_ll_o, hlb_o⟩ := hT _ _ hG_o
          refine t_get (v := .ref sh_o) (C := RX9) (T := TX9) (N := 9) hx hb hts (by decide +kernel) hown hK hP hM_o rfl 3 (by decide) (hts (.fieldLink RX9 27 "ShadowBench" "shelves" "[LShadowBench$Held;") (by decide +kernel)) (fun _ h9 => h9) rfl dX9_make_33 ?_
          refine lv_iload_n hx hb dX9_make_36 rfl (lv_at hl 1 rfl) ?_
          refine t_new (C := RX7) (T := TX7) (N := 2) (ci := 6) (ty0 := tyX7) (fs := [.int 0, .null]) hx hb hts (by decide +kernel) tyX7_ok hown (hts (.classLink RX9 245 RX7) (by decide +kernel)) (hts (.instantiable RX7 2) (by decide +kernel)) (hts (.initialized RX7) (by decide +kernel)) hK hP hD hS hA hT rfl (by decide +kernel) (Nat.le_of_ble_eq_true rfl) (Nat.le_of_ble_eq_true rfl) dX9_make_37 (fun q37 H w37 hM_q37 hO_q37 hF37 hX37 hk37 hP hD hT hS => ?_)
          have hN_q37 := hX.new0 hO_q37 hF37
          have hM_o := hk37 _ _ hM_o
          have hX := hX.tr (hX37 _ _)
          refine lv_dup hx hb dX9_make_40 rfl ?_
          refine lv_iload_n hx hb dX9_make_41 rfl (lv_at hl 2 rfl) ?_
          refine lv_iconst (v := 3) hx hb dX9_make_42 (by decide) ?_
          refine lv_icmp_ne (tgt := 50) hx hb dX9_make_43 (by decide) (fun c43 => ?_) (fun c43 => ?_)
          · skip
            have d43 := c43
            rw [fa_eq] at d43
            refine lv_iconst (v := 0) hx hb dX9_make_50 (by decide) ?_
            refine lv_iload_n hx hb dX9_make_51 rfl (lv_at hl 3 rfl) ?_
            refine t_callv (va_runI (g := F0 m 52 ls ([.int n1, .int (0 : Int32), .ref q37, .ref q37, .int d, .ref sh_o])) (As := [.int (0 : Int32), .int n1]) (rest := [.ref q37, .int d, .ref sh_o]) (b := q37) ⟨hx, hb, hml, hown, hts⟩ (c_X7_init_i l D cy A G w37 q37 (0 : Int32) n1 hD hT hO_q37 hM_q37 (Or.inl rfl) (by omega)) (cwI 2 hts gX9_make_X7_init rfl rfl rfl (hts (.initialized RX7) (by decide +kernel)) (hts (.methodLink RX9 247 yX7_init) (by decide +kernel)) (hts (.instanceMethod yX7_init) (by decide +kernel)) rfl (by decide +kernel) ⟨Nat.le_of_ble_eq_true rfl, Nat.le_of_ble_eq_true rfl⟩) (c_preS hP hK hA hS hV) rfl rfl hl.1 rfl (lv_room (Nat.le_of_ble_eq_true rfl)) dX9_make_52 ⟨Nat.le_of_ble_eq_true rfl, Nat.le_of_ble_eq_true rfl⟩) hS (fun u H locs q52 hP9 hD9 hT9 hS => ?_)
            obtain ⟨G52, w52⟩ := u
            obtain ⟨hX9, q52⟩ := q52
            have hX9 : cX (some q37) (chs []) G w37 G52 w52 := hX9
            have hP : va_P D vwCl w52 H := hP9
            have hD : va_D A w52 := hD9
            have hT : cT cy G52 w52 := hT9
            have hM_o := hX9.2.1 _ _ (cP.no1 (Ne.symm (cne0 hO_q37 hG_o)) hG_o rfl) hM_o
            have hG_o := hX9.1 _ _ hG_o
            have hG_bs_o := hX9.1 _ _ hG_bs_o
            have hG_js_o := hX9.1 _ _ hG_js_o
            have hG_sh_o := hX9.1 _ _ hG_sh_o
            have hG_wk_o := hX9.1 _ _ hG_wk_o
            have hG_ll_o := hX9.1 _ _ hG_ll_o
            have hG_q37 : G52 q37 = some (4, n1.toNatClampNeg, 0) := q52.1
            have q52 := q52.2
            have hX := hX.trN hN_q37 (hX9.wk (chs_sub (by decide)))
            refine t_aast10 hx hb hV hK hP hD hS hT hG_sh_o (Or.inr ⟨_, hG_q37⟩) (vp_in_iff.mpr ⟨by omega, by omega⟩) dX9_make_55 (fun H locs w55 hU55 hP hD hT hS => ?_)
            have hM_o := hU55 _ _ (cne hG_o hG_sh_o (show (7 : Nat) ≠ 10 by decide)) hM_o
            have hX := hX.tr (cX.uF hU55 (Or.inr ⟨_, hG_sh_o, rfl⟩))
            refine lv_iconst (v := 0) hx hb dX9_make_56 (by decide) ?_
            refine W.widen (k := 2) (n := 62) (Nat.le_of_ble_eq_true rfl) (Nat.le_of_ble_eq_true rfl) ?_
            exact W.iret (v := (0 : Int32)) hx hb hr (fun t ht hW => ⟨⟨_, (G52, w55), rfl, ⟨hX, (by unfold mkAns; split <;> (try split) <;> first | rfl | (exfalso; omega))⟩, by show va_P D vwCl w55 t.heap; rw [ht]; exact hP, hD, hT⟩, hS.F ht⟩) hS.2.2 dX9_make_57
          · skip
            have d43 := c43
            rw [fa_eq] at d43
            refine lv_iconst (v := 1) hx hb dX9_make_46 (by decide) ?_
            refine lv_goto (tgt := 51) hx hb dX9_make_47 (by decide) ?_
            refine lv_iload_n hx hb dX9_make_51 rfl (lv_at hl 3 rfl) ?_
            refine t_callv (va_runI (g := F0 m 52 ls ([.int n1, .int (1 : Int32), .ref q37, .ref q37, .int d, .ref sh_o])) (As := [.int (1 : Int32), .int n1]) (rest := [.ref q37, .int d, .ref sh_o]) (b := q37) ⟨hx, hb, hml, hown, hts⟩ (c_X7_init_i l D cy A G w37 q37 (1 : Int32) n1 hD hT hO_q37 hM_q37 (Or.inr rfl) (by omega)) (cwI 2 hts gX9_make_X7_init rfl rfl rfl (hts (.initialized RX7) (by decide +kernel)) (hts (.methodLink RX9 247 yX7_init) (by decide +kernel)) (hts (.instanceMethod yX7_init) (by decide +kernel)) rfl (by decide +kernel) ⟨Nat.le_of_ble_eq_true rfl, Nat.le_of_ble_eq_true rfl⟩) (c_preS hP hK hA hS hV) rfl rfl hl.1 rfl (lv_room (Nat.le_of_ble_eq_true rfl)) dX9_make_52 ⟨Nat.le_of_ble_eq_true rfl, Nat.le_of_ble_eq_true rfl⟩) hS (fun u H locs q52 hP9 hD9 hT9 hS => ?_)
            obtain ⟨G52, w52⟩ := u
            obtain ⟨hX9, q52⟩ := q52
            have hX9 : cX (some q37) (chs []) G w37 G52 w52 := hX9
            have hP : va_P D vwCl w52 H := hP9
            have hD : va_D A w52 := hD9
            have hT : cT cy G52 w52 := hT9
            have hM_o := hX9.2.1 _ _ (cP.no1 (Ne.symm (cne0 hO_q37 hG_o)) hG_o rfl) hM_o
            have hG_o := hX9.1 _ _ hG_o
            have hG_bs_o := hX9.1 _ _ hG_bs_o
            have hG_js_o := hX9.1 _ _ hG_js_o
            have hG_sh_o := hX9.1 _ _ hG_sh_o
            have hG_wk_o := hX9.1 _ _ hG_wk_o
            have hG_ll_o := hX9.1 _ _ hG_ll_o
            have hG_q37 : G52 q37 = some (4, n1.toNatClampNeg, 0) := q52.1
            have q52 := q52.2
            have hX := hX.trN hN_q37 (hX9.wk (chs_sub (by decide)))
            refine t_aast10 hx hb hV hK hP hD hS hT hG_sh_o (Or.inr ⟨_, hG_q37⟩) (vp_in_iff.mpr ⟨by omega, by omega⟩) dX9_make_55 (fun H locs w55 hU55 hP hD hT hS => ?_)
            have hM_o := hU55 _ _ (cne hG_o hG_sh_o (show (7 : Nat) ≠ 10 by decide)) hM_o
            have hX := hX.tr (cX.uF hU55 (Or.inr ⟨_, hG_sh_o, rfl⟩))
            refine lv_iconst (v := 0) hx hb dX9_make_56 (by decide) ?_
            refine W.widen (k := 2) (n := 62) (Nat.le_of_ble_eq_true rfl) (Nat.le_of_ble_eq_true rfl) ?_
            exact W.iret (v := (0 : Int32)) hx hb hr (fun t ht hW => ⟨⟨_, (G52, w55), rfl, ⟨hX, (by unfold mkAns; split <;> (try split) <;> first | rfl | (exfalso; omega))⟩, by show va_P D vwCl w55 t.heap; rw [ht]; exact hP, hD, hT⟩, hS.F ht⟩) hS.2.2 dX9_make_57
        · skip
          have d26 := c26
          rw [fa_le] at d26
          refine lv_bipush (v := (-14)) hx hb dX9_make_29 (by decide) ?_
          refine W.widen (k := 2) (n := 62) (Nat.le_of_ble_eq_true rfl) (Nat.le_of_ble_eq_true rfl) ?_
          exact W.iret (v := ((-14) : Int32)) hx hb hr (fun t ht hW => ⟨⟨_, (G, ws), rfl, ⟨hX, (by unfold mkAns; split <;> (try split) <;> first | rfl | (exfalso; omega))⟩, by show va_P D vwCl ws t.heap; rw [ht]; exact hP, hD, hT⟩, hS.F ht⟩) hS.2.2 dX9_make_31
      · skip
        have d20 := c20
        rw [fa_le] at d20
        refine lv_iconst (v := (-1)) hx hb dX9_make_23 (by decide) ?_
        refine W.widen (k := 2) (n := 62) (Nat.le_of_ble_eq_true rfl) (Nat.le_of_ble_eq_true rfl) ?_
        exact W.iret (v := ((-1) : Int32)) hx hb hr (fun t ht hW => ⟨⟨_, (G, ws), rfl, ⟨hX, (by unfold mkAns; split <;> (try split) <;> first | rfl | (exfalso; omega))⟩, by show va_P D vwCl ws t.heap; rw [ht]; exact hP, hD, hT⟩, hS.F ht⟩) hS.2.2 dX9_make_24
    · skip
      have d9 := c9
      rw [fa_eq] at d9
      refine lv_iload_n hx hb dX9_make_12 rfl (lv_at hl 2 rfl) ?_
      refine lv_iconst (v := 4) hx hb dX9_make_13 (by decide) ?_
      refine lv_icmp_ne (tgt := 23) hx hb dX9_make_14 (by decide) (fun c14 => ?_) (fun c14 => ?_)
      · skip
        have d14 := c14
        rw [fa_eq] at d14
        refine lv_iconst (v := (-1)) hx hb dX9_make_23 (by decide) ?_
        refine W.widen (k := 2) (n := 62) (Nat.le_of_ble_eq_true rfl) (Nat.le_of_ble_eq_true rfl) ?_
        exact W.iret (v := ((-1) : Int32)) hx hb hr (fun t ht hW => ⟨⟨_, (G, ws), rfl, ⟨hX, (by unfold mkAns; split <;> (try split) <;> first | rfl | (exfalso; omega))⟩, by show va_P D vwCl ws t.heap; rw [ht]; exact hP, hD, hT⟩, hS.F ht⟩) hS.2.2 dX9_make_24
      · skip
        have d14 := c14
        rw [fa_eq] at d14
        refine lv_iload_n hx hb dX9_make_17 rfl (lv_at hl 3 rfl) ?_
        refine lv_bipush (v := 60) hx hb dX9_make_18 (by decide) ?_
        refine lv_icmp_le (tgt := 25) hx hb dX9_make_20 (by decide) (fun c20 => ?_) (fun c20 => ?_)
        · skip
          have d20 := c20
          rw [fa_le] at d20
          refine lv_iload_n hx hb dX9_make_25 rfl (lv_at hl 3 rfl) ?_
          refine lv_if_ge (tgt := 32) hx hb dX9_make_26 (by decide) (fun c26 => ?_) (fun c26 => ?_)
          · skip
            have d26 := c26
            rw [fa_le] at d26
            refine lv_aload_n hx hb dX9_make_32 rfl (lv_at hl 0 rfl) ?_
            obtain ⟨_, hM_o, bs_o, js_o, sh_o, wk_o, ll_o, jc_o, lc_o, mo_o, lb_o, rfl, hjc_o, hlc_o, hG_bs_o, hG_js_o, hG_sh_o, hG_wk_o, hmo_o, hG_ll_o, hlb_o⟩ := hT _ _ hG_o
            refine t_get (v := .ref sh_o) (C := RX9) (T := TX9) (N := 9) hx hb hts (by decide +kernel) hown hK hP hM_o rfl 3 (by decide) (hts (.fieldLink RX9 27 "ShadowBench" "shelves" "[LShadowBench$Held;") (by decide +kernel)) (fun _ h9 => h9) rfl dX9_make_33 ?_
            refine lv_iload_n hx hb dX9_make_36 rfl (lv_at hl 1 rfl) ?_
            refine t_new (C := RX7) (T := TX7) (N := 2) (ci := 6) (ty0 := tyX7) (fs := [.int 0, .null]) hx hb hts (by decide +kernel) tyX7_ok hown (hts (.classLink RX9 245 RX7) (by decide +kernel)) (hts (.instantiable RX7 2) (by decide +kernel)) (hts (.initialized RX7) (by decide +kernel)) hK hP hD hS hA hT rfl (by decide +kernel) (Nat.le_of_ble_eq_true rfl) (Nat.le_of_ble_eq_true rfl) dX9_make_37 (fun q37 H w37 hM_q37 hO_q37 hF37 hX37 hk37 hP hD hT hS => ?_)
            have hN_q37 := hX.new0 hO_q37 hF37
            have hM_o := hk37 _ _ hM_o
            have hX := hX.tr (hX37 _ _)
            refine lv_dup hx hb dX9_make_40 rfl ?_
            refine lv_iload_n hx hb dX9_make_41 rfl (lv_at hl 2 rfl) ?_
            refine lv_iconst (v := 3) hx hb dX9_make_42 (by decide) ?_
            refine lv_icmp_ne (tgt := 50) hx hb dX9_make_43 (by decide) (fun c43 => ?_) (fun c43 => ?_)
            · skip
              have d43 := c43
              rw [fa_eq] at d43
              refine lv_iconst (v := 0) hx hb dX9_make_50 (by decide) ?_
              refine lv_iload_n hx hb dX9_make_51 rfl (lv_at hl 3 rfl) ?_
              refine t_callv (va_runI (g := F0 m 52 ls ([.int n1, .int (0 : Int32), .ref q37, .ref q37, .int d, .ref sh_o])) (As := [.int (0 : Int32), .int n1]) (rest := [.ref q37, .int d, .ref sh_o]) (b := q37) ⟨hx, hb, hml, hown, hts⟩ (c_X7_init_i l D cy A G w37 q37 (0 : Int32) n1 hD hT hO_q37 hM_q37 (Or.inl rfl) (by omega)) (cwI 2 hts gX9_make_X7_init rfl rfl rfl (hts (.initialized RX7) (by decide +kernel)) (hts (.methodLink RX9 247 yX7_init) (by decide +kernel)) (hts (.instanceMethod yX7_init) (by decide +kernel)) rfl (by decide +kernel) ⟨Nat.le_of_ble_eq_true rfl, Nat.le_of_ble_eq_true rfl⟩) (c_preS hP hK hA hS hV) rfl rfl hl.1 rfl (lv_room (Nat.le_of_ble_eq_true rfl)) dX9_make_52 ⟨Nat.le_of_ble_eq_true rfl, Nat.le_of_ble_eq_true rfl⟩) hS (fun u H locs q52 hP9 hD9 hT9 hS => ?_)
              obtain ⟨G52, w52⟩ := u
              obtain ⟨hX9, q52⟩ := q52
              have hX9 : cX (some q37) (chs []) G w37 G52 w52 := hX9
              have hP : va_P D vwCl w52 H := hP9
              have hD : va_D A w52 := hD9
              have hT : cT cy G52 w52 := hT9
              have hM_o := hX9.2.1 _ _ (cP.no1 (Ne.symm (cne0 hO_q37 hG_o)) hG_o rfl) hM_o
              have hG_o := hX9.1 _ _ hG_o
              have hG_bs_o := hX9.1 _ _ hG_bs_o
              have hG_js_o := hX9.1 _ _ hG_js_o
              have hG_sh_o := hX9.1 _ _ hG_sh_o
              have hG_wk_o := hX9.1 _ _ hG_wk_o
              have hG_ll_o := hX9.1 _ _ hG_ll_o
              have hG_q37 : G52 q37 = some (4, n1.toNatClampNeg, 0) := q52.1
              have q52 := q52.2
              have hX := hX.trN hN_q37 (hX9.wk (chs_sub (by decide)))
              refine t_aast10 hx hb hV hK hP hD hS hT hG_sh_o (Or.inr ⟨_, hG_q37⟩) (vp_in_iff.mpr ⟨by omega, by omega⟩) dX9_make_55 (fun H locs w55 hU55 hP hD hT hS => ?_)
              have hM_o := hU55 _ _ (cne hG_o hG_sh_o (show (7 : Nat) ≠ 10 by decide)) hM_o
              have hX := hX.tr (cX.uF hU55 (Or.inr ⟨_, hG_sh_o, rfl⟩))
              refine lv_iconst (v := 0) hx hb dX9_make_56 (by decide) ?_
              refine W.widen (k := 2) (n := 62) (Nat.le_of_ble_eq_true rfl) (Nat.le_of_ble_eq_true rfl) ?_
              exact W.iret (v := (0 : Int32)) hx hb hr (fun t ht hW => ⟨⟨_, (G52, w55), rfl, ⟨hX, (by unfold mkAns; split <;> (try split) <;> first | rfl | (exfalso; omega))⟩, by show va_P D vwCl w55 t.heap; rw [ht]; exact hP, hD, hT⟩, hS.F ht⟩) hS.2.2 dX9_make_57
            · skip
              have d43 := c43
              rw [fa_eq] at d43
              refine lv_iconst (v := 1) hx hb dX9_make_46 (by decide) ?_
              refine lv_goto (tgt := 51) hx hb dX9_make_47 (by decide) ?_
              refine lv_iload_n hx hb dX9_make_51 rfl (lv_at hl 3 rfl) ?_
              refine t_callv (va_runI (g := F0 m 52 ls ([.int n1, .int (1 : Int32), .ref q37, .ref q37, .int d, .ref sh_o])) (As := [.int (1 : Int32), .int n1]) (rest := [.ref q37, .int d, .ref sh_o]) (b := q37) ⟨hx, hb, hml, hown, hts⟩ (c_X7_init_i l D cy A G w37 q37 (1 : Int32) n1 hD hT hO_q37 hM_q37 (Or.inr rfl) (by omega)) (cwI 2 hts gX9_make_X7_init rfl rfl rfl (hts (.initialized RX7) (by decide +kernel)) (hts (.methodLink RX9 247 yX7_init) (by decide +kernel)) (hts (.instanceMethod yX7_init) (by decide +kernel)) rfl (by decide +kernel) ⟨Nat.le_of_ble_eq_true rfl, Nat.le_of_ble_eq_true rfl⟩) (c_preS hP hK hA hS hV) rfl rfl hl.1 rfl (lv_room (Nat.le_of_ble_eq_true rfl)) dX9_make_52 ⟨Nat.le_of_ble_eq_true rfl, Nat.le_of_ble_eq_true rfl⟩) hS (fun u H locs q52 hP9 hD9 hT9 hS => ?_)
              obtain ⟨G52, w52⟩ := u
              obtain ⟨hX9, q52⟩ := q52
              have hX9 : cX (some q37) (chs []) G w37 G52 w52 := hX9
              have hP : va_P D vwCl w52 H := hP9
              have hD : va_D A w52 := hD9
              have hT : cT cy G52 w52 := hT9
              have hM_o := hX9.2.1 _ _ (cP.no1 (Ne.symm (cne0 hO_q37 hG_o)) hG_o rfl) hM_o
              have hG_o := hX9.1 _ _ hG_o
              have hG_bs_o := hX9.1 _ _ hG_bs_o
              have hG_js_o := hX9.1 _ _ hG_js_o
              have hG_sh_o := hX9.1 _ _ hG_sh_o
              have hG_wk_o := hX9.1 _ _ hG_wk_o
              have hG_ll_o := hX9.1 _ _ hG_ll_o
              have hG_q37 : G52 q37 = some (4, n1.toNatClampNeg, 0) := q52.1
              have q52 := q52.2
              have hX := hX.trN hN_q37 (hX9.wk (chs_sub (by decide)))
              refine t_aast10 hx hb hV hK hP hD hS hT hG_sh_o (Or.inr ⟨_, hG_q37⟩) (vp_in_iff.mpr ⟨by omega, by omega⟩) dX9_make_55 (fun H locs w55 hU55 hP hD hT hS => ?_)
              have hM_o := hU55 _ _ (cne hG_o hG_sh_o (show (7 : Nat) ≠ 10 by decide)) hM_o
              have hX := hX.tr (cX.uF hU55 (Or.inr ⟨_, hG_sh_o, rfl⟩))
              refine lv_iconst (v := 0) hx hb dX9_make_56 (by decide) ?_
              refine W.widen (k := 2) (n := 62) (Nat.le_of_ble_eq_true rfl) (Nat.le_of_ble_eq_true rfl) ?_
              exact W.iret (v := (0 : Int32)) hx hb hr (fun t ht hW => ⟨⟨_, (G52, w55), rfl, ⟨hX, (by unfold mkAns; split <;> (try split) <;> first | rfl | (exfalso; omega))⟩, by show va_P D vwCl w55 t.heap; rw [ht]; exact hP, hD, hT⟩, hS.F ht⟩) hS.2.2 dX9_make_57
          · skip
            have d26 := c26
            rw [fa_le] at d26
            refine lv_bipush (v := (-14)) hx hb dX9_make_29 (by decide) ?_
            refine W.widen (k := 2) (n := 62) (Nat.le_of_ble_eq_true rfl) (Nat.le_of_ble_eq_true rfl) ?_
            exact W.iret (v := ((-14) : Int32)) hx hb hr (fun t ht hW => ⟨⟨_, (G, ws), rfl, ⟨hX, (by unfold mkAns; split <;> (try split) <;> first | rfl | (exfalso; omega))⟩, by show va_P D vwCl ws t.heap; rw [ht]; exact hP, hD, hT⟩, hS.F ht⟩) hS.2.2 dX9_make_31
        · skip
          have d20 := c20
          rw [fa_le] at d20
          refine lv_iconst (v := (-1)) hx hb dX9_make_23 (by decide) ?_
          refine W.widen (k := 2) (n := 62) (Nat.le_of_ble_eq_true rfl) (Nat.le_of_ble_eq_true rfl) ?_
          exact W.iret (v := ((-1) : Int32)) hx hb hr (fun t ht hW => ⟨⟨_, (G, ws), rfl, ⟨hX, (by unfold mkAns; split <;> (try split) <;> first | rfl | (exfalso; omega))⟩, by show va_P D vwCl ws t.heap; rw [ht]; exact hP, hD, hT⟩, hS.F ht⟩) hS.2.2 dX9_make_24
