
/-- the class's rows of steps, which nothing writes -/
def cZ (A : Nat → Prop) (U : State) : Prop := ∃ (tX tY : Nat) (xX xY : Nat → Int32), (va_Z RX0 "STEP_X" "[I" (.ref tX) A U U.heap ∧ va_T .int tX 4 (fun j => .int (xX j)) A U U.heap ∧ (xX 0 = 1 ∧ xX 1 = 0 ∧ xX 2 = 1 ∧ xX 3 = 1)) ∧ (va_Z RX0 "STEP_Y" "[I" (.ref tY) A U U.heap ∧ va_T .int tY 4 (fun j => .int (xY j)) A U U.heap ∧ (xY 0 = 0 ∧ xY 1 = 1 ∧ xY 2 = 1 ∧ xY 3 = -1))
theorem cZ.go {A : Nat → Prop} {s U : State} {H : Heap} {locs : List Loc} (h : cZ A s) (hU : U.heap = H) (hW : s.WarmedH U.vm) (hS : va_S A s.heap H locs) : cZ A U := by
  obtain ⟨tX, tY, xX, xY, ⟨a1, a2, a5⟩, ⟨b1, b2, b5⟩⟩ := h
  refine ⟨tX, tY, xX, xY, ⟨?_, ?_, a5⟩, ⟨?_, ?_, b5⟩⟩
  · rw [hU]; exact va_Z.moved hW.alike (a1.kept hS.2.1)
  · rw [hU]; exact va_T.moved hW.alike (a2.kept hS.2.1)
  · rw [hU]; exact va_Z.moved hW.alike (b1.kept hS.2.1)
  · rw [hU]; exact va_T.moved hW.alike (b2.kept hS.2.1)
def ePc (D : va_G) (cy : Nat → ClassId) (A : Nat → Prop) (ws : va_W) (av : List Value) : Array Value → State → Prop := va_Pc av (fun U => (va_P D vwCl ws U.heap ∧ va_K D vwCl (cTy cy) U ∧ (∀ q, U.heap.size ≤ q → A q) ∧ cV U) ∧ cZ A U)
def Ei (l : Launch) (D : va_G) (cy : Nat → ClassId) (A : Nat → Prop) (y : MethodName) (wc : List Cond) (rm : Room) (mc ms : Nat) (ws : va_W) (av : List Value) (post : Int32 → cS → Prop) : Prop := Met l y wc rm (ePc D cy A ws av) (va_Qi post (cB D cy A) A) mc ms A
theorem e_blind {D : va_G} {cy : Nat → ClassId} {A : Nat → Prop} {ws : va_W} {av : List Value} : FrameBlind (ePc D cy A ws av) := fun a' U g' mk h => ⟨h.1, ⟨h.2.1.1, va_K.moved (u := U) (U := U.calling g' mk a') (Vm.Alike.refl U.vm) h.2.1.2.1, h.2.1.2.2.1, h.2.1.2.2.2⟩, h.2.2⟩
theorem e_preS {D : va_G} {cy : Nat → ClassId} {A : Nat → Prop} {ws : va_W} {av : List Value} {s : State} {H : Heap} {locs : List Loc} (hP : va_P D vwCl ws H) (hK : va_K D vwCl (cTy cy) s) (hA : ∀ q, s.heap.size ≤ q → A q) (hS : va_S A s.heap H locs) (hV : cV s) (hZ : cZ A s) : PreS s H (ePc D cy A ws av) av := ⟨e_blind, fun U hU hW => ⟨rfl, ⟨by rw [hU]; exact hP, va_K.moved hW.alike hK, fun q h => hA q (Nat.le_trans hS.1 (by rw [← hU]; exact h)), hV.warm hW⟩, hZ.go hU hW hS⟩⟩
theorem e_preV {D : va_G} {cy : Nat → ClassId} {A : Nat → Prop} {ws : va_W} {av : List Value} {s : State} {H : Heap} {locs : List Loc} {C : String} {b ci N : Nat} {T : u_T} {fs : List Value} (ho : cIn ws b (.inr (ci, fs))) (hc : vwCl[ci]? = some (C, T, N)) (hP : va_P D vwCl ws H) (hK : va_K D vwCl (cTy cy) s) (hA : ∀ q, s.heap.size ≤ q → A q) (hS : va_S A s.heap H locs) (hV : cV s) (hZ : cZ A s) : PreV s H C b (ePc D cy A ws (.ref b :: av)) av := by
  obtain ⟨q0, hq⟩ := ho
  exact ⟨e_blind, va_recv hK hP hc hq, fun U hU hW => ⟨rfl, ⟨by rw [hU]; exact hP, va_K.moved hW.alike hK, fun q h => hA q (Nat.le_trans hS.1 (by rw [← hU]; exact h)), hV.warm hW⟩, hZ.go hU hW hS⟩⟩
set_option maxHeartbeats 4000000 in
set_option maxRecDepth 100000 in
theorem c_X9_ghostNumber_0 (l : Launch) (D : va_G) (cy : Nat → ClassId) (A : Nat → Prop) (G : cG) (ws : va_W) (set : Int32) (way : Int32) (x : Int32) (y : Int32)  (hD : va_D A ws) (hT : cT cy G ws)  (hw0 : way.toInt = -1) : Ei l D cy A yX9_ghostNumber wsX9_ghostNumber ({ frames := 0, cells := 0, slots := 0, locals := 0 }) 0 0 ws [.int set, .int way, .int x, .int y] (fun r0 u => u = (G, ws) ∧ (True)) := by
  refine Met.ofW (cc := cX9_ghostNumber) (maxL := 5) (ret := (some .int)) (by decide) rfl ?_
  intro p e s m args below meth c s₁ B hml hv
  obtain ⟨rfl, ⟨hP, hK, hA, hV⟩, hZ⟩ := hv
  obtain ⟨tX, tY, xX, xY, ⟨zX1, zX2, zX5⟩, ⟨zY1, zY2, zY5⟩⟩ := id hZ
  have hx := B.exec
  have hb := B.bytes
  have hr := B.returns
  have hts := atoms_spec (ws := wsX9_ghostNumber) B.pre
  have hown : s.vm.findClass RX9 = some m.cls := findClass_of_methodNamed B.named
  have hlocks := B.notSynchronized
  have hS : va_S A s.heap s.heap [] := va_S.rf
  have hl := lv_entry ([.int set, .int way, .int x, .int y]) (n := 5) (Nat.le_of_ble_eq_true rfl)
  rw [lg_entry_eq]
  generalize (lg_sl ([.int set, .int way, .int x, .int y]) ++ List.replicate (5 - (lg_sl ([.int set, .int way, .int x, .int y])).length) Slot.unset).toArray = ls at hl ⊢
  have hl : lv_has ls 5 [(0, .int set), (1, .int way), (2, .int x), (3, .int y)] := hl
  have k_0 : (0 : Int32).toInt = 0 := by decide
  have k_1 : (1 : Int32).toInt = 1 := by decide
  have k_4 : (4 : Int32).toInt = 4 := by decide
  refine lv_iload_n hx hb dX9_ghostNumber_0 rfl (lv_at hl 1 rfl) ?_
  refine lv_if_lt (tgt := 9) hx hb dX9_ghostNumber_1 (by decide) (fun c1 => ?_) (fun c1 => ?_)
  · skip
    have d1 := c1
    rw [fa_lt] at d1
    refine lv_iload_n hx hb dX9_ghostNumber_9 rfl (lv_at hl 2 rfl) ?_
    refine lv_if_ne (tgt := 21) hx hb dX9_ghostNumber_10 (by decide) (fun c10 => ?_) (fun c10 => ?_)
    · skip
      have d10 := c10
      rw [fa_eq] at d10
      refine lv_iconst (v := 0) hx hb dX9_ghostNumber_21 (by decide) ?_
      exact W.iret (v := (0 : Int32)) hx hb hr (fun t ht hW => ⟨⟨_, (G, ws), rfl, ⟨rfl, trivial⟩, by show va_P D vwCl ws t.heap; rw [ht]; exact hP, hD, hT⟩, hS.F ht⟩) hS.2.2 dX9_ghostNumber_22
    · skip
      have d10 := c10
      rw [fa_eq] at d10
      refine lv_iload_n hx hb dX9_ghostNumber_13 rfl (lv_at hl 3 rfl) ?_
      refine lv_if_ne (tgt := 21) hx hb dX9_ghostNumber_14 (by decide) (fun c14 => ?_) (fun c14 => ?_)
      · skip
        have d14 := c14
        rw [fa_eq] at d14
        refine lv_iconst (v := 0) hx hb dX9_ghostNumber_21 (by decide) ?_
        exact W.iret (v := (0 : Int32)) hx hb hr (fun t ht hW => ⟨⟨_, (G, ws), rfl, ⟨rfl, trivial⟩, by show va_P D vwCl ws t.heap; rw [ht]; exact hP, hD, hT⟩, hS.F ht⟩) hS.2.2 dX9_ghostNumber_22
      · skip
        have d14 := c14
        rw [fa_eq] at d14
        refine lv_iconst (v := 1) hx hb dX9_ghostNumber_17 (by decide) ?_
        refine lv_goto (tgt := 22) hx hb dX9_ghostNumber_18 (by decide) ?_
        exact W.iret (v := (1 : Int32)) hx hb hr (fun t ht hW => ⟨⟨_, (G, ws), rfl, ⟨rfl, trivial⟩, by show va_P D vwCl ws t.heap; rw [ht]; exact hP, hD, hT⟩, hS.F ht⟩) hS.2.2 dX9_ghostNumber_22
  · skip
    have d1 := c1
    rw [fa_lt] at d1
    refine lv_iload_n hx hb dX9_ghostNumber_4 rfl (lv_at hl 1 rfl) ?_
    refine lv_iconst (v := 4) hx hb dX9_ghostNumber_5 (by decide) ?_
    refine lv_icmp_lt (tgt := 23) hx hb dX9_ghostNumber_6 (by decide) (fun c6 => ?_) (fun c6 => ?_)
    · skip
      have d6 := c6
      rw [fa_lt] at d6
      exfalso; omega
    · skip
      have d6 := c6
      rw [fa_lt] at d6
      refine lv_iload_n hx hb dX9_ghostNumber_9 rfl (lv_at hl 2 rfl) ?_
      refine lv_if_ne (tgt := 21) hx hb dX9_ghostNumber_10 (by decide) (fun c10 => ?_) (fun c10 => ?_)
      · skip
        have d10 := c10
        rw [fa_eq] at d10
        refine lv_iconst (v := 0) hx hb dX9_ghostNumber_21 (by decide) ?_
        exact W.iret (v := (0 : Int32)) hx hb hr (fun t ht hW => ⟨⟨_, (G, ws), rfl, ⟨rfl, trivial⟩, by show va_P D vwCl ws t.heap; rw [ht]; exact hP, hD, hT⟩, hS.F ht⟩) hS.2.2 dX9_ghostNumber_22
      · skip
        have d10 := c10
        rw [fa_eq] at d10
        refine lv_iload_n hx hb dX9_ghostNumber_13 rfl (lv_at hl 3 rfl) ?_
        refine lv_if_ne (tgt := 21) hx hb dX9_ghostNumber_14 (by decide) (fun c14 => ?_) (fun c14 => ?_)
        · skip
          have d14 := c14
          rw [fa_eq] at d14
          refine lv_iconst (v := 0) hx hb dX9_ghostNumber_21 (by decide) ?_
          exact W.iret (v := (0 : Int32)) hx hb hr (fun t ht hW => ⟨⟨_, (G, ws), rfl, ⟨rfl, trivial⟩, by show va_P D vwCl ws t.heap; rw [ht]; exact hP, hD, hT⟩, hS.F ht⟩) hS.2.2 dX9_ghostNumber_22
        · skip
          have d14 := c14
          rw [fa_eq] at d14
          refine lv_iconst (v := 1) hx hb dX9_ghostNumber_17 (by decide) ?_
          refine lv_goto (tgt := 22) hx hb dX9_ghostNumber_18 (by decide) ?_
          exact W.iret (v := (1 : Int32)) hx hb hr (fun t ht hW => ⟨⟨_, (G, ws), rfl, ⟨rfl, trivial⟩, by show va_P D vwCl ws t.heap; rw [ht]; exact hP, hD, hT⟩, hS.F ht⟩) hS.2.2 dX9_ghostNumber_22
set_option maxHeartbeats 4000000 in
set_option maxRecDepth 100000 in
theorem c_X9_ghostNumber_1 (l : Launch) (D : va_G) (cy : Nat → ClassId) (A : Nat → Prop) (G : cG) (ws : va_W) (set : Int32) (way : Int32) (x : Int32) (y : Int32)  (hD : va_D A ws) (hT : cT cy G ws)  (hw0 : way.toInt = 0) : Ei l D cy A yX9_ghostNumber wsX9_ghostNumber ({ frames := 1, cells := 0, slots := 0, locals := 24 }) 0 0 ws [.int set, .int way, .int x, .int y] (fun r0 u => u = (G, ws) ∧ (True)) := by
  refine Met.ofW (cc := cX9_ghostNumber) (maxL := 5) (ret := (some .int)) (by decide) rfl ?_
  intro p e s m args below meth c s₁ B hml hv
  obtain ⟨rfl, ⟨hP, hK, hA, hV⟩, hZ⟩ := hv
  obtain ⟨tX, tY, xX, xY, ⟨zX1, zX2, zX5⟩, ⟨zY1, zY2, zY5⟩⟩ := id hZ
  have hx := B.exec
  have hb := B.bytes
  have hr := B.returns
  have hts := atoms_spec (ws := wsX9_ghostNumber) B.pre
  have hown : s.vm.findClass RX9 = some m.cls := findClass_of_methodNamed B.named
  have hlocks := B.notSynchronized
  have hS : va_S A s.heap s.heap [] := va_S.rf
  have hl := lv_entry ([.int set, .int way, .int x, .int y]) (n := 5) (Nat.le_of_ble_eq_true rfl)
  rw [lg_entry_eq]
  generalize (lg_sl ([.int set, .int way, .int x, .int y]) ++ List.replicate (5 - (lg_sl ([.int set, .int way, .int x, .int y])).length) Slot.unset).toArray = ls at hl ⊢
  have hl : lv_has ls 5 [(0, .int set), (1, .int way), (2, .int x), (3, .int y)] := hl
  have k_0 : (0 : Int32).toInt = 0 := by decide
  have k_1 : (1 : Int32).toInt = 1 := by decide
  have k_4 : (4 : Int32).toInt = 4 := by decide
  refine lv_iload_n hx hb dX9_ghostNumber_0 rfl (lv_at hl 1 rfl) ?_
  refine lv_if_lt (tgt := 9) hx hb dX9_ghostNumber_1 (by decide) (fun c1 => ?_) (fun c1 => ?_)
  · skip
    have d1 := c1
    rw [fa_lt] at d1
    refine lv_iload_n hx hb dX9_ghostNumber_9 rfl (lv_at hl 2 rfl) ?_
    refine lv_if_ne (tgt := 21) hx hb dX9_ghostNumber_10 (by decide) (fun c10 => ?_) (fun c10 => ?_)
    · skip
      have d10 := c10
      rw [fa_eq] at d10
      refine lv_iconst (v := 0) hx hb dX9_ghostNumber_21 (by decide) ?_
      exact W.iret (v := (0 : Int32)) hx hb hr (fun t ht hW => ⟨⟨_, (G, ws), rfl, ⟨rfl, trivial⟩, by show va_P D vwCl ws t.heap; rw [ht]; exact hP, hD, hT⟩, hS.F ht⟩) hS.2.2 dX9_ghostNumber_22
    · skip
      have d10 := c10
      rw [fa_eq] at d10
      refine lv_iload_n hx hb dX9_ghostNumber_13 rfl (lv_at hl 3 rfl) ?_
      refine lv_if_ne (tgt := 21) hx hb dX9_ghostNumber_14 (by decide) (fun c14 => ?_) (fun c14 => ?_)
      · skip
        have d14 := c14
        rw [fa_eq] at d14
        refine lv_iconst (v := 0) hx hb dX9_ghostNumber_21 (by decide) ?_
        exact W.iret (v := (0 : Int32)) hx hb hr (fun t ht hW => ⟨⟨_, (G, ws), rfl, ⟨rfl, trivial⟩, by show va_P D vwCl ws t.heap; rw [ht]; exact hP, hD, hT⟩, hS.F ht⟩) hS.2.2 dX9_ghostNumber_22
      · skip
        have d14 := c14
        rw [fa_eq] at d14
        refine lv_iconst (v := 1) hx hb dX9_ghostNumber_17 (by decide) ?_
        refine lv_goto (tgt := 22) hx hb dX9_ghostNumber_18 (by decide) ?_
        exact W.iret (v := (1 : Int32)) hx hb hr (fun t ht hW => ⟨⟨_, (G, ws), rfl, ⟨rfl, trivial⟩, by show va_P D vwCl ws t.heap; rw [ht]; exact hP, hD, hT⟩, hS.F ht⟩) hS.2.2 dX9_ghostNumber_22
  · skip
    have d1 := c1
    rw [fa_lt] at d1
    refine lv_iload_n hx hb dX9_ghostNumber_4 rfl (lv_at hl 1 rfl) ?_
    refine lv_iconst (v := 4) hx hb dX9_ghostNumber_5 (by decide) ?_
    refine lv_icmp_lt (tgt := 23) hx hb dX9_ghostNumber_6 (by decide) (fun c6 => ?_) (fun c6 => ?_)
    · skip
      have d6 := c6
      rw [fa_lt] at d6
      refine lv_iload_n hx hb dX9_ghostNumber_23 rfl (lv_at hl 0 rfl) ?_
      refine lv_iload_n hx hb dX9_ghostNumber_24 rfl (lv_at hl 1 rfl) ?_
      refine lv_iconst (v := 1) hx hb dX9_ghostNumber_25 (by decide) ?_
      refine lv_isub hx hb dX9_ghostNumber_26 ?_
      refine lv_topi (fun v26 e26 => ?_)
      have i26 : v26.toInt = way.toInt - (1 : Int32).toInt := by rw [e26]; exact fb_subI (by omega) (by omega)
      refine lv_iload_n hx hb dX9_ghostNumber_27 rfl (lv_at hl 2 rfl) ?_
      refine lv_iload_n hx hb dX9_ghostNumber_28 rfl (lv_at hl 3 rfl) ?_
      refine t_calli (va_runS (g := F0 m 29 ls ([.int y, .int x, .int v26, .int set])) (As := [.int set, .int v26, .int x, .int y]) (rest := []) ⟨hx, hb, hml, hown, hts⟩ (c_X9_ghostNumber_0 l D cy A G ws set v26 x y hD hT (by omega)) (va_cwS 4 hts gX9_ghostNumber_X9_ghostNumber rfl rfl rfl (by decide +kernel) ⟨Nat.le_of_ble_eq_true rfl, Nat.le_of_ble_eq_true rfl⟩) (e_preS hP hK hA hS hV hZ) rfl rfl hl.1 rfl (lv_room (Nat.le_of_ble_eq_true rfl)) dX9_ghostNumber_29 ⟨Nat.le_of_ble_eq_true rfl, Nat.le_of_ble_eq_true rfl⟩) hS (fun r29 u H locs q29 hP9 hD9 hT9 hS => ?_)
      obtain ⟨rfl, q29⟩ := q29
      have hP : va_P D vwCl ws H := hP9
      refine lv_istore (lv' := [(4, .int r29), (0, .int set), (1, .int way), (2, .int x), (3, .int y)]) hx hb dX9_ghostNumber_32 hl (by decide) rfl (fun ls hl => ?_)
      refine lv_iload_n hx hb dX9_ghostNumber_34 rfl (lv_at hl 1 rfl) ?_
      refine lv_iload_n hx hb dX9_ghostNumber_35 rfl (lv_at hl 2 rfl) ?_
      refine lv_ishr hx hb dX9_ghostNumber_36 ?_
      refine lv_topi (fun v36 e36 => ?_)
      refine lv_iconst (v := 1) hx hb dX9_ghostNumber_37 (by decide) ?_
      refine lv_iand hx hb dX9_ghostNumber_38 ?_
      refine lv_topi (fun v38 e38 => ?_)
      refine lv_if_ne (tgt := 45) hx hb dX9_ghostNumber_39 (by decide) (fun c39 => ?_) (fun c39 => ?_)
      · skip
        have d39 := c39
        rw [fa_eq] at d39
        refine lv_iload hx hb dX9_ghostNumber_45 (lv_at hl 0 rfl) ?_
        refine lv_iload_n hx hb dX9_ghostNumber_47 rfl (lv_at hl 1 rfl) ?_
        refine lv_iload_n hx hb dX9_ghostNumber_48 rfl (lv_at hl 2 rfl) ?_
        refine lv_iconst (v := 1) hx hb dX9_ghostNumber_49 (by decide) ?_
        refine lv_isub hx hb dX9_ghostNumber_50 ?_
        refine lv_topi (fun v50 e50 => ?_)
        have i50 : v50.toInt = way.toInt - (1 : Int32).toInt := by rw [e50]; exact fb_subI (by omega) (by omega)
        refine lv_iload_n hx hb dX9_ghostNumber_51 rfl (lv_at hl 3 rfl) ?_
        refine va_gets hx hb zX1 hS hown (hts (.fieldLink RX9 309 "ShadowBench$Board" "STEP_X" "[I") (by decide +kernel)) (fun _ h9 => h9) dX9_ghostNumber_52 ?_
        refine lv_iload_n hx hb dX9_ghostNumber_55 rfl (lv_at hl 2 rfl) ?_
        refine va_ti hx hb zX2 hS (i := way) (vp_in_iff.mpr ⟨by omega, by omega⟩) (v := .int (xX way.toNatClampNeg)) rfl dX9_ghostNumber_56 ?_
        refine lv_topi (fun v56 e56 => ?_)
        refine lv_isub hx hb dX9_ghostNumber_57 ?_
        refine lv_topi (fun v57 e57 => ?_)
        refine lv_iload_n hx hb dX9_ghostNumber_58 rfl (lv_at hl 4 rfl) ?_
        refine va_gets hx hb zY1 hS hown (hts (.fieldLink RX9 313 "ShadowBench$Board" "STEP_Y" "[I") (by decide +kernel)) (fun _ h9 => h9) dX9_ghostNumber_59 ?_
        refine lv_iload_n hx hb dX9_ghostNumber_62 rfl (lv_at hl 2 rfl) ?_
        refine va_ti hx hb zY2 hS (i := way) (vp_in_iff.mpr ⟨by omega, by omega⟩) (v := .int (xY way.toNatClampNeg)) rfl dX9_ghostNumber_63 ?_
        refine lv_topi (fun v63 e63 => ?_)
        refine lv_isub hx hb dX9_ghostNumber_64 ?_
        refine lv_topi (fun v64 e64 => ?_)
        refine t_calli (va_runS (g := F0 m 65 ls ([.int v64, .int v57, .int v50, .int set, .int r29])) (As := [.int set, .int v50, .int v57, .int v64]) (rest := [.int r29]) ⟨hx, hb, hml, hown, hts⟩ (c_X9_ghostNumber_0 l D cy A G ws set v50 v57 v64 hD hT (by omega)) (va_cwS 4 hts gX9_ghostNumber_X9_ghostNumber rfl rfl rfl (by decide +kernel) ⟨Nat.le_of_ble_eq_true rfl, Nat.le_of_ble_eq_true rfl⟩) (e_preS hP hK hA hS hV hZ) rfl rfl hl.1 rfl (lv_room (Nat.le_of_ble_eq_true rfl)) dX9_ghostNumber_65 ⟨Nat.le_of_ble_eq_true rfl, Nat.le_of_ble_eq_true rfl⟩) hS (fun r65 u H locs q65 hP9 hD9 hT9 hS => ?_)
        obtain ⟨rfl, q65⟩ := q65
        have hP : va_P D vwCl ws H := hP9
        refine lv_isub hx hb dX9_ghostNumber_68 ?_
        refine lv_topi (fun v68 e68 => ?_)
        exact W.iret (v := v68) hx hb hr (fun t ht hW => ⟨⟨_, (G, ws), rfl, ⟨rfl, trivial⟩, by show va_P D vwCl ws t.heap; rw [ht]; exact hP, hD, hT⟩, hS.F ht⟩) hS.2.2 dX9_ghostNumber_69
      · skip
        have d39 := c39
        rw [fa_eq] at d39
        refine lv_iload hx hb dX9_ghostNumber_42 (lv_at hl 0 rfl) ?_
        exact W.iret (v := r29) hx hb hr (fun t ht hW => ⟨⟨_, (G, ws), rfl, ⟨rfl, trivial⟩, by show va_P D vwCl ws t.heap; rw [ht]; exact hP, hD, hT⟩, hS.F ht⟩) hS.2.2 dX9_ghostNumber_44
    · skip
      have d6 := c6
      rw [fa_lt] at d6
      refine lv_iload_n hx hb dX9_ghostNumber_9 rfl (lv_at hl 2 rfl) ?_
      refine lv_if_ne (tgt := 21) hx hb dX9_ghostNumber_10 (by decide) (fun c10 => ?_) (fun c10 => ?_)
      · skip
        have d10 := c10
        rw [fa_eq] at d10
        refine lv_iconst (v := 0) hx hb dX9_ghostNumber_21 (by decide) ?_
        exact W.iret (v := (0 : Int32)) hx hb hr (fun t ht hW => ⟨⟨_, (G, ws), rfl, ⟨rfl, trivial⟩, by show va_P D vwCl ws t.heap; rw [ht]; exact hP, hD, hT⟩, hS.F ht⟩) hS.2.2 dX9_ghostNumber_22
      · skip
        have d10 := c10
        rw [fa_eq] at d10
        refine lv_iload_n hx hb dX9_ghostNumber_13 rfl (lv_at hl 3 rfl) ?_
        refine lv_if_ne (tgt := 21) hx hb dX9_ghostNumber_14 (by decide) (fun c14 => ?_) (fun c14 => ?_)
        · skip
          have d14 := c14
          rw [fa_eq] at d14
          refine lv_iconst (v := 0) hx hb dX9_ghostNumber_21 (by decide) ?_
          exact W.iret (v := (0 : Int32)) hx hb hr (fun t ht hW => ⟨⟨_, (G, ws), rfl, ⟨rfl, trivial⟩, by show va_P D vwCl ws t.heap; rw [ht]; exact hP, hD, hT⟩, hS.F ht⟩) hS.2.2 dX9_ghostNumber_22
        · skip
          have d14 := c14
          rw [fa_eq] at d14
          refine lv_iconst (v := 1) hx hb dX9_ghostNumber_17 (by decide) ?_
          refine lv_goto (tgt := 22) hx hb dX9_ghostNumber_18 (by decide) ?_
          exact W.iret (v := (1 : Int32)) hx hb hr (fun t ht hW => ⟨⟨_, (G, ws), rfl, ⟨rfl, trivial⟩, by show va_P D vwCl ws t.heap; rw [ht]; exact hP, hD, hT⟩, hS.F ht⟩) hS.2.2 dX9_ghostNumber_22
set_option maxHeartbeats 4000000 in
set_option maxRecDepth 100000 in
theorem c_X9_ghostNumber_2 (l : Launch) (D : va_G) (cy : Nat → ClassId) (A : Nat → Prop) (G : cG) (ws : va_W) (set : Int32) (way : Int32) (x : Int32) (y : Int32)  (hD : va_D A ws) (hT : cT cy G ws)  (hw0 : way.toInt = 1) : Ei l D cy A yX9_ghostNumber wsX9_ghostNumber ({ frames := 2, cells := 0, slots := 0, locals := 48 }) 0 0 ws [.int set, .int way, .int x, .int y] (fun r0 u => u = (G, ws) ∧ (True)) := by
  refine Met.ofW (cc := cX9_ghostNumber) (maxL := 5) (ret := (some .int)) (by decide) rfl ?_
  intro p e s m args below meth c s₁ B hml hv
  obtain ⟨rfl, ⟨hP, hK, hA, hV⟩, hZ⟩ := hv
  obtain ⟨tX, tY, xX, xY, ⟨zX1, zX2, zX5⟩, ⟨zY1, zY2, zY5⟩⟩ := id hZ
  have hx := B.exec
  have hb := B.bytes
  have hr := B.returns
  have hts := atoms_spec (ws := wsX9_ghostNumber) B.pre
  have hown : s.vm.findClass RX9 = some m.cls := findClass_of_methodNamed B.named
  have hlocks := B.notSynchronized
  have hS : va_S A s.heap s.heap [] := va_S.rf
  have hl := lv_entry ([.int set, .int way, .int x, .int y]) (n := 5) (Nat.le_of_ble_eq_true rfl)
  rw [lg_entry_eq]
  generalize (lg_sl ([.int set, .int way, .int x, .int y]) ++ List.replicate (5 - (lg_sl ([.int set, .int way, .int x, .int y])).length) Slot.unset).toArray = ls at hl ⊢
  have hl : lv_has ls 5 [(0, .int set), (1, .int way), (2, .int x), (3, .int y)] := hl
  have k_0 : (0 : Int32).toInt = 0 := by decide
  have k_1 : (1 : Int32).toInt = 1 := by decide
  have k_4 : (4 : Int32).toInt = 4 := by decide
  refine lv_iload_n hx hb dX9_ghostNumber_0 rfl (lv_at hl 1 rfl) ?_
  refine lv_if_lt (tgt := 9) hx hb dX9_ghostNumber_1 (by decide) (fun c1 => ?_) (fun c1 => ?_)
  · skip
    have d1 := c1
    rw [fa_lt] at d1
    refine lv_iload_n hx hb dX9_ghostNumber_9 rfl (lv_at hl 2 rfl) ?_
    refine lv_if_ne (tgt := 21) hx hb dX9_ghostNumber_10 (by decide) (fun c10 => ?_) (fun c10 => ?_)
    · skip
      have d10 := c10
      rw [fa_eq] at d10
      refine lv_iconst (v := 0) hx hb dX9_ghostNumber_21 (by decide) ?_
      exact W.iret (v := (0 : Int32)) hx hb hr (fun t ht hW => ⟨⟨_, (G, ws), rfl, ⟨rfl, trivial⟩, by show va_P D vwCl ws t.heap; rw [ht]; exact hP, hD, hT⟩, hS.F ht⟩) hS.2.2 dX9_ghostNumber_22
    · skip
      have d10 := c10
      rw [fa_eq] at d10
      refine lv_iload_n hx hb dX9_ghostNumber_13 rfl (lv_at hl 3 rfl) ?_
      refine lv_if_ne (tgt := 21) hx hb dX9_ghostNumber_14 (by decide) (fun c14 => ?_) (fun c14 => ?_)
      · skip
        have d14 := c14
        rw [fa_eq] at d14
        refine lv_iconst (v := 0) hx hb dX9_ghostNumber_21 (by decide) ?_
        exact W.iret (v := (0 : Int32)) hx hb hr (fun t ht hW => ⟨⟨_, (G, ws), rfl, ⟨rfl, trivial⟩, by show va_P D vwCl ws t.heap; rw [ht]; exact hP, hD, hT⟩, hS.F ht⟩) hS.2.2 dX9_ghostNumber_22
      · skip
        have d14 := c14
        rw [fa_eq] at d14
        refine lv_iconst (v := 1) hx hb dX9_ghostNumber_17 (by decide) ?_
        refine lv_goto (tgt := 22) hx hb dX9_ghostNumber_18 (by decide) ?_
        exact W.iret (v := (1 : Int32)) hx hb hr (fun t ht hW => ⟨⟨_, (G, ws), rfl, ⟨rfl, trivial⟩, by show va_P D vwCl ws t.heap; rw [ht]; exact hP, hD, hT⟩, hS.F ht⟩) hS.2.2 dX9_ghostNumber_22
  · skip
    have d1 := c1
    rw [fa_lt] at d1
    refine lv_iload_n hx hb dX9_ghostNumber_4 rfl (lv_at hl 1 rfl) ?_
    refine lv_iconst (v := 4) hx hb dX9_ghostNumber_5 (by decide) ?_
    refine lv_icmp_lt (tgt := 23) hx hb dX9_ghostNumber_6 (by decide) (fun c6 => ?_) (fun c6 => ?_)
    · skip
      have d6 := c6
      rw [fa_lt] at d6
      refine lv_iload_n hx hb dX9_ghostNumber_23 rfl (lv_at hl 0 rfl) ?_
      refine lv_iload_n hx hb dX9_ghostNumber_24 rfl (lv_at hl 1 rfl) ?_
      refine lv_iconst (v := 1) hx hb dX9_ghostNumber_25 (by decide) ?_
      refine lv_isub hx hb dX9_ghostNumber_26 ?_
      refine lv_topi (fun v26 e26 => ?_)
      have i26 : v26.toInt = way.toInt - (1 : Int32).toInt := by rw [e26]; exact fb_subI (by omega) (by omega)
      refine lv_iload_n hx hb dX9_ghostNumber_27 rfl (lv_at hl 2 rfl) ?_
      refine lv_iload_n hx hb dX9_ghostNumber_28 rfl (lv_at hl 3 rfl) ?_
      refine t_calli (va_runS (g := F0 m 29 ls ([.int y, .int x, .int v26, .int set])) (As := [.int set, .int v26, .int x, .int y]) (rest := []) ⟨hx, hb, hml, hown, hts⟩ (c_X9_ghostNumber_1 l D cy A G ws set v26 x y hD hT (by omega)) (va_cwS 4 hts gX9_ghostNumber_X9_ghostNumber rfl rfl rfl (by decide +kernel) ⟨Nat.le_of_ble_eq_true rfl, Nat.le_of_ble_eq_true rfl⟩) (e_preS hP hK hA hS hV hZ) rfl rfl hl.1 rfl (lv_room (Nat.le_of_ble_eq_true rfl)) dX9_ghostNumber_29 ⟨Nat.le_of_ble_eq_true rfl, Nat.le_of_ble_eq_true rfl⟩) hS (fun r29 u H locs q29 hP9 hD9 hT9 hS => ?_)
      obtain ⟨rfl, q29⟩ := q29
      have hP : va_P D vwCl ws H := hP9
      refine lv_istore (lv' := [(4, .int r29), (0, .int set), (1, .int way), (2, .int x), (3, .int y)]) hx hb dX9_ghostNumber_32 hl (by decide) rfl (fun ls hl => ?_)
      refine lv_iload_n hx hb dX9_ghostNumber_34 rfl (lv_at hl 1 rfl) ?_
      refine lv_iload_n hx hb dX9_ghostNumber_35 rfl (lv_at hl 2 rfl) ?_
      refine lv_ishr hx hb dX9_ghostNumber_36 ?_
      refine lv_topi (fun v36 e36 => ?_)
      refine lv_iconst (v := 1) hx hb dX9_ghostNumber_37 (by decide) ?_
      refine lv_iand hx hb dX9_ghostNumber_38 ?_
      refine lv_topi (fun v38 e38 => ?_)
      refine lv_if_ne (tgt := 45) hx hb dX9_ghostNumber_39 (by decide) (fun c39 => ?_) (fun c39 => ?_)
      · skip
        have d39 := c39
        rw [fa_eq] at d39
        refine lv_iload hx hb dX9_ghostNumber_45 (lv_at hl 0 rfl) ?_
        refine lv_iload_n hx hb dX9_ghostNumber_47 rfl (lv_at hl 1 rfl) ?_
        refine lv_iload_n hx hb dX9_ghostNumber_48 rfl (lv_at hl 2 rfl) ?_
        refine lv_iconst (v := 1) hx hb dX9_ghostNumber_49 (by decide) ?_
        refine lv_isub hx hb dX9_ghostNumber_50 ?_
        refine lv_topi (fun v50 e50 => ?_)
        have i50 : v50.toInt = way.toInt - (1 : Int32).toInt := by rw [e50]; exact fb_subI (by omega) (by omega)
        refine lv_iload_n hx hb dX9_ghostNumber_51 rfl (lv_at hl 3 rfl) ?_
        refine va_gets hx hb zX1 hS hown (hts (.fieldLink RX9 309 "ShadowBench$Board" "STEP_X" "[I") (by decide +kernel)) (fun _ h9 => h9) dX9_ghostNumber_52 ?_
        refine lv_iload_n hx hb dX9_ghostNumber_55 rfl (lv_at hl 2 rfl) ?_
        refine va_ti hx hb zX2 hS (i := way) (vp_in_iff.mpr ⟨by omega, by omega⟩) (v := .int (xX way.toNatClampNeg)) rfl dX9_ghostNumber_56 ?_
        refine lv_topi (fun v56 e56 => ?_)
        refine lv_isub hx hb dX9_ghostNumber_57 ?_
        refine lv_topi (fun v57 e57 => ?_)
        refine lv_iload_n hx hb dX9_ghostNumber_58 rfl (lv_at hl 4 rfl) ?_
        refine va_gets hx hb zY1 hS hown (hts (.fieldLink RX9 313 "ShadowBench$Board" "STEP_Y" "[I") (by decide +kernel)) (fun _ h9 => h9) dX9_ghostNumber_59 ?_
        refine lv_iload_n hx hb dX9_ghostNumber_62 rfl (lv_at hl 2 rfl) ?_
        refine va_ti hx hb zY2 hS (i := way) (vp_in_iff.mpr ⟨by omega, by omega⟩) (v := .int (xY way.toNatClampNeg)) rfl dX9_ghostNumber_63 ?_
        refine lv_topi (fun v63 e63 => ?_)
        refine lv_isub hx hb dX9_ghostNumber_64 ?_
        refine lv_topi (fun v64 e64 => ?_)
        refine t_calli (va_runS (g := F0 m 65 ls ([.int v64, .int v57, .int v50, .int set, .int r29])) (As := [.int set, .int v50, .int v57, .int v64]) (rest := [.int r29]) ⟨hx, hb, hml, hown, hts⟩ (c_X9_ghostNumber_1 l D cy A G ws set v50 v57 v64 hD hT (by omega)) (va_cwS 4 hts gX9_ghostNumber_X9_ghostNumber rfl rfl rfl (by decide +kernel) ⟨Nat.le_of_ble_eq_true rfl, Nat.le_of_ble_eq_true rfl⟩) (e_preS hP hK hA hS hV hZ) rfl rfl hl.1 rfl (lv_room (Nat.le_of_ble_eq_true rfl)) dX9_ghostNumber_65 ⟨Nat.le_of_ble_eq_true rfl, Nat.le_of_ble_eq_true rfl⟩) hS (fun r65 u H locs q65 hP9 hD9 hT9 hS => ?_)
        obtain ⟨rfl, q65⟩ := q65
        have hP : va_P D vwCl ws H := hP9
        refine lv_isub hx hb dX9_ghostNumber_68 ?_
        refine lv_topi (fun v68 e68 => ?_)
        exact W.iret (v := v68) hx hb hr (fun t ht hW => ⟨⟨_, (G, ws), rfl, ⟨rfl, trivial⟩, by show va_P D vwCl ws t.heap; rw [ht]; exact hP, hD, hT⟩, hS.F ht⟩) hS.2.2 dX9_ghostNumber_69
      · skip
        have d39 := c39
        rw [fa_eq] at d39
        refine lv_iload hx hb dX9_ghostNumber_42 (lv_at hl 0 rfl) ?_
        exact W.iret (v := r29) hx hb hr (fun t ht hW => ⟨⟨_, (G, ws), rfl, ⟨rfl, trivial⟩, by show va_P D vwCl ws t.heap; rw [ht]; exact hP, hD, hT⟩, hS.F ht⟩) hS.2.2 dX9_ghostNumber_44
    · skip
      have d6 := c6
      rw [fa_lt] at d6
      refine lv_iload_n hx hb dX9_ghostNumber_9 rfl (lv_at hl 2 rfl) ?_
      refine lv_if_ne (tgt := 21) hx hb dX9_ghostNumber_10 (by decide) (fun c10 => ?_) (fun c10 => ?_)
      · skip
        have d10 := c10
        rw [fa_eq] at d10
        refine lv_iconst (v := 0) hx hb dX9_ghostNumber_21 (by decide) ?_
        exact W.iret (v := (0 : Int32)) hx hb hr (fun t ht hW => ⟨⟨_, (G, ws), rfl, ⟨rfl, trivial⟩, by show va_P D vwCl ws t.heap; rw [ht]; exact hP, hD, hT⟩, hS.F ht⟩) hS.2.2 dX9_ghostNumber_22
      · skip
        have d10 := c10
        rw [fa_eq] at d10
        refine lv_iload_n hx hb dX9_ghostNumber_13 rfl (lv_at hl 3 rfl) ?_
        refine lv_if_ne (tgt := 21) hx hb dX9_ghostNumber_14 (by decide) (fun c14 => ?_) (fun c14 => ?_)
        · skip
          have d14 := c14
          rw [fa_eq] at d14
          refine lv_iconst (v := 0) hx hb dX9_ghostNumber_21 (by decide) ?_
          exact W.iret (v := (0 : Int32)) hx hb hr (fun t ht hW => ⟨⟨_, (G, ws), rfl, ⟨rfl, trivial⟩, by show va_P D vwCl ws t.heap; rw [ht]; exact hP, hD, hT⟩, hS.F ht⟩) hS.2.2 dX9_ghostNumber_22
        · skip
          have d14 := c14
          rw [fa_eq] at d14
          refine lv_iconst (v := 1) hx hb dX9_ghostNumber_17 (by decide) ?_
          refine lv_goto (tgt := 22) hx hb dX9_ghostNumber_18 (by decide) ?_
          exact W.iret (v := (1 : Int32)) hx hb hr (fun t ht hW => ⟨⟨_, (G, ws), rfl, ⟨rfl, trivial⟩, by show va_P D vwCl ws t.heap; rw [ht]; exact hP, hD, hT⟩, hS.F ht⟩) hS.2.2 dX9_ghostNumber_22
set_option maxHeartbeats 4000000 in
set_option maxRecDepth 100000 in
theorem c_X9_ghostNumber_3 (l : Launch) (D : va_G) (cy : Nat → ClassId) (A : Nat → Prop) (G : cG) (ws : va_W) (set : Int32) (way : Int32) (x : Int32) (y : Int32)  (hD : va_D A ws) (hT : cT cy G ws)  (hw0 : way.toInt = 2) : Ei l D cy A yX9_ghostNumber wsX9_ghostNumber ({ frames := 3, cells := 0, slots := 0, locals := 72 }) 0 0 ws [.int set, .int way, .int x, .int y] (fun r0 u => u = (G, ws) ∧ (True)) := by
  refine Met.ofW (cc := cX9_ghostNumber) (maxL := 5) (ret := (some .int)) (by decide) rfl ?_
  intro p e s m args below meth c s₁ B hml hv
  obtain ⟨rfl, ⟨hP, hK, hA, hV⟩, hZ⟩ := hv
  obtain ⟨tX, tY, xX, xY, ⟨zX1, zX2, zX5⟩, ⟨zY1, zY2, zY5⟩⟩ := id hZ
  have hx := B.exec
  have hb := B.bytes
  have hr := B.returns
  have hts := atoms_spec (ws := wsX9_ghostNumber) B.pre
  have hown : s.vm.findClass RX9 = some m.cls := findClass_of_methodNamed B.named
  have hlocks := B.notSynchronized
  have hS : va_S A s.heap s.heap [] := va_S.rf
  have hl := lv_entry ([.int set, .int way, .int x, .int y]) (n := 5) (Nat.le_of_ble_eq_true rfl)
  rw [lg_entry_eq]
  generalize (lg_sl ([.int set, .int way, .int x, .int y]) ++ List.replicate (5 - (lg_sl ([.int set, .int way, .int x, .int y])).length) Slot.unset).toArray = ls at hl ⊢
  have hl : lv_has ls 5 [(0, .int set), (1, .int way), (2, .int x), (3, .int y)] := hl
  have k_0 : (0 : Int32).toInt = 0 := by decide
  have k_1 : (1 : Int32).toInt = 1 := by decide
  have k_4 : (4 : Int32).toInt = 4 := by decide
  refine lv_iload_n hx hb dX9_ghostNumber_0 rfl (lv_at hl 1 rfl) ?_
  refine lv_if_lt (tgt := 9) hx hb dX9_ghostNumber_1 (by decide) (fun c1 => ?_) (fun c1 => ?_)
  · skip
    have d1 := c1
    rw [fa_lt] at d1
    refine lv_iload_n hx hb dX9_ghostNumber_9 rfl (lv_at hl 2 rfl) ?_
    refine lv_if_ne (tgt := 21) hx hb dX9_ghostNumber_10 (by decide) (fun c10 => ?_) (fun c10 => ?_)
    · skip
      have d10 := c10
      rw [fa_eq] at d10
      refine lv_iconst (v := 0) hx hb dX9_ghostNumber_21 (by decide) ?_
      exact W.iret (v := (0 : Int32)) hx hb hr (fun t ht hW => ⟨⟨_, (G, ws), rfl, ⟨rfl, trivial⟩, by show va_P D vwCl ws t.heap; rw [ht]; exact hP, hD, hT⟩, hS.F ht⟩) hS.2.2 dX9_ghostNumber_22
    · skip
      have d10 := c10
      rw [fa_eq] at d10
      refine lv_iload_n hx hb dX9_ghostNumber_13 rfl (lv_at hl 3 rfl) ?_
      refine lv_if_ne (tgt := 21) hx hb dX9_ghostNumber_14 (by decide) (fun c14 => ?_) (fun c14 => ?_)
      · skip
        have d14 := c14
        rw [fa_eq] at d14
        refine lv_iconst (v := 0) hx hb dX9_ghostNumber_21 (by decide) ?_
        exact W.iret (v := (0 : Int32)) hx hb hr (fun t ht hW => ⟨⟨_, (G, ws), rfl, ⟨rfl, trivial⟩, by show va_P D vwCl ws t.heap; rw [ht]; exact hP, hD, hT⟩, hS.F ht⟩) hS.2.2 dX9_ghostNumber_22
      · skip
        have d14 := c14
        rw [fa_eq] at d14
        refine lv_iconst (v := 1) hx hb dX9_ghostNumber_17 (by decide) ?_
        refine lv_goto (tgt := 22) hx hb dX9_ghostNumber_18 (by decide) ?_
        exact W.iret (v := (1 : Int32)) hx hb hr (fun t ht hW => ⟨⟨_, (G, ws), rfl, ⟨rfl, trivial⟩, by show va_P D vwCl ws t.heap; rw [ht]; exact hP, hD, hT⟩, hS.F ht⟩) hS.2.2 dX9_ghostNumber_22
  · skip
    have d1 := c1
    rw [fa_lt] at d1
    refine lv_iload_n hx hb dX9_ghostNumber_4 rfl (lv_at hl 1 rfl) ?_
    refine lv_iconst (v := 4) hx hb dX9_ghostNumber_5 (by decide) ?_
    refine lv_icmp_lt (tgt := 23) hx hb dX9_ghostNumber_6 (by decide) (fun c6 => ?_) (fun c6 => ?_)
    · skip
      have d6 := c6
      rw [fa_lt] at d6
      refine lv_iload_n hx hb dX9_ghostNumber_23 rfl (lv_at hl 0 rfl) ?_
      refine lv_iload_n hx hb dX9_ghostNumber_24 rfl (lv_at hl 1 rfl) ?_
      refine lv_iconst (v := 1) hx hb dX9_ghostNumber_25 (by decide) ?_
      refine lv_isub hx hb dX9_ghostNumber_26 ?_
      refine lv_topi (fun v26 e26 => ?_)
      have i26 : v26.toInt = way.toInt - (1 : Int32).toInt := by rw [e26]; exact fb_subI (by omega) (by omega)
      refine lv_iload_n hx hb dX9_ghostNumber_27 rfl (lv_at hl 2 rfl) ?_
      refine lv_iload_n hx hb dX9_ghostNumber_28 rfl (lv_at hl 3 rfl) ?_
      refine t_calli (va_runS (g := F0 m 29 ls ([.int y, .int x, .int v26, .int set])) (As := [.int set, .int v26, .int x, .int y]) (rest := []) ⟨hx, hb, hml, hown, hts⟩ (c_X9_ghostNumber_2 l D cy A G ws set v26 x y hD hT (by omega)) (va_cwS 4 hts gX9_ghostNumber_X9_ghostNumber rfl rfl rfl (by decide +kernel) ⟨Nat.le_of_ble_eq_true rfl, Nat.le_of_ble_eq_true rfl⟩) (e_preS hP hK hA hS hV hZ) rfl rfl hl.1 rfl (lv_room (Nat.le_of_ble_eq_true rfl)) dX9_ghostNumber_29 ⟨Nat.le_of_ble_eq_true rfl, Nat.le_of_ble_eq_true rfl⟩) hS (fun r29 u H locs q29 hP9 hD9 hT9 hS => ?_)
      obtain ⟨rfl, q29⟩ := q29
      have hP : va_P D vwCl ws H := hP9
      refine lv_istore (lv' := [(4, .int r29), (0, .int set), (1, .int way), (2, .int x), (3, .int y)]) hx hb dX9_ghostNumber_32 hl (by decide) rfl (fun ls hl => ?_)
      refine lv_iload_n hx hb dX9_ghostNumber_34 rfl (lv_at hl 1 rfl) ?_
      refine lv_iload_n hx hb dX9_ghostNumber_35 rfl (lv_at hl 2 rfl) ?_
      refine lv_ishr hx hb dX9_ghostNumber_36 ?_
      refine lv_topi (fun v36 e36 => ?_)
      refine lv_iconst (v := 1) hx hb dX9_ghostNumber_37 (by decide) ?_
      refine lv_iand hx hb dX9_ghostNumber_38 ?_
      refine lv_topi (fun v38 e38 => ?_)
      refine lv_if_ne (tgt := 45) hx hb dX9_ghostNumber_39 (by decide) (fun c39 => ?_) (fun c39 => ?_)
      · skip
        have d39 := c39
        rw [fa_eq] at d39
        refine lv_iload hx hb dX9_ghostNumber_45 (lv_at hl 0 rfl) ?_
        refine lv_iload_n hx hb dX9_ghostNumber_47 rfl (lv_at hl 1 rfl) ?_
        refine lv_iload_n hx hb dX9_ghostNumber_48 rfl (lv_at hl 2 rfl) ?_
        refine lv_iconst (v := 1) hx hb dX9_ghostNumber_49 (by decide) ?_
        refine lv_isub hx hb dX9_ghostNumber_50 ?_
        refine lv_topi (fun v50 e50 => ?_)
        have i50 : v50.toInt = way.toInt - (1 : Int32).toInt := by rw [e50]; exact fb_subI (by omega) (by omega)
        refine lv_iload_n hx hb dX9_ghostNumber_51 rfl (lv_at hl 3 rfl) ?_
        refine va_gets hx hb zX1 hS hown (hts (.fieldLink RX9 309 "ShadowBench$Board" "STEP_X" "[I") (by decide +kernel)) (fun _ h9 => h9) dX9_ghostNumber_52 ?_
        refine lv_iload_n hx hb dX9_ghostNumber_55 rfl (lv_at hl 2 rfl) ?_
        refine va_ti hx hb zX2 hS (i := way) (vp_in_iff.mpr ⟨by omega, by omega⟩) (v := .int (xX way.toNatClampNeg)) rfl dX9_ghostNumber_56 ?_
        refine lv_topi (fun v56 e56 => ?_)
        refine lv_isub hx hb dX9_ghostNumber_57 ?_
        refine lv_topi (fun v57 e57 => ?_)
        refine lv_iload_n hx hb dX9_ghostNumber_58 rfl (lv_at hl 4 rfl) ?_
        refine va_gets hx hb zY1 hS hown (hts (.fieldLink RX9 313 "ShadowBench$Board" "STEP_Y" "[I") (by decide +kernel)) (fun _ h9 => h9) dX9_ghostNumber_59 ?_
        refine lv_iload_n hx hb dX9_ghostNumber_62 rfl (lv_at hl 2 rfl) ?_
        refine va_ti hx hb zY2 hS (i := way) (vp_in_iff.mpr ⟨by omega, by omega⟩) (v := .int (xY way.toNatClampNeg)) rfl dX9_ghostNumber_63 ?_
        refine lv_topi (fun v63 e63 => ?_)
        refine lv_isub hx hb dX9_ghostNumber_64 ?_
        refine lv_topi (fun v64 e64 => ?_)
        refine t_calli (va_runS (g := F0 m 65 ls ([.int v64, .int v57, .int v50, .int set, .int r29])) (As := [.int set, .int v50, .int v57, .int v64]) (rest := [.int r29]) ⟨hx, hb, hml, hown, hts⟩ (c_X9_ghostNumber_2 l D cy A G ws set v50 v57 v64 hD hT (by omega)) (va_cwS 4 hts gX9_ghostNumber_X9_ghostNumber rfl rfl rfl (by decide +kernel) ⟨Nat.le_of_ble_eq_true rfl, Nat.le_of_ble_eq_true rfl⟩) (e_preS hP hK hA hS hV hZ) rfl rfl hl.1 rfl (lv_room (Nat.le_of_ble_eq_true rfl)) dX9_ghostNumber_65 ⟨Nat.le_of_ble_eq_true rfl, Nat.le_of_ble_eq_true rfl⟩) hS (fun r65 u H locs q65 hP9 hD9 hT9 hS => ?_)
        obtain ⟨rfl, q65⟩ := q65
        have hP : va_P D vwCl ws H := hP9
        refine lv_isub hx hb dX9_ghostNumber_68 ?_
        refine lv_topi (fun v68 e68 => ?_)
        exact W.iret (v := v68) hx hb hr (fun t ht hW => ⟨⟨_, (G, ws), rfl, ⟨rfl, trivial⟩, by show va_P D vwCl ws t.heap; rw [ht]; exact hP, hD, hT⟩, hS.F ht⟩) hS.2.2 dX9_ghostNumber_69
      · skip
        have d39 := c39
        rw [fa_eq] at d39
        refine lv_iload hx hb dX9_ghostNumber_42 (lv_at hl 0 rfl) ?_
        exact W.iret (v := r29) hx hb hr (fun t ht hW => ⟨⟨_, (G, ws), rfl, ⟨rfl, trivial⟩, by show va_P D vwCl ws t.heap; rw [ht]; exact hP, hD, hT⟩, hS.F ht⟩) hS.2.2 dX9_ghostNumber_44
    · skip
      have d6 := c6
      rw [fa_lt] at d6
      refine lv_iload_n hx hb dX9_ghostNumber_9 rfl (lv_at hl 2 rfl) ?_
      refine lv_if_ne (tgt := 21) hx hb dX9_ghostNumber_10 (by decide) (fun c10 => ?_) (fun c10 => ?_)
      · skip
        have d10 := c10
        rw [fa_eq] at d10
        refine lv_iconst (v := 0) hx hb dX9_ghostNumber_21 (by decide) ?_
        exact W.iret (v := (0 : Int32)) hx hb hr (fun t ht hW => ⟨⟨_, (G, ws), rfl, ⟨rfl, trivial⟩, by show va_P D vwCl ws t.heap; rw [ht]; exact hP, hD, hT⟩, hS.F ht⟩) hS.2.2 dX9_ghostNumber_22
      · skip
        have d10 := c10
        rw [fa_eq] at d10
        refine lv_iload_n hx hb dX9_ghostNumber_13 rfl (lv_at hl 3 rfl) ?_
        refine lv_if_ne (tgt := 21) hx hb dX9_ghostNumber_14 (by decide) (fun c14 => ?_) (fun c14 => ?_)
        · skip
          have d14 := c14
          rw [fa_eq] at d14
          refine lv_iconst (v := 0) hx hb dX9_ghostNumber_21 (by decide) ?_
          exact W.iret (v := (0 : Int32)) hx hb hr (fun t ht hW => ⟨⟨_, (G, ws), rfl, ⟨rfl, trivial⟩, by show va_P D vwCl ws t.heap; rw [ht]; exact hP, hD, hT⟩, hS.F ht⟩) hS.2.2 dX9_ghostNumber_22
        · skip
          have d14 := c14
          rw [fa_eq] at d14
          refine lv_iconst (v := 1) hx hb dX9_ghostNumber_17 (by decide) ?_
          refine lv_goto (tgt := 22) hx hb dX9_ghostNumber_18 (by decide) ?_
          exact W.iret (v := (1 : Int32)) hx hb hr (fun t ht hW => ⟨⟨_, (G, ws), rfl, ⟨rfl, trivial⟩, by show va_P D vwCl ws t.heap; rw [ht]; exact hP, hD, hT⟩, hS.F ht⟩) hS.2.2 dX9_ghostNumber_22
set_option maxHeartbeats 4000000 in
set_option maxRecDepth 100000 in
theorem c_X9_ghostNumber_4 (l : Launch) (D : va_G) (cy : Nat → ClassId) (A : Nat → Prop) (G : cG) (ws : va_W) (set : Int32) (way : Int32) (x : Int32) (y : Int32)  (hD : va_D A ws) (hT : cT cy G ws)  (hw0 : way.toInt = 3) : Ei l D cy A yX9_ghostNumber wsX9_ghostNumber ({ frames := 4, cells := 0, slots := 0, locals := 96 }) 0 0 ws [.int set, .int way, .int x, .int y] (fun r0 u => u = (G, ws) ∧ (True)) := by
  refine Met.ofW (cc := cX9_ghostNumber) (maxL := 5) (ret := (some .int)) (by decide) rfl ?_
  intro p e s m args below meth c s₁ B hml hv
  obtain ⟨rfl, ⟨hP, hK, hA, hV⟩, hZ⟩ := hv
  obtain ⟨tX, tY, xX, xY, ⟨zX1, zX2, zX5⟩, ⟨zY1, zY2, zY5⟩⟩ := id hZ
  have hx := B.exec
  have hb := B.bytes
  have hr := B.returns
  have hts := atoms_spec (ws := wsX9_ghostNumber) B.pre
  have hown : s.vm.findClass RX9 = some m.cls := findClass_of_methodNamed B.named
  have hlocks := B.notSynchronized
  have hS : va_S A s.heap s.heap [] := va_S.rf
  have hl := lv_entry ([.int set, .int way, .int x, .int y]) (n := 5) (Nat.le_of_ble_eq_true rfl)
  rw [lg_entry_eq]
  generalize (lg_sl ([.int set, .int way, .int x, .int y]) ++ List.replicate (5 - (lg_sl ([.int set, .int way, .int x, .int y])).length) Slot.unset).toArray = ls at hl ⊢
  have hl : lv_has ls 5 [(0, .int set), (1, .int way), (2, .int x), (3, .int y)] := hl
  have k_0 : (0 : Int32).toInt = 0 := by decide
  have k_1 : (1 : Int32).toInt = 1 := by decide
  have k_4 : (4 : Int32).toInt = 4 := by decide
  refine lv_iload_n hx hb dX9_ghostNumber_0 rfl (lv_at hl 1 rfl) ?_
  refine lv_if_lt (tgt := 9) hx hb dX9_ghostNumber_1 (by decide) (fun c1 => ?_) (fun c1 => ?_)
  · skip
    have d1 := c1
    rw [fa_lt] at d1
    refine lv_iload_n hx hb dX9_ghostNumber_9 rfl (lv_at hl 2 rfl) ?_
    refine lv_if_ne (tgt := 21) hx hb dX9_ghostNumber_10 (by decide) (fun c10 => ?_) (fun c10 => ?_)
    · skip
      have d10 := c10
      rw [fa_eq] at d10
      refine lv_iconst (v := 0) hx hb dX9_ghostNumber_21 (by decide) ?_
      exact W.iret (v := (0 : Int32)) hx hb hr (fun t ht hW => ⟨⟨_, (G, ws), rfl, ⟨rfl, trivial⟩, by show va_P D vwCl ws t.heap; rw [ht]; exact hP, hD, hT⟩, hS.F ht⟩) hS.2.2 dX9_ghostNumber_22
    · skip
      have d10 := c10
      rw [fa_eq] at d10
      refine lv_iload_n hx hb dX9_ghostNumber_13 rfl (lv_at hl 3 rfl) ?_
      refine lv_if_ne (tgt := 21) hx hb dX9_ghostNumber_14 (by decide) (fun c14 => ?_) (fun c14 => ?_)
      · skip
        have d14 := c14
        rw [fa_eq] at d14
        refine lv_iconst (v := 0) hx hb dX9_ghostNumber_21 (by decide) ?_
        exact W.iret (v := (0 : Int32)) hx hb hr (fun t ht hW => ⟨⟨_, (G, ws), rfl, ⟨rfl, trivial⟩, by show va_P D vwCl ws t.heap; rw [ht]; exact hP, hD, hT⟩, hS.F ht⟩) hS.2.2 dX9_ghostNumber_22
      · skip
        have d14 := c14
        rw [fa_eq] at d14
        refine lv_iconst (v := 1) hx hb dX9_ghostNumber_17 (by decide) ?_
        refine lv_goto (tgt := 22) hx hb dX9_ghostNumber_18 (by decide) ?_
        exact W.iret (v := (1 : Int32)) hx hb hr (fun t ht hW => ⟨⟨_, (G, ws), rfl, ⟨rfl, trivial⟩, by show va_P D vwCl ws t.heap; rw [ht]; exact hP, hD, hT⟩, hS.F ht⟩) hS.2.2 dX9_ghostNumber_22
  · skip
    have d1 := c1
    rw [fa_lt] at d1
    refine lv_iload_n hx hb dX9_ghostNumber_4 rfl (lv_at hl 1 rfl) ?_
    refine lv_iconst (v := 4) hx hb dX9_ghostNumber_5 (by decide) ?_
    refine lv_icmp_lt (tgt := 23) hx hb dX9_ghostNumber_6 (by decide) (fun c6 => ?_) (fun c6 => ?_)
    · skip
      have d6 := c6
      rw [fa_lt] at d6
      refine lv_iload_n hx hb dX9_ghostNumber_23 rfl (lv_at hl 0 rfl) ?_
      refine lv_iload_n hx hb dX9_ghostNumber_24 rfl (lv_at hl 1 rfl) ?_
      refine lv_iconst (v := 1) hx hb dX9_ghostNumber_25 (by decide) ?_
      refine lv_isub hx hb dX9_ghostNumber_26 ?_
      refine lv_topi (fun v26 e26 => ?_)
      have i26 : v26.toInt = way.toInt - (1 : Int32).toInt := by rw [e26]; exact fb_subI (by omega) (by omega)
      refine lv_iload_n hx hb dX9_ghostNumber_27 rfl (lv_at hl 2 rfl) ?_
      refine lv_iload_n hx hb dX9_ghostNumber_28 rfl (lv_at hl 3 rfl) ?_
      refine t_calli (va_runS (g := F0 m 29 ls ([.int y, .int x, .int v26, .int set])) (As := [.int set, .int v26, .int x, .int y]) (rest := []) ⟨hx, hb, hml, hown, hts⟩ (c_X9_ghostNumber_3 l D cy A G ws set v26 x y hD hT (by omega)) (va_cwS 4 hts gX9_ghostNumber_X9_ghostNumber rfl rfl rfl (by decide +kernel) ⟨Nat.le_of_ble_eq_true rfl, Nat.le_of_ble_eq_true rfl⟩) (e_preS hP hK hA hS hV hZ) rfl rfl hl.1 rfl (lv_room (Nat.le_of_ble_eq_true rfl)) dX9_ghostNumber_29 ⟨Nat.le_of_ble_eq_true rfl, Nat.le_of_ble_eq_true rfl⟩) hS (fun r29 u H locs q29 hP9 hD9 hT9 hS => ?_)
      obtain ⟨rfl, q29⟩ := q29
      have hP : va_P D vwCl ws H := hP9
      refine lv_istore (lv' := [(4, .int r29), (0, .int set), (1, .int way), (2, .int x), (3, .int y)]) hx hb dX9_ghostNumber_32 hl (by decide) rfl (fun ls hl => ?_)
      refine lv_iload_n hx hb dX9_ghostNumber_34 rfl (lv_at hl 1 rfl) ?_
      refine lv_iload_n hx hb dX9_ghostNumber_35 rfl (lv_at hl 2 rfl) ?_
      refine lv_ishr hx hb dX9_ghostNumber_36 ?_
      refine lv_topi (fun v36 e36 => ?_)
      refine lv_iconst (v := 1) hx hb dX9_ghostNumber_37 (by decide) ?_
      refine lv_iand hx hb dX9_ghostNumber_38 ?_
      refine lv_topi (fun v38 e38 => ?_)
      refine lv_if_ne (tgt := 45) hx hb dX9_ghostNumber_39 (by decide) (fun c39 => ?_) (fun c39 => ?_)
      · skip
        have d39 := c39
        rw [fa_eq] at d39
        refine lv_iload hx hb dX9_ghostNumber_45 (lv_at hl 0 rfl) ?_
        refine lv_iload_n hx hb dX9_ghostNumber_47 rfl (lv_at hl 1 rfl) ?_
        refine lv_iload_n hx hb dX9_ghostNumber_48 rfl (lv_at hl 2 rfl) ?_
        refine lv_iconst (v := 1) hx hb dX9_ghostNumber_49 (by decide) ?_
        refine lv_isub hx hb dX9_ghostNumber_50 ?_
        refine lv_topi (fun v50 e50 => ?_)
        have i50 : v50.toInt = way.toInt - (1 : Int32).toInt := by rw [e50]; exact fb_subI (by omega) (by omega)
        refine lv_iload_n hx hb dX9_ghostNumber_51 rfl (lv_at hl 3 rfl) ?_
        refine va_gets hx hb zX1 hS hown (hts (.fieldLink RX9 309 "ShadowBench$Board" "STEP_X" "[I") (by decide +kernel)) (fun _ h9 => h9) dX9_ghostNumber_52 ?_
        refine lv_iload_n hx hb dX9_ghostNumber_55 rfl (lv_at hl 2 rfl) ?_
        refine va_ti hx hb zX2 hS (i := way) (vp_in_iff.mpr ⟨by omega, by omega⟩) (v := .int (xX way.toNatClampNeg)) rfl dX9_ghostNumber_56 ?_
        refine lv_topi (fun v56 e56 => ?_)
        refine lv_isub hx hb dX9_ghostNumber_57 ?_
        refine lv_topi (fun v57 e57 => ?_)
        refine lv_iload_n hx hb dX9_ghostNumber_58 rfl (lv_at hl 4 rfl) ?_
        refine va_gets hx hb zY1 hS hown (hts (.fieldLink RX9 313 "ShadowBench$Board" "STEP_Y" "[I") (by decide +kernel)) (fun _ h9 => h9) dX9_ghostNumber_59 ?_
        refine lv_iload_n hx hb dX9_ghostNumber_62 rfl (lv_at hl 2 rfl) ?_
        refine va_ti hx hb zY2 hS (i := way) (vp_in_iff.mpr ⟨by omega, by omega⟩) (v := .int (xY way.toNatClampNeg)) rfl dX9_ghostNumber_63 ?_
        refine lv_topi (fun v63 e63 => ?_)
        refine lv_isub hx hb dX9_ghostNumber_64 ?_
        refine lv_topi (fun v64 e64 => ?_)
        refine t_calli (va_runS (g := F0 m 65 ls ([.int v64, .int v57, .int v50, .int set, .int r29])) (As := [.int set, .int v50, .int v57, .int v64]) (rest := [.int r29]) ⟨hx, hb, hml, hown, hts⟩ (c_X9_ghostNumber_3 l D cy A G ws set v50 v57 v64 hD hT (by omega)) (va_cwS 4 hts gX9_ghostNumber_X9_ghostNumber rfl rfl rfl (by decide +kernel) ⟨Nat.le_of_ble_eq_true rfl, Nat.le_of_ble_eq_true rfl⟩) (e_preS hP hK hA hS hV hZ) rfl rfl hl.1 rfl (lv_room (Nat.le_of_ble_eq_true rfl)) dX9_ghostNumber_65 ⟨Nat.le_of_ble_eq_true rfl, Nat.le_of_ble_eq_true rfl⟩) hS (fun r65 u H locs q65 hP9 hD9 hT9 hS => ?_)
        obtain ⟨rfl, q65⟩ := q65
        have hP : va_P D vwCl ws H := hP9
        refine lv_isub hx hb dX9_ghostNumber_68 ?_
        refine lv_topi (fun v68 e68 => ?_)
        exact W.iret (v := v68) hx hb hr (fun t ht hW => ⟨⟨_, (G, ws), rfl, ⟨rfl, trivial⟩, by show va_P D vwCl ws t.heap; rw [ht]; exact hP, hD, hT⟩, hS.F ht⟩) hS.2.2 dX9_ghostNumber_69
      · skip
        have d39 := c39
        rw [fa_eq] at d39
        refine lv_iload hx hb dX9_ghostNumber_42 (lv_at hl 0 rfl) ?_
        exact W.iret (v := r29) hx hb hr (fun t ht hW => ⟨⟨_, (G, ws), rfl, ⟨rfl, trivial⟩, by show va_P D vwCl ws t.heap; rw [ht]; exact hP, hD, hT⟩, hS.F ht⟩) hS.2.2 dX9_ghostNumber_44
    · skip
      have d6 := c6
      rw [fa_lt] at d6
      refine lv_iload_n hx hb dX9_ghostNumber_9 rfl (lv_at hl 2 rfl) ?_
      refine lv_if_ne (tgt := 21) hx hb dX9_ghostNumber_10 (by decide) (fun c10 => ?_) (fun c10 => ?_)
      · skip
        have d10 := c10
        rw [fa_eq] at d10
        refine lv_iconst (v := 0) hx hb dX9_ghostNumber_21 (by decide) ?_
        exact W.iret (v := (0 : Int32)) hx hb hr (fun t ht hW => ⟨⟨_, (G, ws), rfl, ⟨rfl, trivial⟩, by show va_P D vwCl ws t.heap; rw [ht]; exact hP, hD, hT⟩, hS.F ht⟩) hS.2.2 dX9_ghostNumber_22
      · skip
        have d10 := c10
        rw [fa_eq] at d10
        refine lv_iload_n hx hb dX9_ghostNumber_13 rfl (lv_at hl 3 rfl) ?_
        refine lv_if_ne (tgt := 21) hx hb dX9_ghostNumber_14 (by decide) (fun c14 => ?_) (fun c14 => ?_)
        · skip
          have d14 := c14
          rw [fa_eq] at d14
          refine lv_iconst (v := 0) hx hb dX9_ghostNumber_21 (by decide) ?_
          exact W.iret (v := (0 : Int32)) hx hb hr (fun t ht hW => ⟨⟨_, (G, ws), rfl, ⟨rfl, trivial⟩, by show va_P D vwCl ws t.heap; rw [ht]; exact hP, hD, hT⟩, hS.F ht⟩) hS.2.2 dX9_ghostNumber_22
        · skip
          have d14 := c14
          rw [fa_eq] at d14
          refine lv_iconst (v := 1) hx hb dX9_ghostNumber_17 (by decide) ?_
          refine lv_goto (tgt := 22) hx hb dX9_ghostNumber_18 (by decide) ?_
          exact W.iret (v := (1 : Int32)) hx hb hr (fun t ht hW => ⟨⟨_, (G, ws), rfl, ⟨rfl, trivial⟩, by show va_P D vwCl ws t.heap; rw [ht]; exact hP, hD, hT⟩, hS.F ht⟩) hS.2.2 dX9_ghostNumber_22
set_option maxHeartbeats 4000000 in
set_option maxRecDepth 100000 in
theorem c_X9_ghostPlaces (l : Launch) (D : va_G) (cy : Nat → ClassId) (A : Nat → Prop) (G : cG) (ws : va_W) (o : Nat) (set : Int32) (wide : Int32) (high : Int32)  (hD : va_D A ws) (hT : cT cy G ws) (hG_o : G o = some (7, 0, 0))  : Ei l D cy A yX9_ghostPlaces wsX9_ghostPlaces ({ frames := 5, cells := 4, slots := 502, locals := 116 }) 4 502 ws [.ref o, .int set, .int wide, .int high] (fun r0 u => cX none (chs [1, 8]) G ws u.1 u.2 ∧ (True)) := by
  refine Met.ofW (cc := cX9_ghostPlaces) (maxL := 7) (ret := (some .int)) (by decide) rfl ?_
  intro p e s m args below meth c s₁ B hml hv
  obtain ⟨rfl, ⟨hP, hK, hA, hV⟩, hZ⟩ := hv
  obtain ⟨tX, tY, xX, xY, ⟨zX1, zX2, zX5⟩, ⟨zY1, zY2, zY5⟩⟩ := id hZ
  have hx := B.exec
  have hb := B.bytes
  have hr := B.returns
  have hts := atoms_spec (ws := wsX9_ghostPlaces) B.pre
  have hown : s.vm.findClass RX9 = some m.cls := findClass_of_methodNamed B.named
  have hlocks := B.notSynchronized
  have hS : va_S A s.heap s.heap [] := va_S.rf
  have hX : cX none (chs [1, 8]) G ws G ws := cX.rf
  have hl := lv_entry ([.ref o, .int set, .int wide, .int high]) (n := 7) (Nat.le_of_ble_eq_true rfl)
  rw [lg_entry_eq]
  generalize (lg_sl ([.ref o, .int set, .int wide, .int high]) ++ List.replicate (7 - (lg_sl ([.ref o, .int set, .int wide, .int high])).length) Slot.unset).toArray = ls at hl ⊢
  have hl : lv_has ls 7 [(0, .ref o), (1, .int set), (2, .int wide), (3, .int high)] := hl
  have k_m1 : (-1 : Int32).toInt = -1 := by decide
  have k_0 : (0 : Int32).toInt = 0 := by decide
  have k_1 : (1 : Int32).toInt = 1 := by decide
  have k_4 : (4 : Int32).toInt = 4 := by decide
  refine lv_iload_n hx hb dX9_ghostPlaces_0 rfl (lv_at hl 1 rfl) ?_
  refine t_pu (As := [.int set]) (rest := []) ⟨hx, hb, hml, hown, hts⟩ (c_X9_isGhostSet l set ) (va_cwS 1 hts gX9_ghostPlaces_X9_isGhostSet rfl rfl rfl (by decide +kernel) ⟨Nat.le_of_ble_eq_true rfl, Nat.le_of_ble_eq_true rfl⟩) hP rfl hl.1 rfl (Nat.le_of_ble_eq_true rfl) dX9_ghostPlaces_1 ⟨Nat.le_of_ble_eq_true rfl, Nat.le_of_ble_eq_true rfl⟩ hS (fun r1 H locs q1 hP hS => ?_)
  refine lv_if_eq (tgt := 16) hx hb dX9_ghostPlaces_4 (by decide) (fun c4 => ?_) (fun c4 => ?_)
  · skip
    have b4 := bo_f q1 c4
    refine lv_iconst (v := (-1)) hx hb dX9_ghostPlaces_16 (by decide) ?_
    refine W.widen (k := 4) (n := 502) (Nat.le_of_ble_eq_true rfl) (Nat.le_of_ble_eq_true rfl) ?_
    exact W.iret (v := ((-1) : Int32)) hx hb hr (fun t ht hW => ⟨⟨_, (G, ws), rfl, ⟨hX, trivial⟩, by show va_P D vwCl ws t.heap; rw [ht]; exact hP, hD, hT⟩, hS.F ht⟩) hS.2.2 dX9_ghostPlaces_17
  · skip
    have b4 := bo_t q1 c4
    refine lv_aload_n hx hb dX9_ghostPlaces_7 rfl (lv_at hl 0 rfl) ?_
    refine lv_iload_n hx hb dX9_ghostPlaces_8 rfl (lv_at hl 2 rfl) ?_
    refine lv_iload_n hx hb dX9_ghostPlaces_9 rfl (lv_at hl 3 rfl) ?_
    obtain ⟨_, hM_o, bs_o, js_o, sh_o, wk_o, ll_o, jc_o, lc_o, mo_o, lb_o, rfl, hjc_o, hlc_o, hG_bs_o, hG_js_o, hG_sh_o, hG_wk_o, hmo_o, hG_ll_o, hlb_o⟩ := hT _ _ hG_o
    refine t_calla (va_runV (g := F0 m 10 ls ([.int high, .int wide, .ref o])) (As := [.int wide, .int high]) (rest := []) ⟨hx, hb, hml, hown, hts⟩ (c_X9_boardOf l D cy A G ws o wide high hD hT hG_o ) (cwV 2 hts gX9_ghostPlaces_X9_boardOf rfl rfl rfl (by decide +kernel) ⟨Nat.le_of_ble_eq_true rfl, Nat.le_of_ble_eq_true rfl⟩) (c_preV hM_o rfl hP hK hA hS hV) rfl rfl hl.1 rfl (lv_room (Nat.le_of_ble_eq_true rfl)) dX9_ghostPlaces_10 ⟨Nat.le_of_ble_eq_true rfl, Nat.le_of_ble_eq_true rfl⟩) hS (fun r10 u H locs q10 hP9 hD9 hT9 hS => ?_)
    obtain ⟨G10, w10⟩ := u
    obtain ⟨hX9, q10⟩ := q10
    have hX9 : cX none (chs [1, 8]) G ws G10 w10 := hX9
    have hP : va_P D vwCl w10 H := hP9
    have hD : va_D A w10 := hD9
    have hT : cT cy G10 w10 := hT9
    have hM_o := hX9.2.1 _ _ (cP.no hG_o rfl) hM_o
    have hG_o := hX9.1 _ _ hG_o
    have hG_bs_o := hX9.1 _ _ hG_bs_o
    have hG_js_o := hX9.1 _ _ hG_js_o
    have hG_sh_o := hX9.1 _ _ hG_sh_o
    have hG_wk_o := hX9.1 _ _ hG_wk_o
    have hG_ll_o := hX9.1 _ _ hG_ll_o
    have hX := hX.tr hX9
    rcases r10 with _ | x10
    · skip
      refine lv_ifnonnullN hx hb dX9_ghostPlaces_13 ?_
      refine lv_iconst (v := (-1)) hx hb dX9_ghostPlaces_16 (by decide) ?_
      refine W.widen (k := 4) (n := 502) (Nat.le_of_ble_eq_true rfl) (Nat.le_of_ble_eq_true rfl) ?_
      exact W.iret (v := ((-1) : Int32)) hx hb hr (fun t ht hW => ⟨⟨_, (G10, w10), rfl, ⟨hX, trivial⟩, by show va_P D vwCl w10 t.heap; rw [ht]; exact hP, hD, hT⟩, hS.F ht⟩) hS.2.2 dX9_ghostPlaces_17
    · skip
      have hG_x10 := q10 x10 rfl
      refine lv_ifnonnull (tgt := 18) hx hb dX9_ghostPlaces_13 (by decide) ?_
      refine lv_iload_n hx hb dX9_ghostPlaces_18 rfl (lv_at hl 2 rfl) ?_
      refine lv_istore (lv' := [(4, .int wide), (0, .ref o), (1, .int set), (2, .int wide), (3, .int high)]) hx hb dX9_ghostPlaces_19 hl (by decide) rfl (fun ls hl => ?_)
      refine lv_iload_n hx hb dX9_ghostPlaces_21 rfl (lv_at hl 4 rfl) ?_
      refine lv_istore (lv' := [(5, .int high), (4, .int wide), (0, .ref o), (1, .int set), (2, .int wide), (3, .int high)]) hx hb dX9_ghostPlaces_22 hl (by decide) rfl (fun ls hl => ?_)
      refine lv_iconst (v := 0) hx hb dX9_ghostPlaces_24 (by decide) ?_
      refine lv_istore (lv' := [(6, .int (0 : Int32)), (5, .int high), (4, .int wide), (0, .ref o), (1, .int set), (2, .int wide), (3, .int high)]) hx hb dX9_ghostPlaces_25 hl (by decide) rfl (fun ls hl => ?_)
      have loop_27 : ∀ (n : Nat) (i : Nat) (x5 : Int32) (x4 : Int32), (i ≤ 4) → 4 - i < n → ∀ (H : Heap) (locs : List Loc), va_P D vwCl w10 H → va_S A s.heap H locs → ∀ (ls : Array Slot), lv_has ls 7 [(6, .int (nI i)), (5, .int x5), (4, .int x4), (0, .ref o), (1, .int set), (2, .int wide), (3, .int high)] → W p l e (headSpec wsX9_ghostPlaces ({ frames := 5, cells := 4, slots := 502, locals := 116 })).room s m #[Value.ref o, Value.int set, Value.int wide, Value.int high] below meth c H locs 4 502 (MQ below (va_Qi (fun r0 u => cX none (chs [1, 8]) G ws u.1 u.2 ∧ (True)) (cB D cy A) A) #[Value.ref o, Value.int set, Value.int wide, Value.int high] s 4 502 A) (F0 m 27 ls []) := by
        intro n
        induction n with
        | zero => intro i x5 x4 j27_0 hn; exact absurd hn (Nat.not_lt_zero _)
        | succ n ih_27 =>
          intro i x5 x4 j27_0 hn_27 H locs hP hS  ls hl
          have ik_i : (nI i).toInt = (i : Int) := nI_toInt (by omega)
          refine lv_iload hx hb dX9_ghostPlaces_27 (lv_at hl 0 rfl) ?_
          refine lv_iconst (v := 4) hx hb dX9_ghostPlaces_29 (by decide) ?_
          refine lv_icmp_ge (tgt := 77) hx hb dX9_ghostPlaces_30 (by decide) (fun c30 => ?_) (fun c30 => ?_)
          · skip
            have d30 := c30
            rw [fa_le] at d30
            refine lv_iload hx hb dX9_ghostPlaces_77 (lv_at hl 2 rfl) ?_
            refine lv_if_le (tgt := 95) hx hb dX9_ghostPlaces_79 (by decide) (fun c79 => ?_) (fun c79 => ?_)
            · skip
              have d79 := c79
              rw [fa_le] at d79
              refine lv_iconst (v := 0) hx hb dX9_ghostPlaces_95 (by decide) ?_
              refine W.widen (k := 4) (n := 502) (Nat.le_of_ble_eq_true rfl) (Nat.le_of_ble_eq_true rfl) ?_
              exact W.iret (v := (0 : Int32)) hx hb hr (fun t ht hW => ⟨⟨_, (G10, w10), rfl, ⟨hX, trivial⟩, by show va_P D vwCl w10 t.heap; rw [ht]; exact hP, hD, hT⟩, hS.F ht⟩) hS.2.2 dX9_ghostPlaces_96
            · skip
              have d79 := c79
              rw [fa_le] at d79
              refine lv_iload hx hb dX9_ghostPlaces_82 (lv_at hl 1 rfl) ?_
              refine lv_if_le (tgt := 95) hx hb dX9_ghostPlaces_84 (by decide) (fun c84 => ?_) (fun c84 => ?_)
              · skip
                have d84 := c84
                rw [fa_le] at d84
                refine lv_iconst (v := 0) hx hb dX9_ghostPlaces_95 (by decide) ?_
                refine W.widen (k := 4) (n := 502) (Nat.le_of_ble_eq_true rfl) (Nat.le_of_ble_eq_true rfl) ?_
                exact W.iret (v := (0 : Int32)) hx hb hr (fun t ht hW => ⟨⟨_, (G10, w10), rfl, ⟨hX, trivial⟩, by show va_P D vwCl w10 t.heap; rw [ht]; exact hP, hD, hT⟩, hS.F ht⟩) hS.2.2 dX9_ghostPlaces_96
              · skip
                have d84 := c84
                rw [fa_le] at d84
                refine lv_iload hx hb dX9_ghostPlaces_87 (lv_at hl 2 rfl) ?_
                refine lv_iload hx hb dX9_ghostPlaces_89 (lv_at hl 1 rfl) ?_
                refine lv_imul hx hb dX9_ghostPlaces_91 ?_
                refine lv_topi (fun v91 e91 => ?_)
                refine lv_goto (tgt := 96) hx hb dX9_ghostPlaces_92 (by decide) ?_
                refine W.widen (k := 4) (n := 502) (Nat.le_of_ble_eq_true rfl) (Nat.le_of_ble_eq_true rfl) ?_
                exact W.iret (v := v91) hx hb hr (fun t ht hW => ⟨⟨_, (G10, w10), rfl, ⟨hX, trivial⟩, by show va_P D vwCl w10 t.heap; rw [ht]; exact hP, hD, hT⟩, hS.F ht⟩) hS.2.2 dX9_ghostPlaces_96
          · skip
            have d30 := c30
            rw [fa_le] at d30
            refine lv_iload_n hx hb dX9_ghostPlaces_33 rfl (lv_at hl 4 rfl) ?_
            refine lv_iload hx hb dX9_ghostPlaces_34 (lv_at hl 0 rfl) ?_
            refine lv_ishr hx hb dX9_ghostPlaces_36 ?_
            refine lv_topi (fun v36 e36 => ?_)
            refine lv_iconst (v := 1) hx hb dX9_ghostPlaces_37 (by decide) ?_
            refine lv_iand hx hb dX9_ghostPlaces_38 ?_
            refine lv_topi (fun v38 e38 => ?_)
            refine lv_iconst (v := 1) hx hb dX9_ghostPlaces_39 (by decide) ?_
            refine lv_icmp_ne (tgt := 71) hx hb dX9_ghostPlaces_40 (by decide) (fun c40 => ?_) (fun c40 => ?_)
            · skip
              have d40 := c40
              rw [fa_eq] at d40
              refine lv_iinc (v := (nI (i + 1))) (lv' := [(6, .int (nI (i + 1))), (5, .int x5), (4, .int x4), (0, .ref o), (1, .int set), (2, .int wide), (3, .int high)]) hx hb dX9_ghostPlaces_71 hl (k := 0) rfl (nI_1 _) (by decide) rfl (fun ls hl => ?_)
              refine lv_goto (tgt := 27) hx hb dX9_ghostPlaces_74 (by decide) ?_
              exact ih_27 (i + 1) x5 x4 (by omega) (by omega) _ _ hP hS  ls (lv_sub hl [0, 1, 2, 3, 4, 5, 6] rfl)
            · skip
              have d40 := c40
              rw [fa_eq] at d40
              refine lv_iload hx hb dX9_ghostPlaces_43 (lv_at hl 2 rfl) ?_
              refine va_gets hx hb zX1 hS hown (hts (.fieldLink RX9 309 "ShadowBench$Board" "STEP_X" "[I") (by decide +kernel)) (fun _ h9 => h9) dX9_ghostPlaces_45 ?_
              refine lv_iload hx hb dX9_ghostPlaces_48 (lv_at hl 0 rfl) ?_
              refine va_ti hx hb zX2 hS (i := (nI i)) (vp_in_iff.mpr ⟨by omega, by omega⟩) (v := .int (xX (nI i).toNatClampNeg)) rfl dX9_ghostPlaces_50 ?_
              refine lv_topi (fun v50 e50 => ?_)
              refine va_mabs hx hb (by rw [hml]; exact hl.1.symm) hown (hts (.methodLink RX9 316 Lib.Math.abs.name) (by decide +kernel)) (hts (.static Lib.Math.abs.name) (by decide +kernel)) (hts (.initialized "java/lang/Math") (by decide +kernel)) (hts (.code Lib.Math.abs.name Lib.Math.abs.code 1 (some .int)) (by decide +kernel)) (Nat.le_of_ble_eq_true rfl) (Nat.le_of_ble_eq_true rfl) (Nat.le_of_ble_eq_true rfl) (Nat.le_of_ble_eq_true rfl) dX9_ghostPlaces_51 ?_
              refine lv_topi (fun v51 e51 => ?_)
              refine lv_isub hx hb dX9_ghostPlaces_54 ?_
              refine lv_topi (fun v54 e54 => ?_)
              refine lv_istore (lv' := [(4, .int v54), (6, .int (nI i)), (5, .int x5), (0, .ref o), (1, .int set), (2, .int wide), (3, .int high)]) hx hb dX9_ghostPlaces_55 hl (by decide) rfl (fun ls hl => ?_)
              refine lv_iload hx hb dX9_ghostPlaces_57 (lv_at hl 2 rfl) ?_
              refine va_gets hx hb zY1 hS hown (hts (.fieldLink RX9 313 "ShadowBench$Board" "STEP_Y" "[I") (by decide +kernel)) (fun _ h9 => h9) dX9_ghostPlaces_59 ?_
              refine lv_iload hx hb dX9_ghostPlaces_62 (lv_at hl 1 rfl) ?_
              refine va_ti hx hb zY2 hS (i := (nI i)) (vp_in_iff.mpr ⟨by omega, by omega⟩) (v := .int (xY (nI i).toNatClampNeg)) rfl dX9_ghostPlaces_64 ?_
              refine lv_topi (fun v64 e64 => ?_)
              refine va_mabs hx hb (by rw [hml]; exact hl.1.symm) hown (hts (.methodLink RX9 316 Lib.Math.abs.name) (by decide +kernel)) (hts (.static Lib.Math.abs.name) (by decide +kernel)) (hts (.initialized "java/lang/Math") (by decide +kernel)) (hts (.code Lib.Math.abs.name Lib.Math.abs.code 1 (some .int)) (by decide +kernel)) (Nat.le_of_ble_eq_true rfl) (Nat.le_of_ble_eq_true rfl) (Nat.le_of_ble_eq_true rfl) (Nat.le_of_ble_eq_true rfl) dX9_ghostPlaces_65 ?_
              refine lv_topi (fun v65 e65 => ?_)
              refine lv_isub hx hb dX9_ghostPlaces_68 ?_
              refine lv_topi (fun v68 e68 => ?_)
              refine lv_istore (lv' := [(5, .int v68), (4, .int v54), (6, .int (nI i)), (0, .ref o), (1, .int set), (2, .int wide), (3, .int high)]) hx hb dX9_ghostPlaces_69 hl (by decide) rfl (fun ls hl => ?_)
              refine lv_iinc (v := (nI (i + 1))) (lv' := [(6, .int (nI (i + 1))), (5, .int v68), (4, .int v54), (0, .ref o), (1, .int set), (2, .int wide), (3, .int high)]) hx hb dX9_ghostPlaces_71 hl (k := 2) rfl (nI_1 _) (by decide) rfl (fun ls hl => ?_)
              refine lv_goto (tgt := 27) hx hb dX9_ghostPlaces_74 (by decide) ?_
              exact ih_27 (i + 1) v68 v54 (by omega) (by omega) _ _ hP hS  ls (lv_sub hl [0, 1, 2, 3, 4, 5, 6] rfl)
      exact loop_27 (4 + 1) 0 high wide (by omega) (by omega) _ _ hP hS  ls (lv_sub hl [0, 1, 2, 3, 4, 5, 6] rfl)
set_option maxHeartbeats 4000000 in
set_option maxRecDepth 100000 in
theorem c_X9_haunts (l : Launch) (D : va_G) (cy : Nat → ClassId) (A : Nat → Prop) (G : cG) (ws : va_W) (o : Nat) (set : Int32) (wide : Int32) (high : Int32)  (hD : va_D A ws) (hT : cT cy G ws) (hG_o : G o = some (7, 0, 0))  : Ei l D cy A yX9_haunts wsX9_haunts ({ frames := 6, cells := 4, slots := 502, locals := 142 }) 4 502 ws [.ref o, .int set, .int wide, .int high] (fun r0 u => cX none (chs [1, 8]) G ws u.1 u.2 ∧ (True)) := by
  refine Met.ofW (cc := cX9_haunts) (maxL := 5) (ret := (some .int)) (by decide) rfl ?_
  intro p e s m args below meth c s₁ B hml hv
  obtain ⟨rfl, ⟨hP, hK, hA, hV⟩, hZ⟩ := hv
  obtain ⟨tX, tY, xX, xY, ⟨zX1, zX2, zX5⟩, ⟨zY1, zY2, zY5⟩⟩ := id hZ
  have hx := B.exec
  have hb := B.bytes
  have hr := B.returns
  have hts := atoms_spec (ws := wsX9_haunts) B.pre
  have hown : s.vm.findClass RX9 = some m.cls := findClass_of_methodNamed B.named
  have hlocks := B.notSynchronized
  have hS : va_S A s.heap s.heap [] := va_S.rf
  have hX : cX none (chs [1, 8]) G ws G ws := cX.rf
  have hl := lv_entry ([.ref o, .int set, .int wide, .int high]) (n := 5) (Nat.le_of_ble_eq_true rfl)
  rw [lg_entry_eq]
  generalize (lg_sl ([.ref o, .int set, .int wide, .int high]) ++ List.replicate (5 - (lg_sl ([.ref o, .int set, .int wide, .int high])).length) Slot.unset).toArray = ls at hl ⊢
  have hl : lv_has ls 5 [(0, .ref o), (1, .int set), (2, .int wide), (3, .int high)] := hl
  have k_0 : (0 : Int32).toInt = 0 := by decide
  have k_1 : (1 : Int32).toInt = 1 := by decide
  refine lv_aload_n hx hb dX9_haunts_0 rfl (lv_at hl 0 rfl) ?_
  refine lv_iload_n hx hb dX9_haunts_1 rfl (lv_at hl 1 rfl) ?_
  refine lv_iload_n hx hb dX9_haunts_2 rfl (lv_at hl 2 rfl) ?_
  refine lv_iload_n hx hb dX9_haunts_3 rfl (lv_at hl 3 rfl) ?_
  obtain ⟨_, hM_o, bs_o, js_o, sh_o, wk_o, ll_o, jc_o, lc_o, mo_o, lb_o, rfl, hjc_o, hlc_o, hG_bs_o, hG_js_o, hG_sh_o, hG_wk_o, hmo_o, hG_ll_o, hlb_o⟩ := hT _ _ hG_o
  refine t_calli (va_runV (g := F0 m 4 ls ([.int high, .int wide, .int set, .ref o])) (As := [.int set, .int wide, .int high]) (rest := []) ⟨hx, hb, hml, hown, hts⟩ (c_X9_ghostPlaces l D cy A G ws o set wide high hD hT hG_o ) (cwV 3 hts gX9_haunts_X9_ghostPlaces rfl rfl rfl (by decide +kernel) ⟨Nat.le_of_ble_eq_true rfl, Nat.le_of_ble_eq_true rfl⟩) (e_preV hM_o rfl hP hK hA hS hV hZ) rfl rfl hl.1 rfl (lv_room (Nat.le_of_ble_eq_true rfl)) dX9_haunts_4 ⟨Nat.le_of_ble_eq_true rfl, Nat.le_of_ble_eq_true rfl⟩) hS (fun r4 u H locs q4 hP9 hD9 hT9 hS => ?_)
  obtain ⟨G4, w4⟩ := u
  obtain ⟨hX9, q4⟩ := q4
  have hX9 : cX none (chs [1, 8]) G ws G4 w4 := hX9
  have hP : va_P D vwCl w4 H := hP9
  have hD : va_D A w4 := hD9
  have hT : cT cy G4 w4 := hT9
  have hM_o := hX9.2.1 _ _ (cP.no hG_o rfl) hM_o
  have hG_o := hX9.1 _ _ hG_o
  have hG_bs_o := hX9.1 _ _ hG_bs_o
  have hG_js_o := hX9.1 _ _ hG_js_o
  have hG_sh_o := hX9.1 _ _ hG_sh_o
  have hG_wk_o := hX9.1 _ _ hG_wk_o
  have hG_ll_o := hX9.1 _ _ hG_ll_o
  have hX := hX.tr hX9
  refine lv_istore (lv' := [(4, .int r4), (0, .ref o), (1, .int set), (2, .int wide), (3, .int high)]) hx hb dX9_haunts_7 hl (by decide) rfl (fun ls hl => ?_)
  refine lv_iload hx hb dX9_haunts_9 (lv_at hl 0 rfl) ?_
  refine lv_if_le (tgt := 18) hx hb dX9_haunts_11 (by decide) (fun c11 => ?_) (fun c11 => ?_)
  · skip
    have d11 := c11
    rw [fa_le] at d11
    refine lv_iload hx hb dX9_haunts_18 (lv_at hl 0 rfl) ?_
    refine W.widen (k := 4) (n := 502) (Nat.le_of_ble_eq_true rfl) (Nat.le_of_ble_eq_true rfl) ?_
    exact W.iret (v := r4) hx hb hr (fun t ht hW => ⟨⟨_, (G4, w4), rfl, ⟨hX, trivial⟩, by show va_P D vwCl w4 t.heap; rw [ht]; exact hP, hD, hT⟩, hS.F ht⟩) hS.2.2 dX9_haunts_20
  · skip
    have d11 := c11
    rw [fa_le] at d11
    refine lv_iconst (v := 1) hx hb dX9_haunts_14 (by decide) ?_
    refine lv_goto (tgt := 20) hx hb dX9_haunts_15 (by decide) ?_
    refine W.widen (k := 4) (n := 502) (Nat.le_of_ble_eq_true rfl) (Nat.le_of_ble_eq_true rfl) ?_
    exact W.iret (v := (1 : Int32)) hx hb hr (fun t ht hW => ⟨⟨_, (G4, w4), rfl, ⟨hX, trivial⟩, by show va_P D vwCl w4 t.heap; rw [ht]; exact hP, hD, hT⟩, hS.F ht⟩) hS.2.2 dX9_haunts_20
set_option maxHeartbeats 4000000 in
set_option maxRecDepth 100000 in
theorem c_X9_ghosts (l : Launch) (D : va_G) (cy : Nat → ClassId) (A : Nat → Prop) (G : cG) (ws : va_W) (o : Nat) (set : Int32) (wide : Int32) (high : Int32)  (hD : va_D A ws) (hT : cT cy G ws) (hG_o : G o = some (7, 0, 0))  : Ei l D cy A yX9_ghosts wsX9_ghosts ({ frames := 6, cells := 4, slots := 502, locals := 142 }) 4 502 ws [.ref o, .int set, .int wide, .int high] (fun r0 u => cX none (chs [1, 8]) G ws u.1 u.2 ∧ (True)) := by
  refine Met.ofW (cc := cX9_ghosts) (maxL := 4) (ret := (some .int)) (by decide) rfl ?_
  intro p e s m args below meth c s₁ B hml hv
  obtain ⟨rfl, ⟨hP, hK, hA, hV⟩, hZ⟩ := hv
  obtain ⟨tX, tY, xX, xY, ⟨zX1, zX2, zX5⟩, ⟨zY1, zY2, zY5⟩⟩ := id hZ
  have hx := B.exec
  have hb := B.bytes
  have hr := B.returns
  have hts := atoms_spec (ws := wsX9_ghosts) B.pre
  have hown : s.vm.findClass RX9 = some m.cls := findClass_of_methodNamed B.named
  have hlocks := B.notSynchronized
  have hS : va_S A s.heap s.heap [] := va_S.rf
  have hX : cX none (chs [1, 8]) G ws G ws := cX.rf
  have hl := lv_entry ([.ref o, .int set, .int wide, .int high]) (n := 4) (Nat.le_of_ble_eq_true rfl)
  rw [lg_entry_eq]
  generalize (lg_sl ([.ref o, .int set, .int wide, .int high]) ++ List.replicate (4 - (lg_sl ([.ref o, .int set, .int wide, .int high])).length) Slot.unset).toArray = ls at hl ⊢
  have hl : lv_has ls 4 [(0, .ref o), (1, .int set), (2, .int wide), (3, .int high)] := hl
  have k_0 : (0 : Int32).toInt = 0 := by decide
  refine lv_aload_n hx hb dX9_ghosts_0 rfl (lv_at hl 0 rfl) ?_
  refine lv_iload_n hx hb dX9_ghosts_1 rfl (lv_at hl 1 rfl) ?_
  refine lv_iload_n hx hb dX9_ghosts_2 rfl (lv_at hl 2 rfl) ?_
  refine lv_iload_n hx hb dX9_ghosts_3 rfl (lv_at hl 3 rfl) ?_
  obtain ⟨_, hM_o, bs_o, js_o, sh_o, wk_o, ll_o, jc_o, lc_o, mo_o, lb_o, rfl, hjc_o, hlc_o, hG_bs_o, hG_js_o, hG_sh_o, hG_wk_o, hmo_o, hG_ll_o, hlb_o⟩ := hT _ _ hG_o
  refine t_calli (va_runV (g := F0 m 4 ls ([.int high, .int wide, .int set, .ref o])) (As := [.int set, .int wide, .int high]) (rest := []) ⟨hx, hb, hml, hown, hts⟩ (c_X9_ghostPlaces l D cy A G ws o set wide high hD hT hG_o ) (cwV 3 hts gX9_ghosts_X9_ghostPlaces rfl rfl rfl (by decide +kernel) ⟨Nat.le_of_ble_eq_true rfl, Nat.le_of_ble_eq_true rfl⟩) (e_preV hM_o rfl hP hK hA hS hV hZ) rfl rfl hl.1 rfl (lv_room (Nat.le_of_ble_eq_true rfl)) dX9_ghosts_4 ⟨Nat.le_of_ble_eq_true rfl, Nat.le_of_ble_eq_true rfl⟩) hS (fun r4 u H locs q4 hP9 hD9 hT9 hS => ?_)
  obtain ⟨G4, w4⟩ := u
  obtain ⟨hX9, q4⟩ := q4
  have hX9 : cX none (chs [1, 8]) G ws G4 w4 := hX9
  have hP : va_P D vwCl w4 H := hP9
  have hD : va_D A w4 := hD9
  have hT : cT cy G4 w4 := hT9
  have hM_o := hX9.2.1 _ _ (cP.no hG_o rfl) hM_o
  have hG_o := hX9.1 _ _ hG_o
  have hG_bs_o := hX9.1 _ _ hG_bs_o
  have hG_js_o := hX9.1 _ _ hG_js_o
  have hG_sh_o := hX9.1 _ _ hG_sh_o
  have hG_wk_o := hX9.1 _ _ hG_wk_o
  have hG_ll_o := hX9.1 _ _ hG_ll_o
  have hX := hX.tr hX9
  refine W.widen (k := 4) (n := 502) (Nat.le_of_ble_eq_true rfl) (Nat.le_of_ble_eq_true rfl) ?_
  exact W.iret (v := r4) hx hb hr (fun t ht hW => ⟨⟨_, (G4, w4), rfl, ⟨hX, trivial⟩, by show va_P D vwCl w4 t.heap; rw [ht]; exact hP, hD, hT⟩, hS.F ht⟩) hS.2.2 dX9_ghosts_7
