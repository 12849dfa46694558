
/-- what holds of the reference's state between calls -/
def MI (f : Nat → Int32) (r : Nat → Nat → Int32) : Prop :=
  (0 ≤ (f 1).toInt ∧ (f 1).toInt ≤ 8) ∧
  (∀ x : Int32, 0 ≤ x.toInt → x.toInt < (f 1).toInt → (1 ≤ (r 3 x.toNatClampNeg).toInt ∧ (r 3 x.toNatClampNeg).toInt ≤ 6) ∧ (1 ≤ (r 4 x.toNatClampNeg).toInt ∧ (r 4 x.toNatClampNeg).toInt ≤ 6) ∧ (0 ≤ (r 2 x.toNatClampNeg).toInt ∧ (r 2 x.toNatClampNeg).toInt ≤ 3)) ∧
  (0 ≤ (f 23).toInt ∧ (f 23).toInt ≤ 12) ∧ (0 < (f 23).toInt → (1 ≤ (f 24).toInt ∧ (f 24).toInt ≤ 6) ∧ (1 ≤ (f 25).toInt ∧ (f 25).toInt ≤ 6)) ∧
  (∀ x : Int32, 0 ≤ x.toInt → x.toInt < 8 → 0 ≤ (r 30 x.toNatClampNeg).toInt ∧ (r 30 x.toNatClampNeg).toInt ≤ 60)
theorem mi_w {f : Nat → Int32} {r : Nat → Nat → Int32} (h : MI f r) {x v : Int32} (h0 : 0 ≤ x.toInt) (h1 : x.toInt < (f 1).toInt) (e : v = r 3 x.toNatClampNeg) : 1 ≤ v.toInt ∧ v.toInt ≤ 6 := by rw [e]; exact (h.2.1 x h0 h1).1
theorem mi_h {f : Nat → Int32} {r : Nat → Nat → Int32} (h : MI f r) {x v : Int32} (h0 : 0 ≤ x.toInt) (h1 : x.toInt < (f 1).toInt) (e : v = r 4 x.toNatClampNeg) : 1 ≤ v.toInt ∧ v.toInt ≤ 6 := by rw [e]; exact (h.2.1 x h0 h1).2.1
theorem lines_lt {w h : Int32} (hw : 1 ≤ w.toInt ∧ w.toInt ≤ 6) (hh : 1 ≤ h.toInt ∧ h.toInt ≤ 6) (way : Int32) : 1 ≤ (r_lines w h way).toInt ∧ (r_lines w h way).toInt ≤ 11 := by
  unfold r_lines
  have k1 : (1 : Int32).toInt = 1 := rfl
  have e1 : (w + h).toInt = w.toInt + h.toInt := fb_addI (by omega) (by omega)
  have e2 : (w + h - 1).toInt = w.toInt + h.toInt - 1 := by rw [fb_subI (by omega) (by omega), e1]; rfl
  split
  · omega
  · split <;> omega
set_option maxHeartbeats 4000000 in
set_option maxRecDepth 100000 in
theorem c_X10_isJob (l : Launch) (D : va_G) (cy : Nat → ClassId) (mo : Nat) (a : Nat → Nat) (f : Nat → Int32) (g : Nat → Int64) (r : Nat → Nat → Int32) (q : Nat → Nat → Int64) (j : Int32) (hD : DM cy mo a)  : Mi l D cy mo a yX10_isJob wsX10_isJob ({ frames := 0, cells := 0, slots := 0, locals := 0 }) f g r q [.int j] (fun r0 u => u = (f, g, r, q) ∧ (Bo r0 (0 ≤ j.toInt ∧ j.toInt < (f 1).toInt))) := by
  refine Met.ofW (cc := cX10_isJob) (maxL := 2) (ret := (some .boolean)) (by decide) rfl ?_
  intro p e s m args below meth c s₁ B hml hv
  obtain ⟨rfl, hP, hK⟩ := hv
  have hx := B.exec
  have hb := B.bytes
  have hr := B.returns
  have hts := atoms_spec (ws := wsX10_isJob) B.pre
  have hin : ∀ w ∈ u_ws RX10 TX10 35, w ∈ wsX10_isJob := by decide +kernel
  have hown : s.vm.findClass RX10 = some m.cls := findClass_of_methodNamed B.named
  have hlocks := B.notSynchronized
  have hS : va_S (AM mo a) s.heap s.heap [] := va_S.rf
  have hl := lv_entry ([.ref mo, .int j]) (n := 2) (Nat.le_of_ble_eq_true rfl)
  rw [lg_entry_eq]
  generalize (lg_sl ([.ref mo, .int j]) ++ List.replicate (2 - (lg_sl ([.ref mo, .int j])).length) Slot.unset).toArray = ls at hl ⊢
  have hl : lv_has ls 2 [(0, .ref mo), (1, .int j)] := hl
  have k_0 : (0 : Int32).toInt = 0 := by decide
  have k_1 : (1 : Int32).toInt = 1 := by decide
  refine lv_iload_n hx hb dX10_isJob_0 rfl (lv_at hl 1 rfl) ?_
  refine lv_if_lt (tgt := 16) hx hb dX10_isJob_1 (by decide) (fun c1 => ?_) (fun c1 => ?_)
  · skip
    have d1 := c1
    rw [fa_lt] at d1
    refine lv_iconst (v := 0) hx hb dX10_isJob_16 (by decide) ?_
    exact W.zret (v := (0 : Int32)) hx hb hr (by decide) (fun t ht hW => ⟨⟨_, (f, g, r, q), rfl, ⟨rfl, Or.inr ⟨rfl, by omega⟩⟩, by unfold mB; rw [ht]; exact hP⟩, hS.F ht⟩) hS.2.2 dX10_isJob_17
  · skip
    have d1 := c1
    rw [fa_lt] at d1
    refine lv_iload_n hx hb dX10_isJob_4 rfl (lv_at hl 1 rfl) ?_
    refine lv_aload_n hx hb dX10_isJob_5 rfl (lv_at hl 0 rfl) ?_
    refine m_get (v := .int (f 1)) hx hb hts hin hown hK hP 1 (by decide) rfl (hts (.fieldLink RX10 93 "ShadowBenchModel" "jobs" "I") (by decide +kernel)) rfl dX10_isJob_6 ?_
    refine lv_icmp_ge (tgt := 16) hx hb dX10_isJob_9 (by decide) (fun c9 => ?_) (fun c9 => ?_)
    · skip
      have d9 := c9
      rw [fa_le] at d9
      refine lv_iconst (v := 0) hx hb dX10_isJob_16 (by decide) ?_
      exact W.zret (v := (0 : Int32)) hx hb hr (by decide) (fun t ht hW => ⟨⟨_, (f, g, r, q), rfl, ⟨rfl, Or.inr ⟨rfl, by omega⟩⟩, by unfold mB; rw [ht]; exact hP⟩, hS.F ht⟩) hS.2.2 dX10_isJob_17
    · skip
      have d9 := c9
      rw [fa_le] at d9
      refine lv_iconst (v := 1) hx hb dX10_isJob_12 (by decide) ?_
      refine lv_goto (tgt := 17) hx hb dX10_isJob_13 (by decide) ?_
      exact W.zret (v := (1 : Int32)) hx hb hr (by decide) (fun t ht hW => ⟨⟨_, (f, g, r, q), rfl, ⟨rfl, Or.inl ⟨rfl, by omega⟩⟩, by unfold mB; rw [ht]; exact hP⟩, hS.F ht⟩) hS.2.2 dX10_isJob_17
set_option maxHeartbeats 4000000 in
set_option maxRecDepth 100000 in
theorem c_X10_isSquare (l : Launch) (D : va_G) (cy : Nat → ClassId) (mo : Nat) (a : Nat → Nat) (f : Nat → Int32) (g : Nat → Int64) (r : Nat → Nat → Int32) (q : Nat → Nat → Int64) (j : Int32) (s0 : Int32) (hD : DM cy mo a) (hI : MI f r) : Mi l D cy mo a yX10_isSquare wsX10_isSquare ({ frames := 1, cells := 0, slots := 0, locals := 21 }) f g r q [.int j, .int s0] (fun r0 u => u = (f, g, r, q) ∧ (Bo r0 ((0 ≤ j.toInt ∧ j.toInt < (f 1).toInt) ∧ 0 ≤ s0.toInt ∧ s0.toInt < (r 3 j.toNatClampNeg).toInt * (r 4 j.toNatClampNeg).toInt))) := by
  refine Met.ofW (cc := cX10_isSquare) (maxL := 3) (ret := (some .boolean)) (by decide) rfl ?_
  intro p e s m args below meth c s₁ B hml hv
  obtain ⟨rfl, hP, hK⟩ := hv
  have hx := B.exec
  have hb := B.bytes
  have hr := B.returns
  have hts := atoms_spec (ws := wsX10_isSquare) B.pre
  have hin : ∀ w ∈ u_ws RX10 TX10 35, w ∈ wsX10_isSquare := by decide +kernel
  have hown : s.vm.findClass RX10 = some m.cls := findClass_of_methodNamed B.named
  have hlocks := B.notSynchronized
  have hS : va_S (AM mo a) s.heap s.heap [] := va_S.rf
  have hl := lv_entry ([.ref mo, .int j, .int s0]) (n := 3) (Nat.le_of_ble_eq_true rfl)
  rw [lg_entry_eq]
  generalize (lg_sl ([.ref mo, .int j, .int s0]) ++ List.replicate (3 - (lg_sl ([.ref mo, .int j, .int s0])).length) Slot.unset).toArray = ls at hl ⊢
  have hl : lv_has ls 3 [(0, .ref mo), (1, .int j), (2, .int s0)] := hl
  have k_0 : (0 : Int32).toInt = 0 := by decide
  have k_1 : (1 : Int32).toInt = 1 := by decide
  have hI1 := hI.1
  refine lv_aload_n hx hb dX10_isSquare_0 rfl (lv_at hl 0 rfl) ?_
  refine lv_iload_n hx hb dX10_isSquare_1 rfl (lv_at hl 1 rfl) ?_
  refine m_calli (As := [.int j]) (rest := []) ⟨hx, hb, hml, hown, hts⟩ (c_X10_isJob l D cy mo a f g r q j hD) (cwV 1 hts gX10_isSquare_X10_isJob rfl rfl rfl (by decide +kernel) ⟨Nat.le_of_ble_eq_true rfl, Nat.le_of_ble_eq_true rfl⟩) hK hP rfl hl.1 rfl (Nat.le_of_ble_eq_true rfl) dX10_isSquare_2 ⟨Nat.le_of_ble_eq_true rfl, Nat.le_of_ble_eq_true rfl⟩ hS (fun r2 u H locs q2 hP hS => ?_)
  obtain ⟨rfl, q2⟩ := q2
  have hP : va_P D vwCl (WM cy mo a f g r q) H := hP
  have q2 : Bo r2 (0 ≤ j.toInt ∧ j.toInt < ((f 1)).toInt) := q2
  refine lv_if_eq (tgt := 33) hx hb dX10_isSquare_5 (by decide) (fun c5 => ?_) (fun c5 => ?_)
  · skip
    have b5 := bo_f q2 c5
    refine lv_iconst (v := 0) hx hb dX10_isSquare_33 (by decide) ?_
    exact W.zret (v := (0 : Int32)) hx hb hr (by decide) (fun t ht hW => ⟨⟨_, (f, g, r, q), rfl, ⟨rfl, Or.inr ⟨rfl, by first | omega | (subst e18; subst e24; omega)⟩⟩, by unfold mB; rw [ht]; exact hP⟩, hS.F ht⟩) hS.2.2 dX10_isSquare_34
  · skip
    have b5 := bo_t q2 c5
    refine lv_iload_n hx hb dX10_isSquare_8 rfl (lv_at hl 2 rfl) ?_
    refine lv_if_lt (tgt := 33) hx hb dX10_isSquare_9 (by decide) (fun c9 => ?_) (fun c9 => ?_)
    · skip
      have d9 := c9
      rw [fa_lt] at d9
      refine lv_iconst (v := 0) hx hb dX10_isSquare_33 (by decide) ?_
      exact W.zret (v := (0 : Int32)) hx hb hr (by decide) (fun t ht hW => ⟨⟨_, (f, g, r, q), rfl, ⟨rfl, Or.inr ⟨rfl, by first | omega | (subst e18; subst e24; omega)⟩⟩, by unfold mB; rw [ht]; exact hP⟩, hS.F ht⟩) hS.2.2 dX10_isSquare_34
    · skip
      have d9 := c9
      rw [fa_lt] at d9
      refine lv_iload_n hx hb dX10_isSquare_12 rfl (lv_at hl 2 rfl) ?_
      refine lv_aload_n hx hb dX10_isSquare_13 rfl (lv_at hl 0 rfl) ?_
      refine m_get (v := .ref (a 3)) hx hb hts hin hown hK hP 3 (by decide) rfl (hts (.fieldLink RX10 13 "ShadowBenchModel" "wide" "[I") (by decide +kernel)) rfl dX10_isSquare_14 ?_
      refine lv_iload_n hx hb dX10_isSquare_17 rfl (lv_at hl 1 rfl) ?_
      refine m_iald (w := (r 3)) hx hb hK hP 2 rfl (vp_in_iff.mpr ⟨by omega, by omega⟩) dX10_isSquare_18 ?_
      refine lv_topi (fun v18 e18 => ?_)
      have i18 : v18.toInt = ((r 3) j.toNatClampNeg).toInt := congrArg Int32.toInt e18
      have w18 := mi_w hI (x := j) (by omega) (by omega) e18
      refine lv_aload_n hx hb dX10_isSquare_19 rfl (lv_at hl 0 rfl) ?_
      refine m_get (v := .ref (a 4)) hx hb hts hin hown hK hP 4 (by decide) rfl (hts (.fieldLink RX10 16 "ShadowBenchModel" "high" "[I") (by decide +kernel)) rfl dX10_isSquare_20 ?_
      refine lv_iload_n hx hb dX10_isSquare_23 rfl (lv_at hl 1 rfl) ?_
      refine m_iald (w := (r 4)) hx hb hK hP 3 rfl (vp_in_iff.mpr ⟨by omega, by omega⟩) dX10_isSquare_24 ?_
      refine lv_topi (fun v24 e24 => ?_)
      have i24 : v24.toInt = ((r 4) j.toNatClampNeg).toInt := congrArg Int32.toInt e24
      have w24 := mi_h hI (x := j) (by omega) (by omega) e24
      have m25 := mul66 w18 w24
      refine lv_imul hx hb dX10_isSquare_25 ?_
      refine lv_topi (fun v25 e25 => ?_)
      have i25 : v25.toInt = v18.toInt * v24.toInt := by rw [e25]; exact fb_mulI (by omega) (by omega)
      refine lv_icmp_ge (tgt := 33) hx hb dX10_isSquare_26 (by decide) (fun c26 => ?_) (fun c26 => ?_)
      · skip
        have d26 := c26
        rw [fa_le] at d26
        refine lv_iconst (v := 0) hx hb dX10_isSquare_33 (by decide) ?_
        exact W.zret (v := (0 : Int32)) hx hb hr (by decide) (fun t ht hW => ⟨⟨_, (f, g, r, q), rfl, ⟨rfl, Or.inr ⟨rfl, by first | omega | (subst e18; subst e24; omega)⟩⟩, by unfold mB; rw [ht]; exact hP⟩, hS.F ht⟩) hS.2.2 dX10_isSquare_34
      · skip
        have d26 := c26
        rw [fa_le] at d26
        refine lv_iconst (v := 1) hx hb dX10_isSquare_29 (by decide) ?_
        refine lv_goto (tgt := 34) hx hb dX10_isSquare_30 (by decide) ?_
        exact W.zret (v := (1 : Int32)) hx hb hr (by decide) (fun t ht hW => ⟨⟨_, (f, g, r, q), rfl, ⟨rfl, Or.inl ⟨rfl, by subst e18; subst e24; omega⟩⟩, by unfold mB; rw [ht]; exact hP⟩, hS.F ht⟩) hS.2.2 dX10_isSquare_34
set_option maxHeartbeats 4000000 in
set_option maxRecDepth 100000 in
theorem c_X10_isLine (l : Launch) (D : va_G) (cy : Nat → ClassId) (mo : Nat) (a : Nat → Nat) (f : Nat → Int32) (g : Nat → Int64) (r : Nat → Nat → Int32) (q : Nat → Nat → Int64) (j : Int32) (way : Int32) (line : Int32) (hD : DM cy mo a) (hI : MI f r) : Mi l D cy mo a yX10_isLine wsX10_isLine ({ frames := 1, cells := 0, slots := 0, locals := 25 }) f g r q [.int j, .int way, .int line] (fun r0 u => u = (f, g, r, q) ∧ (Bo r0 (((0 ≤ j.toInt ∧ j.toInt < (f 1).toInt) ∧ 0 ≤ way.toInt ∧ way.toInt ≤ 3) ∧ 0 ≤ line.toInt ∧ line.toInt < (r_lines (r 3 j.toNatClampNeg) (r 4 j.toNatClampNeg) way).toInt))) := by
  refine Met.ofW (cc := cX10_isLine) (maxL := 4) (ret := (some .boolean)) (by decide) rfl ?_
  intro p e s m args below meth c s₁ B hml hv
  obtain ⟨rfl, hP, hK⟩ := hv
  have hx := B.exec
  have hb := B.bytes
  have hr := B.returns
  have hts := atoms_spec (ws := wsX10_isLine) B.pre
  have hin : ∀ w ∈ u_ws RX10 TX10 35, w ∈ wsX10_isLine := by decide +kernel
  have hown : s.vm.findClass RX10 = some m.cls := findClass_of_methodNamed B.named
  have hlocks := B.notSynchronized
  have hS : va_S (AM mo a) s.heap s.heap [] := va_S.rf
  have hl := lv_entry ([.ref mo, .int j, .int way, .int line]) (n := 4) (Nat.le_of_ble_eq_true rfl)
  rw [lg_entry_eq]
  generalize (lg_sl ([.ref mo, .int j, .int way, .int line]) ++ List.replicate (4 - (lg_sl ([.ref mo, .int j, .int way, .int line])).length) Slot.unset).toArray = ls at hl ⊢
  have hl : lv_has ls 4 [(0, .ref mo), (1, .int j), (2, .int way), (3, .int line)] := hl
  have k_0 : (0 : Int32).toInt = 0 := by decide
  have k_1 : (1 : Int32).toInt = 1 := by decide
  have k_0L : (0 : Int64).toInt = 0 := by decide
  have k_3L : (3 : Int64).toInt = 3 := by decide
  have hI1 := hI.1
  refine lv_aload_n hx hb dX10_isLine_0 rfl (lv_at hl 0 rfl) ?_
  refine lv_iload_n hx hb dX10_isLine_1 rfl (lv_at hl 1 rfl) ?_
  refine m_calli (As := [.int j]) (rest := []) ⟨hx, hb, hml, hown, hts⟩ (c_X10_isJob l D cy mo a f g r q j hD) (cwV 1 hts gX10_isLine_X10_isJob rfl rfl rfl (by decide +kernel) ⟨Nat.le_of_ble_eq_true rfl, Nat.le_of_ble_eq_true rfl⟩) hK hP rfl hl.1 rfl (Nat.le_of_ble_eq_true rfl) dX10_isLine_2 ⟨Nat.le_of_ble_eq_true rfl, Nat.le_of_ble_eq_true rfl⟩ hS (fun r2 u H locs q2 hP hS => ?_)
  obtain ⟨rfl, q2⟩ := q2
  have hP : va_P D vwCl (WM cy mo a f g r q) H := hP
  have q2 : Bo r2 (0 ≤ j.toInt ∧ j.toInt < ((f 1)).toInt) := q2
  refine lv_if_eq (tgt := 48) hx hb dX10_isLine_5 (by decide) (fun c5 => ?_) (fun c5 => ?_)
  · skip
    have b5 := bo_f q2 c5
    refine lv_iconst (v := 0) hx hb dX10_isLine_48 (by decide) ?_
    exact W.zret (v := (0 : Int32)) hx hb hr (by decide) (fun t ht hW => ⟨⟨_, (f, g, r, q), rfl, ⟨rfl, Or.inr ⟨rfl, by first | omega | (subst e30; subst e36; subst q38; omega)⟩⟩, by unfold mB; rw [ht]; exact hP⟩, hS.F ht⟩) hS.2.2 dX10_isLine_49
  · skip
    have b5 := bo_t q2 c5
    refine lv_iload_n hx hb dX10_isLine_8 rfl (lv_at hl 2 rfl) ?_
    refine lv_i2l (v := way.toInt64) hx hb dX10_isLine_9 rfl ?_
    refine lv_lconst (v := 0) hx hb dX10_isLine_10 (by decide) ?_
    refine lv_ldc2 hx hb hown (hts (.constantLong RX10 116 (3)) (by decide +kernel)) dX10_isLine_11 ?_
    refine m_pu (As := [.long (way.toInt64), .long (0 : Int64), .long (3 : Int64)]) (rest := []) ⟨hx, hb, hml, hown, hts⟩ (c_X10_isIn l way.toInt64 (0 : Int64) (3 : Int64) ) (va_cwS 3 hts gX10_isLine_X10_isIn rfl rfl rfl (by decide +kernel) ⟨Nat.le_of_ble_eq_true rfl, Nat.le_of_ble_eq_true rfl⟩) hP rfl hl.1 rfl (Nat.le_of_ble_eq_true rfl) dX10_isLine_14 ⟨Nat.le_of_ble_eq_true rfl, Nat.le_of_ble_eq_true rfl⟩ hS (fun r14 H locs q14 hP hS => ?_)
    have q14 := q14
    simp only [k64, show (0 : Int64).toInt = 0 from rfl, show (1 : Int64).toInt = 1 from rfl, show (2 : Int64).toInt = 2 from rfl, show (3 : Int64).toInt = 3 from rfl, show (6 : Int64).toInt = 6 from rfl] at q14
    refine lv_if_eq (tgt := 48) hx hb dX10_isLine_17 (by decide) (fun c17 => ?_) (fun c17 => ?_)
    · skip
      have b17 := bo_f q14 c17
      refine lv_iconst (v := 0) hx hb dX10_isLine_48 (by decide) ?_
      exact W.zret (v := (0 : Int32)) hx hb hr (by decide) (fun t ht hW => ⟨⟨_, (f, g, r, q), rfl, ⟨rfl, Or.inr ⟨rfl, by first | omega | (subst e30; subst e36; subst q38; omega)⟩⟩, by unfold mB; rw [ht]; exact hP⟩, hS.F ht⟩) hS.2.2 dX10_isLine_49
    · skip
      have b17 := bo_t q14 c17
      refine lv_iload_n hx hb dX10_isLine_20 rfl (lv_at hl 3 rfl) ?_
      refine lv_if_lt (tgt := 48) hx hb dX10_isLine_21 (by decide) (fun c21 => ?_) (fun c21 => ?_)
      · skip
        have d21 := c21
        rw [fa_lt] at d21
        refine lv_iconst (v := 0) hx hb dX10_isLine_48 (by decide) ?_
        exact W.zret (v := (0 : Int32)) hx hb hr (by decide) (fun t ht hW => ⟨⟨_, (f, g, r, q), rfl, ⟨rfl, Or.inr ⟨rfl, by first | omega | (subst e30; subst e36; subst q38; omega)⟩⟩, by unfold mB; rw [ht]; exact hP⟩, hS.F ht⟩) hS.2.2 dX10_isLine_49
      · skip
        have d21 := c21
        rw [fa_lt] at d21
        refine lv_iload_n hx hb dX10_isLine_24 rfl (lv_at hl 3 rfl) ?_
        refine lv_aload_n hx hb dX10_isLine_25 rfl (lv_at hl 0 rfl) ?_
        refine m_get (v := .ref (a 3)) hx hb hts hin hown hK hP 3 (by decide) rfl (hts (.fieldLink RX10 13 "ShadowBenchModel" "wide" "[I") (by decide +kernel)) rfl dX10_isLine_26 ?_
        refine lv_iload_n hx hb dX10_isLine_29 rfl (lv_at hl 1 rfl) ?_
        refine m_iald (w := (r 3)) hx hb hK hP 2 rfl (vp_in_iff.mpr ⟨by omega, by omega⟩) dX10_isLine_30 ?_
        refine lv_topi (fun v30 e30 => ?_)
        have i30 : v30.toInt = ((r 3) j.toNatClampNeg).toInt := congrArg Int32.toInt e30
        have w30 := mi_w hI (x := j) (by omega) (by omega) e30
        refine lv_aload_n hx hb dX10_isLine_31 rfl (lv_at hl 0 rfl) ?_
        refine m_get (v := .ref (a 4)) hx hb hts hin hown hK hP 4 (by decide) rfl (hts (.fieldLink RX10 16 "ShadowBenchModel" "high" "[I") (by decide +kernel)) rfl dX10_isLine_32 ?_
        refine lv_iload_n hx hb dX10_isLine_35 rfl (lv_at hl 1 rfl) ?_
        refine m_iald (w := (r 4)) hx hb hK hP 3 rfl (vp_in_iff.mpr ⟨by omega, by omega⟩) dX10_isLine_36 ?_
        refine lv_topi (fun v36 e36 => ?_)
        have i36 : v36.toInt = ((r 4) j.toNatClampNeg).toInt := congrArg Int32.toInt e36
        have w36 := mi_h hI (x := j) (by omega) (by omega) e36
        refine lv_iload_n hx hb dX10_isLine_37 rfl (lv_at hl 2 rfl) ?_
        refine m_pu (As := [.int v30, .int v36, .int way]) (rest := [.int line]) ⟨hx, hb, hml, hown, hts⟩ (c_X10_linesOf l v30 v36 way ) (va_cwS 3 hts gX10_isLine_X10_linesOf rfl rfl rfl (by decide +kernel) ⟨Nat.le_of_ble_eq_true rfl, Nat.le_of_ble_eq_true rfl⟩) hP rfl hl.1 rfl (Nat.le_of_ble_eq_true rfl) dX10_isLine_38 ⟨Nat.le_of_ble_eq_true rfl, Nat.le_of_ble_eq_true rfl⟩ hS (fun r38 H locs q38 hP hS => ?_)
        have i38 : r38.toInt = (r_lines v30 v36 way).toInt := congrArg Int32.toInt q38
        refine lv_icmp_ge (tgt := 48) hx hb dX10_isLine_41 (by decide) (fun c41 => ?_) (fun c41 => ?_)
        · skip
          have d41 := c41
          rw [fa_le] at d41
          refine lv_iconst (v := 0) hx hb dX10_isLine_48 (by decide) ?_
          exact W.zret (v := (0 : Int32)) hx hb hr (by decide) (fun t ht hW => ⟨⟨_, (f, g, r, q), rfl, ⟨rfl, Or.inr ⟨rfl, by first | omega | (subst e30; subst e36; subst q38; omega)⟩⟩, by unfold mB; rw [ht]; exact hP⟩, hS.F ht⟩) hS.2.2 dX10_isLine_49
        · skip
          have d41 := c41
          rw [fa_le] at d41
          refine lv_iconst (v := 1) hx hb dX10_isLine_44 (by decide) ?_
          refine lv_goto (tgt := 49) hx hb dX10_isLine_45 (by decide) ?_
          exact W.zret (v := (1 : Int32)) hx hb hr (by decide) (fun t ht hW => ⟨⟨_, (f, g, r, q), rfl, ⟨rfl, Or.inl ⟨rfl, by subst e30; subst e36; subst q38; omega⟩⟩, by unfold mB; rw [ht]; exact hP⟩, hS.F ht⟩) hS.2.2 dX10_isLine_49
set_option maxHeartbeats 4000000 in
set_option maxRecDepth 100000 in
theorem c_X10_tell (l : Launch) (D : va_G) (cy : Nat → ClassId) (mo : Nat) (a : Nat → Nat) (f : Nat → Int32) (g : Nat → Int64) (r : Nat → Nat → Int32) (q : Nat → Nat → Int64) (j : Int32) (way : Int32) (hD : DM cy mo a) (hj : 0 ≤ j.toInt ∧ j.toInt < 8) (hy : 0 ≤ way.toInt ∧ way.toInt ≤ 3) : Mv l D cy mo a yX10_tell wsX10_tell ({ frames := 0, cells := 0, slots := 0, locals := 0 }) f g r q [.int j, .int way] (fun u => ∃ (sm : Nat → Int32), ∃ (tl : Nat → Int32), u = (f, g, (va_up (va_up r 5 sm) 6 tl), q) ∧ (True)) := by
  refine Met.ofW (cc := cX10_tell) (maxL := 4) (ret := none) (by decide) rfl ?_
  intro p e s m args below meth c s₁ B hml hv
  obtain ⟨rfl, hP, hK⟩ := hv
  have hx := B.exec
  have hb := B.bytes
  have hr := B.returns
  have hts := atoms_spec (ws := wsX10_tell) B.pre
  have hin : ∀ w ∈ u_ws RX10 TX10 35, w ∈ wsX10_tell := by decide +kernel
  have hown : s.vm.findClass RX10 = some m.cls := findClass_of_methodNamed B.named
  have hlocks := B.notSynchronized
  have hS : va_S (AM mo a) s.heap s.heap [] := va_S.rf
  have hl := lv_entry ([.ref mo, .int j, .int way]) (n := 4) (Nat.le_of_ble_eq_true rfl)
  rw [lg_entry_eq]
  generalize (lg_sl ([.ref mo, .int j, .int way]) ++ List.replicate (4 - (lg_sl ([.ref mo, .int j, .int way])).length) Slot.unset).toArray = ls at hl ⊢
  have hl : lv_has ls 4 [(0, .ref mo), (1, .int j), (2, .int way)] := hl
  have k_0 : (0 : Int32).toInt = 0 := by decide
  have k_1 : (1 : Int32).toInt = 1 := by decide
  have k_4 : (4 : Int32).toInt = 4 := by decide
  have k_11 : (11 : Int32).toInt = 11 := by decide
  have k_44 : (44 : Int32).toInt = 44 := by decide
  refine lv_iconst (v := 0) hx hb dX10_tell_0 (by decide) ?_
  refine lv_istore_n (lv' := [(3, .int (0 : Int32)), (0, .ref mo), (1, .int j), (2, .int way)]) hx hb dX10_tell_1 rfl hl (by decide) rfl (fun ls hl => ?_)
  have loop_2 : ∀ (n : Nat) (k : Nat) (sm : Nat → Int32), (k ≤ 11) → 11 - k < n → ∀ (H : Heap) (locs : List Loc), va_P D vwCl (WM cy mo a f g (va_up r 5 sm) q) H → va_S (AM mo a) s.heap H locs → ∀ (ls : Array Slot), lv_has ls 4 [(3, .int (nI k)), (0, .ref mo), (1, .int j), (2, .int way)] → W p l e (headSpec wsX10_tell ({ frames := 0, cells := 0, slots := 0, locals := 0 })).room s m #[Value.ref mo, Value.int j, Value.int way] below meth c H locs 0 0 (MQ below (va_Qv (fun u => ∃ (sm : Nat → Int32), ∃ (tl : Nat → Int32), u = (f, g, (va_up (va_up r 5 sm) 6 tl), q) ∧ (True)) (mB D cy mo a) (AM mo a)) #[Value.ref mo, Value.int j, Value.int way] s 0 0 (AM mo a)) (F0 m 2 ls []) := by
    intro n
    induction n with
    | zero => intro k sm j2_0 hn; exact absurd hn (Nat.not_lt_zero _)
    | succ n ih_2 =>
      intro k sm j2_0 hn_2 H locs hP hS ls hl
      have ik : (nI k).toInt = (k : Int) := nI_toInt (by omega)
      refine lv_iload_n hx hb dX10_tell_2 rfl (lv_at hl 0 rfl) ?_
      refine lv_bipush (v := 11) hx hb dX10_tell_3 (by decide) ?_
      refine lv_icmp_ge (tgt := 44) hx hb dX10_tell_5 (by decide) (fun c5 => ?_) (fun c5 => ?_)
      · skip
        have d5 := c5
        rw [fa_le] at d5
        refine lv_aload_n hx hb dX10_tell_44 rfl (lv_at hl 1 rfl) ?_
        refine m_get (v := .ref (a 6)) hx hb hts hin hown hK hP 6 (by decide) rfl (hts (.fieldLink RX10 22 "ShadowBenchModel" "isTold" "[Z") (by decide +kernel)) rfl dX10_tell_45 ?_
        refine lv_iconst (v := 4) hx hb dX10_tell_48 (by decide) ?_
        refine lv_iload_n hx hb dX10_tell_49 rfl (lv_at hl 2 rfl) ?_
        refine lv_imul hx hb dX10_tell_50 ?_
        refine lv_topi (fun v50 e50 => ?_)
        have i50 : v50.toInt = 4 * j.toInt := by rw [e50]; exact mulcL rfl (by omega) (by omega)
        refine lv_iload_n hx hb dX10_tell_51 rfl (lv_at hl 3 rfl) ?_
        refine lv_iadd hx hb dX10_tell_52 ?_
        refine lv_topi (fun v52 e52 => ?_)
        have i52 : v52.toInt = v50.toInt + way.toInt := by rw [e52]; exact fb_addI (by omega) (by omega)
        refine lv_iconst (v := 1) hx hb dX10_tell_53 (by decide) ?_
        refine m_zast (w := (r 6)) hx hb hK hP hD hS 5 rfl (vp_in_iff.mpr ⟨by omega, by omega⟩) (va_up (va_up r 5 sm) 6 ((upd (r 6) v52.toNatClampNeg ((1 : Int32) &&& 1)))) rfl dX10_tell_54 (fun H locs hP hS => ?_)
        exact W.vret hx hb hr (fun t ht hW => ⟨⟨(f, g, (va_up (va_up r 5 sm) 6 (((upd (r 6) v52.toNatClampNeg ((1 : Int32) &&& 1))))), q), rfl, ⟨sm, ((upd (r 6) v52.toNatClampNeg ((1 : Int32) &&& 1))), rfl, trivial⟩, by unfold mB; rw [ht]; exact hP⟩, hS.F ht⟩) hS.2.2 dX10_tell_55
      · skip
        have d5 := c5
        rw [fa_le] at d5
        refine lv_aload_n hx hb dX10_tell_8 rfl (lv_at hl 1 rfl) ?_
        refine m_get (v := .ref (a 6)) hx hb hts hin hown hK hP 6 (by decide) rfl (hts (.fieldLink RX10 22 "ShadowBenchModel" "isTold" "[Z") (by decide +kernel)) rfl dX10_tell_9 ?_
        refine lv_iconst (v := 4) hx hb dX10_tell_12 (by decide) ?_
        refine lv_iload_n hx hb dX10_tell_13 rfl (lv_at hl 2 rfl) ?_
        refine lv_imul hx hb dX10_tell_14 ?_
        refine lv_topi (fun v14 e14 => ?_)
        have i14 : v14.toInt = 4 * j.toInt := by rw [e14]; exact mulcL rfl (by omega) (by omega)
        refine lv_iload_n hx hb dX10_tell_15 rfl (lv_at hl 3 rfl) ?_
        refine lv_iadd hx hb dX10_tell_16 ?_
        refine lv_topi (fun v16 e16 => ?_)
        have i16 : v16.toInt = v14.toInt + way.toInt := by rw [e16]; exact fb_addI (by omega) (by omega)
        refine m_zald (w := (r 6)) hx hb hK hP 5 rfl (vp_in_iff.mpr ⟨by omega, by omega⟩) dX10_tell_17 ?_
        refine lv_topi (fun v17 e17 => ?_)
        have i17 : v17.toInt = ((r 6) v16.toNatClampNeg).toInt := congrArg Int32.toInt e17
        refine lv_if_ne (tgt := 44) hx hb dX10_tell_18 (by decide) (fun c18 => ?_) (fun c18 => ?_)
        · skip
          have d18 := c18
          rw [fa_eq] at d18
          refine lv_aload_n hx hb dX10_tell_44 rfl (lv_at hl 1 rfl) ?_
          refine m_get (v := .ref (a 6)) hx hb hts hin hown hK hP 6 (by decide) rfl (hts (.fieldLink RX10 22 "ShadowBenchModel" "isTold" "[Z") (by decide +kernel)) rfl dX10_tell_45 ?_
          refine lv_iconst (v := 4) hx hb dX10_tell_48 (by decide) ?_
          refine lv_iload_n hx hb dX10_tell_49 rfl (lv_at hl 2 rfl) ?_
          refine lv_imul hx hb dX10_tell_50 ?_
          refine lv_topi (fun v50 e50 => ?_)
          have i50 : v50.toInt = 4 * j.toInt := by rw [e50]; exact mulcL rfl (by omega) (by omega)
          refine lv_iload_n hx hb dX10_tell_51 rfl (lv_at hl 3 rfl) ?_
          refine lv_iadd hx hb dX10_tell_52 ?_
          refine lv_topi (fun v52 e52 => ?_)
          have i52 : v52.toInt = v50.toInt + way.toInt := by rw [e52]; exact fb_addI (by omega) (by omega)
          refine lv_iconst (v := 1) hx hb dX10_tell_53 (by decide) ?_
          refine m_zast (w := (r 6)) hx hb hK hP hD hS 5 rfl (vp_in_iff.mpr ⟨by omega, by omega⟩) (va_up (va_up r 5 sm) 6 ((upd (r 6) v52.toNatClampNeg ((1 : Int32) &&& 1)))) rfl dX10_tell_54 (fun H locs hP hS => ?_)
          exact W.vret hx hb hr (fun t ht hW => ⟨⟨(f, g, (va_up (va_up r 5 sm) 6 (((upd (r 6) v52.toNatClampNeg ((1 : Int32) &&& 1))))), q), rfl, ⟨sm, ((upd (r 6) v52.toNatClampNeg ((1 : Int32) &&& 1))), rfl, trivial⟩, by unfold mB; rw [ht]; exact hP⟩, hS.F ht⟩) hS.2.2 dX10_tell_55
        · skip
          have d18 := c18
          rw [fa_eq] at d18
          refine lv_aload_n hx hb dX10_tell_21 rfl (lv_at hl 1 rfl) ?_
          refine m_get (v := .ref (a 5)) hx hb hts hin hown hK hP 5 (by decide) rfl (hts (.fieldLink RX10 19 "ShadowBenchModel" "sums" "[I") (by decide +kernel)) rfl dX10_tell_22 ?_
          refine lv_bipush (v := 44) hx hb dX10_tell_25 (by decide) ?_
          refine lv_iload_n hx hb dX10_tell_27 rfl (lv_at hl 2 rfl) ?_
          refine lv_imul hx hb dX10_tell_28 ?_
          refine lv_topi (fun v28 e28 => ?_)
          have i28 : v28.toInt = 44 * j.toInt := by rw [e28]; exact mulcL rfl (by omega) (by omega)
          refine lv_bipush (v := 11) hx hb dX10_tell_29 (by decide) ?_
          refine lv_iload_n hx hb dX10_tell_31 rfl (lv_at hl 3 rfl) ?_
          refine lv_imul hx hb dX10_tell_32 ?_
          refine lv_topi (fun v32 e32 => ?_)
          have i32 : v32.toInt = 11 * way.toInt := by rw [e32]; exact mulcL rfl (by omega) (by omega)
          refine lv_iadd hx hb dX10_tell_33 ?_
          refine lv_topi (fun v33 e33 => ?_)
          have i33 : v33.toInt = v28.toInt + v32.toInt := by rw [e33]; exact fb_addI (by omega) (by omega)
          refine lv_iload_n hx hb dX10_tell_34 rfl (lv_at hl 0 rfl) ?_
          refine lv_iadd hx hb dX10_tell_35 ?_
          refine lv_topi (fun v35 e35 => ?_)
          have i35 : v35.toInt = v33.toInt + (nI k).toInt := by rw [e35]; exact fb_addI (by omega) (by omega)
          refine lv_iconst (v := 0) hx hb dX10_tell_36 (by decide) ?_
          refine m_iast (w := sm) hx hb hK hP hD hS 4 rfl (vp_in_iff.mpr ⟨by omega, by omega⟩) (va_up r 5 ((upd sm v35.toNatClampNeg (0 : Int32)))) rfl dX10_tell_37 (fun H locs hP hS => ?_)
          refine lv_iinc (v := (nI (k + 1))) (lv' := [(3, .int (nI (k + 1))), (0, .ref mo), (1, .int j), (2, .int way)]) hx hb dX10_tell_38 hl (k := 0) rfl (nI_1 _) (by decide) rfl (fun ls hl => ?_)
          refine lv_goto (tgt := 2) hx hb dX10_tell_41 (by decide) ?_
          exact ih_2 (k + 1) (((upd sm v35.toNatClampNeg (0 : Int32)))) (by omega) (by omega) _ _ hP hS ls (lv_sub hl [0, 1, 2, 3] rfl)
  exact loop_2 (11 + 1) 0 (r 5) (by omega) (by omega) _ _ hP hS ls (lv_sub hl [0, 1, 2, 3] rfl)
set_option maxHeartbeats 4000000 in
set_option maxRecDepth 100000 in
theorem c_X10_sum (l : Launch) (D : va_G) (cy : Nat → ClassId) (mo : Nat) (a : Nat → Nat) (f : Nat → Int32) (g : Nat → Int64) (r : Nat → Nat → Int32) (q : Nat → Nat → Int64) (j : Int32) (way : Int32) (line : Int32) (v0 : Int32) (hD : DM cy mo a) (hI : MI f r) : Mi l D cy mo a yX10_sum wsX10_sum ({ frames := 2, cells := 0, slots := 0, locals := 48 }) f g r q [.int j, .int way, .int line, .int v0] (fun r0 u => ∃ (sm : Nat → Int32), ∃ (tl : Nat → Int32), u = ((upd f 0 (0 : Int32)), g, (va_up (va_up r 5 sm) 6 tl), q) ∧ (True)) := by
  refine Met.ofW (cc := cX10_sum) (maxL := 5) (ret := (some .int)) (by decide) rfl ?_
  intro p e s m args below meth c s₁ B hml hv
  obtain ⟨rfl, hP, hK⟩ := hv
  have hx := B.exec
  have hb := B.bytes
  have hr := B.returns
  have hts := atoms_spec (ws := wsX10_sum) B.pre
  have hin : ∀ w ∈ u_ws RX10 TX10 35, w ∈ wsX10_sum := by decide +kernel
  have hown : s.vm.findClass RX10 = some m.cls := findClass_of_methodNamed B.named
  have hlocks := B.notSynchronized
  have hS : va_S (AM mo a) s.heap s.heap [] := va_S.rf
  have hl := lv_entry ([.ref mo, .int j, .int way, .int line, .int v0]) (n := 5) (Nat.le_of_ble_eq_true rfl)
  rw [lg_entry_eq]
  generalize (lg_sl ([.ref mo, .int j, .int way, .int line, .int v0]) ++ List.replicate (5 - (lg_sl ([.ref mo, .int j, .int way, .int line, .int v0])).length) Slot.unset).toArray = ls at hl ⊢
  have hl : lv_has ls 5 [(0, .ref mo), (1, .int j), (2, .int way), (3, .int line), (4, .int v0)] := hl
  have k_m1 : (-1 : Int32).toInt = -1 := by decide
  have k_0 : (0 : Int32).toInt = 0 := by decide
  have k_11 : (11 : Int32).toInt = 11 := by decide
  have k_44 : (44 : Int32).toInt = 44 := by decide
  have k_0L : (0 : Int64).toInt = 0 := by decide
  have k_6L : (6 : Int64).toInt = 6 := by decide
  have hI1 := hI.1
  refine lv_aload_n hx hb dX10_sum_0 rfl (lv_at hl 0 rfl) ?_
  refine lv_iconst (v := 0) hx hb dX10_sum_1 (by decide) ?_
  refine m_put (v := .int (0 : Int32)) (ty := .int) hx hb hts hin hown hK hP hD hS 0 (by decide) rfl (hts (.fieldLink RX10 79 "ShadowBenchModel" "thrown" "I") (by decide +kernel)) rfl (by decide +kernel) rfl rfl (upd f 0 (0 : Int32)) g rfl dX10_sum_2 (fun H locs hP hS => ?_)
  refine lv_aload_n hx hb dX10_sum_5 rfl (lv_at hl 0 rfl) ?_
  refine lv_iload_n hx hb dX10_sum_6 rfl (lv_at hl 1 rfl) ?_
  refine lv_iload_n hx hb dX10_sum_7 rfl (lv_at hl 2 rfl) ?_
  refine lv_iload_n hx hb dX10_sum_8 rfl (lv_at hl 3 rfl) ?_
  refine m_calli (As := [.int j, .int way, .int line]) (rest := []) ⟨hx, hb, hml, hown, hts⟩ (c_X10_isLine l D cy mo a (upd f 0 (0 : Int32)) g r q j way line hD hI) (cwV 3 hts gX10_sum_X10_isLine rfl rfl rfl (by decide +kernel) ⟨Nat.le_of_ble_eq_true rfl, Nat.le_of_ble_eq_true rfl⟩) hK hP rfl hl.1 rfl (Nat.le_of_ble_eq_true rfl) dX10_sum_9 ⟨Nat.le_of_ble_eq_true rfl, Nat.le_of_ble_eq_true rfl⟩ hS (fun r9 u H locs q9 hP hS => ?_)
  obtain ⟨rfl, q9⟩ := q9
  have hP : va_P D vwCl (WM cy mo a (upd f 0 (0 : Int32)) g r q) H := hP
  have q9 : Bo r9 (((0 ≤ j.toInt ∧ j.toInt < ((f 1)).toInt) ∧ 0 ≤ way.toInt ∧ way.toInt ≤ 3) ∧ 0 ≤ line.toInt ∧ line.toInt < (r_lines ((r 3) j.toNatClampNeg) ((r 4) j.toNatClampNeg) way).toInt) := q9
  refine lv_if_eq (tgt := 28) hx hb dX10_sum_12 (by decide) (fun c12 => ?_) (fun c12 => ?_)
  · skip
    have b12 := bo_f q9 c12
    refine lv_iconst (v := (-1)) hx hb dX10_sum_28 (by decide) ?_
    exact W.iret (v := ((-1) : Int32)) hx hb hr (fun t ht hW => ⟨⟨_, ((upd f 0 (0 : Int32)), g, (va_up (va_up r 5 (r 5)) 6 (r 6)), q), rfl, ⟨(r 5), (r 6), rfl, trivial⟩, by unfold mB; rw [ht]; exact hP⟩, hS.F ht⟩) hS.2.2 dX10_sum_29
  · skip
    have b12 := bo_t q9 c12
    refine lv_iload hx hb dX10_sum_15 (lv_at hl 4 rfl) ?_
    refine lv_i2l (v := v0.toInt64) hx hb dX10_sum_17 rfl ?_
    refine lv_lconst (v := 0) hx hb dX10_sum_18 (by decide) ?_
    refine lv_ldc2 hx hb hown (hts (.constantLong RX10 83 (6)) (by decide +kernel)) dX10_sum_19 ?_
    refine m_pu (As := [.long (v0.toInt64), .long (0 : Int64), .long (6 : Int64)]) (rest := []) ⟨hx, hb, hml, hown, hts⟩ (c_X10_isIn l v0.toInt64 (0 : Int64) (6 : Int64) ) (va_cwS 3 hts gX10_sum_X10_isIn rfl rfl rfl (by decide +kernel) ⟨Nat.le_of_ble_eq_true rfl, Nat.le_of_ble_eq_true rfl⟩) hP rfl hl.1 rfl (Nat.le_of_ble_eq_true rfl) dX10_sum_22 ⟨Nat.le_of_ble_eq_true rfl, Nat.le_of_ble_eq_true rfl⟩ hS (fun r22 H locs q22 hP hS => ?_)
    have q22 := q22
    simp only [k64, show (0 : Int64).toInt = 0 from rfl, show (1 : Int64).toInt = 1 from rfl, show (2 : Int64).toInt = 2 from rfl, show (3 : Int64).toInt = 3 from rfl, show (6 : Int64).toInt = 6 from rfl] at q22
    refine lv_if_ne (tgt := 30) hx hb dX10_sum_25 (by decide) (fun c25 => ?_) (fun c25 => ?_)
    · skip
      have b25 := bo_t q22 c25
      refine lv_aload_n hx hb dX10_sum_30 rfl (lv_at hl 0 rfl) ?_
      refine lv_iload_n hx hb dX10_sum_31 rfl (lv_at hl 1 rfl) ?_
      refine lv_iload_n hx hb dX10_sum_32 rfl (lv_at hl 2 rfl) ?_
      refine m_callv (As := [.int j, .int way]) (rest := []) ⟨hx, hb, hml, hown, hts⟩ (c_X10_tell l D cy mo a (upd f 0 (0 : Int32)) g r q j way hD (show 0 ≤ j.toInt ∧ j.toInt < 8 by omega) (show 0 ≤ way.toInt ∧ way.toInt ≤ 3 by omega)) (cwV 2 hts gX10_sum_X10_tell rfl rfl rfl (by decide +kernel) ⟨Nat.le_of_ble_eq_true rfl, Nat.le_of_ble_eq_true rfl⟩) hK hP rfl hl.1 rfl (Nat.le_of_ble_eq_true rfl) dX10_sum_33 ⟨Nat.le_of_ble_eq_true rfl, Nat.le_of_ble_eq_true rfl⟩ hS (fun u H locs q33 hP hS => ?_)
      obtain ⟨sm_33, tl_33, rfl, q33⟩ := q33
      have hP : va_P D vwCl (WM cy mo a (upd f 0 (0 : Int32)) g (va_up (va_up r 5 sm_33) 6 tl_33) q) H := hP
      have q33 : True := q33
      have hlb := lines_lt (mi_w hI (x := j) (by omega) (by omega) rfl) (mi_h hI (x := j) (by omega) (by omega) rfl) way
      refine lv_aload_n hx hb dX10_sum_36 rfl (lv_at hl 0 rfl) ?_
      refine m_get (v := .ref (a 5)) hx hb hts hin hown hK hP 5 (by decide) rfl (hts (.fieldLink RX10 19 "ShadowBenchModel" "sums" "[I") (by decide +kernel)) rfl dX10_sum_37 ?_
      refine lv_bipush (v := 44) hx hb dX10_sum_40 (by decide) ?_
      refine lv_iload_n hx hb dX10_sum_42 rfl (lv_at hl 1 rfl) ?_
      refine lv_imul hx hb dX10_sum_43 ?_
      refine lv_topi (fun v43 e43 => ?_)
      have i43 : v43.toInt = 44 * j.toInt := by rw [e43]; exact mulcL rfl (by omega) (by omega)
      refine lv_bipush (v := 11) hx hb dX10_sum_44 (by decide) ?_
      refine lv_iload_n hx hb dX10_sum_46 rfl (lv_at hl 2 rfl) ?_
      refine lv_imul hx hb dX10_sum_47 ?_
      refine lv_topi (fun v47 e47 => ?_)
      have i47 : v47.toInt = 11 * way.toInt := by rw [e47]; exact mulcL rfl (by omega) (by omega)
      refine lv_iadd hx hb dX10_sum_48 ?_
      refine lv_topi (fun v48 e48 => ?_)
      have i48 : v48.toInt = v43.toInt + v47.toInt := by rw [e48]; exact fb_addI (by omega) (by omega)
      refine lv_iload_n hx hb dX10_sum_49 rfl (lv_at hl 3 rfl) ?_
      refine lv_iadd hx hb dX10_sum_50 ?_
      refine lv_topi (fun v50 e50 => ?_)
      have i50 : v50.toInt = v48.toInt + line.toInt := by rw [e50]; exact fb_addI (by omega) (by omega)
      refine lv_iload hx hb dX10_sum_51 (lv_at hl 4 rfl) ?_
      refine m_iast (w := sm_33) hx hb hK hP hD hS 4 rfl (vp_in_iff.mpr ⟨by omega, by omega⟩) (va_up (va_up r 6 tl_33) 5 (upd sm_33 v50.toNatClampNeg v0)) rfl dX10_sum_53 (fun H locs hP hS => ?_)
      refine lv_iconst (v := 0) hx hb dX10_sum_54 (by decide) ?_
      exact W.iret (v := (0 : Int32)) hx hb hr (fun t ht hW => ⟨⟨_, ((upd f 0 (0 : Int32)), g, (va_up (va_up r 5 (upd sm_33 v50.toNatClampNeg v0)) 6 tl_33), q), rfl, ⟨(upd sm_33 v50.toNatClampNeg v0), tl_33, rfl, trivial⟩, by unfold mB; rw [ht]; exact hP⟩, hS.F ht⟩) hS.2.2 dX10_sum_55
    · skip
      have b25 := bo_f q22 c25
      refine lv_iconst (v := (-1)) hx hb dX10_sum_28 (by decide) ?_
      exact W.iret (v := ((-1) : Int32)) hx hb hr (fun t ht hW => ⟨⟨_, ((upd f 0 (0 : Int32)), g, (va_up (va_up r 5 (r 5)) 6 (r 6)), q), rfl, ⟨(r 5), (r 6), rfl, trivial⟩, by unfold mB; rw [ht]; exact hP⟩, hS.F ht⟩) hS.2.2 dX10_sum_29
set_option maxHeartbeats 4000000 in
set_option maxRecDepth 100000 in
theorem c_X10_untell (l : Launch) (D : va_G) (cy : Nat → ClassId) (mo : Nat) (a : Nat → Nat) (f : Nat → Int32) (g : Nat → Int64) (r : Nat → Nat → Int32) (q : Nat → Nat → Int64) (j : Int32) (way : Int32) (hD : DM cy mo a) (hI : MI f r) : Mi l D cy mo a yX10_untell wsX10_untell ({ frames := 1, cells := 0, slots := 0, locals := 25 }) f g r q [.int j, .int way] (fun r0 u => ∃ (tl : Nat → Int32), u = ((upd f 0 (0 : Int32)), g, (va_up r 6 tl), q) ∧ (True)) := by
  refine Met.ofW (cc := cX10_untell) (maxL := 4) (ret := (some .int)) (by decide) rfl ?_
  intro p e s m args below meth c s₁ B hml hv
  obtain ⟨rfl, hP, hK⟩ := hv
  have hx := B.exec
  have hb := B.bytes
  have hr := B.returns
  have hts := atoms_spec (ws := wsX10_untell) B.pre
  have hin : ∀ w ∈ u_ws RX10 TX10 35, w ∈ wsX10_untell := by decide +kernel
  have hown : s.vm.findClass RX10 = some m.cls := findClass_of_methodNamed B.named
  have hlocks := B.notSynchronized
  have hS : va_S (AM mo a) s.heap s.heap [] := va_S.rf
  have hl := lv_entry ([.ref mo, .int j, .int way]) (n := 4) (Nat.le_of_ble_eq_true rfl)
  rw [lg_entry_eq]
  generalize (lg_sl ([.ref mo, .int j, .int way]) ++ List.replicate (4 - (lg_sl ([.ref mo, .int j, .int way])).length) Slot.unset).toArray = ls at hl ⊢
  have hl : lv_has ls 4 [(0, .ref mo), (1, .int j), (2, .int way)] := hl
  have k_m1 : (-1 : Int32).toInt = -1 := by decide
  have k_0 : (0 : Int32).toInt = 0 := by decide
  have k_1 : (1 : Int32).toInt = 1 := by decide
  have k_4 : (4 : Int32).toInt = 4 := by decide
  have k_2L : (2 : Int64).toInt = 2 := by decide
  have k_3L : (3 : Int64).toInt = 3 := by decide
  have hI1 := hI.1
  refine lv_aload_n hx hb dX10_untell_0 rfl (lv_at hl 0 rfl) ?_
  refine lv_iconst (v := 0) hx hb dX10_untell_1 (by decide) ?_
  refine m_put (v := .int (0 : Int32)) (ty := .int) hx hb hts hin hown hK hP hD hS 0 (by decide) rfl (hts (.fieldLink RX10 79 "ShadowBenchModel" "thrown" "I") (by decide +kernel)) rfl (by decide +kernel) rfl rfl (upd f 0 (0 : Int32)) g rfl dX10_untell_2 (fun H locs hP hS => ?_)
  refine lv_aload_n hx hb dX10_untell_5 rfl (lv_at hl 0 rfl) ?_
  refine lv_iload_n hx hb dX10_untell_6 rfl (lv_at hl 1 rfl) ?_
  refine m_calli (As := [.int j]) (rest := []) ⟨hx, hb, hml, hown, hts⟩ (c_X10_isJob l D cy mo a (upd f 0 (0 : Int32)) g r q j hD) (cwV 1 hts gX10_untell_X10_isJob rfl rfl rfl (by decide +kernel) ⟨Nat.le_of_ble_eq_true rfl, Nat.le_of_ble_eq_true rfl⟩) hK hP rfl hl.1 rfl (Nat.le_of_ble_eq_true rfl) dX10_untell_7 ⟨Nat.le_of_ble_eq_true rfl, Nat.le_of_ble_eq_true rfl⟩ hS (fun r7 u H locs q7 hP hS => ?_)
  obtain ⟨rfl, q7⟩ := q7
  have hP : va_P D vwCl (WM cy mo a (upd f 0 (0 : Int32)) g r q) H := hP
  have q7 : Bo r7 (0 ≤ j.toInt ∧ j.toInt < ((f 1)).toInt) := q7
  refine lv_if_eq (tgt := 27) hx hb dX10_untell_10 (by decide) (fun c10 => ?_) (fun c10 => ?_)
  · skip
    have b10 := bo_f q7 c10
    refine lv_iconst (v := (-1)) hx hb dX10_untell_27 (by decide) ?_
    exact W.iret (v := ((-1) : Int32)) hx hb hr (fun t ht hW => ⟨⟨_, ((upd f 0 (0 : Int32)), g, (va_up r 6 (r 6)), q), rfl, ⟨(r 6), rfl, trivial⟩, by unfold mB; rw [ht]; exact hP⟩, hS.F ht⟩) hS.2.2 dX10_untell_28
  · skip
    have b10 := bo_t q7 c10
    refine lv_iload_n hx hb dX10_untell_13 rfl (lv_at hl 2 rfl) ?_
    refine lv_i2l (v := way.toInt64) hx hb dX10_untell_14 rfl ?_
    refine lv_ldc2 hx hb hown (hts (.constantLong RX10 134 (2)) (by decide +kernel)) dX10_untell_15 ?_
    refine lv_ldc2 hx hb hown (hts (.constantLong RX10 116 (3)) (by decide +kernel)) dX10_untell_18 ?_
    refine m_pu (As := [.long (way.toInt64), .long (2 : Int64), .long (3 : Int64)]) (rest := []) ⟨hx, hb, hml, hown, hts⟩ (c_X10_isIn l way.toInt64 (2 : Int64) (3 : Int64) ) (va_cwS 3 hts gX10_untell_X10_isIn rfl rfl rfl (by decide +kernel) ⟨Nat.le_of_ble_eq_true rfl, Nat.le_of_ble_eq_true rfl⟩) hP rfl hl.1 rfl (Nat.le_of_ble_eq_true rfl) dX10_untell_21 ⟨Nat.le_of_ble_eq_true rfl, Nat.le_of_ble_eq_true rfl⟩ hS (fun r21 H locs q21 hP hS => ?_)
    have q21 := q21
    simp only [k64, show (0 : Int64).toInt = 0 from rfl, show (1 : Int64).toInt = 1 from rfl, show (2 : Int64).toInt = 2 from rfl, show (3 : Int64).toInt = 3 from rfl, show (6 : Int64).toInt = 6 from rfl] at q21
    refine lv_if_ne (tgt := 29) hx hb dX10_untell_24 (by decide) (fun c24 => ?_) (fun c24 => ?_)
    · skip
      have b24 := bo_t q21 c24
      refine lv_aload_n hx hb dX10_untell_29 rfl (lv_at hl 0 rfl) ?_
      refine m_get (v := .ref (a 6)) hx hb hts hin hown hK hP 6 (by decide) rfl (hts (.fieldLink RX10 22 "ShadowBenchModel" "isTold" "[Z") (by decide +kernel)) rfl dX10_untell_30 ?_
      refine lv_iconst (v := 4) hx hb dX10_untell_33 (by decide) ?_
      refine lv_iload_n hx hb dX10_untell_34 rfl (lv_at hl 1 rfl) ?_
      refine lv_imul hx hb dX10_untell_35 ?_
      refine lv_topi (fun v35 e35 => ?_)
      have i35 : v35.toInt = 4 * j.toInt := by rw [e35]; exact mulcL rfl (by omega) (by omega)
      refine lv_iload_n hx hb dX10_untell_36 rfl (lv_at hl 2 rfl) ?_
      refine lv_iadd hx hb dX10_untell_37 ?_
      refine lv_topi (fun v37 e37 => ?_)
      have i37 : v37.toInt = v35.toInt + way.toInt := by rw [e37]; exact fb_addI (by omega) (by omega)
      refine m_zald (w := (r 6)) hx hb hK hP 5 rfl (vp_in_iff.mpr ⟨by omega, by omega⟩) dX10_untell_38 ?_
      refine lv_topi (fun v38 e38 => ?_)
      have i38 : v38.toInt = ((r 6) v37.toNatClampNeg).toInt := congrArg Int32.toInt e38
      refine lv_istore_n (lv' := [(3, .int v38), (0, .ref mo), (1, .int j), (2, .int way)]) hx hb dX10_untell_39 rfl hl (by decide) rfl (fun ls hl => ?_)
      refine lv_aload_n hx hb dX10_untell_40 rfl (lv_at hl 1 rfl) ?_
      refine m_get (v := .ref (a 6)) hx hb hts hin hown hK hP 6 (by decide) rfl (hts (.fieldLink RX10 22 "ShadowBenchModel" "isTold" "[Z") (by decide +kernel)) rfl dX10_untell_41 ?_
      refine lv_iconst (v := 4) hx hb dX10_untell_44 (by decide) ?_
      refine lv_iload_n hx hb dX10_untell_45 rfl (lv_at hl 2 rfl) ?_
      refine lv_imul hx hb dX10_untell_46 ?_
      refine lv_topi (fun v46 e46 => ?_)
      have i46 : v46.toInt = 4 * j.toInt := by rw [e46]; exact mulcL rfl (by omega) (by omega)
      refine lv_iload_n hx hb dX10_untell_47 rfl (lv_at hl 3 rfl) ?_
      refine lv_iadd hx hb dX10_untell_48 ?_
      refine lv_topi (fun v48 e48 => ?_)
      have i48 : v48.toInt = v46.toInt + way.toInt := by rw [e48]; exact fb_addI (by omega) (by omega)
      refine lv_iconst (v := 0) hx hb dX10_untell_49 (by decide) ?_
      refine m_zast (w := (r 6)) hx hb hK hP hD hS 5 rfl (vp_in_iff.mpr ⟨by omega, by omega⟩) (va_up r 6 ((upd (r 6) v48.toNatClampNeg ((0 : Int32) &&& 1)))) rfl dX10_untell_50 (fun H locs hP hS => ?_)
      refine lv_iload_n hx hb dX10_untell_51 rfl (lv_at hl 0 rfl) ?_
      refine lv_if_eq (tgt := 59) hx hb dX10_untell_52 (by decide) (fun c52 => ?_) (fun c52 => ?_)
      · skip
        have d52 := c52
        rw [fa_eq] at d52
        refine lv_iconst (v := 0) hx hb dX10_untell_59 (by decide) ?_
        exact W.iret (v := (0 : Int32)) hx hb hr (fun t ht hW => ⟨⟨_, ((upd f 0 (0 : Int32)), g, (va_up r 6 (((upd (r 6) v48.toNatClampNeg ((0 : Int32) &&& 1))))), q), rfl, ⟨((upd (r 6) v48.toNatClampNeg ((0 : Int32) &&& 1))), rfl, trivial⟩, by unfold mB; rw [ht]; exact hP⟩, hS.F ht⟩) hS.2.2 dX10_untell_60
      · skip
        have d52 := c52
        rw [fa_eq] at d52
        refine lv_iconst (v := 1) hx hb dX10_untell_55 (by decide) ?_
        refine lv_goto (tgt := 60) hx hb dX10_untell_56 (by decide) ?_
        exact W.iret (v := (1 : Int32)) hx hb hr (fun t ht hW => ⟨⟨_, ((upd f 0 (0 : Int32)), g, (va_up r 6 (((upd (r 6) v48.toNatClampNeg ((0 : Int32) &&& 1))))), q), rfl, ⟨((upd (r 6) v48.toNatClampNeg ((0 : Int32) &&& 1))), rfl, trivial⟩, by unfold mB; rw [ht]; exact hP⟩, hS.F ht⟩) hS.2.2 dX10_untell_60
    · skip
      have b24 := bo_f q21 c24
      refine lv_iconst (v := (-1)) hx hb dX10_untell_27 (by decide) ?_
      exact W.iret (v := ((-1) : Int32)) hx hb hr (fun t ht hW => ⟨⟨_, ((upd f 0 (0 : Int32)), g, (va_up r 6 (r 6)), q), rfl, ⟨(r 6), rfl, trivial⟩, by unfold mB; rw [ht]; exact hP⟩, hS.F ht⟩) hS.2.2 dX10_untell_28
set_option maxHeartbeats 4000000 in
set_option maxRecDepth 100000 in
theorem c_X10_hold (l : Launch) (D : va_G) (cy : Nat → ClassId) (mo : Nat) (a : Nat → Nat) (f : Nat → Int32) (g : Nat → Int64) (r : Nat → Nat → Int32) (q : Nat → Nat → Int64) (j : Int32) (s0 : Int32) (how : Int32) (hD : DM cy mo a) (hI : MI f r) : Mi l D cy mo a yX10_hold wsX10_hold ({ frames := 2, cells := 0, slots := 0, locals := 43 }) f g r q [.int j, .int s0, .int how] (fun r0 u => ∃ (hd : Nat → Int32), u = ((upd f 0 (0 : Int32)), g, (va_up r 7 hd), q) ∧ (True)) := by
  refine Met.ofW (cc := cX10_hold) (maxL := 5) (ret := (some .int)) (by decide) rfl ?_
  intro p e s m args below meth c s₁ B hml hv
  obtain ⟨rfl, hP, hK⟩ := hv
  have hx := B.exec
  have hb := B.bytes
  have hr := B.returns
  have hts := atoms_spec (ws := wsX10_hold) B.pre
  have hin : ∀ w ∈ u_ws RX10 TX10 35, w ∈ wsX10_hold := by decide +kernel
  have hown : s.vm.findClass RX10 = some m.cls := findClass_of_methodNamed B.named
  have hlocks := B.notSynchronized
  have hS : va_S (AM mo a) s.heap s.heap [] := va_S.rf
  have hl := lv_entry ([.ref mo, .int j, .int s0, .int how]) (n := 5) (Nat.le_of_ble_eq_true rfl)
  rw [lg_entry_eq]
  generalize (lg_sl ([.ref mo, .int j, .int s0, .int how]) ++ List.replicate (5 - (lg_sl ([.ref mo, .int j, .int s0, .int how])).length) Slot.unset).toArray = ls at hl ⊢
  have hl : lv_has ls 5 [(0, .ref mo), (1, .int j), (2, .int s0), (3, .int how)] := hl
  have k_m1 : (-1 : Int32).toInt = -1 := by decide
  have k_0 : (0 : Int32).toInt = 0 := by decide
  have k_36 : (36 : Int32).toInt = 36 := by decide
  have k_0L : (0 : Int64).toInt = 0 := by decide
  have k_2L : (2 : Int64).toInt = 2 := by decide
  have hI1 := hI.1
  refine lv_aload_n hx hb dX10_hold_0 rfl (lv_at hl 0 rfl) ?_
  refine lv_iconst (v := 0) hx hb dX10_hold_1 (by decide) ?_
  refine m_put (v := .int (0 : Int32)) (ty := .int) hx hb hts hin hown hK hP hD hS 0 (by decide) rfl (hts (.fieldLink RX10 79 "ShadowBenchModel" "thrown" "I") (by decide +kernel)) rfl (by decide +kernel) rfl rfl (upd f 0 (0 : Int32)) g rfl dX10_hold_2 (fun H locs hP hS => ?_)
  refine lv_aload_n hx hb dX10_hold_5 rfl (lv_at hl 0 rfl) ?_
  refine lv_iload_n hx hb dX10_hold_6 rfl (lv_at hl 1 rfl) ?_
  refine lv_iload_n hx hb dX10_hold_7 rfl (lv_at hl 2 rfl) ?_
  refine m_calli (As := [.int j, .int s0]) (rest := []) ⟨hx, hb, hml, hown, hts⟩ (c_X10_isSquare l D cy mo a (upd f 0 (0 : Int32)) g r q j s0 hD hI) (cwV 2 hts gX10_hold_X10_isSquare rfl rfl rfl (by decide +kernel) ⟨Nat.le_of_ble_eq_true rfl, Nat.le_of_ble_eq_true rfl⟩) hK hP rfl hl.1 rfl (Nat.le_of_ble_eq_true rfl) dX10_hold_8 ⟨Nat.le_of_ble_eq_true rfl, Nat.le_of_ble_eq_true rfl⟩ hS (fun r8 u H locs q8 hP hS => ?_)
  obtain ⟨rfl, q8⟩ := q8
  have hP : va_P D vwCl (WM cy mo a (upd f 0 (0 : Int32)) g r q) H := hP
  have q8 : Bo r8 ((0 ≤ j.toInt ∧ j.toInt < ((f 1)).toInt) ∧ 0 ≤ s0.toInt ∧ s0.toInt < ((r 3) j.toNatClampNeg).toInt * ((r 4) j.toNatClampNeg).toInt) := q8
  refine lv_if_eq (tgt := 26) hx hb dX10_hold_11 (by decide) (fun c11 => ?_) (fun c11 => ?_)
  · skip
    have b11 := bo_f q8 c11
    refine lv_iconst (v := (-1)) hx hb dX10_hold_26 (by decide) ?_
    exact W.iret (v := ((-1) : Int32)) hx hb hr (fun t ht hW => ⟨⟨_, ((upd f 0 (0 : Int32)), g, (va_up r 7 (r 7)), q), rfl, ⟨(r 7), rfl, trivial⟩, by unfold mB; rw [ht]; exact hP⟩, hS.F ht⟩) hS.2.2 dX10_hold_27
  · skip
    have b11 := bo_t q8 c11
    refine lv_iload_n hx hb dX10_hold_14 rfl (lv_at hl 3 rfl) ?_
    refine lv_i2l (v := how.toInt64) hx hb dX10_hold_15 rfl ?_
    refine lv_lconst (v := 0) hx hb dX10_hold_16 (by decide) ?_
    refine lv_ldc2 hx hb hown (hts (.constantLong RX10 134 (2)) (by decide +kernel)) dX10_hold_17 ?_
    refine m_pu (As := [.long (how.toInt64), .long (0 : Int64), .long (2 : Int64)]) (rest := []) ⟨hx, hb, hml, hown, hts⟩ (c_X10_isIn l how.toInt64 (0 : Int64) (2 : Int64) ) (va_cwS 3 hts gX10_hold_X10_isIn rfl rfl rfl (by decide +kernel) ⟨Nat.le_of_ble_eq_true rfl, Nat.le_of_ble_eq_true rfl⟩) hP rfl hl.1 rfl (Nat.le_of_ble_eq_true rfl) dX10_hold_20 ⟨Nat.le_of_ble_eq_true rfl, Nat.le_of_ble_eq_true rfl⟩ hS (fun r20 H locs q20 hP hS => ?_)
    have q20 := q20
    simp only [k64, show (0 : Int64).toInt = 0 from rfl, show (1 : Int64).toInt = 1 from rfl, show (2 : Int64).toInt = 2 from rfl, show (3 : Int64).toInt = 3 from rfl, show (6 : Int64).toInt = 6 from rfl] at q20
    refine lv_if_ne (tgt := 28) hx hb dX10_hold_23 (by decide) (fun c23 => ?_) (fun c23 => ?_)
    · skip
      have b23 := bo_t q20 c23
      have hsb := mul66 (mi_w hI (x := j) (by omega) (by omega) rfl) (mi_h hI (x := j) (by omega) (by omega) rfl)
      refine lv_aload_n hx hb dX10_hold_28 rfl (lv_at hl 0 rfl) ?_
      refine m_get (v := .ref (a 7)) hx hb hts hin hown hK hP 7 (by decide) rfl (hts (.fieldLink RX10 26 "ShadowBenchModel" "held" "[I") (by decide +kernel)) rfl dX10_hold_29 ?_
      refine lv_bipush (v := 36) hx hb dX10_hold_32 (by decide) ?_
      refine lv_iload_n hx hb dX10_hold_34 rfl (lv_at hl 1 rfl) ?_
      refine lv_imul hx hb dX10_hold_35 ?_
      refine lv_topi (fun v35 e35 => ?_)
      have i35 : v35.toInt = 36 * j.toInt := by rw [e35]; exact mulcL rfl (by omega) (by omega)
      refine lv_iload_n hx hb dX10_hold_36 rfl (lv_at hl 2 rfl) ?_
      refine lv_iadd hx hb dX10_hold_37 ?_
      refine lv_topi (fun v37 e37 => ?_)
      have i37 : v37.toInt = v35.toInt + s0.toInt := by rw [e37]; exact fb_addI (by omega) (by omega)
      refine m_iald (w := (r 7)) hx hb hK hP 6 rfl (vp_in_iff.mpr ⟨by omega, by omega⟩) dX10_hold_38 ?_
      refine lv_topi (fun v38 e38 => ?_)
      have i38 : v38.toInt = ((r 7) v37.toNatClampNeg).toInt := congrArg Int32.toInt e38
      refine lv_istore (lv' := [(4, .int v38), (0, .ref mo), (1, .int j), (2, .int s0), (3, .int how)]) hx hb dX10_hold_39 hl (by decide) rfl (fun ls hl => ?_)
      refine lv_aload_n hx hb dX10_hold_41 rfl (lv_at hl 1 rfl) ?_
      refine m_get (v := .ref (a 7)) hx hb hts hin hown hK hP 7 (by decide) rfl (hts (.fieldLink RX10 26 "ShadowBenchModel" "held" "[I") (by decide +kernel)) rfl dX10_hold_42 ?_
      refine lv_bipush (v := 36) hx hb dX10_hold_45 (by decide) ?_
      refine lv_iload_n hx hb dX10_hold_47 rfl (lv_at hl 2 rfl) ?_
      refine lv_imul hx hb dX10_hold_48 ?_
      refine lv_topi (fun v48 e48 => ?_)
      have i48 : v48.toInt = 36 * j.toInt := by rw [e48]; exact mulcL rfl (by omega) (by omega)
      refine lv_iload_n hx hb dX10_hold_49 rfl (lv_at hl 3 rfl) ?_
      refine lv_iadd hx hb dX10_hold_50 ?_
      refine lv_topi (fun v50 e50 => ?_)
      have i50 : v50.toInt = v48.toInt + s0.toInt := by rw [e50]; exact fb_addI (by omega) (by omega)
      refine lv_iload_n hx hb dX10_hold_51 rfl (lv_at hl 4 rfl) ?_
      refine m_iast (w := (r 7)) hx hb hK hP hD hS 6 rfl (vp_in_iff.mpr ⟨by omega, by omega⟩) (va_up r 7 ((upd (r 7) v50.toNatClampNeg how))) rfl dX10_hold_52 (fun H locs hP hS => ?_)
      refine lv_iload hx hb dX10_hold_53 (lv_at hl 0 rfl) ?_
      exact W.iret (v := v38) hx hb hr (fun t ht hW => ⟨⟨_, ((upd f 0 (0 : Int32)), g, (va_up r 7 (((upd (r 7) v50.toNatClampNeg how)))), q), rfl, ⟨((upd (r 7) v50.toNatClampNeg how)), rfl, trivial⟩, by unfold mB; rw [ht]; exact hP⟩, hS.F ht⟩) hS.2.2 dX10_hold_55
    · skip
      have b23 := bo_f q20 c23
      refine lv_iconst (v := (-1)) hx hb dX10_hold_26 (by decide) ?_
      exact W.iret (v := ((-1) : Int32)) hx hb hr (fun t ht hW => ⟨⟨_, ((upd f 0 (0 : Int32)), g, (va_up r 7 (r 7)), q), rfl, ⟨(r 7), rfl, trivial⟩, by unfold mB; rw [ht]; exact hP⟩, hS.F ht⟩) hS.2.2 dX10_hold_27
set_option maxHeartbeats 4000000 in
set_option maxRecDepth 100000 in
theorem c_X10_mark (l : Launch) (D : va_G) (cy : Nat → ClassId) (mo : Nat) (a : Nat → Nat) (f : Nat → Int32) (g : Nat → Int64) (r : Nat → Nat → Int32) (q : Nat → Nat → Int64) (j : Int32) (s0 : Int32) (v0 : Int32) (hD : DM cy mo a) (hI : MI f r) : Mi l D cy mo a yX10_mark wsX10_mark ({ frames := 2, cells := 0, slots := 0, locals := 43 }) f g r q [.int j, .int s0, .int v0] (fun r0 u => ∃ (wt : Nat → Int32), u = ((upd f 0 (0 : Int32)), g, (va_up r 8 wt), q) ∧ (True)) := by
  refine Met.ofW (cc := cX10_mark) (maxL := 5) (ret := (some .int)) (by decide) rfl ?_
  intro p e s m args below meth c s₁ B hml hv
  obtain ⟨rfl, hP, hK⟩ := hv
  have hx := B.exec
  have hb := B.bytes
  have hr := B.returns
  have hts := atoms_spec (ws := wsX10_mark) B.pre
  have hin : ∀ w ∈ u_ws RX10 TX10 35, w ∈ wsX10_mark := by decide +kernel
  have hown : s.vm.findClass RX10 = some m.cls := findClass_of_methodNamed B.named
  have hlocks := B.notSynchronized
  have hS : va_S (AM mo a) s.heap s.heap [] := va_S.rf
  have hl := lv_entry ([.ref mo, .int j, .int s0, .int v0]) (n := 5) (Nat.le_of_ble_eq_true rfl)
  rw [lg_entry_eq]
  generalize (lg_sl ([.ref mo, .int j, .int s0, .int v0]) ++ List.replicate (5 - (lg_sl ([.ref mo, .int j, .int s0, .int v0])).length) Slot.unset).toArray = ls at hl ⊢
  have hl : lv_has ls 5 [(0, .ref mo), (1, .int j), (2, .int s0), (3, .int v0)] := hl
  have k_m4 : (-4 : Int32).toInt = -4 := by decide
  have k_m1 : (-1 : Int32).toInt = -1 := by decide
  have k_0 : (0 : Int32).toInt = 0 := by decide
  have k_1 : (1 : Int32).toInt = 1 := by decide
  have k_3 : (3 : Int32).toInt = 3 := by decide
  have k_36 : (36 : Int32).toInt = 36 := by decide
  have k_m99L : (-99 : Int64).toInt = -99 := by decide
  have k_99L : (99 : Int64).toInt = 99 := by decide
  have hI1 := hI.1
  refine lv_aload_n hx hb dX10_mark_0 rfl (lv_at hl 0 rfl) ?_
  refine lv_iconst (v := 0) hx hb dX10_mark_1 (by decide) ?_
  refine m_put (v := .int (0 : Int32)) (ty := .int) hx hb hts hin hown hK hP hD hS 0 (by decide) rfl (hts (.fieldLink RX10 79 "ShadowBenchModel" "thrown" "I") (by decide +kernel)) rfl (by decide +kernel) rfl rfl (upd f 0 (0 : Int32)) g rfl dX10_mark_2 (fun H locs hP hS => ?_)
  refine lv_aload_n hx hb dX10_mark_5 rfl (lv_at hl 0 rfl) ?_
  refine lv_iload_n hx hb dX10_mark_6 rfl (lv_at hl 1 rfl) ?_
  refine lv_iload_n hx hb dX10_mark_7 rfl (lv_at hl 2 rfl) ?_
  refine m_calli (As := [.int j, .int s0]) (rest := []) ⟨hx, hb, hml, hown, hts⟩ (c_X10_isSquare l D cy mo a (upd f 0 (0 : Int32)) g r q j s0 hD hI) (cwV 2 hts gX10_mark_X10_isSquare rfl rfl rfl (by decide +kernel) ⟨Nat.le_of_ble_eq_true rfl, Nat.le_of_ble_eq_true rfl⟩) hK hP rfl hl.1 rfl (Nat.le_of_ble_eq_true rfl) dX10_mark_8 ⟨Nat.le_of_ble_eq_true rfl, Nat.le_of_ble_eq_true rfl⟩ hS (fun r8 u H locs q8 hP hS => ?_)
  obtain ⟨rfl, q8⟩ := q8
  have hP : va_P D vwCl (WM cy mo a (upd f 0 (0 : Int32)) g r q) H := hP
  have q8 : Bo r8 ((0 ≤ j.toInt ∧ j.toInt < ((f 1)).toInt) ∧ 0 ≤ s0.toInt ∧ s0.toInt < ((r 3) j.toNatClampNeg).toInt * ((r 4) j.toNatClampNeg).toInt) := q8
  refine lv_if_eq (tgt := 28) hx hb dX10_mark_11 (by decide) (fun c11 => ?_) (fun c11 => ?_)
  · skip
    have b11 := bo_f q8 c11
    refine lv_iconst (v := (-1)) hx hb dX10_mark_28 (by decide) ?_
    exact W.iret (v := ((-1) : Int32)) hx hb hr (fun t ht hW => ⟨⟨_, ((upd f 0 (0 : Int32)), g, (va_up r 8 (r 8)), q), rfl, ⟨(r 8), rfl, trivial⟩, by unfold mB; rw [ht]; exact hP⟩, hS.F ht⟩) hS.2.2 dX10_mark_29
  · skip
    have b11 := bo_t q8 c11
    refine lv_iload_n hx hb dX10_mark_14 rfl (lv_at hl 3 rfl) ?_
    refine lv_i2l (v := v0.toInt64) hx hb dX10_mark_15 rfl ?_
    refine lv_ldc2 hx hb hown (hts (.constantLong RX10 139 (-99)) (by decide +kernel)) dX10_mark_16 ?_
    refine lv_ldc2 hx hb hown (hts (.constantLong RX10 141 (99)) (by decide +kernel)) dX10_mark_19 ?_
    refine m_pu (As := [.long (v0.toInt64), .long (-99 : Int64), .long (99 : Int64)]) (rest := []) ⟨hx, hb, hml, hown, hts⟩ (c_X10_isIn l v0.toInt64 (-99 : Int64) (99 : Int64) ) (va_cwS 3 hts gX10_mark_X10_isIn rfl rfl rfl (by decide +kernel) ⟨Nat.le_of_ble_eq_true rfl, Nat.le_of_ble_eq_true rfl⟩) hP rfl hl.1 rfl (Nat.le_of_ble_eq_true rfl) dX10_mark_22 ⟨Nat.le_of_ble_eq_true rfl, Nat.le_of_ble_eq_true rfl⟩ hS (fun r22 H locs q22 hP hS => ?_)
    have q22 := q22
    simp only [k64, show (0 : Int64).toInt = 0 from rfl, show (1 : Int64).toInt = 1 from rfl, show (2 : Int64).toInt = 2 from rfl, show (3 : Int64).toInt = 3 from rfl, show (6 : Int64).toInt = 6 from rfl] at q22
    refine lv_if_ne (tgt := 30) hx hb dX10_mark_25 (by decide) (fun c25 => ?_) (fun c25 => ?_)
    · skip
      have b25 := bo_t q22 c25
      have hsb := mul66 (mi_w hI (x := j) (by omega) (by omega) rfl) (mi_h hI (x := j) (by omega) (by omega) rfl)
      refine lv_aload_n hx hb dX10_mark_30 rfl (lv_at hl 0 rfl) ?_
      refine m_get (v := .ref (a 2)) hx hb hts hin hown hK hP 2 (by decide) rfl (hts (.fieldLink RX10 7 "ShadowBenchModel" "kind" "[I") (by decide +kernel)) rfl dX10_mark_31 ?_
      refine lv_iload_n hx hb dX10_mark_34 rfl (lv_at hl 1 rfl) ?_
      refine m_iald (w := (r 2)) hx hb hK hP 1 rfl (vp_in_iff.mpr ⟨by omega, by omega⟩) dX10_mark_35 ?_
      refine lv_topi (fun v35 e35 => ?_)
      have i35 : v35.toInt = ((r 2) j.toNatClampNeg).toInt := congrArg Int32.toInt e35
      refine lv_iconst (v := 3) hx hb dX10_mark_36 (by decide) ?_
      refine lv_icmp_eq (tgt := 43) hx hb dX10_mark_37 (by decide) (fun c37 => ?_) (fun c37 => ?_)
      · skip
        have d37 := c37
        rw [fa_eq] at d37
        refine lv_aload_n hx hb dX10_mark_43 rfl (lv_at hl 0 rfl) ?_
        refine m_get (v := .ref (a 8)) hx hb hts hin hown hK hP 8 (by decide) rfl (hts (.fieldLink RX10 29 "ShadowBenchModel" "weight" "[I") (by decide +kernel)) rfl dX10_mark_44 ?_
        refine lv_bipush (v := 36) hx hb dX10_mark_47 (by decide) ?_
        refine lv_iload_n hx hb dX10_mark_49 rfl (lv_at hl 1 rfl) ?_
        refine lv_imul hx hb dX10_mark_50 ?_
        refine lv_topi (fun v50 e50 => ?_)
        have i50 : v50.toInt = 36 * j.toInt := by rw [e50]; exact mulcL rfl (by omega) (by omega)
        refine lv_iload_n hx hb dX10_mark_51 rfl (lv_at hl 2 rfl) ?_
        refine lv_iadd hx hb dX10_mark_52 ?_
        refine lv_topi (fun v52 e52 => ?_)
        have i52 : v52.toInt = v50.toInt + s0.toInt := by rw [e52]; exact fb_addI (by omega) (by omega)
        refine m_iald (w := (r 8)) hx hb hK hP 7 rfl (vp_in_iff.mpr ⟨by omega, by omega⟩) dX10_mark_53 ?_
        refine lv_topi (fun v53 e53 => ?_)
        have i53 : v53.toInt = ((r 8) v52.toNatClampNeg).toInt := congrArg Int32.toInt e53
        refine lv_iload_n hx hb dX10_mark_54 rfl (lv_at hl 3 rfl) ?_
        refine lv_icmp_eq (tgt := 62) hx hb dX10_mark_55 (by decide) (fun c55 => ?_) (fun c55 => ?_)
        · skip
          have d55 := c55
          rw [fa_eq] at d55
          refine lv_iconst (v := 0) hx hb dX10_mark_62 (by decide) ?_
          refine lv_istore (lv' := [(4, .int (0 : Int32)), (0, .ref mo), (1, .int j), (2, .int s0), (3, .int v0)]) hx hb dX10_mark_63 hl (by decide) rfl (fun ls hl => ?_)
          refine lv_aload_n hx hb dX10_mark_65 rfl (lv_at hl 1 rfl) ?_
          refine m_get (v := .ref (a 8)) hx hb hts hin hown hK hP 8 (by decide) rfl (hts (.fieldLink RX10 29 "ShadowBenchModel" "weight" "[I") (by decide +kernel)) rfl dX10_mark_66 ?_
          refine lv_bipush (v := 36) hx hb dX10_mark_69 (by decide) ?_
          refine lv_iload_n hx hb dX10_mark_71 rfl (lv_at hl 2 rfl) ?_
          refine lv_imul hx hb dX10_mark_72 ?_
          refine lv_topi (fun v72 e72 => ?_)
          have i72 : v72.toInt = 36 * j.toInt := by rw [e72]; exact mulcL rfl (by omega) (by omega)
          refine lv_iload_n hx hb dX10_mark_73 rfl (lv_at hl 3 rfl) ?_
          refine lv_iadd hx hb dX10_mark_74 ?_
          refine lv_topi (fun v74 e74 => ?_)
          have i74 : v74.toInt = v72.toInt + s0.toInt := by rw [e74]; exact fb_addI (by omega) (by omega)
          refine lv_iload_n hx hb dX10_mark_75 rfl (lv_at hl 4 rfl) ?_
          refine m_iast (w := (r 8)) hx hb hK hP hD hS 7 rfl (vp_in_iff.mpr ⟨by omega, by omega⟩) (va_up r 8 ((upd (r 8) v74.toNatClampNeg v0))) rfl dX10_mark_76 (fun H locs hP hS => ?_)
          refine lv_iload hx hb dX10_mark_77 (lv_at hl 0 rfl) ?_
          refine lv_if_eq (tgt := 86) hx hb dX10_mark_79 (by decide) (fun c79 => ?_) (fun c79 => ?_)
          · skip
            have d79 := c79
            rw [fa_eq] at d79
            refine lv_iconst (v := 0) hx hb dX10_mark_86 (by decide) ?_
            exact W.iret (v := (0 : Int32)) hx hb hr (fun t ht hW => ⟨⟨_, ((upd f 0 (0 : Int32)), g, (va_up r 8 (((upd (r 8) v74.toNatClampNeg v0)))), q), rfl, ⟨((upd (r 8) v74.toNatClampNeg v0)), rfl, trivial⟩, by unfold mB; rw [ht]; exact hP⟩, hS.F ht⟩) hS.2.2 dX10_mark_87
          · first | exact absurd c79 (by decide) | exact absurd (by decide) c79
        · skip
          have d55 := c55
          rw [fa_eq] at d55
          refine lv_iconst (v := 1) hx hb dX10_mark_58 (by decide) ?_
          refine lv_goto (tgt := 63) hx hb dX10_mark_59 (by decide) ?_
          refine lv_istore (lv' := [(4, .int (1 : Int32)), (0, .ref mo), (1, .int j), (2, .int s0), (3, .int v0)]) hx hb dX10_mark_63 hl (by decide) rfl (fun ls hl => ?_)
          refine lv_aload_n hx hb dX10_mark_65 rfl (lv_at hl 1 rfl) ?_
          refine m_get (v := .ref (a 8)) hx hb hts hin hown hK hP 8 (by decide) rfl (hts (.fieldLink RX10 29 "ShadowBenchModel" "weight" "[I") (by decide +kernel)) rfl dX10_mark_66 ?_
          refine lv_bipush (v := 36) hx hb dX10_mark_69 (by decide) ?_
          refine lv_iload_n hx hb dX10_mark_71 rfl (lv_at hl 2 rfl) ?_
          refine lv_imul hx hb dX10_mark_72 ?_
          refine lv_topi (fun v72 e72 => ?_)
          have i72 : v72.toInt = 36 * j.toInt := by rw [e72]; exact mulcL rfl (by omega) (by omega)
          refine lv_iload_n hx hb dX10_mark_73 rfl (lv_at hl 3 rfl) ?_
          refine lv_iadd hx hb dX10_mark_74 ?_
          refine lv_topi (fun v74 e74 => ?_)
          have i74 : v74.toInt = v72.toInt + s0.toInt := by rw [e74]; exact fb_addI (by omega) (by omega)
          refine lv_iload_n hx hb dX10_mark_75 rfl (lv_at hl 4 rfl) ?_
          refine m_iast (w := (r 8)) hx hb hK hP hD hS 7 rfl (vp_in_iff.mpr ⟨by omega, by omega⟩) (va_up r 8 ((upd (r 8) v74.toNatClampNeg v0))) rfl dX10_mark_76 (fun H locs hP hS => ?_)
          refine lv_iload hx hb dX10_mark_77 (lv_at hl 0 rfl) ?_
          refine lv_if_eq (tgt := 86) hx hb dX10_mark_79 (by decide) (fun c79 => ?_) (fun c79 => ?_)
          · first | exact absurd c79 (by decide) | exact absurd (by decide) c79
          · skip
            have d79 := c79
            rw [fa_eq] at d79
            refine lv_iconst (v := 1) hx hb dX10_mark_82 (by decide) ?_
            refine lv_goto (tgt := 87) hx hb dX10_mark_83 (by decide) ?_
            exact W.iret (v := (1 : Int32)) hx hb hr (fun t ht hW => ⟨⟨_, ((upd f 0 (0 : Int32)), g, (va_up r 8 (((upd (r 8) v74.toNatClampNeg v0)))), q), rfl, ⟨((upd (r 8) v74.toNatClampNeg v0)), rfl, trivial⟩, by unfold mB; rw [ht]; exact hP⟩, hS.F ht⟩) hS.2.2 dX10_mark_87
      · skip
        have d37 := c37
        rw [fa_eq] at d37
        refine lv_bipush (v := (-4)) hx hb dX10_mark_40 (by decide) ?_
        exact W.iret (v := ((-4) : Int32)) hx hb hr (fun t ht hW => ⟨⟨_, ((upd f 0 (0 : Int32)), g, (va_up r 8 (r 8)), q), rfl, ⟨(r 8), rfl, trivial⟩, by unfold mB; rw [ht]; exact hP⟩, hS.F ht⟩) hS.2.2 dX10_mark_42
    · skip
      have b25 := bo_f q22 c25
      refine lv_iconst (v := (-1)) hx hb dX10_mark_28 (by decide) ?_
      exact W.iret (v := ((-1) : Int32)) hx hb hr (fun t ht hW => ⟨⟨_, ((upd f 0 (0 : Int32)), g, (va_up r 8 (r 8)), q), rfl, ⟨(r 8), rfl, trivial⟩, by unfold mB; rw [ht]; exact hP⟩, hS.F ht⟩) hS.2.2 dX10_mark_29
set_option maxHeartbeats 4000000 in
set_option maxRecDepth 100000 in
theorem c_X10_told (l : Launch) (D : va_G) (cy : Nat → ClassId) (mo : Nat) (a : Nat → Nat) (f : Nat → Int32) (g : Nat → Int64) (r : Nat → Nat → Int32) (q : Nat → Nat → Int64) (j : Int32) (way : Int32) (line : Int32) (hD : DM cy mo a) (hI : MI f r) : Mi l D cy mo a yX10_told wsX10_told ({ frames := 2, cells := 0, slots := 0, locals := 48 }) f g r q [.int j, .int way, .int line] (fun r0 u => u = ((upd f 0 (0 : Int32)), g, r, q) ∧ (True)) := by
  refine Met.ofW (cc := cX10_told) (maxL := 4) (ret := (some .int)) (by decide) rfl ?_
  intro p e s m args below meth c s₁ B hml hv
  obtain ⟨rfl, hP, hK⟩ := hv
  have hx := B.exec
  have hb := B.bytes
  have hr := B.returns
  have hts := atoms_spec (ws := wsX10_told) B.pre
  have hin : ∀ w ∈ u_ws RX10 TX10 35, w ∈ wsX10_told := by decide +kernel
  have hown : s.vm.findClass RX10 = some m.cls := findClass_of_methodNamed B.named
  have hlocks := B.notSynchronized
  have hS : va_S (AM mo a) s.heap s.heap [] := va_S.rf
  have hl := lv_entry ([.ref mo, .int j, .int way, .int line]) (n := 4) (Nat.le_of_ble_eq_true rfl)
  rw [lg_entry_eq]
  generalize (lg_sl ([.ref mo, .int j, .int way, .int line]) ++ List.replicate (4 - (lg_sl ([.ref mo, .int j, .int way, .int line])).length) Slot.unset).toArray = ls at hl ⊢
  have hl : lv_has ls 4 [(0, .ref mo), (1, .int j), (2, .int way), (3, .int line)] := hl
  have k_m2 : (-2 : Int32).toInt = -2 := by decide
  have k_m1 : (-1 : Int32).toInt = -1 := by decide
  have k_0 : (0 : Int32).toInt = 0 := by decide
  have k_4 : (4 : Int32).toInt = 4 := by decide
  have k_11 : (11 : Int32).toInt = 11 := by decide
  have k_44 : (44 : Int32).toInt = 44 := by decide
  have hI1 := hI.1
  refine lv_aload_n hx hb dX10_told_0 rfl (lv_at hl 0 rfl) ?_
  refine lv_iconst (v := 0) hx hb dX10_told_1 (by decide) ?_
  refine m_put (v := .int (0 : Int32)) (ty := .int) hx hb hts hin hown hK hP hD hS 0 (by decide) rfl (hts (.fieldLink RX10 79 "ShadowBenchModel" "thrown" "I") (by decide +kernel)) rfl (by decide +kernel) rfl rfl (upd f 0 (0 : Int32)) g rfl dX10_told_2 (fun H locs hP hS => ?_)
  refine lv_aload_n hx hb dX10_told_5 rfl (lv_at hl 0 rfl) ?_
  refine lv_iload_n hx hb dX10_told_6 rfl (lv_at hl 1 rfl) ?_
  refine lv_iload_n hx hb dX10_told_7 rfl (lv_at hl 2 rfl) ?_
  refine lv_iload_n hx hb dX10_told_8 rfl (lv_at hl 3 rfl) ?_
  refine lv_iconst (v := (-1)) hx hb dX10_told_9 (by decide) ?_
  refine lv_icmp_ne (tgt := 17) hx hb dX10_told_10 (by decide) (fun c10 => ?_) (fun c10 => ?_)
  · skip
    have d10 := c10
    rw [fa_eq] at d10
    refine lv_iload_n hx hb dX10_told_17 rfl (lv_at hl 3 rfl) ?_
    refine m_calli (As := [.int j, .int way, .int line]) (rest := []) ⟨hx, hb, hml, hown, hts⟩ (c_X10_isLine l D cy mo a (upd f 0 (0 : Int32)) g r q j way line hD hI) (cwV 3 hts gX10_told_X10_isLine rfl rfl rfl (by decide +kernel) ⟨Nat.le_of_ble_eq_true rfl, Nat.le_of_ble_eq_true rfl⟩) hK hP rfl hl.1 rfl (Nat.le_of_ble_eq_true rfl) dX10_told_18 ⟨Nat.le_of_ble_eq_true rfl, Nat.le_of_ble_eq_true rfl⟩ hS (fun r18 u H locs q18 hP hS => ?_)
    obtain ⟨rfl, q18⟩ := q18
    have hP : va_P D vwCl (WM cy mo a (upd f 0 (0 : Int32)) g r q) H := hP
    have q18 : Bo r18 (((0 ≤ j.toInt ∧ j.toInt < ((f 1)).toInt) ∧ 0 ≤ way.toInt ∧ way.toInt ≤ 3) ∧ 0 ≤ line.toInt ∧ line.toInt < (r_lines ((r 3) j.toNatClampNeg) ((r 4) j.toNatClampNeg) way).toInt) := q18
    refine lv_if_ne (tgt := 26) hx hb dX10_told_21 (by decide) (fun c21 => ?_) (fun c21 => ?_)
    · skip
      have b21 := bo_t q18 c21
      refine lv_iload_n hx hb dX10_told_26 rfl (lv_at hl 3 rfl) ?_
      refine lv_iconst (v := (-1)) hx hb dX10_told_27 (by decide) ?_
      refine lv_icmp_ne (tgt := 48) hx hb dX10_told_28 (by decide) (fun c28 => ?_) (fun c28 => ?_)
      · skip
        have d28 := c28
        rw [fa_eq] at d28
        have hlb := lines_lt (mi_w hI (x := j) (by omega) (by omega) rfl) (mi_h hI (x := j) (by omega) (by omega) rfl) way
        refine lv_aload_n hx hb dX10_told_48 rfl (lv_at hl 0 rfl) ?_
        refine m_get (v := .ref (a 6)) hx hb hts hin hown hK hP 6 (by decide) rfl (hts (.fieldLink RX10 22 "ShadowBenchModel" "isTold" "[Z") (by decide +kernel)) rfl dX10_told_49 ?_
        refine lv_iconst (v := 4) hx hb dX10_told_52 (by decide) ?_
        refine lv_iload_n hx hb dX10_told_53 rfl (lv_at hl 1 rfl) ?_
        refine lv_imul hx hb dX10_told_54 ?_
        refine lv_topi (fun v54 e54 => ?_)
        have i54 : v54.toInt = 4 * j.toInt := by rw [e54]; exact mulcL rfl (by omega) (by omega)
        refine lv_iload_n hx hb dX10_told_55 rfl (lv_at hl 2 rfl) ?_
        refine lv_iadd hx hb dX10_told_56 ?_
        refine lv_topi (fun v56 e56 => ?_)
        have i56 : v56.toInt = v54.toInt + way.toInt := by rw [e56]; exact fb_addI (by omega) (by omega)
        refine m_zald (w := (r 6)) hx hb hK hP 5 rfl (vp_in_iff.mpr ⟨by omega, by omega⟩) dX10_told_57 ?_
        refine lv_topi (fun v57 e57 => ?_)
        have i57 : v57.toInt = ((r 6) v56.toNatClampNeg).toInt := congrArg Int32.toInt e57
        refine lv_if_eq (tgt := 80) hx hb dX10_told_58 (by decide) (fun c58 => ?_) (fun c58 => ?_)
        · skip
          have d58 := c58
          rw [fa_eq] at d58
          refine lv_bipush (v := (-2)) hx hb dX10_told_80 (by decide) ?_
          exact W.iret (v := ((-2) : Int32)) hx hb hr (fun t ht hW => ⟨⟨_, ((upd f 0 (0 : Int32)), g, r, q), rfl, ⟨rfl, trivial⟩, by unfold mB; rw [ht]; exact hP⟩, hS.F ht⟩) hS.2.2 dX10_told_82
        · skip
          have d58 := c58
          rw [fa_eq] at d58
          refine lv_aload_n hx hb dX10_told_61 rfl (lv_at hl 0 rfl) ?_
          refine m_get (v := .ref (a 5)) hx hb hts hin hown hK hP 5 (by decide) rfl (hts (.fieldLink RX10 19 "ShadowBenchModel" "sums" "[I") (by decide +kernel)) rfl dX10_told_62 ?_
          refine lv_bipush (v := 44) hx hb dX10_told_65 (by decide) ?_
          refine lv_iload_n hx hb dX10_told_67 rfl (lv_at hl 1 rfl) ?_
          refine lv_imul hx hb dX10_told_68 ?_
          refine lv_topi (fun v68 e68 => ?_)
          have i68 : v68.toInt = 44 * j.toInt := by rw [e68]; exact mulcL rfl (by omega) (by omega)
          refine lv_bipush (v := 11) hx hb dX10_told_69 (by decide) ?_
          refine lv_iload_n hx hb dX10_told_71 rfl (lv_at hl 2 rfl) ?_
          refine lv_imul hx hb dX10_told_72 ?_
          refine lv_topi (fun v72 e72 => ?_)
          have i72 : v72.toInt = 11 * way.toInt := by rw [e72]; exact mulcL rfl (by omega) (by omega)
          refine lv_iadd hx hb dX10_told_73 ?_
          refine lv_topi (fun v73 e73 => ?_)
          have i73 : v73.toInt = v68.toInt + v72.toInt := by rw [e73]; exact fb_addI (by omega) (by omega)
          refine lv_iload_n hx hb dX10_told_74 rfl (lv_at hl 3 rfl) ?_
          refine lv_iadd hx hb dX10_told_75 ?_
          refine lv_topi (fun v75 e75 => ?_)
          have i75 : v75.toInt = v73.toInt + line.toInt := by rw [e75]; exact fb_addI (by omega) (by omega)
          refine m_iald (w := (r 5)) hx hb hK hP 4 rfl (vp_in_iff.mpr ⟨by omega, by omega⟩) dX10_told_76 ?_
          refine lv_topi (fun v76 e76 => ?_)
          have i76 : v76.toInt = ((r 5) v75.toNatClampNeg).toInt := congrArg Int32.toInt e76
          refine lv_goto (tgt := 82) hx hb dX10_told_77 (by decide) ?_
          exact W.iret (v := v76) hx hb hr (fun t ht hW => ⟨⟨_, ((upd f 0 (0 : Int32)), g, r, q), rfl, ⟨rfl, trivial⟩, by unfold mB; rw [ht]; exact hP⟩, hS.F ht⟩) hS.2.2 dX10_told_82
      · first | exact absurd c28 c10 | exact absurd c10 c28
    · skip
      have b21 := bo_f q18 c21
      refine lv_iconst (v := (-1)) hx hb dX10_told_24 (by decide) ?_
      exact W.iret (v := ((-1) : Int32)) hx hb hr (fun t ht hW => ⟨⟨_, ((upd f 0 (0 : Int32)), g, r, q), rfl, ⟨rfl, trivial⟩, by unfold mB; rw [ht]; exact hP⟩, hS.F ht⟩) hS.2.2 dX10_told_25
  · skip
    have d10 := c10
    rw [fa_eq] at d10
    refine lv_iconst (v := 0) hx hb dX10_told_13 (by decide) ?_
    refine lv_goto (tgt := 18) hx hb dX10_told_14 (by decide) ?_
    refine m_calli (As := [.int j, .int way, .int (0 : Int32)]) (rest := []) ⟨hx, hb, hml, hown, hts⟩ (c_X10_isLine l D cy mo a (upd f 0 (0 : Int32)) g r q j way (0 : Int32) hD hI) (cwV 3 hts gX10_told_X10_isLine rfl rfl rfl (by decide +kernel) ⟨Nat.le_of_ble_eq_true rfl, Nat.le_of_ble_eq_true rfl⟩) hK hP rfl hl.1 rfl (Nat.le_of_ble_eq_true rfl) dX10_told_18 ⟨Nat.le_of_ble_eq_true rfl, Nat.le_of_ble_eq_true rfl⟩ hS (fun r18 u H locs q18 hP hS => ?_)
    obtain ⟨rfl, q18⟩ := q18
    have hP : va_P D vwCl (WM cy mo a (upd f 0 (0 : Int32)) g r q) H := hP
    have q18 : Bo r18 (((0 ≤ j.toInt ∧ j.toInt < ((f 1)).toInt) ∧ 0 ≤ way.toInt ∧ way.toInt ≤ 3) ∧ 0 ≤ (0 : Int32).toInt ∧ (0 : Int32).toInt < (r_lines ((r 3) j.toNatClampNeg) ((r 4) j.toNatClampNeg) way).toInt) := q18
    refine lv_if_ne (tgt := 26) hx hb dX10_told_21 (by decide) (fun c21 => ?_) (fun c21 => ?_)
    · skip
      have b21 := bo_t q18 c21
      refine lv_iload_n hx hb dX10_told_26 rfl (lv_at hl 3 rfl) ?_
      refine lv_iconst (v := (-1)) hx hb dX10_told_27 (by decide) ?_
      refine lv_icmp_ne (tgt := 48) hx hb dX10_told_28 (by decide) (fun c28 => ?_) (fun c28 => ?_)
      · first | exact absurd c28 c10 | exact absurd c10 c28
      · skip
        have d28 := c28
        rw [fa_eq] at d28
        refine lv_aload_n hx hb dX10_told_31 rfl (lv_at hl 0 rfl) ?_
        refine m_get (v := .ref (a 3)) hx hb hts hin hown hK hP 3 (by decide) rfl (hts (.fieldLink RX10 13 "ShadowBenchModel" "wide" "[I") (by decide +kernel)) rfl dX10_told_32 ?_
        refine lv_iload_n hx hb dX10_told_35 rfl (lv_at hl 1 rfl) ?_
        refine m_iald (w := (r 3)) hx hb hK hP 2 rfl (vp_in_iff.mpr ⟨by omega, by omega⟩) dX10_told_36 ?_
        refine lv_topi (fun v36 e36 => ?_)
        have i36 : v36.toInt = ((r 3) j.toNatClampNeg).toInt := congrArg Int32.toInt e36
        have w36 := mi_w hI (x := j) (by omega) (by omega) e36
        refine lv_aload_n hx hb dX10_told_37 rfl (lv_at hl 0 rfl) ?_
        refine m_get (v := .ref (a 4)) hx hb hts hin hown hK hP 4 (by decide) rfl (hts (.fieldLink RX10 16 "ShadowBenchModel" "high" "[I") (by decide +kernel)) rfl dX10_told_38 ?_
        refine lv_iload_n hx hb dX10_told_41 rfl (lv_at hl 1 rfl) ?_
        refine m_iald (w := (r 4)) hx hb hK hP 3 rfl (vp_in_iff.mpr ⟨by omega, by omega⟩) dX10_told_42 ?_
        refine lv_topi (fun v42 e42 => ?_)
        have i42 : v42.toInt = ((r 4) j.toNatClampNeg).toInt := congrArg Int32.toInt e42
        have w42 := mi_h hI (x := j) (by omega) (by omega) e42
        refine lv_iload_n hx hb dX10_told_43 rfl (lv_at hl 2 rfl) ?_
        refine m_pu (As := [.int v36, .int v42, .int way]) (rest := []) ⟨hx, hb, hml, hown, hts⟩ (c_X10_linesOf l v36 v42 way ) (va_cwS 3 hts gX10_told_X10_linesOf rfl rfl rfl (by decide +kernel) ⟨Nat.le_of_ble_eq_true rfl, Nat.le_of_ble_eq_true rfl⟩) hP rfl hl.1 rfl (Nat.le_of_ble_eq_true rfl) dX10_told_44 ⟨Nat.le_of_ble_eq_true rfl, Nat.le_of_ble_eq_true rfl⟩ hS (fun r44 H locs q44 hP hS => ?_)
        have i44 : r44.toInt = (r_lines v36 v42 way).toInt := congrArg Int32.toInt q44
        exact W.iret (v := r44) hx hb hr (fun t ht hW => ⟨⟨_, ((upd f 0 (0 : Int32)), g, r, q), rfl, ⟨rfl, trivial⟩, by unfold mB; rw [ht]; exact hP⟩, hS.F ht⟩) hS.2.2 dX10_told_47
    · skip
      have b21 := bo_f q18 c21
      refine lv_iconst (v := (-1)) hx hb dX10_told_24 (by decide) ?_
      exact W.iret (v := ((-1) : Int32)) hx hb hr (fun t ht hW => ⟨⟨_, ((upd f 0 (0 : Int32)), g, r, q), rfl, ⟨rfl, trivial⟩, by unfold mB; rw [ht]; exact hP⟩, hS.F ht⟩) hS.2.2 dX10_told_25
