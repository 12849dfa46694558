
/-- what holds of the reference's state between calls -/
def MI (f : Nat → Int32) (r : Nat → Nat → Int32) : Prop :=
  (0 ≤ (f 1).toInt ∧ (f 1).toInt ≤ 8) ∧
  (∀ x : Int32, 0 ≤ x.toInt → x.toInt < (f 1).toInt → (1 ≤ (r 3 x.toNatClampNeg).toInt ∧ (r 3 x.toNatClampNeg).toInt ≤ 6) ∧ (1 ≤ (r 4 x.toNatClampNeg).toInt ∧ (r 4 x.toNatClampNeg).toInt ≤ 6) ∧ (0 ≤ (r 2 x.toNatClampNeg).toInt ∧ (r 2 x.toNatClampNeg).toInt ≤ 3)) ∧
  (0 ≤ (f 23).toInt ∧ (f 23).toInt ≤ 12) ∧ (0 < (f 23).toInt → (1 ≤ (f 24).toInt ∧ (f 24).toInt ≤ 6) ∧ (1 ≤ (f 25).toInt ∧ (f 25).toInt ≤ 6)) ∧
  (∀ x : Int32, 0 ≤ x.toInt → x.toInt < 8 → 0 ≤ (r 30 x.toNatClampNeg).toInt ∧ (r 30 x.toNatClampNeg).toInt ≤ 60)
theorem mi_w {f : Nat → Int32} {r : Nat → Nat → Int32} (h : MI f r) {x v : Int32} (h0 : 0 ≤ x.toInt) (h1 : x.toInt < (f 1).toInt) (e : v = r 3 x.toNatClampNeg) : 1 ≤ v.toInt ∧ v.toInt ≤ 6 := by rw [e]; exact (h.2.1 x h0 h1).1
theorem mi_h {f : Nat → Int32} {r : Nat → Nat → Int32} (h : MI f r) {x v : Int32} (h0 : 0 ≤ x.toInt) (h1 : x.toInt < (f 1).toInt) (e : v = r 4 x.toNatClampNeg) : 1 ≤ v.toInt ∧ v.toInt ≤ 6 := by rw [e]; exact (h.2.1 x h0 h1).2.1
set_option maxHeartbeats 4000000 in
set_option maxRecDepth 100000 in
theorem c_X10_isJob (l : Launch) (D : va_G) (cy : Nat → ClassId) (mo : Nat) (a : Nat → Nat) (f : Nat → Int32) (g : Nat → Int64) (r : Nat → Nat → Int32) (q : Nat → Nat → Int64) (j : Int32) (hD : DM cy mo a)  : Mi l D cy mo a yX10_isJob wsX10_isJob ({ frames := 0, cells := 0, slots := 0, locals := 0 }) f g r q [.int j] (fun r0 u => u = (f, g, r, q) ∧ Bo r0 (0 ≤ j.toInt ∧ j.toInt < (f 1).toInt)) := by
  refine Met.ofW (cc := cX10_isJob) (maxL := 2) (ret := (some .boolean)) (by decide) rfl ?_
  intro p e s m args below meth c s₁ B hml hv
  obtain ⟨rfl, hP, hK⟩ := hv
  have hx := B.exec
  have hb := B.bytes
  have hr := B.returns
  have hts := atoms_spec (ws := wsX10_isJob) B.pre
  have hin : ∀ w ∈ u_ws RX10 TX10 35, w ∈ wsX10_isJob := by decide +kernel
  have hown : s.vm.findClass RX10 = some m.cls := findClass_of_methodNamed B.named
  have hlocks := B.notSynchronized
  have hS : va_S (AM mo a) s.heap s.heap [] := va_S.rf
  have hl := lv_entry ([.ref mo, .int j]) (n := 2) (Nat.le_of_ble_eq_true rfl)
  rw [lg_entry_eq]
  generalize (lg_sl ([.ref mo, .int j]) ++ List.replicate (2 - (lg_sl ([.ref mo, .int j])).length) Slot.unset).toArray = ls at hl ⊢
  have hl : lv_has ls 2 [(0, .ref mo), (1, .int j)] := hl
  have k_0 : (0 : Int32).toInt = 0 := rfl
  have k_1 : (1 : Int32).toInt = 1 := rfl
  refine lv_iload_n hx hb dX10_isJob_0 rfl (lv_at hl 1 rfl) ?_
  refine lv_if_lt (tgt := 16) hx hb dX10_isJob_1 (by decide) (fun c1 => ?_) (fun c1 => ?_)
  · skip
    have d1 := c1
    rw [fa_lt] at d1
    refine lv_iconst (v := 0) hx hb dX10_isJob_16 (by decide) ?_
    exact W.zret (v := (0 : Int32)) hx hb hr (by decide) (fun t ht hW => ⟨⟨_, (f, g, r, q), rfl, ⟨rfl, Or.inr ⟨rfl, by omega⟩⟩, by unfold mB; rw [ht]; exact hP⟩, hS.F ht⟩) hS.2.2 dX10_isJob_17
  · skip
    have d1 := c1
    rw [fa_lt] at d1
    refine lv_iload_n hx hb dX10_isJob_4 rfl (lv_at hl 1 rfl) ?_
    refine lv_aload_n hx hb dX10_isJob_5 rfl (lv_at hl 0 rfl) ?_
    refine m_get (v := .int (f 1)) hx hb hts hin hown hK hP 1 (by decide) rfl (hts (.fieldLink RX10 93 "ShadowBenchModel" "jobs" "I") (by decide +kernel)) rfl dX10_isJob_6 ?_
    refine lv_icmp_ge (tgt := 16) hx hb dX10_isJob_9 (by decide) (fun c9 => ?_) (fun c9 => ?_)
    · skip
      have d9 := c9
      rw [fa_le] at d9
      refine lv_iconst (v := 0) hx hb dX10_isJob_16 (by decide) ?_
      exact W.zret (v := (0 : Int32)) hx hb hr (by decide) (fun t ht hW => ⟨⟨_, (f, g, r, q), rfl, ⟨rfl, Or.inr ⟨rfl, by omega⟩⟩, by unfold mB; rw [ht]; exact hP⟩, hS.F ht⟩) hS.2.2 dX10_isJob_17
    · skip
      have d9 := c9
      rw [fa_le] at d9
      refine lv_iconst (v := 1) hx hb dX10_isJob_12 (by decide) ?_
      refine lv_goto (tgt := 17) hx hb dX10_isJob_13 (by decide) ?_
      exact W.zret (v := (1 : Int32)) hx hb hr (by decide) (fun t ht hW => ⟨⟨_, (f, g, r, q), rfl, ⟨rfl, Or.inl ⟨rfl, by omega⟩⟩, by unfold mB; rw [ht]; exact hP⟩, hS.F ht⟩) hS.2.2 dX10_isJob_17
set_option maxHeartbeats 4000000 in
set_option maxRecDepth 100000 in
theorem c_X10_isSquare (l : Launch) (D : va_G) (cy : Nat → ClassId) (mo : Nat) (a : Nat → Nat) (f : Nat → Int32) (g : Nat → Int64) (r : Nat → Nat → Int32) (q : Nat → Nat → Int64) (j : Int32) (s0 : Int32) (hD : DM cy mo a) (hI : MI f r) : Mi l D cy mo a yX10_isSquare wsX10_isSquare ({ frames := 1, cells := 0, slots := 0, locals := 21 }) f g r q [.int j, .int s0] (fun r0 u => u = (f, g, r, q) ∧ Bo r0 ((0 ≤ j.toInt ∧ j.toInt < (f 1).toInt) ∧ 0 ≤ s0.toInt ∧ s0.toInt < (r 3 j.toNatClampNeg).toInt * (r 4 j.toNatClampNeg).toInt)) := by
  refine Met.ofW (cc := cX10_isSquare) (maxL := 3) (ret := (some .boolean)) (by decide) rfl ?_
  intro p e s m args below meth c s₁ B hml hv
  obtain ⟨rfl, hP, hK⟩ := hv
  have hx := B.exec
  have hb := B.bytes
  have hr := B.returns
  have hts := atoms_spec (ws := wsX10_isSquare) B.pre
  have hin : ∀ w ∈ u_ws RX10 TX10 35, w ∈ wsX10_isSquare := by decide +kernel
  have hown : s.vm.findClass RX10 = some m.cls := findClass_of_methodNamed B.named
  have hlocks := B.notSynchronized
  have hS : va_S (AM mo a) s.heap s.heap [] := va_S.rf
  have hl := lv_entry ([.ref mo, .int j, .int s0]) (n := 3) (Nat.le_of_ble_eq_true rfl)
  rw [lg_entry_eq]
  generalize (lg_sl ([.ref mo, .int j, .int s0]) ++ List.replicate (3 - (lg_sl ([.ref mo, .int j, .int s0])).length) Slot.unset).toArray = ls at hl ⊢
  have hl : lv_has ls 3 [(0, .ref mo), (1, .int j), (2, .int s0)] := hl
  have k_0 : (0 : Int32).toInt = 0 := rfl
  have k_1 : (1 : Int32).toInt = 1 := rfl
  have hI1 := hI.1
  refine lv_aload_n hx hb dX10_isSquare_0 rfl (lv_at hl 0 rfl) ?_
  refine lv_iload_n hx hb dX10_isSquare_1 rfl (lv_at hl 1 rfl) ?_
  refine m_calli (As := [.int j]) (rest := []) ⟨hx, hb, hml, hown, hts⟩ (c_X10_isJob l D cy mo a f g r q j hD) (cwV 1 hts gX10_isSquare_X10_isJob rfl rfl rfl (by decide +kernel) ⟨Nat.le_of_ble_eq_true rfl, Nat.le_of_ble_eq_true rfl⟩) hK hP rfl hl.1 rfl (Nat.le_of_ble_eq_true rfl) dX10_isSquare_2 ⟨Nat.le_of_ble_eq_true rfl, Nat.le_of_ble_eq_true rfl⟩ hS (fun r2 u H locs q2 hP hS => ?_)
  obtain ⟨rfl, q2⟩ := q2
  have hP : va_P D vwCl (WM cy mo a f g r q) H := hP
  refine lv_if_eq (tgt := 33) hx hb dX10_isSquare_5 (by decide) (fun c5 => ?_) (fun c5 => ?_)
  · skip
    have b5 := bo_f q2 c5
    refine lv_iconst (v := 0) hx hb dX10_isSquare_33 (by decide) ?_
    exact W.zret (v := (0 : Int32)) hx hb hr (by decide) (fun t ht hW => ⟨⟨_, (f, g, r, q), rfl, ⟨rfl, Or.inr ⟨rfl, by first | omega | (subst e18; subst e24; omega)⟩⟩, by unfold mB; rw [ht]; exact hP⟩, hS.F ht⟩) hS.2.2 dX10_isSquare_34
  · skip
    have b5 := bo_t q2 c5
    refine lv_iload_n hx hb dX10_isSquare_8 rfl (lv_at hl 2 rfl) ?_
    refine lv_if_lt (tgt := 33) hx hb dX10_isSquare_9 (by decide) (fun c9 => ?_) (fun c9 => ?_)
    · skip
      have d9 := c9
      rw [fa_lt] at d9
      refine lv_iconst (v := 0) hx hb dX10_isSquare_33 (by decide) ?_
      exact W.zret (v := (0 : Int32)) hx hb hr (by decide) (fun t ht hW => ⟨⟨_, (f, g, r, q), rfl, ⟨rfl, Or.inr ⟨rfl, by first | omega | (subst e18; subst e24; omega)⟩⟩, by unfold mB; rw [ht]; exact hP⟩, hS.F ht⟩) hS.2.2 dX10_isSquare_34
    · skip
      have d9 := c9
      rw [fa_lt] at d9
      refine lv_iload_n hx hb dX10_isSquare_12 rfl (lv_at hl 2 rfl) ?_
      refine lv_aload_n hx hb dX10_isSquare_13 rfl (lv_at hl 0 rfl) ?_
      refine m_get (v := .ref (a 3)) hx hb hts hin hown hK hP 3 (by decide) rfl (hts (.fieldLink RX10 13 "ShadowBenchModel" "wide" "[I") (by decide +kernel)) rfl dX10_isSquare_14 ?_
      refine lv_iload_n hx hb dX10_isSquare_17 rfl (lv_at hl 1 rfl) ?_
      refine m_iald (w := (r 3)) hx hb hK hP 2 rfl (vp_in_iff.mpr ⟨by omega, by omega⟩) dX10_isSquare_18 ?_
      refine lv_topi (fun v18 e18 => ?_)
      have w18 := mi_w hI (x := j) (by omega) (by omega) e18
      refine lv_aload_n hx hb dX10_isSquare_19 rfl (lv_at hl 0 rfl) ?_
      refine m_get (v := .ref (a 4)) hx hb hts hin hown hK hP 4 (by decide) rfl (hts (.fieldLink RX10 16 "ShadowBenchModel" "high" "[I") (by decide +kernel)) rfl dX10_isSquare_20 ?_
      refine lv_iload_n hx hb dX10_isSquare_23 rfl (lv_at hl 1 rfl) ?_
      refine m_iald (w := (r 4)) hx hb hK hP 3 rfl (vp_in_iff.mpr ⟨by omega, by omega⟩) dX10_isSquare_24 ?_
      refine lv_topi (fun v24 e24 => ?_)
      have w24 := mi_h hI (x := j) (by omega) (by omega) e24
      have m25 := mul66 w18 w24
      refine lv_imul hx hb dX10_isSquare_25 ?_
      refine lv_topi (fun v25 e25 => ?_)
      have i25 : v25.toInt = v18.toInt * v24.toInt := by rw [e25]; exact fb_mulI (by omega) (by omega)
      refine lv_icmp_ge (tgt := 33) hx hb dX10_isSquare_26 (by decide) (fun c26 => ?_) (fun c26 => ?_)
      · skip
        have d26 := c26
        rw [fa_le] at d26
        refine lv_iconst (v := 0) hx hb dX10_isSquare_33 (by decide) ?_
        exact W.zret (v := (0 : Int32)) hx hb hr (by decide) (fun t ht hW => ⟨⟨_, (f, g, r, q), rfl, ⟨rfl, Or.inr ⟨rfl, by first | omega | (subst e18; subst e24; omega)⟩⟩, by unfold mB; rw [ht]; exact hP⟩, hS.F ht⟩) hS.2.2 dX10_isSquare_34
      · skip
        have d26 := c26
        rw [fa_le] at d26
        refine lv_iconst (v := 1) hx hb dX10_isSquare_29 (by decide) ?_
        refine lv_goto (tgt := 34) hx hb dX10_isSquare_30 (by decide) ?_
        exact W.zret (v := (1 : Int32)) hx hb hr (by decide) (fun t ht hW => ⟨⟨_, (f, g, r, q), rfl, ⟨rfl, Or.inl ⟨rfl, by subst e18; subst e24; omega⟩⟩, by unfold mB; rw [ht]; exact hP⟩, hS.F ht⟩) hS.2.2 dX10_isSquare_34
set_option maxHeartbeats 4000000 in
set_option maxRecDepth 100000 in
theorem c_X10_isLine (l : Launch) (D : va_G) (cy : Nat → ClassId) (mo : Nat) (a : Nat → Nat) (f : Nat → Int32) (g : Nat → Int64) (r : Nat → Nat → Int32) (q : Nat → Nat → Int64) (j : Int32) (way : Int32) (line : Int32) (hD : DM cy mo a) (hI : MI f r) : Mi l D cy mo a yX10_isLine wsX10_isLine ({ frames := 1, cells := 0, slots := 0, locals := 25 }) f g r q [.int j, .int way, .int line] (fun r0 u => u = (f, g, r, q) ∧ Bo r0 (((0 ≤ j.toInt ∧ j.toInt < (f 1).toInt) ∧ 0 ≤ way.toInt ∧ way.toInt ≤ 3) ∧ 0 ≤ line.toInt ∧ line.toInt < (r_lines (r 3 j.toNatClampNeg) (r 4 j.toNatClampNeg) way).toInt)) := by
  refine Met.ofW (cc := cX10_isLine) (maxL := 4) (ret := (some .boolean)) (by decide) rfl ?_
  intro p e s m args below meth c s₁ B hml hv
  obtain ⟨rfl, hP, hK⟩ := hv
  have hx := B.exec
  have hb := B.bytes
  have hr := B.returns
  have hts := atoms_spec (ws := wsX10_isLine) B.pre
  have hin : ∀ w ∈ u_ws RX10 TX10 35, w ∈ wsX10_isLine := by decide +kernel
  have hown : s.vm.findClass RX10 = some m.cls := findClass_of_methodNamed B.named
  have hlocks := B.notSynchronized
  have hS : va_S (AM mo a) s.heap s.heap [] := va_S.rf
  have hl := lv_entry ([.ref mo, .int j, .int way, .int line]) (n := 4) (Nat.le_of_ble_eq_true rfl)
  rw [lg_entry_eq]
  generalize (lg_sl ([.ref mo, .int j, .int way, .int line]) ++ List.replicate (4 - (lg_sl ([.ref mo, .int j, .int way, .int line])).length) Slot.unset).toArray = ls at hl ⊢
  have hl : lv_has ls 4 [(0, .ref mo), (1, .int j), (2, .int way), (3, .int line)] := hl
  have k_0 : (0 : Int32).toInt = 0 := rfl
  have k_1 : (1 : Int32).toInt = 1 := rfl
  have k_0L : (0 : Int64).toInt = 0 := rfl
  have k_3L : (3 : Int64).toInt = 3 := rfl
  have hI1 := hI.1
  refine lv_aload_n hx hb dX10_isLine_0 rfl (lv_at hl 0 rfl) ?_
  refine lv_iload_n hx hb dX10_isLine_1 rfl (lv_at hl 1 rfl) ?_
  refine m_calli (As := [.int j]) (rest := []) ⟨hx, hb, hml, hown, hts⟩ (c_X10_isJob l D cy mo a f g r q j hD) (cwV 1 hts gX10_isLine_X10_isJob rfl rfl rfl (by decide +kernel) ⟨Nat.le_of_ble_eq_true rfl, Nat.le_of_ble_eq_true rfl⟩) hK hP rfl hl.1 rfl (Nat.le_of_ble_eq_true rfl) dX10_isLine_2 ⟨Nat.le_of_ble_eq_true rfl, Nat.le_of_ble_eq_true rfl⟩ hS (fun r2 u H locs q2 hP hS => ?_)
  obtain ⟨rfl, q2⟩ := q2
  have hP : va_P D vwCl (WM cy mo a f g r q) H := hP
  refine lv_if_eq (tgt := 48) hx hb dX10_isLine_5 (by decide) (fun c5 => ?_) (fun c5 => ?_)
  · skip
    have b5 := bo_f q2 c5
    refine lv_iconst (v := 0) hx hb dX10_isLine_48 (by decide) ?_
    exact W.zret (v := (0 : Int32)) hx hb hr (by decide) (fun t ht hW => ⟨⟨_, (f, g, r, q), rfl, ⟨rfl, Or.inr ⟨rfl, by first | omega | (subst e30; subst e36; subst q38; omega)⟩⟩, by unfold mB; rw [ht]; exact hP⟩, hS.F ht⟩) hS.2.2 dX10_isLine_49
  · skip
    have b5 := bo_t q2 c5
    refine lv_iload_n hx hb dX10_isLine_8 rfl (lv_at hl 2 rfl) ?_
    refine lv_i2l (v := way.toInt64) hx hb dX10_isLine_9 rfl ?_
    refine lv_lconst (v := 0) hx hb dX10_isLine_10 (by decide) ?_
    refine lv_ldc2 hx hb hown (hts (.constantLong RX10 116 (3)) (by decide +kernel)) dX10_isLine_11 ?_
    refine m_pu (As := [.long (way.toInt64), .long (0 : Int64), .long (3 : Int64)]) (rest := []) ⟨hx, hb, hml, hown, hts⟩ (c_X10_isIn l way.toInt64 (0 : Int64) (3 : Int64) ) (va_cwS 3 hts gX10_isLine_X10_isIn rfl rfl rfl (by decide +kernel) ⟨Nat.le_of_ble_eq_true rfl, Nat.le_of_ble_eq_true rfl⟩) hP rfl hl.1 rfl (Nat.le_of_ble_eq_true rfl) dX10_isLine_14 ⟨Nat.le_of_ble_eq_true rfl, Nat.le_of_ble_eq_true rfl⟩ hS (fun r14 H locs q14 hP hS => ?_)
    have q14 := q14
    simp only [k64, show (0 : Int64).toInt = 0 from rfl, show (1 : Int64).toInt = 1 from rfl, show (2 : Int64).toInt = 2 from rfl, show (3 : Int64).toInt = 3 from rfl, show (6 : Int64).toInt = 6 from rfl] at q14
    refine lv_if_eq (tgt := 48) hx hb dX10_isLine_17 (by decide) (fun c17 => ?_) (fun c17 => ?_)
    · skip
      have b17 := bo_f q14 c17
      refine lv_iconst (v := 0) hx hb dX10_isLine_48 (by decide) ?_
      exact W.zret (v := (0 : Int32)) hx hb hr (by decide) (fun t ht hW => ⟨⟨_, (f, g, r, q), rfl, ⟨rfl, Or.inr ⟨rfl, by first | omega | (subst e30; subst e36; subst q38; omega)⟩⟩, by unfold mB; rw [ht]; exact hP⟩, hS.F ht⟩) hS.2.2 dX10_isLine_49
    · skip
      have b17 := bo_t q14 c17
      refine lv_iload_n hx hb dX10_isLine_20 rfl (lv_at hl 3 rfl) ?_
      refine lv_if_lt (tgt := 48) hx hb dX10_isLine_21 (by decide) (fun c21 => ?_) (fun c21 => ?_)
      · skip
        have d21 := c21
        rw [fa_lt] at d21
        refine lv_iconst (v := 0) hx hb dX10_isLine_48 (by decide) ?_
        exact W.zret (v := (0 : Int32)) hx hb hr (by decide) (fun t ht hW => ⟨⟨_, (f, g, r, q), rfl, ⟨rfl, Or.inr ⟨rfl, by first | omega | (subst e30; subst e36; subst q38; omega)⟩⟩, by unfold mB; rw [ht]; exact hP⟩, hS.F ht⟩) hS.2.2 dX10_isLine_49
      · skip
        have d21 := c21
        rw [fa_lt] at d21
        refine lv_iload_n hx hb dX10_isLine_24 rfl (lv_at hl 3 rfl) ?_
        refine lv_aload_n hx hb dX10_isLine_25 rfl (lv_at hl 0 rfl) ?_
        refine m_get (v := .ref (a 3)) hx hb hts hin hown hK hP 3 (by decide) rfl (hts (.fieldLink RX10 13 "ShadowBenchModel" "wide" "[I") (by decide +kernel)) rfl dX10_isLine_26 ?_
        refine lv_iload_n hx hb dX10_isLine_29 rfl (lv_at hl 1 rfl) ?_
        refine m_iald (w := (r 3)) hx hb hK hP 2 rfl (vp_in_iff.mpr ⟨by omega, by omega⟩) dX10_isLine_30 ?_
        refine lv_topi (fun v30 e30 => ?_)
        have w30 := mi_w hI (x := j) (by omega) (by omega) e30
        refine lv_aload_n hx hb dX10_isLine_31 rfl (lv_at hl 0 rfl) ?_
        refine m_get (v := .ref (a 4)) hx hb hts hin hown hK hP 4 (by decide) rfl (hts (.fieldLink RX10 16 "ShadowBenchModel" "high" "[I") (by decide +kernel)) rfl dX10_isLine_32 ?_
        refine lv_iload_n hx hb dX10_isLine_35 rfl (lv_at hl 1 rfl) ?_
        refine m_iald (w := (r 4)) hx hb hK hP 3 rfl (vp_in_iff.mpr ⟨by omega, by omega⟩) dX10_isLine_36 ?_
        refine lv_topi (fun v36 e36 => ?_)
        have w36 := mi_h hI (x := j) (by omega) (by omega) e36
        refine lv_iload_n hx hb dX10_isLine_37 rfl (lv_at hl 2 rfl) ?_
        refine m_pu (As := [.int v30, .int v36, .int way]) (rest := [.int line]) ⟨hx, hb, hml, hown, hts⟩ (c_X10_linesOf l v30 v36 way ) (va_cwS 3 hts gX10_isLine_X10_linesOf rfl rfl rfl (by decide +kernel) ⟨Nat.le_of_ble_eq_true rfl, Nat.le_of_ble_eq_true rfl⟩) hP rfl hl.1 rfl (Nat.le_of_ble_eq_true rfl) dX10_isLine_38 ⟨Nat.le_of_ble_eq_true rfl, Nat.le_of_ble_eq_true rfl⟩ hS (fun r38 H locs q38 hP hS => ?_)
        refine lv_icmp_ge (tgt := 48) hx hb dX10_isLine_41 (by decide) (fun c41 => ?_) (fun c41 => ?_)
        · skip
          have d41 := c41
          rw [fa_le] at d41
          refine lv_iconst (v := 0) hx hb dX10_isLine_48 (by decide) ?_
          exact W.zret (v := (0 : Int32)) hx hb hr (by decide) (fun t ht hW => ⟨⟨_, (f, g, r, q), rfl, ⟨rfl, Or.inr ⟨rfl, by first | omega | (subst e30; subst e36; subst q38; omega)⟩⟩, by unfold mB; rw [ht]; exact hP⟩, hS.F ht⟩) hS.2.2 dX10_isLine_49
        · skip
          have d41 := c41
          rw [fa_le] at d41
          refine lv_iconst (v := 1) hx hb dX10_isLine_44 (by decide) ?_
          refine lv_goto (tgt := 49) hx hb dX10_isLine_45 (by decide) ?_
          exact W.zret (v := (1 : Int32)) hx hb hr (by decide) (fun t ht hW => ⟨⟨_, (f, g, r, q), rfl, ⟨rfl, Or.inl ⟨rfl, by subst e30; subst e36; subst q38; omega⟩⟩, by unfold mB; rw [ht]; exact hP⟩, hS.F ht⟩) hS.2.2 dX10_isLine_49
