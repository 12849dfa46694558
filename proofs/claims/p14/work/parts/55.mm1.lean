set_option maxHeartbeats 4000000 in
set_option maxRecDepth 100000 in
theorem c_X10_switches (l : Launch) (D : va_G) (cy : Nat → ClassId) (mo : Nat) (a : Nat → Nat) (f : Nat → Int32) (g : Nat → Int64) (r : Nat → Nat → Int32) (q : Nat → Nat → Int64) (w : Int32) (h : Int32) (p0 : Int64) (hD : DM cy mo a)  : Mi l D cy mo a yX10_switches wsX10_switches ({ frames := 3, cells := 0, slots := 0, locals := 69 }) f g r q [.int w, .int h, .long p0] (fun r0 u => ∃ (bh : Int64), u = ((upd f 0 (0 : Int32)), (vp_updL g 18 bh), r, q) ∧ (True)) := by
  refine Met.ofW (cc := cX10_switches) (maxL := 5) (ret := (some .int)) (by decide) rfl ?_
  intro p e s m args below meth c s₁ B hml hv
  obtain ⟨rfl, hP, hK⟩ := hv
  have hx := B.exec
  have hb := B.bytes
  have hr := B.returns
  have hts := atoms_spec (ws := wsX10_switches) B.pre
  have hin : ∀ w ∈ u_ws RX10 TX10 35, w ∈ wsX10_switches := by decide +kernel
  have hown : s.vm.findClass RX10 = some m.cls := findClass_of_methodNamed B.named
  have hlocks := B.notSynchronized
  have hS : va_S (AM mo a) s.heap s.heap [] := va_S.rf
  have hl := lv_entry ([.ref mo, .int w, .int h, .long p0]) (n := 5) (Nat.le_of_ble_eq_true rfl)
  rw [lg_entry_eq]
  generalize (lg_sl ([.ref mo, .int w, .int h, .long p0]) ++ List.replicate (5 - (lg_sl ([.ref mo, .int w, .int h, .long p0])).length) Slot.unset).toArray = ls at hl ⊢
  have hl : lv_has ls 5 [(0, .ref mo), (1, .int w), (2, .int h), (3, .long p0)] := hl
  have k_m1 : (-1 : Int32).toInt = -1 := by decide
  have k_0 : (0 : Int32).toInt = 0 := by decide
  refine lv_aload_n hx hb dX10_switches_0 rfl (lv_at hl 0 rfl) ?_
  refine lv_iconst (v := 0) hx hb dX10_switches_1 (by decide) ?_
  refine m_put (v := .int (0 : Int32)) (ty := .int) hx hb hts hin hown hK hP hD hS 0 (by decide) rfl (hts (.fieldLink RX10 79 "ShadowBenchModel" "thrown" "I") (by decide +kernel)) rfl (by decide +kernel) rfl rfl (upd f 0 (0 : Int32)) g rfl dX10_switches_2 (fun H locs hP hS => ?_)
  refine lv_iload_n hx hb dX10_switches_5 rfl (lv_at hl 1 rfl) ?_
  refine lv_iload_n hx hb dX10_switches_6 rfl (lv_at hl 2 rfl) ?_
  refine lv_lload_n hx hb dX10_switches_7 rfl (lv_at hl 3 rfl) ?_
  refine m_pu (As := [.int w, .int h, .long p0]) (rest := []) ⟨hx, hb, hml, hown, hts⟩ (c_X10_isPicture l w h p0 ) (va_cwS 3 hts gX10_switches_X10_isPicture rfl rfl rfl (by decide +kernel) ⟨Nat.le_of_ble_eq_true rfl, Nat.le_of_ble_eq_true rfl⟩) hP rfl hl.1 rfl (Nat.le_of_ble_eq_true rfl) dX10_switches_8 ⟨Nat.le_of_ble_eq_true rfl, Nat.le_of_ble_eq_true rfl⟩ hS (fun r8 H locs q8 hP hS => ?_)
  refine lv_if_eq (tgt := 25) hx hb dX10_switches_11 (by decide) (fun c11 => ?_) (fun c11 => ?_)
  · skip
    have b11 := bo_f q8 c11
    refine lv_iconst (v := (-1)) hx hb dX10_switches_25 (by decide) ?_
    have hP := wm_eq rfl (ec_g___18 g ) rfl rfl hP
    exact W.iret (v := ((-1) : Int32)) hx hb hr (fun t ht hW => ⟨⟨_, ((upd f 0 (0 : Int32)), (vp_updL g 18 (g 18)), r, q), rfl, ⟨(g 18), rfl, trivial⟩, by unfold mB; rw [ht]; exact hP⟩, hS.F ht⟩) hS.2.2 dX10_switches_26
  · skip
    have b11 := bo_t q8 c11
    refine lv_aload_n hx hb dX10_switches_14 rfl (lv_at hl 0 rfl) ?_
    refine lv_iload_n hx hb dX10_switches_15 rfl (lv_at hl 1 rfl) ?_
    refine lv_iload_n hx hb dX10_switches_16 rfl (lv_at hl 2 rfl) ?_
    refine lv_lload_n hx hb dX10_switches_17 rfl (lv_at hl 3 rfl) ?_
    refine lv_iconst (v := (-1)) hx hb dX10_switches_18 (by decide) ?_
    refine m_calli (As := [.int w, .int h, .long p0, .int ((-1) : Int32)]) (rest := []) ⟨hx, hb, hml, hown, hts⟩ (c_X10_goSwitches l D cy mo a (upd f 0 (0 : Int32)) g r q w h p0 (((-1) : Int32)) hD (show 1 ≤ w.toInt ∧ w.toInt ≤ 6 by omega) (show 1 ≤ h.toInt ∧ h.toInt ≤ 6 by omega)) (cwV 4 hts gX10_switches_X10_goSwitches rfl rfl rfl (by decide +kernel) ⟨Nat.le_of_ble_eq_true rfl, Nat.le_of_ble_eq_true rfl⟩) hK hP rfl hl.1 rfl (Nat.le_of_ble_eq_true rfl) dX10_switches_19 ⟨Nat.le_of_ble_eq_true rfl, Nat.le_of_ble_eq_true rfl⟩ hS (fun r19 u H locs q19 hP hS => ?_)
    obtain ⟨bh_19, rfl, q19⟩ := q19
    have hP : va_P D vwCl (WM cy mo a (upd f 0 (0 : Int32)) (vp_updL g 18 bh_19) r q) H := hP
    have q19 : True := q19
    refine lv_goto (tgt := 26) hx hb dX10_switches_22 (by decide) ?_
    exact W.iret (v := r19) hx hb hr (fun t ht hW => ⟨⟨_, ((upd f 0 (0 : Int32)), (vp_updL g 18 bh_19), r, q), rfl, ⟨bh_19, rfl, trivial⟩, by unfold mB; rw [ht]; exact hP⟩, hS.F ht⟩) hS.2.2 dX10_switches_26
set_option maxHeartbeats 4000000 in
set_option maxRecDepth 100000 in
theorem c_X10_switched (l : Launch) (D : va_G) (cy : Nat → ClassId) (mo : Nat) (a : Nat → Nat) (f : Nat → Int32) (g : Nat → Int64) (r : Nat → Nat → Int32) (q : Nat → Nat → Int64) (w : Int32) (h : Int32) (p0 : Int64) (i0 : Int32) (hD : DM cy mo a)  : Ml l D cy mo a yX10_switched wsX10_switched ({ frames := 3, cells := 0, slots := 0, locals := 69 }) f g r q [.int w, .int h, .long p0, .int i0] (fun r0 u => ∃ (bh : Int64), u = ((upd f 0 (0 : Int32)), (vp_updL g 18 bh), r, q) ∧ (True)) := by
  refine Met.ofW (cc := cX10_switched) (maxL := 6) (ret := (some .long)) (by decide) rfl ?_
  intro p e s m args below meth c s₁ B hml hv
  obtain ⟨rfl, hP, hK⟩ := hv
  have hx := B.exec
  have hb := B.bytes
  have hr := B.returns
  have hts := atoms_spec (ws := wsX10_switched) B.pre
  have hin : ∀ w ∈ u_ws RX10 TX10 35, w ∈ wsX10_switched := by decide +kernel
  have hown : s.vm.findClass RX10 = some m.cls := findClass_of_methodNamed B.named
  have hlocks := B.notSynchronized
  have hS : va_S (AM mo a) s.heap s.heap [] := va_S.rf
  have hl := lv_entry ([.ref mo, .int w, .int h, .long p0, .int i0]) (n := 6) (Nat.le_of_ble_eq_true rfl)
  rw [lg_entry_eq]
  generalize (lg_sl ([.ref mo, .int w, .int h, .long p0, .int i0]) ++ List.replicate (6 - (lg_sl ([.ref mo, .int w, .int h, .long p0, .int i0])).length) Slot.unset).toArray = ls at hl ⊢
  have hl : lv_has ls 6 [(0, .ref mo), (1, .int w), (2, .int h), (3, .long p0), (5, .int i0)] := hl
  have k_0 : (0 : Int32).toInt = 0 := by decide
  have k_m2L : (-2 : Int64).toInt = -2 := by decide
  have k_m1L : (-1 : Int64).toInt = -1 := by decide
  refine lv_aload_n hx hb dX10_switched_0 rfl (lv_at hl 0 rfl) ?_
  refine lv_iconst (v := 0) hx hb dX10_switched_1 (by decide) ?_
  refine m_put (v := .int (0 : Int32)) (ty := .int) hx hb hts hin hown hK hP hD hS 0 (by decide) rfl (hts (.fieldLink RX10 79 "ShadowBenchModel" "thrown" "I") (by decide +kernel)) rfl (by decide +kernel) rfl rfl (upd f 0 (0 : Int32)) g rfl dX10_switched_2 (fun H locs hP hS => ?_)
  refine lv_iload_n hx hb dX10_switched_5 rfl (lv_at hl 1 rfl) ?_
  refine lv_iload_n hx hb dX10_switched_6 rfl (lv_at hl 2 rfl) ?_
  refine lv_lload_n hx hb dX10_switched_7 rfl (lv_at hl 3 rfl) ?_
  refine m_pu (As := [.int w, .int h, .long p0]) (rest := []) ⟨hx, hb, hml, hown, hts⟩ (c_X10_isPicture l w h p0 ) (va_cwS 3 hts gX10_switched_X10_isPicture rfl rfl rfl (by decide +kernel) ⟨Nat.le_of_ble_eq_true rfl, Nat.le_of_ble_eq_true rfl⟩) hP rfl hl.1 rfl (Nat.le_of_ble_eq_true rfl) dX10_switched_8 ⟨Nat.le_of_ble_eq_true rfl, Nat.le_of_ble_eq_true rfl⟩ hS (fun r8 H locs q8 hP hS => ?_)
  refine lv_if_eq (tgt := 19) hx hb dX10_switched_11 (by decide) (fun c11 => ?_) (fun c11 => ?_)
  · skip
    have b11 := bo_f q8 c11
    refine lv_ldc2 hx hb hown (hts (.constantLong RX10 185 (-1)) (by decide +kernel)) dX10_switched_19 ?_
    have hP := wm_eq rfl (ec_g___18 g ) rfl rfl hP
    exact W.lret (v := (-1 : Int64)) hx hb hr (fun t ht hW => ⟨⟨_, ((upd f 0 (0 : Int32)), (vp_updL g 18 (g 18)), r, q), rfl, ⟨(g 18), rfl, trivial⟩, by unfold mB; rw [ht]; exact hP⟩, hS.F ht⟩) hS.2.2 dX10_switched_22
  · skip
    have b11 := bo_t q8 c11
    refine lv_iload hx hb dX10_switched_14 (lv_at hl 4 rfl) ?_
    refine lv_if_ge (tgt := 23) hx hb dX10_switched_16 (by decide) (fun c16 => ?_) (fun c16 => ?_)
    · skip
      have d16 := c16
      rw [fa_le] at d16
      refine lv_iload hx hb dX10_switched_23 (lv_at hl 4 rfl) ?_
      refine lv_aload_n hx hb dX10_switched_25 rfl (lv_at hl 0 rfl) ?_
      refine lv_iload_n hx hb dX10_switched_26 rfl (lv_at hl 1 rfl) ?_
      refine lv_iload_n hx hb dX10_switched_27 rfl (lv_at hl 2 rfl) ?_
      refine lv_lload_n hx hb dX10_switched_28 rfl (lv_at hl 3 rfl) ?_
      refine lv_iload hx hb dX10_switched_29 (lv_at hl 4 rfl) ?_
      refine m_calli (As := [.int w, .int h, .long p0, .int i0]) (rest := [.int i0]) ⟨hx, hb, hml, hown, hts⟩ (c_X10_goSwitches l D cy mo a (upd f 0 (0 : Int32)) g r q w h p0 i0 hD (show 1 ≤ w.toInt ∧ w.toInt ≤ 6 by omega) (show 1 ≤ h.toInt ∧ h.toInt ≤ 6 by omega)) (cwV 4 hts gX10_switched_X10_goSwitches rfl rfl rfl (by decide +kernel) ⟨Nat.le_of_ble_eq_true rfl, Nat.le_of_ble_eq_true rfl⟩) hK hP rfl hl.1 rfl (Nat.le_of_ble_eq_true rfl) dX10_switched_31 ⟨Nat.le_of_ble_eq_true rfl, Nat.le_of_ble_eq_true rfl⟩ hS (fun r31 u H locs q31 hP hS => ?_)
      obtain ⟨bh_31, rfl, q31⟩ := q31
      have hP : va_P D vwCl (WM cy mo a (upd f 0 (0 : Int32)) (vp_updL g 18 bh_31) r q) H := hP
      have q31 : True := q31
      refine lv_icmp_ge (tgt := 44) hx hb dX10_switched_34 (by decide) (fun c34 => ?_) (fun c34 => ?_)
      · skip
        have d34 := c34
        rw [fa_le] at d34
        refine lv_ldc2 hx hb hown (hts (.constantLong RX10 189 (-2)) (by decide +kernel)) dX10_switched_44 ?_
        exact W.lret (v := (-2 : Int64)) hx hb hr (fun t ht hW => ⟨⟨_, ((upd f 0 (0 : Int32)), (vp_updL g 18 bh_31), r, q), rfl, ⟨bh_31, rfl, trivial⟩, by unfold mB; rw [ht]; exact hP⟩, hS.F ht⟩) hS.2.2 dX10_switched_47
      · skip
        have d34 := c34
        rw [fa_le] at d34
        refine lv_aload_n hx hb dX10_switched_37 rfl (lv_at hl 0 rfl) ?_
        refine m_get (v := .long bh_31) hx hb hts hin hown hK hP 18 (by decide) rfl (hts (.fieldLink RX10 201 "ShadowBenchModel" "behind" "J") (by decide +kernel)) rfl dX10_switched_38 ?_
        refine lv_goto (tgt := 47) hx hb dX10_switched_41 (by decide) ?_
        exact W.lret (v := bh_31) hx hb hr (fun t ht hW => ⟨⟨_, ((upd f 0 (0 : Int32)), (vp_updL g 18 bh_31), r, q), rfl, ⟨bh_31, rfl, trivial⟩, by unfold mB; rw [ht]; exact hP⟩, hS.F ht⟩) hS.2.2 dX10_switched_47
    · skip
      have d16 := c16
      rw [fa_le] at d16
      refine lv_ldc2 hx hb hown (hts (.constantLong RX10 185 (-1)) (by decide +kernel)) dX10_switched_19 ?_
      have hP := wm_eq rfl (ec_g___18 g ) rfl rfl hP
      exact W.lret (v := (-1 : Int64)) hx hb hr (fun t ht hW => ⟨⟨_, ((upd f 0 (0 : Int32)), (vp_updL g 18 (g 18)), r, q), rfl, ⟨(g 18), rfl, trivial⟩, by unfold mB; rw [ht]; exact hP⟩, hS.F ht⟩) hS.2.2 dX10_switched_22
set_option maxHeartbeats 4000000 in
set_option maxRecDepth 100000 in
theorem c_X10_joined (l : Launch) (D : va_G) (cy : Nat → ClassId) (mo : Nat) (a : Nat → Nat) (f : Nat → Int32) (g : Nat → Int64) (r : Nat → Nat → Int32) (q : Nat → Nat → Int64) (w : Int32) (h : Int32) (p0 : Int64) (hD : DM cy mo a)  : Mi l D cy mo a yX10_joined wsX10_joined ({ frames := 3, cells := 0, slots := 0, locals := 69 }) f g r q [.int w, .int h, .long p0] (fun r0 u => ∃ (mt : Nat → Int32), u = ((upd f 0 (0 : Int32)), g, (va_up r 9 mt), q) ∧ (True)) := by
  refine Met.ofW (cc := cX10_joined) (maxL := 5) (ret := (some .int)) (by decide) rfl ?_
  intro p e s m args below meth c s₁ B hml hv
  obtain ⟨rfl, hP, hK⟩ := hv
  have hx := B.exec
  have hb := B.bytes
  have hr := B.returns
  have hts := atoms_spec (ws := wsX10_joined) B.pre
  have hin : ∀ w ∈ u_ws RX10 TX10 35, w ∈ wsX10_joined := by decide +kernel
  have hown : s.vm.findClass RX10 = some m.cls := findClass_of_methodNamed B.named
  have hlocks := B.notSynchronized
  have hS : va_S (AM mo a) s.heap s.heap [] := va_S.rf
  have hl := lv_entry ([.ref mo, .int w, .int h, .long p0]) (n := 5) (Nat.le_of_ble_eq_true rfl)
  rw [lg_entry_eq]
  generalize (lg_sl ([.ref mo, .int w, .int h, .long p0]) ++ List.replicate (5 - (lg_sl ([.ref mo, .int w, .int h, .long p0])).length) Slot.unset).toArray = ls at hl ⊢
  have hl : lv_has ls 5 [(0, .ref mo), (1, .int w), (2, .int h), (3, .long p0)] := hl
  have k_m1 : (-1 : Int32).toInt = -1 := by decide
  have k_0 : (0 : Int32).toInt = 0 := by decide
  have k_1 : (1 : Int32).toInt = 1 := by decide
  refine lv_aload_n hx hb dX10_joined_0 rfl (lv_at hl 0 rfl) ?_
  refine lv_iconst (v := 0) hx hb dX10_joined_1 (by decide) ?_
  refine m_put (v := .int (0 : Int32)) (ty := .int) hx hb hts hin hown hK hP hD hS 0 (by decide) rfl (hts (.fieldLink RX10 79 "ShadowBenchModel" "thrown" "I") (by decide +kernel)) rfl (by decide +kernel) rfl rfl (upd f 0 (0 : Int32)) g rfl dX10_joined_2 (fun H locs hP hS => ?_)
  refine lv_iload_n hx hb dX10_joined_5 rfl (lv_at hl 1 rfl) ?_
  refine lv_iload_n hx hb dX10_joined_6 rfl (lv_at hl 2 rfl) ?_
  refine lv_lload_n hx hb dX10_joined_7 rfl (lv_at hl 3 rfl) ?_
  refine m_pu (As := [.int w, .int h, .long p0]) (rest := []) ⟨hx, hb, hml, hown, hts⟩ (c_X10_isPicture l w h p0 ) (va_cwS 3 hts gX10_joined_X10_isPicture rfl rfl rfl (by decide +kernel) ⟨Nat.le_of_ble_eq_true rfl, Nat.le_of_ble_eq_true rfl⟩) hP rfl hl.1 rfl (Nat.le_of_ble_eq_true rfl) dX10_joined_8 ⟨Nat.le_of_ble_eq_true rfl, Nat.le_of_ble_eq_true rfl⟩ hS (fun r8 H locs q8 hP hS => ?_)
  refine lv_if_ne (tgt := 18) hx hb dX10_joined_11 (by decide) (fun c11 => ?_) (fun c11 => ?_)
  · skip
    have b11 := bo_t q8 c11
    refine lv_aload_n hx hb dX10_joined_18 rfl (lv_at hl 0 rfl) ?_
    refine lv_iload_n hx hb dX10_joined_19 rfl (lv_at hl 1 rfl) ?_
    refine lv_iload_n hx hb dX10_joined_20 rfl (lv_at hl 2 rfl) ?_
    refine lv_lload_n hx hb dX10_joined_21 rfl (lv_at hl 3 rfl) ?_
    refine m_calli (As := [.int w, .int h, .long p0]) (rest := []) ⟨hx, hb, hml, hown, hts⟩ (c_X10_isJoined l D cy mo a (upd f 0 (0 : Int32)) g r q w h p0 hD (show 1 ≤ w.toInt ∧ w.toInt ≤ 6 by omega) (show 1 ≤ h.toInt ∧ h.toInt ≤ 6 by omega)) (cwV 3 hts gX10_joined_X10_isJoined rfl rfl rfl (by decide +kernel) ⟨Nat.le_of_ble_eq_true rfl, Nat.le_of_ble_eq_true rfl⟩) hK hP rfl hl.1 rfl (Nat.le_of_ble_eq_true rfl) dX10_joined_22 ⟨Nat.le_of_ble_eq_true rfl, Nat.le_of_ble_eq_true rfl⟩ hS (fun r22 u H locs q22 hP hS => ?_)
    obtain ⟨mt_22, rfl, q22⟩ := q22
    have hP : va_P D vwCl (WM cy mo a (upd f 0 (0 : Int32)) g (va_up r 9 mt_22) q) H := hP
    have q22 : r22 = 0 ∨ r22 = 1 := q22
    refine lv_if_eq (tgt := 32) hx hb dX10_joined_25 (by decide) (fun c25 => ?_) (fun c25 => ?_)
    · skip
      have d25 := c25
      rw [fa_eq] at d25
      refine lv_iconst (v := 0) hx hb dX10_joined_32 (by decide) ?_
      exact W.iret (v := (0 : Int32)) hx hb hr (fun t ht hW => ⟨⟨_, ((upd f 0 (0 : Int32)), g, (va_up r 9 mt_22), q), rfl, ⟨mt_22, rfl, trivial⟩, by unfold mB; rw [ht]; exact hP⟩, hS.F ht⟩) hS.2.2 dX10_joined_33
    · skip
      have d25 := c25
      rw [fa_eq] at d25
      refine lv_iconst (v := 1) hx hb dX10_joined_28 (by decide) ?_
      refine lv_goto (tgt := 33) hx hb dX10_joined_29 (by decide) ?_
      exact W.iret (v := (1 : Int32)) hx hb hr (fun t ht hW => ⟨⟨_, ((upd f 0 (0 : Int32)), g, (va_up r 9 mt_22), q), rfl, ⟨mt_22, rfl, trivial⟩, by unfold mB; rw [ht]; exact hP⟩, hS.F ht⟩) hS.2.2 dX10_joined_33
  · skip
    have b11 := bo_f q8 c11
    refine lv_iconst (v := (-1)) hx hb dX10_joined_14 (by decide) ?_
    refine lv_goto (tgt := 33) hx hb dX10_joined_15 (by decide) ?_
    have hP := wm_eq rfl rfl (ec_r___9 r ) rfl hP
    exact W.iret (v := ((-1) : Int32)) hx hb hr (fun t ht hW => ⟨⟨_, ((upd f 0 (0 : Int32)), g, (va_up r 9 (r 9)), q), rfl, ⟨(r 9), rfl, trivial⟩, by unfold mB; rw [ht]; exact hP⟩, hS.F ht⟩) hS.2.2 dX10_joined_33
set_option maxHeartbeats 4000000 in
set_option maxRecDepth 100000 in
theorem c_X10_even (l : Launch) (D : va_G) (cy : Nat → ClassId) (mo : Nat) (a : Nat → Nat) (f : Nat → Int32) (g : Nat → Int64) (r : Nat → Nat → Int32) (q : Nat → Nat → Int64) (w : Int32) (h : Int32) (p0 : Int64) (col : Int32) (hD : DM cy mo a)  : Mi l D cy mo a yX10_even wsX10_even ({ frames := 3, cells := 0, slots := 0, locals := 69 }) f g r q [.int w, .int h, .long p0, .int col] (fun r0 u => u = ((upd f 0 (0 : Int32)), g, r, q) ∧ (True)) := by
  refine Met.ofW (cc := cX10_even) (maxL := 6) (ret := (some .int)) (by decide) rfl ?_
  intro p e s m args below meth c s₁ B hml hv
  obtain ⟨rfl, hP, hK⟩ := hv
  have hx := B.exec
  have hb := B.bytes
  have hr := B.returns
  have hts := atoms_spec (ws := wsX10_even) B.pre
  have hin : ∀ w ∈ u_ws RX10 TX10 35, w ∈ wsX10_even := by decide +kernel
  have hown : s.vm.findClass RX10 = some m.cls := findClass_of_methodNamed B.named
  have hlocks := B.notSynchronized
  have hS : va_S (AM mo a) s.heap s.heap [] := va_S.rf
  have hl := lv_entry ([.ref mo, .int w, .int h, .long p0, .int col]) (n := 6) (Nat.le_of_ble_eq_true rfl)
  rw [lg_entry_eq]
  generalize (lg_sl ([.ref mo, .int w, .int h, .long p0, .int col]) ++ List.replicate (6 - (lg_sl ([.ref mo, .int w, .int h, .long p0, .int col])).length) Slot.unset).toArray = ls at hl ⊢
  have hl : lv_has ls 6 [(0, .ref mo), (1, .int w), (2, .int h), (3, .long p0), (5, .int col)] := hl
  have k_m1 : (-1 : Int32).toInt = -1 := by decide
  have k_0 : (0 : Int32).toInt = 0 := by decide
  have k_1 : (1 : Int32).toInt = 1 := by decide
  refine lv_aload_n hx hb dX10_even_0 rfl (lv_at hl 0 rfl) ?_
  refine lv_iconst (v := 0) hx hb dX10_even_1 (by decide) ?_
  refine m_put (v := .int (0 : Int32)) (ty := .int) hx hb hts hin hown hK hP hD hS 0 (by decide) rfl (hts (.fieldLink RX10 79 "ShadowBenchModel" "thrown" "I") (by decide +kernel)) rfl (by decide +kernel) rfl rfl (upd f 0 (0 : Int32)) g rfl dX10_even_2 (fun H locs hP hS => ?_)
  refine lv_iload_n hx hb dX10_even_5 rfl (lv_at hl 1 rfl) ?_
  refine lv_iload_n hx hb dX10_even_6 rfl (lv_at hl 2 rfl) ?_
  refine lv_lload_n hx hb dX10_even_7 rfl (lv_at hl 3 rfl) ?_
  refine m_pu (As := [.int w, .int h, .long p0]) (rest := []) ⟨hx, hb, hml, hown, hts⟩ (c_X10_isPicture l w h p0 ) (va_cwS 3 hts gX10_even_X10_isPicture rfl rfl rfl (by decide +kernel) ⟨Nat.le_of_ble_eq_true rfl, Nat.le_of_ble_eq_true rfl⟩) hP rfl hl.1 rfl (Nat.le_of_ble_eq_true rfl) dX10_even_8 ⟨Nat.le_of_ble_eq_true rfl, Nat.le_of_ble_eq_true rfl⟩ hS (fun r8 H locs q8 hP hS => ?_)
  refine lv_if_ne (tgt := 18) hx hb dX10_even_11 (by decide) (fun c11 => ?_) (fun c11 => ?_)
  · skip
    have b11 := bo_t q8 c11
    refine lv_iload_n hx hb dX10_even_18 rfl (lv_at hl 1 rfl) ?_
    refine lv_iload_n hx hb dX10_even_19 rfl (lv_at hl 2 rfl) ?_
    refine lv_lload_n hx hb dX10_even_20 rfl (lv_at hl 3 rfl) ?_
    refine lv_iload hx hb dX10_even_21 (lv_at hl 4 rfl) ?_
    refine m_pu (As := [.int w, .int h, .long p0, .int col]) (rest := []) ⟨hx, hb, hml, hown, hts⟩ (c_X10_isEven l w h p0 col b11.1.1 b11.1.2) (va_cwS 4 hts gX10_even_X10_isEven rfl rfl rfl (by decide +kernel) ⟨Nat.le_of_ble_eq_true rfl, Nat.le_of_ble_eq_true rfl⟩) hP rfl hl.1 rfl (Nat.le_of_ble_eq_true rfl) dX10_even_23 ⟨Nat.le_of_ble_eq_true rfl, Nat.le_of_ble_eq_true rfl⟩ hS (fun r23 H locs q23 hP hS => ?_)
    refine lv_if_eq (tgt := 33) hx hb dX10_even_26 (by decide) (fun c26 => ?_) (fun c26 => ?_)
    · skip
      have d26 := c26
      rw [fa_eq] at d26
      refine lv_iconst (v := 0) hx hb dX10_even_33 (by decide) ?_
      exact W.iret (v := (0 : Int32)) hx hb hr (fun t ht hW => ⟨⟨_, ((upd f 0 (0 : Int32)), g, r, q), rfl, ⟨rfl, trivial⟩, by unfold mB; rw [ht]; exact hP⟩, hS.F ht⟩) hS.2.2 dX10_even_34
    · skip
      have d26 := c26
      rw [fa_eq] at d26
      refine lv_iconst (v := 1) hx hb dX10_even_29 (by decide) ?_
      refine lv_goto (tgt := 34) hx hb dX10_even_30 (by decide) ?_
      exact W.iret (v := (1 : Int32)) hx hb hr (fun t ht hW => ⟨⟨_, ((upd f 0 (0 : Int32)), g, r, q), rfl, ⟨rfl, trivial⟩, by unfold mB; rw [ht]; exact hP⟩, hS.F ht⟩) hS.2.2 dX10_even_34
  · skip
    have b11 := bo_f q8 c11
    refine lv_iconst (v := (-1)) hx hb dX10_even_14 (by decide) ?_
    refine lv_goto (tgt := 34) hx hb dX10_even_15 (by decide) ?_
    exact W.iret (v := ((-1) : Int32)) hx hb hr (fun t ht hW => ⟨⟨_, ((upd f 0 (0 : Int32)), g, r, q), rfl, ⟨rfl, trivial⟩, by unfold mB; rw [ht]; exact hP⟩, hS.F ht⟩) hS.2.2 dX10_even_34
set_option maxHeartbeats 4000000 in
set_option maxRecDepth 100000 in
theorem c_X10_turned (l : Launch) (D : va_G) (cy : Nat → ClassId) (mo : Nat) (a : Nat → Nat) (f : Nat → Int32) (g : Nat → Int64) (r : Nat → Nat → Int32) (q : Nat → Nat → Int64) (w : Int32) (h : Int32) (p0 : Int64) (how : Int32) (hD : DM cy mo a)  : Ml l D cy mo a yX10_turned wsX10_turned ({ frames := 3, cells := 0, slots := 0, locals := 69 }) f g r q [.int w, .int h, .long p0, .int how] (fun r0 u => u = ((upd f 0 (0 : Int32)), g, r, q) ∧ (True)) := by
  refine Met.ofW (cc := cX10_turned) (maxL := 12) (ret := (some .long)) (by decide) rfl ?_
  intro p e s m args below meth c s₁ B hml hv
  obtain ⟨rfl, hP, hK⟩ := hv
  have hx := B.exec
  have hb := B.bytes
  have hr := B.returns
  have hts := atoms_spec (ws := wsX10_turned) B.pre
  have hin : ∀ w ∈ u_ws RX10 TX10 35, w ∈ wsX10_turned := by decide +kernel
  have hown : s.vm.findClass RX10 = some m.cls := findClass_of_methodNamed B.named
  have hlocks := B.notSynchronized
  have hS : va_S (AM mo a) s.heap s.heap [] := va_S.rf
  have hl := lv_entry ([.ref mo, .int w, .int h, .long p0, .int how]) (n := 12) (Nat.le_of_ble_eq_true rfl)
  rw [lg_entry_eq]
  generalize (lg_sl ([.ref mo, .int w, .int h, .long p0, .int how]) ++ List.replicate (12 - (lg_sl ([.ref mo, .int w, .int h, .long p0, .int how])).length) Slot.unset).toArray = ls at hl ⊢
  have hl : lv_has ls 12 [(0, .ref mo), (1, .int w), (2, .int h), (3, .long p0), (5, .int how)] := hl
  have k_0 : (0 : Int32).toInt = 0 := by decide
  have k_1 : (1 : Int32).toInt = 1 := by decide
  have k_2 : (2 : Int32).toInt = 2 := by decide
  have k_3 : (3 : Int32).toInt = 3 := by decide
  have k_m1L : (-1 : Int64).toInt = -1 := by decide
  have k_0L : (0 : Int64).toInt = 0 := by decide
  have k_3L : (3 : Int64).toInt = 3 := by decide
  refine lv_aload_n hx hb dX10_turned_0 rfl (lv_at hl 0 rfl) ?_
  refine lv_iconst (v := 0) hx hb dX10_turned_1 (by decide) ?_
  refine m_put (v := .int (0 : Int32)) (ty := .int) hx hb hts hin hown hK hP hD hS 0 (by decide) rfl (hts (.fieldLink RX10 79 "ShadowBenchModel" "thrown" "I") (by decide +kernel)) rfl (by decide +kernel) rfl rfl (upd f 0 (0 : Int32)) g rfl dX10_turned_2 (fun H locs hP hS => ?_)
  refine lv_iload_n hx hb dX10_turned_5 rfl (lv_at hl 1 rfl) ?_
  refine lv_iload_n hx hb dX10_turned_6 rfl (lv_at hl 2 rfl) ?_
  refine lv_lload_n hx hb dX10_turned_7 rfl (lv_at hl 3 rfl) ?_
  refine m_pu (As := [.int w, .int h, .long p0]) (rest := []) ⟨hx, hb, hml, hown, hts⟩ (c_X10_isPicture l w h p0 ) (va_cwS 3 hts gX10_turned_X10_isPicture rfl rfl rfl (by decide +kernel) ⟨Nat.le_of_ble_eq_true rfl, Nat.le_of_ble_eq_true rfl⟩) hP rfl hl.1 rfl (Nat.le_of_ble_eq_true rfl) dX10_turned_8 ⟨Nat.le_of_ble_eq_true rfl, Nat.le_of_ble_eq_true rfl⟩ hS (fun r8 H locs q8 hP hS => ?_)
  refine lv_if_eq (tgt := 27) hx hb dX10_turned_11 (by decide) (fun c11 => ?_) (fun c11 => ?_)
  · skip
    have b11 := bo_f q8 c11
    refine lv_ldc2 hx hb hown (hts (.constantLong RX10 185 (-1)) (by decide +kernel)) dX10_turned_27 ?_
    exact W.lret (v := (-1 : Int64)) hx hb hr (fun t ht hW => ⟨⟨_, ((upd f 0 (0 : Int32)), g, r, q), rfl, ⟨rfl, trivial⟩, by unfold mB; rw [ht]; exact hP⟩, hS.F ht⟩) hS.2.2 dX10_turned_30
  · skip
    have b11 := bo_t q8 c11
    refine lv_iload hx hb dX10_turned_14 (lv_at hl 4 rfl) ?_
    refine lv_i2l (v := how.toInt64) hx hb dX10_turned_16 rfl ?_
    refine lv_lconst (v := 0) hx hb dX10_turned_17 (by decide) ?_
    refine lv_ldc2 hx hb hown (hts (.constantLong RX10 116 (3)) (by decide +kernel)) dX10_turned_18 ?_
    refine m_pu (As := [.long (how.toInt64), .long (0 : Int64), .long (3 : Int64)]) (rest := []) ⟨hx, hb, hml, hown, hts⟩ (c_X10_isIn l how.toInt64 (0 : Int64) (3 : Int64) ) (va_cwS 3 hts gX10_turned_X10_isIn rfl rfl rfl (by decide +kernel) ⟨Nat.le_of_ble_eq_true rfl, Nat.le_of_ble_eq_true rfl⟩) hP rfl hl.1 rfl (Nat.le_of_ble_eq_true rfl) dX10_turned_21 ⟨Nat.le_of_ble_eq_true rfl, Nat.le_of_ble_eq_true rfl⟩ hS (fun r21 H locs q21 hP hS => ?_)
    have q21 := q21
    simp only [k64, show (0 : Int64).toInt = 0 from rfl, show (1 : Int64).toInt = 1 from rfl, show (2 : Int64).toInt = 2 from rfl, show (3 : Int64).toInt = 3 from rfl, show (6 : Int64).toInt = 6 from rfl] at q21
    refine lv_if_ne (tgt := 31) hx hb dX10_turned_24 (by decide) (fun c24 => ?_) (fun c24 => ?_)
    · skip
      have b24 := bo_t q21 c24
      refine lv_lconst (v := 0) hx hb dX10_turned_31 (by decide) ?_
      refine lv_lstore (lv' := [(6, .long (0 : Int64)), (0, .ref mo), (1, .int w), (2, .int h), (3, .long p0), (5, .int how)]) hx hb dX10_turned_32 hl (by decide) rfl (fun ls hl => ?_)
      refine lv_iconst (v := 0) hx hb dX10_turned_34 (by decide) ?_
      refine lv_istore (lv' := [(8, .int (0 : Int32)), (6, .long (0 : Int64)), (0, .ref mo), (1, .int w), (2, .int h), (3, .long p0), (5, .int how)]) hx hb dX10_turned_35 hl (by decide) rfl (fun ls hl => ?_)
      have loop_37 : ∀ (n : Nat) (s1 : Nat) (x6 : Int64), (s1 ≤ 36) → 36 - s1 < n → ∀ (H : Heap) (locs : List Loc), va_P D vwCl (WM cy mo a (upd f 0 (0 : Int32)) g r q) H → va_S (AM mo a) s.heap H locs → ∀ (ls : Array Slot), lv_has ls 12 [(8, .int (nI s1)), (6, .long x6), (0, .ref mo), (1, .int w), (2, .int h), (3, .long p0), (5, .int how)] → W p l e (headSpec wsX10_turned ({ frames := 3, cells := 0, slots := 0, locals := 69 })).room s m #[Value.ref mo, Value.int w, Value.int h, Value.long p0, Value.int how] below meth c H locs 0 0 (MQ below (va_Ql (fun r0 u => u = ((upd f 0 (0 : Int32)), g, r, q) ∧ (True)) (mB D cy mo a) (AM mo a)) #[Value.ref mo, Value.int w, Value.int h, Value.long p0, Value.int how] s 0 0 (AM mo a)) (F0 m 37 ls []) := by
        intro n
        induction n with
        | zero => intro s1 x6  j37_0 hn; exact absurd hn (Nat.not_lt_zero _)
        | succ n ih_37 =>
          intro s1 x6  j37_0 hn_37 H locs hP hS ls hl
          have is1 : (nI s1).toInt = (s1 : Int) := nI_toInt (by omega)
          have m37 := mul66 b11.1.1 b11.1.2
          refine lv_iload hx hb dX10_turned_37 (lv_at hl 0 rfl) ?_
          refine lv_iload_n hx hb dX10_turned_39 rfl (lv_at hl 3 rfl) ?_
          refine lv_iload_n hx hb dX10_turned_40 rfl (lv_at hl 4 rfl) ?_
          refine lv_imul hx hb dX10_turned_41 ?_
          refine lv_topi (fun v41 e41 => ?_)
          have i41 : v41.toInt = w.toInt * h.toInt := by rw [e41]; exact fb_mulI (by omega) (by omega)
          refine lv_icmp_ge (tgt := 154) hx hb dX10_turned_42 (by decide) (fun c42 => ?_) (fun c42 => ?_)
          · skip
            have d42 := c42
            rw [fa_le] at d42
            refine lv_lload hx hb dX10_turned_154 (lv_at hl 1 rfl) ?_
            exact W.lret (v := x6) hx hb hr (fun t ht hW => ⟨⟨_, ((upd f 0 (0 : Int32)), g, r, q), rfl, ⟨rfl, trivial⟩, by unfold mB; rw [ht]; exact hP⟩, hS.F ht⟩) hS.2.2 dX10_turned_156
          · skip
            have d42 := c42
            rw [fa_le] at d42
            refine lv_iload hx hb dX10_turned_45 (lv_at hl 0 rfl) ?_
            refine lv_iload_n hx hb dX10_turned_47 rfl (lv_at hl 3 rfl) ?_
            refine lv_irem hx hb dX10_turned_48 (fun z => by rw [fa_eq] at z; omega) ?_
            refine lv_topi (fun v48 e48 => ?_)
            have i48 : v48.toInt = (nI s1).toInt % w.toInt := by rw [e48]; exact my_irem (by omega) (by omega)
            have j48 : 0 ≤ v48.toInt ∧ v48.toInt < w.toInt ∧ v48.toInt ≤ (nI s1).toInt := by rw [e48]; exact my_remb (by omega) (by omega)
            refine lv_istore (lv' := [(9, .int v48), (8, .int (nI s1)), (6, .long x6), (0, .ref mo), (1, .int w), (2, .int h), (3, .long p0), (5, .int how)]) hx hb dX10_turned_49 hl (by decide) rfl (fun ls hl => ?_)
            refine lv_iload hx hb dX10_turned_51 (lv_at hl 1 rfl) ?_
            refine lv_iload_n hx hb dX10_turned_53 rfl (lv_at hl 4 rfl) ?_
            refine lv_idiv hx hb dX10_turned_54 (fun z => by rw [fa_eq] at z; omega) ?_
            refine lv_topi (fun v54 e54 => ?_)
            have i54 : v54.toInt = (nI s1).toInt / w.toInt := by rw [e54]; exact my_idiv (by omega) (by omega)
            have j54 : 0 ≤ v54.toInt ∧ v54.toInt ≤ (nI s1).toInt := by rw [e54]; exact my_divb (by omega) (by omega)
            refine lv_istore (lv' := [(10, .int v54), (9, .int v48), (8, .int (nI s1)), (6, .long x6), (0, .ref mo), (1, .int w), (2, .int h), (3, .long p0), (5, .int how)]) hx hb dX10_turned_55 hl (by decide) rfl (fun ls hl => ?_)
            refine lv_iload hx hb dX10_turned_57 (lv_at hl 8 rfl) ?_
            refine lv_if_ne (tgt := 76) hx hb dX10_turned_59 (by decide) (fun c59 => ?_) (fun c59 => ?_)
            · skip
              have d59 := c59
              rw [fa_eq] at d59
              refine lv_iload hx hb dX10_turned_76 (lv_at hl 8 rfl) ?_
              refine lv_iconst (v := 1) hx hb dX10_turned_78 (by decide) ?_
              refine lv_icmp_ne (tgt := 96) hx hb dX10_turned_79 (by decide) (fun c79 => ?_) (fun c79 => ?_)
              · skip
                have d79 := c79
                rw [fa_eq] at d79
                refine lv_iload hx hb dX10_turned_96 (lv_at hl 8 rfl) ?_
                refine lv_iconst (v := 2) hx hb dX10_turned_98 (by decide) ?_
                refine lv_icmp_ne (tgt := 112) hx hb dX10_turned_99 (by decide) (fun c99 => ?_) (fun c99 => ?_)
                · skip
                  have d99 := c99
                  rw [fa_eq] at d99
                  refine lv_iload hx hb dX10_turned_112 (lv_at hl 2 rfl) ?_
                  refine lv_istore (lv' := [(11, .int (nI s1)), (10, .int v54), (9, .int v48), (8, .int (nI s1)), (6, .long x6), (0, .ref mo), (1, .int w), (2, .int h), (3, .long p0), (5, .int how)]) hx hb dX10_turned_114 hl (by decide) rfl (fun ls hl => ?_)
                  refine lv_lload hx hb dX10_turned_116 (lv_at hl 4 rfl) ?_
                  refine lv_iload hx hb dX10_turned_118 (lv_at hl 9 rfl) ?_
                  refine lv_iconst (v := 3) hx hb dX10_turned_120 (by decide) ?_
                  refine lv_icmp_ne (tgt := 135) hx hb dX10_turned_121 (by decide) (fun c121 => ?_) (fun c121 => ?_)
                  · skip
                    have d121 := c121
                    rw [fa_eq] at d121
                    refine lv_lload_n hx hb dX10_turned_135 rfl (lv_at hl 8 rfl) ?_
                    refine lv_iload hx hb dX10_turned_136 (lv_at hl 3 rfl) ?_
                    refine m_pu (As := [.long p0, .int (nI s1)]) (rest := [.long x6]) ⟨hx, hb, hml, hown, hts⟩ (c_X10_one l p0 (nI s1) ) (va_cwS 2 hts gX10_turned_X10_one rfl rfl rfl (by decide +kernel) ⟨Nat.le_of_ble_eq_true rfl, Nat.le_of_ble_eq_true rfl⟩) hP rfl hl.1 rfl (Nat.le_of_ble_eq_true rfl) dX10_turned_138 ⟨Nat.le_of_ble_eq_true rfl, Nat.le_of_ble_eq_true rfl⟩ hS (fun r138 H locs q138 hP hS => ?_)
                    have i138 : r138.toInt = (r_one p0 (nI s1)).toInt := congrArg Int32.toInt q138
                    refine lv_i2l (v := r138.toInt64) hx hb dX10_turned_141 rfl ?_
                    refine lv_iload hx hb dX10_turned_142 (lv_at hl 0 rfl) ?_
                    refine lv_lshl (v := r138.toInt64 <<< ((nI s1).toInt64 &&& 63)) hx hb dX10_turned_144 rfl ?_
                    refine lv_lor hx hb dX10_turned_145 ?_
                    refine lv_topl (fun v145 e145 => ?_)
                    refine lv_lstore (lv' := [(6, .long v145), (11, .int (nI s1)), (10, .int v54), (9, .int v48), (8, .int (nI s1)), (0, .ref mo), (1, .int w), (2, .int h), (3, .long p0), (5, .int how)]) hx hb dX10_turned_146 hl (by decide) rfl (fun ls hl => ?_)
                    refine lv_iinc (v := (nI (s1 + 1))) (lv' := [(8, .int (nI (s1 + 1))), (6, .long v145), (11, .int (nI s1)), (10, .int v54), (9, .int v48), (0, .ref mo), (1, .int w), (2, .int h), (3, .long p0), (5, .int how)]) hx hb dX10_turned_148 hl (k := 4) rfl (nI_1 _) (by decide) rfl (fun ls hl => ?_)
                    refine lv_goto (tgt := 37) hx hb dX10_turned_151 (by decide) ?_
                    exact ih_37 (s1 + 1) v145 (by omega) (by omega) _ _ hP hS ls (lv_sub hl [0, 1, 5, 6, 7, 8, 9] rfl)
                  · skip
                    have d121 := c121
                    rw [fa_eq] at d121
                    refine lv_iconst (v := 1) hx hb dX10_turned_124 (by decide) ?_
                    refine lv_lload_n hx hb dX10_turned_125 rfl (lv_at hl 8 rfl) ?_
                    refine lv_iload hx hb dX10_turned_126 (lv_at hl 3 rfl) ?_
                    refine m_pu (As := [.long p0, .int (nI s1)]) (rest := [.int (1 : Int32), .long x6]) ⟨hx, hb, hml, hown, hts⟩ (c_X10_one l p0 (nI s1) ) (va_cwS 2 hts gX10_turned_X10_one rfl rfl rfl (by decide +kernel) ⟨Nat.le_of_ble_eq_true rfl, Nat.le_of_ble_eq_true rfl⟩) hP rfl hl.1 rfl (Nat.le_of_ble_eq_true rfl) dX10_turned_128 ⟨Nat.le_of_ble_eq_true rfl, Nat.le_of_ble_eq_true rfl⟩ hS (fun r128 H locs q128 hP hS => ?_)
                    have i128 : r128.toInt = (r_one p0 (nI s1)).toInt := congrArg Int32.toInt q128
                    refine lv_isub hx hb dX10_turned_131 ?_
                    refine lv_topi (fun v131 e131 => ?_)
                    refine lv_goto (tgt := 141) hx hb dX10_turned_132 (by decide) ?_
                    refine lv_i2l (v := v131.toInt64) hx hb dX10_turned_141 rfl ?_
                    refine lv_iload hx hb dX10_turned_142 (lv_at hl 0 rfl) ?_
                    refine lv_lshl (v := v131.toInt64 <<< ((nI s1).toInt64 &&& 63)) hx hb dX10_turned_144 rfl ?_
                    refine lv_lor hx hb dX10_turned_145 ?_
                    refine lv_topl (fun v145 e145 => ?_)
                    refine lv_lstore (lv' := [(6, .long v145), (11, .int (nI s1)), (10, .int v54), (9, .int v48), (8, .int (nI s1)), (0, .ref mo), (1, .int w), (2, .int h), (3, .long p0), (5, .int how)]) hx hb dX10_turned_146 hl (by decide) rfl (fun ls hl => ?_)
                    refine lv_iinc (v := (nI (s1 + 1))) (lv' := [(8, .int (nI (s1 + 1))), (6, .long v145), (11, .int (nI s1)), (10, .int v54), (9, .int v48), (0, .ref mo), (1, .int w), (2, .int h), (3, .long p0), (5, .int how)]) hx hb dX10_turned_148 hl (k := 4) rfl (nI_1 _) (by decide) rfl (fun ls hl => ?_)
                    refine lv_goto (tgt := 37) hx hb dX10_turned_151 (by decide) ?_
                    exact ih_37 (s1 + 1) v145 (by omega) (by omega) _ _ hP hS ls (lv_sub hl [0, 1, 5, 6, 7, 8, 9] rfl)
                · skip
                  have d99 := c99
                  rw [fa_eq] at d99
                  refine lv_iload hx hb dX10_turned_102 (lv_at hl 1 rfl) ?_
                  refine lv_iload_n hx hb dX10_turned_104 rfl (lv_at hl 6 rfl) ?_
                  refine lv_imul hx hb dX10_turned_105 ?_
                  refine lv_topi (fun v105 e105 => ?_)
                  refine lv_iload hx hb dX10_turned_106 (lv_at hl 0 rfl) ?_
                  refine lv_iadd hx hb dX10_turned_108 ?_
                  refine lv_topi (fun v108 e108 => ?_)
                  refine lv_goto (tgt := 114) hx hb dX10_turned_109 (by decide) ?_
                  refine lv_istore (lv' := [(11, .int v108), (10, .int v54), (9, .int v48), (8, .int (nI s1)), (6, .long x6), (0, .ref mo), (1, .int w), (2, .int h), (3, .long p0), (5, .int how)]) hx hb dX10_turned_114 hl (by decide) rfl (fun ls hl => ?_)
                  refine lv_lload hx hb dX10_turned_116 (lv_at hl 4 rfl) ?_
                  refine lv_iload hx hb dX10_turned_118 (lv_at hl 9 rfl) ?_
                  refine lv_iconst (v := 3) hx hb dX10_turned_120 (by decide) ?_
                  refine lv_icmp_ne (tgt := 135) hx hb dX10_turned_121 (by decide) (fun c121 => ?_) (fun c121 => ?_)
                  · skip
                    have d121 := c121
                    rw [fa_eq] at d121
                    refine lv_lload_n hx hb dX10_turned_135 rfl (lv_at hl 8 rfl) ?_
                    refine lv_iload hx hb dX10_turned_136 (lv_at hl 3 rfl) ?_
                    refine m_pu (As := [.long p0, .int (nI s1)]) (rest := [.long x6]) ⟨hx, hb, hml, hown, hts⟩ (c_X10_one l p0 (nI s1) ) (va_cwS 2 hts gX10_turned_X10_one rfl rfl rfl (by decide +kernel) ⟨Nat.le_of_ble_eq_true rfl, Nat.le_of_ble_eq_true rfl⟩) hP rfl hl.1 rfl (Nat.le_of_ble_eq_true rfl) dX10_turned_138 ⟨Nat.le_of_ble_eq_true rfl, Nat.le_of_ble_eq_true rfl⟩ hS (fun r138 H locs q138 hP hS => ?_)
                    have i138 : r138.toInt = (r_one p0 (nI s1)).toInt := congrArg Int32.toInt q138
                    refine lv_i2l (v := r138.toInt64) hx hb dX10_turned_141 rfl ?_
                    refine lv_iload hx hb dX10_turned_142 (lv_at hl 0 rfl) ?_
                    refine lv_lshl (v := r138.toInt64 <<< (v108.toInt64 &&& 63)) hx hb dX10_turned_144 rfl ?_
                    refine lv_lor hx hb dX10_turned_145 ?_
                    refine lv_topl (fun v145 e145 => ?_)
                    refine lv_lstore (lv' := [(6, .long v145), (11, .int v108), (10, .int v54), (9, .int v48), (8, .int (nI s1)), (0, .ref mo), (1, .int w), (2, .int h), (3, .long p0), (5, .int how)]) hx hb dX10_turned_146 hl (by decide) rfl (fun ls hl => ?_)
                    refine lv_iinc (v := (nI (s1 + 1))) (lv' := [(8, .int (nI (s1 + 1))), (6, .long v145), (11, .int v108), (10, .int v54), (9, .int v48), (0, .ref mo), (1, .int w), (2, .int h), (3, .long p0), (5, .int how)]) hx hb dX10_turned_148 hl (k := 4) rfl (nI_1 _) (by decide) rfl (fun ls hl => ?_)
                    refine lv_goto (tgt := 37) hx hb dX10_turned_151 (by decide) ?_
                    exact ih_37 (s1 + 1) v145 (by omega) (by omega) _ _ hP hS ls (lv_sub hl [0, 1, 5, 6, 7, 8, 9] rfl)
                  · skip
                    have d121 := c121
                    rw [fa_eq] at d121
                    refine lv_iconst (v := 1) hx hb dX10_turned_124 (by decide) ?_
                    refine lv_lload_n hx hb dX10_turned_125 rfl (lv_at hl 8 rfl) ?_
                    refine lv_iload hx hb dX10_turned_126 (lv_at hl 3 rfl) ?_
                    refine m_pu (As := [.long p0, .int (nI s1)]) (rest := [.int (1 : Int32), .long x6]) ⟨hx, hb, hml, hown, hts⟩ (c_X10_one l p0 (nI s1) ) (va_cwS 2 hts gX10_turned_X10_one rfl rfl rfl (by decide +kernel) ⟨Nat.le_of_ble_eq_true rfl, Nat.le_of_ble_eq_true rfl⟩) hP rfl hl.1 rfl (Nat.le_of_ble_eq_true rfl) dX10_turned_128 ⟨Nat.le_of_ble_eq_true rfl, Nat.le_of_ble_eq_true rfl⟩ hS (fun r128 H locs q128 hP hS => ?_)
                    have i128 : r128.toInt = (r_one p0 (nI s1)).toInt := congrArg Int32.toInt q128
                    refine lv_isub hx hb dX10_turned_131 ?_
                    refine lv_topi (fun v131 e131 => ?_)
                    refine lv_goto (tgt := 141) hx hb dX10_turned_132 (by decide) ?_
                    refine lv_i2l (v := v131.toInt64) hx hb dX10_turned_141 rfl ?_
                    refine lv_iload hx hb dX10_turned_142 (lv_at hl 0 rfl) ?_
                    refine lv_lshl (v := v131.toInt64 <<< (v108.toInt64 &&& 63)) hx hb dX10_turned_144 rfl ?_
                    refine lv_lor hx hb dX10_turned_145 ?_
                    refine lv_topl (fun v145 e145 => ?_)
                    refine lv_lstore (lv' := [(6, .long v145), (11, .int v108), (10, .int v54), (9, .int v48), (8, .int (nI s1)), (0, .ref mo), (1, .int w), (2, .int h), (3, .long p0), (5, .int how)]) hx hb dX10_turned_146 hl (by decide) rfl (fun ls hl => ?_)
                    refine lv_iinc (v := (nI (s1 + 1))) (lv' := [(8, .int (nI (s1 + 1))), (6, .long v145), (11, .int v108), (10, .int v54), (9, .int v48), (0, .ref mo), (1, .int w), (2, .int h), (3, .long p0), (5, .int how)]) hx hb dX10_turned_148 hl (k := 4) rfl (nI_1 _) (by decide) rfl (fun ls hl => ?_)
                    refine lv_goto (tgt := 37) hx hb dX10_turned_151 (by decide) ?_
                    exact ih_37 (s1 + 1) v145 (by omega) (by omega) _ _ hP hS ls (lv_sub hl [0, 1, 5, 6, 7, 8, 9] rfl)
              · skip
                have d79 := c79
                rw [fa_eq] at d79
                refine lv_iload_n hx hb dX10_turned_82 rfl (lv_at hl 6 rfl) ?_
                refine lv_iconst (v := 1) hx hb dX10_turned_83 (by decide) ?_
                refine lv_isub hx hb dX10_turned_84 ?_
                refine lv_topi (fun v84 e84 => ?_)
                refine lv_iload hx hb dX10_turned_85 (lv_at hl 0 rfl) ?_
                refine lv_isub hx hb dX10_turned_87 ?_
                refine lv_topi (fun v87 e87 => ?_)
                refine lv_iload_n hx hb dX10_turned_88 rfl (lv_at hl 5 rfl) ?_
                refine lv_imul hx hb dX10_turned_89 ?_
                refine lv_topi (fun v89 e89 => ?_)
                refine lv_iload hx hb dX10_turned_90 (lv_at hl 1 rfl) ?_
                refine lv_iadd hx hb dX10_turned_92 ?_
                refine lv_topi (fun v92 e92 => ?_)
                refine lv_goto (tgt := 114) hx hb dX10_turned_93 (by decide) ?_
                refine lv_istore (lv' := [(11, .int v92), (10, .int v54), (9, .int v48), (8, .int (nI s1)), (6, .long x6), (0, .ref mo), (1, .int w), (2, .int h), (3, .long p0), (5, .int how)]) hx hb dX10_turned_114 hl (by decide) rfl (fun ls hl => ?_)
                refine lv_lload hx hb dX10_turned_116 (lv_at hl 4 rfl) ?_
                refine lv_iload hx hb dX10_turned_118 (lv_at hl 9 rfl) ?_
                refine lv_iconst (v := 3) hx hb dX10_turned_120 (by decide) ?_
                refine lv_icmp_ne (tgt := 135) hx hb dX10_turned_121 (by decide) (fun c121 => ?_) (fun c121 => ?_)
                · skip
                  have d121 := c121
                  rw [fa_eq] at d121
                  refine lv_lload_n hx hb dX10_turned_135 rfl (lv_at hl 8 rfl) ?_
                  refine lv_iload hx hb dX10_turned_136 (lv_at hl 3 rfl) ?_
                  refine m_pu (As := [.long p0, .int (nI s1)]) (rest := [.long x6]) ⟨hx, hb, hml, hown, hts⟩ (c_X10_one l p0 (nI s1) ) (va_cwS 2 hts gX10_turned_X10_one rfl rfl rfl (by decide +kernel) ⟨Nat.le_of_ble_eq_true rfl, Nat.le_of_ble_eq_true rfl⟩) hP rfl hl.1 rfl (Nat.le_of_ble_eq_true rfl) dX10_turned_138 ⟨Nat.le_of_ble_eq_true rfl, Nat.le_of_ble_eq_true rfl⟩ hS (fun r138 H locs q138 hP hS => ?_)
                  have i138 : r138.toInt = (r_one p0 (nI s1)).toInt := congrArg Int32.toInt q138
                  refine lv_i2l (v := r138.toInt64) hx hb dX10_turned_141 rfl ?_
                  refine lv_iload hx hb dX10_turned_142 (lv_at hl 0 rfl) ?_
                  refine lv_lshl (v := r138.toInt64 <<< (v92.toInt64 &&& 63)) hx hb dX10_turned_144 rfl ?_
                  refine lv_lor hx hb dX10_turned_145 ?_
                  refine lv_topl (fun v145 e145 => ?_)
                  refine lv_lstore (lv' := [(6, .long v145), (11, .int v92), (10, .int v54), (9, .int v48), (8, .int (nI s1)), (0, .ref mo), (1, .int w), (2, .int h), (3, .long p0), (5, .int how)]) hx hb dX10_turned_146 hl (by decide) rfl (fun ls hl => ?_)
                  refine lv_iinc (v := (nI (s1 + 1))) (lv' := [(8, .int (nI (s1 + 1))), (6, .long v145), (11, .int v92), (10, .int v54), (9, .int v48), (0, .ref mo), (1, .int w), (2, .int h), (3, .long p0), (5, .int how)]) hx hb dX10_turned_148 hl (k := 4) rfl (nI_1 _) (by decide) rfl (fun ls hl => ?_)
                  refine lv_goto (tgt := 37) hx hb dX10_turned_151 (by decide) ?_
                  exact ih_37 (s1 + 1) v145 (by omega) (by omega) _ _ hP hS ls (lv_sub hl [0, 1, 5, 6, 7, 8, 9] rfl)
                · skip
                  have d121 := c121
                  rw [fa_eq] at d121
                  refine lv_iconst (v := 1) hx hb dX10_turned_124 (by decide) ?_
                  refine lv_lload_n hx hb dX10_turned_125 rfl (lv_at hl 8 rfl) ?_
                  refine lv_iload hx hb dX10_turned_126 (lv_at hl 3 rfl) ?_
                  refine m_pu (As := [.long p0, .int (nI s1)]) (rest := [.int (1 : Int32), .long x6]) ⟨hx, hb, hml, hown, hts⟩ (c_X10_one l p0 (nI s1) ) (va_cwS 2 hts gX10_turned_X10_one rfl rfl rfl (by decide +kernel) ⟨Nat.le_of_ble_eq_true rfl, Nat.le_of_ble_eq_true rfl⟩) hP rfl hl.1 rfl (Nat.le_of_ble_eq_true rfl) dX10_turned_128 ⟨Nat.le_of_ble_eq_true rfl, Nat.le_of_ble_eq_true rfl⟩ hS (fun r128 H locs q128 hP hS => ?_)
                  have i128 : r128.toInt = (r_one p0 (nI s1)).toInt := congrArg Int32.toInt q128
                  refine lv_isub hx hb dX10_turned_131 ?_
                  refine lv_topi (fun v131 e131 => ?_)
                  refine lv_goto (tgt := 141) hx hb dX10_turned_132 (by decide) ?_
                  refine lv_i2l (v := v131.toInt64) hx hb dX10_turned_141 rfl ?_
                  refine lv_iload hx hb dX10_turned_142 (lv_at hl 0 rfl) ?_
                  refine lv_lshl (v := v131.toInt64 <<< (v92.toInt64 &&& 63)) hx hb dX10_turned_144 rfl ?_
                  refine lv_lor hx hb dX10_turned_145 ?_
                  refine lv_topl (fun v145 e145 => ?_)
                  refine lv_lstore (lv' := [(6, .long v145), (11, .int v92), (10, .int v54), (9, .int v48), (8, .int (nI s1)), (0, .ref mo), (1, .int w), (2, .int h), (3, .long p0), (5, .int how)]) hx hb dX10_turned_146 hl (by decide) rfl (fun ls hl => ?_)
                  refine lv_iinc (v := (nI (s1 + 1))) (lv' := [(8, .int (nI (s1 + 1))), (6, .long v145), (11, .int v92), (10, .int v54), (9, .int v48), (0, .ref mo), (1, .int w), (2, .int h), (3, .long p0), (5, .int how)]) hx hb dX10_turned_148 hl (k := 4) rfl (nI_1 _) (by decide) rfl (fun ls hl => ?_)
                  refine lv_goto (tgt := 37) hx hb dX10_turned_151 (by decide) ?_
                  exact ih_37 (s1 + 1) v145 (by omega) (by omega) _ _ hP hS ls (lv_sub hl [0, 1, 5, 6, 7, 8, 9] rfl)
            · skip
              have d59 := c59
              rw [fa_eq] at d59
              refine lv_iload hx hb dX10_turned_62 (lv_at hl 1 rfl) ?_
              refine lv_iload_n hx hb dX10_turned_64 rfl (lv_at hl 6 rfl) ?_
              refine lv_imul hx hb dX10_turned_65 ?_
              refine lv_topi (fun v65 e65 => ?_)
              refine lv_iload_n hx hb dX10_turned_66 rfl (lv_at hl 6 rfl) ?_
              refine lv_iadd hx hb dX10_turned_67 ?_
              refine lv_topi (fun v67 e67 => ?_)
              refine lv_iconst (v := 1) hx hb dX10_turned_68 (by decide) ?_
              refine lv_isub hx hb dX10_turned_69 ?_
              refine lv_topi (fun v69 e69 => ?_)
              refine lv_iload hx hb dX10_turned_70 (lv_at hl 0 rfl) ?_
              refine lv_isub hx hb dX10_turned_72 ?_
              refine lv_topi (fun v72 e72 => ?_)
              refine lv_goto (tgt := 114) hx hb dX10_turned_73 (by decide) ?_
              refine lv_istore (lv' := [(11, .int v72), (10, .int v54), (9, .int v48), (8, .int (nI s1)), (6, .long x6), (0, .ref mo), (1, .int w), (2, .int h), (3, .long p0), (5, .int how)]) hx hb dX10_turned_114 hl (by decide) rfl (fun ls hl => ?_)
              refine lv_lload hx hb dX10_turned_116 (lv_at hl 4 rfl) ?_
              refine lv_iload hx hb dX10_turned_118 (lv_at hl 9 rfl) ?_
              refine lv_iconst (v := 3) hx hb dX10_turned_120 (by decide) ?_
              refine lv_icmp_ne (tgt := 135) hx hb dX10_turned_121 (by decide) (fun c121 => ?_) (fun c121 => ?_)
              · skip
                have d121 := c121
                rw [fa_eq] at d121
                refine lv_lload_n hx hb dX10_turned_135 rfl (lv_at hl 8 rfl) ?_
                refine lv_iload hx hb dX10_turned_136 (lv_at hl 3 rfl) ?_
                refine m_pu (As := [.long p0, .int (nI s1)]) (rest := [.long x6]) ⟨hx, hb, hml, hown, hts⟩ (c_X10_one l p0 (nI s1) ) (va_cwS 2 hts gX10_turned_X10_one rfl rfl rfl (by decide +kernel) ⟨Nat.le_of_ble_eq_true rfl, Nat.le_of_ble_eq_true rfl⟩) hP rfl hl.1 rfl (Nat.le_of_ble_eq_true rfl) dX10_turned_138 ⟨Nat.le_of_ble_eq_true rfl, Nat.le_of_ble_eq_true rfl⟩ hS (fun r138 H locs q138 hP hS => ?_)
                have i138 : r138.toInt = (r_one p0 (nI s1)).toInt := congrArg Int32.toInt q138
                refine lv_i2l (v := r138.toInt64) hx hb dX10_turned_141 rfl ?_
                refine lv_iload hx hb dX10_turned_142 (lv_at hl 0 rfl) ?_
                refine lv_lshl (v := r138.toInt64 <<< (v72.toInt64 &&& 63)) hx hb dX10_turned_144 rfl ?_
                refine lv_lor hx hb dX10_turned_145 ?_
                refine lv_topl (fun v145 e145 => ?_)
                refine lv_lstore (lv' := [(6, .long v145), (11, .int v72), (10, .int v54), (9, .int v48), (8, .int (nI s1)), (0, .ref mo), (1, .int w), (2, .int h), (3, .long p0), (5, .int how)]) hx hb dX10_turned_146 hl (by decide) rfl (fun ls hl => ?_)
                refine lv_iinc (v := (nI (s1 + 1))) (lv' := [(8, .int (nI (s1 + 1))), (6, .long v145), (11, .int v72), (10, .int v54), (9, .int v48), (0, .ref mo), (1, .int w), (2, .int h), (3, .long p0), (5, .int how)]) hx hb dX10_turned_148 hl (k := 4) rfl (nI_1 _) (by decide) rfl (fun ls hl => ?_)
                refine lv_goto (tgt := 37) hx hb dX10_turned_151 (by decide) ?_
                exact ih_37 (s1 + 1) v145 (by omega) (by omega) _ _ hP hS ls (lv_sub hl [0, 1, 5, 6, 7, 8, 9] rfl)
              · skip
                have d121 := c121
                rw [fa_eq] at d121
                refine lv_iconst (v := 1) hx hb dX10_turned_124 (by decide) ?_
                refine lv_lload_n hx hb dX10_turned_125 rfl (lv_at hl 8 rfl) ?_
                refine lv_iload hx hb dX10_turned_126 (lv_at hl 3 rfl) ?_
                refine m_pu (As := [.long p0, .int (nI s1)]) (rest := [.int (1 : Int32), .long x6]) ⟨hx, hb, hml, hown, hts⟩ (c_X10_one l p0 (nI s1) ) (va_cwS 2 hts gX10_turned_X10_one rfl rfl rfl (by decide +kernel) ⟨Nat.le_of_ble_eq_true rfl, Nat.le_of_ble_eq_true rfl⟩) hP rfl hl.1 rfl (Nat.le_of_ble_eq_true rfl) dX10_turned_128 ⟨Nat.le_of_ble_eq_true rfl, Nat.le_of_ble_eq_true rfl⟩ hS (fun r128 H locs q128 hP hS => ?_)
                have i128 : r128.toInt = (r_one p0 (nI s1)).toInt := congrArg Int32.toInt q128
                refine lv_isub hx hb dX10_turned_131 ?_
                refine lv_topi (fun v131 e131 => ?_)
                refine lv_goto (tgt := 141) hx hb dX10_turned_132 (by decide) ?_
                refine lv_i2l (v := v131.toInt64) hx hb dX10_turned_141 rfl ?_
                refine lv_iload hx hb dX10_turned_142 (lv_at hl 0 rfl) ?_
                refine lv_lshl (v := v131.toInt64 <<< (v72.toInt64 &&& 63)) hx hb dX10_turned_144 rfl ?_
                refine lv_lor hx hb dX10_turned_145 ?_
                refine lv_topl (fun v145 e145 => ?_)
                refine lv_lstore (lv' := [(6, .long v145), (11, .int v72), (10, .int v54), (9, .int v48), (8, .int (nI s1)), (0, .ref mo), (1, .int w), (2, .int h), (3, .long p0), (5, .int how)]) hx hb dX10_turned_146 hl (by decide) rfl (fun ls hl => ?_)
                refine lv_iinc (v := (nI (s1 + 1))) (lv' := [(8, .int (nI (s1 + 1))), (6, .long v145), (11, .int v72), (10, .int v54), (9, .int v48), (0, .ref mo), (1, .int w), (2, .int h), (3, .long p0), (5, .int how)]) hx hb dX10_turned_148 hl (k := 4) rfl (nI_1 _) (by decide) rfl (fun ls hl => ?_)
                refine lv_goto (tgt := 37) hx hb dX10_turned_151 (by decide) ?_
                exact ih_37 (s1 + 1) v145 (by omega) (by omega) _ _ hP hS ls (lv_sub hl [0, 1, 5, 6, 7, 8, 9] rfl)
      exact loop_37 (36 + 1) 0 (0 : Int64) (by omega) (by omega) _ _ hP hS ls (lv_sub hl [0, 1, 2, 3, 4, 5, 6] rfl)
    · skip
      have b24 := bo_f q21 c24
      refine lv_ldc2 hx hb hown (hts (.constantLong RX10 185 (-1)) (by decide +kernel)) dX10_turned_27 ?_
      exact W.lret (v := (-1 : Int64)) hx hb hr (fun t ht hW => ⟨⟨_, ((upd f 0 (0 : Int32)), g, r, q), rfl, ⟨rfl, trivial⟩, by unfold mB; rw [ht]; exact hP⟩, hS.F ht⟩) hS.2.2 dX10_turned_30
set_option maxHeartbeats 4000000 in
set_option maxRecDepth 100000 in
theorem c_X10_parts (l : Launch) (D : va_G) (cy : Nat → ClassId) (mo : Nat) (a : Nat → Nat) (f : Nat → Int32) (g : Nat → Int64) (r : Nat → Nat → Int32) (q : Nat → Nat → Int64) (w : Int32) (h : Int32) (p0 : Int64) (p1 : Int64) (ways : Int32) (hD : DM cy mo a)  : Mi l D cy mo a yX10_parts wsX10_parts ({ frames := 3, cells := 0, slots := 0, locals := 78 }) f g r q [.int w, .int h, .long p0, .long p1, .int ways] (fun r0 u => u = ((upd f 0 (0 : Int32)), g, r, q) ∧ (True)) := by
  refine Met.ofW (cc := cX10_parts) (maxL := 9) (ret := (some .int)) (by decide) rfl ?_
  intro p e s m args below meth c s₁ B hml hv
  obtain ⟨rfl, hP, hK⟩ := hv
  have hx := B.exec
  have hb := B.bytes
  have hr := B.returns
  have hts := atoms_spec (ws := wsX10_parts) B.pre
  have hin : ∀ w ∈ u_ws RX10 TX10 35, w ∈ wsX10_parts := by decide +kernel
  have hown : s.vm.findClass RX10 = some m.cls := findClass_of_methodNamed B.named
  have hlocks := B.notSynchronized
  have hS : va_S (AM mo a) s.heap s.heap [] := va_S.rf
  have hl := lv_entry ([.ref mo, .int w, .int h, .long p0, .long p1, .int ways]) (n := 9) (Nat.le_of_ble_eq_true rfl)
  rw [lg_entry_eq]
  generalize (lg_sl ([.ref mo, .int w, .int h, .long p0, .long p1, .int ways]) ++ List.replicate (9 - (lg_sl ([.ref mo, .int w, .int h, .long p0, .long p1, .int ways])).length) Slot.unset).toArray = ls at hl ⊢
  have hl : lv_has ls 9 [(0, .ref mo), (1, .int w), (2, .int h), (3, .long p0), (5, .long p1), (7, .int ways)] := hl
  have k_m2 : (-2 : Int32).toInt = -2 := by decide
  have k_m1 : (-1 : Int32).toInt = -1 := by decide
  have k_0 : (0 : Int32).toInt = 0 := by decide
  have k_1 : (1 : Int32).toInt = 1 := by decide
  have k_4 : (4 : Int32).toInt = 4 := by decide
  have k_0L : (0 : Int64).toInt = 0 := by decide
  have k_15L : (15 : Int64).toInt = 15 := by decide
  refine lv_aload_n hx hb dX10_parts_0 rfl (lv_at hl 0 rfl) ?_
  refine lv_iconst (v := 0) hx hb dX10_parts_1 (by decide) ?_
  refine m_put (v := .int (0 : Int32)) (ty := .int) hx hb hts hin hown hK hP hD hS 0 (by decide) rfl (hts (.fieldLink RX10 79 "ShadowBenchModel" "thrown" "I") (by decide +kernel)) rfl (by decide +kernel) rfl rfl (upd f 0 (0 : Int32)) g rfl dX10_parts_2 (fun H locs hP hS => ?_)
  refine lv_iload_n hx hb dX10_parts_5 rfl (lv_at hl 1 rfl) ?_
  refine lv_iload_n hx hb dX10_parts_6 rfl (lv_at hl 2 rfl) ?_
  refine lv_lload_n hx hb dX10_parts_7 rfl (lv_at hl 3 rfl) ?_
  refine m_pu (As := [.int w, .int h, .long p0]) (rest := []) ⟨hx, hb, hml, hown, hts⟩ (c_X10_isPicture l w h p0 ) (va_cwS 3 hts gX10_parts_X10_isPicture rfl rfl rfl (by decide +kernel) ⟨Nat.le_of_ble_eq_true rfl, Nat.le_of_ble_eq_true rfl⟩) hP rfl hl.1 rfl (Nat.le_of_ble_eq_true rfl) dX10_parts_8 ⟨Nat.le_of_ble_eq_true rfl, Nat.le_of_ble_eq_true rfl⟩ hS (fun r8 H locs q8 hP hS => ?_)
  refine lv_if_eq (tgt := 37) hx hb dX10_parts_11 (by decide) (fun c11 => ?_) (fun c11 => ?_)
  · skip
    have b11 := bo_f q8 c11
    refine lv_iconst (v := (-1)) hx hb dX10_parts_37 (by decide) ?_
    exact W.iret (v := ((-1) : Int32)) hx hb hr (fun t ht hW => ⟨⟨_, ((upd f 0 (0 : Int32)), g, r, q), rfl, ⟨rfl, trivial⟩, by unfold mB; rw [ht]; exact hP⟩, hS.F ht⟩) hS.2.2 dX10_parts_38
  · skip
    have b11 := bo_t q8 c11
    refine lv_iload_n hx hb dX10_parts_14 rfl (lv_at hl 1 rfl) ?_
    refine lv_iload_n hx hb dX10_parts_15 rfl (lv_at hl 2 rfl) ?_
    refine lv_lload hx hb dX10_parts_16 (lv_at hl 4 rfl) ?_
    refine m_pu (As := [.int w, .int h, .long p1]) (rest := []) ⟨hx, hb, hml, hown, hts⟩ (c_X10_isPicture l w h p1 ) (va_cwS 3 hts gX10_parts_X10_isPicture rfl rfl rfl (by decide +kernel) ⟨Nat.le_of_ble_eq_true rfl, Nat.le_of_ble_eq_true rfl⟩) hP rfl hl.1 rfl (Nat.le_of_ble_eq_true rfl) dX10_parts_18 ⟨Nat.le_of_ble_eq_true rfl, Nat.le_of_ble_eq_true rfl⟩ hS (fun r18 H locs q18 hP hS => ?_)
    refine lv_if_eq (tgt := 37) hx hb dX10_parts_21 (by decide) (fun c21 => ?_) (fun c21 => ?_)
    · skip
      have b21 := bo_f q18 c21
      refine lv_iconst (v := (-1)) hx hb dX10_parts_37 (by decide) ?_
      exact W.iret (v := ((-1) : Int32)) hx hb hr (fun t ht hW => ⟨⟨_, ((upd f 0 (0 : Int32)), g, r, q), rfl, ⟨rfl, trivial⟩, by unfold mB; rw [ht]; exact hP⟩, hS.F ht⟩) hS.2.2 dX10_parts_38
    · skip
      have b21 := bo_t q18 c21
      refine lv_iload hx hb dX10_parts_24 (lv_at hl 5 rfl) ?_
      refine lv_i2l (v := ways.toInt64) hx hb dX10_parts_26 rfl ?_
      refine lv_lconst (v := 0) hx hb dX10_parts_27 (by decide) ?_
      refine lv_ldc2 hx hb hown (hts (.constantLong RX10 228 (15)) (by decide +kernel)) dX10_parts_28 ?_
      refine m_pu (As := [.long (ways.toInt64), .long (0 : Int64), .long (15 : Int64)]) (rest := []) ⟨hx, hb, hml, hown, hts⟩ (c_X10_isIn l ways.toInt64 (0 : Int64) (15 : Int64) ) (va_cwS 3 hts gX10_parts_X10_isIn rfl rfl rfl (by decide +kernel) ⟨Nat.le_of_ble_eq_true rfl, Nat.le_of_ble_eq_true rfl⟩) hP rfl hl.1 rfl (Nat.le_of_ble_eq_true rfl) dX10_parts_31 ⟨Nat.le_of_ble_eq_true rfl, Nat.le_of_ble_eq_true rfl⟩ hS (fun r31 H locs q31 hP hS => ?_)
      have q31 := q31
      simp only [k64, show (0 : Int64).toInt = 0 from rfl, show (1 : Int64).toInt = 1 from rfl, show (2 : Int64).toInt = 2 from rfl, show (3 : Int64).toInt = 3 from rfl, show (6 : Int64).toInt = 6 from rfl] at q31
      refine lv_if_ne (tgt := 39) hx hb dX10_parts_34 (by decide) (fun c34 => ?_) (fun c34 => ?_)
      · skip
        have b34 := bo_t q31 c34
        refine lv_iconst (v := 0) hx hb dX10_parts_39 (by decide) ?_
        refine lv_istore (lv' := [(8, .int (0 : Int32)), (0, .ref mo), (1, .int w), (2, .int h), (3, .long p0), (5, .long p1), (7, .int ways)]) hx hb dX10_parts_40 hl (by decide) rfl (fun ls hl => ?_)
        have loop_42 : ∀ (n : Nat) (k : Nat), (k ≤ 4) → 4 - k < n → ∀ (H : Heap) (locs : List Loc), va_P D vwCl (WM cy mo a (upd f 0 (0 : Int32)) g r q) H → va_S (AM mo a) s.heap H locs → ∀ (ls : Array Slot), lv_has ls 9 [(8, .int (nI k)), (0, .ref mo), (1, .int w), (2, .int h), (3, .long p0), (5, .long p1), (7, .int ways)] → W p l e (headSpec wsX10_parts ({ frames := 3, cells := 0, slots := 0, locals := 78 })).room s m #[Value.ref mo, Value.int w, Value.int h, Value.long p0, Value.long p1, Value.int ways] below meth c H locs 0 0 (MQ below (va_Qi (fun r0 u => u = ((upd f 0 (0 : Int32)), g, r, q) ∧ (True)) (mB D cy mo a) (AM mo a)) #[Value.ref mo, Value.int w, Value.int h, Value.long p0, Value.long p1, Value.int ways] s 0 0 (AM mo a)) (F0 m 42 ls []) := by
          intro n
          induction n with
          | zero => intro k  j42_0 hn; exact absurd hn (Nat.not_lt_zero _)
          | succ n ih_42 =>
            intro k  j42_0 hn_42 H locs hP hS ls hl
            have ik : (nI k).toInt = (k : Int) := nI_toInt (by omega)
            refine lv_iload hx hb dX10_parts_42 (lv_at hl 0 rfl) ?_
            refine lv_iconst (v := 4) hx hb dX10_parts_44 (by decide) ?_
            refine lv_icmp_ge (tgt := 81) hx hb dX10_parts_45 (by decide) (fun c45 => ?_) (fun c45 => ?_)
            · skip
              have d45 := c45
              rw [fa_le] at d45
              refine lv_bipush (v := (-2)) hx hb dX10_parts_81 (by decide) ?_
              exact W.iret (v := ((-2) : Int32)) hx hb hr (fun t ht hW => ⟨⟨_, ((upd f 0 (0 : Int32)), g, r, q), rfl, ⟨rfl, trivial⟩, by unfold mB; rw [ht]; exact hP⟩, hS.F ht⟩) hS.2.2 dX10_parts_83
            · skip
              have d45 := c45
              rw [fa_le] at d45
              refine lv_iload hx hb dX10_parts_48 (lv_at hl 6 rfl) ?_
              refine lv_iload hx hb dX10_parts_50 (lv_at hl 0 rfl) ?_
              refine lv_ishr hx hb dX10_parts_52 ?_
              refine lv_topi (fun v52 e52 => ?_)
              refine lv_iconst (v := 1) hx hb dX10_parts_53 (by decide) ?_
              refine lv_iand hx hb dX10_parts_54 ?_
              refine lv_topi (fun v54 e54 => ?_)
              refine lv_iconst (v := 1) hx hb dX10_parts_55 (by decide) ?_
              refine lv_icmp_ne (tgt := 75) hx hb dX10_parts_56 (by decide) (fun c56 => ?_) (fun c56 => ?_)
              · skip
                have d56 := c56
                rw [fa_eq] at d56
                refine lv_iinc (v := (nI (k + 1))) (lv' := [(8, .int (nI (k + 1))), (0, .ref mo), (1, .int w), (2, .int h), (3, .long p0), (5, .long p1), (7, .int ways)]) hx hb dX10_parts_75 hl (k := 0) rfl (nI_1 _) (by decide) rfl (fun ls hl => ?_)
                refine lv_goto (tgt := 42) hx hb dX10_parts_78 (by decide) ?_
                exact ih_42 (k + 1) (by omega) (by omega) _ _ hP hS ls (lv_sub hl [0, 1, 2, 3, 4, 5, 6] rfl)
              · skip
                have d56 := c56
                rw [fa_eq] at d56
                refine lv_iload_n hx hb dX10_parts_59 rfl (lv_at hl 2 rfl) ?_
                refine lv_iload_n hx hb dX10_parts_60 rfl (lv_at hl 3 rfl) ?_
                refine lv_lload_n hx hb dX10_parts_61 rfl (lv_at hl 4 rfl) ?_
                refine lv_lload hx hb dX10_parts_62 (lv_at hl 5 rfl) ?_
                refine lv_iload hx hb dX10_parts_64 (lv_at hl 0 rfl) ?_
                refine m_pu (As := [.int w, .int h, .long p0, .long p1, .int (nI k)]) (rest := []) ⟨hx, hb, hml, hown, hts⟩ (c_X10_areAlike l w h p0 p1 (nI k) b11.1.1 b11.1.2) (va_cwS 5 hts gX10_parts_X10_areAlike rfl rfl rfl (by decide +kernel) ⟨Nat.le_of_ble_eq_true rfl, Nat.le_of_ble_eq_true rfl⟩) hP rfl hl.1 rfl (Nat.le_of_ble_eq_true rfl) dX10_parts_66 ⟨Nat.le_of_ble_eq_true rfl, Nat.le_of_ble_eq_true rfl⟩ hS (fun r66 H locs q66 hP hS => ?_)
                refine lv_if_ne (tgt := 75) hx hb dX10_parts_69 (by decide) (fun c69 => ?_) (fun c69 => ?_)
                · skip
                  have d69 := c69
                  rw [fa_eq] at d69
                  refine lv_iinc (v := (nI (k + 1))) (lv' := [(8, .int (nI (k + 1))), (0, .ref mo), (1, .int w), (2, .int h), (3, .long p0), (5, .long p1), (7, .int ways)]) hx hb dX10_parts_75 hl (k := 0) rfl (nI_1 _) (by decide) rfl (fun ls hl => ?_)
                  refine lv_goto (tgt := 42) hx hb dX10_parts_78 (by decide) ?_
                  exact ih_42 (k + 1) (by omega) (by omega) _ _ hP hS ls (lv_sub hl [0, 1, 2, 3, 4, 5, 6] rfl)
                · skip
                  have d69 := c69
                  rw [fa_eq] at d69
                  refine lv_iload hx hb dX10_parts_72 (lv_at hl 0 rfl) ?_
                  exact W.iret (v := (nI k)) hx hb hr (fun t ht hW => ⟨⟨_, ((upd f 0 (0 : Int32)), g, r, q), rfl, ⟨rfl, trivial⟩, by unfold mB; rw [ht]; exact hP⟩, hS.F ht⟩) hS.2.2 dX10_parts_74
        exact loop_42 (4 + 1) 0 (by omega) (by omega) _ _ hP hS ls (lv_sub hl [0, 1, 2, 3, 4, 5, 6] rfl)
      · skip
        have b34 := bo_f q31 c34
        refine lv_iconst (v := (-1)) hx hb dX10_parts_37 (by decide) ?_
        exact W.iret (v := ((-1) : Int32)) hx hb hr (fun t ht hW => ⟨⟨_, ((upd f 0 (0 : Int32)), g, r, q), rfl, ⟨rfl, trivial⟩, by unfold mB; rw [ht]; exact hP⟩, hS.F ht⟩) hS.2.2 dX10_parts_38
set_option maxHeartbeats 4000000 in
set_option maxRecDepth 100000 in
theorem c_X10_list (l : Launch) (D : va_G) (cy : Nat → ClassId) (mo : Nat) (a : Nat → Nat) (f : Nat → Int32) (g : Nat → Int64) (r : Nat → Nat → Int32) (q : Nat → Nat → Int64) (w : Int32) (h : Int32) (p0 : Int64) (hD : DM cy mo a) (hI : MI f r) : Mi l D cy mo a yX10_list wsX10_list ({ frames := 3, cells := 0, slots := 0, locals := 69 }) f g r q [.int w, .int h, .long p0] (fun r0 u => ∃ (lc : Int32), ∃ (lw : Int32), ∃ (lh : Int32), ∃ (ls1 : Nat → Int64), u = ((upd (upd (upd (upd f 0 (0 : Int32)) 23 lc) 24 lw) 25 lh), g, r, (va_up q 26 ls1)) ∧ (MI (upd (upd (upd (upd f 0 (0 : Int32)) 23 lc) 24 lw) 25 lh) r)) := by
  refine Met.ofW (cc := cX10_list) (maxL := 7) (ret := (some .int)) (by decide) rfl ?_
  intro p e s m args below meth c s₁ B hml hv
  obtain ⟨rfl, hP, hK⟩ := hv
  have hx := B.exec
  have hb := B.bytes
  have hr := B.returns
  have hts := atoms_spec (ws := wsX10_list) B.pre
  have hin : ∀ w ∈ u_ws RX10 TX10 35, w ∈ wsX10_list := by decide +kernel
  have hown : s.vm.findClass RX10 = some m.cls := findClass_of_methodNamed B.named
  have hlocks := B.notSynchronized
  have hS : va_S (AM mo a) s.heap s.heap [] := va_S.rf
  have hl := lv_entry ([.ref mo, .int w, .int h, .long p0]) (n := 7) (Nat.le_of_ble_eq_true rfl)
  rw [lg_entry_eq]
  generalize (lg_sl ([.ref mo, .int w, .int h, .long p0]) ++ List.replicate (7 - (lg_sl ([.ref mo, .int w, .int h, .long p0])).length) Slot.unset).toArray = ls at hl ⊢
  have hl : lv_has ls 7 [(0, .ref mo), (1, .int w), (2, .int h), (3, .long p0)] := hl
  have k_m3 : (-3 : Int32).toInt = -3 := by decide
  have k_m2 : (-2 : Int32).toInt = -2 := by decide
  have k_m1 : (-1 : Int32).toInt = -1 := by decide
  have k_0 : (0 : Int32).toInt = 0 := by decide
  have k_1 : (1 : Int32).toInt = 1 := by decide
  have k_12 : (12 : Int32).toInt = 12 := by decide
  have hI1 := hI.2.2.1
  refine lv_aload_n hx hb dX10_list_0 rfl (lv_at hl 0 rfl) ?_
  refine lv_iconst (v := 0) hx hb dX10_list_1 (by decide) ?_
  refine m_put (v := .int (0 : Int32)) (ty := .int) hx hb hts hin hown hK hP hD hS 0 (by decide) rfl (hts (.fieldLink RX10 79 "ShadowBenchModel" "thrown" "I") (by decide +kernel)) rfl (by decide +kernel) rfl rfl (upd f 0 (0 : Int32)) g rfl dX10_list_2 (fun H locs hP hS => ?_)
  refine lv_iload_n hx hb dX10_list_5 rfl (lv_at hl 1 rfl) ?_
  refine lv_iload_n hx hb dX10_list_6 rfl (lv_at hl 2 rfl) ?_
  refine lv_lload_n hx hb dX10_list_7 rfl (lv_at hl 3 rfl) ?_
  refine m_pu (As := [.int w, .int h, .long p0]) (rest := []) ⟨hx, hb, hml, hown, hts⟩ (c_X10_isPicture l w h p0 ) (va_cwS 3 hts gX10_list_X10_isPicture rfl rfl rfl (by decide +kernel) ⟨Nat.le_of_ble_eq_true rfl, Nat.le_of_ble_eq_true rfl⟩) hP rfl hl.1 rfl (Nat.le_of_ble_eq_true rfl) dX10_list_8 ⟨Nat.le_of_ble_eq_true rfl, Nat.le_of_ble_eq_true rfl⟩ hS (fun r8 H locs q8 hP hS => ?_)
  refine lv_if_ne (tgt := 16) hx hb dX10_list_11 (by decide) (fun c11 => ?_) (fun c11 => ?_)
  · skip
    have b11 := bo_t q8 c11
    refine lv_aload_n hx hb dX10_list_16 rfl (lv_at hl 0 rfl) ?_
    refine m_get (v := .int (f 23)) hx hb hts hin hown hK hP 23 (by decide) rfl (hts (.fieldLink RX10 230 "ShadowBenchModel" "listed" "I") (by decide +kernel)) rfl dX10_list_17 ?_
    refine lv_bipush (v := 12) hx hb dX10_list_20 (by decide) ?_
    refine lv_icmp_ne (tgt := 28) hx hb dX10_list_22 (by decide) (fun c22 => ?_) (fun c22 => ?_)
    · skip
      have d22 := c22
      rw [fa_eq] at d22
      refine lv_aload_n hx hb dX10_list_28 rfl (lv_at hl 0 rfl) ?_
      refine m_get (v := .int (f 23)) hx hb hts hin hown hK hP 23 (by decide) rfl (hts (.fieldLink RX10 230 "ShadowBenchModel" "listed" "I") (by decide +kernel)) rfl dX10_list_29 ?_
      refine lv_if_le (tgt := 55) hx hb dX10_list_32 (by decide) (fun c32 => ?_) (fun c32 => ?_)
      · skip
        have d32 := c32
        rw [fa_le] at d32
        refine lv_iconst (v := 0) hx hb dX10_list_55 (by decide) ?_
        refine lv_istore (lv' := [(5, .int (0 : Int32)), (0, .ref mo), (1, .int w), (2, .int h), (3, .long p0)]) hx hb dX10_list_56 hl (by decide) rfl (fun ls hl => ?_)
        refine lv_iconst (v := 0) hx hb dX10_list_58 (by decide) ?_
        refine lv_istore (lv' := [(6, .int (0 : Int32)), (5, .int (0 : Int32)), (0, .ref mo), (1, .int w), (2, .int h), (3, .long p0)]) hx hb dX10_list_59 hl (by decide) rfl (fun ls hl => ?_)
        have loop_61 : ∀ (n : Nat) (k : Nat) (x5 : Int32), (k ≤ 12) → 12 - k < n → ∀ (H : Heap) (locs : List Loc), va_P D vwCl (WM cy mo a (upd f 0 (0 : Int32)) g r q) H → va_S (AM mo a) s.heap H locs → ∀ (ls : Array Slot), lv_has ls 7 [(6, .int (nI k)), (5, .int x5), (0, .ref mo), (1, .int w), (2, .int h), (3, .long p0)] → W p l e (headSpec wsX10_list ({ frames := 3, cells := 0, slots := 0, locals := 69 })).room s m #[Value.ref mo, Value.int w, Value.int h, Value.long p0] below meth c H locs 0 0 (MQ below (va_Qi (fun r0 u => ∃ (lc : Int32), ∃ (lw : Int32), ∃ (lh : Int32), ∃ (ls1 : Nat → Int64), u = ((upd (upd (upd (upd f 0 (0 : Int32)) 23 lc) 24 lw) 25 lh), g, r, (va_up q 26 ls1)) ∧ (MI (upd (upd (upd (upd f 0 (0 : Int32)) 23 lc) 24 lw) 25 lh) r)) (mB D cy mo a) (AM mo a)) #[Value.ref mo, Value.int w, Value.int h, Value.long p0] s 0 0 (AM mo a)) (F0 m 61 ls []) := by
          intro n
          induction n with
          | zero => intro k x5  j61_0 hn; exact absurd hn (Nat.not_lt_zero _)
          | succ n ih_61 =>
            intro k x5  j61_0 hn_61 H locs hP hS ls hl
            have ik : (nI k).toInt = (k : Int) := nI_toInt (by omega)
            refine lv_iload hx hb dX10_list_61 (lv_at hl 0 rfl) ?_
            refine lv_aload_n hx hb dX10_list_63 rfl (lv_at hl 2 rfl) ?_
            refine m_get (v := .int (f 23)) hx hb hts hin hown hK hP 23 (by decide) rfl (hts (.fieldLink RX10 230 "ShadowBenchModel" "listed" "I") (by decide +kernel)) rfl dX10_list_64 ?_
            refine lv_icmp_ge (tgt := 100) hx hb dX10_list_67 (by decide) (fun c67 => ?_) (fun c67 => ?_)
            · skip
              have d67 := c67
              rw [fa_le] at d67
              refine lv_iload hx hb dX10_list_100 (lv_at hl 1 rfl) ?_
              refine lv_if_eq (tgt := 108) hx hb dX10_list_102 (by decide) (fun c102 => ?_) (fun c102 => ?_)
              · skip
                have d102 := c102
                rw [fa_eq] at d102
                refine lv_aload_n hx hb dX10_list_108 rfl (lv_at hl 2 rfl) ?_
                refine lv_iload_n hx hb dX10_list_109 rfl (lv_at hl 3 rfl) ?_
                refine m_put (v := .int w) (ty := .int) hx hb hts hin hown hK hP hD hS 24 (by decide) rfl (hts (.fieldLink RX10 233 "ShadowBenchModel" "listWide" "I") (by decide +kernel)) rfl (by decide +kernel) rfl rfl (upd (upd f 0 (0 : Int32)) 24 w) g rfl dX10_list_110 (fun H locs hP hS => ?_)
                refine lv_aload_n hx hb dX10_list_113 rfl (lv_at hl 2 rfl) ?_
                refine lv_iload_n hx hb dX10_list_114 rfl (lv_at hl 4 rfl) ?_
                refine m_put (v := .int h) (ty := .int) hx hb hts hin hown hK hP hD hS 25 (by decide) rfl (hts (.fieldLink RX10 236 "ShadowBenchModel" "listHigh" "I") (by decide +kernel)) rfl (by decide +kernel) rfl rfl (upd (upd (upd f 0 (0 : Int32)) 24 w) 25 h) g rfl dX10_list_115 (fun H locs hP hS => ?_)
                refine lv_aload_n hx hb dX10_list_118 rfl (lv_at hl 2 rfl) ?_
                refine m_get (v := .ref (a 26)) hx hb hts hin hown hK hP 26 (by decide) rfl (hts (.fieldLink RX10 52 "ShadowBenchModel" "list" "[J") (by decide +kernel)) rfl dX10_list_119 ?_
                refine lv_aload_n hx hb dX10_list_122 rfl (lv_at hl 2 rfl) ?_
                refine m_get (v := .int (f 23)) hx hb hts hin hown hK hP 23 (by decide) rfl (hts (.fieldLink RX10 230 "ShadowBenchModel" "listed" "I") (by decide +kernel)) rfl dX10_list_123 ?_
                refine lv_lload_n hx hb dX10_list_126 rfl (lv_at hl 5 rfl) ?_
                refine m_last (w := (q 26)) hx hb hK hP hD hS 14 rfl (vp_in_iff.mpr ⟨by omega, by omega⟩) (va_up q 26 (vp_updL (q 26) (f 23).toNatClampNeg p0)) (ms_26 cy mo a _ _ _ _ _) dX10_list_127 (fun H locs hP hS => ?_)
                refine lv_aload_n hx hb dX10_list_128 rfl (lv_at hl 2 rfl) ?_
                refine lv_dup hx hb dX10_list_129 rfl ?_
                refine m_get (v := .int (f 23)) hx hb hts hin hown hK hP 23 (by decide) rfl (hts (.fieldLink RX10 230 "ShadowBenchModel" "listed" "I") (by decide +kernel)) rfl dX10_list_130 ?_
                refine lv_iconst (v := 1) hx hb dX10_list_133 (by decide) ?_
                refine lv_iadd hx hb dX10_list_134 ?_
                refine lv_topi (fun v134 e134 => ?_)
                have i134 : v134.toInt = (f 23).toInt + (1 : Int32).toInt := by rw [e134]; exact fb_addI (by omega) (by omega)
                refine m_put (v := .int v134) (ty := .int) hx hb hts hin hown hK hP hD hS 23 (by decide) rfl (hts (.fieldLink RX10 230 "ShadowBenchModel" "listed" "I") (by decide +kernel)) rfl (by decide +kernel) rfl rfl (upd (upd (upd (upd f 0 (0 : Int32)) 24 w) 25 h) 23 v134) g rfl dX10_list_135 (fun H locs hP hS => ?_)
                refine lv_aload_n hx hb dX10_list_138 rfl (lv_at hl 2 rfl) ?_
                refine m_get (v := .int v134) hx hb hts hin hown hK hP 23 (by decide) rfl (hts (.fieldLink RX10 230 "ShadowBenchModel" "listed" "I") (by decide +kernel)) rfl dX10_list_139 ?_
                have hP := wm_eq (ec_f_0_24_25_23__0_23_24_25 f (0 : Int32) w h v134) rfl rfl (ec_q_26__26 q ((vp_updL (q 26) (f 23).toNatClampNeg p0))) hP
                exact W.iret (v := v134) hx hb hr (fun t ht hW => ⟨⟨_, ((upd (upd (upd (upd f 0 (0 : Int32)) 23 v134) 24 w) 25 h), g, r, (va_up q 26 (((vp_updL (q 26) (f 23).toNatClampNeg p0))))), rfl, ⟨v134, w, h, ((vp_updL (q 26) (f 23).toNatClampNeg p0)), rfl, by first | exact hI | exact mi_li hI rfl (show 0 ≤ v134.toInt ∧ v134.toInt ≤ 12 by omega) (fun _ => ⟨show 1 ≤ w.toInt ∧ w.toInt ≤ 6 by omega, show 1 ≤ h.toInt ∧ h.toInt ≤ 6 by omega⟩) rfl rfl rfl rfl⟩, by unfold mB; rw [ht]; exact hP⟩, hS.F ht⟩) hS.2.2 dX10_list_142
              · skip
                have d102 := c102
                rw [fa_eq] at d102
                refine lv_bipush (v := (-3)) hx hb dX10_list_105 (by decide) ?_
                have hP := wm_eq (ec_f_0__0_23_24_25 f (0 : Int32)) rfl rfl (ec_q___26 q ) hP
                exact W.iret (v := ((-3) : Int32)) hx hb hr (fun t ht hW => ⟨⟨_, ((upd (upd (upd (upd f 0 (0 : Int32)) 23 (f 23)) 24 (f 24)) 25 (f 25)), g, r, (va_up q 26 (q 26))), rfl, ⟨(f 23), (f 24), (f 25), (q 26), rfl, by first | exact hI | exact mi_li hI rfl (show 0 ≤ (f 23).toInt ∧ (f 23).toInt ≤ 12 by omega) (fun _ => ⟨show 1 ≤ (f 24).toInt ∧ (f 24).toInt ≤ 6 by omega, show 1 ≤ (f 25).toInt ∧ (f 25).toInt ≤ 6 by omega⟩) rfl rfl rfl rfl⟩, by unfold mB; rw [ht]; exact hP⟩, hS.F ht⟩) hS.2.2 dX10_list_107
            · skip
              have d67 := c67
              rw [fa_le] at d67
              refine lv_iload hx hb dX10_list_70 (lv_at hl 1 rfl) ?_
              refine lv_if_ne (tgt := 87) hx hb dX10_list_72 (by decide) (fun c72 => ?_) (fun c72 => ?_)
              · skip
                have d72 := c72
                rw [fa_eq] at d72
                refine lv_iconst (v := 1) hx hb dX10_list_87 (by decide) ?_
                refine lv_goto (tgt := 92) hx hb dX10_list_88 (by decide) ?_
                refine lv_istore (lv' := [(5, .int (1 : Int32)), (6, .int (nI k)), (0, .ref mo), (1, .int w), (2, .int h), (3, .long p0)]) hx hb dX10_list_92 hl (by decide) rfl (fun ls hl => ?_)
                refine lv_iinc (v := (nI (k + 1))) (lv' := [(6, .int (nI (k + 1))), (5, .int (1 : Int32)), (0, .ref mo), (1, .int w), (2, .int h), (3, .long p0)]) hx hb dX10_list_94 hl (k := 1) rfl (nI_1 _) (by decide) rfl (fun ls hl => ?_)
                refine lv_goto (tgt := 61) hx hb dX10_list_97 (by decide) ?_
                exact ih_61 (k + 1) (1 : Int32) (by omega) (by omega) _ _ hP hS ls (lv_sub hl [0, 1, 2, 3, 4, 5] rfl)
              · skip
                have d72 := c72
                rw [fa_eq] at d72
                refine lv_aload_n hx hb dX10_list_75 rfl (lv_at hl 2 rfl) ?_
                refine m_get (v := .ref (a 26)) hx hb hts hin hown hK hP 26 (by decide) rfl (hts (.fieldLink RX10 52 "ShadowBenchModel" "list" "[J") (by decide +kernel)) rfl dX10_list_76 ?_
                refine lv_iload hx hb dX10_list_79 (lv_at hl 0 rfl) ?_
                refine m_lald (w := (q 26)) hx hb hK hP 14 rfl (vp_in_iff.mpr ⟨by omega, by omega⟩) dX10_list_81 ?_
                refine lv_topl (fun v81 e81 => ?_)
                refine lv_lload_n hx hb dX10_list_82 rfl (lv_at hl 5 rfl) ?_
                refine W.lcmp hx hb dX10_list_83 ?_
                refine lv_if_ne (tgt := 91) hx hb dX10_list_84 (by decide) (fun c84 => ?_) (fun c84 => ?_)
                · skip
                  have d84 := c84
                  rw [lg_cmp_eq, fa_eq64] at d84
                  refine lv_iconst (v := 0) hx hb dX10_list_91 (by decide) ?_
                  refine lv_istore (lv' := [(5, .int (0 : Int32)), (6, .int (nI k)), (0, .ref mo), (1, .int w), (2, .int h), (3, .long p0)]) hx hb dX10_list_92 hl (by decide) rfl (fun ls hl => ?_)
                  refine lv_iinc (v := (nI (k + 1))) (lv' := [(6, .int (nI (k + 1))), (5, .int (0 : Int32)), (0, .ref mo), (1, .int w), (2, .int h), (3, .long p0)]) hx hb dX10_list_94 hl (k := 1) rfl (nI_1 _) (by decide) rfl (fun ls hl => ?_)
                  refine lv_goto (tgt := 61) hx hb dX10_list_97 (by decide) ?_
                  exact ih_61 (k + 1) (0 : Int32) (by omega) (by omega) _ _ hP hS ls (lv_sub hl [0, 1, 2, 3, 4, 5] rfl)
                · skip
                  have d84 := c84
                  rw [lg_cmp_eq, fa_eq64] at d84
                  refine lv_iconst (v := 1) hx hb dX10_list_87 (by decide) ?_
                  refine lv_goto (tgt := 92) hx hb dX10_list_88 (by decide) ?_
                  refine lv_istore (lv' := [(5, .int (1 : Int32)), (6, .int (nI k)), (0, .ref mo), (1, .int w), (2, .int h), (3, .long p0)]) hx hb dX10_list_92 hl (by decide) rfl (fun ls hl => ?_)
                  refine lv_iinc (v := (nI (k + 1))) (lv' := [(6, .int (nI (k + 1))), (5, .int (1 : Int32)), (0, .ref mo), (1, .int w), (2, .int h), (3, .long p0)]) hx hb dX10_list_94 hl (k := 1) rfl (nI_1 _) (by decide) rfl (fun ls hl => ?_)
                  refine lv_goto (tgt := 61) hx hb dX10_list_97 (by decide) ?_
                  exact ih_61 (k + 1) (1 : Int32) (by omega) (by omega) _ _ hP hS ls (lv_sub hl [0, 1, 2, 3, 4, 5] rfl)
        exact loop_61 (12 + 1) 0 (0 : Int32) (by omega) (by omega) _ _ hP hS ls (lv_sub hl [0, 1, 2, 3, 4, 5] rfl)
      · skip
        have d32 := c32
        rw [fa_le] at d32
        refine lv_iload_n hx hb dX10_list_35 rfl (lv_at hl 1 rfl) ?_
        refine lv_aload_n hx hb dX10_list_36 rfl (lv_at hl 0 rfl) ?_
        refine m_get (v := .int (f 24)) hx hb hts hin hown hK hP 24 (by decide) rfl (hts (.fieldLink RX10 233 "ShadowBenchModel" "listWide" "I") (by decide +kernel)) rfl dX10_list_37 ?_
        refine lv_icmp_ne (tgt := 51) hx hb dX10_list_40 (by decide) (fun c40 => ?_) (fun c40 => ?_)
        · skip
          have d40 := c40
          rw [fa_eq] at d40
          refine lv_iconst (v := 1) hx hb dX10_list_51 (by decide) ?_
          refine lv_goto (tgt := 56) hx hb dX10_list_52 (by decide) ?_
          refine lv_istore (lv' := [(5, .int (1 : Int32)), (0, .ref mo), (1, .int w), (2, .int h), (3, .long p0)]) hx hb dX10_list_56 hl (by decide) rfl (fun ls hl => ?_)
          refine lv_iconst (v := 0) hx hb dX10_list_58 (by decide) ?_
          refine lv_istore (lv' := [(6, .int (0 : Int32)), (5, .int (1 : Int32)), (0, .ref mo), (1, .int w), (2, .int h), (3, .long p0)]) hx hb dX10_list_59 hl (by decide) rfl (fun ls hl => ?_)
          have loop_61 : ∀ (n : Nat) (k : Nat) (x5 : Int32), (k ≤ 12) → 12 - k < n → ∀ (H : Heap) (locs : List Loc), va_P D vwCl (WM cy mo a (upd f 0 (0 : Int32)) g r q) H → va_S (AM mo a) s.heap H locs → ∀ (ls : Array Slot), lv_has ls 7 [(6, .int (nI k)), (5, .int x5), (0, .ref mo), (1, .int w), (2, .int h), (3, .long p0)] → W p l e (headSpec wsX10_list ({ frames := 3, cells := 0, slots := 0, locals := 69 })).room s m #[Value.ref mo, Value.int w, Value.int h, Value.long p0] below meth c H locs 0 0 (MQ below (va_Qi (fun r0 u => ∃ (lc : Int32), ∃ (lw : Int32), ∃ (lh : Int32), ∃ (ls1 : Nat → Int64), u = ((upd (upd (upd (upd f 0 (0 : Int32)) 23 lc) 24 lw) 25 lh), g, r, (va_up q 26 ls1)) ∧ (MI (upd (upd (upd (upd f 0 (0 : Int32)) 23 lc) 24 lw) 25 lh) r)) (mB D cy mo a) (AM mo a)) #[Value.ref mo, Value.int w, Value.int h, Value.long p0] s 0 0 (AM mo a)) (F0 m 61 ls []) := by
            intro n
            induction n with
            | zero => intro k x5  j61_0 hn; exact absurd hn (Nat.not_lt_zero _)
            | succ n ih_61 =>
              intro k x5  j61_0 hn_61 H locs hP hS ls hl
              have ik : (nI k).toInt = (k : Int) := nI_toInt (by omega)
              refine lv_iload hx hb dX10_list_61 (lv_at hl 0 rfl) ?_
              refine lv_aload_n hx hb dX10_list_63 rfl (lv_at hl 2 rfl) ?_
              refine m_get (v := .int (f 23)) hx hb hts hin hown hK hP 23 (by decide) rfl (hts (.fieldLink RX10 230 "ShadowBenchModel" "listed" "I") (by decide +kernel)) rfl dX10_list_64 ?_
              refine lv_icmp_ge (tgt := 100) hx hb dX10_list_67 (by decide) (fun c67 => ?_) (fun c67 => ?_)
              · skip
                have d67 := c67
                rw [fa_le] at d67
                refine lv_iload hx hb dX10_list_100 (lv_at hl 1 rfl) ?_
                refine lv_if_eq (tgt := 108) hx hb dX10_list_102 (by decide) (fun c102 => ?_) (fun c102 => ?_)
                · skip
                  have d102 := c102
                  rw [fa_eq] at d102
                  refine lv_aload_n hx hb dX10_list_108 rfl (lv_at hl 2 rfl) ?_
                  refine lv_iload_n hx hb dX10_list_109 rfl (lv_at hl 3 rfl) ?_
                  refine m_put (v := .int w) (ty := .int) hx hb hts hin hown hK hP hD hS 24 (by decide) rfl (hts (.fieldLink RX10 233 "ShadowBenchModel" "listWide" "I") (by decide +kernel)) rfl (by decide +kernel) rfl rfl (upd (upd f 0 (0 : Int32)) 24 w) g rfl dX10_list_110 (fun H locs hP hS => ?_)
                  refine lv_aload_n hx hb dX10_list_113 rfl (lv_at hl 2 rfl) ?_
                  refine lv_iload_n hx hb dX10_list_114 rfl (lv_at hl 4 rfl) ?_
                  refine m_put (v := .int h) (ty := .int) hx hb hts hin hown hK hP hD hS 25 (by decide) rfl (hts (.fieldLink RX10 236 "ShadowBenchModel" "listHigh" "I") (by decide +kernel)) rfl (by decide +kernel) rfl rfl (upd (upd (upd f 0 (0 : Int32)) 24 w) 25 h) g rfl dX10_list_115 (fun H locs hP hS => ?_)
                  refine lv_aload_n hx hb dX10_list_118 rfl (lv_at hl 2 rfl) ?_
                  refine m_get (v := .ref (a 26)) hx hb hts hin hown hK hP 26 (by decide) rfl (hts (.fieldLink RX10 52 "ShadowBenchModel" "list" "[J") (by decide +kernel)) rfl dX10_list_119 ?_
                  refine lv_aload_n hx hb dX10_list_122 rfl (lv_at hl 2 rfl) ?_
                  refine m_get (v := .int (f 23)) hx hb hts hin hown hK hP 23 (by decide) rfl (hts (.fieldLink RX10 230 "ShadowBenchModel" "listed" "I") (by decide +kernel)) rfl dX10_list_123 ?_
                  refine lv_lload_n hx hb dX10_list_126 rfl (lv_at hl 5 rfl) ?_
                  refine m_last (w := (q 26)) hx hb hK hP hD hS 14 rfl (vp_in_iff.mpr ⟨by omega, by omega⟩) (va_up q 26 (vp_updL (q 26) (f 23).toNatClampNeg p0)) (ms_26 cy mo a _ _ _ _ _) dX10_list_127 (fun H locs hP hS => ?_)
                  refine lv_aload_n hx hb dX10_list_128 rfl (lv_at hl 2 rfl) ?_
                  refine lv_dup hx hb dX10_list_129 rfl ?_
                  refine m_get (v := .int (f 23)) hx hb hts hin hown hK hP 23 (by decide) rfl (hts (.fieldLink RX10 230 "ShadowBenchModel" "listed" "I") (by decide +kernel)) rfl dX10_list_130 ?_
                  refine lv_iconst (v := 1) hx hb dX10_list_133 (by decide) ?_
                  refine lv_iadd hx hb dX10_list_134 ?_
                  refine lv_topi (fun v134 e134 => ?_)
                  have i134 : v134.toInt = (f 23).toInt + (1 : Int32).toInt := by rw [e134]; exact fb_addI (by omega) (by omega)
                  refine m_put (v := .int v134) (ty := .int) hx hb hts hin hown hK hP hD hS 23 (by decide) rfl (hts (.fieldLink RX10 230 "ShadowBenchModel" "listed" "I") (by decide +kernel)) rfl (by decide +kernel) rfl rfl (upd (upd (upd (upd f 0 (0 : Int32)) 24 w) 25 h) 23 v134) g rfl dX10_list_135 (fun H locs hP hS => ?_)
                  refine lv_aload_n hx hb dX10_list_138 rfl (lv_at hl 2 rfl) ?_
                  refine m_get (v := .int v134) hx hb hts hin hown hK hP 23 (by decide) rfl (hts (.fieldLink RX10 230 "ShadowBenchModel" "listed" "I") (by decide +kernel)) rfl dX10_list_139 ?_
                  have hP := wm_eq (ec_f_0_24_25_23__0_23_24_25 f (0 : Int32) w h v134) rfl rfl (ec_q_26__26 q ((vp_updL (q 26) (f 23).toNatClampNeg p0))) hP
                  exact W.iret (v := v134) hx hb hr (fun t ht hW => ⟨⟨_, ((upd (upd (upd (upd f 0 (0 : Int32)) 23 v134) 24 w) 25 h), g, r, (va_up q 26 (((vp_updL (q 26) (f 23).toNatClampNeg p0))))), rfl, ⟨v134, w, h, ((vp_updL (q 26) (f 23).toNatClampNeg p0)), rfl, by first | exact hI | exact mi_li hI rfl (show 0 ≤ v134.toInt ∧ v134.toInt ≤ 12 by omega) (fun _ => ⟨show 1 ≤ w.toInt ∧ w.toInt ≤ 6 by omega, show 1 ≤ h.toInt ∧ h.toInt ≤ 6 by omega⟩) rfl rfl rfl rfl⟩, by unfold mB; rw [ht]; exact hP⟩, hS.F ht⟩) hS.2.2 dX10_list_142
                · skip
                  have d102 := c102
                  rw [fa_eq] at d102
                  refine lv_bipush (v := (-3)) hx hb dX10_list_105 (by decide) ?_
                  have hP := wm_eq (ec_f_0__0_23_24_25 f (0 : Int32)) rfl rfl (ec_q___26 q ) hP
                  exact W.iret (v := ((-3) : Int32)) hx hb hr (fun t ht hW => ⟨⟨_, ((upd (upd (upd (upd f 0 (0 : Int32)) 23 (f 23)) 24 (f 24)) 25 (f 25)), g, r, (va_up q 26 (q 26))), rfl, ⟨(f 23), (f 24), (f 25), (q 26), rfl, by first | exact hI | exact mi_li hI rfl (show 0 ≤ (f 23).toInt ∧ (f 23).toInt ≤ 12 by omega) (fun _ => ⟨show 1 ≤ (f 24).toInt ∧ (f 24).toInt ≤ 6 by omega, show 1 ≤ (f 25).toInt ∧ (f 25).toInt ≤ 6 by omega⟩) rfl rfl rfl rfl⟩, by unfold mB; rw [ht]; exact hP⟩, hS.F ht⟩) hS.2.2 dX10_list_107
              · skip
                have d67 := c67
                rw [fa_le] at d67
                refine lv_iload hx hb dX10_list_70 (lv_at hl 1 rfl) ?_
                refine lv_if_ne (tgt := 87) hx hb dX10_list_72 (by decide) (fun c72 => ?_) (fun c72 => ?_)
                · skip
                  have d72 := c72
                  rw [fa_eq] at d72
                  refine lv_iconst (v := 1) hx hb dX10_list_87 (by decide) ?_
                  refine lv_goto (tgt := 92) hx hb dX10_list_88 (by decide) ?_
                  refine lv_istore (lv' := [(5, .int (1 : Int32)), (6, .int (nI k)), (0, .ref mo), (1, .int w), (2, .int h), (3, .long p0)]) hx hb dX10_list_92 hl (by decide) rfl (fun ls hl => ?_)
                  refine lv_iinc (v := (nI (k + 1))) (lv' := [(6, .int (nI (k + 1))), (5, .int (1 : Int32)), (0, .ref mo), (1, .int w), (2, .int h), (3, .long p0)]) hx hb dX10_list_94 hl (k := 1) rfl (nI_1 _) (by decide) rfl (fun ls hl => ?_)
                  refine lv_goto (tgt := 61) hx hb dX10_list_97 (by decide) ?_
                  exact ih_61 (k + 1) (1 : Int32) (by omega) (by omega) _ _ hP hS ls (lv_sub hl [0, 1, 2, 3, 4, 5] rfl)
                · skip
                  have d72 := c72
                  rw [fa_eq] at d72
                  refine lv_aload_n hx hb dX10_list_75 rfl (lv_at hl 2 rfl) ?_
                  refine m_get (v := .ref (a 26)) hx hb hts hin hown hK hP 26 (by decide) rfl (hts (.fieldLink RX10 52 "ShadowBenchModel" "list" "[J") (by decide +kernel)) rfl dX10_list_76 ?_
                  refine lv_iload hx hb dX10_list_79 (lv_at hl 0 rfl) ?_
                  refine m_lald (w := (q 26)) hx hb hK hP 14 rfl (vp_in_iff.mpr ⟨by omega, by omega⟩) dX10_list_81 ?_
                  refine lv_topl (fun v81 e81 => ?_)
                  refine lv_lload_n hx hb dX10_list_82 rfl (lv_at hl 5 rfl) ?_
                  refine W.lcmp hx hb dX10_list_83 ?_
                  refine lv_if_ne (tgt := 91) hx hb dX10_list_84 (by decide) (fun c84 => ?_) (fun c84 => ?_)
                  · skip
                    have d84 := c84
                    rw [lg_cmp_eq, fa_eq64] at d84
                    refine lv_iconst (v := 0) hx hb dX10_list_91 (by decide) ?_
                    refine lv_istore (lv' := [(5, .int (0 : Int32)), (6, .int (nI k)), (0, .ref mo), (1, .int w), (2, .int h), (3, .long p0)]) hx hb dX10_list_92 hl (by decide) rfl (fun ls hl => ?_)
                    refine lv_iinc (v := (nI (k + 1))) (lv' := [(6, .int (nI (k + 1))), (5, .int (0 : Int32)), (0, .ref mo), (1, .int w), (2, .int h), (3, .long p0)]) hx hb dX10_list_94 hl (k := 1) rfl (nI_1 _) (by decide) rfl (fun ls hl => ?_)
                    refine lv_goto (tgt := 61) hx hb dX10_list_97 (by decide) ?_
                    exact ih_61 (k + 1) (0 : Int32) (by omega) (by omega) _ _ hP hS ls (lv_sub hl [0, 1, 2, 3, 4, 5] rfl)
                  · skip
                    have d84 := c84
                    rw [lg_cmp_eq, fa_eq64] at d84
                    refine lv_iconst (v := 1) hx hb dX10_list_87 (by decide) ?_
                    refine lv_goto (tgt := 92) hx hb dX10_list_88 (by decide) ?_
                    refine lv_istore (lv' := [(5, .int (1 : Int32)), (6, .int (nI k)), (0, .ref mo), (1, .int w), (2, .int h), (3, .long p0)]) hx hb dX10_list_92 hl (by decide) rfl (fun ls hl => ?_)
                    refine lv_iinc (v := (nI (k + 1))) (lv' := [(6, .int (nI (k + 1))), (5, .int (1 : Int32)), (0, .ref mo), (1, .int w), (2, .int h), (3, .long p0)]) hx hb dX10_list_94 hl (k := 1) rfl (nI_1 _) (by decide) rfl (fun ls hl => ?_)
                    refine lv_goto (tgt := 61) hx hb dX10_list_97 (by decide) ?_
                    exact ih_61 (k + 1) (1 : Int32) (by omega) (by omega) _ _ hP hS ls (lv_sub hl [0, 1, 2, 3, 4, 5] rfl)
          exact loop_61 (12 + 1) 0 (1 : Int32) (by omega) (by omega) _ _ hP hS ls (lv_sub hl [0, 1, 2, 3, 4, 5] rfl)
        · skip
          have d40 := c40
          rw [fa_eq] at d40
          refine lv_iload_n hx hb dX10_list_43 rfl (lv_at hl 2 rfl) ?_
          refine lv_aload_n hx hb dX10_list_44 rfl (lv_at hl 0 rfl) ?_
          refine m_get (v := .int (f 25)) hx hb hts hin hown hK hP 25 (by decide) rfl (hts (.fieldLink RX10 236 "ShadowBenchModel" "listHigh" "I") (by decide +kernel)) rfl dX10_list_45 ?_
          refine lv_icmp_eq (tgt := 55) hx hb dX10_list_48 (by decide) (fun c48 => ?_) (fun c48 => ?_)
          · skip
            have d48 := c48
            rw [fa_eq] at d48
            refine lv_iconst (v := 0) hx hb dX10_list_55 (by decide) ?_
            refine lv_istore (lv' := [(5, .int (0 : Int32)), (0, .ref mo), (1, .int w), (2, .int h), (3, .long p0)]) hx hb dX10_list_56 hl (by decide) rfl (fun ls hl => ?_)
            refine lv_iconst (v := 0) hx hb dX10_list_58 (by decide) ?_
            refine lv_istore (lv' := [(6, .int (0 : Int32)), (5, .int (0 : Int32)), (0, .ref mo), (1, .int w), (2, .int h), (3, .long p0)]) hx hb dX10_list_59 hl (by decide) rfl (fun ls hl => ?_)
            have loop_61 : ∀ (n : Nat) (k : Nat) (x5 : Int32), (k ≤ 12) → 12 - k < n → ∀ (H : Heap) (locs : List Loc), va_P D vwCl (WM cy mo a (upd f 0 (0 : Int32)) g r q) H → va_S (AM mo a) s.heap H locs → ∀ (ls : Array Slot), lv_has ls 7 [(6, .int (nI k)), (5, .int x5), (0, .ref mo), (1, .int w), (2, .int h), (3, .long p0)] → W p l e (headSpec wsX10_list ({ frames := 3, cells := 0, slots := 0, locals := 69 })).room s m #[Value.ref mo, Value.int w, Value.int h, Value.long p0] below meth c H locs 0 0 (MQ below (va_Qi (fun r0 u => ∃ (lc : Int32), ∃ (lw : Int32), ∃ (lh : Int32), ∃ (ls1 : Nat → Int64), u = ((upd (upd (upd (upd f 0 (0 : Int32)) 23 lc) 24 lw) 25 lh), g, r, (va_up q 26 ls1)) ∧ (MI (upd (upd (upd (upd f 0 (0 : Int32)) 23 lc) 24 lw) 25 lh) r)) (mB D cy mo a) (AM mo a)) #[Value.ref mo, Value.int w, Value.int h, Value.long p0] s 0 0 (AM mo a)) (F0 m 61 ls []) := by
              intro n
              induction n with
              | zero => intro k x5  j61_0 hn; exact absurd hn (Nat.not_lt_zero _)
              | succ n ih_61 =>
                intro k x5  j61_0 hn_61 H locs hP hS ls hl
                have ik : (nI k).toInt = (k : Int) := nI_toInt (by omega)
                refine lv_iload hx hb dX10_list_61 (lv_at hl 0 rfl) ?_
                refine lv_aload_n hx hb dX10_list_63 rfl (lv_at hl 2 rfl) ?_
                refine m_get (v := .int (f 23)) hx hb hts hin hown hK hP 23 (by decide) rfl (hts (.fieldLink RX10 230 "ShadowBenchModel" "listed" "I") (by decide +kernel)) rfl dX10_list_64 ?_
                refine lv_icmp_ge (tgt := 100) hx hb dX10_list_67 (by decide) (fun c67 => ?_) (fun c67 => ?_)
                · skip
                  have d67 := c67
                  rw [fa_le] at d67
                  refine lv_iload hx hb dX10_list_100 (lv_at hl 1 rfl) ?_
                  refine lv_if_eq (tgt := 108) hx hb dX10_list_102 (by decide) (fun c102 => ?_) (fun c102 => ?_)
                  · skip
                    have d102 := c102
                    rw [fa_eq] at d102
                    refine lv_aload_n hx hb dX10_list_108 rfl (lv_at hl 2 rfl) ?_
                    refine lv_iload_n hx hb dX10_list_109 rfl (lv_at hl 3 rfl) ?_
                    refine m_put (v := .int w) (ty := .int) hx hb hts hin hown hK hP hD hS 24 (by decide) rfl (hts (.fieldLink RX10 233 "ShadowBenchModel" "listWide" "I") (by decide +kernel)) rfl (by decide +kernel) rfl rfl (upd (upd f 0 (0 : Int32)) 24 w) g rfl dX10_list_110 (fun H locs hP hS => ?_)
                    refine lv_aload_n hx hb dX10_list_113 rfl (lv_at hl 2 rfl) ?_
                    refine lv_iload_n hx hb dX10_list_114 rfl (lv_at hl 4 rfl) ?_
                    refine m_put (v := .int h) (ty := .int) hx hb hts hin hown hK hP hD hS 25 (by decide) rfl (hts (.fieldLink RX10 236 "ShadowBenchModel" "listHigh" "I") (by decide +kernel)) rfl (by decide +kernel) rfl rfl (upd (upd (upd f 0 (0 : Int32)) 24 w) 25 h) g rfl dX10_list_115 (fun H locs hP hS => ?_)
                    refine lv_aload_n hx hb dX10_list_118 rfl (lv_at hl 2 rfl) ?_
                    refine m_get (v := .ref (a 26)) hx hb hts hin hown hK hP 26 (by decide) rfl (hts (.fieldLink RX10 52 "ShadowBenchModel" "list" "[J") (by decide +kernel)) rfl dX10_list_119 ?_
                    refine lv_aload_n hx hb dX10_list_122 rfl (lv_at hl 2 rfl) ?_
                    refine m_get (v := .int (f 23)) hx hb hts hin hown hK hP 23 (by decide) rfl (hts (.fieldLink RX10 230 "ShadowBenchModel" "listed" "I") (by decide +kernel)) rfl dX10_list_123 ?_
                    refine lv_lload_n hx hb dX10_list_126 rfl (lv_at hl 5 rfl) ?_
                    refine m_last (w := (q 26)) hx hb hK hP hD hS 14 rfl (vp_in_iff.mpr ⟨by omega, by omega⟩) (va_up q 26 (vp_updL (q 26) (f 23).toNatClampNeg p0)) (ms_26 cy mo a _ _ _ _ _) dX10_list_127 (fun H locs hP hS => ?_)
                    refine lv_aload_n hx hb dX10_list_128 rfl (lv_at hl 2 rfl) ?_
                    refine lv_dup hx hb dX10_list_129 rfl ?_
                    refine m_get (v := .int (f 23)) hx hb hts hin hown hK hP 23 (by decide) rfl (hts (.fieldLink RX10 230 "ShadowBenchModel" "listed" "I") (by decide +kernel)) rfl dX10_list_130 ?_
                    refine lv_iconst (v := 1) hx hb dX10_list_133 (by decide) ?_
                    refine lv_iadd hx hb dX10_list_134 ?_
                    refine lv_topi (fun v134 e134 => ?_)
                    have i134 : v134.toInt = (f 23).toInt + (1 : Int32).toInt := by rw [e134]; exact fb_addI (by omega) (by omega)
                    refine m_put (v := .int v134) (ty := .int) hx hb hts hin hown hK hP hD hS 23 (by decide) rfl (hts (.fieldLink RX10 230 "ShadowBenchModel" "listed" "I") (by decide +kernel)) rfl (by decide +kernel) rfl rfl (upd (upd (upd (upd f 0 (0 : Int32)) 24 w) 25 h) 23 v134) g rfl dX10_list_135 (fun H locs hP hS => ?_)
                    refine lv_aload_n hx hb dX10_list_138 rfl (lv_at hl 2 rfl) ?_
                    refine m_get (v := .int v134) hx hb hts hin hown hK hP 23 (by decide) rfl (hts (.fieldLink RX10 230 "ShadowBenchModel" "listed" "I") (by decide +kernel)) rfl dX10_list_139 ?_
                    have hP := wm_eq (ec_f_0_24_25_23__0_23_24_25 f (0 : Int32) w h v134) rfl rfl (ec_q_26__26 q ((vp_updL (q 26) (f 23).toNatClampNeg p0))) hP
                    exact W.iret (v := v134) hx hb hr (fun t ht hW => ⟨⟨_, ((upd (upd (upd (upd f 0 (0 : Int32)) 23 v134) 24 w) 25 h), g, r, (va_up q 26 (((vp_updL (q 26) (f 23).toNatClampNeg p0))))), rfl, ⟨v134, w, h, ((vp_updL (q 26) (f 23).toNatClampNeg p0)), rfl, by first | exact hI | exact mi_li hI rfl (show 0 ≤ v134.toInt ∧ v134.toInt ≤ 12 by omega) (fun _ => ⟨show 1 ≤ w.toInt ∧ w.toInt ≤ 6 by omega, show 1 ≤ h.toInt ∧ h.toInt ≤ 6 by omega⟩) rfl rfl rfl rfl⟩, by unfold mB; rw [ht]; exact hP⟩, hS.F ht⟩) hS.2.2 dX10_list_142
                  · skip
                    have d102 := c102
                    rw [fa_eq] at d102
                    refine lv_bipush (v := (-3)) hx hb dX10_list_105 (by decide) ?_
                    have hP := wm_eq (ec_f_0__0_23_24_25 f (0 : Int32)) rfl rfl (ec_q___26 q ) hP
                    exact W.iret (v := ((-3) : Int32)) hx hb hr (fun t ht hW => ⟨⟨_, ((upd (upd (upd (upd f 0 (0 : Int32)) 23 (f 23)) 24 (f 24)) 25 (f 25)), g, r, (va_up q 26 (q 26))), rfl, ⟨(f 23), (f 24), (f 25), (q 26), rfl, by first | exact hI | exact mi_li hI rfl (show 0 ≤ (f 23).toInt ∧ (f 23).toInt ≤ 12 by omega) (fun _ => ⟨show 1 ≤ (f 24).toInt ∧ (f 24).toInt ≤ 6 by omega, show 1 ≤ (f 25).toInt ∧ (f 25).toInt ≤ 6 by omega⟩) rfl rfl rfl rfl⟩, by unfold mB; rw [ht]; exact hP⟩, hS.F ht⟩) hS.2.2 dX10_list_107
                · skip
                  have d67 := c67
                  rw [fa_le] at d67
                  refine lv_iload hx hb dX10_list_70 (lv_at hl 1 rfl) ?_
                  refine lv_if_ne (tgt := 87) hx hb dX10_list_72 (by decide) (fun c72 => ?_) (fun c72 => ?_)
                  · skip
                    have d72 := c72
                    rw [fa_eq] at d72
                    refine lv_iconst (v := 1) hx hb dX10_list_87 (by decide) ?_
                    refine lv_goto (tgt := 92) hx hb dX10_list_88 (by decide) ?_
                    refine lv_istore (lv' := [(5, .int (1 : Int32)), (6, .int (nI k)), (0, .ref mo), (1, .int w), (2, .int h), (3, .long p0)]) hx hb dX10_list_92 hl (by decide) rfl (fun ls hl => ?_)
                    refine lv_iinc (v := (nI (k + 1))) (lv' := [(6, .int (nI (k + 1))), (5, .int (1 : Int32)), (0, .ref mo), (1, .int w), (2, .int h), (3, .long p0)]) hx hb dX10_list_94 hl (k := 1) rfl (nI_1 _) (by decide) rfl (fun ls hl => ?_)
                    refine lv_goto (tgt := 61) hx hb dX10_list_97 (by decide) ?_
                    exact ih_61 (k + 1) (1 : Int32) (by omega) (by omega) _ _ hP hS ls (lv_sub hl [0, 1, 2, 3, 4, 5] rfl)
                  · skip
                    have d72 := c72
                    rw [fa_eq] at d72
                    refine lv_aload_n hx hb dX10_list_75 rfl (lv_at hl 2 rfl) ?_
                    refine m_get (v := .ref (a 26)) hx hb hts hin hown hK hP 26 (by decide) rfl (hts (.fieldLink RX10 52 "ShadowBenchModel" "list" "[J") (by decide +kernel)) rfl dX10_list_76 ?_
                    refine lv_iload hx hb dX10_list_79 (lv_at hl 0 rfl) ?_
                    refine m_lald (w := (q 26)) hx hb hK hP 14 rfl (vp_in_iff.mpr ⟨by omega, by omega⟩) dX10_list_81 ?_
                    refine lv_topl (fun v81 e81 => ?_)
                    refine lv_lload_n hx hb dX10_list_82 rfl (lv_at hl 5 rfl) ?_
                    refine W.lcmp hx hb dX10_list_83 ?_
                    refine lv_if_ne (tgt := 91) hx hb dX10_list_84 (by decide) (fun c84 => ?_) (fun c84 => ?_)
                    · skip
                      have d84 := c84
                      rw [lg_cmp_eq, fa_eq64] at d84
                      refine lv_iconst (v := 0) hx hb dX10_list_91 (by decide) ?_
                      refine lv_istore (lv' := [(5, .int (0 : Int32)), (6, .int (nI k)), (0, .ref mo), (1, .int w), (2, .int h), (3, .long p0)]) hx hb dX10_list_92 hl (by decide) rfl (fun ls hl => ?_)
                      refine lv_iinc (v := (nI (k + 1))) (lv' := [(6, .int (nI (k + 1))), (5, .int (0 : Int32)), (0, .ref mo), (1, .int w), (2, .int h), (3, .long p0)]) hx hb dX10_list_94 hl (k := 1) rfl (nI_1 _) (by decide) rfl (fun ls hl => ?_)
                      refine lv_goto (tgt := 61) hx hb dX10_list_97 (by decide) ?_
                      exact ih_61 (k + 1) (0 : Int32) (by omega) (by omega) _ _ hP hS ls (lv_sub hl [0, 1, 2, 3, 4, 5] rfl)
                    · skip
                      have d84 := c84
                      rw [lg_cmp_eq, fa_eq64] at d84
                      refine lv_iconst (v := 1) hx hb dX10_list_87 (by decide) ?_
                      refine lv_goto (tgt := 92) hx hb dX10_list_88 (by decide) ?_
                      refine lv_istore (lv' := [(5, .int (1 : Int32)), (6, .int (nI k)), (0, .ref mo), (1, .int w), (2, .int h), (3, .long p0)]) hx hb dX10_list_92 hl (by decide) rfl (fun ls hl => ?_)
                      refine lv_iinc (v := (nI (k + 1))) (lv' := [(6, .int (nI (k + 1))), (5, .int (1 : Int32)), (0, .ref mo), (1, .int w), (2, .int h), (3, .long p0)]) hx hb dX10_list_94 hl (k := 1) rfl (nI_1 _) (by decide) rfl (fun ls hl => ?_)
                      refine lv_goto (tgt := 61) hx hb dX10_list_97 (by decide) ?_
                      exact ih_61 (k + 1) (1 : Int32) (by omega) (by omega) _ _ hP hS ls (lv_sub hl [0, 1, 2, 3, 4, 5] rfl)
            exact loop_61 (12 + 1) 0 (0 : Int32) (by omega) (by omega) _ _ hP hS ls (lv_sub hl [0, 1, 2, 3, 4, 5] rfl)
          · skip
            have d48 := c48
            rw [fa_eq] at d48
            refine lv_iconst (v := 1) hx hb dX10_list_51 (by decide) ?_
            refine lv_goto (tgt := 56) hx hb dX10_list_52 (by decide) ?_
            refine lv_istore (lv' := [(5, .int (1 : Int32)), (0, .ref mo), (1, .int w), (2, .int h), (3, .long p0)]) hx hb dX10_list_56 hl (by decide) rfl (fun ls hl => ?_)
            refine lv_iconst (v := 0) hx hb dX10_list_58 (by decide) ?_
            refine lv_istore (lv' := [(6, .int (0 : Int32)), (5, .int (1 : Int32)), (0, .ref mo), (1, .int w), (2, .int h), (3, .long p0)]) hx hb dX10_list_59 hl (by decide) rfl (fun ls hl => ?_)
            have loop_61 : ∀ (n : Nat) (k : Nat) (x5 : Int32), (k ≤ 12) → 12 - k < n → ∀ (H : Heap) (locs : List Loc), va_P D vwCl (WM cy mo a (upd f 0 (0 : Int32)) g r q) H → va_S (AM mo a) s.heap H locs → ∀ (ls : Array Slot), lv_has ls 7 [(6, .int (nI k)), (5, .int x5), (0, .ref mo), (1, .int w), (2, .int h), (3, .long p0)] → W p l e (headSpec wsX10_list ({ frames := 3, cells := 0, slots := 0, locals := 69 })).room s m #[Value.ref mo, Value.int w, Value.int h, Value.long p0] below meth c H locs 0 0 (MQ below (va_Qi (fun r0 u => ∃ (lc : Int32), ∃ (lw : Int32), ∃ (lh : Int32), ∃ (ls1 : Nat → Int64), u = ((upd (upd (upd (upd f 0 (0 : Int32)) 23 lc) 24 lw) 25 lh), g, r, (va_up q 26 ls1)) ∧ (MI (upd (upd (upd (upd f 0 (0 : Int32)) 23 lc) 24 lw) 25 lh) r)) (mB D cy mo a) (AM mo a)) #[Value.ref mo, Value.int w, Value.int h, Value.long p0] s 0 0 (AM mo a)) (F0 m 61 ls []) := by
              intro n
              induction n with
              | zero => intro k x5  j61_0 hn; exact absurd hn (Nat.not_lt_zero _)
              | succ n ih_61 =>
                intro k x5  j61_0 hn_61 H locs hP hS ls hl
                have ik : (nI k).toInt = (k : Int) := nI_toInt (by omega)
                refine lv_iload hx hb dX10_list_61 (lv_at hl 0 rfl) ?_
                refine lv_aload_n hx hb dX10_list_63 rfl (lv_at hl 2 rfl) ?_
                refine m_get (v := .int (f 23)) hx hb hts hin hown hK hP 23 (by decide) rfl (hts (.fieldLink RX10 230 "ShadowBenchModel" "listed" "I") (by decide +kernel)) rfl dX10_list_64 ?_
                refine lv_icmp_ge (tgt := 100) hx hb dX10_list_67 (by decide) (fun c67 => ?_) (fun c67 => ?_)
                · skip
                  have d67 := c67
                  rw [fa_le] at d67
                  refine lv_iload hx hb dX10_list_100 (lv_at hl 1 rfl) ?_
                  refine lv_if_eq (tgt := 108) hx hb dX10_list_102 (by decide) (fun c102 => ?_) (fun c102 => ?_)
                  · skip
                    have d102 := c102
                    rw [fa_eq] at d102
                    refine lv_aload_n hx hb dX10_list_108 rfl (lv_at hl 2 rfl) ?_
                    refine lv_iload_n hx hb dX10_list_109 rfl (lv_at hl 3 rfl) ?_
                    refine m_put (v := .int w) (ty := .int) hx hb hts hin hown hK hP hD hS 24 (by decide) rfl (hts (.fieldLink RX10 233 "ShadowBenchModel" "listWide" "I") (by decide +kernel)) rfl (by decide +kernel) rfl rfl (upd (upd f 0 (0 : Int32)) 24 w) g rfl dX10_list_110 (fun H locs hP hS => ?_)
                    refine lv_aload_n hx hb dX10_list_113 rfl (lv_at hl 2 rfl) ?_
                    refine lv_iload_n hx hb dX10_list_114 rfl (lv_at hl 4 rfl) ?_
                    refine m_put (v := .int h) (ty := .int) hx hb hts hin hown hK hP hD hS 25 (by decide) rfl (hts (.fieldLink RX10 236 "ShadowBenchModel" "listHigh" "I") (by decide +kernel)) rfl (by decide +kernel) rfl rfl (upd (upd (upd f 0 (0 : Int32)) 24 w) 25 h) g rfl dX10_list_115 (fun H locs hP hS => ?_)
                    refine lv_aload_n hx hb dX10_list_118 rfl (lv_at hl 2 rfl) ?_
                    refine m_get (v := .ref (a 26)) hx hb hts hin hown hK hP 26 (by decide) rfl (hts (.fieldLink RX10 52 "ShadowBenchModel" "list" "[J") (by decide +kernel)) rfl dX10_list_119 ?_
                    refine lv_aload_n hx hb dX10_list_122 rfl (lv_at hl 2 rfl) ?_
                    refine m_get (v := .int (f 23)) hx hb hts hin hown hK hP 23 (by decide) rfl (hts (.fieldLink RX10 230 "ShadowBenchModel" "listed" "I") (by decide +kernel)) rfl dX10_list_123 ?_
                    refine lv_lload_n hx hb dX10_list_126 rfl (lv_at hl 5 rfl) ?_
                    refine m_last (w := (q 26)) hx hb hK hP hD hS 14 rfl (vp_in_iff.mpr ⟨by omega, by omega⟩) (va_up q 26 (vp_updL (q 26) (f 23).toNatClampNeg p0)) (ms_26 cy mo a _ _ _ _ _) dX10_list_127 (fun H locs hP hS => ?_)
                    refine lv_aload_n hx hb dX10_list_128 rfl (lv_at hl 2 rfl) ?_
                    refine lv_dup hx hb dX10_list_129 rfl ?_
                    refine m_get (v := .int (f 23)) hx hb hts hin hown hK hP 23 (by decide) rfl (hts (.fieldLink RX10 230 "ShadowBenchModel" "listed" "I") (by decide +kernel)) rfl dX10_list_130 ?_
                    refine lv_iconst (v := 1) hx hb dX10_list_133 (by decide) ?_
                    refine lv_iadd hx hb dX10_list_134 ?_
                    refine lv_topi (fun v134 e134 => ?_)
                    have i134 : v134.toInt = (f 23).toInt + (1 : Int32).toInt := by rw [e134]; exact fb_addI (by omega) (by omega)
                    refine m_put (v := .int v134) (ty := .int) hx hb hts hin hown hK hP hD hS 23 (by decide) rfl (hts (.fieldLink RX10 230 "ShadowBenchModel" "listed" "I") (by decide +kernel)) rfl (by decide +kernel) rfl rfl (upd (upd (upd (upd f 0 (0 : Int32)) 24 w) 25 h) 23 v134) g rfl dX10_list_135 (fun H locs hP hS => ?_)
                    refine lv_aload_n hx hb dX10_list_138 rfl (lv_at hl 2 rfl) ?_
                    refine m_get (v := .int v134) hx hb hts hin hown hK hP 23 (by decide) rfl (hts (.fieldLink RX10 230 "ShadowBenchModel" "listed" "I") (by decide +kernel)) rfl dX10_list_139 ?_
                    have hP := wm_eq (ec_f_0_24_25_23__0_23_24_25 f (0 : Int32) w h v134) rfl rfl (ec_q_26__26 q ((vp_updL (q 26) (f 23).toNatClampNeg p0))) hP
                    exact W.iret (v := v134) hx hb hr (fun t ht hW => ⟨⟨_, ((upd (upd (upd (upd f 0 (0 : Int32)) 23 v134) 24 w) 25 h), g, r, (va_up q 26 (((vp_updL (q 26) (f 23).toNatClampNeg p0))))), rfl, ⟨v134, w, h, ((vp_updL (q 26) (f 23).toNatClampNeg p0)), rfl, by first | exact hI | exact mi_li hI rfl (show 0 ≤ v134.toInt ∧ v134.toInt ≤ 12 by omega) (fun _ => ⟨show 1 ≤ w.toInt ∧ w.toInt ≤ 6 by omega, show 1 ≤ h.toInt ∧ h.toInt ≤ 6 by omega⟩) rfl rfl rfl rfl⟩, by unfold mB; rw [ht]; exact hP⟩, hS.F ht⟩) hS.2.2 dX10_list_142
                  · skip
                    have d102 := c102
                    rw [fa_eq] at d102
                    refine lv_bipush (v := (-3)) hx hb dX10_list_105 (by decide) ?_
                    have hP := wm_eq (ec_f_0__0_23_24_25 f (0 : Int32)) rfl rfl (ec_q___26 q ) hP
                    exact W.iret (v := ((-3) : Int32)) hx hb hr (fun t ht hW => ⟨⟨_, ((upd (upd (upd (upd f 0 (0 : Int32)) 23 (f 23)) 24 (f 24)) 25 (f 25)), g, r, (va_up q 26 (q 26))), rfl, ⟨(f 23), (f 24), (f 25), (q 26), rfl, by first | exact hI | exact mi_li hI rfl (show 0 ≤ (f 23).toInt ∧ (f 23).toInt ≤ 12 by omega) (fun _ => ⟨show 1 ≤ (f 24).toInt ∧ (f 24).toInt ≤ 6 by omega, show 1 ≤ (f 25).toInt ∧ (f 25).toInt ≤ 6 by omega⟩) rfl rfl rfl rfl⟩, by unfold mB; rw [ht]; exact hP⟩, hS.F ht⟩) hS.2.2 dX10_list_107
                · skip
                  have d67 := c67
                  rw [fa_le] at d67
                  refine lv_iload hx hb dX10_list_70 (lv_at hl 1 rfl) ?_
                  refine lv_if_ne (tgt := 87) hx hb dX10_list_72 (by decide) (fun c72 => ?_) (fun c72 => ?_)
                  · skip
                    have d72 := c72
                    rw [fa_eq] at d72
                    refine lv_iconst (v := 1) hx hb dX10_list_87 (by decide) ?_
                    refine lv_goto (tgt := 92) hx hb dX10_list_88 (by decide) ?_
                    refine lv_istore (lv' := [(5, .int (1 : Int32)), (6, .int (nI k)), (0, .ref mo), (1, .int w), (2, .int h), (3, .long p0)]) hx hb dX10_list_92 hl (by decide) rfl (fun ls hl => ?_)
                    refine lv_iinc (v := (nI (k + 1))) (lv' := [(6, .int (nI (k + 1))), (5, .int (1 : Int32)), (0, .ref mo), (1, .int w), (2, .int h), (3, .long p0)]) hx hb dX10_list_94 hl (k := 1) rfl (nI_1 _) (by decide) rfl (fun ls hl => ?_)
                    refine lv_goto (tgt := 61) hx hb dX10_list_97 (by decide) ?_
                    exact ih_61 (k + 1) (1 : Int32) (by omega) (by omega) _ _ hP hS ls (lv_sub hl [0, 1, 2, 3, 4, 5] rfl)
                  · skip
                    have d72 := c72
                    rw [fa_eq] at d72
                    refine lv_aload_n hx hb dX10_list_75 rfl (lv_at hl 2 rfl) ?_
                    refine m_get (v := .ref (a 26)) hx hb hts hin hown hK hP 26 (by decide) rfl (hts (.fieldLink RX10 52 "ShadowBenchModel" "list" "[J") (by decide +kernel)) rfl dX10_list_76 ?_
                    refine lv_iload hx hb dX10_list_79 (lv_at hl 0 rfl) ?_
                    refine m_lald (w := (q 26)) hx hb hK hP 14 rfl (vp_in_iff.mpr ⟨by omega, by omega⟩) dX10_list_81 ?_
                    refine lv_topl (fun v81 e81 => ?_)
                    refine lv_lload_n hx hb dX10_list_82 rfl (lv_at hl 5 rfl) ?_
                    refine W.lcmp hx hb dX10_list_83 ?_
                    refine lv_if_ne (tgt := 91) hx hb dX10_list_84 (by decide) (fun c84 => ?_) (fun c84 => ?_)
                    · skip
                      have d84 := c84
                      rw [lg_cmp_eq, fa_eq64] at d84
                      refine lv_iconst (v := 0) hx hb dX10_list_91 (by decide) ?_
                      refine lv_istore (lv' := [(5, .int (0 : Int32)), (6, .int (nI k)), (0, .ref mo), (1, .int w), (2, .int h), (3, .long p0)]) hx hb dX10_list_92 hl (by decide) rfl (fun ls hl => ?_)
                      refine lv_iinc (v := (nI (k + 1))) (lv' := [(6, .int (nI (k + 1))), (5, .int (0 : Int32)), (0, .ref mo), (1, .int w), (2, .int h), (3, .long p0)]) hx hb dX10_list_94 hl (k := 1) rfl (nI_1 _) (by decide) rfl (fun ls hl => ?_)
                      refine lv_goto (tgt := 61) hx hb dX10_list_97 (by decide) ?_
                      exact ih_61 (k + 1) (0 : Int32) (by omega) (by omega) _ _ hP hS ls (lv_sub hl [0, 1, 2, 3, 4, 5] rfl)
                    · skip
                      have d84 := c84
                      rw [lg_cmp_eq, fa_eq64] at d84
                      refine lv_iconst (v := 1) hx hb dX10_list_87 (by decide) ?_
                      refine lv_goto (tgt := 92) hx hb dX10_list_88 (by decide) ?_
                      refine lv_istore (lv' := [(5, .int (1 : Int32)), (6, .int (nI k)), (0, .ref mo), (1, .int w), (2, .int h), (3, .long p0)]) hx hb dX10_list_92 hl (by decide) rfl (fun ls hl => ?_)
                      refine lv_iinc (v := (nI (k + 1))) (lv' := [(6, .int (nI (k + 1))), (5, .int (1 : Int32)), (0, .ref mo), (1, .int w), (2, .int h), (3, .long p0)]) hx hb dX10_list_94 hl (k := 1) rfl (nI_1 _) (by decide) rfl (fun ls hl => ?_)
                      refine lv_goto (tgt := 61) hx hb dX10_list_97 (by decide) ?_
                      exact ih_61 (k + 1) (1 : Int32) (by omega) (by omega) _ _ hP hS ls (lv_sub hl [0, 1, 2, 3, 4, 5] rfl)
            exact loop_61 (12 + 1) 0 (1 : Int32) (by omega) (by omega) _ _ hP hS ls (lv_sub hl [0, 1, 2, 3, 4, 5] rfl)
    · skip
      have d22 := c22
      rw [fa_eq] at d22
      refine lv_bipush (v := (-2)) hx hb dX10_list_25 (by decide) ?_
      have hP := wm_eq (ec_f_0__0_23_24_25 f (0 : Int32)) rfl rfl (ec_q___26 q ) hP
      exact W.iret (v := ((-2) : Int32)) hx hb hr (fun t ht hW => ⟨⟨_, ((upd (upd (upd (upd f 0 (0 : Int32)) 23 (f 23)) 24 (f 24)) 25 (f 25)), g, r, (va_up q 26 (q 26))), rfl, ⟨(f 23), (f 24), (f 25), (q 26), rfl, by first | exact hI | exact mi_li hI rfl (show 0 ≤ (f 23).toInt ∧ (f 23).toInt ≤ 12 by omega) (fun _ => ⟨show 1 ≤ (f 24).toInt ∧ (f 24).toInt ≤ 6 by omega, show 1 ≤ (f 25).toInt ∧ (f 25).toInt ≤ 6 by omega⟩) rfl rfl rfl rfl⟩, by unfold mB; rw [ht]; exact hP⟩, hS.F ht⟩) hS.2.2 dX10_list_27
  · skip
    have b11 := bo_f q8 c11
    refine lv_iconst (v := (-1)) hx hb dX10_list_14 (by decide) ?_
    have hP := wm_eq (ec_f_0__0_23_24_25 f (0 : Int32)) rfl rfl (ec_q___26 q ) hP
    exact W.iret (v := ((-1) : Int32)) hx hb hr (fun t ht hW => ⟨⟨_, ((upd (upd (upd (upd f 0 (0 : Int32)) 23 (f 23)) 24 (f 24)) 25 (f 25)), g, r, (va_up q 26 (q 26))), rfl, ⟨(f 23), (f 24), (f 25), (q 26), rfl, by first | exact hI | exact mi_li hI rfl (show 0 ≤ (f 23).toInt ∧ (f 23).toInt ≤ 12 by omega) (fun _ => ⟨show 1 ≤ (f 24).toInt ∧ (f 24).toInt ≤ 6 by omega, show 1 ≤ (f 25).toInt ∧ (f 25).toInt ≤ 6 by omega⟩) rfl rfl rfl rfl⟩, by unfold mB; rw [ht]; exact hP⟩, hS.F ht⟩) hS.2.2 dX10_list_15
set_option maxHeartbeats 4000000 in
set_option maxRecDepth 100000 in
theorem c_X10_clear (l : Launch) (D : va_G) (cy : Nat → ClassId) (mo : Nat) (a : Nat → Nat) (f : Nat → Int32) (g : Nat → Int64) (r : Nat → Nat → Int32) (q : Nat → Nat → Int64)  (hD : DM cy mo a) (hI : MI f r) : Mi l D cy mo a yX10_clear wsX10_clear ({ frames := 0, cells := 0, slots := 0, locals := 0 }) f g r q [] (fun r0 u => u = ((upd (upd f 0 (0 : Int32)) 23 (0 : Int32)), g, r, q) ∧ (r0 = (f 23) ∧ MI (upd (upd f 0 (0 : Int32)) 23 (0 : Int32)) r)) := by
  refine Met.ofW (cc := cX10_clear) (maxL := 2) (ret := (some .int)) (by decide) rfl ?_
  intro p e s m args below meth c s₁ B hml hv
  obtain ⟨rfl, hP, hK⟩ := hv
  have hx := B.exec
  have hb := B.bytes
  have hr := B.returns
  have hts := atoms_spec (ws := wsX10_clear) B.pre
  have hin : ∀ w ∈ u_ws RX10 TX10 35, w ∈ wsX10_clear := by decide +kernel
  have hown : s.vm.findClass RX10 = some m.cls := findClass_of_methodNamed B.named
  have hlocks := B.notSynchronized
  have hS : va_S (AM mo a) s.heap s.heap [] := va_S.rf
  have hl := lv_entry ([.ref mo]) (n := 2) (Nat.le_of_ble_eq_true rfl)
  rw [lg_entry_eq]
  generalize (lg_sl ([.ref mo]) ++ List.replicate (2 - (lg_sl ([.ref mo])).length) Slot.unset).toArray = ls at hl ⊢
  have hl : lv_has ls 2 [(0, .ref mo)] := hl
  have k_0 : (0 : Int32).toInt = 0 := by decide
  refine lv_aload_n hx hb dX10_clear_0 rfl (lv_at hl 0 rfl) ?_
  refine lv_iconst (v := 0) hx hb dX10_clear_1 (by decide) ?_
  refine m_put (v := .int (0 : Int32)) (ty := .int) hx hb hts hin hown hK hP hD hS 0 (by decide) rfl (hts (.fieldLink RX10 79 "ShadowBenchModel" "thrown" "I") (by decide +kernel)) rfl (by decide +kernel) rfl rfl (upd f 0 (0 : Int32)) g rfl dX10_clear_2 (fun H locs hP hS => ?_)
  refine lv_aload_n hx hb dX10_clear_5 rfl (lv_at hl 0 rfl) ?_
  refine m_get (v := .int (f 23)) hx hb hts hin hown hK hP 23 (by decide) rfl (hts (.fieldLink RX10 230 "ShadowBenchModel" "listed" "I") (by decide +kernel)) rfl dX10_clear_6 ?_
  refine lv_istore_n (lv' := [(1, .int (f 23)), (0, .ref mo)]) hx hb dX10_clear_9 rfl hl (by decide) rfl (fun ls hl => ?_)
  refine lv_aload_n hx hb dX10_clear_10 rfl (lv_at hl 1 rfl) ?_
  refine lv_iconst (v := 0) hx hb dX10_clear_11 (by decide) ?_
  refine m_put (v := .int (0 : Int32)) (ty := .int) hx hb hts hin hown hK hP hD hS 23 (by decide) rfl (hts (.fieldLink RX10 230 "ShadowBenchModel" "listed" "I") (by decide +kernel)) rfl (by decide +kernel) rfl rfl (upd (upd f 0 (0 : Int32)) 23 (0 : Int32)) g rfl dX10_clear_12 (fun H locs hP hS => ?_)
  refine lv_iload_n hx hb dX10_clear_15 rfl (lv_at hl 0 rfl) ?_
  exact W.iret (v := (f 23)) hx hb hr (fun t ht hW => ⟨⟨_, ((upd (upd f 0 (0 : Int32)) 23 (0 : Int32)), g, r, q), rfl, ⟨rfl, ⟨rfl, mi_li hI rfl (show 0 ≤ (0 : Int32).toInt ∧ (0 : Int32).toInt ≤ 12 by decide) (fun z => absurd (show 0 < (0 : Int32).toInt from z) (by decide)) rfl rfl rfl rfl⟩⟩, by unfold mB; rw [ht]; exact hP⟩, hS.F ht⟩) hS.2.2 dX10_clear_16
set_option maxHeartbeats 4000000 in
set_option maxRecDepth 100000 in
theorem c_X10_tells (l : Launch) (D : va_G) (cy : Nat → ClassId) (mo : Nat) (a : Nat → Nat) (f : Nat → Int32) (g : Nat → Int64) (r : Nat → Nat → Int32) (q : Nat → Nat → Int64) (ways : Int32) (hD : DM cy mo a) (hI : MI f r) : Mi l D cy mo a yX10_tells wsX10_tells ({ frames := 3, cells := 0, slots := 0, locals := 78 }) f g r q [.int ways] (fun r0 u => u = (f, g, r, q) ∧ (r0 = 0 ∨ r0 = 1)) := by
  refine Met.ofW (cc := cX10_tells) (maxL := 7) (ret := (some .boolean)) (by decide) rfl ?_
  intro p e s m args below meth c s₁ B hml hv
  obtain ⟨rfl, hP, hK⟩ := hv
  have hx := B.exec
  have hb := B.bytes
  have hr := B.returns
  have hts := atoms_spec (ws := wsX10_tells) B.pre
  have hin : ∀ w ∈ u_ws RX10 TX10 35, w ∈ wsX10_tells := by decide +kernel
  have hown : s.vm.findClass RX10 = some m.cls := findClass_of_methodNamed B.named
  have hlocks := B.notSynchronized
  have hS : va_S (AM mo a) s.heap s.heap [] := va_S.rf
  have hl := lv_entry ([.ref mo, .int ways]) (n := 7) (Nat.le_of_ble_eq_true rfl)
  rw [lg_entry_eq]
  generalize (lg_sl ([.ref mo, .int ways]) ++ List.replicate (7 - (lg_sl ([.ref mo, .int ways])).length) Slot.unset).toArray = ls at hl ⊢
  have hl : lv_has ls 7 [(0, .ref mo), (1, .int ways)] := hl
  have k_0 : (0 : Int32).toInt = 0 := by decide
  have k_1 : (1 : Int32).toInt = 1 := by decide
  have k_4 : (4 : Int32).toInt = 4 := by decide
  have hI1 := hI.2.2.1
  refine lv_iconst (v := 1) hx hb dX10_tells_0 (by decide) ?_
  refine lv_istore_n (lv' := [(2, .int (1 : Int32)), (0, .ref mo), (1, .int ways)]) hx hb dX10_tells_1 rfl hl (by decide) rfl (fun ls hl => ?_)
  refine lv_iconst (v := 0) hx hb dX10_tells_2 (by decide) ?_
  refine lv_istore_n (lv' := [(3, .int (0 : Int32)), (2, .int (1 : Int32)), (0, .ref mo), (1, .int ways)]) hx hb dX10_tells_3 rfl hl (by decide) rfl (fun ls hl => ?_)
  have loop_4 : ∀ (n : Nat) (k : Nat) (x2 : Int32), (k ≤ 12) → (x2 = 0 ∨ x2 = 1) → 12 - k < n → ∀ (H : Heap) (locs : List Loc), va_P D vwCl (WM cy mo a f g r q) H → va_S (AM mo a) s.heap H locs → ∀ (ls : Array Slot), lv_has ls 7 [(3, .int (nI k)), (2, .int x2), (0, .ref mo), (1, .int ways)] → W p l e (headSpec wsX10_tells ({ frames := 3, cells := 0, slots := 0, locals := 78 })).room s m #[Value.ref mo, Value.int ways] below meth c H locs 0 0 (MQ below (va_Qi (fun r0 u => u = (f, g, r, q) ∧ (r0 = 0 ∨ r0 = 1)) (mB D cy mo a) (AM mo a)) #[Value.ref mo, Value.int ways] s 0 0 (AM mo a)) (F0 m 4 ls []) := by
    intro n
    induction n with
    | zero => intro k x2  j4_0 j4_1 hn; exact absurd hn (Nat.not_lt_zero _)
    | succ n ih_4 =>
      intro k x2  j4_0 j4_1 hn_4 H locs hP hS ls hl
      have ik : (nI k).toInt = (k : Int) := nI_toInt (by omega)
      refine lv_iload_n hx hb dX10_tells_4 rfl (lv_at hl 0 rfl) ?_
      refine lv_aload_n hx hb dX10_tells_5 rfl (lv_at hl 2 rfl) ?_
      refine m_get (v := .int (f 23)) hx hb hts hin hown hK hP 23 (by decide) rfl (hts (.fieldLink RX10 230 "ShadowBenchModel" "listed" "I") (by decide +kernel)) rfl dX10_tells_6 ?_
      refine lv_icmp_ge (tgt := 117) hx hb dX10_tells_9 (by decide) (fun c9 => ?_) (fun c9 => ?_)
      · skip
        have d9 := c9
        rw [fa_le] at d9
        refine lv_iload_n hx hb dX10_tells_117 rfl (lv_at hl 1 rfl) ?_
        exact W.zret (v := x2) hx hb hr (by rcases j4_1 with z | z <;> rw [z] <;> rfl) (fun t ht hW => ⟨⟨_, (f, g, r, q), rfl, ⟨rfl, j4_1⟩, by unfold mB; rw [ht]; exact hP⟩, hS.F ht⟩) hS.2.2 dX10_tells_118
      · skip
        have d9 := c9
        rw [fa_le] at d9
        refine lv_iconst (v := 0) hx hb dX10_tells_12 (by decide) ?_
        refine lv_istore (lv' := [(4, .int (0 : Int32)), (3, .int (nI k)), (2, .int x2), (0, .ref mo), (1, .int ways)]) hx hb dX10_tells_13 hl (by decide) rfl (fun ls hl => ?_)
        have loop_15 : ∀ (n : Nat) (i : Nat) (y2 : Int32), (i ≤ 12) → (y2 = 0 ∨ y2 = 1) → 12 - i < n → ∀ (H : Heap) (locs : List Loc), va_P D vwCl (WM cy mo a f g r q) H → va_S (AM mo a) s.heap H locs → ∀ (ls : Array Slot), lv_has ls 7 [(4, .int (nI i)), (3, .int (nI k)), (2, .int y2), (0, .ref mo), (1, .int ways)] → W p l e (headSpec wsX10_tells ({ frames := 3, cells := 0, slots := 0, locals := 78 })).room s m #[Value.ref mo, Value.int ways] below meth c H locs 0 0 (MQ below (va_Qi (fun r0 u => u = (f, g, r, q) ∧ (r0 = 0 ∨ r0 = 1)) (mB D cy mo a) (AM mo a)) #[Value.ref mo, Value.int ways] s 0 0 (AM mo a)) (F0 m 15 ls []) := by
          intro n
          induction n with
          | zero => intro i y2  j15_0 j15_1 hn; exact absurd hn (Nat.not_lt_zero _)
          | succ n ih_15 =>
            intro i y2  j15_0 j15_1 hn_15 H locs hP hS ls hl
            have ii : (nI i).toInt = (i : Int) := nI_toInt (by omega)
            refine lv_iload hx hb dX10_tells_15 (lv_at hl 0 rfl) ?_
            refine lv_iload_n hx hb dX10_tells_17 rfl (lv_at hl 1 rfl) ?_
            refine lv_icmp_ge (tgt := 111) hx hb dX10_tells_18 (by decide) (fun c18 => ?_) (fun c18 => ?_)
            · skip
              have d18 := c18
              rw [fa_le] at d18
              refine lv_iinc (v := (nI (k + 1))) (lv' := [(3, .int (nI (k + 1))), (4, .int (nI i)), (2, .int y2), (0, .ref mo), (1, .int ways)]) hx hb dX10_tells_111 hl (k := 1) rfl (nI_1 _) (by decide) rfl (fun ls hl => ?_)
              refine lv_goto (tgt := 4) hx hb dX10_tells_114 (by decide) ?_
              exact ih_4 (k + 1) y2 (by omega) (by first | assumption | decide) (by omega) _ _ hP hS ls (lv_sub hl [0, 2, 3, 4] rfl)
            · skip
              have d18 := c18
              rw [fa_le] at d18
              refine lv_iconst (v := 0) hx hb dX10_tells_21 (by decide) ?_
              refine lv_istore (lv' := [(5, .int (0 : Int32)), (4, .int (nI i)), (3, .int (nI k)), (2, .int y2), (0, .ref mo), (1, .int ways)]) hx hb dX10_tells_22 hl (by decide) rfl (fun ls hl => ?_)
              refine lv_iconst (v := 0) hx hb dX10_tells_24 (by decide) ?_
              refine lv_istore (lv' := [(6, .int (0 : Int32)), (5, .int (0 : Int32)), (4, .int (nI i)), (3, .int (nI k)), (2, .int y2), (0, .ref mo), (1, .int ways)]) hx hb dX10_tells_25 hl (by decide) rfl (fun ls hl => ?_)
              have loop_27 : ∀ (n : Nat) (m1 : Nat) (x5 : Int32), (m1 ≤ 4) → 4 - m1 < n → ∀ (H : Heap) (locs : List Loc), va_P D vwCl (WM cy mo a f g r q) H → va_S (AM mo a) s.heap H locs → ∀ (ls : Array Slot), lv_has ls 7 [(6, .int (nI m1)), (5, .int x5), (4, .int (nI i)), (3, .int (nI k)), (2, .int y2), (0, .ref mo), (1, .int ways)] → W p l e (headSpec wsX10_tells ({ frames := 3, cells := 0, slots := 0, locals := 78 })).room s m #[Value.ref mo, Value.int ways] below meth c H locs 0 0 (MQ below (va_Qi (fun r0 u => u = (f, g, r, q) ∧ (r0 = 0 ∨ r0 = 1)) (mB D cy mo a) (AM mo a)) #[Value.ref mo, Value.int ways] s 0 0 (AM mo a)) (F0 m 27 ls []) := by
                intro n
                induction n with
                | zero => intro m1 x5  j27_0 hn; exact absurd hn (Nat.not_lt_zero _)
                | succ n ih_27 =>
                  intro m1 x5  j27_0 hn_27 H locs hP hS ls hl
                  have im1 : (nI m1).toInt = (m1 : Int) := nI_toInt (by omega)
                  refine lv_iload hx hb dX10_tells_27 (lv_at hl 0 rfl) ?_
                  refine lv_iconst (v := 4) hx hb dX10_tells_29 (by decide) ?_
                  refine lv_icmp_ge (tgt := 90) hx hb dX10_tells_30 (by decide) (fun c30 => ?_) (fun c30 => ?_)
                  · skip
                    have d30 := c30
                    rw [fa_le] at d30
                    refine lv_iload_n hx hb dX10_tells_90 rfl (lv_at hl 4 rfl) ?_
                    refine lv_if_eq (tgt := 103) hx hb dX10_tells_91 (by decide) (fun c91 => ?_) (fun c91 => ?_)
                    · skip
                      have d91 := c91
                      rw [fa_eq] at d91
                      refine lv_iconst (v := 0) hx hb dX10_tells_103 (by decide) ?_
                      refine lv_istore_n (lv' := [(2, .int (0 : Int32)), (6, .int (nI m1)), (5, .int x5), (4, .int (nI i)), (3, .int (nI k)), (0, .ref mo), (1, .int ways)]) hx hb dX10_tells_104 rfl hl (by decide) rfl (fun ls hl => ?_)
                      refine lv_iinc (v := (nI (i + 1))) (lv' := [(4, .int (nI (i + 1))), (2, .int (0 : Int32)), (6, .int (nI m1)), (5, .int x5), (3, .int (nI k)), (0, .ref mo), (1, .int ways)]) hx hb dX10_tells_105 hl (k := 3) rfl (nI_1 _) (by decide) rfl (fun ls hl => ?_)
                      refine lv_goto (tgt := 15) hx hb dX10_tells_108 (by decide) ?_
                      exact ih_15 (i + 1) (0 : Int32) (by omega) (by first | assumption | decide) (by omega) _ _ hP hS ls (lv_sub hl [0, 4, 1, 5, 6] rfl)
                    · skip
                      have d91 := c91
                      rw [fa_eq] at d91
                      refine lv_iload hx hb dX10_tells_94 (lv_at hl 1 rfl) ?_
                      refine lv_if_eq (tgt := 103) hx hb dX10_tells_96 (by decide) (fun c96 => ?_) (fun c96 => ?_)
                      · skip
                        have d96 := c96
                        rw [fa_eq] at d96
                        refine lv_iconst (v := 0) hx hb dX10_tells_103 (by decide) ?_
                        refine lv_istore_n (lv' := [(2, .int (0 : Int32)), (6, .int (nI m1)), (5, .int x5), (4, .int (nI i)), (3, .int (nI k)), (0, .ref mo), (1, .int ways)]) hx hb dX10_tells_104 rfl hl (by decide) rfl (fun ls hl => ?_)
                        refine lv_iinc (v := (nI (i + 1))) (lv' := [(4, .int (nI (i + 1))), (2, .int (0 : Int32)), (6, .int (nI m1)), (5, .int x5), (3, .int (nI k)), (0, .ref mo), (1, .int ways)]) hx hb dX10_tells_105 hl (k := 3) rfl (nI_1 _) (by decide) rfl (fun ls hl => ?_)
                        refine lv_goto (tgt := 15) hx hb dX10_tells_108 (by decide) ?_
                        exact ih_15 (i + 1) (0 : Int32) (by omega) (by first | assumption | decide) (by omega) _ _ hP hS ls (lv_sub hl [0, 4, 1, 5, 6] rfl)
                      · skip
                        have d96 := c96
                        rw [fa_eq] at d96
                        refine lv_iconst (v := 1) hx hb dX10_tells_99 (by decide) ?_
                        refine lv_goto (tgt := 104) hx hb dX10_tells_100 (by decide) ?_
                        refine lv_istore_n (lv' := [(2, .int (1 : Int32)), (6, .int (nI m1)), (5, .int x5), (4, .int (nI i)), (3, .int (nI k)), (0, .ref mo), (1, .int ways)]) hx hb dX10_tells_104 rfl hl (by decide) rfl (fun ls hl => ?_)
                        refine lv_iinc (v := (nI (i + 1))) (lv' := [(4, .int (nI (i + 1))), (2, .int (1 : Int32)), (6, .int (nI m1)), (5, .int x5), (3, .int (nI k)), (0, .ref mo), (1, .int ways)]) hx hb dX10_tells_105 hl (k := 3) rfl (nI_1 _) (by decide) rfl (fun ls hl => ?_)
                        refine lv_goto (tgt := 15) hx hb dX10_tells_108 (by decide) ?_
                        exact ih_15 (i + 1) (1 : Int32) (by omega) (by first | assumption | decide) (by omega) _ _ hP hS ls (lv_sub hl [0, 4, 1, 5, 6] rfl)
                  · skip
                    have d30 := c30
                    rw [fa_le] at d30
                    refine lv_iload hx hb dX10_tells_33 (lv_at hl 1 rfl) ?_
                    refine lv_if_ne (tgt := 77) hx hb dX10_tells_35 (by decide) (fun c35 => ?_) (fun c35 => ?_)
                    · skip
                      have d35 := c35
                      rw [fa_eq] at d35
                      refine lv_iconst (v := 1) hx hb dX10_tells_77 (by decide) ?_
                      refine lv_goto (tgt := 82) hx hb dX10_tells_78 (by decide) ?_
                      refine lv_istore (lv' := [(5, .int (1 : Int32)), (6, .int (nI m1)), (4, .int (nI i)), (3, .int (nI k)), (2, .int y2), (0, .ref mo), (1, .int ways)]) hx hb dX10_tells_82 hl (by decide) rfl (fun ls hl => ?_)
                      refine lv_iinc (v := (nI (m1 + 1))) (lv' := [(6, .int (nI (m1 + 1))), (5, .int (1 : Int32)), (4, .int (nI i)), (3, .int (nI k)), (2, .int y2), (0, .ref mo), (1, .int ways)]) hx hb dX10_tells_84 hl (k := 1) rfl (nI_1 _) (by decide) rfl (fun ls hl => ?_)
                      refine lv_goto (tgt := 27) hx hb dX10_tells_87 (by decide) ?_
                      exact ih_27 (m1 + 1) (1 : Int32) (by omega) (by omega) _ _ hP hS ls (lv_sub hl [0, 1, 2, 3, 4, 5, 6] rfl)
                    · skip
                      have d35 := c35
                      rw [fa_eq] at d35
                      refine lv_iload_n hx hb dX10_tells_38 rfl (lv_at hl 6 rfl) ?_
                      refine lv_iload hx hb dX10_tells_39 (lv_at hl 0 rfl) ?_
                      refine lv_ishr hx hb dX10_tells_41 ?_
                      refine lv_topi (fun v41 e41 => ?_)
                      refine lv_iconst (v := 1) hx hb dX10_tells_42 (by decide) ?_
                      refine lv_iand hx hb dX10_tells_43 ?_
                      refine lv_topi (fun v43 e43 => ?_)
                      refine lv_iconst (v := 1) hx hb dX10_tells_44 (by decide) ?_
                      refine lv_icmp_ne (tgt := 81) hx hb dX10_tells_45 (by decide) (fun c45 => ?_) (fun c45 => ?_)
                      · skip
                        have d45 := c45
                        rw [fa_eq] at d45
                        refine lv_iconst (v := 0) hx hb dX10_tells_81 (by decide) ?_
                        refine lv_istore (lv' := [(5, .int (0 : Int32)), (6, .int (nI m1)), (4, .int (nI i)), (3, .int (nI k)), (2, .int y2), (0, .ref mo), (1, .int ways)]) hx hb dX10_tells_82 hl (by decide) rfl (fun ls hl => ?_)
                        refine lv_iinc (v := (nI (m1 + 1))) (lv' := [(6, .int (nI (m1 + 1))), (5, .int (0 : Int32)), (4, .int (nI i)), (3, .int (nI k)), (2, .int y2), (0, .ref mo), (1, .int ways)]) hx hb dX10_tells_84 hl (k := 1) rfl (nI_1 _) (by decide) rfl (fun ls hl => ?_)
                        refine lv_goto (tgt := 27) hx hb dX10_tells_87 (by decide) ?_
                        exact ih_27 (m1 + 1) (0 : Int32) (by omega) (by omega) _ _ hP hS ls (lv_sub hl [0, 1, 2, 3, 4, 5, 6] rfl)
                      · skip
                        have d45 := c45
                        rw [fa_eq] at d45
                        have hLw := hI.2.2.2.1 (by omega)
                        refine lv_aload_n hx hb dX10_tells_48 rfl (lv_at hl 5 rfl) ?_
                        refine m_get (v := .int (f 24)) hx hb hts hin hown hK hP 24 (by decide) rfl (hts (.fieldLink RX10 233 "ShadowBenchModel" "listWide" "I") (by decide +kernel)) rfl dX10_tells_49 ?_
                        refine lv_aload_n hx hb dX10_tells_52 rfl (lv_at hl 5 rfl) ?_
                        refine m_get (v := .int (f 25)) hx hb hts hin hown hK hP 25 (by decide) rfl (hts (.fieldLink RX10 236 "ShadowBenchModel" "listHigh" "I") (by decide +kernel)) rfl dX10_tells_53 ?_
                        refine lv_aload_n hx hb dX10_tells_56 rfl (lv_at hl 5 rfl) ?_
                        refine m_get (v := .ref (a 26)) hx hb hts hin hown hK hP 26 (by decide) rfl (hts (.fieldLink RX10 52 "ShadowBenchModel" "list" "[J") (by decide +kernel)) rfl dX10_tells_57 ?_
                        refine lv_iload_n hx hb dX10_tells_60 rfl (lv_at hl 3 rfl) ?_
                        refine m_lald (w := (q 26)) hx hb hK hP 14 rfl (vp_in_iff.mpr ⟨by omega, by omega⟩) dX10_tells_61 ?_
                        refine lv_topl (fun v61 e61 => ?_)
                        refine lv_aload_n hx hb dX10_tells_62 rfl (lv_at hl 5 rfl) ?_
                        refine m_get (v := .ref (a 26)) hx hb hts hin hown hK hP 26 (by decide) rfl (hts (.fieldLink RX10 52 "ShadowBenchModel" "list" "[J") (by decide +kernel)) rfl dX10_tells_63 ?_
                        refine lv_iload hx hb dX10_tells_66 (lv_at hl 2 rfl) ?_
                        refine m_lald (w := (q 26)) hx hb hK hP 14 rfl (vp_in_iff.mpr ⟨by omega, by omega⟩) dX10_tells_68 ?_
                        refine lv_topl (fun v68 e68 => ?_)
                        refine lv_iload hx hb dX10_tells_69 (lv_at hl 0 rfl) ?_
                        refine m_pu (As := [.int (f 24), .int (f 25), .long v61, .long v68, .int (nI m1)]) (rest := []) ⟨hx, hb, hml, hown, hts⟩ (c_X10_areAlike l (f 24) (f 25) v61 v68 (nI m1) hLw.1 hLw.2) (va_cwS 5 hts gX10_tells_X10_areAlike rfl rfl rfl (by decide +kernel) ⟨Nat.le_of_ble_eq_true rfl, Nat.le_of_ble_eq_true rfl⟩) hP rfl hl.1 rfl (Nat.le_of_ble_eq_true rfl) dX10_tells_71 ⟨Nat.le_of_ble_eq_true rfl, Nat.le_of_ble_eq_true rfl⟩ hS (fun r71 H locs q71 hP hS => ?_)
                        refine lv_if_ne (tgt := 81) hx hb dX10_tells_74 (by decide) (fun c74 => ?_) (fun c74 => ?_)
                        · skip
                          have d74 := c74
                          rw [fa_eq] at d74
                          refine lv_iconst (v := 0) hx hb dX10_tells_81 (by decide) ?_
                          refine lv_istore (lv' := [(5, .int (0 : Int32)), (6, .int (nI m1)), (4, .int (nI i)), (3, .int (nI k)), (2, .int y2), (0, .ref mo), (1, .int ways)]) hx hb dX10_tells_82 hl (by decide) rfl (fun ls hl => ?_)
                          refine lv_iinc (v := (nI (m1 + 1))) (lv' := [(6, .int (nI (m1 + 1))), (5, .int (0 : Int32)), (4, .int (nI i)), (3, .int (nI k)), (2, .int y2), (0, .ref mo), (1, .int ways)]) hx hb dX10_tells_84 hl (k := 1) rfl (nI_1 _) (by decide) rfl (fun ls hl => ?_)
                          refine lv_goto (tgt := 27) hx hb dX10_tells_87 (by decide) ?_
                          exact ih_27 (m1 + 1) (0 : Int32) (by omega) (by omega) _ _ hP hS ls (lv_sub hl [0, 1, 2, 3, 4, 5, 6] rfl)
                        · skip
                          have d74 := c74
                          rw [fa_eq] at d74
                          refine lv_iconst (v := 1) hx hb dX10_tells_77 (by decide) ?_
                          refine lv_goto (tgt := 82) hx hb dX10_tells_78 (by decide) ?_
                          refine lv_istore (lv' := [(5, .int (1 : Int32)), (6, .int (nI m1)), (4, .int (nI i)), (3, .int (nI k)), (2, .int y2), (0, .ref mo), (1, .int ways)]) hx hb dX10_tells_82 hl (by decide) rfl (fun ls hl => ?_)
                          refine lv_iinc (v := (nI (m1 + 1))) (lv' := [(6, .int (nI (m1 + 1))), (5, .int (1 : Int32)), (4, .int (nI i)), (3, .int (nI k)), (2, .int y2), (0, .ref mo), (1, .int ways)]) hx hb dX10_tells_84 hl (k := 1) rfl (nI_1 _) (by decide) rfl (fun ls hl => ?_)
                          refine lv_goto (tgt := 27) hx hb dX10_tells_87 (by decide) ?_
                          exact ih_27 (m1 + 1) (1 : Int32) (by omega) (by omega) _ _ hP hS ls (lv_sub hl [0, 1, 2, 3, 4, 5, 6] rfl)
              exact loop_27 (4 + 1) 0 (0 : Int32) (by omega) (by omega) _ _ hP hS ls (lv_sub hl [0, 1, 2, 3, 4, 5, 6] rfl)
        exact loop_15 (12 + 1) 0 x2 (by omega) (by assumption) (by omega) _ _ hP hS ls (lv_sub hl [0, 1, 2, 3, 4] rfl)
  exact loop_4 (12 + 1) 0 (1 : Int32) (by omega) (by decide) (by omega) _ _ hP hS ls (lv_sub hl [0, 1, 2, 3] rfl)
set_option maxHeartbeats 4000000 in
set_option maxRecDepth 100000 in
theorem c_X10_ways (l : Launch) (D : va_G) (cy : Nat → ClassId) (mo : Nat) (a : Nat → Nat) (f : Nat → Int32) (g : Nat → Int64) (r : Nat → Nat → Int32) (q : Nat → Nat → Int64)  (hD : DM cy mo a) (hI : MI f r) : Mi l D cy mo a yX10_ways wsX10_ways ({ frames := 4, cells := 0, slots := 0, locals := 104 }) f g r q [] (fun r0 u => u = ((upd f 0 (0 : Int32)), g, r, q) ∧ (True)) := by
  refine Met.ofW (cc := cX10_ways) (maxL := 3) (ret := (some .int)) (by decide) rfl ?_
  intro p e s m args below meth c s₁ B hml hv
  obtain ⟨rfl, hP, hK⟩ := hv
  have hx := B.exec
  have hb := B.bytes
  have hr := B.returns
  have hts := atoms_spec (ws := wsX10_ways) B.pre
  have hin : ∀ w ∈ u_ws RX10 TX10 35, w ∈ wsX10_ways := by decide +kernel
  have hown : s.vm.findClass RX10 = some m.cls := findClass_of_methodNamed B.named
  have hlocks := B.notSynchronized
  have hS : va_S (AM mo a) s.heap s.heap [] := va_S.rf
  have hl := lv_entry ([.ref mo]) (n := 3) (Nat.le_of_ble_eq_true rfl)
  rw [lg_entry_eq]
  generalize (lg_sl ([.ref mo]) ++ List.replicate (3 - (lg_sl ([.ref mo])).length) Slot.unset).toArray = ls at hl ⊢
  have hl : lv_has ls 3 [(0, .ref mo)] := hl
  have k_m2 : (-2 : Int32).toInt = -2 := by decide
  have k_0 : (0 : Int32).toInt = 0 := by decide
  have k_4 : (4 : Int32).toInt = 4 := by decide
  have k_16 : (16 : Int32).toInt = 16 := by decide
  refine lv_aload_n hx hb dX10_ways_0 rfl (lv_at hl 0 rfl) ?_
  refine lv_iconst (v := 0) hx hb dX10_ways_1 (by decide) ?_
  refine m_put (v := .int (0 : Int32)) (ty := .int) hx hb hts hin hown hK hP hD hS 0 (by decide) rfl (hts (.fieldLink RX10 79 "ShadowBenchModel" "thrown" "I") (by decide +kernel)) rfl (by decide +kernel) rfl rfl (upd f 0 (0 : Int32)) g rfl dX10_ways_2 (fun H locs hP hS => ?_)
  refine lv_iconst (v := 0) hx hb dX10_ways_5 (by decide) ?_
  refine lv_istore_n (lv' := [(1, .int (0 : Int32)), (0, .ref mo)]) hx hb dX10_ways_6 rfl hl (by decide) rfl (fun ls hl => ?_)
  have loop_7 : ∀ (n : Nat) (k : Nat), (k ≤ 5) → 5 - k < n → ∀ (H : Heap) (locs : List Loc), va_P D vwCl (WM cy mo a (upd f 0 (0 : Int32)) g r q) H → va_S (AM mo a) s.heap H locs → ∀ (ls : Array Slot), lv_has ls 3 [(1, .int (nI k)), (0, .ref mo)] → W p l e (headSpec wsX10_ways ({ frames := 4, cells := 0, slots := 0, locals := 104 })).room s m #[Value.ref mo] below meth c H locs 0 0 (MQ below (va_Qi (fun r0 u => u = ((upd f 0 (0 : Int32)), g, r, q) ∧ (True)) (mB D cy mo a) (AM mo a)) #[Value.ref mo] s 0 0 (AM mo a)) (F0 m 7 ls []) := by
    intro n
    induction n with
    | zero => intro k  j7_0 hn; exact absurd hn (Nat.not_lt_zero _)
    | succ n ih_7 =>
      intro k  j7_0 hn_7 H locs hP hS ls hl
      have ik : (nI k).toInt = (k : Int) := nI_toInt (by omega)
      refine lv_iload_n hx hb dX10_ways_7 rfl (lv_at hl 0 rfl) ?_
      refine lv_iconst (v := 4) hx hb dX10_ways_8 (by decide) ?_
      refine lv_icmp_gt (tgt := 51) hx hb dX10_ways_9 (by decide) (fun c9 => ?_) (fun c9 => ?_)
      · skip
        have d9 := c9
        rw [fa_lt] at d9
        refine lv_bipush (v := (-2)) hx hb dX10_ways_51 (by decide) ?_
        exact W.iret (v := ((-2) : Int32)) hx hb hr (fun t ht hW => ⟨⟨_, ((upd f 0 (0 : Int32)), g, r, q), rfl, ⟨rfl, trivial⟩, by unfold mB; rw [ht]; exact hP⟩, hS.F ht⟩) hS.2.2 dX10_ways_53
      · skip
        have d9 := c9
        rw [fa_lt] at d9
        refine lv_iconst (v := 0) hx hb dX10_ways_12 (by decide) ?_
        refine lv_istore_n (lv' := [(2, .int (0 : Int32)), (1, .int (nI k)), (0, .ref mo)]) hx hb dX10_ways_13 rfl hl (by decide) rfl (fun ls hl => ?_)
        have loop_14 : ∀ (n : Nat) (i : Nat), (i ≤ 16) → 16 - i < n → ∀ (H : Heap) (locs : List Loc), va_P D vwCl (WM cy mo a (upd f 0 (0 : Int32)) g r q) H → va_S (AM mo a) s.heap H locs → ∀ (ls : Array Slot), lv_has ls 3 [(2, .int (nI i)), (1, .int (nI k)), (0, .ref mo)] → W p l e (headSpec wsX10_ways ({ frames := 4, cells := 0, slots := 0, locals := 104 })).room s m #[Value.ref mo] below meth c H locs 0 0 (MQ below (va_Qi (fun r0 u => u = ((upd f 0 (0 : Int32)), g, r, q) ∧ (True)) (mB D cy mo a) (AM mo a)) #[Value.ref mo] s 0 0 (AM mo a)) (F0 m 14 ls []) := by
          intro n
          induction n with
          | zero => intro i  j14_0 hn; exact absurd hn (Nat.not_lt_zero _)
          | succ n ih_14 =>
            intro i  j14_0 hn_14 H locs hP hS ls hl
            have ii : (nI i).toInt = (i : Int) := nI_toInt (by omega)
            refine lv_iload_n hx hb dX10_ways_14 rfl (lv_at hl 0 rfl) ?_
            refine lv_bipush (v := 16) hx hb dX10_ways_15 (by decide) ?_
            refine lv_icmp_ge (tgt := 45) hx hb dX10_ways_17 (by decide) (fun c17 => ?_) (fun c17 => ?_)
            · skip
              have d17 := c17
              rw [fa_le] at d17
              refine lv_iinc (v := (nI (k + 1))) (lv' := [(1, .int (nI (k + 1))), (2, .int (nI i)), (0, .ref mo)]) hx hb dX10_ways_45 hl (k := 1) rfl (nI_1 _) (by decide) rfl (fun ls hl => ?_)
              refine lv_goto (tgt := 7) hx hb dX10_ways_48 (by decide) ?_
              exact ih_7 (k + 1) (by omega) (by omega) _ _ hP hS ls (lv_sub hl [0, 2] rfl)
            · skip
              have d17 := c17
              rw [fa_le] at d17
              refine lv_iload_n hx hb dX10_ways_20 rfl (lv_at hl 0 rfl) ?_
              refine lv_i2l (v := (nI i).toInt64) hx hb dX10_ways_21 rfl ?_
              refine m_pu (As := [.long ((nI i).toInt64)]) (rest := []) ⟨hx, hb, hml, hown, hts⟩ (c_X10_countOnes l ((nI i).toInt64) ) (va_cwS 1 hts gX10_ways_X10_countOnes rfl rfl rfl (by decide +kernel) ⟨Nat.le_of_ble_eq_true rfl, Nat.le_of_ble_eq_true rfl⟩) hP rfl hl.1 rfl (Nat.le_of_ble_eq_true rfl) dX10_ways_22 ⟨Nat.le_of_ble_eq_true rfl, Nat.le_of_ble_eq_true rfl⟩ hS (fun r22 H locs q22 hP hS => ?_)
              refine lv_iload_n hx hb dX10_ways_25 rfl (lv_at hl 1 rfl) ?_
              refine lv_icmp_ne (tgt := 39) hx hb dX10_ways_26 (by decide) (fun c26 => ?_) (fun c26 => ?_)
              · skip
                have d26 := c26
                rw [fa_eq] at d26
                refine lv_iinc (v := (nI (i + 1))) (lv' := [(2, .int (nI (i + 1))), (1, .int (nI k)), (0, .ref mo)]) hx hb dX10_ways_39 hl (k := 0) rfl (nI_1 _) (by decide) rfl (fun ls hl => ?_)
                refine lv_goto (tgt := 14) hx hb dX10_ways_42 (by decide) ?_
                exact ih_14 (i + 1) (by omega) (by omega) _ _ hP hS ls (lv_sub hl [0, 1, 2] rfl)
              · skip
                have d26 := c26
                rw [fa_eq] at d26
                refine lv_aload_n hx hb dX10_ways_29 rfl (lv_at hl 2 rfl) ?_
                refine lv_iload_n hx hb dX10_ways_30 rfl (lv_at hl 0 rfl) ?_
                refine m_calli (As := [.int (nI i)]) (rest := []) ⟨hx, hb, hml, hown, hts⟩ (c_X10_tells l D cy mo a (upd f 0 (0 : Int32)) g r q (nI i) hD hI) (cwV 1 hts gX10_ways_X10_tells rfl rfl rfl (by decide +kernel) ⟨Nat.le_of_ble_eq_true rfl, Nat.le_of_ble_eq_true rfl⟩) hK hP rfl hl.1 rfl (Nat.le_of_ble_eq_true rfl) dX10_ways_31 ⟨Nat.le_of_ble_eq_true rfl, Nat.le_of_ble_eq_true rfl⟩ hS (fun r31 u H locs q31 hP hS => ?_)
                obtain ⟨rfl, q31⟩ := q31
                have hP : va_P D vwCl (WM cy mo a (upd f 0 (0 : Int32)) g r q) H := hP
                have q31 : r31 = 0 ∨ r31 = 1 := q31
                refine lv_if_eq (tgt := 39) hx hb dX10_ways_34 (by decide) (fun c34 => ?_) (fun c34 => ?_)
                · skip
                  have d34 := c34
                  rw [fa_eq] at d34
                  refine lv_iinc (v := (nI (i + 1))) (lv' := [(2, .int (nI (i + 1))), (1, .int (nI k)), (0, .ref mo)]) hx hb dX10_ways_39 hl (k := 0) rfl (nI_1 _) (by decide) rfl (fun ls hl => ?_)
                  refine lv_goto (tgt := 14) hx hb dX10_ways_42 (by decide) ?_
                  exact ih_14 (i + 1) (by omega) (by omega) _ _ hP hS ls (lv_sub hl [0, 1, 2] rfl)
                · skip
                  have d34 := c34
                  rw [fa_eq] at d34
                  refine lv_iload_n hx hb dX10_ways_37 rfl (lv_at hl 0 rfl) ?_
                  exact W.iret (v := (nI i)) hx hb hr (fun t ht hW => ⟨⟨_, ((upd f 0 (0 : Int32)), g, r, q), rfl, ⟨rfl, trivial⟩, by unfold mB; rw [ht]; exact hP⟩, hS.F ht⟩) hS.2.2 dX10_ways_38
        exact loop_14 (16 + 1) 0 (by omega) (by omega) _ _ hP hS ls (lv_sub hl [0, 1, 2] rfl)
  exact loop_7 (5 + 1) 0 (by omega) (by omega) _ _ hP hS ls (lv_sub hl [0, 1] rfl)
set_option maxHeartbeats 4000000 in
set_option maxRecDepth 100000 in
theorem c_X10_haunt (l : Launch) (D : va_G) (cy : Nat → ClassId) (mo : Nat) (a : Nat → Nat) (f : Nat → Int32) (g : Nat → Int64) (r : Nat → Nat → Int32) (q : Nat → Nat → Int64) (ways : Int32) (hD : DM cy mo a)  : Mv l D cy mo a yX10_haunt wsX10_haunt ({ frames := 1, cells := 0, slots := 0, locals := 25 }) f g r q [.int ways] (fun u => ∃ (gh : Nat → Int32), ∃ (mv : Nat → Int32), u = (f, g, (va_up (va_up r 27 gh) 28 mv), q) ∧ (True)) := by
  refine Met.ofW (cc := cX10_haunt) (maxL := 7) (ret := none) (by decide) rfl ?_
  intro p e s m args below meth c s₁ B hml hv
  obtain ⟨rfl, hP, hK⟩ := hv
  have hx := B.exec
  have hb := B.bytes
  have hr := B.returns
  have hts := atoms_spec (ws := wsX10_haunt) B.pre
  have hin : ∀ w ∈ u_ws RX10 TX10 35, w ∈ wsX10_haunt := by decide +kernel
  have hown : s.vm.findClass RX10 = some m.cls := findClass_of_methodNamed B.named
  have hlocks := B.notSynchronized
  have hS : va_S (AM mo a) s.heap s.heap [] := va_S.rf
  have hl := lv_entry ([.ref mo, .int ways]) (n := 7) (Nat.le_of_ble_eq_true rfl)
  rw [lg_entry_eq]
  generalize (lg_sl ([.ref mo, .int ways]) ++ List.replicate (7 - (lg_sl ([.ref mo, .int ways])).length) Slot.unset).toArray = ls at hl ⊢
  have hl : lv_has ls 7 [(0, .ref mo), (1, .int ways)] := hl
  have k_0 : (0 : Int32).toInt = 0 := by decide
  have k_1 : (1 : Int32).toInt = 1 := by decide
  have k_3 : (3 : Int32).toInt = 3 := by decide
  have k_4 : (4 : Int32).toInt = 4 := by decide
  have k_11 : (11 : Int32).toInt = 11 := by decide
  have k_121 : (121 : Int32).toInt = 121 := by decide
  have k_0L : (0 : Int64).toInt = 0 := by decide
  have k_10L : (10 : Int64).toInt = 10 := by decide
  refine lv_iconst (v := 0) hx hb dX10_haunt_0 (by decide) ?_
  refine lv_istore_n (lv' := [(2, .int (0 : Int32)), (0, .ref mo), (1, .int ways)]) hx hb dX10_haunt_1 rfl hl (by decide) rfl (fun ls hl => ?_)
  have loop_2 : ∀ (n : Nat) (k : Nat) (g1 : Nat → Int32), (k ≤ 121) → 121 - k < n → ∀ (H : Heap) (locs : List Loc), va_P D vwCl (WM cy mo a f g (va_up r 27 g1) q) H → va_S (AM mo a) s.heap H locs → ∀ (ls : Array Slot), lv_has ls 7 [(2, .int (nI k)), (0, .ref mo), (1, .int ways)] → W p l e (headSpec wsX10_haunt ({ frames := 1, cells := 0, slots := 0, locals := 25 })).room s m #[Value.ref mo, Value.int ways] below meth c H locs 0 0 (MQ below (va_Qv (fun u => ∃ (gh : Nat → Int32), ∃ (mv : Nat → Int32), u = (f, g, (va_up (va_up r 27 gh) 28 mv), q) ∧ (True)) (mB D cy mo a) (AM mo a)) #[Value.ref mo, Value.int ways] s 0 0 (AM mo a)) (F0 m 2 ls []) := by
    intro n
    induction n with
    | zero => intro k g1 j2_0 hn; exact absurd hn (Nat.not_lt_zero _)
    | succ n ih_2 =>
      intro k g1 j2_0 hn_2 H locs hP hS ls hl
      have ik : (nI k).toInt = (k : Int) := nI_toInt (by omega)
      refine lv_iload_n hx hb dX10_haunt_2 rfl (lv_at hl 0 rfl) ?_
      refine lv_bipush (v := 121) hx hb dX10_haunt_3 (by decide) ?_
      refine lv_icmp_ge (tgt := 21) hx hb dX10_haunt_5 (by decide) (fun c5 => ?_) (fun c5 => ?_)
      · skip
        have d5 := c5
        rw [fa_le] at d5
        refine lv_aload_n hx hb dX10_haunt_21 rfl (lv_at hl 1 rfl) ?_
        refine m_get (v := .ref (a 27)) hx hb hts hin hown hK hP 27 (by decide) rfl (hts (.fieldLink RX10 55 "ShadowBenchModel" "ghost" "[I") (by decide +kernel)) rfl dX10_haunt_22 ?_
        refine lv_iload_n hx hb dX10_haunt_25 rfl (lv_at hl 2 rfl) ?_
        refine lv_iconst (v := 3) hx hb dX10_haunt_26 (by decide) ?_
        refine lv_ishr hx hb dX10_haunt_27 ?_
        refine lv_topi (fun v27 e27 => ?_)
        refine lv_iconst (v := 1) hx hb dX10_haunt_28 (by decide) ?_
        refine lv_iand hx hb dX10_haunt_29 ?_
        refine lv_topi (fun v29 e29 => ?_)
        have b29 := bit1 e29
        refine lv_bipush (v := 11) hx hb dX10_haunt_30 (by decide) ?_
        refine lv_imul hx hb dX10_haunt_32 ?_
        refine lv_topi (fun v32 e32 => ?_)
        have i32 : v32.toInt = v29.toInt * 11 := by rw [e32]; exact mulcR rfl (by omega) (by omega)
        refine lv_iconst (v := 1) hx hb dX10_haunt_33 (by decide) ?_
        refine m_iast (w := g1) hx hb hK hP hD hS 15 rfl (vp_in_iff.mpr ⟨by omega, by omega⟩) (va_up (va_up r 27 g1) 27 (upd g1 v32.toNatClampNeg (1 : Int32))) (ms_27 cy mo a _ _ _ _ _) dX10_haunt_34 (fun H locs hP hS => ?_)
        have hP := wm_eq rfl rfl (es_r_27__27 r g1 (upd g1 v32.toNatClampNeg (1 : Int32))) rfl hP
        refine lv_iconst (v := 0) hx hb dX10_haunt_35 (by decide) ?_
        refine lv_istore_n (lv' := [(2, .int (0 : Int32)), (0, .ref mo), (1, .int ways)]) hx hb dX10_haunt_36 rfl hl (by decide) rfl (fun ls hl => ?_)
        have loop_37 : ∀ (n : Nat) (k2 : Nat) (g2 : Nat → Int32) (m2 : Nat → Int32), (k2 ≤ 4) → 4 - k2 < n → ∀ (H : Heap) (locs : List Loc), va_P D vwCl (WM cy mo a f g (va_up (va_up r 27 g2) 28 m2) q) H → va_S (AM mo a) s.heap H locs → ∀ (ls : Array Slot), lv_has ls 7 [(2, .int (nI k2)), (0, .ref mo), (1, .int ways)] → W p l e (headSpec wsX10_haunt ({ frames := 1, cells := 0, slots := 0, locals := 25 })).room s m #[Value.ref mo, Value.int ways] below meth c H locs 0 0 (MQ below (va_Qv (fun u => ∃ (gh : Nat → Int32), ∃ (mv : Nat → Int32), u = (f, g, (va_up (va_up r 27 gh) 28 mv), q) ∧ (True)) (mB D cy mo a) (AM mo a)) #[Value.ref mo, Value.int ways] s 0 0 (AM mo a)) (F0 m 37 ls []) := by
          intro n
          induction n with
          | zero => intro k2 g2 m2 j37_0 hn; exact absurd hn (Nat.not_lt_zero _)
          | succ n ih_37 =>
            intro k2 g2 m2 j37_0 hn_37 H locs hP hS ls hl
            have ik2 : (nI k2).toInt = (k2 : Int) := nI_toInt (by omega)
            refine lv_iload_n hx hb dX10_haunt_37 rfl (lv_at hl 0 rfl) ?_
            refine lv_iconst (v := 4) hx hb dX10_haunt_38 (by decide) ?_
            refine lv_icmp_ge (tgt := 196) hx hb dX10_haunt_39 (by decide) (fun c39 => ?_) (fun c39 => ?_)
            · skip
              have d39 := c39
              rw [fa_le] at d39
              exact W.vret hx hb hr (fun t ht hW => ⟨⟨(f, g, (va_up (va_up r 27 g2) 28 m2), q), rfl, ⟨g2, m2, rfl, trivial⟩, by unfold mB; rw [ht]; exact hP⟩, hS.F ht⟩) hS.2.2 dX10_haunt_196
            · skip
              have d39 := c39
              rw [fa_le] at d39
              refine lv_iconst (v := 0) hx hb dX10_haunt_42 (by decide) ?_
              refine lv_istore_n (lv' := [(3, .int (0 : Int32)), (2, .int (nI k2)), (0, .ref mo), (1, .int ways)]) hx hb dX10_haunt_43 rfl hl (by decide) rfl (fun ls hl => ?_)
              have loop_44 : ∀ (n : Nat) (i : Nat) (m3 : Nat → Int32), (i ≤ 121) → 121 - i < n → ∀ (H : Heap) (locs : List Loc), va_P D vwCl (WM cy mo a f g (va_up (va_up r 27 g2) 28 m3) q) H → va_S (AM mo a) s.heap H locs → ∀ (ls : Array Slot), lv_has ls 7 [(3, .int (nI i)), (2, .int (nI k2)), (0, .ref mo), (1, .int ways)] → W p l e (headSpec wsX10_haunt ({ frames := 1, cells := 0, slots := 0, locals := 25 })).room s m #[Value.ref mo, Value.int ways] below meth c H locs 0 0 (MQ below (va_Qv (fun u => ∃ (gh : Nat → Int32), ∃ (mv : Nat → Int32), u = (f, g, (va_up (va_up r 27 gh) 28 mv), q) ∧ (True)) (mB D cy mo a) (AM mo a)) #[Value.ref mo, Value.int ways] s 0 0 (AM mo a)) (F0 m 44 ls []) := by
                intro n
                induction n with
                | zero => intro i m3 j44_0 hn; exact absurd hn (Nat.not_lt_zero _)
                | succ n ih_44 =>
                  intro i m3 j44_0 hn_44 H locs hP hS ls hl
                  have ii : (nI i).toInt = (i : Int) := nI_toInt (by omega)
                  refine lv_iload_n hx hb dX10_haunt_44 rfl (lv_at hl 0 rfl) ?_
                  refine lv_bipush (v := 121) hx hb dX10_haunt_45 (by decide) ?_
                  refine lv_icmp_ge (tgt := 155) hx hb dX10_haunt_47 (by decide) (fun c47 => ?_) (fun c47 => ?_)
                  · skip
                    have d47 := c47
                    rw [fa_le] at d47
                    refine lv_iconst (v := 0) hx hb dX10_haunt_155 (by decide) ?_
                    refine lv_istore_n (lv' := [(3, .int (0 : Int32)), (2, .int (nI k2)), (0, .ref mo), (1, .int ways)]) hx hb dX10_haunt_156 rfl hl (by decide) rfl (fun ls hl => ?_)
                    have loop_157 : ∀ (n : Nat) (i2 : Nat) (g4 : Nat → Int32), (i2 ≤ 121) → 121 - i2 < n → ∀ (H : Heap) (locs : List Loc), va_P D vwCl (WM cy mo a f g (va_up (va_up r 28 m3) 27 g4) q) H → va_S (AM mo a) s.heap H locs → ∀ (ls : Array Slot), lv_has ls 7 [(3, .int (nI i2)), (2, .int (nI k2)), (0, .ref mo), (1, .int ways)] → W p l e (headSpec wsX10_haunt ({ frames := 1, cells := 0, slots := 0, locals := 25 })).room s m #[Value.ref mo, Value.int ways] below meth c H locs 0 0 (MQ below (va_Qv (fun u => ∃ (gh : Nat → Int32), ∃ (mv : Nat → Int32), u = (f, g, (va_up (va_up r 27 gh) 28 mv), q) ∧ (True)) (mB D cy mo a) (AM mo a)) #[Value.ref mo, Value.int ways] s 0 0 (AM mo a)) (F0 m 157 ls []) := by
                      intro n
                      induction n with
                      | zero => intro i2 g4 j157_0 hn; exact absurd hn (Nat.not_lt_zero _)
                      | succ n ih_157 =>
                        intro i2 g4 j157_0 hn_157 H locs hP hS ls hl
                        have ii2 : (nI i2).toInt = (i2 : Int) := nI_toInt (by omega)
                        refine lv_iload_n hx hb dX10_haunt_157 rfl (lv_at hl 0 rfl) ?_
                        refine lv_bipush (v := 121) hx hb dX10_haunt_158 (by decide) ?_
                        refine lv_icmp_ge (tgt := 190) hx hb dX10_haunt_160 (by decide) (fun c160 => ?_) (fun c160 => ?_)
                        · skip
                          have d160 := c160
                          rw [fa_le] at d160
                          refine lv_iinc (v := (nI (k2 + 1))) (lv' := [(2, .int (nI (k2 + 1))), (3, .int (nI i2)), (0, .ref mo), (1, .int ways)]) hx hb dX10_haunt_190 hl (k := 1) rfl (nI_1 _) (by decide) rfl (fun ls hl => ?_)
                          refine lv_goto (tgt := 37) hx hb dX10_haunt_193 (by decide) ?_
                          have hP := wm_eq rfl rfl (ec_r_28_27__27_28 r m3 g4) rfl hP
                          exact ih_37 (k2 + 1) g4 m3 (by omega) (by omega) _ _ hP hS ls (lv_sub hl [0, 2, 3] rfl)
                        · skip
                          have d160 := c160
                          rw [fa_le] at d160
                          refine lv_iload_n hx hb dX10_haunt_163 rfl (lv_at hl 3 rfl) ?_
                          refine lv_iload_n hx hb dX10_haunt_164 rfl (lv_at hl 1 rfl) ?_
                          refine lv_ishr hx hb dX10_haunt_165 ?_
                          refine lv_topi (fun v165 e165 => ?_)
                          refine lv_iconst (v := 1) hx hb dX10_haunt_166 (by decide) ?_
                          refine lv_iand hx hb dX10_haunt_167 ?_
                          refine lv_topi (fun v167 e167 => ?_)
                          refine lv_iconst (v := 1) hx hb dX10_haunt_168 (by decide) ?_
                          refine lv_icmp_ne (tgt := 190) hx hb dX10_haunt_169 (by decide) (fun c169 => ?_) (fun c169 => ?_)
                          · skip
                            have d169 := c169
                            rw [fa_eq] at d169
                            refine lv_iinc (v := (nI (k2 + 1))) (lv' := [(2, .int (nI (k2 + 1))), (3, .int (nI i2)), (0, .ref mo), (1, .int ways)]) hx hb dX10_haunt_190 hl (k := 1) rfl (nI_1 _) (by decide) rfl (fun ls hl => ?_)
                            refine lv_goto (tgt := 37) hx hb dX10_haunt_193 (by decide) ?_
                            have hP := wm_eq rfl rfl (ec_r_28_27__27_28 r m3 g4) rfl hP
                            exact ih_37 (k2 + 1) g4 m3 (by omega) (by omega) _ _ hP hS ls (lv_sub hl [0, 2, 3] rfl)
                          · skip
                            have d169 := c169
                            rw [fa_eq] at d169
                            refine lv_aload_n hx hb dX10_haunt_172 rfl (lv_at hl 2 rfl) ?_
                            refine m_get (v := .ref (a 27)) hx hb hts hin hown hK hP 27 (by decide) rfl (hts (.fieldLink RX10 55 "ShadowBenchModel" "ghost" "[I") (by decide +kernel)) rfl dX10_haunt_173 ?_
                            refine lv_iload_n hx hb dX10_haunt_176 rfl (lv_at hl 0 rfl) ?_
                            refine lv_aload_n hx hb dX10_haunt_177 rfl (lv_at hl 2 rfl) ?_
                            refine m_get (v := .ref (a 28)) hx hb hts hin hown hK hP 28 (by decide) rfl (hts (.fieldLink RX10 58 "ShadowBenchModel" "moved" "[I") (by decide +kernel)) rfl dX10_haunt_178 ?_
                            refine lv_iload_n hx hb dX10_haunt_181 rfl (lv_at hl 0 rfl) ?_
                            refine m_iald (w := m3) hx hb hK hP 16 rfl (vp_in_iff.mpr ⟨by omega, by omega⟩) dX10_haunt_182 ?_
                            refine lv_topi (fun v182 e182 => ?_)
                            have i182 : v182.toInt = (m3 (nI i2).toNatClampNeg).toInt := congrArg Int32.toInt e182
                            refine m_iast (w := g4) hx hb hK hP hD hS 15 rfl (vp_in_iff.mpr ⟨by omega, by omega⟩) (va_up (va_up (va_up r 28 m3) 27 g4) 27 (upd g4 (nI i2).toNatClampNeg v182)) (ms_27 cy mo a _ _ _ _ _) dX10_haunt_183 (fun H locs hP hS => ?_)
                            have hP := wm_eq rfl rfl (es_r_28_27__27 r m3 g4 (upd g4 (nI i2).toNatClampNeg v182)) rfl hP
                            refine lv_iinc (v := (nI (i2 + 1))) (lv' := [(3, .int (nI (i2 + 1))), (2, .int (nI k2)), (0, .ref mo), (1, .int ways)]) hx hb dX10_haunt_184 hl (k := 0) rfl (nI_1 _) (by decide) rfl (fun ls hl => ?_)
                            refine lv_goto (tgt := 157) hx hb dX10_haunt_187 (by decide) ?_
                            have hP := wm_eq rfl rfl (ec_r_28_27__28_27 r m3 ((upd g4 (nI i2).toNatClampNeg v182))) rfl hP
                            exact ih_157 (i2 + 1) (((upd g4 (nI i2).toNatClampNeg v182))) (by omega) (by omega) _ _ hP hS ls (lv_sub hl [0, 1, 2, 3] rfl)
                    have hP := wm_eq rfl rfl (ec_r_27_28__28_27 r g2 m3) rfl hP
                    exact loop_157 (121 + 1) 0 g2 (by omega) (by omega) _ _ hP hS ls (lv_sub hl [0, 1, 2, 3] rfl)
                  · skip
                    have d47 := c47
                    rw [fa_le] at d47
                    refine lv_iload_n hx hb dX10_haunt_50 rfl (lv_at hl 3 rfl) ?_
                    refine lv_iload_n hx hb dX10_haunt_51 rfl (lv_at hl 1 rfl) ?_
                    refine lv_ishr hx hb dX10_haunt_52 ?_
                    refine lv_topi (fun v52 e52 => ?_)
                    refine lv_iconst (v := 1) hx hb dX10_haunt_53 (by decide) ?_
                    refine lv_iand hx hb dX10_haunt_54 ?_
                    refine lv_topi (fun v54 e54 => ?_)
                    refine lv_iconst (v := 1) hx hb dX10_haunt_55 (by decide) ?_
                    refine lv_icmp_ne (tgt := 155) hx hb dX10_haunt_56 (by decide) (fun c56 => ?_) (fun c56 => ?_)
                    · skip
                      have d56 := c56
                      rw [fa_eq] at d56
                      refine lv_iconst (v := 0) hx hb dX10_haunt_155 (by decide) ?_
                      refine lv_istore_n (lv' := [(3, .int (0 : Int32)), (2, .int (nI k2)), (0, .ref mo), (1, .int ways)]) hx hb dX10_haunt_156 rfl hl (by decide) rfl (fun ls hl => ?_)
                      have loop_157 : ∀ (n : Nat) (i2 : Nat) (g4 : Nat → Int32), (i2 ≤ 121) → 121 - i2 < n → ∀ (H : Heap) (locs : List Loc), va_P D vwCl (WM cy mo a f g (va_up (va_up r 28 m3) 27 g4) q) H → va_S (AM mo a) s.heap H locs → ∀ (ls : Array Slot), lv_has ls 7 [(3, .int (nI i2)), (2, .int (nI k2)), (0, .ref mo), (1, .int ways)] → W p l e (headSpec wsX10_haunt ({ frames := 1, cells := 0, slots := 0, locals := 25 })).room s m #[Value.ref mo, Value.int ways] below meth c H locs 0 0 (MQ below (va_Qv (fun u => ∃ (gh : Nat → Int32), ∃ (mv : Nat → Int32), u = (f, g, (va_up (va_up r 27 gh) 28 mv), q) ∧ (True)) (mB D cy mo a) (AM mo a)) #[Value.ref mo, Value.int ways] s 0 0 (AM mo a)) (F0 m 157 ls []) := by
                        intro n
                        induction n with
                        | zero => intro i2 g4 j157_0 hn; exact absurd hn (Nat.not_lt_zero _)
                        | succ n ih_157 =>
                          intro i2 g4 j157_0 hn_157 H locs hP hS ls hl
                          have ii2 : (nI i2).toInt = (i2 : Int) := nI_toInt (by omega)
                          refine lv_iload_n hx hb dX10_haunt_157 rfl (lv_at hl 0 rfl) ?_
                          refine lv_bipush (v := 121) hx hb dX10_haunt_158 (by decide) ?_
                          refine lv_icmp_ge (tgt := 190) hx hb dX10_haunt_160 (by decide) (fun c160 => ?_) (fun c160 => ?_)
                          · skip
                            have d160 := c160
                            rw [fa_le] at d160
                            refine lv_iinc (v := (nI (k2 + 1))) (lv' := [(2, .int (nI (k2 + 1))), (3, .int (nI i2)), (0, .ref mo), (1, .int ways)]) hx hb dX10_haunt_190 hl (k := 1) rfl (nI_1 _) (by decide) rfl (fun ls hl => ?_)
                            refine lv_goto (tgt := 37) hx hb dX10_haunt_193 (by decide) ?_
                            have hP := wm_eq rfl rfl (ec_r_28_27__27_28 r m3 g4) rfl hP
                            exact ih_37 (k2 + 1) g4 m3 (by omega) (by omega) _ _ hP hS ls (lv_sub hl [0, 2, 3] rfl)
                          · skip
                            have d160 := c160
                            rw [fa_le] at d160
                            refine lv_iload_n hx hb dX10_haunt_163 rfl (lv_at hl 3 rfl) ?_
                            refine lv_iload_n hx hb dX10_haunt_164 rfl (lv_at hl 1 rfl) ?_
                            refine lv_ishr hx hb dX10_haunt_165 ?_
                            refine lv_topi (fun v165 e165 => ?_)
                            refine lv_iconst (v := 1) hx hb dX10_haunt_166 (by decide) ?_
                            refine lv_iand hx hb dX10_haunt_167 ?_
                            refine lv_topi (fun v167 e167 => ?_)
                            refine lv_iconst (v := 1) hx hb dX10_haunt_168 (by decide) ?_
                            refine lv_icmp_ne (tgt := 190) hx hb dX10_haunt_169 (by decide) (fun c169 => ?_) (fun c169 => ?_)
                            · skip
                              have d169 := c169
                              rw [fa_eq] at d169
                              refine lv_iinc (v := (nI (k2 + 1))) (lv' := [(2, .int (nI (k2 + 1))), (3, .int (nI i2)), (0, .ref mo), (1, .int ways)]) hx hb dX10_haunt_190 hl (k := 1) rfl (nI_1 _) (by decide) rfl (fun ls hl => ?_)
                              refine lv_goto (tgt := 37) hx hb dX10_haunt_193 (by decide) ?_
                              have hP := wm_eq rfl rfl (ec_r_28_27__27_28 r m3 g4) rfl hP
                              exact ih_37 (k2 + 1) g4 m3 (by omega) (by omega) _ _ hP hS ls (lv_sub hl [0, 2, 3] rfl)
                            · skip
                              have d169 := c169
                              rw [fa_eq] at d169
                              refine lv_aload_n hx hb dX10_haunt_172 rfl (lv_at hl 2 rfl) ?_
                              refine m_get (v := .ref (a 27)) hx hb hts hin hown hK hP 27 (by decide) rfl (hts (.fieldLink RX10 55 "ShadowBenchModel" "ghost" "[I") (by decide +kernel)) rfl dX10_haunt_173 ?_
                              refine lv_iload_n hx hb dX10_haunt_176 rfl (lv_at hl 0 rfl) ?_
                              refine lv_aload_n hx hb dX10_haunt_177 rfl (lv_at hl 2 rfl) ?_
                              refine m_get (v := .ref (a 28)) hx hb hts hin hown hK hP 28 (by decide) rfl (hts (.fieldLink RX10 58 "ShadowBenchModel" "moved" "[I") (by decide +kernel)) rfl dX10_haunt_178 ?_
                              refine lv_iload_n hx hb dX10_haunt_181 rfl (lv_at hl 0 rfl) ?_
                              refine m_iald (w := m3) hx hb hK hP 16 rfl (vp_in_iff.mpr ⟨by omega, by omega⟩) dX10_haunt_182 ?_
                              refine lv_topi (fun v182 e182 => ?_)
                              have i182 : v182.toInt = (m3 (nI i2).toNatClampNeg).toInt := congrArg Int32.toInt e182
                              refine m_iast (w := g4) hx hb hK hP hD hS 15 rfl (vp_in_iff.mpr ⟨by omega, by omega⟩) (va_up (va_up (va_up r 28 m3) 27 g4) 27 (upd g4 (nI i2).toNatClampNeg v182)) (ms_27 cy mo a _ _ _ _ _) dX10_haunt_183 (fun H locs hP hS => ?_)
                              have hP := wm_eq rfl rfl (es_r_28_27__27 r m3 g4 (upd g4 (nI i2).toNatClampNeg v182)) rfl hP
                              refine lv_iinc (v := (nI (i2 + 1))) (lv' := [(3, .int (nI (i2 + 1))), (2, .int (nI k2)), (0, .ref mo), (1, .int ways)]) hx hb dX10_haunt_184 hl (k := 0) rfl (nI_1 _) (by decide) rfl (fun ls hl => ?_)
                              refine lv_goto (tgt := 157) hx hb dX10_haunt_187 (by decide) ?_
                              have hP := wm_eq rfl rfl (ec_r_28_27__28_27 r m3 ((upd g4 (nI i2).toNatClampNeg v182))) rfl hP
                              exact ih_157 (i2 + 1) (((upd g4 (nI i2).toNatClampNeg v182))) (by omega) (by omega) _ _ hP hS ls (lv_sub hl [0, 1, 2, 3] rfl)
                      have hP := wm_eq rfl rfl (ec_r_27_28__28_27 r g2 m3) rfl hP
                      exact loop_157 (121 + 1) 0 g2 (by omega) (by omega) _ _ hP hS ls (lv_sub hl [0, 1, 2, 3] rfl)
                    · skip
                      have d56 := c56
                      rw [fa_eq] at d56
                      refine lv_iload_n hx hb dX10_haunt_59 rfl (lv_at hl 0 rfl) ?_
                      refine lv_bipush (v := 11) hx hb dX10_haunt_60 (by decide) ?_
                      refine lv_irem hx hb dX10_haunt_62 (fun z => by rw [fa_eq] at z; omega) ?_
                      refine lv_topi (fun v62 e62 => ?_)
                      have i62 : v62.toInt = (nI i).toInt % (11 : Int32).toInt := by rw [e62]; exact my_irem (by omega) (by omega)
                      have j62 : 0 ≤ v62.toInt ∧ v62.toInt < (11 : Int32).toInt ∧ v62.toInt ≤ (nI i).toInt := by rw [e62]; exact my_remb (by omega) (by omega)
                      rw [show (11 : Int32).toInt = 11 from by decide] at i62 j62
                      refine lv_iload_n hx hb dX10_haunt_63 rfl (lv_at hl 1 rfl) ?_
                      refine m_pu (As := [.int (nI k2)]) (rest := [.int v62]) ⟨hx, hb, hml, hown, hts⟩ (c_X10_across l (nI k2) ) (va_cwS 1 hts gX10_haunt_X10_across rfl rfl rfl (by decide +kernel) ⟨Nat.le_of_ble_eq_true rfl, Nat.le_of_ble_eq_true rfl⟩) hP rfl hl.1 rfl (Nat.le_of_ble_eq_true rfl) dX10_haunt_64 ⟨Nat.le_of_ble_eq_true rfl, Nat.le_of_ble_eq_true rfl⟩ hS (fun r64 H locs q64 hP hS => ?_)
                      refine lv_isub hx hb dX10_haunt_67 ?_
                      refine lv_topi (fun v67 e67 => ?_)
                      have i67 : v67.toInt = v62.toInt - r64.toInt := by rw [e67]; exact fb_subI (by omega) (by omega)
                      refine lv_istore (lv' := [(4, .int v67), (3, .int (nI i)), (2, .int (nI k2)), (0, .ref mo), (1, .int ways)]) hx hb dX10_haunt_68 hl (by decide) rfl (fun ls hl => ?_)
                      refine lv_iload_n hx hb dX10_haunt_70 rfl (lv_at hl 1 rfl) ?_
                      refine lv_bipush (v := 11) hx hb dX10_haunt_71 (by decide) ?_
                      refine lv_idiv hx hb dX10_haunt_73 (fun z => by rw [fa_eq] at z; omega) ?_
                      refine lv_topi (fun v73 e73 => ?_)
                      have i73 : v73.toInt = (nI i).toInt / (11 : Int32).toInt := by rw [e73]; exact my_idiv (by omega) (by omega)
                      have j73 : 0 ≤ v73.toInt ∧ v73.toInt ≤ (nI i).toInt := by rw [e73]; exact my_divb (by omega) (by omega)
                      rw [show (11 : Int32).toInt = 11 from by decide] at i73
                      refine lv_iload_n hx hb dX10_haunt_74 rfl (lv_at hl 2 rfl) ?_
                      refine m_pu (As := [.int (nI k2)]) (rest := [.int v73]) ⟨hx, hb, hml, hown, hts⟩ (c_X10_down l (nI k2) ) (va_cwS 1 hts gX10_haunt_X10_down rfl rfl rfl (by decide +kernel) ⟨Nat.le_of_ble_eq_true rfl, Nat.le_of_ble_eq_true rfl⟩) hP rfl hl.1 rfl (Nat.le_of_ble_eq_true rfl) dX10_haunt_75 ⟨Nat.le_of_ble_eq_true rfl, Nat.le_of_ble_eq_true rfl⟩ hS (fun r75 H locs q75 hP hS => ?_)
                      refine lv_isub hx hb dX10_haunt_78 ?_
                      refine lv_topi (fun v78 e78 => ?_)
                      have i78 : v78.toInt = v73.toInt - r75.toInt := by rw [e78]; exact fb_subI (by omega) (by omega)
                      refine lv_istore (lv' := [(5, .int v78), (4, .int v67), (3, .int (nI i)), (2, .int (nI k2)), (0, .ref mo), (1, .int ways)]) hx hb dX10_haunt_79 hl (by decide) rfl (fun ls hl => ?_)
                      refine lv_iload hx hb dX10_haunt_81 (lv_at hl 1 rfl) ?_
                      refine lv_i2l (v := v67.toInt64) hx hb dX10_haunt_83 rfl ?_
                      refine lv_lconst (v := 0) hx hb dX10_haunt_84 (by decide) ?_
                      refine lv_ldc2 hx hb hown (hts (.constantLong RX10 248 (10)) (by decide +kernel)) dX10_haunt_85 ?_
                      refine m_pu (As := [.long (v67.toInt64), .long (0 : Int64), .long (10 : Int64)]) (rest := []) ⟨hx, hb, hml, hown, hts⟩ (c_X10_isIn l v67.toInt64 (0 : Int64) (10 : Int64) ) (va_cwS 3 hts gX10_haunt_X10_isIn rfl rfl rfl (by decide +kernel) ⟨Nat.le_of_ble_eq_true rfl, Nat.le_of_ble_eq_true rfl⟩) hP rfl hl.1 rfl (Nat.le_of_ble_eq_true rfl) dX10_haunt_88 ⟨Nat.le_of_ble_eq_true rfl, Nat.le_of_ble_eq_true rfl⟩ hS (fun r88 H locs q88 hP hS => ?_)
                      have q88 := q88
                      simp only [k64, show (0 : Int64).toInt = 0 from rfl, show (1 : Int64).toInt = 1 from rfl, show (2 : Int64).toInt = 2 from rfl, show (3 : Int64).toInt = 3 from rfl, show (6 : Int64).toInt = 6 from rfl] at q88
                      refine lv_if_eq (tgt := 111) hx hb dX10_haunt_91 (by decide) (fun c91 => ?_) (fun c91 => ?_)
                      · skip
                        have b91 := bo_f q88 c91
                        refine lv_iconst (v := 0) hx hb dX10_haunt_111 (by decide) ?_
                        refine lv_istore (lv' := [(6, .int (0 : Int32)), (5, .int v78), (4, .int v67), (3, .int (nI i)), (2, .int (nI k2)), (0, .ref mo), (1, .int ways)]) hx hb dX10_haunt_112 hl (by decide) rfl (fun ls hl => ?_)
                        refine lv_aload_n hx hb dX10_haunt_114 rfl (lv_at hl 5 rfl) ?_
                        refine m_get (v := .ref (a 28)) hx hb hts hin hown hK hP 28 (by decide) rfl (hts (.fieldLink RX10 58 "ShadowBenchModel" "moved" "[I") (by decide +kernel)) rfl dX10_haunt_115 ?_
                        refine lv_iload_n hx hb dX10_haunt_118 rfl (lv_at hl 3 rfl) ?_
                        refine lv_aload_n hx hb dX10_haunt_119 rfl (lv_at hl 5 rfl) ?_
                        refine m_get (v := .ref (a 27)) hx hb hts hin hown hK hP 27 (by decide) rfl (hts (.fieldLink RX10 55 "ShadowBenchModel" "ghost" "[I") (by decide +kernel)) rfl dX10_haunt_120 ?_
                        refine lv_iload_n hx hb dX10_haunt_123 rfl (lv_at hl 3 rfl) ?_
                        refine m_iald (w := g2) hx hb hK hP 15 rfl (vp_in_iff.mpr ⟨by omega, by omega⟩) dX10_haunt_124 ?_
                        refine lv_topi (fun v124 e124 => ?_)
                        have i124 : v124.toInt = (g2 (nI i).toNatClampNeg).toInt := congrArg Int32.toInt e124
                        refine lv_iload hx hb dX10_haunt_125 (lv_at hl 0 rfl) ?_
                        refine lv_if_eq (tgt := 146) hx hb dX10_haunt_127 (by decide) (fun c127 => ?_) (fun c127 => ?_)
                        · skip
                          have d127 := c127
                          rw [fa_eq] at d127
                          refine lv_iconst (v := 0) hx hb dX10_haunt_146 (by decide) ?_
                          refine lv_isub hx hb dX10_haunt_147 ?_
                          refine lv_topi (fun v147 e147 => ?_)
                          refine m_iast (w := m3) hx hb hK hP hD hS 16 rfl (vp_in_iff.mpr ⟨by omega, by omega⟩) (va_up (va_up (va_up r 27 g2) 28 m3) 28 (upd m3 (nI i).toNatClampNeg v147)) (ms_28 cy mo a _ _ _ _ _) dX10_haunt_148 (fun H locs hP hS => ?_)
                          have hP := wm_eq rfl rfl (es_r_27_28__28 r g2 m3 (upd m3 (nI i).toNatClampNeg v147)) rfl hP
                          refine lv_iinc (v := (nI (i + 1))) (lv' := [(3, .int (nI (i + 1))), (6, .int (0 : Int32)), (5, .int v78), (4, .int v67), (2, .int (nI k2)), (0, .ref mo), (1, .int ways)]) hx hb dX10_haunt_149 hl (k := 3) rfl (nI_1 _) (by decide) rfl (fun ls hl => ?_)
                          refine lv_goto (tgt := 44) hx hb dX10_haunt_152 (by decide) ?_
                          have hP := wm_eq rfl rfl (ec_r_27_28__27_28 r g2 ((upd m3 (nI i).toNatClampNeg v147))) rfl hP
                          exact ih_44 (i + 1) (((upd m3 (nI i).toNatClampNeg v147))) (by omega) (by omega) _ _ hP hS ls (lv_sub hl [0, 4, 5, 6] rfl)
                        · first | exact absurd c127 (by decide) | exact absurd (by decide) c127
                      · skip
                        have b91 := bo_t q88 c91
                        refine lv_iload hx hb dX10_haunt_94 (lv_at hl 0 rfl) ?_
                        refine lv_i2l (v := v78.toInt64) hx hb dX10_haunt_96 rfl ?_
                        refine lv_lconst (v := 0) hx hb dX10_haunt_97 (by decide) ?_
                        refine lv_ldc2 hx hb hown (hts (.constantLong RX10 248 (10)) (by decide +kernel)) dX10_haunt_98 ?_
                        refine m_pu (As := [.long (v78.toInt64), .long (0 : Int64), .long (10 : Int64)]) (rest := []) ⟨hx, hb, hml, hown, hts⟩ (c_X10_isIn l v78.toInt64 (0 : Int64) (10 : Int64) ) (va_cwS 3 hts gX10_haunt_X10_isIn rfl rfl rfl (by decide +kernel) ⟨Nat.le_of_ble_eq_true rfl, Nat.le_of_ble_eq_true rfl⟩) hP rfl hl.1 rfl (Nat.le_of_ble_eq_true rfl) dX10_haunt_101 ⟨Nat.le_of_ble_eq_true rfl, Nat.le_of_ble_eq_true rfl⟩ hS (fun r101 H locs q101 hP hS => ?_)
                        have q101 := q101
                        simp only [k64, show (0 : Int64).toInt = 0 from rfl, show (1 : Int64).toInt = 1 from rfl, show (2 : Int64).toInt = 2 from rfl, show (3 : Int64).toInt = 3 from rfl, show (6 : Int64).toInt = 6 from rfl] at q101
                        refine lv_if_eq (tgt := 111) hx hb dX10_haunt_104 (by decide) (fun c104 => ?_) (fun c104 => ?_)
                        · skip
                          have b104 := bo_f q101 c104
                          refine lv_iconst (v := 0) hx hb dX10_haunt_111 (by decide) ?_
                          refine lv_istore (lv' := [(6, .int (0 : Int32)), (5, .int v78), (4, .int v67), (3, .int (nI i)), (2, .int (nI k2)), (0, .ref mo), (1, .int ways)]) hx hb dX10_haunt_112 hl (by decide) rfl (fun ls hl => ?_)
                          refine lv_aload_n hx hb dX10_haunt_114 rfl (lv_at hl 5 rfl) ?_
                          refine m_get (v := .ref (a 28)) hx hb hts hin hown hK hP 28 (by decide) rfl (hts (.fieldLink RX10 58 "ShadowBenchModel" "moved" "[I") (by decide +kernel)) rfl dX10_haunt_115 ?_
                          refine lv_iload_n hx hb dX10_haunt_118 rfl (lv_at hl 3 rfl) ?_
                          refine lv_aload_n hx hb dX10_haunt_119 rfl (lv_at hl 5 rfl) ?_
                          refine m_get (v := .ref (a 27)) hx hb hts hin hown hK hP 27 (by decide) rfl (hts (.fieldLink RX10 55 "ShadowBenchModel" "ghost" "[I") (by decide +kernel)) rfl dX10_haunt_120 ?_
                          refine lv_iload_n hx hb dX10_haunt_123 rfl (lv_at hl 3 rfl) ?_
                          refine m_iald (w := g2) hx hb hK hP 15 rfl (vp_in_iff.mpr ⟨by omega, by omega⟩) dX10_haunt_124 ?_
                          refine lv_topi (fun v124 e124 => ?_)
                          have i124 : v124.toInt = (g2 (nI i).toNatClampNeg).toInt := congrArg Int32.toInt e124
                          refine lv_iload hx hb dX10_haunt_125 (lv_at hl 0 rfl) ?_
                          refine lv_if_eq (tgt := 146) hx hb dX10_haunt_127 (by decide) (fun c127 => ?_) (fun c127 => ?_)
                          · skip
                            have d127 := c127
                            rw [fa_eq] at d127
                            refine lv_iconst (v := 0) hx hb dX10_haunt_146 (by decide) ?_
                            refine lv_isub hx hb dX10_haunt_147 ?_
                            refine lv_topi (fun v147 e147 => ?_)
                            refine m_iast (w := m3) hx hb hK hP hD hS 16 rfl (vp_in_iff.mpr ⟨by omega, by omega⟩) (va_up (va_up (va_up r 27 g2) 28 m3) 28 (upd m3 (nI i).toNatClampNeg v147)) (ms_28 cy mo a _ _ _ _ _) dX10_haunt_148 (fun H locs hP hS => ?_)
                            have hP := wm_eq rfl rfl (es_r_27_28__28 r g2 m3 (upd m3 (nI i).toNatClampNeg v147)) rfl hP
                            refine lv_iinc (v := (nI (i + 1))) (lv' := [(3, .int (nI (i + 1))), (6, .int (0 : Int32)), (5, .int v78), (4, .int v67), (2, .int (nI k2)), (0, .ref mo), (1, .int ways)]) hx hb dX10_haunt_149 hl (k := 3) rfl (nI_1 _) (by decide) rfl (fun ls hl => ?_)
                            refine lv_goto (tgt := 44) hx hb dX10_haunt_152 (by decide) ?_
                            have hP := wm_eq rfl rfl (ec_r_27_28__27_28 r g2 ((upd m3 (nI i).toNatClampNeg v147))) rfl hP
                            exact ih_44 (i + 1) (((upd m3 (nI i).toNatClampNeg v147))) (by omega) (by omega) _ _ hP hS ls (lv_sub hl [0, 4, 5, 6] rfl)
                          · first | exact absurd c127 (by decide) | exact absurd (by decide) c127
                        · skip
                          have b104 := bo_t q101 c104
                          refine lv_iconst (v := 1) hx hb dX10_haunt_107 (by decide) ?_
                          refine lv_goto (tgt := 112) hx hb dX10_haunt_108 (by decide) ?_
                          refine lv_istore (lv' := [(6, .int (1 : Int32)), (5, .int v78), (4, .int v67), (3, .int (nI i)), (2, .int (nI k2)), (0, .ref mo), (1, .int ways)]) hx hb dX10_haunt_112 hl (by decide) rfl (fun ls hl => ?_)
                          refine lv_aload_n hx hb dX10_haunt_114 rfl (lv_at hl 5 rfl) ?_
                          refine m_get (v := .ref (a 28)) hx hb hts hin hown hK hP 28 (by decide) rfl (hts (.fieldLink RX10 58 "ShadowBenchModel" "moved" "[I") (by decide +kernel)) rfl dX10_haunt_115 ?_
                          refine lv_iload_n hx hb dX10_haunt_118 rfl (lv_at hl 3 rfl) ?_
                          refine lv_aload_n hx hb dX10_haunt_119 rfl (lv_at hl 5 rfl) ?_
                          refine m_get (v := .ref (a 27)) hx hb hts hin hown hK hP 27 (by decide) rfl (hts (.fieldLink RX10 55 "ShadowBenchModel" "ghost" "[I") (by decide +kernel)) rfl dX10_haunt_120 ?_
                          refine lv_iload_n hx hb dX10_haunt_123 rfl (lv_at hl 3 rfl) ?_
                          refine m_iald (w := g2) hx hb hK hP 15 rfl (vp_in_iff.mpr ⟨by omega, by omega⟩) dX10_haunt_124 ?_
                          refine lv_topi (fun v124 e124 => ?_)
                          have i124 : v124.toInt = (g2 (nI i).toNatClampNeg).toInt := congrArg Int32.toInt e124
                          refine lv_iload hx hb dX10_haunt_125 (lv_at hl 0 rfl) ?_
                          refine lv_if_eq (tgt := 146) hx hb dX10_haunt_127 (by decide) (fun c127 => ?_) (fun c127 => ?_)
                          · first | exact absurd c127 (by decide) | exact absurd (by decide) c127
                          · skip
                            have d127 := c127
                            rw [fa_eq] at d127
                            refine lv_aload_n hx hb dX10_haunt_130 rfl (lv_at hl 5 rfl) ?_
                            refine m_get (v := .ref (a 27)) hx hb hts hin hown hK hP 27 (by decide) rfl (hts (.fieldLink RX10 55 "ShadowBenchModel" "ghost" "[I") (by decide +kernel)) rfl dX10_haunt_131 ?_
                            have y91 := b91
                            have y104 := b104
                            simp only [k64, show (0 : Int64).toInt = 0 from rfl, show (10 : Int64).toInt = 10 from rfl] at y91 y104
                            refine lv_bipush (v := 11) hx hb dX10_haunt_134 (by decide) ?_
                            refine lv_iload hx hb dX10_haunt_136 (lv_at hl 1 rfl) ?_
                            refine lv_imul hx hb dX10_haunt_138 ?_
                            refine lv_topi (fun v138 e138 => ?_)
                            have i138 : v138.toInt = 11 * v78.toInt := by rw [e138]; exact mulcL rfl (by omega) (by omega)
                            refine lv_iload hx hb dX10_haunt_139 (lv_at hl 2 rfl) ?_
                            refine lv_iadd hx hb dX10_haunt_141 ?_
                            refine lv_topi (fun v141 e141 => ?_)
                            have i141 : v141.toInt = v138.toInt + v67.toInt := by rw [e141]; exact fb_addI (by omega) (by omega)
                            refine m_iald (w := g2) hx hb hK hP 15 rfl (vp_in_iff.mpr ⟨by omega, by omega⟩) dX10_haunt_142 ?_
                            refine lv_topi (fun v142 e142 => ?_)
                            have i142 : v142.toInt = (g2 v141.toNatClampNeg).toInt := congrArg Int32.toInt e142
                            refine lv_goto (tgt := 147) hx hb dX10_haunt_143 (by decide) ?_
                            refine lv_isub hx hb dX10_haunt_147 ?_
                            refine lv_topi (fun v147 e147 => ?_)
                            refine m_iast (w := m3) hx hb hK hP hD hS 16 rfl (vp_in_iff.mpr ⟨by omega, by omega⟩) (va_up (va_up (va_up r 27 g2) 28 m3) 28 (upd m3 (nI i).toNatClampNeg v147)) (ms_28 cy mo a _ _ _ _ _) dX10_haunt_148 (fun H locs hP hS => ?_)
                            have hP := wm_eq rfl rfl (es_r_27_28__28 r g2 m3 (upd m3 (nI i).toNatClampNeg v147)) rfl hP
                            refine lv_iinc (v := (nI (i + 1))) (lv' := [(3, .int (nI (i + 1))), (6, .int (1 : Int32)), (5, .int v78), (4, .int v67), (2, .int (nI k2)), (0, .ref mo), (1, .int ways)]) hx hb dX10_haunt_149 hl (k := 3) rfl (nI_1 _) (by decide) rfl (fun ls hl => ?_)
                            refine lv_goto (tgt := 44) hx hb dX10_haunt_152 (by decide) ?_
                            have hP := wm_eq rfl rfl (ec_r_27_28__27_28 r g2 ((upd m3 (nI i).toNatClampNeg v147))) rfl hP
                            exact ih_44 (i + 1) (((upd m3 (nI i).toNatClampNeg v147))) (by omega) (by omega) _ _ hP hS ls (lv_sub hl [0, 4, 5, 6] rfl)
              exact loop_44 (121 + 1) 0 m2 (by omega) (by omega) _ _ hP hS ls (lv_sub hl [0, 1, 2, 3] rfl)
        have hP := wm_eq rfl rfl (ec_r_27__27_28 r ((upd g1 v32.toNatClampNeg (1 : Int32)))) rfl hP
        exact loop_37 (4 + 1) 0 (((upd g1 v32.toNatClampNeg (1 : Int32)))) (r 28) (by omega) (by omega) _ _ hP hS ls (lv_sub hl [0, 1, 2] rfl)
      · skip
        have d5 := c5
        rw [fa_le] at d5
        refine lv_aload_n hx hb dX10_haunt_8 rfl (lv_at hl 1 rfl) ?_
        refine m_get (v := .ref (a 27)) hx hb hts hin hown hK hP 27 (by decide) rfl (hts (.fieldLink RX10 55 "ShadowBenchModel" "ghost" "[I") (by decide +kernel)) rfl dX10_haunt_9 ?_
        refine lv_iload_n hx hb dX10_haunt_12 rfl (lv_at hl 0 rfl) ?_
        refine lv_iconst (v := 0) hx hb dX10_haunt_13 (by decide) ?_
        refine m_iast (w := g1) hx hb hK hP hD hS 15 rfl (vp_in_iff.mpr ⟨by omega, by omega⟩) (va_up (va_up r 27 g1) 27 (upd g1 (nI k).toNatClampNeg (0 : Int32))) (ms_27 cy mo a _ _ _ _ _) dX10_haunt_14 (fun H locs hP hS => ?_)
        have hP := wm_eq rfl rfl (es_r_27__27 r g1 (upd g1 (nI k).toNatClampNeg (0 : Int32))) rfl hP
        refine lv_iinc (v := (nI (k + 1))) (lv' := [(2, .int (nI (k + 1))), (0, .ref mo), (1, .int ways)]) hx hb dX10_haunt_15 hl (k := 0) rfl (nI_1 _) (by decide) rfl (fun ls hl => ?_)
        refine lv_goto (tgt := 2) hx hb dX10_haunt_18 (by decide) ?_
        have hP := wm_eq rfl rfl (ec_r_27__27 r ((upd g1 (nI k).toNatClampNeg (0 : Int32)))) rfl hP
        exact ih_2 (k + 1) (((upd g1 (nI k).toNatClampNeg (0 : Int32)))) (by omega) (by omega) _ _ hP hS ls (lv_sub hl [0, 1, 2] rfl)
  have hP := wm_eq rfl rfl (ec_r___27 r ) rfl hP
  exact loop_2 (121 + 1) 0 (r 27) (by omega) (by omega) _ _ hP hS ls (lv_sub hl [0, 1, 2] rfl)
set_option maxHeartbeats 4000000 in
set_option maxRecDepth 100000 in
theorem c_X10_ghost (l : Launch) (D : va_G) (cy : Nat → ClassId) (mo : Nat) (a : Nat → Nat) (f : Nat → Int32) (g : Nat → Int64) (r : Nat → Nat → Int32) (q : Nat → Nat → Int64) (ways : Int32) (x : Int32) (y : Int32) (hD : DM cy mo a)  : Mi l D cy mo a yX10_ghost wsX10_ghost ({ frames := 2, cells := 0, slots := 0, locals := 51 }) f g r q [.int ways, .int x, .int y] (fun r0 u => ∃ (th : Int32), ∃ (gh : Nat → Int32), ∃ (mv : Nat → Int32), u = ((upd f 0 th), g, (va_up (va_up r 27 gh) 28 mv), q) ∧ (True)) := by
  refine Met.ofW (cc := cX10_ghost) (maxL := 4) (ret := (some .int)) (by decide) rfl ?_
  intro p e s m args below meth c s₁ B hml hv
  obtain ⟨rfl, hP, hK⟩ := hv
  have hx := B.exec
  have hb := B.bytes
  have hr := B.returns
  have hts := atoms_spec (ws := wsX10_ghost) B.pre
  have hin : ∀ w ∈ u_ws RX10 TX10 35, w ∈ wsX10_ghost := by decide +kernel
  have hown : s.vm.findClass RX10 = some m.cls := findClass_of_methodNamed B.named
  have hlocks := B.notSynchronized
  have hS : va_S (AM mo a) s.heap s.heap [] := va_S.rf
  have hl := lv_entry ([.ref mo, .int ways, .int x, .int y]) (n := 4) (Nat.le_of_ble_eq_true rfl)
  rw [lg_entry_eq]
  generalize (lg_sl ([.ref mo, .int ways, .int x, .int y]) ++ List.replicate (4 - (lg_sl ([.ref mo, .int ways, .int x, .int y])).length) Slot.unset).toArray = ls at hl ⊢
  have hl : lv_has ls 4 [(0, .ref mo), (1, .int ways), (2, .int x), (3, .int y)] := hl
  have k_0 : (0 : Int32).toInt = 0 := by decide
  have k_1 : (1 : Int32).toInt = 1 := by decide
  have k_11 : (11 : Int32).toInt = 11 := by decide
  have k_0L : (0 : Int64).toInt = 0 := by decide
  have k_1L : (1 : Int64).toInt = 1 := by decide
  have k_8L : (8 : Int64).toInt = 8 := by decide
  have k_15L : (15 : Int64).toInt = 15 := by decide
  refine lv_aload_n hx hb dX10_ghost_0 rfl (lv_at hl 0 rfl) ?_
  refine lv_iload_n hx hb dX10_ghost_1 rfl (lv_at hl 1 rfl) ?_
  refine lv_i2l (v := ways.toInt64) hx hb dX10_ghost_2 rfl ?_
  refine lv_lconst (v := 1) hx hb dX10_ghost_3 (by decide) ?_
  refine lv_ldc2 hx hb hown (hts (.constantLong RX10 228 (15)) (by decide +kernel)) dX10_ghost_4 ?_
  refine m_pu (As := [.long (ways.toInt64), .long (1 : Int64), .long (15 : Int64)]) (rest := [.ref mo]) ⟨hx, hb, hml, hown, hts⟩ (c_X10_isIn l ways.toInt64 (1 : Int64) (15 : Int64) ) (va_cwS 3 hts gX10_ghost_X10_isIn rfl rfl rfl (by decide +kernel) ⟨Nat.le_of_ble_eq_true rfl, Nat.le_of_ble_eq_true rfl⟩) hP rfl hl.1 rfl (Nat.le_of_ble_eq_true rfl) dX10_ghost_7 ⟨Nat.le_of_ble_eq_true rfl, Nat.le_of_ble_eq_true rfl⟩ hS (fun r7 H locs q7 hP hS => ?_)
  have q7 := q7
  simp only [k64, show (0 : Int64).toInt = 0 from rfl, show (1 : Int64).toInt = 1 from rfl, show (2 : Int64).toInt = 2 from rfl, show (3 : Int64).toInt = 3 from rfl, show (6 : Int64).toInt = 6 from rfl] at q7
  refine lv_if_eq (tgt := 41) hx hb dX10_ghost_10 (by decide) (fun c10 => ?_) (fun c10 => ?_)
  · skip
    have b10 := bo_f q7 c10
    refine lv_iconst (v := 1) hx hb dX10_ghost_41 (by decide) ?_
    refine m_put (v := .int (1 : Int32)) (ty := .int) hx hb hts hin hown hK hP hD hS 0 (by decide) rfl (hts (.fieldLink RX10 79 "ShadowBenchModel" "thrown" "I") (by decide +kernel)) rfl (by decide +kernel) rfl rfl (upd f 0 (1 : Int32)) g rfl dX10_ghost_42 (fun H locs hP hS => ?_)
    refine lv_aload_n hx hb dX10_ghost_45 rfl (lv_at hl 0 rfl) ?_
    refine m_get (v := .int (1 : Int32)) hx hb hts hin hown hK hP 0 (by decide) rfl (hts (.fieldLink RX10 79 "ShadowBenchModel" "thrown" "I") (by decide +kernel)) rfl dX10_ghost_46 ?_
    refine lv_if_le (tgt := 54) hx hb dX10_ghost_49 (by decide) (fun c49 => ?_) (fun c49 => ?_)
    · first | exact absurd c49 (by decide) | exact absurd (by decide) c49
    · skip
      have d49 := c49
      rw [fa_le] at d49
      refine lv_iconst (v := 0) hx hb dX10_ghost_52 (by decide) ?_
      have hP := wm_eq rfl rfl (ec_r___27_28 r ) rfl hP
      exact W.iret (v := (0 : Int32)) hx hb hr (fun t ht hW => ⟨⟨_, ((upd f 0 (1 : Int32)), g, (va_up (va_up r 27 (r 27)) 28 (r 28)), q), rfl, ⟨(1 : Int32), (r 27), (r 28), rfl, trivial⟩, by unfold mB; rw [ht]; exact hP⟩, hS.F ht⟩) hS.2.2 dX10_ghost_53
  · skip
    have b10 := bo_t q7 c10
    refine lv_iload_n hx hb dX10_ghost_13 rfl (lv_at hl 2 rfl) ?_
    refine lv_i2l (v := x.toInt64) hx hb dX10_ghost_14 rfl ?_
    refine lv_lconst (v := 0) hx hb dX10_ghost_15 (by decide) ?_
    refine lv_ldc2 hx hb hown (hts (.constantLong RX10 250 (8)) (by decide +kernel)) dX10_ghost_16 ?_
    refine m_pu (As := [.long (x.toInt64), .long (0 : Int64), .long (8 : Int64)]) (rest := [.ref mo]) ⟨hx, hb, hml, hown, hts⟩ (c_X10_isIn l x.toInt64 (0 : Int64) (8 : Int64) ) (va_cwS 3 hts gX10_ghost_X10_isIn rfl rfl rfl (by decide +kernel) ⟨Nat.le_of_ble_eq_true rfl, Nat.le_of_ble_eq_true rfl⟩) hP rfl hl.1 rfl (Nat.le_of_ble_eq_true rfl) dX10_ghost_19 ⟨Nat.le_of_ble_eq_true rfl, Nat.le_of_ble_eq_true rfl⟩ hS (fun r19 H locs q19 hP hS => ?_)
    have q19 := q19
    simp only [k64, show (0 : Int64).toInt = 0 from rfl, show (1 : Int64).toInt = 1 from rfl, show (2 : Int64).toInt = 2 from rfl, show (3 : Int64).toInt = 3 from rfl, show (6 : Int64).toInt = 6 from rfl] at q19
    refine lv_if_eq (tgt := 41) hx hb dX10_ghost_22 (by decide) (fun c22 => ?_) (fun c22 => ?_)
    · skip
      have b22 := bo_f q19 c22
      refine lv_iconst (v := 1) hx hb dX10_ghost_41 (by decide) ?_
      refine m_put (v := .int (1 : Int32)) (ty := .int) hx hb hts hin hown hK hP hD hS 0 (by decide) rfl (hts (.fieldLink RX10 79 "ShadowBenchModel" "thrown" "I") (by decide +kernel)) rfl (by decide +kernel) rfl rfl (upd f 0 (1 : Int32)) g rfl dX10_ghost_42 (fun H locs hP hS => ?_)
      refine lv_aload_n hx hb dX10_ghost_45 rfl (lv_at hl 0 rfl) ?_
      refine m_get (v := .int (1 : Int32)) hx hb hts hin hown hK hP 0 (by decide) rfl (hts (.fieldLink RX10 79 "ShadowBenchModel" "thrown" "I") (by decide +kernel)) rfl dX10_ghost_46 ?_
      refine lv_if_le (tgt := 54) hx hb dX10_ghost_49 (by decide) (fun c49 => ?_) (fun c49 => ?_)
      · first | exact absurd c49 (by decide) | exact absurd (by decide) c49
      · skip
        have d49 := c49
        rw [fa_le] at d49
        refine lv_iconst (v := 0) hx hb dX10_ghost_52 (by decide) ?_
        have hP := wm_eq rfl rfl (ec_r___27_28 r ) rfl hP
        exact W.iret (v := (0 : Int32)) hx hb hr (fun t ht hW => ⟨⟨_, ((upd f 0 (1 : Int32)), g, (va_up (va_up r 27 (r 27)) 28 (r 28)), q), rfl, ⟨(1 : Int32), (r 27), (r 28), rfl, trivial⟩, by unfold mB; rw [ht]; exact hP⟩, hS.F ht⟩) hS.2.2 dX10_ghost_53
    · skip
      have b22 := bo_t q19 c22
      refine lv_iload_n hx hb dX10_ghost_25 rfl (lv_at hl 3 rfl) ?_
      refine lv_i2l (v := y.toInt64) hx hb dX10_ghost_26 rfl ?_
      refine lv_lconst (v := 0) hx hb dX10_ghost_27 (by decide) ?_
      refine lv_ldc2 hx hb hown (hts (.constantLong RX10 250 (8)) (by decide +kernel)) dX10_ghost_28 ?_
      refine m_pu (As := [.long (y.toInt64), .long (0 : Int64), .long (8 : Int64)]) (rest := [.ref mo]) ⟨hx, hb, hml, hown, hts⟩ (c_X10_isIn l y.toInt64 (0 : Int64) (8 : Int64) ) (va_cwS 3 hts gX10_ghost_X10_isIn rfl rfl rfl (by decide +kernel) ⟨Nat.le_of_ble_eq_true rfl, Nat.le_of_ble_eq_true rfl⟩) hP rfl hl.1 rfl (Nat.le_of_ble_eq_true rfl) dX10_ghost_31 ⟨Nat.le_of_ble_eq_true rfl, Nat.le_of_ble_eq_true rfl⟩ hS (fun r31 H locs q31 hP hS => ?_)
      have q31 := q31
      simp only [k64, show (0 : Int64).toInt = 0 from rfl, show (1 : Int64).toInt = 1 from rfl, show (2 : Int64).toInt = 2 from rfl, show (3 : Int64).toInt = 3 from rfl, show (6 : Int64).toInt = 6 from rfl] at q31
      refine lv_if_eq (tgt := 41) hx hb dX10_ghost_34 (by decide) (fun c34 => ?_) (fun c34 => ?_)
      · skip
        have b34 := bo_f q31 c34
        refine lv_iconst (v := 1) hx hb dX10_ghost_41 (by decide) ?_
        refine m_put (v := .int (1 : Int32)) (ty := .int) hx hb hts hin hown hK hP hD hS 0 (by decide) rfl (hts (.fieldLink RX10 79 "ShadowBenchModel" "thrown" "I") (by decide +kernel)) rfl (by decide +kernel) rfl rfl (upd f 0 (1 : Int32)) g rfl dX10_ghost_42 (fun H locs hP hS => ?_)
        refine lv_aload_n hx hb dX10_ghost_45 rfl (lv_at hl 0 rfl) ?_
        refine m_get (v := .int (1 : Int32)) hx hb hts hin hown hK hP 0 (by decide) rfl (hts (.fieldLink RX10 79 "ShadowBenchModel" "thrown" "I") (by decide +kernel)) rfl dX10_ghost_46 ?_
        refine lv_if_le (tgt := 54) hx hb dX10_ghost_49 (by decide) (fun c49 => ?_) (fun c49 => ?_)
        · first | exact absurd c49 (by decide) | exact absurd (by decide) c49
        · skip
          have d49 := c49
          rw [fa_le] at d49
          refine lv_iconst (v := 0) hx hb dX10_ghost_52 (by decide) ?_
          have hP := wm_eq rfl rfl (ec_r___27_28 r ) rfl hP
          exact W.iret (v := (0 : Int32)) hx hb hr (fun t ht hW => ⟨⟨_, ((upd f 0 (1 : Int32)), g, (va_up (va_up r 27 (r 27)) 28 (r 28)), q), rfl, ⟨(1 : Int32), (r 27), (r 28), rfl, trivial⟩, by unfold mB; rw [ht]; exact hP⟩, hS.F ht⟩) hS.2.2 dX10_ghost_53
      · skip
        have b34 := bo_t q31 c34
        refine lv_iconst (v := 0) hx hb dX10_ghost_37 (by decide) ?_
        refine lv_goto (tgt := 42) hx hb dX10_ghost_38 (by decide) ?_
        refine m_put (v := .int (0 : Int32)) (ty := .int) hx hb hts hin hown hK hP hD hS 0 (by decide) rfl (hts (.fieldLink RX10 79 "ShadowBenchModel" "thrown" "I") (by decide +kernel)) rfl (by decide +kernel) rfl rfl (upd f 0 (0 : Int32)) g rfl dX10_ghost_42 (fun H locs hP hS => ?_)
        refine lv_aload_n hx hb dX10_ghost_45 rfl (lv_at hl 0 rfl) ?_
        refine m_get (v := .int (0 : Int32)) hx hb hts hin hown hK hP 0 (by decide) rfl (hts (.fieldLink RX10 79 "ShadowBenchModel" "thrown" "I") (by decide +kernel)) rfl dX10_ghost_46 ?_
        refine lv_if_le (tgt := 54) hx hb dX10_ghost_49 (by decide) (fun c49 => ?_) (fun c49 => ?_)
        · skip
          have d49 := c49
          rw [fa_le] at d49
          first | have y22 := b22 | skip
          first | have y34 := b34 | skip
          try simp only [k64, show (0 : Int64).toInt = 0 from rfl, show (8 : Int64).toInt = 8 from rfl] at y22 y34
          refine lv_aload_n hx hb dX10_ghost_54 rfl (lv_at hl 0 rfl) ?_
          refine lv_iload_n hx hb dX10_ghost_55 rfl (lv_at hl 1 rfl) ?_
          refine m_callv (As := [.int ways]) (rest := []) ⟨hx, hb, hml, hown, hts⟩ (c_X10_haunt l D cy mo a (upd f 0 (0 : Int32)) g r q ways hD) (cwV 1 hts gX10_ghost_X10_haunt rfl rfl rfl (by decide +kernel) ⟨Nat.le_of_ble_eq_true rfl, Nat.le_of_ble_eq_true rfl⟩) hK hP rfl hl.1 rfl (Nat.le_of_ble_eq_true rfl) dX10_ghost_56 ⟨Nat.le_of_ble_eq_true rfl, Nat.le_of_ble_eq_true rfl⟩ hS (fun u H locs q56 hP hS => ?_)
          obtain ⟨gh_56, mv_56, rfl, q56⟩ := q56
          have hP : va_P D vwCl (WM cy mo a (upd f 0 (0 : Int32)) g (va_up (va_up r 27 gh_56) 28 mv_56) q) H := hP
          have q56 : True := q56
          refine lv_aload_n hx hb dX10_ghost_59 rfl (lv_at hl 0 rfl) ?_
          refine m_get (v := .ref (a 27)) hx hb hts hin hown hK hP 27 (by decide) rfl (hts (.fieldLink RX10 55 "ShadowBenchModel" "ghost" "[I") (by decide +kernel)) rfl dX10_ghost_60 ?_
          refine lv_bipush (v := 11) hx hb dX10_ghost_63 (by decide) ?_
          refine lv_iload_n hx hb dX10_ghost_65 rfl (lv_at hl 3 rfl) ?_
          refine lv_imul hx hb dX10_ghost_66 ?_
          refine lv_topi (fun v66 e66 => ?_)
          have i66 : v66.toInt = 11 * y.toInt := by rw [e66]; exact mulcL rfl (by omega) (by omega)
          refine lv_iload_n hx hb dX10_ghost_67 rfl (lv_at hl 2 rfl) ?_
          refine lv_iadd hx hb dX10_ghost_68 ?_
          refine lv_topi (fun v68 e68 => ?_)
          have i68 : v68.toInt = v66.toInt + x.toInt := by rw [e68]; exact fb_addI (by omega) (by omega)
          refine m_iald (w := gh_56) hx hb hK hP 15 rfl (vp_in_iff.mpr ⟨by omega, by omega⟩) dX10_ghost_69 ?_
          refine lv_topi (fun v69 e69 => ?_)
          have i69 : v69.toInt = (gh_56 v68.toNatClampNeg).toInt := congrArg Int32.toInt e69
          exact W.iret (v := v69) hx hb hr (fun t ht hW => ⟨⟨_, ((upd f 0 (0 : Int32)), g, (va_up (va_up r 27 gh_56) 28 mv_56), q), rfl, ⟨(0 : Int32), gh_56, mv_56, rfl, trivial⟩, by unfold mB; rw [ht]; exact hP⟩, hS.F ht⟩) hS.2.2 dX10_ghost_70
        · first | exact absurd c49 (by decide) | exact absurd (by decide) c49
set_option maxHeartbeats 4000000 in
set_option maxRecDepth 100000 in
theorem c_X10_placesOf (l : Launch) (D : va_G) (cy : Nat → ClassId) (mo : Nat) (a : Nat → Nat) (f : Nat → Int32) (g : Nat → Int64) (r : Nat → Nat → Int32) (q : Nat → Nat → Int64) (ways : Int32) (w : Int32) (h : Int32) (hD : DM cy mo a)  : Mi l D cy mo a yX10_placesOf wsX10_placesOf ({ frames := 1, cells := 0, slots := 0, locals := 20 }) f g r q [.int ways, .int w, .int h] (fun r0 u => u = (f, g, r, q) ∧ (True)) := by
  refine Met.ofW (cc := cX10_placesOf) (maxL := 8) (ret := (some .int)) (by decide) rfl ?_
  intro p e s m args below meth c s₁ B hml hv
  obtain ⟨rfl, hP, hK⟩ := hv
  have hx := B.exec
  have hb := B.bytes
  have hr := B.returns
  have hts := atoms_spec (ws := wsX10_placesOf) B.pre
  skip
  have hown : s.vm.findClass RX10 = some m.cls := findClass_of_methodNamed B.named
  have hlocks := B.notSynchronized
  have hS : va_S (AM mo a) s.heap s.heap [] := va_S.rf
  have hl := lv_entry ([.ref mo, .int ways, .int w, .int h]) (n := 8) (Nat.le_of_ble_eq_true rfl)
  rw [lg_entry_eq]
  generalize (lg_sl ([.ref mo, .int ways, .int w, .int h]) ++ List.replicate (8 - (lg_sl ([.ref mo, .int ways, .int w, .int h])).length) Slot.unset).toArray = ls at hl ⊢
  have hl : lv_has ls 8 [(0, .ref mo), (1, .int ways), (2, .int w), (3, .int h)] := hl
  have k_0 : (0 : Int32).toInt = 0 := by decide
  have k_1 : (1 : Int32).toInt = 1 := by decide
  have k_4 : (4 : Int32).toInt = 4 := by decide
  refine lv_iconst (v := 1) hx hb dX10_placesOf_0 (by decide) ?_
  refine lv_istore (lv' := [(4, .int (1 : Int32)), (0, .ref mo), (1, .int ways), (2, .int w), (3, .int h)]) hx hb dX10_placesOf_1 hl (by decide) rfl (fun ls hl => ?_)
  refine lv_iconst (v := 1) hx hb dX10_placesOf_3 (by decide) ?_
  refine lv_istore (lv' := [(5, .int (1 : Int32)), (4, .int (1 : Int32)), (0, .ref mo), (1, .int ways), (2, .int w), (3, .int h)]) hx hb dX10_placesOf_4 hl (by decide) rfl (fun ls hl => ?_)
  refine lv_iconst (v := 0) hx hb dX10_placesOf_6 (by decide) ?_
  refine lv_istore (lv' := [(6, .int (0 : Int32)), (5, .int (1 : Int32)), (4, .int (1 : Int32)), (0, .ref mo), (1, .int ways), (2, .int w), (3, .int h)]) hx hb dX10_placesOf_7 hl (by decide) rfl (fun ls hl => ?_)
  have loop_9 : ∀ (n : Nat) (k : Nat) (x5 : Int32) (x4 : Int32), (k ≤ 4) → 4 - k < n → ∀ (H : Heap) (locs : List Loc), va_P D vwCl (WM cy mo a f g r q) H → va_S (AM mo a) s.heap H locs → ∀ (ls : Array Slot), lv_has ls 8 [(6, .int (nI k)), (5, .int x5), (4, .int x4), (0, .ref mo), (1, .int ways), (2, .int w), (3, .int h)] → W p l e (headSpec wsX10_placesOf ({ frames := 1, cells := 0, slots := 0, locals := 20 })).room s m #[Value.ref mo, Value.int ways, Value.int w, Value.int h] below meth c H locs 0 0 (MQ below (va_Qi (fun r0 u => u = (f, g, r, q) ∧ (True)) (mB D cy mo a) (AM mo a)) #[Value.ref mo, Value.int ways, Value.int w, Value.int h] s 0 0 (AM mo a)) (F0 m 9 ls []) := by
    intro n
    induction n with
    | zero => intro k x5 x4  j9_0 hn; exact absurd hn (Nat.not_lt_zero _)
    | succ n ih_9 =>
      intro k x5 x4  j9_0 hn_9 H locs hP hS ls hl
      have ik : (nI k).toInt = (k : Int) := nI_toInt (by omega)
      refine lv_iload hx hb dX10_placesOf_9 (lv_at hl 0 rfl) ?_
      refine lv_iconst (v := 4) hx hb dX10_placesOf_11 (by decide) ?_
      refine lv_icmp_ge (tgt := 77) hx hb dX10_placesOf_12 (by decide) (fun c12 => ?_) (fun c12 => ?_)
      · skip
        have d12 := c12
        rw [fa_le] at d12
        refine lv_iload_n hx hb dX10_placesOf_77 rfl (lv_at hl 5 rfl) ?_
        refine lv_iload hx hb dX10_placesOf_78 (lv_at hl 2 rfl) ?_
        refine lv_icmp_lt (tgt := 89) hx hb dX10_placesOf_80 (by decide) (fun c80 => ?_) (fun c80 => ?_)
        · skip
          have d80 := c80
          rw [fa_lt] at d80
          refine lv_iconst (v := 0) hx hb dX10_placesOf_89 (by decide) ?_
          refine lv_goto (tgt := 106) hx hb dX10_placesOf_90 (by decide) ?_
          exact W.iret (v := (0 : Int32)) hx hb hr (fun t ht hW => ⟨⟨_, (f, g, r, q), rfl, ⟨rfl, trivial⟩, by unfold mB; rw [ht]; exact hP⟩, hS.F ht⟩) hS.2.2 dX10_placesOf_106
        · skip
          have d80 := c80
          rw [fa_lt] at d80
          refine lv_iload_n hx hb dX10_placesOf_83 rfl (lv_at hl 6 rfl) ?_
          refine lv_iload hx hb dX10_placesOf_84 (lv_at hl 1 rfl) ?_
          refine lv_icmp_ge (tgt := 93) hx hb dX10_placesOf_86 (by decide) (fun c86 => ?_) (fun c86 => ?_)
          · skip
            have d86 := c86
            rw [fa_le] at d86
            refine lv_iload_n hx hb dX10_placesOf_93 rfl (lv_at hl 5 rfl) ?_
            refine lv_iload hx hb dX10_placesOf_94 (lv_at hl 2 rfl) ?_
            refine lv_isub hx hb dX10_placesOf_96 ?_
            refine lv_topi (fun v96 e96 => ?_)
            refine lv_iconst (v := 1) hx hb dX10_placesOf_97 (by decide) ?_
            refine lv_iadd hx hb dX10_placesOf_98 ?_
            refine lv_topi (fun v98 e98 => ?_)
            refine lv_iload_n hx hb dX10_placesOf_99 rfl (lv_at hl 6 rfl) ?_
            refine lv_iload hx hb dX10_placesOf_100 (lv_at hl 1 rfl) ?_
            refine lv_isub hx hb dX10_placesOf_102 ?_
            refine lv_topi (fun v102 e102 => ?_)
            refine lv_iconst (v := 1) hx hb dX10_placesOf_103 (by decide) ?_
            refine lv_iadd hx hb dX10_placesOf_104 ?_
            refine lv_topi (fun v104 e104 => ?_)
            refine lv_imul hx hb dX10_placesOf_105 ?_
            refine lv_topi (fun v105 e105 => ?_)
            exact W.iret (v := v105) hx hb hr (fun t ht hW => ⟨⟨_, (f, g, r, q), rfl, ⟨rfl, trivial⟩, by unfold mB; rw [ht]; exact hP⟩, hS.F ht⟩) hS.2.2 dX10_placesOf_106
          · skip
            have d86 := c86
            rw [fa_le] at d86
            refine lv_iconst (v := 0) hx hb dX10_placesOf_89 (by decide) ?_
            refine lv_goto (tgt := 106) hx hb dX10_placesOf_90 (by decide) ?_
            exact W.iret (v := (0 : Int32)) hx hb hr (fun t ht hW => ⟨⟨_, (f, g, r, q), rfl, ⟨rfl, trivial⟩, by unfold mB; rw [ht]; exact hP⟩, hS.F ht⟩) hS.2.2 dX10_placesOf_106
      · skip
        have d12 := c12
        rw [fa_le] at d12
        refine lv_iload_n hx hb dX10_placesOf_15 rfl (lv_at hl 4 rfl) ?_
        refine lv_iload hx hb dX10_placesOf_16 (lv_at hl 0 rfl) ?_
        refine lv_ishr hx hb dX10_placesOf_18 ?_
        refine lv_topi (fun v18 e18 => ?_)
        refine lv_iconst (v := 1) hx hb dX10_placesOf_19 (by decide) ?_
        refine lv_iand hx hb dX10_placesOf_20 ?_
        refine lv_topi (fun v20 e20 => ?_)
        refine lv_iconst (v := 1) hx hb dX10_placesOf_21 (by decide) ?_
        refine lv_icmp_ne (tgt := 29) hx hb dX10_placesOf_22 (by decide) (fun c22 => ?_) (fun c22 => ?_)
        · skip
          have d22 := c22
          rw [fa_eq] at d22
          refine lv_iconst (v := 0) hx hb dX10_placesOf_29 (by decide) ?_
          refine lv_istore (lv' := [(7, .int (0 : Int32)), (6, .int (nI k)), (5, .int x5), (4, .int x4), (0, .ref mo), (1, .int ways), (2, .int w), (3, .int h)]) hx hb dX10_placesOf_30 hl (by decide) rfl (fun ls hl => ?_)
          refine lv_iload hx hb dX10_placesOf_32 (lv_at hl 3 rfl) ?_
          refine lv_iload hx hb dX10_placesOf_34 (lv_at hl 0 rfl) ?_
          refine lv_if_eq (tgt := 47) hx hb dX10_placesOf_36 (by decide) (fun c36 => ?_) (fun c36 => ?_)
          · skip
            have d36 := c36
            rw [fa_eq] at d36
            refine lv_iconst (v := 0) hx hb dX10_placesOf_47 (by decide) ?_
            refine lv_iadd hx hb dX10_placesOf_48 ?_
            refine lv_topi (fun v48 e48 => ?_)
            refine lv_istore (lv' := [(4, .int v48), (7, .int (0 : Int32)), (6, .int (nI k)), (5, .int x5), (0, .ref mo), (1, .int ways), (2, .int w), (3, .int h)]) hx hb dX10_placesOf_49 hl (by decide) rfl (fun ls hl => ?_)
            refine lv_iload hx hb dX10_placesOf_51 (lv_at hl 3 rfl) ?_
            refine lv_iload hx hb dX10_placesOf_53 (lv_at hl 1 rfl) ?_
            refine lv_if_eq (tgt := 67) hx hb dX10_placesOf_55 (by decide) (fun c55 => ?_) (fun c55 => ?_)
            · skip
              have d55 := c55
              rw [fa_eq] at d55
              refine lv_iconst (v := 0) hx hb dX10_placesOf_67 (by decide) ?_
              refine lv_iadd hx hb dX10_placesOf_68 ?_
              refine lv_topi (fun v68 e68 => ?_)
              refine lv_istore (lv' := [(5, .int v68), (4, .int v48), (7, .int (0 : Int32)), (6, .int (nI k)), (0, .ref mo), (1, .int ways), (2, .int w), (3, .int h)]) hx hb dX10_placesOf_69 hl (by decide) rfl (fun ls hl => ?_)
              refine lv_iinc (v := (nI (k + 1))) (lv' := [(6, .int (nI (k + 1))), (5, .int v68), (4, .int v48), (7, .int (0 : Int32)), (0, .ref mo), (1, .int ways), (2, .int w), (3, .int h)]) hx hb dX10_placesOf_71 hl (k := 3) rfl (nI_1 _) (by decide) rfl (fun ls hl => ?_)
              refine lv_goto (tgt := 9) hx hb dX10_placesOf_74 (by decide) ?_
              exact ih_9 (k + 1) v68 v48 (by omega) (by omega) _ _ hP hS ls (lv_sub hl [0, 1, 2, 4, 5, 6, 7] rfl)
            · first | exact absurd c55 (by decide) | exact absurd (by decide) c55
          · first | exact absurd c36 (by decide) | exact absurd (by decide) c36
        · skip
          have d22 := c22
          rw [fa_eq] at d22
          refine lv_iconst (v := 1) hx hb dX10_placesOf_25 (by decide) ?_
          refine lv_goto (tgt := 30) hx hb dX10_placesOf_26 (by decide) ?_
          refine lv_istore (lv' := [(7, .int (1 : Int32)), (6, .int (nI k)), (5, .int x5), (4, .int x4), (0, .ref mo), (1, .int ways), (2, .int w), (3, .int h)]) hx hb dX10_placesOf_30 hl (by decide) rfl (fun ls hl => ?_)
          refine lv_iload hx hb dX10_placesOf_32 (lv_at hl 3 rfl) ?_
          refine lv_iload hx hb dX10_placesOf_34 (lv_at hl 0 rfl) ?_
          refine lv_if_eq (tgt := 47) hx hb dX10_placesOf_36 (by decide) (fun c36 => ?_) (fun c36 => ?_)
          · first | exact absurd c36 (by decide) | exact absurd (by decide) c36
          · skip
            have d36 := c36
            rw [fa_eq] at d36
            refine lv_iload hx hb dX10_placesOf_39 (lv_at hl 1 rfl) ?_
            refine m_pu (As := [.int (nI k)]) (rest := [.int x4]) ⟨hx, hb, hml, hown, hts⟩ (c_X10_across l (nI k) ) (va_cwS 1 hts gX10_placesOf_X10_across rfl rfl rfl (by decide +kernel) ⟨Nat.le_of_ble_eq_true rfl, Nat.le_of_ble_eq_true rfl⟩) hP rfl hl.1 rfl (Nat.le_of_ble_eq_true rfl) dX10_placesOf_41 ⟨Nat.le_of_ble_eq_true rfl, Nat.le_of_ble_eq_true rfl⟩ hS (fun r41 H locs q41 hP hS => ?_)
            refine lv_goto (tgt := 48) hx hb dX10_placesOf_44 (by decide) ?_
            refine lv_iadd hx hb dX10_placesOf_48 ?_
            refine lv_topi (fun v48 e48 => ?_)
            refine lv_istore (lv' := [(4, .int v48), (7, .int (1 : Int32)), (6, .int (nI k)), (5, .int x5), (0, .ref mo), (1, .int ways), (2, .int w), (3, .int h)]) hx hb dX10_placesOf_49 hl (by decide) rfl (fun ls hl => ?_)
            refine lv_iload hx hb dX10_placesOf_51 (lv_at hl 3 rfl) ?_
            refine lv_iload hx hb dX10_placesOf_53 (lv_at hl 1 rfl) ?_
            refine lv_if_eq (tgt := 67) hx hb dX10_placesOf_55 (by decide) (fun c55 => ?_) (fun c55 => ?_)
            · first | exact absurd c55 (by decide) | exact absurd (by decide) c55
            · skip
              have d55 := c55
              rw [fa_eq] at d55
              refine lv_iload hx hb dX10_placesOf_58 (lv_at hl 2 rfl) ?_
              refine lv_if_le (tgt := 67) hx hb dX10_placesOf_60 (by decide) (fun c60 => ?_) (fun c60 => ?_)
              · skip
                have d60 := c60
                rw [fa_le] at d60
                refine lv_iconst (v := 0) hx hb dX10_placesOf_67 (by decide) ?_
                refine lv_iadd hx hb dX10_placesOf_68 ?_
                refine lv_topi (fun v68 e68 => ?_)
                refine lv_istore (lv' := [(5, .int v68), (4, .int v48), (7, .int (1 : Int32)), (6, .int (nI k)), (0, .ref mo), (1, .int ways), (2, .int w), (3, .int h)]) hx hb dX10_placesOf_69 hl (by decide) rfl (fun ls hl => ?_)
                refine lv_iinc (v := (nI (k + 1))) (lv' := [(6, .int (nI (k + 1))), (5, .int v68), (4, .int v48), (7, .int (1 : Int32)), (0, .ref mo), (1, .int ways), (2, .int w), (3, .int h)]) hx hb dX10_placesOf_71 hl (k := 3) rfl (nI_1 _) (by decide) rfl (fun ls hl => ?_)
                refine lv_goto (tgt := 9) hx hb dX10_placesOf_74 (by decide) ?_
                exact ih_9 (k + 1) v68 v48 (by omega) (by omega) _ _ hP hS ls (lv_sub hl [0, 1, 2, 4, 5, 6, 7] rfl)
              · skip
                have d60 := c60
                rw [fa_le] at d60
                refine lv_iconst (v := 1) hx hb dX10_placesOf_63 (by decide) ?_
                refine lv_goto (tgt := 68) hx hb dX10_placesOf_64 (by decide) ?_
                refine lv_iadd hx hb dX10_placesOf_68 ?_
                refine lv_topi (fun v68 e68 => ?_)
                refine lv_istore (lv' := [(5, .int v68), (4, .int v48), (7, .int (1 : Int32)), (6, .int (nI k)), (0, .ref mo), (1, .int ways), (2, .int w), (3, .int h)]) hx hb dX10_placesOf_69 hl (by decide) rfl (fun ls hl => ?_)
                refine lv_iinc (v := (nI (k + 1))) (lv' := [(6, .int (nI (k + 1))), (5, .int v68), (4, .int v48), (7, .int (1 : Int32)), (0, .ref mo), (1, .int ways), (2, .int w), (3, .int h)]) hx hb dX10_placesOf_71 hl (k := 3) rfl (nI_1 _) (by decide) rfl (fun ls hl => ?_)
                refine lv_goto (tgt := 9) hx hb dX10_placesOf_74 (by decide) ?_
                exact ih_9 (k + 1) v68 v48 (by omega) (by omega) _ _ hP hS ls (lv_sub hl [0, 1, 2, 4, 5, 6, 7] rfl)
  exact loop_9 (4 + 1) 0 (1 : Int32) (1 : Int32) (by omega) (by omega) _ _ hP hS ls (lv_sub hl [0, 1, 2, 3, 4, 5, 6] rfl)
set_option maxHeartbeats 4000000 in
set_option maxRecDepth 100000 in
theorem c_X10_haunts (l : Launch) (D : va_G) (cy : Nat → ClassId) (mo : Nat) (a : Nat → Nat) (f : Nat → Int32) (g : Nat → Int64) (r : Nat → Nat → Int32) (q : Nat → Nat → Int64) (ways : Int32) (w : Int32) (h : Int32) (hD : DM cy mo a)  : Mi l D cy mo a yX10_haunts wsX10_haunts ({ frames := 2, cells := 0, slots := 0, locals := 47 }) f g r q [.int ways, .int w, .int h] (fun r0 u => u = ((upd f 0 (0 : Int32)), g, r, q) ∧ (True)) := by
  refine Met.ofW (cc := cX10_haunts) (maxL := 4) (ret := (some .int)) (by decide) rfl ?_
  intro p e s m args below meth c s₁ B hml hv
  obtain ⟨rfl, hP, hK⟩ := hv
  have hx := B.exec
  have hb := B.bytes
  have hr := B.returns
  have hts := atoms_spec (ws := wsX10_haunts) B.pre
  have hin : ∀ w ∈ u_ws RX10 TX10 35, w ∈ wsX10_haunts := by decide +kernel
  have hown : s.vm.findClass RX10 = some m.cls := findClass_of_methodNamed B.named
  have hlocks := B.notSynchronized
  have hS : va_S (AM mo a) s.heap s.heap [] := va_S.rf
  have hl := lv_entry ([.ref mo, .int ways, .int w, .int h]) (n := 4) (Nat.le_of_ble_eq_true rfl)
  rw [lg_entry_eq]
  generalize (lg_sl ([.ref mo, .int ways, .int w, .int h]) ++ List.replicate (4 - (lg_sl ([.ref mo, .int ways, .int w, .int h])).length) Slot.unset).toArray = ls at hl ⊢
  have hl : lv_has ls 4 [(0, .ref mo), (1, .int ways), (2, .int w), (3, .int h)] := hl
  have k_m1 : (-1 : Int32).toInt = -1 := by decide
  have k_0 : (0 : Int32).toInt = 0 := by decide
  have k_1 : (1 : Int32).toInt = 1 := by decide
  have k_1L : (1 : Int64).toInt = 1 := by decide
  have k_15L : (15 : Int64).toInt = 15 := by decide
  refine lv_aload_n hx hb dX10_haunts_0 rfl (lv_at hl 0 rfl) ?_
  refine lv_iconst (v := 0) hx hb dX10_haunts_1 (by decide) ?_
  refine m_put (v := .int (0 : Int32)) (ty := .int) hx hb hts hin hown hK hP hD hS 0 (by decide) rfl (hts (.fieldLink RX10 79 "ShadowBenchModel" "thrown" "I") (by decide +kernel)) rfl (by decide +kernel) rfl rfl (upd f 0 (0 : Int32)) g rfl dX10_haunts_2 (fun H locs hP hS => ?_)
  refine lv_iload_n hx hb dX10_haunts_5 rfl (lv_at hl 1 rfl) ?_
  refine lv_i2l (v := ways.toInt64) hx hb dX10_haunts_6 rfl ?_
  refine lv_lconst (v := 1) hx hb dX10_haunts_7 (by decide) ?_
  refine lv_ldc2 hx hb hown (hts (.constantLong RX10 228 (15)) (by decide +kernel)) dX10_haunts_8 ?_
  refine m_pu (As := [.long (ways.toInt64), .long (1 : Int64), .long (15 : Int64)]) (rest := []) ⟨hx, hb, hml, hown, hts⟩ (c_X10_isIn l ways.toInt64 (1 : Int64) (15 : Int64) ) (va_cwS 3 hts gX10_haunts_X10_isIn rfl rfl rfl (by decide +kernel) ⟨Nat.le_of_ble_eq_true rfl, Nat.le_of_ble_eq_true rfl⟩) hP rfl hl.1 rfl (Nat.le_of_ble_eq_true rfl) dX10_haunts_11 ⟨Nat.le_of_ble_eq_true rfl, Nat.le_of_ble_eq_true rfl⟩ hS (fun r11 H locs q11 hP hS => ?_)
  have q11 := q11
  simp only [k64, show (0 : Int64).toInt = 0 from rfl, show (1 : Int64).toInt = 1 from rfl, show (2 : Int64).toInt = 2 from rfl, show (3 : Int64).toInt = 3 from rfl, show (6 : Int64).toInt = 6 from rfl] at q11
  refine lv_if_eq (tgt := 25) hx hb dX10_haunts_14 (by decide) (fun c14 => ?_) (fun c14 => ?_)
  · skip
    have b14 := bo_f q11 c14
    refine lv_iconst (v := (-1)) hx hb dX10_haunts_25 (by decide) ?_
    refine lv_goto (tgt := 44) hx hb dX10_haunts_26 (by decide) ?_
    exact W.iret (v := ((-1) : Int32)) hx hb hr (fun t ht hW => ⟨⟨_, ((upd f 0 (0 : Int32)), g, r, q), rfl, ⟨rfl, trivial⟩, by unfold mB; rw [ht]; exact hP⟩, hS.F ht⟩) hS.2.2 dX10_haunts_44
  · skip
    have b14 := bo_t q11 c14
    refine lv_iload_n hx hb dX10_haunts_17 rfl (lv_at hl 2 rfl) ?_
    refine lv_iload_n hx hb dX10_haunts_18 rfl (lv_at hl 3 rfl) ?_
    refine m_pu (As := [.int w, .int h]) (rest := []) ⟨hx, hb, hml, hown, hts⟩ (c_X10_isBoard l w h ) (va_cwS 2 hts gX10_haunts_X10_isBoard rfl rfl rfl (by decide +kernel) ⟨Nat.le_of_ble_eq_true rfl, Nat.le_of_ble_eq_true rfl⟩) hP rfl hl.1 rfl (Nat.le_of_ble_eq_true rfl) dX10_haunts_19 ⟨Nat.le_of_ble_eq_true rfl, Nat.le_of_ble_eq_true rfl⟩ hS (fun r19 H locs q19 hP hS => ?_)
    refine lv_if_ne (tgt := 29) hx hb dX10_haunts_22 (by decide) (fun c22 => ?_) (fun c22 => ?_)
    · skip
      have b22 := bo_t q19 c22
      refine lv_aload_n hx hb dX10_haunts_29 rfl (lv_at hl 0 rfl) ?_
      refine lv_iload_n hx hb dX10_haunts_30 rfl (lv_at hl 1 rfl) ?_
      refine lv_iload_n hx hb dX10_haunts_31 rfl (lv_at hl 2 rfl) ?_
      refine lv_iload_n hx hb dX10_haunts_32 rfl (lv_at hl 3 rfl) ?_
      refine m_calli (As := [.int ways, .int w, .int h]) (rest := []) ⟨hx, hb, hml, hown, hts⟩ (c_X10_placesOf l D cy mo a (upd f 0 (0 : Int32)) g r q ways w h hD) (cwV 3 hts gX10_haunts_X10_placesOf rfl rfl rfl (by decide +kernel) ⟨Nat.le_of_ble_eq_true rfl, Nat.le_of_ble_eq_true rfl⟩) hK hP rfl hl.1 rfl (Nat.le_of_ble_eq_true rfl) dX10_haunts_33 ⟨Nat.le_of_ble_eq_true rfl, Nat.le_of_ble_eq_true rfl⟩ hS (fun r33 u H locs q33 hP hS => ?_)
      obtain ⟨rfl, q33⟩ := q33
      have hP : va_P D vwCl (WM cy mo a (upd f 0 (0 : Int32)) g r q) H := hP
      have q33 : True := q33
      refine lv_if_le (tgt := 43) hx hb dX10_haunts_36 (by decide) (fun c36 => ?_) (fun c36 => ?_)
      · skip
        have d36 := c36
        rw [fa_le] at d36
        refine lv_iconst (v := 0) hx hb dX10_haunts_43 (by decide) ?_
        exact W.iret (v := (0 : Int32)) hx hb hr (fun t ht hW => ⟨⟨_, ((upd f 0 (0 : Int32)), g, r, q), rfl, ⟨rfl, trivial⟩, by unfold mB; rw [ht]; exact hP⟩, hS.F ht⟩) hS.2.2 dX10_haunts_44
      · skip
        have d36 := c36
        rw [fa_le] at d36
        refine lv_iconst (v := 1) hx hb dX10_haunts_39 (by decide) ?_
        refine lv_goto (tgt := 44) hx hb dX10_haunts_40 (by decide) ?_
        exact W.iret (v := (1 : Int32)) hx hb hr (fun t ht hW => ⟨⟨_, ((upd f 0 (0 : Int32)), g, r, q), rfl, ⟨rfl, trivial⟩, by unfold mB; rw [ht]; exact hP⟩, hS.F ht⟩) hS.2.2 dX10_haunts_44
    · skip
      have b22 := bo_f q19 c22
      refine lv_iconst (v := (-1)) hx hb dX10_haunts_25 (by decide) ?_
      refine lv_goto (tgt := 44) hx hb dX10_haunts_26 (by decide) ?_
      exact W.iret (v := ((-1) : Int32)) hx hb hr (fun t ht hW => ⟨⟨_, ((upd f 0 (0 : Int32)), g, r, q), rfl, ⟨rfl, trivial⟩, by unfold mB; rw [ht]; exact hP⟩, hS.F ht⟩) hS.2.2 dX10_haunts_44
