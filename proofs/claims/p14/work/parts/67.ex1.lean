set_option maxHeartbeats 4000000 in
set_option maxRecDepth 100000 in
theorem c_X10_shadow_x (l : Launch) (D : va_G) (cy : Nat → ClassId) (mo : Nat) (a : Nat → Nat) (f : Nat → Int32) (g : Nat → Int64) (r : Nat → Nat → Int32) (q : Nat → Nat → Int64) (w : Int32) (h : Int32) (p0 : Int64) (way : Int32) (line : Int32) (hD : DM cy mo a)  : Mi l D cy mo a yX10_shadow wsX10_shadow ({ frames := 3, cells := 0, slots := 0, locals := 69 }) f g r q [.int w, .int h, .long p0, .int way, .int line] (fun r0 u => u = ((upd f 0 (0 : Int32)), g, r, q) ∧ (shA w h p0 way line r0)) := by
  refine Met.ofW (cc := cX10_shadow) (maxL := 8) (ret := (some .int)) (by decide) rfl ?_
  intro p e s m args below meth c s₁ B hml hv
  obtain ⟨rfl, hP, hK⟩ := hv
  have hx := B.exec
  have hb := B.bytes
  have hr := B.returns
  have hts := atoms_spec (ws := wsX10_shadow) B.pre
  have hin : ∀ w ∈ u_ws RX10 TX10 35, w ∈ wsX10_shadow := by decide +kernel
  have hown : s.vm.findClass RX10 = some m.cls := findClass_of_methodNamed B.named
  have hlocks := B.notSynchronized
  have hS : va_S (AM mo a) s.heap s.heap [] := va_S.rf
  have hl := lv_entry ([.ref mo, .int w, .int h, .long p0, .int way, .int line]) (n := 8) (Nat.le_of_ble_eq_true rfl)
  rw [lg_entry_eq]
  generalize (lg_sl ([.ref mo, .int w, .int h, .long p0, .int way, .int line]) ++ List.replicate (8 - (lg_sl ([.ref mo, .int w, .int h, .long p0, .int way, .int line])).length) Slot.unset).toArray = ls at hl ⊢
  have hl : lv_has ls 8 [(0, .ref mo), (1, .int w), (2, .int h), (3, .long p0), (5, .int way), (6, .int line)] := hl
  have k_m1 : (-1 : Int32).toInt = -1 := by decide
  have k_0 : (0 : Int32).toInt = 0 := by decide
  have k_1 : (1 : Int32).toInt = 1 := by decide
  have k_0L : (0 : Int64).toInt = 0 := by decide
  have k_3L : (3 : Int64).toInt = 3 := by decide
  refine lv_aload_n hx hb dX10_shadow_0 rfl (lv_at hl 0 rfl) ?_
  refine lv_iconst (v := 0) hx hb dX10_shadow_1 (by decide) ?_
  refine m_put (v := .int (0 : Int32)) (ty := .int) hx hb hts hin hown hK hP hD hS 0 (by decide) rfl (hts (.fieldLink RX10 79 "ShadowBenchModel" "thrown" "I") (by decide +kernel)) rfl (by decide +kernel) rfl rfl (upd f 0 (0 : Int32)) g rfl dX10_shadow_2 (fun H locs hP hS => ?_)
  refine lv_iload_n hx hb dX10_shadow_5 rfl (lv_at hl 1 rfl) ?_
  refine lv_iload_n hx hb dX10_shadow_6 rfl (lv_at hl 2 rfl) ?_
  refine lv_lload_n hx hb dX10_shadow_7 rfl (lv_at hl 3 rfl) ?_
  refine m_pu (As := [.int w, .int h, .long p0]) (rest := []) ⟨hx, hb, hml, hown, hts⟩ (c_X10_isPicture l w h p0 ) (va_cwS 3 hts gX10_shadow_X10_isPicture rfl rfl rfl (by decide +kernel) ⟨Nat.le_of_ble_eq_true rfl, Nat.le_of_ble_eq_true rfl⟩) hP rfl hl.1 rfl (Nat.le_of_ble_eq_true rfl) dX10_shadow_8 ⟨Nat.le_of_ble_eq_true rfl, Nat.le_of_ble_eq_true rfl⟩ hS (fun r8 H locs q8 hP hS => ?_)
  refine lv_if_eq (tgt := 48) hx hb dX10_shadow_11 (by decide) (fun c11 => ?_) (fun c11 => ?_)
  · skip
    have b11 := bo_f q8 c11
    refine lv_iconst (v := 0) hx hb dX10_shadow_48 (by decide) ?_
    refine lv_istore (lv' := [(7, .int (0 : Int32)), (0, .ref mo), (1, .int w), (2, .int h), (3, .long p0), (5, .int way), (6, .int line)]) hx hb dX10_shadow_49 hl (by decide) rfl (fun ls hl => ?_)
    refine lv_iload hx hb dX10_shadow_51 (lv_at hl 0 rfl) ?_
    refine lv_if_eq (tgt := 69) hx hb dX10_shadow_53 (by decide) (fun c53 => ?_) (fun c53 => ?_)
    · skip
      have d53 := c53
      rw [fa_eq] at d53
      refine lv_iconst (v := (-1)) hx hb dX10_shadow_69 (by decide) ?_
      exact W.iret (v := ((-1) : Int32)) hx hb hr (fun t ht hW => ⟨⟨_, ((upd f 0 (0 : Int32)), g, r, q), rfl, ⟨rfl, (Or.inr ⟨(fun z9 => by first | exact goodP_no b11 z9.1 | exact b24 z9.2.1 | (have z7 := z9.2; unfold okL at z7; first | omega | (have i38 : r38.toInt = (r_lines w h way).toInt := congrArg Int32.toInt q38; omega))), rfl⟩)⟩, by unfold mB; rw [ht]; exact hP⟩, hS.F ht⟩) hS.2.2 dX10_shadow_70
    · first | exact absurd c53 (by decide) | exact absurd (by decide) c53
  · skip
    have b11 := bo_t q8 c11
    refine lv_iload hx hb dX10_shadow_14 (lv_at hl 4 rfl) ?_
    refine lv_i2l (v := way.toInt64) hx hb dX10_shadow_16 rfl ?_
    refine lv_lconst (v := 0) hx hb dX10_shadow_17 (by decide) ?_
    refine lv_ldc2 hx hb hown (hts (.constantLong RX10 116 (3)) (by decide +kernel)) dX10_shadow_18 ?_
    refine m_pu (As := [.long (way.toInt64), .long (0 : Int64), .long (3 : Int64)]) (rest := []) ⟨hx, hb, hml, hown, hts⟩ (c_X10_isIn l way.toInt64 (0 : Int64) (3 : Int64) ) (va_cwS 3 hts gX10_shadow_X10_isIn rfl rfl rfl (by decide +kernel) ⟨Nat.le_of_ble_eq_true rfl, Nat.le_of_ble_eq_true rfl⟩) hP rfl hl.1 rfl (Nat.le_of_ble_eq_true rfl) dX10_shadow_21 ⟨Nat.le_of_ble_eq_true rfl, Nat.le_of_ble_eq_true rfl⟩ hS (fun r21 H locs q21 hP hS => ?_)
    have q21 := q21
    simp only [k64, show (0 : Int64).toInt = 0 from rfl, show (1 : Int64).toInt = 1 from rfl, show (2 : Int64).toInt = 2 from rfl, show (3 : Int64).toInt = 3 from rfl, show (6 : Int64).toInt = 6 from rfl] at q21
    refine lv_if_eq (tgt := 48) hx hb dX10_shadow_24 (by decide) (fun c24 => ?_) (fun c24 => ?_)
    · skip
      have b24 := bo_f q21 c24
      refine lv_iconst (v := 0) hx hb dX10_shadow_48 (by decide) ?_
      refine lv_istore (lv' := [(7, .int (0 : Int32)), (0, .ref mo), (1, .int w), (2, .int h), (3, .long p0), (5, .int way), (6, .int line)]) hx hb dX10_shadow_49 hl (by decide) rfl (fun ls hl => ?_)
      refine lv_iload hx hb dX10_shadow_51 (lv_at hl 0 rfl) ?_
      refine lv_if_eq (tgt := 69) hx hb dX10_shadow_53 (by decide) (fun c53 => ?_) (fun c53 => ?_)
      · skip
        have d53 := c53
        rw [fa_eq] at d53
        refine lv_iconst (v := (-1)) hx hb dX10_shadow_69 (by decide) ?_
        exact W.iret (v := ((-1) : Int32)) hx hb hr (fun t ht hW => ⟨⟨_, ((upd f 0 (0 : Int32)), g, r, q), rfl, ⟨rfl, (Or.inr ⟨(fun z9 => by first | exact goodP_no b11 z9.1 | exact b24 z9.2.1 | (have z7 := z9.2; unfold okL at z7; first | omega | (have i38 : r38.toInt = (r_lines w h way).toInt := congrArg Int32.toInt q38; omega))), rfl⟩)⟩, by unfold mB; rw [ht]; exact hP⟩, hS.F ht⟩) hS.2.2 dX10_shadow_70
      · first | exact absurd c53 (by decide) | exact absurd (by decide) c53
    · skip
      have b24 := bo_t q21 c24
      have y24 := b24
      try simp only [k64, show (0 : Int64).toInt = 0 from rfl, show (3 : Int64).toInt = 3 from rfl] at y24
      have hLn := rLn b11.1.1 b11.1.2 (way := way) (by omega)
      refine lv_iload hx hb dX10_shadow_27 (lv_at hl 5 rfl) ?_
      refine lv_if_lt (tgt := 48) hx hb dX10_shadow_29 (by decide) (fun c29 => ?_) (fun c29 => ?_)
      · skip
        have d29 := c29
        rw [fa_lt] at d29
        refine lv_iconst (v := 0) hx hb dX10_shadow_48 (by decide) ?_
        refine lv_istore (lv' := [(7, .int (0 : Int32)), (0, .ref mo), (1, .int w), (2, .int h), (3, .long p0), (5, .int way), (6, .int line)]) hx hb dX10_shadow_49 hl (by decide) rfl (fun ls hl => ?_)
        refine lv_iload hx hb dX10_shadow_51 (lv_at hl 0 rfl) ?_
        refine lv_if_eq (tgt := 69) hx hb dX10_shadow_53 (by decide) (fun c53 => ?_) (fun c53 => ?_)
        · skip
          have d53 := c53
          rw [fa_eq] at d53
          refine lv_iconst (v := (-1)) hx hb dX10_shadow_69 (by decide) ?_
          exact W.iret (v := ((-1) : Int32)) hx hb hr (fun t ht hW => ⟨⟨_, ((upd f 0 (0 : Int32)), g, r, q), rfl, ⟨rfl, (Or.inr ⟨(fun z9 => by first | exact goodP_no b11 z9.1 | exact b24 z9.2.1 | (have z7 := z9.2; unfold okL at z7; first | omega | (have i38 : r38.toInt = (r_lines w h way).toInt := congrArg Int32.toInt q38; omega))), rfl⟩)⟩, by unfold mB; rw [ht]; exact hP⟩, hS.F ht⟩) hS.2.2 dX10_shadow_70
        · first | exact absurd c53 (by decide) | exact absurd (by decide) c53
      · skip
        have d29 := c29
        rw [fa_lt] at d29
        refine lv_iload hx hb dX10_shadow_32 (lv_at hl 5 rfl) ?_
        refine lv_iload_n hx hb dX10_shadow_34 rfl (lv_at hl 1 rfl) ?_
        refine lv_iload_n hx hb dX10_shadow_35 rfl (lv_at hl 2 rfl) ?_
        refine lv_iload hx hb dX10_shadow_36 (lv_at hl 4 rfl) ?_
        refine m_pu (As := [.int w, .int h, .int way]) (rest := [.int line]) ⟨hx, hb, hml, hown, hts⟩ (c_X10_linesOf l w h way ) (va_cwS 3 hts gX10_shadow_X10_linesOf rfl rfl rfl (by decide +kernel) ⟨Nat.le_of_ble_eq_true rfl, Nat.le_of_ble_eq_true rfl⟩) hP rfl hl.1 rfl (Nat.le_of_ble_eq_true rfl) dX10_shadow_38 ⟨Nat.le_of_ble_eq_true rfl, Nat.le_of_ble_eq_true rfl⟩ hS (fun r38 H locs q38 hP hS => ?_)
        have i38 : r38.toInt = (r_lines w h way).toInt := congrArg Int32.toInt q38
        refine lv_icmp_ge (tgt := 48) hx hb dX10_shadow_41 (by decide) (fun c41 => ?_) (fun c41 => ?_)
        · skip
          have d41 := c41
          rw [fa_le] at d41
          refine lv_iconst (v := 0) hx hb dX10_shadow_48 (by decide) ?_
          refine lv_istore (lv' := [(7, .int (0 : Int32)), (0, .ref mo), (1, .int w), (2, .int h), (3, .long p0), (5, .int way), (6, .int line)]) hx hb dX10_shadow_49 hl (by decide) rfl (fun ls hl => ?_)
          refine lv_iload hx hb dX10_shadow_51 (lv_at hl 0 rfl) ?_
          refine lv_if_eq (tgt := 69) hx hb dX10_shadow_53 (by decide) (fun c53 => ?_) (fun c53 => ?_)
          · skip
            have d53 := c53
            rw [fa_eq] at d53
            refine lv_iconst (v := (-1)) hx hb dX10_shadow_69 (by decide) ?_
            exact W.iret (v := ((-1) : Int32)) hx hb hr (fun t ht hW => ⟨⟨_, ((upd f 0 (0 : Int32)), g, r, q), rfl, ⟨rfl, (Or.inr ⟨(fun z9 => by first | exact goodP_no b11 z9.1 | exact b24 z9.2.1 | (have z7 := z9.2; unfold okL at z7; first | omega | (have i38 : r38.toInt = (r_lines w h way).toInt := congrArg Int32.toInt q38; omega))), rfl⟩)⟩, by unfold mB; rw [ht]; exact hP⟩, hS.F ht⟩) hS.2.2 dX10_shadow_70
          · first | exact absurd c53 (by decide) | exact absurd (by decide) c53
        · skip
          have d41 := c41
          rw [fa_le] at d41
          refine lv_iconst (v := 1) hx hb dX10_shadow_44 (by decide) ?_
          refine lv_goto (tgt := 49) hx hb dX10_shadow_45 (by decide) ?_
          refine lv_istore (lv' := [(7, .int (1 : Int32)), (0, .ref mo), (1, .int w), (2, .int h), (3, .long p0), (5, .int way), (6, .int line)]) hx hb dX10_shadow_49 hl (by decide) rfl (fun ls hl => ?_)
          refine lv_iload hx hb dX10_shadow_51 (lv_at hl 0 rfl) ?_
          refine lv_if_eq (tgt := 69) hx hb dX10_shadow_53 (by decide) (fun c53 => ?_) (fun c53 => ?_)
          · first | exact absurd c53 (by decide) | exact absurd (by decide) c53
          · skip
            have d53 := c53
            rw [fa_eq] at d53
            have i38 : r38.toInt = (r_lines w h way).toInt := congrArg Int32.toInt q38
            refine lv_iload_n hx hb dX10_shadow_56 rfl (lv_at hl 2 rfl) ?_
            refine lv_iload_n hx hb dX10_shadow_57 rfl (lv_at hl 3 rfl) ?_
            refine lv_lload_n hx hb dX10_shadow_58 rfl (lv_at hl 4 rfl) ?_
            refine lv_iload hx hb dX10_shadow_59 (lv_at hl 5 rfl) ?_
            refine lv_iload hx hb dX10_shadow_61 (lv_at hl 6 rfl) ?_
            refine m_pu (As := [.int w, .int h, .long p0, .int way, .int line]) (rest := []) ⟨hx, hb, hml, hown, hts⟩ (c_X10_shadowOf l w h p0 way line b11.1.1 b11.1.2) (va_cwS 5 hts gX10_shadow_X10_shadowOf rfl rfl rfl (by decide +kernel) ⟨Nat.le_of_ble_eq_true rfl, Nat.le_of_ble_eq_true rfl⟩) hP rfl hl.1 rfl (Nat.le_of_ble_eq_true rfl) dX10_shadow_63 ⟨Nat.le_of_ble_eq_true rfl, Nat.le_of_ble_eq_true rfl⟩ hS (fun r63 H locs q63 hP hS => ?_)
            refine lv_goto (tgt := 70) hx hb dX10_shadow_66 (by decide) ?_
            exact W.iret (v := r63) hx hb hr (fun t ht hW => ⟨⟨_, ((upd f 0 (0 : Int32)), g, r, q), rfl, ⟨rfl, (Or.inl ⟨⟨goodP_of b11, (by unfold okL; omega)⟩, r_shS b11.1.1 b11.1.2 (by omega) (by omega) q63⟩)⟩, by unfold mB; rw [ht]; exact hP⟩, hS.F ht⟩) hS.2.2 dX10_shadow_70
set_option maxHeartbeats 4000000 in
set_option maxRecDepth 100000 in
theorem c_X10_parts_x (l : Launch) (D : va_G) (cy : Nat → ClassId) (mo : Nat) (a : Nat → Nat) (f : Nat → Int32) (g : Nat → Int64) (r : Nat → Nat → Int32) (q : Nat → Nat → Int64) (w : Int32) (h : Int32) (p0 : Int64) (p1 : Int64) (ways : Int32) (hD : DM cy mo a)  : Mi l D cy mo a yX10_parts wsX10_parts ({ frames := 3, cells := 0, slots := 0, locals := 78 }) f g r q [.int w, .int h, .long p0, .long p1, .int ways] (fun r0 u => u = ((upd f 0 (0 : Int32)), g, r, q) ∧ (paA w h p0 p1 ways r0)) := by
  refine Met.ofW (cc := cX10_parts) (maxL := 9) (ret := (some .int)) (by decide) rfl ?_
  intro p e s m args below meth c s₁ B hml hv
  obtain ⟨rfl, hP, hK⟩ := hv
  have hx := B.exec
  have hb := B.bytes
  have hr := B.returns
  have hts := atoms_spec (ws := wsX10_parts) B.pre
  have hin : ∀ w ∈ u_ws RX10 TX10 35, w ∈ wsX10_parts := by decide +kernel
  have hown : s.vm.findClass RX10 = some m.cls := findClass_of_methodNamed B.named
  have hlocks := B.notSynchronized
  have hS : va_S (AM mo a) s.heap s.heap [] := va_S.rf
  have hl := lv_entry ([.ref mo, .int w, .int h, .long p0, .long p1, .int ways]) (n := 9) (Nat.le_of_ble_eq_true rfl)
  rw [lg_entry_eq]
  generalize (lg_sl ([.ref mo, .int w, .int h, .long p0, .long p1, .int ways]) ++ List.replicate (9 - (lg_sl ([.ref mo, .int w, .int h, .long p0, .long p1, .int ways])).length) Slot.unset).toArray = ls at hl ⊢
  have hl : lv_has ls 9 [(0, .ref mo), (1, .int w), (2, .int h), (3, .long p0), (5, .long p1), (7, .int ways)] := hl
  have k_m2 : (-2 : Int32).toInt = -2 := by decide
  have k_m1 : (-1 : Int32).toInt = -1 := by decide
  have k_0 : (0 : Int32).toInt = 0 := by decide
  have k_1 : (1 : Int32).toInt = 1 := by decide
  have k_4 : (4 : Int32).toInt = 4 := by decide
  have k_0L : (0 : Int64).toInt = 0 := by decide
  have k_15L : (15 : Int64).toInt = 15 := by decide
  refine lv_aload_n hx hb dX10_parts_0 rfl (lv_at hl 0 rfl) ?_
  refine lv_iconst (v := 0) hx hb dX10_parts_1 (by decide) ?_
  refine m_put (v := .int (0 : Int32)) (ty := .int) hx hb hts hin hown hK hP hD hS 0 (by decide) rfl (hts (.fieldLink RX10 79 "ShadowBenchModel" "thrown" "I") (by decide +kernel)) rfl (by decide +kernel) rfl rfl (upd f 0 (0 : Int32)) g rfl dX10_parts_2 (fun H locs hP hS => ?_)
  refine lv_iload_n hx hb dX10_parts_5 rfl (lv_at hl 1 rfl) ?_
  refine lv_iload_n hx hb dX10_parts_6 rfl (lv_at hl 2 rfl) ?_
  refine lv_lload_n hx hb dX10_parts_7 rfl (lv_at hl 3 rfl) ?_
  refine m_pu (As := [.int w, .int h, .long p0]) (rest := []) ⟨hx, hb, hml, hown, hts⟩ (c_X10_isPicture l w h p0 ) (va_cwS 3 hts gX10_parts_X10_isPicture rfl rfl rfl (by decide +kernel) ⟨Nat.le_of_ble_eq_true rfl, Nat.le_of_ble_eq_true rfl⟩) hP rfl hl.1 rfl (Nat.le_of_ble_eq_true rfl) dX10_parts_8 ⟨Nat.le_of_ble_eq_true rfl, Nat.le_of_ble_eq_true rfl⟩ hS (fun r8 H locs q8 hP hS => ?_)
  refine lv_if_eq (tgt := 37) hx hb dX10_parts_11 (by decide) (fun c11 => ?_) (fun c11 => ?_)
  · skip
    have b11 := bo_f q8 c11
    refine lv_iconst (v := (-1)) hx hb dX10_parts_37 (by decide) ?_
    exact W.iret (v := ((-1) : Int32)) hx hb hr (fun t ht hW => ⟨⟨_, ((upd f 0 (0 : Int32)), g, r, q), rfl, ⟨rfl, (Or.inr ⟨(fun z9 => by first | exact goodP_no b11 z9.1 | exact goodP_no b21 z9.2.1 | (have y34 := b34; simp only [k64, show (0 : Int64).toInt = 0 from rfl, show (15 : Int64).toInt = 15 from rfl] at y34; exact y34 z9.2.2)), rfl⟩)⟩, by unfold mB; rw [ht]; exact hP⟩, hS.F ht⟩) hS.2.2 dX10_parts_38
  · skip
    have b11 := bo_t q8 c11
    refine lv_iload_n hx hb dX10_parts_14 rfl (lv_at hl 1 rfl) ?_
    refine lv_iload_n hx hb dX10_parts_15 rfl (lv_at hl 2 rfl) ?_
    refine lv_lload hx hb dX10_parts_16 (lv_at hl 4 rfl) ?_
    refine m_pu (As := [.int w, .int h, .long p1]) (rest := []) ⟨hx, hb, hml, hown, hts⟩ (c_X10_isPicture l w h p1 ) (va_cwS 3 hts gX10_parts_X10_isPicture rfl rfl rfl (by decide +kernel) ⟨Nat.le_of_ble_eq_true rfl, Nat.le_of_ble_eq_true rfl⟩) hP rfl hl.1 rfl (Nat.le_of_ble_eq_true rfl) dX10_parts_18 ⟨Nat.le_of_ble_eq_true rfl, Nat.le_of_ble_eq_true rfl⟩ hS (fun r18 H locs q18 hP hS => ?_)
    refine lv_if_eq (tgt := 37) hx hb dX10_parts_21 (by decide) (fun c21 => ?_) (fun c21 => ?_)
    · skip
      have b21 := bo_f q18 c21
      refine lv_iconst (v := (-1)) hx hb dX10_parts_37 (by decide) ?_
      exact W.iret (v := ((-1) : Int32)) hx hb hr (fun t ht hW => ⟨⟨_, ((upd f 0 (0 : Int32)), g, r, q), rfl, ⟨rfl, (Or.inr ⟨(fun z9 => by first | exact goodP_no b11 z9.1 | exact goodP_no b21 z9.2.1 | (have y34 := b34; simp only [k64, show (0 : Int64).toInt = 0 from rfl, show (15 : Int64).toInt = 15 from rfl] at y34; exact y34 z9.2.2)), rfl⟩)⟩, by unfold mB; rw [ht]; exact hP⟩, hS.F ht⟩) hS.2.2 dX10_parts_38
    · skip
      have b21 := bo_t q18 c21
      refine lv_iload hx hb dX10_parts_24 (lv_at hl 5 rfl) ?_
      refine lv_i2l (v := ways.toInt64) hx hb dX10_parts_26 rfl ?_
      refine lv_lconst (v := 0) hx hb dX10_parts_27 (by decide) ?_
      refine lv_ldc2 hx hb hown (hts (.constantLong RX10 228 (15)) (by decide +kernel)) dX10_parts_28 ?_
      refine m_pu (As := [.long (ways.toInt64), .long (0 : Int64), .long (15 : Int64)]) (rest := []) ⟨hx, hb, hml, hown, hts⟩ (c_X10_isIn l ways.toInt64 (0 : Int64) (15 : Int64) ) (va_cwS 3 hts gX10_parts_X10_isIn rfl rfl rfl (by decide +kernel) ⟨Nat.le_of_ble_eq_true rfl, Nat.le_of_ble_eq_true rfl⟩) hP rfl hl.1 rfl (Nat.le_of_ble_eq_true rfl) dX10_parts_31 ⟨Nat.le_of_ble_eq_true rfl, Nat.le_of_ble_eq_true rfl⟩ hS (fun r31 H locs q31 hP hS => ?_)
      have q31 := q31
      simp only [k64, show (0 : Int64).toInt = 0 from rfl, show (1 : Int64).toInt = 1 from rfl, show (2 : Int64).toInt = 2 from rfl, show (3 : Int64).toInt = 3 from rfl, show (6 : Int64).toInt = 6 from rfl] at q31
      refine lv_if_ne (tgt := 39) hx hb dX10_parts_34 (by decide) (fun c34 => ?_) (fun c34 => ?_)
      · skip
        have b34 := bo_t q31 c34
        have y34 := b34
        try simp only [k64, show (0 : Int64).toInt = 0 from rfl, show (15 : Int64).toInt = 15 from rfl] at y34
        refine lv_iconst (v := 0) hx hb dX10_parts_39 (by decide) ?_
        refine lv_istore (lv' := [(8, .int (0 : Int32)), (0, .ref mo), (1, .int w), (2, .int h), (3, .long p0), (5, .long p1), (7, .int ways)]) hx hb dX10_parts_40 hl (by decide) rfl (fun ls hl => ?_)
        have loop_42 : ∀ (n : Nat) (k : Nat), (k ≤ 4) → (∀ j, j < k → ¬ unl w.toNatClampNeg h.toNatClampNeg p0 p1 ways j) → 4 - k < n → ∀ (H : Heap) (locs : List Loc), va_P D vwCl (WM cy mo a (upd f 0 (0 : Int32)) g r q) H → va_S (AM mo a) s.heap H locs → ∀ (ls : Array Slot), lv_has ls 9 [(8, .int (nI k)), (0, .ref mo), (1, .int w), (2, .int h), (3, .long p0), (5, .long p1), (7, .int ways)] → W p l e (headSpec wsX10_parts ({ frames := 3, cells := 0, slots := 0, locals := 78 })).room s m #[Value.ref mo, Value.int w, Value.int h, Value.long p0, Value.long p1, Value.int ways] below meth c H locs 0 0 (MQ below (va_Qi (fun r0 u => u = ((upd f 0 (0 : Int32)), g, r, q) ∧ (paA w h p0 p1 ways r0)) (mB D cy mo a) (AM mo a)) #[Value.ref mo, Value.int w, Value.int h, Value.long p0, Value.long p1, Value.int ways] s 0 0 (AM mo a)) (F0 m 42 ls []) := by
          intro n
          induction n with
          | zero => intro k  j42_0 j42_1 hn; exact absurd hn (Nat.not_lt_zero _)
          | succ n ih_42 =>
            intro k  j42_0 j42_1 hn_42 H locs hP hS ls hl
            have ik : (nI k).toInt = (k : Int) := nI_toInt (by omega)
            refine lv_iload hx hb dX10_parts_42 (lv_at hl 0 rfl) ?_
            refine lv_iconst (v := 4) hx hb dX10_parts_44 (by decide) ?_
            refine lv_icmp_ge (tgt := 81) hx hb dX10_parts_45 (by decide) (fun c45 => ?_) (fun c45 => ?_)
            · skip
              have d45 := c45
              rw [fa_le] at d45
              refine lv_bipush (v := (-2)) hx hb dX10_parts_81 (by decide) ?_
              exact W.iret (v := ((-2) : Int32)) hx hb hr (fun t ht hW => ⟨⟨_, ((upd f 0 (0 : Int32)), g, r, q), rfl, ⟨rfl, (Or.inl ⟨⟨goodP_of b11, goodP_of b21, y34⟩, Or.inr ⟨rfl, fun j9 h9 => j42_1 j9 (by omega)⟩⟩)⟩, by unfold mB; rw [ht]; exact hP⟩, hS.F ht⟩) hS.2.2 dX10_parts_83
            · skip
              have d45 := c45
              rw [fa_le] at d45
              refine lv_iload hx hb dX10_parts_48 (lv_at hl 6 rfl) ?_
              refine lv_iload hx hb dX10_parts_50 (lv_at hl 0 rfl) ?_
              refine lv_ishr hx hb dX10_parts_52 ?_
              refine lv_topi (fun v52 e52 => ?_)
              refine lv_iconst (v := 1) hx hb dX10_parts_53 (by decide) ?_
              refine lv_iand hx hb dX10_parts_54 ?_
              refine lv_topi (fun v54 e54 => ?_)
              refine lv_iconst (v := 1) hx hb dX10_parts_55 (by decide) ?_
              have hB : gB ways k = v54 := by rw [e54, e52]; rfl
              refine lv_icmp_ne (tgt := 75) hx hb dX10_parts_56 (by decide) (fun c56 => ?_) (fun c56 => ?_)
              · skip
                have d56 := c56
                rw [fa_eq] at d56
                refine lv_iinc (v := (nI (k + 1))) (lv' := [(8, .int (nI (k + 1))), (0, .ref mo), (1, .int w), (2, .int h), (3, .long p0), (5, .long p1), (7, .int ways)]) hx hb dX10_parts_75 hl (k := 0) rfl (nI_1 _) (by decide) rfl (fun ls hl => ?_)
                refine lv_goto (tgt := 42) hx hb dX10_parts_78 (by decide) ?_
                exact ih_42 (k + 1) (by omega) (fun j hj => by
                                                                                          by_cases e9 : j = k
                                                                                          · rw [e9]; first | exact fun z9 => c56 (hB.symm.trans z9.1) | exact fun z9 => z9.2 b69
                                                                                          · exact j42_1 j (by omega)) (by omega) _ _ hP hS ls (lv_sub hl [0, 1, 2, 3, 4, 5, 6] rfl)
              · skip
                have d56 := c56
                rw [fa_eq] at d56
                refine lv_iload_n hx hb dX10_parts_59 rfl (lv_at hl 2 rfl) ?_
                refine lv_iload_n hx hb dX10_parts_60 rfl (lv_at hl 3 rfl) ?_
                refine lv_lload_n hx hb dX10_parts_61 rfl (lv_at hl 4 rfl) ?_
                refine lv_lload hx hb dX10_parts_62 (lv_at hl 5 rfl) ?_
                refine lv_iload hx hb dX10_parts_64 (lv_at hl 0 rfl) ?_
                refine m_pu (As := [.int w, .int h, .long p0, .long p1, .int (nI k)]) (rest := []) ⟨hx, hb, hml, hown, hts⟩ (c_X10_areAlike_x l w h p0 p1 (nI k) b11.1.1 b11.1.2 (by omega)) (va_cwS 5 hts gX10_parts_X10_areAlike rfl rfl rfl (by decide +kernel) ⟨Nat.le_of_ble_eq_true rfl, Nat.le_of_ble_eq_true rfl⟩) hP rfl hl.1 rfl (Nat.le_of_ble_eq_true rfl) dX10_parts_66 ⟨Nat.le_of_ble_eq_true rfl, Nat.le_of_ble_eq_true rfl⟩ hS (fun r66 H locs q66 hP hS => ?_)
                have ck9 : (nI k).toNatClampNeg = k := nI_clamp (by omega)
                rw [ck9] at q66
                refine lv_if_ne (tgt := 75) hx hb dX10_parts_69 (by decide) (fun c69 => ?_) (fun c69 => ?_)
                · skip
                  have b69 := bo_t q66 c69
                  refine lv_iinc (v := (nI (k + 1))) (lv' := [(8, .int (nI (k + 1))), (0, .ref mo), (1, .int w), (2, .int h), (3, .long p0), (5, .long p1), (7, .int ways)]) hx hb dX10_parts_75 hl (k := 0) rfl (nI_1 _) (by decide) rfl (fun ls hl => ?_)
                  refine lv_goto (tgt := 42) hx hb dX10_parts_78 (by decide) ?_
                  exact ih_42 (k + 1) (by omega) (fun j hj => by
                                                                                          by_cases e9 : j = k
                                                                                          · rw [e9]; first | exact fun z9 => c56 (hB.symm.trans z9.1) | exact fun z9 => z9.2 b69
                                                                                          · exact j42_1 j (by omega)) (by omega) _ _ hP hS ls (lv_sub hl [0, 1, 2, 3, 4, 5, 6] rfl)
                · skip
                  have b69 := bo_f q66 c69
                  refine lv_iload hx hb dX10_parts_72 (lv_at hl 0 rfl) ?_
                  exact W.iret (v := (nI k)) hx hb hr (fun t ht hW => ⟨⟨_, ((upd f 0 (0 : Int32)), g, r, q), rfl, ⟨rfl, (Or.inl ⟨⟨goodP_of b11, goodP_of b21, y34⟩, Or.inl ⟨k, (by omega), rfl, ⟨hB.trans c56, b69⟩, j42_1⟩⟩)⟩, by unfold mB; rw [ht]; exact hP⟩, hS.F ht⟩) hS.2.2 dX10_parts_74
        exact loop_42 (4 + 1) 0 (by omega) (fun j hj => absurd hj (Nat.not_lt_zero _)) (by omega) _ _ hP hS ls (lv_sub hl [0, 1, 2, 3, 4, 5, 6] rfl)
      · skip
        have b34 := bo_f q31 c34
        refine lv_iconst (v := (-1)) hx hb dX10_parts_37 (by decide) ?_
        exact W.iret (v := ((-1) : Int32)) hx hb hr (fun t ht hW => ⟨⟨_, ((upd f 0 (0 : Int32)), g, r, q), rfl, ⟨rfl, (Or.inr ⟨(fun z9 => by first | exact goodP_no b11 z9.1 | exact goodP_no b21 z9.2.1 | (have y34 := b34; simp only [k64, show (0 : Int64).toInt = 0 from rfl, show (15 : Int64).toInt = 15 from rfl] at y34; exact y34 z9.2.2)), rfl⟩)⟩, by unfold mB; rw [ht]; exact hP⟩, hS.F ht⟩) hS.2.2 dX10_parts_38

/-- squares side by side -/
def nbr (w t s : Nat) : Prop := (s = t + 1 ∧ t % w + 1 < w) ∨ (t = s + 1 ∧ s % w + 1 < w) ∨ s = t + w ∨ t = s + w
/-- what is reached from the first one in k steps -/
def jR (w h : Nat) (p : Int64) : Nat → Nat → Prop
  | 0, s => lb p s = true ∧ ∀ j, j < s → lb p j = false
  | k + 1, s => jR w h p k s ∨ (s < w * h ∧ lb p s = true ∧ ∃ t, t < w * h ∧ jR w h p k t ∧ nbr w t s)
def jOK (w h : Nat) (p : Int64) : Prop := ∀ s, s < w * h → lb p s = true → ∃ k, jR w h p k s
theorem jR_one {w h : Nat} {p : Int64} : ∀ {k s : Nat}, jR w h p k s → lb p s = true := by
  intro k
  induction k with
  | zero => intro s h1; exact h1.1
  | succ k ih => intro s h1; rcases h1 with h1 | h1; exact ih h1; exact h1.2.1
theorem jR_up {w h : Nat} {p : Int64} {k j s : Nat} (hj : k ≤ j) (h1 : jR w h p k s) : jR w h p j s := by
  induction j with
  | zero => have : k = 0 := by omega
            rw [this] at h1; exact h1
  | succ j ih =>
    by_cases e : k = j + 1
    · rw [← e]; exact h1
    · exact Or.inl (ih (by omega))
theorem jR_st {w h : Nat} {p : Int64} {m : Nat} (hs : ∀ s, jR w h p (m + 1) s → jR w h p m s) : ∀ j s, jR w h p j s → jR w h p m s := by
  intro j
  induction j with
  | zero => intro s h1; exact jR_up (Nat.zero_le _) h1
  | succ j ih =>
    intro s h1
    rcases h1 with h1 | ⟨a, b, t, c, d, e⟩
    · exact ih s h1
    · exact hs s (Or.inr ⟨a, b, t, c, ih t d, e⟩)
theorem bs_up {f g : Nat → Bool} {n : Nat} (h : ∀ i, i < n → f i = true → g i = true) : bs f n ≤ bs g n := by
  induction n with
  | zero => exact Nat.le_refl _
  | succ n ih =>
    have h1 := ih (fun i hi => h i (by omega))
    have h2 := h n (by omega)
    simp only [bs]
    cases hf : f n
    · simp only [Bool.toNat_false]; omega
    · rw [h2 hf]; simp only [Bool.toNat_true]; omega
theorem bs_more {f g : Nat → Bool} {n : Nat} (h : ∀ i, i < n → f i = true → g i = true) {k : Nat} (hk : k < n) (h0 : f k = false) (h1 : g k = true) : bs f n + 1 ≤ bs g n := by
  induction n with
  | zero => omega
  | succ n ih =>
    simp only [bs]
    by_cases e : k = n
    · subst e
      have := bs_up (f := f) (g := g) (n := k) (fun i hi => h i (by omega))
      rw [h0, h1]
      simp only [Bool.toNat_true, Bool.toNat_false]
      omega
    · have h2 := ih (fun i hi => h i (by omega)) (by omega)
      have h3 := h n (by omega)
      cases hf : f n
      · simp only [Bool.toNat_false]; omega
      · rw [h3 hf]; simp only [Bool.toNat_true]; omega
theorem bs_all {f : Nat → Bool} {n : Nat} (h : n ≤ bs f n) : ∀ i, i < n → f i = true := by
  induction n with
  | zero => intro i hi; omega
  | succ n ih =>
    simp only [bs] at h
    have h1 := bs_le f n
    intro i hi
    cases hf : f n
    · rw [hf] at h; simp only [Bool.toNat_false] at h; omega
    · rw [hf] at h
      simp only [Bool.toNat_true] at h
      by_cases e : i = n
      · rw [e]; exact hf
      · exact ih (by omega) i (by omega)
theorem j_full {w h : Nat} {p : Int64} (h0 : jOK w h p) : ∀ s, s < w * h → lb p s = true → jR w h p (w * h - 1) s := by
  classical
  intro s hs hp
  obtain ⟨i0, hi0, hi1⟩ := pk_least (fun i => lb p i = true) ⟨s, hp⟩
  have hfirst : jR w h p 0 i0 := ⟨hi0, fun j hj => by cases hb : lb p j; rfl; exact absurd hb (hi1 j hj)⟩
  have hi2 : i0 < w * h := by
    apply Nat.lt_of_not_le
    intro hge
    exact absurd hp (hi1 s (by omega))
  have key : ∀ k, (∃ m, m ≤ k ∧ ∀ s, jR w h p (m + 1) s → jR w h p m s) ∨ k + 1 ≤ bs (fun s => decide (jR w h p k s)) (w * h) := by
    intro k
    induction k with
    | zero =>
      right
      have := bs_more (f := fun _ => false) (g := fun s => decide (jR w h p 0 s)) (n := w * h) (fun i _ z => by cases z) hi2 rfl (decide_eq_true hfirst)
      omega
    | succ k ih =>
      rcases ih with ⟨m, hm, hst⟩ | ih
      · exact Or.inl ⟨m, by omega, hst⟩
      · by_cases hst : ∀ s, jR w h p (k + 1) s → jR w h p k s
        · exact Or.inl ⟨k, by omega, hst⟩
        · right
          have ⟨s1, h1⟩ := Classical.not_forall.mp hst
          have ⟨h2, h3⟩ := Classical.not_imp.mp h1
          have hs1 : s1 < w * h := by
            rcases h2 with h2 | h2
            · exact absurd h2 h3
            · exact h2.1
          have := bs_more (f := fun s => decide (jR w h p k s)) (g := fun s => decide (jR w h p (k + 1) s)) (n := w * h) (fun i _ z => decide_eq_true (Or.inl (of_decide_eq_true z))) hs1 (decide_eq_false h3) (decide_eq_true h2)
          omega
  rcases key (w * h - 1) with ⟨m, hm, hst⟩ | hk
  · obtain ⟨j, hj⟩ := h0 s hs hp
    exact jR_up hm (jR_st hst j s hj)
  · exact of_decide_eq_true (bs_all (f := fun s => decide (jR w h p (w * h - 1) s)) (n := w * h) (by omega) s hs)
/-- a closed set that holds the first one holds all that is reached -/
theorem j_closed {w h : Nat} {p : Int64} {M : Nat → Prop} {i0 : Nat} (hi : lb p i0 = true ∧ ∀ j, j < i0 → lb p j = false) (hM : M i0) (hc : ∀ s, s < w * h → lb p s = true → (∃ t, t < w * h ∧ M t ∧ nbr w t s) → M s) : ∀ k s, jR w h p k s → M s := by
  intro k
  induction k with
  | zero =>
    intro s h1
    have e : s = i0 := by
      rcases Nat.lt_trichotomy s i0 with z | z | z
      · have := hi.2 s z; rw [h1.1] at this; cases this
      · exact z
      · have := h1.2 i0 z; rw [hi.1] at this; cases this
    rw [e]; exact hM
  | succ k ih =>
    intro s h1
    rcases h1 with h1 | ⟨a, b, t, c, d, e⟩
    · exact ih s h1
    · exact hc s a b ⟨t, c, ih t d, e⟩
theorem lb_neg (x : Int64) {i : Nat} (hi : i < 64) : lb (-x) i = (lb x i ^^ decide (∃ j, j < i ∧ lb x j = true)) := by
  unfold lb
  rw [Int64.toBitVec_neg, BitVec.getLsbD_neg]
  simp [hi]
theorem j_low {p : Int64} {v v2 : Int64} (e1 : v = -p) (e2 : v2 = p &&& v) (w h : Nat) : ∀ i, i < 64 → (lb v2 i = true ↔ jR w h p 0 i) := by
  intro i hi
  rw [e2, e1, lb_and, lb_neg p hi]
  show _ ↔ (lb p i = true ∧ ∀ j, j < i → lb p j = false)
  cases hb : lb p i
  · simp
  · simp only [Bool.true_and, Bool.true_xor, true_and]
    rw [Bool.not_eq_true', decide_eq_false_iff_not]
    constructor
    · intro h1 j hj
      cases hc : lb p j
      · rfl
      · exact absurd ⟨j, hj, hc⟩ h1
    · rintro h1 ⟨j, hj, hc⟩
      rw [h1 j hj] at hc
      cases hc
theorem m_edge {w s : Nat} (hw : 1 ≤ w ∧ w ≤ 6) : (s % w + 1 < w ↔ ¬ (w - 1 ≤ s ∧ (s - (w - 1)) % w = 0)) ∧ (s % w + 1 < w ↔ ¬ (s + 1) % w = 0) ∧ (0 < s % w ↔ 1 ≤ s ∧ (s - 1) % w + 1 < w) := by
  have h : w = 1 ∨ w = 2 ∨ w = 3 ∨ w = 4 ∨ w = 5 ∨ w = 6 := by omega
  rcases h with rfl | rfl | rfl | rfl | rfl | rfl <;> omega
theorem j_step {w h m : Nat} {p x7 lf rt v50 v51 v60 v61 v64 v81 v90 v92 v93 : Int64} {v14 : Int32} (hb : 1 ≤ w ∧ w ≤ 6 ∧ 1 ≤ h ∧ h ≤ 6) (hp : isPic (w * h) p) (elf : lf = bLn w h 11) (e14 : v14 = nI w - 1) (ert : rt = lf <<< (v14.toInt64 &&& 63))
    (e50 : v50 = rt ^^^ (-1)) (e51 : v51 = x7 &&& v50) (e60 : v60 = lf ^^^ (-1)) (e61 : v61 = x7 &&& v60) (e64 : v64 = (v51 <<< ((1 : Int32).toInt64 &&& 63)) ||| (v61.toUInt64 >>> ((1 : Int32).toInt64.toUInt64 &&& Int64.toUInt64 63)).toInt64) (e81 : v81 = (x7 <<< ((nI w).toInt64 &&& 63)) ||| (x7.toUInt64 >>> ((nI w).toInt64.toUInt64 &&& Int64.toUInt64 63)).toInt64) (e90 : v90 = v64 ||| v81) (e92 : v92 = v90 &&& p) (e93 : v93 = x7 ||| v92)
    (hr : ∀ i, i < 64 → (lb x7 i = true ↔ jR w h p m i)) : ∀ i, i < 64 → (lb v93 i = true ↔ jR w h p (m + 1) i) := by
  have h36 : w * h ≤ 6 * 6 := Nat.mul_le_mul (by omega) (by omega)
  have hlt : ∀ t, lb p t = true → t < w * h := fun t ht => Nat.lt_of_not_le (fun z => by rw [pic_hi (by omega) hp z] at ht; cases ht)
  have hx : ∀ t, lb x7 t = true → t < w * h := fun t ht => by
    have h64 : t < 64 := Nat.lt_of_not_le (fun z => by rw [lb_big z] at ht; cases ht)
    exact hlt t (jR_one ((hr t h64).mp ht))
  have hL : ∀ t, t < w * h → lb lf t = decide (t % w = 0) := fun t ht => by
    rw [elf]
    unfold bLn
    have z := lb_bLN (way := 1) (line := 0) hb (by omega) (by omega) (show t < 64 by omega) (4 * (w * h)) (Nat.le_refl _)
    rw [show (1 * 11 + 0 : Nat) = 11 from rfl] at z
    rw [z]
    apply decide_eq_decide.mpr
    show (_ ∧ t % w = 0) ↔ _
    exact ⟨fun z => z.2, fun z => ⟨by omega, z⟩⟩
  have hR : ∀ t, t < w * h → lb rt t = decide (¬ t % w + 1 < w) := fun t ht => by
    have e : v14 = nI (w - 1) := by rw [e14, show (1 : Int32) = nI 1 from rfl]; exact pk_sub (by omega)
    rw [ert, e, lb_shl (w - 1) (by omega) lf (by omega)]
    have me := (m_edge (s := t) (show 1 ≤ w ∧ w ≤ 6 by omega)).1
    by_cases c1 : w - 1 ≤ t
    · rw [decide_eq_true c1, Bool.true_and, hL (t - (w - 1)) (by omega)]
      apply decide_eq_decide.mpr
      constructor
      · intro z y; exact (me.mp y) ⟨c1, z⟩
      · intro z; exact (Classical.not_not.mp (fun y => z (me.mpr y))).2
    · rw [decide_eq_false c1, Bool.false_and]
      symm
      apply decide_eq_false
      intro z
      exact z (me.mpr (fun y => c1 y.1))
  intro i hi
  have s1 : lb (v51 <<< ((1 : Int32).toInt64 &&& 63)) i = (decide (1 ≤ i) && lb v51 (i - 1)) := lb_shl 1 (by decide) v51 hi
  have s2 : lb (v61.toUInt64 >>> ((1 : Int32).toInt64.toUInt64 &&& Int64.toUInt64 63)).toInt64 i = lb v61 (1 + i) := lb_ushr 1 (by decide) v61 i
  have s3 := lb_shl w (by omega) x7 hi
  have s4 := lb_ushr w (by omega) x7 i
  have t1 : lb v51 (i - 1) = (lb x7 (i - 1) && !lb rt (i - 1)) := by
    rw [e51, e50, lb_and, lb_xor, lb_m1 (i - 1) (by omega), Bool.xor_true]
  have t2 : lb v61 (1 + i) = (lb x7 (1 + i) && !lb lf (1 + i)) := by
    by_cases c : 1 + i < 64
    · rw [e61, e60, lb_and, lb_xor, lb_m1 (1 + i) c, Bool.xor_true]
    · rw [lb_big (show 64 ≤ 1 + i by omega), lb_big (show 64 ≤ 1 + i by omega), Bool.false_and]
  rw [e93, lb_or, e92, lb_and, e90, lb_or, e64, lb_or, e81, lb_or, s1, s2, s3, s4, t1, t2]
  simp only [Bool.or_eq_true, Bool.and_eq_true, Bool.not_eq_true', decide_eq_true_eq]
  constructor
  · rintro (h1 | ⟨h2, h3⟩)
    · exact Or.inl ((hr i hi).mp h1)
    · refine Or.inr ⟨hlt i h3, h3, ?_⟩
      rcases h2 with (⟨c, d, e⟩ | ⟨d, e⟩) | (⟨c, d⟩ | d)
      · have hw := hx _ d
        rw [hR _ hw] at e
        exact ⟨i - 1, hw, (hr _ (by omega)).mp d, Or.inl ⟨by omega, Classical.not_not.mp (of_decide_eq_false e)⟩⟩
      · have hw := hx _ d
        rw [hL _ hw] at e
        have e2 := of_decide_eq_false e
        rw [Nat.add_comm] at e2
        exact ⟨1 + i, hw, (hr _ (by omega)).mp d, Or.inr (Or.inl ⟨by omega, (m_edge (show 1 ≤ w ∧ w ≤ 6 by omega)).2.1.mpr e2⟩)⟩
      · exact ⟨i - w, hx _ d, (hr _ (by omega)).mp d, Or.inr (Or.inr (Or.inl (by omega)))⟩
      · have hw := hx _ d
        exact ⟨w + i, hw, (hr _ (by omega)).mp d, Or.inr (Or.inr (Or.inr (by omega)))⟩
  · rintro (h1 | ⟨h1, h2, t, ht, h3, h4⟩)
    · exact Or.inl ((hr i hi).mpr h1)
    · refine Or.inr ⟨?_, h2⟩
      have hb7 := (hr t (by omega)).mpr h3
      rcases h4 with ⟨e, d⟩ | ⟨e, d⟩ | e | e
      · refine Or.inl (Or.inl ⟨by omega, ?_, ?_⟩)
        · rw [show i - 1 = t by omega]; exact hb7
        · rw [show i - 1 = t by omega, hR t ht]; exact decide_eq_false (fun z => z d)
      · refine Or.inl (Or.inr ⟨?_, ?_⟩)
        · rw [show 1 + i = t by omega]; exact hb7
        · rw [show 1 + i = t by omega, hL t ht, e]; exact decide_eq_false ((m_edge (show 1 ≤ w ∧ w ≤ 6 by omega)).2.1.mp d)
      · exact Or.inr (Or.inl ⟨by omega, by rw [show i - w = t by omega]; exact hb7⟩)
      · exact Or.inr (Or.inr (by rw [show w + i = t by omega]; exact hb7))
theorem j_yes {w h m : Nat} {p x : Int64} (hr : ∀ i, i < 64 → (lb x i = true ↔ jR w h p m i)) (e : x = p) (h36 : w * h ≤ 36) : jOK w h p := fun s hs hp => ⟨m, (hr s (by omega)).mp (by rw [e]; exact hp)⟩
theorem j_no {w h m : Nat} {p x : Int64} (hr : ∀ i, i < 64 → (lb x i = true ↔ jR w h p m i)) (e : ¬ x = p) (hp : isPic (w * h) p) (h36 : w * h ≤ 36) (hm : w * h - 1 ≤ m) : ¬ jOK w h p := fun hok => by
  apply e
  apply lb_ext
  intro i hi
  cases hb : lb p i
  · cases hc : lb x i
    · rfl
    · have := jR_one ((hr i hi).mp hc); rw [hb] at this; cases this
  · have hiw : i < w * h := Nat.lt_of_not_le (fun z => by rw [pic_hi h36 hp z] at hb; cases hb)
    exact (hr i hi).mpr (jR_up hm (j_full hok i hiw hb))

def joA (w h : Int32) (p : Int64) (x : Int32) : Prop := (goodP w h p ∧ ((jOK w.toNatClampNeg h.toNatClampNeg p ∧ x = 1) ∨ (¬ jOK w.toNatClampNeg h.toNatClampNeg p ∧ x = 0))) ∨ (¬ goodP w h p ∧ x = -1)
theorem joA_eq {w h : Int32} {p : Int64} {x y : Int32} (hx : joA w h p x) (hy : joA w h p y) : x = y := by
  rcases hx with ⟨a, ⟨b, c⟩ | ⟨b, c⟩⟩ | ⟨a, c⟩ <;> rcases hy with ⟨d, ⟨e, f⟩ | ⟨e, f⟩⟩ | ⟨d, f⟩
  · rw [c, f]
  · exact absurd b e
  · exact absurd a d
  · exact absurd e b
  · rw [c, f]
  · exact absurd a d
  · exact absurd d a
  · exact absurd d a
  · rw [c, f]
theorem j_none {w h : Nat} {p : Int64} (h0 : ∀ s, s < w * h → lb p s = false) : jOK w h p := fun s hs hp => by rw [h0 s hs] at hp; cases hp
set_option maxHeartbeats 4000000 in
set_option maxRecDepth 100000 in
theorem c_X0_hangsTogether_x (l : Launch) (D : va_G) (cy : Nat → ClassId) (A : Nat → Prop) (G : cG) (ws : va_W) (o : Nat) (p0 : Int64) {w h : Nat} (hD : va_D A ws) (hT : cT cy G ws) (hG_o : G o = some (2, w, h)) (hp9 : isPic (w * h) p0) : Ci l D cy A yX0_hangsTogether wsX0_hangsTogether ({ frames := 0, cells := 0, slots := 0, locals := 0 }) 0 0 ws [.ref o, .long p0] (fun r0 u => u = (G, ws) ∧ (Bo r0 (jOK w h p0))) := by
  refine Met.ofW (cc := cX0_hangsTogether) (maxL := 14) (ret := (some .boolean)) (by decide) rfl ?_
  intro p e s m args below meth c s₁ B hml hv
  obtain ⟨rfl, hP, hK, hA, hV⟩ := hv
  have hx := B.exec
  have hb := B.bytes
  have hr := B.returns
  have hts := atoms_spec (ws := wsX0_hangsTogether) B.pre
  have hown : s.vm.findClass RX0 = some m.cls := findClass_of_methodNamed B.named
  have hlocks := B.notSynchronized
  have hS : va_S A s.heap s.heap [] := va_S.rf
  have hl := lv_entry ([.ref o, .long p0]) (n := 14) (Nat.le_of_ble_eq_true rfl)
  rw [lg_entry_eq]
  generalize (lg_sl ([.ref o, .long p0]) ++ List.replicate (14 - (lg_sl ([.ref o, .long p0])).length) Slot.unset).toArray = ls at hl ⊢
  have hl : lv_has ls 14 [(0, .ref o), (1, .long p0)] := hl
  have k_0 : (0 : Int32).toInt = 0 := by decide
  have k_1 : (1 : Int32).toInt = 1 := by decide
  have k_11 : (11 : Int32).toInt = 11 := by decide
  have k_m1L : (-1 : Int64).toInt = -1 := by decide
  have hb9 := c_hb hT hG_o
  have m9 := cb_mul hb9
  refine lv_aload_n hx hb dX0_hangsTogether_0 rfl (lv_at hl 0 rfl) ?_
  obtain ⟨_, hM_o, hb_o, l_o, f_o, r_o, rfl, hG_l_o, hG_f_o, hG_r_o⟩ := hT _ _ hG_o
  refine t_get (v := .ref l_o) (C := RX0) (T := TX0) (N := 8) hx hb hts (by decide +kernel) hown hK hP hM_o rfl 5 (by decide) (hts (.fieldLink RX0 9 "ShadowBench$Board" "lines" "[J") (by decide +kernel)) (fun _ h9 => h9) rfl dX0_hangsTogether_1 ?_
  refine lv_bipush (v := 11) hx hb dX0_hangsTogether_4 (by decide) ?_
  refine t_lald11 hx hb hK hP hT hG_l_o (vp_in_iff.mpr ⟨by omega, by omega⟩) dX0_hangsTogether_6 ?_
  refine lv_topl (fun v6 e6 => ?_)
  refine lv_lstore_n (lv' := [(3, .long v6), (0, .ref o), (1, .long p0)]) hx hb dX0_hangsTogether_7 rfl hl (by decide) rfl (fun ls hl => ?_)
  refine lv_lload_n hx hb dX0_hangsTogether_8 rfl (lv_at hl 0 rfl) ?_
  refine lv_aload_n hx hb dX0_hangsTogether_9 rfl (lv_at hl 1 rfl) ?_
  refine t_get (v := .int (nI w)) (C := RX0) (T := TX0) (N := 8) hx hb hts (by decide +kernel) hown hK hP hM_o rfl 0 (by decide) (hts (.fieldLink RX0 13 "ShadowBench$Board" "wide" "I") (by decide +kernel)) (fun _ h9 => h9) rfl dX0_hangsTogether_10 ?_
  have i_w_o : (nI w).toInt = _ := nI_toInt (by omega)
  refine lv_iconst (v := 1) hx hb dX0_hangsTogether_13 (by decide) ?_
  refine lv_isub hx hb dX0_hangsTogether_14 ?_
  refine lv_topi (fun v14 e14 => ?_)
  refine lv_lshl (v := v6 <<< (v14.toInt64 &&& 63)) hx hb dX0_hangsTogether_15 rfl ?_
  refine lv_lstore (lv' := [(5, .long (v6 <<< (v14.toInt64 &&& 63))), (3, .long v6), (0, .ref o), (1, .long p0)]) hx hb dX0_hangsTogether_16 hl (by decide) rfl (fun ls hl => ?_)
  refine lv_lload_n hx hb dX0_hangsTogether_18 rfl (lv_at hl 3 rfl) ?_
  refine lv_lload_n hx hb dX0_hangsTogether_19 rfl (lv_at hl 3 rfl) ?_
  refine lv_lneg hx hb dX0_hangsTogether_20 ?_
  refine lv_topl (fun v20 e20 => ?_)
  refine lv_land hx hb dX0_hangsTogether_21 ?_
  refine lv_topl (fun v21 e21 => ?_)
  refine lv_lstore (lv' := [(7, .long v21), (5, .long (v6 <<< (v14.toInt64 &&& 63))), (3, .long v6), (0, .ref o), (1, .long p0)]) hx hb dX0_hangsTogether_22 hl (by decide) rfl (fun ls hl => ?_)
  refine lv_iconst (v := 1) hx hb dX0_hangsTogether_24 (by decide) ?_
  refine lv_istore (lv' := [(9, .int (1 : Int32)), (7, .long v21), (5, .long (v6 <<< (v14.toInt64 &&& 63))), (3, .long v6), (0, .ref o), (1, .long p0)]) hx hb dX0_hangsTogether_25 hl (by decide) rfl (fun ls hl => ?_)
  have loop_27 : ∀ (n : Nat) (k : Nat) (x7 : Int64), (1 ≤ k ∧ k ≤ 36) → (∀ i, i < 64 → (lb x7 i = true ↔ jR w h p0 (k - 1) i)) → 36 - k < n → ∀ (H : Heap) (locs : List Loc), va_P D vwCl ws H → va_S A s.heap H locs → ∀ (ls : Array Slot), lv_has ls 14 [(9, .int (nI k)), (7, .long x7), (5, .long (v6 <<< (v14.toInt64 &&& 63))), (3, .long v6), (0, .ref o), (1, .long p0)] → W p l e (headSpec wsX0_hangsTogether ({ frames := 0, cells := 0, slots := 0, locals := 0 })).room s m #[Value.ref o, Value.long p0] below meth c H locs 0 0 (MQ below (va_Qi (fun r0 u => u = (G, ws) ∧ (Bo r0 (jOK w h p0))) (cB D cy A) A) #[Value.ref o, Value.long p0] s 0 0 A) (F0 m 27 ls []) := by
    intro n
    induction n with
    | zero => intro k x7 j27_0 j27_1 hn; exact absurd hn (Nat.not_lt_zero _)
    | succ n ih_27 =>
      intro k x7 j27_0 j27_1 hn_27 H locs hP hS  ls hl
      have ik : (nI k).toInt = (k : Int) := nI_toInt (by omega)
      refine lv_iload hx hb dX0_hangsTogether_27 (lv_at hl 0 rfl) ?_
      refine lv_aload_n hx hb dX0_hangsTogether_29 rfl (lv_at hl 4 rfl) ?_
      refine t_get (v := .int (nI (w * h))) (C := RX0) (T := TX0) (N := 8) hx hb hts (by decide +kernel) hown hK hP hM_o rfl 2 (by decide) (hts (.fieldLink RX0 20 "ShadowBench$Board" "squares" "I") (by decide +kernel)) (fun _ h9 => h9) rfl dX0_hangsTogether_30 ?_
      have m_wh_o := cb_mul hb_o
      have i_wh_o : (nI (w * h)).toInt = _ := nI_toInt (by omega)
      refine lv_icmp_ge (tgt := 102) hx hb dX0_hangsTogether_33 (by decide) (fun c33 => ?_) (fun c33 => ?_)
      · skip
        have d33 := c33
        rw [fa_le] at d33
        refine lv_lload hx hb dX0_hangsTogether_102 (lv_at hl 1 rfl) ?_
        refine lv_lload_n hx hb dX0_hangsTogether_104 rfl (lv_at hl 5 rfl) ?_
        refine W.lcmp hx hb dX0_hangsTogether_105 ?_
        refine lv_if_ne (tgt := 113) hx hb dX0_hangsTogether_106 (by decide) (fun c106 => ?_) (fun c106 => ?_)
        · skip
          have d106 := c106
          rw [lg_cmp_eq, fa_eq64] at d106
          refine lv_iconst (v := 0) hx hb dX0_hangsTogether_113 (by decide) ?_
          exact W.zret (v := (0 : Int32)) hx hb hr (by decide) (fun t ht hW => ⟨⟨_, (G, ws), rfl, ⟨rfl, Or.inr ⟨rfl, (j_no j27_1 (fun z9 => c106 ((lg_cmp_eq _ _).mpr z9)) hp9 m9.2 (by first | omega | exact absurd c40 c106))⟩⟩, by show va_P D vwCl ws t.heap; rw [ht]; exact hP, hD, hT⟩, hS.F ht⟩) hS.2.2 dX0_hangsTogether_114
        · skip
          have d106 := c106
          rw [lg_cmp_eq, fa_eq64] at d106
          refine lv_iconst (v := 1) hx hb dX0_hangsTogether_109 (by decide) ?_
          refine lv_goto (tgt := 114) hx hb dX0_hangsTogether_110 (by decide) ?_
          exact W.zret (v := (1 : Int32)) hx hb hr (by decide) (fun t ht hW => ⟨⟨_, (G, ws), rfl, ⟨rfl, Or.inl ⟨rfl, (j_yes j27_1 ((lg_cmp_eq _ _).mp c106) m9.2)⟩⟩, by show va_P D vwCl ws t.heap; rw [ht]; exact hP, hD, hT⟩, hS.F ht⟩) hS.2.2 dX0_hangsTogether_114
      · skip
        have d33 := c33
        rw [fa_le] at d33
        refine lv_lload hx hb dX0_hangsTogether_36 (lv_at hl 1 rfl) ?_
        refine lv_lload_n hx hb dX0_hangsTogether_38 rfl (lv_at hl 5 rfl) ?_
        refine W.lcmp hx hb dX0_hangsTogether_39 ?_
        refine lv_if_eq (tgt := 102) hx hb dX0_hangsTogether_40 (by decide) (fun c40 => ?_) (fun c40 => ?_)
        · skip
          have d40 := c40
          rw [lg_cmp_eq, fa_eq64] at d40
          refine lv_lload hx hb dX0_hangsTogether_102 (lv_at hl 1 rfl) ?_
          refine lv_lload_n hx hb dX0_hangsTogether_104 rfl (lv_at hl 5 rfl) ?_
          refine W.lcmp hx hb dX0_hangsTogether_105 ?_
          refine lv_if_ne (tgt := 113) hx hb dX0_hangsTogether_106 (by decide) (fun c106 => ?_) (fun c106 => ?_)
          · skip
            have d106 := c106
            rw [lg_cmp_eq, fa_eq64] at d106
            refine lv_iconst (v := 0) hx hb dX0_hangsTogether_113 (by decide) ?_
            exact W.zret (v := (0 : Int32)) hx hb hr (by decide) (fun t ht hW => ⟨⟨_, (G, ws), rfl, ⟨rfl, Or.inr ⟨rfl, (j_no j27_1 (fun z9 => c106 ((lg_cmp_eq _ _).mpr z9)) hp9 m9.2 (by first | omega | exact absurd c40 c106))⟩⟩, by show va_P D vwCl ws t.heap; rw [ht]; exact hP, hD, hT⟩, hS.F ht⟩) hS.2.2 dX0_hangsTogether_114
          · skip
            have d106 := c106
            rw [lg_cmp_eq, fa_eq64] at d106
            refine lv_iconst (v := 1) hx hb dX0_hangsTogether_109 (by decide) ?_
            refine lv_goto (tgt := 114) hx hb dX0_hangsTogether_110 (by decide) ?_
            exact W.zret (v := (1 : Int32)) hx hb hr (by decide) (fun t ht hW => ⟨⟨_, (G, ws), rfl, ⟨rfl, Or.inl ⟨rfl, (j_yes j27_1 ((lg_cmp_eq _ _).mp c106) m9.2)⟩⟩, by show va_P D vwCl ws t.heap; rw [ht]; exact hP, hD, hT⟩, hS.F ht⟩) hS.2.2 dX0_hangsTogether_114
        · skip
          have d40 := c40
          rw [lg_cmp_eq, fa_eq64] at d40
          refine lv_lload hx hb dX0_hangsTogether_43 (lv_at hl 1 rfl) ?_
          refine lv_lload hx hb dX0_hangsTogether_45 (lv_at hl 2 rfl) ?_
          refine lv_ldc2 hx hb hown (hts (.constantLong RX0 73 (-1)) (by decide +kernel)) dX0_hangsTogether_47 ?_
          refine lv_lxor hx hb dX0_hangsTogether_50 ?_
          refine lv_topl (fun v50 e50 => ?_)
          refine lv_land hx hb dX0_hangsTogether_51 ?_
          refine lv_topl (fun v51 e51 => ?_)
          refine lv_iconst (v := 1) hx hb dX0_hangsTogether_52 (by decide) ?_
          refine lv_lshl (v := v51 <<< ((1 : Int32).toInt64 &&& 63)) hx hb dX0_hangsTogether_53 rfl ?_
          refine lv_lload hx hb dX0_hangsTogether_54 (lv_at hl 1 rfl) ?_
          refine lv_lload_n hx hb dX0_hangsTogether_56 rfl (lv_at hl 3 rfl) ?_
          refine lv_ldc2 hx hb hown (hts (.constantLong RX0 73 (-1)) (by decide +kernel)) dX0_hangsTogether_57 ?_
          refine lv_lxor hx hb dX0_hangsTogether_60 ?_
          refine lv_topl (fun v60 e60 => ?_)
          refine lv_land hx hb dX0_hangsTogether_61 ?_
          refine lv_topl (fun v61 e61 => ?_)
          refine lv_iconst (v := 1) hx hb dX0_hangsTogether_62 (by decide) ?_
          refine lv_lushr (v := (v61.toUInt64 >>> ((1 : Int32).toInt64.toUInt64 &&& Int64.toUInt64 63)).toInt64) hx hb dX0_hangsTogether_63 rfl ?_
          refine lv_lor hx hb dX0_hangsTogether_64 ?_
          refine lv_topl (fun v64 e64 => ?_)
          refine lv_lstore (lv' := [(10, .long v64), (9, .int (nI k)), (7, .long x7), (5, .long (v6 <<< (v14.toInt64 &&& 63))), (3, .long v6), (0, .ref o), (1, .long p0)]) hx hb dX0_hangsTogether_65 hl (by decide) rfl (fun ls hl => ?_)
          refine lv_lload hx hb dX0_hangsTogether_67 (lv_at hl 2 rfl) ?_
          refine lv_aload_n hx hb dX0_hangsTogether_69 rfl (lv_at hl 5 rfl) ?_
          refine t_get (v := .int (nI w)) (C := RX0) (T := TX0) (N := 8) hx hb hts (by decide +kernel) hown hK hP hM_o rfl 0 (by decide) (hts (.fieldLink RX0 13 "ShadowBench$Board" "wide" "I") (by decide +kernel)) (fun _ h9 => h9) rfl dX0_hangsTogether_70 ?_
          refine lv_lshl (v := x7 <<< ((nI w).toInt64 &&& 63)) hx hb dX0_hangsTogether_73 rfl ?_
          refine lv_lload hx hb dX0_hangsTogether_74 (lv_at hl 2 rfl) ?_
          refine lv_aload_n hx hb dX0_hangsTogether_76 rfl (lv_at hl 5 rfl) ?_
          refine t_get (v := .int (nI w)) (C := RX0) (T := TX0) (N := 8) hx hb hts (by decide +kernel) hown hK hP hM_o rfl 0 (by decide) (hts (.fieldLink RX0 13 "ShadowBench$Board" "wide" "I") (by decide +kernel)) (fun _ h9 => h9) rfl dX0_hangsTogether_77 ?_
          refine lv_lushr (v := (x7.toUInt64 >>> ((nI w).toInt64.toUInt64 &&& Int64.toUInt64 63)).toInt64) hx hb dX0_hangsTogether_80 rfl ?_
          refine lv_lor hx hb dX0_hangsTogether_81 ?_
          refine lv_topl (fun v81 e81 => ?_)
          refine lv_lstore (lv' := [(12, .long v81), (10, .long v64), (9, .int (nI k)), (7, .long x7), (5, .long (v6 <<< (v14.toInt64 &&& 63))), (3, .long v6), (0, .ref o), (1, .long p0)]) hx hb dX0_hangsTogether_82 hl (by decide) rfl (fun ls hl => ?_)
          refine lv_lload hx hb dX0_hangsTogether_84 (lv_at hl 3 rfl) ?_
          refine lv_lload hx hb dX0_hangsTogether_86 (lv_at hl 1 rfl) ?_
          refine lv_lload hx hb dX0_hangsTogether_88 (lv_at hl 0 rfl) ?_
          refine lv_lor hx hb dX0_hangsTogether_90 ?_
          refine lv_topl (fun v90 e90 => ?_)
          refine lv_lload_n hx hb dX0_hangsTogether_91 rfl (lv_at hl 7 rfl) ?_
          refine lv_land hx hb dX0_hangsTogether_92 ?_
          refine lv_topl (fun v92 e92 => ?_)
          refine lv_lor hx hb dX0_hangsTogether_93 ?_
          refine lv_topl (fun v93 e93 => ?_)
          have hst := j_step hb9 hp9 e6 e14 rfl e50 e51 e60 e61 e64 e81 e90 e92 e93 j27_1
          rw [show k - 1 + 1 = k + 1 - 1 by omega] at hst
          refine lv_lstore (lv' := [(7, .long v93), (12, .long v81), (10, .long v64), (9, .int (nI k)), (5, .long (v6 <<< (v14.toInt64 &&& 63))), (3, .long v6), (0, .ref o), (1, .long p0)]) hx hb dX0_hangsTogether_94 hl (by decide) rfl (fun ls hl => ?_)
          refine lv_iinc (v := (nI (k + 1))) (lv' := [(9, .int (nI (k + 1))), (7, .long v93), (12, .long v81), (10, .long v64), (5, .long (v6 <<< (v14.toInt64 &&& 63))), (3, .long v6), (0, .ref o), (1, .long p0)]) hx hb dX0_hangsTogether_96 hl (k := 3) rfl (nI_1 _) (by decide) rfl (fun ls hl => ?_)
          refine lv_goto (tgt := 27) hx hb dX0_hangsTogether_99 (by decide) ?_
          exact ih_27 (k + 1) v93 (by omega) (hst) (by omega) _ _ hP hS  ls (lv_sub hl [0, 1, 4, 5, 6, 7] rfl)
  exact loop_27 (36 + 1) 1 v21 (by omega) (j_low e20 e21 w h) (by omega) _ _ hP hS  ls (lv_sub hl [0, 1, 2, 3, 4, 5] rfl)
set_option maxHeartbeats 4000000 in
set_option maxRecDepth 100000 in
theorem c_X9_joined_x (l : Launch) (D : va_G) (cy : Nat → ClassId) (A : Nat → Prop) (G : cG) (ws : va_W) (o : Nat) (wide : Int32) (high : Int32) (p0 : Int64)  (hD : va_D A ws) (hT : cT cy G ws) (hG_o : G o = some (7, 0, 0))  : Ci l D cy A yX9_joined wsX9_joined ({ frames := 5, cells := 4, slots := 502, locals := 116 }) 4 502 ws [.ref o, .int wide, .int high, .long p0] (fun r0 u => cX none (chs [1, 8]) G ws u.1 u.2 ∧ (joA wide high p0 r0)) := by
  refine Met.ofW (cc := cX9_joined) (maxL := 6) (ret := (some .int)) (by decide) rfl ?_
  intro p e s m args below meth c s₁ B hml hv
  obtain ⟨rfl, hP, hK, hA, hV⟩ := hv
  have hx := B.exec
  have hb := B.bytes
  have hr := B.returns
  have hts := atoms_spec (ws := wsX9_joined) B.pre
  have hown : s.vm.findClass RX9 = some m.cls := findClass_of_methodNamed B.named
  have hlocks := B.notSynchronized
  have hS : va_S A s.heap s.heap [] := va_S.rf
  have hX : cX none (chs [1, 8]) G ws G ws := cX.rf
  have hl := lv_entry ([.ref o, .int wide, .int high, .long p0]) (n := 6) (Nat.le_of_ble_eq_true rfl)
  rw [lg_entry_eq]
  generalize (lg_sl ([.ref o, .int wide, .int high, .long p0]) ++ List.replicate (6 - (lg_sl ([.ref o, .int wide, .int high, .long p0])).length) Slot.unset).toArray = ls at hl ⊢
  have hl : lv_has ls 6 [(0, .ref o), (1, .int wide), (2, .int high), (3, .long p0)] := hl
  have k_m1 : (-1 : Int32).toInt = -1 := by decide
  have k_0 : (0 : Int32).toInt = 0 := by decide
  have k_1 : (1 : Int32).toInt = 1 := by decide
  refine lv_aload_n hx hb dX9_joined_0 rfl (lv_at hl 0 rfl) ?_
  refine lv_iload_n hx hb dX9_joined_1 rfl (lv_at hl 1 rfl) ?_
  refine lv_iload_n hx hb dX9_joined_2 rfl (lv_at hl 2 rfl) ?_
  obtain ⟨_, hM_o, bs_o, js_o, sh_o, wk_o, ll_o, jc_o, lc_o, mo_o, lb_o, rfl, hjc_o, hlc_o, hG_bs_o, hG_js_o, hG_sh_o, hG_wk_o, hmo_o, hG_ll_o, hlb_o⟩ := hT _ _ hG_o
  refine t_calla (va_runV (g := F0 m 3 ls ([.int high, .int wide, .ref o])) (As := [.int wide, .int high]) (rest := []) ⟨hx, hb, hml, hown, hts⟩ (c_X9_boardOf_x l D cy A G ws o wide high hD hT hG_o ) (cwV 2 hts gX9_joined_X9_boardOf rfl rfl rfl (by decide +kernel) ⟨Nat.le_of_ble_eq_true rfl, Nat.le_of_ble_eq_true rfl⟩) (c_preV hM_o rfl hP hK hA hS hV) rfl rfl hl.1 rfl (lv_room (Nat.le_of_ble_eq_true rfl)) dX9_joined_3 ⟨Nat.le_of_ble_eq_true rfl, Nat.le_of_ble_eq_true rfl⟩) hS (fun r3 u H locs q3 hP9 hD9 hT9 hS => ?_)
  obtain ⟨G3, w3⟩ := u
  obtain ⟨hX9, q3⟩ := q3
  have hX9 : cX none (chs [1, 8]) G ws G3 w3 := hX9
  have hP : va_P D vwCl w3 H := hP9
  have hD : va_D A w3 := hD9
  have hT : cT cy G3 w3 := hT9
  have hM_o := hX9.2.1 _ _ (cP.no hG_o rfl) hM_o
  have hG_o := hX9.1 _ _ hG_o
  have hG_bs_o := hX9.1 _ _ hG_bs_o
  have hG_js_o := hX9.1 _ _ hG_js_o
  have hG_sh_o := hX9.1 _ _ hG_sh_o
  have hG_wk_o := hX9.1 _ _ hG_wk_o
  have hG_ll_o := hX9.1 _ _ hG_ll_o
  have hX := hX.tr hX9
  rcases r3 with _ | x3
  · skip
    have vn3 := q3.2.1 rfl
    refine lv_astoreN (lv' := [(5, .null), (0, .ref o), (1, .int wide), (2, .int high), (3, .long p0)]) hx hb dX9_joined_6 hl (by decide) rfl (fun ls hl => ?_)
    refine lv_aloadN hx hb dX9_joined_8 (lv_at hl 0 rfl) ?_
    refine lv_ifnullN (tgt := 22) hx hb dX9_joined_10 (by decide) ?_
    refine lv_iconst (v := (-1)) hx hb dX9_joined_22 (by decide) ?_
    refine W.widen (k := 4) (n := 502) (Nat.le_of_ble_eq_true rfl) (Nat.le_of_ble_eq_true rfl) ?_
    exact W.iret (v := ((-1) : Int32)) hx hb hr (fun t ht hW => ⟨⟨_, (G3, w3), rfl, ⟨hX, (Or.inr ⟨(fun z9 => by first | exact vn3 z9.1 | exact b19 z9.2), rfl⟩)⟩, by show va_P D vwCl w3 t.heap; rw [ht]; exact hP, hD, hT⟩, hS.F ht⟩) hS.2.2 dX9_joined_23
  · skip
    have hG_x3 := q3.1 x3 rfl
    have vb3 := q3.2.2 x3 rfl
    refine lv_astore (lv' := [(5, .ref x3), (0, .ref o), (1, .int wide), (2, .int high), (3, .long p0)]) hx hb dX9_joined_6 hl (by decide) rfl (fun ls hl => ?_)
    refine lv_aload hx hb dX9_joined_8 (lv_at hl 0 rfl) ?_
    refine lv_ifnull hx hb dX9_joined_10 ?_
    refine lv_aload hx hb dX9_joined_13 (lv_at hl 0 rfl) ?_
    refine lv_lload_n hx hb dX9_joined_15 rfl (lv_at hl 4 rfl) ?_
    obtain ⟨_, hM_x3, hb_x3, l_x3, f_x3, r_x3, rfl, hG_l_x3, hG_f_x3, hG_r_x3⟩ := hT _ _ hG_x3
    refine t_calli (va_runV (g := F0 m 16 ls ([.long p0, .ref x3])) (As := [.long p0]) (rest := []) ⟨hx, hb, hml, hown, hts⟩ (c_X0_isPicture_x l D cy A G3 w3 x3 p0 hD hT hG_x3 ) (cwV 1 hts gX9_joined_X0_isPicture rfl rfl rfl (by decide +kernel) ⟨Nat.le_of_ble_eq_true rfl, Nat.le_of_ble_eq_true rfl⟩) (c_preV hM_x3 rfl hP hK hA hS hV) rfl rfl hl.1 rfl (lv_room (Nat.le_of_ble_eq_true rfl)) dX9_joined_16 ⟨Nat.le_of_ble_eq_true rfl, Nat.le_of_ble_eq_true rfl⟩) hS (fun r16 u H locs q16 hP9 hD9 hT9 hS => ?_)
    obtain ⟨rfl, q16⟩ := q16
    have hP : va_P D vwCl w3 H := hP9
    refine lv_if_ne (tgt := 24) hx hb dX9_joined_19 (by decide) (fun c19 => ?_) (fun c19 => ?_)
    · skip
      have b19 := bo_t q16 c19
      refine lv_aload hx hb dX9_joined_24 (lv_at hl 0 rfl) ?_
      refine lv_lload_n hx hb dX9_joined_26 rfl (lv_at hl 4 rfl) ?_
      refine t_calli (va_runV (g := F0 m 27 ls ([.long p0, .ref x3])) (As := [.long p0]) (rest := []) ⟨hx, hb, hml, hown, hts⟩ (c_X0_hangsTogether_x l D cy A G3 w3 x3 p0 hD hT hG_x3 b19) (cwV 1 hts gX9_joined_X0_hangsTogether rfl rfl rfl (by decide +kernel) ⟨Nat.le_of_ble_eq_true rfl, Nat.le_of_ble_eq_true rfl⟩) (c_preV hM_x3 rfl hP hK hA hS hV) rfl rfl hl.1 rfl (lv_room (Nat.le_of_ble_eq_true rfl)) dX9_joined_27 ⟨Nat.le_of_ble_eq_true rfl, Nat.le_of_ble_eq_true rfl⟩) hS (fun r27 u H locs q27 hP9 hD9 hT9 hS => ?_)
      obtain ⟨rfl, q27⟩ := q27
      have hP : va_P D vwCl w3 H := hP9
      refine lv_if_eq (tgt := 37) hx hb dX9_joined_30 (by decide) (fun c30 => ?_) (fun c30 => ?_)
      · skip
        have b30 := bo_f q27 c30
        refine lv_iconst (v := 0) hx hb dX9_joined_37 (by decide) ?_
        refine W.widen (k := 4) (n := 502) (Nat.le_of_ble_eq_true rfl) (Nat.le_of_ble_eq_true rfl) ?_
        exact W.iret (v := (0 : Int32)) hx hb hr (fun t ht hW => ⟨⟨_, (G3, w3), rfl, ⟨hX, (Or.inl ⟨⟨vb3, b19⟩, Or.inr ⟨b30, rfl⟩⟩)⟩, by show va_P D vwCl w3 t.heap; rw [ht]; exact hP, hD, hT⟩, hS.F ht⟩) hS.2.2 dX9_joined_38
      · skip
        have b30 := bo_t q27 c30
        refine lv_iconst (v := 1) hx hb dX9_joined_33 (by decide) ?_
        refine lv_goto (tgt := 38) hx hb dX9_joined_34 (by decide) ?_
        refine W.widen (k := 4) (n := 502) (Nat.le_of_ble_eq_true rfl) (Nat.le_of_ble_eq_true rfl) ?_
        exact W.iret (v := (1 : Int32)) hx hb hr (fun t ht hW => ⟨⟨_, (G3, w3), rfl, ⟨hX, (Or.inl ⟨⟨vb3, b19⟩, Or.inl ⟨b30, rfl⟩⟩)⟩, by show va_P D vwCl w3 t.heap; rw [ht]; exact hP, hD, hT⟩, hS.F ht⟩) hS.2.2 dX9_joined_38
    · skip
      have b19 := bo_f q16 c19
      refine lv_iconst (v := (-1)) hx hb dX9_joined_22 (by decide) ?_
      refine W.widen (k := 4) (n := 502) (Nat.le_of_ble_eq_true rfl) (Nat.le_of_ble_eq_true rfl) ?_
      exact W.iret (v := ((-1) : Int32)) hx hb hr (fun t ht hW => ⟨⟨_, (G3, w3), rfl, ⟨hX, (Or.inr ⟨(fun z9 => by first | exact vn3 z9.1 | exact b19 z9.2), rfl⟩)⟩, by show va_P D vwCl w3 t.heap; rw [ht]; exact hP, hD, hT⟩, hS.F ht⟩) hS.2.2 dX9_joined_23

set_option maxHeartbeats 4000000 in
set_option maxRecDepth 100000 in
theorem c_X10_isJoined_x (l : Launch) (D : va_G) (cy : Nat → ClassId) (mo : Nat) (a : Nat → Nat) (f : Nat → Int32) (g : Nat → Int64) (r : Nat → Nat → Int32) (q : Nat → Nat → Int64) (w : Int32) (h : Int32) (p0 : Int64) (hD : DM cy mo a) (hw : 1 ≤ w.toInt ∧ w.toInt ≤ 6) (hh : 1 ≤ h.toInt ∧ h.toInt ≤ 6) : Mi l D cy mo a yX10_isJoined wsX10_isJoined ({ frames := 1, cells := 0, slots := 0, locals := 22 }) f g r q [.int w, .int h, .long p0] (fun r0 u => ∃ (mt : Nat → Int32), u = (f, g, (va_up r 9 mt), q) ∧ (Bo r0 (jOK w.toNatClampNeg h.toNatClampNeg p0))) := by
  refine Met.ofW (cc := cX10_isJoined) (maxL := 9) (ret := (some .boolean)) (by decide) rfl ?_
  intro p e s m args below meth c s₁ B hml hv
  obtain ⟨rfl, hP, hK⟩ := hv
  have hx := B.exec
  have hb := B.bytes
  have hr := B.returns
  have hts := atoms_spec (ws := wsX10_isJoined) B.pre
  have hin : ∀ w ∈ u_ws RX10 TX10 35, w ∈ wsX10_isJoined := by decide +kernel
  have hown : s.vm.findClass RX10 = some m.cls := findClass_of_methodNamed B.named
  have hlocks := B.notSynchronized
  have hS : va_S (AM mo a) s.heap s.heap [] := va_S.rf
  have hl := lv_entry ([.ref mo, .int w, .int h, .long p0]) (n := 9) (Nat.le_of_ble_eq_true rfl)
  rw [lg_entry_eq]
  generalize (lg_sl ([.ref mo, .int w, .int h, .long p0]) ++ List.replicate (9 - (lg_sl ([.ref mo, .int w, .int h, .long p0])).length) Slot.unset).toArray = ls at hl ⊢
  have hl : lv_has ls 9 [(0, .ref mo), (1, .int w), (2, .int h), (3, .long p0)] := hl
  have k_m1 : (-1 : Int32).toInt = -1 := by decide
  have k_0 : (0 : Int32).toInt = 0 := by decide
  have k_1 : (1 : Int32).toInt = 1 := by decide
  have hwh := mul66 hw hh
  obtain ⟨ha, hb9, h36, hwn⟩ := wh36 hw hh
  have ew := cl_nI (w := w) (by omega)
  have eh := cl_nI (w := h) (by omega)
  obtain ⟨A9, hA9⟩ : ∃ z, z = w.toNatClampNeg := ⟨_, rfl⟩
  obtain ⟨B9, hB9⟩ : ∃ z, z = h.toNatClampNeg := ⟨_, rfl⟩
  rw [← hA9] at ha h36 hwn ew
  rw [← hB9] at hb9 h36 hwn eh
  have aw : w.toInt = (A9 : Int) := by rw [← ew]; exact nI_toInt (by omega)
  refine lv_iconst (v := (-1)) hx hb dX10_isJoined_0 (by decide) ?_
  refine lv_istore (lv' := [(5, .int ((-1) : Int32)), (0, .ref mo), (1, .int w), (2, .int h), (3, .long p0)]) hx hb dX10_isJoined_1 hl (by decide) rfl (fun ls hl => ?_)
  refine lv_iload_n hx hb dX10_isJoined_3 rfl (lv_at hl 2 rfl) ?_
  refine lv_iload_n hx hb dX10_isJoined_4 rfl (lv_at hl 3 rfl) ?_
  refine lv_imul hx hb dX10_isJoined_5 ?_
  refine lv_topi (fun v5 e5 => ?_)
  have i5 : v5.toInt = w.toInt * h.toInt := by rw [e5]; exact fb_mulI (by omega) (by omega)
  refine lv_iconst (v := 1) hx hb dX10_isJoined_6 (by decide) ?_
  refine lv_isub hx hb dX10_isJoined_7 ?_
  refine lv_topi (fun v7 e7 => ?_)
  have i7 : v7.toInt = v5.toInt - (1 : Int32).toInt := by rw [e7]; exact fb_subI (by omega) (by omega)
  refine lv_istore (lv' := [(6, .int v7), (5, .int ((-1) : Int32)), (0, .ref mo), (1, .int w), (2, .int h), (3, .long p0)]) hx hb dX10_isJoined_8 hl (by decide) rfl (fun ls hl => ?_)
  have loop_10 : ∀ (n : Nat) (x6 : Int32) (x5 : Int32) (mt0 : Nat → Int32), (-1 ≤ x6.toInt ∧ x6.toInt < w.toInt * h.toInt) → (-1 ≤ x5.toInt ∧ x5.toInt < w.toInt * h.toInt) → (∀ e : Nat, e < A9 * B9 → x6.toInt < (e : Int) → mt0 e = 0) → ((x5.toInt = -1 ∧ ∀ s : Nat, s < A9 * B9 → x6.toInt < (s : Int) → lb p0 s = false) ∨ (x6.toInt < x5.toInt ∧ lb p0 x5.toNatClampNeg = true ∧ ∀ s : Nat, x6.toInt < (s : Int) → s < x5.toNatClampNeg → lb p0 s = false)) → (x6.toInt + 1).toNat < n → ∀ (H : Heap) (locs : List Loc), va_P D vwCl (WM cy mo a f g (va_up r 9 mt0) q) H → va_S (AM mo a) s.heap H locs → ∀ (ls : Array Slot), lv_has ls 9 [(6, .int x6), (5, .int x5), (0, .ref mo), (1, .int w), (2, .int h), (3, .long p0)] → W p l e (headSpec wsX10_isJoined ({ frames := 1, cells := 0, slots := 0, locals := 22 })).room s m #[Value.ref mo, Value.int w, Value.int h, Value.long p0] below meth c H locs 0 0 (MQ below (va_Qi (fun r0 u => ∃ (mt : Nat → Int32), u = (f, g, (va_up r 9 mt), q) ∧ (Bo r0 (jOK w.toNatClampNeg h.toNatClampNeg p0))) (mB D cy mo a) (AM mo a)) #[Value.ref mo, Value.int w, Value.int h, Value.long p0] s 0 0 (AM mo a)) (F0 m 10 ls []) := by
    intro n
    induction n with
    | zero => intro x6 x5 mt0 j10_0 j10_1 j10_2 j10_3 hn; exact absurd hn (Nat.not_lt_zero _)
    | succ n ih_10 =>
      intro x6 x5 mt0 j10_0 j10_1 j10_2 j10_3 hn_10 H locs hP hS ls hl
      refine lv_iload hx hb dX10_isJoined_10 (lv_at hl 0 rfl) ?_
      refine lv_if_lt (tgt := 48) hx hb dX10_isJoined_12 (by decide) (fun c12 => ?_) (fun c12 => ?_)
      · skip
        have d12 := c12
        rw [fa_lt] at d12
        have hz : ∀ e, e < A9 * B9 → mt0 e = 0 := fun e he => j10_2 e he (by omega)
        refine lv_iload hx hb dX10_isJoined_48 (lv_at hl 1 rfl) ?_
        refine lv_if_ge (tgt := 55) hx hb dX10_isJoined_50 (by decide) (fun c50 => ?_) (fun c50 => ?_)
        · skip
          have d50 := c50
          rw [fa_le] at d50
          refine lv_aload_n hx hb dX10_isJoined_55 rfl (lv_at hl 2 rfl) ?_
          refine m_get (v := .ref (a 9)) hx hb hts hin hown hK hP 9 (by decide) rfl (hts (.fieldLink RX10 32 "ShadowBenchModel" "met" "[Z") (by decide +kernel)) rfl dX10_isJoined_56 ?_
          refine lv_iload hx hb dX10_isJoined_59 (lv_at hl 1 rfl) ?_
          refine lv_iconst (v := 1) hx hb dX10_isJoined_61 (by decide) ?_
          refine m_zast (w := mt0) hx hb hK hP hD hS 8 rfl (vp_in_iff.mpr ⟨by omega, by omega⟩) (va_up r 9 ((upd mt0 x5.toNatClampNeg ((1 : Int32) &&& 1)))) rfl dX10_isJoined_62 (fun H locs hP hS => ?_)
          have cx5 := m_cl (x := x5) (by omega)
          have hfirst : jR A9 B9 p0 0 x5.toNatClampNeg := by
            rcases j10_3 with ⟨z1, z2⟩ | ⟨z1, z2, z3⟩
            · exfalso; omega
            · exact ⟨z2, fun j hj => z3 j (by omega) hj⟩
          refine lv_iconst (v := 1) hx hb dX10_isJoined_63 (by decide) ?_
          refine lv_istore (lv' := [(6, .int (1 : Int32)), (5, .int x5), (0, .ref mo), (1, .int w), (2, .int h), (3, .long p0)]) hx hb dX10_isJoined_64 hl (by decide) rfl (fun ls hl => ?_)
          have loop_66 : ∀ (n : Nat) (xm : Int32) (mt : Nat → Int32), (xm = 0 ∨ xm = 1) → (∀ e, e < A9 * B9 → ¬ mt e = 0 → ∃ k, jR A9 B9 p0 k e) → (¬ mt x5.toNatClampNeg = 0) → (xm = 0 → (∀ s, s < A9 * B9 → lb p0 s = true → (∃ t, t < A9 * B9 ∧ ¬ mt t = 0 ∧ nbr A9 t s) → ¬ mt s = 0)) → mz xm mt < n → ∀ (H : Heap) (locs : List Loc), va_P D vwCl (WM cy mo a f g (va_up r 9 mt) q) H → va_S (AM mo a) s.heap H locs → ∀ (ls : Array Slot), lv_has ls 9 [(6, .int xm), (5, .int x5), (0, .ref mo), (1, .int w), (2, .int h), (3, .long p0)] → W p l e (headSpec wsX10_isJoined ({ frames := 1, cells := 0, slots := 0, locals := 22 })).room s m #[Value.ref mo, Value.int w, Value.int h, Value.long p0] below meth c H locs 0 0 (MQ below (va_Qi (fun r0 u => ∃ (mt : Nat → Int32), u = (f, g, (va_up r 9 mt), q) ∧ (Bo r0 (jOK w.toNatClampNeg h.toNatClampNeg p0))) (mB D cy mo a) (AM mo a)) #[Value.ref mo, Value.int w, Value.int h, Value.long p0] s 0 0 (AM mo a)) (F0 m 66 ls []) := by
            intro n
            induction n with
            | zero => intro xm mt j66_0 j66_1 j66_2 j66_3 hn; exact absurd hn (Nat.not_lt_zero _)
            | succ n ih_66 =>
              intro xm mt j66_0 j66_1 j66_2 j66_3 hn_66 H locs hP hS ls hl
              refine lv_iload hx hb dX10_isJoined_66 (lv_at hl 0 rfl) ?_
              refine lv_if_eq (tgt := 218) hx hb dX10_isJoined_68 (by decide) (fun c68 => ?_) (fun c68 => ?_)
              · skip
                have d68 := c68
                rw [fa_eq] at d68
                refine lv_iconst (v := 1) hx hb dX10_isJoined_218 (by decide) ?_
                refine lv_istore (lv' := [(7, .int (1 : Int32)), (6, .int xm), (5, .int x5), (0, .ref mo), (1, .int w), (2, .int h), (3, .long p0)]) hx hb dX10_isJoined_219 hl (by decide) rfl (fun ls hl => ?_)
                refine lv_iconst (v := 0) hx hb dX10_isJoined_221 (by decide) ?_
                refine lv_istore (lv' := [(8, .int (0 : Int32)), (7, .int (1 : Int32)), (6, .int xm), (5, .int x5), (0, .ref mo), (1, .int w), (2, .int h), (3, .long p0)]) hx hb dX10_isJoined_222 hl (by decide) rfl (fun ls hl => ?_)
                have loop_224 : ∀ (n : Nat) (i : Nat) (xa : Int32), (i ≤ A9 * B9) → ((xa = 1 ∧ ∀ s, s < i → lb p0 s = true → ¬ mt s = 0) ∨ (xa = 0 ∧ ¬ ∀ s, s < i → lb p0 s = true → ¬ mt s = 0)) → 36 - i < n → ∀ (H : Heap) (locs : List Loc), va_P D vwCl (WM cy mo a f g (va_up r 9 mt) q) H → va_S (AM mo a) s.heap H locs → ∀ (ls : Array Slot), lv_has ls 9 [(8, .int (nI i)), (7, .int xa), (6, .int xm), (5, .int x5), (0, .ref mo), (1, .int w), (2, .int h), (3, .long p0)] → W p l e (headSpec wsX10_isJoined ({ frames := 1, cells := 0, slots := 0, locals := 22 })).room s m #[Value.ref mo, Value.int w, Value.int h, Value.long p0] below meth c H locs 0 0 (MQ below (va_Qi (fun r0 u => ∃ (mt : Nat → Int32), u = (f, g, (va_up r 9 mt), q) ∧ (Bo r0 (jOK w.toNatClampNeg h.toNatClampNeg p0))) (mB D cy mo a) (AM mo a)) #[Value.ref mo, Value.int w, Value.int h, Value.long p0] s 0 0 (AM mo a)) (F0 m 224 ls []) := by
                  intro n
                  induction n with
                  | zero => intro i xa  j224_0 j224_1 hn; exact absurd hn (Nat.not_lt_zero _)
                  | succ n ih_224 =>
                    intro i xa  j224_0 j224_1 hn_224 H locs hP hS ls hl
                    have ii : (nI i).toInt = (i : Int) := nI_toInt (by omega)
                    refine lv_iload hx hb dX10_isJoined_224 (lv_at hl 0 rfl) ?_
                    refine lv_iload_n hx hb dX10_isJoined_226 rfl (lv_at hl 5 rfl) ?_
                    refine lv_iload_n hx hb dX10_isJoined_227 rfl (lv_at hl 6 rfl) ?_
                    refine lv_imul hx hb dX10_isJoined_228 ?_
                    refine lv_topi (fun v228 e228 => ?_)
                    have i228 : v228.toInt = w.toInt * h.toInt := by rw [e228]; exact fb_mulI (by omega) (by omega)
                    refine lv_icmp_ge (tgt := 269) hx hb dX10_isJoined_229 (by decide) (fun c229 => ?_) (fun c229 => ?_)
                    · skip
                      have d229 := c229
                      rw [fa_le] at d229
                      refine lv_iload hx hb dX10_isJoined_269 (lv_at hl 1 rfl) ?_
                      exact W.zret (v := xa) hx hb hr (by first | decide | (rcases j224_1 with ⟨z, _⟩ | ⟨z, _⟩ <;> rw [z] <;> rfl)) (fun t ht hW => ⟨⟨_, (f, g, (va_up r 9 mt), q), rfl, ⟨mt, rfl, (by rw [← hA9, ← hB9]; rcases j224_1 with ⟨z, y⟩ | ⟨z, y⟩; exact Or.inl ⟨z, fun s hs hp => j66_1 s hs (y s (by omega) hp)⟩; exact Or.inr ⟨z, fun hok => y (fun s hs hp => by obtain ⟨k, hk⟩ := hok s (by omega) hp; exact j_closed (M := fun e => ¬ mt e = 0) hfirst j66_2 (j66_3 c68) k s hk)⟩)⟩, by unfold mB; rw [ht]; exact hP⟩, hS.F ht⟩) hS.2.2 dX10_isJoined_271
                    · skip
                      have d229 := c229
                      rw [fa_le] at d229
                      refine lv_iload hx hb dX10_isJoined_232 (lv_at hl 1 rfl) ?_
                      refine lv_if_eq (tgt := 260) hx hb dX10_isJoined_234 (by decide) (fun c234 => ?_) (fun c234 => ?_)
                      · skip
                        have d234 := c234
                        rw [fa_eq] at d234
                        refine lv_iconst (v := 0) hx hb dX10_isJoined_260 (by decide) ?_
                        refine lv_istore (lv' := [(7, .int (0 : Int32)), (8, .int (nI i)), (6, .int xm), (5, .int x5), (0, .ref mo), (1, .int w), (2, .int h), (3, .long p0)]) hx hb dX10_isJoined_261 hl (by decide) rfl (fun ls hl => ?_)
                        refine lv_iinc (v := (nI (i + 1))) (lv' := [(8, .int (nI (i + 1))), (7, .int (0 : Int32)), (6, .int xm), (5, .int x5), (0, .ref mo), (1, .int w), (2, .int h), (3, .long p0)]) hx hb dX10_isJoined_263 hl (k := 1) rfl (nI_1 _) (by decide) rfl (fun ls hl => ?_)
                        refine lv_goto (tgt := 224) hx hb dX10_isJoined_266 (by decide) ?_
                        exact ih_224 (i + 1) (0 : Int32) (by omega) (by
                                                                                          first
                                                                                          | exact Or.inl ⟨rfl, fun s h1 h2 => by
                                                                                              by_cases e9 : s = i
                                                                                              · rw [e9] at h2 ⊢
                                                                                                first
                                                                                                | (rw [h2] at f240; exact absurd (c243.symm.trans f240) (by decide))
                                                                                                | exact fun z8 => c253 (e252.trans ((congrArg mt cli).trans z8))
                                                                                              · rcases j224_1 with ⟨_, y⟩ | ⟨z, _⟩
                                                                                                · exact y s (by omega) h2
                                                                                                · exact absurd z c234⟩
                                                                                          | exact Or.inr ⟨rfl, fun u => u i (by omega) (by cases hb : lb p0 i; (rw [hb] at f240; exact absurd f240 c243); rfl) ((congrArg mt cli).symm.trans (e252.symm.trans c253))⟩
                                                                                          | exact Or.inr ⟨rfl, fun u => by rcases j224_1 with ⟨z, _⟩ | ⟨_, y⟩; exact absurd (z.symm.trans c234) (by decide); exact y (fun s h1 h2 => u s (by omega) h2)⟩) (by omega) _ _ hP hS ls (lv_sub hl [0, 1, 2, 3, 4, 5, 6, 7] rfl)
                      · skip
                        have d234 := c234
                        rw [fa_eq] at d234
                        refine lv_lload_n hx hb dX10_isJoined_237 rfl (lv_at hl 7 rfl) ?_
                        refine lv_iload hx hb dX10_isJoined_238 (lv_at hl 0 rfl) ?_
                        refine m_pu (As := [.long p0, .int (nI i)]) (rest := []) ⟨hx, hb, hml, hown, hts⟩ (c_X10_one l p0 (nI i) ) (va_cwS 2 hts gX10_isJoined_X10_one rfl rfl rfl (by decide +kernel) ⟨Nat.le_of_ble_eq_true rfl, Nat.le_of_ble_eq_true rfl⟩) hP rfl hl.1 rfl (Nat.le_of_ble_eq_true rfl) dX10_isJoined_240 ⟨Nat.le_of_ble_eq_true rfl, Nat.le_of_ble_eq_true rfl⟩ hS (fun r240 H locs q240 hP hS => ?_)
                        have i240 : r240.toInt = (r_one p0 (nI i)).toInt := congrArg Int32.toInt q240
                        have f240 : r240 = if lb p0 i then 1 else 0 := by rw [q240]; exact one_lb p0 (by omega)
                        have cli := nI_clamp (n := i) (by omega)
                        refine lv_if_eq (tgt := 256) hx hb dX10_isJoined_243 (by decide) (fun c243 => ?_) (fun c243 => ?_)
                        · skip
                          have d243 := c243
                          rw [fa_eq] at d243
                          refine lv_iconst (v := 1) hx hb dX10_isJoined_256 (by decide) ?_
                          refine lv_goto (tgt := 261) hx hb dX10_isJoined_257 (by decide) ?_
                          refine lv_istore (lv' := [(7, .int (1 : Int32)), (8, .int (nI i)), (6, .int xm), (5, .int x5), (0, .ref mo), (1, .int w), (2, .int h), (3, .long p0)]) hx hb dX10_isJoined_261 hl (by decide) rfl (fun ls hl => ?_)
                          refine lv_iinc (v := (nI (i + 1))) (lv' := [(8, .int (nI (i + 1))), (7, .int (1 : Int32)), (6, .int xm), (5, .int x5), (0, .ref mo), (1, .int w), (2, .int h), (3, .long p0)]) hx hb dX10_isJoined_263 hl (k := 1) rfl (nI_1 _) (by decide) rfl (fun ls hl => ?_)
                          refine lv_goto (tgt := 224) hx hb dX10_isJoined_266 (by decide) ?_
                          exact ih_224 (i + 1) (1 : Int32) (by omega) (by
                                                                                          first
                                                                                          | exact Or.inl ⟨rfl, fun s h1 h2 => by
                                                                                              by_cases e9 : s = i
                                                                                              · rw [e9] at h2 ⊢
                                                                                                first
                                                                                                | (rw [h2] at f240; exact absurd (c243.symm.trans f240) (by decide))
                                                                                                | exact fun z8 => c253 (e252.trans ((congrArg mt cli).trans z8))
                                                                                              · rcases j224_1 with ⟨_, y⟩ | ⟨z, _⟩
                                                                                                · exact y s (by omega) h2
                                                                                                · exact absurd z c234⟩
                                                                                          | exact Or.inr ⟨rfl, fun u => u i (by omega) (by cases hb : lb p0 i; (rw [hb] at f240; exact absurd f240 c243); rfl) ((congrArg mt cli).symm.trans (e252.symm.trans c253))⟩
                                                                                          | exact Or.inr ⟨rfl, fun u => by rcases j224_1 with ⟨z, _⟩ | ⟨_, y⟩; exact absurd (z.symm.trans c234) (by decide); exact y (fun s h1 h2 => u s (by omega) h2)⟩) (by omega) _ _ hP hS ls (lv_sub hl [0, 1, 2, 3, 4, 5, 6, 7] rfl)
                        · skip
                          have d243 := c243
                          rw [fa_eq] at d243
                          refine lv_aload_n hx hb dX10_isJoined_246 rfl (lv_at hl 4 rfl) ?_
                          refine m_get (v := .ref (a 9)) hx hb hts hin hown hK hP 9 (by decide) rfl (hts (.fieldLink RX10 32 "ShadowBenchModel" "met" "[Z") (by decide +kernel)) rfl dX10_isJoined_247 ?_
                          refine lv_iload hx hb dX10_isJoined_250 (lv_at hl 0 rfl) ?_
                          refine m_zald (w := mt) hx hb hK hP 8 rfl (vp_in_iff.mpr ⟨by omega, by omega⟩) dX10_isJoined_252 ?_
                          refine lv_topi (fun v252 e252 => ?_)
                          have i252 : v252.toInt = (mt (nI i).toNatClampNeg).toInt := congrArg Int32.toInt e252
                          refine lv_if_eq (tgt := 260) hx hb dX10_isJoined_253 (by decide) (fun c253 => ?_) (fun c253 => ?_)
                          · skip
                            have d253 := c253
                            rw [fa_eq] at d253
                            refine lv_iconst (v := 0) hx hb dX10_isJoined_260 (by decide) ?_
                            refine lv_istore (lv' := [(7, .int (0 : Int32)), (8, .int (nI i)), (6, .int xm), (5, .int x5), (0, .ref mo), (1, .int w), (2, .int h), (3, .long p0)]) hx hb dX10_isJoined_261 hl (by decide) rfl (fun ls hl => ?_)
                            refine lv_iinc (v := (nI (i + 1))) (lv' := [(8, .int (nI (i + 1))), (7, .int (0 : Int32)), (6, .int xm), (5, .int x5), (0, .ref mo), (1, .int w), (2, .int h), (3, .long p0)]) hx hb dX10_isJoined_263 hl (k := 1) rfl (nI_1 _) (by decide) rfl (fun ls hl => ?_)
                            refine lv_goto (tgt := 224) hx hb dX10_isJoined_266 (by decide) ?_
                            exact ih_224 (i + 1) (0 : Int32) (by omega) (by
                                                                                          first
                                                                                          | exact Or.inl ⟨rfl, fun s h1 h2 => by
                                                                                              by_cases e9 : s = i
                                                                                              · rw [e9] at h2 ⊢
                                                                                                first
                                                                                                | (rw [h2] at f240; exact absurd (c243.symm.trans f240) (by decide))
                                                                                                | exact fun z8 => c253 (e252.trans ((congrArg mt cli).trans z8))
                                                                                              · rcases j224_1 with ⟨_, y⟩ | ⟨z, _⟩
                                                                                                · exact y s (by omega) h2
                                                                                                · exact absurd z c234⟩
                                                                                          | exact Or.inr ⟨rfl, fun u => u i (by omega) (by cases hb : lb p0 i; (rw [hb] at f240; exact absurd f240 c243); rfl) ((congrArg mt cli).symm.trans (e252.symm.trans c253))⟩
                                                                                          | exact Or.inr ⟨rfl, fun u => by rcases j224_1 with ⟨z, _⟩ | ⟨_, y⟩; exact absurd (z.symm.trans c234) (by decide); exact y (fun s h1 h2 => u s (by omega) h2)⟩) (by omega) _ _ hP hS ls (lv_sub hl [0, 1, 2, 3, 4, 5, 6, 7] rfl)
                          · skip
                            have d253 := c253
                            rw [fa_eq] at d253
                            refine lv_iconst (v := 1) hx hb dX10_isJoined_256 (by decide) ?_
                            refine lv_goto (tgt := 261) hx hb dX10_isJoined_257 (by decide) ?_
                            refine lv_istore (lv' := [(7, .int (1 : Int32)), (8, .int (nI i)), (6, .int xm), (5, .int x5), (0, .ref mo), (1, .int w), (2, .int h), (3, .long p0)]) hx hb dX10_isJoined_261 hl (by decide) rfl (fun ls hl => ?_)
                            refine lv_iinc (v := (nI (i + 1))) (lv' := [(8, .int (nI (i + 1))), (7, .int (1 : Int32)), (6, .int xm), (5, .int x5), (0, .ref mo), (1, .int w), (2, .int h), (3, .long p0)]) hx hb dX10_isJoined_263 hl (k := 1) rfl (nI_1 _) (by decide) rfl (fun ls hl => ?_)
                            refine lv_goto (tgt := 224) hx hb dX10_isJoined_266 (by decide) ?_
                            exact ih_224 (i + 1) (1 : Int32) (by omega) (by
                                                                                          first
                                                                                          | exact Or.inl ⟨rfl, fun s h1 h2 => by
                                                                                              by_cases e9 : s = i
                                                                                              · rw [e9] at h2 ⊢
                                                                                                first
                                                                                                | (rw [h2] at f240; exact absurd (c243.symm.trans f240) (by decide))
                                                                                                | exact fun z8 => c253 (e252.trans ((congrArg mt cli).trans z8))
                                                                                              · rcases j224_1 with ⟨_, y⟩ | ⟨z, _⟩
                                                                                                · exact y s (by omega) h2
                                                                                                · exact absurd z c234⟩
                                                                                          | exact Or.inr ⟨rfl, fun u => u i (by omega) (by cases hb : lb p0 i; (rw [hb] at f240; exact absurd f240 c243); rfl) ((congrArg mt cli).symm.trans (e252.symm.trans c253))⟩
                                                                                          | exact Or.inr ⟨rfl, fun u => by rcases j224_1 with ⟨z, _⟩ | ⟨_, y⟩; exact absurd (z.symm.trans c234) (by decide); exact y (fun s h1 h2 => u s (by omega) h2)⟩) (by omega) _ _ hP hS ls (lv_sub hl [0, 1, 2, 3, 4, 5, 6, 7] rfl)
                exact loop_224 (36 + 1) 0 (1 : Int32) (by omega) (Or.inl ⟨rfl, fun s h1 => absurd h1 (Nat.not_lt_zero _)⟩) (by omega) _ _ hP hS ls (lv_sub hl [0, 1, 2, 3, 4, 5, 6, 7] rfl)
              · skip
                have d68 := c68
                rw [fa_eq] at d68
                refine lv_iconst (v := 0) hx hb dX10_isJoined_71 (by decide) ?_
                refine lv_istore (lv' := [(6, .int (0 : Int32)), (5, .int x5), (0, .ref mo), (1, .int w), (2, .int h), (3, .long p0)]) hx hb dX10_isJoined_72 hl (by decide) rfl (fun ls hl => ?_)
                refine lv_iconst (v := 0) hx hb dX10_isJoined_74 (by decide) ?_
                refine lv_istore (lv' := [(7, .int (0 : Int32)), (6, .int (0 : Int32)), (5, .int x5), (0, .ref mo), (1, .int w), (2, .int h), (3, .long p0)]) hx hb dX10_isJoined_75 hl (by decide) rfl (fun ls hl => ?_)
                have loop_77 : ∀ (n : Nat) (i : Nat) (xn : Int32) (mt1 : Nat → Int32), (i ≤ A9 * B9) → ((xn = 0 ∧ cz mt1 ≤ cz mt) ∨ (xn = 1 ∧ cz mt1 < cz mt)) → (∀ e, e < A9 * B9 → ¬ mt1 e = 0 → ∃ k, jR A9 B9 p0 k e) → (¬ mt1 x5.toNatClampNeg = 0) → (xn = 0 → (∀ s, s < i → lb p0 s = true → (∃ t, t < A9 * B9 ∧ ¬ mt1 t = 0 ∧ nbr A9 t s) → ¬ mt1 s = 0)) → 36 - i < n → ∀ (H : Heap) (locs : List Loc), va_P D vwCl (WM cy mo a f g (va_up r 9 mt1) q) H → va_S (AM mo a) s.heap H locs → ∀ (ls : Array Slot), lv_has ls 9 [(7, .int (nI i)), (6, .int xn), (5, .int x5), (0, .ref mo), (1, .int w), (2, .int h), (3, .long p0)] → W p l e (headSpec wsX10_isJoined ({ frames := 1, cells := 0, slots := 0, locals := 22 })).room s m #[Value.ref mo, Value.int w, Value.int h, Value.long p0] below meth c H locs 0 0 (MQ below (va_Qi (fun r0 u => ∃ (mt : Nat → Int32), u = (f, g, (va_up r 9 mt), q) ∧ (Bo r0 (jOK w.toNatClampNeg h.toNatClampNeg p0))) (mB D cy mo a) (AM mo a)) #[Value.ref mo, Value.int w, Value.int h, Value.long p0] s 0 0 (AM mo a)) (F0 m 77 ls []) := by
                  intro n
                  induction n with
                  | zero => intro i xn mt1 j77_0 j77_1 j77_2 j77_3 j77_4 hn; exact absurd hn (Nat.not_lt_zero _)
                  | succ n ih_77 =>
                    intro i xn mt1 j77_0 j77_1 j77_2 j77_3 j77_4 hn_77 H locs hP hS ls hl
                    have ii : (nI i).toInt = (i : Int) := nI_toInt (by omega)
                    refine lv_iload hx hb dX10_isJoined_77 (lv_at hl 0 rfl) ?_
                    refine lv_iload_n hx hb dX10_isJoined_79 rfl (lv_at hl 4 rfl) ?_
                    refine lv_iload_n hx hb dX10_isJoined_80 rfl (lv_at hl 5 rfl) ?_
                    refine lv_imul hx hb dX10_isJoined_81 ?_
                    refine lv_topi (fun v81 e81 => ?_)
                    have i81 : v81.toInt = w.toInt * h.toInt := by rw [e81]; exact fb_mulI (by omega) (by omega)
                    refine lv_icmp_ge (tgt := 215) hx hb dX10_isJoined_82 (by decide) (fun c82 => ?_) (fun c82 => ?_)
                    · skip
                      have d82 := c82
                      rw [fa_le] at d82
                      refine lv_goto (tgt := 66) hx hb dX10_isJoined_215 (by decide) ?_
                      exact ih_66 xn mt1 (by rcases j77_1 with z | z <;> simp [z.1]) (j77_2) (j77_3) (fun z9 s h1 h2 h3 => j77_4 z9 s (by omega) h2 h3) (by rcases j77_1 with ⟨z, y⟩ | ⟨z, y⟩ <;> simp [mz, z, c68] at hn_66 ⊢ <;> omega) _ _ hP hS ls (lv_sub hl [1, 2, 3, 4, 5, 6] rfl)
                    · skip
                      have d82 := c82
                      rw [fa_le] at d82
                      have hiw : i < A9 * B9 := by omega
                      have ed88 := m_edge (s := i) (show 1 ≤ A9 ∧ A9 ≤ 6 by omega)
                      refine lv_iload hx hb dX10_isJoined_85 (lv_at hl 0 rfl) ?_
                      have join_166 : ((∃ t, t < A9 * B9 ∧ ¬ mt1 t = 0 ∧ nbr A9 t i)) → ∀ (H : Heap) (locs : List Loc), va_P D vwCl (WM cy mo a f g (va_up r 9 mt1) q) H → va_S (AM mo a) s.heap H locs → ∀ (ls : Array Slot), lv_has ls 9 [(7, .int (nI i)), (6, .int xn), (5, .int x5), (0, .ref mo), (1, .int w), (2, .int h), (3, .long p0)] → W p l e (headSpec wsX10_isJoined ({ frames := 1, cells := 0, slots := 0, locals := 22 })).room s m #[Value.ref mo, Value.int w, Value.int h, Value.long p0] below meth c H locs 0 0 (MQ below (va_Qi (fun r0 u => ∃ (mt : Nat → Int32), u = (f, g, (va_up r 9 mt), q) ∧ (Bo r0 (jOK w.toNatClampNeg h.toNatClampNeg p0))) (mB D cy mo a) (AM mo a)) #[Value.ref mo, Value.int w, Value.int h, Value.long p0] s 0 0 (AM mo a)) (F0 m 166 ls []) := by
                        intro hnr H locs hP hS ls hl
                        refine lv_iconst (v := 1) hx hb dX10_isJoined_166 (by decide) ?_
                        refine lv_goto (tgt := 171) hx hb dX10_isJoined_167 (by decide) ?_
                        refine lv_istore (lv' := [(8, .int (1 : Int32)), (7, .int (nI i)), (6, .int xn), (5, .int x5), (0, .ref mo), (1, .int w), (2, .int h), (3, .long p0)]) hx hb dX10_isJoined_171 hl (by decide) rfl (fun ls hl => ?_)
                        refine lv_lload_n hx hb dX10_isJoined_173 rfl (lv_at hl 7 rfl) ?_
                        refine lv_iload hx hb dX10_isJoined_174 (lv_at hl 1 rfl) ?_
                        refine m_pu (As := [.long p0, .int (nI i)]) (rest := []) ⟨hx, hb, hml, hown, hts⟩ (c_X10_one l p0 (nI i) ) (va_cwS 2 hts gX10_isJoined_X10_one rfl rfl rfl (by decide +kernel) ⟨Nat.le_of_ble_eq_true rfl, Nat.le_of_ble_eq_true rfl⟩) hP rfl hl.1 rfl (Nat.le_of_ble_eq_true rfl) dX10_isJoined_176 ⟨Nat.le_of_ble_eq_true rfl, Nat.le_of_ble_eq_true rfl⟩ hS (fun r176 H locs q176 hP hS => ?_)
                        have i176 : r176.toInt = (r_one p0 (nI i)).toInt := congrArg Int32.toInt q176
                        have f176 : r176 = if lb p0 i then 1 else 0 := by rw [q176]; exact one_lb p0 (by omega)
                        have cli := nI_clamp (n := i) (by omega)
                        refine lv_iconst (v := 1) hx hb dX10_isJoined_179 (by decide) ?_
                        refine lv_icmp_ne (tgt := 209) hx hb dX10_isJoined_180 (by decide) (fun c180 => ?_) (fun c180 => ?_)
                        · skip
                          have d180 := c180
                          rw [fa_eq] at d180
                          refine lv_iinc (v := (nI (i + 1))) (lv' := [(7, .int (nI (i + 1))), (8, .int (1 : Int32)), (6, .int xn), (5, .int x5), (0, .ref mo), (1, .int w), (2, .int h), (3, .long p0)]) hx hb dX10_isJoined_209 hl (k := 1) rfl (nI_1 _) (by decide) rfl (fun ls hl => ?_)
                          refine lv_goto (tgt := 77) hx hb dX10_isJoined_212 (by decide) ?_
                          exact ih_77 (i + 1) xn mt1 (by omega) (by first | exact j77_1 | (have z := cz_upd (mt := mt1) (i := (nI i).toNatClampNeg) (v := (1 : Int32) &&& 1) (nI_cl (by omega)) (by rw [← e189]; exact c190) (by decide); rcases j77_1 with ⟨_, y⟩ | ⟨_, y⟩ <;> exact Or.inr ⟨rfl, by omega⟩)) (by
                                                                                          first
                                                                                          | exact j77_2
                                                                                          | exact fun e he hne => by
                                                                                              unfold upd at hne
                                                                                              split at hne
                                                                                              · rename_i z9
                                                                                                rw [z9, cli]
                                                                                                obtain ⟨t, t1, t2, t3⟩ := hnr
                                                                                                obtain ⟨k9, hk9⟩ := j77_2 t t1 t2
                                                                                                exact ⟨k9 + 1, Or.inr ⟨hiw, (by cases hb : lb p0 i; (rw [hb] at f176; exact absurd (c180.symm.trans f176) (by decide)); rfl), t, t1, hk9, t3⟩⟩
                                                                                              · exact j77_2 e he hne) (by first | exact j77_3 | (unfold upd; split; decide; exact j77_3)) (by
                                                                                          first
                                                                                          | exact fun z9 => absurd z9 (by decide)
                                                                                          | exact fun z9 s h1 h2 h3 => by
                                                                                              by_cases e9 : s = i
                                                                                              · rw [e9] at h2 h3 ⊢
                                                                                                first
                                                                                                | exact absurd h3 hnn
                                                                                                | exact fun z8 => c190 (e189.trans ((congrArg mt1 cli).trans z8))
                                                                                                | (rw [h2] at f176; exact absurd f176 c180)
                                                                                              · exact j77_4 z9 s (by omega) h2 h3) (by omega) _ _ hP hS ls (lv_sub hl [0, 2, 3, 4, 5, 6, 7] rfl)
                        · skip
                          have d180 := c180
                          rw [fa_eq] at d180
                          refine lv_aload_n hx hb dX10_isJoined_183 rfl (lv_at hl 4 rfl) ?_
                          refine m_get (v := .ref (a 9)) hx hb hts hin hown hK hP 9 (by decide) rfl (hts (.fieldLink RX10 32 "ShadowBenchModel" "met" "[Z") (by decide +kernel)) rfl dX10_isJoined_184 ?_
                          refine lv_iload hx hb dX10_isJoined_187 (lv_at hl 1 rfl) ?_
                          refine m_zald (w := mt1) hx hb hK hP 8 rfl (vp_in_iff.mpr ⟨by omega, by omega⟩) dX10_isJoined_189 ?_
                          refine lv_topi (fun v189 e189 => ?_)
                          have i189 : v189.toInt = (mt1 (nI i).toNatClampNeg).toInt := congrArg Int32.toInt e189
                          refine lv_if_ne (tgt := 209) hx hb dX10_isJoined_190 (by decide) (fun c190 => ?_) (fun c190 => ?_)
                          · skip
                            have d190 := c190
                            rw [fa_eq] at d190
                            refine lv_iinc (v := (nI (i + 1))) (lv' := [(7, .int (nI (i + 1))), (8, .int (1 : Int32)), (6, .int xn), (5, .int x5), (0, .ref mo), (1, .int w), (2, .int h), (3, .long p0)]) hx hb dX10_isJoined_209 hl (k := 1) rfl (nI_1 _) (by decide) rfl (fun ls hl => ?_)
                            refine lv_goto (tgt := 77) hx hb dX10_isJoined_212 (by decide) ?_
                            exact ih_77 (i + 1) xn mt1 (by omega) (by first | exact j77_1 | (have z := cz_upd (mt := mt1) (i := (nI i).toNatClampNeg) (v := (1 : Int32) &&& 1) (nI_cl (by omega)) (by rw [← e189]; exact c190) (by decide); rcases j77_1 with ⟨_, y⟩ | ⟨_, y⟩ <;> exact Or.inr ⟨rfl, by omega⟩)) (by
                                                                                          first
                                                                                          | exact j77_2
                                                                                          | exact fun e he hne => by
                                                                                              unfold upd at hne
                                                                                              split at hne
                                                                                              · rename_i z9
                                                                                                rw [z9, cli]
                                                                                                obtain ⟨t, t1, t2, t3⟩ := hnr
                                                                                                obtain ⟨k9, hk9⟩ := j77_2 t t1 t2
                                                                                                exact ⟨k9 + 1, Or.inr ⟨hiw, (by cases hb : lb p0 i; (rw [hb] at f176; exact absurd (c180.symm.trans f176) (by decide)); rfl), t, t1, hk9, t3⟩⟩
                                                                                              · exact j77_2 e he hne) (by first | exact j77_3 | (unfold upd; split; decide; exact j77_3)) (by
                                                                                          first
                                                                                          | exact fun z9 => absurd z9 (by decide)
                                                                                          | exact fun z9 s h1 h2 h3 => by
                                                                                              by_cases e9 : s = i
                                                                                              · rw [e9] at h2 h3 ⊢
                                                                                                first
                                                                                                | exact absurd h3 hnn
                                                                                                | exact fun z8 => c190 (e189.trans ((congrArg mt1 cli).trans z8))
                                                                                                | (rw [h2] at f176; exact absurd f176 c180)
                                                                                              · exact j77_4 z9 s (by omega) h2 h3) (by omega) _ _ hP hS ls (lv_sub hl [0, 2, 3, 4, 5, 6, 7] rfl)
                          · skip
                            have d190 := c190
                            rw [fa_eq] at d190
                            refine lv_iload hx hb dX10_isJoined_193 (lv_at hl 0 rfl) ?_
                            refine lv_if_eq (tgt := 209) hx hb dX10_isJoined_195 (by decide) (fun c195 => ?_) (fun c195 => ?_)
                            · first | exact absurd c195 (by decide) | exact absurd (by decide) c195
                            · skip
                              have d195 := c195
                              rw [fa_eq] at d195
                              refine lv_aload_n hx hb dX10_isJoined_198 rfl (lv_at hl 4 rfl) ?_
                              refine m_get (v := .ref (a 9)) hx hb hts hin hown hK hP 9 (by decide) rfl (hts (.fieldLink RX10 32 "ShadowBenchModel" "met" "[Z") (by decide +kernel)) rfl dX10_isJoined_199 ?_
                              refine lv_iload hx hb dX10_isJoined_202 (lv_at hl 1 rfl) ?_
                              refine lv_iconst (v := 1) hx hb dX10_isJoined_204 (by decide) ?_
                              refine m_zast (w := mt1) hx hb hK hP hD hS 8 rfl (vp_in_iff.mpr ⟨by omega, by omega⟩) (va_up r 9 ((upd mt1 (nI i).toNatClampNeg ((1 : Int32) &&& 1)))) rfl dX10_isJoined_205 (fun H locs hP hS => ?_)
                              refine lv_iconst (v := 1) hx hb dX10_isJoined_206 (by decide) ?_
                              refine lv_istore (lv' := [(6, .int (1 : Int32)), (8, .int (1 : Int32)), (7, .int (nI i)), (5, .int x5), (0, .ref mo), (1, .int w), (2, .int h), (3, .long p0)]) hx hb dX10_isJoined_207 hl (by decide) rfl (fun ls hl => ?_)
                              refine lv_iinc (v := (nI (i + 1))) (lv' := [(7, .int (nI (i + 1))), (6, .int (1 : Int32)), (8, .int (1 : Int32)), (5, .int x5), (0, .ref mo), (1, .int w), (2, .int h), (3, .long p0)]) hx hb dX10_isJoined_209 hl (k := 2) rfl (nI_1 _) (by decide) rfl (fun ls hl => ?_)
                              refine lv_goto (tgt := 77) hx hb dX10_isJoined_212 (by decide) ?_
                              exact ih_77 (i + 1) (1 : Int32) (((upd mt1 (nI i).toNatClampNeg ((1 : Int32) &&& 1)))) (by omega) (by first | exact j77_1 | (have z := cz_upd (mt := mt1) (i := (nI i).toNatClampNeg) (v := (1 : Int32) &&& 1) (nI_cl (by omega)) (by rw [← e189]; exact c190) (by decide); rcases j77_1 with ⟨_, y⟩ | ⟨_, y⟩ <;> exact Or.inr ⟨rfl, by omega⟩)) (by
                                                                                          first
                                                                                          | exact j77_2
                                                                                          | exact fun e he hne => by
                                                                                              unfold upd at hne
                                                                                              split at hne
                                                                                              · rename_i z9
                                                                                                rw [z9, cli]
                                                                                                obtain ⟨t, t1, t2, t3⟩ := hnr
                                                                                                obtain ⟨k9, hk9⟩ := j77_2 t t1 t2
                                                                                                exact ⟨k9 + 1, Or.inr ⟨hiw, (by cases hb : lb p0 i; (rw [hb] at f176; exact absurd (c180.symm.trans f176) (by decide)); rfl), t, t1, hk9, t3⟩⟩
                                                                                              · exact j77_2 e he hne) (by first | exact j77_3 | (unfold upd; split; decide; exact j77_3)) (by
                                                                                          first
                                                                                          | exact fun z9 => absurd z9 (by decide)
                                                                                          | exact fun z9 s h1 h2 h3 => by
                                                                                              by_cases e9 : s = i
                                                                                              · rw [e9] at h2 h3 ⊢
                                                                                                first
                                                                                                | exact absurd h3 hnn
                                                                                                | exact fun z8 => c190 (e189.trans ((congrArg mt1 cli).trans z8))
                                                                                                | (rw [h2] at f176; exact absurd f176 c180)
                                                                                              · exact j77_4 z9 s (by omega) h2 h3) (by omega) _ _ hP hS ls (lv_sub hl [0, 1, 3, 4, 5, 6, 7] rfl)
                      have join_170 : (¬ (∃ t, t < A9 * B9 ∧ ¬ mt1 t = 0 ∧ nbr A9 t i)) → ∀ (H : Heap) (locs : List Loc), va_P D vwCl (WM cy mo a f g (va_up r 9 mt1) q) H → va_S (AM mo a) s.heap H locs → ∀ (ls : Array Slot), lv_has ls 9 [(7, .int (nI i)), (6, .int xn), (5, .int x5), (0, .ref mo), (1, .int w), (2, .int h), (3, .long p0)] → W p l e (headSpec wsX10_isJoined ({ frames := 1, cells := 0, slots := 0, locals := 22 })).room s m #[Value.ref mo, Value.int w, Value.int h, Value.long p0] below meth c H locs 0 0 (MQ below (va_Qi (fun r0 u => ∃ (mt : Nat → Int32), u = (f, g, (va_up r 9 mt), q) ∧ (Bo r0 (jOK w.toNatClampNeg h.toNatClampNeg p0))) (mB D cy mo a) (AM mo a)) #[Value.ref mo, Value.int w, Value.int h, Value.long p0] s 0 0 (AM mo a)) (F0 m 170 ls []) := by
                        intro hnn H locs hP hS ls hl
                        refine lv_iconst (v := 0) hx hb dX10_isJoined_170 (by decide) ?_
                        refine lv_istore (lv' := [(8, .int (0 : Int32)), (7, .int (nI i)), (6, .int xn), (5, .int x5), (0, .ref mo), (1, .int w), (2, .int h), (3, .long p0)]) hx hb dX10_isJoined_171 hl (by decide) rfl (fun ls hl => ?_)
                        refine lv_lload_n hx hb dX10_isJoined_173 rfl (lv_at hl 7 rfl) ?_
                        refine lv_iload hx hb dX10_isJoined_174 (lv_at hl 1 rfl) ?_
                        refine m_pu (As := [.long p0, .int (nI i)]) (rest := []) ⟨hx, hb, hml, hown, hts⟩ (c_X10_one l p0 (nI i) ) (va_cwS 2 hts gX10_isJoined_X10_one rfl rfl rfl (by decide +kernel) ⟨Nat.le_of_ble_eq_true rfl, Nat.le_of_ble_eq_true rfl⟩) hP rfl hl.1 rfl (Nat.le_of_ble_eq_true rfl) dX10_isJoined_176 ⟨Nat.le_of_ble_eq_true rfl, Nat.le_of_ble_eq_true rfl⟩ hS (fun r176 H locs q176 hP hS => ?_)
                        have i176 : r176.toInt = (r_one p0 (nI i)).toInt := congrArg Int32.toInt q176
                        have f176 : r176 = if lb p0 i then 1 else 0 := by rw [q176]; exact one_lb p0 (by omega)
                        have cli := nI_clamp (n := i) (by omega)
                        refine lv_iconst (v := 1) hx hb dX10_isJoined_179 (by decide) ?_
                        refine lv_icmp_ne (tgt := 209) hx hb dX10_isJoined_180 (by decide) (fun c180 => ?_) (fun c180 => ?_)
                        · skip
                          have d180 := c180
                          rw [fa_eq] at d180
                          refine lv_iinc (v := (nI (i + 1))) (lv' := [(7, .int (nI (i + 1))), (8, .int (0 : Int32)), (6, .int xn), (5, .int x5), (0, .ref mo), (1, .int w), (2, .int h), (3, .long p0)]) hx hb dX10_isJoined_209 hl (k := 1) rfl (nI_1 _) (by decide) rfl (fun ls hl => ?_)
                          refine lv_goto (tgt := 77) hx hb dX10_isJoined_212 (by decide) ?_
                          exact ih_77 (i + 1) xn mt1 (by omega) (by first | exact j77_1 | (have z := cz_upd (mt := mt1) (i := (nI i).toNatClampNeg) (v := (1 : Int32) &&& 1) (nI_cl (by omega)) (by rw [← e189]; exact c190) (by decide); rcases j77_1 with ⟨_, y⟩ | ⟨_, y⟩ <;> exact Or.inr ⟨rfl, by omega⟩)) (by
                                                                                          first
                                                                                          | exact j77_2
                                                                                          | exact fun e he hne => by
                                                                                              unfold upd at hne
                                                                                              split at hne
                                                                                              · rename_i z9
                                                                                                rw [z9, cli]
                                                                                                obtain ⟨t, t1, t2, t3⟩ := hnr
                                                                                                obtain ⟨k9, hk9⟩ := j77_2 t t1 t2
                                                                                                exact ⟨k9 + 1, Or.inr ⟨hiw, (by cases hb : lb p0 i; (rw [hb] at f176; exact absurd (c180.symm.trans f176) (by decide)); rfl), t, t1, hk9, t3⟩⟩
                                                                                              · exact j77_2 e he hne) (by first | exact j77_3 | (unfold upd; split; decide; exact j77_3)) (by
                                                                                          first
                                                                                          | exact fun z9 => absurd z9 (by decide)
                                                                                          | exact fun z9 s h1 h2 h3 => by
                                                                                              by_cases e9 : s = i
                                                                                              · rw [e9] at h2 h3 ⊢
                                                                                                first
                                                                                                | exact absurd h3 hnn
                                                                                                | exact fun z8 => c190 (e189.trans ((congrArg mt1 cli).trans z8))
                                                                                                | (rw [h2] at f176; exact absurd f176 c180)
                                                                                              · exact j77_4 z9 s (by omega) h2 h3) (by omega) _ _ hP hS ls (lv_sub hl [0, 2, 3, 4, 5, 6, 7] rfl)
                        · skip
                          have d180 := c180
                          rw [fa_eq] at d180
                          refine lv_aload_n hx hb dX10_isJoined_183 rfl (lv_at hl 4 rfl) ?_
                          refine m_get (v := .ref (a 9)) hx hb hts hin hown hK hP 9 (by decide) rfl (hts (.fieldLink RX10 32 "ShadowBenchModel" "met" "[Z") (by decide +kernel)) rfl dX10_isJoined_184 ?_
                          refine lv_iload hx hb dX10_isJoined_187 (lv_at hl 1 rfl) ?_
                          refine m_zald (w := mt1) hx hb hK hP 8 rfl (vp_in_iff.mpr ⟨by omega, by omega⟩) dX10_isJoined_189 ?_
                          refine lv_topi (fun v189 e189 => ?_)
                          have i189 : v189.toInt = (mt1 (nI i).toNatClampNeg).toInt := congrArg Int32.toInt e189
                          refine lv_if_ne (tgt := 209) hx hb dX10_isJoined_190 (by decide) (fun c190 => ?_) (fun c190 => ?_)
                          · skip
                            have d190 := c190
                            rw [fa_eq] at d190
                            refine lv_iinc (v := (nI (i + 1))) (lv' := [(7, .int (nI (i + 1))), (8, .int (0 : Int32)), (6, .int xn), (5, .int x5), (0, .ref mo), (1, .int w), (2, .int h), (3, .long p0)]) hx hb dX10_isJoined_209 hl (k := 1) rfl (nI_1 _) (by decide) rfl (fun ls hl => ?_)
                            refine lv_goto (tgt := 77) hx hb dX10_isJoined_212 (by decide) ?_
                            exact ih_77 (i + 1) xn mt1 (by omega) (by first | exact j77_1 | (have z := cz_upd (mt := mt1) (i := (nI i).toNatClampNeg) (v := (1 : Int32) &&& 1) (nI_cl (by omega)) (by rw [← e189]; exact c190) (by decide); rcases j77_1 with ⟨_, y⟩ | ⟨_, y⟩ <;> exact Or.inr ⟨rfl, by omega⟩)) (by
                                                                                          first
                                                                                          | exact j77_2
                                                                                          | exact fun e he hne => by
                                                                                              unfold upd at hne
                                                                                              split at hne
                                                                                              · rename_i z9
                                                                                                rw [z9, cli]
                                                                                                obtain ⟨t, t1, t2, t3⟩ := hnr
                                                                                                obtain ⟨k9, hk9⟩ := j77_2 t t1 t2
                                                                                                exact ⟨k9 + 1, Or.inr ⟨hiw, (by cases hb : lb p0 i; (rw [hb] at f176; exact absurd (c180.symm.trans f176) (by decide)); rfl), t, t1, hk9, t3⟩⟩
                                                                                              · exact j77_2 e he hne) (by first | exact j77_3 | (unfold upd; split; decide; exact j77_3)) (by
                                                                                          first
                                                                                          | exact fun z9 => absurd z9 (by decide)
                                                                                          | exact fun z9 s h1 h2 h3 => by
                                                                                              by_cases e9 : s = i
                                                                                              · rw [e9] at h2 h3 ⊢
                                                                                                first
                                                                                                | exact absurd h3 hnn
                                                                                                | exact fun z8 => c190 (e189.trans ((congrArg mt1 cli).trans z8))
                                                                                                | (rw [h2] at f176; exact absurd f176 c180)
                                                                                              · exact j77_4 z9 s (by omega) h2 h3) (by omega) _ _ hP hS ls (lv_sub hl [0, 2, 3, 4, 5, 6, 7] rfl)
                          · skip
                            have d190 := c190
                            rw [fa_eq] at d190
                            refine lv_iload hx hb dX10_isJoined_193 (lv_at hl 0 rfl) ?_
                            refine lv_if_eq (tgt := 209) hx hb dX10_isJoined_195 (by decide) (fun c195 => ?_) (fun c195 => ?_)
                            · skip
                              have d195 := c195
                              rw [fa_eq] at d195
                              refine lv_iinc (v := (nI (i + 1))) (lv' := [(7, .int (nI (i + 1))), (8, .int (0 : Int32)), (6, .int xn), (5, .int x5), (0, .ref mo), (1, .int w), (2, .int h), (3, .long p0)]) hx hb dX10_isJoined_209 hl (k := 1) rfl (nI_1 _) (by decide) rfl (fun ls hl => ?_)
                              refine lv_goto (tgt := 77) hx hb dX10_isJoined_212 (by decide) ?_
                              exact ih_77 (i + 1) xn mt1 (by omega) (by first | exact j77_1 | (have z := cz_upd (mt := mt1) (i := (nI i).toNatClampNeg) (v := (1 : Int32) &&& 1) (nI_cl (by omega)) (by rw [← e189]; exact c190) (by decide); rcases j77_1 with ⟨_, y⟩ | ⟨_, y⟩ <;> exact Or.inr ⟨rfl, by omega⟩)) (by
                                                                                          first
                                                                                          | exact j77_2
                                                                                          | exact fun e he hne => by
                                                                                              unfold upd at hne
                                                                                              split at hne
                                                                                              · rename_i z9
                                                                                                rw [z9, cli]
                                                                                                obtain ⟨t, t1, t2, t3⟩ := hnr
                                                                                                obtain ⟨k9, hk9⟩ := j77_2 t t1 t2
                                                                                                exact ⟨k9 + 1, Or.inr ⟨hiw, (by cases hb : lb p0 i; (rw [hb] at f176; exact absurd (c180.symm.trans f176) (by decide)); rfl), t, t1, hk9, t3⟩⟩
                                                                                              · exact j77_2 e he hne) (by first | exact j77_3 | (unfold upd; split; decide; exact j77_3)) (by
                                                                                          first
                                                                                          | exact fun z9 => absurd z9 (by decide)
                                                                                          | exact fun z9 s h1 h2 h3 => by
                                                                                              by_cases e9 : s = i
                                                                                              · rw [e9] at h2 h3 ⊢
                                                                                                first
                                                                                                | exact absurd h3 hnn
                                                                                                | exact fun z8 => c190 (e189.trans ((congrArg mt1 cli).trans z8))
                                                                                                | (rw [h2] at f176; exact absurd f176 c180)
                                                                                              · exact j77_4 z9 s (by omega) h2 h3) (by omega) _ _ hP hS ls (lv_sub hl [0, 2, 3, 4, 5, 6, 7] rfl)
                            · first | exact absurd c195 (by decide) | exact absurd (by decide) c195
                      have join_144 : (¬ (0 < i % A9 ∧ ¬ mt1 (i - 1) = 0)) → (¬ (i % A9 + 1 < A9 ∧ ¬ mt1 (i + 1) = 0)) → (¬ (A9 ≤ i ∧ ¬ mt1 (i - A9) = 0)) → ∀ (H : Heap) (locs : List Loc), va_P D vwCl (WM cy mo a f g (va_up r 9 mt1) q) H → va_S (AM mo a) s.heap H locs → ∀ (ls : Array Slot), lv_has ls 9 [(7, .int (nI i)), (6, .int xn), (5, .int x5), (0, .ref mo), (1, .int w), (2, .int h), (3, .long p0)] → W p l e (headSpec wsX10_isJoined ({ frames := 1, cells := 0, slots := 0, locals := 22 })).room s m #[Value.ref mo, Value.int w, Value.int h, Value.long p0] below meth c H locs 0 0 (MQ below (va_Qi (fun r0 u => ∃ (mt : Nat → Int32), u = (f, g, (va_up r 9 mt), q) ∧ (Bo r0 (jOK w.toNatClampNeg h.toNatClampNeg p0))) (mB D cy mo a) (AM mo a)) #[Value.ref mo, Value.int w, Value.int h, Value.long p0] s 0 0 (AM mo a)) (F0 m 144 ls []) := by
                        intro n1 n2 n3 H locs hP hS ls hl
                        refine lv_iload hx hb dX10_isJoined_144 (lv_at hl 0 rfl) ?_
                        refine lv_iload_n hx hb dX10_isJoined_146 rfl (lv_at hl 4 rfl) ?_
                        refine lv_iadd hx hb dX10_isJoined_147 ?_
                        refine lv_topi (fun v147 e147 => ?_)
                        have i147 : v147.toInt = (nI i).toInt + w.toInt := by rw [e147]; exact fb_addI (by omega) (by omega)
                        refine lv_iload_n hx hb dX10_isJoined_148 rfl (lv_at hl 4 rfl) ?_
                        refine lv_iload_n hx hb dX10_isJoined_149 rfl (lv_at hl 5 rfl) ?_
                        refine lv_imul hx hb dX10_isJoined_150 ?_
                        refine lv_topi (fun v150 e150 => ?_)
                        have i150 : v150.toInt = w.toInt * h.toInt := by rw [e150]; exact fb_mulI (by omega) (by omega)
                        refine lv_icmp_ge (tgt := 170) hx hb dX10_isJoined_151 (by decide) (fun c151 => ?_) (fun c151 => ?_)
                        · skip
                          have d151 := c151
                          rw [fa_le] at d151
                          exact join_170 (fun ⟨t, h1, h2, h3⟩ => h3.elim (fun ⟨h3, h4⟩ => n1 ⟨ed88.2.2.mpr ⟨by omega, by rw [show i - 1 = t by omega]; exact h4⟩, by rw [show i - 1 = t by omega]; exact h2⟩) (fun h3 => h3.elim (fun ⟨h3, h4⟩ => n2 ⟨h4, by rw [show i + 1 = t by omega]; exact h2⟩) (fun h3 => h3.elim (fun h3 => n3 ⟨by omega, by rw [show i - A9 = t by omega]; exact h2⟩) (fun h3 => by first | (exfalso; omega) | exact h2 ((congrArg mt1 (show t = v161.toNatClampNeg by omega)).trans (e162.symm.trans c163)))))) _ _ hP hS ls hl
                        · skip
                          have d151 := c151
                          rw [fa_le] at d151
                          refine lv_aload_n hx hb dX10_isJoined_154 rfl (lv_at hl 3 rfl) ?_
                          refine m_get (v := .ref (a 9)) hx hb hts hin hown hK hP 9 (by decide) rfl (hts (.fieldLink RX10 32 "ShadowBenchModel" "met" "[Z") (by decide +kernel)) rfl dX10_isJoined_155 ?_
                          refine lv_iload hx hb dX10_isJoined_158 (lv_at hl 0 rfl) ?_
                          refine lv_iload_n hx hb dX10_isJoined_160 rfl (lv_at hl 4 rfl) ?_
                          refine lv_iadd hx hb dX10_isJoined_161 ?_
                          refine lv_topi (fun v161 e161 => ?_)
                          have i161 : v161.toInt = (nI i).toInt + w.toInt := by rw [e161]; exact fb_addI (by omega) (by omega)
                          have c161 := m_cl (x := v161) (by omega)
                          refine m_zald (w := mt1) hx hb hK hP 8 rfl (vp_in_iff.mpr ⟨by omega, by omega⟩) dX10_isJoined_162 ?_
                          refine lv_topi (fun v162 e162 => ?_)
                          have i162 : v162.toInt = (mt1 v161.toNatClampNeg).toInt := congrArg Int32.toInt e162
                          refine lv_if_eq (tgt := 170) hx hb dX10_isJoined_163 (by decide) (fun c163 => ?_) (fun c163 => ?_)
                          · skip
                            have d163 := c163
                            rw [fa_eq] at d163
                            exact join_170 (fun ⟨t, h1, h2, h3⟩ => h3.elim (fun ⟨h3, h4⟩ => n1 ⟨ed88.2.2.mpr ⟨by omega, by rw [show i - 1 = t by omega]; exact h4⟩, by rw [show i - 1 = t by omega]; exact h2⟩) (fun h3 => h3.elim (fun ⟨h3, h4⟩ => n2 ⟨h4, by rw [show i + 1 = t by omega]; exact h2⟩) (fun h3 => h3.elim (fun h3 => n3 ⟨by omega, by rw [show i - A9 = t by omega]; exact h2⟩) (fun h3 => by first | (exfalso; omega) | exact h2 ((congrArg mt1 (show t = v161.toNatClampNeg by omega)).trans (e162.symm.trans c163)))))) _ _ hP hS ls hl
                          · skip
                            have d163 := c163
                            rw [fa_eq] at d163
                            exact join_166 (by first | exact ⟨v99.toNatClampNeg, by omega, fun z => c101 (e100.trans z), Or.inl ⟨by omega, by rw [show v99.toNatClampNeg = i - 1 by omega]; exact (ed88.2.2.mp (by omega)).2⟩⟩ | exact ⟨v121.toNatClampNeg, by omega, fun z => c123 (e122.trans z), Or.inr (Or.inl ⟨by omega, by omega⟩)⟩ | exact ⟨v139.toNatClampNeg, by omega, fun z => c141 (e140.trans z), Or.inr (Or.inr (Or.inl (by omega)))⟩ | exact ⟨v161.toNatClampNeg, by omega, fun z => c163 (e162.trans z), Or.inr (Or.inr (Or.inr (by omega)))⟩) _ _ hP hS ls hl
                      have join_126 : (¬ (0 < i % A9 ∧ ¬ mt1 (i - 1) = 0)) → (¬ (i % A9 + 1 < A9 ∧ ¬ mt1 (i + 1) = 0)) → ∀ (H : Heap) (locs : List Loc), va_P D vwCl (WM cy mo a f g (va_up r 9 mt1) q) H → va_S (AM mo a) s.heap H locs → ∀ (ls : Array Slot), lv_has ls 9 [(7, .int (nI i)), (6, .int xn), (5, .int x5), (0, .ref mo), (1, .int w), (2, .int h), (3, .long p0)] → W p l e (headSpec wsX10_isJoined ({ frames := 1, cells := 0, slots := 0, locals := 22 })).room s m #[Value.ref mo, Value.int w, Value.int h, Value.long p0] below meth c H locs 0 0 (MQ below (va_Qi (fun r0 u => ∃ (mt : Nat → Int32), u = (f, g, (va_up r 9 mt), q) ∧ (Bo r0 (jOK w.toNatClampNeg h.toNatClampNeg p0))) (mB D cy mo a) (AM mo a)) #[Value.ref mo, Value.int w, Value.int h, Value.long p0] s 0 0 (AM mo a)) (F0 m 126 ls []) := by
                        intro n1 n2 H locs hP hS ls hl
                        refine lv_iload hx hb dX10_isJoined_126 (lv_at hl 0 rfl) ?_
                        refine lv_iload_n hx hb dX10_isJoined_128 rfl (lv_at hl 4 rfl) ?_
                        refine lv_icmp_lt (tgt := 144) hx hb dX10_isJoined_129 (by decide) (fun c129 => ?_) (fun c129 => ?_)
                        · skip
                          have d129 := c129
                          rw [fa_lt] at d129
                          exact join_144 n1 n2 (fun ⟨z1, z2⟩ => by first | (exfalso; omega) | exact z2 ((congrArg mt1 (show i - A9 = v139.toNatClampNeg by omega)).trans (e140.symm.trans c141))) _ _ hP hS ls hl
                        · skip
                          have d129 := c129
                          rw [fa_lt] at d129
                          refine lv_aload_n hx hb dX10_isJoined_132 rfl (lv_at hl 3 rfl) ?_
                          refine m_get (v := .ref (a 9)) hx hb hts hin hown hK hP 9 (by decide) rfl (hts (.fieldLink RX10 32 "ShadowBenchModel" "met" "[Z") (by decide +kernel)) rfl dX10_isJoined_133 ?_
                          refine lv_iload hx hb dX10_isJoined_136 (lv_at hl 0 rfl) ?_
                          refine lv_iload_n hx hb dX10_isJoined_138 rfl (lv_at hl 4 rfl) ?_
                          refine lv_isub hx hb dX10_isJoined_139 ?_
                          refine lv_topi (fun v139 e139 => ?_)
                          have i139 : v139.toInt = (nI i).toInt - w.toInt := by rw [e139]; exact fb_subI (by omega) (by omega)
                          have c139 := m_cl (x := v139) (by omega)
                          refine m_zald (w := mt1) hx hb hK hP 8 rfl (vp_in_iff.mpr ⟨by omega, by omega⟩) dX10_isJoined_140 ?_
                          refine lv_topi (fun v140 e140 => ?_)
                          have i140 : v140.toInt = (mt1 v139.toNatClampNeg).toInt := congrArg Int32.toInt e140
                          refine lv_if_ne (tgt := 166) hx hb dX10_isJoined_141 (by decide) (fun c141 => ?_) (fun c141 => ?_)
                          · skip
                            have d141 := c141
                            rw [fa_eq] at d141
                            exact join_166 (by first | exact ⟨v99.toNatClampNeg, by omega, fun z => c101 (e100.trans z), Or.inl ⟨by omega, by rw [show v99.toNatClampNeg = i - 1 by omega]; exact (ed88.2.2.mp (by omega)).2⟩⟩ | exact ⟨v121.toNatClampNeg, by omega, fun z => c123 (e122.trans z), Or.inr (Or.inl ⟨by omega, by omega⟩)⟩ | exact ⟨v139.toNatClampNeg, by omega, fun z => c141 (e140.trans z), Or.inr (Or.inr (Or.inl (by omega)))⟩ | exact ⟨v161.toNatClampNeg, by omega, fun z => c163 (e162.trans z), Or.inr (Or.inr (Or.inr (by omega)))⟩) _ _ hP hS ls hl
                          · skip
                            have d141 := c141
                            rw [fa_eq] at d141
                            exact join_144 n1 n2 (fun ⟨z1, z2⟩ => by first | (exfalso; omega) | exact z2 ((congrArg mt1 (show i - A9 = v139.toNatClampNeg by omega)).trans (e140.symm.trans c141))) _ _ hP hS ls hl
                      have join_104 : (¬ (0 < i % A9 ∧ ¬ mt1 (i - 1) = 0)) → ∀ (H : Heap) (locs : List Loc), va_P D vwCl (WM cy mo a f g (va_up r 9 mt1) q) H → va_S (AM mo a) s.heap H locs → ∀ (ls : Array Slot), lv_has ls 9 [(7, .int (nI i)), (6, .int xn), (5, .int x5), (0, .ref mo), (1, .int w), (2, .int h), (3, .long p0)] → W p l e (headSpec wsX10_isJoined ({ frames := 1, cells := 0, slots := 0, locals := 22 })).room s m #[Value.ref mo, Value.int w, Value.int h, Value.long p0] below meth c H locs 0 0 (MQ below (va_Qi (fun r0 u => ∃ (mt : Nat → Int32), u = (f, g, (va_up r 9 mt), q) ∧ (Bo r0 (jOK w.toNatClampNeg h.toNatClampNeg p0))) (mB D cy mo a) (AM mo a)) #[Value.ref mo, Value.int w, Value.int h, Value.long p0] s 0 0 (AM mo a)) (F0 m 104 ls []) := by
                        intro n1 H locs hP hS ls hl
                        refine lv_iload hx hb dX10_isJoined_104 (lv_at hl 0 rfl) ?_
                        refine lv_iload_n hx hb dX10_isJoined_106 rfl (lv_at hl 4 rfl) ?_
                        refine lv_irem hx hb dX10_isJoined_107 (fun z => by rw [fa_eq] at z; omega) ?_
                        refine lv_topi (fun v107 e107 => ?_)
                        have i107 : v107.toInt = (nI i).toInt % w.toInt := by rw [e107]; exact my_irem (by omega) (by omega)
                        have j107 : 0 ≤ v107.toInt ∧ v107.toInt < w.toInt ∧ v107.toInt ≤ (nI i).toInt := by rw [e107]; exact my_remb (by omega) (by omega)
                        refine lv_iconst (v := 1) hx hb dX10_isJoined_108 (by decide) ?_
                        have f107 : v107 = nI (i % A9) := by rw [e107, ← ew]; exact pk_rem (by omega) (by omega) (by omega)
                        have g107 : v107.toInt = ((i % A9 : Nat) : Int) := by rw [f107]; exact nI_toInt (by have := Nat.mod_lt i (show 0 < A9 by omega); omega)
                        refine lv_iadd hx hb dX10_isJoined_109 ?_
                        refine lv_topi (fun v109 e109 => ?_)
                        have i109 : v109.toInt = v107.toInt + (1 : Int32).toInt := by rw [e109]; exact fb_addI (by omega) (by omega)
                        refine lv_iload_n hx hb dX10_isJoined_110 rfl (lv_at hl 4 rfl) ?_
                        refine lv_icmp_ge (tgt := 126) hx hb dX10_isJoined_111 (by decide) (fun c111 => ?_) (fun c111 => ?_)
                        · skip
                          have d111 := c111
                          rw [fa_le] at d111
                          exact join_126 n1 (fun ⟨z1, z2⟩ => by first | (exfalso; omega) | exact z2 ((congrArg mt1 (show i + 1 = v121.toNatClampNeg by omega)).trans (e122.symm.trans c123))) _ _ hP hS ls hl
                        · skip
                          have d111 := c111
                          rw [fa_le] at d111
                          have z114 := rem_next (s := (nI i).toInt) (w := w.toInt) (h := h.toInt) (by omega) (by omega) (by omega) (by omega)
                          refine lv_aload_n hx hb dX10_isJoined_114 rfl (lv_at hl 3 rfl) ?_
                          refine m_get (v := .ref (a 9)) hx hb hts hin hown hK hP 9 (by decide) rfl (hts (.fieldLink RX10 32 "ShadowBenchModel" "met" "[Z") (by decide +kernel)) rfl dX10_isJoined_115 ?_
                          refine lv_iload hx hb dX10_isJoined_118 (lv_at hl 0 rfl) ?_
                          refine lv_iconst (v := 1) hx hb dX10_isJoined_120 (by decide) ?_
                          refine lv_iadd hx hb dX10_isJoined_121 ?_
                          refine lv_topi (fun v121 e121 => ?_)
                          have i121 : v121.toInt = (nI i).toInt + (1 : Int32).toInt := by rw [e121]; exact fb_addI (by omega) (by omega)
                          have c121 := m_cl (x := v121) (by omega)
                          refine m_zald (w := mt1) hx hb hK hP 8 rfl (vp_in_iff.mpr ⟨by omega, by omega⟩) dX10_isJoined_122 ?_
                          refine lv_topi (fun v122 e122 => ?_)
                          have i122 : v122.toInt = (mt1 v121.toNatClampNeg).toInt := congrArg Int32.toInt e122
                          refine lv_if_ne (tgt := 166) hx hb dX10_isJoined_123 (by decide) (fun c123 => ?_) (fun c123 => ?_)
                          · skip
                            have d123 := c123
                            rw [fa_eq] at d123
                            exact join_166 (by first | exact ⟨v99.toNatClampNeg, by omega, fun z => c101 (e100.trans z), Or.inl ⟨by omega, by rw [show v99.toNatClampNeg = i - 1 by omega]; exact (ed88.2.2.mp (by omega)).2⟩⟩ | exact ⟨v121.toNatClampNeg, by omega, fun z => c123 (e122.trans z), Or.inr (Or.inl ⟨by omega, by omega⟩)⟩ | exact ⟨v139.toNatClampNeg, by omega, fun z => c141 (e140.trans z), Or.inr (Or.inr (Or.inl (by omega)))⟩ | exact ⟨v161.toNatClampNeg, by omega, fun z => c163 (e162.trans z), Or.inr (Or.inr (Or.inr (by omega)))⟩) _ _ hP hS ls hl
                          · skip
                            have d123 := c123
                            rw [fa_eq] at d123
                            exact join_126 n1 (fun ⟨z1, z2⟩ => by first | (exfalso; omega) | exact z2 ((congrArg mt1 (show i + 1 = v121.toNatClampNeg by omega)).trans (e122.symm.trans c123))) _ _ hP hS ls hl
                      refine lv_iload_n hx hb dX10_isJoined_87 rfl (lv_at hl 4 rfl) ?_
                      refine lv_irem hx hb dX10_isJoined_88 (fun z => by rw [fa_eq] at z; omega) ?_
                      refine lv_topi (fun v88 e88 => ?_)
                      have i88 : v88.toInt = (nI i).toInt % w.toInt := by rw [e88]; exact my_irem (by omega) (by omega)
                      have j88 : 0 ≤ v88.toInt ∧ v88.toInt < w.toInt ∧ v88.toInt ≤ (nI i).toInt := by rw [e88]; exact my_remb (by omega) (by omega)
                      have f88 : v88 = nI (i % A9) := by rw [e88, ← ew]; exact pk_rem (by omega) (by omega) (by omega)
                      have g88 : v88.toInt = ((i % A9 : Nat) : Int) := by rw [f88]; exact nI_toInt (by have := Nat.mod_lt i (show 0 < A9 by omega); omega)
                      refine lv_if_le (tgt := 104) hx hb dX10_isJoined_89 (by decide) (fun c89 => ?_) (fun c89 => ?_)
                      · skip
                        have d89 := c89
                        rw [fa_le] at d89
                        exact join_104 (fun ⟨z1, z2⟩ => by first | (exfalso; omega) | exact z2 ((congrArg mt1 (show i - 1 = v99.toNatClampNeg by omega)).trans (e100.symm.trans c101))) _ _ hP hS ls hl
                      · skip
                        have d89 := c89
                        rw [fa_le] at d89
                        refine lv_aload_n hx hb dX10_isJoined_92 rfl (lv_at hl 3 rfl) ?_
                        refine m_get (v := .ref (a 9)) hx hb hts hin hown hK hP 9 (by decide) rfl (hts (.fieldLink RX10 32 "ShadowBenchModel" "met" "[Z") (by decide +kernel)) rfl dX10_isJoined_93 ?_
                        refine lv_iload hx hb dX10_isJoined_96 (lv_at hl 0 rfl) ?_
                        refine lv_iconst (v := 1) hx hb dX10_isJoined_98 (by decide) ?_
                        refine lv_isub hx hb dX10_isJoined_99 ?_
                        refine lv_topi (fun v99 e99 => ?_)
                        have i99 : v99.toInt = (nI i).toInt - (1 : Int32).toInt := by rw [e99]; exact fb_subI (by omega) (by omega)
                        have c99 := m_cl (x := v99) (by omega)
                        refine m_zald (w := mt1) hx hb hK hP 8 rfl (vp_in_iff.mpr ⟨by omega, by omega⟩) dX10_isJoined_100 ?_
                        refine lv_topi (fun v100 e100 => ?_)
                        have i100 : v100.toInt = (mt1 v99.toNatClampNeg).toInt := congrArg Int32.toInt e100
                        refine lv_if_ne (tgt := 166) hx hb dX10_isJoined_101 (by decide) (fun c101 => ?_) (fun c101 => ?_)
                        · skip
                          have d101 := c101
                          rw [fa_eq] at d101
                          exact join_166 (by first | exact ⟨v99.toNatClampNeg, by omega, fun z => c101 (e100.trans z), Or.inl ⟨by omega, by rw [show v99.toNatClampNeg = i - 1 by omega]; exact (ed88.2.2.mp (by omega)).2⟩⟩ | exact ⟨v121.toNatClampNeg, by omega, fun z => c123 (e122.trans z), Or.inr (Or.inl ⟨by omega, by omega⟩)⟩ | exact ⟨v139.toNatClampNeg, by omega, fun z => c141 (e140.trans z), Or.inr (Or.inr (Or.inl (by omega)))⟩ | exact ⟨v161.toNatClampNeg, by omega, fun z => c163 (e162.trans z), Or.inr (Or.inr (Or.inr (by omega)))⟩) _ _ hP hS ls hl
                        · skip
                          have d101 := c101
                          rw [fa_eq] at d101
                          exact join_104 (fun ⟨z1, z2⟩ => by first | (exfalso; omega) | exact z2 ((congrArg mt1 (show i - 1 = v99.toNatClampNeg by omega)).trans (e100.symm.trans c101))) _ _ hP hS ls hl
                exact loop_77 (36 + 1) 0 (0 : Int32) mt (by omega) (Or.inl ⟨rfl, Nat.le_refl _⟩) (j66_1) (j66_2) (fun _ s h1 => absurd h1 (Nat.not_lt_zero _)) (by omega) _ _ hP hS ls (lv_sub hl [0, 1, 2, 3, 4, 5, 6] rfl)
          exact loop_66 (mz 1 _ + 1) (1 : Int32) (((upd mt0 x5.toNatClampNeg ((1 : Int32) &&& 1)))) (by decide) (fun e he hne => by unfold upd at hne; split at hne; (rename_i z; rw [z]; exact ⟨0, hfirst⟩); exact absurd (hz e he) hne) (by unfold upd; rw [if_pos rfl]; decide) (fun z => absurd z (by decide)) (Nat.lt_succ_self _) _ _ hP hS ls (lv_sub hl [0, 1, 2, 3, 4, 5] rfl)
        · skip
          have d50 := c50
          rw [fa_le] at d50
          refine lv_iconst (v := 1) hx hb dX10_isJoined_53 (by decide) ?_
          exact W.zret (v := (1 : Int32)) hx hb hr (by first | decide | (rcases j224_1 with ⟨z, _⟩ | ⟨z, _⟩ <;> rw [z] <;> rfl)) (fun t ht hW => ⟨⟨_, (f, g, (va_up r 9 mt0), q), rfl, ⟨mt0, rfl, Or.inl ⟨rfl, (by rcases j10_3 with ⟨z1, z2⟩ | ⟨z1, z2, z3⟩; (rw [← hA9, ← hB9]; exact j_none (fun s hs => z2 s hs (by omega))); (exfalso; omega))⟩⟩, by unfold mB; rw [ht]; exact hP⟩, hS.F ht⟩) hS.2.2 dX10_isJoined_54
      · skip
        have d12 := c12
        rw [fa_lt] at d12
        refine lv_aload_n hx hb dX10_isJoined_15 rfl (lv_at hl 2 rfl) ?_
        refine m_get (v := .ref (a 9)) hx hb hts hin hown hK hP 9 (by decide) rfl (hts (.fieldLink RX10 32 "ShadowBenchModel" "met" "[Z") (by decide +kernel)) rfl dX10_isJoined_16 ?_
        refine lv_iload hx hb dX10_isJoined_19 (lv_at hl 0 rfl) ?_
        refine lv_iconst (v := 0) hx hb dX10_isJoined_21 (by decide) ?_
        refine m_zast (w := mt0) hx hb hK hP hD hS 8 rfl (vp_in_iff.mpr ⟨by omega, by omega⟩) (va_up r 9 ((upd mt0 x6.toNatClampNeg ((0 : Int32) &&& 1)))) rfl dX10_isJoined_22 (fun H locs hP hS => ?_)
        refine lv_lload_n hx hb dX10_isJoined_23 rfl (lv_at hl 5 rfl) ?_
        refine lv_iload hx hb dX10_isJoined_24 (lv_at hl 0 rfl) ?_
        refine m_pu (As := [.long p0, .int x6]) (rest := []) ⟨hx, hb, hml, hown, hts⟩ (c_X10_one l p0 x6 ) (va_cwS 2 hts gX10_isJoined_X10_one rfl rfl rfl (by decide +kernel) ⟨Nat.le_of_ble_eq_true rfl, Nat.le_of_ble_eq_true rfl⟩) hP rfl hl.1 rfl (Nat.le_of_ble_eq_true rfl) dX10_isJoined_26 ⟨Nat.le_of_ble_eq_true rfl, Nat.le_of_ble_eq_true rfl⟩ hS (fun r26 H locs q26 hP hS => ?_)
        have i26 : r26.toInt = (r_one p0 x6).toInt := congrArg Int32.toInt q26
        have cx6 := m_cl (x := x6) (by omega)
        have f26 : r26 = if lb p0 x6.toNatClampNeg then 1 else 0 := by rw [q26, ← one_lb p0 (by omega), cl_nI (by omega)]
        refine lv_iconst (v := 1) hx hb dX10_isJoined_29 (by decide) ?_
        refine lv_icmp_ne (tgt := 38) hx hb dX10_isJoined_30 (by decide) (fun c30 => ?_) (fun c30 => ?_)
        · skip
          have d30 := c30
          rw [fa_eq] at d30
          refine lv_iload hx hb dX10_isJoined_38 (lv_at hl 1 rfl) ?_
          refine lv_istore (lv' := [(5, .int x5), (6, .int x6), (0, .ref mo), (1, .int w), (2, .int h), (3, .long p0)]) hx hb dX10_isJoined_40 hl (by decide) rfl (fun ls hl => ?_)
          first
          | have hb6 : lb p0 x6.toNatClampNeg = false := by cases hb : lb p0 x6.toNatClampNeg; rfl; (rw [hb] at f26; exact absurd f26 c30)
          | have hb6 : lb p0 x6.toNatClampNeg = true := by cases hb : lb p0 x6.toNatClampNeg; (rw [hb] at f26; exact absurd (c30.symm.trans f26) (by decide)); rfl
          obtain ⟨v42, e42⟩ : ∃ y : Int32, y = x6 + (-1) := ⟨_, rfl⟩
          have i42 : v42.toInt = x6.toInt + -1 := by rw [e42]; exact fb_addI (by omega) (by omega)
          refine lv_iinc (v := v42) (lv' := [(6, .int v42), (5, .int x5), (0, .ref mo), (1, .int w), (2, .int h), (3, .long p0)]) hx hb dX10_isJoined_42 hl (k := 1) rfl (by rw [e42]; rfl) (by decide) rfl (fun ls hl => ?_)
          refine lv_goto (tgt := 10) hx hb dX10_isJoined_45 (by decide) ?_
          exact ih_10 v42 x5 (((upd mt0 x6.toNatClampNeg ((0 : Int32) &&& 1)))) (by omega) (by omega) (fun e h1 h2 => by unfold upd; split; rfl; exact j10_2 e h1 (by omega)) (by
                                                                                          first
                                                                                          | exact Or.inr ⟨by omega, hb6, fun s h1 h2 => by omega⟩
                                                                                          | (rcases j10_3 with ⟨z1, z2⟩ | ⟨z1, z2, z3⟩
                                                                                             · exact Or.inl ⟨z1, fun s h1 h2 => by
                                                                                                 by_cases e9 : s = x6.toNatClampNeg
                                                                                                 · rw [e9]; exact hb6
                                                                                                 · exact z2 s h1 (by omega)⟩
                                                                                             · exact Or.inr ⟨by omega, z2, fun s h1 h2 => by
                                                                                                 by_cases e9 : s = x6.toNatClampNeg
                                                                                                 · rw [e9]; exact hb6
                                                                                                 · exact z3 s (by omega) h2⟩)) (by omega) _ _ hP hS ls (lv_sub hl [0, 1, 2, 3, 4, 5] rfl)
        · skip
          have d30 := c30
          rw [fa_eq] at d30
          refine lv_iload hx hb dX10_isJoined_33 (lv_at hl 0 rfl) ?_
          refine lv_goto (tgt := 40) hx hb dX10_isJoined_35 (by decide) ?_
          refine lv_istore (lv' := [(5, .int x6), (6, .int x6), (0, .ref mo), (1, .int w), (2, .int h), (3, .long p0)]) hx hb dX10_isJoined_40 hl (by decide) rfl (fun ls hl => ?_)
          first
          | have hb6 : lb p0 x6.toNatClampNeg = false := by cases hb : lb p0 x6.toNatClampNeg; rfl; (rw [hb] at f26; exact absurd f26 c30)
          | have hb6 : lb p0 x6.toNatClampNeg = true := by cases hb : lb p0 x6.toNatClampNeg; (rw [hb] at f26; exact absurd (c30.symm.trans f26) (by decide)); rfl
          obtain ⟨v42, e42⟩ : ∃ y : Int32, y = x6 + (-1) := ⟨_, rfl⟩
          have i42 : v42.toInt = x6.toInt + -1 := by rw [e42]; exact fb_addI (by omega) (by omega)
          refine lv_iinc (v := v42) (lv' := [(6, .int v42), (5, .int x6), (0, .ref mo), (1, .int w), (2, .int h), (3, .long p0)]) hx hb dX10_isJoined_42 hl (k := 1) rfl (by rw [e42]; rfl) (by decide) rfl (fun ls hl => ?_)
          refine lv_goto (tgt := 10) hx hb dX10_isJoined_45 (by decide) ?_
          exact ih_10 v42 x6 (((upd mt0 x6.toNatClampNeg ((0 : Int32) &&& 1)))) (by omega) (by omega) (fun e h1 h2 => by unfold upd; split; rfl; exact j10_2 e h1 (by omega)) (by
                                                                                          first
                                                                                          | exact Or.inr ⟨by omega, hb6, fun s h1 h2 => by omega⟩
                                                                                          | (rcases j10_3 with ⟨z1, z2⟩ | ⟨z1, z2, z3⟩
                                                                                             · exact Or.inl ⟨z1, fun s h1 h2 => by
                                                                                                 by_cases e9 : s = x6.toNatClampNeg
                                                                                                 · rw [e9]; exact hb6
                                                                                                 · exact z2 s h1 (by omega)⟩
                                                                                             · exact Or.inr ⟨by omega, z2, fun s h1 h2 => by
                                                                                                 by_cases e9 : s = x6.toNatClampNeg
                                                                                                 · rw [e9]; exact hb6
                                                                                                 · exact z3 s (by omega) h2⟩)) (by omega) _ _ hP hS ls (lv_sub hl [0, 1, 2, 3, 4, 5] rfl)
  exact loop_10 ((w.toInt * h.toInt).toNat + 1) v7 (((-1) : Int32)) (r 9) (by omega) (by omega) (fun e h1 h2 => by omega) (Or.inl ⟨rfl, fun s h1 h2 => by omega⟩) (by omega) _ _ hP hS ls (lv_sub hl [0, 1, 2, 3, 4, 5] rfl)
set_option maxHeartbeats 4000000 in
set_option maxRecDepth 100000 in
theorem c_X10_joined_x (l : Launch) (D : va_G) (cy : Nat → ClassId) (mo : Nat) (a : Nat → Nat) (f : Nat → Int32) (g : Nat → Int64) (r : Nat → Nat → Int32) (q : Nat → Nat → Int64) (w : Int32) (h : Int32) (p0 : Int64) (hD : DM cy mo a)  : Mi l D cy mo a yX10_joined wsX10_joined ({ frames := 3, cells := 0, slots := 0, locals := 69 }) f g r q [.int w, .int h, .long p0] (fun r0 u => ∃ (mt : Nat → Int32), u = ((upd f 0 (0 : Int32)), g, (va_up r 9 mt), q) ∧ (joA w h p0 r0)) := by
  refine Met.ofW (cc := cX10_joined) (maxL := 5) (ret := (some .int)) (by decide) rfl ?_
  intro p e s m args below meth c s₁ B hml hv
  obtain ⟨rfl, hP, hK⟩ := hv
  have hx := B.exec
  have hb := B.bytes
  have hr := B.returns
  have hts := atoms_spec (ws := wsX10_joined) B.pre
  have hin : ∀ w ∈ u_ws RX10 TX10 35, w ∈ wsX10_joined := by decide +kernel
  have hown : s.vm.findClass RX10 = some m.cls := findClass_of_methodNamed B.named
  have hlocks := B.notSynchronized
  have hS : va_S (AM mo a) s.heap s.heap [] := va_S.rf
  have hl := lv_entry ([.ref mo, .int w, .int h, .long p0]) (n := 5) (Nat.le_of_ble_eq_true rfl)
  rw [lg_entry_eq]
  generalize (lg_sl ([.ref mo, .int w, .int h, .long p0]) ++ List.replicate (5 - (lg_sl ([.ref mo, .int w, .int h, .long p0])).length) Slot.unset).toArray = ls at hl ⊢
  have hl : lv_has ls 5 [(0, .ref mo), (1, .int w), (2, .int h), (3, .long p0)] := hl
  have k_m1 : (-1 : Int32).toInt = -1 := by decide
  have k_0 : (0 : Int32).toInt = 0 := by decide
  have k_1 : (1 : Int32).toInt = 1 := by decide
  refine lv_aload_n hx hb dX10_joined_0 rfl (lv_at hl 0 rfl) ?_
  refine lv_iconst (v := 0) hx hb dX10_joined_1 (by decide) ?_
  refine m_put (v := .int (0 : Int32)) (ty := .int) hx hb hts hin hown hK hP hD hS 0 (by decide) rfl (hts (.fieldLink RX10 79 "ShadowBenchModel" "thrown" "I") (by decide +kernel)) rfl (by decide +kernel) rfl rfl (upd f 0 (0 : Int32)) g rfl dX10_joined_2 (fun H locs hP hS => ?_)
  refine lv_iload_n hx hb dX10_joined_5 rfl (lv_at hl 1 rfl) ?_
  refine lv_iload_n hx hb dX10_joined_6 rfl (lv_at hl 2 rfl) ?_
  refine lv_lload_n hx hb dX10_joined_7 rfl (lv_at hl 3 rfl) ?_
  refine m_pu (As := [.int w, .int h, .long p0]) (rest := []) ⟨hx, hb, hml, hown, hts⟩ (c_X10_isPicture l w h p0 ) (va_cwS 3 hts gX10_joined_X10_isPicture rfl rfl rfl (by decide +kernel) ⟨Nat.le_of_ble_eq_true rfl, Nat.le_of_ble_eq_true rfl⟩) hP rfl hl.1 rfl (Nat.le_of_ble_eq_true rfl) dX10_joined_8 ⟨Nat.le_of_ble_eq_true rfl, Nat.le_of_ble_eq_true rfl⟩ hS (fun r8 H locs q8 hP hS => ?_)
  refine lv_if_ne (tgt := 18) hx hb dX10_joined_11 (by decide) (fun c11 => ?_) (fun c11 => ?_)
  · skip
    have b11 := bo_t q8 c11
    refine lv_aload_n hx hb dX10_joined_18 rfl (lv_at hl 0 rfl) ?_
    refine lv_iload_n hx hb dX10_joined_19 rfl (lv_at hl 1 rfl) ?_
    refine lv_iload_n hx hb dX10_joined_20 rfl (lv_at hl 2 rfl) ?_
    refine lv_lload_n hx hb dX10_joined_21 rfl (lv_at hl 3 rfl) ?_
    refine m_calli (As := [.int w, .int h, .long p0]) (rest := []) ⟨hx, hb, hml, hown, hts⟩ (c_X10_isJoined_x l D cy mo a (upd f 0 (0 : Int32)) g r q w h p0 hD b11.1.1 b11.1.2) (cwV 3 hts gX10_joined_X10_isJoined rfl rfl rfl (by decide +kernel) ⟨Nat.le_of_ble_eq_true rfl, Nat.le_of_ble_eq_true rfl⟩) hK hP rfl hl.1 rfl (Nat.le_of_ble_eq_true rfl) dX10_joined_22 ⟨Nat.le_of_ble_eq_true rfl, Nat.le_of_ble_eq_true rfl⟩ hS (fun r22 u H locs q22 hP hS => ?_)
    obtain ⟨mt_22, rfl, q22⟩ := q22
    have hP : va_P D vwCl (WM cy mo a (upd f 0 (0 : Int32)) g (va_up r 9 mt_22) q) H := hP
    have q22 : Bo r22 (jOK w.toNatClampNeg h.toNatClampNeg p0) := q22
    refine lv_if_eq (tgt := 32) hx hb dX10_joined_25 (by decide) (fun c25 => ?_) (fun c25 => ?_)
    · skip
      have b25 := bo_f q22 c25
      refine lv_iconst (v := 0) hx hb dX10_joined_32 (by decide) ?_
      exact W.iret (v := (0 : Int32)) hx hb hr (fun t ht hW => ⟨⟨_, ((upd f 0 (0 : Int32)), g, (va_up r 9 mt_22), q), rfl, ⟨mt_22, rfl, (Or.inl ⟨goodP_of b11, Or.inr ⟨b25, rfl⟩⟩)⟩, by unfold mB; rw [ht]; exact hP⟩, hS.F ht⟩) hS.2.2 dX10_joined_33
    · skip
      have b25 := bo_t q22 c25
      refine lv_iconst (v := 1) hx hb dX10_joined_28 (by decide) ?_
      refine lv_goto (tgt := 33) hx hb dX10_joined_29 (by decide) ?_
      exact W.iret (v := (1 : Int32)) hx hb hr (fun t ht hW => ⟨⟨_, ((upd f 0 (0 : Int32)), g, (va_up r 9 mt_22), q), rfl, ⟨mt_22, rfl, (Or.inl ⟨goodP_of b11, Or.inl ⟨b25, rfl⟩⟩)⟩, by unfold mB; rw [ht]; exact hP⟩, hS.F ht⟩) hS.2.2 dX10_joined_33
  · skip
    have b11 := bo_f q8 c11
    refine lv_iconst (v := (-1)) hx hb dX10_joined_14 (by decide) ?_
    refine lv_goto (tgt := 33) hx hb dX10_joined_15 (by decide) ?_
    have hP := wm_eq rfl rfl (ec_r___9 r ) rfl hP
    exact W.iret (v := ((-1) : Int32)) hx hb hr (fun t ht hW => ⟨⟨_, ((upd f 0 (0 : Int32)), g, (va_up r 9 (r 9)), q), rfl, ⟨(r 9), rfl, (Or.inr ⟨goodP_no b11, rfl⟩)⟩, by unfold mB; rw [ht]; exact hP⟩, hS.F ht⟩) hS.2.2 dX10_joined_33

section CAR17
variable {p : Program} {l : Launch} {e : Env} {R : Room} {s : State} {m : MethodId} {args : Array Value} {below : List Frame} {meth : Method} {c : Code} {H : Heap} {locs : List Loc} {cells slots : Nat} {Q : State → Prop}
variable {cc : ByteArray} {pc : Nat} {ls : Array Slot} {rest : List Value} {D : va_G} {cy : Nat → ClassId} {A : Nat → Prop} {ws : va_W} {G : cG} {H0 : Heap}
/-- a row of longs whose content is told, and that has a kind -/
theorem t_lastK (hx : p.tables.exec = Jvm.exec) (hb : c.code = cc) (hK : va_K D vwCl (cTy cy) s) (hP : va_P D vwCl ws H) (hD : va_D A ws) (hS : va_S A H0 H locs) (hT : cT cy G ws) {k9 a n z : Nat} {f : Nat → Int64} (hk9 : k9 = 1 ∨ k9 = 16 ∨ k9 = 17) (hg : G a = some (k9, n, z)) (hM : cIn ws a (.inl (cy 1, n, .inr (.inl f)))) {i : Int32} {x : Int64} (hin : vp_in i n) (hdg : decode cc pc = .ok (.lastore, 1))
    (kk : ∀ (H1 : Heap) (locs1 : List Loc) (ws1 : va_W), cUp ws a (.inl (cy 1, n, .inr (.inl (vp_updL f i.toNatClampNeg x)))) ws1 → va_P D vwCl ws1 H1 → va_D A ws1 → cT cy G ws1 → va_S A H0 H1 locs1 → W p l e R s m args below meth c H1 locs1 cells slots Q (F0 m (pc + 1) ls rest)) : W p l e R s m args below meth c H locs cells slots Q (F0 m pc ls (.long x :: .int i :: .ref a :: rest)) := by
  obtain ⟨q0, hq⟩ := hM
  exact va_last hx hb hK hP hD hS q0 1 hq rfl hin hdg (fun H1 locs1 h1 h2 h3 => kk H1 locs1 _ (cUp.set hq) h1 h2 (hT.up (cUp.set hq) hg (cLo hk9)) h3)
theorem t_ialdM (hx : p.tables.exec = Jvm.exec) (hb : c.code = cc) (hK : va_K D vwCl (cTy cy) s) (hP : va_P D vwCl ws H) {a n : Nat} {f : Nat → Int32} (hM : cIn ws a (.inl (cy 0, n, .inl f))) {i : Int32} (hin : vp_in i n) (hdg : decode cc pc = .ok (.iaload, 1))
    (kk : W p l e R s m args below meth c H locs cells slots Q (F0 m (pc + 1) ls (.int (f i.toNatClampNeg) :: rest))) : W p l e R s m args below meth c H locs cells slots Q (F0 m pc ls (.int i :: .ref a :: rest)) := by
  obtain ⟨q0, hq⟩ := hM
  exact va_iald hx hb hK hP q0 0 hq rfl hin hdg kk
theorem t_iastK (hx : p.tables.exec = Jvm.exec) (hb : c.code = cc) (hK : va_K D vwCl (cTy cy) s) (hP : va_P D vwCl ws H) (hD : va_D A ws) (hS : va_S A H0 H locs) (hT : cT cy G ws) {k9 a n z : Nat} {f : Nat → Int32} (hk9 : k9 = 0 ∨ k9 = 14 ∨ k9 = 20 ∨ k9 = 21 ∨ k9 = 22 ∨ k9 = 23) (hg : G a = some (k9, n, z)) (hM : cIn ws a (.inl (cy 0, n, .inl f))) {i x : Int32} (hin : vp_in i n) (hdg : decode cc pc = .ok (.iastore, 1))
    (kk : ∀ (H1 : Heap) (locs1 : List Loc) (ws1 : va_W), cUp ws a (.inl (cy 0, n, .inl (upd f i.toNatClampNeg x))) ws1 → va_P D vwCl ws1 H1 → va_D A ws1 → cT cy G ws1 → va_S A H0 H1 locs1 → W p l e R s m args below meth c H1 locs1 cells slots Q (F0 m (pc + 1) ls rest)) : W p l e R s m args below meth c H locs cells slots Q (F0 m pc ls (.int x :: .int i :: .ref a :: rest)) := by
  obtain ⟨q0, hq⟩ := hM
  exact va_iast hx hb hK hP hD hS q0 0 hq rfl hin hdg (fun H1 locs1 h1 h2 h3 => kk H1 locs1 _ (cUp.set hq) h1 h2 (hT.up (cUp.set hq) hg (cIo hk9)) h3)
end CAR17

/-- the list's board: none while the list is empty -/
def lsB (G : cG) (lb : Option Nat) (lc : Int32) (lw lh : Nat) : Prop := (lb = none ∧ lc.toInt = 0) ∨ (0 < lc.toInt ∧ ∃ b, lb = some b ∧ G b = some (2, lw, lh))
theorem lsB.up {G G1 : cG} {lb : Option Nat} {lc : Int32} {lw lh : Nat} (h : lsB G lb lc lw lh) (hE : cE G G1) : lsB G1 lb lc lw lh := h.imp id (fun ⟨a, b, c, d⟩ => ⟨a, b, c, hE _ _ d⟩)
theorem lsB.nil {G : cG} {lb : Option Nat} {lc : Int32} {lw lh : Nat} (h : lsB G lb lc lw lh) (e : lb = none) : lc.toInt = 0 := by
  rcases h with z | ⟨_, b, z, _⟩
  · exact z.2
  · rw [e] at z; cases z
theorem lsB.one {G : cG} {lb : Option Nat} {lc : Int32} {lw lh x w h : Nat} (h1 : lsB G lb lc lw lh) (e : lb = some x) (hg : G x = some (2, w, h)) : 0 < lc.toInt ∧ w = lw ∧ h = lh := by
  rcases h1 with ⟨z, _⟩ | ⟨y, b, z, z8⟩
  · rw [e] at z; cases z
  · rw [e] at z
    cases z
    have z7 := hg.symm.trans z8
    simp only [Option.some.injEq, Prod.mk.injEq, true_and] at z7
    exact ⟨y, z7.1, z7.2⟩
def lsO (lc : Int32) (lw lh : Nat) (w h : Int32) : Prop := 0 < lc.toInt ∧ ¬ (w.toInt = (lw : Int) ∧ h.toInt = (lh : Int))
def lsI (fl : Nat → Int64) (lc : Int32) (p : Int64) : Prop := ∃ k : Nat, (k : Int) < lc.toInt ∧ fl k = p
def lsG (fl : Nat → Int64) (lc : Int32) (lw lh : Nat) (w h : Int32) (p : Int64) : Prop := goodP w h p ∧ lc.toInt < 12 ∧ ¬ lsO lc lw lh w h ∧ ¬ lsI fl lc p
def lsA (fl : Nat → Int64) (lc : Int32) (lw lh : Nat) (w h : Int32) (p : Int64) (x : Int32) : Prop := (lsG fl lc lw lh w h p ∧ x.toInt = lc.toInt + 1) ∨ (¬ lsG fl lc lw lh w h p ∧ ((¬ goodP w h p ∧ x = -1) ∨ (goodP w h p ∧ ¬ lc.toInt < 12 ∧ x = -2) ∨ (goodP w h p ∧ lc.toInt < 12 ∧ x = -3)))
section LST
variable {fl : Nat → Int64} {lc : Int32} {lw lh : Nat} {w h : Int32} {p : Int64}
theorem lsG_1 (n : ¬ goodP w h p) : ¬ lsG fl lc lw lh w h p := fun z => n z.1
theorem lsG_2 (n : ¬ lc.toInt < 12) : ¬ lsG fl lc lw lh w h p := fun z => n z.2.1
theorem lsG_3 (n : lsO lc lw lh w h ∨ lsI fl lc p) : ¬ lsG fl lc lw lh w h p := fun z => n.elim z.2.2.1 z.2.2.2
theorem lsA_1 (n : ¬ goodP w h p) : lsA fl lc lw lh w h p (-1) := Or.inr ⟨lsG_1 n, Or.inl ⟨n, rfl⟩⟩
theorem lsA_2 (g : goodP w h p) (n : ¬ lc.toInt < 12) : lsA fl lc lw lh w h p (-2) := Or.inr ⟨lsG_2 n, Or.inr (Or.inl ⟨g, n, rfl⟩)⟩
theorem lsA_3 (g : goodP w h p) (y : lc.toInt < 12) (n : lsO lc lw lh w h ∨ lsI fl lc p) : lsA fl lc lw lh w h p (-3) := Or.inr ⟨lsG_3 n, Or.inr (Or.inr ⟨g, y, rfl⟩)⟩
theorem lsI_c {fl' : Nat → Int64} (e : ∀ k : Nat, (k : Int) < lc.toInt → fl k = fl' k) : lsI fl lc p ↔ lsI fl' lc p := ⟨fun ⟨k, a, b⟩ => ⟨k, a, (e k a).symm.trans b⟩, fun ⟨k, a, b⟩ => ⟨k, a, (e k a).trans b⟩⟩
theorem lsG_c {fl' : Nat → Int64} (e : ∀ k : Nat, (k : Int) < lc.toInt → fl k = fl' k) : lsG fl lc lw lh w h p ↔ lsG fl' lc lw lh w h p := by
  unfold lsG
  rw [lsI_c e]
theorem lsA_eq {fl' : Nat → Int64} {x y : Int32} (e : ∀ k : Nat, (k : Int) < lc.toInt → fl k = fl' k) (hx : lsA fl lc lw lh w h p x) (hy : lsA fl' lc lw lh w h p y) : x = y := by
  rcases hx with ⟨a, b⟩ | ⟨a, b⟩ <;> rcases hy with ⟨c, d⟩ | ⟨c, d⟩
  · exact Int32.toInt_inj.mp (b.trans d.symm)
  · exact absurd ((lsG_c e).mp a) c
  · exact absurd ((lsG_c e).mpr c) a
  · rcases b with ⟨b1, b2⟩ | ⟨b1, b2, b3⟩ | ⟨b1, b2, b3⟩ <;> rcases d with ⟨d1, d2⟩ | ⟨d1, d2, d3⟩ | ⟨d1, d2, d3⟩ <;> first | (rw [b2, d2]; done) | (rw [b3, d3]; done) | exact absurd d1 b1 | exact absurd b1 d1 | exact absurd d2 b2 | exact absurd b2 d2
end LST
/-- a set of ways tells the pictures of the list apart -/
def telA (fl : Nat → Int64) (lc : Int32) (lw lh : Nat) (set : Int32) : Prop := ∀ a b : Nat, (a : Int) < lc.toInt → b < a → ∃ j, j < 4 ∧ unl lw lh (fl a) (fl b) set j
theorem telA_c {fl fl' : Nat → Int64} {lc : Int32} {lw lh : Nat} {set : Int32} (e : ∀ k : Nat, (k : Int) < lc.toInt → fl k = fl' k) : telA fl lc lw lh set ↔ telA fl' lc lw lh set := by
  constructor
  · intro t a b h1 h2; rw [← e a h1, ← e b (by omega)]; exact t a b h1 h2
  · intro t a b h1 h2; rw [e a h1, e b (by omega)]; exact t a b h1 h2
theorem telA_0 {fl : Nat → Int64} {lc : Int32} {lw lh lw' lh' : Nat} {set : Int32} (e : lc.toInt = 0) : telA fl lc lw lh set ↔ telA fl lc lw' lh' set := ⟨fun _ a b h1 h2 => by omega, fun _ a b h1 h2 => by omega⟩
theorem ts_27 {U : Nat → Prop} {x : Int32} {m : Nat} (hm : m = 4) (h : (x = 1 ∧ ∃ j, j < m ∧ U j) ∨ (x = 0 ∧ ∀ j, j < m → ¬ U j)) : (x = 1 ∧ ∃ j, j < 4 ∧ U j) ∨ (x = 0 ∧ ¬ ∃ j, j < 4 ∧ U j) := by
  subst hm
  exact h.imp id (fun ⟨a, b⟩ => ⟨a, fun ⟨j, c, d⟩ => b j c d⟩)
theorem ts_a {P : Prop} {Q : Nat → Prop} {y : Int32} {i : Nat} (h : (y = 1 ∧ P ∧ ∀ b, b < i → Q b) ∨ (y = 0 ∧ ¬ (P ∧ ∀ b, b < i → Q b))) (e : y = 0) : ((0 : Int32) = 1 ∧ P ∧ ∀ b, b < i + 1 → Q b) ∨ ((0 : Int32) = 0 ∧ ¬ (P ∧ ∀ b, b < i + 1 → Q b)) := by
  rcases h with ⟨z, _⟩ | ⟨_, y⟩
  · rw [e] at z; exact absurd z (by decide)
  · exact Or.inr ⟨rfl, fun u => y ⟨u.1, fun b h1 => u.2 b (by omega)⟩⟩
theorem ts_b {P : Prop} {Q : Nat → Prop} {x : Int32} {i : Nat} (h : (x = 1 ∧ Q i) ∨ (x = 0 ∧ ¬ Q i)) (e : x = 0) : ((0 : Int32) = 1 ∧ P ∧ ∀ b, b < i + 1 → Q b) ∨ ((0 : Int32) = 0 ∧ ¬ (P ∧ ∀ b, b < i + 1 → Q b)) := by
  rcases h with ⟨z, _⟩ | ⟨_, y⟩
  · rw [e] at z; exact absurd z (by decide)
  · exact Or.inr ⟨rfl, fun u => y (u.2 i (by omega))⟩
theorem ts_c {P : Prop} {Q : Nat → Prop} {y x : Int32} {i : Nat} (h : (y = 1 ∧ P ∧ ∀ b, b < i → Q b) ∨ (y = 0 ∧ ¬ (P ∧ ∀ b, b < i → Q b))) (h2 : (x = 1 ∧ Q i) ∨ (x = 0 ∧ ¬ Q i)) (e : ¬ y = 0) (e2 : ¬ x = 0) : ((1 : Int32) = 1 ∧ P ∧ ∀ b, b < i + 1 → Q b) ∨ ((1 : Int32) = 0 ∧ ¬ (P ∧ ∀ b, b < i + 1 → Q b)) := by
  rcases h with ⟨_, p, y⟩ | ⟨z, _⟩
  · rcases h2 with ⟨_, q⟩ | ⟨z, _⟩
    · refine Or.inl ⟨rfl, p, fun b h1 => ?_⟩
      by_cases e9 : b = i
      · rw [e9]; exact q
      · exact y b (by omega)
    · exact absurd z e2
  · exact absurd z e
def pc4 (s : Nat) : Nat := s % 2 + s / 2 % 2 + s / 4 % 2 + s / 8 % 2
theorem pc4_le (s : Nat) : pc4 s ≤ 4 := by unfold pc4; omega
def wyA (T : Nat → Prop) (x : Int32) : Prop := (∃ n s, n ≤ 4 ∧ s < 16 ∧ (pc4 s = n ∧ T s) ∧ x = nI s ∧ (∀ m t, m < n → t < 16 → ¬ (pc4 t = m ∧ T t)) ∧ ∀ t, t < s → ¬ (pc4 t = n ∧ T t)) ∨ (x = -2 ∧ ∀ m t, m ≤ 4 → t < 16 → ¬ (pc4 t = m ∧ T t))
theorem wyA_c {T T' : Nat → Prop} {x : Int32} (e : ∀ s, T s ↔ T' s) (h : wyA T x) : wyA T' x := by
  rcases h with ⟨n, s, a, b, ⟨c1, c2⟩, d, f, g⟩ | ⟨a, b⟩
  · exact Or.inl ⟨n, s, a, b, ⟨c1, (e s).mp c2⟩, d, fun m t h1 h2 h3 => f m t h1 h2 ⟨h3.1, (e t).mpr h3.2⟩, fun t h1 h3 => g t h1 ⟨h3.1, (e t).mpr h3.2⟩⟩
  · exact Or.inr ⟨a, fun m t h1 h2 h3 => b m t h1 h2 ⟨h3.1, (e t).mpr h3.2⟩⟩
theorem wyA_eq {T : Nat → Prop} {x y : Int32} (hx : wyA T x) (hy : wyA T y) : x = y := by
  rcases hx with ⟨n, s, a, b, c, d, f, g⟩ | ⟨a, b⟩ <;> rcases hy with ⟨n', s', a', b', c', d', f', g'⟩ | ⟨a', b'⟩
  · have en : n = n' := by
      rcases Nat.lt_trichotomy n n' with z | z | z
      · exact absurd c (f' n s z b)
      · exact z
      · exact absurd c' (f n' s' z b')
    subst en
    have es : s = s' := by
      rcases Nat.lt_trichotomy s s' with z | z | z
      · exact absurd c (g' s z)
      · exact z
      · exact absurd c' (g s' z)
    rw [d, d', es]
  · exact absurd c (b' n s a b)
  · exact absurd c' (b n' s' a' b')
  · rw [a, a']
def bc16 (i : Int32) : Int32 :=
  let a := i - ((i.toUInt32 >>> ((1 : Int32).toUInt32 &&& Int32.toUInt32 31)).toInt32 &&& 1431655765)
  let b := (a &&& 858993459) + ((a.toUInt32 >>> ((2 : Int32).toUInt32 &&& Int32.toUInt32 31)).toInt32 &&& 858993459)
  let d := (b + (b.toUInt32 >>> ((4 : Int32).toUInt32 &&& Int32.toUInt32 31)).toInt32) &&& 252645135
  let f := d + (d.toUInt32 >>> ((8 : Int32).toUInt32 &&& Int32.toUInt32 31)).toInt32
  (f + (f.toUInt32 >>> ((16 : Int32).toUInt32 &&& Int32.toUInt32 31)).toInt32) &&& 63
theorem bc16_0 : ∀ s, s < 16 → bc16 (nI s) = nI (pc4 s) := by decide +kernel
theorem bc16_1 {i : Int32} (h : 0 ≤ i.toInt ∧ i.toInt < 16) : bc16 i = nI (pc4 i.toNatClampNeg) := by
  have e := cl_nI (w := i) h.1
  have c := m_cl (x := i) h.1
  have z := bc16_0 i.toNatClampNeg (by omega)
  rw [e] at z
  exact z
theorem pc4_lb : ∀ s, s < 16 → bs (lb (nI s).toInt64) 36 = pc4 s := by decide +kernel
theorem rn_ones (p : Int64) : ∀ n, n ≤ 36 → r_ones p n = nI (bs (lb p) n) := by
  intro n
  induction n with
  | zero => intro _; rfl
  | succ n ih =>
    intro hn
    simp only [r_ones, bs]
    rw [ih (by omega), one_lb p (by omega)]
    cases lb p n
    · exact nI_add _ 0
    · exact nI_1 _
set_option maxHeartbeats 4000000 in
set_option maxRecDepth 100000 in
theorem c_J6_x (l : Launch) (p0 : Int32) (h0 : 0 ≤ p0.toInt ∧ p0.toInt < 16) : Pu l yJ6_bitCount_0f7a4 wsJ6_bitCount_0f7a4 ({ frames := 0, cells := 0, slots := 0, locals := 0 }) [.int p0] (fun r => r = nI (pc4 p0.toNatClampNeg)) := by
  refine Met.ofW (cc := cJ6_bitCount_0f7a4) (maxL := 1) (ret := (some .int)) (by decide) rfl ?_
  intro p e s m args below meth c s₁ B hml hv
  obtain ⟨rfl, -⟩ := hv
  have hx := B.exec
  have hb := B.bytes
  have hr := B.returns
  have hts := atoms_spec (ws := wsJ6_bitCount_0f7a4) B.pre
  have hown : s.vm.findClass RJ6 = some m.cls := findClass_of_methodNamed B.named
  have hlocks := B.notSynchronized
  have hS : va_S (fun _ => False) s.heap s.heap [] := va_S.rf
  have hl := lv_entry ([.int p0]) (n := 1) (Nat.le_of_ble_eq_true rfl)
  rw [lg_entry_eq]
  generalize (lg_sl ([.int p0]) ++ List.replicate (1 - (lg_sl ([.int p0])).length) Slot.unset).toArray = ls at hl ⊢
  have hl : lv_has ls 1 [(0, .int p0)] := hl
  have hS0 := hS
  have k_0 : (0 : Int32).toInt = 0 := by decide
  have k_1 : (1 : Int32).toInt = 1 := by decide
  have k_2 : (2 : Int32).toInt = 2 := by decide
  have k_4 : (4 : Int32).toInt = 4 := by decide
  have k_8 : (8 : Int32).toInt = 8 := by decide
  have k_16 : (16 : Int32).toInt = 16 := by decide
  have k_63 : (63 : Int32).toInt = 63 := by decide
  have k_252645135 : (252645135 : Int32).toInt = 252645135 := by decide
  have k_858993459 : (858993459 : Int32).toInt = 858993459 := by decide
  have k_1431655765 : (1431655765 : Int32).toInt = 1431655765 := by decide
  refine lv_iload_n hx hb dJ6_bitCount_0f7a4_0 rfl (lv_at hl 0 rfl) ?_
  refine lv_iload_n hx hb dJ6_bitCount_0f7a4_1 rfl (lv_at hl 0 rfl) ?_
  refine lv_iconst (v := 1) hx hb dJ6_bitCount_0f7a4_2 (by decide) ?_
  refine lv_iushr (v := (p0.toUInt32 >>> ((1 : Int32).toUInt32 &&& Int32.toUInt32 31)).toInt32) hx hb dJ6_bitCount_0f7a4_3 rfl ?_
  refine lv_ldcw hx hb hown (hts (.constant RJ6 265 (1431655765)) (by decide +kernel)) dJ6_bitCount_0f7a4_4 ?_
  refine lv_iand hx hb dJ6_bitCount_0f7a4_7 ?_
  refine lv_topi (fun v7 e7 => ?_)
  refine lv_isub hx hb dJ6_bitCount_0f7a4_8 ?_
  refine lv_topi (fun v8 e8 => ?_)
  refine lv_istore_n (lv' := [(0, .int v8)]) hx hb dJ6_bitCount_0f7a4_9 rfl hl (by decide) rfl (fun ls hl => ?_)
  refine lv_iload_n hx hb dJ6_bitCount_0f7a4_10 rfl (lv_at hl 0 rfl) ?_
  refine lv_ldcw hx hb hown (hts (.constant RJ6 266 (858993459)) (by decide +kernel)) dJ6_bitCount_0f7a4_11 ?_
  refine lv_iand hx hb dJ6_bitCount_0f7a4_14 ?_
  refine lv_topi (fun v14 e14 => ?_)
  refine lv_iload_n hx hb dJ6_bitCount_0f7a4_15 rfl (lv_at hl 0 rfl) ?_
  refine lv_iconst (v := 2) hx hb dJ6_bitCount_0f7a4_16 (by decide) ?_
  refine lv_iushr (v := (v8.toUInt32 >>> ((2 : Int32).toUInt32 &&& Int32.toUInt32 31)).toInt32) hx hb dJ6_bitCount_0f7a4_17 rfl ?_
  refine lv_ldcw hx hb hown (hts (.constant RJ6 266 (858993459)) (by decide +kernel)) dJ6_bitCount_0f7a4_18 ?_
  refine lv_iand hx hb dJ6_bitCount_0f7a4_21 ?_
  refine lv_topi (fun v21 e21 => ?_)
  refine lv_iadd hx hb dJ6_bitCount_0f7a4_22 ?_
  refine lv_topi (fun v22 e22 => ?_)
  refine lv_istore_n (lv' := [(0, .int v22)]) hx hb dJ6_bitCount_0f7a4_23 rfl hl (by decide) rfl (fun ls hl => ?_)
  refine lv_iload_n hx hb dJ6_bitCount_0f7a4_24 rfl (lv_at hl 0 rfl) ?_
  refine lv_iload_n hx hb dJ6_bitCount_0f7a4_25 rfl (lv_at hl 0 rfl) ?_
  refine lv_iconst (v := 4) hx hb dJ6_bitCount_0f7a4_26 (by decide) ?_
  refine lv_iushr (v := (v22.toUInt32 >>> ((4 : Int32).toUInt32 &&& Int32.toUInt32 31)).toInt32) hx hb dJ6_bitCount_0f7a4_27 rfl ?_
  refine lv_iadd hx hb dJ6_bitCount_0f7a4_28 ?_
  refine lv_topi (fun v28 e28 => ?_)
  refine lv_ldcw hx hb hown (hts (.constant RJ6 267 (252645135)) (by decide +kernel)) dJ6_bitCount_0f7a4_29 ?_
  refine lv_iand hx hb dJ6_bitCount_0f7a4_32 ?_
  refine lv_topi (fun v32 e32 => ?_)
  refine lv_istore_n (lv' := [(0, .int v32)]) hx hb dJ6_bitCount_0f7a4_33 rfl hl (by decide) rfl (fun ls hl => ?_)
  refine lv_iload_n hx hb dJ6_bitCount_0f7a4_34 rfl (lv_at hl 0 rfl) ?_
  refine lv_iload_n hx hb dJ6_bitCount_0f7a4_35 rfl (lv_at hl 0 rfl) ?_
  refine lv_bipush (v := 8) hx hb dJ6_bitCount_0f7a4_36 (by decide) ?_
  refine lv_iushr (v := (v32.toUInt32 >>> ((8 : Int32).toUInt32 &&& Int32.toUInt32 31)).toInt32) hx hb dJ6_bitCount_0f7a4_38 rfl ?_
  refine lv_iadd hx hb dJ6_bitCount_0f7a4_39 ?_
  refine lv_topi (fun v39 e39 => ?_)
  refine lv_istore_n (lv' := [(0, .int v39)]) hx hb dJ6_bitCount_0f7a4_40 rfl hl (by decide) rfl (fun ls hl => ?_)
  refine lv_iload_n hx hb dJ6_bitCount_0f7a4_41 rfl (lv_at hl 0 rfl) ?_
  refine lv_iload_n hx hb dJ6_bitCount_0f7a4_42 rfl (lv_at hl 0 rfl) ?_
  refine lv_bipush (v := 16) hx hb dJ6_bitCount_0f7a4_43 (by decide) ?_
  refine lv_iushr (v := (v39.toUInt32 >>> ((16 : Int32).toUInt32 &&& Int32.toUInt32 31)).toInt32) hx hb dJ6_bitCount_0f7a4_45 rfl ?_
  refine lv_iadd hx hb dJ6_bitCount_0f7a4_46 ?_
  refine lv_topi (fun v46 e46 => ?_)
  refine lv_istore_n (lv' := [(0, .int v46)]) hx hb dJ6_bitCount_0f7a4_47 rfl hl (by decide) rfl (fun ls hl => ?_)
  refine lv_iload_n hx hb dJ6_bitCount_0f7a4_48 rfl (lv_at hl 0 rfl) ?_
  refine lv_bipush (v := 63) hx hb dJ6_bitCount_0f7a4_49 (by decide) ?_
  refine lv_iand hx hb dJ6_bitCount_0f7a4_51 ?_
  refine lv_topi (fun v51 e51 => ?_)
  exact W.iret (v := v51) hx hb hr (fun t ht hW => ⟨⟨_, (), rfl, (by subst e51 e46 e39 e32 e28 e22 e21 e14 e8 e7; exact bc16_1 h0), trivial⟩, hS.F ht⟩) hS.2.2 dJ6_bitCount_0f7a4_52
set_option maxHeartbeats 4000000 in
set_option maxRecDepth 100000 in
theorem c_X9_isOtherThanListed_x (l : Launch) (D : va_G) (cy : Nat → ClassId) (A : Nat → Prop) (G : cG) (ws : va_W) (o : Nat) (wide : Int32) (high : Int32) {bs_o js_o sh_o wk_o ll_o : Nat} {jc_o lc_o : Int32} {mo_o lb_o : Option Nat} {fl : Nat → Int64} {lw lh : Nat} (hD : va_D A ws) (hT : cT cy G ws) (hG_o : G o = some (7, 0, 0)) (hM_o : cIn ws o (.inr (8, [.ref bs_o, .ref js_o, .int jc_o, .ref sh_o, .ref wk_o, va_rf mo_o, .ref ll_o, .int lc_o, va_rf lb_o]))) (hM_ll_o : cIn ws ll_o (.inl (cy 1, 12, .inr (.inl fl)))) (hlb9 : lsB G lb_o lc_o lw lh) : Ci l D cy A yX9_isOtherThanListed wsX9_isOtherThanListed ({ frames := 0, cells := 0, slots := 0, locals := 0 }) 0 0 ws [.ref o, .int wide, .int high] (fun r0 u => u = (G, ws) ∧ (Bo r0 (lsO lc_o lw lh wide high))) := by
  refine Met.ofW (cc := cX9_isOtherThanListed) (maxL := 3) (ret := (some .boolean)) (by decide) rfl ?_
  intro p e s m args below meth c s₁ B hml hv
  obtain ⟨rfl, hP, hK, hA, hV⟩ := hv
  have hx := B.exec
  have hb := B.bytes
  have hr := B.returns
  have hts := atoms_spec (ws := wsX9_isOtherThanListed) B.pre
  have hown : s.vm.findClass RX9 = some m.cls := findClass_of_methodNamed B.named
  have hlocks := B.notSynchronized
  have hS : va_S A s.heap s.heap [] := va_S.rf
  have hl := lv_entry ([.ref o, .int wide, .int high]) (n := 3) (Nat.le_of_ble_eq_true rfl)
  rw [lg_entry_eq]
  generalize (lg_sl ([.ref o, .int wide, .int high]) ++ List.replicate (3 - (lg_sl ([.ref o, .int wide, .int high])).length) Slot.unset).toArray = ls at hl ⊢
  have hl : lv_has ls 3 [(0, .ref o), (1, .int wide), (2, .int high)] := hl
  have k_0 : (0 : Int32).toInt = 0 := by decide
  have k_1 : (1 : Int32).toInt = 1 := by decide
  obtain ⟨hjc_o, hlc_o, hG_bs_o, hG_js_o, hG_sh_o, hG_wk_o, hmo_o, hG_ll_o, hlb_o⟩ := w7sh hD hT hG_o hM_o
  refine lv_aload_n hx hb dX9_isOtherThanListed_0 rfl (lv_at hl 0 rfl) ?_
  have hoq : lb_o = none ∨ ∃ x, lb_o = some x := by cases lb_o; exact Or.inl rfl; exact Or.inr ⟨_, rfl⟩
  rcases hoq with hopt | ⟨x1, hopt⟩
  · skip
    rw [hopt] at hM_o
    have hM_o : cIn ws o (.inr (8, [.ref bs_o, .ref js_o, .int jc_o, .ref sh_o, .ref wk_o, va_rf mo_o, .ref ll_o, .int lc_o, .null])) := hM_o
    have hl0 := hlb9.nil hopt
    refine t_get (v := .null) (C := RX9) (T := TX9) (N := 9) hx hb hts (by decide +kernel) hown hK hP hM_o rfl 8 (by decide) (hts (.fieldLink RX9 49 "ShadowBench" "listBoard" "LShadowBench$Board;") (by decide +kernel)) (fun _ h9 => h9) rfl dX9_isOtherThanListed_1 ?_
    refine lv_ifnullN (tgt := 33) hx hb dX9_isOtherThanListed_4 (by decide) ?_
    refine lv_iconst (v := 0) hx hb dX9_isOtherThanListed_33 (by decide) ?_
    exact W.zret (v := (0 : Int32)) hx hb hr (by decide) (fun t ht hW => ⟨⟨_, (G, ws), rfl, ⟨rfl, Or.inr ⟨rfl, (by unfold lsO; omega)⟩⟩, by show va_P D vwCl ws t.heap; rw [ht]; exact hP, hD, hT⟩, hS.F ht⟩) hS.2.2 dX9_isOtherThanListed_34
  · skip
    obtain ⟨wx1, hx1, hG_x1⟩ := hlb_o x1 hopt
    rw [hopt] at hM_o
    have hM_o : cIn ws o (.inr (8, [.ref bs_o, .ref js_o, .int jc_o, .ref sh_o, .ref wk_o, va_rf mo_o, .ref ll_o, .int lc_o, .ref x1])) := hM_o
    have hl1 := hlb9.one hopt hG_x1
    refine t_get (v := .ref x1) (C := RX9) (T := TX9) (N := 9) hx hb hts (by decide +kernel) hown hK hP hM_o rfl 8 (by decide) (hts (.fieldLink RX9 49 "ShadowBench" "listBoard" "LShadowBench$Board;") (by decide +kernel)) (fun _ h9 => h9) rfl dX9_isOtherThanListed_1 ?_
    refine lv_ifnull hx hb dX9_isOtherThanListed_4 ?_
    refine lv_aload_n hx hb dX9_isOtherThanListed_7 rfl (lv_at hl 0 rfl) ?_
    refine t_get (v := .ref x1) (C := RX9) (T := TX9) (N := 9) hx hb hts (by decide +kernel) hown hK hP hM_o rfl 8 (by decide) (hts (.fieldLink RX9 49 "ShadowBench" "listBoard" "LShadowBench$Board;") (by decide +kernel)) (fun _ h9 => h9) rfl dX9_isOtherThanListed_8 ?_
    obtain ⟨_, hM_x1, hb_x1, l_x1, f_x1, r_x1, rfl, hG_l_x1, hG_f_x1, hG_r_x1⟩ := hT _ _ hG_x1
    refine t_get (v := .int (nI wx1)) (C := RX0) (T := TX0) (N := 8) hx hb hts (by decide +kernel) hown hK hP hM_x1 rfl 0 (by decide) (hts (.fieldLink RX9 156 "ShadowBench$Board" "wide" "I") (by decide +kernel)) (fun _ h9 => h9) rfl dX9_isOtherThanListed_11 ?_
    have i_w_x1 : (nI wx1).toInt = _ := nI_toInt (by omega)
    refine lv_iload_n hx hb dX9_isOtherThanListed_14 rfl (lv_at hl 1 rfl) ?_
    refine lv_icmp_ne (tgt := 29) hx hb dX9_isOtherThanListed_15 (by decide) (fun c15 => ?_) (fun c15 => ?_)
    · skip
      have d15 := c15
      rw [fa_eq] at d15
      refine lv_iconst (v := 1) hx hb dX9_isOtherThanListed_29 (by decide) ?_
      refine lv_goto (tgt := 34) hx hb dX9_isOtherThanListed_30 (by decide) ?_
      exact W.zret (v := (1 : Int32)) hx hb hr (by decide) (fun t ht hW => ⟨⟨_, (G, ws), rfl, ⟨rfl, Or.inl ⟨rfl, (by unfold lsO; omega)⟩⟩, by show va_P D vwCl ws t.heap; rw [ht]; exact hP, hD, hT⟩, hS.F ht⟩) hS.2.2 dX9_isOtherThanListed_34
    · skip
      have d15 := c15
      rw [fa_eq] at d15
      refine lv_aload_n hx hb dX9_isOtherThanListed_18 rfl (lv_at hl 0 rfl) ?_
      refine t_get (v := .ref x1) (C := RX9) (T := TX9) (N := 9) hx hb hts (by decide +kernel) hown hK hP hM_o rfl 8 (by decide) (hts (.fieldLink RX9 49 "ShadowBench" "listBoard" "LShadowBench$Board;") (by decide +kernel)) (fun _ h9 => h9) rfl dX9_isOtherThanListed_19 ?_
      refine t_get (v := .int (nI hx1)) (C := RX0) (T := TX0) (N := 8) hx hb hts (by decide +kernel) hown hK hP hM_x1 rfl 1 (by decide) (hts (.fieldLink RX9 306 "ShadowBench$Board" "high" "I") (by decide +kernel)) (fun _ h9 => h9) rfl dX9_isOtherThanListed_22 ?_
      have i_h_x1 : (nI hx1).toInt = _ := nI_toInt (by omega)
      refine lv_iload_n hx hb dX9_isOtherThanListed_25 rfl (lv_at hl 2 rfl) ?_
      refine lv_icmp_eq (tgt := 33) hx hb dX9_isOtherThanListed_26 (by decide) (fun c26 => ?_) (fun c26 => ?_)
      · skip
        have d26 := c26
        rw [fa_eq] at d26
        refine lv_iconst (v := 0) hx hb dX9_isOtherThanListed_33 (by decide) ?_
        exact W.zret (v := (0 : Int32)) hx hb hr (by decide) (fun t ht hW => ⟨⟨_, (G, ws), rfl, ⟨rfl, Or.inr ⟨rfl, (by unfold lsO; omega)⟩⟩, by show va_P D vwCl ws t.heap; rw [ht]; exact hP, hD, hT⟩, hS.F ht⟩) hS.2.2 dX9_isOtherThanListed_34
      · skip
        have d26 := c26
        rw [fa_eq] at d26
        refine lv_iconst (v := 1) hx hb dX9_isOtherThanListed_29 (by decide) ?_
        refine lv_goto (tgt := 34) hx hb dX9_isOtherThanListed_30 (by decide) ?_
        exact W.zret (v := (1 : Int32)) hx hb hr (by decide) (fun t ht hW => ⟨⟨_, (G, ws), rfl, ⟨rfl, Or.inl ⟨rfl, (by unfold lsO; omega)⟩⟩, by show va_P D vwCl ws t.heap; rw [ht]; exact hP, hD, hT⟩, hS.F ht⟩) hS.2.2 dX9_isOtherThanListed_34
set_option maxHeartbeats 4000000 in
set_option maxRecDepth 100000 in
theorem c_X9_isListed_x (l : Launch) (D : va_G) (cy : Nat → ClassId) (A : Nat → Prop) (G : cG) (ws : va_W) (o : Nat) (p0 : Int64) {bs_o js_o sh_o wk_o ll_o : Nat} {jc_o lc_o : Int32} {mo_o lb_o : Option Nat} {fl : Nat → Int64} (hD : va_D A ws) (hT : cT cy G ws) (hG_o : G o = some (7, 0, 0)) (hM_o : cIn ws o (.inr (8, [.ref bs_o, .ref js_o, .int jc_o, .ref sh_o, .ref wk_o, va_rf mo_o, .ref ll_o, .int lc_o, va_rf lb_o]))) (hM_ll_o : cIn ws ll_o (.inl (cy 1, 12, .inr (.inl fl))))  : Ci l D cy A yX9_isListed wsX9_isListed ({ frames := 0, cells := 0, slots := 0, locals := 0 }) 0 0 ws [.ref o, .long p0] (fun r0 u => u = (G, ws) ∧ (Bo r0 (lsI fl lc_o p0))) := by
  refine Met.ofW (cc := cX9_isListed) (maxL := 4) (ret := (some .boolean)) (by decide) rfl ?_
  intro p e s m args below meth c s₁ B hml hv
  obtain ⟨rfl, hP, hK, hA, hV⟩ := hv
  have hx := B.exec
  have hb := B.bytes
  have hr := B.returns
  have hts := atoms_spec (ws := wsX9_isListed) B.pre
  have hown : s.vm.findClass RX9 = some m.cls := findClass_of_methodNamed B.named
  have hlocks := B.notSynchronized
  have hS : va_S A s.heap s.heap [] := va_S.rf
  have hl := lv_entry ([.ref o, .long p0]) (n := 4) (Nat.le_of_ble_eq_true rfl)
  rw [lg_entry_eq]
  generalize (lg_sl ([.ref o, .long p0]) ++ List.replicate (4 - (lg_sl ([.ref o, .long p0])).length) Slot.unset).toArray = ls at hl ⊢
  have hl : lv_has ls 4 [(0, .ref o), (1, .long p0)] := hl
  have k_0 : (0 : Int32).toInt = 0 := by decide
  have k_1 : (1 : Int32).toInt = 1 := by decide
  have k_12 : (12 : Int32).toInt = 12 := by decide
  obtain ⟨hjc_o, hlc_o, hG_bs_o, hG_js_o, hG_sh_o, hG_wk_o, hmo_o, hG_ll_o, hlb_o⟩ := w7sh hD hT hG_o hM_o
  refine lv_iconst (v := 0) hx hb dX9_isListed_0 (by decide) ?_
  refine lv_istore_n (lv' := [(3, .int (0 : Int32)), (0, .ref o), (1, .long p0)]) hx hb dX9_isListed_1 rfl hl (by decide) rfl (fun ls hl => ?_)
  have loop_2 : ∀ (n : Nat) (i : Nat), (i ≤ 12) → (∀ k, k < i → ¬ fl k = p0) → 12 - i < n → ∀ (H : Heap) (locs : List Loc), va_P D vwCl ws H → va_S A s.heap H locs → ∀ (ls : Array Slot), lv_has ls 4 [(3, .int (nI i)), (0, .ref o), (1, .long p0)] → W p l e (headSpec wsX9_isListed ({ frames := 0, cells := 0, slots := 0, locals := 0 })).room s m #[Value.ref o, Value.long p0] below meth c H locs 0 0 (MQ below (va_Qi (fun r0 u => u = (G, ws) ∧ (Bo r0 (lsI fl lc_o p0))) (cB D cy A) A) #[Value.ref o, Value.long p0] s 0 0 A) (F0 m 2 ls []) := by
    intro n
    induction n with
    | zero => intro i j2_0 j2_1 hn; exact absurd hn (Nat.not_lt_zero _)
    | succ n ih_2 =>
      intro i j2_0 j2_1 hn_2 H locs hP hS  ls hl
      have ii : (nI i).toInt = (i : Int) := nI_toInt (by omega)
      refine lv_iload_n hx hb dX9_isListed_2 rfl (lv_at hl 0 rfl) ?_
      refine lv_aload_n hx hb dX9_isListed_3 rfl (lv_at hl 1 rfl) ?_
      refine t_get (v := .int lc_o) (C := RX9) (T := TX9) (N := 9) hx hb hts (by decide +kernel) hown hK hP hM_o rfl 7 (by decide) (hts (.fieldLink RX9 46 "ShadowBench" "listCount" "I") (by decide +kernel)) (fun _ h9 => h9) rfl dX9_isListed_4 ?_
      refine lv_icmp_ge (tgt := 35) hx hb dX9_isListed_7 (by decide) (fun c7 => ?_) (fun c7 => ?_)
      · skip
        have d7 := c7
        rw [fa_le] at d7
        refine lv_iconst (v := 0) hx hb dX9_isListed_35 (by decide) ?_
        exact W.zret (v := (0 : Int32)) hx hb hr (by decide) (fun t ht hW => ⟨⟨_, (G, ws), rfl, ⟨rfl, Or.inr ⟨rfl, (fun ⟨k9, h9, z9⟩ => j2_1 k9 (by omega) z9)⟩⟩, by show va_P D vwCl ws t.heap; rw [ht]; exact hP, hD, hT⟩, hS.F ht⟩) hS.2.2 dX9_isListed_36
      · skip
        have d7 := c7
        rw [fa_le] at d7
        refine lv_iload_n hx hb dX9_isListed_10 rfl (lv_at hl 0 rfl) ?_
        refine lv_bipush (v := 12) hx hb dX9_isListed_11 (by decide) ?_
        refine lv_icmp_ge (tgt := 35) hx hb dX9_isListed_13 (by decide) (fun c13 => ?_) (fun c13 => ?_)
        · skip
          have d13 := c13
          rw [fa_le] at d13
          refine lv_iconst (v := 0) hx hb dX9_isListed_35 (by decide) ?_
          exact W.zret (v := (0 : Int32)) hx hb hr (by decide) (fun t ht hW => ⟨⟨_, (G, ws), rfl, ⟨rfl, Or.inr ⟨rfl, (fun ⟨k9, h9, z9⟩ => j2_1 k9 (by omega) z9)⟩⟩, by show va_P D vwCl ws t.heap; rw [ht]; exact hP, hD, hT⟩, hS.F ht⟩) hS.2.2 dX9_isListed_36
        · skip
          have d13 := c13
          rw [fa_le] at d13
          refine lv_aload_n hx hb dX9_isListed_16 rfl (lv_at hl 1 rfl) ?_
          refine t_get (v := .ref ll_o) (C := RX9) (T := TX9) (N := 9) hx hb hts (by decide +kernel) hown hK hP hM_o rfl 6 (by decide) (hts (.fieldLink RX9 42 "ShadowBench" "listed" "[J") (by decide +kernel)) (fun _ h9 => h9) rfl dX9_isListed_17 ?_
          refine lv_iload_n hx hb dX9_isListed_20 rfl (lv_at hl 0 rfl) ?_
          refine t_laldM hx hb hK hP hM_ll_o (vp_in_iff.mpr ⟨by omega, by omega⟩) dX9_isListed_21 ?_
          refine lv_topl (fun v21 e21 => ?_)
          have f21 : v21 = fl i := by rw [e21, nI_clamp (by omega)]
          refine lv_lload_n hx hb dX9_isListed_22 rfl (lv_at hl 2 rfl) ?_
          refine W.lcmp hx hb dX9_isListed_23 ?_
          refine lv_if_ne (tgt := 29) hx hb dX9_isListed_24 (by decide) (fun c24 => ?_) (fun c24 => ?_)
          · skip
            have d24 := c24
            rw [lg_cmp_eq, fa_eq64] at d24
            refine lv_iinc (v := (nI (i + 1))) (lv' := [(3, .int (nI (i + 1))), (0, .ref o), (1, .long p0)]) hx hb dX9_isListed_29 hl (k := 0) rfl (nI_1 _) (by decide) rfl (fun ls hl => ?_)
            refine lv_goto (tgt := 2) hx hb dX9_isListed_32 (by decide) ?_
            exact ih_2 (i + 1) (by omega) (fun k hk => by
            by_cases e9 : k = i
            · rw [e9]; exact fun z9 => c24 ((lg_cmp_eq _ _).mpr (f21.trans z9))
            · exact j2_1 k (by omega)) (by omega) _ _ hP hS  ls (lv_sub hl [0, 1, 2] rfl)
          · skip
            have d24 := c24
            rw [lg_cmp_eq, fa_eq64] at d24
            refine lv_iconst (v := 1) hx hb dX9_isListed_27 (by decide) ?_
            exact W.zret (v := (1 : Int32)) hx hb hr (by decide) (fun t ht hW => ⟨⟨_, (G, ws), rfl, ⟨rfl, Or.inl ⟨rfl, ⟨i, (by omega), f21.symm.trans ((lg_cmp_eq _ _).mp c24)⟩⟩⟩, by show va_P D vwCl ws t.heap; rw [ht]; exact hP, hD, hT⟩, hS.F ht⟩) hS.2.2 dX9_isListed_28
  exact loop_2 (12 + 1) 0 (by omega) (fun k hk => absurd hk (Nat.not_lt_zero _)) (by omega) _ _ hP hS  ls (lv_sub hl [0, 1, 2] rfl)
set_option maxHeartbeats 4000000 in
set_option maxRecDepth 100000 in
theorem c_X9_list_x (l : Launch) (D : va_G) (cy : Nat → ClassId) (A : Nat → Prop) (G : cG) (ws : va_W) (o : Nat) (wide : Int32) (high : Int32) (p0 : Int64) {bs_o js_o sh_o wk_o ll_o : Nat} {jc_o lc_o : Int32} {mo_o lb_o : Option Nat} {fl : Nat → Int64} {lw lh : Nat} (hD : va_D A ws) (hT : cT cy G ws) (hG_o : G o = some (7, 0, 0)) (hM_o : cIn ws o (.inr (8, [.ref bs_o, .ref js_o, .int jc_o, .ref sh_o, .ref wk_o, va_rf mo_o, .ref ll_o, .int lc_o, va_rf lb_o]))) (hM_ll_o : cIn ws ll_o (.inl (cy 1, 12, .inr (.inl fl)))) (hlb9 : lsB G lb_o lc_o lw lh) : Ci l D cy A yX9_list wsX9_list ({ frames := 5, cells := 4, slots := 502, locals := 116 }) 4 502 ws [.ref o, .int wide, .int high, .long p0] (fun r0 u => cX none (chs [1, 7, 8, 17]) G ws u.1 u.2 ∧ (lsA fl lc_o lw lh wide high p0 r0 ∧ ∃ lc lb fl1, cIn u.2 o (.inr (8, [.ref bs_o, .ref js_o, .int jc_o, .ref sh_o, .ref wk_o, va_rf mo_o, .ref ll_o, .int lc, va_rf lb])) ∧ cIn u.2 ll_o (.inl (cy 1, 12, .inr (.inl fl1))) ∧ ((lsG fl lc_o lw lh wide high p0 ∧ lc.toInt = lc_o.toInt + 1 ∧ fl1 = vp_updL fl lc_o.toNatClampNeg p0 ∧ ∃ b, lb = some b ∧ u.1 b = some (2, wide.toNatClampNeg, high.toNatClampNeg)) ∨ (¬ lsG fl lc_o lw lh wide high p0 ∧ lc = lc_o ∧ lb = lb_o ∧ fl1 = fl)))) := by
  refine Met.ofW (cc := cX9_list) (maxL := 6) (ret := (some .int)) (by decide) rfl ?_
  intro p e s m args below meth c s₁ B hml hv
  obtain ⟨rfl, hP, hK, hA, hV⟩ := hv
  have hx := B.exec
  have hb := B.bytes
  have hr := B.returns
  have hts := atoms_spec (ws := wsX9_list) B.pre
  have hown : s.vm.findClass RX9 = some m.cls := findClass_of_methodNamed B.named
  have hlocks := B.notSynchronized
  have hS : va_S A s.heap s.heap [] := va_S.rf
  have hX : cX none (chs [1, 7, 8, 17]) G ws G ws := cX.rf
  have hl := lv_entry ([.ref o, .int wide, .int high, .long p0]) (n := 6) (Nat.le_of_ble_eq_true rfl)
  rw [lg_entry_eq]
  generalize (lg_sl ([.ref o, .int wide, .int high, .long p0]) ++ List.replicate (6 - (lg_sl ([.ref o, .int wide, .int high, .long p0])).length) Slot.unset).toArray = ls at hl ⊢
  have hl : lv_has ls 6 [(0, .ref o), (1, .int wide), (2, .int high), (3, .long p0)] := hl
  have k_m3 : (-3 : Int32).toInt = -3 := by decide
  have k_m2 : (-2 : Int32).toInt = -2 := by decide
  have k_m1 : (-1 : Int32).toInt = -1 := by decide
  have k_0 : (0 : Int32).toInt = 0 := by decide
  have k_1 : (1 : Int32).toInt = 1 := by decide
  have k_12 : (12 : Int32).toInt = 12 := by decide
  obtain ⟨hjc_o, hlc_o, hG_bs_o, hG_js_o, hG_sh_o, hG_wk_o, hmo_o, hG_ll_o, hlb_o⟩ := w7sh hD hT hG_o hM_o
  refine lv_aload_n hx hb dX9_list_0 rfl (lv_at hl 0 rfl) ?_
  refine lv_iload_n hx hb dX9_list_1 rfl (lv_at hl 1 rfl) ?_
  refine lv_iload_n hx hb dX9_list_2 rfl (lv_at hl 2 rfl) ?_
  refine t_calla (va_runV (g := F0 m 3 ls ([.int high, .int wide, .ref o])) (As := [.int wide, .int high]) (rest := []) ⟨hx, hb, hml, hown, hts⟩ (c_X9_boardOf_x l D cy A G ws o wide high hD hT hG_o ) (cwV 2 hts gX9_list_X9_boardOf rfl rfl rfl (by decide +kernel) ⟨Nat.le_of_ble_eq_true rfl, Nat.le_of_ble_eq_true rfl⟩) (c_preV hM_o rfl hP hK hA hS hV) rfl rfl hl.1 rfl (lv_room (Nat.le_of_ble_eq_true rfl)) dX9_list_3 ⟨Nat.le_of_ble_eq_true rfl, Nat.le_of_ble_eq_true rfl⟩) hS (fun r3 u H locs q3 hP9 hD9 hT9 hS => ?_)
  obtain ⟨G3, w3⟩ := u
  obtain ⟨hX9, q3⟩ := q3
  have hX9 : cX none (chs [1, 8]) G ws G3 w3 := hX9
  have hP : va_P D vwCl w3 H := hP9
  have hD : va_D A w3 := hD9
  have hT : cT cy G3 w3 := hT9
  have hM_o := hX9.2.1 _ _ (cP.no hG_o rfl) hM_o
  have hM_ll_o := hX9.2.1 _ _ (cP.no hG_ll_o rfl) hM_ll_o
  have hG_o := hX9.1 _ _ hG_o
  have hG_bs_o := hX9.1 _ _ hG_bs_o
  have hG_js_o := hX9.1 _ _ hG_js_o
  have hG_sh_o := hX9.1 _ _ hG_sh_o
  have hG_wk_o := hX9.1 _ _ hG_wk_o
  have hG_ll_o := hX9.1 _ _ hG_ll_o
  have hmo_o := fun x9 z9 => hX9.1 _ _ (hmo_o x9 z9)
  have hlb_o : ∀ x9, lb_o = some x9 → ∃ w9 h9, _ = some (2, w9, h9) := fun x9 z9 => (hlb_o x9 z9).elim fun w9 z9 => z9.elim fun h9 z9 => ⟨w9, h9, hX9.1 _ _ z9⟩
  have hX := hX.tr (hX9.wk (chs_sub (by decide)))
  rcases r3 with _ | x3
  · skip
    have vn3 := q3.2.1 rfl
    refine lv_astoreN (lv' := [(5, .null), (0, .ref o), (1, .int wide), (2, .int high), (3, .long p0)]) hx hb dX9_list_6 hl (by decide) rfl (fun ls hl => ?_)
    refine lv_aloadN hx hb dX9_list_8 (lv_at hl 0 rfl) ?_
    refine lv_ifnullN (tgt := 22) hx hb dX9_list_10 (by decide) ?_
    refine lv_iconst (v := (-1)) hx hb dX9_list_22 (by decide) ?_
    refine W.widen (k := 4) (n := 502) (Nat.le_of_ble_eq_true rfl) (Nat.le_of_ble_eq_true rfl) ?_
    exact W.iret (v := ((-1) : Int32)) hx hb hr (fun t ht hW => ⟨⟨_, (G3, w3), rfl, ⟨hX, ⟨lsA_1 (fun z9 => by first | exact vn3 z9.1 | exact b19 z9.2), _, lb_o, _, hM_o, hM_ll_o, Or.inr ⟨lsG_1 (fun z9 => by first | exact vn3 z9.1 | exact b19 z9.2), rfl, rfl, rfl⟩⟩⟩, by show va_P D vwCl w3 t.heap; rw [ht]; exact hP, hD, hT⟩, hS.F ht⟩) hS.2.2 dX9_list_23
  · skip
    have hG_x3 := q3.1 x3 rfl
    have vb3 := q3.2.2 x3 rfl
    refine lv_astore (lv' := [(5, .ref x3), (0, .ref o), (1, .int wide), (2, .int high), (3, .long p0)]) hx hb dX9_list_6 hl (by decide) rfl (fun ls hl => ?_)
    refine lv_aload hx hb dX9_list_8 (lv_at hl 0 rfl) ?_
    refine lv_ifnull hx hb dX9_list_10 ?_
    refine lv_aload hx hb dX9_list_13 (lv_at hl 0 rfl) ?_
    refine lv_lload_n hx hb dX9_list_15 rfl (lv_at hl 4 rfl) ?_
    obtain ⟨_, hM_x3, hb_x3, l_x3, f_x3, r_x3, rfl, hG_l_x3, hG_f_x3, hG_r_x3⟩ := hT _ _ hG_x3
    refine t_calli (va_runV (g := F0 m 16 ls ([.long p0, .ref x3])) (As := [.long p0]) (rest := []) ⟨hx, hb, hml, hown, hts⟩ (c_X0_isPicture_x l D cy A G3 w3 x3 p0 hD hT hG_x3 ) (cwV 1 hts gX9_list_X0_isPicture rfl rfl rfl (by decide +kernel) ⟨Nat.le_of_ble_eq_true rfl, Nat.le_of_ble_eq_true rfl⟩) (c_preV hM_x3 rfl hP hK hA hS hV) rfl rfl hl.1 rfl (lv_room (Nat.le_of_ble_eq_true rfl)) dX9_list_16 ⟨Nat.le_of_ble_eq_true rfl, Nat.le_of_ble_eq_true rfl⟩) hS (fun r16 u H locs q16 hP9 hD9 hT9 hS => ?_)
    obtain ⟨rfl, q16⟩ := q16
    have hP : va_P D vwCl w3 H := hP9
    refine lv_if_ne (tgt := 24) hx hb dX9_list_19 (by decide) (fun c19 => ?_) (fun c19 => ?_)
    · skip
      have b19 := bo_t q16 c19
      refine lv_aload_n hx hb dX9_list_24 rfl (lv_at hl 1 rfl) ?_
      refine t_get (v := .int lc_o) (C := RX9) (T := TX9) (N := 9) hx hb hts (by decide +kernel) hown hK hP hM_o rfl 7 (by decide) (hts (.fieldLink RX9 46 "ShadowBench" "listCount" "I") (by decide +kernel)) (fun _ h9 => h9) rfl dX9_list_25 ?_
      refine lv_bipush (v := 12) hx hb dX9_list_28 (by decide) ?_
      refine lv_icmp_lt (tgt := 36) hx hb dX9_list_30 (by decide) (fun c30 => ?_) (fun c30 => ?_)
      · skip
        have d30 := c30
        rw [fa_lt] at d30
        refine lv_aload_n hx hb dX9_list_36 rfl (lv_at hl 1 rfl) ?_
        refine lv_iload_n hx hb dX9_list_37 rfl (lv_at hl 2 rfl) ?_
        refine lv_iload_n hx hb dX9_list_38 rfl (lv_at hl 3 rfl) ?_
        refine t_calli (va_runV (g := F0 m 39 ls ([.int high, .int wide, .ref o])) (As := [.int wide, .int high]) (rest := []) ⟨hx, hb, hml, hown, hts⟩ (c_X9_isOtherThanListed_x l D cy A G3 w3 o wide high hD hT hG_o hM_o hM_ll_o (hlb9.up hX.1)) (cwV 2 hts gX9_list_X9_isOtherThanListed rfl rfl rfl (by decide +kernel) ⟨Nat.le_of_ble_eq_true rfl, Nat.le_of_ble_eq_true rfl⟩) (c_preV hM_o rfl hP hK hA hS hV) rfl rfl hl.1 rfl (lv_room (Nat.le_of_ble_eq_true rfl)) dX9_list_39 ⟨Nat.le_of_ble_eq_true rfl, Nat.le_of_ble_eq_true rfl⟩) hS (fun r39 u H locs q39 hP9 hD9 hT9 hS => ?_)
        obtain ⟨rfl, q39⟩ := q39
        have hP : va_P D vwCl w3 H := hP9
        refine lv_if_ne (tgt := 53) hx hb dX9_list_42 (by decide) (fun c42 => ?_) (fun c42 => ?_)
        · skip
          have b42 := bo_t q39 c42
          refine lv_bipush (v := (-3)) hx hb dX9_list_53 (by decide) ?_
          refine W.widen (k := 4) (n := 502) (Nat.le_of_ble_eq_true rfl) (Nat.le_of_ble_eq_true rfl) ?_
          exact W.iret (v := ((-3) : Int32)) hx hb hr (fun t ht hW => ⟨⟨_, (G3, w3), rfl, ⟨hX, ⟨lsA_3 ⟨vb3, b19⟩ (by omega) (by first | exact Or.inr b50 | exact Or.inl b42), _, lb_o, _, hM_o, hM_ll_o, Or.inr ⟨lsG_3 (by first | exact Or.inr b50 | exact Or.inl b42), rfl, rfl, rfl⟩⟩⟩, by show va_P D vwCl w3 t.heap; rw [ht]; exact hP, hD, hT⟩, hS.F ht⟩) hS.2.2 dX9_list_55
        · skip
          have b42 := bo_f q39 c42
          refine lv_aload_n hx hb dX9_list_45 rfl (lv_at hl 1 rfl) ?_
          refine lv_lload_n hx hb dX9_list_46 rfl (lv_at hl 4 rfl) ?_
          refine t_calli (va_runV (g := F0 m 47 ls ([.long p0, .ref o])) (As := [.long p0]) (rest := []) ⟨hx, hb, hml, hown, hts⟩ (c_X9_isListed_x l D cy A G3 w3 o p0 hD hT hG_o hM_o hM_ll_o ) (cwV 1 hts gX9_list_X9_isListed rfl rfl rfl (by decide +kernel) ⟨Nat.le_of_ble_eq_true rfl, Nat.le_of_ble_eq_true rfl⟩) (c_preV hM_o rfl hP hK hA hS hV) rfl rfl hl.1 rfl (lv_room (Nat.le_of_ble_eq_true rfl)) dX9_list_47 ⟨Nat.le_of_ble_eq_true rfl, Nat.le_of_ble_eq_true rfl⟩) hS (fun r47 u H locs q47 hP9 hD9 hT9 hS => ?_)
          obtain ⟨rfl, q47⟩ := q47
          have hP : va_P D vwCl w3 H := hP9
          refine lv_if_eq (tgt := 56) hx hb dX9_list_50 (by decide) (fun c50 => ?_) (fun c50 => ?_)
          · skip
            have b50 := bo_f q47 c50
            refine lv_aload_n hx hb dX9_list_56 rfl (lv_at hl 1 rfl) ?_
            refine lv_aload hx hb dX9_list_57 (lv_at hl 0 rfl) ?_
            refine t_put (v := .ref x3) (C := RX9) (T := TX9) (N := 9) (ty0 := tyX9) hx hb hts (by decide +kernel) tyX9_ok nmX9 hown hK hP hD hS hM_o rfl 8 (by decide) (hts (.fieldLink RX9 49 "ShadowBench" "listBoard" "LShadowBench$Board;") (by decide +kernel)) (fun _ h9 => h9) rfl rfl rfl (Nat.le_of_ble_eq_true rfl) dX9_list_59 (fun H locs w59 hU59 hP hD hS => ?_)
            have hM_ll_o := hU59.2 _ _ (cne hG_ll_o hG_o (show (17 : Nat) ≠ 7 by decide)) hM_ll_o
            have hM_x3 := hU59.2 _ _ (cne hG_x3 hG_o (show (2 : Nat) ≠ 7 by decide)) hM_x3
            have hT := hT.up hU59 hG_o ⟨_, _, _, _, _, _, _, mo_o, (some x3), rfl, ⟨by omega, by omega⟩, ⟨by omega, by omega⟩, hG_bs_o, hG_js_o, hG_sh_o, hG_wk_o, hmo_o, hG_ll_o, (fun _ z => Option.some.inj z ▸ ⟨_, _, hG_x3⟩)⟩
            have hM_o : cIn w59 o (.inr (8, [.ref bs_o, .ref js_o, .int jc_o, .ref sh_o, .ref wk_o, va_rf mo_o, .ref ll_o, .int lc_o, .ref x3])) := hU59.1
            have hX := hX.tr (cX.up hU59 (Or.inr ⟨_, hG_o, rfl⟩))
            refine lv_aload_n hx hb dX9_list_62 rfl (lv_at hl 1 rfl) ?_
            refine t_get (v := .ref ll_o) (C := RX9) (T := TX9) (N := 9) hx hb hts (by decide +kernel) hown hK hP hM_o rfl 6 (by decide) (hts (.fieldLink RX9 42 "ShadowBench" "listed" "[J") (by decide +kernel)) (fun _ h9 => h9) rfl dX9_list_63 ?_
            refine lv_aload_n hx hb dX9_list_66 rfl (lv_at hl 1 rfl) ?_
            refine t_get (v := .int lc_o) (C := RX9) (T := TX9) (N := 9) hx hb hts (by decide +kernel) hown hK hP hM_o rfl 7 (by decide) (hts (.fieldLink RX9 46 "ShadowBench" "listCount" "I") (by decide +kernel)) (fun _ h9 => h9) rfl dX9_list_67 ?_
            refine lv_lload_n hx hb dX9_list_70 rfl (lv_at hl 4 rfl) ?_
            refine t_lastK hx hb hK hP hD hS hT (Or.inr (Or.inr rfl)) hG_ll_o hM_ll_o (vp_in_iff.mpr ⟨by omega, by omega⟩) dX9_list_71 (fun H locs w71 hU71 hP hD hT hS => ?_)
            have hM_o := hU71.2 _ _ (cne hG_o hG_ll_o (show (7 : Nat) ≠ 17 by decide)) hM_o
            have hM_x3 := hU71.2 _ _ (cne hG_x3 hG_ll_o (show (2 : Nat) ≠ 17 by decide)) hM_x3
            have hM_ll_o := hU71.1
            have hX := hX.tr (cX.up hU71 (Or.inr ⟨_, hG_ll_o, rfl⟩))
            refine lv_aload_n hx hb dX9_list_72 rfl (lv_at hl 1 rfl) ?_
            refine lv_dup hx hb dX9_list_73 rfl ?_
            refine t_get (v := .int lc_o) (C := RX9) (T := TX9) (N := 9) hx hb hts (by decide +kernel) hown hK hP hM_o rfl 7 (by decide) (hts (.fieldLink RX9 46 "ShadowBench" "listCount" "I") (by decide +kernel)) (fun _ h9 => h9) rfl dX9_list_74 ?_
            refine lv_iconst (v := 1) hx hb dX9_list_77 (by decide) ?_
            refine lv_iadd hx hb dX9_list_78 ?_
            refine lv_topi (fun v78 e78 => ?_)
            have i78 : v78.toInt = lc_o.toInt + (1 : Int32).toInt := by rw [e78]; exact fb_addI (by omega) (by omega)
            refine t_put (v := .int v78) (C := RX9) (T := TX9) (N := 9) (ty0 := tyX9) hx hb hts (by decide +kernel) tyX9_ok nmX9 hown hK hP hD hS hM_o rfl 7 (by decide) (hts (.fieldLink RX9 46 "ShadowBench" "listCount" "I") (by decide +kernel)) (fun _ h9 => h9) rfl rfl rfl (Nat.le_of_ble_eq_true rfl) dX9_list_79 (fun H locs w79 hU79 hP hD hS => ?_)
            have hM_ll_o := hU79.2 _ _ (cne hG_ll_o hG_o (show (17 : Nat) ≠ 7 by decide)) hM_ll_o
            have hM_x3 := hU79.2 _ _ (cne hG_x3 hG_o (show (2 : Nat) ≠ 7 by decide)) hM_x3
            have hT := hT.up hU79 hG_o ⟨_, _, _, _, _, _, _, mo_o, (some x3), rfl, ⟨by omega, by omega⟩, ⟨by omega, by omega⟩, hG_bs_o, hG_js_o, hG_sh_o, hG_wk_o, hmo_o, hG_ll_o, (fun _ z => Option.some.inj z ▸ ⟨_, _, hG_x3⟩)⟩
            have hM_o : cIn w79 o (.inr (8, [.ref bs_o, .ref js_o, .int jc_o, .ref sh_o, .ref wk_o, va_rf mo_o, .ref ll_o, .int v78, .ref x3])) := hU79.1
            have hX := hX.tr (cX.up hU79 (Or.inr ⟨_, hG_o, rfl⟩))
            refine lv_aload_n hx hb dX9_list_82 rfl (lv_at hl 1 rfl) ?_
            refine t_get (v := .int v78) (C := RX9) (T := TX9) (N := 9) hx hb hts (by decide +kernel) hown hK hP hM_o rfl 7 (by decide) (hts (.fieldLink RX9 46 "ShadowBench" "listCount" "I") (by decide +kernel)) (fun _ h9 => h9) rfl dX9_list_83 ?_
            refine W.widen (k := 4) (n := 502) (Nat.le_of_ble_eq_true rfl) (Nat.le_of_ble_eq_true rfl) ?_
            exact W.iret (v := v78) hx hb hr (fun t ht hW => ⟨⟨_, (G3, w79), rfl, ⟨hX, ⟨Or.inl ⟨⟨⟨vb3, b19⟩, (by omega), b42, b50⟩, (by omega)⟩, _, (some x3), _, hM_o, hM_ll_o, Or.inl ⟨⟨⟨vb3, b19⟩, (by omega), b42, b50⟩, (by omega), rfl, _, rfl, hG_x3⟩⟩⟩, by show va_P D vwCl w79 t.heap; rw [ht]; exact hP, hD, hT⟩, hS.F ht⟩) hS.2.2 dX9_list_86
          · skip
            have b50 := bo_t q47 c50
            refine lv_bipush (v := (-3)) hx hb dX9_list_53 (by decide) ?_
            refine W.widen (k := 4) (n := 502) (Nat.le_of_ble_eq_true rfl) (Nat.le_of_ble_eq_true rfl) ?_
            exact W.iret (v := ((-3) : Int32)) hx hb hr (fun t ht hW => ⟨⟨_, (G3, w3), rfl, ⟨hX, ⟨lsA_3 ⟨vb3, b19⟩ (by omega) (by first | exact Or.inr b50 | exact Or.inl b42), _, lb_o, _, hM_o, hM_ll_o, Or.inr ⟨lsG_3 (by first | exact Or.inr b50 | exact Or.inl b42), rfl, rfl, rfl⟩⟩⟩, by show va_P D vwCl w3 t.heap; rw [ht]; exact hP, hD, hT⟩, hS.F ht⟩) hS.2.2 dX9_list_55
      · skip
        have d30 := c30
        rw [fa_lt] at d30
        refine lv_bipush (v := (-2)) hx hb dX9_list_33 (by decide) ?_
        refine W.widen (k := 4) (n := 502) (Nat.le_of_ble_eq_true rfl) (Nat.le_of_ble_eq_true rfl) ?_
        exact W.iret (v := ((-2) : Int32)) hx hb hr (fun t ht hW => ⟨⟨_, (G3, w3), rfl, ⟨hX, ⟨lsA_2 ⟨vb3, b19⟩ (by omega), _, lb_o, _, hM_o, hM_ll_o, Or.inr ⟨lsG_2 (by omega), rfl, rfl, rfl⟩⟩⟩, by show va_P D vwCl w3 t.heap; rw [ht]; exact hP, hD, hT⟩, hS.F ht⟩) hS.2.2 dX9_list_35
    · skip
      have b19 := bo_f q16 c19
      refine lv_iconst (v := (-1)) hx hb dX9_list_22 (by decide) ?_
      refine W.widen (k := 4) (n := 502) (Nat.le_of_ble_eq_true rfl) (Nat.le_of_ble_eq_true rfl) ?_
      exact W.iret (v := ((-1) : Int32)) hx hb hr (fun t ht hW => ⟨⟨_, (G3, w3), rfl, ⟨hX, ⟨lsA_1 (fun z9 => by first | exact vn3 z9.1 | exact b19 z9.2), _, lb_o, _, hM_o, hM_ll_o, Or.inr ⟨lsG_1 (fun z9 => by first | exact vn3 z9.1 | exact b19 z9.2), rfl, rfl, rfl⟩⟩⟩, by show va_P D vwCl w3 t.heap; rw [ht]; exact hP, hD, hT⟩, hS.F ht⟩) hS.2.2 dX9_list_23
set_option maxHeartbeats 4000000 in
set_option maxRecDepth 100000 in
theorem c_X9_clear_x (l : Launch) (D : va_G) (cy : Nat → ClassId) (A : Nat → Prop) (G : cG) (ws : va_W) (o : Nat) {bs_o js_o sh_o wk_o ll_o : Nat} {jc_o lc_o : Int32} {mo_o lb_o : Option Nat} (hD : va_D A ws) (hT : cT cy G ws) (hG_o : G o = some (7, 0, 0)) (hM_o : cIn ws o (.inr (8, [.ref bs_o, .ref js_o, .int jc_o, .ref sh_o, .ref wk_o, va_rf mo_o, .ref ll_o, .int lc_o, va_rf lb_o])))  : Ci l D cy A yX9_clear wsX9_clear ({ frames := 0, cells := 0, slots := 0, locals := 0 }) 0 0 ws [.ref o] (fun r0 u => cX none (chs [7]) G ws u.1 u.2 ∧ (r0 = lc_o ∧ cIn u.2 o (.inr (8, [.ref bs_o, .ref js_o, .int jc_o, .ref sh_o, .ref wk_o, va_rf mo_o, .ref ll_o, .int (0 : Int32), va_rf none])))) := by
  refine Met.ofW (cc := cX9_clear) (maxL := 2) (ret := (some .int)) (by decide) rfl ?_
  intro p e s m args below meth c s₁ B hml hv
  obtain ⟨rfl, hP, hK, hA, hV⟩ := hv
  have hx := B.exec
  have hb := B.bytes
  have hr := B.returns
  have hts := atoms_spec (ws := wsX9_clear) B.pre
  have hown : s.vm.findClass RX9 = some m.cls := findClass_of_methodNamed B.named
  have hlocks := B.notSynchronized
  have hS : va_S A s.heap s.heap [] := va_S.rf
  have hX : cX none (chs [7]) G ws G ws := cX.rf
  have hl := lv_entry ([.ref o]) (n := 2) (Nat.le_of_ble_eq_true rfl)
  rw [lg_entry_eq]
  generalize (lg_sl ([.ref o]) ++ List.replicate (2 - (lg_sl ([.ref o])).length) Slot.unset).toArray = ls at hl ⊢
  have hl : lv_has ls 2 [(0, .ref o)] := hl
  have k_0 : (0 : Int32).toInt = 0 := by decide
  obtain ⟨hjc_o, hlc_o, hG_bs_o, hG_js_o, hG_sh_o, hG_wk_o, hmo_o, hG_ll_o, hlb_o⟩ := w7sh hD hT hG_o hM_o
  refine lv_aload_n hx hb dX9_clear_0 rfl (lv_at hl 0 rfl) ?_
  refine t_get (v := .int lc_o) (C := RX9) (T := TX9) (N := 9) hx hb hts (by decide +kernel) hown hK hP hM_o rfl 7 (by decide) (hts (.fieldLink RX9 46 "ShadowBench" "listCount" "I") (by decide +kernel)) (fun _ h9 => h9) rfl dX9_clear_1 ?_
  refine lv_istore_n (lv' := [(1, .int lc_o), (0, .ref o)]) hx hb dX9_clear_4 rfl hl (by decide) rfl (fun ls hl => ?_)
  refine lv_aload_n hx hb dX9_clear_5 rfl (lv_at hl 1 rfl) ?_
  refine lv_iconst (v := 0) hx hb dX9_clear_6 (by decide) ?_
  refine t_put (v := .int (0 : Int32)) (C := RX9) (T := TX9) (N := 9) (ty0 := tyX9) hx hb hts (by decide +kernel) tyX9_ok nmX9 hown hK hP hD hS hM_o rfl 7 (by decide) (hts (.fieldLink RX9 46 "ShadowBench" "listCount" "I") (by decide +kernel)) (fun _ h9 => h9) rfl rfl rfl (Nat.le_of_ble_eq_true rfl) dX9_clear_7 (fun H locs w7 hU7 hP hD hS => ?_)
  have hT := hT.up hU7 hG_o ⟨_, _, _, _, _, _, _, mo_o, lb_o, rfl, ⟨by omega, by omega⟩, ⟨by omega, by omega⟩, hG_bs_o, hG_js_o, hG_sh_o, hG_wk_o, hmo_o, hG_ll_o, hlb_o⟩
  have hM_o : cIn w7 o (.inr (8, [.ref bs_o, .ref js_o, .int jc_o, .ref sh_o, .ref wk_o, va_rf mo_o, .ref ll_o, .int (0 : Int32), va_rf lb_o])) := hU7.1
  have hX := hX.tr (cX.up hU7 (Or.inr ⟨_, hG_o, rfl⟩))
  refine lv_aload_n hx hb dX9_clear_10 rfl (lv_at hl 1 rfl) ?_
  refine lv_null hx hb dX9_clear_11 ?_
  refine t_put (v := .null) (C := RX9) (T := TX9) (N := 9) (ty0 := tyX9) hx hb hts (by decide +kernel) tyX9_ok nmX9 hown hK hP hD hS hM_o rfl 8 (by decide) (hts (.fieldLink RX9 49 "ShadowBench" "listBoard" "LShadowBench$Board;") (by decide +kernel)) (fun _ h9 => h9) rfl rfl rfl (Nat.le_of_ble_eq_true rfl) dX9_clear_12 (fun H locs w12 hU12 hP hD hS => ?_)
  have hT := hT.up hU12 hG_o ⟨_, _, _, _, _, _, _, mo_o, none, rfl, ⟨by omega, by omega⟩, ⟨by omega, by omega⟩, hG_bs_o, hG_js_o, hG_sh_o, hG_wk_o, hmo_o, hG_ll_o, (fun _ z => nomatch z)⟩
  have hM_o : cIn w12 o (.inr (8, [.ref bs_o, .ref js_o, .int jc_o, .ref sh_o, .ref wk_o, va_rf mo_o, .ref ll_o, .int (0 : Int32), .null])) := hU12.1
  have hX := hX.tr (cX.up hU12 (Or.inr ⟨_, hG_o, rfl⟩))
  refine lv_iload_n hx hb dX9_clear_15 rfl (lv_at hl 0 rfl) ?_
  exact W.iret (v := lc_o) hx hb hr (fun t ht hW => ⟨⟨_, (G, w12), rfl, ⟨hX, ⟨rfl, hM_o⟩⟩, by show va_P D vwCl w12 t.heap; rw [ht]; exact hP, hD, hT⟩, hS.F ht⟩) hS.2.2 dX9_clear_16
set_option maxHeartbeats 4000000 in
set_option maxRecDepth 100000 in
theorem c_X9_job_k (l : Launch) (D : va_G) (cy : Nat → ClassId) (A : Nat → Prop) (G : cG) (ws : va_W) (o : Nat) (kind : Int32) (wide : Int32) (high : Int32) {bs_o js_o sh_o wk_o ll_o : Nat} {jc_o lc_o : Int32} {mo_o lb_o : Option Nat} (hD : va_D A ws) (hT : cT cy G ws) (hG_o : G o = some (7, 0, 0)) (hM_o : cIn ws o (.inr (8, [.ref bs_o, .ref js_o, .int jc_o, .ref sh_o, .ref wk_o, va_rf mo_o, .ref ll_o, .int lc_o, va_rf lb_o])))  : Ci l D cy A yX9_job wsX9_job ({ frames := 6, cells := 7, slots := 588, locals := 124 }) 7 588 ws [.ref o, .int kind, .int wide, .int high] (fun r0 u => cX none (chs [1, 7, 8, 9]) G ws u.1 u.2 ∧ (∃ jc, cIn u.2 o (.inr (8, [.ref bs_o, .ref js_o, .int jc, .ref sh_o, .ref wk_o, va_rf mo_o, .ref ll_o, .int lc_o, va_rf lb_o])))) := by
  refine Met.ofW (cc := cX9_job) (maxL := 5) (ret := (some .int)) (by decide) rfl ?_
  intro p e s m args below meth c s₁ B hml hv
  obtain ⟨rfl, hP, hK, hA, hV⟩ := hv
  have hx := B.exec
  have hb := B.bytes
  have hr := B.returns
  have hts := atoms_spec (ws := wsX9_job) B.pre
  have hown : s.vm.findClass RX9 = some m.cls := findClass_of_methodNamed B.named
  have hlocks := B.notSynchronized
  have hS : va_S A s.heap s.heap [] := va_S.rf
  have hX : cX none (chs [1, 7, 8, 9]) G ws G ws := cX.rf
  have hl := lv_entry ([.ref o, .int kind, .int wide, .int high]) (n := 5) (Nat.le_of_ble_eq_true rfl)
  rw [lg_entry_eq]
  generalize (lg_sl ([.ref o, .int kind, .int wide, .int high]) ++ List.replicate (5 - (lg_sl ([.ref o, .int kind, .int wide, .int high])).length) Slot.unset).toArray = ls at hl ⊢
  have hl : lv_has ls 5 [(0, .ref o), (1, .int kind), (2, .int wide), (3, .int high)] := hl
  have k_m2 : (-2 : Int32).toInt = -2 := by decide
  have k_m1 : (-1 : Int32).toInt = -1 := by decide
  have k_0 : (0 : Int32).toInt = 0 := by decide
  have k_1 : (1 : Int32).toInt = 1 := by decide
  have k_3 : (3 : Int32).toInt = 3 := by decide
  have k_8 : (8 : Int32).toInt = 8 := by decide
  obtain ⟨hjc_o, hlc_o, hG_bs_o, hG_js_o, hG_sh_o, hG_wk_o, hmo_o, hG_ll_o, hlb_o⟩ := w7sh hD hT hG_o hM_o
  refine lv_aload_n hx hb dX9_job_0 rfl (lv_at hl 0 rfl) ?_
  refine lv_iload_n hx hb dX9_job_1 rfl (lv_at hl 2 rfl) ?_
  refine lv_iload_n hx hb dX9_job_2 rfl (lv_at hl 3 rfl) ?_
  refine t_calla (va_runV (g := F0 m 3 ls ([.int high, .int wide, .ref o])) (As := [.int wide, .int high]) (rest := []) ⟨hx, hb, hml, hown, hts⟩ (c_X9_boardOf_x l D cy A G ws o wide high hD hT hG_o ) (cwV 2 hts gX9_job_X9_boardOf rfl rfl rfl (by decide +kernel) ⟨Nat.le_of_ble_eq_true rfl, Nat.le_of_ble_eq_true rfl⟩) (c_preV hM_o rfl hP hK hA hS hV) rfl rfl hl.1 rfl (lv_room (Nat.le_of_ble_eq_true rfl)) dX9_job_3 ⟨Nat.le_of_ble_eq_true rfl, Nat.le_of_ble_eq_true rfl⟩) hS (fun r3 u H locs q3 hP9 hD9 hT9 hS => ?_)
  obtain ⟨G3, w3⟩ := u
  obtain ⟨hX9, q3⟩ := q3
  have hX9 : cX none (chs [1, 8]) G ws G3 w3 := hX9
  have hP : va_P D vwCl w3 H := hP9
  have hD : va_D A w3 := hD9
  have hT : cT cy G3 w3 := hT9
  have hM_o := hX9.2.1 _ _ (cP.no hG_o rfl) hM_o
  have hG_o := hX9.1 _ _ hG_o
  have hG_bs_o := hX9.1 _ _ hG_bs_o
  have hG_js_o := hX9.1 _ _ hG_js_o
  have hG_sh_o := hX9.1 _ _ hG_sh_o
  have hG_wk_o := hX9.1 _ _ hG_wk_o
  have hG_ll_o := hX9.1 _ _ hG_ll_o
  have hmo_o := fun x9 z9 => hX9.1 _ _ (hmo_o x9 z9)
  have hlb_o : ∀ x9, lb_o = some x9 → ∃ w9 h9, _ = some (2, w9, h9) := fun x9 z9 => (hlb_o x9 z9).elim fun w9 z9 => z9.elim fun h9 z9 => ⟨w9, h9, hX9.1 _ _ z9⟩
  have hX := hX.tr (hX9.wk (chs_sub (by decide)))
  rcases r3 with _ | x3
  · skip
    have vn3 := q3.2.1 rfl
    refine lv_astoreN (lv' := [(4, .null), (0, .ref o), (1, .int kind), (2, .int wide), (3, .int high)]) hx hb dX9_job_6 hl (by decide) rfl (fun ls hl => ?_)
    refine lv_aloadN hx hb dX9_job_8 (lv_at hl 0 rfl) ?_
    refine lv_ifnullN (tgt := 22) hx hb dX9_job_10 (by decide) ?_
    refine lv_iconst (v := (-1)) hx hb dX9_job_22 (by decide) ?_
    refine W.widen (k := 7) (n := 588) (Nat.le_of_ble_eq_true rfl) (Nat.le_of_ble_eq_true rfl) ?_
    exact W.iret (v := ((-1) : Int32)) hx hb hr (fun t ht hW => ⟨⟨_, (G3, w3), rfl, ⟨hX, ⟨_, hM_o⟩⟩, by show va_P D vwCl w3 t.heap; rw [ht]; exact hP, hD, hT⟩, hS.F ht⟩) hS.2.2 dX9_job_23
  · skip
    have hG_x3 := q3.1 x3 rfl
    have vb3 := q3.2.2 x3 rfl
    refine lv_astore (lv' := [(4, .ref x3), (0, .ref o), (1, .int kind), (2, .int wide), (3, .int high)]) hx hb dX9_job_6 hl (by decide) rfl (fun ls hl => ?_)
    refine lv_aload hx hb dX9_job_8 (lv_at hl 0 rfl) ?_
    refine lv_ifnull hx hb dX9_job_10 ?_
    refine lv_iload_n hx hb dX9_job_13 rfl (lv_at hl 2 rfl) ?_
    refine lv_if_lt (tgt := 22) hx hb dX9_job_14 (by decide) (fun c14 => ?_) (fun c14 => ?_)
    · skip
      have d14 := c14
      rw [fa_lt] at d14
      refine lv_iconst (v := (-1)) hx hb dX9_job_22 (by decide) ?_
      refine W.widen (k := 7) (n := 588) (Nat.le_of_ble_eq_true rfl) (Nat.le_of_ble_eq_true rfl) ?_
      exact W.iret (v := ((-1) : Int32)) hx hb hr (fun t ht hW => ⟨⟨_, (G3, w3), rfl, ⟨hX, ⟨_, hM_o⟩⟩, by show va_P D vwCl w3 t.heap; rw [ht]; exact hP, hD, hT⟩, hS.F ht⟩) hS.2.2 dX9_job_23
    · skip
      have d14 := c14
      rw [fa_lt] at d14
      refine lv_iload_n hx hb dX9_job_17 rfl (lv_at hl 2 rfl) ?_
      refine lv_iconst (v := 3) hx hb dX9_job_18 (by decide) ?_
      refine lv_icmp_le (tgt := 24) hx hb dX9_job_19 (by decide) (fun c19 => ?_) (fun c19 => ?_)
      · skip
        have d19 := c19
        rw [fa_le] at d19
        refine lv_aload_n hx hb dX9_job_24 rfl (lv_at hl 1 rfl) ?_
        refine t_get (v := .int jc_o) (C := RX9) (T := TX9) (N := 9) hx hb hts (by decide +kernel) hown hK hP hM_o rfl 2 (by decide) (hts (.fieldLink RX9 21 "ShadowBench" "jobCount" "I") (by decide +kernel)) (fun _ h9 => h9) rfl dX9_job_25 ?_
        refine lv_bipush (v := 8) hx hb dX9_job_28 (by decide) ?_
        refine lv_icmp_lt (tgt := 36) hx hb dX9_job_30 (by decide) (fun c30 => ?_) (fun c30 => ?_)
        · skip
          have d30 := c30
          rw [fa_lt] at d30
          refine lv_aload_n hx hb dX9_job_36 rfl (lv_at hl 1 rfl) ?_
          refine t_get (v := .ref js_o) (C := RX9) (T := TX9) (N := 9) hx hb hts (by decide +kernel) hown hK hP hM_o rfl 1 (by decide) (hts (.fieldLink RX9 17 "ShadowBench" "jobs" "[LShadowBench$Job;") (by decide +kernel)) (fun _ h9 => h9) rfl dX9_job_37 ?_
          refine lv_aload_n hx hb dX9_job_40 rfl (lv_at hl 1 rfl) ?_
          refine t_get (v := .int jc_o) (C := RX9) (T := TX9) (N := 9) hx hb hts (by decide +kernel) hown hK hP hM_o rfl 2 (by decide) (hts (.fieldLink RX9 21 "ShadowBench" "jobCount" "I") (by decide +kernel)) (fun _ h9 => h9) rfl dX9_job_41 ?_
          refine lv_iload_n hx hb dX9_job_44 rfl (lv_at hl 2 rfl) ?_
          refine lv_aload hx hb dX9_job_45 (lv_at hl 0 rfl) ?_
          refine t_calla (va_runS (g := F0 m 47 ls ([.ref x3, .int kind, .int jc_o, .ref js_o])) (As := [.int kind, .ref x3]) (rest := [.int jc_o, .ref js_o]) ⟨hx, hb, hml, hown, hts⟩ (c_X9_newJob l D cy A G3 w3 kind x3 hD hT hG_x3 ) (va_cwS 2 hts gX9_job_X9_newJob rfl rfl rfl (by decide +kernel) ⟨Nat.le_of_ble_eq_true rfl, Nat.le_of_ble_eq_true rfl⟩) (c_preS hP hK hA hS hV) rfl rfl hl.1 rfl (lv_room (Nat.le_of_ble_eq_true rfl)) dX9_job_47 ⟨Nat.le_of_ble_eq_true rfl, Nat.le_of_ble_eq_true rfl⟩) hS (fun r47 u H locs q47 hP9 hD9 hT9 hS => ?_)
          obtain ⟨G47, w47⟩ := u
          obtain ⟨hX9, q47⟩ := q47
          have hX9 : cX none (chs []) G3 w3 G47 w47 := hX9
          have hP : va_P D vwCl w47 H := hP9
          have hD : va_D A w47 := hD9
          have hT : cT cy G47 w47 := hT9
          have hM_o := hX9.2.1 _ _ (cP.no hG_o rfl) hM_o
          have hG_o := hX9.1 _ _ hG_o
          have hG_bs_o := hX9.1 _ _ hG_bs_o
          have hG_js_o := hX9.1 _ _ hG_js_o
          have hG_sh_o := hX9.1 _ _ hG_sh_o
          have hG_wk_o := hX9.1 _ _ hG_wk_o
          have hG_ll_o := hX9.1 _ _ hG_ll_o
          have hG_x3 := hX9.1 _ _ hG_x3
          have hmo_o := fun x9 z9 => hX9.1 _ _ (hmo_o x9 z9)
          have hlb_o : ∀ x9, lb_o = some x9 → ∃ w9 h9, _ = some (2, w9, h9) := fun x9 z9 => (hlb_o x9 z9).elim fun w9 z9 => z9.elim fun h9 z9 => ⟨w9, h9, hX9.1 _ _ z9⟩
          have hX := hX.tr (hX9.wk (chs_sub (by decide)))
          obtain ⟨x47, k47, n47, rfl, hG_x47⟩ := q47
          refine t_aast9 hx hb hV hK hP hD hS hT hG_js_o hG_x47 (vp_in_iff.mpr ⟨by omega, by omega⟩) dX9_job_50 (fun H locs w50 hU50 hP hD hT hS => ?_)
          have hM_o := hU50 _ _ (cne hG_o hG_js_o (show (7 : Nat) ≠ 9 by decide)) hM_o
          have hX := hX.tr (cX.uF hU50 (Or.inr ⟨_, hG_js_o, rfl⟩))
          refine lv_aload_n hx hb dX9_job_51 rfl (lv_at hl 1 rfl) ?_
          refine lv_dup hx hb dX9_job_52 rfl ?_
          refine t_get (v := .int jc_o) (C := RX9) (T := TX9) (N := 9) hx hb hts (by decide +kernel) hown hK hP hM_o rfl 2 (by decide) (hts (.fieldLink RX9 21 "ShadowBench" "jobCount" "I") (by decide +kernel)) (fun _ h9 => h9) rfl dX9_job_53 ?_
          refine lv_iconst (v := 1) hx hb dX9_job_56 (by decide) ?_
          refine lv_iadd hx hb dX9_job_57 ?_
          refine lv_topi (fun v57 e57 => ?_)
          have i57 : v57.toInt = jc_o.toInt + (1 : Int32).toInt := by rw [e57]; exact fb_addI (by omega) (by omega)
          refine t_put (v := .int v57) (C := RX9) (T := TX9) (N := 9) (ty0 := tyX9) hx hb hts (by decide +kernel) tyX9_ok nmX9 hown hK hP hD hS hM_o rfl 2 (by decide) (hts (.fieldLink RX9 21 "ShadowBench" "jobCount" "I") (by decide +kernel)) (fun _ h9 => h9) rfl rfl rfl (Nat.le_of_ble_eq_true rfl) dX9_job_58 (fun H locs w58 hU58 hP hD hS => ?_)
          have hT := hT.up hU58 hG_o ⟨_, _, _, _, _, _, _, mo_o, lb_o, rfl, ⟨by omega, by omega⟩, ⟨by omega, by omega⟩, hG_bs_o, hG_js_o, hG_sh_o, hG_wk_o, hmo_o, hG_ll_o, hlb_o⟩
          have hM_o : cIn w58 o (.inr (8, [.ref bs_o, .ref js_o, .int v57, .ref sh_o, .ref wk_o, va_rf mo_o, .ref ll_o, .int lc_o, va_rf lb_o])) := hU58.1
          have hX := hX.tr (cX.up hU58 (Or.inr ⟨_, hG_o, rfl⟩))
          refine lv_aload_n hx hb dX9_job_61 rfl (lv_at hl 1 rfl) ?_
          refine t_get (v := .int v57) (C := RX9) (T := TX9) (N := 9) hx hb hts (by decide +kernel) hown hK hP hM_o rfl 2 (by decide) (hts (.fieldLink RX9 21 "ShadowBench" "jobCount" "I") (by decide +kernel)) (fun _ h9 => h9) rfl dX9_job_62 ?_
          refine lv_iconst (v := 1) hx hb dX9_job_65 (by decide) ?_
          refine lv_isub hx hb dX9_job_66 ?_
          refine lv_topi (fun v66 e66 => ?_)
          have i66 : v66.toInt = v57.toInt - (1 : Int32).toInt := by rw [e66]; exact fb_subI (by omega) (by omega)
          refine W.widen (k := 7) (n := 588) (Nat.le_of_ble_eq_true rfl) (Nat.le_of_ble_eq_true rfl) ?_
          exact W.iret (v := v66) hx hb hr (fun t ht hW => ⟨⟨_, (G47, w58), rfl, ⟨hX, ⟨_, hM_o⟩⟩, by show va_P D vwCl w58 t.heap; rw [ht]; exact hP, hD, hT⟩, hS.F ht⟩) hS.2.2 dX9_job_67
        · skip
          have d30 := c30
          rw [fa_lt] at d30
          refine lv_bipush (v := (-2)) hx hb dX9_job_33 (by decide) ?_
          refine W.widen (k := 7) (n := 588) (Nat.le_of_ble_eq_true rfl) (Nat.le_of_ble_eq_true rfl) ?_
          exact W.iret (v := ((-2) : Int32)) hx hb hr (fun t ht hW => ⟨⟨_, (G3, w3), rfl, ⟨hX, ⟨_, hM_o⟩⟩, by show va_P D vwCl w3 t.heap; rw [ht]; exact hP, hD, hT⟩, hS.F ht⟩) hS.2.2 dX9_job_35
      · skip
        have d19 := c19
        rw [fa_le] at d19
        refine lv_iconst (v := (-1)) hx hb dX9_job_22 (by decide) ?_
        refine W.widen (k := 7) (n := 588) (Nat.le_of_ble_eq_true rfl) (Nat.le_of_ble_eq_true rfl) ?_
        exact W.iret (v := ((-1) : Int32)) hx hb hr (fun t ht hW => ⟨⟨_, (G3, w3), rfl, ⟨hX, ⟨_, hM_o⟩⟩, by show va_P D vwCl w3 t.heap; rw [ht]; exact hP, hD, hT⟩, hS.F ht⟩) hS.2.2 dX9_job_23
set_option maxHeartbeats 4000000 in
set_option maxRecDepth 100000 in
theorem c_X9_tellsListApart_x (l : Launch) (D : va_G) (cy : Nat → ClassId) (A : Nat → Prop) (G : cG) (ws : va_W) (o : Nat) (set : Int32) {bs_o js_o sh_o wk_o ll_o : Nat} {jc_o lc_o : Int32} {mo_o lb_o : Option Nat} {fl : Nat → Int64} {lw lh : Nat} (hD : va_D A ws) (hT : cT cy G ws) (hG_o : G o = some (7, 0, 0)) (hM_o : cIn ws o (.inr (8, [.ref bs_o, .ref js_o, .int jc_o, .ref sh_o, .ref wk_o, va_rf mo_o, .ref ll_o, .int lc_o, va_rf lb_o]))) (hM_ll_o : cIn ws ll_o (.inl (cy 1, 12, .inr (.inl fl)))) (hlb9 : lsB G lb_o lc_o lw lh) : Ci l D cy A yX9_tellsListApart wsX9_tellsListApart ({ frames := 4, cells := 0, slots := 0, locals := 98 }) 0 0 ws [.ref o, .int set] (fun r0 u => u = (G, ws) ∧ (Bo r0 (telA fl lc_o lw lh set))) := by
  refine Met.ofW (cc := cX9_tellsListApart) (maxL := 4) (ret := (some .boolean)) (by decide) rfl ?_
  intro p e s m args below meth c s₁ B hml hv
  obtain ⟨rfl, hP, hK, hA, hV⟩ := hv
  have hx := B.exec
  have hb := B.bytes
  have hr := B.returns
  have hts := atoms_spec (ws := wsX9_tellsListApart) B.pre
  have hown : s.vm.findClass RX9 = some m.cls := findClass_of_methodNamed B.named
  have hlocks := B.notSynchronized
  have hS : va_S A s.heap s.heap [] := va_S.rf
  have hl := lv_entry ([.ref o, .int set]) (n := 4) (Nat.le_of_ble_eq_true rfl)
  rw [lg_entry_eq]
  generalize (lg_sl ([.ref o, .int set]) ++ List.replicate (4 - (lg_sl ([.ref o, .int set])).length) Slot.unset).toArray = ls at hl ⊢
  have hl : lv_has ls 4 [(0, .ref o), (1, .int set)] := hl
  have k_0 : (0 : Int32).toInt = 0 := by decide
  have k_1 : (1 : Int32).toInt = 1 := by decide
  have k_12 : (12 : Int32).toInt = 12 := by decide
  obtain ⟨hjc_o, hlc_o, hG_bs_o, hG_js_o, hG_sh_o, hG_wk_o, hmo_o, hG_ll_o, hlb_o⟩ := w7sh hD hT hG_o hM_o
  refine lv_iconst (v := 1) hx hb dX9_tellsListApart_0 (by decide) ?_
  refine lv_istore_n (lv' := [(2, .int (1 : Int32)), (0, .ref o), (1, .int set)]) hx hb dX9_tellsListApart_1 rfl hl (by decide) rfl (fun ls hl => ?_)
  have loop_2 : ∀ (n : Nat) (k : Nat), (1 ≤ k ∧ k ≤ 12) → (∀ a b : Nat, a < k → b < a → ∃ j, j < 4 ∧ unl lw lh (fl a) (fl b) set j) → 12 - k < n → ∀ (H : Heap) (locs : List Loc), va_P D vwCl ws H → va_S A s.heap H locs → ∀ (ls : Array Slot), lv_has ls 4 [(2, .int (nI k)), (0, .ref o), (1, .int set)] → W p l e (headSpec wsX9_tellsListApart ({ frames := 4, cells := 0, slots := 0, locals := 98 })).room s m #[Value.ref o, Value.int set] below meth c H locs 0 0 (MQ below (va_Qi (fun r0 u => u = (G, ws) ∧ (Bo r0 (telA fl lc_o lw lh set))) (cB D cy A) A) #[Value.ref o, Value.int set] s 0 0 A) (F0 m 2 ls []) := by
    intro n
    induction n with
    | zero => intro k j2_0 j2_1 hn; exact absurd hn (Nat.not_lt_zero _)
    | succ n ih_2 =>
      intro k j2_0 j2_1 hn_2 H locs hP hS  ls hl
      have ik : (nI k).toInt = (k : Int) := nI_toInt (by omega)
      refine lv_iload_n hx hb dX9_tellsListApart_2 rfl (lv_at hl 0 rfl) ?_
      refine lv_aload_n hx hb dX9_tellsListApart_3 rfl (lv_at hl 1 rfl) ?_
      refine t_get (v := .int lc_o) (C := RX9) (T := TX9) (N := 9) hx hb hts (by decide +kernel) hown hK hP hM_o rfl 7 (by decide) (hts (.fieldLink RX9 46 "ShadowBench" "listCount" "I") (by decide +kernel)) (fun _ h9 => h9) rfl dX9_tellsListApart_4 ?_
      refine lv_icmp_ge (tgt := 67) hx hb dX9_tellsListApart_7 (by decide) (fun c7 => ?_) (fun c7 => ?_)
      · skip
        have d7 := c7
        rw [fa_le] at d7
        refine lv_iconst (v := 1) hx hb dX9_tellsListApart_67 (by decide) ?_
        exact W.zret (v := (1 : Int32)) hx hb hr (by decide) (fun t ht hW => ⟨⟨_, (G, ws), rfl, ⟨rfl, Or.inl ⟨rfl, (fun a9 b9 h9 h8 => j2_1 a9 b9 (by omega) h8)⟩⟩, by show va_P D vwCl ws t.heap; rw [ht]; exact hP, hD, hT⟩, hS.F ht⟩) hS.2.2 dX9_tellsListApart_68
      · skip
        have d7 := c7
        rw [fa_le] at d7
        refine lv_iload_n hx hb dX9_tellsListApart_10 rfl (lv_at hl 0 rfl) ?_
        refine lv_bipush (v := 12) hx hb dX9_tellsListApart_11 (by decide) ?_
        refine lv_icmp_ge (tgt := 67) hx hb dX9_tellsListApart_13 (by decide) (fun c13 => ?_) (fun c13 => ?_)
        · skip
          have d13 := c13
          rw [fa_le] at d13
          refine lv_iconst (v := 1) hx hb dX9_tellsListApart_67 (by decide) ?_
          exact W.zret (v := (1 : Int32)) hx hb hr (by decide) (fun t ht hW => ⟨⟨_, (G, ws), rfl, ⟨rfl, Or.inl ⟨rfl, (fun a9 b9 h9 h8 => j2_1 a9 b9 (by omega) h8)⟩⟩, by show va_P D vwCl ws t.heap; rw [ht]; exact hP, hD, hT⟩, hS.F ht⟩) hS.2.2 dX9_tellsListApart_68
        · skip
          have d13 := c13
          rw [fa_le] at d13
          refine lv_iconst (v := 0) hx hb dX9_tellsListApart_16 (by decide) ?_
          refine lv_istore_n (lv' := [(3, .int (0 : Int32)), (2, .int (nI k)), (0, .ref o), (1, .int set)]) hx hb dX9_tellsListApart_17 rfl hl (by decide) rfl (fun ls hl => ?_)
          have loop_18 : ∀ (n : Nat) (i : Nat), (i ≤ 12) → (∀ b : Nat, b < i → ∃ j, j < 4 ∧ unl lw lh (fl k) (fl b) set j) → 12 - i < n → ∀ (H : Heap) (locs : List Loc), va_P D vwCl ws H → va_S A s.heap H locs → ∀ (ls : Array Slot), lv_has ls 4 [(3, .int (nI i)), (2, .int (nI k)), (0, .ref o), (1, .int set)] → W p l e (headSpec wsX9_tellsListApart ({ frames := 4, cells := 0, slots := 0, locals := 98 })).room s m #[Value.ref o, Value.int set] below meth c H locs 0 0 (MQ below (va_Qi (fun r0 u => u = (G, ws) ∧ (Bo r0 (telA fl lc_o lw lh set))) (cB D cy A) A) #[Value.ref o, Value.int set] s 0 0 A) (F0 m 18 ls []) := by
            intro n
            induction n with
            | zero => intro i j18_0 j18_1 hn; exact absurd hn (Nat.not_lt_zero _)
            | succ n ih_18 =>
              intro i j18_0 j18_1 hn_18 H locs hP hS  ls hl
              have ii : (nI i).toInt = (i : Int) := nI_toInt (by omega)
              refine lv_iload_n hx hb dX9_tellsListApart_18 rfl (lv_at hl 0 rfl) ?_
              refine lv_iload_n hx hb dX9_tellsListApart_19 rfl (lv_at hl 1 rfl) ?_
              refine lv_icmp_ge (tgt := 61) hx hb dX9_tellsListApart_20 (by decide) (fun c20 => ?_) (fun c20 => ?_)
              · skip
                have d20 := c20
                rw [fa_le] at d20
                refine lv_iinc (v := (nI (k + 1))) (lv' := [(2, .int (nI (k + 1))), (3, .int (nI i)), (0, .ref o), (1, .int set)]) hx hb dX9_tellsListApart_61 hl (k := 1) rfl (nI_1 _) (by decide) rfl (fun ls hl => ?_)
                refine lv_goto (tgt := 2) hx hb dX9_tellsListApart_64 (by decide) ?_
                exact ih_2 (k + 1) (by omega) (fun a b h1 h2 => by
            by_cases e9 : a = k
            · rw [e9] at h2 ⊢; exact j18_1 b (by omega)
            · exact j2_1 a b (by omega) h2) (by omega) _ _ hP hS  ls (lv_sub hl [0, 2, 3] rfl)
              · skip
                have d20 := c20
                rw [fa_le] at d20
                refine lv_aload_n hx hb dX9_tellsListApart_23 rfl (lv_at hl 2 rfl) ?_
                have hoq : lb_o = none ∨ ∃ x, lb_o = some x := by cases lb_o; exact Or.inl rfl; exact Or.inr ⟨_, rfl⟩
                rcases hoq with hopt | ⟨x24, hopt⟩
                · skip
                  rw [hopt] at hM_o
                  have hM_o : cIn ws o (.inr (8, [.ref bs_o, .ref js_o, .int jc_o, .ref sh_o, .ref wk_o, va_rf mo_o, .ref ll_o, .int lc_o, .null])) := hM_o
                  have hl0 := hlb9.nil hopt
                  refine t_get (v := .null) (C := RX9) (T := TX9) (N := 9) hx hb hts (by decide +kernel) hown hK hP hM_o rfl 8 (by decide) (hts (.fieldLink RX9 49 "ShadowBench" "listBoard" "LShadowBench$Board;") (by decide +kernel)) (fun _ h9 => h9) rfl dX9_tellsListApart_24 ?_
                  refine lv_ifnullN (tgt := 53) hx hb dX9_tellsListApart_27 (by decide) ?_
                  refine lv_iconst (v := 0) hx hb dX9_tellsListApart_53 (by decide) ?_
                  exact W.zret (v := (0 : Int32)) hx hb hr (by decide) (fun t ht hW => ⟨⟨_, (G, ws), rfl, ⟨rfl, Or.inr ⟨rfl, (fun z9 => by first | (exfalso; omega) | (obtain ⟨j9, h9, y9⟩ := z9 k i (by omega) (by omega); rcases q47 with ⟨k8, h8, e8, -, -⟩ | ⟨e8, y8⟩; (have z8 : (nI k8).toInt = (k8 : Int) := nI_toInt (by omega)); (rw [e8] at d50; omega); exact y8 j9 h9 y9))⟩⟩, by show va_P D vwCl ws t.heap; rw [ht]; exact hP, hD, hT⟩, hS.F ht⟩) hS.2.2 dX9_tellsListApart_54
                · skip
                  obtain ⟨wx24, hx24, hG_x24⟩ := hlb_o x24 hopt
                  rw [hopt] at hM_o
                  have hM_o : cIn ws o (.inr (8, [.ref bs_o, .ref js_o, .int jc_o, .ref sh_o, .ref wk_o, va_rf mo_o, .ref ll_o, .int lc_o, .ref x24])) := hM_o
                  have hl1 := hlb9.one hopt hG_x24
                  refine t_get (v := .ref x24) (C := RX9) (T := TX9) (N := 9) hx hb hts (by decide +kernel) hown hK hP hM_o rfl 8 (by decide) (hts (.fieldLink RX9 49 "ShadowBench" "listBoard" "LShadowBench$Board;") (by decide +kernel)) (fun _ h9 => h9) rfl dX9_tellsListApart_24 ?_
                  refine lv_ifnull hx hb dX9_tellsListApart_27 ?_
                  refine lv_aload_n hx hb dX9_tellsListApart_30 rfl (lv_at hl 2 rfl) ?_
                  refine t_get (v := .ref x24) (C := RX9) (T := TX9) (N := 9) hx hb hts (by decide +kernel) hown hK hP hM_o rfl 8 (by decide) (hts (.fieldLink RX9 49 "ShadowBench" "listBoard" "LShadowBench$Board;") (by decide +kernel)) (fun _ h9 => h9) rfl dX9_tellsListApart_31 ?_
                  refine lv_aload_n hx hb dX9_tellsListApart_34 rfl (lv_at hl 2 rfl) ?_
                  refine t_get (v := .ref ll_o) (C := RX9) (T := TX9) (N := 9) hx hb hts (by decide +kernel) hown hK hP hM_o rfl 6 (by decide) (hts (.fieldLink RX9 42 "ShadowBench" "listed" "[J") (by decide +kernel)) (fun _ h9 => h9) rfl dX9_tellsListApart_35 ?_
                  refine lv_iload_n hx hb dX9_tellsListApart_38 rfl (lv_at hl 1 rfl) ?_
                  refine t_laldM hx hb hK hP hM_ll_o (vp_in_iff.mpr ⟨by omega, by omega⟩) dX9_tellsListApart_39 ?_
                  refine lv_topl (fun v39 e39 => ?_)
                  have f39 : v39 = fl k := by rw [e39, nI_clamp (by omega)]
                  refine lv_aload_n hx hb dX9_tellsListApart_40 rfl (lv_at hl 2 rfl) ?_
                  refine t_get (v := .ref ll_o) (C := RX9) (T := TX9) (N := 9) hx hb hts (by decide +kernel) hown hK hP hM_o rfl 6 (by decide) (hts (.fieldLink RX9 42 "ShadowBench" "listed" "[J") (by decide +kernel)) (fun _ h9 => h9) rfl dX9_tellsListApart_41 ?_
                  refine lv_iload_n hx hb dX9_tellsListApart_44 rfl (lv_at hl 0 rfl) ?_
                  refine t_laldM hx hb hK hP hM_ll_o (vp_in_iff.mpr ⟨by omega, by omega⟩) dX9_tellsListApart_45 ?_
                  refine lv_topl (fun v45 e45 => ?_)
                  have f45 : v45 = fl i := by rw [e45, nI_clamp (by omega)]
                  refine lv_iload_n hx hb dX9_tellsListApart_46 rfl (lv_at hl 3 rfl) ?_
                  obtain ⟨_, hM_x24, hb_x24, l_x24, f_x24, r_x24, rfl, hG_l_x24, hG_f_x24, hG_r_x24⟩ := hT _ _ hG_x24
                  refine t_calli (va_runV (g := F0 m 47 ls ([.int set, .long v45, .long v39, .ref x24])) (As := [.long v39, .long v45, .int set]) (rest := []) ⟨hx, hb, hml, hown, hts⟩ (c_X0_firstUnlikeWay_x l D cy A G ws x24 v39 v45 set hD hT hG_x24 ) (cwV 3 hts gX9_tellsListApart_X0_firstUnlikeWay rfl rfl rfl (by decide +kernel) ⟨Nat.le_of_ble_eq_true rfl, Nat.le_of_ble_eq_true rfl⟩) (c_preV hM_x24 rfl hP hK hA hS hV) rfl rfl hl.1 rfl (lv_room (Nat.le_of_ble_eq_true rfl)) dX9_tellsListApart_47 ⟨Nat.le_of_ble_eq_true rfl, Nat.le_of_ble_eq_true rfl⟩) hS (fun r47 u H locs q47 hP9 hD9 hT9 hS => ?_)
                  obtain ⟨rfl, q47⟩ := q47
                  have hP : va_P D vwCl ws H := hP9
                  rw [hl1.2.1, hl1.2.2, f39, f45] at q47
                  refine lv_if_ge (tgt := 55) hx hb dX9_tellsListApart_50 (by decide) (fun c50 => ?_) (fun c50 => ?_)
                  · skip
                    have d50 := c50
                    rw [fa_le] at d50
                    refine lv_iinc (v := (nI (i + 1))) (lv' := [(3, .int (nI (i + 1))), (2, .int (nI k)), (0, .ref o), (1, .int set)]) hx hb dX9_tellsListApart_55 hl (k := 0) rfl (nI_1 _) (by decide) rfl (fun ls hl => ?_)
                    refine lv_goto (tgt := 18) hx hb dX9_tellsListApart_58 (by decide) ?_
                    exact ih_18 (i + 1) (by omega) (fun b h1 => by
            by_cases e9 : b = i
            · rw [e9]
              rcases q47 with ⟨k8, h8, e8, y8, -⟩ | ⟨e8, y8⟩
              · exact ⟨k8, h8, y8⟩
              · exfalso
                rw [e8] at d50
                have z8 : (-1 : Int32).toInt = -1 := rfl
                omega
            · exact j18_1 b (by omega)) (by omega) _ _ hP hS  ls (lv_sub hl [0, 1, 2, 3] rfl)
                  · skip
                    have d50 := c50
                    rw [fa_le] at d50
                    refine lv_iconst (v := 0) hx hb dX9_tellsListApart_53 (by decide) ?_
                    exact W.zret (v := (0 : Int32)) hx hb hr (by decide) (fun t ht hW => ⟨⟨_, (G, ws), rfl, ⟨rfl, Or.inr ⟨rfl, (fun z9 => by first | (exfalso; omega) | (obtain ⟨j9, h9, y9⟩ := z9 k i (by omega) (by omega); rcases q47 with ⟨k8, h8, e8, -, -⟩ | ⟨e8, y8⟩; (have z8 : (nI k8).toInt = (k8 : Int) := nI_toInt (by omega)); (rw [e8] at d50; omega); exact y8 j9 h9 y9))⟩⟩, by show va_P D vwCl ws t.heap; rw [ht]; exact hP, hD, hT⟩, hS.F ht⟩) hS.2.2 dX9_tellsListApart_54
          exact loop_18 (12 + 1) 0 (by omega) (fun b h => absurd h (Nat.not_lt_zero _)) (by omega) _ _ hP hS  ls (lv_sub hl [0, 1, 2, 3] rfl)
  exact loop_2 (12 + 1) 1 (by omega) (fun a b h1 h2 => by omega) (by omega) _ _ hP hS  ls (lv_sub hl [0, 1, 2] rfl)
set_option maxHeartbeats 4000000 in
set_option maxRecDepth 100000 in
theorem c_X9_ways_x (l : Launch) (D : va_G) (cy : Nat → ClassId) (A : Nat → Prop) (G : cG) (ws : va_W) (o : Nat) {bs_o js_o sh_o wk_o ll_o : Nat} {jc_o lc_o : Int32} {mo_o lb_o : Option Nat} {fl : Nat → Int64} {lw lh : Nat} (hD : va_D A ws) (hT : cT cy G ws) (hG_o : G o = some (7, 0, 0)) (hM_o : cIn ws o (.inr (8, [.ref bs_o, .ref js_o, .int jc_o, .ref sh_o, .ref wk_o, va_rf mo_o, .ref ll_o, .int lc_o, va_rf lb_o]))) (hM_ll_o : cIn ws ll_o (.inl (cy 1, 12, .inr (.inl fl)))) (hlb9 : lsB G lb_o lc_o lw lh) : Ci l D cy A yX9_ways wsX9_ways ({ frames := 5, cells := 0, slots := 0, locals := 121 }) 0 0 ws [.ref o] (fun r0 u => u = (G, ws) ∧ (wyA (fun s => telA fl lc_o lw lh (nI s)) r0)) := by
  refine Met.ofW (cc := cX9_ways) (maxL := 3) (ret := (some .int)) (by decide) rfl ?_
  intro p e s m args below meth c s₁ B hml hv
  obtain ⟨rfl, hP, hK, hA, hV⟩ := hv
  have hx := B.exec
  have hb := B.bytes
  have hr := B.returns
  have hts := atoms_spec (ws := wsX9_ways) B.pre
  have hown : s.vm.findClass RX9 = some m.cls := findClass_of_methodNamed B.named
  have hlocks := B.notSynchronized
  have hS : va_S A s.heap s.heap [] := va_S.rf
  have hl := lv_entry ([.ref o]) (n := 3) (Nat.le_of_ble_eq_true rfl)
  rw [lg_entry_eq]
  generalize (lg_sl ([.ref o]) ++ List.replicate (3 - (lg_sl ([.ref o])).length) Slot.unset).toArray = ls at hl ⊢
  have hl : lv_has ls 3 [(0, .ref o)] := hl
  have k_m2 : (-2 : Int32).toInt = -2 := by decide
  have k_0 : (0 : Int32).toInt = 0 := by decide
  have k_4 : (4 : Int32).toInt = 4 := by decide
  have k_16 : (16 : Int32).toInt = 16 := by decide
  obtain ⟨hjc_o, hlc_o, hG_bs_o, hG_js_o, hG_sh_o, hG_wk_o, hmo_o, hG_ll_o, hlb_o⟩ := w7sh hD hT hG_o hM_o
  refine lv_iconst (v := 0) hx hb dX9_ways_0 (by decide) ?_
  refine lv_istore_n (lv' := [(1, .int (0 : Int32)), (0, .ref o)]) hx hb dX9_ways_1 rfl hl (by decide) rfl (fun ls hl => ?_)
  have loop_2 : ∀ (n : Nat) (k : Nat), (k ≤ 5) → (∀ m t, m < k → t < 16 → ¬ (pc4 t = m ∧ telA fl lc_o lw lh (nI t))) → 5 - k < n → ∀ (H : Heap) (locs : List Loc), va_P D vwCl ws H → va_S A s.heap H locs → ∀ (ls : Array Slot), lv_has ls 3 [(1, .int (nI k)), (0, .ref o)] → W p l e (headSpec wsX9_ways ({ frames := 5, cells := 0, slots := 0, locals := 121 })).room s m #[Value.ref o] below meth c H locs 0 0 (MQ below (va_Qi (fun r0 u => u = (G, ws) ∧ (wyA (fun s => telA fl lc_o lw lh (nI s)) r0)) (cB D cy A) A) #[Value.ref o] s 0 0 A) (F0 m 2 ls []) := by
    intro n
    induction n with
    | zero => intro k j2_0 j2_1 hn; exact absurd hn (Nat.not_lt_zero _)
    | succ n ih_2 =>
      intro k j2_0 j2_1 hn_2 H locs hP hS  ls hl
      have ik : (nI k).toInt = (k : Int) := nI_toInt (by omega)
      refine lv_iload_n hx hb dX9_ways_2 rfl (lv_at hl 0 rfl) ?_
      refine lv_iconst (v := 4) hx hb dX9_ways_3 (by decide) ?_
      refine lv_icmp_gt (tgt := 45) hx hb dX9_ways_4 (by decide) (fun c4 => ?_) (fun c4 => ?_)
      · skip
        have d4 := c4
        rw [fa_lt] at d4
        refine lv_bipush (v := (-2)) hx hb dX9_ways_45 (by decide) ?_
        exact W.iret (v := ((-2) : Int32)) hx hb hr (fun t ht hW => ⟨⟨_, (G, ws), rfl, ⟨rfl, (Or.inr ⟨rfl, fun m9 t9 h9 h8 => j2_1 m9 t9 (by omega) h8⟩)⟩, by show va_P D vwCl ws t.heap; rw [ht]; exact hP, hD, hT⟩, hS.F ht⟩) hS.2.2 dX9_ways_47
      · skip
        have d4 := c4
        rw [fa_lt] at d4
        refine lv_iconst (v := 0) hx hb dX9_ways_7 (by decide) ?_
        refine lv_istore_n (lv' := [(2, .int (0 : Int32)), (1, .int (nI k)), (0, .ref o)]) hx hb dX9_ways_8 rfl hl (by decide) rfl (fun ls hl => ?_)
        have loop_9 : ∀ (n : Nat) (i : Nat), (i ≤ 16) → (∀ t, t < i → ¬ (pc4 t = k ∧ telA fl lc_o lw lh (nI t))) → 16 - i < n → ∀ (H : Heap) (locs : List Loc), va_P D vwCl ws H → va_S A s.heap H locs → ∀ (ls : Array Slot), lv_has ls 3 [(2, .int (nI i)), (1, .int (nI k)), (0, .ref o)] → W p l e (headSpec wsX9_ways ({ frames := 5, cells := 0, slots := 0, locals := 121 })).room s m #[Value.ref o] below meth c H locs 0 0 (MQ below (va_Qi (fun r0 u => u = (G, ws) ∧ (wyA (fun s => telA fl lc_o lw lh (nI s)) r0)) (cB D cy A) A) #[Value.ref o] s 0 0 A) (F0 m 9 ls []) := by
          intro n
          induction n with
          | zero => intro i j9_0 j9_1 hn; exact absurd hn (Nat.not_lt_zero _)
          | succ n ih_9 =>
            intro i j9_0 j9_1 hn_9 H locs hP hS  ls hl
            have ii : (nI i).toInt = (i : Int) := nI_toInt (by omega)
            refine lv_iload_n hx hb dX9_ways_9 rfl (lv_at hl 0 rfl) ?_
            refine lv_bipush (v := 16) hx hb dX9_ways_10 (by decide) ?_
            refine lv_icmp_ge (tgt := 39) hx hb dX9_ways_12 (by decide) (fun c12 => ?_) (fun c12 => ?_)
            · skip
              have d12 := c12
              rw [fa_le] at d12
              refine lv_iinc (v := (nI (k + 1))) (lv' := [(1, .int (nI (k + 1))), (2, .int (nI i)), (0, .ref o)]) hx hb dX9_ways_39 hl (k := 1) rfl (nI_1 _) (by decide) rfl (fun ls hl => ?_)
              refine lv_goto (tgt := 2) hx hb dX9_ways_42 (by decide) ?_
              exact ih_2 (k + 1) (by omega) (fun m t h1 h2 => by
            by_cases e9 : m = k
            · rw [e9]; exact j9_1 t (by omega)
            · exact j2_1 m t (by omega) h2) (by omega) _ _ hP hS  ls (lv_sub hl [0, 2] rfl)
            · skip
              have d12 := c12
              rw [fa_le] at d12
              refine lv_iload_n hx hb dX9_ways_15 rfl (lv_at hl 0 rfl) ?_
              refine t_pu (As := [.int (nI i)]) (rest := []) ⟨hx, hb, hml, hown, hts⟩ (c_J6_x l (nI i) (by omega)) (va_cwS 1 hts gX9_ways_J6_bitCount_0f7a4 rfl rfl rfl (by decide +kernel) ⟨Nat.le_of_ble_eq_true rfl, Nat.le_of_ble_eq_true rfl⟩) hP rfl hl.1 rfl (Nat.le_of_ble_eq_true rfl) dX9_ways_16 ⟨Nat.le_of_ble_eq_true rfl, Nat.le_of_ble_eq_true rfl⟩ hS (fun r16 H locs q16 hP hS => ?_)
              have f16 : r16 = nI (pc4 i) := by rw [q16, nI_clamp (by omega)]
              have b16 := pc4_le i
              have g16 : r16 = nI k ↔ pc4 i = k := by rw [f16]; exact nI_eq (by omega) (by omega)
              refine lv_iload_n hx hb dX9_ways_19 rfl (lv_at hl 1 rfl) ?_
              refine lv_icmp_ne (tgt := 33) hx hb dX9_ways_20 (by decide) (fun c20 => ?_) (fun c20 => ?_)
              · skip
                have d20 := c20
                rw [fa_eq] at d20
                refine lv_iinc (v := (nI (i + 1))) (lv' := [(2, .int (nI (i + 1))), (1, .int (nI k)), (0, .ref o)]) hx hb dX9_ways_33 hl (k := 0) rfl (nI_1 _) (by decide) rfl (fun ls hl => ?_)
                refine lv_goto (tgt := 9) hx hb dX9_ways_36 (by decide) ?_
                exact ih_9 (i + 1) (by omega) (fun t h1 => by
            by_cases e9 : t = i
            · rw [e9]; first | exact fun z9 => c20 (g16.mpr z9.1) | exact fun z9 => b28 z9.2
            · exact j9_1 t (by omega)) (by omega) _ _ hP hS  ls (lv_sub hl [0, 1, 2] rfl)
              · skip
                have d20 := c20
                rw [fa_eq] at d20
                refine lv_aload_n hx hb dX9_ways_23 rfl (lv_at hl 2 rfl) ?_
                refine lv_iload_n hx hb dX9_ways_24 rfl (lv_at hl 0 rfl) ?_
                refine t_calli (va_runV (g := F0 m 25 ls ([.int (nI i), .ref o])) (As := [.int (nI i)]) (rest := []) ⟨hx, hb, hml, hown, hts⟩ (c_X9_tellsListApart_x l D cy A G ws o (nI i) hD hT hG_o hM_o hM_ll_o hlb9) (cwV 1 hts gX9_ways_X9_tellsListApart rfl rfl rfl (by decide +kernel) ⟨Nat.le_of_ble_eq_true rfl, Nat.le_of_ble_eq_true rfl⟩) (c_preV hM_o rfl hP hK hA hS hV) rfl rfl hl.1 rfl (lv_room (Nat.le_of_ble_eq_true rfl)) dX9_ways_25 ⟨Nat.le_of_ble_eq_true rfl, Nat.le_of_ble_eq_true rfl⟩) hS (fun r25 u H locs q25 hP9 hD9 hT9 hS => ?_)
                obtain ⟨rfl, q25⟩ := q25
                have hP : va_P D vwCl ws H := hP9
                refine lv_if_eq (tgt := 33) hx hb dX9_ways_28 (by decide) (fun c28 => ?_) (fun c28 => ?_)
                · skip
                  have b28 := bo_f q25 c28
                  refine lv_iinc (v := (nI (i + 1))) (lv' := [(2, .int (nI (i + 1))), (1, .int (nI k)), (0, .ref o)]) hx hb dX9_ways_33 hl (k := 0) rfl (nI_1 _) (by decide) rfl (fun ls hl => ?_)
                  refine lv_goto (tgt := 9) hx hb dX9_ways_36 (by decide) ?_
                  exact ih_9 (i + 1) (by omega) (fun t h1 => by
            by_cases e9 : t = i
            · rw [e9]; first | exact fun z9 => c20 (g16.mpr z9.1) | exact fun z9 => b28 z9.2
            · exact j9_1 t (by omega)) (by omega) _ _ hP hS  ls (lv_sub hl [0, 1, 2] rfl)
                · skip
                  have b28 := bo_t q25 c28
                  refine lv_iload_n hx hb dX9_ways_31 rfl (lv_at hl 0 rfl) ?_
                  exact W.iret (v := (nI i)) hx hb hr (fun t ht hW => ⟨⟨_, (G, ws), rfl, ⟨rfl, (Or.inl ⟨k, i, (by omega), (by omega), ⟨g16.mp c20, b28⟩, rfl, j2_1, j9_1⟩)⟩, by show va_P D vwCl ws t.heap; rw [ht]; exact hP, hD, hT⟩, hS.F ht⟩) hS.2.2 dX9_ways_32
        exact loop_9 (16 + 1) 0 (by omega) (fun t h => absurd h (Nat.not_lt_zero _)) (by omega) _ _ hP hS  ls (lv_sub hl [0, 1, 2] rfl)
  exact loop_2 (5 + 1) 0 (by omega) (fun m t h => absurd h (Nat.not_lt_zero _)) (by omega) _ _ hP hS  ls (lv_sub hl [0, 1] rfl)

set_option maxHeartbeats 4000000 in
set_option maxRecDepth 100000 in
theorem c_X10_list_x (l : Launch) (D : va_G) (cy : Nat → ClassId) (mo : Nat) (a : Nat → Nat) (f : Nat → Int32) (g : Nat → Int64) (r : Nat → Nat → Int32) (q : Nat → Nat → Int64) (w : Int32) (h : Int32) (p0 : Int64) (hD : DM cy mo a) (hI : MI f r) : Mi l D cy mo a yX10_list wsX10_list ({ frames := 3, cells := 0, slots := 0, locals := 69 }) f g r q [.int w, .int h, .long p0] (fun r0 u => ∃ (lc : Int32), ∃ (lw : Int32), ∃ (lh : Int32), ∃ (ls1 : Nat → Int64), u = ((upd (upd (upd (upd f 0 (0 : Int32)) 23 lc) 24 lw) 25 lh), g, r, (va_up q 26 ls1)) ∧ (lsA (q 26) (f 23) (f 24).toNatClampNeg (f 25).toNatClampNeg w h p0 r0 ∧ ((lsG (q 26) (f 23) (f 24).toNatClampNeg (f 25).toNatClampNeg w h p0 ∧ lc.toInt = (f 23).toInt + 1 ∧ lw = w ∧ lh = h ∧ ls1 = vp_updL (q 26) (f 23).toNatClampNeg p0) ∨ (¬ lsG (q 26) (f 23) (f 24).toNatClampNeg (f 25).toNatClampNeg w h p0 ∧ lc = f 23 ∧ lw = f 24 ∧ lh = f 25 ∧ ls1 = q 26)) ∧ MI (upd (upd (upd (upd f 0 (0 : Int32)) 23 lc) 24 lw) 25 lh) r)) := by
  refine Met.ofW (cc := cX10_list) (maxL := 7) (ret := (some .int)) (by decide) rfl ?_
  intro p e s m args below meth c s₁ B hml hv
  obtain ⟨rfl, hP, hK⟩ := hv
  have hx := B.exec
  have hb := B.bytes
  have hr := B.returns
  have hts := atoms_spec (ws := wsX10_list) B.pre
  have hin : ∀ w ∈ u_ws RX10 TX10 35, w ∈ wsX10_list := by decide +kernel
  have hown : s.vm.findClass RX10 = some m.cls := findClass_of_methodNamed B.named
  have hlocks := B.notSynchronized
  have hS : va_S (AM mo a) s.heap s.heap [] := va_S.rf
  have hl := lv_entry ([.ref mo, .int w, .int h, .long p0]) (n := 7) (Nat.le_of_ble_eq_true rfl)
  rw [lg_entry_eq]
  generalize (lg_sl ([.ref mo, .int w, .int h, .long p0]) ++ List.replicate (7 - (lg_sl ([.ref mo, .int w, .int h, .long p0])).length) Slot.unset).toArray = ls at hl ⊢
  have hl : lv_has ls 7 [(0, .ref mo), (1, .int w), (2, .int h), (3, .long p0)] := hl
  have k_m3 : (-3 : Int32).toInt = -3 := by decide
  have k_m2 : (-2 : Int32).toInt = -2 := by decide
  have k_m1 : (-1 : Int32).toInt = -1 := by decide
  have k_0 : (0 : Int32).toInt = 0 := by decide
  have k_1 : (1 : Int32).toInt = 1 := by decide
  have k_12 : (12 : Int32).toInt = 12 := by decide
  have hI1 := hI.2.2.1
  refine lv_aload_n hx hb dX10_list_0 rfl (lv_at hl 0 rfl) ?_
  refine lv_iconst (v := 0) hx hb dX10_list_1 (by decide) ?_
  refine m_put (v := .int (0 : Int32)) (ty := .int) hx hb hts hin hown hK hP hD hS 0 (by decide) rfl (hts (.fieldLink RX10 79 "ShadowBenchModel" "thrown" "I") (by decide +kernel)) rfl (by decide +kernel) rfl rfl (upd f 0 (0 : Int32)) g rfl dX10_list_2 (fun H locs hP hS => ?_)
  refine lv_iload_n hx hb dX10_list_5 rfl (lv_at hl 1 rfl) ?_
  refine lv_iload_n hx hb dX10_list_6 rfl (lv_at hl 2 rfl) ?_
  refine lv_lload_n hx hb dX10_list_7 rfl (lv_at hl 3 rfl) ?_
  refine m_pu (As := [.int w, .int h, .long p0]) (rest := []) ⟨hx, hb, hml, hown, hts⟩ (c_X10_isPicture l w h p0 ) (va_cwS 3 hts gX10_list_X10_isPicture rfl rfl rfl (by decide +kernel) ⟨Nat.le_of_ble_eq_true rfl, Nat.le_of_ble_eq_true rfl⟩) hP rfl hl.1 rfl (Nat.le_of_ble_eq_true rfl) dX10_list_8 ⟨Nat.le_of_ble_eq_true rfl, Nat.le_of_ble_eq_true rfl⟩ hS (fun r8 H locs q8 hP hS => ?_)
  refine lv_if_ne (tgt := 16) hx hb dX10_list_11 (by decide) (fun c11 => ?_) (fun c11 => ?_)
  · skip
    have b11 := bo_t q8 c11
    refine lv_aload_n hx hb dX10_list_16 rfl (lv_at hl 0 rfl) ?_
    refine m_get (v := .int (f 23)) hx hb hts hin hown hK hP 23 (by decide) rfl (hts (.fieldLink RX10 230 "ShadowBenchModel" "listed" "I") (by decide +kernel)) rfl dX10_list_17 ?_
    refine lv_bipush (v := 12) hx hb dX10_list_20 (by decide) ?_
    refine lv_icmp_ne (tgt := 28) hx hb dX10_list_22 (by decide) (fun c22 => ?_) (fun c22 => ?_)
    · skip
      have d22 := c22
      rw [fa_eq] at d22
      refine lv_aload_n hx hb dX10_list_28 rfl (lv_at hl 0 rfl) ?_
      refine m_get (v := .int (f 23)) hx hb hts hin hown hK hP 23 (by decide) rfl (hts (.fieldLink RX10 230 "ShadowBenchModel" "listed" "I") (by decide +kernel)) rfl dX10_list_29 ?_
      refine lv_if_le (tgt := 55) hx hb dX10_list_32 (by decide) (fun c32 => ?_) (fun c32 => ?_)
      · skip
        have d32 := c32
        rw [fa_le] at d32
        refine lv_iconst (v := 0) hx hb dX10_list_55 (by decide) ?_
        refine lv_istore (lv' := [(5, .int (0 : Int32)), (0, .ref mo), (1, .int w), (2, .int h), (3, .long p0)]) hx hb dX10_list_56 hl (by decide) rfl (fun ls hl => ?_)
        refine lv_iconst (v := 0) hx hb dX10_list_58 (by decide) ?_
        refine lv_istore (lv' := [(6, .int (0 : Int32)), (5, .int (0 : Int32)), (0, .ref mo), (1, .int w), (2, .int h), (3, .long p0)]) hx hb dX10_list_59 hl (by decide) rfl (fun ls hl => ?_)
        have loop_61 : ∀ (n : Nat) (k : Nat) (x5 : Int32), (k ≤ 12 ∧ (k : Int) ≤ (f 23).toInt) → ((x5 = 1 ∧ (lsO (f 23) (f 24).toNatClampNeg (f 25).toNatClampNeg w h ∨ ∃ j, j < k ∧ q 26 j = p0)) ∨ (x5 = 0 ∧ ¬ lsO (f 23) (f 24).toNatClampNeg (f 25).toNatClampNeg w h ∧ ∀ j, j < k → ¬ q 26 j = p0)) → 12 - k < n → ∀ (H : Heap) (locs : List Loc), va_P D vwCl (WM cy mo a (upd f 0 (0 : Int32)) g r q) H → va_S (AM mo a) s.heap H locs → ∀ (ls : Array Slot), lv_has ls 7 [(6, .int (nI k)), (5, .int x5), (0, .ref mo), (1, .int w), (2, .int h), (3, .long p0)] → W p l e (headSpec wsX10_list ({ frames := 3, cells := 0, slots := 0, locals := 69 })).room s m #[Value.ref mo, Value.int w, Value.int h, Value.long p0] below meth c H locs 0 0 (MQ below (va_Qi (fun r0 u => ∃ (lc : Int32), ∃ (lw : Int32), ∃ (lh : Int32), ∃ (ls1 : Nat → Int64), u = ((upd (upd (upd (upd f 0 (0 : Int32)) 23 lc) 24 lw) 25 lh), g, r, (va_up q 26 ls1)) ∧ (lsA (q 26) (f 23) (f 24).toNatClampNeg (f 25).toNatClampNeg w h p0 r0 ∧ ((lsG (q 26) (f 23) (f 24).toNatClampNeg (f 25).toNatClampNeg w h p0 ∧ lc.toInt = (f 23).toInt + 1 ∧ lw = w ∧ lh = h ∧ ls1 = vp_updL (q 26) (f 23).toNatClampNeg p0) ∨ (¬ lsG (q 26) (f 23) (f 24).toNatClampNeg (f 25).toNatClampNeg w h p0 ∧ lc = f 23 ∧ lw = f 24 ∧ lh = f 25 ∧ ls1 = q 26)) ∧ MI (upd (upd (upd (upd f 0 (0 : Int32)) 23 lc) 24 lw) 25 lh) r)) (mB D cy mo a) (AM mo a)) #[Value.ref mo, Value.int w, Value.int h, Value.long p0] s 0 0 (AM mo a)) (F0 m 61 ls []) := by
          intro n
          induction n with
          | zero => intro k x5  j61_0 j61_1 hn; exact absurd hn (Nat.not_lt_zero _)
          | succ n ih_61 =>
            intro k x5  j61_0 j61_1 hn_61 H locs hP hS ls hl
            have ik : (nI k).toInt = (k : Int) := nI_toInt (by omega)
            refine lv_iload hx hb dX10_list_61 (lv_at hl 0 rfl) ?_
            refine lv_aload_n hx hb dX10_list_63 rfl (lv_at hl 2 rfl) ?_
            refine m_get (v := .int (f 23)) hx hb hts hin hown hK hP 23 (by decide) rfl (hts (.fieldLink RX10 230 "ShadowBenchModel" "listed" "I") (by decide +kernel)) rfl dX10_list_64 ?_
            refine lv_icmp_ge (tgt := 100) hx hb dX10_list_67 (by decide) (fun c67 => ?_) (fun c67 => ?_)
            · skip
              have d67 := c67
              rw [fa_le] at d67
              refine lv_iload hx hb dX10_list_100 (lv_at hl 1 rfl) ?_
              refine lv_if_eq (tgt := 108) hx hb dX10_list_102 (by decide) (fun c102 => ?_) (fun c102 => ?_)
              · skip
                have d102 := c102
                rw [fa_eq] at d102
                refine lv_aload_n hx hb dX10_list_108 rfl (lv_at hl 2 rfl) ?_
                refine lv_iload_n hx hb dX10_list_109 rfl (lv_at hl 3 rfl) ?_
                refine m_put (v := .int w) (ty := .int) hx hb hts hin hown hK hP hD hS 24 (by decide) rfl (hts (.fieldLink RX10 233 "ShadowBenchModel" "listWide" "I") (by decide +kernel)) rfl (by decide +kernel) rfl rfl (upd (upd f 0 (0 : Int32)) 24 w) g rfl dX10_list_110 (fun H locs hP hS => ?_)
                refine lv_aload_n hx hb dX10_list_113 rfl (lv_at hl 2 rfl) ?_
                refine lv_iload_n hx hb dX10_list_114 rfl (lv_at hl 4 rfl) ?_
                refine m_put (v := .int h) (ty := .int) hx hb hts hin hown hK hP hD hS 25 (by decide) rfl (hts (.fieldLink RX10 236 "ShadowBenchModel" "listHigh" "I") (by decide +kernel)) rfl (by decide +kernel) rfl rfl (upd (upd (upd f 0 (0 : Int32)) 24 w) 25 h) g rfl dX10_list_115 (fun H locs hP hS => ?_)
                refine lv_aload_n hx hb dX10_list_118 rfl (lv_at hl 2 rfl) ?_
                refine m_get (v := .ref (a 26)) hx hb hts hin hown hK hP 26 (by decide) rfl (hts (.fieldLink RX10 52 "ShadowBenchModel" "list" "[J") (by decide +kernel)) rfl dX10_list_119 ?_
                refine lv_aload_n hx hb dX10_list_122 rfl (lv_at hl 2 rfl) ?_
                refine m_get (v := .int (f 23)) hx hb hts hin hown hK hP 23 (by decide) rfl (hts (.fieldLink RX10 230 "ShadowBenchModel" "listed" "I") (by decide +kernel)) rfl dX10_list_123 ?_
                refine lv_lload_n hx hb dX10_list_126 rfl (lv_at hl 5 rfl) ?_
                refine m_last (w := (q 26)) hx hb hK hP hD hS 14 rfl (vp_in_iff.mpr ⟨by omega, by omega⟩) (va_up q 26 (vp_updL (q 26) (f 23).toNatClampNeg p0)) (ms_26 cy mo a _ _ _ _ _) dX10_list_127 (fun H locs hP hS => ?_)
                refine lv_aload_n hx hb dX10_list_128 rfl (lv_at hl 2 rfl) ?_
                refine lv_dup hx hb dX10_list_129 rfl ?_
                refine m_get (v := .int (f 23)) hx hb hts hin hown hK hP 23 (by decide) rfl (hts (.fieldLink RX10 230 "ShadowBenchModel" "listed" "I") (by decide +kernel)) rfl dX10_list_130 ?_
                refine lv_iconst (v := 1) hx hb dX10_list_133 (by decide) ?_
                refine lv_iadd hx hb dX10_list_134 ?_
                refine lv_topi (fun v134 e134 => ?_)
                have i134 : v134.toInt = (f 23).toInt + (1 : Int32).toInt := by rw [e134]; exact fb_addI (by omega) (by omega)
                refine m_put (v := .int v134) (ty := .int) hx hb hts hin hown hK hP hD hS 23 (by decide) rfl (hts (.fieldLink RX10 230 "ShadowBenchModel" "listed" "I") (by decide +kernel)) rfl (by decide +kernel) rfl rfl (upd (upd (upd (upd f 0 (0 : Int32)) 24 w) 25 h) 23 v134) g rfl dX10_list_135 (fun H locs hP hS => ?_)
                refine lv_aload_n hx hb dX10_list_138 rfl (lv_at hl 2 rfl) ?_
                refine m_get (v := .int v134) hx hb hts hin hown hK hP 23 (by decide) rfl (hts (.fieldLink RX10 230 "ShadowBenchModel" "listed" "I") (by decide +kernel)) rfl dX10_list_139 ?_
                have hP := wm_eq (ec_f_0_24_25_23__0_23_24_25 f (0 : Int32) w h v134) rfl rfl (ec_q_26__26 q ((vp_updL (q 26) (f 23).toNatClampNeg p0))) hP
                exact W.iret (v := v134) hx hb hr (fun t ht hW => ⟨⟨_, ((upd (upd (upd (upd f 0 (0 : Int32)) 23 v134) 24 w) 25 h), g, r, (va_up q 26 (((vp_updL (q 26) (f 23).toNatClampNeg p0))))), rfl, ⟨v134, w, h, ((vp_updL (q 26) (f 23).toNatClampNeg p0)), rfl, ⟨Or.inl ⟨⟨goodP_of b11, (by omega), (by rcases j61_1 with ⟨z9, _⟩ | ⟨_, z9, _⟩; exact absurd (z9.symm.trans c102) (by decide); exact z9), (by rcases j61_1 with ⟨z9, _⟩ | ⟨_, _, z9⟩; exact absurd (z9.symm.trans c102) (by decide); exact fun ⟨j9, h9, y9⟩ => z9 j9 (by omega) y9)⟩, (by omega)⟩, Or.inl ⟨⟨goodP_of b11, (by omega), (by rcases j61_1 with ⟨z9, _⟩ | ⟨_, z9, _⟩; exact absurd (z9.symm.trans c102) (by decide); exact z9), (by rcases j61_1 with ⟨z9, _⟩ | ⟨_, _, z9⟩; exact absurd (z9.symm.trans c102) (by decide); exact fun ⟨j9, h9, y9⟩ => z9 j9 (by omega) y9)⟩, (by omega), rfl, rfl, rfl⟩, (by first | exact hI | exact mi_li hI rfl (show 0 ≤ v134.toInt ∧ v134.toInt ≤ 12 by omega) (fun _ => ⟨show 1 ≤ w.toInt ∧ w.toInt ≤ 6 by omega, show 1 ≤ h.toInt ∧ h.toInt ≤ 6 by omega⟩) rfl rfl rfl rfl)⟩⟩, by unfold mB; rw [ht]; exact hP⟩, hS.F ht⟩) hS.2.2 dX10_list_142
              · skip
                have d102 := c102
                rw [fa_eq] at d102
                refine lv_bipush (v := (-3)) hx hb dX10_list_105 (by decide) ?_
                have hP := wm_eq (ec_f_0__0_23_24_25 f (0 : Int32)) rfl rfl (ec_q___26 q ) hP
                exact W.iret (v := ((-3) : Int32)) hx hb hr (fun t ht hW => ⟨⟨_, ((upd (upd (upd (upd f 0 (0 : Int32)) 23 (f 23)) 24 (f 24)) 25 (f 25)), g, r, (va_up q 26 (q 26))), rfl, ⟨(f 23), (f 24), (f 25), (q 26), rfl, ⟨lsA_3 (goodP_of b11) (by omega) (by rcases j61_1 with ⟨_, z9⟩ | ⟨z9, _⟩; exact z9.imp id (fun ⟨j9, h9, y9⟩ => ⟨j9, (by omega), y9⟩); exact absurd z9 c102), Or.inr ⟨lsG_3 (by rcases j61_1 with ⟨_, z9⟩ | ⟨z9, _⟩; exact z9.imp id (fun ⟨j9, h9, y9⟩ => ⟨j9, (by omega), y9⟩); exact absurd z9 c102), rfl, rfl, rfl, rfl⟩, (by first | exact hI | exact mi_li hI rfl (show 0 ≤ (f 23).toInt ∧ (f 23).toInt ≤ 12 by omega) (fun _ => ⟨show 1 ≤ (f 24).toInt ∧ (f 24).toInt ≤ 6 by omega, show 1 ≤ (f 25).toInt ∧ (f 25).toInt ≤ 6 by omega⟩) rfl rfl rfl rfl)⟩⟩, by unfold mB; rw [ht]; exact hP⟩, hS.F ht⟩) hS.2.2 dX10_list_107
            · skip
              have d67 := c67
              rw [fa_le] at d67
              refine lv_iload hx hb dX10_list_70 (lv_at hl 1 rfl) ?_
              refine lv_if_ne (tgt := 87) hx hb dX10_list_72 (by decide) (fun c72 => ?_) (fun c72 => ?_)
              · skip
                have d72 := c72
                rw [fa_eq] at d72
                refine lv_iconst (v := 1) hx hb dX10_list_87 (by decide) ?_
                refine lv_goto (tgt := 92) hx hb dX10_list_88 (by decide) ?_
                refine lv_istore (lv' := [(5, .int (1 : Int32)), (6, .int (nI k)), (0, .ref mo), (1, .int w), (2, .int h), (3, .long p0)]) hx hb dX10_list_92 hl (by decide) rfl (fun ls hl => ?_)
                refine lv_iinc (v := (nI (k + 1))) (lv' := [(6, .int (nI (k + 1))), (5, .int (1 : Int32)), (0, .ref mo), (1, .int w), (2, .int h), (3, .long p0)]) hx hb dX10_list_94 hl (k := 1) rfl (nI_1 _) (by decide) rfl (fun ls hl => ?_)
                refine lv_goto (tgt := 61) hx hb dX10_list_97 (by decide) ?_
                exact ih_61 (k + 1) (1 : Int32) (by omega) (by
                                                                                          first
                                                                                          | exact Or.inl ⟨rfl, Or.inr ⟨k, by omega, f81.symm.trans ((lg_cmp_eq _ _).mp c84)⟩⟩
                                                                                          | exact Or.inr ⟨rfl, (by rcases j61_1 with ⟨z9, _⟩ | ⟨_, z9, _⟩; exact absurd (z9.symm.trans c72) (by decide); exact z9), fun j hj => by
                                                                                              by_cases e9 : j = k
                                                                                              · rw [e9]; exact fun z9 => c84 ((lg_cmp_eq _ _).mpr (f81.trans z9))
                                                                                              · rcases j61_1 with ⟨z9, _⟩ | ⟨_, _, z9⟩
                                                                                                · exact absurd (z9.symm.trans c72) (by decide)
                                                                                                · exact z9 j (by omega)⟩
                                                                                          | exact Or.inl ⟨rfl, by
                                                                                              rcases j61_1 with ⟨_, z9⟩ | ⟨z9, _⟩
                                                                                              · exact z9.imp id (fun ⟨j9, h9, y9⟩ => ⟨j9, by omega, y9⟩)
                                                                                              · exact absurd z9 c72⟩) (by omega) _ _ hP hS ls (lv_sub hl [0, 1, 2, 3, 4, 5] rfl)
              · skip
                have d72 := c72
                rw [fa_eq] at d72
                refine lv_aload_n hx hb dX10_list_75 rfl (lv_at hl 2 rfl) ?_
                refine m_get (v := .ref (a 26)) hx hb hts hin hown hK hP 26 (by decide) rfl (hts (.fieldLink RX10 52 "ShadowBenchModel" "list" "[J") (by decide +kernel)) rfl dX10_list_76 ?_
                refine lv_iload hx hb dX10_list_79 (lv_at hl 0 rfl) ?_
                refine m_lald (w := (q 26)) hx hb hK hP 14 rfl (vp_in_iff.mpr ⟨by omega, by omega⟩) dX10_list_81 ?_
                refine lv_topl (fun v81 e81 => ?_)
                have f81 : v81 = q 26 k := by rw [e81, nI_clamp (by omega)]
                refine lv_lload_n hx hb dX10_list_82 rfl (lv_at hl 5 rfl) ?_
                refine W.lcmp hx hb dX10_list_83 ?_
                refine lv_if_ne (tgt := 91) hx hb dX10_list_84 (by decide) (fun c84 => ?_) (fun c84 => ?_)
                · skip
                  have d84 := c84
                  rw [lg_cmp_eq, fa_eq64] at d84
                  refine lv_iconst (v := 0) hx hb dX10_list_91 (by decide) ?_
                  refine lv_istore (lv' := [(5, .int (0 : Int32)), (6, .int (nI k)), (0, .ref mo), (1, .int w), (2, .int h), (3, .long p0)]) hx hb dX10_list_92 hl (by decide) rfl (fun ls hl => ?_)
                  refine lv_iinc (v := (nI (k + 1))) (lv' := [(6, .int (nI (k + 1))), (5, .int (0 : Int32)), (0, .ref mo), (1, .int w), (2, .int h), (3, .long p0)]) hx hb dX10_list_94 hl (k := 1) rfl (nI_1 _) (by decide) rfl (fun ls hl => ?_)
                  refine lv_goto (tgt := 61) hx hb dX10_list_97 (by decide) ?_
                  exact ih_61 (k + 1) (0 : Int32) (by omega) (by
                                                                                          first
                                                                                          | exact Or.inl ⟨rfl, Or.inr ⟨k, by omega, f81.symm.trans ((lg_cmp_eq _ _).mp c84)⟩⟩
                                                                                          | exact Or.inr ⟨rfl, (by rcases j61_1 with ⟨z9, _⟩ | ⟨_, z9, _⟩; exact absurd (z9.symm.trans c72) (by decide); exact z9), fun j hj => by
                                                                                              by_cases e9 : j = k
                                                                                              · rw [e9]; exact fun z9 => c84 ((lg_cmp_eq _ _).mpr (f81.trans z9))
                                                                                              · rcases j61_1 with ⟨z9, _⟩ | ⟨_, _, z9⟩
                                                                                                · exact absurd (z9.symm.trans c72) (by decide)
                                                                                                · exact z9 j (by omega)⟩
                                                                                          | exact Or.inl ⟨rfl, by
                                                                                              rcases j61_1 with ⟨_, z9⟩ | ⟨z9, _⟩
                                                                                              · exact z9.imp id (fun ⟨j9, h9, y9⟩ => ⟨j9, by omega, y9⟩)
                                                                                              · exact absurd z9 c72⟩) (by omega) _ _ hP hS ls (lv_sub hl [0, 1, 2, 3, 4, 5] rfl)
                · skip
                  have d84 := c84
                  rw [lg_cmp_eq, fa_eq64] at d84
                  refine lv_iconst (v := 1) hx hb dX10_list_87 (by decide) ?_
                  refine lv_goto (tgt := 92) hx hb dX10_list_88 (by decide) ?_
                  refine lv_istore (lv' := [(5, .int (1 : Int32)), (6, .int (nI k)), (0, .ref mo), (1, .int w), (2, .int h), (3, .long p0)]) hx hb dX10_list_92 hl (by decide) rfl (fun ls hl => ?_)
                  refine lv_iinc (v := (nI (k + 1))) (lv' := [(6, .int (nI (k + 1))), (5, .int (1 : Int32)), (0, .ref mo), (1, .int w), (2, .int h), (3, .long p0)]) hx hb dX10_list_94 hl (k := 1) rfl (nI_1 _) (by decide) rfl (fun ls hl => ?_)
                  refine lv_goto (tgt := 61) hx hb dX10_list_97 (by decide) ?_
                  exact ih_61 (k + 1) (1 : Int32) (by omega) (by
                                                                                          first
                                                                                          | exact Or.inl ⟨rfl, Or.inr ⟨k, by omega, f81.symm.trans ((lg_cmp_eq _ _).mp c84)⟩⟩
                                                                                          | exact Or.inr ⟨rfl, (by rcases j61_1 with ⟨z9, _⟩ | ⟨_, z9, _⟩; exact absurd (z9.symm.trans c72) (by decide); exact z9), fun j hj => by
                                                                                              by_cases e9 : j = k
                                                                                              · rw [e9]; exact fun z9 => c84 ((lg_cmp_eq _ _).mpr (f81.trans z9))
                                                                                              · rcases j61_1 with ⟨z9, _⟩ | ⟨_, _, z9⟩
                                                                                                · exact absurd (z9.symm.trans c72) (by decide)
                                                                                                · exact z9 j (by omega)⟩
                                                                                          | exact Or.inl ⟨rfl, by
                                                                                              rcases j61_1 with ⟨_, z9⟩ | ⟨z9, _⟩
                                                                                              · exact z9.imp id (fun ⟨j9, h9, y9⟩ => ⟨j9, by omega, y9⟩)
                                                                                              · exact absurd z9 c72⟩) (by omega) _ _ hP hS ls (lv_sub hl [0, 1, 2, 3, 4, 5] rfl)
        exact loop_61 (12 + 1) 0 (0 : Int32) (by omega) (by first | exact Or.inr ⟨rfl, (by unfold lsO; omega), fun j hj => absurd hj (Nat.not_lt_zero _)⟩ | exact Or.inl ⟨rfl, Or.inl (by unfold lsO; omega)⟩) (by omega) _ _ hP hS ls (lv_sub hl [0, 1, 2, 3, 4, 5] rfl)
      · skip
        have d32 := c32
        rw [fa_le] at d32
        have hLw := hI.2.2.2.1 (by omega)
        have c24 := m_cl (x := f 24) (by omega)
        have c25 := m_cl (x := f 25) (by omega)
        refine lv_iload_n hx hb dX10_list_35 rfl (lv_at hl 1 rfl) ?_
        refine lv_aload_n hx hb dX10_list_36 rfl (lv_at hl 0 rfl) ?_
        refine m_get (v := .int (f 24)) hx hb hts hin hown hK hP 24 (by decide) rfl (hts (.fieldLink RX10 233 "ShadowBenchModel" "listWide" "I") (by decide +kernel)) rfl dX10_list_37 ?_
        refine lv_icmp_ne (tgt := 51) hx hb dX10_list_40 (by decide) (fun c40 => ?_) (fun c40 => ?_)
        · skip
          have d40 := c40
          rw [fa_eq] at d40
          refine lv_iconst (v := 1) hx hb dX10_list_51 (by decide) ?_
          refine lv_goto (tgt := 56) hx hb dX10_list_52 (by decide) ?_
          refine lv_istore (lv' := [(5, .int (1 : Int32)), (0, .ref mo), (1, .int w), (2, .int h), (3, .long p0)]) hx hb dX10_list_56 hl (by decide) rfl (fun ls hl => ?_)
          refine lv_iconst (v := 0) hx hb dX10_list_58 (by decide) ?_
          refine lv_istore (lv' := [(6, .int (0 : Int32)), (5, .int (1 : Int32)), (0, .ref mo), (1, .int w), (2, .int h), (3, .long p0)]) hx hb dX10_list_59 hl (by decide) rfl (fun ls hl => ?_)
          have loop_61 : ∀ (n : Nat) (k : Nat) (x5 : Int32), (k ≤ 12 ∧ (k : Int) ≤ (f 23).toInt) → ((x5 = 1 ∧ (lsO (f 23) (f 24).toNatClampNeg (f 25).toNatClampNeg w h ∨ ∃ j, j < k ∧ q 26 j = p0)) ∨ (x5 = 0 ∧ ¬ lsO (f 23) (f 24).toNatClampNeg (f 25).toNatClampNeg w h ∧ ∀ j, j < k → ¬ q 26 j = p0)) → 12 - k < n → ∀ (H : Heap) (locs : List Loc), va_P D vwCl (WM cy mo a (upd f 0 (0 : Int32)) g r q) H → va_S (AM mo a) s.heap H locs → ∀ (ls : Array Slot), lv_has ls 7 [(6, .int (nI k)), (5, .int x5), (0, .ref mo), (1, .int w), (2, .int h), (3, .long p0)] → W p l e (headSpec wsX10_list ({ frames := 3, cells := 0, slots := 0, locals := 69 })).room s m #[Value.ref mo, Value.int w, Value.int h, Value.long p0] below meth c H locs 0 0 (MQ below (va_Qi (fun r0 u => ∃ (lc : Int32), ∃ (lw : Int32), ∃ (lh : Int32), ∃ (ls1 : Nat → Int64), u = ((upd (upd (upd (upd f 0 (0 : Int32)) 23 lc) 24 lw) 25 lh), g, r, (va_up q 26 ls1)) ∧ (lsA (q 26) (f 23) (f 24).toNatClampNeg (f 25).toNatClampNeg w h p0 r0 ∧ ((lsG (q 26) (f 23) (f 24).toNatClampNeg (f 25).toNatClampNeg w h p0 ∧ lc.toInt = (f 23).toInt + 1 ∧ lw = w ∧ lh = h ∧ ls1 = vp_updL (q 26) (f 23).toNatClampNeg p0) ∨ (¬ lsG (q 26) (f 23) (f 24).toNatClampNeg (f 25).toNatClampNeg w h p0 ∧ lc = f 23 ∧ lw = f 24 ∧ lh = f 25 ∧ ls1 = q 26)) ∧ MI (upd (upd (upd (upd f 0 (0 : Int32)) 23 lc) 24 lw) 25 lh) r)) (mB D cy mo a) (AM mo a)) #[Value.ref mo, Value.int w, Value.int h, Value.long p0] s 0 0 (AM mo a)) (F0 m 61 ls []) := by
            intro n
            induction n with
            | zero => intro k x5  j61_0 j61_1 hn; exact absurd hn (Nat.not_lt_zero _)
            | succ n ih_61 =>
              intro k x5  j61_0 j61_1 hn_61 H locs hP hS ls hl
              have ik : (nI k).toInt = (k : Int) := nI_toInt (by omega)
              refine lv_iload hx hb dX10_list_61 (lv_at hl 0 rfl) ?_
              refine lv_aload_n hx hb dX10_list_63 rfl (lv_at hl 2 rfl) ?_
              refine m_get (v := .int (f 23)) hx hb hts hin hown hK hP 23 (by decide) rfl (hts (.fieldLink RX10 230 "ShadowBenchModel" "listed" "I") (by decide +kernel)) rfl dX10_list_64 ?_
              refine lv_icmp_ge (tgt := 100) hx hb dX10_list_67 (by decide) (fun c67 => ?_) (fun c67 => ?_)
              · skip
                have d67 := c67
                rw [fa_le] at d67
                refine lv_iload hx hb dX10_list_100 (lv_at hl 1 rfl) ?_
                refine lv_if_eq (tgt := 108) hx hb dX10_list_102 (by decide) (fun c102 => ?_) (fun c102 => ?_)
                · skip
                  have d102 := c102
                  rw [fa_eq] at d102
                  refine lv_aload_n hx hb dX10_list_108 rfl (lv_at hl 2 rfl) ?_
                  refine lv_iload_n hx hb dX10_list_109 rfl (lv_at hl 3 rfl) ?_
                  refine m_put (v := .int w) (ty := .int) hx hb hts hin hown hK hP hD hS 24 (by decide) rfl (hts (.fieldLink RX10 233 "ShadowBenchModel" "listWide" "I") (by decide +kernel)) rfl (by decide +kernel) rfl rfl (upd (upd f 0 (0 : Int32)) 24 w) g rfl dX10_list_110 (fun H locs hP hS => ?_)
                  refine lv_aload_n hx hb dX10_list_113 rfl (lv_at hl 2 rfl) ?_
                  refine lv_iload_n hx hb dX10_list_114 rfl (lv_at hl 4 rfl) ?_
                  refine m_put (v := .int h) (ty := .int) hx hb hts hin hown hK hP hD hS 25 (by decide) rfl (hts (.fieldLink RX10 236 "ShadowBenchModel" "listHigh" "I") (by decide +kernel)) rfl (by decide +kernel) rfl rfl (upd (upd (upd f 0 (0 : Int32)) 24 w) 25 h) g rfl dX10_list_115 (fun H locs hP hS => ?_)
                  refine lv_aload_n hx hb dX10_list_118 rfl (lv_at hl 2 rfl) ?_
                  refine m_get (v := .ref (a 26)) hx hb hts hin hown hK hP 26 (by decide) rfl (hts (.fieldLink RX10 52 "ShadowBenchModel" "list" "[J") (by decide +kernel)) rfl dX10_list_119 ?_
                  refine lv_aload_n hx hb dX10_list_122 rfl (lv_at hl 2 rfl) ?_
                  refine m_get (v := .int (f 23)) hx hb hts hin hown hK hP 23 (by decide) rfl (hts (.fieldLink RX10 230 "ShadowBenchModel" "listed" "I") (by decide +kernel)) rfl dX10_list_123 ?_
                  refine lv_lload_n hx hb dX10_list_126 rfl (lv_at hl 5 rfl) ?_
                  refine m_last (w := (q 26)) hx hb hK hP hD hS 14 rfl (vp_in_iff.mpr ⟨by omega, by omega⟩) (va_up q 26 (vp_updL (q 26) (f 23).toNatClampNeg p0)) (ms_26 cy mo a _ _ _ _ _) dX10_list_127 (fun H locs hP hS => ?_)
                  refine lv_aload_n hx hb dX10_list_128 rfl (lv_at hl 2 rfl) ?_
                  refine lv_dup hx hb dX10_list_129 rfl ?_
                  refine m_get (v := .int (f 23)) hx hb hts hin hown hK hP 23 (by decide) rfl (hts (.fieldLink RX10 230 "ShadowBenchModel" "listed" "I") (by decide +kernel)) rfl dX10_list_130 ?_
                  refine lv_iconst (v := 1) hx hb dX10_list_133 (by decide) ?_
                  refine lv_iadd hx hb dX10_list_134 ?_
                  refine lv_topi (fun v134 e134 => ?_)
                  have i134 : v134.toInt = (f 23).toInt + (1 : Int32).toInt := by rw [e134]; exact fb_addI (by omega) (by omega)
                  refine m_put (v := .int v134) (ty := .int) hx hb hts hin hown hK hP hD hS 23 (by decide) rfl (hts (.fieldLink RX10 230 "ShadowBenchModel" "listed" "I") (by decide +kernel)) rfl (by decide +kernel) rfl rfl (upd (upd (upd (upd f 0 (0 : Int32)) 24 w) 25 h) 23 v134) g rfl dX10_list_135 (fun H locs hP hS => ?_)
                  refine lv_aload_n hx hb dX10_list_138 rfl (lv_at hl 2 rfl) ?_
                  refine m_get (v := .int v134) hx hb hts hin hown hK hP 23 (by decide) rfl (hts (.fieldLink RX10 230 "ShadowBenchModel" "listed" "I") (by decide +kernel)) rfl dX10_list_139 ?_
                  have hP := wm_eq (ec_f_0_24_25_23__0_23_24_25 f (0 : Int32) w h v134) rfl rfl (ec_q_26__26 q ((vp_updL (q 26) (f 23).toNatClampNeg p0))) hP
                  exact W.iret (v := v134) hx hb hr (fun t ht hW => ⟨⟨_, ((upd (upd (upd (upd f 0 (0 : Int32)) 23 v134) 24 w) 25 h), g, r, (va_up q 26 (((vp_updL (q 26) (f 23).toNatClampNeg p0))))), rfl, ⟨v134, w, h, ((vp_updL (q 26) (f 23).toNatClampNeg p0)), rfl, ⟨Or.inl ⟨⟨goodP_of b11, (by omega), (by rcases j61_1 with ⟨z9, _⟩ | ⟨_, z9, _⟩; exact absurd (z9.symm.trans c102) (by decide); exact z9), (by rcases j61_1 with ⟨z9, _⟩ | ⟨_, _, z9⟩; exact absurd (z9.symm.trans c102) (by decide); exact fun ⟨j9, h9, y9⟩ => z9 j9 (by omega) y9)⟩, (by omega)⟩, Or.inl ⟨⟨goodP_of b11, (by omega), (by rcases j61_1 with ⟨z9, _⟩ | ⟨_, z9, _⟩; exact absurd (z9.symm.trans c102) (by decide); exact z9), (by rcases j61_1 with ⟨z9, _⟩ | ⟨_, _, z9⟩; exact absurd (z9.symm.trans c102) (by decide); exact fun ⟨j9, h9, y9⟩ => z9 j9 (by omega) y9)⟩, (by omega), rfl, rfl, rfl⟩, (by first | exact hI | exact mi_li hI rfl (show 0 ≤ v134.toInt ∧ v134.toInt ≤ 12 by omega) (fun _ => ⟨show 1 ≤ w.toInt ∧ w.toInt ≤ 6 by omega, show 1 ≤ h.toInt ∧ h.toInt ≤ 6 by omega⟩) rfl rfl rfl rfl)⟩⟩, by unfold mB; rw [ht]; exact hP⟩, hS.F ht⟩) hS.2.2 dX10_list_142
                · skip
                  have d102 := c102
                  rw [fa_eq] at d102
                  refine lv_bipush (v := (-3)) hx hb dX10_list_105 (by decide) ?_
                  have hP := wm_eq (ec_f_0__0_23_24_25 f (0 : Int32)) rfl rfl (ec_q___26 q ) hP
                  exact W.iret (v := ((-3) : Int32)) hx hb hr (fun t ht hW => ⟨⟨_, ((upd (upd (upd (upd f 0 (0 : Int32)) 23 (f 23)) 24 (f 24)) 25 (f 25)), g, r, (va_up q 26 (q 26))), rfl, ⟨(f 23), (f 24), (f 25), (q 26), rfl, ⟨lsA_3 (goodP_of b11) (by omega) (by rcases j61_1 with ⟨_, z9⟩ | ⟨z9, _⟩; exact z9.imp id (fun ⟨j9, h9, y9⟩ => ⟨j9, (by omega), y9⟩); exact absurd z9 c102), Or.inr ⟨lsG_3 (by rcases j61_1 with ⟨_, z9⟩ | ⟨z9, _⟩; exact z9.imp id (fun ⟨j9, h9, y9⟩ => ⟨j9, (by omega), y9⟩); exact absurd z9 c102), rfl, rfl, rfl, rfl⟩, (by first | exact hI | exact mi_li hI rfl (show 0 ≤ (f 23).toInt ∧ (f 23).toInt ≤ 12 by omega) (fun _ => ⟨show 1 ≤ (f 24).toInt ∧ (f 24).toInt ≤ 6 by omega, show 1 ≤ (f 25).toInt ∧ (f 25).toInt ≤ 6 by omega⟩) rfl rfl rfl rfl)⟩⟩, by unfold mB; rw [ht]; exact hP⟩, hS.F ht⟩) hS.2.2 dX10_list_107
              · skip
                have d67 := c67
                rw [fa_le] at d67
                refine lv_iload hx hb dX10_list_70 (lv_at hl 1 rfl) ?_
                refine lv_if_ne (tgt := 87) hx hb dX10_list_72 (by decide) (fun c72 => ?_) (fun c72 => ?_)
                · skip
                  have d72 := c72
                  rw [fa_eq] at d72
                  refine lv_iconst (v := 1) hx hb dX10_list_87 (by decide) ?_
                  refine lv_goto (tgt := 92) hx hb dX10_list_88 (by decide) ?_
                  refine lv_istore (lv' := [(5, .int (1 : Int32)), (6, .int (nI k)), (0, .ref mo), (1, .int w), (2, .int h), (3, .long p0)]) hx hb dX10_list_92 hl (by decide) rfl (fun ls hl => ?_)
                  refine lv_iinc (v := (nI (k + 1))) (lv' := [(6, .int (nI (k + 1))), (5, .int (1 : Int32)), (0, .ref mo), (1, .int w), (2, .int h), (3, .long p0)]) hx hb dX10_list_94 hl (k := 1) rfl (nI_1 _) (by decide) rfl (fun ls hl => ?_)
                  refine lv_goto (tgt := 61) hx hb dX10_list_97 (by decide) ?_
                  exact ih_61 (k + 1) (1 : Int32) (by omega) (by
                                                                                          first
                                                                                          | exact Or.inl ⟨rfl, Or.inr ⟨k, by omega, f81.symm.trans ((lg_cmp_eq _ _).mp c84)⟩⟩
                                                                                          | exact Or.inr ⟨rfl, (by rcases j61_1 with ⟨z9, _⟩ | ⟨_, z9, _⟩; exact absurd (z9.symm.trans c72) (by decide); exact z9), fun j hj => by
                                                                                              by_cases e9 : j = k
                                                                                              · rw [e9]; exact fun z9 => c84 ((lg_cmp_eq _ _).mpr (f81.trans z9))
                                                                                              · rcases j61_1 with ⟨z9, _⟩ | ⟨_, _, z9⟩
                                                                                                · exact absurd (z9.symm.trans c72) (by decide)
                                                                                                · exact z9 j (by omega)⟩
                                                                                          | exact Or.inl ⟨rfl, by
                                                                                              rcases j61_1 with ⟨_, z9⟩ | ⟨z9, _⟩
                                                                                              · exact z9.imp id (fun ⟨j9, h9, y9⟩ => ⟨j9, by omega, y9⟩)
                                                                                              · exact absurd z9 c72⟩) (by omega) _ _ hP hS ls (lv_sub hl [0, 1, 2, 3, 4, 5] rfl)
                · skip
                  have d72 := c72
                  rw [fa_eq] at d72
                  refine lv_aload_n hx hb dX10_list_75 rfl (lv_at hl 2 rfl) ?_
                  refine m_get (v := .ref (a 26)) hx hb hts hin hown hK hP 26 (by decide) rfl (hts (.fieldLink RX10 52 "ShadowBenchModel" "list" "[J") (by decide +kernel)) rfl dX10_list_76 ?_
                  refine lv_iload hx hb dX10_list_79 (lv_at hl 0 rfl) ?_
                  refine m_lald (w := (q 26)) hx hb hK hP 14 rfl (vp_in_iff.mpr ⟨by omega, by omega⟩) dX10_list_81 ?_
                  refine lv_topl (fun v81 e81 => ?_)
                  have f81 : v81 = q 26 k := by rw [e81, nI_clamp (by omega)]
                  refine lv_lload_n hx hb dX10_list_82 rfl (lv_at hl 5 rfl) ?_
                  refine W.lcmp hx hb dX10_list_83 ?_
                  refine lv_if_ne (tgt := 91) hx hb dX10_list_84 (by decide) (fun c84 => ?_) (fun c84 => ?_)
                  · skip
                    have d84 := c84
                    rw [lg_cmp_eq, fa_eq64] at d84
                    refine lv_iconst (v := 0) hx hb dX10_list_91 (by decide) ?_
                    refine lv_istore (lv' := [(5, .int (0 : Int32)), (6, .int (nI k)), (0, .ref mo), (1, .int w), (2, .int h), (3, .long p0)]) hx hb dX10_list_92 hl (by decide) rfl (fun ls hl => ?_)
                    refine lv_iinc (v := (nI (k + 1))) (lv' := [(6, .int (nI (k + 1))), (5, .int (0 : Int32)), (0, .ref mo), (1, .int w), (2, .int h), (3, .long p0)]) hx hb dX10_list_94 hl (k := 1) rfl (nI_1 _) (by decide) rfl (fun ls hl => ?_)
                    refine lv_goto (tgt := 61) hx hb dX10_list_97 (by decide) ?_
                    exact ih_61 (k + 1) (0 : Int32) (by omega) (by
                                                                                          first
                                                                                          | exact Or.inl ⟨rfl, Or.inr ⟨k, by omega, f81.symm.trans ((lg_cmp_eq _ _).mp c84)⟩⟩
                                                                                          | exact Or.inr ⟨rfl, (by rcases j61_1 with ⟨z9, _⟩ | ⟨_, z9, _⟩; exact absurd (z9.symm.trans c72) (by decide); exact z9), fun j hj => by
                                                                                              by_cases e9 : j = k
                                                                                              · rw [e9]; exact fun z9 => c84 ((lg_cmp_eq _ _).mpr (f81.trans z9))
                                                                                              · rcases j61_1 with ⟨z9, _⟩ | ⟨_, _, z9⟩
                                                                                                · exact absurd (z9.symm.trans c72) (by decide)
                                                                                                · exact z9 j (by omega)⟩
                                                                                          | exact Or.inl ⟨rfl, by
                                                                                              rcases j61_1 with ⟨_, z9⟩ | ⟨z9, _⟩
                                                                                              · exact z9.imp id (fun ⟨j9, h9, y9⟩ => ⟨j9, by omega, y9⟩)
                                                                                              · exact absurd z9 c72⟩) (by omega) _ _ hP hS ls (lv_sub hl [0, 1, 2, 3, 4, 5] rfl)
                  · skip
                    have d84 := c84
                    rw [lg_cmp_eq, fa_eq64] at d84
                    refine lv_iconst (v := 1) hx hb dX10_list_87 (by decide) ?_
                    refine lv_goto (tgt := 92) hx hb dX10_list_88 (by decide) ?_
                    refine lv_istore (lv' := [(5, .int (1 : Int32)), (6, .int (nI k)), (0, .ref mo), (1, .int w), (2, .int h), (3, .long p0)]) hx hb dX10_list_92 hl (by decide) rfl (fun ls hl => ?_)
                    refine lv_iinc (v := (nI (k + 1))) (lv' := [(6, .int (nI (k + 1))), (5, .int (1 : Int32)), (0, .ref mo), (1, .int w), (2, .int h), (3, .long p0)]) hx hb dX10_list_94 hl (k := 1) rfl (nI_1 _) (by decide) rfl (fun ls hl => ?_)
                    refine lv_goto (tgt := 61) hx hb dX10_list_97 (by decide) ?_
                    exact ih_61 (k + 1) (1 : Int32) (by omega) (by
                                                                                          first
                                                                                          | exact Or.inl ⟨rfl, Or.inr ⟨k, by omega, f81.symm.trans ((lg_cmp_eq _ _).mp c84)⟩⟩
                                                                                          | exact Or.inr ⟨rfl, (by rcases j61_1 with ⟨z9, _⟩ | ⟨_, z9, _⟩; exact absurd (z9.symm.trans c72) (by decide); exact z9), fun j hj => by
                                                                                              by_cases e9 : j = k
                                                                                              · rw [e9]; exact fun z9 => c84 ((lg_cmp_eq _ _).mpr (f81.trans z9))
                                                                                              · rcases j61_1 with ⟨z9, _⟩ | ⟨_, _, z9⟩
                                                                                                · exact absurd (z9.symm.trans c72) (by decide)
                                                                                                · exact z9 j (by omega)⟩
                                                                                          | exact Or.inl ⟨rfl, by
                                                                                              rcases j61_1 with ⟨_, z9⟩ | ⟨z9, _⟩
                                                                                              · exact z9.imp id (fun ⟨j9, h9, y9⟩ => ⟨j9, by omega, y9⟩)
                                                                                              · exact absurd z9 c72⟩) (by omega) _ _ hP hS ls (lv_sub hl [0, 1, 2, 3, 4, 5] rfl)
          exact loop_61 (12 + 1) 0 (1 : Int32) (by omega) (by first | exact Or.inr ⟨rfl, (by unfold lsO; omega), fun j hj => absurd hj (Nat.not_lt_zero _)⟩ | exact Or.inl ⟨rfl, Or.inl (by unfold lsO; omega)⟩) (by omega) _ _ hP hS ls (lv_sub hl [0, 1, 2, 3, 4, 5] rfl)
        · skip
          have d40 := c40
          rw [fa_eq] at d40
          refine lv_iload_n hx hb dX10_list_43 rfl (lv_at hl 2 rfl) ?_
          refine lv_aload_n hx hb dX10_list_44 rfl (lv_at hl 0 rfl) ?_
          refine m_get (v := .int (f 25)) hx hb hts hin hown hK hP 25 (by decide) rfl (hts (.fieldLink RX10 236 "ShadowBenchModel" "listHigh" "I") (by decide +kernel)) rfl dX10_list_45 ?_
          refine lv_icmp_eq (tgt := 55) hx hb dX10_list_48 (by decide) (fun c48 => ?_) (fun c48 => ?_)
          · skip
            have d48 := c48
            rw [fa_eq] at d48
            refine lv_iconst (v := 0) hx hb dX10_list_55 (by decide) ?_
            refine lv_istore (lv' := [(5, .int (0 : Int32)), (0, .ref mo), (1, .int w), (2, .int h), (3, .long p0)]) hx hb dX10_list_56 hl (by decide) rfl (fun ls hl => ?_)
            refine lv_iconst (v := 0) hx hb dX10_list_58 (by decide) ?_
            refine lv_istore (lv' := [(6, .int (0 : Int32)), (5, .int (0 : Int32)), (0, .ref mo), (1, .int w), (2, .int h), (3, .long p0)]) hx hb dX10_list_59 hl (by decide) rfl (fun ls hl => ?_)
            have loop_61 : ∀ (n : Nat) (k : Nat) (x5 : Int32), (k ≤ 12 ∧ (k : Int) ≤ (f 23).toInt) → ((x5 = 1 ∧ (lsO (f 23) (f 24).toNatClampNeg (f 25).toNatClampNeg w h ∨ ∃ j, j < k ∧ q 26 j = p0)) ∨ (x5 = 0 ∧ ¬ lsO (f 23) (f 24).toNatClampNeg (f 25).toNatClampNeg w h ∧ ∀ j, j < k → ¬ q 26 j = p0)) → 12 - k < n → ∀ (H : Heap) (locs : List Loc), va_P D vwCl (WM cy mo a (upd f 0 (0 : Int32)) g r q) H → va_S (AM mo a) s.heap H locs → ∀ (ls : Array Slot), lv_has ls 7 [(6, .int (nI k)), (5, .int x5), (0, .ref mo), (1, .int w), (2, .int h), (3, .long p0)] → W p l e (headSpec wsX10_list ({ frames := 3, cells := 0, slots := 0, locals := 69 })).room s m #[Value.ref mo, Value.int w, Value.int h, Value.long p0] below meth c H locs 0 0 (MQ below (va_Qi (fun r0 u => ∃ (lc : Int32), ∃ (lw : Int32), ∃ (lh : Int32), ∃ (ls1 : Nat → Int64), u = ((upd (upd (upd (upd f 0 (0 : Int32)) 23 lc) 24 lw) 25 lh), g, r, (va_up q 26 ls1)) ∧ (lsA (q 26) (f 23) (f 24).toNatClampNeg (f 25).toNatClampNeg w h p0 r0 ∧ ((lsG (q 26) (f 23) (f 24).toNatClampNeg (f 25).toNatClampNeg w h p0 ∧ lc.toInt = (f 23).toInt + 1 ∧ lw = w ∧ lh = h ∧ ls1 = vp_updL (q 26) (f 23).toNatClampNeg p0) ∨ (¬ lsG (q 26) (f 23) (f 24).toNatClampNeg (f 25).toNatClampNeg w h p0 ∧ lc = f 23 ∧ lw = f 24 ∧ lh = f 25 ∧ ls1 = q 26)) ∧ MI (upd (upd (upd (upd f 0 (0 : Int32)) 23 lc) 24 lw) 25 lh) r)) (mB D cy mo a) (AM mo a)) #[Value.ref mo, Value.int w, Value.int h, Value.long p0] s 0 0 (AM mo a)) (F0 m 61 ls []) := by
              intro n
              induction n with
              | zero => intro k x5  j61_0 j61_1 hn; exact absurd hn (Nat.not_lt_zero _)
              | succ n ih_61 =>
                intro k x5  j61_0 j61_1 hn_61 H locs hP hS ls hl
                have ik : (nI k).toInt = (k : Int) := nI_toInt (by omega)
                refine lv_iload hx hb dX10_list_61 (lv_at hl 0 rfl) ?_
                refine lv_aload_n hx hb dX10_list_63 rfl (lv_at hl 2 rfl) ?_
                refine m_get (v := .int (f 23)) hx hb hts hin hown hK hP 23 (by decide) rfl (hts (.fieldLink RX10 230 "ShadowBenchModel" "listed" "I") (by decide +kernel)) rfl dX10_list_64 ?_
                refine lv_icmp_ge (tgt := 100) hx hb dX10_list_67 (by decide) (fun c67 => ?_) (fun c67 => ?_)
                · skip
                  have d67 := c67
                  rw [fa_le] at d67
                  refine lv_iload hx hb dX10_list_100 (lv_at hl 1 rfl) ?_
                  refine lv_if_eq (tgt := 108) hx hb dX10_list_102 (by decide) (fun c102 => ?_) (fun c102 => ?_)
                  · skip
                    have d102 := c102
                    rw [fa_eq] at d102
                    refine lv_aload_n hx hb dX10_list_108 rfl (lv_at hl 2 rfl) ?_
                    refine lv_iload_n hx hb dX10_list_109 rfl (lv_at hl 3 rfl) ?_
                    refine m_put (v := .int w) (ty := .int) hx hb hts hin hown hK hP hD hS 24 (by decide) rfl (hts (.fieldLink RX10 233 "ShadowBenchModel" "listWide" "I") (by decide +kernel)) rfl (by decide +kernel) rfl rfl (upd (upd f 0 (0 : Int32)) 24 w) g rfl dX10_list_110 (fun H locs hP hS => ?_)
                    refine lv_aload_n hx hb dX10_list_113 rfl (lv_at hl 2 rfl) ?_
                    refine lv_iload_n hx hb dX10_list_114 rfl (lv_at hl 4 rfl) ?_
                    refine m_put (v := .int h) (ty := .int) hx hb hts hin hown hK hP hD hS 25 (by decide) rfl (hts (.fieldLink RX10 236 "ShadowBenchModel" "listHigh" "I") (by decide +kernel)) rfl (by decide +kernel) rfl rfl (upd (upd (upd f 0 (0 : Int32)) 24 w) 25 h) g rfl dX10_list_115 (fun H locs hP hS => ?_)
                    refine lv_aload_n hx hb dX10_list_118 rfl (lv_at hl 2 rfl) ?_
                    refine m_get (v := .ref (a 26)) hx hb hts hin hown hK hP 26 (by decide) rfl (hts (.fieldLink RX10 52 "ShadowBenchModel" "list" "[J") (by decide +kernel)) rfl dX10_list_119 ?_
                    refine lv_aload_n hx hb dX10_list_122 rfl (lv_at hl 2 rfl) ?_
                    refine m_get (v := .int (f 23)) hx hb hts hin hown hK hP 23 (by decide) rfl (hts (.fieldLink RX10 230 "ShadowBenchModel" "listed" "I") (by decide +kernel)) rfl dX10_list_123 ?_
                    refine lv_lload_n hx hb dX10_list_126 rfl (lv_at hl 5 rfl) ?_
                    refine m_last (w := (q 26)) hx hb hK hP hD hS 14 rfl (vp_in_iff.mpr ⟨by omega, by omega⟩) (va_up q 26 (vp_updL (q 26) (f 23).toNatClampNeg p0)) (ms_26 cy mo a _ _ _ _ _) dX10_list_127 (fun H locs hP hS => ?_)
                    refine lv_aload_n hx hb dX10_list_128 rfl (lv_at hl 2 rfl) ?_
                    refine lv_dup hx hb dX10_list_129 rfl ?_
                    refine m_get (v := .int (f 23)) hx hb hts hin hown hK hP 23 (by decide) rfl (hts (.fieldLink RX10 230 "ShadowBenchModel" "listed" "I") (by decide +kernel)) rfl dX10_list_130 ?_
                    refine lv_iconst (v := 1) hx hb dX10_list_133 (by decide) ?_
                    refine lv_iadd hx hb dX10_list_134 ?_
                    refine lv_topi (fun v134 e134 => ?_)
                    have i134 : v134.toInt = (f 23).toInt + (1 : Int32).toInt := by rw [e134]; exact fb_addI (by omega) (by omega)
                    refine m_put (v := .int v134) (ty := .int) hx hb hts hin hown hK hP hD hS 23 (by decide) rfl (hts (.fieldLink RX10 230 "ShadowBenchModel" "listed" "I") (by decide +kernel)) rfl (by decide +kernel) rfl rfl (upd (upd (upd (upd f 0 (0 : Int32)) 24 w) 25 h) 23 v134) g rfl dX10_list_135 (fun H locs hP hS => ?_)
                    refine lv_aload_n hx hb dX10_list_138 rfl (lv_at hl 2 rfl) ?_
                    refine m_get (v := .int v134) hx hb hts hin hown hK hP 23 (by decide) rfl (hts (.fieldLink RX10 230 "ShadowBenchModel" "listed" "I") (by decide +kernel)) rfl dX10_list_139 ?_
                    have hP := wm_eq (ec_f_0_24_25_23__0_23_24_25 f (0 : Int32) w h v134) rfl rfl (ec_q_26__26 q ((vp_updL (q 26) (f 23).toNatClampNeg p0))) hP
                    exact W.iret (v := v134) hx hb hr (fun t ht hW => ⟨⟨_, ((upd (upd (upd (upd f 0 (0 : Int32)) 23 v134) 24 w) 25 h), g, r, (va_up q 26 (((vp_updL (q 26) (f 23).toNatClampNeg p0))))), rfl, ⟨v134, w, h, ((vp_updL (q 26) (f 23).toNatClampNeg p0)), rfl, ⟨Or.inl ⟨⟨goodP_of b11, (by omega), (by rcases j61_1 with ⟨z9, _⟩ | ⟨_, z9, _⟩; exact absurd (z9.symm.trans c102) (by decide); exact z9), (by rcases j61_1 with ⟨z9, _⟩ | ⟨_, _, z9⟩; exact absurd (z9.symm.trans c102) (by decide); exact fun ⟨j9, h9, y9⟩ => z9 j9 (by omega) y9)⟩, (by omega)⟩, Or.inl ⟨⟨goodP_of b11, (by omega), (by rcases j61_1 with ⟨z9, _⟩ | ⟨_, z9, _⟩; exact absurd (z9.symm.trans c102) (by decide); exact z9), (by rcases j61_1 with ⟨z9, _⟩ | ⟨_, _, z9⟩; exact absurd (z9.symm.trans c102) (by decide); exact fun ⟨j9, h9, y9⟩ => z9 j9 (by omega) y9)⟩, (by omega), rfl, rfl, rfl⟩, (by first | exact hI | exact mi_li hI rfl (show 0 ≤ v134.toInt ∧ v134.toInt ≤ 12 by omega) (fun _ => ⟨show 1 ≤ w.toInt ∧ w.toInt ≤ 6 by omega, show 1 ≤ h.toInt ∧ h.toInt ≤ 6 by omega⟩) rfl rfl rfl rfl)⟩⟩, by unfold mB; rw [ht]; exact hP⟩, hS.F ht⟩) hS.2.2 dX10_list_142
                  · skip
                    have d102 := c102
                    rw [fa_eq] at d102
                    refine lv_bipush (v := (-3)) hx hb dX10_list_105 (by decide) ?_
                    have hP := wm_eq (ec_f_0__0_23_24_25 f (0 : Int32)) rfl rfl (ec_q___26 q ) hP
                    exact W.iret (v := ((-3) : Int32)) hx hb hr (fun t ht hW => ⟨⟨_, ((upd (upd (upd (upd f 0 (0 : Int32)) 23 (f 23)) 24 (f 24)) 25 (f 25)), g, r, (va_up q 26 (q 26))), rfl, ⟨(f 23), (f 24), (f 25), (q 26), rfl, ⟨lsA_3 (goodP_of b11) (by omega) (by rcases j61_1 with ⟨_, z9⟩ | ⟨z9, _⟩; exact z9.imp id (fun ⟨j9, h9, y9⟩ => ⟨j9, (by omega), y9⟩); exact absurd z9 c102), Or.inr ⟨lsG_3 (by rcases j61_1 with ⟨_, z9⟩ | ⟨z9, _⟩; exact z9.imp id (fun ⟨j9, h9, y9⟩ => ⟨j9, (by omega), y9⟩); exact absurd z9 c102), rfl, rfl, rfl, rfl⟩, (by first | exact hI | exact mi_li hI rfl (show 0 ≤ (f 23).toInt ∧ (f 23).toInt ≤ 12 by omega) (fun _ => ⟨show 1 ≤ (f 24).toInt ∧ (f 24).toInt ≤ 6 by omega, show 1 ≤ (f 25).toInt ∧ (f 25).toInt ≤ 6 by omega⟩) rfl rfl rfl rfl)⟩⟩, by unfold mB; rw [ht]; exact hP⟩, hS.F ht⟩) hS.2.2 dX10_list_107
                · skip
                  have d67 := c67
                  rw [fa_le] at d67
                  refine lv_iload hx hb dX10_list_70 (lv_at hl 1 rfl) ?_
                  refine lv_if_ne (tgt := 87) hx hb dX10_list_72 (by decide) (fun c72 => ?_) (fun c72 => ?_)
                  · skip
                    have d72 := c72
                    rw [fa_eq] at d72
                    refine lv_iconst (v := 1) hx hb dX10_list_87 (by decide) ?_
                    refine lv_goto (tgt := 92) hx hb dX10_list_88 (by decide) ?_
                    refine lv_istore (lv' := [(5, .int (1 : Int32)), (6, .int (nI k)), (0, .ref mo), (1, .int w), (2, .int h), (3, .long p0)]) hx hb dX10_list_92 hl (by decide) rfl (fun ls hl => ?_)
                    refine lv_iinc (v := (nI (k + 1))) (lv' := [(6, .int (nI (k + 1))), (5, .int (1 : Int32)), (0, .ref mo), (1, .int w), (2, .int h), (3, .long p0)]) hx hb dX10_list_94 hl (k := 1) rfl (nI_1 _) (by decide) rfl (fun ls hl => ?_)
                    refine lv_goto (tgt := 61) hx hb dX10_list_97 (by decide) ?_
                    exact ih_61 (k + 1) (1 : Int32) (by omega) (by
                                                                                          first
                                                                                          | exact Or.inl ⟨rfl, Or.inr ⟨k, by omega, f81.symm.trans ((lg_cmp_eq _ _).mp c84)⟩⟩
                                                                                          | exact Or.inr ⟨rfl, (by rcases j61_1 with ⟨z9, _⟩ | ⟨_, z9, _⟩; exact absurd (z9.symm.trans c72) (by decide); exact z9), fun j hj => by
                                                                                              by_cases e9 : j = k
                                                                                              · rw [e9]; exact fun z9 => c84 ((lg_cmp_eq _ _).mpr (f81.trans z9))
                                                                                              · rcases j61_1 with ⟨z9, _⟩ | ⟨_, _, z9⟩
                                                                                                · exact absurd (z9.symm.trans c72) (by decide)
                                                                                                · exact z9 j (by omega)⟩
                                                                                          | exact Or.inl ⟨rfl, by
                                                                                              rcases j61_1 with ⟨_, z9⟩ | ⟨z9, _⟩
                                                                                              · exact z9.imp id (fun ⟨j9, h9, y9⟩ => ⟨j9, by omega, y9⟩)
                                                                                              · exact absurd z9 c72⟩) (by omega) _ _ hP hS ls (lv_sub hl [0, 1, 2, 3, 4, 5] rfl)
                  · skip
                    have d72 := c72
                    rw [fa_eq] at d72
                    refine lv_aload_n hx hb dX10_list_75 rfl (lv_at hl 2 rfl) ?_
                    refine m_get (v := .ref (a 26)) hx hb hts hin hown hK hP 26 (by decide) rfl (hts (.fieldLink RX10 52 "ShadowBenchModel" "list" "[J") (by decide +kernel)) rfl dX10_list_76 ?_
                    refine lv_iload hx hb dX10_list_79 (lv_at hl 0 rfl) ?_
                    refine m_lald (w := (q 26)) hx hb hK hP 14 rfl (vp_in_iff.mpr ⟨by omega, by omega⟩) dX10_list_81 ?_
                    refine lv_topl (fun v81 e81 => ?_)
                    have f81 : v81 = q 26 k := by rw [e81, nI_clamp (by omega)]
                    refine lv_lload_n hx hb dX10_list_82 rfl (lv_at hl 5 rfl) ?_
                    refine W.lcmp hx hb dX10_list_83 ?_
                    refine lv_if_ne (tgt := 91) hx hb dX10_list_84 (by decide) (fun c84 => ?_) (fun c84 => ?_)
                    · skip
                      have d84 := c84
                      rw [lg_cmp_eq, fa_eq64] at d84
                      refine lv_iconst (v := 0) hx hb dX10_list_91 (by decide) ?_
                      refine lv_istore (lv' := [(5, .int (0 : Int32)), (6, .int (nI k)), (0, .ref mo), (1, .int w), (2, .int h), (3, .long p0)]) hx hb dX10_list_92 hl (by decide) rfl (fun ls hl => ?_)
                      refine lv_iinc (v := (nI (k + 1))) (lv' := [(6, .int (nI (k + 1))), (5, .int (0 : Int32)), (0, .ref mo), (1, .int w), (2, .int h), (3, .long p0)]) hx hb dX10_list_94 hl (k := 1) rfl (nI_1 _) (by decide) rfl (fun ls hl => ?_)
                      refine lv_goto (tgt := 61) hx hb dX10_list_97 (by decide) ?_
                      exact ih_61 (k + 1) (0 : Int32) (by omega) (by
                                                                                          first
                                                                                          | exact Or.inl ⟨rfl, Or.inr ⟨k, by omega, f81.symm.trans ((lg_cmp_eq _ _).mp c84)⟩⟩
                                                                                          | exact Or.inr ⟨rfl, (by rcases j61_1 with ⟨z9, _⟩ | ⟨_, z9, _⟩; exact absurd (z9.symm.trans c72) (by decide); exact z9), fun j hj => by
                                                                                              by_cases e9 : j = k
                                                                                              · rw [e9]; exact fun z9 => c84 ((lg_cmp_eq _ _).mpr (f81.trans z9))
                                                                                              · rcases j61_1 with ⟨z9, _⟩ | ⟨_, _, z9⟩
                                                                                                · exact absurd (z9.symm.trans c72) (by decide)
                                                                                                · exact z9 j (by omega)⟩
                                                                                          | exact Or.inl ⟨rfl, by
                                                                                              rcases j61_1 with ⟨_, z9⟩ | ⟨z9, _⟩
                                                                                              · exact z9.imp id (fun ⟨j9, h9, y9⟩ => ⟨j9, by omega, y9⟩)
                                                                                              · exact absurd z9 c72⟩) (by omega) _ _ hP hS ls (lv_sub hl [0, 1, 2, 3, 4, 5] rfl)
                    · skip
                      have d84 := c84
                      rw [lg_cmp_eq, fa_eq64] at d84
                      refine lv_iconst (v := 1) hx hb dX10_list_87 (by decide) ?_
                      refine lv_goto (tgt := 92) hx hb dX10_list_88 (by decide) ?_
                      refine lv_istore (lv' := [(5, .int (1 : Int32)), (6, .int (nI k)), (0, .ref mo), (1, .int w), (2, .int h), (3, .long p0)]) hx hb dX10_list_92 hl (by decide) rfl (fun ls hl => ?_)
                      refine lv_iinc (v := (nI (k + 1))) (lv' := [(6, .int (nI (k + 1))), (5, .int (1 : Int32)), (0, .ref mo), (1, .int w), (2, .int h), (3, .long p0)]) hx hb dX10_list_94 hl (k := 1) rfl (nI_1 _) (by decide) rfl (fun ls hl => ?_)
                      refine lv_goto (tgt := 61) hx hb dX10_list_97 (by decide) ?_
                      exact ih_61 (k + 1) (1 : Int32) (by omega) (by
                                                                                          first
                                                                                          | exact Or.inl ⟨rfl, Or.inr ⟨k, by omega, f81.symm.trans ((lg_cmp_eq _ _).mp c84)⟩⟩
                                                                                          | exact Or.inr ⟨rfl, (by rcases j61_1 with ⟨z9, _⟩ | ⟨_, z9, _⟩; exact absurd (z9.symm.trans c72) (by decide); exact z9), fun j hj => by
                                                                                              by_cases e9 : j = k
                                                                                              · rw [e9]; exact fun z9 => c84 ((lg_cmp_eq _ _).mpr (f81.trans z9))
                                                                                              · rcases j61_1 with ⟨z9, _⟩ | ⟨_, _, z9⟩
                                                                                                · exact absurd (z9.symm.trans c72) (by decide)
                                                                                                · exact z9 j (by omega)⟩
                                                                                          | exact Or.inl ⟨rfl, by
                                                                                              rcases j61_1 with ⟨_, z9⟩ | ⟨z9, _⟩
                                                                                              · exact z9.imp id (fun ⟨j9, h9, y9⟩ => ⟨j9, by omega, y9⟩)
                                                                                              · exact absurd z9 c72⟩) (by omega) _ _ hP hS ls (lv_sub hl [0, 1, 2, 3, 4, 5] rfl)
            exact loop_61 (12 + 1) 0 (0 : Int32) (by omega) (by first | exact Or.inr ⟨rfl, (by unfold lsO; omega), fun j hj => absurd hj (Nat.not_lt_zero _)⟩ | exact Or.inl ⟨rfl, Or.inl (by unfold lsO; omega)⟩) (by omega) _ _ hP hS ls (lv_sub hl [0, 1, 2, 3, 4, 5] rfl)
          · skip
            have d48 := c48
            rw [fa_eq] at d48
            refine lv_iconst (v := 1) hx hb dX10_list_51 (by decide) ?_
            refine lv_goto (tgt := 56) hx hb dX10_list_52 (by decide) ?_
            refine lv_istore (lv' := [(5, .int (1 : Int32)), (0, .ref mo), (1, .int w), (2, .int h), (3, .long p0)]) hx hb dX10_list_56 hl (by decide) rfl (fun ls hl => ?_)
            refine lv_iconst (v := 0) hx hb dX10_list_58 (by decide) ?_
            refine lv_istore (lv' := [(6, .int (0 : Int32)), (5, .int (1 : Int32)), (0, .ref mo), (1, .int w), (2, .int h), (3, .long p0)]) hx hb dX10_list_59 hl (by decide) rfl (fun ls hl => ?_)
            have loop_61 : ∀ (n : Nat) (k : Nat) (x5 : Int32), (k ≤ 12 ∧ (k : Int) ≤ (f 23).toInt) → ((x5 = 1 ∧ (lsO (f 23) (f 24).toNatClampNeg (f 25).toNatClampNeg w h ∨ ∃ j, j < k ∧ q 26 j = p0)) ∨ (x5 = 0 ∧ ¬ lsO (f 23) (f 24).toNatClampNeg (f 25).toNatClampNeg w h ∧ ∀ j, j < k → ¬ q 26 j = p0)) → 12 - k < n → ∀ (H : Heap) (locs : List Loc), va_P D vwCl (WM cy mo a (upd f 0 (0 : Int32)) g r q) H → va_S (AM mo a) s.heap H locs → ∀ (ls : Array Slot), lv_has ls 7 [(6, .int (nI k)), (5, .int x5), (0, .ref mo), (1, .int w), (2, .int h), (3, .long p0)] → W p l e (headSpec wsX10_list ({ frames := 3, cells := 0, slots := 0, locals := 69 })).room s m #[Value.ref mo, Value.int w, Value.int h, Value.long p0] below meth c H locs 0 0 (MQ below (va_Qi (fun r0 u => ∃ (lc : Int32), ∃ (lw : Int32), ∃ (lh : Int32), ∃ (ls1 : Nat → Int64), u = ((upd (upd (upd (upd f 0 (0 : Int32)) 23 lc) 24 lw) 25 lh), g, r, (va_up q 26 ls1)) ∧ (lsA (q 26) (f 23) (f 24).toNatClampNeg (f 25).toNatClampNeg w h p0 r0 ∧ ((lsG (q 26) (f 23) (f 24).toNatClampNeg (f 25).toNatClampNeg w h p0 ∧ lc.toInt = (f 23).toInt + 1 ∧ lw = w ∧ lh = h ∧ ls1 = vp_updL (q 26) (f 23).toNatClampNeg p0) ∨ (¬ lsG (q 26) (f 23) (f 24).toNatClampNeg (f 25).toNatClampNeg w h p0 ∧ lc = f 23 ∧ lw = f 24 ∧ lh = f 25 ∧ ls1 = q 26)) ∧ MI (upd (upd (upd (upd f 0 (0 : Int32)) 23 lc) 24 lw) 25 lh) r)) (mB D cy mo a) (AM mo a)) #[Value.ref mo, Value.int w, Value.int h, Value.long p0] s 0 0 (AM mo a)) (F0 m 61 ls []) := by
              intro n
              induction n with
              | zero => intro k x5  j61_0 j61_1 hn; exact absurd hn (Nat.not_lt_zero _)
              | succ n ih_61 =>
                intro k x5  j61_0 j61_1 hn_61 H locs hP hS ls hl
                have ik : (nI k).toInt = (k : Int) := nI_toInt (by omega)
                refine lv_iload hx hb dX10_list_61 (lv_at hl 0 rfl) ?_
                refine lv_aload_n hx hb dX10_list_63 rfl (lv_at hl 2 rfl) ?_
                refine m_get (v := .int (f 23)) hx hb hts hin hown hK hP 23 (by decide) rfl (hts (.fieldLink RX10 230 "ShadowBenchModel" "listed" "I") (by decide +kernel)) rfl dX10_list_64 ?_
                refine lv_icmp_ge (tgt := 100) hx hb dX10_list_67 (by decide) (fun c67 => ?_) (fun c67 => ?_)
                · skip
                  have d67 := c67
                  rw [fa_le] at d67
                  refine lv_iload hx hb dX10_list_100 (lv_at hl 1 rfl) ?_
                  refine lv_if_eq (tgt := 108) hx hb dX10_list_102 (by decide) (fun c102 => ?_) (fun c102 => ?_)
                  · skip
                    have d102 := c102
                    rw [fa_eq] at d102
                    refine lv_aload_n hx hb dX10_list_108 rfl (lv_at hl 2 rfl) ?_
                    refine lv_iload_n hx hb dX10_list_109 rfl (lv_at hl 3 rfl) ?_
                    refine m_put (v := .int w) (ty := .int) hx hb hts hin hown hK hP hD hS 24 (by decide) rfl (hts (.fieldLink RX10 233 "ShadowBenchModel" "listWide" "I") (by decide +kernel)) rfl (by decide +kernel) rfl rfl (upd (upd f 0 (0 : Int32)) 24 w) g rfl dX10_list_110 (fun H locs hP hS => ?_)
                    refine lv_aload_n hx hb dX10_list_113 rfl (lv_at hl 2 rfl) ?_
                    refine lv_iload_n hx hb dX10_list_114 rfl (lv_at hl 4 rfl) ?_
                    refine m_put (v := .int h) (ty := .int) hx hb hts hin hown hK hP hD hS 25 (by decide) rfl (hts (.fieldLink RX10 236 "ShadowBenchModel" "listHigh" "I") (by decide +kernel)) rfl (by decide +kernel) rfl rfl (upd (upd (upd f 0 (0 : Int32)) 24 w) 25 h) g rfl dX10_list_115 (fun H locs hP hS => ?_)
                    refine lv_aload_n hx hb dX10_list_118 rfl (lv_at hl 2 rfl) ?_
                    refine m_get (v := .ref (a 26)) hx hb hts hin hown hK hP 26 (by decide) rfl (hts (.fieldLink RX10 52 "ShadowBenchModel" "list" "[J") (by decide +kernel)) rfl dX10_list_119 ?_
                    refine lv_aload_n hx hb dX10_list_122 rfl (lv_at hl 2 rfl) ?_
                    refine m_get (v := .int (f 23)) hx hb hts hin hown hK hP 23 (by decide) rfl (hts (.fieldLink RX10 230 "ShadowBenchModel" "listed" "I") (by decide +kernel)) rfl dX10_list_123 ?_
                    refine lv_lload_n hx hb dX10_list_126 rfl (lv_at hl 5 rfl) ?_
                    refine m_last (w := (q 26)) hx hb hK hP hD hS 14 rfl (vp_in_iff.mpr ⟨by omega, by omega⟩) (va_up q 26 (vp_updL (q 26) (f 23).toNatClampNeg p0)) (ms_26 cy mo a _ _ _ _ _) dX10_list_127 (fun H locs hP hS => ?_)
                    refine lv_aload_n hx hb dX10_list_128 rfl (lv_at hl 2 rfl) ?_
                    refine lv_dup hx hb dX10_list_129 rfl ?_
                    refine m_get (v := .int (f 23)) hx hb hts hin hown hK hP 23 (by decide) rfl (hts (.fieldLink RX10 230 "ShadowBenchModel" "listed" "I") (by decide +kernel)) rfl dX10_list_130 ?_
                    refine lv_iconst (v := 1) hx hb dX10_list_133 (by decide) ?_
                    refine lv_iadd hx hb dX10_list_134 ?_
                    refine lv_topi (fun v134 e134 => ?_)
                    have i134 : v134.toInt = (f 23).toInt + (1 : Int32).toInt := by rw [e134]; exact fb_addI (by omega) (by omega)
                    refine m_put (v := .int v134) (ty := .int) hx hb hts hin hown hK hP hD hS 23 (by decide) rfl (hts (.fieldLink RX10 230 "ShadowBenchModel" "listed" "I") (by decide +kernel)) rfl (by decide +kernel) rfl rfl (upd (upd (upd (upd f 0 (0 : Int32)) 24 w) 25 h) 23 v134) g rfl dX10_list_135 (fun H locs hP hS => ?_)
                    refine lv_aload_n hx hb dX10_list_138 rfl (lv_at hl 2 rfl) ?_
                    refine m_get (v := .int v134) hx hb hts hin hown hK hP 23 (by decide) rfl (hts (.fieldLink RX10 230 "ShadowBenchModel" "listed" "I") (by decide +kernel)) rfl dX10_list_139 ?_
                    have hP := wm_eq (ec_f_0_24_25_23__0_23_24_25 f (0 : Int32) w h v134) rfl rfl (ec_q_26__26 q ((vp_updL (q 26) (f 23).toNatClampNeg p0))) hP
                    exact W.iret (v := v134) hx hb hr (fun t ht hW => ⟨⟨_, ((upd (upd (upd (upd f 0 (0 : Int32)) 23 v134) 24 w) 25 h), g, r, (va_up q 26 (((vp_updL (q 26) (f 23).toNatClampNeg p0))))), rfl, ⟨v134, w, h, ((vp_updL (q 26) (f 23).toNatClampNeg p0)), rfl, ⟨Or.inl ⟨⟨goodP_of b11, (by omega), (by rcases j61_1 with ⟨z9, _⟩ | ⟨_, z9, _⟩; exact absurd (z9.symm.trans c102) (by decide); exact z9), (by rcases j61_1 with ⟨z9, _⟩ | ⟨_, _, z9⟩; exact absurd (z9.symm.trans c102) (by decide); exact fun ⟨j9, h9, y9⟩ => z9 j9 (by omega) y9)⟩, (by omega)⟩, Or.inl ⟨⟨goodP_of b11, (by omega), (by rcases j61_1 with ⟨z9, _⟩ | ⟨_, z9, _⟩; exact absurd (z9.symm.trans c102) (by decide); exact z9), (by rcases j61_1 with ⟨z9, _⟩ | ⟨_, _, z9⟩; exact absurd (z9.symm.trans c102) (by decide); exact fun ⟨j9, h9, y9⟩ => z9 j9 (by omega) y9)⟩, (by omega), rfl, rfl, rfl⟩, (by first | exact hI | exact mi_li hI rfl (show 0 ≤ v134.toInt ∧ v134.toInt ≤ 12 by omega) (fun _ => ⟨show 1 ≤ w.toInt ∧ w.toInt ≤ 6 by omega, show 1 ≤ h.toInt ∧ h.toInt ≤ 6 by omega⟩) rfl rfl rfl rfl)⟩⟩, by unfold mB; rw [ht]; exact hP⟩, hS.F ht⟩) hS.2.2 dX10_list_142
                  · skip
                    have d102 := c102
                    rw [fa_eq] at d102
                    refine lv_bipush (v := (-3)) hx hb dX10_list_105 (by decide) ?_
                    have hP := wm_eq (ec_f_0__0_23_24_25 f (0 : Int32)) rfl rfl (ec_q___26 q ) hP
                    exact W.iret (v := ((-3) : Int32)) hx hb hr (fun t ht hW => ⟨⟨_, ((upd (upd (upd (upd f 0 (0 : Int32)) 23 (f 23)) 24 (f 24)) 25 (f 25)), g, r, (va_up q 26 (q 26))), rfl, ⟨(f 23), (f 24), (f 25), (q 26), rfl, ⟨lsA_3 (goodP_of b11) (by omega) (by rcases j61_1 with ⟨_, z9⟩ | ⟨z9, _⟩; exact z9.imp id (fun ⟨j9, h9, y9⟩ => ⟨j9, (by omega), y9⟩); exact absurd z9 c102), Or.inr ⟨lsG_3 (by rcases j61_1 with ⟨_, z9⟩ | ⟨z9, _⟩; exact z9.imp id (fun ⟨j9, h9, y9⟩ => ⟨j9, (by omega), y9⟩); exact absurd z9 c102), rfl, rfl, rfl, rfl⟩, (by first | exact hI | exact mi_li hI rfl (show 0 ≤ (f 23).toInt ∧ (f 23).toInt ≤ 12 by omega) (fun _ => ⟨show 1 ≤ (f 24).toInt ∧ (f 24).toInt ≤ 6 by omega, show 1 ≤ (f 25).toInt ∧ (f 25).toInt ≤ 6 by omega⟩) rfl rfl rfl rfl)⟩⟩, by unfold mB; rw [ht]; exact hP⟩, hS.F ht⟩) hS.2.2 dX10_list_107
                · skip
                  have d67 := c67
                  rw [fa_le] at d67
                  refine lv_iload hx hb dX10_list_70 (lv_at hl 1 rfl) ?_
                  refine lv_if_ne (tgt := 87) hx hb dX10_list_72 (by decide) (fun c72 => ?_) (fun c72 => ?_)
                  · skip
                    have d72 := c72
                    rw [fa_eq] at d72
                    refine lv_iconst (v := 1) hx hb dX10_list_87 (by decide) ?_
                    refine lv_goto (tgt := 92) hx hb dX10_list_88 (by decide) ?_
                    refine lv_istore (lv' := [(5, .int (1 : Int32)), (6, .int (nI k)), (0, .ref mo), (1, .int w), (2, .int h), (3, .long p0)]) hx hb dX10_list_92 hl (by decide) rfl (fun ls hl => ?_)
                    refine lv_iinc (v := (nI (k + 1))) (lv' := [(6, .int (nI (k + 1))), (5, .int (1 : Int32)), (0, .ref mo), (1, .int w), (2, .int h), (3, .long p0)]) hx hb dX10_list_94 hl (k := 1) rfl (nI_1 _) (by decide) rfl (fun ls hl => ?_)
                    refine lv_goto (tgt := 61) hx hb dX10_list_97 (by decide) ?_
                    exact ih_61 (k + 1) (1 : Int32) (by omega) (by
                                                                                          first
                                                                                          | exact Or.inl ⟨rfl, Or.inr ⟨k, by omega, f81.symm.trans ((lg_cmp_eq _ _).mp c84)⟩⟩
                                                                                          | exact Or.inr ⟨rfl, (by rcases j61_1 with ⟨z9, _⟩ | ⟨_, z9, _⟩; exact absurd (z9.symm.trans c72) (by decide); exact z9), fun j hj => by
                                                                                              by_cases e9 : j = k
                                                                                              · rw [e9]; exact fun z9 => c84 ((lg_cmp_eq _ _).mpr (f81.trans z9))
                                                                                              · rcases j61_1 with ⟨z9, _⟩ | ⟨_, _, z9⟩
                                                                                                · exact absurd (z9.symm.trans c72) (by decide)
                                                                                                · exact z9 j (by omega)⟩
                                                                                          | exact Or.inl ⟨rfl, by
                                                                                              rcases j61_1 with ⟨_, z9⟩ | ⟨z9, _⟩
                                                                                              · exact z9.imp id (fun ⟨j9, h9, y9⟩ => ⟨j9, by omega, y9⟩)
                                                                                              · exact absurd z9 c72⟩) (by omega) _ _ hP hS ls (lv_sub hl [0, 1, 2, 3, 4, 5] rfl)
                  · skip
                    have d72 := c72
                    rw [fa_eq] at d72
                    refine lv_aload_n hx hb dX10_list_75 rfl (lv_at hl 2 rfl) ?_
                    refine m_get (v := .ref (a 26)) hx hb hts hin hown hK hP 26 (by decide) rfl (hts (.fieldLink RX10 52 "ShadowBenchModel" "list" "[J") (by decide +kernel)) rfl dX10_list_76 ?_
                    refine lv_iload hx hb dX10_list_79 (lv_at hl 0 rfl) ?_
                    refine m_lald (w := (q 26)) hx hb hK hP 14 rfl (vp_in_iff.mpr ⟨by omega, by omega⟩) dX10_list_81 ?_
                    refine lv_topl (fun v81 e81 => ?_)
                    have f81 : v81 = q 26 k := by rw [e81, nI_clamp (by omega)]
                    refine lv_lload_n hx hb dX10_list_82 rfl (lv_at hl 5 rfl) ?_
                    refine W.lcmp hx hb dX10_list_83 ?_
                    refine lv_if_ne (tgt := 91) hx hb dX10_list_84 (by decide) (fun c84 => ?_) (fun c84 => ?_)
                    · skip
                      have d84 := c84
                      rw [lg_cmp_eq, fa_eq64] at d84
                      refine lv_iconst (v := 0) hx hb dX10_list_91 (by decide) ?_
                      refine lv_istore (lv' := [(5, .int (0 : Int32)), (6, .int (nI k)), (0, .ref mo), (1, .int w), (2, .int h), (3, .long p0)]) hx hb dX10_list_92 hl (by decide) rfl (fun ls hl => ?_)
                      refine lv_iinc (v := (nI (k + 1))) (lv' := [(6, .int (nI (k + 1))), (5, .int (0 : Int32)), (0, .ref mo), (1, .int w), (2, .int h), (3, .long p0)]) hx hb dX10_list_94 hl (k := 1) rfl (nI_1 _) (by decide) rfl (fun ls hl => ?_)
                      refine lv_goto (tgt := 61) hx hb dX10_list_97 (by decide) ?_
                      exact ih_61 (k + 1) (0 : Int32) (by omega) (by
                                                                                          first
                                                                                          | exact Or.inl ⟨rfl, Or.inr ⟨k, by omega, f81.symm.trans ((lg_cmp_eq _ _).mp c84)⟩⟩
                                                                                          | exact Or.inr ⟨rfl, (by rcases j61_1 with ⟨z9, _⟩ | ⟨_, z9, _⟩; exact absurd (z9.symm.trans c72) (by decide); exact z9), fun j hj => by
                                                                                              by_cases e9 : j = k
                                                                                              · rw [e9]; exact fun z9 => c84 ((lg_cmp_eq _ _).mpr (f81.trans z9))
                                                                                              · rcases j61_1 with ⟨z9, _⟩ | ⟨_, _, z9⟩
                                                                                                · exact absurd (z9.symm.trans c72) (by decide)
                                                                                                · exact z9 j (by omega)⟩
                                                                                          | exact Or.inl ⟨rfl, by
                                                                                              rcases j61_1 with ⟨_, z9⟩ | ⟨z9, _⟩
                                                                                              · exact z9.imp id (fun ⟨j9, h9, y9⟩ => ⟨j9, by omega, y9⟩)
                                                                                              · exact absurd z9 c72⟩) (by omega) _ _ hP hS ls (lv_sub hl [0, 1, 2, 3, 4, 5] rfl)
                    · skip
                      have d84 := c84
                      rw [lg_cmp_eq, fa_eq64] at d84
                      refine lv_iconst (v := 1) hx hb dX10_list_87 (by decide) ?_
                      refine lv_goto (tgt := 92) hx hb dX10_list_88 (by decide) ?_
                      refine lv_istore (lv' := [(5, .int (1 : Int32)), (6, .int (nI k)), (0, .ref mo), (1, .int w), (2, .int h), (3, .long p0)]) hx hb dX10_list_92 hl (by decide) rfl (fun ls hl => ?_)
                      refine lv_iinc (v := (nI (k + 1))) (lv' := [(6, .int (nI (k + 1))), (5, .int (1 : Int32)), (0, .ref mo), (1, .int w), (2, .int h), (3, .long p0)]) hx hb dX10_list_94 hl (k := 1) rfl (nI_1 _) (by decide) rfl (fun ls hl => ?_)
                      refine lv_goto (tgt := 61) hx hb dX10_list_97 (by decide) ?_
                      exact ih_61 (k + 1) (1 : Int32) (by omega) (by
                                                                                          first
                                                                                          | exact Or.inl ⟨rfl, Or.inr ⟨k, by omega, f81.symm.trans ((lg_cmp_eq _ _).mp c84)⟩⟩
                                                                                          | exact Or.inr ⟨rfl, (by rcases j61_1 with ⟨z9, _⟩ | ⟨_, z9, _⟩; exact absurd (z9.symm.trans c72) (by decide); exact z9), fun j hj => by
                                                                                              by_cases e9 : j = k
                                                                                              · rw [e9]; exact fun z9 => c84 ((lg_cmp_eq _ _).mpr (f81.trans z9))
                                                                                              · rcases j61_1 with ⟨z9, _⟩ | ⟨_, _, z9⟩
                                                                                                · exact absurd (z9.symm.trans c72) (by decide)
                                                                                                · exact z9 j (by omega)⟩
                                                                                          | exact Or.inl ⟨rfl, by
                                                                                              rcases j61_1 with ⟨_, z9⟩ | ⟨z9, _⟩
                                                                                              · exact z9.imp id (fun ⟨j9, h9, y9⟩ => ⟨j9, by omega, y9⟩)
                                                                                              · exact absurd z9 c72⟩) (by omega) _ _ hP hS ls (lv_sub hl [0, 1, 2, 3, 4, 5] rfl)
            exact loop_61 (12 + 1) 0 (1 : Int32) (by omega) (by first | exact Or.inr ⟨rfl, (by unfold lsO; omega), fun j hj => absurd hj (Nat.not_lt_zero _)⟩ | exact Or.inl ⟨rfl, Or.inl (by unfold lsO; omega)⟩) (by omega) _ _ hP hS ls (lv_sub hl [0, 1, 2, 3, 4, 5] rfl)
    · skip
      have d22 := c22
      rw [fa_eq] at d22
      refine lv_bipush (v := (-2)) hx hb dX10_list_25 (by decide) ?_
      have hP := wm_eq (ec_f_0__0_23_24_25 f (0 : Int32)) rfl rfl (ec_q___26 q ) hP
      exact W.iret (v := ((-2) : Int32)) hx hb hr (fun t ht hW => ⟨⟨_, ((upd (upd (upd (upd f 0 (0 : Int32)) 23 (f 23)) 24 (f 24)) 25 (f 25)), g, r, (va_up q 26 (q 26))), rfl, ⟨(f 23), (f 24), (f 25), (q 26), rfl, ⟨lsA_2 (goodP_of b11) (by omega), Or.inr ⟨lsG_2 (by omega), rfl, rfl, rfl, rfl⟩, (by first | exact hI | exact mi_li hI rfl (show 0 ≤ (f 23).toInt ∧ (f 23).toInt ≤ 12 by omega) (fun _ => ⟨show 1 ≤ (f 24).toInt ∧ (f 24).toInt ≤ 6 by omega, show 1 ≤ (f 25).toInt ∧ (f 25).toInt ≤ 6 by omega⟩) rfl rfl rfl rfl)⟩⟩, by unfold mB; rw [ht]; exact hP⟩, hS.F ht⟩) hS.2.2 dX10_list_27
  · skip
    have b11 := bo_f q8 c11
    refine lv_iconst (v := (-1)) hx hb dX10_list_14 (by decide) ?_
    have hP := wm_eq (ec_f_0__0_23_24_25 f (0 : Int32)) rfl rfl (ec_q___26 q ) hP
    exact W.iret (v := ((-1) : Int32)) hx hb hr (fun t ht hW => ⟨⟨_, ((upd (upd (upd (upd f 0 (0 : Int32)) 23 (f 23)) 24 (f 24)) 25 (f 25)), g, r, (va_up q 26 (q 26))), rfl, ⟨(f 23), (f 24), (f 25), (q 26), rfl, ⟨lsA_1 (goodP_no b11), Or.inr ⟨lsG_1 (goodP_no b11), rfl, rfl, rfl, rfl⟩, (by first | exact hI | exact mi_li hI rfl (show 0 ≤ (f 23).toInt ∧ (f 23).toInt ≤ 12 by omega) (fun _ => ⟨show 1 ≤ (f 24).toInt ∧ (f 24).toInt ≤ 6 by omega, show 1 ≤ (f 25).toInt ∧ (f 25).toInt ≤ 6 by omega⟩) rfl rfl rfl rfl)⟩⟩, by unfold mB; rw [ht]; exact hP⟩, hS.F ht⟩) hS.2.2 dX10_list_15
set_option maxHeartbeats 4000000 in
set_option maxRecDepth 100000 in
theorem c_X10_tells_x (l : Launch) (D : va_G) (cy : Nat → ClassId) (mo : Nat) (a : Nat → Nat) (f : Nat → Int32) (g : Nat → Int64) (r : Nat → Nat → Int32) (q : Nat → Nat → Int64) (ways : Int32) (hD : DM cy mo a) (hI : MI f r) : Mi l D cy mo a yX10_tells wsX10_tells ({ frames := 3, cells := 0, slots := 0, locals := 78 }) f g r q [.int ways] (fun r0 u => u = (f, g, r, q) ∧ (Bo r0 (telA (q 26) (f 23) (f 24).toNatClampNeg (f 25).toNatClampNeg ways))) := by
  refine Met.ofW (cc := cX10_tells) (maxL := 7) (ret := (some .boolean)) (by decide) rfl ?_
  intro p e s m args below meth c s₁ B hml hv
  obtain ⟨rfl, hP, hK⟩ := hv
  have hx := B.exec
  have hb := B.bytes
  have hr := B.returns
  have hts := atoms_spec (ws := wsX10_tells) B.pre
  have hin : ∀ w ∈ u_ws RX10 TX10 35, w ∈ wsX10_tells := by decide +kernel
  have hown : s.vm.findClass RX10 = some m.cls := findClass_of_methodNamed B.named
  have hlocks := B.notSynchronized
  have hS : va_S (AM mo a) s.heap s.heap [] := va_S.rf
  have hl := lv_entry ([.ref mo, .int ways]) (n := 7) (Nat.le_of_ble_eq_true rfl)
  rw [lg_entry_eq]
  generalize (lg_sl ([.ref mo, .int ways]) ++ List.replicate (7 - (lg_sl ([.ref mo, .int ways])).length) Slot.unset).toArray = ls at hl ⊢
  have hl : lv_has ls 7 [(0, .ref mo), (1, .int ways)] := hl
  have k_0 : (0 : Int32).toInt = 0 := by decide
  have k_1 : (1 : Int32).toInt = 1 := by decide
  have k_4 : (4 : Int32).toInt = 4 := by decide
  have hI1 := hI.2.2.1
  refine lv_iconst (v := 1) hx hb dX10_tells_0 (by decide) ?_
  refine lv_istore_n (lv' := [(2, .int (1 : Int32)), (0, .ref mo), (1, .int ways)]) hx hb dX10_tells_1 rfl hl (by decide) rfl (fun ls hl => ?_)
  refine lv_iconst (v := 0) hx hb dX10_tells_2 (by decide) ?_
  refine lv_istore_n (lv' := [(3, .int (0 : Int32)), (2, .int (1 : Int32)), (0, .ref mo), (1, .int ways)]) hx hb dX10_tells_3 rfl hl (by decide) rfl (fun ls hl => ?_)
  have loop_4 : ∀ (n : Nat) (k : Nat) (x2 : Int32), (k ≤ 12 ∧ (k : Int) ≤ (f 23).toInt) → ((x2 = 1 ∧ ∀ a b : Nat, a < k → b < a → ∃ j, j < 4 ∧ unl (f 24).toNatClampNeg (f 25).toNatClampNeg (q 26 a) (q 26 b) ways j) ∨ (x2 = 0 ∧ ¬ ∀ a b : Nat, a < k → b < a → ∃ j, j < 4 ∧ unl (f 24).toNatClampNeg (f 25).toNatClampNeg (q 26 a) (q 26 b) ways j)) → 12 - k < n → ∀ (H : Heap) (locs : List Loc), va_P D vwCl (WM cy mo a f g r q) H → va_S (AM mo a) s.heap H locs → ∀ (ls : Array Slot), lv_has ls 7 [(3, .int (nI k)), (2, .int x2), (0, .ref mo), (1, .int ways)] → W p l e (headSpec wsX10_tells ({ frames := 3, cells := 0, slots := 0, locals := 78 })).room s m #[Value.ref mo, Value.int ways] below meth c H locs 0 0 (MQ below (va_Qi (fun r0 u => u = (f, g, r, q) ∧ (Bo r0 (telA (q 26) (f 23) (f 24).toNatClampNeg (f 25).toNatClampNeg ways))) (mB D cy mo a) (AM mo a)) #[Value.ref mo, Value.int ways] s 0 0 (AM mo a)) (F0 m 4 ls []) := by
    intro n
    induction n with
    | zero => intro k x2  j4_0 j4_1 hn; exact absurd hn (Nat.not_lt_zero _)
    | succ n ih_4 =>
      intro k x2  j4_0 j4_1 hn_4 H locs hP hS ls hl
      have ik : (nI k).toInt = (k : Int) := nI_toInt (by omega)
      refine lv_iload_n hx hb dX10_tells_4 rfl (lv_at hl 0 rfl) ?_
      refine lv_aload_n hx hb dX10_tells_5 rfl (lv_at hl 2 rfl) ?_
      refine m_get (v := .int (f 23)) hx hb hts hin hown hK hP 23 (by decide) rfl (hts (.fieldLink RX10 230 "ShadowBenchModel" "listed" "I") (by decide +kernel)) rfl dX10_tells_6 ?_
      refine lv_icmp_ge (tgt := 117) hx hb dX10_tells_9 (by decide) (fun c9 => ?_) (fun c9 => ?_)
      · skip
        have d9 := c9
        rw [fa_le] at d9
        refine lv_iload_n hx hb dX10_tells_117 rfl (lv_at hl 1 rfl) ?_
        exact W.zret (v := x2) hx hb hr (by rcases j4_1 with ⟨z, _⟩ | ⟨z, _⟩ <;> rw [z] <;> rfl) (fun t ht hW => ⟨⟨_, (f, g, r, q), rfl, ⟨rfl, (by rcases j4_1 with ⟨z, y⟩ | ⟨z, y⟩; exact Or.inl ⟨z, fun a9 b9 h9 h8 => y a9 b9 (by omega) h8⟩; exact Or.inr ⟨z, fun u9 => y (fun a9 b9 h9 h8 => u9 a9 b9 (by omega) h8)⟩)⟩, by unfold mB; rw [ht]; exact hP⟩, hS.F ht⟩) hS.2.2 dX10_tells_118
      · skip
        have d9 := c9
        rw [fa_le] at d9
        refine lv_iconst (v := 0) hx hb dX10_tells_12 (by decide) ?_
        refine lv_istore (lv' := [(4, .int (0 : Int32)), (3, .int (nI k)), (2, .int x2), (0, .ref mo), (1, .int ways)]) hx hb dX10_tells_13 hl (by decide) rfl (fun ls hl => ?_)
        have loop_15 : ∀ (n : Nat) (i : Nat) (y2 : Int32), (i ≤ k) → ((y2 = 1 ∧ (∀ a b : Nat, a < k → b < a → ∃ j, j < 4 ∧ unl (f 24).toNatClampNeg (f 25).toNatClampNeg (q 26 a) (q 26 b) ways j) ∧ ∀ b : Nat, b < i → ∃ j, j < 4 ∧ unl (f 24).toNatClampNeg (f 25).toNatClampNeg (q 26 k) (q 26 b) ways j) ∨ (y2 = 0 ∧ ¬ ((∀ a b : Nat, a < k → b < a → ∃ j, j < 4 ∧ unl (f 24).toNatClampNeg (f 25).toNatClampNeg (q 26 a) (q 26 b) ways j) ∧ ∀ b : Nat, b < i → ∃ j, j < 4 ∧ unl (f 24).toNatClampNeg (f 25).toNatClampNeg (q 26 k) (q 26 b) ways j))) → 12 - i < n → ∀ (H : Heap) (locs : List Loc), va_P D vwCl (WM cy mo a f g r q) H → va_S (AM mo a) s.heap H locs → ∀ (ls : Array Slot), lv_has ls 7 [(4, .int (nI i)), (3, .int (nI k)), (2, .int y2), (0, .ref mo), (1, .int ways)] → W p l e (headSpec wsX10_tells ({ frames := 3, cells := 0, slots := 0, locals := 78 })).room s m #[Value.ref mo, Value.int ways] below meth c H locs 0 0 (MQ below (va_Qi (fun r0 u => u = (f, g, r, q) ∧ (Bo r0 (telA (q 26) (f 23) (f 24).toNatClampNeg (f 25).toNatClampNeg ways))) (mB D cy mo a) (AM mo a)) #[Value.ref mo, Value.int ways] s 0 0 (AM mo a)) (F0 m 15 ls []) := by
          intro n
          induction n with
          | zero => intro i y2  j15_0 j15_1 hn; exact absurd hn (Nat.not_lt_zero _)
          | succ n ih_15 =>
            intro i y2  j15_0 j15_1 hn_15 H locs hP hS ls hl
            have ii : (nI i).toInt = (i : Int) := nI_toInt (by omega)
            refine lv_iload hx hb dX10_tells_15 (lv_at hl 0 rfl) ?_
            refine lv_iload_n hx hb dX10_tells_17 rfl (lv_at hl 1 rfl) ?_
            refine lv_icmp_ge (tgt := 111) hx hb dX10_tells_18 (by decide) (fun c18 => ?_) (fun c18 => ?_)
            · skip
              have d18 := c18
              rw [fa_le] at d18
              refine lv_iinc (v := (nI (k + 1))) (lv' := [(3, .int (nI (k + 1))), (4, .int (nI i)), (2, .int y2), (0, .ref mo), (1, .int ways)]) hx hb dX10_tells_111 hl (k := 1) rfl (nI_1 _) (by decide) rfl (fun ls hl => ?_)
              refine lv_goto (tgt := 4) hx hb dX10_tells_114 (by decide) ?_
              exact ih_4 (k + 1) y2 (by omega) (by
                                                                                          have hik : i = k := by omega
                                                                                          rcases j15_1 with ⟨z, y, x⟩ | ⟨z, y⟩
                                                                                          · exact Or.inl ⟨z, fun a b h1 h2 => by
                                                                                              by_cases e9 : a = k
                                                                                              · rw [e9] at h2 ⊢; exact x b (by omega)
                                                                                              · exact y a b (by omega) h2⟩
                                                                                          · exact Or.inr ⟨z, fun u9 => y ⟨fun a b h1 h2 => u9 a b (by omega) h2, fun b h1 => u9 k b (by omega) (by omega)⟩⟩) (by omega) _ _ hP hS ls (lv_sub hl [0, 2, 3, 4] rfl)
            · skip
              have d18 := c18
              rw [fa_le] at d18
              refine lv_iconst (v := 0) hx hb dX10_tells_21 (by decide) ?_
              refine lv_istore (lv' := [(5, .int (0 : Int32)), (4, .int (nI i)), (3, .int (nI k)), (2, .int y2), (0, .ref mo), (1, .int ways)]) hx hb dX10_tells_22 hl (by decide) rfl (fun ls hl => ?_)
              refine lv_iconst (v := 0) hx hb dX10_tells_24 (by decide) ?_
              refine lv_istore (lv' := [(6, .int (0 : Int32)), (5, .int (0 : Int32)), (4, .int (nI i)), (3, .int (nI k)), (2, .int y2), (0, .ref mo), (1, .int ways)]) hx hb dX10_tells_25 hl (by decide) rfl (fun ls hl => ?_)
              have loop_27 : ∀ (n : Nat) (m1 : Nat) (x5 : Int32), (m1 ≤ 4) → ((x5 = 1 ∧ ∃ j, j < m1 ∧ unl (f 24).toNatClampNeg (f 25).toNatClampNeg (q 26 k) (q 26 i) ways j) ∨ (x5 = 0 ∧ ∀ j, j < m1 → ¬ unl (f 24).toNatClampNeg (f 25).toNatClampNeg (q 26 k) (q 26 i) ways j)) → 4 - m1 < n → ∀ (H : Heap) (locs : List Loc), va_P D vwCl (WM cy mo a f g r q) H → va_S (AM mo a) s.heap H locs → ∀ (ls : Array Slot), lv_has ls 7 [(6, .int (nI m1)), (5, .int x5), (4, .int (nI i)), (3, .int (nI k)), (2, .int y2), (0, .ref mo), (1, .int ways)] → W p l e (headSpec wsX10_tells ({ frames := 3, cells := 0, slots := 0, locals := 78 })).room s m #[Value.ref mo, Value.int ways] below meth c H locs 0 0 (MQ below (va_Qi (fun r0 u => u = (f, g, r, q) ∧ (Bo r0 (telA (q 26) (f 23) (f 24).toNatClampNeg (f 25).toNatClampNeg ways))) (mB D cy mo a) (AM mo a)) #[Value.ref mo, Value.int ways] s 0 0 (AM mo a)) (F0 m 27 ls []) := by
                intro n
                induction n with
                | zero => intro m1 x5  j27_0 j27_1 hn; exact absurd hn (Nat.not_lt_zero _)
                | succ n ih_27 =>
                  intro m1 x5  j27_0 j27_1 hn_27 H locs hP hS ls hl
                  have im1 : (nI m1).toInt = (m1 : Int) := nI_toInt (by omega)
                  refine lv_iload hx hb dX10_tells_27 (lv_at hl 0 rfl) ?_
                  refine lv_iconst (v := 4) hx hb dX10_tells_29 (by decide) ?_
                  refine lv_icmp_ge (tgt := 90) hx hb dX10_tells_30 (by decide) (fun c30 => ?_) (fun c30 => ?_)
                  · skip
                    have d30 := c30
                    rw [fa_le] at d30
                    refine lv_iload_n hx hb dX10_tells_90 rfl (lv_at hl 4 rfl) ?_
                    refine lv_if_eq (tgt := 103) hx hb dX10_tells_91 (by decide) (fun c91 => ?_) (fun c91 => ?_)
                    · skip
                      have d91 := c91
                      rw [fa_eq] at d91
                      refine lv_iconst (v := 0) hx hb dX10_tells_103 (by decide) ?_
                      refine lv_istore_n (lv' := [(2, .int (0 : Int32)), (6, .int (nI m1)), (5, .int x5), (4, .int (nI i)), (3, .int (nI k)), (0, .ref mo), (1, .int ways)]) hx hb dX10_tells_104 rfl hl (by decide) rfl (fun ls hl => ?_)
                      refine lv_iinc (v := (nI (i + 1))) (lv' := [(4, .int (nI (i + 1))), (2, .int (0 : Int32)), (6, .int (nI m1)), (5, .int x5), (3, .int (nI k)), (0, .ref mo), (1, .int ways)]) hx hb dX10_tells_105 hl (k := 3) rfl (nI_1 _) (by decide) rfl (fun ls hl => ?_)
                      refine lv_goto (tgt := 15) hx hb dX10_tells_108 (by decide) ?_
                      exact ih_15 (i + 1) (0 : Int32) (by omega) (by first | exact ts_c (Q := fun b => ∃ j, j < 4 ∧ unl (f 24).toNatClampNeg (f 25).toNatClampNeg (q 26 k) (q 26 b) ways j) j15_1 (ts_27 (show m1 = 4 by omega) j27_1) c91 c96 | exact ts_a (Q := fun b => ∃ j, j < 4 ∧ unl (f 24).toNatClampNeg (f 25).toNatClampNeg (q 26 k) (q 26 b) ways j) j15_1 c91 | exact ts_b (Q := fun b => ∃ j, j < 4 ∧ unl (f 24).toNatClampNeg (f 25).toNatClampNeg (q 26 k) (q 26 b) ways j) (ts_27 (show m1 = 4 by omega) j27_1) c96) (by first | (clear j27_1; omega) | omega) _ _ hP hS ls (lv_sub hl [0, 4, 1, 5, 6] rfl)
                    · skip
                      have d91 := c91
                      rw [fa_eq] at d91
                      refine lv_iload hx hb dX10_tells_94 (lv_at hl 1 rfl) ?_
                      refine lv_if_eq (tgt := 103) hx hb dX10_tells_96 (by decide) (fun c96 => ?_) (fun c96 => ?_)
                      · skip
                        have d96 := c96
                        rw [fa_eq] at d96
                        refine lv_iconst (v := 0) hx hb dX10_tells_103 (by decide) ?_
                        refine lv_istore_n (lv' := [(2, .int (0 : Int32)), (6, .int (nI m1)), (5, .int x5), (4, .int (nI i)), (3, .int (nI k)), (0, .ref mo), (1, .int ways)]) hx hb dX10_tells_104 rfl hl (by decide) rfl (fun ls hl => ?_)
                        refine lv_iinc (v := (nI (i + 1))) (lv' := [(4, .int (nI (i + 1))), (2, .int (0 : Int32)), (6, .int (nI m1)), (5, .int x5), (3, .int (nI k)), (0, .ref mo), (1, .int ways)]) hx hb dX10_tells_105 hl (k := 3) rfl (nI_1 _) (by decide) rfl (fun ls hl => ?_)
                        refine lv_goto (tgt := 15) hx hb dX10_tells_108 (by decide) ?_
                        exact ih_15 (i + 1) (0 : Int32) (by omega) (by first | exact ts_c (Q := fun b => ∃ j, j < 4 ∧ unl (f 24).toNatClampNeg (f 25).toNatClampNeg (q 26 k) (q 26 b) ways j) j15_1 (ts_27 (show m1 = 4 by omega) j27_1) c91 c96 | exact ts_a (Q := fun b => ∃ j, j < 4 ∧ unl (f 24).toNatClampNeg (f 25).toNatClampNeg (q 26 k) (q 26 b) ways j) j15_1 c91 | exact ts_b (Q := fun b => ∃ j, j < 4 ∧ unl (f 24).toNatClampNeg (f 25).toNatClampNeg (q 26 k) (q 26 b) ways j) (ts_27 (show m1 = 4 by omega) j27_1) c96) (by first | (clear j27_1; omega) | omega) _ _ hP hS ls (lv_sub hl [0, 4, 1, 5, 6] rfl)
                      · skip
                        have d96 := c96
                        rw [fa_eq] at d96
                        refine lv_iconst (v := 1) hx hb dX10_tells_99 (by decide) ?_
                        refine lv_goto (tgt := 104) hx hb dX10_tells_100 (by decide) ?_
                        refine lv_istore_n (lv' := [(2, .int (1 : Int32)), (6, .int (nI m1)), (5, .int x5), (4, .int (nI i)), (3, .int (nI k)), (0, .ref mo), (1, .int ways)]) hx hb dX10_tells_104 rfl hl (by decide) rfl (fun ls hl => ?_)
                        refine lv_iinc (v := (nI (i + 1))) (lv' := [(4, .int (nI (i + 1))), (2, .int (1 : Int32)), (6, .int (nI m1)), (5, .int x5), (3, .int (nI k)), (0, .ref mo), (1, .int ways)]) hx hb dX10_tells_105 hl (k := 3) rfl (nI_1 _) (by decide) rfl (fun ls hl => ?_)
                        refine lv_goto (tgt := 15) hx hb dX10_tells_108 (by decide) ?_
                        exact ih_15 (i + 1) (1 : Int32) (by omega) (by first | exact ts_c (Q := fun b => ∃ j, j < 4 ∧ unl (f 24).toNatClampNeg (f 25).toNatClampNeg (q 26 k) (q 26 b) ways j) j15_1 (ts_27 (show m1 = 4 by omega) j27_1) c91 c96 | exact ts_a (Q := fun b => ∃ j, j < 4 ∧ unl (f 24).toNatClampNeg (f 25).toNatClampNeg (q 26 k) (q 26 b) ways j) j15_1 c91 | exact ts_b (Q := fun b => ∃ j, j < 4 ∧ unl (f 24).toNatClampNeg (f 25).toNatClampNeg (q 26 k) (q 26 b) ways j) (ts_27 (show m1 = 4 by omega) j27_1) c96) (by first | (clear j27_1; omega) | omega) _ _ hP hS ls (lv_sub hl [0, 4, 1, 5, 6] rfl)
                  · skip
                    have d30 := c30
                    rw [fa_le] at d30
                    refine lv_iload hx hb dX10_tells_33 (lv_at hl 1 rfl) ?_
                    refine lv_if_ne (tgt := 77) hx hb dX10_tells_35 (by decide) (fun c35 => ?_) (fun c35 => ?_)
                    · skip
                      have d35 := c35
                      rw [fa_eq] at d35
                      refine lv_iconst (v := 1) hx hb dX10_tells_77 (by decide) ?_
                      refine lv_goto (tgt := 82) hx hb dX10_tells_78 (by decide) ?_
                      refine lv_istore (lv' := [(5, .int (1 : Int32)), (6, .int (nI m1)), (4, .int (nI i)), (3, .int (nI k)), (2, .int y2), (0, .ref mo), (1, .int ways)]) hx hb dX10_tells_82 hl (by decide) rfl (fun ls hl => ?_)
                      refine lv_iinc (v := (nI (m1 + 1))) (lv' := [(6, .int (nI (m1 + 1))), (5, .int (1 : Int32)), (4, .int (nI i)), (3, .int (nI k)), (2, .int y2), (0, .ref mo), (1, .int ways)]) hx hb dX10_tells_84 hl (k := 1) rfl (nI_1 _) (by decide) rfl (fun ls hl => ?_)
                      refine lv_goto (tgt := 27) hx hb dX10_tells_87 (by decide) ?_
                      exact ih_27 (m1 + 1) (1 : Int32) (by omega) (by
                                                                                          first
                                                                                          | exact Or.inl ⟨rfl, m1, by omega, hB.trans c45, b74⟩
                                                                                          | exact Or.inl ⟨rfl, by
                                                                                              rcases j27_1 with ⟨_, j9, h9, y9⟩ | ⟨z9, _⟩
                                                                                              · exact ⟨j9, by omega, y9⟩
                                                                                              · exact absurd z9 c35⟩
                                                                                          | exact Or.inr ⟨rfl, fun j hj => by
                                                                                              by_cases e9 : j = m1
                                                                                              · rw [e9]; first | exact fun z9 => c45 (hB.symm.trans z9.1) | exact fun z9 => z9.2 b74
                                                                                              · rcases j27_1 with ⟨z9, _⟩ | ⟨_, z9⟩
                                                                                                · exact absurd (z9.symm.trans c35) (by decide)
                                                                                                · exact z9 j (by omega)⟩) (by omega) _ _ hP hS ls (lv_sub hl [0, 1, 2, 3, 4, 5, 6] rfl)
                    · skip
                      have d35 := c35
                      rw [fa_eq] at d35
                      refine lv_iload_n hx hb dX10_tells_38 rfl (lv_at hl 6 rfl) ?_
                      refine lv_iload hx hb dX10_tells_39 (lv_at hl 0 rfl) ?_
                      refine lv_ishr hx hb dX10_tells_41 ?_
                      refine lv_topi (fun v41 e41 => ?_)
                      refine lv_iconst (v := 1) hx hb dX10_tells_42 (by decide) ?_
                      refine lv_iand hx hb dX10_tells_43 ?_
                      refine lv_topi (fun v43 e43 => ?_)
                      refine lv_iconst (v := 1) hx hb dX10_tells_44 (by decide) ?_
                      have hB : gB ways m1 = v43 := by rw [e43, e41]; rfl
                      refine lv_icmp_ne (tgt := 81) hx hb dX10_tells_45 (by decide) (fun c45 => ?_) (fun c45 => ?_)
                      · skip
                        have d45 := c45
                        rw [fa_eq] at d45
                        refine lv_iconst (v := 0) hx hb dX10_tells_81 (by decide) ?_
                        refine lv_istore (lv' := [(5, .int (0 : Int32)), (6, .int (nI m1)), (4, .int (nI i)), (3, .int (nI k)), (2, .int y2), (0, .ref mo), (1, .int ways)]) hx hb dX10_tells_82 hl (by decide) rfl (fun ls hl => ?_)
                        refine lv_iinc (v := (nI (m1 + 1))) (lv' := [(6, .int (nI (m1 + 1))), (5, .int (0 : Int32)), (4, .int (nI i)), (3, .int (nI k)), (2, .int y2), (0, .ref mo), (1, .int ways)]) hx hb dX10_tells_84 hl (k := 1) rfl (nI_1 _) (by decide) rfl (fun ls hl => ?_)
                        refine lv_goto (tgt := 27) hx hb dX10_tells_87 (by decide) ?_
                        exact ih_27 (m1 + 1) (0 : Int32) (by omega) (by
                                                                                          first
                                                                                          | exact Or.inl ⟨rfl, m1, by omega, hB.trans c45, b74⟩
                                                                                          | exact Or.inl ⟨rfl, by
                                                                                              rcases j27_1 with ⟨_, j9, h9, y9⟩ | ⟨z9, _⟩
                                                                                              · exact ⟨j9, by omega, y9⟩
                                                                                              · exact absurd z9 c35⟩
                                                                                          | exact Or.inr ⟨rfl, fun j hj => by
                                                                                              by_cases e9 : j = m1
                                                                                              · rw [e9]; first | exact fun z9 => c45 (hB.symm.trans z9.1) | exact fun z9 => z9.2 b74
                                                                                              · rcases j27_1 with ⟨z9, _⟩ | ⟨_, z9⟩
                                                                                                · exact absurd (z9.symm.trans c35) (by decide)
                                                                                                · exact z9 j (by omega)⟩) (by omega) _ _ hP hS ls (lv_sub hl [0, 1, 2, 3, 4, 5, 6] rfl)
                      · skip
                        have d45 := c45
                        rw [fa_eq] at d45
                        have hLw := hI.2.2.2.1 (by omega)
                        refine lv_aload_n hx hb dX10_tells_48 rfl (lv_at hl 5 rfl) ?_
                        refine m_get (v := .int (f 24)) hx hb hts hin hown hK hP 24 (by decide) rfl (hts (.fieldLink RX10 233 "ShadowBenchModel" "listWide" "I") (by decide +kernel)) rfl dX10_tells_49 ?_
                        refine lv_aload_n hx hb dX10_tells_52 rfl (lv_at hl 5 rfl) ?_
                        refine m_get (v := .int (f 25)) hx hb hts hin hown hK hP 25 (by decide) rfl (hts (.fieldLink RX10 236 "ShadowBenchModel" "listHigh" "I") (by decide +kernel)) rfl dX10_tells_53 ?_
                        refine lv_aload_n hx hb dX10_tells_56 rfl (lv_at hl 5 rfl) ?_
                        refine m_get (v := .ref (a 26)) hx hb hts hin hown hK hP 26 (by decide) rfl (hts (.fieldLink RX10 52 "ShadowBenchModel" "list" "[J") (by decide +kernel)) rfl dX10_tells_57 ?_
                        refine lv_iload_n hx hb dX10_tells_60 rfl (lv_at hl 3 rfl) ?_
                        refine m_lald (w := (q 26)) hx hb hK hP 14 rfl (vp_in_iff.mpr ⟨by omega, by omega⟩) dX10_tells_61 ?_
                        refine lv_topl (fun v61 e61 => ?_)
                        have f61 : v61 = q 26 k := by rw [e61, nI_clamp (by omega)]
                        refine lv_aload_n hx hb dX10_tells_62 rfl (lv_at hl 5 rfl) ?_
                        refine m_get (v := .ref (a 26)) hx hb hts hin hown hK hP 26 (by decide) rfl (hts (.fieldLink RX10 52 "ShadowBenchModel" "list" "[J") (by decide +kernel)) rfl dX10_tells_63 ?_
                        refine lv_iload hx hb dX10_tells_66 (lv_at hl 2 rfl) ?_
                        refine m_lald (w := (q 26)) hx hb hK hP 14 rfl (vp_in_iff.mpr ⟨by omega, by omega⟩) dX10_tells_68 ?_
                        refine lv_topl (fun v68 e68 => ?_)
                        have f68 : v68 = q 26 i := by rw [e68, nI_clamp (by omega)]
                        refine lv_iload hx hb dX10_tells_69 (lv_at hl 0 rfl) ?_
                        refine m_pu (As := [.int (f 24), .int (f 25), .long v61, .long v68, .int (nI m1)]) (rest := []) ⟨hx, hb, hml, hown, hts⟩ (c_X10_areAlike_x l (f 24) (f 25) v61 v68 (nI m1) hLw.1 hLw.2 (by omega)) (va_cwS 5 hts gX10_tells_X10_areAlike rfl rfl rfl (by decide +kernel) ⟨Nat.le_of_ble_eq_true rfl, Nat.le_of_ble_eq_true rfl⟩) hP rfl hl.1 rfl (Nat.le_of_ble_eq_true rfl) dX10_tells_71 ⟨Nat.le_of_ble_eq_true rfl, Nat.le_of_ble_eq_true rfl⟩ hS (fun r71 H locs q71 hP hS => ?_)
                        rw [nI_clamp (n := m1) (by omega), f61, f68] at q71
                        refine lv_if_ne (tgt := 81) hx hb dX10_tells_74 (by decide) (fun c74 => ?_) (fun c74 => ?_)
                        · skip
                          have b74 := bo_t q71 c74
                          refine lv_iconst (v := 0) hx hb dX10_tells_81 (by decide) ?_
                          refine lv_istore (lv' := [(5, .int (0 : Int32)), (6, .int (nI m1)), (4, .int (nI i)), (3, .int (nI k)), (2, .int y2), (0, .ref mo), (1, .int ways)]) hx hb dX10_tells_82 hl (by decide) rfl (fun ls hl => ?_)
                          refine lv_iinc (v := (nI (m1 + 1))) (lv' := [(6, .int (nI (m1 + 1))), (5, .int (0 : Int32)), (4, .int (nI i)), (3, .int (nI k)), (2, .int y2), (0, .ref mo), (1, .int ways)]) hx hb dX10_tells_84 hl (k := 1) rfl (nI_1 _) (by decide) rfl (fun ls hl => ?_)
                          refine lv_goto (tgt := 27) hx hb dX10_tells_87 (by decide) ?_
                          exact ih_27 (m1 + 1) (0 : Int32) (by omega) (by
                                                                                          first
                                                                                          | exact Or.inl ⟨rfl, m1, by omega, hB.trans c45, b74⟩
                                                                                          | exact Or.inl ⟨rfl, by
                                                                                              rcases j27_1 with ⟨_, j9, h9, y9⟩ | ⟨z9, _⟩
                                                                                              · exact ⟨j9, by omega, y9⟩
                                                                                              · exact absurd z9 c35⟩
                                                                                          | exact Or.inr ⟨rfl, fun j hj => by
                                                                                              by_cases e9 : j = m1
                                                                                              · rw [e9]; first | exact fun z9 => c45 (hB.symm.trans z9.1) | exact fun z9 => z9.2 b74
                                                                                              · rcases j27_1 with ⟨z9, _⟩ | ⟨_, z9⟩
                                                                                                · exact absurd (z9.symm.trans c35) (by decide)
                                                                                                · exact z9 j (by omega)⟩) (by omega) _ _ hP hS ls (lv_sub hl [0, 1, 2, 3, 4, 5, 6] rfl)
                        · skip
                          have b74 := bo_f q71 c74
                          refine lv_iconst (v := 1) hx hb dX10_tells_77 (by decide) ?_
                          refine lv_goto (tgt := 82) hx hb dX10_tells_78 (by decide) ?_
                          refine lv_istore (lv' := [(5, .int (1 : Int32)), (6, .int (nI m1)), (4, .int (nI i)), (3, .int (nI k)), (2, .int y2), (0, .ref mo), (1, .int ways)]) hx hb dX10_tells_82 hl (by decide) rfl (fun ls hl => ?_)
                          refine lv_iinc (v := (nI (m1 + 1))) (lv' := [(6, .int (nI (m1 + 1))), (5, .int (1 : Int32)), (4, .int (nI i)), (3, .int (nI k)), (2, .int y2), (0, .ref mo), (1, .int ways)]) hx hb dX10_tells_84 hl (k := 1) rfl (nI_1 _) (by decide) rfl (fun ls hl => ?_)
                          refine lv_goto (tgt := 27) hx hb dX10_tells_87 (by decide) ?_
                          exact ih_27 (m1 + 1) (1 : Int32) (by omega) (by
                                                                                          first
                                                                                          | exact Or.inl ⟨rfl, m1, by omega, hB.trans c45, b74⟩
                                                                                          | exact Or.inl ⟨rfl, by
                                                                                              rcases j27_1 with ⟨_, j9, h9, y9⟩ | ⟨z9, _⟩
                                                                                              · exact ⟨j9, by omega, y9⟩
                                                                                              · exact absurd z9 c35⟩
                                                                                          | exact Or.inr ⟨rfl, fun j hj => by
                                                                                              by_cases e9 : j = m1
                                                                                              · rw [e9]; first | exact fun z9 => c45 (hB.symm.trans z9.1) | exact fun z9 => z9.2 b74
                                                                                              · rcases j27_1 with ⟨z9, _⟩ | ⟨_, z9⟩
                                                                                                · exact absurd (z9.symm.trans c35) (by decide)
                                                                                                · exact z9 j (by omega)⟩) (by omega) _ _ hP hS ls (lv_sub hl [0, 1, 2, 3, 4, 5, 6] rfl)
              exact loop_27 (4 + 1) 0 (0 : Int32) (by omega) (Or.inr ⟨rfl, fun j h => absurd h (Nat.not_lt_zero _)⟩) (by omega) _ _ hP hS ls (lv_sub hl [0, 1, 2, 3, 4, 5, 6] rfl)
        exact loop_15 (12 + 1) 0 x2 (by omega) (by rcases j4_1 with ⟨z, y⟩ | ⟨z, y⟩; exact Or.inl ⟨z, y, fun b h => absurd h (Nat.not_lt_zero _)⟩; exact Or.inr ⟨z, fun u9 => y u9.1⟩) (by omega) _ _ hP hS ls (lv_sub hl [0, 1, 2, 3, 4] rfl)
  exact loop_4 (12 + 1) 0 (1 : Int32) (by omega) (Or.inl ⟨rfl, fun a b h => absurd h (Nat.not_lt_zero _)⟩) (by omega) _ _ hP hS ls (lv_sub hl [0, 1, 2, 3] rfl)
set_option maxHeartbeats 4000000 in
set_option maxRecDepth 100000 in
theorem c_X10_ways_x (l : Launch) (D : va_G) (cy : Nat → ClassId) (mo : Nat) (a : Nat → Nat) (f : Nat → Int32) (g : Nat → Int64) (r : Nat → Nat → Int32) (q : Nat → Nat → Int64)  (hD : DM cy mo a) (hI : MI f r) : Mi l D cy mo a yX10_ways wsX10_ways ({ frames := 4, cells := 0, slots := 0, locals := 104 }) f g r q [] (fun r0 u => u = ((upd f 0 (0 : Int32)), g, r, q) ∧ (wyA (fun s => telA (q 26) (f 23) (f 24).toNatClampNeg (f 25).toNatClampNeg (nI s)) r0)) := by
  refine Met.ofW (cc := cX10_ways) (maxL := 3) (ret := (some .int)) (by decide) rfl ?_
  intro p e s m args below meth c s₁ B hml hv
  obtain ⟨rfl, hP, hK⟩ := hv
  have hx := B.exec
  have hb := B.bytes
  have hr := B.returns
  have hts := atoms_spec (ws := wsX10_ways) B.pre
  have hin : ∀ w ∈ u_ws RX10 TX10 35, w ∈ wsX10_ways := by decide +kernel
  have hown : s.vm.findClass RX10 = some m.cls := findClass_of_methodNamed B.named
  have hlocks := B.notSynchronized
  have hS : va_S (AM mo a) s.heap s.heap [] := va_S.rf
  have hl := lv_entry ([.ref mo]) (n := 3) (Nat.le_of_ble_eq_true rfl)
  rw [lg_entry_eq]
  generalize (lg_sl ([.ref mo]) ++ List.replicate (3 - (lg_sl ([.ref mo])).length) Slot.unset).toArray = ls at hl ⊢
  have hl : lv_has ls 3 [(0, .ref mo)] := hl
  have k_m2 : (-2 : Int32).toInt = -2 := by decide
  have k_0 : (0 : Int32).toInt = 0 := by decide
  have k_4 : (4 : Int32).toInt = 4 := by decide
  have k_16 : (16 : Int32).toInt = 16 := by decide
  refine lv_aload_n hx hb dX10_ways_0 rfl (lv_at hl 0 rfl) ?_
  refine lv_iconst (v := 0) hx hb dX10_ways_1 (by decide) ?_
  refine m_put (v := .int (0 : Int32)) (ty := .int) hx hb hts hin hown hK hP hD hS 0 (by decide) rfl (hts (.fieldLink RX10 79 "ShadowBenchModel" "thrown" "I") (by decide +kernel)) rfl (by decide +kernel) rfl rfl (upd f 0 (0 : Int32)) g rfl dX10_ways_2 (fun H locs hP hS => ?_)
  refine lv_iconst (v := 0) hx hb dX10_ways_5 (by decide) ?_
  refine lv_istore_n (lv' := [(1, .int (0 : Int32)), (0, .ref mo)]) hx hb dX10_ways_6 rfl hl (by decide) rfl (fun ls hl => ?_)
  have loop_7 : ∀ (n : Nat) (k : Nat), (k ≤ 5) → (∀ m t, m < k → t < 16 → ¬ (pc4 t = m ∧ telA (q 26) (f 23) (f 24).toNatClampNeg (f 25).toNatClampNeg (nI t))) → 5 - k < n → ∀ (H : Heap) (locs : List Loc), va_P D vwCl (WM cy mo a (upd f 0 (0 : Int32)) g r q) H → va_S (AM mo a) s.heap H locs → ∀ (ls : Array Slot), lv_has ls 3 [(1, .int (nI k)), (0, .ref mo)] → W p l e (headSpec wsX10_ways ({ frames := 4, cells := 0, slots := 0, locals := 104 })).room s m #[Value.ref mo] below meth c H locs 0 0 (MQ below (va_Qi (fun r0 u => u = ((upd f 0 (0 : Int32)), g, r, q) ∧ (wyA (fun s => telA (q 26) (f 23) (f 24).toNatClampNeg (f 25).toNatClampNeg (nI s)) r0)) (mB D cy mo a) (AM mo a)) #[Value.ref mo] s 0 0 (AM mo a)) (F0 m 7 ls []) := by
    intro n
    induction n with
    | zero => intro k  j7_0 j7_1 hn; exact absurd hn (Nat.not_lt_zero _)
    | succ n ih_7 =>
      intro k  j7_0 j7_1 hn_7 H locs hP hS ls hl
      have ik : (nI k).toInt = (k : Int) := nI_toInt (by omega)
      refine lv_iload_n hx hb dX10_ways_7 rfl (lv_at hl 0 rfl) ?_
      refine lv_iconst (v := 4) hx hb dX10_ways_8 (by decide) ?_
      refine lv_icmp_gt (tgt := 51) hx hb dX10_ways_9 (by decide) (fun c9 => ?_) (fun c9 => ?_)
      · skip
        have d9 := c9
        rw [fa_lt] at d9
        refine lv_bipush (v := (-2)) hx hb dX10_ways_51 (by decide) ?_
        exact W.iret (v := ((-2) : Int32)) hx hb hr (fun t ht hW => ⟨⟨_, ((upd f 0 (0 : Int32)), g, r, q), rfl, ⟨rfl, (Or.inr ⟨rfl, fun m9 t9 h9 h8 => j7_1 m9 t9 (by omega) h8⟩)⟩, by unfold mB; rw [ht]; exact hP⟩, hS.F ht⟩) hS.2.2 dX10_ways_53
      · skip
        have d9 := c9
        rw [fa_lt] at d9
        refine lv_iconst (v := 0) hx hb dX10_ways_12 (by decide) ?_
        refine lv_istore_n (lv' := [(2, .int (0 : Int32)), (1, .int (nI k)), (0, .ref mo)]) hx hb dX10_ways_13 rfl hl (by decide) rfl (fun ls hl => ?_)
        have loop_14 : ∀ (n : Nat) (i : Nat), (i ≤ 16) → (∀ t, t < i → ¬ (pc4 t = k ∧ telA (q 26) (f 23) (f 24).toNatClampNeg (f 25).toNatClampNeg (nI t))) → 16 - i < n → ∀ (H : Heap) (locs : List Loc), va_P D vwCl (WM cy mo a (upd f 0 (0 : Int32)) g r q) H → va_S (AM mo a) s.heap H locs → ∀ (ls : Array Slot), lv_has ls 3 [(2, .int (nI i)), (1, .int (nI k)), (0, .ref mo)] → W p l e (headSpec wsX10_ways ({ frames := 4, cells := 0, slots := 0, locals := 104 })).room s m #[Value.ref mo] below meth c H locs 0 0 (MQ below (va_Qi (fun r0 u => u = ((upd f 0 (0 : Int32)), g, r, q) ∧ (wyA (fun s => telA (q 26) (f 23) (f 24).toNatClampNeg (f 25).toNatClampNeg (nI s)) r0)) (mB D cy mo a) (AM mo a)) #[Value.ref mo] s 0 0 (AM mo a)) (F0 m 14 ls []) := by
          intro n
          induction n with
          | zero => intro i  j14_0 j14_1 hn; exact absurd hn (Nat.not_lt_zero _)
          | succ n ih_14 =>
            intro i  j14_0 j14_1 hn_14 H locs hP hS ls hl
            have ii : (nI i).toInt = (i : Int) := nI_toInt (by omega)
            refine lv_iload_n hx hb dX10_ways_14 rfl (lv_at hl 0 rfl) ?_
            refine lv_bipush (v := 16) hx hb dX10_ways_15 (by decide) ?_
            refine lv_icmp_ge (tgt := 45) hx hb dX10_ways_17 (by decide) (fun c17 => ?_) (fun c17 => ?_)
            · skip
              have d17 := c17
              rw [fa_le] at d17
              refine lv_iinc (v := (nI (k + 1))) (lv' := [(1, .int (nI (k + 1))), (2, .int (nI i)), (0, .ref mo)]) hx hb dX10_ways_45 hl (k := 1) rfl (nI_1 _) (by decide) rfl (fun ls hl => ?_)
              refine lv_goto (tgt := 7) hx hb dX10_ways_48 (by decide) ?_
              exact ih_7 (k + 1) (by omega) (fun m t h1 h2 => by
                                                                                          by_cases e9 : m = k
                                                                                          · rw [e9]; exact j14_1 t (by omega)
                                                                                          · exact j7_1 m t (by omega) h2) (by omega) _ _ hP hS ls (lv_sub hl [0, 2] rfl)
            · skip
              have d17 := c17
              rw [fa_le] at d17
              refine lv_iload_n hx hb dX10_ways_20 rfl (lv_at hl 0 rfl) ?_
              refine lv_i2l (v := (nI i).toInt64) hx hb dX10_ways_21 rfl ?_
              refine m_pu (As := [.long ((nI i).toInt64)]) (rest := []) ⟨hx, hb, hml, hown, hts⟩ (c_X10_countOnes l ((nI i).toInt64) ) (va_cwS 1 hts gX10_ways_X10_countOnes rfl rfl rfl (by decide +kernel) ⟨Nat.le_of_ble_eq_true rfl, Nat.le_of_ble_eq_true rfl⟩) hP rfl hl.1 rfl (Nat.le_of_ble_eq_true rfl) dX10_ways_22 ⟨Nat.le_of_ble_eq_true rfl, Nat.le_of_ble_eq_true rfl⟩ hS (fun r22 H locs q22 hP hS => ?_)
              have f22 : r22 = nI (pc4 i) := by rw [q22, rn_ones _ 36 (Nat.le_refl _), pc4_lb i (by omega)]
              have b22 := pc4_le i
              have g22 : r22 = nI k ↔ pc4 i = k := by rw [f22]; exact nI_eq (by omega) (by omega)
              refine lv_iload_n hx hb dX10_ways_25 rfl (lv_at hl 1 rfl) ?_
              refine lv_icmp_ne (tgt := 39) hx hb dX10_ways_26 (by decide) (fun c26 => ?_) (fun c26 => ?_)
              · skip
                have d26 := c26
                rw [fa_eq] at d26
                refine lv_iinc (v := (nI (i + 1))) (lv' := [(2, .int (nI (i + 1))), (1, .int (nI k)), (0, .ref mo)]) hx hb dX10_ways_39 hl (k := 0) rfl (nI_1 _) (by decide) rfl (fun ls hl => ?_)
                refine lv_goto (tgt := 14) hx hb dX10_ways_42 (by decide) ?_
                exact ih_14 (i + 1) (by omega) (fun t h1 => by
                                                                                          by_cases e9 : t = i
                                                                                          · rw [e9]; first | exact fun z9 => c26 (g22.mpr z9.1) | exact fun z9 => b34 z9.2
                                                                                          · exact j14_1 t (by omega)) (by omega) _ _ hP hS ls (lv_sub hl [0, 1, 2] rfl)
              · skip
                have d26 := c26
                rw [fa_eq] at d26
                refine lv_aload_n hx hb dX10_ways_29 rfl (lv_at hl 2 rfl) ?_
                refine lv_iload_n hx hb dX10_ways_30 rfl (lv_at hl 0 rfl) ?_
                refine m_calli (As := [.int (nI i)]) (rest := []) ⟨hx, hb, hml, hown, hts⟩ (c_X10_tells_x l D cy mo a (upd f 0 (0 : Int32)) g r q (nI i) hD hI) (cwV 1 hts gX10_ways_X10_tells rfl rfl rfl (by decide +kernel) ⟨Nat.le_of_ble_eq_true rfl, Nat.le_of_ble_eq_true rfl⟩) hK hP rfl hl.1 rfl (Nat.le_of_ble_eq_true rfl) dX10_ways_31 ⟨Nat.le_of_ble_eq_true rfl, Nat.le_of_ble_eq_true rfl⟩ hS (fun r31 u H locs q31 hP hS => ?_)
                obtain ⟨rfl, q31⟩ := q31
                have hP : va_P D vwCl (WM cy mo a (upd f 0 (0 : Int32)) g r q) H := hP
                have q31 : Bo r31 (telA ((q 26)) ((f 23)) ((f 24)).toNatClampNeg ((f 25)).toNatClampNeg (nI i)) := q31
                refine lv_if_eq (tgt := 39) hx hb dX10_ways_34 (by decide) (fun c34 => ?_) (fun c34 => ?_)
                · skip
                  have b34 := bo_f q31 c34
                  refine lv_iinc (v := (nI (i + 1))) (lv' := [(2, .int (nI (i + 1))), (1, .int (nI k)), (0, .ref mo)]) hx hb dX10_ways_39 hl (k := 0) rfl (nI_1 _) (by decide) rfl (fun ls hl => ?_)
                  refine lv_goto (tgt := 14) hx hb dX10_ways_42 (by decide) ?_
                  exact ih_14 (i + 1) (by omega) (fun t h1 => by
                                                                                          by_cases e9 : t = i
                                                                                          · rw [e9]; first | exact fun z9 => c26 (g22.mpr z9.1) | exact fun z9 => b34 z9.2
                                                                                          · exact j14_1 t (by omega)) (by omega) _ _ hP hS ls (lv_sub hl [0, 1, 2] rfl)
                · skip
                  have b34 := bo_t q31 c34
                  refine lv_iload_n hx hb dX10_ways_37 rfl (lv_at hl 0 rfl) ?_
                  exact W.iret (v := (nI i)) hx hb hr (fun t ht hW => ⟨⟨_, ((upd f 0 (0 : Int32)), g, r, q), rfl, ⟨rfl, (Or.inl ⟨k, i, (by omega), (by omega), ⟨g22.mp c26, b34⟩, rfl, j7_1, j14_1⟩)⟩, by unfold mB; rw [ht]; exact hP⟩, hS.F ht⟩) hS.2.2 dX10_ways_38
        exact loop_14 (16 + 1) 0 (by omega) (fun t h => absurd h (Nat.not_lt_zero _)) (by omega) _ _ hP hS ls (lv_sub hl [0, 1, 2] rfl)
  exact loop_7 (5 + 1) 0 (by omega) (fun m t h => absurd h (Nat.not_lt_zero _)) (by omega) _ _ hP hS ls (lv_sub hl [0, 1] rfl)
