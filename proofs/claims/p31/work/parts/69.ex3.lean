set_option maxHeartbeats 4000000 in
set_option maxRecDepth 100000 in
theorem c_X10_shadow_x (l : Launch) (D : va_G) (cy : Nat → ClassId) (mo : Nat) (a : Nat → Nat) (f : Nat → Int32) (g : Nat → Int64) (r : Nat → Nat → Int32) (q : Nat → Nat → Int64) (w : Int32) (h : Int32) (p0 : Int64) (way : Int32) (line : Int32) (hD : DM cy mo a)  : Mi l D cy mo a yX10_shadow wsX10_shadow ({ frames := 3, cells := 0, slots := 0, locals := 69 }) f g r q [.int w, .int h, .long p0, .int way, .int line] (fun r0 u => u = ((upd f 0 (0 : Int32)), g, r, q) ∧ (shA w h p0 way line r0)) := by
  refine Met.ofW (cc := cX10_shadow) (maxL := 8) (ret := (some .int)) (by decide) rfl ?_
  intro p e s m args below meth c s₁ B hml hv
  obtain ⟨rfl, hP, hK⟩ := hv
  have hx := B.exec
  have hb := B.bytes
  have hr := B.returns
  have hts := atoms_spec (ws := wsX10_shadow) B.pre
  have hin : ∀ w ∈ u_ws RX10 TX10 35, w ∈ wsX10_shadow := by decide +kernel
  have hown : s.vm.findClass RX10 = some m.cls := findClass_of_methodNamed B.named
  have hlocks := B.notSynchronized
  have hS : va_S (AM mo a) s.heap s.heap [] := va_S.rf
  have hl := lv_entry ([.ref mo, .int w, .int h, .long p0, .int way, .int line]) (n := 8) (Nat.le_of_ble_eq_true rfl)
  rw [lg_entry_eq]
  generalize (lg_sl ([.ref mo, .int w, .int h, .long p0, .int way, .int line]) ++ List.replicate (8 - (lg_sl ([.ref mo, .int w, .int h, .long p0, .int way, .int line])).length) Slot.unset).toArray = ls at hl ⊢
  have hl : lv_has ls 8 [(0, .ref mo), (1, .int w), (2, .int h), (3, .long p0), (5, .int way), (6, .int line)] := hl
  have k_m1 : (-1 : Int32).toInt = -1 := by decide
  have k_0 : (0 : Int32).toInt = 0 := by decide
  have k_1 : (1 : Int32).toInt = 1 := by decide
  have k_0L : (0 : Int64).toInt = 0 := by decide
  have k_3L : (3 : Int64).toInt = 3 := by decide
  refine lv_aload_n hx hb dX10_shadow_0 rfl (lv_at hl 0 rfl) ?_
  refine lv_iconst (v := 0) hx hb dX10_shadow_1 (by decide) ?_
  refine m_put (v := .int (0 : Int32)) (ty := .int) hx hb hts hin hown hK hP hD hS 0 (by decide) rfl (hts (.fieldLink RX10 79 "ShadowBenchModel" "thrown" "I") (by decide +kernel)) rfl (by decide +kernel) rfl rfl (upd f 0 (0 : Int32)) g rfl dX10_shadow_2 (fun H locs hP hS => ?_)
  refine lv_iload_n hx hb dX10_shadow_5 rfl (lv_at hl 1 rfl) ?_
  refine lv_iload_n hx hb dX10_shadow_6 rfl (lv_at hl 2 rfl) ?_
  refine lv_lload_n hx hb dX10_shadow_7 rfl (lv_at hl 3 rfl) ?_
  refine m_pu (As := [.int w, .int h, .long p0]) (rest := []) ⟨hx, hb, hml, hown, hts⟩ (c_X10_isPicture l w h p0 ) (va_cwS 3 hts gX10_shadow_X10_isPicture rfl rfl rfl (by decide +kernel) ⟨Nat.le_of_ble_eq_true rfl, Nat.le_of_ble_eq_true rfl⟩) hP rfl hl.1 rfl (Nat.le_of_ble_eq_true rfl) dX10_shadow_8 ⟨Nat.le_of_ble_eq_true rfl, Nat.le_of_ble_eq_true rfl⟩ hS (fun r8 H locs q8 hP hS => ?_)
  refine lv_if_eq (tgt := 48) hx hb dX10_shadow_11 (by decide) (fun c11 => ?_) (fun c11 => ?_)
  · skip
    have b11 := bo_f q8 c11
    refine lv_iconst (v := 0) hx hb dX10_shadow_48 (by decide) ?_
    refine lv_istore (lv' := [(7, .int (0 : Int32)), (0, .ref mo), (1, .int w), (2, .int h), (3, .long p0), (5, .int way), (6, .int line)]) hx hb dX10_shadow_49 hl (by decide) rfl (fun ls hl => ?_)
    refine lv_iload hx hb dX10_shadow_51 (lv_at hl 0 rfl) ?_
    refine lv_if_eq (tgt := 69) hx hb dX10_shadow_53 (by decide) (fun c53 => ?_) (fun c53 => ?_)
    · skip
      have d53 := c53
      rw [fa_eq] at d53
      refine lv_iconst (v := (-1)) hx hb dX10_shadow_69 (by decide) ?_
      exact W.iret (v := ((-1) : Int32)) hx hb hr (fun t ht hW => ⟨⟨_, ((upd f 0 (0 : Int32)), g, r, q), rfl, ⟨rfl, (Or.inr ⟨(fun z9 => by first | exact goodP_no b11 z9.1 | exact b24 z9.2.1 | (have z7 := z9.2; unfold okL at z7; first | omega | (have i38 : r38.toInt = (r_lines w h way).toInt := congrArg Int32.toInt q38; omega))), rfl⟩)⟩, by unfold mB; rw [ht]; exact hP⟩, hS.F ht⟩) hS.2.2 dX10_shadow_70
    · first | exact absurd c53 (by decide) | exact absurd (by decide) c53
  · skip
    have b11 := bo_t q8 c11
    refine lv_iload hx hb dX10_shadow_14 (lv_at hl 4 rfl) ?_
    refine lv_i2l (v := way.toInt64) hx hb dX10_shadow_16 rfl ?_
    refine lv_lconst (v := 0) hx hb dX10_shadow_17 (by decide) ?_
    refine lv_ldc2 hx hb hown (hts (.constantLong RX10 116 (3)) (by decide +kernel)) dX10_shadow_18 ?_
    refine m_pu (As := [.long (way.toInt64), .long (0 : Int64), .long (3 : Int64)]) (rest := []) ⟨hx, hb, hml, hown, hts⟩ (c_X10_isIn l way.toInt64 (0 : Int64) (3 : Int64) ) (va_cwS 3 hts gX10_shadow_X10_isIn rfl rfl rfl (by decide +kernel) ⟨Nat.le_of_ble_eq_true rfl, Nat.le_of_ble_eq_true rfl⟩) hP rfl hl.1 rfl (Nat.le_of_ble_eq_true rfl) dX10_shadow_21 ⟨Nat.le_of_ble_eq_true rfl, Nat.le_of_ble_eq_true rfl⟩ hS (fun r21 H locs q21 hP hS => ?_)
    have q21 := q21
    simp only [k64, show (0 : Int64).toInt = 0 from rfl, show (1 : Int64).toInt = 1 from rfl, show (2 : Int64).toInt = 2 from rfl, show (3 : Int64).toInt = 3 from rfl, show (6 : Int64).toInt = 6 from rfl] at q21
    refine lv_if_eq (tgt := 48) hx hb dX10_shadow_24 (by decide) (fun c24 => ?_) (fun c24 => ?_)
    · skip
      have b24 := bo_f q21 c24
      refine lv_iconst (v := 0) hx hb dX10_shadow_48 (by decide) ?_
      refine lv_istore (lv' := [(7, .int (0 : Int32)), (0, .ref mo), (1, .int w), (2, .int h), (3, .long p0), (5, .int way), (6, .int line)]) hx hb dX10_shadow_49 hl (by decide) rfl (fun ls hl => ?_)
      refine lv_iload hx hb dX10_shadow_51 (lv_at hl 0 rfl) ?_
      refine lv_if_eq (tgt := 69) hx hb dX10_shadow_53 (by decide) (fun c53 => ?_) (fun c53 => ?_)
      · skip
        have d53 := c53
        rw [fa_eq] at d53
        refine lv_iconst (v := (-1)) hx hb dX10_shadow_69 (by decide) ?_
        exact W.iret (v := ((-1) : Int32)) hx hb hr (fun t ht hW => ⟨⟨_, ((upd f 0 (0 : Int32)), g, r, q), rfl, ⟨rfl, (Or.inr ⟨(fun z9 => by first | exact goodP_no b11 z9.1 | exact b24 z9.2.1 | (have z7 := z9.2; unfold okL at z7; first | omega | (have i38 : r38.toInt = (r_lines w h way).toInt := congrArg Int32.toInt q38; omega))), rfl⟩)⟩, by unfold mB; rw [ht]; exact hP⟩, hS.F ht⟩) hS.2.2 dX10_shadow_70
      · first | exact absurd c53 (by decide) | exact absurd (by decide) c53
    · skip
      have b24 := bo_t q21 c24
      have y24 := b24
      try simp only [k64, show (0 : Int64).toInt = 0 from rfl, show (3 : Int64).toInt = 3 from rfl] at y24
      have hLn := rLn b11.1.1 b11.1.2 (way := way) (by omega)
      refine lv_iload hx hb dX10_shadow_27 (lv_at hl 5 rfl) ?_
      refine lv_if_lt (tgt := 48) hx hb dX10_shadow_29 (by decide) (fun c29 => ?_) (fun c29 => ?_)
      · skip
        have d29 := c29
        rw [fa_lt] at d29
        refine lv_iconst (v := 0) hx hb dX10_shadow_48 (by decide) ?_
        refine lv_istore (lv' := [(7, .int (0 : Int32)), (0, .ref mo), (1, .int w), (2, .int h), (3, .long p0), (5, .int way), (6, .int line)]) hx hb dX10_shadow_49 hl (by decide) rfl (fun ls hl => ?_)
        refine lv_iload hx hb dX10_shadow_51 (lv_at hl 0 rfl) ?_
        refine lv_if_eq (tgt := 69) hx hb dX10_shadow_53 (by decide) (fun c53 => ?_) (fun c53 => ?_)
        · skip
          have d53 := c53
          rw [fa_eq] at d53
          refine lv_iconst (v := (-1)) hx hb dX10_shadow_69 (by decide) ?_
          exact W.iret (v := ((-1) : Int32)) hx hb hr (fun t ht hW => ⟨⟨_, ((upd f 0 (0 : Int32)), g, r, q), rfl, ⟨rfl, (Or.inr ⟨(fun z9 => by first | exact goodP_no b11 z9.1 | exact b24 z9.2.1 | (have z7 := z9.2; unfold okL at z7; first | omega | (have i38 : r38.toInt = (r_lines w h way).toInt := congrArg Int32.toInt q38; omega))), rfl⟩)⟩, by unfold mB; rw [ht]; exact hP⟩, hS.F ht⟩) hS.2.2 dX10_shadow_70
        · first | exact absurd c53 (by decide) | exact absurd (by decide) c53
      · skip
        have d29 := c29
        rw [fa_lt] at d29
        refine lv_iload hx hb dX10_shadow_32 (lv_at hl 5 rfl) ?_
        refine lv_iload_n hx hb dX10_shadow_34 rfl (lv_at hl 1 rfl) ?_
        refine lv_iload_n hx hb dX10_shadow_35 rfl (lv_at hl 2 rfl) ?_
        refine lv_iload hx hb dX10_shadow_36 (lv_at hl 4 rfl) ?_
        refine m_pu (As := [.int w, .int h, .int way]) (rest := [.int line]) ⟨hx, hb, hml, hown, hts⟩ (c_X10_linesOf l w h way ) (va_cwS 3 hts gX10_shadow_X10_linesOf rfl rfl rfl (by decide +kernel) ⟨Nat.le_of_ble_eq_true rfl, Nat.le_of_ble_eq_true rfl⟩) hP rfl hl.1 rfl (Nat.le_of_ble_eq_true rfl) dX10_shadow_38 ⟨Nat.le_of_ble_eq_true rfl, Nat.le_of_ble_eq_true rfl⟩ hS (fun r38 H locs q38 hP hS => ?_)
        have i38 : r38.toInt = (r_lines w h way).toInt := congrArg Int32.toInt q38
        refine lv_icmp_ge (tgt := 48) hx hb dX10_shadow_41 (by decide) (fun c41 => ?_) (fun c41 => ?_)
        · skip
          have d41 := c41
          rw [fa_le] at d41
          refine lv_iconst (v := 0) hx hb dX10_shadow_48 (by decide) ?_
          refine lv_istore (lv' := [(7, .int (0 : Int32)), (0, .ref mo), (1, .int w), (2, .int h), (3, .long p0), (5, .int way), (6, .int line)]) hx hb dX10_shadow_49 hl (by decide) rfl (fun ls hl => ?_)
          refine lv_iload hx hb dX10_shadow_51 (lv_at hl 0 rfl) ?_
          refine lv_if_eq (tgt := 69) hx hb dX10_shadow_53 (by decide) (fun c53 => ?_) (fun c53 => ?_)
          · skip
            have d53 := c53
            rw [fa_eq] at d53
            refine lv_iconst (v := (-1)) hx hb dX10_shadow_69 (by decide) ?_
            exact W.iret (v := ((-1) : Int32)) hx hb hr (fun t ht hW => ⟨⟨_, ((upd f 0 (0 : Int32)), g, r, q), rfl, ⟨rfl, (Or.inr ⟨(fun z9 => by first | exact goodP_no b11 z9.1 | exact b24 z9.2.1 | (have z7 := z9.2; unfold okL at z7; first | omega | (have i38 : r38.toInt = (r_lines w h way).toInt := congrArg Int32.toInt q38; omega))), rfl⟩)⟩, by unfold mB; rw [ht]; exact hP⟩, hS.F ht⟩) hS.2.2 dX10_shadow_70
          · first | exact absurd c53 (by decide) | exact absurd (by decide) c53
        · skip
          have d41 := c41
          rw [fa_le] at d41
          refine lv_iconst (v := 1) hx hb dX10_shadow_44 (by decide) ?_
          refine lv_goto (tgt := 49) hx hb dX10_shadow_45 (by decide) ?_
          refine lv_istore (lv' := [(7, .int (1 : Int32)), (0, .ref mo), (1, .int w), (2, .int h), (3, .long p0), (5, .int way), (6, .int line)]) hx hb dX10_shadow_49 hl (by decide) rfl (fun ls hl => ?_)
          refine lv_iload hx hb dX10_shadow_51 (lv_at hl 0 rfl) ?_
          refine lv_if_eq (tgt := 69) hx hb dX10_shadow_53 (by decide) (fun c53 => ?_) (fun c53 => ?_)
          · first | exact absurd c53 (by decide) | exact absurd (by decide) c53
          · skip
            have d53 := c53
            rw [fa_eq] at d53
            have i38 : r38.toInt = (r_lines w h way).toInt := congrArg Int32.toInt q38
            refine lv_iload_n hx hb dX10_shadow_56 rfl (lv_at hl 2 rfl) ?_
            refine lv_iload_n hx hb dX10_shadow_57 rfl (lv_at hl 3 rfl) ?_
            refine lv_lload_n hx hb dX10_shadow_58 rfl (lv_at hl 4 rfl) ?_
            refine lv_iload hx hb dX10_shadow_59 (lv_at hl 5 rfl) ?_
            refine lv_iload hx hb dX10_shadow_61 (lv_at hl 6 rfl) ?_
            refine m_pu (As := [.int w, .int h, .long p0, .int way, .int line]) (rest := []) ⟨hx, hb, hml, hown, hts⟩ (c_X10_shadowOf l w h p0 way line b11.1.1 b11.1.2) (va_cwS 5 hts gX10_shadow_X10_shadowOf rfl rfl rfl (by decide +kernel) ⟨Nat.le_of_ble_eq_true rfl, Nat.le_of_ble_eq_true rfl⟩) hP rfl hl.1 rfl (Nat.le_of_ble_eq_true rfl) dX10_shadow_63 ⟨Nat.le_of_ble_eq_true rfl, Nat.le_of_ble_eq_true rfl⟩ hS (fun r63 H locs q63 hP hS => ?_)
            refine lv_goto (tgt := 70) hx hb dX10_shadow_66 (by decide) ?_
            exact W.iret (v := r63) hx hb hr (fun t ht hW => ⟨⟨_, ((upd f 0 (0 : Int32)), g, r, q), rfl, ⟨rfl, (Or.inl ⟨⟨goodP_of b11, (by unfold okL; omega)⟩, r_shS b11.1.1 b11.1.2 (by omega) (by omega) q63⟩)⟩, by unfold mB; rw [ht]; exact hP⟩, hS.F ht⟩) hS.2.2 dX10_shadow_70
set_option maxHeartbeats 4000000 in
set_option maxRecDepth 100000 in
theorem c_X10_parts_x (l : Launch) (D : va_G) (cy : Nat → ClassId) (mo : Nat) (a : Nat → Nat) (f : Nat → Int32) (g : Nat → Int64) (r : Nat → Nat → Int32) (q : Nat → Nat → Int64) (w : Int32) (h : Int32) (p0 : Int64) (p1 : Int64) (ways : Int32) (hD : DM cy mo a)  : Mi l D cy mo a yX10_parts wsX10_parts ({ frames := 3, cells := 0, slots := 0, locals := 78 }) f g r q [.int w, .int h, .long p0, .long p1, .int ways] (fun r0 u => u = ((upd f 0 (0 : Int32)), g, r, q) ∧ (paA w h p0 p1 ways r0)) := by
  refine Met.ofW (cc := cX10_parts) (maxL := 9) (ret := (some .int)) (by decide) rfl ?_
  intro p e s m args below meth c s₁ B hml hv
  obtain ⟨rfl, hP, hK⟩ := hv
  have hx := B.exec
  have hb := B.bytes
  have hr := B.returns
  have hts := atoms_spec (ws := wsX10_parts) B.pre
  have hin : ∀ w ∈ u_ws RX10 TX10 35, w ∈ wsX10_parts := by decide +kernel
  have hown : s.vm.findClass RX10 = some m.cls := findClass_of_methodNamed B.named
  have hlocks := B.notSynchronized
  have hS : va_S (AM mo a) s.heap s.heap [] := va_S.rf
  have hl := lv_entry ([.ref mo, .int w, .int h, .long p0, .long p1, .int ways]) (n := 9) (Nat.le_of_ble_eq_true rfl)
  rw [lg_entry_eq]
  generalize (lg_sl ([.ref mo, .int w, .int h, .long p0, .long p1, .int ways]) ++ List.replicate (9 - (lg_sl ([.ref mo, .int w, .int h, .long p0, .long p1, .int ways])).length) Slot.unset).toArray = ls at hl ⊢
  have hl : lv_has ls 9 [(0, .ref mo), (1, .int w), (2, .int h), (3, .long p0), (5, .long p1), (7, .int ways)] := hl
  have k_m2 : (-2 : Int32).toInt = -2 := by decide
  have k_m1 : (-1 : Int32).toInt = -1 := by decide
  have k_0 : (0 : Int32).toInt = 0 := by decide
  have k_1 : (1 : Int32).toInt = 1 := by decide
  have k_4 : (4 : Int32).toInt = 4 := by decide
  have k_0L : (0 : Int64).toInt = 0 := by decide
  have k_15L : (15 : Int64).toInt = 15 := by decide
  refine lv_aload_n hx hb dX10_parts_0 rfl (lv_at hl 0 rfl) ?_
  refine lv_iconst (v := 0) hx hb dX10_parts_1 (by decide) ?_
  refine m_put (v := .int (0 : Int32)) (ty := .int) hx hb hts hin hown hK hP hD hS 0 (by decide) rfl (hts (.fieldLink RX10 79 "ShadowBenchModel" "thrown" "I") (by decide +kernel)) rfl (by decide +kernel) rfl rfl (upd f 0 (0 : Int32)) g rfl dX10_parts_2 (fun H locs hP hS => ?_)
  refine lv_iload_n hx hb dX10_parts_5 rfl (lv_at hl 1 rfl) ?_
  refine lv_iload_n hx hb dX10_parts_6 rfl (lv_at hl 2 rfl) ?_
  refine lv_lload_n hx hb dX10_parts_7 rfl (lv_at hl 3 rfl) ?_
  refine m_pu (As := [.int w, .int h, .long p0]) (rest := []) ⟨hx, hb, hml, hown, hts⟩ (c_X10_isPicture l w h p0 ) (va_cwS 3 hts gX10_parts_X10_isPicture rfl rfl rfl (by decide +kernel) ⟨Nat.le_of_ble_eq_true rfl, Nat.le_of_ble_eq_true rfl⟩) hP rfl hl.1 rfl (Nat.le_of_ble_eq_true rfl) dX10_parts_8 ⟨Nat.le_of_ble_eq_true rfl, Nat.le_of_ble_eq_true rfl⟩ hS (fun r8 H locs q8 hP hS => ?_)
  refine lv_if_eq (tgt := 37) hx hb dX10_parts_11 (by decide) (fun c11 => ?_) (fun c11 => ?_)
  · skip
    have b11 := bo_f q8 c11
    refine lv_iconst (v := (-1)) hx hb dX10_parts_37 (by decide) ?_
    exact W.iret (v := ((-1) : Int32)) hx hb hr (fun t ht hW => ⟨⟨_, ((upd f 0 (0 : Int32)), g, r, q), rfl, ⟨rfl, (Or.inr ⟨(fun z9 => by first | exact goodP_no b11 z9.1 | exact goodP_no b21 z9.2.1 | (have y34 := b34; simp only [k64, show (0 : Int64).toInt = 0 from rfl, show (15 : Int64).toInt = 15 from rfl] at y34; exact y34 z9.2.2)), rfl⟩)⟩, by unfold mB; rw [ht]; exact hP⟩, hS.F ht⟩) hS.2.2 dX10_parts_38
  · skip
    have b11 := bo_t q8 c11
    refine lv_iload_n hx hb dX10_parts_14 rfl (lv_at hl 1 rfl) ?_
    refine lv_iload_n hx hb dX10_parts_15 rfl (lv_at hl 2 rfl) ?_
    refine lv_lload hx hb dX10_parts_16 (lv_at hl 4 rfl) ?_
    refine m_pu (As := [.int w, .int h, .long p1]) (rest := []) ⟨hx, hb, hml, hown, hts⟩ (c_X10_isPicture l w h p1 ) (va_cwS 3 hts gX10_parts_X10_isPicture rfl rfl rfl (by decide +kernel) ⟨Nat.le_of_ble_eq_true rfl, Nat.le_of_ble_eq_true rfl⟩) hP rfl hl.1 rfl (Nat.le_of_ble_eq_true rfl) dX10_parts_18 ⟨Nat.le_of_ble_eq_true rfl, Nat.le_of_ble_eq_true rfl⟩ hS (fun r18 H locs q18 hP hS => ?_)
    refine lv_if_eq (tgt := 37) hx hb dX10_parts_21 (by decide) (fun c21 => ?_) (fun c21 => ?_)
    · skip
      have b21 := bo_f q18 c21
      refine lv_iconst (v := (-1)) hx hb dX10_parts_37 (by decide) ?_
      exact W.iret (v := ((-1) : Int32)) hx hb hr (fun t ht hW => ⟨⟨_, ((upd f 0 (0 : Int32)), g, r, q), rfl, ⟨rfl, (Or.inr ⟨(fun z9 => by first | exact goodP_no b11 z9.1 | exact goodP_no b21 z9.2.1 | (have y34 := b34; simp only [k64, show (0 : Int64).toInt = 0 from rfl, show (15 : Int64).toInt = 15 from rfl] at y34; exact y34 z9.2.2)), rfl⟩)⟩, by unfold mB; rw [ht]; exact hP⟩, hS.F ht⟩) hS.2.2 dX10_parts_38
    · skip
      have b21 := bo_t q18 c21
      refine lv_iload hx hb dX10_parts_24 (lv_at hl 5 rfl) ?_
      refine lv_i2l (v := ways.toInt64) hx hb dX10_parts_26 rfl ?_
      refine lv_lconst (v := 0) hx hb dX10_parts_27 (by decide) ?_
      refine lv_ldc2 hx hb hown (hts (.constantLong RX10 228 (15)) (by decide +kernel)) dX10_parts_28 ?_
      refine m_pu (As := [.long (ways.toInt64), .long (0 : Int64), .long (15 : Int64)]) (rest := []) ⟨hx, hb, hml, hown, hts⟩ (c_X10_isIn l ways.toInt64 (0 : Int64) (15 : Int64) ) (va_cwS 3 hts gX10_parts_X10_isIn rfl rfl rfl (by decide +kernel) ⟨Nat.le_of_ble_eq_true rfl, Nat.le_of_ble_eq_true rfl⟩) hP rfl hl.1 rfl (Nat.le_of_ble_eq_true rfl) dX10_parts_31 ⟨Nat.le_of_ble_eq_true rfl, Nat.le_of_ble_eq_true rfl⟩ hS (fun r31 H locs q31 hP hS => ?_)
      have q31 := q31
      simp only [k64, show (0 : Int64).toInt = 0 from rfl, show (1 : Int64).toInt = 1 from rfl, show (2 : Int64).toInt = 2 from rfl, show (3 : Int64).toInt = 3 from rfl, show (6 : Int64).toInt = 6 from rfl] at q31
      refine lv_if_ne (tgt := 39) hx hb dX10_parts_34 (by decide) (fun c34 => ?_) (fun c34 => ?_)
      · skip
        have b34 := bo_t q31 c34
        have y34 := b34
        try simp only [k64, show (0 : Int64).toInt = 0 from rfl, show (15 : Int64).toInt = 15 from rfl] at y34
        refine lv_iconst (v := 0) hx hb dX10_parts_39 (by decide) ?_
        refine lv_istore (lv' := [(8, .int (0 : Int32)), (0, .ref mo), (1, .int w), (2, .int h), (3, .long p0), (5, .long p1), (7, .int ways)]) hx hb dX10_parts_40 hl (by decide) rfl (fun ls hl => ?_)
        have loop_42 : ∀ (n : Nat) (k : Nat), (k ≤ 4) → (∀ j, j < k → ¬ unl w.toNatClampNeg h.toNatClampNeg p0 p1 ways j) → 4 - k < n → ∀ (H : Heap) (locs : List Loc), va_P D vwCl (WM cy mo a (upd f 0 (0 : Int32)) g r q) H → va_S (AM mo a) s.heap H locs → ∀ (ls : Array Slot), lv_has ls 9 [(8, .int (nI k)), (0, .ref mo), (1, .int w), (2, .int h), (3, .long p0), (5, .long p1), (7, .int ways)] → W p l e (headSpec wsX10_parts ({ frames := 3, cells := 0, slots := 0, locals := 78 })).room s m #[Value.ref mo, Value.int w, Value.int h, Value.long p0, Value.long p1, Value.int ways] below meth c H locs 0 0 (MQ below (va_Qi (fun r0 u => u = ((upd f 0 (0 : Int32)), g, r, q) ∧ (paA w h p0 p1 ways r0)) (mB D cy mo a) (AM mo a)) #[Value.ref mo, Value.int w, Value.int h, Value.long p0, Value.long p1, Value.int ways] s 0 0 (AM mo a)) (F0 m 42 ls []) := by
          intro n
          induction n with
          | zero => intro k  j42_0 j42_1 hn; exact absurd hn (Nat.not_lt_zero _)
          | succ n ih_42 =>
            intro k  j42_0 j42_1 hn_42 H locs hP hS ls hl
            have ik : (nI k).toInt = (k : Int) := nI_toInt (by omega)
            refine lv_iload hx hb dX10_parts_42 (lv_at hl 0 rfl) ?_
            refine lv_iconst (v := 4) hx hb dX10_parts_44 (by decide) ?_
            refine lv_icmp_ge (tgt := 81) hx hb dX10_parts_45 (by decide) (fun c45 => ?_) (fun c45 => ?_)
            · skip
              have d45 := c45
              rw [fa_le] at d45
              refine lv_bipush (v := (-2)) hx hb dX10_parts_81 (by decide) ?_
              exact W.iret (v := ((-2) : Int32)) hx hb hr (fun t ht hW => ⟨⟨_, ((upd f 0 (0 : Int32)), g, r, q), rfl, ⟨rfl, (Or.inl ⟨⟨goodP_of b11, goodP_of b21, y34⟩, Or.inr ⟨rfl, fun j9 h9 => j42_1 j9 (by omega)⟩⟩)⟩, by unfold mB; rw [ht]; exact hP⟩, hS.F ht⟩) hS.2.2 dX10_parts_83
            · skip
              have d45 := c45
              rw [fa_le] at d45
              refine lv_iload hx hb dX10_parts_48 (lv_at hl 6 rfl) ?_
              refine lv_iload hx hb dX10_parts_50 (lv_at hl 0 rfl) ?_
              refine lv_ishr hx hb dX10_parts_52 ?_
              refine lv_topi (fun v52 e52 => ?_)
              refine lv_iconst (v := 1) hx hb dX10_parts_53 (by decide) ?_
              refine lv_iand hx hb dX10_parts_54 ?_
              refine lv_topi (fun v54 e54 => ?_)
              refine lv_iconst (v := 1) hx hb dX10_parts_55 (by decide) ?_
              have hB : gB ways k = v54 := by rw [e54, e52]; rfl
              refine lv_icmp_ne (tgt := 75) hx hb dX10_parts_56 (by decide) (fun c56 => ?_) (fun c56 => ?_)
              · skip
                have d56 := c56
                rw [fa_eq] at d56
                refine lv_iinc (v := (nI (k + 1))) (lv' := [(8, .int (nI (k + 1))), (0, .ref mo), (1, .int w), (2, .int h), (3, .long p0), (5, .long p1), (7, .int ways)]) hx hb dX10_parts_75 hl (k := 0) rfl (nI_1 _) (by decide) rfl (fun ls hl => ?_)
                refine lv_goto (tgt := 42) hx hb dX10_parts_78 (by decide) ?_
                exact ih_42 (k + 1) (by omega) (fun j hj => by
                                                                                          by_cases e9 : j = k
                                                                                          · rw [e9]; first | exact fun z9 => c56 (hB.symm.trans z9.1) | exact fun z9 => z9.2 b69
                                                                                          · exact j42_1 j (by omega)) (by omega) _ _ hP hS ls (lv_sub hl [0, 1, 2, 3, 4, 5, 6] rfl)
              · skip
                have d56 := c56
                rw [fa_eq] at d56
                refine lv_iload_n hx hb dX10_parts_59 rfl (lv_at hl 2 rfl) ?_
                refine lv_iload_n hx hb dX10_parts_60 rfl (lv_at hl 3 rfl) ?_
                refine lv_lload_n hx hb dX10_parts_61 rfl (lv_at hl 4 rfl) ?_
                refine lv_lload hx hb dX10_parts_62 (lv_at hl 5 rfl) ?_
                refine lv_iload hx hb dX10_parts_64 (lv_at hl 0 rfl) ?_
                refine m_pu (As := [.int w, .int h, .long p0, .long p1, .int (nI k)]) (rest := []) ⟨hx, hb, hml, hown, hts⟩ (c_X10_areAlike_x l w h p0 p1 (nI k) b11.1.1 b11.1.2 (by omega)) (va_cwS 5 hts gX10_parts_X10_areAlike rfl rfl rfl (by decide +kernel) ⟨Nat.le_of_ble_eq_true rfl, Nat.le_of_ble_eq_true rfl⟩) hP rfl hl.1 rfl (Nat.le_of_ble_eq_true rfl) dX10_parts_66 ⟨Nat.le_of_ble_eq_true rfl, Nat.le_of_ble_eq_true rfl⟩ hS (fun r66 H locs q66 hP hS => ?_)
                have ck9 : (nI k).toNatClampNeg = k := nI_clamp (by omega)
                rw [ck9] at q66
                refine lv_if_ne (tgt := 75) hx hb dX10_parts_69 (by decide) (fun c69 => ?_) (fun c69 => ?_)
                · skip
                  have b69 := bo_t q66 c69
                  refine lv_iinc (v := (nI (k + 1))) (lv' := [(8, .int (nI (k + 1))), (0, .ref mo), (1, .int w), (2, .int h), (3, .long p0), (5, .long p1), (7, .int ways)]) hx hb dX10_parts_75 hl (k := 0) rfl (nI_1 _) (by decide) rfl (fun ls hl => ?_)
                  refine lv_goto (tgt := 42) hx hb dX10_parts_78 (by decide) ?_
                  exact ih_42 (k + 1) (by omega) (fun j hj => by
                                                                                          by_cases e9 : j = k
                                                                                          · rw [e9]; first | exact fun z9 => c56 (hB.symm.trans z9.1) | exact fun z9 => z9.2 b69
                                                                                          · exact j42_1 j (by omega)) (by omega) _ _ hP hS ls (lv_sub hl [0, 1, 2, 3, 4, 5, 6] rfl)
                · skip
                  have b69 := bo_f q66 c69
                  refine lv_iload hx hb dX10_parts_72 (lv_at hl 0 rfl) ?_
                  exact W.iret (v := (nI k)) hx hb hr (fun t ht hW => ⟨⟨_, ((upd f 0 (0 : Int32)), g, r, q), rfl, ⟨rfl, (Or.inl ⟨⟨goodP_of b11, goodP_of b21, y34⟩, Or.inl ⟨k, (by omega), rfl, ⟨hB.trans c56, b69⟩, j42_1⟩⟩)⟩, by unfold mB; rw [ht]; exact hP⟩, hS.F ht⟩) hS.2.2 dX10_parts_74
        exact loop_42 (4 + 1) 0 (by omega) (fun j hj => absurd hj (Nat.not_lt_zero _)) (by omega) _ _ hP hS ls (lv_sub hl [0, 1, 2, 3, 4, 5, 6] rfl)
      · skip
        have b34 := bo_f q31 c34
        refine lv_iconst (v := (-1)) hx hb dX10_parts_37 (by decide) ?_
        exact W.iret (v := ((-1) : Int32)) hx hb hr (fun t ht hW => ⟨⟨_, ((upd f 0 (0 : Int32)), g, r, q), rfl, ⟨rfl, (Or.inr ⟨(fun z9 => by first | exact goodP_no b11 z9.1 | exact goodP_no b21 z9.2.1 | (have y34 := b34; simp only [k64, show (0 : Int64).toInt = 0 from rfl, show (15 : Int64).toInt = 15 from rfl] at y34; exact y34 z9.2.2)), rfl⟩)⟩, by unfold mB; rw [ht]; exact hP⟩, hS.F ht⟩) hS.2.2 dX10_parts_38
