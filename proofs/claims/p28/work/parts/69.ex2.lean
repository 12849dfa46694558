set_option maxHeartbeats 4000000 in
set_option maxRecDepth 100000 in
theorem c_X10_ghost_x (l : Launch) (D : va_G) (cy : Nat → ClassId) (mo : Nat) (a : Nat → Nat) (f : Nat → Int32) (g : Nat → Int64) (r : Nat → Nat → Int32) (q : Nat → Nat → Int64) (ways : Int32) (x : Int32) (y : Int32) (hD : DM cy mo a)  : Mi l D cy mo a yX10_ghost wsX10_ghost ({ frames := 2, cells := 0, slots := 0, locals := 51 }) f g r q [.int ways, .int x, .int y] (fun r0 u => ∃ (th : Int32), ∃ (gh : Nat → Int32), ∃ (mv : Nat → Int32), u = ((upd f 0 th), g, (va_up (va_up r 27 gh) 28 mv), q) ∧ ((gOk ways x y ∧ th = 0 ∧ r0.toInt = gV ways x y) ∨ (¬ gOk ways x y ∧ th = 1))) := by
  refine Met.ofW (cc := cX10_ghost) (maxL := 4) (ret := (some .int)) (by decide) rfl ?_
  intro p e s m args below meth c s₁ B hml hv
  obtain ⟨rfl, hP, hK⟩ := hv
  have hx := B.exec
  have hb := B.bytes
  have hr := B.returns
  have hts := atoms_spec (ws := wsX10_ghost) B.pre
  have hin : ∀ w ∈ u_ws RX10 TX10 35, w ∈ wsX10_ghost := by decide +kernel
  have hown : s.vm.findClass RX10 = some m.cls := findClass_of_methodNamed B.named
  have hlocks := B.notSynchronized
  have hS : va_S (AM mo a) s.heap s.heap [] := va_S.rf
  have hl := lv_entry ([.ref mo, .int ways, .int x, .int y]) (n := 4) (Nat.le_of_ble_eq_true rfl)
  rw [lg_entry_eq]
  generalize (lg_sl ([.ref mo, .int ways, .int x, .int y]) ++ List.replicate (4 - (lg_sl ([.ref mo, .int ways, .int x, .int y])).length) Slot.unset).toArray = ls at hl ⊢
  have hl : lv_has ls 4 [(0, .ref mo), (1, .int ways), (2, .int x), (3, .int y)] := hl
  have k_0 : (0 : Int32).toInt = 0 := by decide
  have k_1 : (1 : Int32).toInt = 1 := by decide
  have k_11 : (11 : Int32).toInt = 11 := by decide
  have k_0L : (0 : Int64).toInt = 0 := by decide
  have k_1L : (1 : Int64).toInt = 1 := by decide
  have k_8L : (8 : Int64).toInt = 8 := by decide
  have k_15L : (15 : Int64).toInt = 15 := by decide
  refine lv_aload_n hx hb dX10_ghost_0 rfl (lv_at hl 0 rfl) ?_
  refine lv_iload_n hx hb dX10_ghost_1 rfl (lv_at hl 1 rfl) ?_
  refine lv_i2l (v := ways.toInt64) hx hb dX10_ghost_2 rfl ?_
  refine lv_lconst (v := 1) hx hb dX10_ghost_3 (by decide) ?_
  refine lv_ldc2 hx hb hown (hts (.constantLong RX10 228 (15)) (by decide +kernel)) dX10_ghost_4 ?_
  refine m_pu (As := [.long (ways.toInt64), .long (1 : Int64), .long (15 : Int64)]) (rest := [.ref mo]) ⟨hx, hb, hml, hown, hts⟩ (c_X10_isIn l ways.toInt64 (1 : Int64) (15 : Int64) ) (va_cwS 3 hts gX10_ghost_X10_isIn rfl rfl rfl (by decide +kernel) ⟨Nat.le_of_ble_eq_true rfl, Nat.le_of_ble_eq_true rfl⟩) hP rfl hl.1 rfl (Nat.le_of_ble_eq_true rfl) dX10_ghost_7 ⟨Nat.le_of_ble_eq_true rfl, Nat.le_of_ble_eq_true rfl⟩ hS (fun r7 H locs q7 hP hS => ?_)
  have q7 := q7
  simp only [k64, show (0 : Int64).toInt = 0 from rfl, show (1 : Int64).toInt = 1 from rfl, show (2 : Int64).toInt = 2 from rfl, show (3 : Int64).toInt = 3 from rfl, show (6 : Int64).toInt = 6 from rfl] at q7
  refine lv_if_eq (tgt := 41) hx hb dX10_ghost_10 (by decide) (fun c10 => ?_) (fun c10 => ?_)
  · skip
    have b10 := bo_f q7 c10
    refine lv_iconst (v := 1) hx hb dX10_ghost_41 (by decide) ?_
    refine m_put (v := .int (1 : Int32)) (ty := .int) hx hb hts hin hown hK hP hD hS 0 (by decide) rfl (hts (.fieldLink RX10 79 "ShadowBenchModel" "thrown" "I") (by decide +kernel)) rfl (by decide +kernel) rfl rfl (upd f 0 (1 : Int32)) g rfl dX10_ghost_42 (fun H locs hP hS => ?_)
    refine lv_aload_n hx hb dX10_ghost_45 rfl (lv_at hl 0 rfl) ?_
    refine m_get (v := .int (1 : Int32)) hx hb hts hin hown hK hP 0 (by decide) rfl (hts (.fieldLink RX10 79 "ShadowBenchModel" "thrown" "I") (by decide +kernel)) rfl dX10_ghost_46 ?_
    refine lv_if_le (tgt := 54) hx hb dX10_ghost_49 (by decide) (fun c49 => ?_) (fun c49 => ?_)
    · first | exact absurd c49 (by decide) | exact absurd (by decide) c49
    · skip
      have d49 := c49
      rw [fa_le] at d49
      have nb : ¬ gOk ways x y := by
        unfold gOk
        first | have y10 := b10 | skip
        first | have y22 := b22 | skip
        first | have y34 := b34 | skip
        try simp only [k64, show (0 : Int64).toInt = 0 from rfl, show (1 : Int64).toInt = 1 from rfl, show (8 : Int64).toInt = 8 from rfl, show (15 : Int64).toInt = 15 from rfl] at y10
        try simp only [k64, show (0 : Int64).toInt = 0 from rfl, show (8 : Int64).toInt = 8 from rfl] at y22
        try simp only [k64, show (0 : Int64).toInt = 0 from rfl, show (8 : Int64).toInt = 8 from rfl] at y34
        omega
      refine lv_iconst (v := 0) hx hb dX10_ghost_52 (by decide) ?_
      have hP := wm_eq rfl rfl (ec_r___27_28 r ) rfl hP
      exact W.iret (v := (0 : Int32)) hx hb hr (fun t ht hW => ⟨⟨_, ((upd f 0 (1 : Int32)), g, (va_up (va_up r 27 (r 27)) 28 (r 28)), q), rfl, ⟨(1 : Int32), (r 27), (r 28), rfl, Or.inr ⟨nb, rfl⟩⟩, by unfold mB; rw [ht]; exact hP⟩, hS.F ht⟩) hS.2.2 dX10_ghost_53
  · skip
    have b10 := bo_t q7 c10
    refine lv_iload_n hx hb dX10_ghost_13 rfl (lv_at hl 2 rfl) ?_
    refine lv_i2l (v := x.toInt64) hx hb dX10_ghost_14 rfl ?_
    refine lv_lconst (v := 0) hx hb dX10_ghost_15 (by decide) ?_
    refine lv_ldc2 hx hb hown (hts (.constantLong RX10 250 (8)) (by decide +kernel)) dX10_ghost_16 ?_
    refine m_pu (As := [.long (x.toInt64), .long (0 : Int64), .long (8 : Int64)]) (rest := [.ref mo]) ⟨hx, hb, hml, hown, hts⟩ (c_X10_isIn l x.toInt64 (0 : Int64) (8 : Int64) ) (va_cwS 3 hts gX10_ghost_X10_isIn rfl rfl rfl (by decide +kernel) ⟨Nat.le_of_ble_eq_true rfl, Nat.le_of_ble_eq_true rfl⟩) hP rfl hl.1 rfl (Nat.le_of_ble_eq_true rfl) dX10_ghost_19 ⟨Nat.le_of_ble_eq_true rfl, Nat.le_of_ble_eq_true rfl⟩ hS (fun r19 H locs q19 hP hS => ?_)
    have q19 := q19
    simp only [k64, show (0 : Int64).toInt = 0 from rfl, show (1 : Int64).toInt = 1 from rfl, show (2 : Int64).toInt = 2 from rfl, show (3 : Int64).toInt = 3 from rfl, show (6 : Int64).toInt = 6 from rfl] at q19
    refine lv_if_eq (tgt := 41) hx hb dX10_ghost_22 (by decide) (fun c22 => ?_) (fun c22 => ?_)
    · skip
      have b22 := bo_f q19 c22
      refine lv_iconst (v := 1) hx hb dX10_ghost_41 (by decide) ?_
      refine m_put (v := .int (1 : Int32)) (ty := .int) hx hb hts hin hown hK hP hD hS 0 (by decide) rfl (hts (.fieldLink RX10 79 "ShadowBenchModel" "thrown" "I") (by decide +kernel)) rfl (by decide +kernel) rfl rfl (upd f 0 (1 : Int32)) g rfl dX10_ghost_42 (fun H locs hP hS => ?_)
      refine lv_aload_n hx hb dX10_ghost_45 rfl (lv_at hl 0 rfl) ?_
      refine m_get (v := .int (1 : Int32)) hx hb hts hin hown hK hP 0 (by decide) rfl (hts (.fieldLink RX10 79 "ShadowBenchModel" "thrown" "I") (by decide +kernel)) rfl dX10_ghost_46 ?_
      refine lv_if_le (tgt := 54) hx hb dX10_ghost_49 (by decide) (fun c49 => ?_) (fun c49 => ?_)
      · first | exact absurd c49 (by decide) | exact absurd (by decide) c49
      · skip
        have d49 := c49
        rw [fa_le] at d49
        have nb : ¬ gOk ways x y := by
          unfold gOk
          first | have y10 := b10 | skip
          first | have y22 := b22 | skip
          first | have y34 := b34 | skip
          try simp only [k64, show (0 : Int64).toInt = 0 from rfl, show (1 : Int64).toInt = 1 from rfl, show (8 : Int64).toInt = 8 from rfl, show (15 : Int64).toInt = 15 from rfl] at y10
          try simp only [k64, show (0 : Int64).toInt = 0 from rfl, show (8 : Int64).toInt = 8 from rfl] at y22
          try simp only [k64, show (0 : Int64).toInt = 0 from rfl, show (8 : Int64).toInt = 8 from rfl] at y34
          omega
        refine lv_iconst (v := 0) hx hb dX10_ghost_52 (by decide) ?_
        have hP := wm_eq rfl rfl (ec_r___27_28 r ) rfl hP
        exact W.iret (v := (0 : Int32)) hx hb hr (fun t ht hW => ⟨⟨_, ((upd f 0 (1 : Int32)), g, (va_up (va_up r 27 (r 27)) 28 (r 28)), q), rfl, ⟨(1 : Int32), (r 27), (r 28), rfl, Or.inr ⟨nb, rfl⟩⟩, by unfold mB; rw [ht]; exact hP⟩, hS.F ht⟩) hS.2.2 dX10_ghost_53
    · skip
      have b22 := bo_t q19 c22
      refine lv_iload_n hx hb dX10_ghost_25 rfl (lv_at hl 3 rfl) ?_
      refine lv_i2l (v := y.toInt64) hx hb dX10_ghost_26 rfl ?_
      refine lv_lconst (v := 0) hx hb dX10_ghost_27 (by decide) ?_
      refine lv_ldc2 hx hb hown (hts (.constantLong RX10 250 (8)) (by decide +kernel)) dX10_ghost_28 ?_
      refine m_pu (As := [.long (y.toInt64), .long (0 : Int64), .long (8 : Int64)]) (rest := [.ref mo]) ⟨hx, hb, hml, hown, hts⟩ (c_X10_isIn l y.toInt64 (0 : Int64) (8 : Int64) ) (va_cwS 3 hts gX10_ghost_X10_isIn rfl rfl rfl (by decide +kernel) ⟨Nat.le_of_ble_eq_true rfl, Nat.le_of_ble_eq_true rfl⟩) hP rfl hl.1 rfl (Nat.le_of_ble_eq_true rfl) dX10_ghost_31 ⟨Nat.le_of_ble_eq_true rfl, Nat.le_of_ble_eq_true rfl⟩ hS (fun r31 H locs q31 hP hS => ?_)
      have q31 := q31
      simp only [k64, show (0 : Int64).toInt = 0 from rfl, show (1 : Int64).toInt = 1 from rfl, show (2 : Int64).toInt = 2 from rfl, show (3 : Int64).toInt = 3 from rfl, show (6 : Int64).toInt = 6 from rfl] at q31
      refine lv_if_eq (tgt := 41) hx hb dX10_ghost_34 (by decide) (fun c34 => ?_) (fun c34 => ?_)
      · skip
        have b34 := bo_f q31 c34
        refine lv_iconst (v := 1) hx hb dX10_ghost_41 (by decide) ?_
        refine m_put (v := .int (1 : Int32)) (ty := .int) hx hb hts hin hown hK hP hD hS 0 (by decide) rfl (hts (.fieldLink RX10 79 "ShadowBenchModel" "thrown" "I") (by decide +kernel)) rfl (by decide +kernel) rfl rfl (upd f 0 (1 : Int32)) g rfl dX10_ghost_42 (fun H locs hP hS => ?_)
        refine lv_aload_n hx hb dX10_ghost_45 rfl (lv_at hl 0 rfl) ?_
        refine m_get (v := .int (1 : Int32)) hx hb hts hin hown hK hP 0 (by decide) rfl (hts (.fieldLink RX10 79 "ShadowBenchModel" "thrown" "I") (by decide +kernel)) rfl dX10_ghost_46 ?_
        refine lv_if_le (tgt := 54) hx hb dX10_ghost_49 (by decide) (fun c49 => ?_) (fun c49 => ?_)
        · first | exact absurd c49 (by decide) | exact absurd (by decide) c49
        · skip
          have d49 := c49
          rw [fa_le] at d49
          have nb : ¬ gOk ways x y := by
            unfold gOk
            first | have y10 := b10 | skip
            first | have y22 := b22 | skip
            first | have y34 := b34 | skip
            try simp only [k64, show (0 : Int64).toInt = 0 from rfl, show (1 : Int64).toInt = 1 from rfl, show (8 : Int64).toInt = 8 from rfl, show (15 : Int64).toInt = 15 from rfl] at y10
            try simp only [k64, show (0 : Int64).toInt = 0 from rfl, show (8 : Int64).toInt = 8 from rfl] at y22
            try simp only [k64, show (0 : Int64).toInt = 0 from rfl, show (8 : Int64).toInt = 8 from rfl] at y34
            omega
          refine lv_iconst (v := 0) hx hb dX10_ghost_52 (by decide) ?_
          have hP := wm_eq rfl rfl (ec_r___27_28 r ) rfl hP
          exact W.iret (v := (0 : Int32)) hx hb hr (fun t ht hW => ⟨⟨_, ((upd f 0 (1 : Int32)), g, (va_up (va_up r 27 (r 27)) 28 (r 28)), q), rfl, ⟨(1 : Int32), (r 27), (r 28), rfl, Or.inr ⟨nb, rfl⟩⟩, by unfold mB; rw [ht]; exact hP⟩, hS.F ht⟩) hS.2.2 dX10_ghost_53
      · skip
        have b34 := bo_t q31 c34
        refine lv_iconst (v := 0) hx hb dX10_ghost_37 (by decide) ?_
        refine lv_goto (tgt := 42) hx hb dX10_ghost_38 (by decide) ?_
        refine m_put (v := .int (0 : Int32)) (ty := .int) hx hb hts hin hown hK hP hD hS 0 (by decide) rfl (hts (.fieldLink RX10 79 "ShadowBenchModel" "thrown" "I") (by decide +kernel)) rfl (by decide +kernel) rfl rfl (upd f 0 (0 : Int32)) g rfl dX10_ghost_42 (fun H locs hP hS => ?_)
        refine lv_aload_n hx hb dX10_ghost_45 rfl (lv_at hl 0 rfl) ?_
        refine m_get (v := .int (0 : Int32)) hx hb hts hin hown hK hP 0 (by decide) rfl (hts (.fieldLink RX10 79 "ShadowBenchModel" "thrown" "I") (by decide +kernel)) rfl dX10_ghost_46 ?_
        refine lv_if_le (tgt := 54) hx hb dX10_ghost_49 (by decide) (fun c49 => ?_) (fun c49 => ?_)
        · skip
          have d49 := c49
          rw [fa_le] at d49
          have y10 := b10
          have y22 := b22
          have y34 := b34
          try simp only [k64, show (0 : Int64).toInt = 0 from rfl, show (1 : Int64).toInt = 1 from rfl, show (8 : Int64).toInt = 8 from rfl, show (15 : Int64).toInt = 15 from rfl] at y10
          try simp only [k64, show (0 : Int64).toInt = 0 from rfl, show (8 : Int64).toInt = 8 from rfl] at y22
          try simp only [k64, show (0 : Int64).toInt = 0 from rfl, show (8 : Int64).toInt = 8 from rfl] at y34
          have yb : gOk ways x y := by unfold gOk; omega
          refine lv_aload_n hx hb dX10_ghost_54 rfl (lv_at hl 0 rfl) ?_
          refine lv_iload_n hx hb dX10_ghost_55 rfl (lv_at hl 1 rfl) ?_
          refine m_callv (As := [.int ways]) (rest := []) ⟨hx, hb, hml, hown, hts⟩ (c_X10_haunt_x l D cy mo a (upd f 0 (0 : Int32)) g r q ways hD) (cwV 1 hts gX10_ghost_X10_haunt rfl rfl rfl (by decide +kernel) ⟨Nat.le_of_ble_eq_true rfl, Nat.le_of_ble_eq_true rfl⟩) hK hP rfl hl.1 rfl (Nat.le_of_ble_eq_true rfl) dX10_ghost_56 ⟨Nat.le_of_ble_eq_true rfl, Nat.le_of_ble_eq_true rfl⟩ hS (fun u H locs q56 hP hS => ?_)
          obtain ⟨gh_56, mv_56, rfl, q56⟩ := q56
          have hP : va_P D vwCl (WM cy mo a (upd f 0 (0 : Int32)) g (va_up (va_up r 27 gh_56) 28 mv_56) q) H := hP
          have q56 : ∀ e, e < 121 → (gh_56 e).toInt = gN ways 4 ((e % 11 : Nat) : Int) ((e / 11 : Nat) - gF ways) := q56
          refine lv_aload_n hx hb dX10_ghost_59 rfl (lv_at hl 0 rfl) ?_
          refine m_get (v := .ref (a 27)) hx hb hts hin hown hK hP 27 (by decide) rfl (hts (.fieldLink RX10 55 "ShadowBenchModel" "ghost" "[I") (by decide +kernel)) rfl dX10_ghost_60 ?_
          refine lv_bipush (v := 11) hx hb dX10_ghost_63 (by decide) ?_
          refine lv_iload_n hx hb dX10_ghost_65 rfl (lv_at hl 3 rfl) ?_
          refine lv_imul hx hb dX10_ghost_66 ?_
          refine lv_topi (fun v66 e66 => ?_)
          have i66 : v66.toInt = 11 * y.toInt := by rw [e66]; exact mulcL rfl (by omega) (by omega)
          refine lv_iload_n hx hb dX10_ghost_67 rfl (lv_at hl 2 rfl) ?_
          refine lv_iadd hx hb dX10_ghost_68 ?_
          refine lv_topi (fun v68 e68 => ?_)
          have i68 : v68.toInt = v66.toInt + x.toInt := by rw [e68]; exact fb_addI (by omega) (by omega)
          refine m_iald (w := gh_56) hx hb hK hP 15 rfl (vp_in_iff.mpr ⟨by omega, by omega⟩) dX10_ghost_69 ?_
          refine lv_topi (fun v69 e69 => ?_)
          have i69 : v69.toInt = (gh_56 v68.toNatClampNeg).toInt := congrArg Int32.toInt e69
          have hc := m_cl (x := v68) (by omega)
          have t69 : v69.toInt = gV ways x y := by
            rw [i69, q56 v68.toNatClampNeg (by omega), show ((v68.toNatClampNeg % 11 : Nat) : Int) = x.toInt by omega, show ((v68.toNatClampNeg / 11 : Nat) : Int) = y.toInt by omega]
            rfl
          exact W.iret (v := v69) hx hb hr (fun t ht hW => ⟨⟨_, ((upd f 0 (0 : Int32)), g, (va_up (va_up r 27 gh_56) 28 mv_56), q), rfl, ⟨(0 : Int32), gh_56, mv_56, rfl, Or.inl ⟨yb, rfl, t69⟩⟩, by unfold mB; rw [ht]; exact hP⟩, hS.F ht⟩) hS.2.2 dX10_ghost_70
        · first | exact absurd c49 (by decide) | exact absurd (by decide) c49
set_option maxHeartbeats 4000000 in
set_option maxRecDepth 100000 in
theorem c_X10_thrown_x (l : Launch) (D : va_G) (cy : Nat → ClassId) (mo : Nat) (a : Nat → Nat) (f : Nat → Int32) (g : Nat → Int64) (r : Nat → Nat → Int32) (q : Nat → Nat → Int64)  (hD : DM cy mo a)  : Mi l D cy mo a yX10_thrown wsX10_thrown ({ frames := 0, cells := 0, slots := 0, locals := 0 }) f g r q [] (fun r0 u => u = (f, g, r, q) ∧ (r0 = f 0)) := by
  refine Met.ofW (cc := cX10_thrown) (maxL := 1) (ret := (some .int)) (by decide) rfl ?_
  intro p e s m args below meth c s₁ B hml hv
  obtain ⟨rfl, hP, hK⟩ := hv
  have hx := B.exec
  have hb := B.bytes
  have hr := B.returns
  have hts := atoms_spec (ws := wsX10_thrown) B.pre
  have hin : ∀ w ∈ u_ws RX10 TX10 35, w ∈ wsX10_thrown := by decide +kernel
  have hown : s.vm.findClass RX10 = some m.cls := findClass_of_methodNamed B.named
  have hlocks := B.notSynchronized
  have hS : va_S (AM mo a) s.heap s.heap [] := va_S.rf
  have hl := lv_entry ([.ref mo]) (n := 1) (Nat.le_of_ble_eq_true rfl)
  rw [lg_entry_eq]
  generalize (lg_sl ([.ref mo]) ++ List.replicate (1 - (lg_sl ([.ref mo])).length) Slot.unset).toArray = ls at hl ⊢
  have hl : lv_has ls 1 [(0, .ref mo)] := hl
  have k_0 : (0 : Int32).toInt = 0 := by decide
  refine lv_aload_n hx hb dX10_thrown_0 rfl (lv_at hl 0 rfl) ?_
  refine m_get (v := .int (f 0)) hx hb hts hin hown hK hP 0 (by decide) rfl (hts (.fieldLink RX10 79 "ShadowBenchModel" "thrown" "I") (by decide +kernel)) rfl dX10_thrown_1 ?_
  exact W.iret (v := (f 0)) hx hb hr (fun t ht hW => ⟨⟨_, (f, g, r, q), rfl, ⟨rfl, rfl⟩, by unfold mB; rw [ht]; exact hP⟩, hS.F ht⟩) hS.2.2 dX10_thrown_4
