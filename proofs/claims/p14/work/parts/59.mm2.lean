set_option maxHeartbeats 4000000 in
set_option maxRecDepth 100000 in
theorem c_X10_ghosts (l : Launch) (D : va_G) (cy : Nat → ClassId) (mo : Nat) (a : Nat → Nat) (f : Nat → Int32) (g : Nat → Int64) (r : Nat → Nat → Int32) (q : Nat → Nat → Int64) (ways : Int32) (w : Int32) (h : Int32) (hD : DM cy mo a)  : Mi l D cy mo a yX10_ghosts wsX10_ghosts ({ frames := 2, cells := 0, slots := 0, locals := 47 }) f g r q [.int ways, .int w, .int h] (fun r0 u => u = ((upd f 0 (0 : Int32)), g, r, q) ∧ (True)) := by
  refine Met.ofW (cc := cX10_ghosts) (maxL := 4) (ret := (some .int)) (by decide) rfl ?_
  intro p e s m args below meth c s₁ B hml hv
  obtain ⟨rfl, hP, hK⟩ := hv
  have hx := B.exec
  have hb := B.bytes
  have hr := B.returns
  have hts := atoms_spec (ws := wsX10_ghosts) B.pre
  have hin : ∀ w ∈ u_ws RX10 TX10 35, w ∈ wsX10_ghosts := by decide +kernel
  have hown : s.vm.findClass RX10 = some m.cls := findClass_of_methodNamed B.named
  have hlocks := B.notSynchronized
  have hS : va_S (AM mo a) s.heap s.heap [] := va_S.rf
  have hl := lv_entry ([.ref mo, .int ways, .int w, .int h]) (n := 4) (Nat.le_of_ble_eq_true rfl)
  rw [lg_entry_eq]
  generalize (lg_sl ([.ref mo, .int ways, .int w, .int h]) ++ List.replicate (4 - (lg_sl ([.ref mo, .int ways, .int w, .int h])).length) Slot.unset).toArray = ls at hl ⊢
  have hl : lv_has ls 4 [(0, .ref mo), (1, .int ways), (2, .int w), (3, .int h)] := hl
  have k_m1 : (-1 : Int32).toInt = -1 := by decide
  have k_0 : (0 : Int32).toInt = 0 := by decide
  have k_1L : (1 : Int64).toInt = 1 := by decide
  have k_15L : (15 : Int64).toInt = 15 := by decide
  refine lv_aload_n hx hb dX10_ghosts_0 rfl (lv_at hl 0 rfl) ?_
  refine lv_iconst (v := 0) hx hb dX10_ghosts_1 (by decide) ?_
  refine m_put (v := .int (0 : Int32)) (ty := .int) hx hb hts hin hown hK hP hD hS 0 (by decide) rfl (hts (.fieldLink RX10 79 "ShadowBenchModel" "thrown" "I") (by decide +kernel)) rfl (by decide +kernel) rfl rfl (upd f 0 (0 : Int32)) g rfl dX10_ghosts_2 (fun H locs hP hS => ?_)
  refine lv_iload_n hx hb dX10_ghosts_5 rfl (lv_at hl 1 rfl) ?_
  refine lv_i2l (v := ways.toInt64) hx hb dX10_ghosts_6 rfl ?_
  refine lv_lconst (v := 1) hx hb dX10_ghosts_7 (by decide) ?_
  refine lv_ldc2 hx hb hown (hts (.constantLong RX10 228 (15)) (by decide +kernel)) dX10_ghosts_8 ?_
  refine m_pu (As := [.long (ways.toInt64), .long (1 : Int64), .long (15 : Int64)]) (rest := []) ⟨hx, hb, hml, hown, hts⟩ (c_X10_isIn l ways.toInt64 (1 : Int64) (15 : Int64) ) (va_cwS 3 hts gX10_ghosts_X10_isIn rfl rfl rfl (by decide +kernel) ⟨Nat.le_of_ble_eq_true rfl, Nat.le_of_ble_eq_true rfl⟩) hP rfl hl.1 rfl (Nat.le_of_ble_eq_true rfl) dX10_ghosts_11 ⟨Nat.le_of_ble_eq_true rfl, Nat.le_of_ble_eq_true rfl⟩ hS (fun r11 H locs q11 hP hS => ?_)
  have q11 := q11
  simp only [k64, show (0 : Int64).toInt = 0 from rfl, show (1 : Int64).toInt = 1 from rfl, show (2 : Int64).toInt = 2 from rfl, show (3 : Int64).toInt = 3 from rfl, show (6 : Int64).toInt = 6 from rfl] at q11
  refine lv_if_eq (tgt := 25) hx hb dX10_ghosts_14 (by decide) (fun c14 => ?_) (fun c14 => ?_)
  · skip
    have b14 := bo_f q11 c14
    refine lv_iconst (v := (-1)) hx hb dX10_ghosts_25 (by decide) ?_
    refine lv_goto (tgt := 36) hx hb dX10_ghosts_26 (by decide) ?_
    exact W.iret (v := ((-1) : Int32)) hx hb hr (fun t ht hW => ⟨⟨_, ((upd f 0 (0 : Int32)), g, r, q), rfl, ⟨rfl, trivial⟩, by unfold mB; rw [ht]; exact hP⟩, hS.F ht⟩) hS.2.2 dX10_ghosts_36
  · skip
    have b14 := bo_t q11 c14
    refine lv_iload_n hx hb dX10_ghosts_17 rfl (lv_at hl 2 rfl) ?_
    refine lv_iload_n hx hb dX10_ghosts_18 rfl (lv_at hl 3 rfl) ?_
    refine m_pu (As := [.int w, .int h]) (rest := []) ⟨hx, hb, hml, hown, hts⟩ (c_X10_isBoard l w h ) (va_cwS 2 hts gX10_ghosts_X10_isBoard rfl rfl rfl (by decide +kernel) ⟨Nat.le_of_ble_eq_true rfl, Nat.le_of_ble_eq_true rfl⟩) hP rfl hl.1 rfl (Nat.le_of_ble_eq_true rfl) dX10_ghosts_19 ⟨Nat.le_of_ble_eq_true rfl, Nat.le_of_ble_eq_true rfl⟩ hS (fun r19 H locs q19 hP hS => ?_)
    refine lv_if_ne (tgt := 29) hx hb dX10_ghosts_22 (by decide) (fun c22 => ?_) (fun c22 => ?_)
    · skip
      have b22 := bo_t q19 c22
      refine lv_aload_n hx hb dX10_ghosts_29 rfl (lv_at hl 0 rfl) ?_
      refine lv_iload_n hx hb dX10_ghosts_30 rfl (lv_at hl 1 rfl) ?_
      refine lv_iload_n hx hb dX10_ghosts_31 rfl (lv_at hl 2 rfl) ?_
      refine lv_iload_n hx hb dX10_ghosts_32 rfl (lv_at hl 3 rfl) ?_
      refine m_calli (As := [.int ways, .int w, .int h]) (rest := []) ⟨hx, hb, hml, hown, hts⟩ (c_X10_placesOf l D cy mo a (upd f 0 (0 : Int32)) g r q ways w h hD) (cwV 3 hts gX10_ghosts_X10_placesOf rfl rfl rfl (by decide +kernel) ⟨Nat.le_of_ble_eq_true rfl, Nat.le_of_ble_eq_true rfl⟩) hK hP rfl hl.1 rfl (Nat.le_of_ble_eq_true rfl) dX10_ghosts_33 ⟨Nat.le_of_ble_eq_true rfl, Nat.le_of_ble_eq_true rfl⟩ hS (fun r33 u H locs q33 hP hS => ?_)
      obtain ⟨rfl, q33⟩ := q33
      have hP : va_P D vwCl (WM cy mo a (upd f 0 (0 : Int32)) g r q) H := hP
      have q33 : True := q33
      exact W.iret (v := r33) hx hb hr (fun t ht hW => ⟨⟨_, ((upd f 0 (0 : Int32)), g, r, q), rfl, ⟨rfl, trivial⟩, by unfold mB; rw [ht]; exact hP⟩, hS.F ht⟩) hS.2.2 dX10_ghosts_36
    · skip
      have b22 := bo_f q19 c22
      refine lv_iconst (v := (-1)) hx hb dX10_ghosts_25 (by decide) ?_
      refine lv_goto (tgt := 36) hx hb dX10_ghosts_26 (by decide) ?_
      exact W.iret (v := ((-1) : Int32)) hx hb hr (fun t ht hW => ⟨⟨_, ((upd f 0 (0 : Int32)), g, r, q), rfl, ⟨rfl, trivial⟩, by unfold mB; rw [ht]; exact hP⟩, hS.F ht⟩) hS.2.2 dX10_ghosts_36
set_option maxHeartbeats 4000000 in
set_option maxRecDepth 100000 in
theorem c_X10_weightOf (l : Launch) (D : va_G) (cy : Nat → ClassId) (mo : Nat) (a : Nat → Nat) (f : Nat → Int32) (g : Nat → Int64) (r : Nat → Nat → Int32) (q : Nat → Nat → Int64) (j : Int32) (hD : DM cy mo a) (hI : MI f r) (hj : 0 ≤ j.toInt ∧ j.toInt < (f 1).toInt) : Mi l D cy mo a yX10_weightOf wsX10_weightOf ({ frames := 0, cells := 0, slots := 0, locals := 0 }) f g r q [.int j] (fun r0 u => u = (f, g, r, q) ∧ (True)) := by
  refine Met.ofW (cc := cX10_weightOf) (maxL := 5) (ret := (some .int)) (by decide) rfl ?_
  intro p e s m args below meth c s₁ B hml hv
  obtain ⟨rfl, hP, hK⟩ := hv
  have hx := B.exec
  have hb := B.bytes
  have hr := B.returns
  have hts := atoms_spec (ws := wsX10_weightOf) B.pre
  have hin : ∀ w ∈ u_ws RX10 TX10 35, w ∈ wsX10_weightOf := by decide +kernel
  have hown : s.vm.findClass RX10 = some m.cls := findClass_of_methodNamed B.named
  have hlocks := B.notSynchronized
  have hS : va_S (AM mo a) s.heap s.heap [] := va_S.rf
  have hl := lv_entry ([.ref mo, .int j]) (n := 5) (Nat.le_of_ble_eq_true rfl)
  rw [lg_entry_eq]
  generalize (lg_sl ([.ref mo, .int j]) ++ List.replicate (5 - (lg_sl ([.ref mo, .int j])).length) Slot.unset).toArray = ls at hl ⊢
  have hl : lv_has ls 5 [(0, .ref mo), (1, .int j)] := hl
  have k_0 : (0 : Int32).toInt = 0 := by decide
  have k_1 : (1 : Int32).toInt = 1 := by decide
  have k_2 : (2 : Int32).toInt = 2 := by decide
  have k_10 : (10 : Int32).toInt = 10 := by decide
  have k_36 : (36 : Int32).toInt = 36 := by decide
  have k_100 : (100 : Int32).toInt = 100 := by decide
  have hI1 := hI.1
  refine lv_bipush (v := 10) hx hb dX10_weightOf_0 (by decide) ?_
  refine lv_aload_n hx hb dX10_weightOf_2 rfl (lv_at hl 0 rfl) ?_
  refine m_get (v := .ref (a 3)) hx hb hts hin hown hK hP 3 (by decide) rfl (hts (.fieldLink RX10 13 "ShadowBenchModel" "wide" "[I") (by decide +kernel)) rfl dX10_weightOf_3 ?_
  refine lv_iload_n hx hb dX10_weightOf_6 rfl (lv_at hl 1 rfl) ?_
  refine m_iald (w := (r 3)) hx hb hK hP 2 rfl (vp_in_iff.mpr ⟨by omega, by omega⟩) dX10_weightOf_7 ?_
  refine lv_topi (fun v7 e7 => ?_)
  have i7 : v7.toInt = ((r 3) j.toNatClampNeg).toInt := congrArg Int32.toInt e7
  have w7 := mi_w hI (x := j) (by omega) (by omega) e7
  refine lv_aload_n hx hb dX10_weightOf_8 rfl (lv_at hl 0 rfl) ?_
  refine m_get (v := .ref (a 4)) hx hb hts hin hown hK hP 4 (by decide) rfl (hts (.fieldLink RX10 16 "ShadowBenchModel" "high" "[I") (by decide +kernel)) rfl dX10_weightOf_9 ?_
  refine lv_iload_n hx hb dX10_weightOf_12 rfl (lv_at hl 1 rfl) ?_
  refine m_iald (w := (r 4)) hx hb hK hP 3 rfl (vp_in_iff.mpr ⟨by omega, by omega⟩) dX10_weightOf_13 ?_
  refine lv_topi (fun v13 e13 => ?_)
  have i13 : v13.toInt = ((r 4) j.toNatClampNeg).toInt := congrArg Int32.toInt e13
  have w13 := mi_h hI (x := j) (by omega) (by omega) e13
  refine lv_imul hx hb dX10_weightOf_14 ?_
  refine lv_topi (fun v14 e14 => ?_)
  refine lv_iadd hx hb dX10_weightOf_15 ?_
  refine lv_topi (fun v15 e15 => ?_)
  refine lv_istore_n (lv' := [(2, .int v15), (0, .ref mo), (1, .int j)]) hx hb dX10_weightOf_16 rfl hl (by decide) rfl (fun ls hl => ?_)
  refine lv_iconst (v := 0) hx hb dX10_weightOf_17 (by decide) ?_
  refine lv_istore_n (lv' := [(3, .int (0 : Int32)), (2, .int v15), (0, .ref mo), (1, .int j)]) hx hb dX10_weightOf_18 rfl hl (by decide) rfl (fun ls hl => ?_)
  refine lv_iconst (v := 0) hx hb dX10_weightOf_19 (by decide) ?_
  refine lv_istore (lv' := [(4, .int (0 : Int32)), (3, .int (0 : Int32)), (2, .int v15), (0, .ref mo), (1, .int j)]) hx hb dX10_weightOf_20 hl (by decide) rfl (fun ls hl => ?_)
  have loop_22 : ∀ (n : Nat) (k : Nat) (x3 : Int32), (k ≤ 36) → 36 - k < n → ∀ (H : Heap) (locs : List Loc), va_P D vwCl (WM cy mo a f g r q) H → va_S (AM mo a) s.heap H locs → ∀ (ls : Array Slot), lv_has ls 5 [(4, .int (nI k)), (3, .int x3), (2, .int v15), (0, .ref mo), (1, .int j)] → W p l e (headSpec wsX10_weightOf ({ frames := 0, cells := 0, slots := 0, locals := 0 })).room s m #[Value.ref mo, Value.int j] below meth c H locs 0 0 (MQ below (va_Qi (fun r0 u => u = (f, g, r, q) ∧ (True)) (mB D cy mo a) (AM mo a)) #[Value.ref mo, Value.int j] s 0 0 (AM mo a)) (F0 m 22 ls []) := by
    intro n
    induction n with
    | zero => intro k x3  j22_0 hn; exact absurd hn (Nat.not_lt_zero _)
    | succ n ih_22 =>
      intro k x3  j22_0 hn_22 H locs hP hS ls hl
      have ik : (nI k).toInt = (k : Int) := nI_toInt (by omega)
      refine lv_iload hx hb dX10_weightOf_22 (lv_at hl 0 rfl) ?_
      refine lv_bipush (v := 36) hx hb dX10_weightOf_24 (by decide) ?_
      refine lv_icmp_ge (tgt := 50) hx hb dX10_weightOf_26 (by decide) (fun c26 => ?_) (fun c26 => ?_)
      · skip
        have d26 := c26
        rw [fa_le] at d26
        refine lv_aload_n hx hb dX10_weightOf_50 rfl (lv_at hl 3 rfl) ?_
        refine m_get (v := .ref (a 2)) hx hb hts hin hown hK hP 2 (by decide) rfl (hts (.fieldLink RX10 7 "ShadowBenchModel" "kind" "[I") (by decide +kernel)) rfl dX10_weightOf_51 ?_
        refine lv_iload_n hx hb dX10_weightOf_54 rfl (lv_at hl 4 rfl) ?_
        refine m_iald (w := (r 2)) hx hb hK hP 1 rfl (vp_in_iff.mpr ⟨by omega, by omega⟩) dX10_weightOf_55 ?_
        refine lv_topi (fun v55 e55 => ?_)
        have i55 : v55.toInt = ((r 2) j.toNatClampNeg).toInt := congrArg Int32.toInt e55
        refine lv_if_ne (tgt := 63) hx hb dX10_weightOf_56 (by decide) (fun c56 => ?_) (fun c56 => ?_)
        · skip
          have d56 := c56
          rw [fa_eq] at d56
          refine lv_aload_n hx hb dX10_weightOf_63 rfl (lv_at hl 3 rfl) ?_
          refine m_get (v := .ref (a 2)) hx hb hts hin hown hK hP 2 (by decide) rfl (hts (.fieldLink RX10 7 "ShadowBenchModel" "kind" "[I") (by decide +kernel)) rfl dX10_weightOf_64 ?_
          refine lv_iload_n hx hb dX10_weightOf_67 rfl (lv_at hl 4 rfl) ?_
          refine m_iald (w := (r 2)) hx hb hK hP 1 rfl (vp_in_iff.mpr ⟨by omega, by omega⟩) dX10_weightOf_68 ?_
          refine lv_topi (fun v68 e68 => ?_)
          have i68 : v68.toInt = ((r 2) j.toNatClampNeg).toInt := congrArg Int32.toInt e68
          refine lv_iconst (v := 1) hx hb dX10_weightOf_69 (by decide) ?_
          refine lv_icmp_ne (tgt := 80) hx hb dX10_weightOf_70 (by decide) (fun c70 => ?_) (fun c70 => ?_)
          · skip
            have d70 := c70
            rw [fa_eq] at d70
            refine lv_aload_n hx hb dX10_weightOf_80 rfl (lv_at hl 3 rfl) ?_
            refine m_get (v := .ref (a 2)) hx hb hts hin hown hK hP 2 (by decide) rfl (hts (.fieldLink RX10 7 "ShadowBenchModel" "kind" "[I") (by decide +kernel)) rfl dX10_weightOf_81 ?_
            refine lv_iload_n hx hb dX10_weightOf_84 rfl (lv_at hl 4 rfl) ?_
            refine m_iald (w := (r 2)) hx hb hK hP 1 rfl (vp_in_iff.mpr ⟨by omega, by omega⟩) dX10_weightOf_85 ?_
            refine lv_topi (fun v85 e85 => ?_)
            have i85 : v85.toInt = ((r 2) j.toNatClampNeg).toInt := congrArg Int32.toInt e85
            refine lv_iconst (v := 2) hx hb dX10_weightOf_86 (by decide) ?_
            refine lv_icmp_ne (tgt := 99) hx hb dX10_weightOf_87 (by decide) (fun c87 => ?_) (fun c87 => ?_)
            · skip
              have d87 := c87
              rw [fa_eq] at d87
              refine lv_iload_n hx hb dX10_weightOf_99 rfl (lv_at hl 2 rfl) ?_
              refine lv_iload_n hx hb dX10_weightOf_100 rfl (lv_at hl 1 rfl) ?_
              refine lv_iadd hx hb dX10_weightOf_101 ?_
              refine lv_topi (fun v101 e101 => ?_)
              exact W.iret (v := v101) hx hb hr (fun t ht hW => ⟨⟨_, (f, g, r, q), rfl, ⟨rfl, trivial⟩, by unfold mB; rw [ht]; exact hP⟩, hS.F ht⟩) hS.2.2 dX10_weightOf_102
            · skip
              have d87 := c87
              rw [fa_eq] at d87
              refine lv_iconst (v := 2) hx hb dX10_weightOf_90 (by decide) ?_
              refine lv_iload_n hx hb dX10_weightOf_91 rfl (lv_at hl 2 rfl) ?_
              refine lv_bipush (v := 100) hx hb dX10_weightOf_92 (by decide) ?_
              refine lv_iadd hx hb dX10_weightOf_94 ?_
              refine lv_topi (fun v94 e94 => ?_)
              refine lv_imul hx hb dX10_weightOf_95 ?_
              refine lv_topi (fun v95 e95 => ?_)
              refine lv_goto (tgt := 102) hx hb dX10_weightOf_96 (by decide) ?_
              exact W.iret (v := v95) hx hb hr (fun t ht hW => ⟨⟨_, (f, g, r, q), rfl, ⟨rfl, trivial⟩, by unfold mB; rw [ht]; exact hP⟩, hS.F ht⟩) hS.2.2 dX10_weightOf_102
          · skip
            have d70 := c70
            rw [fa_eq] at d70
            refine lv_iload_n hx hb dX10_weightOf_73 rfl (lv_at hl 2 rfl) ?_
            refine lv_bipush (v := 100) hx hb dX10_weightOf_74 (by decide) ?_
            refine lv_iadd hx hb dX10_weightOf_76 ?_
            refine lv_topi (fun v76 e76 => ?_)
            refine lv_goto (tgt := 102) hx hb dX10_weightOf_77 (by decide) ?_
            exact W.iret (v := v76) hx hb hr (fun t ht hW => ⟨⟨_, (f, g, r, q), rfl, ⟨rfl, trivial⟩, by unfold mB; rw [ht]; exact hP⟩, hS.F ht⟩) hS.2.2 dX10_weightOf_102
        · skip
          have d56 := c56
          rw [fa_eq] at d56
          refine lv_iload_n hx hb dX10_weightOf_59 rfl (lv_at hl 2 rfl) ?_
          refine lv_goto (tgt := 102) hx hb dX10_weightOf_60 (by decide) ?_
          exact W.iret (v := v15) hx hb hr (fun t ht hW => ⟨⟨_, (f, g, r, q), rfl, ⟨rfl, trivial⟩, by unfold mB; rw [ht]; exact hP⟩, hS.F ht⟩) hS.2.2 dX10_weightOf_102
      · skip
        have d26 := c26
        rw [fa_le] at d26
        refine lv_iload_n hx hb dX10_weightOf_29 rfl (lv_at hl 1 rfl) ?_
        refine lv_aload_n hx hb dX10_weightOf_30 rfl (lv_at hl 3 rfl) ?_
        refine m_get (v := .ref (a 8)) hx hb hts hin hown hK hP 8 (by decide) rfl (hts (.fieldLink RX10 29 "ShadowBenchModel" "weight" "[I") (by decide +kernel)) rfl dX10_weightOf_31 ?_
        refine lv_bipush (v := 36) hx hb dX10_weightOf_34 (by decide) ?_
        refine lv_iload_n hx hb dX10_weightOf_36 rfl (lv_at hl 4 rfl) ?_
        refine lv_imul hx hb dX10_weightOf_37 ?_
        refine lv_topi (fun v37 e37 => ?_)
        have i37 : v37.toInt = 36 * j.toInt := by rw [e37]; exact mulcL rfl (by omega) (by omega)
        refine lv_iload hx hb dX10_weightOf_38 (lv_at hl 0 rfl) ?_
        refine lv_iadd hx hb dX10_weightOf_40 ?_
        refine lv_topi (fun v40 e40 => ?_)
        have i40 : v40.toInt = v37.toInt + (nI k).toInt := by rw [e40]; exact fb_addI (by omega) (by omega)
        refine m_iald (w := (r 8)) hx hb hK hP 7 rfl (vp_in_iff.mpr ⟨by omega, by omega⟩) dX10_weightOf_41 ?_
        refine lv_topi (fun v41 e41 => ?_)
        have i41 : v41.toInt = ((r 8) v40.toNatClampNeg).toInt := congrArg Int32.toInt e41
        refine lv_iadd hx hb dX10_weightOf_42 ?_
        refine lv_topi (fun v42 e42 => ?_)
        refine lv_istore_n (lv' := [(3, .int v42), (4, .int (nI k)), (2, .int v15), (0, .ref mo), (1, .int j)]) hx hb dX10_weightOf_43 rfl hl (by decide) rfl (fun ls hl => ?_)
        refine lv_iinc (v := (nI (k + 1))) (lv' := [(4, .int (nI (k + 1))), (3, .int v42), (2, .int v15), (0, .ref mo), (1, .int j)]) hx hb dX10_weightOf_44 hl (k := 1) rfl (nI_1 _) (by decide) rfl (fun ls hl => ?_)
        refine lv_goto (tgt := 22) hx hb dX10_weightOf_47 (by decide) ?_
        exact ih_22 (k + 1) v42 (by omega) (by omega) _ _ hP hS ls (lv_sub hl [0, 1, 2, 3, 4] rfl)
  exact loop_22 (36 + 1) 0 (0 : Int32) (by omega) (by omega) _ _ hP hS ls (lv_sub hl [0, 1, 2, 3, 4] rfl)
set_option maxHeartbeats 4000000 in
set_option maxRecDepth 100000 in
theorem c_X10_make (l : Launch) (D : va_G) (cy : Nat → ClassId) (mo : Nat) (a : Nat → Nat) (f : Nat → Int32) (g : Nat → Int64) (r : Nat → Nat → Int32) (q : Nat → Nat → Int64) (d : Int32) (what : Int32) (n1 : Int32) (hD : DM cy mo a) (hI : MI f r) : Mi l D cy mo a yX10_make wsX10_make ({ frames := 1, cells := 0, slots := 0, locals := 25 }) f g r q [.int d, .int what, .int n1] (fun r0 u => ∃ (sh : Nat → Int32), ∃ (sz : Nat → Int32), ∃ (sr : Nat → Int64), u = ((upd f 0 (0 : Int32)), g, (va_up (va_up r 29 sh) 30 sz), (va_up q 33 sr)) ∧ (r0 = mkAns d what n1 ∧ MI (upd f 0 (0 : Int32)) (va_up (va_up r 29 sh) 30 sz))) := by
  refine Met.ofW (cc := cX10_make) (maxL := 5) (ret := (some .int)) (by decide) rfl ?_
  intro p e s m args below meth c s₁ B hml hv
  obtain ⟨rfl, hP, hK⟩ := hv
  have hx := B.exec
  have hb := B.bytes
  have hr := B.returns
  have hts := atoms_spec (ws := wsX10_make) B.pre
  have hin : ∀ w ∈ u_ws RX10 TX10 35, w ∈ wsX10_make := by decide +kernel
  have hown : s.vm.findClass RX10 = some m.cls := findClass_of_methodNamed B.named
  have hlocks := B.notSynchronized
  have hS : va_S (AM mo a) s.heap s.heap [] := va_S.rf
  have hl := lv_entry ([.ref mo, .int d, .int what, .int n1]) (n := 5) (Nat.le_of_ble_eq_true rfl)
  rw [lg_entry_eq]
  generalize (lg_sl ([.ref mo, .int d, .int what, .int n1]) ++ List.replicate (5 - (lg_sl ([.ref mo, .int d, .int what, .int n1])).length) Slot.unset).toArray = ls at hl ⊢
  have hl : lv_has ls 5 [(0, .ref mo), (1, .int d), (2, .int what), (3, .int n1)] := hl
  have k_m14 : (-14 : Int32).toInt = -14 := by decide
  have k_m1 : (-1 : Int32).toInt = -1 := by decide
  have k_0 : (0 : Int32).toInt = 0 := by decide
  have k_60 : (60 : Int32).toInt = 60 := by decide
  have k_0L : (0 : Int64).toInt = 0 := by decide
  have k_3L : (3 : Int64).toInt = 3 := by decide
  have k_4L : (4 : Int64).toInt = 4 := by decide
  refine lv_aload_n hx hb dX10_make_0 rfl (lv_at hl 0 rfl) ?_
  refine lv_iconst (v := 0) hx hb dX10_make_1 (by decide) ?_
  refine m_put (v := .int (0 : Int32)) (ty := .int) hx hb hts hin hown hK hP hD hS 0 (by decide) rfl (hts (.fieldLink RX10 79 "ShadowBenchModel" "thrown" "I") (by decide +kernel)) rfl (by decide +kernel) rfl rfl (upd f 0 (0 : Int32)) g rfl dX10_make_2 (fun H locs hP hS => ?_)
  refine lv_iload_n hx hb dX10_make_5 rfl (lv_at hl 1 rfl) ?_
  refine m_pu (As := [.int d]) (rest := []) ⟨hx, hb, hml, hown, hts⟩ (c_X10_isShelf l d ) (va_cwS 1 hts gX10_make_X10_isShelf rfl rfl rfl (by decide +kernel) ⟨Nat.le_of_ble_eq_true rfl, Nat.le_of_ble_eq_true rfl⟩) hP rfl hl.1 rfl (Nat.le_of_ble_eq_true rfl) dX10_make_6 ⟨Nat.le_of_ble_eq_true rfl, Nat.le_of_ble_eq_true rfl⟩ hS (fun r6 H locs q6 hP hS => ?_)
  refine lv_if_eq (tgt := 32) hx hb dX10_make_9 (by decide) (fun c9 => ?_) (fun c9 => ?_)
  · skip
    have b9 := bo_f q6 c9
    refine lv_iconst (v := (-1)) hx hb dX10_make_32 (by decide) ?_
    have hP := wm_eq rfl rfl (ec_r___29_30 r ) (ec_q___33 q ) hP
    exact W.iret (v := ((-1) : Int32)) hx hb hr (fun t ht hW => ⟨⟨_, ((upd f 0 (0 : Int32)), g, (va_up (va_up r 29 (r 29)) 30 (r 30)), (va_up q 33 (q 33))), rfl, ⟨(r 29), (r 30), (q 33), rfl, ⟨by unfold mkAns; split <;> (try split) <;> first | rfl | (exfalso; omega), by first | exact hI | exact mi_sz (d := d) hI (v := n1) (by omega) rfl rfl rfl rfl rfl rfl rfl rfl⟩⟩, by unfold mB; rw [ht]; exact hP⟩, hS.F ht⟩) hS.2.2 dX10_make_33
  · skip
    have b9 := bo_t q6 c9
    refine lv_iload_n hx hb dX10_make_12 rfl (lv_at hl 2 rfl) ?_
    refine lv_i2l (v := what.toInt64) hx hb dX10_make_13 rfl ?_
    refine lv_ldc2 hx hb hown (hts (.constantLong RX10 116 (3)) (by decide +kernel)) dX10_make_14 ?_
    refine lv_ldc2 hx hb hown (hts (.constantLong RX10 265 (4)) (by decide +kernel)) dX10_make_17 ?_
    refine m_pu (As := [.long (what.toInt64), .long (3 : Int64), .long (4 : Int64)]) (rest := []) ⟨hx, hb, hml, hown, hts⟩ (c_X10_isIn l what.toInt64 (3 : Int64) (4 : Int64) ) (va_cwS 3 hts gX10_make_X10_isIn rfl rfl rfl (by decide +kernel) ⟨Nat.le_of_ble_eq_true rfl, Nat.le_of_ble_eq_true rfl⟩) hP rfl hl.1 rfl (Nat.le_of_ble_eq_true rfl) dX10_make_20 ⟨Nat.le_of_ble_eq_true rfl, Nat.le_of_ble_eq_true rfl⟩ hS (fun r20 H locs q20 hP hS => ?_)
    have q20 := q20
    simp only [k64, show (0 : Int64).toInt = 0 from rfl, show (1 : Int64).toInt = 1 from rfl, show (2 : Int64).toInt = 2 from rfl, show (3 : Int64).toInt = 3 from rfl, show (6 : Int64).toInt = 6 from rfl] at q20
    refine lv_if_eq (tgt := 32) hx hb dX10_make_23 (by decide) (fun c23 => ?_) (fun c23 => ?_)
    · skip
      have b23 := bo_f q20 c23
      refine lv_iconst (v := (-1)) hx hb dX10_make_32 (by decide) ?_
      have hP := wm_eq rfl rfl (ec_r___29_30 r ) (ec_q___33 q ) hP
      exact W.iret (v := ((-1) : Int32)) hx hb hr (fun t ht hW => ⟨⟨_, ((upd f 0 (0 : Int32)), g, (va_up (va_up r 29 (r 29)) 30 (r 30)), (va_up q 33 (q 33))), rfl, ⟨(r 29), (r 30), (q 33), rfl, ⟨by unfold mkAns; split <;> (try split) <;> first | rfl | (exfalso; omega), by first | exact hI | exact mi_sz (d := d) hI (v := n1) (by omega) rfl rfl rfl rfl rfl rfl rfl rfl⟩⟩, by unfold mB; rw [ht]; exact hP⟩, hS.F ht⟩) hS.2.2 dX10_make_33
    · skip
      have b23 := bo_t q20 c23
      refine lv_iload_n hx hb dX10_make_26 rfl (lv_at hl 3 rfl) ?_
      refine lv_bipush (v := 60) hx hb dX10_make_27 (by decide) ?_
      refine lv_icmp_le (tgt := 34) hx hb dX10_make_29 (by decide) (fun c29 => ?_) (fun c29 => ?_)
      · skip
        have d29 := c29
        rw [fa_le] at d29
        refine lv_iload_n hx hb dX10_make_34 rfl (lv_at hl 3 rfl) ?_
        refine lv_if_ge (tgt := 41) hx hb dX10_make_35 (by decide) (fun c35 => ?_) (fun c35 => ?_)
        · skip
          have d35 := c35
          rw [fa_le] at d35
          refine lv_aload_n hx hb dX10_make_41 rfl (lv_at hl 0 rfl) ?_
          refine m_get (v := .ref (a 29)) hx hb hts hin hown hK hP 29 (by decide) rfl (hts (.fieldLink RX10 61 "ShadowBenchModel" "shelf" "[I") (by decide +kernel)) rfl dX10_make_42 ?_
          refine lv_iload_n hx hb dX10_make_45 rfl (lv_at hl 1 rfl) ?_
          refine lv_iload_n hx hb dX10_make_46 rfl (lv_at hl 2 rfl) ?_
          refine m_iast (w := (r 29)) hx hb hK hP hD hS 17 rfl (vp_in_iff.mpr ⟨by omega, by omega⟩) (va_up r 29 (upd (r 29) d.toNatClampNeg what)) (ms_29 cy mo a _ _ _ _ _) dX10_make_47 (fun H locs hP hS => ?_)
          refine lv_aload_n hx hb dX10_make_48 rfl (lv_at hl 0 rfl) ?_
          refine m_get (v := .ref (a 30)) hx hb hts hin hown hK hP 30 (by decide) rfl (hts (.fieldLink RX10 64 "ShadowBenchModel" "shelfSize" "[I") (by decide +kernel)) rfl dX10_make_49 ?_
          refine lv_iload_n hx hb dX10_make_52 rfl (lv_at hl 1 rfl) ?_
          refine lv_iload_n hx hb dX10_make_53 rfl (lv_at hl 3 rfl) ?_
          refine m_iast (w := (r 30)) hx hb hK hP hD hS 18 rfl (vp_in_iff.mpr ⟨by omega, by omega⟩) (va_up (va_up r 29 ((upd (r 29) d.toNatClampNeg what))) 30 (upd (r 30) d.toNatClampNeg n1)) (ms_30 cy mo a _ _ _ _ _) dX10_make_54 (fun H locs hP hS => ?_)
          refine lv_iconst (v := 0) hx hb dX10_make_55 (by decide) ?_
          refine lv_istore (lv' := [(4, .int (0 : Int32)), (0, .ref mo), (1, .int d), (2, .int what), (3, .int n1)]) hx hb dX10_make_56 hl (by decide) rfl (fun ls hl => ?_)
          have loop_58 : ∀ (n : Nat) (i : Nat) (s3 : Nat → Int64), (i ≤ 60) → 60 - i < n → ∀ (H : Heap) (locs : List Loc), va_P D vwCl (WM cy mo a (upd f 0 (0 : Int32)) g (va_up (va_up r 29 ((upd (r 29) d.toNatClampNeg what))) 30 ((upd (r 30) d.toNatClampNeg n1))) (va_up q 33 s3)) H → va_S (AM mo a) s.heap H locs → ∀ (ls : Array Slot), lv_has ls 5 [(4, .int (nI i)), (0, .ref mo), (1, .int d), (2, .int what), (3, .int n1)] → W p l e (headSpec wsX10_make ({ frames := 1, cells := 0, slots := 0, locals := 25 })).room s m #[Value.ref mo, Value.int d, Value.int what, Value.int n1] below meth c H locs 0 0 (MQ below (va_Qi (fun r0 u => ∃ (sh : Nat → Int32), ∃ (sz : Nat → Int32), ∃ (sr : Nat → Int64), u = ((upd f 0 (0 : Int32)), g, (va_up (va_up r 29 sh) 30 sz), (va_up q 33 sr)) ∧ (r0 = mkAns d what n1 ∧ MI (upd f 0 (0 : Int32)) (va_up (va_up r 29 sh) 30 sz))) (mB D cy mo a) (AM mo a)) #[Value.ref mo, Value.int d, Value.int what, Value.int n1] s 0 0 (AM mo a)) (F0 m 58 ls []) := by
            intro n
            induction n with
            | zero => intro i s3 j58_0 hn; exact absurd hn (Nat.not_lt_zero _)
            | succ n ih_58 =>
              intro i s3 j58_0 hn_58 H locs hP hS ls hl
              have ii : (nI i).toInt = (i : Int) := nI_toInt (by omega)
              refine lv_iload hx hb dX10_make_58 (lv_at hl 0 rfl) ?_
              refine lv_iload_n hx hb dX10_make_60 rfl (lv_at hl 4 rfl) ?_
              refine lv_icmp_ge (tgt := 83) hx hb dX10_make_61 (by decide) (fun c61 => ?_) (fun c61 => ?_)
              · skip
                have d61 := c61
                rw [fa_le] at d61
                refine lv_iconst (v := 0) hx hb dX10_make_83 (by decide) ?_
                have hP := wm_eq rfl rfl (ec_r_29_30__29_30 r ((upd (r 29) d.toNatClampNeg what)) ((upd (r 30) d.toNatClampNeg n1))) rfl hP
                exact W.iret (v := (0 : Int32)) hx hb hr (fun t ht hW => ⟨⟨_, ((upd f 0 (0 : Int32)), g, (va_up (va_up r 29 (((upd (r 29) d.toNatClampNeg what)))) 30 (((upd (r 30) d.toNatClampNeg n1)))), (va_up q 33 s3)), rfl, ⟨((upd (r 29) d.toNatClampNeg what)), ((upd (r 30) d.toNatClampNeg n1)), s3, rfl, ⟨by unfold mkAns; split <;> (try split) <;> first | rfl | (exfalso; omega), by first | exact hI | exact mi_sz (d := d) hI (v := n1) (by omega) rfl rfl rfl rfl rfl rfl rfl rfl⟩⟩, by unfold mB; rw [ht]; exact hP⟩, hS.F ht⟩) hS.2.2 dX10_make_84
              · skip
                have d61 := c61
                rw [fa_le] at d61
                refine lv_aload_n hx hb dX10_make_64 rfl (lv_at hl 1 rfl) ?_
                refine m_get (v := .ref (a 33)) hx hb hts hin hown hK hP 33 (by decide) rfl (hts (.fieldLink RX10 73 "ShadowBenchModel" "shelfRow" "[J") (by decide +kernel)) rfl dX10_make_65 ?_
                refine lv_bipush (v := 60) hx hb dX10_make_68 (by decide) ?_
                refine lv_iload_n hx hb dX10_make_70 rfl (lv_at hl 2 rfl) ?_
                refine lv_imul hx hb dX10_make_71 ?_
                refine lv_topi (fun v71 e71 => ?_)
                have i71 : v71.toInt = 60 * d.toInt := by rw [e71]; exact mulcL rfl (by omega) (by omega)
                refine lv_iload hx hb dX10_make_72 (lv_at hl 0 rfl) ?_
                refine lv_iadd hx hb dX10_make_74 ?_
                refine lv_topi (fun v74 e74 => ?_)
                have i74 : v74.toInt = v71.toInt + (nI i).toInt := by rw [e74]; exact fb_addI (by omega) (by omega)
                refine lv_lconst (v := 0) hx hb dX10_make_75 (by decide) ?_
                refine m_last (w := s3) hx hb hK hP hD hS 21 rfl (vp_in_iff.mpr ⟨by omega, by omega⟩) (va_up (va_up q 33 s3) 33 (vp_updL s3 v74.toNatClampNeg (0 : Int64))) (ms_33 cy mo a _ _ _ _ _) dX10_make_76 (fun H locs hP hS => ?_)
                have hP := wm_eq rfl rfl rfl (es_q_33__33 q s3 (vp_updL s3 v74.toNatClampNeg (0 : Int64))) hP
                refine lv_iinc (v := (nI (i + 1))) (lv' := [(4, .int (nI (i + 1))), (0, .ref mo), (1, .int d), (2, .int what), (3, .int n1)]) hx hb dX10_make_77 hl (k := 0) rfl (nI_1 _) (by decide) rfl (fun ls hl => ?_)
                refine lv_goto (tgt := 58) hx hb dX10_make_80 (by decide) ?_
                have hP := wm_eq rfl rfl (ec_r_29_30__29_30 r ((upd (r 29) d.toNatClampNeg what)) ((upd (r 30) d.toNatClampNeg n1))) (ec_q_33__33 q ((vp_updL s3 v74.toNatClampNeg (0 : Int64)))) hP
                exact ih_58 (i + 1) (((vp_updL s3 v74.toNatClampNeg (0 : Int64)))) (by omega) (by omega) _ _ hP hS ls (lv_sub hl [0, 1, 2, 3, 4] rfl)
          have hP := wm_eq rfl rfl (ec_r_29_30__29_30 r ((upd (r 29) d.toNatClampNeg what)) ((upd (r 30) d.toNatClampNeg n1))) (ec_q___33 q ) hP
          exact loop_58 (60 + 1) 0 (q 33) (by omega) (by omega) _ _ hP hS ls (lv_sub hl [0, 1, 2, 3, 4] rfl)
        · skip
          have d35 := c35
          rw [fa_le] at d35
          refine lv_bipush (v := (-14)) hx hb dX10_make_38 (by decide) ?_
          have hP := wm_eq rfl rfl (ec_r___29_30 r ) (ec_q___33 q ) hP
          exact W.iret (v := ((-14) : Int32)) hx hb hr (fun t ht hW => ⟨⟨_, ((upd f 0 (0 : Int32)), g, (va_up (va_up r 29 (r 29)) 30 (r 30)), (va_up q 33 (q 33))), rfl, ⟨(r 29), (r 30), (q 33), rfl, ⟨by unfold mkAns; split <;> (try split) <;> first | rfl | (exfalso; omega), by first | exact hI | exact mi_sz (d := d) hI (v := n1) (by omega) rfl rfl rfl rfl rfl rfl rfl rfl⟩⟩, by unfold mB; rw [ht]; exact hP⟩, hS.F ht⟩) hS.2.2 dX10_make_40
      · skip
        have d29 := c29
        rw [fa_le] at d29
        refine lv_iconst (v := (-1)) hx hb dX10_make_32 (by decide) ?_
        have hP := wm_eq rfl rfl (ec_r___29_30 r ) (ec_q___33 q ) hP
        exact W.iret (v := ((-1) : Int32)) hx hb hr (fun t ht hW => ⟨⟨_, ((upd f 0 (0 : Int32)), g, (va_up (va_up r 29 (r 29)) 30 (r 30)), (va_up q 33 (q 33))), rfl, ⟨(r 29), (r 30), (q 33), rfl, ⟨by unfold mkAns; split <;> (try split) <;> first | rfl | (exfalso; omega), by first | exact hI | exact mi_sz (d := d) hI (v := n1) (by omega) rfl rfl rfl rfl rfl rfl rfl rfl⟩⟩, by unfold mB; rw [ht]; exact hP⟩, hS.F ht⟩) hS.2.2 dX10_make_33
set_option maxHeartbeats 4000000 in
set_option maxRecDepth 100000 in
theorem c_X10_element (l : Launch) (D : va_G) (cy : Nat → ClassId) (mo : Nat) (a : Nat → Nat) (f : Nat → Int32) (g : Nat → Int64) (r : Nat → Nat → Int32) (q : Nat → Nat → Int64) (d : Int32) (i0 : Int32) (hD : DM cy mo a) (hI : MI f r) : Ml l D cy mo a yX10_element wsX10_element ({ frames := 1, cells := 0, slots := 0, locals := 25 }) f g r q [.int d, .int i0] (fun r0 u => ∃ (th : Int32), u = ((upd f 0 th), g, r, q) ∧ (True)) := by
  refine Met.ofW (cc := cX10_element) (maxL := 4) (ret := (some .long)) (by decide) rfl ?_
  intro p e s m args below meth c s₁ B hml hv
  obtain ⟨rfl, hP, hK⟩ := hv
  have hx := B.exec
  have hb := B.bytes
  have hr := B.returns
  have hts := atoms_spec (ws := wsX10_element) B.pre
  have hin : ∀ w ∈ u_ws RX10 TX10 35, w ∈ wsX10_element := by decide +kernel
  have hown : s.vm.findClass RX10 = some m.cls := findClass_of_methodNamed B.named
  have hlocks := B.notSynchronized
  have hS : va_S (AM mo a) s.heap s.heap [] := va_S.rf
  have hl := lv_entry ([.ref mo, .int d, .int i0]) (n := 4) (Nat.le_of_ble_eq_true rfl)
  rw [lg_entry_eq]
  generalize (lg_sl ([.ref mo, .int d, .int i0]) ++ List.replicate (4 - (lg_sl ([.ref mo, .int d, .int i0])).length) Slot.unset).toArray = ls at hl ⊢
  have hl : lv_has ls 4 [(0, .ref mo), (1, .int d), (2, .int i0)] := hl
  have k_0 : (0 : Int32).toInt = 0 := by decide
  have k_1 : (1 : Int32).toInt = 1 := by decide
  have k_2 : (2 : Int32).toInt = 2 := by decide
  have k_60 : (60 : Int32).toInt = 60 := by decide
  have k_0L : (0 : Int64).toInt = 0 := by decide
  refine lv_iload_n hx hb dX10_element_0 rfl (lv_at hl 1 rfl) ?_
  refine m_pu (As := [.int d]) (rest := []) ⟨hx, hb, hml, hown, hts⟩ (c_X10_isShelf l d ) (va_cwS 1 hts gX10_element_X10_isShelf rfl rfl rfl (by decide +kernel) ⟨Nat.le_of_ble_eq_true rfl, Nat.le_of_ble_eq_true rfl⟩) hP rfl hl.1 rfl (Nat.le_of_ble_eq_true rfl) dX10_element_1 ⟨Nat.le_of_ble_eq_true rfl, Nat.le_of_ble_eq_true rfl⟩ hS (fun r1 H locs q1 hP hS => ?_)
  refine lv_if_eq (tgt := 39) hx hb dX10_element_4 (by decide) (fun c4 => ?_) (fun c4 => ?_)
  · skip
    have b4 := bo_f q1 c4
    refine lv_iconst (v := 0) hx hb dX10_element_39 (by decide) ?_
    refine lv_istore_n (lv' := [(3, .int (0 : Int32)), (0, .ref mo), (1, .int d), (2, .int i0)]) hx hb dX10_element_40 rfl hl (by decide) rfl (fun ls hl => ?_)
    refine lv_aload_n hx hb dX10_element_41 rfl (lv_at hl 1 rfl) ?_
    refine lv_iload_n hx hb dX10_element_42 rfl (lv_at hl 2 rfl) ?_
    refine m_pu (As := [.int d]) (rest := [.ref mo]) ⟨hx, hb, hml, hown, hts⟩ (c_X10_isShelf l d ) (va_cwS 1 hts gX10_element_X10_isShelf rfl rfl rfl (by decide +kernel) ⟨Nat.le_of_ble_eq_true rfl, Nat.le_of_ble_eq_true rfl⟩) hP rfl hl.1 rfl (Nat.le_of_ble_eq_true rfl) dX10_element_43 ⟨Nat.le_of_ble_eq_true rfl, Nat.le_of_ble_eq_true rfl⟩ hS (fun r43 H locs q43 hP hS => ?_)
    refine lv_if_ne (tgt := 53) hx hb dX10_element_46 (by decide) (fun c46 => ?_) (fun c46 => ?_)
    · skip
      have b46 := bo_t q43 c46
      refine lv_iload_n hx hb dX10_element_53 rfl (lv_at hl 0 rfl) ?_
      refine lv_if_eq (tgt := 61) hx hb dX10_element_54 (by decide) (fun c54 => ?_) (fun c54 => ?_)
      · skip
        have d54 := c54
        rw [fa_eq] at d54
        refine lv_iconst (v := 2) hx hb dX10_element_61 (by decide) ?_
        refine m_put (v := .int (2 : Int32)) (ty := .int) hx hb hts hin hown hK hP hD hS 0 (by decide) rfl (hts (.fieldLink RX10 79 "ShadowBenchModel" "thrown" "I") (by decide +kernel)) rfl (by decide +kernel) rfl rfl (upd f 0 (2 : Int32)) g rfl dX10_element_62 (fun H locs hP hS => ?_)
        refine lv_iload_n hx hb dX10_element_65 rfl (lv_at hl 0 rfl) ?_
        refine lv_if_eq (tgt := 83) hx hb dX10_element_66 (by decide) (fun c66 => ?_) (fun c66 => ?_)
        · skip
          have d66 := c66
          rw [fa_eq] at d66
          refine lv_lconst (v := 0) hx hb dX10_element_83 (by decide) ?_
          exact W.lret (v := (0 : Int64)) hx hb hr (fun t ht hW => ⟨⟨_, ((upd f 0 (2 : Int32)), g, r, q), rfl, ⟨(2 : Int32), rfl, trivial⟩, by unfold mB; rw [ht]; exact hP⟩, hS.F ht⟩) hS.2.2 dX10_element_84
        · first | exact absurd c66 (by decide) | exact absurd (by decide) c66
      · first | exact absurd c54 (by decide) | exact absurd (by decide) c54
    · skip
      have b46 := bo_f q43 c46
      refine lv_iconst (v := 1) hx hb dX10_element_49 (by decide) ?_
      refine lv_goto (tgt := 62) hx hb dX10_element_50 (by decide) ?_
      refine m_put (v := .int (1 : Int32)) (ty := .int) hx hb hts hin hown hK hP hD hS 0 (by decide) rfl (hts (.fieldLink RX10 79 "ShadowBenchModel" "thrown" "I") (by decide +kernel)) rfl (by decide +kernel) rfl rfl (upd f 0 (1 : Int32)) g rfl dX10_element_62 (fun H locs hP hS => ?_)
      refine lv_iload_n hx hb dX10_element_65 rfl (lv_at hl 0 rfl) ?_
      refine lv_if_eq (tgt := 83) hx hb dX10_element_66 (by decide) (fun c66 => ?_) (fun c66 => ?_)
      · skip
        have d66 := c66
        rw [fa_eq] at d66
        refine lv_lconst (v := 0) hx hb dX10_element_83 (by decide) ?_
        exact W.lret (v := (0 : Int64)) hx hb hr (fun t ht hW => ⟨⟨_, ((upd f 0 (1 : Int32)), g, r, q), rfl, ⟨(1 : Int32), rfl, trivial⟩, by unfold mB; rw [ht]; exact hP⟩, hS.F ht⟩) hS.2.2 dX10_element_84
      · first | exact absurd c66 (by decide) | exact absurd (by decide) c66
  · skip
    have b4 := bo_t q1 c4
    refine lv_aload_n hx hb dX10_element_7 rfl (lv_at hl 0 rfl) ?_
    refine m_get (v := .ref (a 29)) hx hb hts hin hown hK hP 29 (by decide) rfl (hts (.fieldLink RX10 61 "ShadowBenchModel" "shelf" "[I") (by decide +kernel)) rfl dX10_element_8 ?_
    refine lv_iload_n hx hb dX10_element_11 rfl (lv_at hl 1 rfl) ?_
    refine m_iald (w := (r 29)) hx hb hK hP 17 rfl (vp_in_iff.mpr ⟨by omega, by omega⟩) dX10_element_12 ?_
    refine lv_topi (fun v12 e12 => ?_)
    have i12 : v12.toInt = ((r 29) d.toNatClampNeg).toInt := congrArg Int32.toInt e12
    refine lv_iconst (v := 2) hx hb dX10_element_13 (by decide) ?_
    refine lv_icmp_le (tgt := 39) hx hb dX10_element_14 (by decide) (fun c14 => ?_) (fun c14 => ?_)
    · skip
      have d14 := c14
      rw [fa_le] at d14
      refine lv_iconst (v := 0) hx hb dX10_element_39 (by decide) ?_
      refine lv_istore_n (lv' := [(3, .int (0 : Int32)), (0, .ref mo), (1, .int d), (2, .int i0)]) hx hb dX10_element_40 rfl hl (by decide) rfl (fun ls hl => ?_)
      refine lv_aload_n hx hb dX10_element_41 rfl (lv_at hl 1 rfl) ?_
      refine lv_iload_n hx hb dX10_element_42 rfl (lv_at hl 2 rfl) ?_
      refine m_pu (As := [.int d]) (rest := [.ref mo]) ⟨hx, hb, hml, hown, hts⟩ (c_X10_isShelf l d ) (va_cwS 1 hts gX10_element_X10_isShelf rfl rfl rfl (by decide +kernel) ⟨Nat.le_of_ble_eq_true rfl, Nat.le_of_ble_eq_true rfl⟩) hP rfl hl.1 rfl (Nat.le_of_ble_eq_true rfl) dX10_element_43 ⟨Nat.le_of_ble_eq_true rfl, Nat.le_of_ble_eq_true rfl⟩ hS (fun r43 H locs q43 hP hS => ?_)
      refine lv_if_ne (tgt := 53) hx hb dX10_element_46 (by decide) (fun c46 => ?_) (fun c46 => ?_)
      · skip
        have b46 := bo_t q43 c46
        refine lv_iload_n hx hb dX10_element_53 rfl (lv_at hl 0 rfl) ?_
        refine lv_if_eq (tgt := 61) hx hb dX10_element_54 (by decide) (fun c54 => ?_) (fun c54 => ?_)
        · skip
          have d54 := c54
          rw [fa_eq] at d54
          refine lv_iconst (v := 2) hx hb dX10_element_61 (by decide) ?_
          refine m_put (v := .int (2 : Int32)) (ty := .int) hx hb hts hin hown hK hP hD hS 0 (by decide) rfl (hts (.fieldLink RX10 79 "ShadowBenchModel" "thrown" "I") (by decide +kernel)) rfl (by decide +kernel) rfl rfl (upd f 0 (2 : Int32)) g rfl dX10_element_62 (fun H locs hP hS => ?_)
          refine lv_iload_n hx hb dX10_element_65 rfl (lv_at hl 0 rfl) ?_
          refine lv_if_eq (tgt := 83) hx hb dX10_element_66 (by decide) (fun c66 => ?_) (fun c66 => ?_)
          · skip
            have d66 := c66
            rw [fa_eq] at d66
            refine lv_lconst (v := 0) hx hb dX10_element_83 (by decide) ?_
            exact W.lret (v := (0 : Int64)) hx hb hr (fun t ht hW => ⟨⟨_, ((upd f 0 (2 : Int32)), g, r, q), rfl, ⟨(2 : Int32), rfl, trivial⟩, by unfold mB; rw [ht]; exact hP⟩, hS.F ht⟩) hS.2.2 dX10_element_84
          · first | exact absurd c66 (by decide) | exact absurd (by decide) c66
        · first | exact absurd c54 (by decide) | exact absurd (by decide) c54
      · skip
        have b46 := bo_f q43 c46
        refine lv_iconst (v := 1) hx hb dX10_element_49 (by decide) ?_
        refine lv_goto (tgt := 62) hx hb dX10_element_50 (by decide) ?_
        refine m_put (v := .int (1 : Int32)) (ty := .int) hx hb hts hin hown hK hP hD hS 0 (by decide) rfl (hts (.fieldLink RX10 79 "ShadowBenchModel" "thrown" "I") (by decide +kernel)) rfl (by decide +kernel) rfl rfl (upd f 0 (1 : Int32)) g rfl dX10_element_62 (fun H locs hP hS => ?_)
        refine lv_iload_n hx hb dX10_element_65 rfl (lv_at hl 0 rfl) ?_
        refine lv_if_eq (tgt := 83) hx hb dX10_element_66 (by decide) (fun c66 => ?_) (fun c66 => ?_)
        · skip
          have d66 := c66
          rw [fa_eq] at d66
          refine lv_lconst (v := 0) hx hb dX10_element_83 (by decide) ?_
          exact W.lret (v := (0 : Int64)) hx hb hr (fun t ht hW => ⟨⟨_, ((upd f 0 (1 : Int32)), g, r, q), rfl, ⟨(1 : Int32), rfl, trivial⟩, by unfold mB; rw [ht]; exact hP⟩, hS.F ht⟩) hS.2.2 dX10_element_84
        · first | exact absurd c66 (by decide) | exact absurd (by decide) c66
    · skip
      have d14 := c14
      rw [fa_le] at d14
      refine lv_iload_n hx hb dX10_element_17 rfl (lv_at hl 2 rfl) ?_
      refine lv_i2l (v := i0.toInt64) hx hb dX10_element_18 rfl ?_
      refine lv_lconst (v := 0) hx hb dX10_element_19 (by decide) ?_
      refine lv_aload_n hx hb dX10_element_20 rfl (lv_at hl 0 rfl) ?_
      refine m_get (v := .ref (a 30)) hx hb hts hin hown hK hP 30 (by decide) rfl (hts (.fieldLink RX10 64 "ShadowBenchModel" "shelfSize" "[I") (by decide +kernel)) rfl dX10_element_21 ?_
      refine lv_iload_n hx hb dX10_element_24 rfl (lv_at hl 1 rfl) ?_
      refine m_iald (w := (r 30)) hx hb hK hP 18 rfl (vp_in_iff.mpr ⟨by omega, by omega⟩) dX10_element_25 ?_
      refine lv_topi (fun v25 e25 => ?_)
      have i25 : v25.toInt = ((r 30) d.toNatClampNeg).toInt := congrArg Int32.toInt e25
      have z25 := mi_s hI (x := d) (by omega) (by omega) e25
      refine lv_iconst (v := 1) hx hb dX10_element_26 (by decide) ?_
      refine lv_isub hx hb dX10_element_27 ?_
      refine lv_topi (fun v27 e27 => ?_)
      have i27 : v27.toInt = v25.toInt - (1 : Int32).toInt := by rw [e27]; exact fb_subI (by omega) (by omega)
      refine lv_i2l (v := v27.toInt64) hx hb dX10_element_28 rfl ?_
      refine m_pu (As := [.long (i0.toInt64), .long (0 : Int64), .long (v27.toInt64)]) (rest := []) ⟨hx, hb, hml, hown, hts⟩ (c_X10_isIn l i0.toInt64 (0 : Int64) v27.toInt64 ) (va_cwS 3 hts gX10_element_X10_isIn rfl rfl rfl (by decide +kernel) ⟨Nat.le_of_ble_eq_true rfl, Nat.le_of_ble_eq_true rfl⟩) hP rfl hl.1 rfl (Nat.le_of_ble_eq_true rfl) dX10_element_29 ⟨Nat.le_of_ble_eq_true rfl, Nat.le_of_ble_eq_true rfl⟩ hS (fun r29 H locs q29 hP hS => ?_)
      have q29 := q29
      simp only [k64, show (0 : Int64).toInt = 0 from rfl, show (1 : Int64).toInt = 1 from rfl, show (2 : Int64).toInt = 2 from rfl, show (3 : Int64).toInt = 3 from rfl, show (6 : Int64).toInt = 6 from rfl] at q29
      refine lv_if_eq (tgt := 39) hx hb dX10_element_32 (by decide) (fun c32 => ?_) (fun c32 => ?_)
      · skip
        have b32 := bo_f q29 c32
        refine lv_iconst (v := 0) hx hb dX10_element_39 (by decide) ?_
        refine lv_istore_n (lv' := [(3, .int (0 : Int32)), (0, .ref mo), (1, .int d), (2, .int i0)]) hx hb dX10_element_40 rfl hl (by decide) rfl (fun ls hl => ?_)
        refine lv_aload_n hx hb dX10_element_41 rfl (lv_at hl 1 rfl) ?_
        refine lv_iload_n hx hb dX10_element_42 rfl (lv_at hl 2 rfl) ?_
        refine m_pu (As := [.int d]) (rest := [.ref mo]) ⟨hx, hb, hml, hown, hts⟩ (c_X10_isShelf l d ) (va_cwS 1 hts gX10_element_X10_isShelf rfl rfl rfl (by decide +kernel) ⟨Nat.le_of_ble_eq_true rfl, Nat.le_of_ble_eq_true rfl⟩) hP rfl hl.1 rfl (Nat.le_of_ble_eq_true rfl) dX10_element_43 ⟨Nat.le_of_ble_eq_true rfl, Nat.le_of_ble_eq_true rfl⟩ hS (fun r43 H locs q43 hP hS => ?_)
        refine lv_if_ne (tgt := 53) hx hb dX10_element_46 (by decide) (fun c46 => ?_) (fun c46 => ?_)
        · skip
          have b46 := bo_t q43 c46
          refine lv_iload_n hx hb dX10_element_53 rfl (lv_at hl 0 rfl) ?_
          refine lv_if_eq (tgt := 61) hx hb dX10_element_54 (by decide) (fun c54 => ?_) (fun c54 => ?_)
          · skip
            have d54 := c54
            rw [fa_eq] at d54
            refine lv_iconst (v := 2) hx hb dX10_element_61 (by decide) ?_
            refine m_put (v := .int (2 : Int32)) (ty := .int) hx hb hts hin hown hK hP hD hS 0 (by decide) rfl (hts (.fieldLink RX10 79 "ShadowBenchModel" "thrown" "I") (by decide +kernel)) rfl (by decide +kernel) rfl rfl (upd f 0 (2 : Int32)) g rfl dX10_element_62 (fun H locs hP hS => ?_)
            refine lv_iload_n hx hb dX10_element_65 rfl (lv_at hl 0 rfl) ?_
            refine lv_if_eq (tgt := 83) hx hb dX10_element_66 (by decide) (fun c66 => ?_) (fun c66 => ?_)
            · skip
              have d66 := c66
              rw [fa_eq] at d66
              refine lv_lconst (v := 0) hx hb dX10_element_83 (by decide) ?_
              exact W.lret (v := (0 : Int64)) hx hb hr (fun t ht hW => ⟨⟨_, ((upd f 0 (2 : Int32)), g, r, q), rfl, ⟨(2 : Int32), rfl, trivial⟩, by unfold mB; rw [ht]; exact hP⟩, hS.F ht⟩) hS.2.2 dX10_element_84
            · first | exact absurd c66 (by decide) | exact absurd (by decide) c66
          · first | exact absurd c54 (by decide) | exact absurd (by decide) c54
        · skip
          have b46 := bo_f q43 c46
          refine lv_iconst (v := 1) hx hb dX10_element_49 (by decide) ?_
          refine lv_goto (tgt := 62) hx hb dX10_element_50 (by decide) ?_
          refine m_put (v := .int (1 : Int32)) (ty := .int) hx hb hts hin hown hK hP hD hS 0 (by decide) rfl (hts (.fieldLink RX10 79 "ShadowBenchModel" "thrown" "I") (by decide +kernel)) rfl (by decide +kernel) rfl rfl (upd f 0 (1 : Int32)) g rfl dX10_element_62 (fun H locs hP hS => ?_)
          refine lv_iload_n hx hb dX10_element_65 rfl (lv_at hl 0 rfl) ?_
          refine lv_if_eq (tgt := 83) hx hb dX10_element_66 (by decide) (fun c66 => ?_) (fun c66 => ?_)
          · skip
            have d66 := c66
            rw [fa_eq] at d66
            refine lv_lconst (v := 0) hx hb dX10_element_83 (by decide) ?_
            exact W.lret (v := (0 : Int64)) hx hb hr (fun t ht hW => ⟨⟨_, ((upd f 0 (1 : Int32)), g, r, q), rfl, ⟨(1 : Int32), rfl, trivial⟩, by unfold mB; rw [ht]; exact hP⟩, hS.F ht⟩) hS.2.2 dX10_element_84
          · first | exact absurd c66 (by decide) | exact absurd (by decide) c66
      · skip
        have b32 := bo_t q29 c32
        refine lv_iconst (v := 1) hx hb dX10_element_35 (by decide) ?_
        refine lv_goto (tgt := 40) hx hb dX10_element_36 (by decide) ?_
        refine lv_istore_n (lv' := [(3, .int (1 : Int32)), (0, .ref mo), (1, .int d), (2, .int i0)]) hx hb dX10_element_40 rfl hl (by decide) rfl (fun ls hl => ?_)
        refine lv_aload_n hx hb dX10_element_41 rfl (lv_at hl 1 rfl) ?_
        refine lv_iload_n hx hb dX10_element_42 rfl (lv_at hl 2 rfl) ?_
        refine m_pu (As := [.int d]) (rest := [.ref mo]) ⟨hx, hb, hml, hown, hts⟩ (c_X10_isShelf l d ) (va_cwS 1 hts gX10_element_X10_isShelf rfl rfl rfl (by decide +kernel) ⟨Nat.le_of_ble_eq_true rfl, Nat.le_of_ble_eq_true rfl⟩) hP rfl hl.1 rfl (Nat.le_of_ble_eq_true rfl) dX10_element_43 ⟨Nat.le_of_ble_eq_true rfl, Nat.le_of_ble_eq_true rfl⟩ hS (fun r43 H locs q43 hP hS => ?_)
        refine lv_if_ne (tgt := 53) hx hb dX10_element_46 (by decide) (fun c46 => ?_) (fun c46 => ?_)
        · skip
          have b46 := bo_t q43 c46
          refine lv_iload_n hx hb dX10_element_53 rfl (lv_at hl 0 rfl) ?_
          refine lv_if_eq (tgt := 61) hx hb dX10_element_54 (by decide) (fun c54 => ?_) (fun c54 => ?_)
          · first | exact absurd c54 (by decide) | exact absurd (by decide) c54
          · skip
            have d54 := c54
            rw [fa_eq] at d54
            refine lv_iconst (v := 0) hx hb dX10_element_57 (by decide) ?_
            refine lv_goto (tgt := 62) hx hb dX10_element_58 (by decide) ?_
            refine m_put (v := .int (0 : Int32)) (ty := .int) hx hb hts hin hown hK hP hD hS 0 (by decide) rfl (hts (.fieldLink RX10 79 "ShadowBenchModel" "thrown" "I") (by decide +kernel)) rfl (by decide +kernel) rfl rfl (upd f 0 (0 : Int32)) g rfl dX10_element_62 (fun H locs hP hS => ?_)
            refine lv_iload_n hx hb dX10_element_65 rfl (lv_at hl 0 rfl) ?_
            refine lv_if_eq (tgt := 83) hx hb dX10_element_66 (by decide) (fun c66 => ?_) (fun c66 => ?_)
            · first | exact absurd c66 (by decide) | exact absurd (by decide) c66
            · skip
              have d66 := c66
              rw [fa_eq] at d66
              have y32 := b32
              try simp only [k64, show (0 : Int64).toInt = 0 from rfl] at y32
              refine lv_aload_n hx hb dX10_element_69 rfl (lv_at hl 1 rfl) ?_
              refine m_get (v := .ref (a 33)) hx hb hts hin hown hK hP 33 (by decide) rfl (hts (.fieldLink RX10 73 "ShadowBenchModel" "shelfRow" "[J") (by decide +kernel)) rfl dX10_element_70 ?_
              refine lv_bipush (v := 60) hx hb dX10_element_73 (by decide) ?_
              refine lv_iload_n hx hb dX10_element_75 rfl (lv_at hl 2 rfl) ?_
              refine lv_imul hx hb dX10_element_76 ?_
              refine lv_topi (fun v76 e76 => ?_)
              have i76 : v76.toInt = 60 * d.toInt := by rw [e76]; exact mulcL rfl (by omega) (by omega)
              refine lv_iload_n hx hb dX10_element_77 rfl (lv_at hl 3 rfl) ?_
              refine lv_iadd hx hb dX10_element_78 ?_
              refine lv_topi (fun v78 e78 => ?_)
              have i78 : v78.toInt = v76.toInt + i0.toInt := by rw [e78]; exact fb_addI (by omega) (by omega)
              refine m_lald (w := (q 33)) hx hb hK hP 21 rfl (vp_in_iff.mpr ⟨by omega, by omega⟩) dX10_element_79 ?_
              refine lv_topl (fun v79 e79 => ?_)
              refine lv_goto (tgt := 84) hx hb dX10_element_80 (by decide) ?_
              exact W.lret (v := v79) hx hb hr (fun t ht hW => ⟨⟨_, ((upd f 0 (0 : Int32)), g, r, q), rfl, ⟨(0 : Int32), rfl, trivial⟩, by unfold mB; rw [ht]; exact hP⟩, hS.F ht⟩) hS.2.2 dX10_element_84
        · skip
          have b46 := bo_f q43 c46
          refine lv_iconst (v := 1) hx hb dX10_element_49 (by decide) ?_
          refine lv_goto (tgt := 62) hx hb dX10_element_50 (by decide) ?_
          refine m_put (v := .int (1 : Int32)) (ty := .int) hx hb hts hin hown hK hP hD hS 0 (by decide) rfl (hts (.fieldLink RX10 79 "ShadowBenchModel" "thrown" "I") (by decide +kernel)) rfl (by decide +kernel) rfl rfl (upd f 0 (1 : Int32)) g rfl dX10_element_62 (fun H locs hP hS => ?_)
          refine lv_iload_n hx hb dX10_element_65 rfl (lv_at hl 0 rfl) ?_
          refine lv_if_eq (tgt := 83) hx hb dX10_element_66 (by decide) (fun c66 => ?_) (fun c66 => ?_)
          · first | exact absurd c66 (by decide) | exact absurd (by decide) c66
          · skip
            have d66 := c66
            rw [fa_eq] at d66
            have y32 := b32
            try simp only [k64, show (0 : Int64).toInt = 0 from rfl] at y32
            refine lv_aload_n hx hb dX10_element_69 rfl (lv_at hl 1 rfl) ?_
            refine m_get (v := .ref (a 33)) hx hb hts hin hown hK hP 33 (by decide) rfl (hts (.fieldLink RX10 73 "ShadowBenchModel" "shelfRow" "[J") (by decide +kernel)) rfl dX10_element_70 ?_
            refine lv_bipush (v := 60) hx hb dX10_element_73 (by decide) ?_
            refine lv_iload_n hx hb dX10_element_75 rfl (lv_at hl 2 rfl) ?_
            refine lv_imul hx hb dX10_element_76 ?_
            refine lv_topi (fun v76 e76 => ?_)
            have i76 : v76.toInt = 60 * d.toInt := by rw [e76]; exact mulcL rfl (by omega) (by omega)
            refine lv_iload_n hx hb dX10_element_77 rfl (lv_at hl 3 rfl) ?_
            refine lv_iadd hx hb dX10_element_78 ?_
            refine lv_topi (fun v78 e78 => ?_)
            have i78 : v78.toInt = v76.toInt + i0.toInt := by rw [e78]; exact fb_addI (by omega) (by omega)
            refine m_lald (w := (q 33)) hx hb hK hP 21 rfl (vp_in_iff.mpr ⟨by omega, by omega⟩) dX10_element_79 ?_
            refine lv_topl (fun v79 e79 => ?_)
            refine lv_goto (tgt := 84) hx hb dX10_element_80 (by decide) ?_
            exact W.lret (v := v79) hx hb hr (fun t ht hW => ⟨⟨_, ((upd f 0 (1 : Int32)), g, r, q), rfl, ⟨(1 : Int32), rfl, trivial⟩, by unfold mB; rw [ht]; exact hP⟩, hS.F ht⟩) hS.2.2 dX10_element_84
set_option maxHeartbeats 4000000 in
set_option maxRecDepth 100000 in
theorem c_X10_hasPlaces (l : Launch) (D : va_G) (cy : Nat → ClassId) (mo : Nat) (a : Nat → Nat) (f : Nat → Int32) (g : Nat → Int64) (r : Nat → Nat → Int32) (q : Nat → Nat → Int64) (d : Int32) (i0 : Int32) (n1 : Int32) (hD : DM cy mo a) (hI : MI f r) (hd : 0 ≤ d.toInt ∧ d.toInt < 8) : Mi l D cy mo a yX10_hasPlaces wsX10_hasPlaces ({ frames := 0, cells := 0, slots := 0, locals := 0 }) f g r q [.int d, .int i0, .int n1] (fun r0 u => u = (f, g, r, q) ∧ (Bo r0 ((0 ≤ n1.toInt ∧ 0 ≤ i0.toInt) ∧ i0.toInt + n1.toInt ≤ (r 30 d.toNatClampNeg).toInt))) := by
  refine Met.ofW (cc := cX10_hasPlaces) (maxL := 4) (ret := (some .boolean)) (by decide) rfl ?_
  intro p e s m args below meth c s₁ B hml hv
  obtain ⟨rfl, hP, hK⟩ := hv
  have hx := B.exec
  have hb := B.bytes
  have hr := B.returns
  have hts := atoms_spec (ws := wsX10_hasPlaces) B.pre
  have hin : ∀ w ∈ u_ws RX10 TX10 35, w ∈ wsX10_hasPlaces := by decide +kernel
  have hown : s.vm.findClass RX10 = some m.cls := findClass_of_methodNamed B.named
  have hlocks := B.notSynchronized
  have hS : va_S (AM mo a) s.heap s.heap [] := va_S.rf
  have hl := lv_entry ([.ref mo, .int d, .int i0, .int n1]) (n := 4) (Nat.le_of_ble_eq_true rfl)
  rw [lg_entry_eq]
  generalize (lg_sl ([.ref mo, .int d, .int i0, .int n1]) ++ List.replicate (4 - (lg_sl ([.ref mo, .int d, .int i0, .int n1])).length) Slot.unset).toArray = ls at hl ⊢
  have hl : lv_has ls 4 [(0, .ref mo), (1, .int d), (2, .int i0), (3, .int n1)] := hl
  have k_0 : (0 : Int32).toInt = 0 := by decide
  have k_1 : (1 : Int32).toInt = 1 := by decide
  refine lv_iload_n hx hb dX10_hasPlaces_0 rfl (lv_at hl 3 rfl) ?_
  refine lv_if_lt (tgt := 34) hx hb dX10_hasPlaces_1 (by decide) (fun c1 => ?_) (fun c1 => ?_)
  · skip
    have d1 := c1
    rw [fa_lt] at d1
    refine lv_iconst (v := 0) hx hb dX10_hasPlaces_34 (by decide) ?_
    exact W.zret (v := (0 : Int32)) hx hb hr (by decide) (fun t ht hW => ⟨⟨_, (f, g, r, q), rfl, ⟨rfl, Or.inr ⟨rfl, by first | omega | (rw [← e14]; omega) | (rw [← e14]; have : v24 = v14 := (by rw [e24, e14]); subst this; omega)⟩⟩, by unfold mB; rw [ht]; exact hP⟩, hS.F ht⟩) hS.2.2 dX10_hasPlaces_35
  · skip
    have d1 := c1
    rw [fa_lt] at d1
    refine lv_iload_n hx hb dX10_hasPlaces_4 rfl (lv_at hl 2 rfl) ?_
    refine lv_if_lt (tgt := 34) hx hb dX10_hasPlaces_5 (by decide) (fun c5 => ?_) (fun c5 => ?_)
    · skip
      have d5 := c5
      rw [fa_lt] at d5
      refine lv_iconst (v := 0) hx hb dX10_hasPlaces_34 (by decide) ?_
      exact W.zret (v := (0 : Int32)) hx hb hr (by decide) (fun t ht hW => ⟨⟨_, (f, g, r, q), rfl, ⟨rfl, Or.inr ⟨rfl, by first | omega | (rw [← e14]; omega) | (rw [← e14]; have : v24 = v14 := (by rw [e24, e14]); subst this; omega)⟩⟩, by unfold mB; rw [ht]; exact hP⟩, hS.F ht⟩) hS.2.2 dX10_hasPlaces_35
    · skip
      have d5 := c5
      rw [fa_lt] at d5
      refine lv_iload_n hx hb dX10_hasPlaces_8 rfl (lv_at hl 2 rfl) ?_
      refine lv_aload_n hx hb dX10_hasPlaces_9 rfl (lv_at hl 0 rfl) ?_
      refine m_get (v := .ref (a 30)) hx hb hts hin hown hK hP 30 (by decide) rfl (hts (.fieldLink RX10 64 "ShadowBenchModel" "shelfSize" "[I") (by decide +kernel)) rfl dX10_hasPlaces_10 ?_
      refine lv_iload_n hx hb dX10_hasPlaces_13 rfl (lv_at hl 1 rfl) ?_
      refine m_iald (w := (r 30)) hx hb hK hP 18 rfl (vp_in_iff.mpr ⟨by omega, by omega⟩) dX10_hasPlaces_14 ?_
      refine lv_topi (fun v14 e14 => ?_)
      have i14 : v14.toInt = ((r 30) d.toNatClampNeg).toInt := congrArg Int32.toInt e14
      have z14 := mi_s hI (x := d) (by omega) (by omega) e14
      refine lv_icmp_gt (tgt := 34) hx hb dX10_hasPlaces_15 (by decide) (fun c15 => ?_) (fun c15 => ?_)
      · skip
        have d15 := c15
        rw [fa_lt] at d15
        refine lv_iconst (v := 0) hx hb dX10_hasPlaces_34 (by decide) ?_
        exact W.zret (v := (0 : Int32)) hx hb hr (by decide) (fun t ht hW => ⟨⟨_, (f, g, r, q), rfl, ⟨rfl, Or.inr ⟨rfl, by first | omega | (rw [← e14]; omega) | (rw [← e14]; have : v24 = v14 := (by rw [e24, e14]); subst this; omega)⟩⟩, by unfold mB; rw [ht]; exact hP⟩, hS.F ht⟩) hS.2.2 dX10_hasPlaces_35
      · skip
        have d15 := c15
        rw [fa_lt] at d15
        refine lv_iload_n hx hb dX10_hasPlaces_18 rfl (lv_at hl 3 rfl) ?_
        refine lv_aload_n hx hb dX10_hasPlaces_19 rfl (lv_at hl 0 rfl) ?_
        refine m_get (v := .ref (a 30)) hx hb hts hin hown hK hP 30 (by decide) rfl (hts (.fieldLink RX10 64 "ShadowBenchModel" "shelfSize" "[I") (by decide +kernel)) rfl dX10_hasPlaces_20 ?_
        refine lv_iload_n hx hb dX10_hasPlaces_23 rfl (lv_at hl 1 rfl) ?_
        refine m_iald (w := (r 30)) hx hb hK hP 18 rfl (vp_in_iff.mpr ⟨by omega, by omega⟩) dX10_hasPlaces_24 ?_
        refine lv_topi (fun v24 e24 => ?_)
        have i24 : v24.toInt = ((r 30) d.toNatClampNeg).toInt := congrArg Int32.toInt e24
        have z24 := mi_s hI (x := d) (by omega) (by omega) e24
        refine lv_iload_n hx hb dX10_hasPlaces_25 rfl (lv_at hl 2 rfl) ?_
        refine lv_isub hx hb dX10_hasPlaces_26 ?_
        refine lv_topi (fun v26 e26 => ?_)
        have i26 : v26.toInt = v24.toInt - i0.toInt := by rw [e26]; exact fb_subI (by omega) (by omega)
        refine lv_icmp_gt (tgt := 34) hx hb dX10_hasPlaces_27 (by decide) (fun c27 => ?_) (fun c27 => ?_)
        · skip
          have d27 := c27
          rw [fa_lt] at d27
          refine lv_iconst (v := 0) hx hb dX10_hasPlaces_34 (by decide) ?_
          exact W.zret (v := (0 : Int32)) hx hb hr (by decide) (fun t ht hW => ⟨⟨_, (f, g, r, q), rfl, ⟨rfl, Or.inr ⟨rfl, by first | omega | (rw [← e14]; omega) | (rw [← e14]; have : v24 = v14 := (by rw [e24, e14]); subst this; omega)⟩⟩, by unfold mB; rw [ht]; exact hP⟩, hS.F ht⟩) hS.2.2 dX10_hasPlaces_35
        · skip
          have d27 := c27
          rw [fa_lt] at d27
          refine lv_iconst (v := 1) hx hb dX10_hasPlaces_30 (by decide) ?_
          refine lv_goto (tgt := 35) hx hb dX10_hasPlaces_31 (by decide) ?_
          exact W.zret (v := (1 : Int32)) hx hb hr (by decide) (fun t ht hW => ⟨⟨_, (f, g, r, q), rfl, ⟨rfl, Or.inl ⟨rfl, by rw [← e14]; have : v24 = v14 := (by rw [e24, e14]); subst this; omega⟩⟩, by unfold mB; rw [ht]; exact hP⟩, hS.F ht⟩) hS.2.2 dX10_hasPlaces_35
set_option maxHeartbeats 4000000 in
set_option maxRecDepth 100000 in
theorem c_X10_copy (l : Launch) (D : va_G) (cy : Nat → ClassId) (mo : Nat) (a : Nat → Nat) (f : Nat → Int32) (g : Nat → Int64) (r : Nat → Nat → Int32) (q : Nat → Nat → Int64) (d : Int32) (i0 : Int32) (e0 : Int32) (j0 : Int32) (n1 : Int32) (hD : DM cy mo a) (hI : MI f r) : Mi l D cy mo a yX10_copy wsX10_copy ({ frames := 1, cells := 0, slots := 0, locals := 23 }) f g r q [.int d, .int i0, .int e0, .int j0, .int n1] (fun r0 u => ∃ (sr : Nat → Int64), ∃ (bt : Nat → Int64), u = ((upd f 0 (0 : Int32)), g, r, (va_up (va_up q 33 sr) 34 bt)) ∧ (True)) := by
  refine Met.ofW (cc := cX10_copy) (maxL := 7) (ret := (some .int)) (by decide) rfl ?_
  intro p e s m args below meth c s₁ B hml hv
  obtain ⟨rfl, hP, hK⟩ := hv
  have hx := B.exec
  have hb := B.bytes
  have hr := B.returns
  have hts := atoms_spec (ws := wsX10_copy) B.pre
  have hin : ∀ w ∈ u_ws RX10 TX10 35, w ∈ wsX10_copy := by decide +kernel
  have hown : s.vm.findClass RX10 = some m.cls := findClass_of_methodNamed B.named
  have hlocks := B.notSynchronized
  have hS : va_S (AM mo a) s.heap s.heap [] := va_S.rf
  have hl := lv_entry ([.ref mo, .int d, .int i0, .int e0, .int j0, .int n1]) (n := 7) (Nat.le_of_ble_eq_true rfl)
  rw [lg_entry_eq]
  generalize (lg_sl ([.ref mo, .int d, .int i0, .int e0, .int j0, .int n1]) ++ List.replicate (7 - (lg_sl ([.ref mo, .int d, .int i0, .int e0, .int j0, .int n1])).length) Slot.unset).toArray = ls at hl ⊢
  have hl : lv_has ls 7 [(0, .ref mo), (1, .int d), (2, .int i0), (3, .int e0), (4, .int j0), (5, .int n1)] := hl
  have k_m13 : (-13 : Int32).toInt = -13 := by decide
  have k_m12 : (-12 : Int32).toInt = -12 := by decide
  have k_m11 : (-11 : Int32).toInt = -11 := by decide
  have k_m1 : (-1 : Int32).toInt = -1 := by decide
  have k_0 : (0 : Int32).toInt = 0 := by decide
  have k_3 : (3 : Int32).toInt = 3 := by decide
  have k_60 : (60 : Int32).toInt = 60 := by decide
  refine lv_aload_n hx hb dX10_copy_0 rfl (lv_at hl 0 rfl) ?_
  refine lv_iconst (v := 0) hx hb dX10_copy_1 (by decide) ?_
  refine m_put (v := .int (0 : Int32)) (ty := .int) hx hb hts hin hown hK hP hD hS 0 (by decide) rfl (hts (.fieldLink RX10 79 "ShadowBenchModel" "thrown" "I") (by decide +kernel)) rfl (by decide +kernel) rfl rfl (upd f 0 (0 : Int32)) g rfl dX10_copy_2 (fun H locs hP hS => ?_)
  refine lv_iload_n hx hb dX10_copy_5 rfl (lv_at hl 1 rfl) ?_
  refine m_pu (As := [.int d]) (rest := []) ⟨hx, hb, hml, hown, hts⟩ (c_X10_isShelf l d ) (va_cwS 1 hts gX10_copy_X10_isShelf rfl rfl rfl (by decide +kernel) ⟨Nat.le_of_ble_eq_true rfl, Nat.le_of_ble_eq_true rfl⟩) hP rfl hl.1 rfl (Nat.le_of_ble_eq_true rfl) dX10_copy_6 ⟨Nat.le_of_ble_eq_true rfl, Nat.le_of_ble_eq_true rfl⟩ hS (fun r6 H locs q6 hP hS => ?_)
  refine lv_if_eq (tgt := 19) hx hb dX10_copy_9 (by decide) (fun c9 => ?_) (fun c9 => ?_)
  · skip
    have b9 := bo_f q6 c9
    refine lv_iconst (v := (-1)) hx hb dX10_copy_19 (by decide) ?_
    have hP := wm_eq rfl rfl rfl (ec_q___33_34 q ) hP
    exact W.iret (v := ((-1) : Int32)) hx hb hr (fun t ht hW => ⟨⟨_, ((upd f 0 (0 : Int32)), g, r, (va_up (va_up q 33 (q 33)) 34 (q 34))), rfl, ⟨(q 33), (q 34), rfl, trivial⟩, by unfold mB; rw [ht]; exact hP⟩, hS.F ht⟩) hS.2.2 dX10_copy_20
  · skip
    have b9 := bo_t q6 c9
    refine lv_iload_n hx hb dX10_copy_12 rfl (lv_at hl 3 rfl) ?_
    refine m_pu (As := [.int e0]) (rest := []) ⟨hx, hb, hml, hown, hts⟩ (c_X10_isShelf l e0 ) (va_cwS 1 hts gX10_copy_X10_isShelf rfl rfl rfl (by decide +kernel) ⟨Nat.le_of_ble_eq_true rfl, Nat.le_of_ble_eq_true rfl⟩) hP rfl hl.1 rfl (Nat.le_of_ble_eq_true rfl) dX10_copy_13 ⟨Nat.le_of_ble_eq_true rfl, Nat.le_of_ble_eq_true rfl⟩ hS (fun r13 H locs q13 hP hS => ?_)
    refine lv_if_ne (tgt := 21) hx hb dX10_copy_16 (by decide) (fun c16 => ?_) (fun c16 => ?_)
    · skip
      have b16 := bo_t q13 c16
      refine lv_aload_n hx hb dX10_copy_21 rfl (lv_at hl 0 rfl) ?_
      refine m_get (v := .ref (a 29)) hx hb hts hin hown hK hP 29 (by decide) rfl (hts (.fieldLink RX10 61 "ShadowBenchModel" "shelf" "[I") (by decide +kernel)) rfl dX10_copy_22 ?_
      refine lv_iload_n hx hb dX10_copy_25 rfl (lv_at hl 1 rfl) ?_
      refine m_iald (w := (r 29)) hx hb hK hP 17 rfl (vp_in_iff.mpr ⟨by omega, by omega⟩) dX10_copy_26 ?_
      refine lv_topi (fun v26 e26 => ?_)
      have i26 : v26.toInt = ((r 29) d.toNatClampNeg).toInt := congrArg Int32.toInt e26
      refine lv_if_eq (tgt := 39) hx hb dX10_copy_27 (by decide) (fun c27 => ?_) (fun c27 => ?_)
      · skip
        have d27 := c27
        rw [fa_eq] at d27
        refine lv_bipush (v := (-11)) hx hb dX10_copy_39 (by decide) ?_
        have hP := wm_eq rfl rfl rfl (ec_q___33_34 q ) hP
        exact W.iret (v := ((-11) : Int32)) hx hb hr (fun t ht hW => ⟨⟨_, ((upd f 0 (0 : Int32)), g, r, (va_up (va_up q 33 (q 33)) 34 (q 34))), rfl, ⟨(q 33), (q 34), rfl, trivial⟩, by unfold mB; rw [ht]; exact hP⟩, hS.F ht⟩) hS.2.2 dX10_copy_41
      · skip
        have d27 := c27
        rw [fa_eq] at d27
        refine lv_aload_n hx hb dX10_copy_30 rfl (lv_at hl 0 rfl) ?_
        refine m_get (v := .ref (a 29)) hx hb hts hin hown hK hP 29 (by decide) rfl (hts (.fieldLink RX10 61 "ShadowBenchModel" "shelf" "[I") (by decide +kernel)) rfl dX10_copy_31 ?_
        refine lv_iload_n hx hb dX10_copy_34 rfl (lv_at hl 3 rfl) ?_
        refine m_iald (w := (r 29)) hx hb hK hP 17 rfl (vp_in_iff.mpr ⟨by omega, by omega⟩) dX10_copy_35 ?_
        refine lv_topi (fun v35 e35 => ?_)
        have i35 : v35.toInt = ((r 29) e0.toNatClampNeg).toInt := congrArg Int32.toInt e35
        refine lv_if_ne (tgt := 42) hx hb dX10_copy_36 (by decide) (fun c36 => ?_) (fun c36 => ?_)
        · skip
          have d36 := c36
          rw [fa_eq] at d36
          refine lv_aload_n hx hb dX10_copy_42 rfl (lv_at hl 0 rfl) ?_
          refine m_get (v := .ref (a 29)) hx hb hts hin hown hK hP 29 (by decide) rfl (hts (.fieldLink RX10 61 "ShadowBenchModel" "shelf" "[I") (by decide +kernel)) rfl dX10_copy_43 ?_
          refine lv_iload_n hx hb dX10_copy_46 rfl (lv_at hl 1 rfl) ?_
          refine m_iald (w := (r 29)) hx hb hK hP 17 rfl (vp_in_iff.mpr ⟨by omega, by omega⟩) dX10_copy_47 ?_
          refine lv_topi (fun v47 e47 => ?_)
          have i47 : v47.toInt = ((r 29) d.toNatClampNeg).toInt := congrArg Int32.toInt e47
          refine lv_iconst (v := 3) hx hb dX10_copy_48 (by decide) ?_
          refine lv_icmp_lt (tgt := 67) hx hb dX10_copy_49 (by decide) (fun c49 => ?_) (fun c49 => ?_)
          · skip
            have d49 := c49
            rw [fa_lt] at d49
            refine lv_bipush (v := (-12)) hx hb dX10_copy_67 (by decide) ?_
            have hP := wm_eq rfl rfl rfl (ec_q___33_34 q ) hP
            exact W.iret (v := ((-12) : Int32)) hx hb hr (fun t ht hW => ⟨⟨_, ((upd f 0 (0 : Int32)), g, r, (va_up (va_up q 33 (q 33)) 34 (q 34))), rfl, ⟨(q 33), (q 34), rfl, trivial⟩, by unfold mB; rw [ht]; exact hP⟩, hS.F ht⟩) hS.2.2 dX10_copy_69
          · skip
            have d49 := c49
            rw [fa_lt] at d49
            refine lv_aload_n hx hb dX10_copy_52 rfl (lv_at hl 0 rfl) ?_
            refine m_get (v := .ref (a 29)) hx hb hts hin hown hK hP 29 (by decide) rfl (hts (.fieldLink RX10 61 "ShadowBenchModel" "shelf" "[I") (by decide +kernel)) rfl dX10_copy_53 ?_
            refine lv_iload_n hx hb dX10_copy_56 rfl (lv_at hl 1 rfl) ?_
            refine m_iald (w := (r 29)) hx hb hK hP 17 rfl (vp_in_iff.mpr ⟨by omega, by omega⟩) dX10_copy_57 ?_
            refine lv_topi (fun v57 e57 => ?_)
            have i57 : v57.toInt = ((r 29) d.toNatClampNeg).toInt := congrArg Int32.toInt e57
            refine lv_aload_n hx hb dX10_copy_58 rfl (lv_at hl 0 rfl) ?_
            refine m_get (v := .ref (a 29)) hx hb hts hin hown hK hP 29 (by decide) rfl (hts (.fieldLink RX10 61 "ShadowBenchModel" "shelf" "[I") (by decide +kernel)) rfl dX10_copy_59 ?_
            refine lv_iload_n hx hb dX10_copy_62 rfl (lv_at hl 3 rfl) ?_
            refine m_iald (w := (r 29)) hx hb hK hP 17 rfl (vp_in_iff.mpr ⟨by omega, by omega⟩) dX10_copy_63 ?_
            refine lv_topi (fun v63 e63 => ?_)
            have i63 : v63.toInt = ((r 29) e0.toNatClampNeg).toInt := congrArg Int32.toInt e63
            refine lv_icmp_eq (tgt := 70) hx hb dX10_copy_64 (by decide) (fun c64 => ?_) (fun c64 => ?_)
            · skip
              have d64 := c64
              rw [fa_eq] at d64
              refine lv_aload_n hx hb dX10_copy_70 rfl (lv_at hl 0 rfl) ?_
              refine lv_iload_n hx hb dX10_copy_71 rfl (lv_at hl 1 rfl) ?_
              refine lv_iload_n hx hb dX10_copy_72 rfl (lv_at hl 2 rfl) ?_
              refine lv_iload hx hb dX10_copy_73 (lv_at hl 5 rfl) ?_
              refine m_calli (As := [.int d, .int i0, .int n1]) (rest := []) ⟨hx, hb, hml, hown, hts⟩ (c_X10_hasPlaces l D cy mo a (upd f 0 (0 : Int32)) g r q d i0 n1 hD hI (show 0 ≤ d.toInt ∧ d.toInt < 8 by omega)) (cwV 3 hts gX10_copy_X10_hasPlaces rfl rfl rfl (by decide +kernel) ⟨Nat.le_of_ble_eq_true rfl, Nat.le_of_ble_eq_true rfl⟩) hK hP rfl hl.1 rfl (Nat.le_of_ble_eq_true rfl) dX10_copy_75 ⟨Nat.le_of_ble_eq_true rfl, Nat.le_of_ble_eq_true rfl⟩ hS (fun r75 u H locs q75 hP hS => ?_)
              obtain ⟨rfl, q75⟩ := q75
              have hP : va_P D vwCl (WM cy mo a (upd f 0 (0 : Int32)) g r q) H := hP
              have q75 : Bo r75 ((0 ≤ n1.toInt ∧ 0 ≤ i0.toInt) ∧ i0.toInt + n1.toInt ≤ ((r 30) d.toNatClampNeg).toInt) := q75
              refine lv_if_eq (tgt := 93) hx hb dX10_copy_78 (by decide) (fun c78 => ?_) (fun c78 => ?_)
              · skip
                have b78 := bo_f q75 c78
                refine lv_bipush (v := (-13)) hx hb dX10_copy_93 (by decide) ?_
                have hP := wm_eq rfl rfl rfl (ec_q___33_34 q ) hP
                exact W.iret (v := ((-13) : Int32)) hx hb hr (fun t ht hW => ⟨⟨_, ((upd f 0 (0 : Int32)), g, r, (va_up (va_up q 33 (q 33)) 34 (q 34))), rfl, ⟨(q 33), (q 34), rfl, trivial⟩, by unfold mB; rw [ht]; exact hP⟩, hS.F ht⟩) hS.2.2 dX10_copy_95
              · skip
                have b78 := bo_t q75 c78
                refine lv_aload_n hx hb dX10_copy_81 rfl (lv_at hl 0 rfl) ?_
                refine lv_iload_n hx hb dX10_copy_82 rfl (lv_at hl 3 rfl) ?_
                refine lv_iload hx hb dX10_copy_83 (lv_at hl 4 rfl) ?_
                refine lv_iload hx hb dX10_copy_85 (lv_at hl 5 rfl) ?_
                refine m_calli (As := [.int e0, .int j0, .int n1]) (rest := []) ⟨hx, hb, hml, hown, hts⟩ (c_X10_hasPlaces l D cy mo a (upd f 0 (0 : Int32)) g r q e0 j0 n1 hD hI (show 0 ≤ e0.toInt ∧ e0.toInt < 8 by omega)) (cwV 3 hts gX10_copy_X10_hasPlaces rfl rfl rfl (by decide +kernel) ⟨Nat.le_of_ble_eq_true rfl, Nat.le_of_ble_eq_true rfl⟩) hK hP rfl hl.1 rfl (Nat.le_of_ble_eq_true rfl) dX10_copy_87 ⟨Nat.le_of_ble_eq_true rfl, Nat.le_of_ble_eq_true rfl⟩ hS (fun r87 u H locs q87 hP hS => ?_)
                obtain ⟨rfl, q87⟩ := q87
                have hP : va_P D vwCl (WM cy mo a (upd f 0 (0 : Int32)) g r q) H := hP
                have q87 : Bo r87 ((0 ≤ n1.toInt ∧ 0 ≤ j0.toInt) ∧ j0.toInt + n1.toInt ≤ ((r 30) e0.toNatClampNeg).toInt) := q87
                refine lv_if_ne (tgt := 96) hx hb dX10_copy_90 (by decide) (fun c90 => ?_) (fun c90 => ?_)
                · skip
                  have b90 := bo_t q87 c90
                  have z1 := hI.2.2.2.2 d (by omega) (by omega)
                  have z2 := hI.2.2.2.2 e0 (by omega) (by omega)
                  refine lv_iconst (v := 0) hx hb dX10_copy_96 (by decide) ?_
                  refine lv_istore (lv' := [(6, .int (0 : Int32)), (0, .ref mo), (1, .int d), (2, .int i0), (3, .int e0), (4, .int j0), (5, .int n1)]) hx hb dX10_copy_97 hl (by decide) rfl (fun ls hl => ?_)
                  have loop_99 : ∀ (n : Nat) (i : Nat) (b1 : Nat → Int64), (i ≤ 60) → 60 - i < n → ∀ (H : Heap) (locs : List Loc), va_P D vwCl (WM cy mo a (upd f 0 (0 : Int32)) g r (va_up q 34 b1)) H → va_S (AM mo a) s.heap H locs → ∀ (ls : Array Slot), lv_has ls 7 [(6, .int (nI i)), (0, .ref mo), (1, .int d), (2, .int i0), (3, .int e0), (4, .int j0), (5, .int n1)] → W p l e (headSpec wsX10_copy ({ frames := 1, cells := 0, slots := 0, locals := 23 })).room s m #[Value.ref mo, Value.int d, Value.int i0, Value.int e0, Value.int j0, Value.int n1] below meth c H locs 0 0 (MQ below (va_Qi (fun r0 u => ∃ (sr : Nat → Int64), ∃ (bt : Nat → Int64), u = ((upd f 0 (0 : Int32)), g, r, (va_up (va_up q 33 sr) 34 bt)) ∧ (True)) (mB D cy mo a) (AM mo a)) #[Value.ref mo, Value.int d, Value.int i0, Value.int e0, Value.int j0, Value.int n1] s 0 0 (AM mo a)) (F0 m 99 ls []) := by
                    intro n
                    induction n with
                    | zero => intro i b1 j99_0 hn; exact absurd hn (Nat.not_lt_zero _)
                    | succ n ih_99 =>
                      intro i b1 j99_0 hn_99 H locs hP hS ls hl
                      have ii : (nI i).toInt = (i : Int) := nI_toInt (by omega)
                      refine lv_iload hx hb dX10_copy_99 (lv_at hl 0 rfl) ?_
                      refine lv_iload hx hb dX10_copy_101 (lv_at hl 6 rfl) ?_
                      refine lv_icmp_ge (tgt := 133) hx hb dX10_copy_103 (by decide) (fun c103 => ?_) (fun c103 => ?_)
                      · skip
                        have d103 := c103
                        rw [fa_le] at d103
                        refine lv_iconst (v := 0) hx hb dX10_copy_133 (by decide) ?_
                        refine lv_istore (lv' := [(6, .int (0 : Int32)), (0, .ref mo), (1, .int d), (2, .int i0), (3, .int e0), (4, .int j0), (5, .int n1)]) hx hb dX10_copy_134 hl (by decide) rfl (fun ls hl => ?_)
                        have loop_136 : ∀ (n : Nat) (i2 : Nat) (s1 : Nat → Int64), (i2 ≤ 60) → 60 - i2 < n → ∀ (H : Heap) (locs : List Loc), va_P D vwCl (WM cy mo a (upd f 0 (0 : Int32)) g r (va_up (va_up q 34 b1) 33 s1)) H → va_S (AM mo a) s.heap H locs → ∀ (ls : Array Slot), lv_has ls 7 [(6, .int (nI i2)), (0, .ref mo), (1, .int d), (2, .int i0), (3, .int e0), (4, .int j0), (5, .int n1)] → W p l e (headSpec wsX10_copy ({ frames := 1, cells := 0, slots := 0, locals := 23 })).room s m #[Value.ref mo, Value.int d, Value.int i0, Value.int e0, Value.int j0, Value.int n1] below meth c H locs 0 0 (MQ below (va_Qi (fun r0 u => ∃ (sr : Nat → Int64), ∃ (bt : Nat → Int64), u = ((upd f 0 (0 : Int32)), g, r, (va_up (va_up q 33 sr) 34 bt)) ∧ (True)) (mB D cy mo a) (AM mo a)) #[Value.ref mo, Value.int d, Value.int i0, Value.int e0, Value.int j0, Value.int n1] s 0 0 (AM mo a)) (F0 m 136 ls []) := by
                          intro n
                          induction n with
                          | zero => intro i2 s1 j136_0 hn; exact absurd hn (Nat.not_lt_zero _)
                          | succ n ih_136 =>
                            intro i2 s1 j136_0 hn_136 H locs hP hS ls hl
                            have ii2 : (nI i2).toInt = (i2 : Int) := nI_toInt (by omega)
                            refine lv_iload hx hb dX10_copy_136 (lv_at hl 0 rfl) ?_
                            refine lv_iload hx hb dX10_copy_138 (lv_at hl 6 rfl) ?_
                            refine lv_icmp_ge (tgt := 171) hx hb dX10_copy_140 (by decide) (fun c140 => ?_) (fun c140 => ?_)
                            · skip
                              have d140 := c140
                              rw [fa_le] at d140
                              refine lv_iload hx hb dX10_copy_171 (lv_at hl 6 rfl) ?_
                              have hP := wm_eq rfl rfl rfl (ec_q_34_33__33_34 q b1 s1) hP
                              exact W.iret (v := n1) hx hb hr (fun t ht hW => ⟨⟨_, ((upd f 0 (0 : Int32)), g, r, (va_up (va_up q 33 s1) 34 b1)), rfl, ⟨s1, b1, rfl, trivial⟩, by unfold mB; rw [ht]; exact hP⟩, hS.F ht⟩) hS.2.2 dX10_copy_173
                            · skip
                              have d140 := c140
                              rw [fa_le] at d140
                              refine lv_aload_n hx hb dX10_copy_143 rfl (lv_at hl 1 rfl) ?_
                              refine m_get (v := .ref (a 33)) hx hb hts hin hown hK hP 33 (by decide) rfl (hts (.fieldLink RX10 73 "ShadowBenchModel" "shelfRow" "[J") (by decide +kernel)) rfl dX10_copy_144 ?_
                              refine lv_bipush (v := 60) hx hb dX10_copy_147 (by decide) ?_
                              refine lv_iload_n hx hb dX10_copy_149 rfl (lv_at hl 4 rfl) ?_
                              refine lv_imul hx hb dX10_copy_150 ?_
                              refine lv_topi (fun v150 e150 => ?_)
                              have i150 : v150.toInt = 60 * e0.toInt := by rw [e150]; exact mulcL rfl (by omega) (by omega)
                              refine lv_iload hx hb dX10_copy_151 (lv_at hl 5 rfl) ?_
                              refine lv_iadd hx hb dX10_copy_153 ?_
                              refine lv_topi (fun v153 e153 => ?_)
                              have i153 : v153.toInt = v150.toInt + j0.toInt := by rw [e153]; exact fb_addI (by omega) (by omega)
                              refine lv_iload hx hb dX10_copy_154 (lv_at hl 0 rfl) ?_
                              refine lv_iadd hx hb dX10_copy_156 ?_
                              refine lv_topi (fun v156 e156 => ?_)
                              have i156 : v156.toInt = v153.toInt + (nI i2).toInt := by rw [e156]; exact fb_addI (by omega) (by omega)
                              refine lv_aload_n hx hb dX10_copy_157 rfl (lv_at hl 1 rfl) ?_
                              refine m_get (v := .ref (a 34)) hx hb hts hin hown hK hP 34 (by decide) rfl (hts (.fieldLink RX10 76 "ShadowBenchModel" "between" "[J") (by decide +kernel)) rfl dX10_copy_158 ?_
                              refine lv_iload hx hb dX10_copy_161 (lv_at hl 0 rfl) ?_
                              refine m_lald (w := b1) hx hb hK hP 22 rfl (vp_in_iff.mpr ⟨by omega, by omega⟩) dX10_copy_163 ?_
                              refine lv_topl (fun v163 e163 => ?_)
                              refine m_last (w := s1) hx hb hK hP hD hS 21 rfl (vp_in_iff.mpr ⟨by omega, by omega⟩) (va_up (va_up (va_up q 34 b1) 33 s1) 33 (vp_updL s1 v156.toNatClampNeg v163)) (ms_33 cy mo a _ _ _ _ _) dX10_copy_164 (fun H locs hP hS => ?_)
                              have hP := wm_eq rfl rfl rfl (es_q_34_33__33 q b1 s1 (vp_updL s1 v156.toNatClampNeg v163)) hP
                              refine lv_iinc (v := (nI (i2 + 1))) (lv' := [(6, .int (nI (i2 + 1))), (0, .ref mo), (1, .int d), (2, .int i0), (3, .int e0), (4, .int j0), (5, .int n1)]) hx hb dX10_copy_165 hl (k := 0) rfl (nI_1 _) (by decide) rfl (fun ls hl => ?_)
                              refine lv_goto (tgt := 136) hx hb dX10_copy_168 (by decide) ?_
                              exact ih_136 (i2 + 1) (vp_updL s1 v156.toNatClampNeg v163) (by omega) (by omega) _ _ hP hS ls (lv_sub hl [0, 1, 2, 3, 4, 5, 6] rfl)
                        have hP := wm_eq rfl rfl rfl (ec_q_34__34_33 q b1) hP
                        exact loop_136 (60 + 1) 0 (q 33) (by omega) (by omega) _ _ hP hS ls (lv_sub hl [0, 1, 2, 3, 4, 5, 6] rfl)
                      · skip
                        have d103 := c103
                        rw [fa_le] at d103
                        refine lv_aload_n hx hb dX10_copy_106 rfl (lv_at hl 1 rfl) ?_
                        refine m_get (v := .ref (a 34)) hx hb hts hin hown hK hP 34 (by decide) rfl (hts (.fieldLink RX10 76 "ShadowBenchModel" "between" "[J") (by decide +kernel)) rfl dX10_copy_107 ?_
                        refine lv_iload hx hb dX10_copy_110 (lv_at hl 0 rfl) ?_
                        refine lv_aload_n hx hb dX10_copy_112 rfl (lv_at hl 1 rfl) ?_
                        refine m_get (v := .ref (a 33)) hx hb hts hin hown hK hP 33 (by decide) rfl (hts (.fieldLink RX10 73 "ShadowBenchModel" "shelfRow" "[J") (by decide +kernel)) rfl dX10_copy_113 ?_
                        refine lv_bipush (v := 60) hx hb dX10_copy_116 (by decide) ?_
                        refine lv_iload_n hx hb dX10_copy_118 rfl (lv_at hl 2 rfl) ?_
                        refine lv_imul hx hb dX10_copy_119 ?_
                        refine lv_topi (fun v119 e119 => ?_)
                        have i119 : v119.toInt = 60 * d.toInt := by rw [e119]; exact mulcL rfl (by omega) (by omega)
                        refine lv_iload_n hx hb dX10_copy_120 rfl (lv_at hl 3 rfl) ?_
                        refine lv_iadd hx hb dX10_copy_121 ?_
                        refine lv_topi (fun v121 e121 => ?_)
                        have i121 : v121.toInt = v119.toInt + i0.toInt := by rw [e121]; exact fb_addI (by omega) (by omega)
                        refine lv_iload hx hb dX10_copy_122 (lv_at hl 0 rfl) ?_
                        refine lv_iadd hx hb dX10_copy_124 ?_
                        refine lv_topi (fun v124 e124 => ?_)
                        have i124 : v124.toInt = v121.toInt + (nI i).toInt := by rw [e124]; exact fb_addI (by omega) (by omega)
                        refine m_lald (w := (q 33)) hx hb hK hP 21 rfl (vp_in_iff.mpr ⟨by omega, by omega⟩) dX10_copy_125 ?_
                        refine lv_topl (fun v125 e125 => ?_)
                        refine m_last (w := b1) hx hb hK hP hD hS 22 rfl (vp_in_iff.mpr ⟨by omega, by omega⟩) (va_up (va_up q 34 b1) 34 (vp_updL b1 (nI i).toNatClampNeg v125)) (ms_34 cy mo a _ _ _ _ _) dX10_copy_126 (fun H locs hP hS => ?_)
                        have hP := wm_eq rfl rfl rfl (es_q_34__34 q b1 (vp_updL b1 (nI i).toNatClampNeg v125)) hP
                        refine lv_iinc (v := (nI (i + 1))) (lv' := [(6, .int (nI (i + 1))), (0, .ref mo), (1, .int d), (2, .int i0), (3, .int e0), (4, .int j0), (5, .int n1)]) hx hb dX10_copy_127 hl (k := 0) rfl (nI_1 _) (by decide) rfl (fun ls hl => ?_)
                        refine lv_goto (tgt := 99) hx hb dX10_copy_130 (by decide) ?_
                        have hP := wm_eq rfl rfl rfl (ec_q_34__34 q ((vp_updL b1 (nI i).toNatClampNeg v125))) hP
                        exact ih_99 (i + 1) (((vp_updL b1 (nI i).toNatClampNeg v125))) (by omega) (by omega) _ _ hP hS ls (lv_sub hl [0, 1, 2, 3, 4, 5, 6] rfl)
                  have hP := wm_eq rfl rfl rfl (ec_q___34 q ) hP
                  exact loop_99 (60 + 1) 0 (q 34) (by omega) (by omega) _ _ hP hS ls (lv_sub hl [0, 1, 2, 3, 4, 5, 6] rfl)
                · skip
                  have b90 := bo_f q87 c90
                  refine lv_bipush (v := (-13)) hx hb dX10_copy_93 (by decide) ?_
                  have hP := wm_eq rfl rfl rfl (ec_q___33_34 q ) hP
                  exact W.iret (v := ((-13) : Int32)) hx hb hr (fun t ht hW => ⟨⟨_, ((upd f 0 (0 : Int32)), g, r, (va_up (va_up q 33 (q 33)) 34 (q 34))), rfl, ⟨(q 33), (q 34), rfl, trivial⟩, by unfold mB; rw [ht]; exact hP⟩, hS.F ht⟩) hS.2.2 dX10_copy_95
            · skip
              have d64 := c64
              rw [fa_eq] at d64
              refine lv_bipush (v := (-12)) hx hb dX10_copy_67 (by decide) ?_
              have hP := wm_eq rfl rfl rfl (ec_q___33_34 q ) hP
              exact W.iret (v := ((-12) : Int32)) hx hb hr (fun t ht hW => ⟨⟨_, ((upd f 0 (0 : Int32)), g, r, (va_up (va_up q 33 (q 33)) 34 (q 34))), rfl, ⟨(q 33), (q 34), rfl, trivial⟩, by unfold mB; rw [ht]; exact hP⟩, hS.F ht⟩) hS.2.2 dX10_copy_69
        · skip
          have d36 := c36
          rw [fa_eq] at d36
          refine lv_bipush (v := (-11)) hx hb dX10_copy_39 (by decide) ?_
          have hP := wm_eq rfl rfl rfl (ec_q___33_34 q ) hP
          exact W.iret (v := ((-11) : Int32)) hx hb hr (fun t ht hW => ⟨⟨_, ((upd f 0 (0 : Int32)), g, r, (va_up (va_up q 33 (q 33)) 34 (q 34))), rfl, ⟨(q 33), (q 34), rfl, trivial⟩, by unfold mB; rw [ht]; exact hP⟩, hS.F ht⟩) hS.2.2 dX10_copy_41
    · skip
      have b16 := bo_f q13 c16
      refine lv_iconst (v := (-1)) hx hb dX10_copy_19 (by decide) ?_
      have hP := wm_eq rfl rfl rfl (ec_q___33_34 q ) hP
      exact W.iret (v := ((-1) : Int32)) hx hb hr (fun t ht hW => ⟨⟨_, ((upd f 0 (0 : Int32)), g, r, (va_up (va_up q 33 (q 33)) 34 (q 34))), rfl, ⟨(q 33), (q 34), rfl, trivial⟩, by unfold mB; rw [ht]; exact hP⟩, hS.F ht⟩) hS.2.2 dX10_copy_20
set_option maxHeartbeats 4000000 in
set_option maxRecDepth 100000 in
theorem c_X10_layer (l : Launch) (D : va_G) (cy : Nat → ClassId) (mo : Nat) (a : Nat → Nat) (f : Nat → Int32) (g : Nat → Int64) (r : Nat → Nat → Int32) (q : Nat → Nat → Int64) (d : Int32) (k0 : Int32) (hD : DM cy mo a) (hI : MI f r) : Ml l D cy mo a yX10_layer wsX10_layer ({ frames := 1, cells := 0, slots := 0, locals := 25 }) f g r q [.int d, .int k0] (fun r0 u => u = ((upd f 0 (0 : Int32)), g, r, q) ∧ (True)) := by
  refine Met.ofW (cc := cX10_layer) (maxL := 8) (ret := (some .long)) (by decide) rfl ?_
  intro p e s m args below meth c s₁ B hml hv
  obtain ⟨rfl, hP, hK⟩ := hv
  have hx := B.exec
  have hb := B.bytes
  have hr := B.returns
  have hts := atoms_spec (ws := wsX10_layer) B.pre
  have hin : ∀ w ∈ u_ws RX10 TX10 35, w ∈ wsX10_layer := by decide +kernel
  have hown : s.vm.findClass RX10 = some m.cls := findClass_of_methodNamed B.named
  have hlocks := B.notSynchronized
  have hS : va_S (AM mo a) s.heap s.heap [] := va_S.rf
  have hl := lv_entry ([.ref mo, .int d, .int k0]) (n := 8) (Nat.le_of_ble_eq_true rfl)
  rw [lg_entry_eq]
  generalize (lg_sl ([.ref mo, .int d, .int k0]) ++ List.replicate (8 - (lg_sl ([.ref mo, .int d, .int k0])).length) Slot.unset).toArray = ls at hl ⊢
  have hl : lv_has ls 8 [(0, .ref mo), (1, .int d), (2, .int k0)] := hl
  have k_0 : (0 : Int32).toInt = 0 := by decide
  have k_3 : (3 : Int32).toInt = 3 := by decide
  have k_36 : (36 : Int32).toInt = 36 := by decide
  have k_60 : (60 : Int32).toInt = 60 := by decide
  have k_m13L : (-13 : Int64).toInt = -13 := by decide
  have k_m12L : (-12 : Int64).toInt = -12 := by decide
  have k_m11L : (-11 : Int64).toInt = -11 := by decide
  have k_m2L : (-2 : Int64).toInt = -2 := by decide
  have k_m1L : (-1 : Int64).toInt = -1 := by decide
  have k_0L : (0 : Int64).toInt = 0 := by decide
  have k_1L : (1 : Int64).toInt = 1 := by decide
  have k_8L : (8 : Int64).toInt = 8 := by decide
  have k_9L : (9 : Int64).toInt = 9 := by decide
  refine lv_aload_n hx hb dX10_layer_0 rfl (lv_at hl 0 rfl) ?_
  refine lv_iconst (v := 0) hx hb dX10_layer_1 (by decide) ?_
  refine m_put (v := .int (0 : Int32)) (ty := .int) hx hb hts hin hown hK hP hD hS 0 (by decide) rfl (hts (.fieldLink RX10 79 "ShadowBenchModel" "thrown" "I") (by decide +kernel)) rfl (by decide +kernel) rfl rfl (upd f 0 (0 : Int32)) g rfl dX10_layer_2 (fun H locs hP hS => ?_)
  refine lv_iload_n hx hb dX10_layer_5 rfl (lv_at hl 1 rfl) ?_
  refine m_pu (As := [.int d]) (rest := []) ⟨hx, hb, hml, hown, hts⟩ (c_X10_isShelf l d ) (va_cwS 1 hts gX10_layer_X10_isShelf rfl rfl rfl (by decide +kernel) ⟨Nat.le_of_ble_eq_true rfl, Nat.le_of_ble_eq_true rfl⟩) hP rfl hl.1 rfl (Nat.le_of_ble_eq_true rfl) dX10_layer_6 ⟨Nat.le_of_ble_eq_true rfl, Nat.le_of_ble_eq_true rfl⟩ hS (fun r6 H locs q6 hP hS => ?_)
  refine lv_if_eq (tgt := 24) hx hb dX10_layer_9 (by decide) (fun c9 => ?_) (fun c9 => ?_)
  · skip
    have b9 := bo_f q6 c9
    refine lv_ldc2 hx hb hown (hts (.constantLong RX10 185 (-1)) (by decide +kernel)) dX10_layer_24 ?_
    exact W.lret (v := (-1 : Int64)) hx hb hr (fun t ht hW => ⟨⟨_, ((upd f 0 (0 : Int32)), g, r, q), rfl, ⟨rfl, trivial⟩, by unfold mB; rw [ht]; exact hP⟩, hS.F ht⟩) hS.2.2 dX10_layer_27
  · skip
    have b9 := bo_t q6 c9
    refine lv_iload_n hx hb dX10_layer_12 rfl (lv_at hl 2 rfl) ?_
    refine lv_i2l (v := k0.toInt64) hx hb dX10_layer_13 rfl ?_
    refine lv_lconst (v := 0) hx hb dX10_layer_14 (by decide) ?_
    refine lv_ldc2 hx hb hown (hts (.constantLong RX10 250 (8)) (by decide +kernel)) dX10_layer_15 ?_
    refine m_pu (As := [.long (k0.toInt64), .long (0 : Int64), .long (8 : Int64)]) (rest := []) ⟨hx, hb, hml, hown, hts⟩ (c_X10_isIn l k0.toInt64 (0 : Int64) (8 : Int64) ) (va_cwS 3 hts gX10_layer_X10_isIn rfl rfl rfl (by decide +kernel) ⟨Nat.le_of_ble_eq_true rfl, Nat.le_of_ble_eq_true rfl⟩) hP rfl hl.1 rfl (Nat.le_of_ble_eq_true rfl) dX10_layer_18 ⟨Nat.le_of_ble_eq_true rfl, Nat.le_of_ble_eq_true rfl⟩ hS (fun r18 H locs q18 hP hS => ?_)
    have q18 := q18
    simp only [k64, show (0 : Int64).toInt = 0 from rfl, show (1 : Int64).toInt = 1 from rfl, show (2 : Int64).toInt = 2 from rfl, show (3 : Int64).toInt = 3 from rfl, show (6 : Int64).toInt = 6 from rfl] at q18
    refine lv_if_ne (tgt := 28) hx hb dX10_layer_21 (by decide) (fun c21 => ?_) (fun c21 => ?_)
    · skip
      have b21 := bo_t q18 c21
      refine lv_aload_n hx hb dX10_layer_28 rfl (lv_at hl 0 rfl) ?_
      refine m_get (v := .ref (a 29)) hx hb hts hin hown hK hP 29 (by decide) rfl (hts (.fieldLink RX10 61 "ShadowBenchModel" "shelf" "[I") (by decide +kernel)) rfl dX10_layer_29 ?_
      refine lv_iload_n hx hb dX10_layer_32 rfl (lv_at hl 1 rfl) ?_
      refine m_iald (w := (r 29)) hx hb hK hP 17 rfl (vp_in_iff.mpr ⟨by omega, by omega⟩) dX10_layer_33 ?_
      refine lv_topi (fun v33 e33 => ?_)
      have i33 : v33.toInt = ((r 29) d.toNatClampNeg).toInt := congrArg Int32.toInt e33
      refine lv_iconst (v := 3) hx hb dX10_layer_34 (by decide) ?_
      refine lv_icmp_eq (tgt := 57) hx hb dX10_layer_35 (by decide) (fun c35 => ?_) (fun c35 => ?_)
      · skip
        have d35 := c35
        rw [fa_eq] at d35
        refine lv_aload_n hx hb dX10_layer_57 rfl (lv_at hl 0 rfl) ?_
        refine m_get (v := .ref (a 30)) hx hb hts hin hown hK hP 30 (by decide) rfl (hts (.fieldLink RX10 64 "ShadowBenchModel" "shelfSize" "[I") (by decide +kernel)) rfl dX10_layer_58 ?_
        refine lv_iload_n hx hb dX10_layer_61 rfl (lv_at hl 1 rfl) ?_
        refine m_iald (w := (r 30)) hx hb hK hP 18 rfl (vp_in_iff.mpr ⟨by omega, by omega⟩) dX10_layer_62 ?_
        refine lv_topi (fun v62 e62 => ?_)
        have i62 : v62.toInt = ((r 30) d.toNatClampNeg).toInt := congrArg Int32.toInt e62
        have z62 := mi_s hI (x := d) (by omega) (by omega) e62
        refine lv_bipush (v := 36) hx hb dX10_layer_63 (by decide) ?_
        refine lv_icmp_le (tgt := 72) hx hb dX10_layer_65 (by decide) (fun c65 => ?_) (fun c65 => ?_)
        · skip
          have d65 := c65
          rw [fa_le] at d65
          refine lv_lconst (v := 0) hx hb dX10_layer_72 (by decide) ?_
          refine lv_lstore_n (lv' := [(3, .long (0 : Int64)), (0, .ref mo), (1, .int d), (2, .int k0)]) hx hb dX10_layer_73 rfl hl (by decide) rfl (fun ls hl => ?_)
          refine lv_iconst (v := 0) hx hb dX10_layer_74 (by decide) ?_
          refine lv_istore (lv' := [(5, .int (0 : Int32)), (3, .long (0 : Int64)), (0, .ref mo), (1, .int d), (2, .int k0)]) hx hb dX10_layer_75 hl (by decide) rfl (fun ls hl => ?_)
          have loop_77 : ∀ (n : Nat) (i : Nat) (x3 : Int64), (i ≤ 60) → 60 - i < n → ∀ (H : Heap) (locs : List Loc), va_P D vwCl (WM cy mo a (upd f 0 (0 : Int32)) g r q) H → va_S (AM mo a) s.heap H locs → ∀ (ls : Array Slot), lv_has ls 8 [(5, .int (nI i)), (3, .long x3), (0, .ref mo), (1, .int d), (2, .int k0)] → W p l e (headSpec wsX10_layer ({ frames := 1, cells := 0, slots := 0, locals := 25 })).room s m #[Value.ref mo, Value.int d, Value.int k0] below meth c H locs 0 0 (MQ below (va_Ql (fun r0 u => u = ((upd f 0 (0 : Int32)), g, r, q) ∧ (True)) (mB D cy mo a) (AM mo a)) #[Value.ref mo, Value.int d, Value.int k0] s 0 0 (AM mo a)) (F0 m 77 ls []) := by
            intro n
            induction n with
            | zero => intro i x3  j77_0 hn; exact absurd hn (Nat.not_lt_zero _)
            | succ n ih_77 =>
              intro i x3  j77_0 hn_77 H locs hP hS ls hl
              have ii : (nI i).toInt = (i : Int) := nI_toInt (by omega)
              refine lv_iload hx hb dX10_layer_77 (lv_at hl 0 rfl) ?_
              refine lv_aload_n hx hb dX10_layer_79 rfl (lv_at hl 2 rfl) ?_
              refine m_get (v := .ref (a 30)) hx hb hts hin hown hK hP 30 (by decide) rfl (hts (.fieldLink RX10 64 "ShadowBenchModel" "shelfSize" "[I") (by decide +kernel)) rfl dX10_layer_80 ?_
              refine lv_iload_n hx hb dX10_layer_83 rfl (lv_at hl 3 rfl) ?_
              refine m_iald (w := (r 30)) hx hb hK hP 18 rfl (vp_in_iff.mpr ⟨by omega, by omega⟩) dX10_layer_84 ?_
              refine lv_topi (fun v84 e84 => ?_)
              have i84 : v84.toInt = ((r 30) d.toNatClampNeg).toInt := congrArg Int32.toInt e84
              have z84 := mi_s hI (x := d) (by omega) (by omega) e84
              refine lv_icmp_ge (tgt := 143) hx hb dX10_layer_85 (by decide) (fun c85 => ?_) (fun c85 => ?_)
              · skip
                have d85 := c85
                rw [fa_le] at d85
                refine lv_lload_n hx hb dX10_layer_143 rfl (lv_at hl 1 rfl) ?_
                exact W.lret (v := x3) hx hb hr (fun t ht hW => ⟨⟨_, ((upd f 0 (0 : Int32)), g, r, q), rfl, ⟨rfl, trivial⟩, by unfold mB; rw [ht]; exact hP⟩, hS.F ht⟩) hS.2.2 dX10_layer_144
              · skip
                have d85 := c85
                rw [fa_le] at d85
                refine lv_aload_n hx hb dX10_layer_88 rfl (lv_at hl 2 rfl) ?_
                refine m_get (v := .ref (a 33)) hx hb hts hin hown hK hP 33 (by decide) rfl (hts (.fieldLink RX10 73 "ShadowBenchModel" "shelfRow" "[J") (by decide +kernel)) rfl dX10_layer_89 ?_
                refine lv_bipush (v := 60) hx hb dX10_layer_92 (by decide) ?_
                refine lv_iload_n hx hb dX10_layer_94 rfl (lv_at hl 3 rfl) ?_
                refine lv_imul hx hb dX10_layer_95 ?_
                refine lv_topi (fun v95 e95 => ?_)
                have i95 : v95.toInt = 60 * d.toInt := by rw [e95]; exact mulcL rfl (by omega) (by omega)
                refine lv_iload hx hb dX10_layer_96 (lv_at hl 0 rfl) ?_
                refine lv_iadd hx hb dX10_layer_98 ?_
                refine lv_topi (fun v98 e98 => ?_)
                have i98 : v98.toInt = v95.toInt + (nI i).toInt := by rw [e98]; exact fb_addI (by omega) (by omega)
                refine m_lald (w := (q 33)) hx hb hK hP 21 rfl (vp_in_iff.mpr ⟨by omega, by omega⟩) dX10_layer_99 ?_
                refine lv_topl (fun v99 e99 => ?_)
                refine lv_lstore (lv' := [(6, .long v99), (5, .int (nI i)), (3, .long x3), (0, .ref mo), (1, .int d), (2, .int k0)]) hx hb dX10_layer_100 hl (by decide) rfl (fun ls hl => ?_)
                refine lv_lload hx hb dX10_layer_102 (lv_at hl 0 rfl) ?_
                refine lv_lconst (v := 0) hx hb dX10_layer_104 (by decide) ?_
                refine lv_ldc2 hx hb hown (hts (.constantLong RX10 276 (9)) (by decide +kernel)) dX10_layer_105 ?_
                refine m_pu (As := [.long v99, .long (0 : Int64), .long (9 : Int64)]) (rest := []) ⟨hx, hb, hml, hown, hts⟩ (c_X10_isIn l v99 (0 : Int64) (9 : Int64) ) (va_cwS 3 hts gX10_layer_X10_isIn rfl rfl rfl (by decide +kernel) ⟨Nat.le_of_ble_eq_true rfl, Nat.le_of_ble_eq_true rfl⟩) hP rfl hl.1 rfl (Nat.le_of_ble_eq_true rfl) dX10_layer_108 ⟨Nat.le_of_ble_eq_true rfl, Nat.le_of_ble_eq_true rfl⟩ hS (fun r108 H locs q108 hP hS => ?_)
                have q108 := q108
                simp only [k64, show (0 : Int64).toInt = 0 from rfl, show (1 : Int64).toInt = 1 from rfl, show (2 : Int64).toInt = 2 from rfl, show (3 : Int64).toInt = 3 from rfl, show (6 : Int64).toInt = 6 from rfl] at q108
                refine lv_if_ne (tgt := 118) hx hb dX10_layer_111 (by decide) (fun c111 => ?_) (fun c111 => ?_)
                · skip
                  have b111 := bo_t q108 c111
                  refine lv_lload_n hx hb dX10_layer_118 rfl (lv_at hl 2 rfl) ?_
                  refine lv_lload hx hb dX10_layer_119 (lv_at hl 0 rfl) ?_
                  refine lv_iload_n hx hb dX10_layer_121 rfl (lv_at hl 5 rfl) ?_
                  refine lv_i2l (v := k0.toInt64) hx hb dX10_layer_122 rfl ?_
                  refine W.lcmp hx hb dX10_layer_123 ?_
                  refine lv_if_le (tgt := 134) hx hb dX10_layer_124 (by decide) (fun c124 => ?_) (fun c124 => ?_)
                  · skip
                    have d124 := c124
                    rw [lg_cmp_le, fa_le64] at d124
                    refine lv_lconst (v := 0) hx hb dX10_layer_134 (by decide) ?_
                    refine lv_lor hx hb dX10_layer_135 ?_
                    refine lv_topl (fun v135 e135 => ?_)
                    refine lv_lstore_n (lv' := [(3, .long v135), (6, .long v99), (5, .int (nI i)), (0, .ref mo), (1, .int d), (2, .int k0)]) hx hb dX10_layer_136 rfl hl (by decide) rfl (fun ls hl => ?_)
                    refine lv_iinc (v := (nI (i + 1))) (lv' := [(5, .int (nI (i + 1))), (3, .long v135), (6, .long v99), (0, .ref mo), (1, .int d), (2, .int k0)]) hx hb dX10_layer_137 hl (k := 2) rfl (nI_1 _) (by decide) rfl (fun ls hl => ?_)
                    refine lv_goto (tgt := 77) hx hb dX10_layer_140 (by decide) ?_
                    exact ih_77 (i + 1) v135 (by omega) (by omega) _ _ hP hS ls (lv_sub hl [0, 1, 3, 4, 5] rfl)
                  · skip
                    have d124 := c124
                    rw [lg_cmp_le, fa_le64] at d124
                    refine lv_lconst (v := 1) hx hb dX10_layer_127 (by decide) ?_
                    refine lv_iload hx hb dX10_layer_128 (lv_at hl 1 rfl) ?_
                    refine lv_lshl (v := (1 : Int64) <<< ((nI i).toInt64 &&& 63)) hx hb dX10_layer_130 rfl ?_
                    refine lv_goto (tgt := 135) hx hb dX10_layer_131 (by decide) ?_
                    refine lv_lor hx hb dX10_layer_135 ?_
                    refine lv_topl (fun v135 e135 => ?_)
                    refine lv_lstore_n (lv' := [(3, .long v135), (6, .long v99), (5, .int (nI i)), (0, .ref mo), (1, .int d), (2, .int k0)]) hx hb dX10_layer_136 rfl hl (by decide) rfl (fun ls hl => ?_)
                    refine lv_iinc (v := (nI (i + 1))) (lv' := [(5, .int (nI (i + 1))), (3, .long v135), (6, .long v99), (0, .ref mo), (1, .int d), (2, .int k0)]) hx hb dX10_layer_137 hl (k := 2) rfl (nI_1 _) (by decide) rfl (fun ls hl => ?_)
                    refine lv_goto (tgt := 77) hx hb dX10_layer_140 (by decide) ?_
                    exact ih_77 (i + 1) v135 (by omega) (by omega) _ _ hP hS ls (lv_sub hl [0, 1, 3, 4, 5] rfl)
                · skip
                  have b111 := bo_f q108 c111
                  refine lv_ldc2 hx hb hown (hts (.constantLong RX10 189 (-2)) (by decide +kernel)) dX10_layer_114 ?_
                  exact W.lret (v := (-2 : Int64)) hx hb hr (fun t ht hW => ⟨⟨_, ((upd f 0 (0 : Int32)), g, r, q), rfl, ⟨rfl, trivial⟩, by unfold mB; rw [ht]; exact hP⟩, hS.F ht⟩) hS.2.2 dX10_layer_117
          exact loop_77 (60 + 1) 0 (0 : Int64) (by omega) (by omega) _ _ hP hS ls (lv_sub hl [0, 1, 2, 3, 4] rfl)
        · skip
          have d65 := c65
          rw [fa_le] at d65
          refine lv_ldc2 hx hb hown (hts (.constantLong RX10 274 (-13)) (by decide +kernel)) dX10_layer_68 ?_
          exact W.lret (v := (-13 : Int64)) hx hb hr (fun t ht hW => ⟨⟨_, ((upd f 0 (0 : Int32)), g, r, q), rfl, ⟨rfl, trivial⟩, by unfold mB; rw [ht]; exact hP⟩, hS.F ht⟩) hS.2.2 dX10_layer_71
      · skip
        have d35 := c35
        rw [fa_eq] at d35
        refine lv_aload_n hx hb dX10_layer_38 rfl (lv_at hl 0 rfl) ?_
        refine m_get (v := .ref (a 29)) hx hb hts hin hown hK hP 29 (by decide) rfl (hts (.fieldLink RX10 61 "ShadowBenchModel" "shelf" "[I") (by decide +kernel)) rfl dX10_layer_39 ?_
        refine lv_iload_n hx hb dX10_layer_42 rfl (lv_at hl 1 rfl) ?_
        refine m_iald (w := (r 29)) hx hb hK hP 17 rfl (vp_in_iff.mpr ⟨by omega, by omega⟩) dX10_layer_43 ?_
        refine lv_topi (fun v43 e43 => ?_)
        have i43 : v43.toInt = ((r 29) d.toNatClampNeg).toInt := congrArg Int32.toInt e43
        refine lv_if_ne (tgt := 53) hx hb dX10_layer_44 (by decide) (fun c44 => ?_) (fun c44 => ?_)
        · skip
          have d44 := c44
          rw [fa_eq] at d44
          refine lv_ldc2 hx hb hown (hts (.constantLong RX10 272 (-12)) (by decide +kernel)) dX10_layer_53 ?_
          exact W.lret (v := (-12 : Int64)) hx hb hr (fun t ht hW => ⟨⟨_, ((upd f 0 (0 : Int32)), g, r, q), rfl, ⟨rfl, trivial⟩, by unfold mB; rw [ht]; exact hP⟩, hS.F ht⟩) hS.2.2 dX10_layer_56
        · skip
          have d44 := c44
          rw [fa_eq] at d44
          refine lv_ldc2 hx hb hown (hts (.constantLong RX10 270 (-11)) (by decide +kernel)) dX10_layer_47 ?_
          refine lv_goto (tgt := 56) hx hb dX10_layer_50 (by decide) ?_
          exact W.lret (v := (-11 : Int64)) hx hb hr (fun t ht hW => ⟨⟨_, ((upd f 0 (0 : Int32)), g, r, q), rfl, ⟨rfl, trivial⟩, by unfold mB; rw [ht]; exact hP⟩, hS.F ht⟩) hS.2.2 dX10_layer_56
    · skip
      have b21 := bo_f q18 c21
      refine lv_ldc2 hx hb hown (hts (.constantLong RX10 185 (-1)) (by decide +kernel)) dX10_layer_24 ?_
      exact W.lret (v := (-1 : Int64)) hx hb hr (fun t ht hW => ⟨⟨_, ((upd f 0 (0 : Int32)), g, r, q), rfl, ⟨rfl, trivial⟩, by unfold mB; rw [ht]; exact hP⟩, hS.F ht⟩) hS.2.2 dX10_layer_27
set_option maxHeartbeats 4000000 in
set_option maxRecDepth 100000 in
theorem c_X10_weight (l : Launch) (D : va_G) (cy : Nat → ClassId) (mo : Nat) (a : Nat → Nat) (f : Nat → Int32) (g : Nat → Int64) (r : Nat → Nat → Int32) (q : Nat → Nat → Int64) (d : Int32) (hD : DM cy mo a)  : Mi l D cy mo a yX10_weight wsX10_weight ({ frames := 1, cells := 0, slots := 0, locals := 20 }) f g r q [.int d] (fun r0 u => ∃ (th : Int32), u = ((upd f 0 th), g, r, q) ∧ (True)) := by
  refine Met.ofW (cc := cX10_weight) (maxL := 2) (ret := (some .int)) (by decide) rfl ?_
  intro p e s m args below meth c s₁ B hml hv
  obtain ⟨rfl, hP, hK⟩ := hv
  have hx := B.exec
  have hb := B.bytes
  have hr := B.returns
  have hts := atoms_spec (ws := wsX10_weight) B.pre
  have hin : ∀ w ∈ u_ws RX10 TX10 35, w ∈ wsX10_weight := by decide +kernel
  have hown : s.vm.findClass RX10 = some m.cls := findClass_of_methodNamed B.named
  have hlocks := B.notSynchronized
  have hS : va_S (AM mo a) s.heap s.heap [] := va_S.rf
  have hl := lv_entry ([.ref mo, .int d]) (n := 2) (Nat.le_of_ble_eq_true rfl)
  rw [lg_entry_eq]
  generalize (lg_sl ([.ref mo, .int d]) ++ List.replicate (2 - (lg_sl ([.ref mo, .int d])).length) Slot.unset).toArray = ls at hl ⊢
  have hl : lv_has ls 2 [(0, .ref mo), (1, .int d)] := hl
  have k_0 : (0 : Int32).toInt = 0 := by decide
  have k_1 : (1 : Int32).toInt = 1 := by decide
  have k_2 : (2 : Int32).toInt = 2 := by decide
  refine lv_aload_n hx hb dX10_weight_0 rfl (lv_at hl 0 rfl) ?_
  refine lv_iload_n hx hb dX10_weight_1 rfl (lv_at hl 1 rfl) ?_
  refine m_pu (As := [.int d]) (rest := [.ref mo]) ⟨hx, hb, hml, hown, hts⟩ (c_X10_isShelf l d ) (va_cwS 1 hts gX10_weight_X10_isShelf rfl rfl rfl (by decide +kernel) ⟨Nat.le_of_ble_eq_true rfl, Nat.le_of_ble_eq_true rfl⟩) hP rfl hl.1 rfl (Nat.le_of_ble_eq_true rfl) dX10_weight_2 ⟨Nat.le_of_ble_eq_true rfl, Nat.le_of_ble_eq_true rfl⟩ hS (fun r2 H locs q2 hP hS => ?_)
  refine lv_if_ne (tgt := 12) hx hb dX10_weight_5 (by decide) (fun c5 => ?_) (fun c5 => ?_)
  · skip
    have b5 := bo_t q2 c5
    refine lv_aload_n hx hb dX10_weight_12 rfl (lv_at hl 0 rfl) ?_
    refine m_get (v := .ref (a 29)) hx hb hts hin hown hK hP 29 (by decide) rfl (hts (.fieldLink RX10 61 "ShadowBenchModel" "shelf" "[I") (by decide +kernel)) rfl dX10_weight_13 ?_
    refine lv_iload_n hx hb dX10_weight_16 rfl (lv_at hl 1 rfl) ?_
    refine m_iald (w := (r 29)) hx hb hK hP 17 rfl (vp_in_iff.mpr ⟨by omega, by omega⟩) dX10_weight_17 ?_
    refine lv_topi (fun v17 e17 => ?_)
    have i17 : v17.toInt = ((r 29) d.toNatClampNeg).toInt := congrArg Int32.toInt e17
    refine lv_iconst (v := 1) hx hb dX10_weight_18 (by decide) ?_
    refine lv_icmp_eq (tgt := 26) hx hb dX10_weight_19 (by decide) (fun c19 => ?_) (fun c19 => ?_)
    · skip
      have d19 := c19
      rw [fa_eq] at d19
      refine lv_iconst (v := 0) hx hb dX10_weight_26 (by decide) ?_
      refine m_put (v := .int (0 : Int32)) (ty := .int) hx hb hts hin hown hK hP hD hS 0 (by decide) rfl (hts (.fieldLink RX10 79 "ShadowBenchModel" "thrown" "I") (by decide +kernel)) rfl (by decide +kernel) rfl rfl (upd f 0 (0 : Int32)) g rfl dX10_weight_27 (fun H locs hP hS => ?_)
      refine lv_aload_n hx hb dX10_weight_30 rfl (lv_at hl 0 rfl) ?_
      refine m_get (v := .int (0 : Int32)) hx hb hts hin hown hK hP 0 (by decide) rfl (hts (.fieldLink RX10 79 "ShadowBenchModel" "thrown" "I") (by decide +kernel)) rfl dX10_weight_31 ?_
      refine lv_if_le (tgt := 41) hx hb dX10_weight_34 (by decide) (fun c34 => ?_) (fun c34 => ?_)
      · skip
        have d34 := c34
        rw [fa_le] at d34
        refine lv_aload_n hx hb dX10_weight_41 rfl (lv_at hl 0 rfl) ?_
        refine m_get (v := .ref (a 31)) hx hb hts hin hown hK hP 31 (by decide) rfl (hts (.fieldLink RX10 67 "ShadowBenchModel" "shelfWeight" "[I") (by decide +kernel)) rfl dX10_weight_42 ?_
        refine lv_iload_n hx hb dX10_weight_45 rfl (lv_at hl 1 rfl) ?_
        refine m_iald (w := (r 31)) hx hb hK hP 19 rfl (vp_in_iff.mpr ⟨by omega, by omega⟩) dX10_weight_46 ?_
        refine lv_topi (fun v46 e46 => ?_)
        have i46 : v46.toInt = ((r 31) d.toNatClampNeg).toInt := congrArg Int32.toInt e46
        exact W.iret (v := v46) hx hb hr (fun t ht hW => ⟨⟨_, ((upd f 0 (0 : Int32)), g, r, q), rfl, ⟨(0 : Int32), rfl, trivial⟩, by unfold mB; rw [ht]; exact hP⟩, hS.F ht⟩) hS.2.2 dX10_weight_47
      · first | exact absurd c34 (by decide) | exact absurd (by decide) c34
    · skip
      have d19 := c19
      rw [fa_eq] at d19
      refine lv_iconst (v := 2) hx hb dX10_weight_22 (by decide) ?_
      refine lv_goto (tgt := 27) hx hb dX10_weight_23 (by decide) ?_
      refine m_put (v := .int (2 : Int32)) (ty := .int) hx hb hts hin hown hK hP hD hS 0 (by decide) rfl (hts (.fieldLink RX10 79 "ShadowBenchModel" "thrown" "I") (by decide +kernel)) rfl (by decide +kernel) rfl rfl (upd f 0 (2 : Int32)) g rfl dX10_weight_27 (fun H locs hP hS => ?_)
      refine lv_aload_n hx hb dX10_weight_30 rfl (lv_at hl 0 rfl) ?_
      refine m_get (v := .int (2 : Int32)) hx hb hts hin hown hK hP 0 (by decide) rfl (hts (.fieldLink RX10 79 "ShadowBenchModel" "thrown" "I") (by decide +kernel)) rfl dX10_weight_31 ?_
      refine lv_if_le (tgt := 41) hx hb dX10_weight_34 (by decide) (fun c34 => ?_) (fun c34 => ?_)
      · first | exact absurd c34 (by decide) | exact absurd (by decide) c34
      · skip
        have d34 := c34
        rw [fa_le] at d34
        refine lv_iconst (v := 0) hx hb dX10_weight_37 (by decide) ?_
        refine lv_goto (tgt := 47) hx hb dX10_weight_38 (by decide) ?_
        exact W.iret (v := (0 : Int32)) hx hb hr (fun t ht hW => ⟨⟨_, ((upd f 0 (2 : Int32)), g, r, q), rfl, ⟨(2 : Int32), rfl, trivial⟩, by unfold mB; rw [ht]; exact hP⟩, hS.F ht⟩) hS.2.2 dX10_weight_47
  · skip
    have b5 := bo_f q2 c5
    refine lv_iconst (v := 1) hx hb dX10_weight_8 (by decide) ?_
    refine lv_goto (tgt := 27) hx hb dX10_weight_9 (by decide) ?_
    refine m_put (v := .int (1 : Int32)) (ty := .int) hx hb hts hin hown hK hP hD hS 0 (by decide) rfl (hts (.fieldLink RX10 79 "ShadowBenchModel" "thrown" "I") (by decide +kernel)) rfl (by decide +kernel) rfl rfl (upd f 0 (1 : Int32)) g rfl dX10_weight_27 (fun H locs hP hS => ?_)
    refine lv_aload_n hx hb dX10_weight_30 rfl (lv_at hl 0 rfl) ?_
    refine m_get (v := .int (1 : Int32)) hx hb hts hin hown hK hP 0 (by decide) rfl (hts (.fieldLink RX10 79 "ShadowBenchModel" "thrown" "I") (by decide +kernel)) rfl dX10_weight_31 ?_
    refine lv_if_le (tgt := 41) hx hb dX10_weight_34 (by decide) (fun c34 => ?_) (fun c34 => ?_)
    · first | exact absurd c34 (by decide) | exact absurd (by decide) c34
    · skip
      have d34 := c34
      rw [fa_le] at d34
      refine lv_iconst (v := 0) hx hb dX10_weight_37 (by decide) ?_
      refine lv_goto (tgt := 47) hx hb dX10_weight_38 (by decide) ?_
      exact W.iret (v := (0 : Int32)) hx hb hr (fun t ht hW => ⟨⟨_, ((upd f 0 (1 : Int32)), g, r, q), rfl, ⟨(1 : Int32), rfl, trivial⟩, by unfold mB; rw [ht]; exact hP⟩, hS.F ht⟩) hS.2.2 dX10_weight_47
set_option maxHeartbeats 4000000 in
set_option maxRecDepth 100000 in
theorem c_X10_toss (l : Launch) (D : va_G) (cy : Nat → ClassId) (mo : Nat) (a : Nat → Nat) (f : Nat → Int32) (g : Nat → Int64) (r : Nat → Nat → Int32) (q : Nat → Nat → Int64) (d : Int32) (hD : DM cy mo a)  : Mi l D cy mo a yX10_toss wsX10_toss ({ frames := 1, cells := 0, slots := 0, locals := 20 }) f g r q [.int d] (fun r0 u => u = ((upd f 0 (0 : Int32)), g, r, q) ∧ (True)) := by
  refine Met.ofW (cc := cX10_toss) (maxL := 2) (ret := (some .int)) (by decide) rfl ?_
  intro p e s m args below meth c s₁ B hml hv
  obtain ⟨rfl, hP, hK⟩ := hv
  have hx := B.exec
  have hb := B.bytes
  have hr := B.returns
  have hts := atoms_spec (ws := wsX10_toss) B.pre
  have hin : ∀ w ∈ u_ws RX10 TX10 35, w ∈ wsX10_toss := by decide +kernel
  have hown : s.vm.findClass RX10 = some m.cls := findClass_of_methodNamed B.named
  have hlocks := B.notSynchronized
  have hS : va_S (AM mo a) s.heap s.heap [] := va_S.rf
  have hl := lv_entry ([.ref mo, .int d]) (n := 2) (Nat.le_of_ble_eq_true rfl)
  rw [lg_entry_eq]
  generalize (lg_sl ([.ref mo, .int d]) ++ List.replicate (2 - (lg_sl ([.ref mo, .int d])).length) Slot.unset).toArray = ls at hl ⊢
  have hl : lv_has ls 2 [(0, .ref mo), (1, .int d)] := hl
  have k_m12 : (-12 : Int32).toInt = -12 := by decide
  have k_m11 : (-11 : Int32).toInt = -11 := by decide
  have k_m1 : (-1 : Int32).toInt = -1 := by decide
  have k_0 : (0 : Int32).toInt = 0 := by decide
  have k_1 : (1 : Int32).toInt = 1 := by decide
  refine lv_aload_n hx hb dX10_toss_0 rfl (lv_at hl 0 rfl) ?_
  refine lv_iconst (v := 0) hx hb dX10_toss_1 (by decide) ?_
  refine m_put (v := .int (0 : Int32)) (ty := .int) hx hb hts hin hown hK hP hD hS 0 (by decide) rfl (hts (.fieldLink RX10 79 "ShadowBenchModel" "thrown" "I") (by decide +kernel)) rfl (by decide +kernel) rfl rfl (upd f 0 (0 : Int32)) g rfl dX10_toss_2 (fun H locs hP hS => ?_)
  refine lv_iload_n hx hb dX10_toss_5 rfl (lv_at hl 1 rfl) ?_
  refine m_pu (As := [.int d]) (rest := []) ⟨hx, hb, hml, hown, hts⟩ (c_X10_isShelf l d ) (va_cwS 1 hts gX10_toss_X10_isShelf rfl rfl rfl (by decide +kernel) ⟨Nat.le_of_ble_eq_true rfl, Nat.le_of_ble_eq_true rfl⟩) hP rfl hl.1 rfl (Nat.le_of_ble_eq_true rfl) dX10_toss_6 ⟨Nat.le_of_ble_eq_true rfl, Nat.le_of_ble_eq_true rfl⟩ hS (fun r6 H locs q6 hP hS => ?_)
  refine lv_if_ne (tgt := 16) hx hb dX10_toss_9 (by decide) (fun c9 => ?_) (fun c9 => ?_)
  · skip
    have b9 := bo_t q6 c9
    refine lv_aload_n hx hb dX10_toss_16 rfl (lv_at hl 0 rfl) ?_
    refine m_get (v := .ref (a 29)) hx hb hts hin hown hK hP 29 (by decide) rfl (hts (.fieldLink RX10 61 "ShadowBenchModel" "shelf" "[I") (by decide +kernel)) rfl dX10_toss_17 ?_
    refine lv_iload_n hx hb dX10_toss_20 rfl (lv_at hl 1 rfl) ?_
    refine m_iald (w := (r 29)) hx hb hK hP 17 rfl (vp_in_iff.mpr ⟨by omega, by omega⟩) dX10_toss_21 ?_
    refine lv_topi (fun v21 e21 => ?_)
    have i21 : v21.toInt = ((r 29) d.toNatClampNeg).toInt := congrArg Int32.toInt e21
    refine lv_if_ne (tgt := 30) hx hb dX10_toss_22 (by decide) (fun c22 => ?_) (fun c22 => ?_)
    · skip
      have d22 := c22
      rw [fa_eq] at d22
      refine lv_aload_n hx hb dX10_toss_30 rfl (lv_at hl 0 rfl) ?_
      refine m_get (v := .ref (a 29)) hx hb hts hin hown hK hP 29 (by decide) rfl (hts (.fieldLink RX10 61 "ShadowBenchModel" "shelf" "[I") (by decide +kernel)) rfl dX10_toss_31 ?_
      refine lv_iload_n hx hb dX10_toss_34 rfl (lv_at hl 1 rfl) ?_
      refine m_iald (w := (r 29)) hx hb hK hP 17 rfl (vp_in_iff.mpr ⟨by omega, by omega⟩) dX10_toss_35 ?_
      refine lv_topi (fun v35 e35 => ?_)
      have i35 : v35.toInt = ((r 29) d.toNatClampNeg).toInt := congrArg Int32.toInt e35
      refine lv_iconst (v := 1) hx hb dX10_toss_36 (by decide) ?_
      refine lv_icmp_le (tgt := 45) hx hb dX10_toss_37 (by decide) (fun c37 => ?_) (fun c37 => ?_)
      · skip
        have d37 := c37
        rw [fa_le] at d37
        refine lv_aload_n hx hb dX10_toss_45 rfl (lv_at hl 0 rfl) ?_
        refine m_get (v := .ref (a 32)) hx hb hts hin hown hK hP 32 (by decide) rfl (hts (.fieldLink RX10 70 "ShadowBenchModel" "shelfFailure" "[I") (by decide +kernel)) rfl dX10_toss_46 ?_
        refine lv_iload_n hx hb dX10_toss_49 rfl (lv_at hl 1 rfl) ?_
        refine m_iald (w := (r 32)) hx hb hK hP 20 rfl (vp_in_iff.mpr ⟨by omega, by omega⟩) dX10_toss_50 ?_
        refine lv_topi (fun v50 e50 => ?_)
        have i50 : v50.toInt = ((r 32) d.toNatClampNeg).toInt := congrArg Int32.toInt e50
        exact W.iret (v := v50) hx hb hr (fun t ht hW => ⟨⟨_, ((upd f 0 (0 : Int32)), g, r, q), rfl, ⟨rfl, trivial⟩, by unfold mB; rw [ht]; exact hP⟩, hS.F ht⟩) hS.2.2 dX10_toss_51
      · skip
        have d37 := c37
        rw [fa_le] at d37
        refine lv_bipush (v := (-12)) hx hb dX10_toss_40 (by decide) ?_
        refine lv_goto (tgt := 51) hx hb dX10_toss_42 (by decide) ?_
        exact W.iret (v := ((-12) : Int32)) hx hb hr (fun t ht hW => ⟨⟨_, ((upd f 0 (0 : Int32)), g, r, q), rfl, ⟨rfl, trivial⟩, by unfold mB; rw [ht]; exact hP⟩, hS.F ht⟩) hS.2.2 dX10_toss_51
    · skip
      have d22 := c22
      rw [fa_eq] at d22
      refine lv_bipush (v := (-11)) hx hb dX10_toss_25 (by decide) ?_
      refine lv_goto (tgt := 51) hx hb dX10_toss_27 (by decide) ?_
      exact W.iret (v := ((-11) : Int32)) hx hb hr (fun t ht hW => ⟨⟨_, ((upd f 0 (0 : Int32)), g, r, q), rfl, ⟨rfl, trivial⟩, by unfold mB; rw [ht]; exact hP⟩, hS.F ht⟩) hS.2.2 dX10_toss_51
  · skip
    have b9 := bo_f q6 c9
    refine lv_iconst (v := (-1)) hx hb dX10_toss_12 (by decide) ?_
    refine lv_goto (tgt := 51) hx hb dX10_toss_13 (by decide) ?_
    exact W.iret (v := ((-1) : Int32)) hx hb hr (fun t ht hW => ⟨⟨_, ((upd f 0 (0 : Int32)), g, r, q), rfl, ⟨rfl, trivial⟩, by unfold mB; rw [ht]; exact hP⟩, hS.F ht⟩) hS.2.2 dX10_toss_51
set_option maxHeartbeats 4000000 in
set_option maxRecDepth 100000 in
theorem c_X10_keep (l : Launch) (D : va_G) (cy : Nat → ClassId) (mo : Nat) (a : Nat → Nat) (f : Nat → Int32) (g : Nat → Int64) (r : Nat → Nat → Int32) (q : Nat → Nat → Int64) (d : Int32) (what : Int32) (k0 : Int32) (p0 : Int64) (hD : DM cy mo a) (hI : MI f r) : Mi l D cy mo a yX10_keep wsX10_keep ({ frames := 3, cells := 0, slots := 0, locals := 69 }) f g r q [.int d, .int what, .int k0, .long p0] (fun r0 u => ∃ (sh : Nat → Int32), ∃ (sz : Nat → Int32), ∃ (sw : Nat → Int32), ∃ (sf : Nat → Int32), ∃ (sr : Nat → Int64), u = ((upd f 0 (0 : Int32)), g, (va_up (va_up (va_up (va_up r 29 sh) 30 sz) 31 sw) 32 sf), (va_up q 33 sr)) ∧ (MI (upd f 0 (0 : Int32)) (va_up (va_up (va_up (va_up r 29 sh) 30 sz) 31 sw) 32 sf))) := by
  refine Met.ofW (cc := cX10_keep) (maxL := 8) (ret := (some .int)) (by decide) rfl ?_
  intro p e s m args below meth c s₁ B hml hv
  obtain ⟨rfl, hP, hK⟩ := hv
  have hx := B.exec
  have hb := B.bytes
  have hr := B.returns
  have hts := atoms_spec (ws := wsX10_keep) B.pre
  have hin : ∀ w ∈ u_ws RX10 TX10 35, w ∈ wsX10_keep := by decide +kernel
  have hown : s.vm.findClass RX10 = some m.cls := findClass_of_methodNamed B.named
  have hlocks := B.notSynchronized
  have hS : va_S (AM mo a) s.heap s.heap [] := va_S.rf
  have hl := lv_entry ([.ref mo, .int d, .int what, .int k0, .long p0]) (n := 8) (Nat.le_of_ble_eq_true rfl)
  rw [lg_entry_eq]
  generalize (lg_sl ([.ref mo, .int d, .int what, .int k0, .long p0]) ++ List.replicate (8 - (lg_sl ([.ref mo, .int d, .int what, .int k0, .long p0])).length) Slot.unset).toArray = ls at hl ⊢
  have hl : lv_has ls 8 [(0, .ref mo), (1, .int d), (2, .int what), (3, .int k0), (4, .long p0)] := hl
  have k_m15 : (-15 : Int32).toInt = -15 := by decide
  have k_m1 : (-1 : Int32).toInt = -1 := by decide
  have k_0 : (0 : Int32).toInt = 0 := by decide
  have k_1 : (1 : Int32).toInt = 1 := by decide
  have k_3 : (3 : Int32).toInt = 3 := by decide
  have k_4 : (4 : Int32).toInt = 4 := by decide
  have k_11 : (11 : Int32).toInt = 11 := by decide
  have k_44 : (44 : Int32).toInt = 44 := by decide
  have k_60 : (60 : Int32).toInt = 60 := by decide
  have hI1 := hI.1
  refine lv_aload_n hx hb dX10_keep_0 rfl (lv_at hl 0 rfl) ?_
  refine lv_iconst (v := 0) hx hb dX10_keep_1 (by decide) ?_
  refine m_put (v := .int (0 : Int32)) (ty := .int) hx hb hts hin hown hK hP hD hS 0 (by decide) rfl (hts (.fieldLink RX10 79 "ShadowBenchModel" "thrown" "I") (by decide +kernel)) rfl (by decide +kernel) rfl rfl (upd f 0 (0 : Int32)) g rfl dX10_keep_2 (fun H locs hP hS => ?_)
  refine lv_iload_n hx hb dX10_keep_5 rfl (lv_at hl 1 rfl) ?_
  refine m_pu (As := [.int d]) (rest := []) ⟨hx, hb, hml, hown, hts⟩ (c_X10_isShelf l d ) (va_cwS 1 hts gX10_keep_X10_isShelf rfl rfl rfl (by decide +kernel) ⟨Nat.le_of_ble_eq_true rfl, Nat.le_of_ble_eq_true rfl⟩) hP rfl hl.1 rfl (Nat.le_of_ble_eq_true rfl) dX10_keep_6 ⟨Nat.le_of_ble_eq_true rfl, Nat.le_of_ble_eq_true rfl⟩ hS (fun r6 H locs q6 hP hS => ?_)
  refine lv_if_eq (tgt := 71) hx hb dX10_keep_9 (by decide) (fun c9 => ?_) (fun c9 => ?_)
  · skip
    have b9 := bo_f q6 c9
    refine lv_iconst (v := 0) hx hb dX10_keep_71 (by decide) ?_
    refine lv_istore (lv' := [(6, .int (0 : Int32)), (0, .ref mo), (1, .int d), (2, .int what), (3, .int k0), (4, .long p0)]) hx hb dX10_keep_72 hl (by decide) rfl (fun ls hl => ?_)
    refine lv_iload hx hb dX10_keep_74 (lv_at hl 0 rfl) ?_
    refine lv_if_ne (tgt := 81) hx hb dX10_keep_76 (by decide) (fun c76 => ?_) (fun c76 => ?_)
    · first | exact absurd c76 (by decide) | exact absurd (by decide) c76
    · skip
      have d76 := c76
      rw [fa_eq] at d76
      refine lv_iconst (v := (-1)) hx hb dX10_keep_79 (by decide) ?_
      have hP := wm_eq rfl rfl (ec_r___29_30_31_32 r ) (ec_q___33 q ) hP
      exact W.iret (v := ((-1) : Int32)) hx hb hr (fun t ht hW => ⟨⟨_, ((upd f 0 (0 : Int32)), g, (va_up (va_up (va_up (va_up r 29 (r 29)) 30 (r 30)) 31 (r 31)) 32 (r 32)), (va_up q 33 (q 33))), rfl, ⟨(r 29), (r 30), (r 31), (r 32), (q 33), rfl, by first | exact hI | exact mi_sz (d := d) hI (v := v110) (by omega) rfl rfl rfl rfl rfl rfl rfl rfl | exact mi_sz (d := d) hI (v := v131) (by omega) rfl rfl rfl rfl rfl rfl rfl rfl | exact mi_sz (d := d) hI (v := 0) (by decide) rfl rfl rfl rfl rfl rfl rfl rfl⟩, by unfold mB; rw [ht]; exact hP⟩, hS.F ht⟩) hS.2.2 dX10_keep_80
  · skip
    have b9 := bo_t q6 c9
    refine lv_iload_n hx hb dX10_keep_12 rfl (lv_at hl 2 rfl) ?_
    refine lv_if_eq (tgt := 67) hx hb dX10_keep_13 (by decide) (fun c13 => ?_) (fun c13 => ?_)
    · skip
      have d13 := c13
      rw [fa_eq] at d13
      refine lv_iconst (v := 1) hx hb dX10_keep_67 (by decide) ?_
      refine lv_goto (tgt := 72) hx hb dX10_keep_68 (by decide) ?_
      refine lv_istore (lv' := [(6, .int (1 : Int32)), (0, .ref mo), (1, .int d), (2, .int what), (3, .int k0), (4, .long p0)]) hx hb dX10_keep_72 hl (by decide) rfl (fun ls hl => ?_)
      refine lv_iload hx hb dX10_keep_74 (lv_at hl 0 rfl) ?_
      refine lv_if_ne (tgt := 81) hx hb dX10_keep_76 (by decide) (fun c76 => ?_) (fun c76 => ?_)
      · skip
        have d76 := c76
        rw [fa_eq] at d76
        refine lv_aload_n hx hb dX10_keep_81 rfl (lv_at hl 1 rfl) ?_
        refine m_get (v := .ref (a 29)) hx hb hts hin hown hK hP 29 (by decide) rfl (hts (.fieldLink RX10 61 "ShadowBenchModel" "shelf" "[I") (by decide +kernel)) rfl dX10_keep_82 ?_
        refine lv_iload_n hx hb dX10_keep_85 rfl (lv_at hl 2 rfl) ?_
        refine lv_iload_n hx hb dX10_keep_86 rfl (lv_at hl 3 rfl) ?_
        refine m_iast (w := (r 29)) hx hb hK hP hD hS 17 rfl (vp_in_iff.mpr ⟨by omega, by omega⟩) (va_up r 29 (upd (r 29) d.toNatClampNeg what)) (ms_29 cy mo a _ _ _ _ _) dX10_keep_87 (fun H locs hP hS => ?_)
        refine lv_aload_n hx hb dX10_keep_88 rfl (lv_at hl 1 rfl) ?_
        refine m_get (v := .ref (a 30)) hx hb hts hin hown hK hP 30 (by decide) rfl (hts (.fieldLink RX10 64 "ShadowBenchModel" "shelfSize" "[I") (by decide +kernel)) rfl dX10_keep_89 ?_
        refine lv_iload_n hx hb dX10_keep_92 rfl (lv_at hl 2 rfl) ?_
        refine lv_iload_n hx hb dX10_keep_93 rfl (lv_at hl 3 rfl) ?_
        refine lv_iconst (v := 3) hx hb dX10_keep_94 (by decide) ?_
        refine lv_icmp_ne (tgt := 114) hx hb dX10_keep_95 (by decide) (fun c95 => ?_) (fun c95 => ?_)
        · skip
          have d95 := c95
          rw [fa_eq] at d95
          refine lv_iload_n hx hb dX10_keep_114 rfl (lv_at hl 3 rfl) ?_
          refine lv_iconst (v := 4) hx hb dX10_keep_115 (by decide) ?_
          refine lv_icmp_ne (tgt := 135) hx hb dX10_keep_116 (by decide) (fun c116 => ?_) (fun c116 => ?_)
          · skip
            have d116 := c116
            rw [fa_eq] at d116
            refine lv_iconst (v := 0) hx hb dX10_keep_135 (by decide) ?_
            refine m_iast (w := (r 30)) hx hb hK hP hD hS 18 rfl (vp_in_iff.mpr ⟨by omega, by omega⟩) (va_up (va_up r 29 ((upd (r 29) d.toNatClampNeg what))) 30 (upd (r 30) d.toNatClampNeg (0 : Int32))) (ms_30 cy mo a _ _ _ _ _) dX10_keep_136 (fun H locs hP hS => ?_)
            refine lv_iload_n hx hb dX10_keep_137 rfl (lv_at hl 3 rfl) ?_
            refine lv_iconst (v := 1) hx hb dX10_keep_138 (by decide) ?_
            refine lv_icmp_ne (tgt := 174) hx hb dX10_keep_139 (by decide) (fun c139 => ?_) (fun c139 => ?_)
            · skip
              have d139 := c139
              rw [fa_eq] at d139
              refine lv_iconst (v := 0) hx hb dX10_keep_174 (by decide) ?_
              refine lv_istore (lv' := [(7, .int (0 : Int32)), (6, .int (1 : Int32)), (0, .ref mo), (1, .int d), (2, .int what), (3, .int k0), (4, .long p0)]) hx hb dX10_keep_175 hl (by decide) rfl (fun ls hl => ?_)
              have loop_177 : ∀ (n : Nat) (i : Nat) (s3 : Nat → Int64), (i ≤ 60) → 60 - i < n → ∀ (H : Heap) (locs : List Loc), va_P D vwCl (WM cy mo a (upd f 0 (0 : Int32)) g (va_up (va_up r 29 ((upd (r 29) d.toNatClampNeg what))) 30 ((upd (r 30) d.toNatClampNeg (0 : Int32)))) (va_up q 33 s3)) H → va_S (AM mo a) s.heap H locs → ∀ (ls : Array Slot), lv_has ls 8 [(7, .int (nI i)), (6, .int (1 : Int32)), (0, .ref mo), (1, .int d), (2, .int what), (3, .int k0), (4, .long p0)] → W p l e (headSpec wsX10_keep ({ frames := 3, cells := 0, slots := 0, locals := 69 })).room s m #[Value.ref mo, Value.int d, Value.int what, Value.int k0, Value.long p0] below meth c H locs 0 0 (MQ below (va_Qi (fun r0 u => ∃ (sh : Nat → Int32), ∃ (sz : Nat → Int32), ∃ (sw : Nat → Int32), ∃ (sf : Nat → Int32), ∃ (sr : Nat → Int64), u = ((upd f 0 (0 : Int32)), g, (va_up (va_up (va_up (va_up r 29 sh) 30 sz) 31 sw) 32 sf), (va_up q 33 sr)) ∧ (MI (upd f 0 (0 : Int32)) (va_up (va_up (va_up (va_up r 29 sh) 30 sz) 31 sw) 32 sf))) (mB D cy mo a) (AM mo a)) #[Value.ref mo, Value.int d, Value.int what, Value.int k0, Value.long p0] s 0 0 (AM mo a)) (F0 m 177 ls []) := by
                intro n
                induction n with
                | zero => intro i s3 j177_0 hn; exact absurd hn (Nat.not_lt_zero _)
                | succ n ih_177 =>
                  intro i s3 j177_0 hn_177 H locs hP hS ls hl
                  have ii : (nI i).toInt = (i : Int) := nI_toInt (by omega)
                  refine lv_iload hx hb dX10_keep_177 (lv_at hl 0 rfl) ?_
                  refine lv_aload_n hx hb dX10_keep_179 rfl (lv_at hl 2 rfl) ?_
                  refine m_get (v := .ref (a 30)) hx hb hts hin hown hK hP 30 (by decide) rfl (hts (.fieldLink RX10 64 "ShadowBenchModel" "shelfSize" "[I") (by decide +kernel)) rfl dX10_keep_180 ?_
                  refine lv_iload_n hx hb dX10_keep_183 rfl (lv_at hl 3 rfl) ?_
                  refine m_iald (w := ((upd (r 30) d.toNatClampNeg (0 : Int32)))) hx hb hK hP 18 rfl (vp_in_iff.mpr ⟨by omega, by omega⟩) dX10_keep_184 ?_
                  refine lv_topi (fun v184 e184 => ?_)
                  have i184 : v184.toInt = (((upd (r 30) d.toNatClampNeg (0 : Int32))) d.toNatClampNeg).toInt := congrArg Int32.toInt e184
                  have z184 := e184
                  simp only [upd, if_true] at z184
                  have y184 := congrArg Int32.toInt z184
                  refine lv_icmp_ge (tgt := 272) hx hb dX10_keep_185 (by decide) (fun c185 => ?_) (fun c185 => ?_)
                  · skip
                    have d185 := c185
                    rw [fa_le] at d185
                    refine lv_iconst (v := 0) hx hb dX10_keep_272 (by decide) ?_
                    have hP := wm_eq rfl rfl (ec_r_29_30__29_30_31_32 r ((upd (r 29) d.toNatClampNeg what)) ((upd (r 30) d.toNatClampNeg (0 : Int32)))) rfl hP
                    exact W.iret (v := (0 : Int32)) hx hb hr (fun t ht hW => ⟨⟨_, ((upd f 0 (0 : Int32)), g, (va_up (va_up (va_up (va_up r 29 (((upd (r 29) d.toNatClampNeg what)))) 30 (((upd (r 30) d.toNatClampNeg (0 : Int32))))) 31 (r 31)) 32 (r 32)), (va_up q 33 s3)), rfl, ⟨((upd (r 29) d.toNatClampNeg what)), ((upd (r 30) d.toNatClampNeg (0 : Int32))), (r 31), (r 32), s3, rfl, by first | exact hI | exact mi_sz (d := d) hI (v := v110) (by omega) rfl rfl rfl rfl rfl rfl rfl rfl | exact mi_sz (d := d) hI (v := v131) (by omega) rfl rfl rfl rfl rfl rfl rfl rfl | exact mi_sz (d := d) hI (v := 0) (by decide) rfl rfl rfl rfl rfl rfl rfl rfl⟩, by unfold mB; rw [ht]; exact hP⟩, hS.F ht⟩) hS.2.2 dX10_keep_273
                  · skip
                    have d185 := c185
                    rw [fa_le] at d185
                    refine lv_aload_n hx hb dX10_keep_188 rfl (lv_at hl 2 rfl) ?_
                    refine m_get (v := .ref (a 33)) hx hb hts hin hown hK hP 33 (by decide) rfl (hts (.fieldLink RX10 73 "ShadowBenchModel" "shelfRow" "[J") (by decide +kernel)) rfl dX10_keep_189 ?_
                    refine lv_bipush (v := 60) hx hb dX10_keep_192 (by decide) ?_
                    refine lv_iload_n hx hb dX10_keep_194 rfl (lv_at hl 3 rfl) ?_
                    refine lv_imul hx hb dX10_keep_195 ?_
                    refine lv_topi (fun v195 e195 => ?_)
                    have i195 : v195.toInt = 60 * d.toInt := by rw [e195]; exact mulcL rfl (by omega) (by omega)
                    refine lv_iload hx hb dX10_keep_196 (lv_at hl 0 rfl) ?_
                    refine lv_iadd hx hb dX10_keep_198 ?_
                    refine lv_topi (fun v198 e198 => ?_)
                    have i198 : v198.toInt = v195.toInt + (nI i).toInt := by rw [e198]; exact fb_addI (by omega) (by omega)
                    refine lv_iload_n hx hb dX10_keep_199 rfl (lv_at hl 4 rfl) ?_
                    refine lv_iconst (v := 3) hx hb dX10_keep_200 (by decide) ?_
                    refine lv_icmp_ne (tgt := 215) hx hb dX10_keep_201 (by decide) (fun c201 => ?_) (fun c201 => ?_)
                    · skip
                      have d201 := c201
                      rw [fa_eq] at d201
                      refine lv_iload hx hb dX10_keep_215 (lv_at hl 0 rfl) ?_
                      refine lv_aload_n hx hb dX10_keep_217 rfl (lv_at hl 2 rfl) ?_
                      refine m_get (v := .ref (a 4)) hx hb hts hin hown hK hP 4 (by decide) rfl (hts (.fieldLink RX10 16 "ShadowBenchModel" "high" "[I") (by decide +kernel)) rfl dX10_keep_218 ?_
                      refine lv_iload_n hx hb dX10_keep_221 rfl (lv_at hl 5 rfl) ?_
                      refine m_iald (w := (r 4)) hx hb hK hP 3 rfl (vp_in_iff.mpr ⟨by omega, by omega⟩) dX10_keep_222 ?_
                      refine lv_topi (fun v222 e222 => ?_)
                      have i222 : v222.toInt = ((r 4) k0.toNatClampNeg).toInt := congrArg Int32.toInt e222
                      have w222 := mi_h hI (x := k0) (by omega) (by omega) e222
                      refine lv_icmp_ge (tgt := 242) hx hb dX10_keep_223 (by decide) (fun c223 => ?_) (fun c223 => ?_)
                      · skip
                        have d223 := c223
                        rw [fa_le] at d223
                        refine lv_aload_n hx hb dX10_keep_242 rfl (lv_at hl 2 rfl) ?_
                        refine m_get (v := .ref (a 5)) hx hb hts hin hown hK hP 5 (by decide) rfl (hts (.fieldLink RX10 19 "ShadowBenchModel" "sums" "[I") (by decide +kernel)) rfl dX10_keep_243 ?_
                        refine lv_bipush (v := 44) hx hb dX10_keep_246 (by decide) ?_
                        refine lv_iload_n hx hb dX10_keep_248 rfl (lv_at hl 5 rfl) ?_
                        refine lv_imul hx hb dX10_keep_249 ?_
                        refine lv_topi (fun v249 e249 => ?_)
                        have i249 : v249.toInt = 44 * k0.toInt := by rw [e249]; exact mulcL rfl (by omega) (by omega)
                        refine lv_bipush (v := 11) hx hb dX10_keep_250 (by decide) ?_
                        refine lv_iadd hx hb dX10_keep_252 ?_
                        refine lv_topi (fun v252 e252 => ?_)
                        have i252 : v252.toInt = v249.toInt + (11 : Int32).toInt := by rw [e252]; exact fb_addI (by omega) (by omega)
                        refine lv_iload hx hb dX10_keep_253 (lv_at hl 0 rfl) ?_
                        refine lv_iadd hx hb dX10_keep_255 ?_
                        refine lv_topi (fun v255 e255 => ?_)
                        have i255 : v255.toInt = v252.toInt + (nI i).toInt := by rw [e255]; exact fb_addI (by omega) (by omega)
                        refine lv_aload_n hx hb dX10_keep_256 rfl (lv_at hl 2 rfl) ?_
                        refine m_get (v := .ref (a 4)) hx hb hts hin hown hK hP 4 (by decide) rfl (hts (.fieldLink RX10 16 "ShadowBenchModel" "high" "[I") (by decide +kernel)) rfl dX10_keep_257 ?_
                        refine lv_iload_n hx hb dX10_keep_260 rfl (lv_at hl 5 rfl) ?_
                        refine m_iald (w := (r 4)) hx hb hK hP 3 rfl (vp_in_iff.mpr ⟨by omega, by omega⟩) dX10_keep_261 ?_
                        refine lv_topi (fun v261 e261 => ?_)
                        have i261 : v261.toInt = ((r 4) k0.toNatClampNeg).toInt := congrArg Int32.toInt e261
                        have w261 := mi_h hI (x := k0) (by omega) (by omega) e261
                        refine lv_isub hx hb dX10_keep_262 ?_
                        refine lv_topi (fun v262 e262 => ?_)
                        have i262 : v262.toInt = v255.toInt - v261.toInt := by rw [e262]; exact fb_subI (by omega) (by omega)
                        refine m_iald (w := (r 5)) hx hb hK hP 4 rfl (vp_in_iff.mpr ⟨by omega, by omega⟩) dX10_keep_263 ?_
                        refine lv_topi (fun v263 e263 => ?_)
                        have i263 : v263.toInt = ((r 5) v262.toNatClampNeg).toInt := congrArg Int32.toInt e263
                        refine lv_i2l (v := v263.toInt64) hx hb dX10_keep_264 rfl ?_
                        refine m_last (w := s3) hx hb hK hP hD hS 21 rfl (vp_in_iff.mpr ⟨by omega, by omega⟩) (va_up (va_up q 33 s3) 33 (vp_updL s3 v198.toNatClampNeg v263.toInt64)) (ms_33 cy mo a _ _ _ _ _) dX10_keep_265 (fun H locs hP hS => ?_)
                        have hP := wm_eq rfl rfl rfl (es_q_33__33 q s3 (vp_updL s3 v198.toNatClampNeg v263.toInt64)) hP
                        refine lv_iinc (v := (nI (i + 1))) (lv' := [(7, .int (nI (i + 1))), (6, .int (1 : Int32)), (0, .ref mo), (1, .int d), (2, .int what), (3, .int k0), (4, .long p0)]) hx hb dX10_keep_266 hl (k := 0) rfl (nI_1 _) (by decide) rfl (fun ls hl => ?_)
                        refine lv_goto (tgt := 177) hx hb dX10_keep_269 (by decide) ?_
                        have hP := wm_eq rfl rfl (ec_r_29_30__29_30 r ((upd (r 29) d.toNatClampNeg what)) ((upd (r 30) d.toNatClampNeg (0 : Int32)))) rfl hP
                        exact ih_177 (i + 1) (vp_updL s3 v198.toNatClampNeg v263.toInt64) (by omega) (by omega) _ _ hP hS ls (lv_sub hl [0, 1, 2, 3, 4, 5, 6] rfl)
                      · skip
                        have d223 := c223
                        rw [fa_le] at d223
                        refine lv_aload_n hx hb dX10_keep_226 rfl (lv_at hl 2 rfl) ?_
                        refine m_get (v := .ref (a 5)) hx hb hts hin hown hK hP 5 (by decide) rfl (hts (.fieldLink RX10 19 "ShadowBenchModel" "sums" "[I") (by decide +kernel)) rfl dX10_keep_227 ?_
                        refine lv_bipush (v := 44) hx hb dX10_keep_230 (by decide) ?_
                        refine lv_iload_n hx hb dX10_keep_232 rfl (lv_at hl 5 rfl) ?_
                        refine lv_imul hx hb dX10_keep_233 ?_
                        refine lv_topi (fun v233 e233 => ?_)
                        have i233 : v233.toInt = 44 * k0.toInt := by rw [e233]; exact mulcL rfl (by omega) (by omega)
                        refine lv_iload hx hb dX10_keep_234 (lv_at hl 0 rfl) ?_
                        refine lv_iadd hx hb dX10_keep_236 ?_
                        refine lv_topi (fun v236 e236 => ?_)
                        have i236 : v236.toInt = v233.toInt + (nI i).toInt := by rw [e236]; exact fb_addI (by omega) (by omega)
                        refine m_iald (w := (r 5)) hx hb hK hP 4 rfl (vp_in_iff.mpr ⟨by omega, by omega⟩) dX10_keep_237 ?_
                        refine lv_topi (fun v237 e237 => ?_)
                        have i237 : v237.toInt = ((r 5) v236.toNatClampNeg).toInt := congrArg Int32.toInt e237
                        refine lv_i2l (v := v237.toInt64) hx hb dX10_keep_238 rfl ?_
                        refine lv_goto (tgt := 265) hx hb dX10_keep_239 (by decide) ?_
                        refine m_last (w := s3) hx hb hK hP hD hS 21 rfl (vp_in_iff.mpr ⟨by omega, by omega⟩) (va_up (va_up q 33 s3) 33 (vp_updL s3 v198.toNatClampNeg v237.toInt64)) (ms_33 cy mo a _ _ _ _ _) dX10_keep_265 (fun H locs hP hS => ?_)
                        have hP := wm_eq rfl rfl rfl (es_q_33__33 q s3 (vp_updL s3 v198.toNatClampNeg v237.toInt64)) hP
                        refine lv_iinc (v := (nI (i + 1))) (lv' := [(7, .int (nI (i + 1))), (6, .int (1 : Int32)), (0, .ref mo), (1, .int d), (2, .int what), (3, .int k0), (4, .long p0)]) hx hb dX10_keep_266 hl (k := 0) rfl (nI_1 _) (by decide) rfl (fun ls hl => ?_)
                        refine lv_goto (tgt := 177) hx hb dX10_keep_269 (by decide) ?_
                        have hP := wm_eq rfl rfl (ec_r_29_30__29_30 r ((upd (r 29) d.toNatClampNeg what)) ((upd (r 30) d.toNatClampNeg (0 : Int32)))) rfl hP
                        exact ih_177 (i + 1) (vp_updL s3 v198.toNatClampNeg v237.toInt64) (by omega) (by omega) _ _ hP hS ls (lv_sub hl [0, 1, 2, 3, 4, 5, 6] rfl)
                    · first | exact absurd c201 c95 | exact absurd c95 c201
              have hP := wm_eq rfl rfl (ec_r_29_30__29_30 r ((upd (r 29) d.toNatClampNeg what)) ((upd (r 30) d.toNatClampNeg (0 : Int32)))) (ec_q___33 q ) hP
              exact loop_177 (60 + 1) 0 (q 33) (by omega) (by omega) _ _ hP hS ls (lv_sub hl [0, 1, 2, 3, 4, 5, 6] rfl)
            · skip
              have d139 := c139
              rw [fa_eq] at d139
              refine lv_aload_n hx hb dX10_keep_142 rfl (lv_at hl 1 rfl) ?_
              refine m_get (v := .ref (a 31)) hx hb hts hin hown hK hP 31 (by decide) rfl (hts (.fieldLink RX10 67 "ShadowBenchModel" "shelfWeight" "[I") (by decide +kernel)) rfl dX10_keep_143 ?_
              refine lv_iload_n hx hb dX10_keep_146 rfl (lv_at hl 2 rfl) ?_
              refine lv_aload_n hx hb dX10_keep_147 rfl (lv_at hl 1 rfl) ?_
              refine lv_iload_n hx hb dX10_keep_148 rfl (lv_at hl 4 rfl) ?_
              refine m_calli (As := [.int k0]) (rest := [.int d, .ref (a 31)]) ⟨hx, hb, hml, hown, hts⟩ (c_X10_weightOf l D cy mo a (upd f 0 (0 : Int32)) g (va_up (va_up r 29 ((upd (r 29) d.toNatClampNeg what))) 30 ((upd (r 30) d.toNatClampNeg (0 : Int32)))) q k0 hD (by first | exact hI | exact mi_sz (d := d) hI (v := 0) (by first | omega | decide) rfl rfl rfl rfl rfl rfl rfl rfl | exact mi_sz (d := d) hI (v := v131) (by first | omega | decide) rfl rfl rfl rfl rfl rfl rfl rfl | exact mi_sz (d := d) hI (v := v110) (by first | omega | decide) rfl rfl rfl rfl rfl rfl rfl rfl) (show 0 ≤ k0.toInt ∧ k0.toInt < (f 1).toInt by omega)) (cwV 1 hts gX10_keep_X10_weightOf rfl rfl rfl (by decide +kernel) ⟨Nat.le_of_ble_eq_true rfl, Nat.le_of_ble_eq_true rfl⟩) hK hP rfl hl.1 rfl (Nat.le_of_ble_eq_true rfl) dX10_keep_149 ⟨Nat.le_of_ble_eq_true rfl, Nat.le_of_ble_eq_true rfl⟩ hS (fun r149 u H locs q149 hP hS => ?_)
              obtain ⟨rfl, q149⟩ := q149
              have hP : va_P D vwCl (WM cy mo a (upd f 0 (0 : Int32)) g (va_up (va_up r 29 ((upd (r 29) d.toNatClampNeg what))) 30 ((upd (r 30) d.toNatClampNeg (0 : Int32)))) q) H := hP
              have q149 : True := q149
              refine m_iast (w := (r 31)) hx hb hK hP hD hS 19 rfl (vp_in_iff.mpr ⟨by omega, by omega⟩) (va_up (va_up (va_up r 29 ((upd (r 29) d.toNatClampNeg what))) 30 ((upd (r 30) d.toNatClampNeg (0 : Int32)))) 31 (upd (r 31) d.toNatClampNeg r149)) (ms_31 cy mo a _ _ _ _ _) dX10_keep_152 (fun H locs hP hS => ?_)
              refine lv_aload_n hx hb dX10_keep_153 rfl (lv_at hl 1 rfl) ?_
              refine m_get (v := .ref (a 32)) hx hb hts hin hown hK hP 32 (by decide) rfl (hts (.fieldLink RX10 70 "ShadowBenchModel" "shelfFailure" "[I") (by decide +kernel)) rfl dX10_keep_154 ?_
              refine lv_iload_n hx hb dX10_keep_157 rfl (lv_at hl 2 rfl) ?_
              refine lv_aload_n hx hb dX10_keep_158 rfl (lv_at hl 1 rfl) ?_
              refine m_get (v := .ref (a 2)) hx hb hts hin hown hK hP 2 (by decide) rfl (hts (.fieldLink RX10 7 "ShadowBenchModel" "kind" "[I") (by decide +kernel)) rfl dX10_keep_159 ?_
              refine lv_iload_n hx hb dX10_keep_162 rfl (lv_at hl 4 rfl) ?_
              refine m_iald (w := (r 2)) hx hb hK hP 1 rfl (vp_in_iff.mpr ⟨by omega, by omega⟩) dX10_keep_163 ?_
              refine lv_topi (fun v163 e163 => ?_)
              have i163 : v163.toInt = ((r 2) k0.toNatClampNeg).toInt := congrArg Int32.toInt e163
              refine lv_if_ne (tgt := 172) hx hb dX10_keep_164 (by decide) (fun c164 => ?_) (fun c164 => ?_)
              · skip
                have d164 := c164
                rw [fa_eq] at d164
                refine lv_iload_n hx hb dX10_keep_172 rfl (lv_at hl 4 rfl) ?_
                refine m_iast (w := (r 32)) hx hb hK hP hD hS 20 rfl (vp_in_iff.mpr ⟨by omega, by omega⟩) (va_up (va_up (va_up (va_up r 29 ((upd (r 29) d.toNatClampNeg what))) 30 ((upd (r 30) d.toNatClampNeg (0 : Int32)))) 31 ((upd (r 31) d.toNatClampNeg r149))) 32 (upd (r 32) d.toNatClampNeg k0)) (ms_32 cy mo a _ _ _ _ _) dX10_keep_173 (fun H locs hP hS => ?_)
                refine lv_iconst (v := 0) hx hb dX10_keep_174 (by decide) ?_
                refine lv_istore (lv' := [(7, .int (0 : Int32)), (6, .int (1 : Int32)), (0, .ref mo), (1, .int d), (2, .int what), (3, .int k0), (4, .long p0)]) hx hb dX10_keep_175 hl (by decide) rfl (fun ls hl => ?_)
                have loop_177 : ∀ (n : Nat) (i : Nat) (s3 : Nat → Int64), (i ≤ 60) → 60 - i < n → ∀ (H : Heap) (locs : List Loc), va_P D vwCl (WM cy mo a (upd f 0 (0 : Int32)) g (va_up (va_up (va_up (va_up r 29 ((upd (r 29) d.toNatClampNeg what))) 30 ((upd (r 30) d.toNatClampNeg (0 : Int32)))) 31 ((upd (r 31) d.toNatClampNeg r149))) 32 ((upd (r 32) d.toNatClampNeg k0))) (va_up q 33 s3)) H → va_S (AM mo a) s.heap H locs → ∀ (ls : Array Slot), lv_has ls 8 [(7, .int (nI i)), (6, .int (1 : Int32)), (0, .ref mo), (1, .int d), (2, .int what), (3, .int k0), (4, .long p0)] → W p l e (headSpec wsX10_keep ({ frames := 3, cells := 0, slots := 0, locals := 69 })).room s m #[Value.ref mo, Value.int d, Value.int what, Value.int k0, Value.long p0] below meth c H locs 0 0 (MQ below (va_Qi (fun r0 u => ∃ (sh : Nat → Int32), ∃ (sz : Nat → Int32), ∃ (sw : Nat → Int32), ∃ (sf : Nat → Int32), ∃ (sr : Nat → Int64), u = ((upd f 0 (0 : Int32)), g, (va_up (va_up (va_up (va_up r 29 sh) 30 sz) 31 sw) 32 sf), (va_up q 33 sr)) ∧ (MI (upd f 0 (0 : Int32)) (va_up (va_up (va_up (va_up r 29 sh) 30 sz) 31 sw) 32 sf))) (mB D cy mo a) (AM mo a)) #[Value.ref mo, Value.int d, Value.int what, Value.int k0, Value.long p0] s 0 0 (AM mo a)) (F0 m 177 ls []) := by
                  intro n
                  induction n with
                  | zero => intro i s3 j177_0 hn; exact absurd hn (Nat.not_lt_zero _)
                  | succ n ih_177 =>
                    intro i s3 j177_0 hn_177 H locs hP hS ls hl
                    have ii : (nI i).toInt = (i : Int) := nI_toInt (by omega)
                    refine lv_iload hx hb dX10_keep_177 (lv_at hl 0 rfl) ?_
                    refine lv_aload_n hx hb dX10_keep_179 rfl (lv_at hl 2 rfl) ?_
                    refine m_get (v := .ref (a 30)) hx hb hts hin hown hK hP 30 (by decide) rfl (hts (.fieldLink RX10 64 "ShadowBenchModel" "shelfSize" "[I") (by decide +kernel)) rfl dX10_keep_180 ?_
                    refine lv_iload_n hx hb dX10_keep_183 rfl (lv_at hl 3 rfl) ?_
                    refine m_iald (w := ((upd (r 30) d.toNatClampNeg (0 : Int32)))) hx hb hK hP 18 rfl (vp_in_iff.mpr ⟨by omega, by omega⟩) dX10_keep_184 ?_
                    refine lv_topi (fun v184 e184 => ?_)
                    have i184 : v184.toInt = (((upd (r 30) d.toNatClampNeg (0 : Int32))) d.toNatClampNeg).toInt := congrArg Int32.toInt e184
                    have z184 := e184
                    simp only [upd, if_true] at z184
                    have y184 := congrArg Int32.toInt z184
                    refine lv_icmp_ge (tgt := 272) hx hb dX10_keep_185 (by decide) (fun c185 => ?_) (fun c185 => ?_)
                    · skip
                      have d185 := c185
                      rw [fa_le] at d185
                      refine lv_iconst (v := 0) hx hb dX10_keep_272 (by decide) ?_
                      have hP := wm_eq rfl rfl (ec_r_29_30_31_32__29_30_31_32 r ((upd (r 29) d.toNatClampNeg what)) ((upd (r 30) d.toNatClampNeg (0 : Int32))) ((upd (r 31) d.toNatClampNeg r149)) ((upd (r 32) d.toNatClampNeg k0))) rfl hP
                      exact W.iret (v := (0 : Int32)) hx hb hr (fun t ht hW => ⟨⟨_, ((upd f 0 (0 : Int32)), g, (va_up (va_up (va_up (va_up r 29 (((upd (r 29) d.toNatClampNeg what)))) 30 (((upd (r 30) d.toNatClampNeg (0 : Int32))))) 31 (((upd (r 31) d.toNatClampNeg r149)))) 32 (((upd (r 32) d.toNatClampNeg k0)))), (va_up q 33 s3)), rfl, ⟨((upd (r 29) d.toNatClampNeg what)), ((upd (r 30) d.toNatClampNeg (0 : Int32))), ((upd (r 31) d.toNatClampNeg r149)), ((upd (r 32) d.toNatClampNeg k0)), s3, rfl, by first | exact hI | exact mi_sz (d := d) hI (v := v110) (by omega) rfl rfl rfl rfl rfl rfl rfl rfl | exact mi_sz (d := d) hI (v := v131) (by omega) rfl rfl rfl rfl rfl rfl rfl rfl | exact mi_sz (d := d) hI (v := 0) (by decide) rfl rfl rfl rfl rfl rfl rfl rfl⟩, by unfold mB; rw [ht]; exact hP⟩, hS.F ht⟩) hS.2.2 dX10_keep_273
                    · skip
                      have d185 := c185
                      rw [fa_le] at d185
                      refine lv_aload_n hx hb dX10_keep_188 rfl (lv_at hl 2 rfl) ?_
                      refine m_get (v := .ref (a 33)) hx hb hts hin hown hK hP 33 (by decide) rfl (hts (.fieldLink RX10 73 "ShadowBenchModel" "shelfRow" "[J") (by decide +kernel)) rfl dX10_keep_189 ?_
                      refine lv_bipush (v := 60) hx hb dX10_keep_192 (by decide) ?_
                      refine lv_iload_n hx hb dX10_keep_194 rfl (lv_at hl 3 rfl) ?_
                      refine lv_imul hx hb dX10_keep_195 ?_
                      refine lv_topi (fun v195 e195 => ?_)
                      have i195 : v195.toInt = 60 * d.toInt := by rw [e195]; exact mulcL rfl (by omega) (by omega)
                      refine lv_iload hx hb dX10_keep_196 (lv_at hl 0 rfl) ?_
                      refine lv_iadd hx hb dX10_keep_198 ?_
                      refine lv_topi (fun v198 e198 => ?_)
                      have i198 : v198.toInt = v195.toInt + (nI i).toInt := by rw [e198]; exact fb_addI (by omega) (by omega)
                      refine lv_iload_n hx hb dX10_keep_199 rfl (lv_at hl 4 rfl) ?_
                      refine lv_iconst (v := 3) hx hb dX10_keep_200 (by decide) ?_
                      refine lv_icmp_ne (tgt := 215) hx hb dX10_keep_201 (by decide) (fun c201 => ?_) (fun c201 => ?_)
                      · skip
                        have d201 := c201
                        rw [fa_eq] at d201
                        refine lv_iload hx hb dX10_keep_215 (lv_at hl 0 rfl) ?_
                        refine lv_aload_n hx hb dX10_keep_217 rfl (lv_at hl 2 rfl) ?_
                        refine m_get (v := .ref (a 4)) hx hb hts hin hown hK hP 4 (by decide) rfl (hts (.fieldLink RX10 16 "ShadowBenchModel" "high" "[I") (by decide +kernel)) rfl dX10_keep_218 ?_
                        refine lv_iload_n hx hb dX10_keep_221 rfl (lv_at hl 5 rfl) ?_
                        refine m_iald (w := (r 4)) hx hb hK hP 3 rfl (vp_in_iff.mpr ⟨by omega, by omega⟩) dX10_keep_222 ?_
                        refine lv_topi (fun v222 e222 => ?_)
                        have i222 : v222.toInt = ((r 4) k0.toNatClampNeg).toInt := congrArg Int32.toInt e222
                        have w222 := mi_h hI (x := k0) (by omega) (by omega) e222
                        refine lv_icmp_ge (tgt := 242) hx hb dX10_keep_223 (by decide) (fun c223 => ?_) (fun c223 => ?_)
                        · skip
                          have d223 := c223
                          rw [fa_le] at d223
                          refine lv_aload_n hx hb dX10_keep_242 rfl (lv_at hl 2 rfl) ?_
                          refine m_get (v := .ref (a 5)) hx hb hts hin hown hK hP 5 (by decide) rfl (hts (.fieldLink RX10 19 "ShadowBenchModel" "sums" "[I") (by decide +kernel)) rfl dX10_keep_243 ?_
                          refine lv_bipush (v := 44) hx hb dX10_keep_246 (by decide) ?_
                          refine lv_iload_n hx hb dX10_keep_248 rfl (lv_at hl 5 rfl) ?_
                          refine lv_imul hx hb dX10_keep_249 ?_
                          refine lv_topi (fun v249 e249 => ?_)
                          have i249 : v249.toInt = 44 * k0.toInt := by rw [e249]; exact mulcL rfl (by omega) (by omega)
                          refine lv_bipush (v := 11) hx hb dX10_keep_250 (by decide) ?_
                          refine lv_iadd hx hb dX10_keep_252 ?_
                          refine lv_topi (fun v252 e252 => ?_)
                          have i252 : v252.toInt = v249.toInt + (11 : Int32).toInt := by rw [e252]; exact fb_addI (by omega) (by omega)
                          refine lv_iload hx hb dX10_keep_253 (lv_at hl 0 rfl) ?_
                          refine lv_iadd hx hb dX10_keep_255 ?_
                          refine lv_topi (fun v255 e255 => ?_)
                          have i255 : v255.toInt = v252.toInt + (nI i).toInt := by rw [e255]; exact fb_addI (by omega) (by omega)
                          refine lv_aload_n hx hb dX10_keep_256 rfl (lv_at hl 2 rfl) ?_
                          refine m_get (v := .ref (a 4)) hx hb hts hin hown hK hP 4 (by decide) rfl (hts (.fieldLink RX10 16 "ShadowBenchModel" "high" "[I") (by decide +kernel)) rfl dX10_keep_257 ?_
                          refine lv_iload_n hx hb dX10_keep_260 rfl (lv_at hl 5 rfl) ?_
                          refine m_iald (w := (r 4)) hx hb hK hP 3 rfl (vp_in_iff.mpr ⟨by omega, by omega⟩) dX10_keep_261 ?_
                          refine lv_topi (fun v261 e261 => ?_)
                          have i261 : v261.toInt = ((r 4) k0.toNatClampNeg).toInt := congrArg Int32.toInt e261
                          have w261 := mi_h hI (x := k0) (by omega) (by omega) e261
                          refine lv_isub hx hb dX10_keep_262 ?_
                          refine lv_topi (fun v262 e262 => ?_)
                          have i262 : v262.toInt = v255.toInt - v261.toInt := by rw [e262]; exact fb_subI (by omega) (by omega)
                          refine m_iald (w := (r 5)) hx hb hK hP 4 rfl (vp_in_iff.mpr ⟨by omega, by omega⟩) dX10_keep_263 ?_
                          refine lv_topi (fun v263 e263 => ?_)
                          have i263 : v263.toInt = ((r 5) v262.toNatClampNeg).toInt := congrArg Int32.toInt e263
                          refine lv_i2l (v := v263.toInt64) hx hb dX10_keep_264 rfl ?_
                          refine m_last (w := s3) hx hb hK hP hD hS 21 rfl (vp_in_iff.mpr ⟨by omega, by omega⟩) (va_up (va_up q 33 s3) 33 (vp_updL s3 v198.toNatClampNeg v263.toInt64)) (ms_33 cy mo a _ _ _ _ _) dX10_keep_265 (fun H locs hP hS => ?_)
                          have hP := wm_eq rfl rfl rfl (es_q_33__33 q s3 (vp_updL s3 v198.toNatClampNeg v263.toInt64)) hP
                          refine lv_iinc (v := (nI (i + 1))) (lv' := [(7, .int (nI (i + 1))), (6, .int (1 : Int32)), (0, .ref mo), (1, .int d), (2, .int what), (3, .int k0), (4, .long p0)]) hx hb dX10_keep_266 hl (k := 0) rfl (nI_1 _) (by decide) rfl (fun ls hl => ?_)
                          refine lv_goto (tgt := 177) hx hb dX10_keep_269 (by decide) ?_
                          have hP := wm_eq rfl rfl (ec_r_29_30_31_32__29_30_31_32 r ((upd (r 29) d.toNatClampNeg what)) ((upd (r 30) d.toNatClampNeg (0 : Int32))) ((upd (r 31) d.toNatClampNeg r149)) ((upd (r 32) d.toNatClampNeg k0))) rfl hP
                          exact ih_177 (i + 1) (vp_updL s3 v198.toNatClampNeg v263.toInt64) (by omega) (by omega) _ _ hP hS ls (lv_sub hl [0, 1, 2, 3, 4, 5, 6] rfl)
                        · skip
                          have d223 := c223
                          rw [fa_le] at d223
                          refine lv_aload_n hx hb dX10_keep_226 rfl (lv_at hl 2 rfl) ?_
                          refine m_get (v := .ref (a 5)) hx hb hts hin hown hK hP 5 (by decide) rfl (hts (.fieldLink RX10 19 "ShadowBenchModel" "sums" "[I") (by decide +kernel)) rfl dX10_keep_227 ?_
                          refine lv_bipush (v := 44) hx hb dX10_keep_230 (by decide) ?_
                          refine lv_iload_n hx hb dX10_keep_232 rfl (lv_at hl 5 rfl) ?_
                          refine lv_imul hx hb dX10_keep_233 ?_
                          refine lv_topi (fun v233 e233 => ?_)
                          have i233 : v233.toInt = 44 * k0.toInt := by rw [e233]; exact mulcL rfl (by omega) (by omega)
                          refine lv_iload hx hb dX10_keep_234 (lv_at hl 0 rfl) ?_
                          refine lv_iadd hx hb dX10_keep_236 ?_
                          refine lv_topi (fun v236 e236 => ?_)
                          have i236 : v236.toInt = v233.toInt + (nI i).toInt := by rw [e236]; exact fb_addI (by omega) (by omega)
                          refine m_iald (w := (r 5)) hx hb hK hP 4 rfl (vp_in_iff.mpr ⟨by omega, by omega⟩) dX10_keep_237 ?_
                          refine lv_topi (fun v237 e237 => ?_)
                          have i237 : v237.toInt = ((r 5) v236.toNatClampNeg).toInt := congrArg Int32.toInt e237
                          refine lv_i2l (v := v237.toInt64) hx hb dX10_keep_238 rfl ?_
                          refine lv_goto (tgt := 265) hx hb dX10_keep_239 (by decide) ?_
                          refine m_last (w := s3) hx hb hK hP hD hS 21 rfl (vp_in_iff.mpr ⟨by omega, by omega⟩) (va_up (va_up q 33 s3) 33 (vp_updL s3 v198.toNatClampNeg v237.toInt64)) (ms_33 cy mo a _ _ _ _ _) dX10_keep_265 (fun H locs hP hS => ?_)
                          have hP := wm_eq rfl rfl rfl (es_q_33__33 q s3 (vp_updL s3 v198.toNatClampNeg v237.toInt64)) hP
                          refine lv_iinc (v := (nI (i + 1))) (lv' := [(7, .int (nI (i + 1))), (6, .int (1 : Int32)), (0, .ref mo), (1, .int d), (2, .int what), (3, .int k0), (4, .long p0)]) hx hb dX10_keep_266 hl (k := 0) rfl (nI_1 _) (by decide) rfl (fun ls hl => ?_)
                          refine lv_goto (tgt := 177) hx hb dX10_keep_269 (by decide) ?_
                          have hP := wm_eq rfl rfl (ec_r_29_30_31_32__29_30_31_32 r ((upd (r 29) d.toNatClampNeg what)) ((upd (r 30) d.toNatClampNeg (0 : Int32))) ((upd (r 31) d.toNatClampNeg r149)) ((upd (r 32) d.toNatClampNeg k0))) rfl hP
                          exact ih_177 (i + 1) (vp_updL s3 v198.toNatClampNeg v237.toInt64) (by omega) (by omega) _ _ hP hS ls (lv_sub hl [0, 1, 2, 3, 4, 5, 6] rfl)
                      · first | exact absurd c201 c95 | exact absurd c95 c201
                have hP := wm_eq rfl rfl (ec_r_29_30_31_32__29_30_31_32 r ((upd (r 29) d.toNatClampNeg what)) ((upd (r 30) d.toNatClampNeg (0 : Int32))) ((upd (r 31) d.toNatClampNeg r149)) ((upd (r 32) d.toNatClampNeg k0))) (ec_q___33 q ) hP
                exact loop_177 (60 + 1) 0 (q 33) (by omega) (by omega) _ _ hP hS ls (lv_sub hl [0, 1, 2, 3, 4, 5, 6] rfl)
              · skip
                have d164 := c164
                rw [fa_eq] at d164
                refine lv_bipush (v := (-15)) hx hb dX10_keep_167 (by decide) ?_
                refine lv_goto (tgt := 173) hx hb dX10_keep_169 (by decide) ?_
                refine m_iast (w := (r 32)) hx hb hK hP hD hS 20 rfl (vp_in_iff.mpr ⟨by omega, by omega⟩) (va_up (va_up (va_up (va_up r 29 ((upd (r 29) d.toNatClampNeg what))) 30 ((upd (r 30) d.toNatClampNeg (0 : Int32)))) 31 ((upd (r 31) d.toNatClampNeg r149))) 32 (upd (r 32) d.toNatClampNeg (((-15) : Int32)))) (ms_32 cy mo a _ _ _ _ _) dX10_keep_173 (fun H locs hP hS => ?_)
                refine lv_iconst (v := 0) hx hb dX10_keep_174 (by decide) ?_
                refine lv_istore (lv' := [(7, .int (0 : Int32)), (6, .int (1 : Int32)), (0, .ref mo), (1, .int d), (2, .int what), (3, .int k0), (4, .long p0)]) hx hb dX10_keep_175 hl (by decide) rfl (fun ls hl => ?_)
                have loop_177 : ∀ (n : Nat) (i : Nat) (s3 : Nat → Int64), (i ≤ 60) → 60 - i < n → ∀ (H : Heap) (locs : List Loc), va_P D vwCl (WM cy mo a (upd f 0 (0 : Int32)) g (va_up (va_up (va_up (va_up r 29 ((upd (r 29) d.toNatClampNeg what))) 30 ((upd (r 30) d.toNatClampNeg (0 : Int32)))) 31 ((upd (r 31) d.toNatClampNeg r149))) 32 ((upd (r 32) d.toNatClampNeg (((-15) : Int32))))) (va_up q 33 s3)) H → va_S (AM mo a) s.heap H locs → ∀ (ls : Array Slot), lv_has ls 8 [(7, .int (nI i)), (6, .int (1 : Int32)), (0, .ref mo), (1, .int d), (2, .int what), (3, .int k0), (4, .long p0)] → W p l e (headSpec wsX10_keep ({ frames := 3, cells := 0, slots := 0, locals := 69 })).room s m #[Value.ref mo, Value.int d, Value.int what, Value.int k0, Value.long p0] below meth c H locs 0 0 (MQ below (va_Qi (fun r0 u => ∃ (sh : Nat → Int32), ∃ (sz : Nat → Int32), ∃ (sw : Nat → Int32), ∃ (sf : Nat → Int32), ∃ (sr : Nat → Int64), u = ((upd f 0 (0 : Int32)), g, (va_up (va_up (va_up (va_up r 29 sh) 30 sz) 31 sw) 32 sf), (va_up q 33 sr)) ∧ (MI (upd f 0 (0 : Int32)) (va_up (va_up (va_up (va_up r 29 sh) 30 sz) 31 sw) 32 sf))) (mB D cy mo a) (AM mo a)) #[Value.ref mo, Value.int d, Value.int what, Value.int k0, Value.long p0] s 0 0 (AM mo a)) (F0 m 177 ls []) := by
                  intro n
                  induction n with
                  | zero => intro i s3 j177_0 hn; exact absurd hn (Nat.not_lt_zero _)
                  | succ n ih_177 =>
                    intro i s3 j177_0 hn_177 H locs hP hS ls hl
                    have ii : (nI i).toInt = (i : Int) := nI_toInt (by omega)
                    refine lv_iload hx hb dX10_keep_177 (lv_at hl 0 rfl) ?_
                    refine lv_aload_n hx hb dX10_keep_179 rfl (lv_at hl 2 rfl) ?_
                    refine m_get (v := .ref (a 30)) hx hb hts hin hown hK hP 30 (by decide) rfl (hts (.fieldLink RX10 64 "ShadowBenchModel" "shelfSize" "[I") (by decide +kernel)) rfl dX10_keep_180 ?_
                    refine lv_iload_n hx hb dX10_keep_183 rfl (lv_at hl 3 rfl) ?_
                    refine m_iald (w := ((upd (r 30) d.toNatClampNeg (0 : Int32)))) hx hb hK hP 18 rfl (vp_in_iff.mpr ⟨by omega, by omega⟩) dX10_keep_184 ?_
                    refine lv_topi (fun v184 e184 => ?_)
                    have i184 : v184.toInt = (((upd (r 30) d.toNatClampNeg (0 : Int32))) d.toNatClampNeg).toInt := congrArg Int32.toInt e184
                    have z184 := e184
                    simp only [upd, if_true] at z184
                    have y184 := congrArg Int32.toInt z184
                    refine lv_icmp_ge (tgt := 272) hx hb dX10_keep_185 (by decide) (fun c185 => ?_) (fun c185 => ?_)
                    · skip
                      have d185 := c185
                      rw [fa_le] at d185
                      refine lv_iconst (v := 0) hx hb dX10_keep_272 (by decide) ?_
                      have hP := wm_eq rfl rfl (ec_r_29_30_31_32__29_30_31_32 r ((upd (r 29) d.toNatClampNeg what)) ((upd (r 30) d.toNatClampNeg (0 : Int32))) ((upd (r 31) d.toNatClampNeg r149)) ((upd (r 32) d.toNatClampNeg (((-15) : Int32))))) rfl hP
                      exact W.iret (v := (0 : Int32)) hx hb hr (fun t ht hW => ⟨⟨_, ((upd f 0 (0 : Int32)), g, (va_up (va_up (va_up (va_up r 29 (((upd (r 29) d.toNatClampNeg what)))) 30 (((upd (r 30) d.toNatClampNeg (0 : Int32))))) 31 (((upd (r 31) d.toNatClampNeg r149)))) 32 (((upd (r 32) d.toNatClampNeg (((-15) : Int32)))))), (va_up q 33 s3)), rfl, ⟨((upd (r 29) d.toNatClampNeg what)), ((upd (r 30) d.toNatClampNeg (0 : Int32))), ((upd (r 31) d.toNatClampNeg r149)), ((upd (r 32) d.toNatClampNeg (((-15) : Int32)))), s3, rfl, by first | exact hI | exact mi_sz (d := d) hI (v := v110) (by omega) rfl rfl rfl rfl rfl rfl rfl rfl | exact mi_sz (d := d) hI (v := v131) (by omega) rfl rfl rfl rfl rfl rfl rfl rfl | exact mi_sz (d := d) hI (v := 0) (by decide) rfl rfl rfl rfl rfl rfl rfl rfl⟩, by unfold mB; rw [ht]; exact hP⟩, hS.F ht⟩) hS.2.2 dX10_keep_273
                    · skip
                      have d185 := c185
                      rw [fa_le] at d185
                      refine lv_aload_n hx hb dX10_keep_188 rfl (lv_at hl 2 rfl) ?_
                      refine m_get (v := .ref (a 33)) hx hb hts hin hown hK hP 33 (by decide) rfl (hts (.fieldLink RX10 73 "ShadowBenchModel" "shelfRow" "[J") (by decide +kernel)) rfl dX10_keep_189 ?_
                      refine lv_bipush (v := 60) hx hb dX10_keep_192 (by decide) ?_
                      refine lv_iload_n hx hb dX10_keep_194 rfl (lv_at hl 3 rfl) ?_
                      refine lv_imul hx hb dX10_keep_195 ?_
                      refine lv_topi (fun v195 e195 => ?_)
                      have i195 : v195.toInt = 60 * d.toInt := by rw [e195]; exact mulcL rfl (by omega) (by omega)
                      refine lv_iload hx hb dX10_keep_196 (lv_at hl 0 rfl) ?_
                      refine lv_iadd hx hb dX10_keep_198 ?_
                      refine lv_topi (fun v198 e198 => ?_)
                      have i198 : v198.toInt = v195.toInt + (nI i).toInt := by rw [e198]; exact fb_addI (by omega) (by omega)
                      refine lv_iload_n hx hb dX10_keep_199 rfl (lv_at hl 4 rfl) ?_
                      refine lv_iconst (v := 3) hx hb dX10_keep_200 (by decide) ?_
                      refine lv_icmp_ne (tgt := 215) hx hb dX10_keep_201 (by decide) (fun c201 => ?_) (fun c201 => ?_)
                      · skip
                        have d201 := c201
                        rw [fa_eq] at d201
                        refine lv_iload hx hb dX10_keep_215 (lv_at hl 0 rfl) ?_
                        refine lv_aload_n hx hb dX10_keep_217 rfl (lv_at hl 2 rfl) ?_
                        refine m_get (v := .ref (a 4)) hx hb hts hin hown hK hP 4 (by decide) rfl (hts (.fieldLink RX10 16 "ShadowBenchModel" "high" "[I") (by decide +kernel)) rfl dX10_keep_218 ?_
                        refine lv_iload_n hx hb dX10_keep_221 rfl (lv_at hl 5 rfl) ?_
                        refine m_iald (w := (r 4)) hx hb hK hP 3 rfl (vp_in_iff.mpr ⟨by omega, by omega⟩) dX10_keep_222 ?_
                        refine lv_topi (fun v222 e222 => ?_)
                        have i222 : v222.toInt = ((r 4) k0.toNatClampNeg).toInt := congrArg Int32.toInt e222
                        have w222 := mi_h hI (x := k0) (by omega) (by omega) e222
                        refine lv_icmp_ge (tgt := 242) hx hb dX10_keep_223 (by decide) (fun c223 => ?_) (fun c223 => ?_)
                        · skip
                          have d223 := c223
                          rw [fa_le] at d223
                          refine lv_aload_n hx hb dX10_keep_242 rfl (lv_at hl 2 rfl) ?_
                          refine m_get (v := .ref (a 5)) hx hb hts hin hown hK hP 5 (by decide) rfl (hts (.fieldLink RX10 19 "ShadowBenchModel" "sums" "[I") (by decide +kernel)) rfl dX10_keep_243 ?_
                          refine lv_bipush (v := 44) hx hb dX10_keep_246 (by decide) ?_
                          refine lv_iload_n hx hb dX10_keep_248 rfl (lv_at hl 5 rfl) ?_
                          refine lv_imul hx hb dX10_keep_249 ?_
                          refine lv_topi (fun v249 e249 => ?_)
                          have i249 : v249.toInt = 44 * k0.toInt := by rw [e249]; exact mulcL rfl (by omega) (by omega)
                          refine lv_bipush (v := 11) hx hb dX10_keep_250 (by decide) ?_
                          refine lv_iadd hx hb dX10_keep_252 ?_
                          refine lv_topi (fun v252 e252 => ?_)
                          have i252 : v252.toInt = v249.toInt + (11 : Int32).toInt := by rw [e252]; exact fb_addI (by omega) (by omega)
                          refine lv_iload hx hb dX10_keep_253 (lv_at hl 0 rfl) ?_
                          refine lv_iadd hx hb dX10_keep_255 ?_
                          refine lv_topi (fun v255 e255 => ?_)
                          have i255 : v255.toInt = v252.toInt + (nI i).toInt := by rw [e255]; exact fb_addI (by omega) (by omega)
                          refine lv_aload_n hx hb dX10_keep_256 rfl (lv_at hl 2 rfl) ?_
                          refine m_get (v := .ref (a 4)) hx hb hts hin hown hK hP 4 (by decide) rfl (hts (.fieldLink RX10 16 "ShadowBenchModel" "high" "[I") (by decide +kernel)) rfl dX10_keep_257 ?_
                          refine lv_iload_n hx hb dX10_keep_260 rfl (lv_at hl 5 rfl) ?_
                          refine m_iald (w := (r 4)) hx hb hK hP 3 rfl (vp_in_iff.mpr ⟨by omega, by omega⟩) dX10_keep_261 ?_
                          refine lv_topi (fun v261 e261 => ?_)
                          have i261 : v261.toInt = ((r 4) k0.toNatClampNeg).toInt := congrArg Int32.toInt e261
                          have w261 := mi_h hI (x := k0) (by omega) (by omega) e261
                          refine lv_isub hx hb dX10_keep_262 ?_
                          refine lv_topi (fun v262 e262 => ?_)
                          have i262 : v262.toInt = v255.toInt - v261.toInt := by rw [e262]; exact fb_subI (by omega) (by omega)
                          refine m_iald (w := (r 5)) hx hb hK hP 4 rfl (vp_in_iff.mpr ⟨by omega, by omega⟩) dX10_keep_263 ?_
                          refine lv_topi (fun v263 e263 => ?_)
                          have i263 : v263.toInt = ((r 5) v262.toNatClampNeg).toInt := congrArg Int32.toInt e263
                          refine lv_i2l (v := v263.toInt64) hx hb dX10_keep_264 rfl ?_
                          refine m_last (w := s3) hx hb hK hP hD hS 21 rfl (vp_in_iff.mpr ⟨by omega, by omega⟩) (va_up (va_up q 33 s3) 33 (vp_updL s3 v198.toNatClampNeg v263.toInt64)) (ms_33 cy mo a _ _ _ _ _) dX10_keep_265 (fun H locs hP hS => ?_)
                          have hP := wm_eq rfl rfl rfl (es_q_33__33 q s3 (vp_updL s3 v198.toNatClampNeg v263.toInt64)) hP
                          refine lv_iinc (v := (nI (i + 1))) (lv' := [(7, .int (nI (i + 1))), (6, .int (1 : Int32)), (0, .ref mo), (1, .int d), (2, .int what), (3, .int k0), (4, .long p0)]) hx hb dX10_keep_266 hl (k := 0) rfl (nI_1 _) (by decide) rfl (fun ls hl => ?_)
                          refine lv_goto (tgt := 177) hx hb dX10_keep_269 (by decide) ?_
                          have hP := wm_eq rfl rfl (ec_r_29_30_31_32__29_30_31_32 r ((upd (r 29) d.toNatClampNeg what)) ((upd (r 30) d.toNatClampNeg (0 : Int32))) ((upd (r 31) d.toNatClampNeg r149)) ((upd (r 32) d.toNatClampNeg (((-15) : Int32))))) rfl hP
                          exact ih_177 (i + 1) (vp_updL s3 v198.toNatClampNeg v263.toInt64) (by omega) (by omega) _ _ hP hS ls (lv_sub hl [0, 1, 2, 3, 4, 5, 6] rfl)
                        · skip
                          have d223 := c223
                          rw [fa_le] at d223
                          refine lv_aload_n hx hb dX10_keep_226 rfl (lv_at hl 2 rfl) ?_
                          refine m_get (v := .ref (a 5)) hx hb hts hin hown hK hP 5 (by decide) rfl (hts (.fieldLink RX10 19 "ShadowBenchModel" "sums" "[I") (by decide +kernel)) rfl dX10_keep_227 ?_
                          refine lv_bipush (v := 44) hx hb dX10_keep_230 (by decide) ?_
                          refine lv_iload_n hx hb dX10_keep_232 rfl (lv_at hl 5 rfl) ?_
                          refine lv_imul hx hb dX10_keep_233 ?_
                          refine lv_topi (fun v233 e233 => ?_)
                          have i233 : v233.toInt = 44 * k0.toInt := by rw [e233]; exact mulcL rfl (by omega) (by omega)
                          refine lv_iload hx hb dX10_keep_234 (lv_at hl 0 rfl) ?_
                          refine lv_iadd hx hb dX10_keep_236 ?_
                          refine lv_topi (fun v236 e236 => ?_)
                          have i236 : v236.toInt = v233.toInt + (nI i).toInt := by rw [e236]; exact fb_addI (by omega) (by omega)
                          refine m_iald (w := (r 5)) hx hb hK hP 4 rfl (vp_in_iff.mpr ⟨by omega, by omega⟩) dX10_keep_237 ?_
                          refine lv_topi (fun v237 e237 => ?_)
                          have i237 : v237.toInt = ((r 5) v236.toNatClampNeg).toInt := congrArg Int32.toInt e237
                          refine lv_i2l (v := v237.toInt64) hx hb dX10_keep_238 rfl ?_
                          refine lv_goto (tgt := 265) hx hb dX10_keep_239 (by decide) ?_
                          refine m_last (w := s3) hx hb hK hP hD hS 21 rfl (vp_in_iff.mpr ⟨by omega, by omega⟩) (va_up (va_up q 33 s3) 33 (vp_updL s3 v198.toNatClampNeg v237.toInt64)) (ms_33 cy mo a _ _ _ _ _) dX10_keep_265 (fun H locs hP hS => ?_)
                          have hP := wm_eq rfl rfl rfl (es_q_33__33 q s3 (vp_updL s3 v198.toNatClampNeg v237.toInt64)) hP
                          refine lv_iinc (v := (nI (i + 1))) (lv' := [(7, .int (nI (i + 1))), (6, .int (1 : Int32)), (0, .ref mo), (1, .int d), (2, .int what), (3, .int k0), (4, .long p0)]) hx hb dX10_keep_266 hl (k := 0) rfl (nI_1 _) (by decide) rfl (fun ls hl => ?_)
                          refine lv_goto (tgt := 177) hx hb dX10_keep_269 (by decide) ?_
                          have hP := wm_eq rfl rfl (ec_r_29_30_31_32__29_30_31_32 r ((upd (r 29) d.toNatClampNeg what)) ((upd (r 30) d.toNatClampNeg (0 : Int32))) ((upd (r 31) d.toNatClampNeg r149)) ((upd (r 32) d.toNatClampNeg (((-15) : Int32))))) rfl hP
                          exact ih_177 (i + 1) (vp_updL s3 v198.toNatClampNeg v237.toInt64) (by omega) (by omega) _ _ hP hS ls (lv_sub hl [0, 1, 2, 3, 4, 5, 6] rfl)
                      · first | exact absurd c201 c95 | exact absurd c95 c201
                have hP := wm_eq rfl rfl (ec_r_29_30_31_32__29_30_31_32 r ((upd (r 29) d.toNatClampNeg what)) ((upd (r 30) d.toNatClampNeg (0 : Int32))) ((upd (r 31) d.toNatClampNeg r149)) ((upd (r 32) d.toNatClampNeg (((-15) : Int32))))) (ec_q___33 q ) hP
                exact loop_177 (60 + 1) 0 (q 33) (by omega) (by omega) _ _ hP hS ls (lv_sub hl [0, 1, 2, 3, 4, 5, 6] rfl)
          · skip
            have d116 := c116
            rw [fa_eq] at d116
            refine lv_aload_n hx hb dX10_keep_119 rfl (lv_at hl 1 rfl) ?_
            refine m_get (v := .ref (a 4)) hx hb hts hin hown hK hP 4 (by decide) rfl (hts (.fieldLink RX10 16 "ShadowBenchModel" "high" "[I") (by decide +kernel)) rfl dX10_keep_120 ?_
            refine lv_iload_n hx hb dX10_keep_123 rfl (lv_at hl 4 rfl) ?_
            refine m_iald (w := (r 4)) hx hb hK hP 3 rfl (vp_in_iff.mpr ⟨by omega, by omega⟩) dX10_keep_124 ?_
            refine lv_topi (fun v124 e124 => ?_)
            have i124 : v124.toInt = ((r 4) k0.toNatClampNeg).toInt := congrArg Int32.toInt e124
            have w124 := mi_h hI (x := k0) (by omega) (by omega) e124
            refine lv_aload_n hx hb dX10_keep_125 rfl (lv_at hl 1 rfl) ?_
            refine m_get (v := .ref (a 3)) hx hb hts hin hown hK hP 3 (by decide) rfl (hts (.fieldLink RX10 13 "ShadowBenchModel" "wide" "[I") (by decide +kernel)) rfl dX10_keep_126 ?_
            refine lv_iload_n hx hb dX10_keep_129 rfl (lv_at hl 4 rfl) ?_
            refine m_iald (w := (r 3)) hx hb hK hP 2 rfl (vp_in_iff.mpr ⟨by omega, by omega⟩) dX10_keep_130 ?_
            refine lv_topi (fun v130 e130 => ?_)
            have i130 : v130.toInt = ((r 3) k0.toNatClampNeg).toInt := congrArg Int32.toInt e130
            have w130 := mi_w hI (x := k0) (by omega) (by omega) e130
            refine lv_iadd hx hb dX10_keep_131 ?_
            refine lv_topi (fun v131 e131 => ?_)
            have i131 : v131.toInt = v124.toInt + v130.toInt := by rw [e131]; exact fb_addI (by omega) (by omega)
            refine lv_goto (tgt := 136) hx hb dX10_keep_132 (by decide) ?_
            refine m_iast (w := (r 30)) hx hb hK hP hD hS 18 rfl (vp_in_iff.mpr ⟨by omega, by omega⟩) (va_up (va_up r 29 ((upd (r 29) d.toNatClampNeg what))) 30 (upd (r 30) d.toNatClampNeg v131)) (ms_30 cy mo a _ _ _ _ _) dX10_keep_136 (fun H locs hP hS => ?_)
            refine lv_iload_n hx hb dX10_keep_137 rfl (lv_at hl 3 rfl) ?_
            refine lv_iconst (v := 1) hx hb dX10_keep_138 (by decide) ?_
            refine lv_icmp_ne (tgt := 174) hx hb dX10_keep_139 (by decide) (fun c139 => ?_) (fun c139 => ?_)
            · skip
              have d139 := c139
              rw [fa_eq] at d139
              refine lv_iconst (v := 0) hx hb dX10_keep_174 (by decide) ?_
              refine lv_istore (lv' := [(7, .int (0 : Int32)), (6, .int (1 : Int32)), (0, .ref mo), (1, .int d), (2, .int what), (3, .int k0), (4, .long p0)]) hx hb dX10_keep_175 hl (by decide) rfl (fun ls hl => ?_)
              have loop_177 : ∀ (n : Nat) (i : Nat) (s3 : Nat → Int64), (i ≤ 60) → 60 - i < n → ∀ (H : Heap) (locs : List Loc), va_P D vwCl (WM cy mo a (upd f 0 (0 : Int32)) g (va_up (va_up r 29 ((upd (r 29) d.toNatClampNeg what))) 30 ((upd (r 30) d.toNatClampNeg v131))) (va_up q 33 s3)) H → va_S (AM mo a) s.heap H locs → ∀ (ls : Array Slot), lv_has ls 8 [(7, .int (nI i)), (6, .int (1 : Int32)), (0, .ref mo), (1, .int d), (2, .int what), (3, .int k0), (4, .long p0)] → W p l e (headSpec wsX10_keep ({ frames := 3, cells := 0, slots := 0, locals := 69 })).room s m #[Value.ref mo, Value.int d, Value.int what, Value.int k0, Value.long p0] below meth c H locs 0 0 (MQ below (va_Qi (fun r0 u => ∃ (sh : Nat → Int32), ∃ (sz : Nat → Int32), ∃ (sw : Nat → Int32), ∃ (sf : Nat → Int32), ∃ (sr : Nat → Int64), u = ((upd f 0 (0 : Int32)), g, (va_up (va_up (va_up (va_up r 29 sh) 30 sz) 31 sw) 32 sf), (va_up q 33 sr)) ∧ (MI (upd f 0 (0 : Int32)) (va_up (va_up (va_up (va_up r 29 sh) 30 sz) 31 sw) 32 sf))) (mB D cy mo a) (AM mo a)) #[Value.ref mo, Value.int d, Value.int what, Value.int k0, Value.long p0] s 0 0 (AM mo a)) (F0 m 177 ls []) := by
                intro n
                induction n with
                | zero => intro i s3 j177_0 hn; exact absurd hn (Nat.not_lt_zero _)
                | succ n ih_177 =>
                  intro i s3 j177_0 hn_177 H locs hP hS ls hl
                  have ii : (nI i).toInt = (i : Int) := nI_toInt (by omega)
                  refine lv_iload hx hb dX10_keep_177 (lv_at hl 0 rfl) ?_
                  refine lv_aload_n hx hb dX10_keep_179 rfl (lv_at hl 2 rfl) ?_
                  refine m_get (v := .ref (a 30)) hx hb hts hin hown hK hP 30 (by decide) rfl (hts (.fieldLink RX10 64 "ShadowBenchModel" "shelfSize" "[I") (by decide +kernel)) rfl dX10_keep_180 ?_
                  refine lv_iload_n hx hb dX10_keep_183 rfl (lv_at hl 3 rfl) ?_
                  refine m_iald (w := ((upd (r 30) d.toNatClampNeg v131))) hx hb hK hP 18 rfl (vp_in_iff.mpr ⟨by omega, by omega⟩) dX10_keep_184 ?_
                  refine lv_topi (fun v184 e184 => ?_)
                  have i184 : v184.toInt = (((upd (r 30) d.toNatClampNeg v131)) d.toNatClampNeg).toInt := congrArg Int32.toInt e184
                  have z184 := e184
                  simp only [upd, if_true] at z184
                  have y184 := congrArg Int32.toInt z184
                  refine lv_icmp_ge (tgt := 272) hx hb dX10_keep_185 (by decide) (fun c185 => ?_) (fun c185 => ?_)
                  · skip
                    have d185 := c185
                    rw [fa_le] at d185
                    refine lv_iconst (v := 0) hx hb dX10_keep_272 (by decide) ?_
                    have hP := wm_eq rfl rfl (ec_r_29_30__29_30_31_32 r ((upd (r 29) d.toNatClampNeg what)) ((upd (r 30) d.toNatClampNeg v131))) rfl hP
                    exact W.iret (v := (0 : Int32)) hx hb hr (fun t ht hW => ⟨⟨_, ((upd f 0 (0 : Int32)), g, (va_up (va_up (va_up (va_up r 29 (((upd (r 29) d.toNatClampNeg what)))) 30 (((upd (r 30) d.toNatClampNeg v131)))) 31 (r 31)) 32 (r 32)), (va_up q 33 s3)), rfl, ⟨((upd (r 29) d.toNatClampNeg what)), ((upd (r 30) d.toNatClampNeg v131)), (r 31), (r 32), s3, rfl, by first | exact hI | exact mi_sz (d := d) hI (v := v110) (by omega) rfl rfl rfl rfl rfl rfl rfl rfl | exact mi_sz (d := d) hI (v := v131) (by omega) rfl rfl rfl rfl rfl rfl rfl rfl | exact mi_sz (d := d) hI (v := 0) (by decide) rfl rfl rfl rfl rfl rfl rfl rfl⟩, by unfold mB; rw [ht]; exact hP⟩, hS.F ht⟩) hS.2.2 dX10_keep_273
                  · skip
                    have d185 := c185
                    rw [fa_le] at d185
                    refine lv_aload_n hx hb dX10_keep_188 rfl (lv_at hl 2 rfl) ?_
                    refine m_get (v := .ref (a 33)) hx hb hts hin hown hK hP 33 (by decide) rfl (hts (.fieldLink RX10 73 "ShadowBenchModel" "shelfRow" "[J") (by decide +kernel)) rfl dX10_keep_189 ?_
                    refine lv_bipush (v := 60) hx hb dX10_keep_192 (by decide) ?_
                    refine lv_iload_n hx hb dX10_keep_194 rfl (lv_at hl 3 rfl) ?_
                    refine lv_imul hx hb dX10_keep_195 ?_
                    refine lv_topi (fun v195 e195 => ?_)
                    have i195 : v195.toInt = 60 * d.toInt := by rw [e195]; exact mulcL rfl (by omega) (by omega)
                    refine lv_iload hx hb dX10_keep_196 (lv_at hl 0 rfl) ?_
                    refine lv_iadd hx hb dX10_keep_198 ?_
                    refine lv_topi (fun v198 e198 => ?_)
                    have i198 : v198.toInt = v195.toInt + (nI i).toInt := by rw [e198]; exact fb_addI (by omega) (by omega)
                    refine lv_iload_n hx hb dX10_keep_199 rfl (lv_at hl 4 rfl) ?_
                    refine lv_iconst (v := 3) hx hb dX10_keep_200 (by decide) ?_
                    refine lv_icmp_ne (tgt := 215) hx hb dX10_keep_201 (by decide) (fun c201 => ?_) (fun c201 => ?_)
                    · skip
                      have d201 := c201
                      rw [fa_eq] at d201
                      refine lv_iload hx hb dX10_keep_215 (lv_at hl 0 rfl) ?_
                      refine lv_aload_n hx hb dX10_keep_217 rfl (lv_at hl 2 rfl) ?_
                      refine m_get (v := .ref (a 4)) hx hb hts hin hown hK hP 4 (by decide) rfl (hts (.fieldLink RX10 16 "ShadowBenchModel" "high" "[I") (by decide +kernel)) rfl dX10_keep_218 ?_
                      refine lv_iload_n hx hb dX10_keep_221 rfl (lv_at hl 5 rfl) ?_
                      refine m_iald (w := (r 4)) hx hb hK hP 3 rfl (vp_in_iff.mpr ⟨by omega, by omega⟩) dX10_keep_222 ?_
                      refine lv_topi (fun v222 e222 => ?_)
                      have i222 : v222.toInt = ((r 4) k0.toNatClampNeg).toInt := congrArg Int32.toInt e222
                      have w222 := mi_h hI (x := k0) (by omega) (by omega) e222
                      refine lv_icmp_ge (tgt := 242) hx hb dX10_keep_223 (by decide) (fun c223 => ?_) (fun c223 => ?_)
                      · skip
                        have d223 := c223
                        rw [fa_le] at d223
                        refine lv_aload_n hx hb dX10_keep_242 rfl (lv_at hl 2 rfl) ?_
                        refine m_get (v := .ref (a 5)) hx hb hts hin hown hK hP 5 (by decide) rfl (hts (.fieldLink RX10 19 "ShadowBenchModel" "sums" "[I") (by decide +kernel)) rfl dX10_keep_243 ?_
                        refine lv_bipush (v := 44) hx hb dX10_keep_246 (by decide) ?_
                        refine lv_iload_n hx hb dX10_keep_248 rfl (lv_at hl 5 rfl) ?_
                        refine lv_imul hx hb dX10_keep_249 ?_
                        refine lv_topi (fun v249 e249 => ?_)
                        have i249 : v249.toInt = 44 * k0.toInt := by rw [e249]; exact mulcL rfl (by omega) (by omega)
                        refine lv_bipush (v := 11) hx hb dX10_keep_250 (by decide) ?_
                        refine lv_iadd hx hb dX10_keep_252 ?_
                        refine lv_topi (fun v252 e252 => ?_)
                        have i252 : v252.toInt = v249.toInt + (11 : Int32).toInt := by rw [e252]; exact fb_addI (by omega) (by omega)
                        refine lv_iload hx hb dX10_keep_253 (lv_at hl 0 rfl) ?_
                        refine lv_iadd hx hb dX10_keep_255 ?_
                        refine lv_topi (fun v255 e255 => ?_)
                        have i255 : v255.toInt = v252.toInt + (nI i).toInt := by rw [e255]; exact fb_addI (by omega) (by omega)
                        refine lv_aload_n hx hb dX10_keep_256 rfl (lv_at hl 2 rfl) ?_
                        refine m_get (v := .ref (a 4)) hx hb hts hin hown hK hP 4 (by decide) rfl (hts (.fieldLink RX10 16 "ShadowBenchModel" "high" "[I") (by decide +kernel)) rfl dX10_keep_257 ?_
                        refine lv_iload_n hx hb dX10_keep_260 rfl (lv_at hl 5 rfl) ?_
                        refine m_iald (w := (r 4)) hx hb hK hP 3 rfl (vp_in_iff.mpr ⟨by omega, by omega⟩) dX10_keep_261 ?_
                        refine lv_topi (fun v261 e261 => ?_)
                        have i261 : v261.toInt = ((r 4) k0.toNatClampNeg).toInt := congrArg Int32.toInt e261
                        have w261 := mi_h hI (x := k0) (by omega) (by omega) e261
                        refine lv_isub hx hb dX10_keep_262 ?_
                        refine lv_topi (fun v262 e262 => ?_)
                        have i262 : v262.toInt = v255.toInt - v261.toInt := by rw [e262]; exact fb_subI (by omega) (by omega)
                        refine m_iald (w := (r 5)) hx hb hK hP 4 rfl (vp_in_iff.mpr ⟨by omega, by omega⟩) dX10_keep_263 ?_
                        refine lv_topi (fun v263 e263 => ?_)
                        have i263 : v263.toInt = ((r 5) v262.toNatClampNeg).toInt := congrArg Int32.toInt e263
                        refine lv_i2l (v := v263.toInt64) hx hb dX10_keep_264 rfl ?_
                        refine m_last (w := s3) hx hb hK hP hD hS 21 rfl (vp_in_iff.mpr ⟨by omega, by omega⟩) (va_up (va_up q 33 s3) 33 (vp_updL s3 v198.toNatClampNeg v263.toInt64)) (ms_33 cy mo a _ _ _ _ _) dX10_keep_265 (fun H locs hP hS => ?_)
                        have hP := wm_eq rfl rfl rfl (es_q_33__33 q s3 (vp_updL s3 v198.toNatClampNeg v263.toInt64)) hP
                        refine lv_iinc (v := (nI (i + 1))) (lv' := [(7, .int (nI (i + 1))), (6, .int (1 : Int32)), (0, .ref mo), (1, .int d), (2, .int what), (3, .int k0), (4, .long p0)]) hx hb dX10_keep_266 hl (k := 0) rfl (nI_1 _) (by decide) rfl (fun ls hl => ?_)
                        refine lv_goto (tgt := 177) hx hb dX10_keep_269 (by decide) ?_
                        have hP := wm_eq rfl rfl (ec_r_29_30__29_30 r ((upd (r 29) d.toNatClampNeg what)) ((upd (r 30) d.toNatClampNeg v131))) rfl hP
                        exact ih_177 (i + 1) (vp_updL s3 v198.toNatClampNeg v263.toInt64) (by omega) (by omega) _ _ hP hS ls (lv_sub hl [0, 1, 2, 3, 4, 5, 6] rfl)
                      · skip
                        have d223 := c223
                        rw [fa_le] at d223
                        refine lv_aload_n hx hb dX10_keep_226 rfl (lv_at hl 2 rfl) ?_
                        refine m_get (v := .ref (a 5)) hx hb hts hin hown hK hP 5 (by decide) rfl (hts (.fieldLink RX10 19 "ShadowBenchModel" "sums" "[I") (by decide +kernel)) rfl dX10_keep_227 ?_
                        refine lv_bipush (v := 44) hx hb dX10_keep_230 (by decide) ?_
                        refine lv_iload_n hx hb dX10_keep_232 rfl (lv_at hl 5 rfl) ?_
                        refine lv_imul hx hb dX10_keep_233 ?_
                        refine lv_topi (fun v233 e233 => ?_)
                        have i233 : v233.toInt = 44 * k0.toInt := by rw [e233]; exact mulcL rfl (by omega) (by omega)
                        refine lv_iload hx hb dX10_keep_234 (lv_at hl 0 rfl) ?_
                        refine lv_iadd hx hb dX10_keep_236 ?_
                        refine lv_topi (fun v236 e236 => ?_)
                        have i236 : v236.toInt = v233.toInt + (nI i).toInt := by rw [e236]; exact fb_addI (by omega) (by omega)
                        refine m_iald (w := (r 5)) hx hb hK hP 4 rfl (vp_in_iff.mpr ⟨by omega, by omega⟩) dX10_keep_237 ?_
                        refine lv_topi (fun v237 e237 => ?_)
                        have i237 : v237.toInt = ((r 5) v236.toNatClampNeg).toInt := congrArg Int32.toInt e237
                        refine lv_i2l (v := v237.toInt64) hx hb dX10_keep_238 rfl ?_
                        refine lv_goto (tgt := 265) hx hb dX10_keep_239 (by decide) ?_
                        refine m_last (w := s3) hx hb hK hP hD hS 21 rfl (vp_in_iff.mpr ⟨by omega, by omega⟩) (va_up (va_up q 33 s3) 33 (vp_updL s3 v198.toNatClampNeg v237.toInt64)) (ms_33 cy mo a _ _ _ _ _) dX10_keep_265 (fun H locs hP hS => ?_)
                        have hP := wm_eq rfl rfl rfl (es_q_33__33 q s3 (vp_updL s3 v198.toNatClampNeg v237.toInt64)) hP
                        refine lv_iinc (v := (nI (i + 1))) (lv' := [(7, .int (nI (i + 1))), (6, .int (1 : Int32)), (0, .ref mo), (1, .int d), (2, .int what), (3, .int k0), (4, .long p0)]) hx hb dX10_keep_266 hl (k := 0) rfl (nI_1 _) (by decide) rfl (fun ls hl => ?_)
                        refine lv_goto (tgt := 177) hx hb dX10_keep_269 (by decide) ?_
                        have hP := wm_eq rfl rfl (ec_r_29_30__29_30 r ((upd (r 29) d.toNatClampNeg what)) ((upd (r 30) d.toNatClampNeg v131))) rfl hP
                        exact ih_177 (i + 1) (vp_updL s3 v198.toNatClampNeg v237.toInt64) (by omega) (by omega) _ _ hP hS ls (lv_sub hl [0, 1, 2, 3, 4, 5, 6] rfl)
                    · first | exact absurd c201 c95 | exact absurd c95 c201
              have hP := wm_eq rfl rfl (ec_r_29_30__29_30 r ((upd (r 29) d.toNatClampNeg what)) ((upd (r 30) d.toNatClampNeg v131))) (ec_q___33 q ) hP
              exact loop_177 (60 + 1) 0 (q 33) (by omega) (by omega) _ _ hP hS ls (lv_sub hl [0, 1, 2, 3, 4, 5, 6] rfl)
            · skip
              have d139 := c139
              rw [fa_eq] at d139
              refine lv_aload_n hx hb dX10_keep_142 rfl (lv_at hl 1 rfl) ?_
              refine m_get (v := .ref (a 31)) hx hb hts hin hown hK hP 31 (by decide) rfl (hts (.fieldLink RX10 67 "ShadowBenchModel" "shelfWeight" "[I") (by decide +kernel)) rfl dX10_keep_143 ?_
              refine lv_iload_n hx hb dX10_keep_146 rfl (lv_at hl 2 rfl) ?_
              refine lv_aload_n hx hb dX10_keep_147 rfl (lv_at hl 1 rfl) ?_
              refine lv_iload_n hx hb dX10_keep_148 rfl (lv_at hl 4 rfl) ?_
              refine m_calli (As := [.int k0]) (rest := [.int d, .ref (a 31)]) ⟨hx, hb, hml, hown, hts⟩ (c_X10_weightOf l D cy mo a (upd f 0 (0 : Int32)) g (va_up (va_up r 29 ((upd (r 29) d.toNatClampNeg what))) 30 ((upd (r 30) d.toNatClampNeg v131))) q k0 hD (by first | exact hI | exact mi_sz (d := d) hI (v := 0) (by first | omega | decide) rfl rfl rfl rfl rfl rfl rfl rfl | exact mi_sz (d := d) hI (v := v131) (by first | omega | decide) rfl rfl rfl rfl rfl rfl rfl rfl | exact mi_sz (d := d) hI (v := v110) (by first | omega | decide) rfl rfl rfl rfl rfl rfl rfl rfl) (show 0 ≤ k0.toInt ∧ k0.toInt < (f 1).toInt by omega)) (cwV 1 hts gX10_keep_X10_weightOf rfl rfl rfl (by decide +kernel) ⟨Nat.le_of_ble_eq_true rfl, Nat.le_of_ble_eq_true rfl⟩) hK hP rfl hl.1 rfl (Nat.le_of_ble_eq_true rfl) dX10_keep_149 ⟨Nat.le_of_ble_eq_true rfl, Nat.le_of_ble_eq_true rfl⟩ hS (fun r149 u H locs q149 hP hS => ?_)
              obtain ⟨rfl, q149⟩ := q149
              have hP : va_P D vwCl (WM cy mo a (upd f 0 (0 : Int32)) g (va_up (va_up r 29 ((upd (r 29) d.toNatClampNeg what))) 30 ((upd (r 30) d.toNatClampNeg v131))) q) H := hP
              have q149 : True := q149
              refine m_iast (w := (r 31)) hx hb hK hP hD hS 19 rfl (vp_in_iff.mpr ⟨by omega, by omega⟩) (va_up (va_up (va_up r 29 ((upd (r 29) d.toNatClampNeg what))) 30 ((upd (r 30) d.toNatClampNeg v131))) 31 (upd (r 31) d.toNatClampNeg r149)) (ms_31 cy mo a _ _ _ _ _) dX10_keep_152 (fun H locs hP hS => ?_)
              refine lv_aload_n hx hb dX10_keep_153 rfl (lv_at hl 1 rfl) ?_
              refine m_get (v := .ref (a 32)) hx hb hts hin hown hK hP 32 (by decide) rfl (hts (.fieldLink RX10 70 "ShadowBenchModel" "shelfFailure" "[I") (by decide +kernel)) rfl dX10_keep_154 ?_
              refine lv_iload_n hx hb dX10_keep_157 rfl (lv_at hl 2 rfl) ?_
              refine lv_aload_n hx hb dX10_keep_158 rfl (lv_at hl 1 rfl) ?_
              refine m_get (v := .ref (a 2)) hx hb hts hin hown hK hP 2 (by decide) rfl (hts (.fieldLink RX10 7 "ShadowBenchModel" "kind" "[I") (by decide +kernel)) rfl dX10_keep_159 ?_
              refine lv_iload_n hx hb dX10_keep_162 rfl (lv_at hl 4 rfl) ?_
              refine m_iald (w := (r 2)) hx hb hK hP 1 rfl (vp_in_iff.mpr ⟨by omega, by omega⟩) dX10_keep_163 ?_
              refine lv_topi (fun v163 e163 => ?_)
              have i163 : v163.toInt = ((r 2) k0.toNatClampNeg).toInt := congrArg Int32.toInt e163
              refine lv_if_ne (tgt := 172) hx hb dX10_keep_164 (by decide) (fun c164 => ?_) (fun c164 => ?_)
              · skip
                have d164 := c164
                rw [fa_eq] at d164
                refine lv_iload_n hx hb dX10_keep_172 rfl (lv_at hl 4 rfl) ?_
                refine m_iast (w := (r 32)) hx hb hK hP hD hS 20 rfl (vp_in_iff.mpr ⟨by omega, by omega⟩) (va_up (va_up (va_up (va_up r 29 ((upd (r 29) d.toNatClampNeg what))) 30 ((upd (r 30) d.toNatClampNeg v131))) 31 ((upd (r 31) d.toNatClampNeg r149))) 32 (upd (r 32) d.toNatClampNeg k0)) (ms_32 cy mo a _ _ _ _ _) dX10_keep_173 (fun H locs hP hS => ?_)
                refine lv_iconst (v := 0) hx hb dX10_keep_174 (by decide) ?_
                refine lv_istore (lv' := [(7, .int (0 : Int32)), (6, .int (1 : Int32)), (0, .ref mo), (1, .int d), (2, .int what), (3, .int k0), (4, .long p0)]) hx hb dX10_keep_175 hl (by decide) rfl (fun ls hl => ?_)
                have loop_177 : ∀ (n : Nat) (i : Nat) (s3 : Nat → Int64), (i ≤ 60) → 60 - i < n → ∀ (H : Heap) (locs : List Loc), va_P D vwCl (WM cy mo a (upd f 0 (0 : Int32)) g (va_up (va_up (va_up (va_up r 29 ((upd (r 29) d.toNatClampNeg what))) 30 ((upd (r 30) d.toNatClampNeg v131))) 31 ((upd (r 31) d.toNatClampNeg r149))) 32 ((upd (r 32) d.toNatClampNeg k0))) (va_up q 33 s3)) H → va_S (AM mo a) s.heap H locs → ∀ (ls : Array Slot), lv_has ls 8 [(7, .int (nI i)), (6, .int (1 : Int32)), (0, .ref mo), (1, .int d), (2, .int what), (3, .int k0), (4, .long p0)] → W p l e (headSpec wsX10_keep ({ frames := 3, cells := 0, slots := 0, locals := 69 })).room s m #[Value.ref mo, Value.int d, Value.int what, Value.int k0, Value.long p0] below meth c H locs 0 0 (MQ below (va_Qi (fun r0 u => ∃ (sh : Nat → Int32), ∃ (sz : Nat → Int32), ∃ (sw : Nat → Int32), ∃ (sf : Nat → Int32), ∃ (sr : Nat → Int64), u = ((upd f 0 (0 : Int32)), g, (va_up (va_up (va_up (va_up r 29 sh) 30 sz) 31 sw) 32 sf), (va_up q 33 sr)) ∧ (MI (upd f 0 (0 : Int32)) (va_up (va_up (va_up (va_up r 29 sh) 30 sz) 31 sw) 32 sf))) (mB D cy mo a) (AM mo a)) #[Value.ref mo, Value.int d, Value.int what, Value.int k0, Value.long p0] s 0 0 (AM mo a)) (F0 m 177 ls []) := by
                  intro n
                  induction n with
                  | zero => intro i s3 j177_0 hn; exact absurd hn (Nat.not_lt_zero _)
                  | succ n ih_177 =>
                    intro i s3 j177_0 hn_177 H locs hP hS ls hl
                    have ii : (nI i).toInt = (i : Int) := nI_toInt (by omega)
                    refine lv_iload hx hb dX10_keep_177 (lv_at hl 0 rfl) ?_
                    refine lv_aload_n hx hb dX10_keep_179 rfl (lv_at hl 2 rfl) ?_
                    refine m_get (v := .ref (a 30)) hx hb hts hin hown hK hP 30 (by decide) rfl (hts (.fieldLink RX10 64 "ShadowBenchModel" "shelfSize" "[I") (by decide +kernel)) rfl dX10_keep_180 ?_
                    refine lv_iload_n hx hb dX10_keep_183 rfl (lv_at hl 3 rfl) ?_
                    refine m_iald (w := ((upd (r 30) d.toNatClampNeg v131))) hx hb hK hP 18 rfl (vp_in_iff.mpr ⟨by omega, by omega⟩) dX10_keep_184 ?_
                    refine lv_topi (fun v184 e184 => ?_)
                    have i184 : v184.toInt = (((upd (r 30) d.toNatClampNeg v131)) d.toNatClampNeg).toInt := congrArg Int32.toInt e184
                    have z184 := e184
                    simp only [upd, if_true] at z184
                    have y184 := congrArg Int32.toInt z184
                    refine lv_icmp_ge (tgt := 272) hx hb dX10_keep_185 (by decide) (fun c185 => ?_) (fun c185 => ?_)
                    · skip
                      have d185 := c185
                      rw [fa_le] at d185
                      refine lv_iconst (v := 0) hx hb dX10_keep_272 (by decide) ?_
                      have hP := wm_eq rfl rfl (ec_r_29_30_31_32__29_30_31_32 r ((upd (r 29) d.toNatClampNeg what)) ((upd (r 30) d.toNatClampNeg v131)) ((upd (r 31) d.toNatClampNeg r149)) ((upd (r 32) d.toNatClampNeg k0))) rfl hP
                      exact W.iret (v := (0 : Int32)) hx hb hr (fun t ht hW => ⟨⟨_, ((upd f 0 (0 : Int32)), g, (va_up (va_up (va_up (va_up r 29 (((upd (r 29) d.toNatClampNeg what)))) 30 (((upd (r 30) d.toNatClampNeg v131)))) 31 (((upd (r 31) d.toNatClampNeg r149)))) 32 (((upd (r 32) d.toNatClampNeg k0)))), (va_up q 33 s3)), rfl, ⟨((upd (r 29) d.toNatClampNeg what)), ((upd (r 30) d.toNatClampNeg v131)), ((upd (r 31) d.toNatClampNeg r149)), ((upd (r 32) d.toNatClampNeg k0)), s3, rfl, by first | exact hI | exact mi_sz (d := d) hI (v := v110) (by omega) rfl rfl rfl rfl rfl rfl rfl rfl | exact mi_sz (d := d) hI (v := v131) (by omega) rfl rfl rfl rfl rfl rfl rfl rfl | exact mi_sz (d := d) hI (v := 0) (by decide) rfl rfl rfl rfl rfl rfl rfl rfl⟩, by unfold mB; rw [ht]; exact hP⟩, hS.F ht⟩) hS.2.2 dX10_keep_273
                    · skip
                      have d185 := c185
                      rw [fa_le] at d185
                      refine lv_aload_n hx hb dX10_keep_188 rfl (lv_at hl 2 rfl) ?_
                      refine m_get (v := .ref (a 33)) hx hb hts hin hown hK hP 33 (by decide) rfl (hts (.fieldLink RX10 73 "ShadowBenchModel" "shelfRow" "[J") (by decide +kernel)) rfl dX10_keep_189 ?_
                      refine lv_bipush (v := 60) hx hb dX10_keep_192 (by decide) ?_
                      refine lv_iload_n hx hb dX10_keep_194 rfl (lv_at hl 3 rfl) ?_
                      refine lv_imul hx hb dX10_keep_195 ?_
                      refine lv_topi (fun v195 e195 => ?_)
                      have i195 : v195.toInt = 60 * d.toInt := by rw [e195]; exact mulcL rfl (by omega) (by omega)
                      refine lv_iload hx hb dX10_keep_196 (lv_at hl 0 rfl) ?_
                      refine lv_iadd hx hb dX10_keep_198 ?_
                      refine lv_topi (fun v198 e198 => ?_)
                      have i198 : v198.toInt = v195.toInt + (nI i).toInt := by rw [e198]; exact fb_addI (by omega) (by omega)
                      refine lv_iload_n hx hb dX10_keep_199 rfl (lv_at hl 4 rfl) ?_
                      refine lv_iconst (v := 3) hx hb dX10_keep_200 (by decide) ?_
                      refine lv_icmp_ne (tgt := 215) hx hb dX10_keep_201 (by decide) (fun c201 => ?_) (fun c201 => ?_)
                      · skip
                        have d201 := c201
                        rw [fa_eq] at d201
                        refine lv_iload hx hb dX10_keep_215 (lv_at hl 0 rfl) ?_
                        refine lv_aload_n hx hb dX10_keep_217 rfl (lv_at hl 2 rfl) ?_
                        refine m_get (v := .ref (a 4)) hx hb hts hin hown hK hP 4 (by decide) rfl (hts (.fieldLink RX10 16 "ShadowBenchModel" "high" "[I") (by decide +kernel)) rfl dX10_keep_218 ?_
                        refine lv_iload_n hx hb dX10_keep_221 rfl (lv_at hl 5 rfl) ?_
                        refine m_iald (w := (r 4)) hx hb hK hP 3 rfl (vp_in_iff.mpr ⟨by omega, by omega⟩) dX10_keep_222 ?_
                        refine lv_topi (fun v222 e222 => ?_)
                        have i222 : v222.toInt = ((r 4) k0.toNatClampNeg).toInt := congrArg Int32.toInt e222
                        have w222 := mi_h hI (x := k0) (by omega) (by omega) e222
                        refine lv_icmp_ge (tgt := 242) hx hb dX10_keep_223 (by decide) (fun c223 => ?_) (fun c223 => ?_)
                        · skip
                          have d223 := c223
                          rw [fa_le] at d223
                          refine lv_aload_n hx hb dX10_keep_242 rfl (lv_at hl 2 rfl) ?_
                          refine m_get (v := .ref (a 5)) hx hb hts hin hown hK hP 5 (by decide) rfl (hts (.fieldLink RX10 19 "ShadowBenchModel" "sums" "[I") (by decide +kernel)) rfl dX10_keep_243 ?_
                          refine lv_bipush (v := 44) hx hb dX10_keep_246 (by decide) ?_
                          refine lv_iload_n hx hb dX10_keep_248 rfl (lv_at hl 5 rfl) ?_
                          refine lv_imul hx hb dX10_keep_249 ?_
                          refine lv_topi (fun v249 e249 => ?_)
                          have i249 : v249.toInt = 44 * k0.toInt := by rw [e249]; exact mulcL rfl (by omega) (by omega)
                          refine lv_bipush (v := 11) hx hb dX10_keep_250 (by decide) ?_
                          refine lv_iadd hx hb dX10_keep_252 ?_
                          refine lv_topi (fun v252 e252 => ?_)
                          have i252 : v252.toInt = v249.toInt + (11 : Int32).toInt := by rw [e252]; exact fb_addI (by omega) (by omega)
                          refine lv_iload hx hb dX10_keep_253 (lv_at hl 0 rfl) ?_
                          refine lv_iadd hx hb dX10_keep_255 ?_
                          refine lv_topi (fun v255 e255 => ?_)
                          have i255 : v255.toInt = v252.toInt + (nI i).toInt := by rw [e255]; exact fb_addI (by omega) (by omega)
                          refine lv_aload_n hx hb dX10_keep_256 rfl (lv_at hl 2 rfl) ?_
                          refine m_get (v := .ref (a 4)) hx hb hts hin hown hK hP 4 (by decide) rfl (hts (.fieldLink RX10 16 "ShadowBenchModel" "high" "[I") (by decide +kernel)) rfl dX10_keep_257 ?_
                          refine lv_iload_n hx hb dX10_keep_260 rfl (lv_at hl 5 rfl) ?_
                          refine m_iald (w := (r 4)) hx hb hK hP 3 rfl (vp_in_iff.mpr ⟨by omega, by omega⟩) dX10_keep_261 ?_
                          refine lv_topi (fun v261 e261 => ?_)
                          have i261 : v261.toInt = ((r 4) k0.toNatClampNeg).toInt := congrArg Int32.toInt e261
                          have w261 := mi_h hI (x := k0) (by omega) (by omega) e261
                          refine lv_isub hx hb dX10_keep_262 ?_
                          refine lv_topi (fun v262 e262 => ?_)
                          have i262 : v262.toInt = v255.toInt - v261.toInt := by rw [e262]; exact fb_subI (by omega) (by omega)
                          refine m_iald (w := (r 5)) hx hb hK hP 4 rfl (vp_in_iff.mpr ⟨by omega, by omega⟩) dX10_keep_263 ?_
                          refine lv_topi (fun v263 e263 => ?_)
                          have i263 : v263.toInt = ((r 5) v262.toNatClampNeg).toInt := congrArg Int32.toInt e263
                          refine lv_i2l (v := v263.toInt64) hx hb dX10_keep_264 rfl ?_
                          refine m_last (w := s3) hx hb hK hP hD hS 21 rfl (vp_in_iff.mpr ⟨by omega, by omega⟩) (va_up (va_up q 33 s3) 33 (vp_updL s3 v198.toNatClampNeg v263.toInt64)) (ms_33 cy mo a _ _ _ _ _) dX10_keep_265 (fun H locs hP hS => ?_)
                          have hP := wm_eq rfl rfl rfl (es_q_33__33 q s3 (vp_updL s3 v198.toNatClampNeg v263.toInt64)) hP
                          refine lv_iinc (v := (nI (i + 1))) (lv' := [(7, .int (nI (i + 1))), (6, .int (1 : Int32)), (0, .ref mo), (1, .int d), (2, .int what), (3, .int k0), (4, .long p0)]) hx hb dX10_keep_266 hl (k := 0) rfl (nI_1 _) (by decide) rfl (fun ls hl => ?_)
                          refine lv_goto (tgt := 177) hx hb dX10_keep_269 (by decide) ?_
                          have hP := wm_eq rfl rfl (ec_r_29_30_31_32__29_30_31_32 r ((upd (r 29) d.toNatClampNeg what)) ((upd (r 30) d.toNatClampNeg v131)) ((upd (r 31) d.toNatClampNeg r149)) ((upd (r 32) d.toNatClampNeg k0))) rfl hP
                          exact ih_177 (i + 1) (vp_updL s3 v198.toNatClampNeg v263.toInt64) (by omega) (by omega) _ _ hP hS ls (lv_sub hl [0, 1, 2, 3, 4, 5, 6] rfl)
                        · skip
                          have d223 := c223
                          rw [fa_le] at d223
                          refine lv_aload_n hx hb dX10_keep_226 rfl (lv_at hl 2 rfl) ?_
                          refine m_get (v := .ref (a 5)) hx hb hts hin hown hK hP 5 (by decide) rfl (hts (.fieldLink RX10 19 "ShadowBenchModel" "sums" "[I") (by decide +kernel)) rfl dX10_keep_227 ?_
                          refine lv_bipush (v := 44) hx hb dX10_keep_230 (by decide) ?_
                          refine lv_iload_n hx hb dX10_keep_232 rfl (lv_at hl 5 rfl) ?_
                          refine lv_imul hx hb dX10_keep_233 ?_
                          refine lv_topi (fun v233 e233 => ?_)
                          have i233 : v233.toInt = 44 * k0.toInt := by rw [e233]; exact mulcL rfl (by omega) (by omega)
                          refine lv_iload hx hb dX10_keep_234 (lv_at hl 0 rfl) ?_
                          refine lv_iadd hx hb dX10_keep_236 ?_
                          refine lv_topi (fun v236 e236 => ?_)
                          have i236 : v236.toInt = v233.toInt + (nI i).toInt := by rw [e236]; exact fb_addI (by omega) (by omega)
                          refine m_iald (w := (r 5)) hx hb hK hP 4 rfl (vp_in_iff.mpr ⟨by omega, by omega⟩) dX10_keep_237 ?_
                          refine lv_topi (fun v237 e237 => ?_)
                          have i237 : v237.toInt = ((r 5) v236.toNatClampNeg).toInt := congrArg Int32.toInt e237
                          refine lv_i2l (v := v237.toInt64) hx hb dX10_keep_238 rfl ?_
                          refine lv_goto (tgt := 265) hx hb dX10_keep_239 (by decide) ?_
                          refine m_last (w := s3) hx hb hK hP hD hS 21 rfl (vp_in_iff.mpr ⟨by omega, by omega⟩) (va_up (va_up q 33 s3) 33 (vp_updL s3 v198.toNatClampNeg v237.toInt64)) (ms_33 cy mo a _ _ _ _ _) dX10_keep_265 (fun H locs hP hS => ?_)
                          have hP := wm_eq rfl rfl rfl (es_q_33__33 q s3 (vp_updL s3 v198.toNatClampNeg v237.toInt64)) hP
                          refine lv_iinc (v := (nI (i + 1))) (lv' := [(7, .int (nI (i + 1))), (6, .int (1 : Int32)), (0, .ref mo), (1, .int d), (2, .int what), (3, .int k0), (4, .long p0)]) hx hb dX10_keep_266 hl (k := 0) rfl (nI_1 _) (by decide) rfl (fun ls hl => ?_)
                          refine lv_goto (tgt := 177) hx hb dX10_keep_269 (by decide) ?_
                          have hP := wm_eq rfl rfl (ec_r_29_30_31_32__29_30_31_32 r ((upd (r 29) d.toNatClampNeg what)) ((upd (r 30) d.toNatClampNeg v131)) ((upd (r 31) d.toNatClampNeg r149)) ((upd (r 32) d.toNatClampNeg k0))) rfl hP
                          exact ih_177 (i + 1) (vp_updL s3 v198.toNatClampNeg v237.toInt64) (by omega) (by omega) _ _ hP hS ls (lv_sub hl [0, 1, 2, 3, 4, 5, 6] rfl)
                      · first | exact absurd c201 c95 | exact absurd c95 c201
                have hP := wm_eq rfl rfl (ec_r_29_30_31_32__29_30_31_32 r ((upd (r 29) d.toNatClampNeg what)) ((upd (r 30) d.toNatClampNeg v131)) ((upd (r 31) d.toNatClampNeg r149)) ((upd (r 32) d.toNatClampNeg k0))) (ec_q___33 q ) hP
                exact loop_177 (60 + 1) 0 (q 33) (by omega) (by omega) _ _ hP hS ls (lv_sub hl [0, 1, 2, 3, 4, 5, 6] rfl)
              · skip
                have d164 := c164
                rw [fa_eq] at d164
                refine lv_bipush (v := (-15)) hx hb dX10_keep_167 (by decide) ?_
                refine lv_goto (tgt := 173) hx hb dX10_keep_169 (by decide) ?_
                refine m_iast (w := (r 32)) hx hb hK hP hD hS 20 rfl (vp_in_iff.mpr ⟨by omega, by omega⟩) (va_up (va_up (va_up (va_up r 29 ((upd (r 29) d.toNatClampNeg what))) 30 ((upd (r 30) d.toNatClampNeg v131))) 31 ((upd (r 31) d.toNatClampNeg r149))) 32 (upd (r 32) d.toNatClampNeg (((-15) : Int32)))) (ms_32 cy mo a _ _ _ _ _) dX10_keep_173 (fun H locs hP hS => ?_)
                refine lv_iconst (v := 0) hx hb dX10_keep_174 (by decide) ?_
                refine lv_istore (lv' := [(7, .int (0 : Int32)), (6, .int (1 : Int32)), (0, .ref mo), (1, .int d), (2, .int what), (3, .int k0), (4, .long p0)]) hx hb dX10_keep_175 hl (by decide) rfl (fun ls hl => ?_)
                have loop_177 : ∀ (n : Nat) (i : Nat) (s3 : Nat → Int64), (i ≤ 60) → 60 - i < n → ∀ (H : Heap) (locs : List Loc), va_P D vwCl (WM cy mo a (upd f 0 (0 : Int32)) g (va_up (va_up (va_up (va_up r 29 ((upd (r 29) d.toNatClampNeg what))) 30 ((upd (r 30) d.toNatClampNeg v131))) 31 ((upd (r 31) d.toNatClampNeg r149))) 32 ((upd (r 32) d.toNatClampNeg (((-15) : Int32))))) (va_up q 33 s3)) H → va_S (AM mo a) s.heap H locs → ∀ (ls : Array Slot), lv_has ls 8 [(7, .int (nI i)), (6, .int (1 : Int32)), (0, .ref mo), (1, .int d), (2, .int what), (3, .int k0), (4, .long p0)] → W p l e (headSpec wsX10_keep ({ frames := 3, cells := 0, slots := 0, locals := 69 })).room s m #[Value.ref mo, Value.int d, Value.int what, Value.int k0, Value.long p0] below meth c H locs 0 0 (MQ below (va_Qi (fun r0 u => ∃ (sh : Nat → Int32), ∃ (sz : Nat → Int32), ∃ (sw : Nat → Int32), ∃ (sf : Nat → Int32), ∃ (sr : Nat → Int64), u = ((upd f 0 (0 : Int32)), g, (va_up (va_up (va_up (va_up r 29 sh) 30 sz) 31 sw) 32 sf), (va_up q 33 sr)) ∧ (MI (upd f 0 (0 : Int32)) (va_up (va_up (va_up (va_up r 29 sh) 30 sz) 31 sw) 32 sf))) (mB D cy mo a) (AM mo a)) #[Value.ref mo, Value.int d, Value.int what, Value.int k0, Value.long p0] s 0 0 (AM mo a)) (F0 m 177 ls []) := by
                  intro n
                  induction n with
                  | zero => intro i s3 j177_0 hn; exact absurd hn (Nat.not_lt_zero _)
                  | succ n ih_177 =>
                    intro i s3 j177_0 hn_177 H locs hP hS ls hl
                    have ii : (nI i).toInt = (i : Int) := nI_toInt (by omega)
                    refine lv_iload hx hb dX10_keep_177 (lv_at hl 0 rfl) ?_
                    refine lv_aload_n hx hb dX10_keep_179 rfl (lv_at hl 2 rfl) ?_
                    refine m_get (v := .ref (a 30)) hx hb hts hin hown hK hP 30 (by decide) rfl (hts (.fieldLink RX10 64 "ShadowBenchModel" "shelfSize" "[I") (by decide +kernel)) rfl dX10_keep_180 ?_
                    refine lv_iload_n hx hb dX10_keep_183 rfl (lv_at hl 3 rfl) ?_
                    refine m_iald (w := ((upd (r 30) d.toNatClampNeg v131))) hx hb hK hP 18 rfl (vp_in_iff.mpr ⟨by omega, by omega⟩) dX10_keep_184 ?_
                    refine lv_topi (fun v184 e184 => ?_)
                    have i184 : v184.toInt = (((upd (r 30) d.toNatClampNeg v131)) d.toNatClampNeg).toInt := congrArg Int32.toInt e184
                    have z184 := e184
                    simp only [upd, if_true] at z184
                    have y184 := congrArg Int32.toInt z184
                    refine lv_icmp_ge (tgt := 272) hx hb dX10_keep_185 (by decide) (fun c185 => ?_) (fun c185 => ?_)
                    · skip
                      have d185 := c185
                      rw [fa_le] at d185
                      refine lv_iconst (v := 0) hx hb dX10_keep_272 (by decide) ?_
                      have hP := wm_eq rfl rfl (ec_r_29_30_31_32__29_30_31_32 r ((upd (r 29) d.toNatClampNeg what)) ((upd (r 30) d.toNatClampNeg v131)) ((upd (r 31) d.toNatClampNeg r149)) ((upd (r 32) d.toNatClampNeg (((-15) : Int32))))) rfl hP
                      exact W.iret (v := (0 : Int32)) hx hb hr (fun t ht hW => ⟨⟨_, ((upd f 0 (0 : Int32)), g, (va_up (va_up (va_up (va_up r 29 (((upd (r 29) d.toNatClampNeg what)))) 30 (((upd (r 30) d.toNatClampNeg v131)))) 31 (((upd (r 31) d.toNatClampNeg r149)))) 32 (((upd (r 32) d.toNatClampNeg (((-15) : Int32)))))), (va_up q 33 s3)), rfl, ⟨((upd (r 29) d.toNatClampNeg what)), ((upd (r 30) d.toNatClampNeg v131)), ((upd (r 31) d.toNatClampNeg r149)), ((upd (r 32) d.toNatClampNeg (((-15) : Int32)))), s3, rfl, by first | exact hI | exact mi_sz (d := d) hI (v := v110) (by omega) rfl rfl rfl rfl rfl rfl rfl rfl | exact mi_sz (d := d) hI (v := v131) (by omega) rfl rfl rfl rfl rfl rfl rfl rfl | exact mi_sz (d := d) hI (v := 0) (by decide) rfl rfl rfl rfl rfl rfl rfl rfl⟩, by unfold mB; rw [ht]; exact hP⟩, hS.F ht⟩) hS.2.2 dX10_keep_273
                    · skip
                      have d185 := c185
                      rw [fa_le] at d185
                      refine lv_aload_n hx hb dX10_keep_188 rfl (lv_at hl 2 rfl) ?_
                      refine m_get (v := .ref (a 33)) hx hb hts hin hown hK hP 33 (by decide) rfl (hts (.fieldLink RX10 73 "ShadowBenchModel" "shelfRow" "[J") (by decide +kernel)) rfl dX10_keep_189 ?_
                      refine lv_bipush (v := 60) hx hb dX10_keep_192 (by decide) ?_
                      refine lv_iload_n hx hb dX10_keep_194 rfl (lv_at hl 3 rfl) ?_
                      refine lv_imul hx hb dX10_keep_195 ?_
                      refine lv_topi (fun v195 e195 => ?_)
                      have i195 : v195.toInt = 60 * d.toInt := by rw [e195]; exact mulcL rfl (by omega) (by omega)
                      refine lv_iload hx hb dX10_keep_196 (lv_at hl 0 rfl) ?_
                      refine lv_iadd hx hb dX10_keep_198 ?_
                      refine lv_topi (fun v198 e198 => ?_)
                      have i198 : v198.toInt = v195.toInt + (nI i).toInt := by rw [e198]; exact fb_addI (by omega) (by omega)
                      refine lv_iload_n hx hb dX10_keep_199 rfl (lv_at hl 4 rfl) ?_
                      refine lv_iconst (v := 3) hx hb dX10_keep_200 (by decide) ?_
                      refine lv_icmp_ne (tgt := 215) hx hb dX10_keep_201 (by decide) (fun c201 => ?_) (fun c201 => ?_)
                      · skip
                        have d201 := c201
                        rw [fa_eq] at d201
                        refine lv_iload hx hb dX10_keep_215 (lv_at hl 0 rfl) ?_
                        refine lv_aload_n hx hb dX10_keep_217 rfl (lv_at hl 2 rfl) ?_
                        refine m_get (v := .ref (a 4)) hx hb hts hin hown hK hP 4 (by decide) rfl (hts (.fieldLink RX10 16 "ShadowBenchModel" "high" "[I") (by decide +kernel)) rfl dX10_keep_218 ?_
                        refine lv_iload_n hx hb dX10_keep_221 rfl (lv_at hl 5 rfl) ?_
                        refine m_iald (w := (r 4)) hx hb hK hP 3 rfl (vp_in_iff.mpr ⟨by omega, by omega⟩) dX10_keep_222 ?_
                        refine lv_topi (fun v222 e222 => ?_)
                        have i222 : v222.toInt = ((r 4) k0.toNatClampNeg).toInt := congrArg Int32.toInt e222
                        have w222 := mi_h hI (x := k0) (by omega) (by omega) e222
                        refine lv_icmp_ge (tgt := 242) hx hb dX10_keep_223 (by decide) (fun c223 => ?_) (fun c223 => ?_)
                        · skip
                          have d223 := c223
                          rw [fa_le] at d223
                          refine lv_aload_n hx hb dX10_keep_242 rfl (lv_at hl 2 rfl) ?_
                          refine m_get (v := .ref (a 5)) hx hb hts hin hown hK hP 5 (by decide) rfl (hts (.fieldLink RX10 19 "ShadowBenchModel" "sums" "[I") (by decide +kernel)) rfl dX10_keep_243 ?_
                          refine lv_bipush (v := 44) hx hb dX10_keep_246 (by decide) ?_
                          refine lv_iload_n hx hb dX10_keep_248 rfl (lv_at hl 5 rfl) ?_
                          refine lv_imul hx hb dX10_keep_249 ?_
                          refine lv_topi (fun v249 e249 => ?_)
                          have i249 : v249.toInt = 44 * k0.toInt := by rw [e249]; exact mulcL rfl (by omega) (by omega)
                          refine lv_bipush (v := 11) hx hb dX10_keep_250 (by decide) ?_
                          refine lv_iadd hx hb dX10_keep_252 ?_
                          refine lv_topi (fun v252 e252 => ?_)
                          have i252 : v252.toInt = v249.toInt + (11 : Int32).toInt := by rw [e252]; exact fb_addI (by omega) (by omega)
                          refine lv_iload hx hb dX10_keep_253 (lv_at hl 0 rfl) ?_
                          refine lv_iadd hx hb dX10_keep_255 ?_
                          refine lv_topi (fun v255 e255 => ?_)
                          have i255 : v255.toInt = v252.toInt + (nI i).toInt := by rw [e255]; exact fb_addI (by omega) (by omega)
                          refine lv_aload_n hx hb dX10_keep_256 rfl (lv_at hl 2 rfl) ?_
                          refine m_get (v := .ref (a 4)) hx hb hts hin hown hK hP 4 (by decide) rfl (hts (.fieldLink RX10 16 "ShadowBenchModel" "high" "[I") (by decide +kernel)) rfl dX10_keep_257 ?_
                          refine lv_iload_n hx hb dX10_keep_260 rfl (lv_at hl 5 rfl) ?_
                          refine m_iald (w := (r 4)) hx hb hK hP 3 rfl (vp_in_iff.mpr ⟨by omega, by omega⟩) dX10_keep_261 ?_
                          refine lv_topi (fun v261 e261 => ?_)
                          have i261 : v261.toInt = ((r 4) k0.toNatClampNeg).toInt := congrArg Int32.toInt e261
                          have w261 := mi_h hI (x := k0) (by omega) (by omega) e261
                          refine lv_isub hx hb dX10_keep_262 ?_
                          refine lv_topi (fun v262 e262 => ?_)
                          have i262 : v262.toInt = v255.toInt - v261.toInt := by rw [e262]; exact fb_subI (by omega) (by omega)
                          refine m_iald (w := (r 5)) hx hb hK hP 4 rfl (vp_in_iff.mpr ⟨by omega, by omega⟩) dX10_keep_263 ?_
                          refine lv_topi (fun v263 e263 => ?_)
                          have i263 : v263.toInt = ((r 5) v262.toNatClampNeg).toInt := congrArg Int32.toInt e263
                          refine lv_i2l (v := v263.toInt64) hx hb dX10_keep_264 rfl ?_
                          refine m_last (w := s3) hx hb hK hP hD hS 21 rfl (vp_in_iff.mpr ⟨by omega, by omega⟩) (va_up (va_up q 33 s3) 33 (vp_updL s3 v198.toNatClampNeg v263.toInt64)) (ms_33 cy mo a _ _ _ _ _) dX10_keep_265 (fun H locs hP hS => ?_)
                          have hP := wm_eq rfl rfl rfl (es_q_33__33 q s3 (vp_updL s3 v198.toNatClampNeg v263.toInt64)) hP
                          refine lv_iinc (v := (nI (i + 1))) (lv' := [(7, .int (nI (i + 1))), (6, .int (1 : Int32)), (0, .ref mo), (1, .int d), (2, .int what), (3, .int k0), (4, .long p0)]) hx hb dX10_keep_266 hl (k := 0) rfl (nI_1 _) (by decide) rfl (fun ls hl => ?_)
                          refine lv_goto (tgt := 177) hx hb dX10_keep_269 (by decide) ?_
                          have hP := wm_eq rfl rfl (ec_r_29_30_31_32__29_30_31_32 r ((upd (r 29) d.toNatClampNeg what)) ((upd (r 30) d.toNatClampNeg v131)) ((upd (r 31) d.toNatClampNeg r149)) ((upd (r 32) d.toNatClampNeg (((-15) : Int32))))) rfl hP
                          exact ih_177 (i + 1) (vp_updL s3 v198.toNatClampNeg v263.toInt64) (by omega) (by omega) _ _ hP hS ls (lv_sub hl [0, 1, 2, 3, 4, 5, 6] rfl)
                        · skip
                          have d223 := c223
                          rw [fa_le] at d223
                          refine lv_aload_n hx hb dX10_keep_226 rfl (lv_at hl 2 rfl) ?_
                          refine m_get (v := .ref (a 5)) hx hb hts hin hown hK hP 5 (by decide) rfl (hts (.fieldLink RX10 19 "ShadowBenchModel" "sums" "[I") (by decide +kernel)) rfl dX10_keep_227 ?_
                          refine lv_bipush (v := 44) hx hb dX10_keep_230 (by decide) ?_
                          refine lv_iload_n hx hb dX10_keep_232 rfl (lv_at hl 5 rfl) ?_
                          refine lv_imul hx hb dX10_keep_233 ?_
                          refine lv_topi (fun v233 e233 => ?_)
                          have i233 : v233.toInt = 44 * k0.toInt := by rw [e233]; exact mulcL rfl (by omega) (by omega)
                          refine lv_iload hx hb dX10_keep_234 (lv_at hl 0 rfl) ?_
                          refine lv_iadd hx hb dX10_keep_236 ?_
                          refine lv_topi (fun v236 e236 => ?_)
                          have i236 : v236.toInt = v233.toInt + (nI i).toInt := by rw [e236]; exact fb_addI (by omega) (by omega)
                          refine m_iald (w := (r 5)) hx hb hK hP 4 rfl (vp_in_iff.mpr ⟨by omega, by omega⟩) dX10_keep_237 ?_
                          refine lv_topi (fun v237 e237 => ?_)
                          have i237 : v237.toInt = ((r 5) v236.toNatClampNeg).toInt := congrArg Int32.toInt e237
                          refine lv_i2l (v := v237.toInt64) hx hb dX10_keep_238 rfl ?_
                          refine lv_goto (tgt := 265) hx hb dX10_keep_239 (by decide) ?_
                          refine m_last (w := s3) hx hb hK hP hD hS 21 rfl (vp_in_iff.mpr ⟨by omega, by omega⟩) (va_up (va_up q 33 s3) 33 (vp_updL s3 v198.toNatClampNeg v237.toInt64)) (ms_33 cy mo a _ _ _ _ _) dX10_keep_265 (fun H locs hP hS => ?_)
                          have hP := wm_eq rfl rfl rfl (es_q_33__33 q s3 (vp_updL s3 v198.toNatClampNeg v237.toInt64)) hP
                          refine lv_iinc (v := (nI (i + 1))) (lv' := [(7, .int (nI (i + 1))), (6, .int (1 : Int32)), (0, .ref mo), (1, .int d), (2, .int what), (3, .int k0), (4, .long p0)]) hx hb dX10_keep_266 hl (k := 0) rfl (nI_1 _) (by decide) rfl (fun ls hl => ?_)
                          refine lv_goto (tgt := 177) hx hb dX10_keep_269 (by decide) ?_
                          have hP := wm_eq rfl rfl (ec_r_29_30_31_32__29_30_31_32 r ((upd (r 29) d.toNatClampNeg what)) ((upd (r 30) d.toNatClampNeg v131)) ((upd (r 31) d.toNatClampNeg r149)) ((upd (r 32) d.toNatClampNeg (((-15) : Int32))))) rfl hP
                          exact ih_177 (i + 1) (vp_updL s3 v198.toNatClampNeg v237.toInt64) (by omega) (by omega) _ _ hP hS ls (lv_sub hl [0, 1, 2, 3, 4, 5, 6] rfl)
                      · first | exact absurd c201 c95 | exact absurd c95 c201
                have hP := wm_eq rfl rfl (ec_r_29_30_31_32__29_30_31_32 r ((upd (r 29) d.toNatClampNeg what)) ((upd (r 30) d.toNatClampNeg v131)) ((upd (r 31) d.toNatClampNeg r149)) ((upd (r 32) d.toNatClampNeg (((-15) : Int32))))) (ec_q___33 q ) hP
                exact loop_177 (60 + 1) 0 (q 33) (by omega) (by omega) _ _ hP hS ls (lv_sub hl [0, 1, 2, 3, 4, 5, 6] rfl)
        · skip
          have d95 := c95
          rw [fa_eq] at d95
          refine lv_aload_n hx hb dX10_keep_98 rfl (lv_at hl 1 rfl) ?_
          refine m_get (v := .ref (a 3)) hx hb hts hin hown hK hP 3 (by decide) rfl (hts (.fieldLink RX10 13 "ShadowBenchModel" "wide" "[I") (by decide +kernel)) rfl dX10_keep_99 ?_
          refine lv_iload_n hx hb dX10_keep_102 rfl (lv_at hl 4 rfl) ?_
          refine m_iald (w := (r 3)) hx hb hK hP 2 rfl (vp_in_iff.mpr ⟨by omega, by omega⟩) dX10_keep_103 ?_
          refine lv_topi (fun v103 e103 => ?_)
          have i103 : v103.toInt = ((r 3) k0.toNatClampNeg).toInt := congrArg Int32.toInt e103
          have w103 := mi_w hI (x := k0) (by omega) (by omega) e103
          refine lv_aload_n hx hb dX10_keep_104 rfl (lv_at hl 1 rfl) ?_
          refine m_get (v := .ref (a 4)) hx hb hts hin hown hK hP 4 (by decide) rfl (hts (.fieldLink RX10 16 "ShadowBenchModel" "high" "[I") (by decide +kernel)) rfl dX10_keep_105 ?_
          refine lv_iload_n hx hb dX10_keep_108 rfl (lv_at hl 4 rfl) ?_
          refine m_iald (w := (r 4)) hx hb hK hP 3 rfl (vp_in_iff.mpr ⟨by omega, by omega⟩) dX10_keep_109 ?_
          refine lv_topi (fun v109 e109 => ?_)
          have i109 : v109.toInt = ((r 4) k0.toNatClampNeg).toInt := congrArg Int32.toInt e109
          have w109 := mi_h hI (x := k0) (by omega) (by omega) e109
          have m110 := mul66 w103 w109
          refine lv_imul hx hb dX10_keep_110 ?_
          refine lv_topi (fun v110 e110 => ?_)
          have i110 : v110.toInt = v103.toInt * v109.toInt := by rw [e110]; exact fb_mulI (by omega) (by omega)
          refine lv_goto (tgt := 136) hx hb dX10_keep_111 (by decide) ?_
          refine m_iast (w := (r 30)) hx hb hK hP hD hS 18 rfl (vp_in_iff.mpr ⟨by omega, by omega⟩) (va_up (va_up r 29 ((upd (r 29) d.toNatClampNeg what))) 30 (upd (r 30) d.toNatClampNeg v110)) (ms_30 cy mo a _ _ _ _ _) dX10_keep_136 (fun H locs hP hS => ?_)
          refine lv_iload_n hx hb dX10_keep_137 rfl (lv_at hl 3 rfl) ?_
          refine lv_iconst (v := 1) hx hb dX10_keep_138 (by decide) ?_
          refine lv_icmp_ne (tgt := 174) hx hb dX10_keep_139 (by decide) (fun c139 => ?_) (fun c139 => ?_)
          · skip
            have d139 := c139
            rw [fa_eq] at d139
            refine lv_iconst (v := 0) hx hb dX10_keep_174 (by decide) ?_
            refine lv_istore (lv' := [(7, .int (0 : Int32)), (6, .int (1 : Int32)), (0, .ref mo), (1, .int d), (2, .int what), (3, .int k0), (4, .long p0)]) hx hb dX10_keep_175 hl (by decide) rfl (fun ls hl => ?_)
            have loop_177 : ∀ (n : Nat) (i : Nat) (s3 : Nat → Int64), (i ≤ 60) → 60 - i < n → ∀ (H : Heap) (locs : List Loc), va_P D vwCl (WM cy mo a (upd f 0 (0 : Int32)) g (va_up (va_up r 29 ((upd (r 29) d.toNatClampNeg what))) 30 ((upd (r 30) d.toNatClampNeg v110))) (va_up q 33 s3)) H → va_S (AM mo a) s.heap H locs → ∀ (ls : Array Slot), lv_has ls 8 [(7, .int (nI i)), (6, .int (1 : Int32)), (0, .ref mo), (1, .int d), (2, .int what), (3, .int k0), (4, .long p0)] → W p l e (headSpec wsX10_keep ({ frames := 3, cells := 0, slots := 0, locals := 69 })).room s m #[Value.ref mo, Value.int d, Value.int what, Value.int k0, Value.long p0] below meth c H locs 0 0 (MQ below (va_Qi (fun r0 u => ∃ (sh : Nat → Int32), ∃ (sz : Nat → Int32), ∃ (sw : Nat → Int32), ∃ (sf : Nat → Int32), ∃ (sr : Nat → Int64), u = ((upd f 0 (0 : Int32)), g, (va_up (va_up (va_up (va_up r 29 sh) 30 sz) 31 sw) 32 sf), (va_up q 33 sr)) ∧ (MI (upd f 0 (0 : Int32)) (va_up (va_up (va_up (va_up r 29 sh) 30 sz) 31 sw) 32 sf))) (mB D cy mo a) (AM mo a)) #[Value.ref mo, Value.int d, Value.int what, Value.int k0, Value.long p0] s 0 0 (AM mo a)) (F0 m 177 ls []) := by
              intro n
              induction n with
              | zero => intro i s3 j177_0 hn; exact absurd hn (Nat.not_lt_zero _)
              | succ n ih_177 =>
                intro i s3 j177_0 hn_177 H locs hP hS ls hl
                have ii : (nI i).toInt = (i : Int) := nI_toInt (by omega)
                refine lv_iload hx hb dX10_keep_177 (lv_at hl 0 rfl) ?_
                refine lv_aload_n hx hb dX10_keep_179 rfl (lv_at hl 2 rfl) ?_
                refine m_get (v := .ref (a 30)) hx hb hts hin hown hK hP 30 (by decide) rfl (hts (.fieldLink RX10 64 "ShadowBenchModel" "shelfSize" "[I") (by decide +kernel)) rfl dX10_keep_180 ?_
                refine lv_iload_n hx hb dX10_keep_183 rfl (lv_at hl 3 rfl) ?_
                refine m_iald (w := ((upd (r 30) d.toNatClampNeg v110))) hx hb hK hP 18 rfl (vp_in_iff.mpr ⟨by omega, by omega⟩) dX10_keep_184 ?_
                refine lv_topi (fun v184 e184 => ?_)
                have i184 : v184.toInt = (((upd (r 30) d.toNatClampNeg v110)) d.toNatClampNeg).toInt := congrArg Int32.toInt e184
                have z184 := e184
                simp only [upd, if_true] at z184
                have y184 := congrArg Int32.toInt z184
                refine lv_icmp_ge (tgt := 272) hx hb dX10_keep_185 (by decide) (fun c185 => ?_) (fun c185 => ?_)
                · skip
                  have d185 := c185
                  rw [fa_le] at d185
                  refine lv_iconst (v := 0) hx hb dX10_keep_272 (by decide) ?_
                  have hP := wm_eq rfl rfl (ec_r_29_30__29_30_31_32 r ((upd (r 29) d.toNatClampNeg what)) ((upd (r 30) d.toNatClampNeg v110))) rfl hP
                  exact W.iret (v := (0 : Int32)) hx hb hr (fun t ht hW => ⟨⟨_, ((upd f 0 (0 : Int32)), g, (va_up (va_up (va_up (va_up r 29 (((upd (r 29) d.toNatClampNeg what)))) 30 (((upd (r 30) d.toNatClampNeg v110)))) 31 (r 31)) 32 (r 32)), (va_up q 33 s3)), rfl, ⟨((upd (r 29) d.toNatClampNeg what)), ((upd (r 30) d.toNatClampNeg v110)), (r 31), (r 32), s3, rfl, by first | exact hI | exact mi_sz (d := d) hI (v := v110) (by omega) rfl rfl rfl rfl rfl rfl rfl rfl | exact mi_sz (d := d) hI (v := v131) (by omega) rfl rfl rfl rfl rfl rfl rfl rfl | exact mi_sz (d := d) hI (v := 0) (by decide) rfl rfl rfl rfl rfl rfl rfl rfl⟩, by unfold mB; rw [ht]; exact hP⟩, hS.F ht⟩) hS.2.2 dX10_keep_273
                · skip
                  have d185 := c185
                  rw [fa_le] at d185
                  refine lv_aload_n hx hb dX10_keep_188 rfl (lv_at hl 2 rfl) ?_
                  refine m_get (v := .ref (a 33)) hx hb hts hin hown hK hP 33 (by decide) rfl (hts (.fieldLink RX10 73 "ShadowBenchModel" "shelfRow" "[J") (by decide +kernel)) rfl dX10_keep_189 ?_
                  refine lv_bipush (v := 60) hx hb dX10_keep_192 (by decide) ?_
                  refine lv_iload_n hx hb dX10_keep_194 rfl (lv_at hl 3 rfl) ?_
                  refine lv_imul hx hb dX10_keep_195 ?_
                  refine lv_topi (fun v195 e195 => ?_)
                  have i195 : v195.toInt = 60 * d.toInt := by rw [e195]; exact mulcL rfl (by omega) (by omega)
                  refine lv_iload hx hb dX10_keep_196 (lv_at hl 0 rfl) ?_
                  refine lv_iadd hx hb dX10_keep_198 ?_
                  refine lv_topi (fun v198 e198 => ?_)
                  have i198 : v198.toInt = v195.toInt + (nI i).toInt := by rw [e198]; exact fb_addI (by omega) (by omega)
                  refine lv_iload_n hx hb dX10_keep_199 rfl (lv_at hl 4 rfl) ?_
                  refine lv_iconst (v := 3) hx hb dX10_keep_200 (by decide) ?_
                  refine lv_icmp_ne (tgt := 215) hx hb dX10_keep_201 (by decide) (fun c201 => ?_) (fun c201 => ?_)
                  · first | exact absurd c201 c95 | exact absurd c95 c201
                  · skip
                    have d201 := c201
                    rw [fa_eq] at d201
                    refine lv_lload hx hb dX10_keep_204 (lv_at hl 6 rfl) ?_
                    refine lv_iload hx hb dX10_keep_206 (lv_at hl 0 rfl) ?_
                    refine m_pu (As := [.long p0, .int (nI i)]) (rest := [.int v198, .ref (a 33)]) ⟨hx, hb, hml, hown, hts⟩ (c_X10_one l p0 (nI i) ) (va_cwS 2 hts gX10_keep_X10_one rfl rfl rfl (by decide +kernel) ⟨Nat.le_of_ble_eq_true rfl, Nat.le_of_ble_eq_true rfl⟩) hP rfl hl.1 rfl (Nat.le_of_ble_eq_true rfl) dX10_keep_208 ⟨Nat.le_of_ble_eq_true rfl, Nat.le_of_ble_eq_true rfl⟩ hS (fun r208 H locs q208 hP hS => ?_)
                    have i208 : r208.toInt = (r_one p0 (nI i)).toInt := congrArg Int32.toInt q208
                    refine lv_i2l (v := r208.toInt64) hx hb dX10_keep_211 rfl ?_
                    refine lv_goto (tgt := 265) hx hb dX10_keep_212 (by decide) ?_
                    refine m_last (w := s3) hx hb hK hP hD hS 21 rfl (vp_in_iff.mpr ⟨by omega, by omega⟩) (va_up (va_up q 33 s3) 33 (vp_updL s3 v198.toNatClampNeg r208.toInt64)) (ms_33 cy mo a _ _ _ _ _) dX10_keep_265 (fun H locs hP hS => ?_)
                    have hP := wm_eq rfl rfl rfl (es_q_33__33 q s3 (vp_updL s3 v198.toNatClampNeg r208.toInt64)) hP
                    refine lv_iinc (v := (nI (i + 1))) (lv' := [(7, .int (nI (i + 1))), (6, .int (1 : Int32)), (0, .ref mo), (1, .int d), (2, .int what), (3, .int k0), (4, .long p0)]) hx hb dX10_keep_266 hl (k := 0) rfl (nI_1 _) (by decide) rfl (fun ls hl => ?_)
                    refine lv_goto (tgt := 177) hx hb dX10_keep_269 (by decide) ?_
                    have hP := wm_eq rfl rfl (ec_r_29_30__29_30 r ((upd (r 29) d.toNatClampNeg what)) ((upd (r 30) d.toNatClampNeg v110))) rfl hP
                    exact ih_177 (i + 1) (vp_updL s3 v198.toNatClampNeg r208.toInt64) (by omega) (by omega) _ _ hP hS ls (lv_sub hl [0, 1, 2, 3, 4, 5, 6] rfl)
            have hP := wm_eq rfl rfl (ec_r_29_30__29_30 r ((upd (r 29) d.toNatClampNeg what)) ((upd (r 30) d.toNatClampNeg v110))) (ec_q___33 q ) hP
            exact loop_177 (60 + 1) 0 (q 33) (by omega) (by omega) _ _ hP hS ls (lv_sub hl [0, 1, 2, 3, 4, 5, 6] rfl)
          · skip
            have d139 := c139
            rw [fa_eq] at d139
            refine lv_aload_n hx hb dX10_keep_142 rfl (lv_at hl 1 rfl) ?_
            refine m_get (v := .ref (a 31)) hx hb hts hin hown hK hP 31 (by decide) rfl (hts (.fieldLink RX10 67 "ShadowBenchModel" "shelfWeight" "[I") (by decide +kernel)) rfl dX10_keep_143 ?_
            refine lv_iload_n hx hb dX10_keep_146 rfl (lv_at hl 2 rfl) ?_
            refine lv_aload_n hx hb dX10_keep_147 rfl (lv_at hl 1 rfl) ?_
            refine lv_iload_n hx hb dX10_keep_148 rfl (lv_at hl 4 rfl) ?_
            refine m_calli (As := [.int k0]) (rest := [.int d, .ref (a 31)]) ⟨hx, hb, hml, hown, hts⟩ (c_X10_weightOf l D cy mo a (upd f 0 (0 : Int32)) g (va_up (va_up r 29 ((upd (r 29) d.toNatClampNeg what))) 30 ((upd (r 30) d.toNatClampNeg v110))) q k0 hD (by first | exact hI | exact mi_sz (d := d) hI (v := 0) (by first | omega | decide) rfl rfl rfl rfl rfl rfl rfl rfl | exact mi_sz (d := d) hI (v := v131) (by first | omega | decide) rfl rfl rfl rfl rfl rfl rfl rfl | exact mi_sz (d := d) hI (v := v110) (by first | omega | decide) rfl rfl rfl rfl rfl rfl rfl rfl) (show 0 ≤ k0.toInt ∧ k0.toInt < (f 1).toInt by omega)) (cwV 1 hts gX10_keep_X10_weightOf rfl rfl rfl (by decide +kernel) ⟨Nat.le_of_ble_eq_true rfl, Nat.le_of_ble_eq_true rfl⟩) hK hP rfl hl.1 rfl (Nat.le_of_ble_eq_true rfl) dX10_keep_149 ⟨Nat.le_of_ble_eq_true rfl, Nat.le_of_ble_eq_true rfl⟩ hS (fun r149 u H locs q149 hP hS => ?_)
            obtain ⟨rfl, q149⟩ := q149
            have hP : va_P D vwCl (WM cy mo a (upd f 0 (0 : Int32)) g (va_up (va_up r 29 ((upd (r 29) d.toNatClampNeg what))) 30 ((upd (r 30) d.toNatClampNeg v110))) q) H := hP
            have q149 : True := q149
            refine m_iast (w := (r 31)) hx hb hK hP hD hS 19 rfl (vp_in_iff.mpr ⟨by omega, by omega⟩) (va_up (va_up (va_up r 29 ((upd (r 29) d.toNatClampNeg what))) 30 ((upd (r 30) d.toNatClampNeg v110))) 31 (upd (r 31) d.toNatClampNeg r149)) (ms_31 cy mo a _ _ _ _ _) dX10_keep_152 (fun H locs hP hS => ?_)
            refine lv_aload_n hx hb dX10_keep_153 rfl (lv_at hl 1 rfl) ?_
            refine m_get (v := .ref (a 32)) hx hb hts hin hown hK hP 32 (by decide) rfl (hts (.fieldLink RX10 70 "ShadowBenchModel" "shelfFailure" "[I") (by decide +kernel)) rfl dX10_keep_154 ?_
            refine lv_iload_n hx hb dX10_keep_157 rfl (lv_at hl 2 rfl) ?_
            refine lv_aload_n hx hb dX10_keep_158 rfl (lv_at hl 1 rfl) ?_
            refine m_get (v := .ref (a 2)) hx hb hts hin hown hK hP 2 (by decide) rfl (hts (.fieldLink RX10 7 "ShadowBenchModel" "kind" "[I") (by decide +kernel)) rfl dX10_keep_159 ?_
            refine lv_iload_n hx hb dX10_keep_162 rfl (lv_at hl 4 rfl) ?_
            refine m_iald (w := (r 2)) hx hb hK hP 1 rfl (vp_in_iff.mpr ⟨by omega, by omega⟩) dX10_keep_163 ?_
            refine lv_topi (fun v163 e163 => ?_)
            have i163 : v163.toInt = ((r 2) k0.toNatClampNeg).toInt := congrArg Int32.toInt e163
            refine lv_if_ne (tgt := 172) hx hb dX10_keep_164 (by decide) (fun c164 => ?_) (fun c164 => ?_)
            · skip
              have d164 := c164
              rw [fa_eq] at d164
              refine lv_iload_n hx hb dX10_keep_172 rfl (lv_at hl 4 rfl) ?_
              refine m_iast (w := (r 32)) hx hb hK hP hD hS 20 rfl (vp_in_iff.mpr ⟨by omega, by omega⟩) (va_up (va_up (va_up (va_up r 29 ((upd (r 29) d.toNatClampNeg what))) 30 ((upd (r 30) d.toNatClampNeg v110))) 31 ((upd (r 31) d.toNatClampNeg r149))) 32 (upd (r 32) d.toNatClampNeg k0)) (ms_32 cy mo a _ _ _ _ _) dX10_keep_173 (fun H locs hP hS => ?_)
              refine lv_iconst (v := 0) hx hb dX10_keep_174 (by decide) ?_
              refine lv_istore (lv' := [(7, .int (0 : Int32)), (6, .int (1 : Int32)), (0, .ref mo), (1, .int d), (2, .int what), (3, .int k0), (4, .long p0)]) hx hb dX10_keep_175 hl (by decide) rfl (fun ls hl => ?_)
              have loop_177 : ∀ (n : Nat) (i : Nat) (s3 : Nat → Int64), (i ≤ 60) → 60 - i < n → ∀ (H : Heap) (locs : List Loc), va_P D vwCl (WM cy mo a (upd f 0 (0 : Int32)) g (va_up (va_up (va_up (va_up r 29 ((upd (r 29) d.toNatClampNeg what))) 30 ((upd (r 30) d.toNatClampNeg v110))) 31 ((upd (r 31) d.toNatClampNeg r149))) 32 ((upd (r 32) d.toNatClampNeg k0))) (va_up q 33 s3)) H → va_S (AM mo a) s.heap H locs → ∀ (ls : Array Slot), lv_has ls 8 [(7, .int (nI i)), (6, .int (1 : Int32)), (0, .ref mo), (1, .int d), (2, .int what), (3, .int k0), (4, .long p0)] → W p l e (headSpec wsX10_keep ({ frames := 3, cells := 0, slots := 0, locals := 69 })).room s m #[Value.ref mo, Value.int d, Value.int what, Value.int k0, Value.long p0] below meth c H locs 0 0 (MQ below (va_Qi (fun r0 u => ∃ (sh : Nat → Int32), ∃ (sz : Nat → Int32), ∃ (sw : Nat → Int32), ∃ (sf : Nat → Int32), ∃ (sr : Nat → Int64), u = ((upd f 0 (0 : Int32)), g, (va_up (va_up (va_up (va_up r 29 sh) 30 sz) 31 sw) 32 sf), (va_up q 33 sr)) ∧ (MI (upd f 0 (0 : Int32)) (va_up (va_up (va_up (va_up r 29 sh) 30 sz) 31 sw) 32 sf))) (mB D cy mo a) (AM mo a)) #[Value.ref mo, Value.int d, Value.int what, Value.int k0, Value.long p0] s 0 0 (AM mo a)) (F0 m 177 ls []) := by
                intro n
                induction n with
                | zero => intro i s3 j177_0 hn; exact absurd hn (Nat.not_lt_zero _)
                | succ n ih_177 =>
                  intro i s3 j177_0 hn_177 H locs hP hS ls hl
                  have ii : (nI i).toInt = (i : Int) := nI_toInt (by omega)
                  refine lv_iload hx hb dX10_keep_177 (lv_at hl 0 rfl) ?_
                  refine lv_aload_n hx hb dX10_keep_179 rfl (lv_at hl 2 rfl) ?_
                  refine m_get (v := .ref (a 30)) hx hb hts hin hown hK hP 30 (by decide) rfl (hts (.fieldLink RX10 64 "ShadowBenchModel" "shelfSize" "[I") (by decide +kernel)) rfl dX10_keep_180 ?_
                  refine lv_iload_n hx hb dX10_keep_183 rfl (lv_at hl 3 rfl) ?_
                  refine m_iald (w := ((upd (r 30) d.toNatClampNeg v110))) hx hb hK hP 18 rfl (vp_in_iff.mpr ⟨by omega, by omega⟩) dX10_keep_184 ?_
                  refine lv_topi (fun v184 e184 => ?_)
                  have i184 : v184.toInt = (((upd (r 30) d.toNatClampNeg v110)) d.toNatClampNeg).toInt := congrArg Int32.toInt e184
                  have z184 := e184
                  simp only [upd, if_true] at z184
                  have y184 := congrArg Int32.toInt z184
                  refine lv_icmp_ge (tgt := 272) hx hb dX10_keep_185 (by decide) (fun c185 => ?_) (fun c185 => ?_)
                  · skip
                    have d185 := c185
                    rw [fa_le] at d185
                    refine lv_iconst (v := 0) hx hb dX10_keep_272 (by decide) ?_
                    have hP := wm_eq rfl rfl (ec_r_29_30_31_32__29_30_31_32 r ((upd (r 29) d.toNatClampNeg what)) ((upd (r 30) d.toNatClampNeg v110)) ((upd (r 31) d.toNatClampNeg r149)) ((upd (r 32) d.toNatClampNeg k0))) rfl hP
                    exact W.iret (v := (0 : Int32)) hx hb hr (fun t ht hW => ⟨⟨_, ((upd f 0 (0 : Int32)), g, (va_up (va_up (va_up (va_up r 29 (((upd (r 29) d.toNatClampNeg what)))) 30 (((upd (r 30) d.toNatClampNeg v110)))) 31 (((upd (r 31) d.toNatClampNeg r149)))) 32 (((upd (r 32) d.toNatClampNeg k0)))), (va_up q 33 s3)), rfl, ⟨((upd (r 29) d.toNatClampNeg what)), ((upd (r 30) d.toNatClampNeg v110)), ((upd (r 31) d.toNatClampNeg r149)), ((upd (r 32) d.toNatClampNeg k0)), s3, rfl, by first | exact hI | exact mi_sz (d := d) hI (v := v110) (by omega) rfl rfl rfl rfl rfl rfl rfl rfl | exact mi_sz (d := d) hI (v := v131) (by omega) rfl rfl rfl rfl rfl rfl rfl rfl | exact mi_sz (d := d) hI (v := 0) (by decide) rfl rfl rfl rfl rfl rfl rfl rfl⟩, by unfold mB; rw [ht]; exact hP⟩, hS.F ht⟩) hS.2.2 dX10_keep_273
                  · skip
                    have d185 := c185
                    rw [fa_le] at d185
                    refine lv_aload_n hx hb dX10_keep_188 rfl (lv_at hl 2 rfl) ?_
                    refine m_get (v := .ref (a 33)) hx hb hts hin hown hK hP 33 (by decide) rfl (hts (.fieldLink RX10 73 "ShadowBenchModel" "shelfRow" "[J") (by decide +kernel)) rfl dX10_keep_189 ?_
                    refine lv_bipush (v := 60) hx hb dX10_keep_192 (by decide) ?_
                    refine lv_iload_n hx hb dX10_keep_194 rfl (lv_at hl 3 rfl) ?_
                    refine lv_imul hx hb dX10_keep_195 ?_
                    refine lv_topi (fun v195 e195 => ?_)
                    have i195 : v195.toInt = 60 * d.toInt := by rw [e195]; exact mulcL rfl (by omega) (by omega)
                    refine lv_iload hx hb dX10_keep_196 (lv_at hl 0 rfl) ?_
                    refine lv_iadd hx hb dX10_keep_198 ?_
                    refine lv_topi (fun v198 e198 => ?_)
                    have i198 : v198.toInt = v195.toInt + (nI i).toInt := by rw [e198]; exact fb_addI (by omega) (by omega)
                    refine lv_iload_n hx hb dX10_keep_199 rfl (lv_at hl 4 rfl) ?_
                    refine lv_iconst (v := 3) hx hb dX10_keep_200 (by decide) ?_
                    refine lv_icmp_ne (tgt := 215) hx hb dX10_keep_201 (by decide) (fun c201 => ?_) (fun c201 => ?_)
                    · first | exact absurd c201 c95 | exact absurd c95 c201
                    · skip
                      have d201 := c201
                      rw [fa_eq] at d201
                      refine lv_lload hx hb dX10_keep_204 (lv_at hl 6 rfl) ?_
                      refine lv_iload hx hb dX10_keep_206 (lv_at hl 0 rfl) ?_
                      refine m_pu (As := [.long p0, .int (nI i)]) (rest := [.int v198, .ref (a 33)]) ⟨hx, hb, hml, hown, hts⟩ (c_X10_one l p0 (nI i) ) (va_cwS 2 hts gX10_keep_X10_one rfl rfl rfl (by decide +kernel) ⟨Nat.le_of_ble_eq_true rfl, Nat.le_of_ble_eq_true rfl⟩) hP rfl hl.1 rfl (Nat.le_of_ble_eq_true rfl) dX10_keep_208 ⟨Nat.le_of_ble_eq_true rfl, Nat.le_of_ble_eq_true rfl⟩ hS (fun r208 H locs q208 hP hS => ?_)
                      have i208 : r208.toInt = (r_one p0 (nI i)).toInt := congrArg Int32.toInt q208
                      refine lv_i2l (v := r208.toInt64) hx hb dX10_keep_211 rfl ?_
                      refine lv_goto (tgt := 265) hx hb dX10_keep_212 (by decide) ?_
                      refine m_last (w := s3) hx hb hK hP hD hS 21 rfl (vp_in_iff.mpr ⟨by omega, by omega⟩) (va_up (va_up q 33 s3) 33 (vp_updL s3 v198.toNatClampNeg r208.toInt64)) (ms_33 cy mo a _ _ _ _ _) dX10_keep_265 (fun H locs hP hS => ?_)
                      have hP := wm_eq rfl rfl rfl (es_q_33__33 q s3 (vp_updL s3 v198.toNatClampNeg r208.toInt64)) hP
                      refine lv_iinc (v := (nI (i + 1))) (lv' := [(7, .int (nI (i + 1))), (6, .int (1 : Int32)), (0, .ref mo), (1, .int d), (2, .int what), (3, .int k0), (4, .long p0)]) hx hb dX10_keep_266 hl (k := 0) rfl (nI_1 _) (by decide) rfl (fun ls hl => ?_)
                      refine lv_goto (tgt := 177) hx hb dX10_keep_269 (by decide) ?_
                      have hP := wm_eq rfl rfl (ec_r_29_30_31_32__29_30_31_32 r ((upd (r 29) d.toNatClampNeg what)) ((upd (r 30) d.toNatClampNeg v110)) ((upd (r 31) d.toNatClampNeg r149)) ((upd (r 32) d.toNatClampNeg k0))) rfl hP
                      exact ih_177 (i + 1) (vp_updL s3 v198.toNatClampNeg r208.toInt64) (by omega) (by omega) _ _ hP hS ls (lv_sub hl [0, 1, 2, 3, 4, 5, 6] rfl)
              have hP := wm_eq rfl rfl (ec_r_29_30_31_32__29_30_31_32 r ((upd (r 29) d.toNatClampNeg what)) ((upd (r 30) d.toNatClampNeg v110)) ((upd (r 31) d.toNatClampNeg r149)) ((upd (r 32) d.toNatClampNeg k0))) (ec_q___33 q ) hP
              exact loop_177 (60 + 1) 0 (q 33) (by omega) (by omega) _ _ hP hS ls (lv_sub hl [0, 1, 2, 3, 4, 5, 6] rfl)
            · skip
              have d164 := c164
              rw [fa_eq] at d164
              refine lv_bipush (v := (-15)) hx hb dX10_keep_167 (by decide) ?_
              refine lv_goto (tgt := 173) hx hb dX10_keep_169 (by decide) ?_
              refine m_iast (w := (r 32)) hx hb hK hP hD hS 20 rfl (vp_in_iff.mpr ⟨by omega, by omega⟩) (va_up (va_up (va_up (va_up r 29 ((upd (r 29) d.toNatClampNeg what))) 30 ((upd (r 30) d.toNatClampNeg v110))) 31 ((upd (r 31) d.toNatClampNeg r149))) 32 (upd (r 32) d.toNatClampNeg (((-15) : Int32)))) (ms_32 cy mo a _ _ _ _ _) dX10_keep_173 (fun H locs hP hS => ?_)
              refine lv_iconst (v := 0) hx hb dX10_keep_174 (by decide) ?_
              refine lv_istore (lv' := [(7, .int (0 : Int32)), (6, .int (1 : Int32)), (0, .ref mo), (1, .int d), (2, .int what), (3, .int k0), (4, .long p0)]) hx hb dX10_keep_175 hl (by decide) rfl (fun ls hl => ?_)
              have loop_177 : ∀ (n : Nat) (i : Nat) (s3 : Nat → Int64), (i ≤ 60) → 60 - i < n → ∀ (H : Heap) (locs : List Loc), va_P D vwCl (WM cy mo a (upd f 0 (0 : Int32)) g (va_up (va_up (va_up (va_up r 29 ((upd (r 29) d.toNatClampNeg what))) 30 ((upd (r 30) d.toNatClampNeg v110))) 31 ((upd (r 31) d.toNatClampNeg r149))) 32 ((upd (r 32) d.toNatClampNeg (((-15) : Int32))))) (va_up q 33 s3)) H → va_S (AM mo a) s.heap H locs → ∀ (ls : Array Slot), lv_has ls 8 [(7, .int (nI i)), (6, .int (1 : Int32)), (0, .ref mo), (1, .int d), (2, .int what), (3, .int k0), (4, .long p0)] → W p l e (headSpec wsX10_keep ({ frames := 3, cells := 0, slots := 0, locals := 69 })).room s m #[Value.ref mo, Value.int d, Value.int what, Value.int k0, Value.long p0] below meth c H locs 0 0 (MQ below (va_Qi (fun r0 u => ∃ (sh : Nat → Int32), ∃ (sz : Nat → Int32), ∃ (sw : Nat → Int32), ∃ (sf : Nat → Int32), ∃ (sr : Nat → Int64), u = ((upd f 0 (0 : Int32)), g, (va_up (va_up (va_up (va_up r 29 sh) 30 sz) 31 sw) 32 sf), (va_up q 33 sr)) ∧ (MI (upd f 0 (0 : Int32)) (va_up (va_up (va_up (va_up r 29 sh) 30 sz) 31 sw) 32 sf))) (mB D cy mo a) (AM mo a)) #[Value.ref mo, Value.int d, Value.int what, Value.int k0, Value.long p0] s 0 0 (AM mo a)) (F0 m 177 ls []) := by
                intro n
                induction n with
                | zero => intro i s3 j177_0 hn; exact absurd hn (Nat.not_lt_zero _)
                | succ n ih_177 =>
                  intro i s3 j177_0 hn_177 H locs hP hS ls hl
                  have ii : (nI i).toInt = (i : Int) := nI_toInt (by omega)
                  refine lv_iload hx hb dX10_keep_177 (lv_at hl 0 rfl) ?_
                  refine lv_aload_n hx hb dX10_keep_179 rfl (lv_at hl 2 rfl) ?_
                  refine m_get (v := .ref (a 30)) hx hb hts hin hown hK hP 30 (by decide) rfl (hts (.fieldLink RX10 64 "ShadowBenchModel" "shelfSize" "[I") (by decide +kernel)) rfl dX10_keep_180 ?_
                  refine lv_iload_n hx hb dX10_keep_183 rfl (lv_at hl 3 rfl) ?_
                  refine m_iald (w := ((upd (r 30) d.toNatClampNeg v110))) hx hb hK hP 18 rfl (vp_in_iff.mpr ⟨by omega, by omega⟩) dX10_keep_184 ?_
                  refine lv_topi (fun v184 e184 => ?_)
                  have i184 : v184.toInt = (((upd (r 30) d.toNatClampNeg v110)) d.toNatClampNeg).toInt := congrArg Int32.toInt e184
                  have z184 := e184
                  simp only [upd, if_true] at z184
                  have y184 := congrArg Int32.toInt z184
                  refine lv_icmp_ge (tgt := 272) hx hb dX10_keep_185 (by decide) (fun c185 => ?_) (fun c185 => ?_)
                  · skip
                    have d185 := c185
                    rw [fa_le] at d185
                    refine lv_iconst (v := 0) hx hb dX10_keep_272 (by decide) ?_
                    have hP := wm_eq rfl rfl (ec_r_29_30_31_32__29_30_31_32 r ((upd (r 29) d.toNatClampNeg what)) ((upd (r 30) d.toNatClampNeg v110)) ((upd (r 31) d.toNatClampNeg r149)) ((upd (r 32) d.toNatClampNeg (((-15) : Int32))))) rfl hP
                    exact W.iret (v := (0 : Int32)) hx hb hr (fun t ht hW => ⟨⟨_, ((upd f 0 (0 : Int32)), g, (va_up (va_up (va_up (va_up r 29 (((upd (r 29) d.toNatClampNeg what)))) 30 (((upd (r 30) d.toNatClampNeg v110)))) 31 (((upd (r 31) d.toNatClampNeg r149)))) 32 (((upd (r 32) d.toNatClampNeg (((-15) : Int32)))))), (va_up q 33 s3)), rfl, ⟨((upd (r 29) d.toNatClampNeg what)), ((upd (r 30) d.toNatClampNeg v110)), ((upd (r 31) d.toNatClampNeg r149)), ((upd (r 32) d.toNatClampNeg (((-15) : Int32)))), s3, rfl, by first | exact hI | exact mi_sz (d := d) hI (v := v110) (by omega) rfl rfl rfl rfl rfl rfl rfl rfl | exact mi_sz (d := d) hI (v := v131) (by omega) rfl rfl rfl rfl rfl rfl rfl rfl | exact mi_sz (d := d) hI (v := 0) (by decide) rfl rfl rfl rfl rfl rfl rfl rfl⟩, by unfold mB; rw [ht]; exact hP⟩, hS.F ht⟩) hS.2.2 dX10_keep_273
                  · skip
                    have d185 := c185
                    rw [fa_le] at d185
                    refine lv_aload_n hx hb dX10_keep_188 rfl (lv_at hl 2 rfl) ?_
                    refine m_get (v := .ref (a 33)) hx hb hts hin hown hK hP 33 (by decide) rfl (hts (.fieldLink RX10 73 "ShadowBenchModel" "shelfRow" "[J") (by decide +kernel)) rfl dX10_keep_189 ?_
                    refine lv_bipush (v := 60) hx hb dX10_keep_192 (by decide) ?_
                    refine lv_iload_n hx hb dX10_keep_194 rfl (lv_at hl 3 rfl) ?_
                    refine lv_imul hx hb dX10_keep_195 ?_
                    refine lv_topi (fun v195 e195 => ?_)
                    have i195 : v195.toInt = 60 * d.toInt := by rw [e195]; exact mulcL rfl (by omega) (by omega)
                    refine lv_iload hx hb dX10_keep_196 (lv_at hl 0 rfl) ?_
                    refine lv_iadd hx hb dX10_keep_198 ?_
                    refine lv_topi (fun v198 e198 => ?_)
                    have i198 : v198.toInt = v195.toInt + (nI i).toInt := by rw [e198]; exact fb_addI (by omega) (by omega)
                    refine lv_iload_n hx hb dX10_keep_199 rfl (lv_at hl 4 rfl) ?_
                    refine lv_iconst (v := 3) hx hb dX10_keep_200 (by decide) ?_
                    refine lv_icmp_ne (tgt := 215) hx hb dX10_keep_201 (by decide) (fun c201 => ?_) (fun c201 => ?_)
                    · first | exact absurd c201 c95 | exact absurd c95 c201
                    · skip
                      have d201 := c201
                      rw [fa_eq] at d201
                      refine lv_lload hx hb dX10_keep_204 (lv_at hl 6 rfl) ?_
                      refine lv_iload hx hb dX10_keep_206 (lv_at hl 0 rfl) ?_
                      refine m_pu (As := [.long p0, .int (nI i)]) (rest := [.int v198, .ref (a 33)]) ⟨hx, hb, hml, hown, hts⟩ (c_X10_one l p0 (nI i) ) (va_cwS 2 hts gX10_keep_X10_one rfl rfl rfl (by decide +kernel) ⟨Nat.le_of_ble_eq_true rfl, Nat.le_of_ble_eq_true rfl⟩) hP rfl hl.1 rfl (Nat.le_of_ble_eq_true rfl) dX10_keep_208 ⟨Nat.le_of_ble_eq_true rfl, Nat.le_of_ble_eq_true rfl⟩ hS (fun r208 H locs q208 hP hS => ?_)
                      have i208 : r208.toInt = (r_one p0 (nI i)).toInt := congrArg Int32.toInt q208
                      refine lv_i2l (v := r208.toInt64) hx hb dX10_keep_211 rfl ?_
                      refine lv_goto (tgt := 265) hx hb dX10_keep_212 (by decide) ?_
                      refine m_last (w := s3) hx hb hK hP hD hS 21 rfl (vp_in_iff.mpr ⟨by omega, by omega⟩) (va_up (va_up q 33 s3) 33 (vp_updL s3 v198.toNatClampNeg r208.toInt64)) (ms_33 cy mo a _ _ _ _ _) dX10_keep_265 (fun H locs hP hS => ?_)
                      have hP := wm_eq rfl rfl rfl (es_q_33__33 q s3 (vp_updL s3 v198.toNatClampNeg r208.toInt64)) hP
                      refine lv_iinc (v := (nI (i + 1))) (lv' := [(7, .int (nI (i + 1))), (6, .int (1 : Int32)), (0, .ref mo), (1, .int d), (2, .int what), (3, .int k0), (4, .long p0)]) hx hb dX10_keep_266 hl (k := 0) rfl (nI_1 _) (by decide) rfl (fun ls hl => ?_)
                      refine lv_goto (tgt := 177) hx hb dX10_keep_269 (by decide) ?_
                      have hP := wm_eq rfl rfl (ec_r_29_30_31_32__29_30_31_32 r ((upd (r 29) d.toNatClampNeg what)) ((upd (r 30) d.toNatClampNeg v110)) ((upd (r 31) d.toNatClampNeg r149)) ((upd (r 32) d.toNatClampNeg (((-15) : Int32))))) rfl hP
                      exact ih_177 (i + 1) (vp_updL s3 v198.toNatClampNeg r208.toInt64) (by omega) (by omega) _ _ hP hS ls (lv_sub hl [0, 1, 2, 3, 4, 5, 6] rfl)
              have hP := wm_eq rfl rfl (ec_r_29_30_31_32__29_30_31_32 r ((upd (r 29) d.toNatClampNeg what)) ((upd (r 30) d.toNatClampNeg v110)) ((upd (r 31) d.toNatClampNeg r149)) ((upd (r 32) d.toNatClampNeg (((-15) : Int32))))) (ec_q___33 q ) hP
              exact loop_177 (60 + 1) 0 (q 33) (by omega) (by omega) _ _ hP hS ls (lv_sub hl [0, 1, 2, 3, 4, 5, 6] rfl)
      · first | exact absurd c76 (by decide) | exact absurd (by decide) c76
    · skip
      have d13 := c13
      rw [fa_eq] at d13
      refine lv_iload_n hx hb dX10_keep_16 rfl (lv_at hl 2 rfl) ?_
      refine lv_iconst (v := 1) hx hb dX10_keep_17 (by decide) ?_
      refine lv_icmp_eq (tgt := 26) hx hb dX10_keep_18 (by decide) (fun c18 => ?_) (fun c18 => ?_)
      · skip
        have d18 := c18
        rw [fa_eq] at d18
        refine lv_aload_n hx hb dX10_keep_26 rfl (lv_at hl 0 rfl) ?_
        refine lv_iload_n hx hb dX10_keep_27 rfl (lv_at hl 3 rfl) ?_
        refine m_calli (As := [.int k0]) (rest := []) ⟨hx, hb, hml, hown, hts⟩ (c_X10_isJob l D cy mo a (upd f 0 (0 : Int32)) g r q k0 hD) (cwV 1 hts gX10_keep_X10_isJob rfl rfl rfl (by decide +kernel) ⟨Nat.le_of_ble_eq_true rfl, Nat.le_of_ble_eq_true rfl⟩) hK hP rfl hl.1 rfl (Nat.le_of_ble_eq_true rfl) dX10_keep_28 ⟨Nat.le_of_ble_eq_true rfl, Nat.le_of_ble_eq_true rfl⟩ hS (fun r28 u H locs q28 hP hS => ?_)
        obtain ⟨rfl, q28⟩ := q28
        have hP : va_P D vwCl (WM cy mo a (upd f 0 (0 : Int32)) g r q) H := hP
        have q28 : Bo r28 (0 ≤ k0.toInt ∧ k0.toInt < ((f 1)).toInt) := q28
        refine lv_if_ne (tgt := 67) hx hb dX10_keep_31 (by decide) (fun c31 => ?_) (fun c31 => ?_)
        · skip
          have b31 := bo_t q28 c31
          refine lv_iconst (v := 1) hx hb dX10_keep_67 (by decide) ?_
          refine lv_goto (tgt := 72) hx hb dX10_keep_68 (by decide) ?_
          refine lv_istore (lv' := [(6, .int (1 : Int32)), (0, .ref mo), (1, .int d), (2, .int what), (3, .int k0), (4, .long p0)]) hx hb dX10_keep_72 hl (by decide) rfl (fun ls hl => ?_)
          refine lv_iload hx hb dX10_keep_74 (lv_at hl 0 rfl) ?_
          refine lv_if_ne (tgt := 81) hx hb dX10_keep_76 (by decide) (fun c76 => ?_) (fun c76 => ?_)
          · skip
            have d76 := c76
            rw [fa_eq] at d76
            refine lv_aload_n hx hb dX10_keep_81 rfl (lv_at hl 1 rfl) ?_
            refine m_get (v := .ref (a 29)) hx hb hts hin hown hK hP 29 (by decide) rfl (hts (.fieldLink RX10 61 "ShadowBenchModel" "shelf" "[I") (by decide +kernel)) rfl dX10_keep_82 ?_
            refine lv_iload_n hx hb dX10_keep_85 rfl (lv_at hl 2 rfl) ?_
            refine lv_iload_n hx hb dX10_keep_86 rfl (lv_at hl 3 rfl) ?_
            refine m_iast (w := (r 29)) hx hb hK hP hD hS 17 rfl (vp_in_iff.mpr ⟨by omega, by omega⟩) (va_up r 29 (upd (r 29) d.toNatClampNeg what)) (ms_29 cy mo a _ _ _ _ _) dX10_keep_87 (fun H locs hP hS => ?_)
            refine lv_aload_n hx hb dX10_keep_88 rfl (lv_at hl 1 rfl) ?_
            refine m_get (v := .ref (a 30)) hx hb hts hin hown hK hP 30 (by decide) rfl (hts (.fieldLink RX10 64 "ShadowBenchModel" "shelfSize" "[I") (by decide +kernel)) rfl dX10_keep_89 ?_
            refine lv_iload_n hx hb dX10_keep_92 rfl (lv_at hl 2 rfl) ?_
            refine lv_iload_n hx hb dX10_keep_93 rfl (lv_at hl 3 rfl) ?_
            refine lv_iconst (v := 3) hx hb dX10_keep_94 (by decide) ?_
            refine lv_icmp_ne (tgt := 114) hx hb dX10_keep_95 (by decide) (fun c95 => ?_) (fun c95 => ?_)
            · skip
              have d95 := c95
              rw [fa_eq] at d95
              refine lv_iload_n hx hb dX10_keep_114 rfl (lv_at hl 3 rfl) ?_
              refine lv_iconst (v := 4) hx hb dX10_keep_115 (by decide) ?_
              refine lv_icmp_ne (tgt := 135) hx hb dX10_keep_116 (by decide) (fun c116 => ?_) (fun c116 => ?_)
              · skip
                have d116 := c116
                rw [fa_eq] at d116
                refine lv_iconst (v := 0) hx hb dX10_keep_135 (by decide) ?_
                refine m_iast (w := (r 30)) hx hb hK hP hD hS 18 rfl (vp_in_iff.mpr ⟨by omega, by omega⟩) (va_up (va_up r 29 ((upd (r 29) d.toNatClampNeg what))) 30 (upd (r 30) d.toNatClampNeg (0 : Int32))) (ms_30 cy mo a _ _ _ _ _) dX10_keep_136 (fun H locs hP hS => ?_)
                refine lv_iload_n hx hb dX10_keep_137 rfl (lv_at hl 3 rfl) ?_
                refine lv_iconst (v := 1) hx hb dX10_keep_138 (by decide) ?_
                refine lv_icmp_ne (tgt := 174) hx hb dX10_keep_139 (by decide) (fun c139 => ?_) (fun c139 => ?_)
                · skip
                  have d139 := c139
                  rw [fa_eq] at d139
                  refine lv_iconst (v := 0) hx hb dX10_keep_174 (by decide) ?_
                  refine lv_istore (lv' := [(7, .int (0 : Int32)), (6, .int (1 : Int32)), (0, .ref mo), (1, .int d), (2, .int what), (3, .int k0), (4, .long p0)]) hx hb dX10_keep_175 hl (by decide) rfl (fun ls hl => ?_)
                  have loop_177 : ∀ (n : Nat) (i : Nat) (s3 : Nat → Int64), (i ≤ 60) → 60 - i < n → ∀ (H : Heap) (locs : List Loc), va_P D vwCl (WM cy mo a (upd f 0 (0 : Int32)) g (va_up (va_up r 29 ((upd (r 29) d.toNatClampNeg what))) 30 ((upd (r 30) d.toNatClampNeg (0 : Int32)))) (va_up q 33 s3)) H → va_S (AM mo a) s.heap H locs → ∀ (ls : Array Slot), lv_has ls 8 [(7, .int (nI i)), (6, .int (1 : Int32)), (0, .ref mo), (1, .int d), (2, .int what), (3, .int k0), (4, .long p0)] → W p l e (headSpec wsX10_keep ({ frames := 3, cells := 0, slots := 0, locals := 69 })).room s m #[Value.ref mo, Value.int d, Value.int what, Value.int k0, Value.long p0] below meth c H locs 0 0 (MQ below (va_Qi (fun r0 u => ∃ (sh : Nat → Int32), ∃ (sz : Nat → Int32), ∃ (sw : Nat → Int32), ∃ (sf : Nat → Int32), ∃ (sr : Nat → Int64), u = ((upd f 0 (0 : Int32)), g, (va_up (va_up (va_up (va_up r 29 sh) 30 sz) 31 sw) 32 sf), (va_up q 33 sr)) ∧ (MI (upd f 0 (0 : Int32)) (va_up (va_up (va_up (va_up r 29 sh) 30 sz) 31 sw) 32 sf))) (mB D cy mo a) (AM mo a)) #[Value.ref mo, Value.int d, Value.int what, Value.int k0, Value.long p0] s 0 0 (AM mo a)) (F0 m 177 ls []) := by
                    intro n
                    induction n with
                    | zero => intro i s3 j177_0 hn; exact absurd hn (Nat.not_lt_zero _)
                    | succ n ih_177 =>
                      intro i s3 j177_0 hn_177 H locs hP hS ls hl
                      have ii : (nI i).toInt = (i : Int) := nI_toInt (by omega)
                      refine lv_iload hx hb dX10_keep_177 (lv_at hl 0 rfl) ?_
                      refine lv_aload_n hx hb dX10_keep_179 rfl (lv_at hl 2 rfl) ?_
                      refine m_get (v := .ref (a 30)) hx hb hts hin hown hK hP 30 (by decide) rfl (hts (.fieldLink RX10 64 "ShadowBenchModel" "shelfSize" "[I") (by decide +kernel)) rfl dX10_keep_180 ?_
                      refine lv_iload_n hx hb dX10_keep_183 rfl (lv_at hl 3 rfl) ?_
                      refine m_iald (w := ((upd (r 30) d.toNatClampNeg (0 : Int32)))) hx hb hK hP 18 rfl (vp_in_iff.mpr ⟨by omega, by omega⟩) dX10_keep_184 ?_
                      refine lv_topi (fun v184 e184 => ?_)
                      have i184 : v184.toInt = (((upd (r 30) d.toNatClampNeg (0 : Int32))) d.toNatClampNeg).toInt := congrArg Int32.toInt e184
                      have z184 := e184
                      simp only [upd, if_true] at z184
                      have y184 := congrArg Int32.toInt z184
                      refine lv_icmp_ge (tgt := 272) hx hb dX10_keep_185 (by decide) (fun c185 => ?_) (fun c185 => ?_)
                      · skip
                        have d185 := c185
                        rw [fa_le] at d185
                        refine lv_iconst (v := 0) hx hb dX10_keep_272 (by decide) ?_
                        have hP := wm_eq rfl rfl (ec_r_29_30__29_30_31_32 r ((upd (r 29) d.toNatClampNeg what)) ((upd (r 30) d.toNatClampNeg (0 : Int32)))) rfl hP
                        exact W.iret (v := (0 : Int32)) hx hb hr (fun t ht hW => ⟨⟨_, ((upd f 0 (0 : Int32)), g, (va_up (va_up (va_up (va_up r 29 (((upd (r 29) d.toNatClampNeg what)))) 30 (((upd (r 30) d.toNatClampNeg (0 : Int32))))) 31 (r 31)) 32 (r 32)), (va_up q 33 s3)), rfl, ⟨((upd (r 29) d.toNatClampNeg what)), ((upd (r 30) d.toNatClampNeg (0 : Int32))), (r 31), (r 32), s3, rfl, by first | exact hI | exact mi_sz (d := d) hI (v := v110) (by omega) rfl rfl rfl rfl rfl rfl rfl rfl | exact mi_sz (d := d) hI (v := v131) (by omega) rfl rfl rfl rfl rfl rfl rfl rfl | exact mi_sz (d := d) hI (v := 0) (by decide) rfl rfl rfl rfl rfl rfl rfl rfl⟩, by unfold mB; rw [ht]; exact hP⟩, hS.F ht⟩) hS.2.2 dX10_keep_273
                      · skip
                        have d185 := c185
                        rw [fa_le] at d185
                        refine lv_aload_n hx hb dX10_keep_188 rfl (lv_at hl 2 rfl) ?_
                        refine m_get (v := .ref (a 33)) hx hb hts hin hown hK hP 33 (by decide) rfl (hts (.fieldLink RX10 73 "ShadowBenchModel" "shelfRow" "[J") (by decide +kernel)) rfl dX10_keep_189 ?_
                        refine lv_bipush (v := 60) hx hb dX10_keep_192 (by decide) ?_
                        refine lv_iload_n hx hb dX10_keep_194 rfl (lv_at hl 3 rfl) ?_
                        refine lv_imul hx hb dX10_keep_195 ?_
                        refine lv_topi (fun v195 e195 => ?_)
                        have i195 : v195.toInt = 60 * d.toInt := by rw [e195]; exact mulcL rfl (by omega) (by omega)
                        refine lv_iload hx hb dX10_keep_196 (lv_at hl 0 rfl) ?_
                        refine lv_iadd hx hb dX10_keep_198 ?_
                        refine lv_topi (fun v198 e198 => ?_)
                        have i198 : v198.toInt = v195.toInt + (nI i).toInt := by rw [e198]; exact fb_addI (by omega) (by omega)
                        refine lv_iload_n hx hb dX10_keep_199 rfl (lv_at hl 4 rfl) ?_
                        refine lv_iconst (v := 3) hx hb dX10_keep_200 (by decide) ?_
                        refine lv_icmp_ne (tgt := 215) hx hb dX10_keep_201 (by decide) (fun c201 => ?_) (fun c201 => ?_)
                        · skip
                          have d201 := c201
                          rw [fa_eq] at d201
                          refine lv_iload hx hb dX10_keep_215 (lv_at hl 0 rfl) ?_
                          refine lv_aload_n hx hb dX10_keep_217 rfl (lv_at hl 2 rfl) ?_
                          refine m_get (v := .ref (a 4)) hx hb hts hin hown hK hP 4 (by decide) rfl (hts (.fieldLink RX10 16 "ShadowBenchModel" "high" "[I") (by decide +kernel)) rfl dX10_keep_218 ?_
                          refine lv_iload_n hx hb dX10_keep_221 rfl (lv_at hl 5 rfl) ?_
                          refine m_iald (w := (r 4)) hx hb hK hP 3 rfl (vp_in_iff.mpr ⟨by omega, by omega⟩) dX10_keep_222 ?_
                          refine lv_topi (fun v222 e222 => ?_)
                          have i222 : v222.toInt = ((r 4) k0.toNatClampNeg).toInt := congrArg Int32.toInt e222
                          have w222 := mi_h hI (x := k0) (by omega) (by omega) e222
                          refine lv_icmp_ge (tgt := 242) hx hb dX10_keep_223 (by decide) (fun c223 => ?_) (fun c223 => ?_)
                          · skip
                            have d223 := c223
                            rw [fa_le] at d223
                            refine lv_aload_n hx hb dX10_keep_242 rfl (lv_at hl 2 rfl) ?_
                            refine m_get (v := .ref (a 5)) hx hb hts hin hown hK hP 5 (by decide) rfl (hts (.fieldLink RX10 19 "ShadowBenchModel" "sums" "[I") (by decide +kernel)) rfl dX10_keep_243 ?_
                            refine lv_bipush (v := 44) hx hb dX10_keep_246 (by decide) ?_
                            refine lv_iload_n hx hb dX10_keep_248 rfl (lv_at hl 5 rfl) ?_
                            refine lv_imul hx hb dX10_keep_249 ?_
                            refine lv_topi (fun v249 e249 => ?_)
                            have i249 : v249.toInt = 44 * k0.toInt := by rw [e249]; exact mulcL rfl (by omega) (by omega)
                            refine lv_bipush (v := 11) hx hb dX10_keep_250 (by decide) ?_
                            refine lv_iadd hx hb dX10_keep_252 ?_
                            refine lv_topi (fun v252 e252 => ?_)
                            have i252 : v252.toInt = v249.toInt + (11 : Int32).toInt := by rw [e252]; exact fb_addI (by omega) (by omega)
                            refine lv_iload hx hb dX10_keep_253 (lv_at hl 0 rfl) ?_
                            refine lv_iadd hx hb dX10_keep_255 ?_
                            refine lv_topi (fun v255 e255 => ?_)
                            have i255 : v255.toInt = v252.toInt + (nI i).toInt := by rw [e255]; exact fb_addI (by omega) (by omega)
                            refine lv_aload_n hx hb dX10_keep_256 rfl (lv_at hl 2 rfl) ?_
                            refine m_get (v := .ref (a 4)) hx hb hts hin hown hK hP 4 (by decide) rfl (hts (.fieldLink RX10 16 "ShadowBenchModel" "high" "[I") (by decide +kernel)) rfl dX10_keep_257 ?_
                            refine lv_iload_n hx hb dX10_keep_260 rfl (lv_at hl 5 rfl) ?_
                            refine m_iald (w := (r 4)) hx hb hK hP 3 rfl (vp_in_iff.mpr ⟨by omega, by omega⟩) dX10_keep_261 ?_
                            refine lv_topi (fun v261 e261 => ?_)
                            have i261 : v261.toInt = ((r 4) k0.toNatClampNeg).toInt := congrArg Int32.toInt e261
                            have w261 := mi_h hI (x := k0) (by omega) (by omega) e261
                            refine lv_isub hx hb dX10_keep_262 ?_
                            refine lv_topi (fun v262 e262 => ?_)
                            have i262 : v262.toInt = v255.toInt - v261.toInt := by rw [e262]; exact fb_subI (by omega) (by omega)
                            refine m_iald (w := (r 5)) hx hb hK hP 4 rfl (vp_in_iff.mpr ⟨by omega, by omega⟩) dX10_keep_263 ?_
                            refine lv_topi (fun v263 e263 => ?_)
                            have i263 : v263.toInt = ((r 5) v262.toNatClampNeg).toInt := congrArg Int32.toInt e263
                            refine lv_i2l (v := v263.toInt64) hx hb dX10_keep_264 rfl ?_
                            refine m_last (w := s3) hx hb hK hP hD hS 21 rfl (vp_in_iff.mpr ⟨by omega, by omega⟩) (va_up (va_up q 33 s3) 33 (vp_updL s3 v198.toNatClampNeg v263.toInt64)) (ms_33 cy mo a _ _ _ _ _) dX10_keep_265 (fun H locs hP hS => ?_)
                            have hP := wm_eq rfl rfl rfl (es_q_33__33 q s3 (vp_updL s3 v198.toNatClampNeg v263.toInt64)) hP
                            refine lv_iinc (v := (nI (i + 1))) (lv' := [(7, .int (nI (i + 1))), (6, .int (1 : Int32)), (0, .ref mo), (1, .int d), (2, .int what), (3, .int k0), (4, .long p0)]) hx hb dX10_keep_266 hl (k := 0) rfl (nI_1 _) (by decide) rfl (fun ls hl => ?_)
                            refine lv_goto (tgt := 177) hx hb dX10_keep_269 (by decide) ?_
                            have hP := wm_eq rfl rfl (ec_r_29_30__29_30 r ((upd (r 29) d.toNatClampNeg what)) ((upd (r 30) d.toNatClampNeg (0 : Int32)))) rfl hP
                            exact ih_177 (i + 1) (vp_updL s3 v198.toNatClampNeg v263.toInt64) (by omega) (by omega) _ _ hP hS ls (lv_sub hl [0, 1, 2, 3, 4, 5, 6] rfl)
                          · skip
                            have d223 := c223
                            rw [fa_le] at d223
                            refine lv_aload_n hx hb dX10_keep_226 rfl (lv_at hl 2 rfl) ?_
                            refine m_get (v := .ref (a 5)) hx hb hts hin hown hK hP 5 (by decide) rfl (hts (.fieldLink RX10 19 "ShadowBenchModel" "sums" "[I") (by decide +kernel)) rfl dX10_keep_227 ?_
                            refine lv_bipush (v := 44) hx hb dX10_keep_230 (by decide) ?_
                            refine lv_iload_n hx hb dX10_keep_232 rfl (lv_at hl 5 rfl) ?_
                            refine lv_imul hx hb dX10_keep_233 ?_
                            refine lv_topi (fun v233 e233 => ?_)
                            have i233 : v233.toInt = 44 * k0.toInt := by rw [e233]; exact mulcL rfl (by omega) (by omega)
                            refine lv_iload hx hb dX10_keep_234 (lv_at hl 0 rfl) ?_
                            refine lv_iadd hx hb dX10_keep_236 ?_
                            refine lv_topi (fun v236 e236 => ?_)
                            have i236 : v236.toInt = v233.toInt + (nI i).toInt := by rw [e236]; exact fb_addI (by omega) (by omega)
                            refine m_iald (w := (r 5)) hx hb hK hP 4 rfl (vp_in_iff.mpr ⟨by omega, by omega⟩) dX10_keep_237 ?_
                            refine lv_topi (fun v237 e237 => ?_)
                            have i237 : v237.toInt = ((r 5) v236.toNatClampNeg).toInt := congrArg Int32.toInt e237
                            refine lv_i2l (v := v237.toInt64) hx hb dX10_keep_238 rfl ?_
                            refine lv_goto (tgt := 265) hx hb dX10_keep_239 (by decide) ?_
                            refine m_last (w := s3) hx hb hK hP hD hS 21 rfl (vp_in_iff.mpr ⟨by omega, by omega⟩) (va_up (va_up q 33 s3) 33 (vp_updL s3 v198.toNatClampNeg v237.toInt64)) (ms_33 cy mo a _ _ _ _ _) dX10_keep_265 (fun H locs hP hS => ?_)
                            have hP := wm_eq rfl rfl rfl (es_q_33__33 q s3 (vp_updL s3 v198.toNatClampNeg v237.toInt64)) hP
                            refine lv_iinc (v := (nI (i + 1))) (lv' := [(7, .int (nI (i + 1))), (6, .int (1 : Int32)), (0, .ref mo), (1, .int d), (2, .int what), (3, .int k0), (4, .long p0)]) hx hb dX10_keep_266 hl (k := 0) rfl (nI_1 _) (by decide) rfl (fun ls hl => ?_)
                            refine lv_goto (tgt := 177) hx hb dX10_keep_269 (by decide) ?_
                            have hP := wm_eq rfl rfl (ec_r_29_30__29_30 r ((upd (r 29) d.toNatClampNeg what)) ((upd (r 30) d.toNatClampNeg (0 : Int32)))) rfl hP
                            exact ih_177 (i + 1) (vp_updL s3 v198.toNatClampNeg v237.toInt64) (by omega) (by omega) _ _ hP hS ls (lv_sub hl [0, 1, 2, 3, 4, 5, 6] rfl)
                        · first | exact absurd c201 c95 | exact absurd c95 c201
                  have hP := wm_eq rfl rfl (ec_r_29_30__29_30 r ((upd (r 29) d.toNatClampNeg what)) ((upd (r 30) d.toNatClampNeg (0 : Int32)))) (ec_q___33 q ) hP
                  exact loop_177 (60 + 1) 0 (q 33) (by omega) (by omega) _ _ hP hS ls (lv_sub hl [0, 1, 2, 3, 4, 5, 6] rfl)
                · skip
                  have d139 := c139
                  rw [fa_eq] at d139
                  refine lv_aload_n hx hb dX10_keep_142 rfl (lv_at hl 1 rfl) ?_
                  refine m_get (v := .ref (a 31)) hx hb hts hin hown hK hP 31 (by decide) rfl (hts (.fieldLink RX10 67 "ShadowBenchModel" "shelfWeight" "[I") (by decide +kernel)) rfl dX10_keep_143 ?_
                  refine lv_iload_n hx hb dX10_keep_146 rfl (lv_at hl 2 rfl) ?_
                  refine lv_aload_n hx hb dX10_keep_147 rfl (lv_at hl 1 rfl) ?_
                  refine lv_iload_n hx hb dX10_keep_148 rfl (lv_at hl 4 rfl) ?_
                  refine m_calli (As := [.int k0]) (rest := [.int d, .ref (a 31)]) ⟨hx, hb, hml, hown, hts⟩ (c_X10_weightOf l D cy mo a (upd f 0 (0 : Int32)) g (va_up (va_up r 29 ((upd (r 29) d.toNatClampNeg what))) 30 ((upd (r 30) d.toNatClampNeg (0 : Int32)))) q k0 hD (by first | exact hI | exact mi_sz (d := d) hI (v := 0) (by first | omega | decide) rfl rfl rfl rfl rfl rfl rfl rfl | exact mi_sz (d := d) hI (v := v131) (by first | omega | decide) rfl rfl rfl rfl rfl rfl rfl rfl | exact mi_sz (d := d) hI (v := v110) (by first | omega | decide) rfl rfl rfl rfl rfl rfl rfl rfl) (show 0 ≤ k0.toInt ∧ k0.toInt < (f 1).toInt by omega)) (cwV 1 hts gX10_keep_X10_weightOf rfl rfl rfl (by decide +kernel) ⟨Nat.le_of_ble_eq_true rfl, Nat.le_of_ble_eq_true rfl⟩) hK hP rfl hl.1 rfl (Nat.le_of_ble_eq_true rfl) dX10_keep_149 ⟨Nat.le_of_ble_eq_true rfl, Nat.le_of_ble_eq_true rfl⟩ hS (fun r149 u H locs q149 hP hS => ?_)
                  obtain ⟨rfl, q149⟩ := q149
                  have hP : va_P D vwCl (WM cy mo a (upd f 0 (0 : Int32)) g (va_up (va_up r 29 ((upd (r 29) d.toNatClampNeg what))) 30 ((upd (r 30) d.toNatClampNeg (0 : Int32)))) q) H := hP
                  have q149 : True := q149
                  refine m_iast (w := (r 31)) hx hb hK hP hD hS 19 rfl (vp_in_iff.mpr ⟨by omega, by omega⟩) (va_up (va_up (va_up r 29 ((upd (r 29) d.toNatClampNeg what))) 30 ((upd (r 30) d.toNatClampNeg (0 : Int32)))) 31 (upd (r 31) d.toNatClampNeg r149)) (ms_31 cy mo a _ _ _ _ _) dX10_keep_152 (fun H locs hP hS => ?_)
                  refine lv_aload_n hx hb dX10_keep_153 rfl (lv_at hl 1 rfl) ?_
                  refine m_get (v := .ref (a 32)) hx hb hts hin hown hK hP 32 (by decide) rfl (hts (.fieldLink RX10 70 "ShadowBenchModel" "shelfFailure" "[I") (by decide +kernel)) rfl dX10_keep_154 ?_
                  refine lv_iload_n hx hb dX10_keep_157 rfl (lv_at hl 2 rfl) ?_
                  refine lv_aload_n hx hb dX10_keep_158 rfl (lv_at hl 1 rfl) ?_
                  refine m_get (v := .ref (a 2)) hx hb hts hin hown hK hP 2 (by decide) rfl (hts (.fieldLink RX10 7 "ShadowBenchModel" "kind" "[I") (by decide +kernel)) rfl dX10_keep_159 ?_
                  refine lv_iload_n hx hb dX10_keep_162 rfl (lv_at hl 4 rfl) ?_
                  refine m_iald (w := (r 2)) hx hb hK hP 1 rfl (vp_in_iff.mpr ⟨by omega, by omega⟩) dX10_keep_163 ?_
                  refine lv_topi (fun v163 e163 => ?_)
                  have i163 : v163.toInt = ((r 2) k0.toNatClampNeg).toInt := congrArg Int32.toInt e163
                  refine lv_if_ne (tgt := 172) hx hb dX10_keep_164 (by decide) (fun c164 => ?_) (fun c164 => ?_)
                  · skip
                    have d164 := c164
                    rw [fa_eq] at d164
                    refine lv_iload_n hx hb dX10_keep_172 rfl (lv_at hl 4 rfl) ?_
                    refine m_iast (w := (r 32)) hx hb hK hP hD hS 20 rfl (vp_in_iff.mpr ⟨by omega, by omega⟩) (va_up (va_up (va_up (va_up r 29 ((upd (r 29) d.toNatClampNeg what))) 30 ((upd (r 30) d.toNatClampNeg (0 : Int32)))) 31 ((upd (r 31) d.toNatClampNeg r149))) 32 (upd (r 32) d.toNatClampNeg k0)) (ms_32 cy mo a _ _ _ _ _) dX10_keep_173 (fun H locs hP hS => ?_)
                    refine lv_iconst (v := 0) hx hb dX10_keep_174 (by decide) ?_
                    refine lv_istore (lv' := [(7, .int (0 : Int32)), (6, .int (1 : Int32)), (0, .ref mo), (1, .int d), (2, .int what), (3, .int k0), (4, .long p0)]) hx hb dX10_keep_175 hl (by decide) rfl (fun ls hl => ?_)
                    have loop_177 : ∀ (n : Nat) (i : Nat) (s3 : Nat → Int64), (i ≤ 60) → 60 - i < n → ∀ (H : Heap) (locs : List Loc), va_P D vwCl (WM cy mo a (upd f 0 (0 : Int32)) g (va_up (va_up (va_up (va_up r 29 ((upd (r 29) d.toNatClampNeg what))) 30 ((upd (r 30) d.toNatClampNeg (0 : Int32)))) 31 ((upd (r 31) d.toNatClampNeg r149))) 32 ((upd (r 32) d.toNatClampNeg k0))) (va_up q 33 s3)) H → va_S (AM mo a) s.heap H locs → ∀ (ls : Array Slot), lv_has ls 8 [(7, .int (nI i)), (6, .int (1 : Int32)), (0, .ref mo), (1, .int d), (2, .int what), (3, .int k0), (4, .long p0)] → W p l e (headSpec wsX10_keep ({ frames := 3, cells := 0, slots := 0, locals := 69 })).room s m #[Value.ref mo, Value.int d, Value.int what, Value.int k0, Value.long p0] below meth c H locs 0 0 (MQ below (va_Qi (fun r0 u => ∃ (sh : Nat → Int32), ∃ (sz : Nat → Int32), ∃ (sw : Nat → Int32), ∃ (sf : Nat → Int32), ∃ (sr : Nat → Int64), u = ((upd f 0 (0 : Int32)), g, (va_up (va_up (va_up (va_up r 29 sh) 30 sz) 31 sw) 32 sf), (va_up q 33 sr)) ∧ (MI (upd f 0 (0 : Int32)) (va_up (va_up (va_up (va_up r 29 sh) 30 sz) 31 sw) 32 sf))) (mB D cy mo a) (AM mo a)) #[Value.ref mo, Value.int d, Value.int what, Value.int k0, Value.long p0] s 0 0 (AM mo a)) (F0 m 177 ls []) := by
                      intro n
                      induction n with
                      | zero => intro i s3 j177_0 hn; exact absurd hn (Nat.not_lt_zero _)
                      | succ n ih_177 =>
                        intro i s3 j177_0 hn_177 H locs hP hS ls hl
                        have ii : (nI i).toInt = (i : Int) := nI_toInt (by omega)
                        refine lv_iload hx hb dX10_keep_177 (lv_at hl 0 rfl) ?_
                        refine lv_aload_n hx hb dX10_keep_179 rfl (lv_at hl 2 rfl) ?_
                        refine m_get (v := .ref (a 30)) hx hb hts hin hown hK hP 30 (by decide) rfl (hts (.fieldLink RX10 64 "ShadowBenchModel" "shelfSize" "[I") (by decide +kernel)) rfl dX10_keep_180 ?_
                        refine lv_iload_n hx hb dX10_keep_183 rfl (lv_at hl 3 rfl) ?_
                        refine m_iald (w := ((upd (r 30) d.toNatClampNeg (0 : Int32)))) hx hb hK hP 18 rfl (vp_in_iff.mpr ⟨by omega, by omega⟩) dX10_keep_184 ?_
                        refine lv_topi (fun v184 e184 => ?_)
                        have i184 : v184.toInt = (((upd (r 30) d.toNatClampNeg (0 : Int32))) d.toNatClampNeg).toInt := congrArg Int32.toInt e184
                        have z184 := e184
                        simp only [upd, if_true] at z184
                        have y184 := congrArg Int32.toInt z184
                        refine lv_icmp_ge (tgt := 272) hx hb dX10_keep_185 (by decide) (fun c185 => ?_) (fun c185 => ?_)
                        · skip
                          have d185 := c185
                          rw [fa_le] at d185
                          refine lv_iconst (v := 0) hx hb dX10_keep_272 (by decide) ?_
                          have hP := wm_eq rfl rfl (ec_r_29_30_31_32__29_30_31_32 r ((upd (r 29) d.toNatClampNeg what)) ((upd (r 30) d.toNatClampNeg (0 : Int32))) ((upd (r 31) d.toNatClampNeg r149)) ((upd (r 32) d.toNatClampNeg k0))) rfl hP
                          exact W.iret (v := (0 : Int32)) hx hb hr (fun t ht hW => ⟨⟨_, ((upd f 0 (0 : Int32)), g, (va_up (va_up (va_up (va_up r 29 (((upd (r 29) d.toNatClampNeg what)))) 30 (((upd (r 30) d.toNatClampNeg (0 : Int32))))) 31 (((upd (r 31) d.toNatClampNeg r149)))) 32 (((upd (r 32) d.toNatClampNeg k0)))), (va_up q 33 s3)), rfl, ⟨((upd (r 29) d.toNatClampNeg what)), ((upd (r 30) d.toNatClampNeg (0 : Int32))), ((upd (r 31) d.toNatClampNeg r149)), ((upd (r 32) d.toNatClampNeg k0)), s3, rfl, by first | exact hI | exact mi_sz (d := d) hI (v := v110) (by omega) rfl rfl rfl rfl rfl rfl rfl rfl | exact mi_sz (d := d) hI (v := v131) (by omega) rfl rfl rfl rfl rfl rfl rfl rfl | exact mi_sz (d := d) hI (v := 0) (by decide) rfl rfl rfl rfl rfl rfl rfl rfl⟩, by unfold mB; rw [ht]; exact hP⟩, hS.F ht⟩) hS.2.2 dX10_keep_273
                        · skip
                          have d185 := c185
                          rw [fa_le] at d185
                          refine lv_aload_n hx hb dX10_keep_188 rfl (lv_at hl 2 rfl) ?_
                          refine m_get (v := .ref (a 33)) hx hb hts hin hown hK hP 33 (by decide) rfl (hts (.fieldLink RX10 73 "ShadowBenchModel" "shelfRow" "[J") (by decide +kernel)) rfl dX10_keep_189 ?_
                          refine lv_bipush (v := 60) hx hb dX10_keep_192 (by decide) ?_
                          refine lv_iload_n hx hb dX10_keep_194 rfl (lv_at hl 3 rfl) ?_
                          refine lv_imul hx hb dX10_keep_195 ?_
                          refine lv_topi (fun v195 e195 => ?_)
                          have i195 : v195.toInt = 60 * d.toInt := by rw [e195]; exact mulcL rfl (by omega) (by omega)
                          refine lv_iload hx hb dX10_keep_196 (lv_at hl 0 rfl) ?_
                          refine lv_iadd hx hb dX10_keep_198 ?_
                          refine lv_topi (fun v198 e198 => ?_)
                          have i198 : v198.toInt = v195.toInt + (nI i).toInt := by rw [e198]; exact fb_addI (by omega) (by omega)
                          refine lv_iload_n hx hb dX10_keep_199 rfl (lv_at hl 4 rfl) ?_
                          refine lv_iconst (v := 3) hx hb dX10_keep_200 (by decide) ?_
                          refine lv_icmp_ne (tgt := 215) hx hb dX10_keep_201 (by decide) (fun c201 => ?_) (fun c201 => ?_)
                          · skip
                            have d201 := c201
                            rw [fa_eq] at d201
                            refine lv_iload hx hb dX10_keep_215 (lv_at hl 0 rfl) ?_
                            refine lv_aload_n hx hb dX10_keep_217 rfl (lv_at hl 2 rfl) ?_
                            refine m_get (v := .ref (a 4)) hx hb hts hin hown hK hP 4 (by decide) rfl (hts (.fieldLink RX10 16 "ShadowBenchModel" "high" "[I") (by decide +kernel)) rfl dX10_keep_218 ?_
                            refine lv_iload_n hx hb dX10_keep_221 rfl (lv_at hl 5 rfl) ?_
                            refine m_iald (w := (r 4)) hx hb hK hP 3 rfl (vp_in_iff.mpr ⟨by omega, by omega⟩) dX10_keep_222 ?_
                            refine lv_topi (fun v222 e222 => ?_)
                            have i222 : v222.toInt = ((r 4) k0.toNatClampNeg).toInt := congrArg Int32.toInt e222
                            have w222 := mi_h hI (x := k0) (by omega) (by omega) e222
                            refine lv_icmp_ge (tgt := 242) hx hb dX10_keep_223 (by decide) (fun c223 => ?_) (fun c223 => ?_)
                            · skip
                              have d223 := c223
                              rw [fa_le] at d223
                              refine lv_aload_n hx hb dX10_keep_242 rfl (lv_at hl 2 rfl) ?_
                              refine m_get (v := .ref (a 5)) hx hb hts hin hown hK hP 5 (by decide) rfl (hts (.fieldLink RX10 19 "ShadowBenchModel" "sums" "[I") (by decide +kernel)) rfl dX10_keep_243 ?_
                              refine lv_bipush (v := 44) hx hb dX10_keep_246 (by decide) ?_
                              refine lv_iload_n hx hb dX10_keep_248 rfl (lv_at hl 5 rfl) ?_
                              refine lv_imul hx hb dX10_keep_249 ?_
                              refine lv_topi (fun v249 e249 => ?_)
                              have i249 : v249.toInt = 44 * k0.toInt := by rw [e249]; exact mulcL rfl (by omega) (by omega)
                              refine lv_bipush (v := 11) hx hb dX10_keep_250 (by decide) ?_
                              refine lv_iadd hx hb dX10_keep_252 ?_
                              refine lv_topi (fun v252 e252 => ?_)
                              have i252 : v252.toInt = v249.toInt + (11 : Int32).toInt := by rw [e252]; exact fb_addI (by omega) (by omega)
                              refine lv_iload hx hb dX10_keep_253 (lv_at hl 0 rfl) ?_
                              refine lv_iadd hx hb dX10_keep_255 ?_
                              refine lv_topi (fun v255 e255 => ?_)
                              have i255 : v255.toInt = v252.toInt + (nI i).toInt := by rw [e255]; exact fb_addI (by omega) (by omega)
                              refine lv_aload_n hx hb dX10_keep_256 rfl (lv_at hl 2 rfl) ?_
                              refine m_get (v := .ref (a 4)) hx hb hts hin hown hK hP 4 (by decide) rfl (hts (.fieldLink RX10 16 "ShadowBenchModel" "high" "[I") (by decide +kernel)) rfl dX10_keep_257 ?_
                              refine lv_iload_n hx hb dX10_keep_260 rfl (lv_at hl 5 rfl) ?_
                              refine m_iald (w := (r 4)) hx hb hK hP 3 rfl (vp_in_iff.mpr ⟨by omega, by omega⟩) dX10_keep_261 ?_
                              refine lv_topi (fun v261 e261 => ?_)
                              have i261 : v261.toInt = ((r 4) k0.toNatClampNeg).toInt := congrArg Int32.toInt e261
                              have w261 := mi_h hI (x := k0) (by omega) (by omega) e261
                              refine lv_isub hx hb dX10_keep_262 ?_
                              refine lv_topi (fun v262 e262 => ?_)
                              have i262 : v262.toInt = v255.toInt - v261.toInt := by rw [e262]; exact fb_subI (by omega) (by omega)
                              refine m_iald (w := (r 5)) hx hb hK hP 4 rfl (vp_in_iff.mpr ⟨by omega, by omega⟩) dX10_keep_263 ?_
                              refine lv_topi (fun v263 e263 => ?_)
                              have i263 : v263.toInt = ((r 5) v262.toNatClampNeg).toInt := congrArg Int32.toInt e263
                              refine lv_i2l (v := v263.toInt64) hx hb dX10_keep_264 rfl ?_
                              refine m_last (w := s3) hx hb hK hP hD hS 21 rfl (vp_in_iff.mpr ⟨by omega, by omega⟩) (va_up (va_up q 33 s3) 33 (vp_updL s3 v198.toNatClampNeg v263.toInt64)) (ms_33 cy mo a _ _ _ _ _) dX10_keep_265 (fun H locs hP hS => ?_)
                              have hP := wm_eq rfl rfl rfl (es_q_33__33 q s3 (vp_updL s3 v198.toNatClampNeg v263.toInt64)) hP
                              refine lv_iinc (v := (nI (i + 1))) (lv' := [(7, .int (nI (i + 1))), (6, .int (1 : Int32)), (0, .ref mo), (1, .int d), (2, .int what), (3, .int k0), (4, .long p0)]) hx hb dX10_keep_266 hl (k := 0) rfl (nI_1 _) (by decide) rfl (fun ls hl => ?_)
                              refine lv_goto (tgt := 177) hx hb dX10_keep_269 (by decide) ?_
                              have hP := wm_eq rfl rfl (ec_r_29_30_31_32__29_30_31_32 r ((upd (r 29) d.toNatClampNeg what)) ((upd (r 30) d.toNatClampNeg (0 : Int32))) ((upd (r 31) d.toNatClampNeg r149)) ((upd (r 32) d.toNatClampNeg k0))) rfl hP
                              exact ih_177 (i + 1) (vp_updL s3 v198.toNatClampNeg v263.toInt64) (by omega) (by omega) _ _ hP hS ls (lv_sub hl [0, 1, 2, 3, 4, 5, 6] rfl)
                            · skip
                              have d223 := c223
                              rw [fa_le] at d223
                              refine lv_aload_n hx hb dX10_keep_226 rfl (lv_at hl 2 rfl) ?_
                              refine m_get (v := .ref (a 5)) hx hb hts hin hown hK hP 5 (by decide) rfl (hts (.fieldLink RX10 19 "ShadowBenchModel" "sums" "[I") (by decide +kernel)) rfl dX10_keep_227 ?_
                              refine lv_bipush (v := 44) hx hb dX10_keep_230 (by decide) ?_
                              refine lv_iload_n hx hb dX10_keep_232 rfl (lv_at hl 5 rfl) ?_
                              refine lv_imul hx hb dX10_keep_233 ?_
                              refine lv_topi (fun v233 e233 => ?_)
                              have i233 : v233.toInt = 44 * k0.toInt := by rw [e233]; exact mulcL rfl (by omega) (by omega)
                              refine lv_iload hx hb dX10_keep_234 (lv_at hl 0 rfl) ?_
                              refine lv_iadd hx hb dX10_keep_236 ?_
                              refine lv_topi (fun v236 e236 => ?_)
                              have i236 : v236.toInt = v233.toInt + (nI i).toInt := by rw [e236]; exact fb_addI (by omega) (by omega)
                              refine m_iald (w := (r 5)) hx hb hK hP 4 rfl (vp_in_iff.mpr ⟨by omega, by omega⟩) dX10_keep_237 ?_
                              refine lv_topi (fun v237 e237 => ?_)
                              have i237 : v237.toInt = ((r 5) v236.toNatClampNeg).toInt := congrArg Int32.toInt e237
                              refine lv_i2l (v := v237.toInt64) hx hb dX10_keep_238 rfl ?_
                              refine lv_goto (tgt := 265) hx hb dX10_keep_239 (by decide) ?_
                              refine m_last (w := s3) hx hb hK hP hD hS 21 rfl (vp_in_iff.mpr ⟨by omega, by omega⟩) (va_up (va_up q 33 s3) 33 (vp_updL s3 v198.toNatClampNeg v237.toInt64)) (ms_33 cy mo a _ _ _ _ _) dX10_keep_265 (fun H locs hP hS => ?_)
                              have hP := wm_eq rfl rfl rfl (es_q_33__33 q s3 (vp_updL s3 v198.toNatClampNeg v237.toInt64)) hP
                              refine lv_iinc (v := (nI (i + 1))) (lv' := [(7, .int (nI (i + 1))), (6, .int (1 : Int32)), (0, .ref mo), (1, .int d), (2, .int what), (3, .int k0), (4, .long p0)]) hx hb dX10_keep_266 hl (k := 0) rfl (nI_1 _) (by decide) rfl (fun ls hl => ?_)
                              refine lv_goto (tgt := 177) hx hb dX10_keep_269 (by decide) ?_
                              have hP := wm_eq rfl rfl (ec_r_29_30_31_32__29_30_31_32 r ((upd (r 29) d.toNatClampNeg what)) ((upd (r 30) d.toNatClampNeg (0 : Int32))) ((upd (r 31) d.toNatClampNeg r149)) ((upd (r 32) d.toNatClampNeg k0))) rfl hP
                              exact ih_177 (i + 1) (vp_updL s3 v198.toNatClampNeg v237.toInt64) (by omega) (by omega) _ _ hP hS ls (lv_sub hl [0, 1, 2, 3, 4, 5, 6] rfl)
                          · first | exact absurd c201 c95 | exact absurd c95 c201
                    have hP := wm_eq rfl rfl (ec_r_29_30_31_32__29_30_31_32 r ((upd (r 29) d.toNatClampNeg what)) ((upd (r 30) d.toNatClampNeg (0 : Int32))) ((upd (r 31) d.toNatClampNeg r149)) ((upd (r 32) d.toNatClampNeg k0))) (ec_q___33 q ) hP
                    exact loop_177 (60 + 1) 0 (q 33) (by omega) (by omega) _ _ hP hS ls (lv_sub hl [0, 1, 2, 3, 4, 5, 6] rfl)
                  · skip
                    have d164 := c164
                    rw [fa_eq] at d164
                    refine lv_bipush (v := (-15)) hx hb dX10_keep_167 (by decide) ?_
                    refine lv_goto (tgt := 173) hx hb dX10_keep_169 (by decide) ?_
                    refine m_iast (w := (r 32)) hx hb hK hP hD hS 20 rfl (vp_in_iff.mpr ⟨by omega, by omega⟩) (va_up (va_up (va_up (va_up r 29 ((upd (r 29) d.toNatClampNeg what))) 30 ((upd (r 30) d.toNatClampNeg (0 : Int32)))) 31 ((upd (r 31) d.toNatClampNeg r149))) 32 (upd (r 32) d.toNatClampNeg (((-15) : Int32)))) (ms_32 cy mo a _ _ _ _ _) dX10_keep_173 (fun H locs hP hS => ?_)
                    refine lv_iconst (v := 0) hx hb dX10_keep_174 (by decide) ?_
                    refine lv_istore (lv' := [(7, .int (0 : Int32)), (6, .int (1 : Int32)), (0, .ref mo), (1, .int d), (2, .int what), (3, .int k0), (4, .long p0)]) hx hb dX10_keep_175 hl (by decide) rfl (fun ls hl => ?_)
                    have loop_177 : ∀ (n : Nat) (i : Nat) (s3 : Nat → Int64), (i ≤ 60) → 60 - i < n → ∀ (H : Heap) (locs : List Loc), va_P D vwCl (WM cy mo a (upd f 0 (0 : Int32)) g (va_up (va_up (va_up (va_up r 29 ((upd (r 29) d.toNatClampNeg what))) 30 ((upd (r 30) d.toNatClampNeg (0 : Int32)))) 31 ((upd (r 31) d.toNatClampNeg r149))) 32 ((upd (r 32) d.toNatClampNeg (((-15) : Int32))))) (va_up q 33 s3)) H → va_S (AM mo a) s.heap H locs → ∀ (ls : Array Slot), lv_has ls 8 [(7, .int (nI i)), (6, .int (1 : Int32)), (0, .ref mo), (1, .int d), (2, .int what), (3, .int k0), (4, .long p0)] → W p l e (headSpec wsX10_keep ({ frames := 3, cells := 0, slots := 0, locals := 69 })).room s m #[Value.ref mo, Value.int d, Value.int what, Value.int k0, Value.long p0] below meth c H locs 0 0 (MQ below (va_Qi (fun r0 u => ∃ (sh : Nat → Int32), ∃ (sz : Nat → Int32), ∃ (sw : Nat → Int32), ∃ (sf : Nat → Int32), ∃ (sr : Nat → Int64), u = ((upd f 0 (0 : Int32)), g, (va_up (va_up (va_up (va_up r 29 sh) 30 sz) 31 sw) 32 sf), (va_up q 33 sr)) ∧ (MI (upd f 0 (0 : Int32)) (va_up (va_up (va_up (va_up r 29 sh) 30 sz) 31 sw) 32 sf))) (mB D cy mo a) (AM mo a)) #[Value.ref mo, Value.int d, Value.int what, Value.int k0, Value.long p0] s 0 0 (AM mo a)) (F0 m 177 ls []) := by
                      intro n
                      induction n with
                      | zero => intro i s3 j177_0 hn; exact absurd hn (Nat.not_lt_zero _)
                      | succ n ih_177 =>
                        intro i s3 j177_0 hn_177 H locs hP hS ls hl
                        have ii : (nI i).toInt = (i : Int) := nI_toInt (by omega)
                        refine lv_iload hx hb dX10_keep_177 (lv_at hl 0 rfl) ?_
                        refine lv_aload_n hx hb dX10_keep_179 rfl (lv_at hl 2 rfl) ?_
                        refine m_get (v := .ref (a 30)) hx hb hts hin hown hK hP 30 (by decide) rfl (hts (.fieldLink RX10 64 "ShadowBenchModel" "shelfSize" "[I") (by decide +kernel)) rfl dX10_keep_180 ?_
                        refine lv_iload_n hx hb dX10_keep_183 rfl (lv_at hl 3 rfl) ?_
                        refine m_iald (w := ((upd (r 30) d.toNatClampNeg (0 : Int32)))) hx hb hK hP 18 rfl (vp_in_iff.mpr ⟨by omega, by omega⟩) dX10_keep_184 ?_
                        refine lv_topi (fun v184 e184 => ?_)
                        have i184 : v184.toInt = (((upd (r 30) d.toNatClampNeg (0 : Int32))) d.toNatClampNeg).toInt := congrArg Int32.toInt e184
                        have z184 := e184
                        simp only [upd, if_true] at z184
                        have y184 := congrArg Int32.toInt z184
                        refine lv_icmp_ge (tgt := 272) hx hb dX10_keep_185 (by decide) (fun c185 => ?_) (fun c185 => ?_)
                        · skip
                          have d185 := c185
                          rw [fa_le] at d185
                          refine lv_iconst (v := 0) hx hb dX10_keep_272 (by decide) ?_
                          have hP := wm_eq rfl rfl (ec_r_29_30_31_32__29_30_31_32 r ((upd (r 29) d.toNatClampNeg what)) ((upd (r 30) d.toNatClampNeg (0 : Int32))) ((upd (r 31) d.toNatClampNeg r149)) ((upd (r 32) d.toNatClampNeg (((-15) : Int32))))) rfl hP
                          exact W.iret (v := (0 : Int32)) hx hb hr (fun t ht hW => ⟨⟨_, ((upd f 0 (0 : Int32)), g, (va_up (va_up (va_up (va_up r 29 (((upd (r 29) d.toNatClampNeg what)))) 30 (((upd (r 30) d.toNatClampNeg (0 : Int32))))) 31 (((upd (r 31) d.toNatClampNeg r149)))) 32 (((upd (r 32) d.toNatClampNeg (((-15) : Int32)))))), (va_up q 33 s3)), rfl, ⟨((upd (r 29) d.toNatClampNeg what)), ((upd (r 30) d.toNatClampNeg (0 : Int32))), ((upd (r 31) d.toNatClampNeg r149)), ((upd (r 32) d.toNatClampNeg (((-15) : Int32)))), s3, rfl, by first | exact hI | exact mi_sz (d := d) hI (v := v110) (by omega) rfl rfl rfl rfl rfl rfl rfl rfl | exact mi_sz (d := d) hI (v := v131) (by omega) rfl rfl rfl rfl rfl rfl rfl rfl | exact mi_sz (d := d) hI (v := 0) (by decide) rfl rfl rfl rfl rfl rfl rfl rfl⟩, by unfold mB; rw [ht]; exact hP⟩, hS.F ht⟩) hS.2.2 dX10_keep_273
                        · skip
                          have d185 := c185
                          rw [fa_le] at d185
                          refine lv_aload_n hx hb dX10_keep_188 rfl (lv_at hl 2 rfl) ?_
                          refine m_get (v := .ref (a 33)) hx hb hts hin hown hK hP 33 (by decide) rfl (hts (.fieldLink RX10 73 "ShadowBenchModel" "shelfRow" "[J") (by decide +kernel)) rfl dX10_keep_189 ?_
                          refine lv_bipush (v := 60) hx hb dX10_keep_192 (by decide) ?_
                          refine lv_iload_n hx hb dX10_keep_194 rfl (lv_at hl 3 rfl) ?_
                          refine lv_imul hx hb dX10_keep_195 ?_
                          refine lv_topi (fun v195 e195 => ?_)
                          have i195 : v195.toInt = 60 * d.toInt := by rw [e195]; exact mulcL rfl (by omega) (by omega)
                          refine lv_iload hx hb dX10_keep_196 (lv_at hl 0 rfl) ?_
                          refine lv_iadd hx hb dX10_keep_198 ?_
                          refine lv_topi (fun v198 e198 => ?_)
                          have i198 : v198.toInt = v195.toInt + (nI i).toInt := by rw [e198]; exact fb_addI (by omega) (by omega)
                          refine lv_iload_n hx hb dX10_keep_199 rfl (lv_at hl 4 rfl) ?_
                          refine lv_iconst (v := 3) hx hb dX10_keep_200 (by decide) ?_
                          refine lv_icmp_ne (tgt := 215) hx hb dX10_keep_201 (by decide) (fun c201 => ?_) (fun c201 => ?_)
                          · skip
                            have d201 := c201
                            rw [fa_eq] at d201
                            refine lv_iload hx hb dX10_keep_215 (lv_at hl 0 rfl) ?_
                            refine lv_aload_n hx hb dX10_keep_217 rfl (lv_at hl 2 rfl) ?_
                            refine m_get (v := .ref (a 4)) hx hb hts hin hown hK hP 4 (by decide) rfl (hts (.fieldLink RX10 16 "ShadowBenchModel" "high" "[I") (by decide +kernel)) rfl dX10_keep_218 ?_
                            refine lv_iload_n hx hb dX10_keep_221 rfl (lv_at hl 5 rfl) ?_
                            refine m_iald (w := (r 4)) hx hb hK hP 3 rfl (vp_in_iff.mpr ⟨by omega, by omega⟩) dX10_keep_222 ?_
                            refine lv_topi (fun v222 e222 => ?_)
                            have i222 : v222.toInt = ((r 4) k0.toNatClampNeg).toInt := congrArg Int32.toInt e222
                            have w222 := mi_h hI (x := k0) (by omega) (by omega) e222
                            refine lv_icmp_ge (tgt := 242) hx hb dX10_keep_223 (by decide) (fun c223 => ?_) (fun c223 => ?_)
                            · skip
                              have d223 := c223
                              rw [fa_le] at d223
                              refine lv_aload_n hx hb dX10_keep_242 rfl (lv_at hl 2 rfl) ?_
                              refine m_get (v := .ref (a 5)) hx hb hts hin hown hK hP 5 (by decide) rfl (hts (.fieldLink RX10 19 "ShadowBenchModel" "sums" "[I") (by decide +kernel)) rfl dX10_keep_243 ?_
                              refine lv_bipush (v := 44) hx hb dX10_keep_246 (by decide) ?_
                              refine lv_iload_n hx hb dX10_keep_248 rfl (lv_at hl 5 rfl) ?_
                              refine lv_imul hx hb dX10_keep_249 ?_
                              refine lv_topi (fun v249 e249 => ?_)
                              have i249 : v249.toInt = 44 * k0.toInt := by rw [e249]; exact mulcL rfl (by omega) (by omega)
                              refine lv_bipush (v := 11) hx hb dX10_keep_250 (by decide) ?_
                              refine lv_iadd hx hb dX10_keep_252 ?_
                              refine lv_topi (fun v252 e252 => ?_)
                              have i252 : v252.toInt = v249.toInt + (11 : Int32).toInt := by rw [e252]; exact fb_addI (by omega) (by omega)
                              refine lv_iload hx hb dX10_keep_253 (lv_at hl 0 rfl) ?_
                              refine lv_iadd hx hb dX10_keep_255 ?_
                              refine lv_topi (fun v255 e255 => ?_)
                              have i255 : v255.toInt = v252.toInt + (nI i).toInt := by rw [e255]; exact fb_addI (by omega) (by omega)
                              refine lv_aload_n hx hb dX10_keep_256 rfl (lv_at hl 2 rfl) ?_
                              refine m_get (v := .ref (a 4)) hx hb hts hin hown hK hP 4 (by decide) rfl (hts (.fieldLink RX10 16 "ShadowBenchModel" "high" "[I") (by decide +kernel)) rfl dX10_keep_257 ?_
                              refine lv_iload_n hx hb dX10_keep_260 rfl (lv_at hl 5 rfl) ?_
                              refine m_iald (w := (r 4)) hx hb hK hP 3 rfl (vp_in_iff.mpr ⟨by omega, by omega⟩) dX10_keep_261 ?_
                              refine lv_topi (fun v261 e261 => ?_)
                              have i261 : v261.toInt = ((r 4) k0.toNatClampNeg).toInt := congrArg Int32.toInt e261
                              have w261 := mi_h hI (x := k0) (by omega) (by omega) e261
                              refine lv_isub hx hb dX10_keep_262 ?_
                              refine lv_topi (fun v262 e262 => ?_)
                              have i262 : v262.toInt = v255.toInt - v261.toInt := by rw [e262]; exact fb_subI (by omega) (by omega)
                              refine m_iald (w := (r 5)) hx hb hK hP 4 rfl (vp_in_iff.mpr ⟨by omega, by omega⟩) dX10_keep_263 ?_
                              refine lv_topi (fun v263 e263 => ?_)
                              have i263 : v263.toInt = ((r 5) v262.toNatClampNeg).toInt := congrArg Int32.toInt e263
                              refine lv_i2l (v := v263.toInt64) hx hb dX10_keep_264 rfl ?_
                              refine m_last (w := s3) hx hb hK hP hD hS 21 rfl (vp_in_iff.mpr ⟨by omega, by omega⟩) (va_up (va_up q 33 s3) 33 (vp_updL s3 v198.toNatClampNeg v263.toInt64)) (ms_33 cy mo a _ _ _ _ _) dX10_keep_265 (fun H locs hP hS => ?_)
                              have hP := wm_eq rfl rfl rfl (es_q_33__33 q s3 (vp_updL s3 v198.toNatClampNeg v263.toInt64)) hP
                              refine lv_iinc (v := (nI (i + 1))) (lv' := [(7, .int (nI (i + 1))), (6, .int (1 : Int32)), (0, .ref mo), (1, .int d), (2, .int what), (3, .int k0), (4, .long p0)]) hx hb dX10_keep_266 hl (k := 0) rfl (nI_1 _) (by decide) rfl (fun ls hl => ?_)
                              refine lv_goto (tgt := 177) hx hb dX10_keep_269 (by decide) ?_
                              have hP := wm_eq rfl rfl (ec_r_29_30_31_32__29_30_31_32 r ((upd (r 29) d.toNatClampNeg what)) ((upd (r 30) d.toNatClampNeg (0 : Int32))) ((upd (r 31) d.toNatClampNeg r149)) ((upd (r 32) d.toNatClampNeg (((-15) : Int32))))) rfl hP
                              exact ih_177 (i + 1) (vp_updL s3 v198.toNatClampNeg v263.toInt64) (by omega) (by omega) _ _ hP hS ls (lv_sub hl [0, 1, 2, 3, 4, 5, 6] rfl)
                            · skip
                              have d223 := c223
                              rw [fa_le] at d223
                              refine lv_aload_n hx hb dX10_keep_226 rfl (lv_at hl 2 rfl) ?_
                              refine m_get (v := .ref (a 5)) hx hb hts hin hown hK hP 5 (by decide) rfl (hts (.fieldLink RX10 19 "ShadowBenchModel" "sums" "[I") (by decide +kernel)) rfl dX10_keep_227 ?_
                              refine lv_bipush (v := 44) hx hb dX10_keep_230 (by decide) ?_
                              refine lv_iload_n hx hb dX10_keep_232 rfl (lv_at hl 5 rfl) ?_
                              refine lv_imul hx hb dX10_keep_233 ?_
                              refine lv_topi (fun v233 e233 => ?_)
                              have i233 : v233.toInt = 44 * k0.toInt := by rw [e233]; exact mulcL rfl (by omega) (by omega)
                              refine lv_iload hx hb dX10_keep_234 (lv_at hl 0 rfl) ?_
                              refine lv_iadd hx hb dX10_keep_236 ?_
                              refine lv_topi (fun v236 e236 => ?_)
                              have i236 : v236.toInt = v233.toInt + (nI i).toInt := by rw [e236]; exact fb_addI (by omega) (by omega)
                              refine m_iald (w := (r 5)) hx hb hK hP 4 rfl (vp_in_iff.mpr ⟨by omega, by omega⟩) dX10_keep_237 ?_
                              refine lv_topi (fun v237 e237 => ?_)
                              have i237 : v237.toInt = ((r 5) v236.toNatClampNeg).toInt := congrArg Int32.toInt e237
                              refine lv_i2l (v := v237.toInt64) hx hb dX10_keep_238 rfl ?_
                              refine lv_goto (tgt := 265) hx hb dX10_keep_239 (by decide) ?_
                              refine m_last (w := s3) hx hb hK hP hD hS 21 rfl (vp_in_iff.mpr ⟨by omega, by omega⟩) (va_up (va_up q 33 s3) 33 (vp_updL s3 v198.toNatClampNeg v237.toInt64)) (ms_33 cy mo a _ _ _ _ _) dX10_keep_265 (fun H locs hP hS => ?_)
                              have hP := wm_eq rfl rfl rfl (es_q_33__33 q s3 (vp_updL s3 v198.toNatClampNeg v237.toInt64)) hP
                              refine lv_iinc (v := (nI (i + 1))) (lv' := [(7, .int (nI (i + 1))), (6, .int (1 : Int32)), (0, .ref mo), (1, .int d), (2, .int what), (3, .int k0), (4, .long p0)]) hx hb dX10_keep_266 hl (k := 0) rfl (nI_1 _) (by decide) rfl (fun ls hl => ?_)
                              refine lv_goto (tgt := 177) hx hb dX10_keep_269 (by decide) ?_
                              have hP := wm_eq rfl rfl (ec_r_29_30_31_32__29_30_31_32 r ((upd (r 29) d.toNatClampNeg what)) ((upd (r 30) d.toNatClampNeg (0 : Int32))) ((upd (r 31) d.toNatClampNeg r149)) ((upd (r 32) d.toNatClampNeg (((-15) : Int32))))) rfl hP
                              exact ih_177 (i + 1) (vp_updL s3 v198.toNatClampNeg v237.toInt64) (by omega) (by omega) _ _ hP hS ls (lv_sub hl [0, 1, 2, 3, 4, 5, 6] rfl)
                          · first | exact absurd c201 c95 | exact absurd c95 c201
                    have hP := wm_eq rfl rfl (ec_r_29_30_31_32__29_30_31_32 r ((upd (r 29) d.toNatClampNeg what)) ((upd (r 30) d.toNatClampNeg (0 : Int32))) ((upd (r 31) d.toNatClampNeg r149)) ((upd (r 32) d.toNatClampNeg (((-15) : Int32))))) (ec_q___33 q ) hP
                    exact loop_177 (60 + 1) 0 (q 33) (by omega) (by omega) _ _ hP hS ls (lv_sub hl [0, 1, 2, 3, 4, 5, 6] rfl)
              · skip
                have d116 := c116
                rw [fa_eq] at d116
                refine lv_aload_n hx hb dX10_keep_119 rfl (lv_at hl 1 rfl) ?_
                refine m_get (v := .ref (a 4)) hx hb hts hin hown hK hP 4 (by decide) rfl (hts (.fieldLink RX10 16 "ShadowBenchModel" "high" "[I") (by decide +kernel)) rfl dX10_keep_120 ?_
                refine lv_iload_n hx hb dX10_keep_123 rfl (lv_at hl 4 rfl) ?_
                refine m_iald (w := (r 4)) hx hb hK hP 3 rfl (vp_in_iff.mpr ⟨by omega, by omega⟩) dX10_keep_124 ?_
                refine lv_topi (fun v124 e124 => ?_)
                have i124 : v124.toInt = ((r 4) k0.toNatClampNeg).toInt := congrArg Int32.toInt e124
                have w124 := mi_h hI (x := k0) (by omega) (by omega) e124
                refine lv_aload_n hx hb dX10_keep_125 rfl (lv_at hl 1 rfl) ?_
                refine m_get (v := .ref (a 3)) hx hb hts hin hown hK hP 3 (by decide) rfl (hts (.fieldLink RX10 13 "ShadowBenchModel" "wide" "[I") (by decide +kernel)) rfl dX10_keep_126 ?_
                refine lv_iload_n hx hb dX10_keep_129 rfl (lv_at hl 4 rfl) ?_
                refine m_iald (w := (r 3)) hx hb hK hP 2 rfl (vp_in_iff.mpr ⟨by omega, by omega⟩) dX10_keep_130 ?_
                refine lv_topi (fun v130 e130 => ?_)
                have i130 : v130.toInt = ((r 3) k0.toNatClampNeg).toInt := congrArg Int32.toInt e130
                have w130 := mi_w hI (x := k0) (by omega) (by omega) e130
                refine lv_iadd hx hb dX10_keep_131 ?_
                refine lv_topi (fun v131 e131 => ?_)
                have i131 : v131.toInt = v124.toInt + v130.toInt := by rw [e131]; exact fb_addI (by omega) (by omega)
                refine lv_goto (tgt := 136) hx hb dX10_keep_132 (by decide) ?_
                refine m_iast (w := (r 30)) hx hb hK hP hD hS 18 rfl (vp_in_iff.mpr ⟨by omega, by omega⟩) (va_up (va_up r 29 ((upd (r 29) d.toNatClampNeg what))) 30 (upd (r 30) d.toNatClampNeg v131)) (ms_30 cy mo a _ _ _ _ _) dX10_keep_136 (fun H locs hP hS => ?_)
                refine lv_iload_n hx hb dX10_keep_137 rfl (lv_at hl 3 rfl) ?_
                refine lv_iconst (v := 1) hx hb dX10_keep_138 (by decide) ?_
                refine lv_icmp_ne (tgt := 174) hx hb dX10_keep_139 (by decide) (fun c139 => ?_) (fun c139 => ?_)
                · skip
                  have d139 := c139
                  rw [fa_eq] at d139
                  refine lv_iconst (v := 0) hx hb dX10_keep_174 (by decide) ?_
                  refine lv_istore (lv' := [(7, .int (0 : Int32)), (6, .int (1 : Int32)), (0, .ref mo), (1, .int d), (2, .int what), (3, .int k0), (4, .long p0)]) hx hb dX10_keep_175 hl (by decide) rfl (fun ls hl => ?_)
                  have loop_177 : ∀ (n : Nat) (i : Nat) (s3 : Nat → Int64), (i ≤ 60) → 60 - i < n → ∀ (H : Heap) (locs : List Loc), va_P D vwCl (WM cy mo a (upd f 0 (0 : Int32)) g (va_up (va_up r 29 ((upd (r 29) d.toNatClampNeg what))) 30 ((upd (r 30) d.toNatClampNeg v131))) (va_up q 33 s3)) H → va_S (AM mo a) s.heap H locs → ∀ (ls : Array Slot), lv_has ls 8 [(7, .int (nI i)), (6, .int (1 : Int32)), (0, .ref mo), (1, .int d), (2, .int what), (3, .int k0), (4, .long p0)] → W p l e (headSpec wsX10_keep ({ frames := 3, cells := 0, slots := 0, locals := 69 })).room s m #[Value.ref mo, Value.int d, Value.int what, Value.int k0, Value.long p0] below meth c H locs 0 0 (MQ below (va_Qi (fun r0 u => ∃ (sh : Nat → Int32), ∃ (sz : Nat → Int32), ∃ (sw : Nat → Int32), ∃ (sf : Nat → Int32), ∃ (sr : Nat → Int64), u = ((upd f 0 (0 : Int32)), g, (va_up (va_up (va_up (va_up r 29 sh) 30 sz) 31 sw) 32 sf), (va_up q 33 sr)) ∧ (MI (upd f 0 (0 : Int32)) (va_up (va_up (va_up (va_up r 29 sh) 30 sz) 31 sw) 32 sf))) (mB D cy mo a) (AM mo a)) #[Value.ref mo, Value.int d, Value.int what, Value.int k0, Value.long p0] s 0 0 (AM mo a)) (F0 m 177 ls []) := by
                    intro n
                    induction n with
                    | zero => intro i s3 j177_0 hn; exact absurd hn (Nat.not_lt_zero _)
                    | succ n ih_177 =>
                      intro i s3 j177_0 hn_177 H locs hP hS ls hl
                      have ii : (nI i).toInt = (i : Int) := nI_toInt (by omega)
                      refine lv_iload hx hb dX10_keep_177 (lv_at hl 0 rfl) ?_
                      refine lv_aload_n hx hb dX10_keep_179 rfl (lv_at hl 2 rfl) ?_
                      refine m_get (v := .ref (a 30)) hx hb hts hin hown hK hP 30 (by decide) rfl (hts (.fieldLink RX10 64 "ShadowBenchModel" "shelfSize" "[I") (by decide +kernel)) rfl dX10_keep_180 ?_
                      refine lv_iload_n hx hb dX10_keep_183 rfl (lv_at hl 3 rfl) ?_
                      refine m_iald (w := ((upd (r 30) d.toNatClampNeg v131))) hx hb hK hP 18 rfl (vp_in_iff.mpr ⟨by omega, by omega⟩) dX10_keep_184 ?_
                      refine lv_topi (fun v184 e184 => ?_)
                      have i184 : v184.toInt = (((upd (r 30) d.toNatClampNeg v131)) d.toNatClampNeg).toInt := congrArg Int32.toInt e184
                      have z184 := e184
                      simp only [upd, if_true] at z184
                      have y184 := congrArg Int32.toInt z184
                      refine lv_icmp_ge (tgt := 272) hx hb dX10_keep_185 (by decide) (fun c185 => ?_) (fun c185 => ?_)
                      · skip
                        have d185 := c185
                        rw [fa_le] at d185
                        refine lv_iconst (v := 0) hx hb dX10_keep_272 (by decide) ?_
                        have hP := wm_eq rfl rfl (ec_r_29_30__29_30_31_32 r ((upd (r 29) d.toNatClampNeg what)) ((upd (r 30) d.toNatClampNeg v131))) rfl hP
                        exact W.iret (v := (0 : Int32)) hx hb hr (fun t ht hW => ⟨⟨_, ((upd f 0 (0 : Int32)), g, (va_up (va_up (va_up (va_up r 29 (((upd (r 29) d.toNatClampNeg what)))) 30 (((upd (r 30) d.toNatClampNeg v131)))) 31 (r 31)) 32 (r 32)), (va_up q 33 s3)), rfl, ⟨((upd (r 29) d.toNatClampNeg what)), ((upd (r 30) d.toNatClampNeg v131)), (r 31), (r 32), s3, rfl, by first | exact hI | exact mi_sz (d := d) hI (v := v110) (by omega) rfl rfl rfl rfl rfl rfl rfl rfl | exact mi_sz (d := d) hI (v := v131) (by omega) rfl rfl rfl rfl rfl rfl rfl rfl | exact mi_sz (d := d) hI (v := 0) (by decide) rfl rfl rfl rfl rfl rfl rfl rfl⟩, by unfold mB; rw [ht]; exact hP⟩, hS.F ht⟩) hS.2.2 dX10_keep_273
                      · skip
                        have d185 := c185
                        rw [fa_le] at d185
                        refine lv_aload_n hx hb dX10_keep_188 rfl (lv_at hl 2 rfl) ?_
                        refine m_get (v := .ref (a 33)) hx hb hts hin hown hK hP 33 (by decide) rfl (hts (.fieldLink RX10 73 "ShadowBenchModel" "shelfRow" "[J") (by decide +kernel)) rfl dX10_keep_189 ?_
                        refine lv_bipush (v := 60) hx hb dX10_keep_192 (by decide) ?_
                        refine lv_iload_n hx hb dX10_keep_194 rfl (lv_at hl 3 rfl) ?_
                        refine lv_imul hx hb dX10_keep_195 ?_
                        refine lv_topi (fun v195 e195 => ?_)
                        have i195 : v195.toInt = 60 * d.toInt := by rw [e195]; exact mulcL rfl (by omega) (by omega)
                        refine lv_iload hx hb dX10_keep_196 (lv_at hl 0 rfl) ?_
                        refine lv_iadd hx hb dX10_keep_198 ?_
                        refine lv_topi (fun v198 e198 => ?_)
                        have i198 : v198.toInt = v195.toInt + (nI i).toInt := by rw [e198]; exact fb_addI (by omega) (by omega)
                        refine lv_iload_n hx hb dX10_keep_199 rfl (lv_at hl 4 rfl) ?_
                        refine lv_iconst (v := 3) hx hb dX10_keep_200 (by decide) ?_
                        refine lv_icmp_ne (tgt := 215) hx hb dX10_keep_201 (by decide) (fun c201 => ?_) (fun c201 => ?_)
                        · skip
                          have d201 := c201
                          rw [fa_eq] at d201
                          refine lv_iload hx hb dX10_keep_215 (lv_at hl 0 rfl) ?_
                          refine lv_aload_n hx hb dX10_keep_217 rfl (lv_at hl 2 rfl) ?_
                          refine m_get (v := .ref (a 4)) hx hb hts hin hown hK hP 4 (by decide) rfl (hts (.fieldLink RX10 16 "ShadowBenchModel" "high" "[I") (by decide +kernel)) rfl dX10_keep_218 ?_
                          refine lv_iload_n hx hb dX10_keep_221 rfl (lv_at hl 5 rfl) ?_
                          refine m_iald (w := (r 4)) hx hb hK hP 3 rfl (vp_in_iff.mpr ⟨by omega, by omega⟩) dX10_keep_222 ?_
                          refine lv_topi (fun v222 e222 => ?_)
                          have i222 : v222.toInt = ((r 4) k0.toNatClampNeg).toInt := congrArg Int32.toInt e222
                          have w222 := mi_h hI (x := k0) (by omega) (by omega) e222
                          refine lv_icmp_ge (tgt := 242) hx hb dX10_keep_223 (by decide) (fun c223 => ?_) (fun c223 => ?_)
                          · skip
                            have d223 := c223
                            rw [fa_le] at d223
                            refine lv_aload_n hx hb dX10_keep_242 rfl (lv_at hl 2 rfl) ?_
                            refine m_get (v := .ref (a 5)) hx hb hts hin hown hK hP 5 (by decide) rfl (hts (.fieldLink RX10 19 "ShadowBenchModel" "sums" "[I") (by decide +kernel)) rfl dX10_keep_243 ?_
                            refine lv_bipush (v := 44) hx hb dX10_keep_246 (by decide) ?_
                            refine lv_iload_n hx hb dX10_keep_248 rfl (lv_at hl 5 rfl) ?_
                            refine lv_imul hx hb dX10_keep_249 ?_
                            refine lv_topi (fun v249 e249 => ?_)
                            have i249 : v249.toInt = 44 * k0.toInt := by rw [e249]; exact mulcL rfl (by omega) (by omega)
                            refine lv_bipush (v := 11) hx hb dX10_keep_250 (by decide) ?_
                            refine lv_iadd hx hb dX10_keep_252 ?_
                            refine lv_topi (fun v252 e252 => ?_)
                            have i252 : v252.toInt = v249.toInt + (11 : Int32).toInt := by rw [e252]; exact fb_addI (by omega) (by omega)
                            refine lv_iload hx hb dX10_keep_253 (lv_at hl 0 rfl) ?_
                            refine lv_iadd hx hb dX10_keep_255 ?_
                            refine lv_topi (fun v255 e255 => ?_)
                            have i255 : v255.toInt = v252.toInt + (nI i).toInt := by rw [e255]; exact fb_addI (by omega) (by omega)
                            refine lv_aload_n hx hb dX10_keep_256 rfl (lv_at hl 2 rfl) ?_
                            refine m_get (v := .ref (a 4)) hx hb hts hin hown hK hP 4 (by decide) rfl (hts (.fieldLink RX10 16 "ShadowBenchModel" "high" "[I") (by decide +kernel)) rfl dX10_keep_257 ?_
                            refine lv_iload_n hx hb dX10_keep_260 rfl (lv_at hl 5 rfl) ?_
                            refine m_iald (w := (r 4)) hx hb hK hP 3 rfl (vp_in_iff.mpr ⟨by omega, by omega⟩) dX10_keep_261 ?_
                            refine lv_topi (fun v261 e261 => ?_)
                            have i261 : v261.toInt = ((r 4) k0.toNatClampNeg).toInt := congrArg Int32.toInt e261
                            have w261 := mi_h hI (x := k0) (by omega) (by omega) e261
                            refine lv_isub hx hb dX10_keep_262 ?_
                            refine lv_topi (fun v262 e262 => ?_)
                            have i262 : v262.toInt = v255.toInt - v261.toInt := by rw [e262]; exact fb_subI (by omega) (by omega)
                            refine m_iald (w := (r 5)) hx hb hK hP 4 rfl (vp_in_iff.mpr ⟨by omega, by omega⟩) dX10_keep_263 ?_
                            refine lv_topi (fun v263 e263 => ?_)
                            have i263 : v263.toInt = ((r 5) v262.toNatClampNeg).toInt := congrArg Int32.toInt e263
                            refine lv_i2l (v := v263.toInt64) hx hb dX10_keep_264 rfl ?_
                            refine m_last (w := s3) hx hb hK hP hD hS 21 rfl (vp_in_iff.mpr ⟨by omega, by omega⟩) (va_up (va_up q 33 s3) 33 (vp_updL s3 v198.toNatClampNeg v263.toInt64)) (ms_33 cy mo a _ _ _ _ _) dX10_keep_265 (fun H locs hP hS => ?_)
                            have hP := wm_eq rfl rfl rfl (es_q_33__33 q s3 (vp_updL s3 v198.toNatClampNeg v263.toInt64)) hP
                            refine lv_iinc (v := (nI (i + 1))) (lv' := [(7, .int (nI (i + 1))), (6, .int (1 : Int32)), (0, .ref mo), (1, .int d), (2, .int what), (3, .int k0), (4, .long p0)]) hx hb dX10_keep_266 hl (k := 0) rfl (nI_1 _) (by decide) rfl (fun ls hl => ?_)
                            refine lv_goto (tgt := 177) hx hb dX10_keep_269 (by decide) ?_
                            have hP := wm_eq rfl rfl (ec_r_29_30__29_30 r ((upd (r 29) d.toNatClampNeg what)) ((upd (r 30) d.toNatClampNeg v131))) rfl hP
                            exact ih_177 (i + 1) (vp_updL s3 v198.toNatClampNeg v263.toInt64) (by omega) (by omega) _ _ hP hS ls (lv_sub hl [0, 1, 2, 3, 4, 5, 6] rfl)
                          · skip
                            have d223 := c223
                            rw [fa_le] at d223
                            refine lv_aload_n hx hb dX10_keep_226 rfl (lv_at hl 2 rfl) ?_
                            refine m_get (v := .ref (a 5)) hx hb hts hin hown hK hP 5 (by decide) rfl (hts (.fieldLink RX10 19 "ShadowBenchModel" "sums" "[I") (by decide +kernel)) rfl dX10_keep_227 ?_
                            refine lv_bipush (v := 44) hx hb dX10_keep_230 (by decide) ?_
                            refine lv_iload_n hx hb dX10_keep_232 rfl (lv_at hl 5 rfl) ?_
                            refine lv_imul hx hb dX10_keep_233 ?_
                            refine lv_topi (fun v233 e233 => ?_)
                            have i233 : v233.toInt = 44 * k0.toInt := by rw [e233]; exact mulcL rfl (by omega) (by omega)
                            refine lv_iload hx hb dX10_keep_234 (lv_at hl 0 rfl) ?_
                            refine lv_iadd hx hb dX10_keep_236 ?_
                            refine lv_topi (fun v236 e236 => ?_)
                            have i236 : v236.toInt = v233.toInt + (nI i).toInt := by rw [e236]; exact fb_addI (by omega) (by omega)
                            refine m_iald (w := (r 5)) hx hb hK hP 4 rfl (vp_in_iff.mpr ⟨by omega, by omega⟩) dX10_keep_237 ?_
                            refine lv_topi (fun v237 e237 => ?_)
                            have i237 : v237.toInt = ((r 5) v236.toNatClampNeg).toInt := congrArg Int32.toInt e237
                            refine lv_i2l (v := v237.toInt64) hx hb dX10_keep_238 rfl ?_
                            refine lv_goto (tgt := 265) hx hb dX10_keep_239 (by decide) ?_
                            refine m_last (w := s3) hx hb hK hP hD hS 21 rfl (vp_in_iff.mpr ⟨by omega, by omega⟩) (va_up (va_up q 33 s3) 33 (vp_updL s3 v198.toNatClampNeg v237.toInt64)) (ms_33 cy mo a _ _ _ _ _) dX10_keep_265 (fun H locs hP hS => ?_)
                            have hP := wm_eq rfl rfl rfl (es_q_33__33 q s3 (vp_updL s3 v198.toNatClampNeg v237.toInt64)) hP
                            refine lv_iinc (v := (nI (i + 1))) (lv' := [(7, .int (nI (i + 1))), (6, .int (1 : Int32)), (0, .ref mo), (1, .int d), (2, .int what), (3, .int k0), (4, .long p0)]) hx hb dX10_keep_266 hl (k := 0) rfl (nI_1 _) (by decide) rfl (fun ls hl => ?_)
                            refine lv_goto (tgt := 177) hx hb dX10_keep_269 (by decide) ?_
                            have hP := wm_eq rfl rfl (ec_r_29_30__29_30 r ((upd (r 29) d.toNatClampNeg what)) ((upd (r 30) d.toNatClampNeg v131))) rfl hP
                            exact ih_177 (i + 1) (vp_updL s3 v198.toNatClampNeg v237.toInt64) (by omega) (by omega) _ _ hP hS ls (lv_sub hl [0, 1, 2, 3, 4, 5, 6] rfl)
                        · first | exact absurd c201 c95 | exact absurd c95 c201
                  have hP := wm_eq rfl rfl (ec_r_29_30__29_30 r ((upd (r 29) d.toNatClampNeg what)) ((upd (r 30) d.toNatClampNeg v131))) (ec_q___33 q ) hP
                  exact loop_177 (60 + 1) 0 (q 33) (by omega) (by omega) _ _ hP hS ls (lv_sub hl [0, 1, 2, 3, 4, 5, 6] rfl)
                · skip
                  have d139 := c139
                  rw [fa_eq] at d139
                  refine lv_aload_n hx hb dX10_keep_142 rfl (lv_at hl 1 rfl) ?_
                  refine m_get (v := .ref (a 31)) hx hb hts hin hown hK hP 31 (by decide) rfl (hts (.fieldLink RX10 67 "ShadowBenchModel" "shelfWeight" "[I") (by decide +kernel)) rfl dX10_keep_143 ?_
                  refine lv_iload_n hx hb dX10_keep_146 rfl (lv_at hl 2 rfl) ?_
                  refine lv_aload_n hx hb dX10_keep_147 rfl (lv_at hl 1 rfl) ?_
                  refine lv_iload_n hx hb dX10_keep_148 rfl (lv_at hl 4 rfl) ?_
                  refine m_calli (As := [.int k0]) (rest := [.int d, .ref (a 31)]) ⟨hx, hb, hml, hown, hts⟩ (c_X10_weightOf l D cy mo a (upd f 0 (0 : Int32)) g (va_up (va_up r 29 ((upd (r 29) d.toNatClampNeg what))) 30 ((upd (r 30) d.toNatClampNeg v131))) q k0 hD (by first | exact hI | exact mi_sz (d := d) hI (v := 0) (by first | omega | decide) rfl rfl rfl rfl rfl rfl rfl rfl | exact mi_sz (d := d) hI (v := v131) (by first | omega | decide) rfl rfl rfl rfl rfl rfl rfl rfl | exact mi_sz (d := d) hI (v := v110) (by first | omega | decide) rfl rfl rfl rfl rfl rfl rfl rfl) (show 0 ≤ k0.toInt ∧ k0.toInt < (f 1).toInt by omega)) (cwV 1 hts gX10_keep_X10_weightOf rfl rfl rfl (by decide +kernel) ⟨Nat.le_of_ble_eq_true rfl, Nat.le_of_ble_eq_true rfl⟩) hK hP rfl hl.1 rfl (Nat.le_of_ble_eq_true rfl) dX10_keep_149 ⟨Nat.le_of_ble_eq_true rfl, Nat.le_of_ble_eq_true rfl⟩ hS (fun r149 u H locs q149 hP hS => ?_)
                  obtain ⟨rfl, q149⟩ := q149
                  have hP : va_P D vwCl (WM cy mo a (upd f 0 (0 : Int32)) g (va_up (va_up r 29 ((upd (r 29) d.toNatClampNeg what))) 30 ((upd (r 30) d.toNatClampNeg v131))) q) H := hP
                  have q149 : True := q149
                  refine m_iast (w := (r 31)) hx hb hK hP hD hS 19 rfl (vp_in_iff.mpr ⟨by omega, by omega⟩) (va_up (va_up (va_up r 29 ((upd (r 29) d.toNatClampNeg what))) 30 ((upd (r 30) d.toNatClampNeg v131))) 31 (upd (r 31) d.toNatClampNeg r149)) (ms_31 cy mo a _ _ _ _ _) dX10_keep_152 (fun H locs hP hS => ?_)
                  refine lv_aload_n hx hb dX10_keep_153 rfl (lv_at hl 1 rfl) ?_
                  refine m_get (v := .ref (a 32)) hx hb hts hin hown hK hP 32 (by decide) rfl (hts (.fieldLink RX10 70 "ShadowBenchModel" "shelfFailure" "[I") (by decide +kernel)) rfl dX10_keep_154 ?_
                  refine lv_iload_n hx hb dX10_keep_157 rfl (lv_at hl 2 rfl) ?_
                  refine lv_aload_n hx hb dX10_keep_158 rfl (lv_at hl 1 rfl) ?_
                  refine m_get (v := .ref (a 2)) hx hb hts hin hown hK hP 2 (by decide) rfl (hts (.fieldLink RX10 7 "ShadowBenchModel" "kind" "[I") (by decide +kernel)) rfl dX10_keep_159 ?_
                  refine lv_iload_n hx hb dX10_keep_162 rfl (lv_at hl 4 rfl) ?_
                  refine m_iald (w := (r 2)) hx hb hK hP 1 rfl (vp_in_iff.mpr ⟨by omega, by omega⟩) dX10_keep_163 ?_
                  refine lv_topi (fun v163 e163 => ?_)
                  have i163 : v163.toInt = ((r 2) k0.toNatClampNeg).toInt := congrArg Int32.toInt e163
                  refine lv_if_ne (tgt := 172) hx hb dX10_keep_164 (by decide) (fun c164 => ?_) (fun c164 => ?_)
                  · skip
                    have d164 := c164
                    rw [fa_eq] at d164
                    refine lv_iload_n hx hb dX10_keep_172 rfl (lv_at hl 4 rfl) ?_
                    refine m_iast (w := (r 32)) hx hb hK hP hD hS 20 rfl (vp_in_iff.mpr ⟨by omega, by omega⟩) (va_up (va_up (va_up (va_up r 29 ((upd (r 29) d.toNatClampNeg what))) 30 ((upd (r 30) d.toNatClampNeg v131))) 31 ((upd (r 31) d.toNatClampNeg r149))) 32 (upd (r 32) d.toNatClampNeg k0)) (ms_32 cy mo a _ _ _ _ _) dX10_keep_173 (fun H locs hP hS => ?_)
                    refine lv_iconst (v := 0) hx hb dX10_keep_174 (by decide) ?_
                    refine lv_istore (lv' := [(7, .int (0 : Int32)), (6, .int (1 : Int32)), (0, .ref mo), (1, .int d), (2, .int what), (3, .int k0), (4, .long p0)]) hx hb dX10_keep_175 hl (by decide) rfl (fun ls hl => ?_)
                    have loop_177 : ∀ (n : Nat) (i : Nat) (s3 : Nat → Int64), (i ≤ 60) → 60 - i < n → ∀ (H : Heap) (locs : List Loc), va_P D vwCl (WM cy mo a (upd f 0 (0 : Int32)) g (va_up (va_up (va_up (va_up r 29 ((upd (r 29) d.toNatClampNeg what))) 30 ((upd (r 30) d.toNatClampNeg v131))) 31 ((upd (r 31) d.toNatClampNeg r149))) 32 ((upd (r 32) d.toNatClampNeg k0))) (va_up q 33 s3)) H → va_S (AM mo a) s.heap H locs → ∀ (ls : Array Slot), lv_has ls 8 [(7, .int (nI i)), (6, .int (1 : Int32)), (0, .ref mo), (1, .int d), (2, .int what), (3, .int k0), (4, .long p0)] → W p l e (headSpec wsX10_keep ({ frames := 3, cells := 0, slots := 0, locals := 69 })).room s m #[Value.ref mo, Value.int d, Value.int what, Value.int k0, Value.long p0] below meth c H locs 0 0 (MQ below (va_Qi (fun r0 u => ∃ (sh : Nat → Int32), ∃ (sz : Nat → Int32), ∃ (sw : Nat → Int32), ∃ (sf : Nat → Int32), ∃ (sr : Nat → Int64), u = ((upd f 0 (0 : Int32)), g, (va_up (va_up (va_up (va_up r 29 sh) 30 sz) 31 sw) 32 sf), (va_up q 33 sr)) ∧ (MI (upd f 0 (0 : Int32)) (va_up (va_up (va_up (va_up r 29 sh) 30 sz) 31 sw) 32 sf))) (mB D cy mo a) (AM mo a)) #[Value.ref mo, Value.int d, Value.int what, Value.int k0, Value.long p0] s 0 0 (AM mo a)) (F0 m 177 ls []) := by
                      intro n
                      induction n with
                      | zero => intro i s3 j177_0 hn; exact absurd hn (Nat.not_lt_zero _)
                      | succ n ih_177 =>
                        intro i s3 j177_0 hn_177 H locs hP hS ls hl
                        have ii : (nI i).toInt = (i : Int) := nI_toInt (by omega)
                        refine lv_iload hx hb dX10_keep_177 (lv_at hl 0 rfl) ?_
                        refine lv_aload_n hx hb dX10_keep_179 rfl (lv_at hl 2 rfl) ?_
                        refine m_get (v := .ref (a 30)) hx hb hts hin hown hK hP 30 (by decide) rfl (hts (.fieldLink RX10 64 "ShadowBenchModel" "shelfSize" "[I") (by decide +kernel)) rfl dX10_keep_180 ?_
                        refine lv_iload_n hx hb dX10_keep_183 rfl (lv_at hl 3 rfl) ?_
                        refine m_iald (w := ((upd (r 30) d.toNatClampNeg v131))) hx hb hK hP 18 rfl (vp_in_iff.mpr ⟨by omega, by omega⟩) dX10_keep_184 ?_
                        refine lv_topi (fun v184 e184 => ?_)
                        have i184 : v184.toInt = (((upd (r 30) d.toNatClampNeg v131)) d.toNatClampNeg).toInt := congrArg Int32.toInt e184
                        have z184 := e184
                        simp only [upd, if_true] at z184
                        have y184 := congrArg Int32.toInt z184
                        refine lv_icmp_ge (tgt := 272) hx hb dX10_keep_185 (by decide) (fun c185 => ?_) (fun c185 => ?_)
                        · skip
                          have d185 := c185
                          rw [fa_le] at d185
                          refine lv_iconst (v := 0) hx hb dX10_keep_272 (by decide) ?_
                          have hP := wm_eq rfl rfl (ec_r_29_30_31_32__29_30_31_32 r ((upd (r 29) d.toNatClampNeg what)) ((upd (r 30) d.toNatClampNeg v131)) ((upd (r 31) d.toNatClampNeg r149)) ((upd (r 32) d.toNatClampNeg k0))) rfl hP
                          exact W.iret (v := (0 : Int32)) hx hb hr (fun t ht hW => ⟨⟨_, ((upd f 0 (0 : Int32)), g, (va_up (va_up (va_up (va_up r 29 (((upd (r 29) d.toNatClampNeg what)))) 30 (((upd (r 30) d.toNatClampNeg v131)))) 31 (((upd (r 31) d.toNatClampNeg r149)))) 32 (((upd (r 32) d.toNatClampNeg k0)))), (va_up q 33 s3)), rfl, ⟨((upd (r 29) d.toNatClampNeg what)), ((upd (r 30) d.toNatClampNeg v131)), ((upd (r 31) d.toNatClampNeg r149)), ((upd (r 32) d.toNatClampNeg k0)), s3, rfl, by first | exact hI | exact mi_sz (d := d) hI (v := v110) (by omega) rfl rfl rfl rfl rfl rfl rfl rfl | exact mi_sz (d := d) hI (v := v131) (by omega) rfl rfl rfl rfl rfl rfl rfl rfl | exact mi_sz (d := d) hI (v := 0) (by decide) rfl rfl rfl rfl rfl rfl rfl rfl⟩, by unfold mB; rw [ht]; exact hP⟩, hS.F ht⟩) hS.2.2 dX10_keep_273
                        · skip
                          have d185 := c185
                          rw [fa_le] at d185
                          refine lv_aload_n hx hb dX10_keep_188 rfl (lv_at hl 2 rfl) ?_
                          refine m_get (v := .ref (a 33)) hx hb hts hin hown hK hP 33 (by decide) rfl (hts (.fieldLink RX10 73 "ShadowBenchModel" "shelfRow" "[J") (by decide +kernel)) rfl dX10_keep_189 ?_
                          refine lv_bipush (v := 60) hx hb dX10_keep_192 (by decide) ?_
                          refine lv_iload_n hx hb dX10_keep_194 rfl (lv_at hl 3 rfl) ?_
                          refine lv_imul hx hb dX10_keep_195 ?_
                          refine lv_topi (fun v195 e195 => ?_)
                          have i195 : v195.toInt = 60 * d.toInt := by rw [e195]; exact mulcL rfl (by omega) (by omega)
                          refine lv_iload hx hb dX10_keep_196 (lv_at hl 0 rfl) ?_
                          refine lv_iadd hx hb dX10_keep_198 ?_
                          refine lv_topi (fun v198 e198 => ?_)
                          have i198 : v198.toInt = v195.toInt + (nI i).toInt := by rw [e198]; exact fb_addI (by omega) (by omega)
                          refine lv_iload_n hx hb dX10_keep_199 rfl (lv_at hl 4 rfl) ?_
                          refine lv_iconst (v := 3) hx hb dX10_keep_200 (by decide) ?_
                          refine lv_icmp_ne (tgt := 215) hx hb dX10_keep_201 (by decide) (fun c201 => ?_) (fun c201 => ?_)
                          · skip
                            have d201 := c201
                            rw [fa_eq] at d201
                            refine lv_iload hx hb dX10_keep_215 (lv_at hl 0 rfl) ?_
                            refine lv_aload_n hx hb dX10_keep_217 rfl (lv_at hl 2 rfl) ?_
                            refine m_get (v := .ref (a 4)) hx hb hts hin hown hK hP 4 (by decide) rfl (hts (.fieldLink RX10 16 "ShadowBenchModel" "high" "[I") (by decide +kernel)) rfl dX10_keep_218 ?_
                            refine lv_iload_n hx hb dX10_keep_221 rfl (lv_at hl 5 rfl) ?_
                            refine m_iald (w := (r 4)) hx hb hK hP 3 rfl (vp_in_iff.mpr ⟨by omega, by omega⟩) dX10_keep_222 ?_
                            refine lv_topi (fun v222 e222 => ?_)
                            have i222 : v222.toInt = ((r 4) k0.toNatClampNeg).toInt := congrArg Int32.toInt e222
                            have w222 := mi_h hI (x := k0) (by omega) (by omega) e222
                            refine lv_icmp_ge (tgt := 242) hx hb dX10_keep_223 (by decide) (fun c223 => ?_) (fun c223 => ?_)
                            · skip
                              have d223 := c223
                              rw [fa_le] at d223
                              refine lv_aload_n hx hb dX10_keep_242 rfl (lv_at hl 2 rfl) ?_
                              refine m_get (v := .ref (a 5)) hx hb hts hin hown hK hP 5 (by decide) rfl (hts (.fieldLink RX10 19 "ShadowBenchModel" "sums" "[I") (by decide +kernel)) rfl dX10_keep_243 ?_
                              refine lv_bipush (v := 44) hx hb dX10_keep_246 (by decide) ?_
                              refine lv_iload_n hx hb dX10_keep_248 rfl (lv_at hl 5 rfl) ?_
                              refine lv_imul hx hb dX10_keep_249 ?_
                              refine lv_topi (fun v249 e249 => ?_)
                              have i249 : v249.toInt = 44 * k0.toInt := by rw [e249]; exact mulcL rfl (by omega) (by omega)
                              refine lv_bipush (v := 11) hx hb dX10_keep_250 (by decide) ?_
                              refine lv_iadd hx hb dX10_keep_252 ?_
                              refine lv_topi (fun v252 e252 => ?_)
                              have i252 : v252.toInt = v249.toInt + (11 : Int32).toInt := by rw [e252]; exact fb_addI (by omega) (by omega)
                              refine lv_iload hx hb dX10_keep_253 (lv_at hl 0 rfl) ?_
                              refine lv_iadd hx hb dX10_keep_255 ?_
                              refine lv_topi (fun v255 e255 => ?_)
                              have i255 : v255.toInt = v252.toInt + (nI i).toInt := by rw [e255]; exact fb_addI (by omega) (by omega)
                              refine lv_aload_n hx hb dX10_keep_256 rfl (lv_at hl 2 rfl) ?_
                              refine m_get (v := .ref (a 4)) hx hb hts hin hown hK hP 4 (by decide) rfl (hts (.fieldLink RX10 16 "ShadowBenchModel" "high" "[I") (by decide +kernel)) rfl dX10_keep_257 ?_
                              refine lv_iload_n hx hb dX10_keep_260 rfl (lv_at hl 5 rfl) ?_
                              refine m_iald (w := (r 4)) hx hb hK hP 3 rfl (vp_in_iff.mpr ⟨by omega, by omega⟩) dX10_keep_261 ?_
                              refine lv_topi (fun v261 e261 => ?_)
                              have i261 : v261.toInt = ((r 4) k0.toNatClampNeg).toInt := congrArg Int32.toInt e261
                              have w261 := mi_h hI (x := k0) (by omega) (by omega) e261
                              refine lv_isub hx hb dX10_keep_262 ?_
                              refine lv_topi (fun v262 e262 => ?_)
                              have i262 : v262.toInt = v255.toInt - v261.toInt := by rw [e262]; exact fb_subI (by omega) (by omega)
                              refine m_iald (w := (r 5)) hx hb hK hP 4 rfl (vp_in_iff.mpr ⟨by omega, by omega⟩) dX10_keep_263 ?_
                              refine lv_topi (fun v263 e263 => ?_)
                              have i263 : v263.toInt = ((r 5) v262.toNatClampNeg).toInt := congrArg Int32.toInt e263
                              refine lv_i2l (v := v263.toInt64) hx hb dX10_keep_264 rfl ?_
                              refine m_last (w := s3) hx hb hK hP hD hS 21 rfl (vp_in_iff.mpr ⟨by omega, by omega⟩) (va_up (va_up q 33 s3) 33 (vp_updL s3 v198.toNatClampNeg v263.toInt64)) (ms_33 cy mo a _ _ _ _ _) dX10_keep_265 (fun H locs hP hS => ?_)
                              have hP := wm_eq rfl rfl rfl (es_q_33__33 q s3 (vp_updL s3 v198.toNatClampNeg v263.toInt64)) hP
                              refine lv_iinc (v := (nI (i + 1))) (lv' := [(7, .int (nI (i + 1))), (6, .int (1 : Int32)), (0, .ref mo), (1, .int d), (2, .int what), (3, .int k0), (4, .long p0)]) hx hb dX10_keep_266 hl (k := 0) rfl (nI_1 _) (by decide) rfl (fun ls hl => ?_)
                              refine lv_goto (tgt := 177) hx hb dX10_keep_269 (by decide) ?_
                              have hP := wm_eq rfl rfl (ec_r_29_30_31_32__29_30_31_32 r ((upd (r 29) d.toNatClampNeg what)) ((upd (r 30) d.toNatClampNeg v131)) ((upd (r 31) d.toNatClampNeg r149)) ((upd (r 32) d.toNatClampNeg k0))) rfl hP
                              exact ih_177 (i + 1) (vp_updL s3 v198.toNatClampNeg v263.toInt64) (by omega) (by omega) _ _ hP hS ls (lv_sub hl [0, 1, 2, 3, 4, 5, 6] rfl)
                            · skip
                              have d223 := c223
                              rw [fa_le] at d223
                              refine lv_aload_n hx hb dX10_keep_226 rfl (lv_at hl 2 rfl) ?_
                              refine m_get (v := .ref (a 5)) hx hb hts hin hown hK hP 5 (by decide) rfl (hts (.fieldLink RX10 19 "ShadowBenchModel" "sums" "[I") (by decide +kernel)) rfl dX10_keep_227 ?_
                              refine lv_bipush (v := 44) hx hb dX10_keep_230 (by decide) ?_
                              refine lv_iload_n hx hb dX10_keep_232 rfl (lv_at hl 5 rfl) ?_
                              refine lv_imul hx hb dX10_keep_233 ?_
                              refine lv_topi (fun v233 e233 => ?_)
                              have i233 : v233.toInt = 44 * k0.toInt := by rw [e233]; exact mulcL rfl (by omega) (by omega)
                              refine lv_iload hx hb dX10_keep_234 (lv_at hl 0 rfl) ?_
                              refine lv_iadd hx hb dX10_keep_236 ?_
                              refine lv_topi (fun v236 e236 => ?_)
                              have i236 : v236.toInt = v233.toInt + (nI i).toInt := by rw [e236]; exact fb_addI (by omega) (by omega)
                              refine m_iald (w := (r 5)) hx hb hK hP 4 rfl (vp_in_iff.mpr ⟨by omega, by omega⟩) dX10_keep_237 ?_
                              refine lv_topi (fun v237 e237 => ?_)
                              have i237 : v237.toInt = ((r 5) v236.toNatClampNeg).toInt := congrArg Int32.toInt e237
                              refine lv_i2l (v := v237.toInt64) hx hb dX10_keep_238 rfl ?_
                              refine lv_goto (tgt := 265) hx hb dX10_keep_239 (by decide) ?_
                              refine m_last (w := s3) hx hb hK hP hD hS 21 rfl (vp_in_iff.mpr ⟨by omega, by omega⟩) (va_up (va_up q 33 s3) 33 (vp_updL s3 v198.toNatClampNeg v237.toInt64)) (ms_33 cy mo a _ _ _ _ _) dX10_keep_265 (fun H locs hP hS => ?_)
                              have hP := wm_eq rfl rfl rfl (es_q_33__33 q s3 (vp_updL s3 v198.toNatClampNeg v237.toInt64)) hP
                              refine lv_iinc (v := (nI (i + 1))) (lv' := [(7, .int (nI (i + 1))), (6, .int (1 : Int32)), (0, .ref mo), (1, .int d), (2, .int what), (3, .int k0), (4, .long p0)]) hx hb dX10_keep_266 hl (k := 0) rfl (nI_1 _) (by decide) rfl (fun ls hl => ?_)
                              refine lv_goto (tgt := 177) hx hb dX10_keep_269 (by decide) ?_
                              have hP := wm_eq rfl rfl (ec_r_29_30_31_32__29_30_31_32 r ((upd (r 29) d.toNatClampNeg what)) ((upd (r 30) d.toNatClampNeg v131)) ((upd (r 31) d.toNatClampNeg r149)) ((upd (r 32) d.toNatClampNeg k0))) rfl hP
                              exact ih_177 (i + 1) (vp_updL s3 v198.toNatClampNeg v237.toInt64) (by omega) (by omega) _ _ hP hS ls (lv_sub hl [0, 1, 2, 3, 4, 5, 6] rfl)
                          · first | exact absurd c201 c95 | exact absurd c95 c201
                    have hP := wm_eq rfl rfl (ec_r_29_30_31_32__29_30_31_32 r ((upd (r 29) d.toNatClampNeg what)) ((upd (r 30) d.toNatClampNeg v131)) ((upd (r 31) d.toNatClampNeg r149)) ((upd (r 32) d.toNatClampNeg k0))) (ec_q___33 q ) hP
                    exact loop_177 (60 + 1) 0 (q 33) (by omega) (by omega) _ _ hP hS ls (lv_sub hl [0, 1, 2, 3, 4, 5, 6] rfl)
                  · skip
                    have d164 := c164
                    rw [fa_eq] at d164
                    refine lv_bipush (v := (-15)) hx hb dX10_keep_167 (by decide) ?_
                    refine lv_goto (tgt := 173) hx hb dX10_keep_169 (by decide) ?_
                    refine m_iast (w := (r 32)) hx hb hK hP hD hS 20 rfl (vp_in_iff.mpr ⟨by omega, by omega⟩) (va_up (va_up (va_up (va_up r 29 ((upd (r 29) d.toNatClampNeg what))) 30 ((upd (r 30) d.toNatClampNeg v131))) 31 ((upd (r 31) d.toNatClampNeg r149))) 32 (upd (r 32) d.toNatClampNeg (((-15) : Int32)))) (ms_32 cy mo a _ _ _ _ _) dX10_keep_173 (fun H locs hP hS => ?_)
                    refine lv_iconst (v := 0) hx hb dX10_keep_174 (by decide) ?_
                    refine lv_istore (lv' := [(7, .int (0 : Int32)), (6, .int (1 : Int32)), (0, .ref mo), (1, .int d), (2, .int what), (3, .int k0), (4, .long p0)]) hx hb dX10_keep_175 hl (by decide) rfl (fun ls hl => ?_)
                    have loop_177 : ∀ (n : Nat) (i : Nat) (s3 : Nat → Int64), (i ≤ 60) → 60 - i < n → ∀ (H : Heap) (locs : List Loc), va_P D vwCl (WM cy mo a (upd f 0 (0 : Int32)) g (va_up (va_up (va_up (va_up r 29 ((upd (r 29) d.toNatClampNeg what))) 30 ((upd (r 30) d.toNatClampNeg v131))) 31 ((upd (r 31) d.toNatClampNeg r149))) 32 ((upd (r 32) d.toNatClampNeg (((-15) : Int32))))) (va_up q 33 s3)) H → va_S (AM mo a) s.heap H locs → ∀ (ls : Array Slot), lv_has ls 8 [(7, .int (nI i)), (6, .int (1 : Int32)), (0, .ref mo), (1, .int d), (2, .int what), (3, .int k0), (4, .long p0)] → W p l e (headSpec wsX10_keep ({ frames := 3, cells := 0, slots := 0, locals := 69 })).room s m #[Value.ref mo, Value.int d, Value.int what, Value.int k0, Value.long p0] below meth c H locs 0 0 (MQ below (va_Qi (fun r0 u => ∃ (sh : Nat → Int32), ∃ (sz : Nat → Int32), ∃ (sw : Nat → Int32), ∃ (sf : Nat → Int32), ∃ (sr : Nat → Int64), u = ((upd f 0 (0 : Int32)), g, (va_up (va_up (va_up (va_up r 29 sh) 30 sz) 31 sw) 32 sf), (va_up q 33 sr)) ∧ (MI (upd f 0 (0 : Int32)) (va_up (va_up (va_up (va_up r 29 sh) 30 sz) 31 sw) 32 sf))) (mB D cy mo a) (AM mo a)) #[Value.ref mo, Value.int d, Value.int what, Value.int k0, Value.long p0] s 0 0 (AM mo a)) (F0 m 177 ls []) := by
                      intro n
                      induction n with
                      | zero => intro i s3 j177_0 hn; exact absurd hn (Nat.not_lt_zero _)
                      | succ n ih_177 =>
                        intro i s3 j177_0 hn_177 H locs hP hS ls hl
                        have ii : (nI i).toInt = (i : Int) := nI_toInt (by omega)
                        refine lv_iload hx hb dX10_keep_177 (lv_at hl 0 rfl) ?_
                        refine lv_aload_n hx hb dX10_keep_179 rfl (lv_at hl 2 rfl) ?_
                        refine m_get (v := .ref (a 30)) hx hb hts hin hown hK hP 30 (by decide) rfl (hts (.fieldLink RX10 64 "ShadowBenchModel" "shelfSize" "[I") (by decide +kernel)) rfl dX10_keep_180 ?_
                        refine lv_iload_n hx hb dX10_keep_183 rfl (lv_at hl 3 rfl) ?_
                        refine m_iald (w := ((upd (r 30) d.toNatClampNeg v131))) hx hb hK hP 18 rfl (vp_in_iff.mpr ⟨by omega, by omega⟩) dX10_keep_184 ?_
                        refine lv_topi (fun v184 e184 => ?_)
                        have i184 : v184.toInt = (((upd (r 30) d.toNatClampNeg v131)) d.toNatClampNeg).toInt := congrArg Int32.toInt e184
                        have z184 := e184
                        simp only [upd, if_true] at z184
                        have y184 := congrArg Int32.toInt z184
                        refine lv_icmp_ge (tgt := 272) hx hb dX10_keep_185 (by decide) (fun c185 => ?_) (fun c185 => ?_)
                        · skip
                          have d185 := c185
                          rw [fa_le] at d185
                          refine lv_iconst (v := 0) hx hb dX10_keep_272 (by decide) ?_
                          have hP := wm_eq rfl rfl (ec_r_29_30_31_32__29_30_31_32 r ((upd (r 29) d.toNatClampNeg what)) ((upd (r 30) d.toNatClampNeg v131)) ((upd (r 31) d.toNatClampNeg r149)) ((upd (r 32) d.toNatClampNeg (((-15) : Int32))))) rfl hP
                          exact W.iret (v := (0 : Int32)) hx hb hr (fun t ht hW => ⟨⟨_, ((upd f 0 (0 : Int32)), g, (va_up (va_up (va_up (va_up r 29 (((upd (r 29) d.toNatClampNeg what)))) 30 (((upd (r 30) d.toNatClampNeg v131)))) 31 (((upd (r 31) d.toNatClampNeg r149)))) 32 (((upd (r 32) d.toNatClampNeg (((-15) : Int32)))))), (va_up q 33 s3)), rfl, ⟨((upd (r 29) d.toNatClampNeg what)), ((upd (r 30) d.toNatClampNeg v131)), ((upd (r 31) d.toNatClampNeg r149)), ((upd (r 32) d.toNatClampNeg (((-15) : Int32)))), s3, rfl, by first | exact hI | exact mi_sz (d := d) hI (v := v110) (by omega) rfl rfl rfl rfl rfl rfl rfl rfl | exact mi_sz (d := d) hI (v := v131) (by omega) rfl rfl rfl rfl rfl rfl rfl rfl | exact mi_sz (d := d) hI (v := 0) (by decide) rfl rfl rfl rfl rfl rfl rfl rfl⟩, by unfold mB; rw [ht]; exact hP⟩, hS.F ht⟩) hS.2.2 dX10_keep_273
                        · skip
                          have d185 := c185
                          rw [fa_le] at d185
                          refine lv_aload_n hx hb dX10_keep_188 rfl (lv_at hl 2 rfl) ?_
                          refine m_get (v := .ref (a 33)) hx hb hts hin hown hK hP 33 (by decide) rfl (hts (.fieldLink RX10 73 "ShadowBenchModel" "shelfRow" "[J") (by decide +kernel)) rfl dX10_keep_189 ?_
                          refine lv_bipush (v := 60) hx hb dX10_keep_192 (by decide) ?_
                          refine lv_iload_n hx hb dX10_keep_194 rfl (lv_at hl 3 rfl) ?_
                          refine lv_imul hx hb dX10_keep_195 ?_
                          refine lv_topi (fun v195 e195 => ?_)
                          have i195 : v195.toInt = 60 * d.toInt := by rw [e195]; exact mulcL rfl (by omega) (by omega)
                          refine lv_iload hx hb dX10_keep_196 (lv_at hl 0 rfl) ?_
                          refine lv_iadd hx hb dX10_keep_198 ?_
                          refine lv_topi (fun v198 e198 => ?_)
                          have i198 : v198.toInt = v195.toInt + (nI i).toInt := by rw [e198]; exact fb_addI (by omega) (by omega)
                          refine lv_iload_n hx hb dX10_keep_199 rfl (lv_at hl 4 rfl) ?_
                          refine lv_iconst (v := 3) hx hb dX10_keep_200 (by decide) ?_
                          refine lv_icmp_ne (tgt := 215) hx hb dX10_keep_201 (by decide) (fun c201 => ?_) (fun c201 => ?_)
                          · skip
                            have d201 := c201
                            rw [fa_eq] at d201
                            refine lv_iload hx hb dX10_keep_215 (lv_at hl 0 rfl) ?_
                            refine lv_aload_n hx hb dX10_keep_217 rfl (lv_at hl 2 rfl) ?_
                            refine m_get (v := .ref (a 4)) hx hb hts hin hown hK hP 4 (by decide) rfl (hts (.fieldLink RX10 16 "ShadowBenchModel" "high" "[I") (by decide +kernel)) rfl dX10_keep_218 ?_
                            refine lv_iload_n hx hb dX10_keep_221 rfl (lv_at hl 5 rfl) ?_
                            refine m_iald (w := (r 4)) hx hb hK hP 3 rfl (vp_in_iff.mpr ⟨by omega, by omega⟩) dX10_keep_222 ?_
                            refine lv_topi (fun v222 e222 => ?_)
                            have i222 : v222.toInt = ((r 4) k0.toNatClampNeg).toInt := congrArg Int32.toInt e222
                            have w222 := mi_h hI (x := k0) (by omega) (by omega) e222
                            refine lv_icmp_ge (tgt := 242) hx hb dX10_keep_223 (by decide) (fun c223 => ?_) (fun c223 => ?_)
                            · skip
                              have d223 := c223
                              rw [fa_le] at d223
                              refine lv_aload_n hx hb dX10_keep_242 rfl (lv_at hl 2 rfl) ?_
                              refine m_get (v := .ref (a 5)) hx hb hts hin hown hK hP 5 (by decide) rfl (hts (.fieldLink RX10 19 "ShadowBenchModel" "sums" "[I") (by decide +kernel)) rfl dX10_keep_243 ?_
                              refine lv_bipush (v := 44) hx hb dX10_keep_246 (by decide) ?_
                              refine lv_iload_n hx hb dX10_keep_248 rfl (lv_at hl 5 rfl) ?_
                              refine lv_imul hx hb dX10_keep_249 ?_
                              refine lv_topi (fun v249 e249 => ?_)
                              have i249 : v249.toInt = 44 * k0.toInt := by rw [e249]; exact mulcL rfl (by omega) (by omega)
                              refine lv_bipush (v := 11) hx hb dX10_keep_250 (by decide) ?_
                              refine lv_iadd hx hb dX10_keep_252 ?_
                              refine lv_topi (fun v252 e252 => ?_)
                              have i252 : v252.toInt = v249.toInt + (11 : Int32).toInt := by rw [e252]; exact fb_addI (by omega) (by omega)
                              refine lv_iload hx hb dX10_keep_253 (lv_at hl 0 rfl) ?_
                              refine lv_iadd hx hb dX10_keep_255 ?_
                              refine lv_topi (fun v255 e255 => ?_)
                              have i255 : v255.toInt = v252.toInt + (nI i).toInt := by rw [e255]; exact fb_addI (by omega) (by omega)
                              refine lv_aload_n hx hb dX10_keep_256 rfl (lv_at hl 2 rfl) ?_
                              refine m_get (v := .ref (a 4)) hx hb hts hin hown hK hP 4 (by decide) rfl (hts (.fieldLink RX10 16 "ShadowBenchModel" "high" "[I") (by decide +kernel)) rfl dX10_keep_257 ?_
                              refine lv_iload_n hx hb dX10_keep_260 rfl (lv_at hl 5 rfl) ?_
                              refine m_iald (w := (r 4)) hx hb hK hP 3 rfl (vp_in_iff.mpr ⟨by omega, by omega⟩) dX10_keep_261 ?_
                              refine lv_topi (fun v261 e261 => ?_)
                              have i261 : v261.toInt = ((r 4) k0.toNatClampNeg).toInt := congrArg Int32.toInt e261
                              have w261 := mi_h hI (x := k0) (by omega) (by omega) e261
                              refine lv_isub hx hb dX10_keep_262 ?_
                              refine lv_topi (fun v262 e262 => ?_)
                              have i262 : v262.toInt = v255.toInt - v261.toInt := by rw [e262]; exact fb_subI (by omega) (by omega)
                              refine m_iald (w := (r 5)) hx hb hK hP 4 rfl (vp_in_iff.mpr ⟨by omega, by omega⟩) dX10_keep_263 ?_
                              refine lv_topi (fun v263 e263 => ?_)
                              have i263 : v263.toInt = ((r 5) v262.toNatClampNeg).toInt := congrArg Int32.toInt e263
                              refine lv_i2l (v := v263.toInt64) hx hb dX10_keep_264 rfl ?_
                              refine m_last (w := s3) hx hb hK hP hD hS 21 rfl (vp_in_iff.mpr ⟨by omega, by omega⟩) (va_up (va_up q 33 s3) 33 (vp_updL s3 v198.toNatClampNeg v263.toInt64)) (ms_33 cy mo a _ _ _ _ _) dX10_keep_265 (fun H locs hP hS => ?_)
                              have hP := wm_eq rfl rfl rfl (es_q_33__33 q s3 (vp_updL s3 v198.toNatClampNeg v263.toInt64)) hP
                              refine lv_iinc (v := (nI (i + 1))) (lv' := [(7, .int (nI (i + 1))), (6, .int (1 : Int32)), (0, .ref mo), (1, .int d), (2, .int what), (3, .int k0), (4, .long p0)]) hx hb dX10_keep_266 hl (k := 0) rfl (nI_1 _) (by decide) rfl (fun ls hl => ?_)
                              refine lv_goto (tgt := 177) hx hb dX10_keep_269 (by decide) ?_
                              have hP := wm_eq rfl rfl (ec_r_29_30_31_32__29_30_31_32 r ((upd (r 29) d.toNatClampNeg what)) ((upd (r 30) d.toNatClampNeg v131)) ((upd (r 31) d.toNatClampNeg r149)) ((upd (r 32) d.toNatClampNeg (((-15) : Int32))))) rfl hP
                              exact ih_177 (i + 1) (vp_updL s3 v198.toNatClampNeg v263.toInt64) (by omega) (by omega) _ _ hP hS ls (lv_sub hl [0, 1, 2, 3, 4, 5, 6] rfl)
                            · skip
                              have d223 := c223
                              rw [fa_le] at d223
                              refine lv_aload_n hx hb dX10_keep_226 rfl (lv_at hl 2 rfl) ?_
                              refine m_get (v := .ref (a 5)) hx hb hts hin hown hK hP 5 (by decide) rfl (hts (.fieldLink RX10 19 "ShadowBenchModel" "sums" "[I") (by decide +kernel)) rfl dX10_keep_227 ?_
                              refine lv_bipush (v := 44) hx hb dX10_keep_230 (by decide) ?_
                              refine lv_iload_n hx hb dX10_keep_232 rfl (lv_at hl 5 rfl) ?_
                              refine lv_imul hx hb dX10_keep_233 ?_
                              refine lv_topi (fun v233 e233 => ?_)
                              have i233 : v233.toInt = 44 * k0.toInt := by rw [e233]; exact mulcL rfl (by omega) (by omega)
                              refine lv_iload hx hb dX10_keep_234 (lv_at hl 0 rfl) ?_
                              refine lv_iadd hx hb dX10_keep_236 ?_
                              refine lv_topi (fun v236 e236 => ?_)
                              have i236 : v236.toInt = v233.toInt + (nI i).toInt := by rw [e236]; exact fb_addI (by omega) (by omega)
                              refine m_iald (w := (r 5)) hx hb hK hP 4 rfl (vp_in_iff.mpr ⟨by omega, by omega⟩) dX10_keep_237 ?_
                              refine lv_topi (fun v237 e237 => ?_)
                              have i237 : v237.toInt = ((r 5) v236.toNatClampNeg).toInt := congrArg Int32.toInt e237
                              refine lv_i2l (v := v237.toInt64) hx hb dX10_keep_238 rfl ?_
                              refine lv_goto (tgt := 265) hx hb dX10_keep_239 (by decide) ?_
                              refine m_last (w := s3) hx hb hK hP hD hS 21 rfl (vp_in_iff.mpr ⟨by omega, by omega⟩) (va_up (va_up q 33 s3) 33 (vp_updL s3 v198.toNatClampNeg v237.toInt64)) (ms_33 cy mo a _ _ _ _ _) dX10_keep_265 (fun H locs hP hS => ?_)
                              have hP := wm_eq rfl rfl rfl (es_q_33__33 q s3 (vp_updL s3 v198.toNatClampNeg v237.toInt64)) hP
                              refine lv_iinc (v := (nI (i + 1))) (lv' := [(7, .int (nI (i + 1))), (6, .int (1 : Int32)), (0, .ref mo), (1, .int d), (2, .int what), (3, .int k0), (4, .long p0)]) hx hb dX10_keep_266 hl (k := 0) rfl (nI_1 _) (by decide) rfl (fun ls hl => ?_)
                              refine lv_goto (tgt := 177) hx hb dX10_keep_269 (by decide) ?_
                              have hP := wm_eq rfl rfl (ec_r_29_30_31_32__29_30_31_32 r ((upd (r 29) d.toNatClampNeg what)) ((upd (r 30) d.toNatClampNeg v131)) ((upd (r 31) d.toNatClampNeg r149)) ((upd (r 32) d.toNatClampNeg (((-15) : Int32))))) rfl hP
                              exact ih_177 (i + 1) (vp_updL s3 v198.toNatClampNeg v237.toInt64) (by omega) (by omega) _ _ hP hS ls (lv_sub hl [0, 1, 2, 3, 4, 5, 6] rfl)
                          · first | exact absurd c201 c95 | exact absurd c95 c201
                    have hP := wm_eq rfl rfl (ec_r_29_30_31_32__29_30_31_32 r ((upd (r 29) d.toNatClampNeg what)) ((upd (r 30) d.toNatClampNeg v131)) ((upd (r 31) d.toNatClampNeg r149)) ((upd (r 32) d.toNatClampNeg (((-15) : Int32))))) (ec_q___33 q ) hP
                    exact loop_177 (60 + 1) 0 (q 33) (by omega) (by omega) _ _ hP hS ls (lv_sub hl [0, 1, 2, 3, 4, 5, 6] rfl)
            · skip
              have d95 := c95
              rw [fa_eq] at d95
              refine lv_aload_n hx hb dX10_keep_98 rfl (lv_at hl 1 rfl) ?_
              refine m_get (v := .ref (a 3)) hx hb hts hin hown hK hP 3 (by decide) rfl (hts (.fieldLink RX10 13 "ShadowBenchModel" "wide" "[I") (by decide +kernel)) rfl dX10_keep_99 ?_
              refine lv_iload_n hx hb dX10_keep_102 rfl (lv_at hl 4 rfl) ?_
              refine m_iald (w := (r 3)) hx hb hK hP 2 rfl (vp_in_iff.mpr ⟨by omega, by omega⟩) dX10_keep_103 ?_
              refine lv_topi (fun v103 e103 => ?_)
              have i103 : v103.toInt = ((r 3) k0.toNatClampNeg).toInt := congrArg Int32.toInt e103
              have w103 := mi_w hI (x := k0) (by omega) (by omega) e103
              refine lv_aload_n hx hb dX10_keep_104 rfl (lv_at hl 1 rfl) ?_
              refine m_get (v := .ref (a 4)) hx hb hts hin hown hK hP 4 (by decide) rfl (hts (.fieldLink RX10 16 "ShadowBenchModel" "high" "[I") (by decide +kernel)) rfl dX10_keep_105 ?_
              refine lv_iload_n hx hb dX10_keep_108 rfl (lv_at hl 4 rfl) ?_
              refine m_iald (w := (r 4)) hx hb hK hP 3 rfl (vp_in_iff.mpr ⟨by omega, by omega⟩) dX10_keep_109 ?_
              refine lv_topi (fun v109 e109 => ?_)
              have i109 : v109.toInt = ((r 4) k0.toNatClampNeg).toInt := congrArg Int32.toInt e109
              have w109 := mi_h hI (x := k0) (by omega) (by omega) e109
              have m110 := mul66 w103 w109
              refine lv_imul hx hb dX10_keep_110 ?_
              refine lv_topi (fun v110 e110 => ?_)
              have i110 : v110.toInt = v103.toInt * v109.toInt := by rw [e110]; exact fb_mulI (by omega) (by omega)
              refine lv_goto (tgt := 136) hx hb dX10_keep_111 (by decide) ?_
              refine m_iast (w := (r 30)) hx hb hK hP hD hS 18 rfl (vp_in_iff.mpr ⟨by omega, by omega⟩) (va_up (va_up r 29 ((upd (r 29) d.toNatClampNeg what))) 30 (upd (r 30) d.toNatClampNeg v110)) (ms_30 cy mo a _ _ _ _ _) dX10_keep_136 (fun H locs hP hS => ?_)
              refine lv_iload_n hx hb dX10_keep_137 rfl (lv_at hl 3 rfl) ?_
              refine lv_iconst (v := 1) hx hb dX10_keep_138 (by decide) ?_
              refine lv_icmp_ne (tgt := 174) hx hb dX10_keep_139 (by decide) (fun c139 => ?_) (fun c139 => ?_)
              · skip
                have d139 := c139
                rw [fa_eq] at d139
                refine lv_iconst (v := 0) hx hb dX10_keep_174 (by decide) ?_
                refine lv_istore (lv' := [(7, .int (0 : Int32)), (6, .int (1 : Int32)), (0, .ref mo), (1, .int d), (2, .int what), (3, .int k0), (4, .long p0)]) hx hb dX10_keep_175 hl (by decide) rfl (fun ls hl => ?_)
                have loop_177 : ∀ (n : Nat) (i : Nat) (s3 : Nat → Int64), (i ≤ 60) → 60 - i < n → ∀ (H : Heap) (locs : List Loc), va_P D vwCl (WM cy mo a (upd f 0 (0 : Int32)) g (va_up (va_up r 29 ((upd (r 29) d.toNatClampNeg what))) 30 ((upd (r 30) d.toNatClampNeg v110))) (va_up q 33 s3)) H → va_S (AM mo a) s.heap H locs → ∀ (ls : Array Slot), lv_has ls 8 [(7, .int (nI i)), (6, .int (1 : Int32)), (0, .ref mo), (1, .int d), (2, .int what), (3, .int k0), (4, .long p0)] → W p l e (headSpec wsX10_keep ({ frames := 3, cells := 0, slots := 0, locals := 69 })).room s m #[Value.ref mo, Value.int d, Value.int what, Value.int k0, Value.long p0] below meth c H locs 0 0 (MQ below (va_Qi (fun r0 u => ∃ (sh : Nat → Int32), ∃ (sz : Nat → Int32), ∃ (sw : Nat → Int32), ∃ (sf : Nat → Int32), ∃ (sr : Nat → Int64), u = ((upd f 0 (0 : Int32)), g, (va_up (va_up (va_up (va_up r 29 sh) 30 sz) 31 sw) 32 sf), (va_up q 33 sr)) ∧ (MI (upd f 0 (0 : Int32)) (va_up (va_up (va_up (va_up r 29 sh) 30 sz) 31 sw) 32 sf))) (mB D cy mo a) (AM mo a)) #[Value.ref mo, Value.int d, Value.int what, Value.int k0, Value.long p0] s 0 0 (AM mo a)) (F0 m 177 ls []) := by
                  intro n
                  induction n with
                  | zero => intro i s3 j177_0 hn; exact absurd hn (Nat.not_lt_zero _)
                  | succ n ih_177 =>
                    intro i s3 j177_0 hn_177 H locs hP hS ls hl
                    have ii : (nI i).toInt = (i : Int) := nI_toInt (by omega)
                    refine lv_iload hx hb dX10_keep_177 (lv_at hl 0 rfl) ?_
                    refine lv_aload_n hx hb dX10_keep_179 rfl (lv_at hl 2 rfl) ?_
                    refine m_get (v := .ref (a 30)) hx hb hts hin hown hK hP 30 (by decide) rfl (hts (.fieldLink RX10 64 "ShadowBenchModel" "shelfSize" "[I") (by decide +kernel)) rfl dX10_keep_180 ?_
                    refine lv_iload_n hx hb dX10_keep_183 rfl (lv_at hl 3 rfl) ?_
                    refine m_iald (w := ((upd (r 30) d.toNatClampNeg v110))) hx hb hK hP 18 rfl (vp_in_iff.mpr ⟨by omega, by omega⟩) dX10_keep_184 ?_
                    refine lv_topi (fun v184 e184 => ?_)
                    have i184 : v184.toInt = (((upd (r 30) d.toNatClampNeg v110)) d.toNatClampNeg).toInt := congrArg Int32.toInt e184
                    have z184 := e184
                    simp only [upd, if_true] at z184
                    have y184 := congrArg Int32.toInt z184
                    refine lv_icmp_ge (tgt := 272) hx hb dX10_keep_185 (by decide) (fun c185 => ?_) (fun c185 => ?_)
                    · skip
                      have d185 := c185
                      rw [fa_le] at d185
                      refine lv_iconst (v := 0) hx hb dX10_keep_272 (by decide) ?_
                      have hP := wm_eq rfl rfl (ec_r_29_30__29_30_31_32 r ((upd (r 29) d.toNatClampNeg what)) ((upd (r 30) d.toNatClampNeg v110))) rfl hP
                      exact W.iret (v := (0 : Int32)) hx hb hr (fun t ht hW => ⟨⟨_, ((upd f 0 (0 : Int32)), g, (va_up (va_up (va_up (va_up r 29 (((upd (r 29) d.toNatClampNeg what)))) 30 (((upd (r 30) d.toNatClampNeg v110)))) 31 (r 31)) 32 (r 32)), (va_up q 33 s3)), rfl, ⟨((upd (r 29) d.toNatClampNeg what)), ((upd (r 30) d.toNatClampNeg v110)), (r 31), (r 32), s3, rfl, by first | exact hI | exact mi_sz (d := d) hI (v := v110) (by omega) rfl rfl rfl rfl rfl rfl rfl rfl | exact mi_sz (d := d) hI (v := v131) (by omega) rfl rfl rfl rfl rfl rfl rfl rfl | exact mi_sz (d := d) hI (v := 0) (by decide) rfl rfl rfl rfl rfl rfl rfl rfl⟩, by unfold mB; rw [ht]; exact hP⟩, hS.F ht⟩) hS.2.2 dX10_keep_273
                    · skip
                      have d185 := c185
                      rw [fa_le] at d185
                      refine lv_aload_n hx hb dX10_keep_188 rfl (lv_at hl 2 rfl) ?_
                      refine m_get (v := .ref (a 33)) hx hb hts hin hown hK hP 33 (by decide) rfl (hts (.fieldLink RX10 73 "ShadowBenchModel" "shelfRow" "[J") (by decide +kernel)) rfl dX10_keep_189 ?_
                      refine lv_bipush (v := 60) hx hb dX10_keep_192 (by decide) ?_
                      refine lv_iload_n hx hb dX10_keep_194 rfl (lv_at hl 3 rfl) ?_
                      refine lv_imul hx hb dX10_keep_195 ?_
                      refine lv_topi (fun v195 e195 => ?_)
                      have i195 : v195.toInt = 60 * d.toInt := by rw [e195]; exact mulcL rfl (by omega) (by omega)
                      refine lv_iload hx hb dX10_keep_196 (lv_at hl 0 rfl) ?_
                      refine lv_iadd hx hb dX10_keep_198 ?_
                      refine lv_topi (fun v198 e198 => ?_)
                      have i198 : v198.toInt = v195.toInt + (nI i).toInt := by rw [e198]; exact fb_addI (by omega) (by omega)
                      refine lv_iload_n hx hb dX10_keep_199 rfl (lv_at hl 4 rfl) ?_
                      refine lv_iconst (v := 3) hx hb dX10_keep_200 (by decide) ?_
                      refine lv_icmp_ne (tgt := 215) hx hb dX10_keep_201 (by decide) (fun c201 => ?_) (fun c201 => ?_)
                      · first | exact absurd c201 c95 | exact absurd c95 c201
                      · skip
                        have d201 := c201
                        rw [fa_eq] at d201
                        refine lv_lload hx hb dX10_keep_204 (lv_at hl 6 rfl) ?_
                        refine lv_iload hx hb dX10_keep_206 (lv_at hl 0 rfl) ?_
                        refine m_pu (As := [.long p0, .int (nI i)]) (rest := [.int v198, .ref (a 33)]) ⟨hx, hb, hml, hown, hts⟩ (c_X10_one l p0 (nI i) ) (va_cwS 2 hts gX10_keep_X10_one rfl rfl rfl (by decide +kernel) ⟨Nat.le_of_ble_eq_true rfl, Nat.le_of_ble_eq_true rfl⟩) hP rfl hl.1 rfl (Nat.le_of_ble_eq_true rfl) dX10_keep_208 ⟨Nat.le_of_ble_eq_true rfl, Nat.le_of_ble_eq_true rfl⟩ hS (fun r208 H locs q208 hP hS => ?_)
                        have i208 : r208.toInt = (r_one p0 (nI i)).toInt := congrArg Int32.toInt q208
                        refine lv_i2l (v := r208.toInt64) hx hb dX10_keep_211 rfl ?_
                        refine lv_goto (tgt := 265) hx hb dX10_keep_212 (by decide) ?_
                        refine m_last (w := s3) hx hb hK hP hD hS 21 rfl (vp_in_iff.mpr ⟨by omega, by omega⟩) (va_up (va_up q 33 s3) 33 (vp_updL s3 v198.toNatClampNeg r208.toInt64)) (ms_33 cy mo a _ _ _ _ _) dX10_keep_265 (fun H locs hP hS => ?_)
                        have hP := wm_eq rfl rfl rfl (es_q_33__33 q s3 (vp_updL s3 v198.toNatClampNeg r208.toInt64)) hP
                        refine lv_iinc (v := (nI (i + 1))) (lv' := [(7, .int (nI (i + 1))), (6, .int (1 : Int32)), (0, .ref mo), (1, .int d), (2, .int what), (3, .int k0), (4, .long p0)]) hx hb dX10_keep_266 hl (k := 0) rfl (nI_1 _) (by decide) rfl (fun ls hl => ?_)
                        refine lv_goto (tgt := 177) hx hb dX10_keep_269 (by decide) ?_
                        have hP := wm_eq rfl rfl (ec_r_29_30__29_30 r ((upd (r 29) d.toNatClampNeg what)) ((upd (r 30) d.toNatClampNeg v110))) rfl hP
                        exact ih_177 (i + 1) (vp_updL s3 v198.toNatClampNeg r208.toInt64) (by omega) (by omega) _ _ hP hS ls (lv_sub hl [0, 1, 2, 3, 4, 5, 6] rfl)
                have hP := wm_eq rfl rfl (ec_r_29_30__29_30 r ((upd (r 29) d.toNatClampNeg what)) ((upd (r 30) d.toNatClampNeg v110))) (ec_q___33 q ) hP
                exact loop_177 (60 + 1) 0 (q 33) (by omega) (by omega) _ _ hP hS ls (lv_sub hl [0, 1, 2, 3, 4, 5, 6] rfl)
              · skip
                have d139 := c139
                rw [fa_eq] at d139
                refine lv_aload_n hx hb dX10_keep_142 rfl (lv_at hl 1 rfl) ?_
                refine m_get (v := .ref (a 31)) hx hb hts hin hown hK hP 31 (by decide) rfl (hts (.fieldLink RX10 67 "ShadowBenchModel" "shelfWeight" "[I") (by decide +kernel)) rfl dX10_keep_143 ?_
                refine lv_iload_n hx hb dX10_keep_146 rfl (lv_at hl 2 rfl) ?_
                refine lv_aload_n hx hb dX10_keep_147 rfl (lv_at hl 1 rfl) ?_
                refine lv_iload_n hx hb dX10_keep_148 rfl (lv_at hl 4 rfl) ?_
                refine m_calli (As := [.int k0]) (rest := [.int d, .ref (a 31)]) ⟨hx, hb, hml, hown, hts⟩ (c_X10_weightOf l D cy mo a (upd f 0 (0 : Int32)) g (va_up (va_up r 29 ((upd (r 29) d.toNatClampNeg what))) 30 ((upd (r 30) d.toNatClampNeg v110))) q k0 hD (by first | exact hI | exact mi_sz (d := d) hI (v := 0) (by first | omega | decide) rfl rfl rfl rfl rfl rfl rfl rfl | exact mi_sz (d := d) hI (v := v131) (by first | omega | decide) rfl rfl rfl rfl rfl rfl rfl rfl | exact mi_sz (d := d) hI (v := v110) (by first | omega | decide) rfl rfl rfl rfl rfl rfl rfl rfl) (show 0 ≤ k0.toInt ∧ k0.toInt < (f 1).toInt by omega)) (cwV 1 hts gX10_keep_X10_weightOf rfl rfl rfl (by decide +kernel) ⟨Nat.le_of_ble_eq_true rfl, Nat.le_of_ble_eq_true rfl⟩) hK hP rfl hl.1 rfl (Nat.le_of_ble_eq_true rfl) dX10_keep_149 ⟨Nat.le_of_ble_eq_true rfl, Nat.le_of_ble_eq_true rfl⟩ hS (fun r149 u H locs q149 hP hS => ?_)
                obtain ⟨rfl, q149⟩ := q149
                have hP : va_P D vwCl (WM cy mo a (upd f 0 (0 : Int32)) g (va_up (va_up r 29 ((upd (r 29) d.toNatClampNeg what))) 30 ((upd (r 30) d.toNatClampNeg v110))) q) H := hP
                have q149 : True := q149
                refine m_iast (w := (r 31)) hx hb hK hP hD hS 19 rfl (vp_in_iff.mpr ⟨by omega, by omega⟩) (va_up (va_up (va_up r 29 ((upd (r 29) d.toNatClampNeg what))) 30 ((upd (r 30) d.toNatClampNeg v110))) 31 (upd (r 31) d.toNatClampNeg r149)) (ms_31 cy mo a _ _ _ _ _) dX10_keep_152 (fun H locs hP hS => ?_)
                refine lv_aload_n hx hb dX10_keep_153 rfl (lv_at hl 1 rfl) ?_
                refine m_get (v := .ref (a 32)) hx hb hts hin hown hK hP 32 (by decide) rfl (hts (.fieldLink RX10 70 "ShadowBenchModel" "shelfFailure" "[I") (by decide +kernel)) rfl dX10_keep_154 ?_
                refine lv_iload_n hx hb dX10_keep_157 rfl (lv_at hl 2 rfl) ?_
                refine lv_aload_n hx hb dX10_keep_158 rfl (lv_at hl 1 rfl) ?_
                refine m_get (v := .ref (a 2)) hx hb hts hin hown hK hP 2 (by decide) rfl (hts (.fieldLink RX10 7 "ShadowBenchModel" "kind" "[I") (by decide +kernel)) rfl dX10_keep_159 ?_
                refine lv_iload_n hx hb dX10_keep_162 rfl (lv_at hl 4 rfl) ?_
                refine m_iald (w := (r 2)) hx hb hK hP 1 rfl (vp_in_iff.mpr ⟨by omega, by omega⟩) dX10_keep_163 ?_
                refine lv_topi (fun v163 e163 => ?_)
                have i163 : v163.toInt = ((r 2) k0.toNatClampNeg).toInt := congrArg Int32.toInt e163
                refine lv_if_ne (tgt := 172) hx hb dX10_keep_164 (by decide) (fun c164 => ?_) (fun c164 => ?_)
                · skip
                  have d164 := c164
                  rw [fa_eq] at d164
                  refine lv_iload_n hx hb dX10_keep_172 rfl (lv_at hl 4 rfl) ?_
                  refine m_iast (w := (r 32)) hx hb hK hP hD hS 20 rfl (vp_in_iff.mpr ⟨by omega, by omega⟩) (va_up (va_up (va_up (va_up r 29 ((upd (r 29) d.toNatClampNeg what))) 30 ((upd (r 30) d.toNatClampNeg v110))) 31 ((upd (r 31) d.toNatClampNeg r149))) 32 (upd (r 32) d.toNatClampNeg k0)) (ms_32 cy mo a _ _ _ _ _) dX10_keep_173 (fun H locs hP hS => ?_)
                  refine lv_iconst (v := 0) hx hb dX10_keep_174 (by decide) ?_
                  refine lv_istore (lv' := [(7, .int (0 : Int32)), (6, .int (1 : Int32)), (0, .ref mo), (1, .int d), (2, .int what), (3, .int k0), (4, .long p0)]) hx hb dX10_keep_175 hl (by decide) rfl (fun ls hl => ?_)
                  have loop_177 : ∀ (n : Nat) (i : Nat) (s3 : Nat → Int64), (i ≤ 60) → 60 - i < n → ∀ (H : Heap) (locs : List Loc), va_P D vwCl (WM cy mo a (upd f 0 (0 : Int32)) g (va_up (va_up (va_up (va_up r 29 ((upd (r 29) d.toNatClampNeg what))) 30 ((upd (r 30) d.toNatClampNeg v110))) 31 ((upd (r 31) d.toNatClampNeg r149))) 32 ((upd (r 32) d.toNatClampNeg k0))) (va_up q 33 s3)) H → va_S (AM mo a) s.heap H locs → ∀ (ls : Array Slot), lv_has ls 8 [(7, .int (nI i)), (6, .int (1 : Int32)), (0, .ref mo), (1, .int d), (2, .int what), (3, .int k0), (4, .long p0)] → W p l e (headSpec wsX10_keep ({ frames := 3, cells := 0, slots := 0, locals := 69 })).room s m #[Value.ref mo, Value.int d, Value.int what, Value.int k0, Value.long p0] below meth c H locs 0 0 (MQ below (va_Qi (fun r0 u => ∃ (sh : Nat → Int32), ∃ (sz : Nat → Int32), ∃ (sw : Nat → Int32), ∃ (sf : Nat → Int32), ∃ (sr : Nat → Int64), u = ((upd f 0 (0 : Int32)), g, (va_up (va_up (va_up (va_up r 29 sh) 30 sz) 31 sw) 32 sf), (va_up q 33 sr)) ∧ (MI (upd f 0 (0 : Int32)) (va_up (va_up (va_up (va_up r 29 sh) 30 sz) 31 sw) 32 sf))) (mB D cy mo a) (AM mo a)) #[Value.ref mo, Value.int d, Value.int what, Value.int k0, Value.long p0] s 0 0 (AM mo a)) (F0 m 177 ls []) := by
                    intro n
                    induction n with
                    | zero => intro i s3 j177_0 hn; exact absurd hn (Nat.not_lt_zero _)
                    | succ n ih_177 =>
                      intro i s3 j177_0 hn_177 H locs hP hS ls hl
                      have ii : (nI i).toInt = (i : Int) := nI_toInt (by omega)
                      refine lv_iload hx hb dX10_keep_177 (lv_at hl 0 rfl) ?_
                      refine lv_aload_n hx hb dX10_keep_179 rfl (lv_at hl 2 rfl) ?_
                      refine m_get (v := .ref (a 30)) hx hb hts hin hown hK hP 30 (by decide) rfl (hts (.fieldLink RX10 64 "ShadowBenchModel" "shelfSize" "[I") (by decide +kernel)) rfl dX10_keep_180 ?_
                      refine lv_iload_n hx hb dX10_keep_183 rfl (lv_at hl 3 rfl) ?_
                      refine m_iald (w := ((upd (r 30) d.toNatClampNeg v110))) hx hb hK hP 18 rfl (vp_in_iff.mpr ⟨by omega, by omega⟩) dX10_keep_184 ?_
                      refine lv_topi (fun v184 e184 => ?_)
                      have i184 : v184.toInt = (((upd (r 30) d.toNatClampNeg v110)) d.toNatClampNeg).toInt := congrArg Int32.toInt e184
                      have z184 := e184
                      simp only [upd, if_true] at z184
                      have y184 := congrArg Int32.toInt z184
                      refine lv_icmp_ge (tgt := 272) hx hb dX10_keep_185 (by decide) (fun c185 => ?_) (fun c185 => ?_)
                      · skip
                        have d185 := c185
                        rw [fa_le] at d185
                        refine lv_iconst (v := 0) hx hb dX10_keep_272 (by decide) ?_
                        have hP := wm_eq rfl rfl (ec_r_29_30_31_32__29_30_31_32 r ((upd (r 29) d.toNatClampNeg what)) ((upd (r 30) d.toNatClampNeg v110)) ((upd (r 31) d.toNatClampNeg r149)) ((upd (r 32) d.toNatClampNeg k0))) rfl hP
                        exact W.iret (v := (0 : Int32)) hx hb hr (fun t ht hW => ⟨⟨_, ((upd f 0 (0 : Int32)), g, (va_up (va_up (va_up (va_up r 29 (((upd (r 29) d.toNatClampNeg what)))) 30 (((upd (r 30) d.toNatClampNeg v110)))) 31 (((upd (r 31) d.toNatClampNeg r149)))) 32 (((upd (r 32) d.toNatClampNeg k0)))), (va_up q 33 s3)), rfl, ⟨((upd (r 29) d.toNatClampNeg what)), ((upd (r 30) d.toNatClampNeg v110)), ((upd (r 31) d.toNatClampNeg r149)), ((upd (r 32) d.toNatClampNeg k0)), s3, rfl, by first | exact hI | exact mi_sz (d := d) hI (v := v110) (by omega) rfl rfl rfl rfl rfl rfl rfl rfl | exact mi_sz (d := d) hI (v := v131) (by omega) rfl rfl rfl rfl rfl rfl rfl rfl | exact mi_sz (d := d) hI (v := 0) (by decide) rfl rfl rfl rfl rfl rfl rfl rfl⟩, by unfold mB; rw [ht]; exact hP⟩, hS.F ht⟩) hS.2.2 dX10_keep_273
                      · skip
                        have d185 := c185
                        rw [fa_le] at d185
                        refine lv_aload_n hx hb dX10_keep_188 rfl (lv_at hl 2 rfl) ?_
                        refine m_get (v := .ref (a 33)) hx hb hts hin hown hK hP 33 (by decide) rfl (hts (.fieldLink RX10 73 "ShadowBenchModel" "shelfRow" "[J") (by decide +kernel)) rfl dX10_keep_189 ?_
                        refine lv_bipush (v := 60) hx hb dX10_keep_192 (by decide) ?_
                        refine lv_iload_n hx hb dX10_keep_194 rfl (lv_at hl 3 rfl) ?_
                        refine lv_imul hx hb dX10_keep_195 ?_
                        refine lv_topi (fun v195 e195 => ?_)
                        have i195 : v195.toInt = 60 * d.toInt := by rw [e195]; exact mulcL rfl (by omega) (by omega)
                        refine lv_iload hx hb dX10_keep_196 (lv_at hl 0 rfl) ?_
                        refine lv_iadd hx hb dX10_keep_198 ?_
                        refine lv_topi (fun v198 e198 => ?_)
                        have i198 : v198.toInt = v195.toInt + (nI i).toInt := by rw [e198]; exact fb_addI (by omega) (by omega)
                        refine lv_iload_n hx hb dX10_keep_199 rfl (lv_at hl 4 rfl) ?_
                        refine lv_iconst (v := 3) hx hb dX10_keep_200 (by decide) ?_
                        refine lv_icmp_ne (tgt := 215) hx hb dX10_keep_201 (by decide) (fun c201 => ?_) (fun c201 => ?_)
                        · first | exact absurd c201 c95 | exact absurd c95 c201
                        · skip
                          have d201 := c201
                          rw [fa_eq] at d201
                          refine lv_lload hx hb dX10_keep_204 (lv_at hl 6 rfl) ?_
                          refine lv_iload hx hb dX10_keep_206 (lv_at hl 0 rfl) ?_
                          refine m_pu (As := [.long p0, .int (nI i)]) (rest := [.int v198, .ref (a 33)]) ⟨hx, hb, hml, hown, hts⟩ (c_X10_one l p0 (nI i) ) (va_cwS 2 hts gX10_keep_X10_one rfl rfl rfl (by decide +kernel) ⟨Nat.le_of_ble_eq_true rfl, Nat.le_of_ble_eq_true rfl⟩) hP rfl hl.1 rfl (Nat.le_of_ble_eq_true rfl) dX10_keep_208 ⟨Nat.le_of_ble_eq_true rfl, Nat.le_of_ble_eq_true rfl⟩ hS (fun r208 H locs q208 hP hS => ?_)
                          have i208 : r208.toInt = (r_one p0 (nI i)).toInt := congrArg Int32.toInt q208
                          refine lv_i2l (v := r208.toInt64) hx hb dX10_keep_211 rfl ?_
                          refine lv_goto (tgt := 265) hx hb dX10_keep_212 (by decide) ?_
                          refine m_last (w := s3) hx hb hK hP hD hS 21 rfl (vp_in_iff.mpr ⟨by omega, by omega⟩) (va_up (va_up q 33 s3) 33 (vp_updL s3 v198.toNatClampNeg r208.toInt64)) (ms_33 cy mo a _ _ _ _ _) dX10_keep_265 (fun H locs hP hS => ?_)
                          have hP := wm_eq rfl rfl rfl (es_q_33__33 q s3 (vp_updL s3 v198.toNatClampNeg r208.toInt64)) hP
                          refine lv_iinc (v := (nI (i + 1))) (lv' := [(7, .int (nI (i + 1))), (6, .int (1 : Int32)), (0, .ref mo), (1, .int d), (2, .int what), (3, .int k0), (4, .long p0)]) hx hb dX10_keep_266 hl (k := 0) rfl (nI_1 _) (by decide) rfl (fun ls hl => ?_)
                          refine lv_goto (tgt := 177) hx hb dX10_keep_269 (by decide) ?_
                          have hP := wm_eq rfl rfl (ec_r_29_30_31_32__29_30_31_32 r ((upd (r 29) d.toNatClampNeg what)) ((upd (r 30) d.toNatClampNeg v110)) ((upd (r 31) d.toNatClampNeg r149)) ((upd (r 32) d.toNatClampNeg k0))) rfl hP
                          exact ih_177 (i + 1) (vp_updL s3 v198.toNatClampNeg r208.toInt64) (by omega) (by omega) _ _ hP hS ls (lv_sub hl [0, 1, 2, 3, 4, 5, 6] rfl)
                  have hP := wm_eq rfl rfl (ec_r_29_30_31_32__29_30_31_32 r ((upd (r 29) d.toNatClampNeg what)) ((upd (r 30) d.toNatClampNeg v110)) ((upd (r 31) d.toNatClampNeg r149)) ((upd (r 32) d.toNatClampNeg k0))) (ec_q___33 q ) hP
                  exact loop_177 (60 + 1) 0 (q 33) (by omega) (by omega) _ _ hP hS ls (lv_sub hl [0, 1, 2, 3, 4, 5, 6] rfl)
                · skip
                  have d164 := c164
                  rw [fa_eq] at d164
                  refine lv_bipush (v := (-15)) hx hb dX10_keep_167 (by decide) ?_
                  refine lv_goto (tgt := 173) hx hb dX10_keep_169 (by decide) ?_
                  refine m_iast (w := (r 32)) hx hb hK hP hD hS 20 rfl (vp_in_iff.mpr ⟨by omega, by omega⟩) (va_up (va_up (va_up (va_up r 29 ((upd (r 29) d.toNatClampNeg what))) 30 ((upd (r 30) d.toNatClampNeg v110))) 31 ((upd (r 31) d.toNatClampNeg r149))) 32 (upd (r 32) d.toNatClampNeg (((-15) : Int32)))) (ms_32 cy mo a _ _ _ _ _) dX10_keep_173 (fun H locs hP hS => ?_)
                  refine lv_iconst (v := 0) hx hb dX10_keep_174 (by decide) ?_
                  refine lv_istore (lv' := [(7, .int (0 : Int32)), (6, .int (1 : Int32)), (0, .ref mo), (1, .int d), (2, .int what), (3, .int k0), (4, .long p0)]) hx hb dX10_keep_175 hl (by decide) rfl (fun ls hl => ?_)
                  have loop_177 : ∀ (n : Nat) (i : Nat) (s3 : Nat → Int64), (i ≤ 60) → 60 - i < n → ∀ (H : Heap) (locs : List Loc), va_P D vwCl (WM cy mo a (upd f 0 (0 : Int32)) g (va_up (va_up (va_up (va_up r 29 ((upd (r 29) d.toNatClampNeg what))) 30 ((upd (r 30) d.toNatClampNeg v110))) 31 ((upd (r 31) d.toNatClampNeg r149))) 32 ((upd (r 32) d.toNatClampNeg (((-15) : Int32))))) (va_up q 33 s3)) H → va_S (AM mo a) s.heap H locs → ∀ (ls : Array Slot), lv_has ls 8 [(7, .int (nI i)), (6, .int (1 : Int32)), (0, .ref mo), (1, .int d), (2, .int what), (3, .int k0), (4, .long p0)] → W p l e (headSpec wsX10_keep ({ frames := 3, cells := 0, slots := 0, locals := 69 })).room s m #[Value.ref mo, Value.int d, Value.int what, Value.int k0, Value.long p0] below meth c H locs 0 0 (MQ below (va_Qi (fun r0 u => ∃ (sh : Nat → Int32), ∃ (sz : Nat → Int32), ∃ (sw : Nat → Int32), ∃ (sf : Nat → Int32), ∃ (sr : Nat → Int64), u = ((upd f 0 (0 : Int32)), g, (va_up (va_up (va_up (va_up r 29 sh) 30 sz) 31 sw) 32 sf), (va_up q 33 sr)) ∧ (MI (upd f 0 (0 : Int32)) (va_up (va_up (va_up (va_up r 29 sh) 30 sz) 31 sw) 32 sf))) (mB D cy mo a) (AM mo a)) #[Value.ref mo, Value.int d, Value.int what, Value.int k0, Value.long p0] s 0 0 (AM mo a)) (F0 m 177 ls []) := by
                    intro n
                    induction n with
                    | zero => intro i s3 j177_0 hn; exact absurd hn (Nat.not_lt_zero _)
                    | succ n ih_177 =>
                      intro i s3 j177_0 hn_177 H locs hP hS ls hl
                      have ii : (nI i).toInt = (i : Int) := nI_toInt (by omega)
                      refine lv_iload hx hb dX10_keep_177 (lv_at hl 0 rfl) ?_
                      refine lv_aload_n hx hb dX10_keep_179 rfl (lv_at hl 2 rfl) ?_
                      refine m_get (v := .ref (a 30)) hx hb hts hin hown hK hP 30 (by decide) rfl (hts (.fieldLink RX10 64 "ShadowBenchModel" "shelfSize" "[I") (by decide +kernel)) rfl dX10_keep_180 ?_
                      refine lv_iload_n hx hb dX10_keep_183 rfl (lv_at hl 3 rfl) ?_
                      refine m_iald (w := ((upd (r 30) d.toNatClampNeg v110))) hx hb hK hP 18 rfl (vp_in_iff.mpr ⟨by omega, by omega⟩) dX10_keep_184 ?_
                      refine lv_topi (fun v184 e184 => ?_)
                      have i184 : v184.toInt = (((upd (r 30) d.toNatClampNeg v110)) d.toNatClampNeg).toInt := congrArg Int32.toInt e184
                      have z184 := e184
                      simp only [upd, if_true] at z184
                      have y184 := congrArg Int32.toInt z184
                      refine lv_icmp_ge (tgt := 272) hx hb dX10_keep_185 (by decide) (fun c185 => ?_) (fun c185 => ?_)
                      · skip
                        have d185 := c185
                        rw [fa_le] at d185
                        refine lv_iconst (v := 0) hx hb dX10_keep_272 (by decide) ?_
                        have hP := wm_eq rfl rfl (ec_r_29_30_31_32__29_30_31_32 r ((upd (r 29) d.toNatClampNeg what)) ((upd (r 30) d.toNatClampNeg v110)) ((upd (r 31) d.toNatClampNeg r149)) ((upd (r 32) d.toNatClampNeg (((-15) : Int32))))) rfl hP
                        exact W.iret (v := (0 : Int32)) hx hb hr (fun t ht hW => ⟨⟨_, ((upd f 0 (0 : Int32)), g, (va_up (va_up (va_up (va_up r 29 (((upd (r 29) d.toNatClampNeg what)))) 30 (((upd (r 30) d.toNatClampNeg v110)))) 31 (((upd (r 31) d.toNatClampNeg r149)))) 32 (((upd (r 32) d.toNatClampNeg (((-15) : Int32)))))), (va_up q 33 s3)), rfl, ⟨((upd (r 29) d.toNatClampNeg what)), ((upd (r 30) d.toNatClampNeg v110)), ((upd (r 31) d.toNatClampNeg r149)), ((upd (r 32) d.toNatClampNeg (((-15) : Int32)))), s3, rfl, by first | exact hI | exact mi_sz (d := d) hI (v := v110) (by omega) rfl rfl rfl rfl rfl rfl rfl rfl | exact mi_sz (d := d) hI (v := v131) (by omega) rfl rfl rfl rfl rfl rfl rfl rfl | exact mi_sz (d := d) hI (v := 0) (by decide) rfl rfl rfl rfl rfl rfl rfl rfl⟩, by unfold mB; rw [ht]; exact hP⟩, hS.F ht⟩) hS.2.2 dX10_keep_273
                      · skip
                        have d185 := c185
                        rw [fa_le] at d185
                        refine lv_aload_n hx hb dX10_keep_188 rfl (lv_at hl 2 rfl) ?_
                        refine m_get (v := .ref (a 33)) hx hb hts hin hown hK hP 33 (by decide) rfl (hts (.fieldLink RX10 73 "ShadowBenchModel" "shelfRow" "[J") (by decide +kernel)) rfl dX10_keep_189 ?_
                        refine lv_bipush (v := 60) hx hb dX10_keep_192 (by decide) ?_
                        refine lv_iload_n hx hb dX10_keep_194 rfl (lv_at hl 3 rfl) ?_
                        refine lv_imul hx hb dX10_keep_195 ?_
                        refine lv_topi (fun v195 e195 => ?_)
                        have i195 : v195.toInt = 60 * d.toInt := by rw [e195]; exact mulcL rfl (by omega) (by omega)
                        refine lv_iload hx hb dX10_keep_196 (lv_at hl 0 rfl) ?_
                        refine lv_iadd hx hb dX10_keep_198 ?_
                        refine lv_topi (fun v198 e198 => ?_)
                        have i198 : v198.toInt = v195.toInt + (nI i).toInt := by rw [e198]; exact fb_addI (by omega) (by omega)
                        refine lv_iload_n hx hb dX10_keep_199 rfl (lv_at hl 4 rfl) ?_
                        refine lv_iconst (v := 3) hx hb dX10_keep_200 (by decide) ?_
                        refine lv_icmp_ne (tgt := 215) hx hb dX10_keep_201 (by decide) (fun c201 => ?_) (fun c201 => ?_)
                        · first | exact absurd c201 c95 | exact absurd c95 c201
                        · skip
                          have d201 := c201
                          rw [fa_eq] at d201
                          refine lv_lload hx hb dX10_keep_204 (lv_at hl 6 rfl) ?_
                          refine lv_iload hx hb dX10_keep_206 (lv_at hl 0 rfl) ?_
                          refine m_pu (As := [.long p0, .int (nI i)]) (rest := [.int v198, .ref (a 33)]) ⟨hx, hb, hml, hown, hts⟩ (c_X10_one l p0 (nI i) ) (va_cwS 2 hts gX10_keep_X10_one rfl rfl rfl (by decide +kernel) ⟨Nat.le_of_ble_eq_true rfl, Nat.le_of_ble_eq_true rfl⟩) hP rfl hl.1 rfl (Nat.le_of_ble_eq_true rfl) dX10_keep_208 ⟨Nat.le_of_ble_eq_true rfl, Nat.le_of_ble_eq_true rfl⟩ hS (fun r208 H locs q208 hP hS => ?_)
                          have i208 : r208.toInt = (r_one p0 (nI i)).toInt := congrArg Int32.toInt q208
                          refine lv_i2l (v := r208.toInt64) hx hb dX10_keep_211 rfl ?_
                          refine lv_goto (tgt := 265) hx hb dX10_keep_212 (by decide) ?_
                          refine m_last (w := s3) hx hb hK hP hD hS 21 rfl (vp_in_iff.mpr ⟨by omega, by omega⟩) (va_up (va_up q 33 s3) 33 (vp_updL s3 v198.toNatClampNeg r208.toInt64)) (ms_33 cy mo a _ _ _ _ _) dX10_keep_265 (fun H locs hP hS => ?_)
                          have hP := wm_eq rfl rfl rfl (es_q_33__33 q s3 (vp_updL s3 v198.toNatClampNeg r208.toInt64)) hP
                          refine lv_iinc (v := (nI (i + 1))) (lv' := [(7, .int (nI (i + 1))), (6, .int (1 : Int32)), (0, .ref mo), (1, .int d), (2, .int what), (3, .int k0), (4, .long p0)]) hx hb dX10_keep_266 hl (k := 0) rfl (nI_1 _) (by decide) rfl (fun ls hl => ?_)
                          refine lv_goto (tgt := 177) hx hb dX10_keep_269 (by decide) ?_
                          have hP := wm_eq rfl rfl (ec_r_29_30_31_32__29_30_31_32 r ((upd (r 29) d.toNatClampNeg what)) ((upd (r 30) d.toNatClampNeg v110)) ((upd (r 31) d.toNatClampNeg r149)) ((upd (r 32) d.toNatClampNeg (((-15) : Int32))))) rfl hP
                          exact ih_177 (i + 1) (vp_updL s3 v198.toNatClampNeg r208.toInt64) (by omega) (by omega) _ _ hP hS ls (lv_sub hl [0, 1, 2, 3, 4, 5, 6] rfl)
                  have hP := wm_eq rfl rfl (ec_r_29_30_31_32__29_30_31_32 r ((upd (r 29) d.toNatClampNeg what)) ((upd (r 30) d.toNatClampNeg v110)) ((upd (r 31) d.toNatClampNeg r149)) ((upd (r 32) d.toNatClampNeg (((-15) : Int32))))) (ec_q___33 q ) hP
                  exact loop_177 (60 + 1) 0 (q 33) (by omega) (by omega) _ _ hP hS ls (lv_sub hl [0, 1, 2, 3, 4, 5, 6] rfl)
          · first | exact absurd c76 (by decide) | exact absurd (by decide) c76
        · skip
          have b31 := bo_f q28 c31
          refine lv_iload_n hx hb dX10_keep_34 rfl (lv_at hl 2 rfl) ?_
          refine lv_iconst (v := 3) hx hb dX10_keep_35 (by decide) ?_
          refine lv_icmp_ne (tgt := 71) hx hb dX10_keep_36 (by decide) (fun c36 => ?_) (fun c36 => ?_)
          · skip
            have d36 := c36
            rw [fa_eq] at d36
            refine lv_iconst (v := 0) hx hb dX10_keep_71 (by decide) ?_
            refine lv_istore (lv' := [(6, .int (0 : Int32)), (0, .ref mo), (1, .int d), (2, .int what), (3, .int k0), (4, .long p0)]) hx hb dX10_keep_72 hl (by decide) rfl (fun ls hl => ?_)
            refine lv_iload hx hb dX10_keep_74 (lv_at hl 0 rfl) ?_
            refine lv_if_ne (tgt := 81) hx hb dX10_keep_76 (by decide) (fun c76 => ?_) (fun c76 => ?_)
            · first | exact absurd c76 (by decide) | exact absurd (by decide) c76
            · skip
              have d76 := c76
              rw [fa_eq] at d76
              refine lv_iconst (v := (-1)) hx hb dX10_keep_79 (by decide) ?_
              have hP := wm_eq rfl rfl (ec_r___29_30_31_32 r ) (ec_q___33 q ) hP
              exact W.iret (v := ((-1) : Int32)) hx hb hr (fun t ht hW => ⟨⟨_, ((upd f 0 (0 : Int32)), g, (va_up (va_up (va_up (va_up r 29 (r 29)) 30 (r 30)) 31 (r 31)) 32 (r 32)), (va_up q 33 (q 33))), rfl, ⟨(r 29), (r 30), (r 31), (r 32), (q 33), rfl, by first | exact hI | exact mi_sz (d := d) hI (v := v110) (by omega) rfl rfl rfl rfl rfl rfl rfl rfl | exact mi_sz (d := d) hI (v := v131) (by omega) rfl rfl rfl rfl rfl rfl rfl rfl | exact mi_sz (d := d) hI (v := 0) (by decide) rfl rfl rfl rfl rfl rfl rfl rfl⟩, by unfold mB; rw [ht]; exact hP⟩, hS.F ht⟩) hS.2.2 dX10_keep_80
          · skip
            have d36 := c36
            rw [fa_eq] at d36
            refine lv_aload_n hx hb dX10_keep_39 rfl (lv_at hl 0 rfl) ?_
            refine lv_iload_n hx hb dX10_keep_40 rfl (lv_at hl 3 rfl) ?_
            refine m_calli (As := [.int k0]) (rest := []) ⟨hx, hb, hml, hown, hts⟩ (c_X10_isJob l D cy mo a (upd f 0 (0 : Int32)) g r q k0 hD) (cwV 1 hts gX10_keep_X10_isJob rfl rfl rfl (by decide +kernel) ⟨Nat.le_of_ble_eq_true rfl, Nat.le_of_ble_eq_true rfl⟩) hK hP rfl hl.1 rfl (Nat.le_of_ble_eq_true rfl) dX10_keep_41 ⟨Nat.le_of_ble_eq_true rfl, Nat.le_of_ble_eq_true rfl⟩ hS (fun r41 u H locs q41 hP hS => ?_)
            obtain ⟨rfl, q41⟩ := q41
            have hP : va_P D vwCl (WM cy mo a (upd f 0 (0 : Int32)) g r q) H := hP
            have q41 : Bo r41 (0 ≤ k0.toInt ∧ k0.toInt < ((f 1)).toInt) := q41
            refine lv_if_eq (tgt := 71) hx hb dX10_keep_44 (by decide) (fun c44 => ?_) (fun c44 => ?_)
            · skip
              have b44 := bo_f q41 c44
              refine lv_iconst (v := 0) hx hb dX10_keep_71 (by decide) ?_
              refine lv_istore (lv' := [(6, .int (0 : Int32)), (0, .ref mo), (1, .int d), (2, .int what), (3, .int k0), (4, .long p0)]) hx hb dX10_keep_72 hl (by decide) rfl (fun ls hl => ?_)
              refine lv_iload hx hb dX10_keep_74 (lv_at hl 0 rfl) ?_
              refine lv_if_ne (tgt := 81) hx hb dX10_keep_76 (by decide) (fun c76 => ?_) (fun c76 => ?_)
              · first | exact absurd c76 (by decide) | exact absurd (by decide) c76
              · skip
                have d76 := c76
                rw [fa_eq] at d76
                refine lv_iconst (v := (-1)) hx hb dX10_keep_79 (by decide) ?_
                have hP := wm_eq rfl rfl (ec_r___29_30_31_32 r ) (ec_q___33 q ) hP
                exact W.iret (v := ((-1) : Int32)) hx hb hr (fun t ht hW => ⟨⟨_, ((upd f 0 (0 : Int32)), g, (va_up (va_up (va_up (va_up r 29 (r 29)) 30 (r 30)) 31 (r 31)) 32 (r 32)), (va_up q 33 (q 33))), rfl, ⟨(r 29), (r 30), (r 31), (r 32), (q 33), rfl, by first | exact hI | exact mi_sz (d := d) hI (v := v110) (by omega) rfl rfl rfl rfl rfl rfl rfl rfl | exact mi_sz (d := d) hI (v := v131) (by omega) rfl rfl rfl rfl rfl rfl rfl rfl | exact mi_sz (d := d) hI (v := 0) (by decide) rfl rfl rfl rfl rfl rfl rfl rfl⟩, by unfold mB; rw [ht]; exact hP⟩, hS.F ht⟩) hS.2.2 dX10_keep_80
            · skip
              have b44 := bo_t q41 c44
              refine lv_aload_n hx hb dX10_keep_47 rfl (lv_at hl 0 rfl) ?_
              refine m_get (v := .ref (a 3)) hx hb hts hin hown hK hP 3 (by decide) rfl (hts (.fieldLink RX10 13 "ShadowBenchModel" "wide" "[I") (by decide +kernel)) rfl dX10_keep_48 ?_
              refine lv_iload_n hx hb dX10_keep_51 rfl (lv_at hl 3 rfl) ?_
              refine m_iald (w := (r 3)) hx hb hK hP 2 rfl (vp_in_iff.mpr ⟨by omega, by omega⟩) dX10_keep_52 ?_
              refine lv_topi (fun v52 e52 => ?_)
              have i52 : v52.toInt = ((r 3) k0.toNatClampNeg).toInt := congrArg Int32.toInt e52
              have w52 := mi_w hI (x := k0) (by omega) (by omega) e52
              refine lv_aload_n hx hb dX10_keep_53 rfl (lv_at hl 0 rfl) ?_
              refine m_get (v := .ref (a 4)) hx hb hts hin hown hK hP 4 (by decide) rfl (hts (.fieldLink RX10 16 "ShadowBenchModel" "high" "[I") (by decide +kernel)) rfl dX10_keep_54 ?_
              refine lv_iload_n hx hb dX10_keep_57 rfl (lv_at hl 3 rfl) ?_
              refine m_iald (w := (r 4)) hx hb hK hP 3 rfl (vp_in_iff.mpr ⟨by omega, by omega⟩) dX10_keep_58 ?_
              refine lv_topi (fun v58 e58 => ?_)
              have i58 : v58.toInt = ((r 4) k0.toNatClampNeg).toInt := congrArg Int32.toInt e58
              have w58 := mi_h hI (x := k0) (by omega) (by omega) e58
              refine lv_lload hx hb dX10_keep_59 (lv_at hl 4 rfl) ?_
              refine m_pu (As := [.int v52, .int v58, .long p0]) (rest := []) ⟨hx, hb, hml, hown, hts⟩ (c_X10_isPicture l v52 v58 p0 ) (va_cwS 3 hts gX10_keep_X10_isPicture rfl rfl rfl (by decide +kernel) ⟨Nat.le_of_ble_eq_true rfl, Nat.le_of_ble_eq_true rfl⟩) hP rfl hl.1 rfl (Nat.le_of_ble_eq_true rfl) dX10_keep_61 ⟨Nat.le_of_ble_eq_true rfl, Nat.le_of_ble_eq_true rfl⟩ hS (fun r61 H locs q61 hP hS => ?_)
              refine lv_if_eq (tgt := 71) hx hb dX10_keep_64 (by decide) (fun c64 => ?_) (fun c64 => ?_)
              · skip
                have b64 := bo_f q61 c64
                refine lv_iconst (v := 0) hx hb dX10_keep_71 (by decide) ?_
                refine lv_istore (lv' := [(6, .int (0 : Int32)), (0, .ref mo), (1, .int d), (2, .int what), (3, .int k0), (4, .long p0)]) hx hb dX10_keep_72 hl (by decide) rfl (fun ls hl => ?_)
                refine lv_iload hx hb dX10_keep_74 (lv_at hl 0 rfl) ?_
                refine lv_if_ne (tgt := 81) hx hb dX10_keep_76 (by decide) (fun c76 => ?_) (fun c76 => ?_)
                · first | exact absurd c76 (by decide) | exact absurd (by decide) c76
                · skip
                  have d76 := c76
                  rw [fa_eq] at d76
                  refine lv_iconst (v := (-1)) hx hb dX10_keep_79 (by decide) ?_
                  have hP := wm_eq rfl rfl (ec_r___29_30_31_32 r ) (ec_q___33 q ) hP
                  exact W.iret (v := ((-1) : Int32)) hx hb hr (fun t ht hW => ⟨⟨_, ((upd f 0 (0 : Int32)), g, (va_up (va_up (va_up (va_up r 29 (r 29)) 30 (r 30)) 31 (r 31)) 32 (r 32)), (va_up q 33 (q 33))), rfl, ⟨(r 29), (r 30), (r 31), (r 32), (q 33), rfl, by first | exact hI | exact mi_sz (d := d) hI (v := v110) (by omega) rfl rfl rfl rfl rfl rfl rfl rfl | exact mi_sz (d := d) hI (v := v131) (by omega) rfl rfl rfl rfl rfl rfl rfl rfl | exact mi_sz (d := d) hI (v := 0) (by decide) rfl rfl rfl rfl rfl rfl rfl rfl⟩, by unfold mB; rw [ht]; exact hP⟩, hS.F ht⟩) hS.2.2 dX10_keep_80
              · skip
                have b64 := bo_t q61 c64
                refine lv_iconst (v := 1) hx hb dX10_keep_67 (by decide) ?_
                refine lv_goto (tgt := 72) hx hb dX10_keep_68 (by decide) ?_
                refine lv_istore (lv' := [(6, .int (1 : Int32)), (0, .ref mo), (1, .int d), (2, .int what), (3, .int k0), (4, .long p0)]) hx hb dX10_keep_72 hl (by decide) rfl (fun ls hl => ?_)
                refine lv_iload hx hb dX10_keep_74 (lv_at hl 0 rfl) ?_
                refine lv_if_ne (tgt := 81) hx hb dX10_keep_76 (by decide) (fun c76 => ?_) (fun c76 => ?_)
                · skip
                  have d76 := c76
                  rw [fa_eq] at d76
                  refine lv_aload_n hx hb dX10_keep_81 rfl (lv_at hl 1 rfl) ?_
                  refine m_get (v := .ref (a 29)) hx hb hts hin hown hK hP 29 (by decide) rfl (hts (.fieldLink RX10 61 "ShadowBenchModel" "shelf" "[I") (by decide +kernel)) rfl dX10_keep_82 ?_
                  refine lv_iload_n hx hb dX10_keep_85 rfl (lv_at hl 2 rfl) ?_
                  refine lv_iload_n hx hb dX10_keep_86 rfl (lv_at hl 3 rfl) ?_
                  refine m_iast (w := (r 29)) hx hb hK hP hD hS 17 rfl (vp_in_iff.mpr ⟨by omega, by omega⟩) (va_up r 29 (upd (r 29) d.toNatClampNeg what)) (ms_29 cy mo a _ _ _ _ _) dX10_keep_87 (fun H locs hP hS => ?_)
                  refine lv_aload_n hx hb dX10_keep_88 rfl (lv_at hl 1 rfl) ?_
                  refine m_get (v := .ref (a 30)) hx hb hts hin hown hK hP 30 (by decide) rfl (hts (.fieldLink RX10 64 "ShadowBenchModel" "shelfSize" "[I") (by decide +kernel)) rfl dX10_keep_89 ?_
                  refine lv_iload_n hx hb dX10_keep_92 rfl (lv_at hl 2 rfl) ?_
                  refine lv_iload_n hx hb dX10_keep_93 rfl (lv_at hl 3 rfl) ?_
                  refine lv_iconst (v := 3) hx hb dX10_keep_94 (by decide) ?_
                  refine lv_icmp_ne (tgt := 114) hx hb dX10_keep_95 (by decide) (fun c95 => ?_) (fun c95 => ?_)
                  · first | exact absurd c95 c36 | exact absurd c36 c95
                  · skip
                    have d95 := c95
                    rw [fa_eq] at d95
                    refine lv_aload_n hx hb dX10_keep_98 rfl (lv_at hl 1 rfl) ?_
                    refine m_get (v := .ref (a 3)) hx hb hts hin hown hK hP 3 (by decide) rfl (hts (.fieldLink RX10 13 "ShadowBenchModel" "wide" "[I") (by decide +kernel)) rfl dX10_keep_99 ?_
                    refine lv_iload_n hx hb dX10_keep_102 rfl (lv_at hl 4 rfl) ?_
                    refine m_iald (w := (r 3)) hx hb hK hP 2 rfl (vp_in_iff.mpr ⟨by omega, by omega⟩) dX10_keep_103 ?_
                    refine lv_topi (fun v103 e103 => ?_)
                    have i103 : v103.toInt = ((r 3) k0.toNatClampNeg).toInt := congrArg Int32.toInt e103
                    have w103 := mi_w hI (x := k0) (by omega) (by omega) e103
                    refine lv_aload_n hx hb dX10_keep_104 rfl (lv_at hl 1 rfl) ?_
                    refine m_get (v := .ref (a 4)) hx hb hts hin hown hK hP 4 (by decide) rfl (hts (.fieldLink RX10 16 "ShadowBenchModel" "high" "[I") (by decide +kernel)) rfl dX10_keep_105 ?_
                    refine lv_iload_n hx hb dX10_keep_108 rfl (lv_at hl 4 rfl) ?_
                    refine m_iald (w := (r 4)) hx hb hK hP 3 rfl (vp_in_iff.mpr ⟨by omega, by omega⟩) dX10_keep_109 ?_
                    refine lv_topi (fun v109 e109 => ?_)
                    have i109 : v109.toInt = ((r 4) k0.toNatClampNeg).toInt := congrArg Int32.toInt e109
                    have w109 := mi_h hI (x := k0) (by omega) (by omega) e109
                    have m110 := mul66 w103 w109
                    refine lv_imul hx hb dX10_keep_110 ?_
                    refine lv_topi (fun v110 e110 => ?_)
                    have i110 : v110.toInt = v103.toInt * v109.toInt := by rw [e110]; exact fb_mulI (by omega) (by omega)
                    refine lv_goto (tgt := 136) hx hb dX10_keep_111 (by decide) ?_
                    refine m_iast (w := (r 30)) hx hb hK hP hD hS 18 rfl (vp_in_iff.mpr ⟨by omega, by omega⟩) (va_up (va_up r 29 ((upd (r 29) d.toNatClampNeg what))) 30 (upd (r 30) d.toNatClampNeg v110)) (ms_30 cy mo a _ _ _ _ _) dX10_keep_136 (fun H locs hP hS => ?_)
                    refine lv_iload_n hx hb dX10_keep_137 rfl (lv_at hl 3 rfl) ?_
                    refine lv_iconst (v := 1) hx hb dX10_keep_138 (by decide) ?_
                    refine lv_icmp_ne (tgt := 174) hx hb dX10_keep_139 (by decide) (fun c139 => ?_) (fun c139 => ?_)
                    · skip
                      have d139 := c139
                      rw [fa_eq] at d139
                      refine lv_iconst (v := 0) hx hb dX10_keep_174 (by decide) ?_
                      refine lv_istore (lv' := [(7, .int (0 : Int32)), (6, .int (1 : Int32)), (0, .ref mo), (1, .int d), (2, .int what), (3, .int k0), (4, .long p0)]) hx hb dX10_keep_175 hl (by decide) rfl (fun ls hl => ?_)
                      have loop_177 : ∀ (n : Nat) (i : Nat) (s3 : Nat → Int64), (i ≤ 60) → 60 - i < n → ∀ (H : Heap) (locs : List Loc), va_P D vwCl (WM cy mo a (upd f 0 (0 : Int32)) g (va_up (va_up r 29 ((upd (r 29) d.toNatClampNeg what))) 30 ((upd (r 30) d.toNatClampNeg v110))) (va_up q 33 s3)) H → va_S (AM mo a) s.heap H locs → ∀ (ls : Array Slot), lv_has ls 8 [(7, .int (nI i)), (6, .int (1 : Int32)), (0, .ref mo), (1, .int d), (2, .int what), (3, .int k0), (4, .long p0)] → W p l e (headSpec wsX10_keep ({ frames := 3, cells := 0, slots := 0, locals := 69 })).room s m #[Value.ref mo, Value.int d, Value.int what, Value.int k0, Value.long p0] below meth c H locs 0 0 (MQ below (va_Qi (fun r0 u => ∃ (sh : Nat → Int32), ∃ (sz : Nat → Int32), ∃ (sw : Nat → Int32), ∃ (sf : Nat → Int32), ∃ (sr : Nat → Int64), u = ((upd f 0 (0 : Int32)), g, (va_up (va_up (va_up (va_up r 29 sh) 30 sz) 31 sw) 32 sf), (va_up q 33 sr)) ∧ (MI (upd f 0 (0 : Int32)) (va_up (va_up (va_up (va_up r 29 sh) 30 sz) 31 sw) 32 sf))) (mB D cy mo a) (AM mo a)) #[Value.ref mo, Value.int d, Value.int what, Value.int k0, Value.long p0] s 0 0 (AM mo a)) (F0 m 177 ls []) := by
                        intro n
                        induction n with
                        | zero => intro i s3 j177_0 hn; exact absurd hn (Nat.not_lt_zero _)
                        | succ n ih_177 =>
                          intro i s3 j177_0 hn_177 H locs hP hS ls hl
                          have ii : (nI i).toInt = (i : Int) := nI_toInt (by omega)
                          refine lv_iload hx hb dX10_keep_177 (lv_at hl 0 rfl) ?_
                          refine lv_aload_n hx hb dX10_keep_179 rfl (lv_at hl 2 rfl) ?_
                          refine m_get (v := .ref (a 30)) hx hb hts hin hown hK hP 30 (by decide) rfl (hts (.fieldLink RX10 64 "ShadowBenchModel" "shelfSize" "[I") (by decide +kernel)) rfl dX10_keep_180 ?_
                          refine lv_iload_n hx hb dX10_keep_183 rfl (lv_at hl 3 rfl) ?_
                          refine m_iald (w := ((upd (r 30) d.toNatClampNeg v110))) hx hb hK hP 18 rfl (vp_in_iff.mpr ⟨by omega, by omega⟩) dX10_keep_184 ?_
                          refine lv_topi (fun v184 e184 => ?_)
                          have i184 : v184.toInt = (((upd (r 30) d.toNatClampNeg v110)) d.toNatClampNeg).toInt := congrArg Int32.toInt e184
                          have z184 := e184
                          simp only [upd, if_true] at z184
                          have y184 := congrArg Int32.toInt z184
                          refine lv_icmp_ge (tgt := 272) hx hb dX10_keep_185 (by decide) (fun c185 => ?_) (fun c185 => ?_)
                          · skip
                            have d185 := c185
                            rw [fa_le] at d185
                            refine lv_iconst (v := 0) hx hb dX10_keep_272 (by decide) ?_
                            have hP := wm_eq rfl rfl (ec_r_29_30__29_30_31_32 r ((upd (r 29) d.toNatClampNeg what)) ((upd (r 30) d.toNatClampNeg v110))) rfl hP
                            exact W.iret (v := (0 : Int32)) hx hb hr (fun t ht hW => ⟨⟨_, ((upd f 0 (0 : Int32)), g, (va_up (va_up (va_up (va_up r 29 (((upd (r 29) d.toNatClampNeg what)))) 30 (((upd (r 30) d.toNatClampNeg v110)))) 31 (r 31)) 32 (r 32)), (va_up q 33 s3)), rfl, ⟨((upd (r 29) d.toNatClampNeg what)), ((upd (r 30) d.toNatClampNeg v110)), (r 31), (r 32), s3, rfl, by first | exact hI | exact mi_sz (d := d) hI (v := v110) (by omega) rfl rfl rfl rfl rfl rfl rfl rfl | exact mi_sz (d := d) hI (v := v131) (by omega) rfl rfl rfl rfl rfl rfl rfl rfl | exact mi_sz (d := d) hI (v := 0) (by decide) rfl rfl rfl rfl rfl rfl rfl rfl⟩, by unfold mB; rw [ht]; exact hP⟩, hS.F ht⟩) hS.2.2 dX10_keep_273
                          · skip
                            have d185 := c185
                            rw [fa_le] at d185
                            refine lv_aload_n hx hb dX10_keep_188 rfl (lv_at hl 2 rfl) ?_
                            refine m_get (v := .ref (a 33)) hx hb hts hin hown hK hP 33 (by decide) rfl (hts (.fieldLink RX10 73 "ShadowBenchModel" "shelfRow" "[J") (by decide +kernel)) rfl dX10_keep_189 ?_
                            refine lv_bipush (v := 60) hx hb dX10_keep_192 (by decide) ?_
                            refine lv_iload_n hx hb dX10_keep_194 rfl (lv_at hl 3 rfl) ?_
                            refine lv_imul hx hb dX10_keep_195 ?_
                            refine lv_topi (fun v195 e195 => ?_)
                            have i195 : v195.toInt = 60 * d.toInt := by rw [e195]; exact mulcL rfl (by omega) (by omega)
                            refine lv_iload hx hb dX10_keep_196 (lv_at hl 0 rfl) ?_
                            refine lv_iadd hx hb dX10_keep_198 ?_
                            refine lv_topi (fun v198 e198 => ?_)
                            have i198 : v198.toInt = v195.toInt + (nI i).toInt := by rw [e198]; exact fb_addI (by omega) (by omega)
                            refine lv_iload_n hx hb dX10_keep_199 rfl (lv_at hl 4 rfl) ?_
                            refine lv_iconst (v := 3) hx hb dX10_keep_200 (by decide) ?_
                            refine lv_icmp_ne (tgt := 215) hx hb dX10_keep_201 (by decide) (fun c201 => ?_) (fun c201 => ?_)
                            · first | exact absurd c201 c95 | exact absurd c95 c201
                            · skip
                              have d201 := c201
                              rw [fa_eq] at d201
                              refine lv_lload hx hb dX10_keep_204 (lv_at hl 6 rfl) ?_
                              refine lv_iload hx hb dX10_keep_206 (lv_at hl 0 rfl) ?_
                              refine m_pu (As := [.long p0, .int (nI i)]) (rest := [.int v198, .ref (a 33)]) ⟨hx, hb, hml, hown, hts⟩ (c_X10_one l p0 (nI i) ) (va_cwS 2 hts gX10_keep_X10_one rfl rfl rfl (by decide +kernel) ⟨Nat.le_of_ble_eq_true rfl, Nat.le_of_ble_eq_true rfl⟩) hP rfl hl.1 rfl (Nat.le_of_ble_eq_true rfl) dX10_keep_208 ⟨Nat.le_of_ble_eq_true rfl, Nat.le_of_ble_eq_true rfl⟩ hS (fun r208 H locs q208 hP hS => ?_)
                              have i208 : r208.toInt = (r_one p0 (nI i)).toInt := congrArg Int32.toInt q208
                              refine lv_i2l (v := r208.toInt64) hx hb dX10_keep_211 rfl ?_
                              refine lv_goto (tgt := 265) hx hb dX10_keep_212 (by decide) ?_
                              refine m_last (w := s3) hx hb hK hP hD hS 21 rfl (vp_in_iff.mpr ⟨by omega, by omega⟩) (va_up (va_up q 33 s3) 33 (vp_updL s3 v198.toNatClampNeg r208.toInt64)) (ms_33 cy mo a _ _ _ _ _) dX10_keep_265 (fun H locs hP hS => ?_)
                              have hP := wm_eq rfl rfl rfl (es_q_33__33 q s3 (vp_updL s3 v198.toNatClampNeg r208.toInt64)) hP
                              refine lv_iinc (v := (nI (i + 1))) (lv' := [(7, .int (nI (i + 1))), (6, .int (1 : Int32)), (0, .ref mo), (1, .int d), (2, .int what), (3, .int k0), (4, .long p0)]) hx hb dX10_keep_266 hl (k := 0) rfl (nI_1 _) (by decide) rfl (fun ls hl => ?_)
                              refine lv_goto (tgt := 177) hx hb dX10_keep_269 (by decide) ?_
                              have hP := wm_eq rfl rfl (ec_r_29_30__29_30 r ((upd (r 29) d.toNatClampNeg what)) ((upd (r 30) d.toNatClampNeg v110))) rfl hP
                              exact ih_177 (i + 1) (vp_updL s3 v198.toNatClampNeg r208.toInt64) (by omega) (by omega) _ _ hP hS ls (lv_sub hl [0, 1, 2, 3, 4, 5, 6] rfl)
                      have hP := wm_eq rfl rfl (ec_r_29_30__29_30 r ((upd (r 29) d.toNatClampNeg what)) ((upd (r 30) d.toNatClampNeg v110))) (ec_q___33 q ) hP
                      exact loop_177 (60 + 1) 0 (q 33) (by omega) (by omega) _ _ hP hS ls (lv_sub hl [0, 1, 2, 3, 4, 5, 6] rfl)
                    · skip
                      have d139 := c139
                      rw [fa_eq] at d139
                      refine lv_aload_n hx hb dX10_keep_142 rfl (lv_at hl 1 rfl) ?_
                      refine m_get (v := .ref (a 31)) hx hb hts hin hown hK hP 31 (by decide) rfl (hts (.fieldLink RX10 67 "ShadowBenchModel" "shelfWeight" "[I") (by decide +kernel)) rfl dX10_keep_143 ?_
                      refine lv_iload_n hx hb dX10_keep_146 rfl (lv_at hl 2 rfl) ?_
                      refine lv_aload_n hx hb dX10_keep_147 rfl (lv_at hl 1 rfl) ?_
                      refine lv_iload_n hx hb dX10_keep_148 rfl (lv_at hl 4 rfl) ?_
                      refine m_calli (As := [.int k0]) (rest := [.int d, .ref (a 31)]) ⟨hx, hb, hml, hown, hts⟩ (c_X10_weightOf l D cy mo a (upd f 0 (0 : Int32)) g (va_up (va_up r 29 ((upd (r 29) d.toNatClampNeg what))) 30 ((upd (r 30) d.toNatClampNeg v110))) q k0 hD (by first | exact hI | exact mi_sz (d := d) hI (v := 0) (by first | omega | decide) rfl rfl rfl rfl rfl rfl rfl rfl | exact mi_sz (d := d) hI (v := v131) (by first | omega | decide) rfl rfl rfl rfl rfl rfl rfl rfl | exact mi_sz (d := d) hI (v := v110) (by first | omega | decide) rfl rfl rfl rfl rfl rfl rfl rfl) (show 0 ≤ k0.toInt ∧ k0.toInt < (f 1).toInt by omega)) (cwV 1 hts gX10_keep_X10_weightOf rfl rfl rfl (by decide +kernel) ⟨Nat.le_of_ble_eq_true rfl, Nat.le_of_ble_eq_true rfl⟩) hK hP rfl hl.1 rfl (Nat.le_of_ble_eq_true rfl) dX10_keep_149 ⟨Nat.le_of_ble_eq_true rfl, Nat.le_of_ble_eq_true rfl⟩ hS (fun r149 u H locs q149 hP hS => ?_)
                      obtain ⟨rfl, q149⟩ := q149
                      have hP : va_P D vwCl (WM cy mo a (upd f 0 (0 : Int32)) g (va_up (va_up r 29 ((upd (r 29) d.toNatClampNeg what))) 30 ((upd (r 30) d.toNatClampNeg v110))) q) H := hP
                      have q149 : True := q149
                      refine m_iast (w := (r 31)) hx hb hK hP hD hS 19 rfl (vp_in_iff.mpr ⟨by omega, by omega⟩) (va_up (va_up (va_up r 29 ((upd (r 29) d.toNatClampNeg what))) 30 ((upd (r 30) d.toNatClampNeg v110))) 31 (upd (r 31) d.toNatClampNeg r149)) (ms_31 cy mo a _ _ _ _ _) dX10_keep_152 (fun H locs hP hS => ?_)
                      refine lv_aload_n hx hb dX10_keep_153 rfl (lv_at hl 1 rfl) ?_
                      refine m_get (v := .ref (a 32)) hx hb hts hin hown hK hP 32 (by decide) rfl (hts (.fieldLink RX10 70 "ShadowBenchModel" "shelfFailure" "[I") (by decide +kernel)) rfl dX10_keep_154 ?_
                      refine lv_iload_n hx hb dX10_keep_157 rfl (lv_at hl 2 rfl) ?_
                      refine lv_aload_n hx hb dX10_keep_158 rfl (lv_at hl 1 rfl) ?_
                      refine m_get (v := .ref (a 2)) hx hb hts hin hown hK hP 2 (by decide) rfl (hts (.fieldLink RX10 7 "ShadowBenchModel" "kind" "[I") (by decide +kernel)) rfl dX10_keep_159 ?_
                      refine lv_iload_n hx hb dX10_keep_162 rfl (lv_at hl 4 rfl) ?_
                      refine m_iald (w := (r 2)) hx hb hK hP 1 rfl (vp_in_iff.mpr ⟨by omega, by omega⟩) dX10_keep_163 ?_
                      refine lv_topi (fun v163 e163 => ?_)
                      have i163 : v163.toInt = ((r 2) k0.toNatClampNeg).toInt := congrArg Int32.toInt e163
                      refine lv_if_ne (tgt := 172) hx hb dX10_keep_164 (by decide) (fun c164 => ?_) (fun c164 => ?_)
                      · skip
                        have d164 := c164
                        rw [fa_eq] at d164
                        refine lv_iload_n hx hb dX10_keep_172 rfl (lv_at hl 4 rfl) ?_
                        refine m_iast (w := (r 32)) hx hb hK hP hD hS 20 rfl (vp_in_iff.mpr ⟨by omega, by omega⟩) (va_up (va_up (va_up (va_up r 29 ((upd (r 29) d.toNatClampNeg what))) 30 ((upd (r 30) d.toNatClampNeg v110))) 31 ((upd (r 31) d.toNatClampNeg r149))) 32 (upd (r 32) d.toNatClampNeg k0)) (ms_32 cy mo a _ _ _ _ _) dX10_keep_173 (fun H locs hP hS => ?_)
                        refine lv_iconst (v := 0) hx hb dX10_keep_174 (by decide) ?_
                        refine lv_istore (lv' := [(7, .int (0 : Int32)), (6, .int (1 : Int32)), (0, .ref mo), (1, .int d), (2, .int what), (3, .int k0), (4, .long p0)]) hx hb dX10_keep_175 hl (by decide) rfl (fun ls hl => ?_)
                        have loop_177 : ∀ (n : Nat) (i : Nat) (s3 : Nat → Int64), (i ≤ 60) → 60 - i < n → ∀ (H : Heap) (locs : List Loc), va_P D vwCl (WM cy mo a (upd f 0 (0 : Int32)) g (va_up (va_up (va_up (va_up r 29 ((upd (r 29) d.toNatClampNeg what))) 30 ((upd (r 30) d.toNatClampNeg v110))) 31 ((upd (r 31) d.toNatClampNeg r149))) 32 ((upd (r 32) d.toNatClampNeg k0))) (va_up q 33 s3)) H → va_S (AM mo a) s.heap H locs → ∀ (ls : Array Slot), lv_has ls 8 [(7, .int (nI i)), (6, .int (1 : Int32)), (0, .ref mo), (1, .int d), (2, .int what), (3, .int k0), (4, .long p0)] → W p l e (headSpec wsX10_keep ({ frames := 3, cells := 0, slots := 0, locals := 69 })).room s m #[Value.ref mo, Value.int d, Value.int what, Value.int k0, Value.long p0] below meth c H locs 0 0 (MQ below (va_Qi (fun r0 u => ∃ (sh : Nat → Int32), ∃ (sz : Nat → Int32), ∃ (sw : Nat → Int32), ∃ (sf : Nat → Int32), ∃ (sr : Nat → Int64), u = ((upd f 0 (0 : Int32)), g, (va_up (va_up (va_up (va_up r 29 sh) 30 sz) 31 sw) 32 sf), (va_up q 33 sr)) ∧ (MI (upd f 0 (0 : Int32)) (va_up (va_up (va_up (va_up r 29 sh) 30 sz) 31 sw) 32 sf))) (mB D cy mo a) (AM mo a)) #[Value.ref mo, Value.int d, Value.int what, Value.int k0, Value.long p0] s 0 0 (AM mo a)) (F0 m 177 ls []) := by
                          intro n
                          induction n with
                          | zero => intro i s3 j177_0 hn; exact absurd hn (Nat.not_lt_zero _)
                          | succ n ih_177 =>
                            intro i s3 j177_0 hn_177 H locs hP hS ls hl
                            have ii : (nI i).toInt = (i : Int) := nI_toInt (by omega)
                            refine lv_iload hx hb dX10_keep_177 (lv_at hl 0 rfl) ?_
                            refine lv_aload_n hx hb dX10_keep_179 rfl (lv_at hl 2 rfl) ?_
                            refine m_get (v := .ref (a 30)) hx hb hts hin hown hK hP 30 (by decide) rfl (hts (.fieldLink RX10 64 "ShadowBenchModel" "shelfSize" "[I") (by decide +kernel)) rfl dX10_keep_180 ?_
                            refine lv_iload_n hx hb dX10_keep_183 rfl (lv_at hl 3 rfl) ?_
                            refine m_iald (w := ((upd (r 30) d.toNatClampNeg v110))) hx hb hK hP 18 rfl (vp_in_iff.mpr ⟨by omega, by omega⟩) dX10_keep_184 ?_
                            refine lv_topi (fun v184 e184 => ?_)
                            have i184 : v184.toInt = (((upd (r 30) d.toNatClampNeg v110)) d.toNatClampNeg).toInt := congrArg Int32.toInt e184
                            have z184 := e184
                            simp only [upd, if_true] at z184
                            have y184 := congrArg Int32.toInt z184
                            refine lv_icmp_ge (tgt := 272) hx hb dX10_keep_185 (by decide) (fun c185 => ?_) (fun c185 => ?_)
                            · skip
                              have d185 := c185
                              rw [fa_le] at d185
                              refine lv_iconst (v := 0) hx hb dX10_keep_272 (by decide) ?_
                              have hP := wm_eq rfl rfl (ec_r_29_30_31_32__29_30_31_32 r ((upd (r 29) d.toNatClampNeg what)) ((upd (r 30) d.toNatClampNeg v110)) ((upd (r 31) d.toNatClampNeg r149)) ((upd (r 32) d.toNatClampNeg k0))) rfl hP
                              exact W.iret (v := (0 : Int32)) hx hb hr (fun t ht hW => ⟨⟨_, ((upd f 0 (0 : Int32)), g, (va_up (va_up (va_up (va_up r 29 (((upd (r 29) d.toNatClampNeg what)))) 30 (((upd (r 30) d.toNatClampNeg v110)))) 31 (((upd (r 31) d.toNatClampNeg r149)))) 32 (((upd (r 32) d.toNatClampNeg k0)))), (va_up q 33 s3)), rfl, ⟨((upd (r 29) d.toNatClampNeg what)), ((upd (r 30) d.toNatClampNeg v110)), ((upd (r 31) d.toNatClampNeg r149)), ((upd (r 32) d.toNatClampNeg k0)), s3, rfl, by first | exact hI | exact mi_sz (d := d) hI (v := v110) (by omega) rfl rfl rfl rfl rfl rfl rfl rfl | exact mi_sz (d := d) hI (v := v131) (by omega) rfl rfl rfl rfl rfl rfl rfl rfl | exact mi_sz (d := d) hI (v := 0) (by decide) rfl rfl rfl rfl rfl rfl rfl rfl⟩, by unfold mB; rw [ht]; exact hP⟩, hS.F ht⟩) hS.2.2 dX10_keep_273
                            · skip
                              have d185 := c185
                              rw [fa_le] at d185
                              refine lv_aload_n hx hb dX10_keep_188 rfl (lv_at hl 2 rfl) ?_
                              refine m_get (v := .ref (a 33)) hx hb hts hin hown hK hP 33 (by decide) rfl (hts (.fieldLink RX10 73 "ShadowBenchModel" "shelfRow" "[J") (by decide +kernel)) rfl dX10_keep_189 ?_
                              refine lv_bipush (v := 60) hx hb dX10_keep_192 (by decide) ?_
                              refine lv_iload_n hx hb dX10_keep_194 rfl (lv_at hl 3 rfl) ?_
                              refine lv_imul hx hb dX10_keep_195 ?_
                              refine lv_topi (fun v195 e195 => ?_)
                              have i195 : v195.toInt = 60 * d.toInt := by rw [e195]; exact mulcL rfl (by omega) (by omega)
                              refine lv_iload hx hb dX10_keep_196 (lv_at hl 0 rfl) ?_
                              refine lv_iadd hx hb dX10_keep_198 ?_
                              refine lv_topi (fun v198 e198 => ?_)
                              have i198 : v198.toInt = v195.toInt + (nI i).toInt := by rw [e198]; exact fb_addI (by omega) (by omega)
                              refine lv_iload_n hx hb dX10_keep_199 rfl (lv_at hl 4 rfl) ?_
                              refine lv_iconst (v := 3) hx hb dX10_keep_200 (by decide) ?_
                              refine lv_icmp_ne (tgt := 215) hx hb dX10_keep_201 (by decide) (fun c201 => ?_) (fun c201 => ?_)
                              · first | exact absurd c201 c95 | exact absurd c95 c201
                              · skip
                                have d201 := c201
                                rw [fa_eq] at d201
                                refine lv_lload hx hb dX10_keep_204 (lv_at hl 6 rfl) ?_
                                refine lv_iload hx hb dX10_keep_206 (lv_at hl 0 rfl) ?_
                                refine m_pu (As := [.long p0, .int (nI i)]) (rest := [.int v198, .ref (a 33)]) ⟨hx, hb, hml, hown, hts⟩ (c_X10_one l p0 (nI i) ) (va_cwS 2 hts gX10_keep_X10_one rfl rfl rfl (by decide +kernel) ⟨Nat.le_of_ble_eq_true rfl, Nat.le_of_ble_eq_true rfl⟩) hP rfl hl.1 rfl (Nat.le_of_ble_eq_true rfl) dX10_keep_208 ⟨Nat.le_of_ble_eq_true rfl, Nat.le_of_ble_eq_true rfl⟩ hS (fun r208 H locs q208 hP hS => ?_)
                                have i208 : r208.toInt = (r_one p0 (nI i)).toInt := congrArg Int32.toInt q208
                                refine lv_i2l (v := r208.toInt64) hx hb dX10_keep_211 rfl ?_
                                refine lv_goto (tgt := 265) hx hb dX10_keep_212 (by decide) ?_
                                refine m_last (w := s3) hx hb hK hP hD hS 21 rfl (vp_in_iff.mpr ⟨by omega, by omega⟩) (va_up (va_up q 33 s3) 33 (vp_updL s3 v198.toNatClampNeg r208.toInt64)) (ms_33 cy mo a _ _ _ _ _) dX10_keep_265 (fun H locs hP hS => ?_)
                                have hP := wm_eq rfl rfl rfl (es_q_33__33 q s3 (vp_updL s3 v198.toNatClampNeg r208.toInt64)) hP
                                refine lv_iinc (v := (nI (i + 1))) (lv' := [(7, .int (nI (i + 1))), (6, .int (1 : Int32)), (0, .ref mo), (1, .int d), (2, .int what), (3, .int k0), (4, .long p0)]) hx hb dX10_keep_266 hl (k := 0) rfl (nI_1 _) (by decide) rfl (fun ls hl => ?_)
                                refine lv_goto (tgt := 177) hx hb dX10_keep_269 (by decide) ?_
                                have hP := wm_eq rfl rfl (ec_r_29_30_31_32__29_30_31_32 r ((upd (r 29) d.toNatClampNeg what)) ((upd (r 30) d.toNatClampNeg v110)) ((upd (r 31) d.toNatClampNeg r149)) ((upd (r 32) d.toNatClampNeg k0))) rfl hP
                                exact ih_177 (i + 1) (vp_updL s3 v198.toNatClampNeg r208.toInt64) (by omega) (by omega) _ _ hP hS ls (lv_sub hl [0, 1, 2, 3, 4, 5, 6] rfl)
                        have hP := wm_eq rfl rfl (ec_r_29_30_31_32__29_30_31_32 r ((upd (r 29) d.toNatClampNeg what)) ((upd (r 30) d.toNatClampNeg v110)) ((upd (r 31) d.toNatClampNeg r149)) ((upd (r 32) d.toNatClampNeg k0))) (ec_q___33 q ) hP
                        exact loop_177 (60 + 1) 0 (q 33) (by omega) (by omega) _ _ hP hS ls (lv_sub hl [0, 1, 2, 3, 4, 5, 6] rfl)
                      · skip
                        have d164 := c164
                        rw [fa_eq] at d164
                        refine lv_bipush (v := (-15)) hx hb dX10_keep_167 (by decide) ?_
                        refine lv_goto (tgt := 173) hx hb dX10_keep_169 (by decide) ?_
                        refine m_iast (w := (r 32)) hx hb hK hP hD hS 20 rfl (vp_in_iff.mpr ⟨by omega, by omega⟩) (va_up (va_up (va_up (va_up r 29 ((upd (r 29) d.toNatClampNeg what))) 30 ((upd (r 30) d.toNatClampNeg v110))) 31 ((upd (r 31) d.toNatClampNeg r149))) 32 (upd (r 32) d.toNatClampNeg (((-15) : Int32)))) (ms_32 cy mo a _ _ _ _ _) dX10_keep_173 (fun H locs hP hS => ?_)
                        refine lv_iconst (v := 0) hx hb dX10_keep_174 (by decide) ?_
                        refine lv_istore (lv' := [(7, .int (0 : Int32)), (6, .int (1 : Int32)), (0, .ref mo), (1, .int d), (2, .int what), (3, .int k0), (4, .long p0)]) hx hb dX10_keep_175 hl (by decide) rfl (fun ls hl => ?_)
                        have loop_177 : ∀ (n : Nat) (i : Nat) (s3 : Nat → Int64), (i ≤ 60) → 60 - i < n → ∀ (H : Heap) (locs : List Loc), va_P D vwCl (WM cy mo a (upd f 0 (0 : Int32)) g (va_up (va_up (va_up (va_up r 29 ((upd (r 29) d.toNatClampNeg what))) 30 ((upd (r 30) d.toNatClampNeg v110))) 31 ((upd (r 31) d.toNatClampNeg r149))) 32 ((upd (r 32) d.toNatClampNeg (((-15) : Int32))))) (va_up q 33 s3)) H → va_S (AM mo a) s.heap H locs → ∀ (ls : Array Slot), lv_has ls 8 [(7, .int (nI i)), (6, .int (1 : Int32)), (0, .ref mo), (1, .int d), (2, .int what), (3, .int k0), (4, .long p0)] → W p l e (headSpec wsX10_keep ({ frames := 3, cells := 0, slots := 0, locals := 69 })).room s m #[Value.ref mo, Value.int d, Value.int what, Value.int k0, Value.long p0] below meth c H locs 0 0 (MQ below (va_Qi (fun r0 u => ∃ (sh : Nat → Int32), ∃ (sz : Nat → Int32), ∃ (sw : Nat → Int32), ∃ (sf : Nat → Int32), ∃ (sr : Nat → Int64), u = ((upd f 0 (0 : Int32)), g, (va_up (va_up (va_up (va_up r 29 sh) 30 sz) 31 sw) 32 sf), (va_up q 33 sr)) ∧ (MI (upd f 0 (0 : Int32)) (va_up (va_up (va_up (va_up r 29 sh) 30 sz) 31 sw) 32 sf))) (mB D cy mo a) (AM mo a)) #[Value.ref mo, Value.int d, Value.int what, Value.int k0, Value.long p0] s 0 0 (AM mo a)) (F0 m 177 ls []) := by
                          intro n
                          induction n with
                          | zero => intro i s3 j177_0 hn; exact absurd hn (Nat.not_lt_zero _)
                          | succ n ih_177 =>
                            intro i s3 j177_0 hn_177 H locs hP hS ls hl
                            have ii : (nI i).toInt = (i : Int) := nI_toInt (by omega)
                            refine lv_iload hx hb dX10_keep_177 (lv_at hl 0 rfl) ?_
                            refine lv_aload_n hx hb dX10_keep_179 rfl (lv_at hl 2 rfl) ?_
                            refine m_get (v := .ref (a 30)) hx hb hts hin hown hK hP 30 (by decide) rfl (hts (.fieldLink RX10 64 "ShadowBenchModel" "shelfSize" "[I") (by decide +kernel)) rfl dX10_keep_180 ?_
                            refine lv_iload_n hx hb dX10_keep_183 rfl (lv_at hl 3 rfl) ?_
                            refine m_iald (w := ((upd (r 30) d.toNatClampNeg v110))) hx hb hK hP 18 rfl (vp_in_iff.mpr ⟨by omega, by omega⟩) dX10_keep_184 ?_
                            refine lv_topi (fun v184 e184 => ?_)
                            have i184 : v184.toInt = (((upd (r 30) d.toNatClampNeg v110)) d.toNatClampNeg).toInt := congrArg Int32.toInt e184
                            have z184 := e184
                            simp only [upd, if_true] at z184
                            have y184 := congrArg Int32.toInt z184
                            refine lv_icmp_ge (tgt := 272) hx hb dX10_keep_185 (by decide) (fun c185 => ?_) (fun c185 => ?_)
                            · skip
                              have d185 := c185
                              rw [fa_le] at d185
                              refine lv_iconst (v := 0) hx hb dX10_keep_272 (by decide) ?_
                              have hP := wm_eq rfl rfl (ec_r_29_30_31_32__29_30_31_32 r ((upd (r 29) d.toNatClampNeg what)) ((upd (r 30) d.toNatClampNeg v110)) ((upd (r 31) d.toNatClampNeg r149)) ((upd (r 32) d.toNatClampNeg (((-15) : Int32))))) rfl hP
                              exact W.iret (v := (0 : Int32)) hx hb hr (fun t ht hW => ⟨⟨_, ((upd f 0 (0 : Int32)), g, (va_up (va_up (va_up (va_up r 29 (((upd (r 29) d.toNatClampNeg what)))) 30 (((upd (r 30) d.toNatClampNeg v110)))) 31 (((upd (r 31) d.toNatClampNeg r149)))) 32 (((upd (r 32) d.toNatClampNeg (((-15) : Int32)))))), (va_up q 33 s3)), rfl, ⟨((upd (r 29) d.toNatClampNeg what)), ((upd (r 30) d.toNatClampNeg v110)), ((upd (r 31) d.toNatClampNeg r149)), ((upd (r 32) d.toNatClampNeg (((-15) : Int32)))), s3, rfl, by first | exact hI | exact mi_sz (d := d) hI (v := v110) (by omega) rfl rfl rfl rfl rfl rfl rfl rfl | exact mi_sz (d := d) hI (v := v131) (by omega) rfl rfl rfl rfl rfl rfl rfl rfl | exact mi_sz (d := d) hI (v := 0) (by decide) rfl rfl rfl rfl rfl rfl rfl rfl⟩, by unfold mB; rw [ht]; exact hP⟩, hS.F ht⟩) hS.2.2 dX10_keep_273
                            · skip
                              have d185 := c185
                              rw [fa_le] at d185
                              refine lv_aload_n hx hb dX10_keep_188 rfl (lv_at hl 2 rfl) ?_
                              refine m_get (v := .ref (a 33)) hx hb hts hin hown hK hP 33 (by decide) rfl (hts (.fieldLink RX10 73 "ShadowBenchModel" "shelfRow" "[J") (by decide +kernel)) rfl dX10_keep_189 ?_
                              refine lv_bipush (v := 60) hx hb dX10_keep_192 (by decide) ?_
                              refine lv_iload_n hx hb dX10_keep_194 rfl (lv_at hl 3 rfl) ?_
                              refine lv_imul hx hb dX10_keep_195 ?_
                              refine lv_topi (fun v195 e195 => ?_)
                              have i195 : v195.toInt = 60 * d.toInt := by rw [e195]; exact mulcL rfl (by omega) (by omega)
                              refine lv_iload hx hb dX10_keep_196 (lv_at hl 0 rfl) ?_
                              refine lv_iadd hx hb dX10_keep_198 ?_
                              refine lv_topi (fun v198 e198 => ?_)
                              have i198 : v198.toInt = v195.toInt + (nI i).toInt := by rw [e198]; exact fb_addI (by omega) (by omega)
                              refine lv_iload_n hx hb dX10_keep_199 rfl (lv_at hl 4 rfl) ?_
                              refine lv_iconst (v := 3) hx hb dX10_keep_200 (by decide) ?_
                              refine lv_icmp_ne (tgt := 215) hx hb dX10_keep_201 (by decide) (fun c201 => ?_) (fun c201 => ?_)
                              · first | exact absurd c201 c95 | exact absurd c95 c201
                              · skip
                                have d201 := c201
                                rw [fa_eq] at d201
                                refine lv_lload hx hb dX10_keep_204 (lv_at hl 6 rfl) ?_
                                refine lv_iload hx hb dX10_keep_206 (lv_at hl 0 rfl) ?_
                                refine m_pu (As := [.long p0, .int (nI i)]) (rest := [.int v198, .ref (a 33)]) ⟨hx, hb, hml, hown, hts⟩ (c_X10_one l p0 (nI i) ) (va_cwS 2 hts gX10_keep_X10_one rfl rfl rfl (by decide +kernel) ⟨Nat.le_of_ble_eq_true rfl, Nat.le_of_ble_eq_true rfl⟩) hP rfl hl.1 rfl (Nat.le_of_ble_eq_true rfl) dX10_keep_208 ⟨Nat.le_of_ble_eq_true rfl, Nat.le_of_ble_eq_true rfl⟩ hS (fun r208 H locs q208 hP hS => ?_)
                                have i208 : r208.toInt = (r_one p0 (nI i)).toInt := congrArg Int32.toInt q208
                                refine lv_i2l (v := r208.toInt64) hx hb dX10_keep_211 rfl ?_
                                refine lv_goto (tgt := 265) hx hb dX10_keep_212 (by decide) ?_
                                refine m_last (w := s3) hx hb hK hP hD hS 21 rfl (vp_in_iff.mpr ⟨by omega, by omega⟩) (va_up (va_up q 33 s3) 33 (vp_updL s3 v198.toNatClampNeg r208.toInt64)) (ms_33 cy mo a _ _ _ _ _) dX10_keep_265 (fun H locs hP hS => ?_)
                                have hP := wm_eq rfl rfl rfl (es_q_33__33 q s3 (vp_updL s3 v198.toNatClampNeg r208.toInt64)) hP
                                refine lv_iinc (v := (nI (i + 1))) (lv' := [(7, .int (nI (i + 1))), (6, .int (1 : Int32)), (0, .ref mo), (1, .int d), (2, .int what), (3, .int k0), (4, .long p0)]) hx hb dX10_keep_266 hl (k := 0) rfl (nI_1 _) (by decide) rfl (fun ls hl => ?_)
                                refine lv_goto (tgt := 177) hx hb dX10_keep_269 (by decide) ?_
                                have hP := wm_eq rfl rfl (ec_r_29_30_31_32__29_30_31_32 r ((upd (r 29) d.toNatClampNeg what)) ((upd (r 30) d.toNatClampNeg v110)) ((upd (r 31) d.toNatClampNeg r149)) ((upd (r 32) d.toNatClampNeg (((-15) : Int32))))) rfl hP
                                exact ih_177 (i + 1) (vp_updL s3 v198.toNatClampNeg r208.toInt64) (by omega) (by omega) _ _ hP hS ls (lv_sub hl [0, 1, 2, 3, 4, 5, 6] rfl)
                        have hP := wm_eq rfl rfl (ec_r_29_30_31_32__29_30_31_32 r ((upd (r 29) d.toNatClampNeg what)) ((upd (r 30) d.toNatClampNeg v110)) ((upd (r 31) d.toNatClampNeg r149)) ((upd (r 32) d.toNatClampNeg (((-15) : Int32))))) (ec_q___33 q ) hP
                        exact loop_177 (60 + 1) 0 (q 33) (by omega) (by omega) _ _ hP hS ls (lv_sub hl [0, 1, 2, 3, 4, 5, 6] rfl)
                · first | exact absurd c76 (by decide) | exact absurd (by decide) c76
      · skip
        have d18 := c18
        rw [fa_eq] at d18
        refine lv_iload_n hx hb dX10_keep_21 rfl (lv_at hl 2 rfl) ?_
        refine lv_iconst (v := 4) hx hb dX10_keep_22 (by decide) ?_
        refine lv_icmp_ne (tgt := 34) hx hb dX10_keep_23 (by decide) (fun c23 => ?_) (fun c23 => ?_)
        · skip
          have d23 := c23
          rw [fa_eq] at d23
          refine lv_iload_n hx hb dX10_keep_34 rfl (lv_at hl 2 rfl) ?_
          refine lv_iconst (v := 3) hx hb dX10_keep_35 (by decide) ?_
          refine lv_icmp_ne (tgt := 71) hx hb dX10_keep_36 (by decide) (fun c36 => ?_) (fun c36 => ?_)
          · skip
            have d36 := c36
            rw [fa_eq] at d36
            refine lv_iconst (v := 0) hx hb dX10_keep_71 (by decide) ?_
            refine lv_istore (lv' := [(6, .int (0 : Int32)), (0, .ref mo), (1, .int d), (2, .int what), (3, .int k0), (4, .long p0)]) hx hb dX10_keep_72 hl (by decide) rfl (fun ls hl => ?_)
            refine lv_iload hx hb dX10_keep_74 (lv_at hl 0 rfl) ?_
            refine lv_if_ne (tgt := 81) hx hb dX10_keep_76 (by decide) (fun c76 => ?_) (fun c76 => ?_)
            · first | exact absurd c76 (by decide) | exact absurd (by decide) c76
            · skip
              have d76 := c76
              rw [fa_eq] at d76
              refine lv_iconst (v := (-1)) hx hb dX10_keep_79 (by decide) ?_
              have hP := wm_eq rfl rfl (ec_r___29_30_31_32 r ) (ec_q___33 q ) hP
              exact W.iret (v := ((-1) : Int32)) hx hb hr (fun t ht hW => ⟨⟨_, ((upd f 0 (0 : Int32)), g, (va_up (va_up (va_up (va_up r 29 (r 29)) 30 (r 30)) 31 (r 31)) 32 (r 32)), (va_up q 33 (q 33))), rfl, ⟨(r 29), (r 30), (r 31), (r 32), (q 33), rfl, by first | exact hI | exact mi_sz (d := d) hI (v := v110) (by omega) rfl rfl rfl rfl rfl rfl rfl rfl | exact mi_sz (d := d) hI (v := v131) (by omega) rfl rfl rfl rfl rfl rfl rfl rfl | exact mi_sz (d := d) hI (v := 0) (by decide) rfl rfl rfl rfl rfl rfl rfl rfl⟩, by unfold mB; rw [ht]; exact hP⟩, hS.F ht⟩) hS.2.2 dX10_keep_80
          · skip
            have d36 := c36
            rw [fa_eq] at d36
            refine lv_aload_n hx hb dX10_keep_39 rfl (lv_at hl 0 rfl) ?_
            refine lv_iload_n hx hb dX10_keep_40 rfl (lv_at hl 3 rfl) ?_
            refine m_calli (As := [.int k0]) (rest := []) ⟨hx, hb, hml, hown, hts⟩ (c_X10_isJob l D cy mo a (upd f 0 (0 : Int32)) g r q k0 hD) (cwV 1 hts gX10_keep_X10_isJob rfl rfl rfl (by decide +kernel) ⟨Nat.le_of_ble_eq_true rfl, Nat.le_of_ble_eq_true rfl⟩) hK hP rfl hl.1 rfl (Nat.le_of_ble_eq_true rfl) dX10_keep_41 ⟨Nat.le_of_ble_eq_true rfl, Nat.le_of_ble_eq_true rfl⟩ hS (fun r41 u H locs q41 hP hS => ?_)
            obtain ⟨rfl, q41⟩ := q41
            have hP : va_P D vwCl (WM cy mo a (upd f 0 (0 : Int32)) g r q) H := hP
            have q41 : Bo r41 (0 ≤ k0.toInt ∧ k0.toInt < ((f 1)).toInt) := q41
            refine lv_if_eq (tgt := 71) hx hb dX10_keep_44 (by decide) (fun c44 => ?_) (fun c44 => ?_)
            · skip
              have b44 := bo_f q41 c44
              refine lv_iconst (v := 0) hx hb dX10_keep_71 (by decide) ?_
              refine lv_istore (lv' := [(6, .int (0 : Int32)), (0, .ref mo), (1, .int d), (2, .int what), (3, .int k0), (4, .long p0)]) hx hb dX10_keep_72 hl (by decide) rfl (fun ls hl => ?_)
              refine lv_iload hx hb dX10_keep_74 (lv_at hl 0 rfl) ?_
              refine lv_if_ne (tgt := 81) hx hb dX10_keep_76 (by decide) (fun c76 => ?_) (fun c76 => ?_)
              · first | exact absurd c76 (by decide) | exact absurd (by decide) c76
              · skip
                have d76 := c76
                rw [fa_eq] at d76
                refine lv_iconst (v := (-1)) hx hb dX10_keep_79 (by decide) ?_
                have hP := wm_eq rfl rfl (ec_r___29_30_31_32 r ) (ec_q___33 q ) hP
                exact W.iret (v := ((-1) : Int32)) hx hb hr (fun t ht hW => ⟨⟨_, ((upd f 0 (0 : Int32)), g, (va_up (va_up (va_up (va_up r 29 (r 29)) 30 (r 30)) 31 (r 31)) 32 (r 32)), (va_up q 33 (q 33))), rfl, ⟨(r 29), (r 30), (r 31), (r 32), (q 33), rfl, by first | exact hI | exact mi_sz (d := d) hI (v := v110) (by omega) rfl rfl rfl rfl rfl rfl rfl rfl | exact mi_sz (d := d) hI (v := v131) (by omega) rfl rfl rfl rfl rfl rfl rfl rfl | exact mi_sz (d := d) hI (v := 0) (by decide) rfl rfl rfl rfl rfl rfl rfl rfl⟩, by unfold mB; rw [ht]; exact hP⟩, hS.F ht⟩) hS.2.2 dX10_keep_80
            · skip
              have b44 := bo_t q41 c44
              refine lv_aload_n hx hb dX10_keep_47 rfl (lv_at hl 0 rfl) ?_
              refine m_get (v := .ref (a 3)) hx hb hts hin hown hK hP 3 (by decide) rfl (hts (.fieldLink RX10 13 "ShadowBenchModel" "wide" "[I") (by decide +kernel)) rfl dX10_keep_48 ?_
              refine lv_iload_n hx hb dX10_keep_51 rfl (lv_at hl 3 rfl) ?_
              refine m_iald (w := (r 3)) hx hb hK hP 2 rfl (vp_in_iff.mpr ⟨by omega, by omega⟩) dX10_keep_52 ?_
              refine lv_topi (fun v52 e52 => ?_)
              have i52 : v52.toInt = ((r 3) k0.toNatClampNeg).toInt := congrArg Int32.toInt e52
              have w52 := mi_w hI (x := k0) (by omega) (by omega) e52
              refine lv_aload_n hx hb dX10_keep_53 rfl (lv_at hl 0 rfl) ?_
              refine m_get (v := .ref (a 4)) hx hb hts hin hown hK hP 4 (by decide) rfl (hts (.fieldLink RX10 16 "ShadowBenchModel" "high" "[I") (by decide +kernel)) rfl dX10_keep_54 ?_
              refine lv_iload_n hx hb dX10_keep_57 rfl (lv_at hl 3 rfl) ?_
              refine m_iald (w := (r 4)) hx hb hK hP 3 rfl (vp_in_iff.mpr ⟨by omega, by omega⟩) dX10_keep_58 ?_
              refine lv_topi (fun v58 e58 => ?_)
              have i58 : v58.toInt = ((r 4) k0.toNatClampNeg).toInt := congrArg Int32.toInt e58
              have w58 := mi_h hI (x := k0) (by omega) (by omega) e58
              refine lv_lload hx hb dX10_keep_59 (lv_at hl 4 rfl) ?_
              refine m_pu (As := [.int v52, .int v58, .long p0]) (rest := []) ⟨hx, hb, hml, hown, hts⟩ (c_X10_isPicture l v52 v58 p0 ) (va_cwS 3 hts gX10_keep_X10_isPicture rfl rfl rfl (by decide +kernel) ⟨Nat.le_of_ble_eq_true rfl, Nat.le_of_ble_eq_true rfl⟩) hP rfl hl.1 rfl (Nat.le_of_ble_eq_true rfl) dX10_keep_61 ⟨Nat.le_of_ble_eq_true rfl, Nat.le_of_ble_eq_true rfl⟩ hS (fun r61 H locs q61 hP hS => ?_)
              refine lv_if_eq (tgt := 71) hx hb dX10_keep_64 (by decide) (fun c64 => ?_) (fun c64 => ?_)
              · skip
                have b64 := bo_f q61 c64
                refine lv_iconst (v := 0) hx hb dX10_keep_71 (by decide) ?_
                refine lv_istore (lv' := [(6, .int (0 : Int32)), (0, .ref mo), (1, .int d), (2, .int what), (3, .int k0), (4, .long p0)]) hx hb dX10_keep_72 hl (by decide) rfl (fun ls hl => ?_)
                refine lv_iload hx hb dX10_keep_74 (lv_at hl 0 rfl) ?_
                refine lv_if_ne (tgt := 81) hx hb dX10_keep_76 (by decide) (fun c76 => ?_) (fun c76 => ?_)
                · first | exact absurd c76 (by decide) | exact absurd (by decide) c76
                · skip
                  have d76 := c76
                  rw [fa_eq] at d76
                  refine lv_iconst (v := (-1)) hx hb dX10_keep_79 (by decide) ?_
                  have hP := wm_eq rfl rfl (ec_r___29_30_31_32 r ) (ec_q___33 q ) hP
                  exact W.iret (v := ((-1) : Int32)) hx hb hr (fun t ht hW => ⟨⟨_, ((upd f 0 (0 : Int32)), g, (va_up (va_up (va_up (va_up r 29 (r 29)) 30 (r 30)) 31 (r 31)) 32 (r 32)), (va_up q 33 (q 33))), rfl, ⟨(r 29), (r 30), (r 31), (r 32), (q 33), rfl, by first | exact hI | exact mi_sz (d := d) hI (v := v110) (by omega) rfl rfl rfl rfl rfl rfl rfl rfl | exact mi_sz (d := d) hI (v := v131) (by omega) rfl rfl rfl rfl rfl rfl rfl rfl | exact mi_sz (d := d) hI (v := 0) (by decide) rfl rfl rfl rfl rfl rfl rfl rfl⟩, by unfold mB; rw [ht]; exact hP⟩, hS.F ht⟩) hS.2.2 dX10_keep_80
              · skip
                have b64 := bo_t q61 c64
                refine lv_iconst (v := 1) hx hb dX10_keep_67 (by decide) ?_
                refine lv_goto (tgt := 72) hx hb dX10_keep_68 (by decide) ?_
                refine lv_istore (lv' := [(6, .int (1 : Int32)), (0, .ref mo), (1, .int d), (2, .int what), (3, .int k0), (4, .long p0)]) hx hb dX10_keep_72 hl (by decide) rfl (fun ls hl => ?_)
                refine lv_iload hx hb dX10_keep_74 (lv_at hl 0 rfl) ?_
                refine lv_if_ne (tgt := 81) hx hb dX10_keep_76 (by decide) (fun c76 => ?_) (fun c76 => ?_)
                · skip
                  have d76 := c76
                  rw [fa_eq] at d76
                  refine lv_aload_n hx hb dX10_keep_81 rfl (lv_at hl 1 rfl) ?_
                  refine m_get (v := .ref (a 29)) hx hb hts hin hown hK hP 29 (by decide) rfl (hts (.fieldLink RX10 61 "ShadowBenchModel" "shelf" "[I") (by decide +kernel)) rfl dX10_keep_82 ?_
                  refine lv_iload_n hx hb dX10_keep_85 rfl (lv_at hl 2 rfl) ?_
                  refine lv_iload_n hx hb dX10_keep_86 rfl (lv_at hl 3 rfl) ?_
                  refine m_iast (w := (r 29)) hx hb hK hP hD hS 17 rfl (vp_in_iff.mpr ⟨by omega, by omega⟩) (va_up r 29 (upd (r 29) d.toNatClampNeg what)) (ms_29 cy mo a _ _ _ _ _) dX10_keep_87 (fun H locs hP hS => ?_)
                  refine lv_aload_n hx hb dX10_keep_88 rfl (lv_at hl 1 rfl) ?_
                  refine m_get (v := .ref (a 30)) hx hb hts hin hown hK hP 30 (by decide) rfl (hts (.fieldLink RX10 64 "ShadowBenchModel" "shelfSize" "[I") (by decide +kernel)) rfl dX10_keep_89 ?_
                  refine lv_iload_n hx hb dX10_keep_92 rfl (lv_at hl 2 rfl) ?_
                  refine lv_iload_n hx hb dX10_keep_93 rfl (lv_at hl 3 rfl) ?_
                  refine lv_iconst (v := 3) hx hb dX10_keep_94 (by decide) ?_
                  refine lv_icmp_ne (tgt := 114) hx hb dX10_keep_95 (by decide) (fun c95 => ?_) (fun c95 => ?_)
                  · first | exact absurd c95 c36 | exact absurd c36 c95
                  · skip
                    have d95 := c95
                    rw [fa_eq] at d95
                    refine lv_aload_n hx hb dX10_keep_98 rfl (lv_at hl 1 rfl) ?_
                    refine m_get (v := .ref (a 3)) hx hb hts hin hown hK hP 3 (by decide) rfl (hts (.fieldLink RX10 13 "ShadowBenchModel" "wide" "[I") (by decide +kernel)) rfl dX10_keep_99 ?_
                    refine lv_iload_n hx hb dX10_keep_102 rfl (lv_at hl 4 rfl) ?_
                    refine m_iald (w := (r 3)) hx hb hK hP 2 rfl (vp_in_iff.mpr ⟨by omega, by omega⟩) dX10_keep_103 ?_
                    refine lv_topi (fun v103 e103 => ?_)
                    have i103 : v103.toInt = ((r 3) k0.toNatClampNeg).toInt := congrArg Int32.toInt e103
                    have w103 := mi_w hI (x := k0) (by omega) (by omega) e103
                    refine lv_aload_n hx hb dX10_keep_104 rfl (lv_at hl 1 rfl) ?_
                    refine m_get (v := .ref (a 4)) hx hb hts hin hown hK hP 4 (by decide) rfl (hts (.fieldLink RX10 16 "ShadowBenchModel" "high" "[I") (by decide +kernel)) rfl dX10_keep_105 ?_
                    refine lv_iload_n hx hb dX10_keep_108 rfl (lv_at hl 4 rfl) ?_
                    refine m_iald (w := (r 4)) hx hb hK hP 3 rfl (vp_in_iff.mpr ⟨by omega, by omega⟩) dX10_keep_109 ?_
                    refine lv_topi (fun v109 e109 => ?_)
                    have i109 : v109.toInt = ((r 4) k0.toNatClampNeg).toInt := congrArg Int32.toInt e109
                    have w109 := mi_h hI (x := k0) (by omega) (by omega) e109
                    have m110 := mul66 w103 w109
                    refine lv_imul hx hb dX10_keep_110 ?_
                    refine lv_topi (fun v110 e110 => ?_)
                    have i110 : v110.toInt = v103.toInt * v109.toInt := by rw [e110]; exact fb_mulI (by omega) (by omega)
                    refine lv_goto (tgt := 136) hx hb dX10_keep_111 (by decide) ?_
                    refine m_iast (w := (r 30)) hx hb hK hP hD hS 18 rfl (vp_in_iff.mpr ⟨by omega, by omega⟩) (va_up (va_up r 29 ((upd (r 29) d.toNatClampNeg what))) 30 (upd (r 30) d.toNatClampNeg v110)) (ms_30 cy mo a _ _ _ _ _) dX10_keep_136 (fun H locs hP hS => ?_)
                    refine lv_iload_n hx hb dX10_keep_137 rfl (lv_at hl 3 rfl) ?_
                    refine lv_iconst (v := 1) hx hb dX10_keep_138 (by decide) ?_
                    refine lv_icmp_ne (tgt := 174) hx hb dX10_keep_139 (by decide) (fun c139 => ?_) (fun c139 => ?_)
                    · skip
                      have d139 := c139
                      rw [fa_eq] at d139
                      refine lv_iconst (v := 0) hx hb dX10_keep_174 (by decide) ?_
                      refine lv_istore (lv' := [(7, .int (0 : Int32)), (6, .int (1 : Int32)), (0, .ref mo), (1, .int d), (2, .int what), (3, .int k0), (4, .long p0)]) hx hb dX10_keep_175 hl (by decide) rfl (fun ls hl => ?_)
                      have loop_177 : ∀ (n : Nat) (i : Nat) (s3 : Nat → Int64), (i ≤ 60) → 60 - i < n → ∀ (H : Heap) (locs : List Loc), va_P D vwCl (WM cy mo a (upd f 0 (0 : Int32)) g (va_up (va_up r 29 ((upd (r 29) d.toNatClampNeg what))) 30 ((upd (r 30) d.toNatClampNeg v110))) (va_up q 33 s3)) H → va_S (AM mo a) s.heap H locs → ∀ (ls : Array Slot), lv_has ls 8 [(7, .int (nI i)), (6, .int (1 : Int32)), (0, .ref mo), (1, .int d), (2, .int what), (3, .int k0), (4, .long p0)] → W p l e (headSpec wsX10_keep ({ frames := 3, cells := 0, slots := 0, locals := 69 })).room s m #[Value.ref mo, Value.int d, Value.int what, Value.int k0, Value.long p0] below meth c H locs 0 0 (MQ below (va_Qi (fun r0 u => ∃ (sh : Nat → Int32), ∃ (sz : Nat → Int32), ∃ (sw : Nat → Int32), ∃ (sf : Nat → Int32), ∃ (sr : Nat → Int64), u = ((upd f 0 (0 : Int32)), g, (va_up (va_up (va_up (va_up r 29 sh) 30 sz) 31 sw) 32 sf), (va_up q 33 sr)) ∧ (MI (upd f 0 (0 : Int32)) (va_up (va_up (va_up (va_up r 29 sh) 30 sz) 31 sw) 32 sf))) (mB D cy mo a) (AM mo a)) #[Value.ref mo, Value.int d, Value.int what, Value.int k0, Value.long p0] s 0 0 (AM mo a)) (F0 m 177 ls []) := by
                        intro n
                        induction n with
                        | zero => intro i s3 j177_0 hn; exact absurd hn (Nat.not_lt_zero _)
                        | succ n ih_177 =>
                          intro i s3 j177_0 hn_177 H locs hP hS ls hl
                          have ii : (nI i).toInt = (i : Int) := nI_toInt (by omega)
                          refine lv_iload hx hb dX10_keep_177 (lv_at hl 0 rfl) ?_
                          refine lv_aload_n hx hb dX10_keep_179 rfl (lv_at hl 2 rfl) ?_
                          refine m_get (v := .ref (a 30)) hx hb hts hin hown hK hP 30 (by decide) rfl (hts (.fieldLink RX10 64 "ShadowBenchModel" "shelfSize" "[I") (by decide +kernel)) rfl dX10_keep_180 ?_
                          refine lv_iload_n hx hb dX10_keep_183 rfl (lv_at hl 3 rfl) ?_
                          refine m_iald (w := ((upd (r 30) d.toNatClampNeg v110))) hx hb hK hP 18 rfl (vp_in_iff.mpr ⟨by omega, by omega⟩) dX10_keep_184 ?_
                          refine lv_topi (fun v184 e184 => ?_)
                          have i184 : v184.toInt = (((upd (r 30) d.toNatClampNeg v110)) d.toNatClampNeg).toInt := congrArg Int32.toInt e184
                          have z184 := e184
                          simp only [upd, if_true] at z184
                          have y184 := congrArg Int32.toInt z184
                          refine lv_icmp_ge (tgt := 272) hx hb dX10_keep_185 (by decide) (fun c185 => ?_) (fun c185 => ?_)
                          · skip
                            have d185 := c185
                            rw [fa_le] at d185
                            refine lv_iconst (v := 0) hx hb dX10_keep_272 (by decide) ?_
                            have hP := wm_eq rfl rfl (ec_r_29_30__29_30_31_32 r ((upd (r 29) d.toNatClampNeg what)) ((upd (r 30) d.toNatClampNeg v110))) rfl hP
                            exact W.iret (v := (0 : Int32)) hx hb hr (fun t ht hW => ⟨⟨_, ((upd f 0 (0 : Int32)), g, (va_up (va_up (va_up (va_up r 29 (((upd (r 29) d.toNatClampNeg what)))) 30 (((upd (r 30) d.toNatClampNeg v110)))) 31 (r 31)) 32 (r 32)), (va_up q 33 s3)), rfl, ⟨((upd (r 29) d.toNatClampNeg what)), ((upd (r 30) d.toNatClampNeg v110)), (r 31), (r 32), s3, rfl, by first | exact hI | exact mi_sz (d := d) hI (v := v110) (by omega) rfl rfl rfl rfl rfl rfl rfl rfl | exact mi_sz (d := d) hI (v := v131) (by omega) rfl rfl rfl rfl rfl rfl rfl rfl | exact mi_sz (d := d) hI (v := 0) (by decide) rfl rfl rfl rfl rfl rfl rfl rfl⟩, by unfold mB; rw [ht]; exact hP⟩, hS.F ht⟩) hS.2.2 dX10_keep_273
                          · skip
                            have d185 := c185
                            rw [fa_le] at d185
                            refine lv_aload_n hx hb dX10_keep_188 rfl (lv_at hl 2 rfl) ?_
                            refine m_get (v := .ref (a 33)) hx hb hts hin hown hK hP 33 (by decide) rfl (hts (.fieldLink RX10 73 "ShadowBenchModel" "shelfRow" "[J") (by decide +kernel)) rfl dX10_keep_189 ?_
                            refine lv_bipush (v := 60) hx hb dX10_keep_192 (by decide) ?_
                            refine lv_iload_n hx hb dX10_keep_194 rfl (lv_at hl 3 rfl) ?_
                            refine lv_imul hx hb dX10_keep_195 ?_
                            refine lv_topi (fun v195 e195 => ?_)
                            have i195 : v195.toInt = 60 * d.toInt := by rw [e195]; exact mulcL rfl (by omega) (by omega)
                            refine lv_iload hx hb dX10_keep_196 (lv_at hl 0 rfl) ?_
                            refine lv_iadd hx hb dX10_keep_198 ?_
                            refine lv_topi (fun v198 e198 => ?_)
                            have i198 : v198.toInt = v195.toInt + (nI i).toInt := by rw [e198]; exact fb_addI (by omega) (by omega)
                            refine lv_iload_n hx hb dX10_keep_199 rfl (lv_at hl 4 rfl) ?_
                            refine lv_iconst (v := 3) hx hb dX10_keep_200 (by decide) ?_
                            refine lv_icmp_ne (tgt := 215) hx hb dX10_keep_201 (by decide) (fun c201 => ?_) (fun c201 => ?_)
                            · first | exact absurd c201 c95 | exact absurd c95 c201
                            · skip
                              have d201 := c201
                              rw [fa_eq] at d201
                              refine lv_lload hx hb dX10_keep_204 (lv_at hl 6 rfl) ?_
                              refine lv_iload hx hb dX10_keep_206 (lv_at hl 0 rfl) ?_
                              refine m_pu (As := [.long p0, .int (nI i)]) (rest := [.int v198, .ref (a 33)]) ⟨hx, hb, hml, hown, hts⟩ (c_X10_one l p0 (nI i) ) (va_cwS 2 hts gX10_keep_X10_one rfl rfl rfl (by decide +kernel) ⟨Nat.le_of_ble_eq_true rfl, Nat.le_of_ble_eq_true rfl⟩) hP rfl hl.1 rfl (Nat.le_of_ble_eq_true rfl) dX10_keep_208 ⟨Nat.le_of_ble_eq_true rfl, Nat.le_of_ble_eq_true rfl⟩ hS (fun r208 H locs q208 hP hS => ?_)
                              have i208 : r208.toInt = (r_one p0 (nI i)).toInt := congrArg Int32.toInt q208
                              refine lv_i2l (v := r208.toInt64) hx hb dX10_keep_211 rfl ?_
                              refine lv_goto (tgt := 265) hx hb dX10_keep_212 (by decide) ?_
                              refine m_last (w := s3) hx hb hK hP hD hS 21 rfl (vp_in_iff.mpr ⟨by omega, by omega⟩) (va_up (va_up q 33 s3) 33 (vp_updL s3 v198.toNatClampNeg r208.toInt64)) (ms_33 cy mo a _ _ _ _ _) dX10_keep_265 (fun H locs hP hS => ?_)
                              have hP := wm_eq rfl rfl rfl (es_q_33__33 q s3 (vp_updL s3 v198.toNatClampNeg r208.toInt64)) hP
                              refine lv_iinc (v := (nI (i + 1))) (lv' := [(7, .int (nI (i + 1))), (6, .int (1 : Int32)), (0, .ref mo), (1, .int d), (2, .int what), (3, .int k0), (4, .long p0)]) hx hb dX10_keep_266 hl (k := 0) rfl (nI_1 _) (by decide) rfl (fun ls hl => ?_)
                              refine lv_goto (tgt := 177) hx hb dX10_keep_269 (by decide) ?_
                              have hP := wm_eq rfl rfl (ec_r_29_30__29_30 r ((upd (r 29) d.toNatClampNeg what)) ((upd (r 30) d.toNatClampNeg v110))) rfl hP
                              exact ih_177 (i + 1) (vp_updL s3 v198.toNatClampNeg r208.toInt64) (by omega) (by omega) _ _ hP hS ls (lv_sub hl [0, 1, 2, 3, 4, 5, 6] rfl)
                      have hP := wm_eq rfl rfl (ec_r_29_30__29_30 r ((upd (r 29) d.toNatClampNeg what)) ((upd (r 30) d.toNatClampNeg v110))) (ec_q___33 q ) hP
                      exact loop_177 (60 + 1) 0 (q 33) (by omega) (by omega) _ _ hP hS ls (lv_sub hl [0, 1, 2, 3, 4, 5, 6] rfl)
                    · skip
                      have d139 := c139
                      rw [fa_eq] at d139
                      refine lv_aload_n hx hb dX10_keep_142 rfl (lv_at hl 1 rfl) ?_
                      refine m_get (v := .ref (a 31)) hx hb hts hin hown hK hP 31 (by decide) rfl (hts (.fieldLink RX10 67 "ShadowBenchModel" "shelfWeight" "[I") (by decide +kernel)) rfl dX10_keep_143 ?_
                      refine lv_iload_n hx hb dX10_keep_146 rfl (lv_at hl 2 rfl) ?_
                      refine lv_aload_n hx hb dX10_keep_147 rfl (lv_at hl 1 rfl) ?_
                      refine lv_iload_n hx hb dX10_keep_148 rfl (lv_at hl 4 rfl) ?_
                      refine m_calli (As := [.int k0]) (rest := [.int d, .ref (a 31)]) ⟨hx, hb, hml, hown, hts⟩ (c_X10_weightOf l D cy mo a (upd f 0 (0 : Int32)) g (va_up (va_up r 29 ((upd (r 29) d.toNatClampNeg what))) 30 ((upd (r 30) d.toNatClampNeg v110))) q k0 hD (by first | exact hI | exact mi_sz (d := d) hI (v := 0) (by first | omega | decide) rfl rfl rfl rfl rfl rfl rfl rfl | exact mi_sz (d := d) hI (v := v131) (by first | omega | decide) rfl rfl rfl rfl rfl rfl rfl rfl | exact mi_sz (d := d) hI (v := v110) (by first | omega | decide) rfl rfl rfl rfl rfl rfl rfl rfl) (show 0 ≤ k0.toInt ∧ k0.toInt < (f 1).toInt by omega)) (cwV 1 hts gX10_keep_X10_weightOf rfl rfl rfl (by decide +kernel) ⟨Nat.le_of_ble_eq_true rfl, Nat.le_of_ble_eq_true rfl⟩) hK hP rfl hl.1 rfl (Nat.le_of_ble_eq_true rfl) dX10_keep_149 ⟨Nat.le_of_ble_eq_true rfl, Nat.le_of_ble_eq_true rfl⟩ hS (fun r149 u H locs q149 hP hS => ?_)
                      obtain ⟨rfl, q149⟩ := q149
                      have hP : va_P D vwCl (WM cy mo a (upd f 0 (0 : Int32)) g (va_up (va_up r 29 ((upd (r 29) d.toNatClampNeg what))) 30 ((upd (r 30) d.toNatClampNeg v110))) q) H := hP
                      have q149 : True := q149
                      refine m_iast (w := (r 31)) hx hb hK hP hD hS 19 rfl (vp_in_iff.mpr ⟨by omega, by omega⟩) (va_up (va_up (va_up r 29 ((upd (r 29) d.toNatClampNeg what))) 30 ((upd (r 30) d.toNatClampNeg v110))) 31 (upd (r 31) d.toNatClampNeg r149)) (ms_31 cy mo a _ _ _ _ _) dX10_keep_152 (fun H locs hP hS => ?_)
                      refine lv_aload_n hx hb dX10_keep_153 rfl (lv_at hl 1 rfl) ?_
                      refine m_get (v := .ref (a 32)) hx hb hts hin hown hK hP 32 (by decide) rfl (hts (.fieldLink RX10 70 "ShadowBenchModel" "shelfFailure" "[I") (by decide +kernel)) rfl dX10_keep_154 ?_
                      refine lv_iload_n hx hb dX10_keep_157 rfl (lv_at hl 2 rfl) ?_
                      refine lv_aload_n hx hb dX10_keep_158 rfl (lv_at hl 1 rfl) ?_
                      refine m_get (v := .ref (a 2)) hx hb hts hin hown hK hP 2 (by decide) rfl (hts (.fieldLink RX10 7 "ShadowBenchModel" "kind" "[I") (by decide +kernel)) rfl dX10_keep_159 ?_
                      refine lv_iload_n hx hb dX10_keep_162 rfl (lv_at hl 4 rfl) ?_
                      refine m_iald (w := (r 2)) hx hb hK hP 1 rfl (vp_in_iff.mpr ⟨by omega, by omega⟩) dX10_keep_163 ?_
                      refine lv_topi (fun v163 e163 => ?_)
                      have i163 : v163.toInt = ((r 2) k0.toNatClampNeg).toInt := congrArg Int32.toInt e163
                      refine lv_if_ne (tgt := 172) hx hb dX10_keep_164 (by decide) (fun c164 => ?_) (fun c164 => ?_)
                      · skip
                        have d164 := c164
                        rw [fa_eq] at d164
                        refine lv_iload_n hx hb dX10_keep_172 rfl (lv_at hl 4 rfl) ?_
                        refine m_iast (w := (r 32)) hx hb hK hP hD hS 20 rfl (vp_in_iff.mpr ⟨by omega, by omega⟩) (va_up (va_up (va_up (va_up r 29 ((upd (r 29) d.toNatClampNeg what))) 30 ((upd (r 30) d.toNatClampNeg v110))) 31 ((upd (r 31) d.toNatClampNeg r149))) 32 (upd (r 32) d.toNatClampNeg k0)) (ms_32 cy mo a _ _ _ _ _) dX10_keep_173 (fun H locs hP hS => ?_)
                        refine lv_iconst (v := 0) hx hb dX10_keep_174 (by decide) ?_
                        refine lv_istore (lv' := [(7, .int (0 : Int32)), (6, .int (1 : Int32)), (0, .ref mo), (1, .int d), (2, .int what), (3, .int k0), (4, .long p0)]) hx hb dX10_keep_175 hl (by decide) rfl (fun ls hl => ?_)
                        have loop_177 : ∀ (n : Nat) (i : Nat) (s3 : Nat → Int64), (i ≤ 60) → 60 - i < n → ∀ (H : Heap) (locs : List Loc), va_P D vwCl (WM cy mo a (upd f 0 (0 : Int32)) g (va_up (va_up (va_up (va_up r 29 ((upd (r 29) d.toNatClampNeg what))) 30 ((upd (r 30) d.toNatClampNeg v110))) 31 ((upd (r 31) d.toNatClampNeg r149))) 32 ((upd (r 32) d.toNatClampNeg k0))) (va_up q 33 s3)) H → va_S (AM mo a) s.heap H locs → ∀ (ls : Array Slot), lv_has ls 8 [(7, .int (nI i)), (6, .int (1 : Int32)), (0, .ref mo), (1, .int d), (2, .int what), (3, .int k0), (4, .long p0)] → W p l e (headSpec wsX10_keep ({ frames := 3, cells := 0, slots := 0, locals := 69 })).room s m #[Value.ref mo, Value.int d, Value.int what, Value.int k0, Value.long p0] below meth c H locs 0 0 (MQ below (va_Qi (fun r0 u => ∃ (sh : Nat → Int32), ∃ (sz : Nat → Int32), ∃ (sw : Nat → Int32), ∃ (sf : Nat → Int32), ∃ (sr : Nat → Int64), u = ((upd f 0 (0 : Int32)), g, (va_up (va_up (va_up (va_up r 29 sh) 30 sz) 31 sw) 32 sf), (va_up q 33 sr)) ∧ (MI (upd f 0 (0 : Int32)) (va_up (va_up (va_up (va_up r 29 sh) 30 sz) 31 sw) 32 sf))) (mB D cy mo a) (AM mo a)) #[Value.ref mo, Value.int d, Value.int what, Value.int k0, Value.long p0] s 0 0 (AM mo a)) (F0 m 177 ls []) := by
                          intro n
                          induction n with
                          | zero => intro i s3 j177_0 hn; exact absurd hn (Nat.not_lt_zero _)
                          | succ n ih_177 =>
                            intro i s3 j177_0 hn_177 H locs hP hS ls hl
                            have ii : (nI i).toInt = (i : Int) := nI_toInt (by omega)
                            refine lv_iload hx hb dX10_keep_177 (lv_at hl 0 rfl) ?_
                            refine lv_aload_n hx hb dX10_keep_179 rfl (lv_at hl 2 rfl) ?_
                            refine m_get (v := .ref (a 30)) hx hb hts hin hown hK hP 30 (by decide) rfl (hts (.fieldLink RX10 64 "ShadowBenchModel" "shelfSize" "[I") (by decide +kernel)) rfl dX10_keep_180 ?_
                            refine lv_iload_n hx hb dX10_keep_183 rfl (lv_at hl 3 rfl) ?_
                            refine m_iald (w := ((upd (r 30) d.toNatClampNeg v110))) hx hb hK hP 18 rfl (vp_in_iff.mpr ⟨by omega, by omega⟩) dX10_keep_184 ?_
                            refine lv_topi (fun v184 e184 => ?_)
                            have i184 : v184.toInt = (((upd (r 30) d.toNatClampNeg v110)) d.toNatClampNeg).toInt := congrArg Int32.toInt e184
                            have z184 := e184
                            simp only [upd, if_true] at z184
                            have y184 := congrArg Int32.toInt z184
                            refine lv_icmp_ge (tgt := 272) hx hb dX10_keep_185 (by decide) (fun c185 => ?_) (fun c185 => ?_)
                            · skip
                              have d185 := c185
                              rw [fa_le] at d185
                              refine lv_iconst (v := 0) hx hb dX10_keep_272 (by decide) ?_
                              have hP := wm_eq rfl rfl (ec_r_29_30_31_32__29_30_31_32 r ((upd (r 29) d.toNatClampNeg what)) ((upd (r 30) d.toNatClampNeg v110)) ((upd (r 31) d.toNatClampNeg r149)) ((upd (r 32) d.toNatClampNeg k0))) rfl hP
                              exact W.iret (v := (0 : Int32)) hx hb hr (fun t ht hW => ⟨⟨_, ((upd f 0 (0 : Int32)), g, (va_up (va_up (va_up (va_up r 29 (((upd (r 29) d.toNatClampNeg what)))) 30 (((upd (r 30) d.toNatClampNeg v110)))) 31 (((upd (r 31) d.toNatClampNeg r149)))) 32 (((upd (r 32) d.toNatClampNeg k0)))), (va_up q 33 s3)), rfl, ⟨((upd (r 29) d.toNatClampNeg what)), ((upd (r 30) d.toNatClampNeg v110)), ((upd (r 31) d.toNatClampNeg r149)), ((upd (r 32) d.toNatClampNeg k0)), s3, rfl, by first | exact hI | exact mi_sz (d := d) hI (v := v110) (by omega) rfl rfl rfl rfl rfl rfl rfl rfl | exact mi_sz (d := d) hI (v := v131) (by omega) rfl rfl rfl rfl rfl rfl rfl rfl | exact mi_sz (d := d) hI (v := 0) (by decide) rfl rfl rfl rfl rfl rfl rfl rfl⟩, by unfold mB; rw [ht]; exact hP⟩, hS.F ht⟩) hS.2.2 dX10_keep_273
                            · skip
                              have d185 := c185
                              rw [fa_le] at d185
                              refine lv_aload_n hx hb dX10_keep_188 rfl (lv_at hl 2 rfl) ?_
                              refine m_get (v := .ref (a 33)) hx hb hts hin hown hK hP 33 (by decide) rfl (hts (.fieldLink RX10 73 "ShadowBenchModel" "shelfRow" "[J") (by decide +kernel)) rfl dX10_keep_189 ?_
                              refine lv_bipush (v := 60) hx hb dX10_keep_192 (by decide) ?_
                              refine lv_iload_n hx hb dX10_keep_194 rfl (lv_at hl 3 rfl) ?_
                              refine lv_imul hx hb dX10_keep_195 ?_
                              refine lv_topi (fun v195 e195 => ?_)
                              have i195 : v195.toInt = 60 * d.toInt := by rw [e195]; exact mulcL rfl (by omega) (by omega)
                              refine lv_iload hx hb dX10_keep_196 (lv_at hl 0 rfl) ?_
                              refine lv_iadd hx hb dX10_keep_198 ?_
                              refine lv_topi (fun v198 e198 => ?_)
                              have i198 : v198.toInt = v195.toInt + (nI i).toInt := by rw [e198]; exact fb_addI (by omega) (by omega)
                              refine lv_iload_n hx hb dX10_keep_199 rfl (lv_at hl 4 rfl) ?_
                              refine lv_iconst (v := 3) hx hb dX10_keep_200 (by decide) ?_
                              refine lv_icmp_ne (tgt := 215) hx hb dX10_keep_201 (by decide) (fun c201 => ?_) (fun c201 => ?_)
                              · first | exact absurd c201 c95 | exact absurd c95 c201
                              · skip
                                have d201 := c201
                                rw [fa_eq] at d201
                                refine lv_lload hx hb dX10_keep_204 (lv_at hl 6 rfl) ?_
                                refine lv_iload hx hb dX10_keep_206 (lv_at hl 0 rfl) ?_
                                refine m_pu (As := [.long p0, .int (nI i)]) (rest := [.int v198, .ref (a 33)]) ⟨hx, hb, hml, hown, hts⟩ (c_X10_one l p0 (nI i) ) (va_cwS 2 hts gX10_keep_X10_one rfl rfl rfl (by decide +kernel) ⟨Nat.le_of_ble_eq_true rfl, Nat.le_of_ble_eq_true rfl⟩) hP rfl hl.1 rfl (Nat.le_of_ble_eq_true rfl) dX10_keep_208 ⟨Nat.le_of_ble_eq_true rfl, Nat.le_of_ble_eq_true rfl⟩ hS (fun r208 H locs q208 hP hS => ?_)
                                have i208 : r208.toInt = (r_one p0 (nI i)).toInt := congrArg Int32.toInt q208
                                refine lv_i2l (v := r208.toInt64) hx hb dX10_keep_211 rfl ?_
                                refine lv_goto (tgt := 265) hx hb dX10_keep_212 (by decide) ?_
                                refine m_last (w := s3) hx hb hK hP hD hS 21 rfl (vp_in_iff.mpr ⟨by omega, by omega⟩) (va_up (va_up q 33 s3) 33 (vp_updL s3 v198.toNatClampNeg r208.toInt64)) (ms_33 cy mo a _ _ _ _ _) dX10_keep_265 (fun H locs hP hS => ?_)
                                have hP := wm_eq rfl rfl rfl (es_q_33__33 q s3 (vp_updL s3 v198.toNatClampNeg r208.toInt64)) hP
                                refine lv_iinc (v := (nI (i + 1))) (lv' := [(7, .int (nI (i + 1))), (6, .int (1 : Int32)), (0, .ref mo), (1, .int d), (2, .int what), (3, .int k0), (4, .long p0)]) hx hb dX10_keep_266 hl (k := 0) rfl (nI_1 _) (by decide) rfl (fun ls hl => ?_)
                                refine lv_goto (tgt := 177) hx hb dX10_keep_269 (by decide) ?_
                                have hP := wm_eq rfl rfl (ec_r_29_30_31_32__29_30_31_32 r ((upd (r 29) d.toNatClampNeg what)) ((upd (r 30) d.toNatClampNeg v110)) ((upd (r 31) d.toNatClampNeg r149)) ((upd (r 32) d.toNatClampNeg k0))) rfl hP
                                exact ih_177 (i + 1) (vp_updL s3 v198.toNatClampNeg r208.toInt64) (by omega) (by omega) _ _ hP hS ls (lv_sub hl [0, 1, 2, 3, 4, 5, 6] rfl)
                        have hP := wm_eq rfl rfl (ec_r_29_30_31_32__29_30_31_32 r ((upd (r 29) d.toNatClampNeg what)) ((upd (r 30) d.toNatClampNeg v110)) ((upd (r 31) d.toNatClampNeg r149)) ((upd (r 32) d.toNatClampNeg k0))) (ec_q___33 q ) hP
                        exact loop_177 (60 + 1) 0 (q 33) (by omega) (by omega) _ _ hP hS ls (lv_sub hl [0, 1, 2, 3, 4, 5, 6] rfl)
                      · skip
                        have d164 := c164
                        rw [fa_eq] at d164
                        refine lv_bipush (v := (-15)) hx hb dX10_keep_167 (by decide) ?_
                        refine lv_goto (tgt := 173) hx hb dX10_keep_169 (by decide) ?_
                        refine m_iast (w := (r 32)) hx hb hK hP hD hS 20 rfl (vp_in_iff.mpr ⟨by omega, by omega⟩) (va_up (va_up (va_up (va_up r 29 ((upd (r 29) d.toNatClampNeg what))) 30 ((upd (r 30) d.toNatClampNeg v110))) 31 ((upd (r 31) d.toNatClampNeg r149))) 32 (upd (r 32) d.toNatClampNeg (((-15) : Int32)))) (ms_32 cy mo a _ _ _ _ _) dX10_keep_173 (fun H locs hP hS => ?_)
                        refine lv_iconst (v := 0) hx hb dX10_keep_174 (by decide) ?_
                        refine lv_istore (lv' := [(7, .int (0 : Int32)), (6, .int (1 : Int32)), (0, .ref mo), (1, .int d), (2, .int what), (3, .int k0), (4, .long p0)]) hx hb dX10_keep_175 hl (by decide) rfl (fun ls hl => ?_)
                        have loop_177 : ∀ (n : Nat) (i : Nat) (s3 : Nat → Int64), (i ≤ 60) → 60 - i < n → ∀ (H : Heap) (locs : List Loc), va_P D vwCl (WM cy mo a (upd f 0 (0 : Int32)) g (va_up (va_up (va_up (va_up r 29 ((upd (r 29) d.toNatClampNeg what))) 30 ((upd (r 30) d.toNatClampNeg v110))) 31 ((upd (r 31) d.toNatClampNeg r149))) 32 ((upd (r 32) d.toNatClampNeg (((-15) : Int32))))) (va_up q 33 s3)) H → va_S (AM mo a) s.heap H locs → ∀ (ls : Array Slot), lv_has ls 8 [(7, .int (nI i)), (6, .int (1 : Int32)), (0, .ref mo), (1, .int d), (2, .int what), (3, .int k0), (4, .long p0)] → W p l e (headSpec wsX10_keep ({ frames := 3, cells := 0, slots := 0, locals := 69 })).room s m #[Value.ref mo, Value.int d, Value.int what, Value.int k0, Value.long p0] below meth c H locs 0 0 (MQ below (va_Qi (fun r0 u => ∃ (sh : Nat → Int32), ∃ (sz : Nat → Int32), ∃ (sw : Nat → Int32), ∃ (sf : Nat → Int32), ∃ (sr : Nat → Int64), u = ((upd f 0 (0 : Int32)), g, (va_up (va_up (va_up (va_up r 29 sh) 30 sz) 31 sw) 32 sf), (va_up q 33 sr)) ∧ (MI (upd f 0 (0 : Int32)) (va_up (va_up (va_up (va_up r 29 sh) 30 sz) 31 sw) 32 sf))) (mB D cy mo a) (AM mo a)) #[Value.ref mo, Value.int d, Value.int what, Value.int k0, Value.long p0] s 0 0 (AM mo a)) (F0 m 177 ls []) := by
                          intro n
                          induction n with
                          | zero => intro i s3 j177_0 hn; exact absurd hn (Nat.not_lt_zero _)
                          | succ n ih_177 =>
                            intro i s3 j177_0 hn_177 H locs hP hS ls hl
                            have ii : (nI i).toInt = (i : Int) := nI_toInt (by omega)
                            refine lv_iload hx hb dX10_keep_177 (lv_at hl 0 rfl) ?_
                            refine lv_aload_n hx hb dX10_keep_179 rfl (lv_at hl 2 rfl) ?_
                            refine m_get (v := .ref (a 30)) hx hb hts hin hown hK hP 30 (by decide) rfl (hts (.fieldLink RX10 64 "ShadowBenchModel" "shelfSize" "[I") (by decide +kernel)) rfl dX10_keep_180 ?_
                            refine lv_iload_n hx hb dX10_keep_183 rfl (lv_at hl 3 rfl) ?_
                            refine m_iald (w := ((upd (r 30) d.toNatClampNeg v110))) hx hb hK hP 18 rfl (vp_in_iff.mpr ⟨by omega, by omega⟩) dX10_keep_184 ?_
                            refine lv_topi (fun v184 e184 => ?_)
                            have i184 : v184.toInt = (((upd (r 30) d.toNatClampNeg v110)) d.toNatClampNeg).toInt := congrArg Int32.toInt e184
                            have z184 := e184
                            simp only [upd, if_true] at z184
                            have y184 := congrArg Int32.toInt z184
                            refine lv_icmp_ge (tgt := 272) hx hb dX10_keep_185 (by decide) (fun c185 => ?_) (fun c185 => ?_)
                            · skip
                              have d185 := c185
                              rw [fa_le] at d185
                              refine lv_iconst (v := 0) hx hb dX10_keep_272 (by decide) ?_
                              have hP := wm_eq rfl rfl (ec_r_29_30_31_32__29_30_31_32 r ((upd (r 29) d.toNatClampNeg what)) ((upd (r 30) d.toNatClampNeg v110)) ((upd (r 31) d.toNatClampNeg r149)) ((upd (r 32) d.toNatClampNeg (((-15) : Int32))))) rfl hP
                              exact W.iret (v := (0 : Int32)) hx hb hr (fun t ht hW => ⟨⟨_, ((upd f 0 (0 : Int32)), g, (va_up (va_up (va_up (va_up r 29 (((upd (r 29) d.toNatClampNeg what)))) 30 (((upd (r 30) d.toNatClampNeg v110)))) 31 (((upd (r 31) d.toNatClampNeg r149)))) 32 (((upd (r 32) d.toNatClampNeg (((-15) : Int32)))))), (va_up q 33 s3)), rfl, ⟨((upd (r 29) d.toNatClampNeg what)), ((upd (r 30) d.toNatClampNeg v110)), ((upd (r 31) d.toNatClampNeg r149)), ((upd (r 32) d.toNatClampNeg (((-15) : Int32)))), s3, rfl, by first | exact hI | exact mi_sz (d := d) hI (v := v110) (by omega) rfl rfl rfl rfl rfl rfl rfl rfl | exact mi_sz (d := d) hI (v := v131) (by omega) rfl rfl rfl rfl rfl rfl rfl rfl | exact mi_sz (d := d) hI (v := 0) (by decide) rfl rfl rfl rfl rfl rfl rfl rfl⟩, by unfold mB; rw [ht]; exact hP⟩, hS.F ht⟩) hS.2.2 dX10_keep_273
                            · skip
                              have d185 := c185
                              rw [fa_le] at d185
                              refine lv_aload_n hx hb dX10_keep_188 rfl (lv_at hl 2 rfl) ?_
                              refine m_get (v := .ref (a 33)) hx hb hts hin hown hK hP 33 (by decide) rfl (hts (.fieldLink RX10 73 "ShadowBenchModel" "shelfRow" "[J") (by decide +kernel)) rfl dX10_keep_189 ?_
                              refine lv_bipush (v := 60) hx hb dX10_keep_192 (by decide) ?_
                              refine lv_iload_n hx hb dX10_keep_194 rfl (lv_at hl 3 rfl) ?_
                              refine lv_imul hx hb dX10_keep_195 ?_
                              refine lv_topi (fun v195 e195 => ?_)
                              have i195 : v195.toInt = 60 * d.toInt := by rw [e195]; exact mulcL rfl (by omega) (by omega)
                              refine lv_iload hx hb dX10_keep_196 (lv_at hl 0 rfl) ?_
                              refine lv_iadd hx hb dX10_keep_198 ?_
                              refine lv_topi (fun v198 e198 => ?_)
                              have i198 : v198.toInt = v195.toInt + (nI i).toInt := by rw [e198]; exact fb_addI (by omega) (by omega)
                              refine lv_iload_n hx hb dX10_keep_199 rfl (lv_at hl 4 rfl) ?_
                              refine lv_iconst (v := 3) hx hb dX10_keep_200 (by decide) ?_
                              refine lv_icmp_ne (tgt := 215) hx hb dX10_keep_201 (by decide) (fun c201 => ?_) (fun c201 => ?_)
                              · first | exact absurd c201 c95 | exact absurd c95 c201
                              · skip
                                have d201 := c201
                                rw [fa_eq] at d201
                                refine lv_lload hx hb dX10_keep_204 (lv_at hl 6 rfl) ?_
                                refine lv_iload hx hb dX10_keep_206 (lv_at hl 0 rfl) ?_
                                refine m_pu (As := [.long p0, .int (nI i)]) (rest := [.int v198, .ref (a 33)]) ⟨hx, hb, hml, hown, hts⟩ (c_X10_one l p0 (nI i) ) (va_cwS 2 hts gX10_keep_X10_one rfl rfl rfl (by decide +kernel) ⟨Nat.le_of_ble_eq_true rfl, Nat.le_of_ble_eq_true rfl⟩) hP rfl hl.1 rfl (Nat.le_of_ble_eq_true rfl) dX10_keep_208 ⟨Nat.le_of_ble_eq_true rfl, Nat.le_of_ble_eq_true rfl⟩ hS (fun r208 H locs q208 hP hS => ?_)
                                have i208 : r208.toInt = (r_one p0 (nI i)).toInt := congrArg Int32.toInt q208
                                refine lv_i2l (v := r208.toInt64) hx hb dX10_keep_211 rfl ?_
                                refine lv_goto (tgt := 265) hx hb dX10_keep_212 (by decide) ?_
                                refine m_last (w := s3) hx hb hK hP hD hS 21 rfl (vp_in_iff.mpr ⟨by omega, by omega⟩) (va_up (va_up q 33 s3) 33 (vp_updL s3 v198.toNatClampNeg r208.toInt64)) (ms_33 cy mo a _ _ _ _ _) dX10_keep_265 (fun H locs hP hS => ?_)
                                have hP := wm_eq rfl rfl rfl (es_q_33__33 q s3 (vp_updL s3 v198.toNatClampNeg r208.toInt64)) hP
                                refine lv_iinc (v := (nI (i + 1))) (lv' := [(7, .int (nI (i + 1))), (6, .int (1 : Int32)), (0, .ref mo), (1, .int d), (2, .int what), (3, .int k0), (4, .long p0)]) hx hb dX10_keep_266 hl (k := 0) rfl (nI_1 _) (by decide) rfl (fun ls hl => ?_)
                                refine lv_goto (tgt := 177) hx hb dX10_keep_269 (by decide) ?_
                                have hP := wm_eq rfl rfl (ec_r_29_30_31_32__29_30_31_32 r ((upd (r 29) d.toNatClampNeg what)) ((upd (r 30) d.toNatClampNeg v110)) ((upd (r 31) d.toNatClampNeg r149)) ((upd (r 32) d.toNatClampNeg (((-15) : Int32))))) rfl hP
                                exact ih_177 (i + 1) (vp_updL s3 v198.toNatClampNeg r208.toInt64) (by omega) (by omega) _ _ hP hS ls (lv_sub hl [0, 1, 2, 3, 4, 5, 6] rfl)
                        have hP := wm_eq rfl rfl (ec_r_29_30_31_32__29_30_31_32 r ((upd (r 29) d.toNatClampNeg what)) ((upd (r 30) d.toNatClampNeg v110)) ((upd (r 31) d.toNatClampNeg r149)) ((upd (r 32) d.toNatClampNeg (((-15) : Int32))))) (ec_q___33 q ) hP
                        exact loop_177 (60 + 1) 0 (q 33) (by omega) (by omega) _ _ hP hS ls (lv_sub hl [0, 1, 2, 3, 4, 5, 6] rfl)
                · first | exact absurd c76 (by decide) | exact absurd (by decide) c76
        · skip
          have d23 := c23
          rw [fa_eq] at d23
          refine lv_aload_n hx hb dX10_keep_26 rfl (lv_at hl 0 rfl) ?_
          refine lv_iload_n hx hb dX10_keep_27 rfl (lv_at hl 3 rfl) ?_
          refine m_calli (As := [.int k0]) (rest := []) ⟨hx, hb, hml, hown, hts⟩ (c_X10_isJob l D cy mo a (upd f 0 (0 : Int32)) g r q k0 hD) (cwV 1 hts gX10_keep_X10_isJob rfl rfl rfl (by decide +kernel) ⟨Nat.le_of_ble_eq_true rfl, Nat.le_of_ble_eq_true rfl⟩) hK hP rfl hl.1 rfl (Nat.le_of_ble_eq_true rfl) dX10_keep_28 ⟨Nat.le_of_ble_eq_true rfl, Nat.le_of_ble_eq_true rfl⟩ hS (fun r28 u H locs q28 hP hS => ?_)
          obtain ⟨rfl, q28⟩ := q28
          have hP : va_P D vwCl (WM cy mo a (upd f 0 (0 : Int32)) g r q) H := hP
          have q28 : Bo r28 (0 ≤ k0.toInt ∧ k0.toInt < ((f 1)).toInt) := q28
          refine lv_if_ne (tgt := 67) hx hb dX10_keep_31 (by decide) (fun c31 => ?_) (fun c31 => ?_)
          · skip
            have b31 := bo_t q28 c31
            refine lv_iconst (v := 1) hx hb dX10_keep_67 (by decide) ?_
            refine lv_goto (tgt := 72) hx hb dX10_keep_68 (by decide) ?_
            refine lv_istore (lv' := [(6, .int (1 : Int32)), (0, .ref mo), (1, .int d), (2, .int what), (3, .int k0), (4, .long p0)]) hx hb dX10_keep_72 hl (by decide) rfl (fun ls hl => ?_)
            refine lv_iload hx hb dX10_keep_74 (lv_at hl 0 rfl) ?_
            refine lv_if_ne (tgt := 81) hx hb dX10_keep_76 (by decide) (fun c76 => ?_) (fun c76 => ?_)
            · skip
              have d76 := c76
              rw [fa_eq] at d76
              refine lv_aload_n hx hb dX10_keep_81 rfl (lv_at hl 1 rfl) ?_
              refine m_get (v := .ref (a 29)) hx hb hts hin hown hK hP 29 (by decide) rfl (hts (.fieldLink RX10 61 "ShadowBenchModel" "shelf" "[I") (by decide +kernel)) rfl dX10_keep_82 ?_
              refine lv_iload_n hx hb dX10_keep_85 rfl (lv_at hl 2 rfl) ?_
              refine lv_iload_n hx hb dX10_keep_86 rfl (lv_at hl 3 rfl) ?_
              refine m_iast (w := (r 29)) hx hb hK hP hD hS 17 rfl (vp_in_iff.mpr ⟨by omega, by omega⟩) (va_up r 29 (upd (r 29) d.toNatClampNeg what)) (ms_29 cy mo a _ _ _ _ _) dX10_keep_87 (fun H locs hP hS => ?_)
              refine lv_aload_n hx hb dX10_keep_88 rfl (lv_at hl 1 rfl) ?_
              refine m_get (v := .ref (a 30)) hx hb hts hin hown hK hP 30 (by decide) rfl (hts (.fieldLink RX10 64 "ShadowBenchModel" "shelfSize" "[I") (by decide +kernel)) rfl dX10_keep_89 ?_
              refine lv_iload_n hx hb dX10_keep_92 rfl (lv_at hl 2 rfl) ?_
              refine lv_iload_n hx hb dX10_keep_93 rfl (lv_at hl 3 rfl) ?_
              refine lv_iconst (v := 3) hx hb dX10_keep_94 (by decide) ?_
              refine lv_icmp_ne (tgt := 114) hx hb dX10_keep_95 (by decide) (fun c95 => ?_) (fun c95 => ?_)
              · skip
                have d95 := c95
                rw [fa_eq] at d95
                refine lv_iload_n hx hb dX10_keep_114 rfl (lv_at hl 3 rfl) ?_
                refine lv_iconst (v := 4) hx hb dX10_keep_115 (by decide) ?_
                refine lv_icmp_ne (tgt := 135) hx hb dX10_keep_116 (by decide) (fun c116 => ?_) (fun c116 => ?_)
                · first | exact absurd c116 c23 | exact absurd c23 c116
                · skip
                  have d116 := c116
                  rw [fa_eq] at d116
                  refine lv_aload_n hx hb dX10_keep_119 rfl (lv_at hl 1 rfl) ?_
                  refine m_get (v := .ref (a 4)) hx hb hts hin hown hK hP 4 (by decide) rfl (hts (.fieldLink RX10 16 "ShadowBenchModel" "high" "[I") (by decide +kernel)) rfl dX10_keep_120 ?_
                  refine lv_iload_n hx hb dX10_keep_123 rfl (lv_at hl 4 rfl) ?_
                  refine m_iald (w := (r 4)) hx hb hK hP 3 rfl (vp_in_iff.mpr ⟨by omega, by omega⟩) dX10_keep_124 ?_
                  refine lv_topi (fun v124 e124 => ?_)
                  have i124 : v124.toInt = ((r 4) k0.toNatClampNeg).toInt := congrArg Int32.toInt e124
                  have w124 := mi_h hI (x := k0) (by omega) (by omega) e124
                  refine lv_aload_n hx hb dX10_keep_125 rfl (lv_at hl 1 rfl) ?_
                  refine m_get (v := .ref (a 3)) hx hb hts hin hown hK hP 3 (by decide) rfl (hts (.fieldLink RX10 13 "ShadowBenchModel" "wide" "[I") (by decide +kernel)) rfl dX10_keep_126 ?_
                  refine lv_iload_n hx hb dX10_keep_129 rfl (lv_at hl 4 rfl) ?_
                  refine m_iald (w := (r 3)) hx hb hK hP 2 rfl (vp_in_iff.mpr ⟨by omega, by omega⟩) dX10_keep_130 ?_
                  refine lv_topi (fun v130 e130 => ?_)
                  have i130 : v130.toInt = ((r 3) k0.toNatClampNeg).toInt := congrArg Int32.toInt e130
                  have w130 := mi_w hI (x := k0) (by omega) (by omega) e130
                  refine lv_iadd hx hb dX10_keep_131 ?_
                  refine lv_topi (fun v131 e131 => ?_)
                  have i131 : v131.toInt = v124.toInt + v130.toInt := by rw [e131]; exact fb_addI (by omega) (by omega)
                  refine lv_goto (tgt := 136) hx hb dX10_keep_132 (by decide) ?_
                  refine m_iast (w := (r 30)) hx hb hK hP hD hS 18 rfl (vp_in_iff.mpr ⟨by omega, by omega⟩) (va_up (va_up r 29 ((upd (r 29) d.toNatClampNeg what))) 30 (upd (r 30) d.toNatClampNeg v131)) (ms_30 cy mo a _ _ _ _ _) dX10_keep_136 (fun H locs hP hS => ?_)
                  refine lv_iload_n hx hb dX10_keep_137 rfl (lv_at hl 3 rfl) ?_
                  refine lv_iconst (v := 1) hx hb dX10_keep_138 (by decide) ?_
                  refine lv_icmp_ne (tgt := 174) hx hb dX10_keep_139 (by decide) (fun c139 => ?_) (fun c139 => ?_)
                  · skip
                    have d139 := c139
                    rw [fa_eq] at d139
                    refine lv_iconst (v := 0) hx hb dX10_keep_174 (by decide) ?_
                    refine lv_istore (lv' := [(7, .int (0 : Int32)), (6, .int (1 : Int32)), (0, .ref mo), (1, .int d), (2, .int what), (3, .int k0), (4, .long p0)]) hx hb dX10_keep_175 hl (by decide) rfl (fun ls hl => ?_)
                    have loop_177 : ∀ (n : Nat) (i : Nat) (s3 : Nat → Int64), (i ≤ 60) → 60 - i < n → ∀ (H : Heap) (locs : List Loc), va_P D vwCl (WM cy mo a (upd f 0 (0 : Int32)) g (va_up (va_up r 29 ((upd (r 29) d.toNatClampNeg what))) 30 ((upd (r 30) d.toNatClampNeg v131))) (va_up q 33 s3)) H → va_S (AM mo a) s.heap H locs → ∀ (ls : Array Slot), lv_has ls 8 [(7, .int (nI i)), (6, .int (1 : Int32)), (0, .ref mo), (1, .int d), (2, .int what), (3, .int k0), (4, .long p0)] → W p l e (headSpec wsX10_keep ({ frames := 3, cells := 0, slots := 0, locals := 69 })).room s m #[Value.ref mo, Value.int d, Value.int what, Value.int k0, Value.long p0] below meth c H locs 0 0 (MQ below (va_Qi (fun r0 u => ∃ (sh : Nat → Int32), ∃ (sz : Nat → Int32), ∃ (sw : Nat → Int32), ∃ (sf : Nat → Int32), ∃ (sr : Nat → Int64), u = ((upd f 0 (0 : Int32)), g, (va_up (va_up (va_up (va_up r 29 sh) 30 sz) 31 sw) 32 sf), (va_up q 33 sr)) ∧ (MI (upd f 0 (0 : Int32)) (va_up (va_up (va_up (va_up r 29 sh) 30 sz) 31 sw) 32 sf))) (mB D cy mo a) (AM mo a)) #[Value.ref mo, Value.int d, Value.int what, Value.int k0, Value.long p0] s 0 0 (AM mo a)) (F0 m 177 ls []) := by
                      intro n
                      induction n with
                      | zero => intro i s3 j177_0 hn; exact absurd hn (Nat.not_lt_zero _)
                      | succ n ih_177 =>
                        intro i s3 j177_0 hn_177 H locs hP hS ls hl
                        have ii : (nI i).toInt = (i : Int) := nI_toInt (by omega)
                        refine lv_iload hx hb dX10_keep_177 (lv_at hl 0 rfl) ?_
                        refine lv_aload_n hx hb dX10_keep_179 rfl (lv_at hl 2 rfl) ?_
                        refine m_get (v := .ref (a 30)) hx hb hts hin hown hK hP 30 (by decide) rfl (hts (.fieldLink RX10 64 "ShadowBenchModel" "shelfSize" "[I") (by decide +kernel)) rfl dX10_keep_180 ?_
                        refine lv_iload_n hx hb dX10_keep_183 rfl (lv_at hl 3 rfl) ?_
                        refine m_iald (w := ((upd (r 30) d.toNatClampNeg v131))) hx hb hK hP 18 rfl (vp_in_iff.mpr ⟨by omega, by omega⟩) dX10_keep_184 ?_
                        refine lv_topi (fun v184 e184 => ?_)
                        have i184 : v184.toInt = (((upd (r 30) d.toNatClampNeg v131)) d.toNatClampNeg).toInt := congrArg Int32.toInt e184
                        have z184 := e184
                        simp only [upd, if_true] at z184
                        have y184 := congrArg Int32.toInt z184
                        refine lv_icmp_ge (tgt := 272) hx hb dX10_keep_185 (by decide) (fun c185 => ?_) (fun c185 => ?_)
                        · skip
                          have d185 := c185
                          rw [fa_le] at d185
                          refine lv_iconst (v := 0) hx hb dX10_keep_272 (by decide) ?_
                          have hP := wm_eq rfl rfl (ec_r_29_30__29_30_31_32 r ((upd (r 29) d.toNatClampNeg what)) ((upd (r 30) d.toNatClampNeg v131))) rfl hP
                          exact W.iret (v := (0 : Int32)) hx hb hr (fun t ht hW => ⟨⟨_, ((upd f 0 (0 : Int32)), g, (va_up (va_up (va_up (va_up r 29 (((upd (r 29) d.toNatClampNeg what)))) 30 (((upd (r 30) d.toNatClampNeg v131)))) 31 (r 31)) 32 (r 32)), (va_up q 33 s3)), rfl, ⟨((upd (r 29) d.toNatClampNeg what)), ((upd (r 30) d.toNatClampNeg v131)), (r 31), (r 32), s3, rfl, by first | exact hI | exact mi_sz (d := d) hI (v := v110) (by omega) rfl rfl rfl rfl rfl rfl rfl rfl | exact mi_sz (d := d) hI (v := v131) (by omega) rfl rfl rfl rfl rfl rfl rfl rfl | exact mi_sz (d := d) hI (v := 0) (by decide) rfl rfl rfl rfl rfl rfl rfl rfl⟩, by unfold mB; rw [ht]; exact hP⟩, hS.F ht⟩) hS.2.2 dX10_keep_273
                        · skip
                          have d185 := c185
                          rw [fa_le] at d185
                          refine lv_aload_n hx hb dX10_keep_188 rfl (lv_at hl 2 rfl) ?_
                          refine m_get (v := .ref (a 33)) hx hb hts hin hown hK hP 33 (by decide) rfl (hts (.fieldLink RX10 73 "ShadowBenchModel" "shelfRow" "[J") (by decide +kernel)) rfl dX10_keep_189 ?_
                          refine lv_bipush (v := 60) hx hb dX10_keep_192 (by decide) ?_
                          refine lv_iload_n hx hb dX10_keep_194 rfl (lv_at hl 3 rfl) ?_
                          refine lv_imul hx hb dX10_keep_195 ?_
                          refine lv_topi (fun v195 e195 => ?_)
                          have i195 : v195.toInt = 60 * d.toInt := by rw [e195]; exact mulcL rfl (by omega) (by omega)
                          refine lv_iload hx hb dX10_keep_196 (lv_at hl 0 rfl) ?_
                          refine lv_iadd hx hb dX10_keep_198 ?_
                          refine lv_topi (fun v198 e198 => ?_)
                          have i198 : v198.toInt = v195.toInt + (nI i).toInt := by rw [e198]; exact fb_addI (by omega) (by omega)
                          refine lv_iload_n hx hb dX10_keep_199 rfl (lv_at hl 4 rfl) ?_
                          refine lv_iconst (v := 3) hx hb dX10_keep_200 (by decide) ?_
                          refine lv_icmp_ne (tgt := 215) hx hb dX10_keep_201 (by decide) (fun c201 => ?_) (fun c201 => ?_)
                          · skip
                            have d201 := c201
                            rw [fa_eq] at d201
                            refine lv_iload hx hb dX10_keep_215 (lv_at hl 0 rfl) ?_
                            refine lv_aload_n hx hb dX10_keep_217 rfl (lv_at hl 2 rfl) ?_
                            refine m_get (v := .ref (a 4)) hx hb hts hin hown hK hP 4 (by decide) rfl (hts (.fieldLink RX10 16 "ShadowBenchModel" "high" "[I") (by decide +kernel)) rfl dX10_keep_218 ?_
                            refine lv_iload_n hx hb dX10_keep_221 rfl (lv_at hl 5 rfl) ?_
                            refine m_iald (w := (r 4)) hx hb hK hP 3 rfl (vp_in_iff.mpr ⟨by omega, by omega⟩) dX10_keep_222 ?_
                            refine lv_topi (fun v222 e222 => ?_)
                            have i222 : v222.toInt = ((r 4) k0.toNatClampNeg).toInt := congrArg Int32.toInt e222
                            have w222 := mi_h hI (x := k0) (by omega) (by omega) e222
                            refine lv_icmp_ge (tgt := 242) hx hb dX10_keep_223 (by decide) (fun c223 => ?_) (fun c223 => ?_)
                            · skip
                              have d223 := c223
                              rw [fa_le] at d223
                              refine lv_aload_n hx hb dX10_keep_242 rfl (lv_at hl 2 rfl) ?_
                              refine m_get (v := .ref (a 5)) hx hb hts hin hown hK hP 5 (by decide) rfl (hts (.fieldLink RX10 19 "ShadowBenchModel" "sums" "[I") (by decide +kernel)) rfl dX10_keep_243 ?_
                              refine lv_bipush (v := 44) hx hb dX10_keep_246 (by decide) ?_
                              refine lv_iload_n hx hb dX10_keep_248 rfl (lv_at hl 5 rfl) ?_
                              refine lv_imul hx hb dX10_keep_249 ?_
                              refine lv_topi (fun v249 e249 => ?_)
                              have i249 : v249.toInt = 44 * k0.toInt := by rw [e249]; exact mulcL rfl (by omega) (by omega)
                              refine lv_bipush (v := 11) hx hb dX10_keep_250 (by decide) ?_
                              refine lv_iadd hx hb dX10_keep_252 ?_
                              refine lv_topi (fun v252 e252 => ?_)
                              have i252 : v252.toInt = v249.toInt + (11 : Int32).toInt := by rw [e252]; exact fb_addI (by omega) (by omega)
                              refine lv_iload hx hb dX10_keep_253 (lv_at hl 0 rfl) ?_
                              refine lv_iadd hx hb dX10_keep_255 ?_
                              refine lv_topi (fun v255 e255 => ?_)
                              have i255 : v255.toInt = v252.toInt + (nI i).toInt := by rw [e255]; exact fb_addI (by omega) (by omega)
                              refine lv_aload_n hx hb dX10_keep_256 rfl (lv_at hl 2 rfl) ?_
                              refine m_get (v := .ref (a 4)) hx hb hts hin hown hK hP 4 (by decide) rfl (hts (.fieldLink RX10 16 "ShadowBenchModel" "high" "[I") (by decide +kernel)) rfl dX10_keep_257 ?_
                              refine lv_iload_n hx hb dX10_keep_260 rfl (lv_at hl 5 rfl) ?_
                              refine m_iald (w := (r 4)) hx hb hK hP 3 rfl (vp_in_iff.mpr ⟨by omega, by omega⟩) dX10_keep_261 ?_
                              refine lv_topi (fun v261 e261 => ?_)
                              have i261 : v261.toInt = ((r 4) k0.toNatClampNeg).toInt := congrArg Int32.toInt e261
                              have w261 := mi_h hI (x := k0) (by omega) (by omega) e261
                              refine lv_isub hx hb dX10_keep_262 ?_
                              refine lv_topi (fun v262 e262 => ?_)
                              have i262 : v262.toInt = v255.toInt - v261.toInt := by rw [e262]; exact fb_subI (by omega) (by omega)
                              refine m_iald (w := (r 5)) hx hb hK hP 4 rfl (vp_in_iff.mpr ⟨by omega, by omega⟩) dX10_keep_263 ?_
                              refine lv_topi (fun v263 e263 => ?_)
                              have i263 : v263.toInt = ((r 5) v262.toNatClampNeg).toInt := congrArg Int32.toInt e263
                              refine lv_i2l (v := v263.toInt64) hx hb dX10_keep_264 rfl ?_
                              refine m_last (w := s3) hx hb hK hP hD hS 21 rfl (vp_in_iff.mpr ⟨by omega, by omega⟩) (va_up (va_up q 33 s3) 33 (vp_updL s3 v198.toNatClampNeg v263.toInt64)) (ms_33 cy mo a _ _ _ _ _) dX10_keep_265 (fun H locs hP hS => ?_)
                              have hP := wm_eq rfl rfl rfl (es_q_33__33 q s3 (vp_updL s3 v198.toNatClampNeg v263.toInt64)) hP
                              refine lv_iinc (v := (nI (i + 1))) (lv' := [(7, .int (nI (i + 1))), (6, .int (1 : Int32)), (0, .ref mo), (1, .int d), (2, .int what), (3, .int k0), (4, .long p0)]) hx hb dX10_keep_266 hl (k := 0) rfl (nI_1 _) (by decide) rfl (fun ls hl => ?_)
                              refine lv_goto (tgt := 177) hx hb dX10_keep_269 (by decide) ?_
                              have hP := wm_eq rfl rfl (ec_r_29_30__29_30 r ((upd (r 29) d.toNatClampNeg what)) ((upd (r 30) d.toNatClampNeg v131))) rfl hP
                              exact ih_177 (i + 1) (vp_updL s3 v198.toNatClampNeg v263.toInt64) (by omega) (by omega) _ _ hP hS ls (lv_sub hl [0, 1, 2, 3, 4, 5, 6] rfl)
                            · skip
                              have d223 := c223
                              rw [fa_le] at d223
                              refine lv_aload_n hx hb dX10_keep_226 rfl (lv_at hl 2 rfl) ?_
                              refine m_get (v := .ref (a 5)) hx hb hts hin hown hK hP 5 (by decide) rfl (hts (.fieldLink RX10 19 "ShadowBenchModel" "sums" "[I") (by decide +kernel)) rfl dX10_keep_227 ?_
                              refine lv_bipush (v := 44) hx hb dX10_keep_230 (by decide) ?_
                              refine lv_iload_n hx hb dX10_keep_232 rfl (lv_at hl 5 rfl) ?_
                              refine lv_imul hx hb dX10_keep_233 ?_
                              refine lv_topi (fun v233 e233 => ?_)
                              have i233 : v233.toInt = 44 * k0.toInt := by rw [e233]; exact mulcL rfl (by omega) (by omega)
                              refine lv_iload hx hb dX10_keep_234 (lv_at hl 0 rfl) ?_
                              refine lv_iadd hx hb dX10_keep_236 ?_
                              refine lv_topi (fun v236 e236 => ?_)
                              have i236 : v236.toInt = v233.toInt + (nI i).toInt := by rw [e236]; exact fb_addI (by omega) (by omega)
                              refine m_iald (w := (r 5)) hx hb hK hP 4 rfl (vp_in_iff.mpr ⟨by omega, by omega⟩) dX10_keep_237 ?_
                              refine lv_topi (fun v237 e237 => ?_)
                              have i237 : v237.toInt = ((r 5) v236.toNatClampNeg).toInt := congrArg Int32.toInt e237
                              refine lv_i2l (v := v237.toInt64) hx hb dX10_keep_238 rfl ?_
                              refine lv_goto (tgt := 265) hx hb dX10_keep_239 (by decide) ?_
                              refine m_last (w := s3) hx hb hK hP hD hS 21 rfl (vp_in_iff.mpr ⟨by omega, by omega⟩) (va_up (va_up q 33 s3) 33 (vp_updL s3 v198.toNatClampNeg v237.toInt64)) (ms_33 cy mo a _ _ _ _ _) dX10_keep_265 (fun H locs hP hS => ?_)
                              have hP := wm_eq rfl rfl rfl (es_q_33__33 q s3 (vp_updL s3 v198.toNatClampNeg v237.toInt64)) hP
                              refine lv_iinc (v := (nI (i + 1))) (lv' := [(7, .int (nI (i + 1))), (6, .int (1 : Int32)), (0, .ref mo), (1, .int d), (2, .int what), (3, .int k0), (4, .long p0)]) hx hb dX10_keep_266 hl (k := 0) rfl (nI_1 _) (by decide) rfl (fun ls hl => ?_)
                              refine lv_goto (tgt := 177) hx hb dX10_keep_269 (by decide) ?_
                              have hP := wm_eq rfl rfl (ec_r_29_30__29_30 r ((upd (r 29) d.toNatClampNeg what)) ((upd (r 30) d.toNatClampNeg v131))) rfl hP
                              exact ih_177 (i + 1) (vp_updL s3 v198.toNatClampNeg v237.toInt64) (by omega) (by omega) _ _ hP hS ls (lv_sub hl [0, 1, 2, 3, 4, 5, 6] rfl)
                          · first | exact absurd c201 c95 | exact absurd c95 c201
                    have hP := wm_eq rfl rfl (ec_r_29_30__29_30 r ((upd (r 29) d.toNatClampNeg what)) ((upd (r 30) d.toNatClampNeg v131))) (ec_q___33 q ) hP
                    exact loop_177 (60 + 1) 0 (q 33) (by omega) (by omega) _ _ hP hS ls (lv_sub hl [0, 1, 2, 3, 4, 5, 6] rfl)
                  · skip
                    have d139 := c139
                    rw [fa_eq] at d139
                    refine lv_aload_n hx hb dX10_keep_142 rfl (lv_at hl 1 rfl) ?_
                    refine m_get (v := .ref (a 31)) hx hb hts hin hown hK hP 31 (by decide) rfl (hts (.fieldLink RX10 67 "ShadowBenchModel" "shelfWeight" "[I") (by decide +kernel)) rfl dX10_keep_143 ?_
                    refine lv_iload_n hx hb dX10_keep_146 rfl (lv_at hl 2 rfl) ?_
                    refine lv_aload_n hx hb dX10_keep_147 rfl (lv_at hl 1 rfl) ?_
                    refine lv_iload_n hx hb dX10_keep_148 rfl (lv_at hl 4 rfl) ?_
                    refine m_calli (As := [.int k0]) (rest := [.int d, .ref (a 31)]) ⟨hx, hb, hml, hown, hts⟩ (c_X10_weightOf l D cy mo a (upd f 0 (0 : Int32)) g (va_up (va_up r 29 ((upd (r 29) d.toNatClampNeg what))) 30 ((upd (r 30) d.toNatClampNeg v131))) q k0 hD (by first | exact hI | exact mi_sz (d := d) hI (v := 0) (by first | omega | decide) rfl rfl rfl rfl rfl rfl rfl rfl | exact mi_sz (d := d) hI (v := v131) (by first | omega | decide) rfl rfl rfl rfl rfl rfl rfl rfl | exact mi_sz (d := d) hI (v := v110) (by first | omega | decide) rfl rfl rfl rfl rfl rfl rfl rfl) (show 0 ≤ k0.toInt ∧ k0.toInt < (f 1).toInt by omega)) (cwV 1 hts gX10_keep_X10_weightOf rfl rfl rfl (by decide +kernel) ⟨Nat.le_of_ble_eq_true rfl, Nat.le_of_ble_eq_true rfl⟩) hK hP rfl hl.1 rfl (Nat.le_of_ble_eq_true rfl) dX10_keep_149 ⟨Nat.le_of_ble_eq_true rfl, Nat.le_of_ble_eq_true rfl⟩ hS (fun r149 u H locs q149 hP hS => ?_)
                    obtain ⟨rfl, q149⟩ := q149
                    have hP : va_P D vwCl (WM cy mo a (upd f 0 (0 : Int32)) g (va_up (va_up r 29 ((upd (r 29) d.toNatClampNeg what))) 30 ((upd (r 30) d.toNatClampNeg v131))) q) H := hP
                    have q149 : True := q149
                    refine m_iast (w := (r 31)) hx hb hK hP hD hS 19 rfl (vp_in_iff.mpr ⟨by omega, by omega⟩) (va_up (va_up (va_up r 29 ((upd (r 29) d.toNatClampNeg what))) 30 ((upd (r 30) d.toNatClampNeg v131))) 31 (upd (r 31) d.toNatClampNeg r149)) (ms_31 cy mo a _ _ _ _ _) dX10_keep_152 (fun H locs hP hS => ?_)
                    refine lv_aload_n hx hb dX10_keep_153 rfl (lv_at hl 1 rfl) ?_
                    refine m_get (v := .ref (a 32)) hx hb hts hin hown hK hP 32 (by decide) rfl (hts (.fieldLink RX10 70 "ShadowBenchModel" "shelfFailure" "[I") (by decide +kernel)) rfl dX10_keep_154 ?_
                    refine lv_iload_n hx hb dX10_keep_157 rfl (lv_at hl 2 rfl) ?_
                    refine lv_aload_n hx hb dX10_keep_158 rfl (lv_at hl 1 rfl) ?_
                    refine m_get (v := .ref (a 2)) hx hb hts hin hown hK hP 2 (by decide) rfl (hts (.fieldLink RX10 7 "ShadowBenchModel" "kind" "[I") (by decide +kernel)) rfl dX10_keep_159 ?_
                    refine lv_iload_n hx hb dX10_keep_162 rfl (lv_at hl 4 rfl) ?_
                    refine m_iald (w := (r 2)) hx hb hK hP 1 rfl (vp_in_iff.mpr ⟨by omega, by omega⟩) dX10_keep_163 ?_
                    refine lv_topi (fun v163 e163 => ?_)
                    have i163 : v163.toInt = ((r 2) k0.toNatClampNeg).toInt := congrArg Int32.toInt e163
                    refine lv_if_ne (tgt := 172) hx hb dX10_keep_164 (by decide) (fun c164 => ?_) (fun c164 => ?_)
                    · skip
                      have d164 := c164
                      rw [fa_eq] at d164
                      refine lv_iload_n hx hb dX10_keep_172 rfl (lv_at hl 4 rfl) ?_
                      refine m_iast (w := (r 32)) hx hb hK hP hD hS 20 rfl (vp_in_iff.mpr ⟨by omega, by omega⟩) (va_up (va_up (va_up (va_up r 29 ((upd (r 29) d.toNatClampNeg what))) 30 ((upd (r 30) d.toNatClampNeg v131))) 31 ((upd (r 31) d.toNatClampNeg r149))) 32 (upd (r 32) d.toNatClampNeg k0)) (ms_32 cy mo a _ _ _ _ _) dX10_keep_173 (fun H locs hP hS => ?_)
                      refine lv_iconst (v := 0) hx hb dX10_keep_174 (by decide) ?_
                      refine lv_istore (lv' := [(7, .int (0 : Int32)), (6, .int (1 : Int32)), (0, .ref mo), (1, .int d), (2, .int what), (3, .int k0), (4, .long p0)]) hx hb dX10_keep_175 hl (by decide) rfl (fun ls hl => ?_)
                      have loop_177 : ∀ (n : Nat) (i : Nat) (s3 : Nat → Int64), (i ≤ 60) → 60 - i < n → ∀ (H : Heap) (locs : List Loc), va_P D vwCl (WM cy mo a (upd f 0 (0 : Int32)) g (va_up (va_up (va_up (va_up r 29 ((upd (r 29) d.toNatClampNeg what))) 30 ((upd (r 30) d.toNatClampNeg v131))) 31 ((upd (r 31) d.toNatClampNeg r149))) 32 ((upd (r 32) d.toNatClampNeg k0))) (va_up q 33 s3)) H → va_S (AM mo a) s.heap H locs → ∀ (ls : Array Slot), lv_has ls 8 [(7, .int (nI i)), (6, .int (1 : Int32)), (0, .ref mo), (1, .int d), (2, .int what), (3, .int k0), (4, .long p0)] → W p l e (headSpec wsX10_keep ({ frames := 3, cells := 0, slots := 0, locals := 69 })).room s m #[Value.ref mo, Value.int d, Value.int what, Value.int k0, Value.long p0] below meth c H locs 0 0 (MQ below (va_Qi (fun r0 u => ∃ (sh : Nat → Int32), ∃ (sz : Nat → Int32), ∃ (sw : Nat → Int32), ∃ (sf : Nat → Int32), ∃ (sr : Nat → Int64), u = ((upd f 0 (0 : Int32)), g, (va_up (va_up (va_up (va_up r 29 sh) 30 sz) 31 sw) 32 sf), (va_up q 33 sr)) ∧ (MI (upd f 0 (0 : Int32)) (va_up (va_up (va_up (va_up r 29 sh) 30 sz) 31 sw) 32 sf))) (mB D cy mo a) (AM mo a)) #[Value.ref mo, Value.int d, Value.int what, Value.int k0, Value.long p0] s 0 0 (AM mo a)) (F0 m 177 ls []) := by
                        intro n
                        induction n with
                        | zero => intro i s3 j177_0 hn; exact absurd hn (Nat.not_lt_zero _)
                        | succ n ih_177 =>
                          intro i s3 j177_0 hn_177 H locs hP hS ls hl
                          have ii : (nI i).toInt = (i : Int) := nI_toInt (by omega)
                          refine lv_iload hx hb dX10_keep_177 (lv_at hl 0 rfl) ?_
                          refine lv_aload_n hx hb dX10_keep_179 rfl (lv_at hl 2 rfl) ?_
                          refine m_get (v := .ref (a 30)) hx hb hts hin hown hK hP 30 (by decide) rfl (hts (.fieldLink RX10 64 "ShadowBenchModel" "shelfSize" "[I") (by decide +kernel)) rfl dX10_keep_180 ?_
                          refine lv_iload_n hx hb dX10_keep_183 rfl (lv_at hl 3 rfl) ?_
                          refine m_iald (w := ((upd (r 30) d.toNatClampNeg v131))) hx hb hK hP 18 rfl (vp_in_iff.mpr ⟨by omega, by omega⟩) dX10_keep_184 ?_
                          refine lv_topi (fun v184 e184 => ?_)
                          have i184 : v184.toInt = (((upd (r 30) d.toNatClampNeg v131)) d.toNatClampNeg).toInt := congrArg Int32.toInt e184
                          have z184 := e184
                          simp only [upd, if_true] at z184
                          have y184 := congrArg Int32.toInt z184
                          refine lv_icmp_ge (tgt := 272) hx hb dX10_keep_185 (by decide) (fun c185 => ?_) (fun c185 => ?_)
                          · skip
                            have d185 := c185
                            rw [fa_le] at d185
                            refine lv_iconst (v := 0) hx hb dX10_keep_272 (by decide) ?_
                            have hP := wm_eq rfl rfl (ec_r_29_30_31_32__29_30_31_32 r ((upd (r 29) d.toNatClampNeg what)) ((upd (r 30) d.toNatClampNeg v131)) ((upd (r 31) d.toNatClampNeg r149)) ((upd (r 32) d.toNatClampNeg k0))) rfl hP
                            exact W.iret (v := (0 : Int32)) hx hb hr (fun t ht hW => ⟨⟨_, ((upd f 0 (0 : Int32)), g, (va_up (va_up (va_up (va_up r 29 (((upd (r 29) d.toNatClampNeg what)))) 30 (((upd (r 30) d.toNatClampNeg v131)))) 31 (((upd (r 31) d.toNatClampNeg r149)))) 32 (((upd (r 32) d.toNatClampNeg k0)))), (va_up q 33 s3)), rfl, ⟨((upd (r 29) d.toNatClampNeg what)), ((upd (r 30) d.toNatClampNeg v131)), ((upd (r 31) d.toNatClampNeg r149)), ((upd (r 32) d.toNatClampNeg k0)), s3, rfl, by first | exact hI | exact mi_sz (d := d) hI (v := v110) (by omega) rfl rfl rfl rfl rfl rfl rfl rfl | exact mi_sz (d := d) hI (v := v131) (by omega) rfl rfl rfl rfl rfl rfl rfl rfl | exact mi_sz (d := d) hI (v := 0) (by decide) rfl rfl rfl rfl rfl rfl rfl rfl⟩, by unfold mB; rw [ht]; exact hP⟩, hS.F ht⟩) hS.2.2 dX10_keep_273
                          · skip
                            have d185 := c185
                            rw [fa_le] at d185
                            refine lv_aload_n hx hb dX10_keep_188 rfl (lv_at hl 2 rfl) ?_
                            refine m_get (v := .ref (a 33)) hx hb hts hin hown hK hP 33 (by decide) rfl (hts (.fieldLink RX10 73 "ShadowBenchModel" "shelfRow" "[J") (by decide +kernel)) rfl dX10_keep_189 ?_
                            refine lv_bipush (v := 60) hx hb dX10_keep_192 (by decide) ?_
                            refine lv_iload_n hx hb dX10_keep_194 rfl (lv_at hl 3 rfl) ?_
                            refine lv_imul hx hb dX10_keep_195 ?_
                            refine lv_topi (fun v195 e195 => ?_)
                            have i195 : v195.toInt = 60 * d.toInt := by rw [e195]; exact mulcL rfl (by omega) (by omega)
                            refine lv_iload hx hb dX10_keep_196 (lv_at hl 0 rfl) ?_
                            refine lv_iadd hx hb dX10_keep_198 ?_
                            refine lv_topi (fun v198 e198 => ?_)
                            have i198 : v198.toInt = v195.toInt + (nI i).toInt := by rw [e198]; exact fb_addI (by omega) (by omega)
                            refine lv_iload_n hx hb dX10_keep_199 rfl (lv_at hl 4 rfl) ?_
                            refine lv_iconst (v := 3) hx hb dX10_keep_200 (by decide) ?_
                            refine lv_icmp_ne (tgt := 215) hx hb dX10_keep_201 (by decide) (fun c201 => ?_) (fun c201 => ?_)
                            · skip
                              have d201 := c201
                              rw [fa_eq] at d201
                              refine lv_iload hx hb dX10_keep_215 (lv_at hl 0 rfl) ?_
                              refine lv_aload_n hx hb dX10_keep_217 rfl (lv_at hl 2 rfl) ?_
                              refine m_get (v := .ref (a 4)) hx hb hts hin hown hK hP 4 (by decide) rfl (hts (.fieldLink RX10 16 "ShadowBenchModel" "high" "[I") (by decide +kernel)) rfl dX10_keep_218 ?_
                              refine lv_iload_n hx hb dX10_keep_221 rfl (lv_at hl 5 rfl) ?_
                              refine m_iald (w := (r 4)) hx hb hK hP 3 rfl (vp_in_iff.mpr ⟨by omega, by omega⟩) dX10_keep_222 ?_
                              refine lv_topi (fun v222 e222 => ?_)
                              have i222 : v222.toInt = ((r 4) k0.toNatClampNeg).toInt := congrArg Int32.toInt e222
                              have w222 := mi_h hI (x := k0) (by omega) (by omega) e222
                              refine lv_icmp_ge (tgt := 242) hx hb dX10_keep_223 (by decide) (fun c223 => ?_) (fun c223 => ?_)
                              · skip
                                have d223 := c223
                                rw [fa_le] at d223
                                refine lv_aload_n hx hb dX10_keep_242 rfl (lv_at hl 2 rfl) ?_
                                refine m_get (v := .ref (a 5)) hx hb hts hin hown hK hP 5 (by decide) rfl (hts (.fieldLink RX10 19 "ShadowBenchModel" "sums" "[I") (by decide +kernel)) rfl dX10_keep_243 ?_
                                refine lv_bipush (v := 44) hx hb dX10_keep_246 (by decide) ?_
                                refine lv_iload_n hx hb dX10_keep_248 rfl (lv_at hl 5 rfl) ?_
                                refine lv_imul hx hb dX10_keep_249 ?_
                                refine lv_topi (fun v249 e249 => ?_)
                                have i249 : v249.toInt = 44 * k0.toInt := by rw [e249]; exact mulcL rfl (by omega) (by omega)
                                refine lv_bipush (v := 11) hx hb dX10_keep_250 (by decide) ?_
                                refine lv_iadd hx hb dX10_keep_252 ?_
                                refine lv_topi (fun v252 e252 => ?_)
                                have i252 : v252.toInt = v249.toInt + (11 : Int32).toInt := by rw [e252]; exact fb_addI (by omega) (by omega)
                                refine lv_iload hx hb dX10_keep_253 (lv_at hl 0 rfl) ?_
                                refine lv_iadd hx hb dX10_keep_255 ?_
                                refine lv_topi (fun v255 e255 => ?_)
                                have i255 : v255.toInt = v252.toInt + (nI i).toInt := by rw [e255]; exact fb_addI (by omega) (by omega)
                                refine lv_aload_n hx hb dX10_keep_256 rfl (lv_at hl 2 rfl) ?_
                                refine m_get (v := .ref (a 4)) hx hb hts hin hown hK hP 4 (by decide) rfl (hts (.fieldLink RX10 16 "ShadowBenchModel" "high" "[I") (by decide +kernel)) rfl dX10_keep_257 ?_
                                refine lv_iload_n hx hb dX10_keep_260 rfl (lv_at hl 5 rfl) ?_
                                refine m_iald (w := (r 4)) hx hb hK hP 3 rfl (vp_in_iff.mpr ⟨by omega, by omega⟩) dX10_keep_261 ?_
                                refine lv_topi (fun v261 e261 => ?_)
                                have i261 : v261.toInt = ((r 4) k0.toNatClampNeg).toInt := congrArg Int32.toInt e261
                                have w261 := mi_h hI (x := k0) (by omega) (by omega) e261
                                refine lv_isub hx hb dX10_keep_262 ?_
                                refine lv_topi (fun v262 e262 => ?_)
                                have i262 : v262.toInt = v255.toInt - v261.toInt := by rw [e262]; exact fb_subI (by omega) (by omega)
                                refine m_iald (w := (r 5)) hx hb hK hP 4 rfl (vp_in_iff.mpr ⟨by omega, by omega⟩) dX10_keep_263 ?_
                                refine lv_topi (fun v263 e263 => ?_)
                                have i263 : v263.toInt = ((r 5) v262.toNatClampNeg).toInt := congrArg Int32.toInt e263
                                refine lv_i2l (v := v263.toInt64) hx hb dX10_keep_264 rfl ?_
                                refine m_last (w := s3) hx hb hK hP hD hS 21 rfl (vp_in_iff.mpr ⟨by omega, by omega⟩) (va_up (va_up q 33 s3) 33 (vp_updL s3 v198.toNatClampNeg v263.toInt64)) (ms_33 cy mo a _ _ _ _ _) dX10_keep_265 (fun H locs hP hS => ?_)
                                have hP := wm_eq rfl rfl rfl (es_q_33__33 q s3 (vp_updL s3 v198.toNatClampNeg v263.toInt64)) hP
                                refine lv_iinc (v := (nI (i + 1))) (lv' := [(7, .int (nI (i + 1))), (6, .int (1 : Int32)), (0, .ref mo), (1, .int d), (2, .int what), (3, .int k0), (4, .long p0)]) hx hb dX10_keep_266 hl (k := 0) rfl (nI_1 _) (by decide) rfl (fun ls hl => ?_)
                                refine lv_goto (tgt := 177) hx hb dX10_keep_269 (by decide) ?_
                                have hP := wm_eq rfl rfl (ec_r_29_30_31_32__29_30_31_32 r ((upd (r 29) d.toNatClampNeg what)) ((upd (r 30) d.toNatClampNeg v131)) ((upd (r 31) d.toNatClampNeg r149)) ((upd (r 32) d.toNatClampNeg k0))) rfl hP
                                exact ih_177 (i + 1) (vp_updL s3 v198.toNatClampNeg v263.toInt64) (by omega) (by omega) _ _ hP hS ls (lv_sub hl [0, 1, 2, 3, 4, 5, 6] rfl)
                              · skip
                                have d223 := c223
                                rw [fa_le] at d223
                                refine lv_aload_n hx hb dX10_keep_226 rfl (lv_at hl 2 rfl) ?_
                                refine m_get (v := .ref (a 5)) hx hb hts hin hown hK hP 5 (by decide) rfl (hts (.fieldLink RX10 19 "ShadowBenchModel" "sums" "[I") (by decide +kernel)) rfl dX10_keep_227 ?_
                                refine lv_bipush (v := 44) hx hb dX10_keep_230 (by decide) ?_
                                refine lv_iload_n hx hb dX10_keep_232 rfl (lv_at hl 5 rfl) ?_
                                refine lv_imul hx hb dX10_keep_233 ?_
                                refine lv_topi (fun v233 e233 => ?_)
                                have i233 : v233.toInt = 44 * k0.toInt := by rw [e233]; exact mulcL rfl (by omega) (by omega)
                                refine lv_iload hx hb dX10_keep_234 (lv_at hl 0 rfl) ?_
                                refine lv_iadd hx hb dX10_keep_236 ?_
                                refine lv_topi (fun v236 e236 => ?_)
                                have i236 : v236.toInt = v233.toInt + (nI i).toInt := by rw [e236]; exact fb_addI (by omega) (by omega)
                                refine m_iald (w := (r 5)) hx hb hK hP 4 rfl (vp_in_iff.mpr ⟨by omega, by omega⟩) dX10_keep_237 ?_
                                refine lv_topi (fun v237 e237 => ?_)
                                have i237 : v237.toInt = ((r 5) v236.toNatClampNeg).toInt := congrArg Int32.toInt e237
                                refine lv_i2l (v := v237.toInt64) hx hb dX10_keep_238 rfl ?_
                                refine lv_goto (tgt := 265) hx hb dX10_keep_239 (by decide) ?_
                                refine m_last (w := s3) hx hb hK hP hD hS 21 rfl (vp_in_iff.mpr ⟨by omega, by omega⟩) (va_up (va_up q 33 s3) 33 (vp_updL s3 v198.toNatClampNeg v237.toInt64)) (ms_33 cy mo a _ _ _ _ _) dX10_keep_265 (fun H locs hP hS => ?_)
                                have hP := wm_eq rfl rfl rfl (es_q_33__33 q s3 (vp_updL s3 v198.toNatClampNeg v237.toInt64)) hP
                                refine lv_iinc (v := (nI (i + 1))) (lv' := [(7, .int (nI (i + 1))), (6, .int (1 : Int32)), (0, .ref mo), (1, .int d), (2, .int what), (3, .int k0), (4, .long p0)]) hx hb dX10_keep_266 hl (k := 0) rfl (nI_1 _) (by decide) rfl (fun ls hl => ?_)
                                refine lv_goto (tgt := 177) hx hb dX10_keep_269 (by decide) ?_
                                have hP := wm_eq rfl rfl (ec_r_29_30_31_32__29_30_31_32 r ((upd (r 29) d.toNatClampNeg what)) ((upd (r 30) d.toNatClampNeg v131)) ((upd (r 31) d.toNatClampNeg r149)) ((upd (r 32) d.toNatClampNeg k0))) rfl hP
                                exact ih_177 (i + 1) (vp_updL s3 v198.toNatClampNeg v237.toInt64) (by omega) (by omega) _ _ hP hS ls (lv_sub hl [0, 1, 2, 3, 4, 5, 6] rfl)
                            · first | exact absurd c201 c95 | exact absurd c95 c201
                      have hP := wm_eq rfl rfl (ec_r_29_30_31_32__29_30_31_32 r ((upd (r 29) d.toNatClampNeg what)) ((upd (r 30) d.toNatClampNeg v131)) ((upd (r 31) d.toNatClampNeg r149)) ((upd (r 32) d.toNatClampNeg k0))) (ec_q___33 q ) hP
                      exact loop_177 (60 + 1) 0 (q 33) (by omega) (by omega) _ _ hP hS ls (lv_sub hl [0, 1, 2, 3, 4, 5, 6] rfl)
                    · skip
                      have d164 := c164
                      rw [fa_eq] at d164
                      refine lv_bipush (v := (-15)) hx hb dX10_keep_167 (by decide) ?_
                      refine lv_goto (tgt := 173) hx hb dX10_keep_169 (by decide) ?_
                      refine m_iast (w := (r 32)) hx hb hK hP hD hS 20 rfl (vp_in_iff.mpr ⟨by omega, by omega⟩) (va_up (va_up (va_up (va_up r 29 ((upd (r 29) d.toNatClampNeg what))) 30 ((upd (r 30) d.toNatClampNeg v131))) 31 ((upd (r 31) d.toNatClampNeg r149))) 32 (upd (r 32) d.toNatClampNeg (((-15) : Int32)))) (ms_32 cy mo a _ _ _ _ _) dX10_keep_173 (fun H locs hP hS => ?_)
                      refine lv_iconst (v := 0) hx hb dX10_keep_174 (by decide) ?_
                      refine lv_istore (lv' := [(7, .int (0 : Int32)), (6, .int (1 : Int32)), (0, .ref mo), (1, .int d), (2, .int what), (3, .int k0), (4, .long p0)]) hx hb dX10_keep_175 hl (by decide) rfl (fun ls hl => ?_)
                      have loop_177 : ∀ (n : Nat) (i : Nat) (s3 : Nat → Int64), (i ≤ 60) → 60 - i < n → ∀ (H : Heap) (locs : List Loc), va_P D vwCl (WM cy mo a (upd f 0 (0 : Int32)) g (va_up (va_up (va_up (va_up r 29 ((upd (r 29) d.toNatClampNeg what))) 30 ((upd (r 30) d.toNatClampNeg v131))) 31 ((upd (r 31) d.toNatClampNeg r149))) 32 ((upd (r 32) d.toNatClampNeg (((-15) : Int32))))) (va_up q 33 s3)) H → va_S (AM mo a) s.heap H locs → ∀ (ls : Array Slot), lv_has ls 8 [(7, .int (nI i)), (6, .int (1 : Int32)), (0, .ref mo), (1, .int d), (2, .int what), (3, .int k0), (4, .long p0)] → W p l e (headSpec wsX10_keep ({ frames := 3, cells := 0, slots := 0, locals := 69 })).room s m #[Value.ref mo, Value.int d, Value.int what, Value.int k0, Value.long p0] below meth c H locs 0 0 (MQ below (va_Qi (fun r0 u => ∃ (sh : Nat → Int32), ∃ (sz : Nat → Int32), ∃ (sw : Nat → Int32), ∃ (sf : Nat → Int32), ∃ (sr : Nat → Int64), u = ((upd f 0 (0 : Int32)), g, (va_up (va_up (va_up (va_up r 29 sh) 30 sz) 31 sw) 32 sf), (va_up q 33 sr)) ∧ (MI (upd f 0 (0 : Int32)) (va_up (va_up (va_up (va_up r 29 sh) 30 sz) 31 sw) 32 sf))) (mB D cy mo a) (AM mo a)) #[Value.ref mo, Value.int d, Value.int what, Value.int k0, Value.long p0] s 0 0 (AM mo a)) (F0 m 177 ls []) := by
                        intro n
                        induction n with
                        | zero => intro i s3 j177_0 hn; exact absurd hn (Nat.not_lt_zero _)
                        | succ n ih_177 =>
                          intro i s3 j177_0 hn_177 H locs hP hS ls hl
                          have ii : (nI i).toInt = (i : Int) := nI_toInt (by omega)
                          refine lv_iload hx hb dX10_keep_177 (lv_at hl 0 rfl) ?_
                          refine lv_aload_n hx hb dX10_keep_179 rfl (lv_at hl 2 rfl) ?_
                          refine m_get (v := .ref (a 30)) hx hb hts hin hown hK hP 30 (by decide) rfl (hts (.fieldLink RX10 64 "ShadowBenchModel" "shelfSize" "[I") (by decide +kernel)) rfl dX10_keep_180 ?_
                          refine lv_iload_n hx hb dX10_keep_183 rfl (lv_at hl 3 rfl) ?_
                          refine m_iald (w := ((upd (r 30) d.toNatClampNeg v131))) hx hb hK hP 18 rfl (vp_in_iff.mpr ⟨by omega, by omega⟩) dX10_keep_184 ?_
                          refine lv_topi (fun v184 e184 => ?_)
                          have i184 : v184.toInt = (((upd (r 30) d.toNatClampNeg v131)) d.toNatClampNeg).toInt := congrArg Int32.toInt e184
                          have z184 := e184
                          simp only [upd, if_true] at z184
                          have y184 := congrArg Int32.toInt z184
                          refine lv_icmp_ge (tgt := 272) hx hb dX10_keep_185 (by decide) (fun c185 => ?_) (fun c185 => ?_)
                          · skip
                            have d185 := c185
                            rw [fa_le] at d185
                            refine lv_iconst (v := 0) hx hb dX10_keep_272 (by decide) ?_
                            have hP := wm_eq rfl rfl (ec_r_29_30_31_32__29_30_31_32 r ((upd (r 29) d.toNatClampNeg what)) ((upd (r 30) d.toNatClampNeg v131)) ((upd (r 31) d.toNatClampNeg r149)) ((upd (r 32) d.toNatClampNeg (((-15) : Int32))))) rfl hP
                            exact W.iret (v := (0 : Int32)) hx hb hr (fun t ht hW => ⟨⟨_, ((upd f 0 (0 : Int32)), g, (va_up (va_up (va_up (va_up r 29 (((upd (r 29) d.toNatClampNeg what)))) 30 (((upd (r 30) d.toNatClampNeg v131)))) 31 (((upd (r 31) d.toNatClampNeg r149)))) 32 (((upd (r 32) d.toNatClampNeg (((-15) : Int32)))))), (va_up q 33 s3)), rfl, ⟨((upd (r 29) d.toNatClampNeg what)), ((upd (r 30) d.toNatClampNeg v131)), ((upd (r 31) d.toNatClampNeg r149)), ((upd (r 32) d.toNatClampNeg (((-15) : Int32)))), s3, rfl, by first | exact hI | exact mi_sz (d := d) hI (v := v110) (by omega) rfl rfl rfl rfl rfl rfl rfl rfl | exact mi_sz (d := d) hI (v := v131) (by omega) rfl rfl rfl rfl rfl rfl rfl rfl | exact mi_sz (d := d) hI (v := 0) (by decide) rfl rfl rfl rfl rfl rfl rfl rfl⟩, by unfold mB; rw [ht]; exact hP⟩, hS.F ht⟩) hS.2.2 dX10_keep_273
                          · skip
                            have d185 := c185
                            rw [fa_le] at d185
                            refine lv_aload_n hx hb dX10_keep_188 rfl (lv_at hl 2 rfl) ?_
                            refine m_get (v := .ref (a 33)) hx hb hts hin hown hK hP 33 (by decide) rfl (hts (.fieldLink RX10 73 "ShadowBenchModel" "shelfRow" "[J") (by decide +kernel)) rfl dX10_keep_189 ?_
                            refine lv_bipush (v := 60) hx hb dX10_keep_192 (by decide) ?_
                            refine lv_iload_n hx hb dX10_keep_194 rfl (lv_at hl 3 rfl) ?_
                            refine lv_imul hx hb dX10_keep_195 ?_
                            refine lv_topi (fun v195 e195 => ?_)
                            have i195 : v195.toInt = 60 * d.toInt := by rw [e195]; exact mulcL rfl (by omega) (by omega)
                            refine lv_iload hx hb dX10_keep_196 (lv_at hl 0 rfl) ?_
                            refine lv_iadd hx hb dX10_keep_198 ?_
                            refine lv_topi (fun v198 e198 => ?_)
                            have i198 : v198.toInt = v195.toInt + (nI i).toInt := by rw [e198]; exact fb_addI (by omega) (by omega)
                            refine lv_iload_n hx hb dX10_keep_199 rfl (lv_at hl 4 rfl) ?_
                            refine lv_iconst (v := 3) hx hb dX10_keep_200 (by decide) ?_
                            refine lv_icmp_ne (tgt := 215) hx hb dX10_keep_201 (by decide) (fun c201 => ?_) (fun c201 => ?_)
                            · skip
                              have d201 := c201
                              rw [fa_eq] at d201
                              refine lv_iload hx hb dX10_keep_215 (lv_at hl 0 rfl) ?_
                              refine lv_aload_n hx hb dX10_keep_217 rfl (lv_at hl 2 rfl) ?_
                              refine m_get (v := .ref (a 4)) hx hb hts hin hown hK hP 4 (by decide) rfl (hts (.fieldLink RX10 16 "ShadowBenchModel" "high" "[I") (by decide +kernel)) rfl dX10_keep_218 ?_
                              refine lv_iload_n hx hb dX10_keep_221 rfl (lv_at hl 5 rfl) ?_
                              refine m_iald (w := (r 4)) hx hb hK hP 3 rfl (vp_in_iff.mpr ⟨by omega, by omega⟩) dX10_keep_222 ?_
                              refine lv_topi (fun v222 e222 => ?_)
                              have i222 : v222.toInt = ((r 4) k0.toNatClampNeg).toInt := congrArg Int32.toInt e222
                              have w222 := mi_h hI (x := k0) (by omega) (by omega) e222
                              refine lv_icmp_ge (tgt := 242) hx hb dX10_keep_223 (by decide) (fun c223 => ?_) (fun c223 => ?_)
                              · skip
                                have d223 := c223
                                rw [fa_le] at d223
                                refine lv_aload_n hx hb dX10_keep_242 rfl (lv_at hl 2 rfl) ?_
                                refine m_get (v := .ref (a 5)) hx hb hts hin hown hK hP 5 (by decide) rfl (hts (.fieldLink RX10 19 "ShadowBenchModel" "sums" "[I") (by decide +kernel)) rfl dX10_keep_243 ?_
                                refine lv_bipush (v := 44) hx hb dX10_keep_246 (by decide) ?_
                                refine lv_iload_n hx hb dX10_keep_248 rfl (lv_at hl 5 rfl) ?_
                                refine lv_imul hx hb dX10_keep_249 ?_
                                refine lv_topi (fun v249 e249 => ?_)
                                have i249 : v249.toInt = 44 * k0.toInt := by rw [e249]; exact mulcL rfl (by omega) (by omega)
                                refine lv_bipush (v := 11) hx hb dX10_keep_250 (by decide) ?_
                                refine lv_iadd hx hb dX10_keep_252 ?_
                                refine lv_topi (fun v252 e252 => ?_)
                                have i252 : v252.toInt = v249.toInt + (11 : Int32).toInt := by rw [e252]; exact fb_addI (by omega) (by omega)
                                refine lv_iload hx hb dX10_keep_253 (lv_at hl 0 rfl) ?_
                                refine lv_iadd hx hb dX10_keep_255 ?_
                                refine lv_topi (fun v255 e255 => ?_)
                                have i255 : v255.toInt = v252.toInt + (nI i).toInt := by rw [e255]; exact fb_addI (by omega) (by omega)
                                refine lv_aload_n hx hb dX10_keep_256 rfl (lv_at hl 2 rfl) ?_
                                refine m_get (v := .ref (a 4)) hx hb hts hin hown hK hP 4 (by decide) rfl (hts (.fieldLink RX10 16 "ShadowBenchModel" "high" "[I") (by decide +kernel)) rfl dX10_keep_257 ?_
                                refine lv_iload_n hx hb dX10_keep_260 rfl (lv_at hl 5 rfl) ?_
                                refine m_iald (w := (r 4)) hx hb hK hP 3 rfl (vp_in_iff.mpr ⟨by omega, by omega⟩) dX10_keep_261 ?_
                                refine lv_topi (fun v261 e261 => ?_)
                                have i261 : v261.toInt = ((r 4) k0.toNatClampNeg).toInt := congrArg Int32.toInt e261
                                have w261 := mi_h hI (x := k0) (by omega) (by omega) e261
                                refine lv_isub hx hb dX10_keep_262 ?_
                                refine lv_topi (fun v262 e262 => ?_)
                                have i262 : v262.toInt = v255.toInt - v261.toInt := by rw [e262]; exact fb_subI (by omega) (by omega)
                                refine m_iald (w := (r 5)) hx hb hK hP 4 rfl (vp_in_iff.mpr ⟨by omega, by omega⟩) dX10_keep_263 ?_
                                refine lv_topi (fun v263 e263 => ?_)
                                have i263 : v263.toInt = ((r 5) v262.toNatClampNeg).toInt := congrArg Int32.toInt e263
                                refine lv_i2l (v := v263.toInt64) hx hb dX10_keep_264 rfl ?_
                                refine m_last (w := s3) hx hb hK hP hD hS 21 rfl (vp_in_iff.mpr ⟨by omega, by omega⟩) (va_up (va_up q 33 s3) 33 (vp_updL s3 v198.toNatClampNeg v263.toInt64)) (ms_33 cy mo a _ _ _ _ _) dX10_keep_265 (fun H locs hP hS => ?_)
                                have hP := wm_eq rfl rfl rfl (es_q_33__33 q s3 (vp_updL s3 v198.toNatClampNeg v263.toInt64)) hP
                                refine lv_iinc (v := (nI (i + 1))) (lv' := [(7, .int (nI (i + 1))), (6, .int (1 : Int32)), (0, .ref mo), (1, .int d), (2, .int what), (3, .int k0), (4, .long p0)]) hx hb dX10_keep_266 hl (k := 0) rfl (nI_1 _) (by decide) rfl (fun ls hl => ?_)
                                refine lv_goto (tgt := 177) hx hb dX10_keep_269 (by decide) ?_
                                have hP := wm_eq rfl rfl (ec_r_29_30_31_32__29_30_31_32 r ((upd (r 29) d.toNatClampNeg what)) ((upd (r 30) d.toNatClampNeg v131)) ((upd (r 31) d.toNatClampNeg r149)) ((upd (r 32) d.toNatClampNeg (((-15) : Int32))))) rfl hP
                                exact ih_177 (i + 1) (vp_updL s3 v198.toNatClampNeg v263.toInt64) (by omega) (by omega) _ _ hP hS ls (lv_sub hl [0, 1, 2, 3, 4, 5, 6] rfl)
                              · skip
                                have d223 := c223
                                rw [fa_le] at d223
                                refine lv_aload_n hx hb dX10_keep_226 rfl (lv_at hl 2 rfl) ?_
                                refine m_get (v := .ref (a 5)) hx hb hts hin hown hK hP 5 (by decide) rfl (hts (.fieldLink RX10 19 "ShadowBenchModel" "sums" "[I") (by decide +kernel)) rfl dX10_keep_227 ?_
                                refine lv_bipush (v := 44) hx hb dX10_keep_230 (by decide) ?_
                                refine lv_iload_n hx hb dX10_keep_232 rfl (lv_at hl 5 rfl) ?_
                                refine lv_imul hx hb dX10_keep_233 ?_
                                refine lv_topi (fun v233 e233 => ?_)
                                have i233 : v233.toInt = 44 * k0.toInt := by rw [e233]; exact mulcL rfl (by omega) (by omega)
                                refine lv_iload hx hb dX10_keep_234 (lv_at hl 0 rfl) ?_
                                refine lv_iadd hx hb dX10_keep_236 ?_
                                refine lv_topi (fun v236 e236 => ?_)
                                have i236 : v236.toInt = v233.toInt + (nI i).toInt := by rw [e236]; exact fb_addI (by omega) (by omega)
                                refine m_iald (w := (r 5)) hx hb hK hP 4 rfl (vp_in_iff.mpr ⟨by omega, by omega⟩) dX10_keep_237 ?_
                                refine lv_topi (fun v237 e237 => ?_)
                                have i237 : v237.toInt = ((r 5) v236.toNatClampNeg).toInt := congrArg Int32.toInt e237
                                refine lv_i2l (v := v237.toInt64) hx hb dX10_keep_238 rfl ?_
                                refine lv_goto (tgt := 265) hx hb dX10_keep_239 (by decide) ?_
                                refine m_last (w := s3) hx hb hK hP hD hS 21 rfl (vp_in_iff.mpr ⟨by omega, by omega⟩) (va_up (va_up q 33 s3) 33 (vp_updL s3 v198.toNatClampNeg v237.toInt64)) (ms_33 cy mo a _ _ _ _ _) dX10_keep_265 (fun H locs hP hS => ?_)
                                have hP := wm_eq rfl rfl rfl (es_q_33__33 q s3 (vp_updL s3 v198.toNatClampNeg v237.toInt64)) hP
                                refine lv_iinc (v := (nI (i + 1))) (lv' := [(7, .int (nI (i + 1))), (6, .int (1 : Int32)), (0, .ref mo), (1, .int d), (2, .int what), (3, .int k0), (4, .long p0)]) hx hb dX10_keep_266 hl (k := 0) rfl (nI_1 _) (by decide) rfl (fun ls hl => ?_)
                                refine lv_goto (tgt := 177) hx hb dX10_keep_269 (by decide) ?_
                                have hP := wm_eq rfl rfl (ec_r_29_30_31_32__29_30_31_32 r ((upd (r 29) d.toNatClampNeg what)) ((upd (r 30) d.toNatClampNeg v131)) ((upd (r 31) d.toNatClampNeg r149)) ((upd (r 32) d.toNatClampNeg (((-15) : Int32))))) rfl hP
                                exact ih_177 (i + 1) (vp_updL s3 v198.toNatClampNeg v237.toInt64) (by omega) (by omega) _ _ hP hS ls (lv_sub hl [0, 1, 2, 3, 4, 5, 6] rfl)
                            · first | exact absurd c201 c95 | exact absurd c95 c201
                      have hP := wm_eq rfl rfl (ec_r_29_30_31_32__29_30_31_32 r ((upd (r 29) d.toNatClampNeg what)) ((upd (r 30) d.toNatClampNeg v131)) ((upd (r 31) d.toNatClampNeg r149)) ((upd (r 32) d.toNatClampNeg (((-15) : Int32))))) (ec_q___33 q ) hP
                      exact loop_177 (60 + 1) 0 (q 33) (by omega) (by omega) _ _ hP hS ls (lv_sub hl [0, 1, 2, 3, 4, 5, 6] rfl)
              · skip
                have d95 := c95
                rw [fa_eq] at d95
                refine lv_aload_n hx hb dX10_keep_98 rfl (lv_at hl 1 rfl) ?_
                refine m_get (v := .ref (a 3)) hx hb hts hin hown hK hP 3 (by decide) rfl (hts (.fieldLink RX10 13 "ShadowBenchModel" "wide" "[I") (by decide +kernel)) rfl dX10_keep_99 ?_
                refine lv_iload_n hx hb dX10_keep_102 rfl (lv_at hl 4 rfl) ?_
                refine m_iald (w := (r 3)) hx hb hK hP 2 rfl (vp_in_iff.mpr ⟨by omega, by omega⟩) dX10_keep_103 ?_
                refine lv_topi (fun v103 e103 => ?_)
                have i103 : v103.toInt = ((r 3) k0.toNatClampNeg).toInt := congrArg Int32.toInt e103
                have w103 := mi_w hI (x := k0) (by omega) (by omega) e103
                refine lv_aload_n hx hb dX10_keep_104 rfl (lv_at hl 1 rfl) ?_
                refine m_get (v := .ref (a 4)) hx hb hts hin hown hK hP 4 (by decide) rfl (hts (.fieldLink RX10 16 "ShadowBenchModel" "high" "[I") (by decide +kernel)) rfl dX10_keep_105 ?_
                refine lv_iload_n hx hb dX10_keep_108 rfl (lv_at hl 4 rfl) ?_
                refine m_iald (w := (r 4)) hx hb hK hP 3 rfl (vp_in_iff.mpr ⟨by omega, by omega⟩) dX10_keep_109 ?_
                refine lv_topi (fun v109 e109 => ?_)
                have i109 : v109.toInt = ((r 4) k0.toNatClampNeg).toInt := congrArg Int32.toInt e109
                have w109 := mi_h hI (x := k0) (by omega) (by omega) e109
                have m110 := mul66 w103 w109
                refine lv_imul hx hb dX10_keep_110 ?_
                refine lv_topi (fun v110 e110 => ?_)
                have i110 : v110.toInt = v103.toInt * v109.toInt := by rw [e110]; exact fb_mulI (by omega) (by omega)
                refine lv_goto (tgt := 136) hx hb dX10_keep_111 (by decide) ?_
                refine m_iast (w := (r 30)) hx hb hK hP hD hS 18 rfl (vp_in_iff.mpr ⟨by omega, by omega⟩) (va_up (va_up r 29 ((upd (r 29) d.toNatClampNeg what))) 30 (upd (r 30) d.toNatClampNeg v110)) (ms_30 cy mo a _ _ _ _ _) dX10_keep_136 (fun H locs hP hS => ?_)
                refine lv_iload_n hx hb dX10_keep_137 rfl (lv_at hl 3 rfl) ?_
                refine lv_iconst (v := 1) hx hb dX10_keep_138 (by decide) ?_
                refine lv_icmp_ne (tgt := 174) hx hb dX10_keep_139 (by decide) (fun c139 => ?_) (fun c139 => ?_)
                · skip
                  have d139 := c139
                  rw [fa_eq] at d139
                  refine lv_iconst (v := 0) hx hb dX10_keep_174 (by decide) ?_
                  refine lv_istore (lv' := [(7, .int (0 : Int32)), (6, .int (1 : Int32)), (0, .ref mo), (1, .int d), (2, .int what), (3, .int k0), (4, .long p0)]) hx hb dX10_keep_175 hl (by decide) rfl (fun ls hl => ?_)
                  have loop_177 : ∀ (n : Nat) (i : Nat) (s3 : Nat → Int64), (i ≤ 60) → 60 - i < n → ∀ (H : Heap) (locs : List Loc), va_P D vwCl (WM cy mo a (upd f 0 (0 : Int32)) g (va_up (va_up r 29 ((upd (r 29) d.toNatClampNeg what))) 30 ((upd (r 30) d.toNatClampNeg v110))) (va_up q 33 s3)) H → va_S (AM mo a) s.heap H locs → ∀ (ls : Array Slot), lv_has ls 8 [(7, .int (nI i)), (6, .int (1 : Int32)), (0, .ref mo), (1, .int d), (2, .int what), (3, .int k0), (4, .long p0)] → W p l e (headSpec wsX10_keep ({ frames := 3, cells := 0, slots := 0, locals := 69 })).room s m #[Value.ref mo, Value.int d, Value.int what, Value.int k0, Value.long p0] below meth c H locs 0 0 (MQ below (va_Qi (fun r0 u => ∃ (sh : Nat → Int32), ∃ (sz : Nat → Int32), ∃ (sw : Nat → Int32), ∃ (sf : Nat → Int32), ∃ (sr : Nat → Int64), u = ((upd f 0 (0 : Int32)), g, (va_up (va_up (va_up (va_up r 29 sh) 30 sz) 31 sw) 32 sf), (va_up q 33 sr)) ∧ (MI (upd f 0 (0 : Int32)) (va_up (va_up (va_up (va_up r 29 sh) 30 sz) 31 sw) 32 sf))) (mB D cy mo a) (AM mo a)) #[Value.ref mo, Value.int d, Value.int what, Value.int k0, Value.long p0] s 0 0 (AM mo a)) (F0 m 177 ls []) := by
                    intro n
                    induction n with
                    | zero => intro i s3 j177_0 hn; exact absurd hn (Nat.not_lt_zero _)
                    | succ n ih_177 =>
                      intro i s3 j177_0 hn_177 H locs hP hS ls hl
                      have ii : (nI i).toInt = (i : Int) := nI_toInt (by omega)
                      refine lv_iload hx hb dX10_keep_177 (lv_at hl 0 rfl) ?_
                      refine lv_aload_n hx hb dX10_keep_179 rfl (lv_at hl 2 rfl) ?_
                      refine m_get (v := .ref (a 30)) hx hb hts hin hown hK hP 30 (by decide) rfl (hts (.fieldLink RX10 64 "ShadowBenchModel" "shelfSize" "[I") (by decide +kernel)) rfl dX10_keep_180 ?_
                      refine lv_iload_n hx hb dX10_keep_183 rfl (lv_at hl 3 rfl) ?_
                      refine m_iald (w := ((upd (r 30) d.toNatClampNeg v110))) hx hb hK hP 18 rfl (vp_in_iff.mpr ⟨by omega, by omega⟩) dX10_keep_184 ?_
                      refine lv_topi (fun v184 e184 => ?_)
                      have i184 : v184.toInt = (((upd (r 30) d.toNatClampNeg v110)) d.toNatClampNeg).toInt := congrArg Int32.toInt e184
                      have z184 := e184
                      simp only [upd, if_true] at z184
                      have y184 := congrArg Int32.toInt z184
                      refine lv_icmp_ge (tgt := 272) hx hb dX10_keep_185 (by decide) (fun c185 => ?_) (fun c185 => ?_)
                      · skip
                        have d185 := c185
                        rw [fa_le] at d185
                        refine lv_iconst (v := 0) hx hb dX10_keep_272 (by decide) ?_
                        have hP := wm_eq rfl rfl (ec_r_29_30__29_30_31_32 r ((upd (r 29) d.toNatClampNeg what)) ((upd (r 30) d.toNatClampNeg v110))) rfl hP
                        exact W.iret (v := (0 : Int32)) hx hb hr (fun t ht hW => ⟨⟨_, ((upd f 0 (0 : Int32)), g, (va_up (va_up (va_up (va_up r 29 (((upd (r 29) d.toNatClampNeg what)))) 30 (((upd (r 30) d.toNatClampNeg v110)))) 31 (r 31)) 32 (r 32)), (va_up q 33 s3)), rfl, ⟨((upd (r 29) d.toNatClampNeg what)), ((upd (r 30) d.toNatClampNeg v110)), (r 31), (r 32), s3, rfl, by first | exact hI | exact mi_sz (d := d) hI (v := v110) (by omega) rfl rfl rfl rfl rfl rfl rfl rfl | exact mi_sz (d := d) hI (v := v131) (by omega) rfl rfl rfl rfl rfl rfl rfl rfl | exact mi_sz (d := d) hI (v := 0) (by decide) rfl rfl rfl rfl rfl rfl rfl rfl⟩, by unfold mB; rw [ht]; exact hP⟩, hS.F ht⟩) hS.2.2 dX10_keep_273
                      · skip
                        have d185 := c185
                        rw [fa_le] at d185
                        refine lv_aload_n hx hb dX10_keep_188 rfl (lv_at hl 2 rfl) ?_
                        refine m_get (v := .ref (a 33)) hx hb hts hin hown hK hP 33 (by decide) rfl (hts (.fieldLink RX10 73 "ShadowBenchModel" "shelfRow" "[J") (by decide +kernel)) rfl dX10_keep_189 ?_
                        refine lv_bipush (v := 60) hx hb dX10_keep_192 (by decide) ?_
                        refine lv_iload_n hx hb dX10_keep_194 rfl (lv_at hl 3 rfl) ?_
                        refine lv_imul hx hb dX10_keep_195 ?_
                        refine lv_topi (fun v195 e195 => ?_)
                        have i195 : v195.toInt = 60 * d.toInt := by rw [e195]; exact mulcL rfl (by omega) (by omega)
                        refine lv_iload hx hb dX10_keep_196 (lv_at hl 0 rfl) ?_
                        refine lv_iadd hx hb dX10_keep_198 ?_
                        refine lv_topi (fun v198 e198 => ?_)
                        have i198 : v198.toInt = v195.toInt + (nI i).toInt := by rw [e198]; exact fb_addI (by omega) (by omega)
                        refine lv_iload_n hx hb dX10_keep_199 rfl (lv_at hl 4 rfl) ?_
                        refine lv_iconst (v := 3) hx hb dX10_keep_200 (by decide) ?_
                        refine lv_icmp_ne (tgt := 215) hx hb dX10_keep_201 (by decide) (fun c201 => ?_) (fun c201 => ?_)
                        · first | exact absurd c201 c95 | exact absurd c95 c201
                        · skip
                          have d201 := c201
                          rw [fa_eq] at d201
                          refine lv_lload hx hb dX10_keep_204 (lv_at hl 6 rfl) ?_
                          refine lv_iload hx hb dX10_keep_206 (lv_at hl 0 rfl) ?_
                          refine m_pu (As := [.long p0, .int (nI i)]) (rest := [.int v198, .ref (a 33)]) ⟨hx, hb, hml, hown, hts⟩ (c_X10_one l p0 (nI i) ) (va_cwS 2 hts gX10_keep_X10_one rfl rfl rfl (by decide +kernel) ⟨Nat.le_of_ble_eq_true rfl, Nat.le_of_ble_eq_true rfl⟩) hP rfl hl.1 rfl (Nat.le_of_ble_eq_true rfl) dX10_keep_208 ⟨Nat.le_of_ble_eq_true rfl, Nat.le_of_ble_eq_true rfl⟩ hS (fun r208 H locs q208 hP hS => ?_)
                          have i208 : r208.toInt = (r_one p0 (nI i)).toInt := congrArg Int32.toInt q208
                          refine lv_i2l (v := r208.toInt64) hx hb dX10_keep_211 rfl ?_
                          refine lv_goto (tgt := 265) hx hb dX10_keep_212 (by decide) ?_
                          refine m_last (w := s3) hx hb hK hP hD hS 21 rfl (vp_in_iff.mpr ⟨by omega, by omega⟩) (va_up (va_up q 33 s3) 33 (vp_updL s3 v198.toNatClampNeg r208.toInt64)) (ms_33 cy mo a _ _ _ _ _) dX10_keep_265 (fun H locs hP hS => ?_)
                          have hP := wm_eq rfl rfl rfl (es_q_33__33 q s3 (vp_updL s3 v198.toNatClampNeg r208.toInt64)) hP
                          refine lv_iinc (v := (nI (i + 1))) (lv' := [(7, .int (nI (i + 1))), (6, .int (1 : Int32)), (0, .ref mo), (1, .int d), (2, .int what), (3, .int k0), (4, .long p0)]) hx hb dX10_keep_266 hl (k := 0) rfl (nI_1 _) (by decide) rfl (fun ls hl => ?_)
                          refine lv_goto (tgt := 177) hx hb dX10_keep_269 (by decide) ?_
                          have hP := wm_eq rfl rfl (ec_r_29_30__29_30 r ((upd (r 29) d.toNatClampNeg what)) ((upd (r 30) d.toNatClampNeg v110))) rfl hP
                          exact ih_177 (i + 1) (vp_updL s3 v198.toNatClampNeg r208.toInt64) (by omega) (by omega) _ _ hP hS ls (lv_sub hl [0, 1, 2, 3, 4, 5, 6] rfl)
                  have hP := wm_eq rfl rfl (ec_r_29_30__29_30 r ((upd (r 29) d.toNatClampNeg what)) ((upd (r 30) d.toNatClampNeg v110))) (ec_q___33 q ) hP
                  exact loop_177 (60 + 1) 0 (q 33) (by omega) (by omega) _ _ hP hS ls (lv_sub hl [0, 1, 2, 3, 4, 5, 6] rfl)
                · skip
                  have d139 := c139
                  rw [fa_eq] at d139
                  refine lv_aload_n hx hb dX10_keep_142 rfl (lv_at hl 1 rfl) ?_
                  refine m_get (v := .ref (a 31)) hx hb hts hin hown hK hP 31 (by decide) rfl (hts (.fieldLink RX10 67 "ShadowBenchModel" "shelfWeight" "[I") (by decide +kernel)) rfl dX10_keep_143 ?_
                  refine lv_iload_n hx hb dX10_keep_146 rfl (lv_at hl 2 rfl) ?_
                  refine lv_aload_n hx hb dX10_keep_147 rfl (lv_at hl 1 rfl) ?_
                  refine lv_iload_n hx hb dX10_keep_148 rfl (lv_at hl 4 rfl) ?_
                  refine m_calli (As := [.int k0]) (rest := [.int d, .ref (a 31)]) ⟨hx, hb, hml, hown, hts⟩ (c_X10_weightOf l D cy mo a (upd f 0 (0 : Int32)) g (va_up (va_up r 29 ((upd (r 29) d.toNatClampNeg what))) 30 ((upd (r 30) d.toNatClampNeg v110))) q k0 hD (by first | exact hI | exact mi_sz (d := d) hI (v := 0) (by first | omega | decide) rfl rfl rfl rfl rfl rfl rfl rfl | exact mi_sz (d := d) hI (v := v131) (by first | omega | decide) rfl rfl rfl rfl rfl rfl rfl rfl | exact mi_sz (d := d) hI (v := v110) (by first | omega | decide) rfl rfl rfl rfl rfl rfl rfl rfl) (show 0 ≤ k0.toInt ∧ k0.toInt < (f 1).toInt by omega)) (cwV 1 hts gX10_keep_X10_weightOf rfl rfl rfl (by decide +kernel) ⟨Nat.le_of_ble_eq_true rfl, Nat.le_of_ble_eq_true rfl⟩) hK hP rfl hl.1 rfl (Nat.le_of_ble_eq_true rfl) dX10_keep_149 ⟨Nat.le_of_ble_eq_true rfl, Nat.le_of_ble_eq_true rfl⟩ hS (fun r149 u H locs q149 hP hS => ?_)
                  obtain ⟨rfl, q149⟩ := q149
                  have hP : va_P D vwCl (WM cy mo a (upd f 0 (0 : Int32)) g (va_up (va_up r 29 ((upd (r 29) d.toNatClampNeg what))) 30 ((upd (r 30) d.toNatClampNeg v110))) q) H := hP
                  have q149 : True := q149
                  refine m_iast (w := (r 31)) hx hb hK hP hD hS 19 rfl (vp_in_iff.mpr ⟨by omega, by omega⟩) (va_up (va_up (va_up r 29 ((upd (r 29) d.toNatClampNeg what))) 30 ((upd (r 30) d.toNatClampNeg v110))) 31 (upd (r 31) d.toNatClampNeg r149)) (ms_31 cy mo a _ _ _ _ _) dX10_keep_152 (fun H locs hP hS => ?_)
                  refine lv_aload_n hx hb dX10_keep_153 rfl (lv_at hl 1 rfl) ?_
                  refine m_get (v := .ref (a 32)) hx hb hts hin hown hK hP 32 (by decide) rfl (hts (.fieldLink RX10 70 "ShadowBenchModel" "shelfFailure" "[I") (by decide +kernel)) rfl dX10_keep_154 ?_
                  refine lv_iload_n hx hb dX10_keep_157 rfl (lv_at hl 2 rfl) ?_
                  refine lv_aload_n hx hb dX10_keep_158 rfl (lv_at hl 1 rfl) ?_
                  refine m_get (v := .ref (a 2)) hx hb hts hin hown hK hP 2 (by decide) rfl (hts (.fieldLink RX10 7 "ShadowBenchModel" "kind" "[I") (by decide +kernel)) rfl dX10_keep_159 ?_
                  refine lv_iload_n hx hb dX10_keep_162 rfl (lv_at hl 4 rfl) ?_
                  refine m_iald (w := (r 2)) hx hb hK hP 1 rfl (vp_in_iff.mpr ⟨by omega, by omega⟩) dX10_keep_163 ?_
                  refine lv_topi (fun v163 e163 => ?_)
                  have i163 : v163.toInt = ((r 2) k0.toNatClampNeg).toInt := congrArg Int32.toInt e163
                  refine lv_if_ne (tgt := 172) hx hb dX10_keep_164 (by decide) (fun c164 => ?_) (fun c164 => ?_)
                  · skip
                    have d164 := c164
                    rw [fa_eq] at d164
                    refine lv_iload_n hx hb dX10_keep_172 rfl (lv_at hl 4 rfl) ?_
                    refine m_iast (w := (r 32)) hx hb hK hP hD hS 20 rfl (vp_in_iff.mpr ⟨by omega, by omega⟩) (va_up (va_up (va_up (va_up r 29 ((upd (r 29) d.toNatClampNeg what))) 30 ((upd (r 30) d.toNatClampNeg v110))) 31 ((upd (r 31) d.toNatClampNeg r149))) 32 (upd (r 32) d.toNatClampNeg k0)) (ms_32 cy mo a _ _ _ _ _) dX10_keep_173 (fun H locs hP hS => ?_)
                    refine lv_iconst (v := 0) hx hb dX10_keep_174 (by decide) ?_
                    refine lv_istore (lv' := [(7, .int (0 : Int32)), (6, .int (1 : Int32)), (0, .ref mo), (1, .int d), (2, .int what), (3, .int k0), (4, .long p0)]) hx hb dX10_keep_175 hl (by decide) rfl (fun ls hl => ?_)
                    have loop_177 : ∀ (n : Nat) (i : Nat) (s3 : Nat → Int64), (i ≤ 60) → 60 - i < n → ∀ (H : Heap) (locs : List Loc), va_P D vwCl (WM cy mo a (upd f 0 (0 : Int32)) g (va_up (va_up (va_up (va_up r 29 ((upd (r 29) d.toNatClampNeg what))) 30 ((upd (r 30) d.toNatClampNeg v110))) 31 ((upd (r 31) d.toNatClampNeg r149))) 32 ((upd (r 32) d.toNatClampNeg k0))) (va_up q 33 s3)) H → va_S (AM mo a) s.heap H locs → ∀ (ls : Array Slot), lv_has ls 8 [(7, .int (nI i)), (6, .int (1 : Int32)), (0, .ref mo), (1, .int d), (2, .int what), (3, .int k0), (4, .long p0)] → W p l e (headSpec wsX10_keep ({ frames := 3, cells := 0, slots := 0, locals := 69 })).room s m #[Value.ref mo, Value.int d, Value.int what, Value.int k0, Value.long p0] below meth c H locs 0 0 (MQ below (va_Qi (fun r0 u => ∃ (sh : Nat → Int32), ∃ (sz : Nat → Int32), ∃ (sw : Nat → Int32), ∃ (sf : Nat → Int32), ∃ (sr : Nat → Int64), u = ((upd f 0 (0 : Int32)), g, (va_up (va_up (va_up (va_up r 29 sh) 30 sz) 31 sw) 32 sf), (va_up q 33 sr)) ∧ (MI (upd f 0 (0 : Int32)) (va_up (va_up (va_up (va_up r 29 sh) 30 sz) 31 sw) 32 sf))) (mB D cy mo a) (AM mo a)) #[Value.ref mo, Value.int d, Value.int what, Value.int k0, Value.long p0] s 0 0 (AM mo a)) (F0 m 177 ls []) := by
                      intro n
                      induction n with
                      | zero => intro i s3 j177_0 hn; exact absurd hn (Nat.not_lt_zero _)
                      | succ n ih_177 =>
                        intro i s3 j177_0 hn_177 H locs hP hS ls hl
                        have ii : (nI i).toInt = (i : Int) := nI_toInt (by omega)
                        refine lv_iload hx hb dX10_keep_177 (lv_at hl 0 rfl) ?_
                        refine lv_aload_n hx hb dX10_keep_179 rfl (lv_at hl 2 rfl) ?_
                        refine m_get (v := .ref (a 30)) hx hb hts hin hown hK hP 30 (by decide) rfl (hts (.fieldLink RX10 64 "ShadowBenchModel" "shelfSize" "[I") (by decide +kernel)) rfl dX10_keep_180 ?_
                        refine lv_iload_n hx hb dX10_keep_183 rfl (lv_at hl 3 rfl) ?_
                        refine m_iald (w := ((upd (r 30) d.toNatClampNeg v110))) hx hb hK hP 18 rfl (vp_in_iff.mpr ⟨by omega, by omega⟩) dX10_keep_184 ?_
                        refine lv_topi (fun v184 e184 => ?_)
                        have i184 : v184.toInt = (((upd (r 30) d.toNatClampNeg v110)) d.toNatClampNeg).toInt := congrArg Int32.toInt e184
                        have z184 := e184
                        simp only [upd, if_true] at z184
                        have y184 := congrArg Int32.toInt z184
                        refine lv_icmp_ge (tgt := 272) hx hb dX10_keep_185 (by decide) (fun c185 => ?_) (fun c185 => ?_)
                        · skip
                          have d185 := c185
                          rw [fa_le] at d185
                          refine lv_iconst (v := 0) hx hb dX10_keep_272 (by decide) ?_
                          have hP := wm_eq rfl rfl (ec_r_29_30_31_32__29_30_31_32 r ((upd (r 29) d.toNatClampNeg what)) ((upd (r 30) d.toNatClampNeg v110)) ((upd (r 31) d.toNatClampNeg r149)) ((upd (r 32) d.toNatClampNeg k0))) rfl hP
                          exact W.iret (v := (0 : Int32)) hx hb hr (fun t ht hW => ⟨⟨_, ((upd f 0 (0 : Int32)), g, (va_up (va_up (va_up (va_up r 29 (((upd (r 29) d.toNatClampNeg what)))) 30 (((upd (r 30) d.toNatClampNeg v110)))) 31 (((upd (r 31) d.toNatClampNeg r149)))) 32 (((upd (r 32) d.toNatClampNeg k0)))), (va_up q 33 s3)), rfl, ⟨((upd (r 29) d.toNatClampNeg what)), ((upd (r 30) d.toNatClampNeg v110)), ((upd (r 31) d.toNatClampNeg r149)), ((upd (r 32) d.toNatClampNeg k0)), s3, rfl, by first | exact hI | exact mi_sz (d := d) hI (v := v110) (by omega) rfl rfl rfl rfl rfl rfl rfl rfl | exact mi_sz (d := d) hI (v := v131) (by omega) rfl rfl rfl rfl rfl rfl rfl rfl | exact mi_sz (d := d) hI (v := 0) (by decide) rfl rfl rfl rfl rfl rfl rfl rfl⟩, by unfold mB; rw [ht]; exact hP⟩, hS.F ht⟩) hS.2.2 dX10_keep_273
                        · skip
                          have d185 := c185
                          rw [fa_le] at d185
                          refine lv_aload_n hx hb dX10_keep_188 rfl (lv_at hl 2 rfl) ?_
                          refine m_get (v := .ref (a 33)) hx hb hts hin hown hK hP 33 (by decide) rfl (hts (.fieldLink RX10 73 "ShadowBenchModel" "shelfRow" "[J") (by decide +kernel)) rfl dX10_keep_189 ?_
                          refine lv_bipush (v := 60) hx hb dX10_keep_192 (by decide) ?_
                          refine lv_iload_n hx hb dX10_keep_194 rfl (lv_at hl 3 rfl) ?_
                          refine lv_imul hx hb dX10_keep_195 ?_
                          refine lv_topi (fun v195 e195 => ?_)
                          have i195 : v195.toInt = 60 * d.toInt := by rw [e195]; exact mulcL rfl (by omega) (by omega)
                          refine lv_iload hx hb dX10_keep_196 (lv_at hl 0 rfl) ?_
                          refine lv_iadd hx hb dX10_keep_198 ?_
                          refine lv_topi (fun v198 e198 => ?_)
                          have i198 : v198.toInt = v195.toInt + (nI i).toInt := by rw [e198]; exact fb_addI (by omega) (by omega)
                          refine lv_iload_n hx hb dX10_keep_199 rfl (lv_at hl 4 rfl) ?_
                          refine lv_iconst (v := 3) hx hb dX10_keep_200 (by decide) ?_
                          refine lv_icmp_ne (tgt := 215) hx hb dX10_keep_201 (by decide) (fun c201 => ?_) (fun c201 => ?_)
                          · first | exact absurd c201 c95 | exact absurd c95 c201
                          · skip
                            have d201 := c201
                            rw [fa_eq] at d201
                            refine lv_lload hx hb dX10_keep_204 (lv_at hl 6 rfl) ?_
                            refine lv_iload hx hb dX10_keep_206 (lv_at hl 0 rfl) ?_
                            refine m_pu (As := [.long p0, .int (nI i)]) (rest := [.int v198, .ref (a 33)]) ⟨hx, hb, hml, hown, hts⟩ (c_X10_one l p0 (nI i) ) (va_cwS 2 hts gX10_keep_X10_one rfl rfl rfl (by decide +kernel) ⟨Nat.le_of_ble_eq_true rfl, Nat.le_of_ble_eq_true rfl⟩) hP rfl hl.1 rfl (Nat.le_of_ble_eq_true rfl) dX10_keep_208 ⟨Nat.le_of_ble_eq_true rfl, Nat.le_of_ble_eq_true rfl⟩ hS (fun r208 H locs q208 hP hS => ?_)
                            have i208 : r208.toInt = (r_one p0 (nI i)).toInt := congrArg Int32.toInt q208
                            refine lv_i2l (v := r208.toInt64) hx hb dX10_keep_211 rfl ?_
                            refine lv_goto (tgt := 265) hx hb dX10_keep_212 (by decide) ?_
                            refine m_last (w := s3) hx hb hK hP hD hS 21 rfl (vp_in_iff.mpr ⟨by omega, by omega⟩) (va_up (va_up q 33 s3) 33 (vp_updL s3 v198.toNatClampNeg r208.toInt64)) (ms_33 cy mo a _ _ _ _ _) dX10_keep_265 (fun H locs hP hS => ?_)
                            have hP := wm_eq rfl rfl rfl (es_q_33__33 q s3 (vp_updL s3 v198.toNatClampNeg r208.toInt64)) hP
                            refine lv_iinc (v := (nI (i + 1))) (lv' := [(7, .int (nI (i + 1))), (6, .int (1 : Int32)), (0, .ref mo), (1, .int d), (2, .int what), (3, .int k0), (4, .long p0)]) hx hb dX10_keep_266 hl (k := 0) rfl (nI_1 _) (by decide) rfl (fun ls hl => ?_)
                            refine lv_goto (tgt := 177) hx hb dX10_keep_269 (by decide) ?_
                            have hP := wm_eq rfl rfl (ec_r_29_30_31_32__29_30_31_32 r ((upd (r 29) d.toNatClampNeg what)) ((upd (r 30) d.toNatClampNeg v110)) ((upd (r 31) d.toNatClampNeg r149)) ((upd (r 32) d.toNatClampNeg k0))) rfl hP
                            exact ih_177 (i + 1) (vp_updL s3 v198.toNatClampNeg r208.toInt64) (by omega) (by omega) _ _ hP hS ls (lv_sub hl [0, 1, 2, 3, 4, 5, 6] rfl)
                    have hP := wm_eq rfl rfl (ec_r_29_30_31_32__29_30_31_32 r ((upd (r 29) d.toNatClampNeg what)) ((upd (r 30) d.toNatClampNeg v110)) ((upd (r 31) d.toNatClampNeg r149)) ((upd (r 32) d.toNatClampNeg k0))) (ec_q___33 q ) hP
                    exact loop_177 (60 + 1) 0 (q 33) (by omega) (by omega) _ _ hP hS ls (lv_sub hl [0, 1, 2, 3, 4, 5, 6] rfl)
                  · skip
                    have d164 := c164
                    rw [fa_eq] at d164
                    refine lv_bipush (v := (-15)) hx hb dX10_keep_167 (by decide) ?_
                    refine lv_goto (tgt := 173) hx hb dX10_keep_169 (by decide) ?_
                    refine m_iast (w := (r 32)) hx hb hK hP hD hS 20 rfl (vp_in_iff.mpr ⟨by omega, by omega⟩) (va_up (va_up (va_up (va_up r 29 ((upd (r 29) d.toNatClampNeg what))) 30 ((upd (r 30) d.toNatClampNeg v110))) 31 ((upd (r 31) d.toNatClampNeg r149))) 32 (upd (r 32) d.toNatClampNeg (((-15) : Int32)))) (ms_32 cy mo a _ _ _ _ _) dX10_keep_173 (fun H locs hP hS => ?_)
                    refine lv_iconst (v := 0) hx hb dX10_keep_174 (by decide) ?_
                    refine lv_istore (lv' := [(7, .int (0 : Int32)), (6, .int (1 : Int32)), (0, .ref mo), (1, .int d), (2, .int what), (3, .int k0), (4, .long p0)]) hx hb dX10_keep_175 hl (by decide) rfl (fun ls hl => ?_)
                    have loop_177 : ∀ (n : Nat) (i : Nat) (s3 : Nat → Int64), (i ≤ 60) → 60 - i < n → ∀ (H : Heap) (locs : List Loc), va_P D vwCl (WM cy mo a (upd f 0 (0 : Int32)) g (va_up (va_up (va_up (va_up r 29 ((upd (r 29) d.toNatClampNeg what))) 30 ((upd (r 30) d.toNatClampNeg v110))) 31 ((upd (r 31) d.toNatClampNeg r149))) 32 ((upd (r 32) d.toNatClampNeg (((-15) : Int32))))) (va_up q 33 s3)) H → va_S (AM mo a) s.heap H locs → ∀ (ls : Array Slot), lv_has ls 8 [(7, .int (nI i)), (6, .int (1 : Int32)), (0, .ref mo), (1, .int d), (2, .int what), (3, .int k0), (4, .long p0)] → W p l e (headSpec wsX10_keep ({ frames := 3, cells := 0, slots := 0, locals := 69 })).room s m #[Value.ref mo, Value.int d, Value.int what, Value.int k0, Value.long p0] below meth c H locs 0 0 (MQ below (va_Qi (fun r0 u => ∃ (sh : Nat → Int32), ∃ (sz : Nat → Int32), ∃ (sw : Nat → Int32), ∃ (sf : Nat → Int32), ∃ (sr : Nat → Int64), u = ((upd f 0 (0 : Int32)), g, (va_up (va_up (va_up (va_up r 29 sh) 30 sz) 31 sw) 32 sf), (va_up q 33 sr)) ∧ (MI (upd f 0 (0 : Int32)) (va_up (va_up (va_up (va_up r 29 sh) 30 sz) 31 sw) 32 sf))) (mB D cy mo a) (AM mo a)) #[Value.ref mo, Value.int d, Value.int what, Value.int k0, Value.long p0] s 0 0 (AM mo a)) (F0 m 177 ls []) := by
                      intro n
                      induction n with
                      | zero => intro i s3 j177_0 hn; exact absurd hn (Nat.not_lt_zero _)
                      | succ n ih_177 =>
                        intro i s3 j177_0 hn_177 H locs hP hS ls hl
                        have ii : (nI i).toInt = (i : Int) := nI_toInt (by omega)
                        refine lv_iload hx hb dX10_keep_177 (lv_at hl 0 rfl) ?_
                        refine lv_aload_n hx hb dX10_keep_179 rfl (lv_at hl 2 rfl) ?_
                        refine m_get (v := .ref (a 30)) hx hb hts hin hown hK hP 30 (by decide) rfl (hts (.fieldLink RX10 64 "ShadowBenchModel" "shelfSize" "[I") (by decide +kernel)) rfl dX10_keep_180 ?_
                        refine lv_iload_n hx hb dX10_keep_183 rfl (lv_at hl 3 rfl) ?_
                        refine m_iald (w := ((upd (r 30) d.toNatClampNeg v110))) hx hb hK hP 18 rfl (vp_in_iff.mpr ⟨by omega, by omega⟩) dX10_keep_184 ?_
                        refine lv_topi (fun v184 e184 => ?_)
                        have i184 : v184.toInt = (((upd (r 30) d.toNatClampNeg v110)) d.toNatClampNeg).toInt := congrArg Int32.toInt e184
                        have z184 := e184
                        simp only [upd, if_true] at z184
                        have y184 := congrArg Int32.toInt z184
                        refine lv_icmp_ge (tgt := 272) hx hb dX10_keep_185 (by decide) (fun c185 => ?_) (fun c185 => ?_)
                        · skip
                          have d185 := c185
                          rw [fa_le] at d185
                          refine lv_iconst (v := 0) hx hb dX10_keep_272 (by decide) ?_
                          have hP := wm_eq rfl rfl (ec_r_29_30_31_32__29_30_31_32 r ((upd (r 29) d.toNatClampNeg what)) ((upd (r 30) d.toNatClampNeg v110)) ((upd (r 31) d.toNatClampNeg r149)) ((upd (r 32) d.toNatClampNeg (((-15) : Int32))))) rfl hP
                          exact W.iret (v := (0 : Int32)) hx hb hr (fun t ht hW => ⟨⟨_, ((upd f 0 (0 : Int32)), g, (va_up (va_up (va_up (va_up r 29 (((upd (r 29) d.toNatClampNeg what)))) 30 (((upd (r 30) d.toNatClampNeg v110)))) 31 (((upd (r 31) d.toNatClampNeg r149)))) 32 (((upd (r 32) d.toNatClampNeg (((-15) : Int32)))))), (va_up q 33 s3)), rfl, ⟨((upd (r 29) d.toNatClampNeg what)), ((upd (r 30) d.toNatClampNeg v110)), ((upd (r 31) d.toNatClampNeg r149)), ((upd (r 32) d.toNatClampNeg (((-15) : Int32)))), s3, rfl, by first | exact hI | exact mi_sz (d := d) hI (v := v110) (by omega) rfl rfl rfl rfl rfl rfl rfl rfl | exact mi_sz (d := d) hI (v := v131) (by omega) rfl rfl rfl rfl rfl rfl rfl rfl | exact mi_sz (d := d) hI (v := 0) (by decide) rfl rfl rfl rfl rfl rfl rfl rfl⟩, by unfold mB; rw [ht]; exact hP⟩, hS.F ht⟩) hS.2.2 dX10_keep_273
                        · skip
                          have d185 := c185
                          rw [fa_le] at d185
                          refine lv_aload_n hx hb dX10_keep_188 rfl (lv_at hl 2 rfl) ?_
                          refine m_get (v := .ref (a 33)) hx hb hts hin hown hK hP 33 (by decide) rfl (hts (.fieldLink RX10 73 "ShadowBenchModel" "shelfRow" "[J") (by decide +kernel)) rfl dX10_keep_189 ?_
                          refine lv_bipush (v := 60) hx hb dX10_keep_192 (by decide) ?_
                          refine lv_iload_n hx hb dX10_keep_194 rfl (lv_at hl 3 rfl) ?_
                          refine lv_imul hx hb dX10_keep_195 ?_
                          refine lv_topi (fun v195 e195 => ?_)
                          have i195 : v195.toInt = 60 * d.toInt := by rw [e195]; exact mulcL rfl (by omega) (by omega)
                          refine lv_iload hx hb dX10_keep_196 (lv_at hl 0 rfl) ?_
                          refine lv_iadd hx hb dX10_keep_198 ?_
                          refine lv_topi (fun v198 e198 => ?_)
                          have i198 : v198.toInt = v195.toInt + (nI i).toInt := by rw [e198]; exact fb_addI (by omega) (by omega)
                          refine lv_iload_n hx hb dX10_keep_199 rfl (lv_at hl 4 rfl) ?_
                          refine lv_iconst (v := 3) hx hb dX10_keep_200 (by decide) ?_
                          refine lv_icmp_ne (tgt := 215) hx hb dX10_keep_201 (by decide) (fun c201 => ?_) (fun c201 => ?_)
                          · first | exact absurd c201 c95 | exact absurd c95 c201
                          · skip
                            have d201 := c201
                            rw [fa_eq] at d201
                            refine lv_lload hx hb dX10_keep_204 (lv_at hl 6 rfl) ?_
                            refine lv_iload hx hb dX10_keep_206 (lv_at hl 0 rfl) ?_
                            refine m_pu (As := [.long p0, .int (nI i)]) (rest := [.int v198, .ref (a 33)]) ⟨hx, hb, hml, hown, hts⟩ (c_X10_one l p0 (nI i) ) (va_cwS 2 hts gX10_keep_X10_one rfl rfl rfl (by decide +kernel) ⟨Nat.le_of_ble_eq_true rfl, Nat.le_of_ble_eq_true rfl⟩) hP rfl hl.1 rfl (Nat.le_of_ble_eq_true rfl) dX10_keep_208 ⟨Nat.le_of_ble_eq_true rfl, Nat.le_of_ble_eq_true rfl⟩ hS (fun r208 H locs q208 hP hS => ?_)
                            have i208 : r208.toInt = (r_one p0 (nI i)).toInt := congrArg Int32.toInt q208
                            refine lv_i2l (v := r208.toInt64) hx hb dX10_keep_211 rfl ?_
                            refine lv_goto (tgt := 265) hx hb dX10_keep_212 (by decide) ?_
                            refine m_last (w := s3) hx hb hK hP hD hS 21 rfl (vp_in_iff.mpr ⟨by omega, by omega⟩) (va_up (va_up q 33 s3) 33 (vp_updL s3 v198.toNatClampNeg r208.toInt64)) (ms_33 cy mo a _ _ _ _ _) dX10_keep_265 (fun H locs hP hS => ?_)
                            have hP := wm_eq rfl rfl rfl (es_q_33__33 q s3 (vp_updL s3 v198.toNatClampNeg r208.toInt64)) hP
                            refine lv_iinc (v := (nI (i + 1))) (lv' := [(7, .int (nI (i + 1))), (6, .int (1 : Int32)), (0, .ref mo), (1, .int d), (2, .int what), (3, .int k0), (4, .long p0)]) hx hb dX10_keep_266 hl (k := 0) rfl (nI_1 _) (by decide) rfl (fun ls hl => ?_)
                            refine lv_goto (tgt := 177) hx hb dX10_keep_269 (by decide) ?_
                            have hP := wm_eq rfl rfl (ec_r_29_30_31_32__29_30_31_32 r ((upd (r 29) d.toNatClampNeg what)) ((upd (r 30) d.toNatClampNeg v110)) ((upd (r 31) d.toNatClampNeg r149)) ((upd (r 32) d.toNatClampNeg (((-15) : Int32))))) rfl hP
                            exact ih_177 (i + 1) (vp_updL s3 v198.toNatClampNeg r208.toInt64) (by omega) (by omega) _ _ hP hS ls (lv_sub hl [0, 1, 2, 3, 4, 5, 6] rfl)
                    have hP := wm_eq rfl rfl (ec_r_29_30_31_32__29_30_31_32 r ((upd (r 29) d.toNatClampNeg what)) ((upd (r 30) d.toNatClampNeg v110)) ((upd (r 31) d.toNatClampNeg r149)) ((upd (r 32) d.toNatClampNeg (((-15) : Int32))))) (ec_q___33 q ) hP
                    exact loop_177 (60 + 1) 0 (q 33) (by omega) (by omega) _ _ hP hS ls (lv_sub hl [0, 1, 2, 3, 4, 5, 6] rfl)
            · first | exact absurd c76 (by decide) | exact absurd (by decide) c76
          · skip
            have b31 := bo_f q28 c31
            refine lv_iload_n hx hb dX10_keep_34 rfl (lv_at hl 2 rfl) ?_
            refine lv_iconst (v := 3) hx hb dX10_keep_35 (by decide) ?_
            refine lv_icmp_ne (tgt := 71) hx hb dX10_keep_36 (by decide) (fun c36 => ?_) (fun c36 => ?_)
            · skip
              have d36 := c36
              rw [fa_eq] at d36
              refine lv_iconst (v := 0) hx hb dX10_keep_71 (by decide) ?_
              refine lv_istore (lv' := [(6, .int (0 : Int32)), (0, .ref mo), (1, .int d), (2, .int what), (3, .int k0), (4, .long p0)]) hx hb dX10_keep_72 hl (by decide) rfl (fun ls hl => ?_)
              refine lv_iload hx hb dX10_keep_74 (lv_at hl 0 rfl) ?_
              refine lv_if_ne (tgt := 81) hx hb dX10_keep_76 (by decide) (fun c76 => ?_) (fun c76 => ?_)
              · first | exact absurd c76 (by decide) | exact absurd (by decide) c76
              · skip
                have d76 := c76
                rw [fa_eq] at d76
                refine lv_iconst (v := (-1)) hx hb dX10_keep_79 (by decide) ?_
                have hP := wm_eq rfl rfl (ec_r___29_30_31_32 r ) (ec_q___33 q ) hP
                exact W.iret (v := ((-1) : Int32)) hx hb hr (fun t ht hW => ⟨⟨_, ((upd f 0 (0 : Int32)), g, (va_up (va_up (va_up (va_up r 29 (r 29)) 30 (r 30)) 31 (r 31)) 32 (r 32)), (va_up q 33 (q 33))), rfl, ⟨(r 29), (r 30), (r 31), (r 32), (q 33), rfl, by first | exact hI | exact mi_sz (d := d) hI (v := v110) (by omega) rfl rfl rfl rfl rfl rfl rfl rfl | exact mi_sz (d := d) hI (v := v131) (by omega) rfl rfl rfl rfl rfl rfl rfl rfl | exact mi_sz (d := d) hI (v := 0) (by decide) rfl rfl rfl rfl rfl rfl rfl rfl⟩, by unfold mB; rw [ht]; exact hP⟩, hS.F ht⟩) hS.2.2 dX10_keep_80
            · skip
              have d36 := c36
              rw [fa_eq] at d36
              refine lv_aload_n hx hb dX10_keep_39 rfl (lv_at hl 0 rfl) ?_
              refine lv_iload_n hx hb dX10_keep_40 rfl (lv_at hl 3 rfl) ?_
              refine m_calli (As := [.int k0]) (rest := []) ⟨hx, hb, hml, hown, hts⟩ (c_X10_isJob l D cy mo a (upd f 0 (0 : Int32)) g r q k0 hD) (cwV 1 hts gX10_keep_X10_isJob rfl rfl rfl (by decide +kernel) ⟨Nat.le_of_ble_eq_true rfl, Nat.le_of_ble_eq_true rfl⟩) hK hP rfl hl.1 rfl (Nat.le_of_ble_eq_true rfl) dX10_keep_41 ⟨Nat.le_of_ble_eq_true rfl, Nat.le_of_ble_eq_true rfl⟩ hS (fun r41 u H locs q41 hP hS => ?_)
              obtain ⟨rfl, q41⟩ := q41
              have hP : va_P D vwCl (WM cy mo a (upd f 0 (0 : Int32)) g r q) H := hP
              have q41 : Bo r41 (0 ≤ k0.toInt ∧ k0.toInt < ((f 1)).toInt) := q41
              refine lv_if_eq (tgt := 71) hx hb dX10_keep_44 (by decide) (fun c44 => ?_) (fun c44 => ?_)
              · skip
                have b44 := bo_f q41 c44
                refine lv_iconst (v := 0) hx hb dX10_keep_71 (by decide) ?_
                refine lv_istore (lv' := [(6, .int (0 : Int32)), (0, .ref mo), (1, .int d), (2, .int what), (3, .int k0), (4, .long p0)]) hx hb dX10_keep_72 hl (by decide) rfl (fun ls hl => ?_)
                refine lv_iload hx hb dX10_keep_74 (lv_at hl 0 rfl) ?_
                refine lv_if_ne (tgt := 81) hx hb dX10_keep_76 (by decide) (fun c76 => ?_) (fun c76 => ?_)
                · first | exact absurd c76 (by decide) | exact absurd (by decide) c76
                · skip
                  have d76 := c76
                  rw [fa_eq] at d76
                  refine lv_iconst (v := (-1)) hx hb dX10_keep_79 (by decide) ?_
                  have hP := wm_eq rfl rfl (ec_r___29_30_31_32 r ) (ec_q___33 q ) hP
                  exact W.iret (v := ((-1) : Int32)) hx hb hr (fun t ht hW => ⟨⟨_, ((upd f 0 (0 : Int32)), g, (va_up (va_up (va_up (va_up r 29 (r 29)) 30 (r 30)) 31 (r 31)) 32 (r 32)), (va_up q 33 (q 33))), rfl, ⟨(r 29), (r 30), (r 31), (r 32), (q 33), rfl, by first | exact hI | exact mi_sz (d := d) hI (v := v110) (by omega) rfl rfl rfl rfl rfl rfl rfl rfl | exact mi_sz (d := d) hI (v := v131) (by omega) rfl rfl rfl rfl rfl rfl rfl rfl | exact mi_sz (d := d) hI (v := 0) (by decide) rfl rfl rfl rfl rfl rfl rfl rfl⟩, by unfold mB; rw [ht]; exact hP⟩, hS.F ht⟩) hS.2.2 dX10_keep_80
              · skip
                have b44 := bo_t q41 c44
                refine lv_aload_n hx hb dX10_keep_47 rfl (lv_at hl 0 rfl) ?_
                refine m_get (v := .ref (a 3)) hx hb hts hin hown hK hP 3 (by decide) rfl (hts (.fieldLink RX10 13 "ShadowBenchModel" "wide" "[I") (by decide +kernel)) rfl dX10_keep_48 ?_
                refine lv_iload_n hx hb dX10_keep_51 rfl (lv_at hl 3 rfl) ?_
                refine m_iald (w := (r 3)) hx hb hK hP 2 rfl (vp_in_iff.mpr ⟨by omega, by omega⟩) dX10_keep_52 ?_
                refine lv_topi (fun v52 e52 => ?_)
                have i52 : v52.toInt = ((r 3) k0.toNatClampNeg).toInt := congrArg Int32.toInt e52
                have w52 := mi_w hI (x := k0) (by omega) (by omega) e52
                refine lv_aload_n hx hb dX10_keep_53 rfl (lv_at hl 0 rfl) ?_
                refine m_get (v := .ref (a 4)) hx hb hts hin hown hK hP 4 (by decide) rfl (hts (.fieldLink RX10 16 "ShadowBenchModel" "high" "[I") (by decide +kernel)) rfl dX10_keep_54 ?_
                refine lv_iload_n hx hb dX10_keep_57 rfl (lv_at hl 3 rfl) ?_
                refine m_iald (w := (r 4)) hx hb hK hP 3 rfl (vp_in_iff.mpr ⟨by omega, by omega⟩) dX10_keep_58 ?_
                refine lv_topi (fun v58 e58 => ?_)
                have i58 : v58.toInt = ((r 4) k0.toNatClampNeg).toInt := congrArg Int32.toInt e58
                have w58 := mi_h hI (x := k0) (by omega) (by omega) e58
                refine lv_lload hx hb dX10_keep_59 (lv_at hl 4 rfl) ?_
                refine m_pu (As := [.int v52, .int v58, .long p0]) (rest := []) ⟨hx, hb, hml, hown, hts⟩ (c_X10_isPicture l v52 v58 p0 ) (va_cwS 3 hts gX10_keep_X10_isPicture rfl rfl rfl (by decide +kernel) ⟨Nat.le_of_ble_eq_true rfl, Nat.le_of_ble_eq_true rfl⟩) hP rfl hl.1 rfl (Nat.le_of_ble_eq_true rfl) dX10_keep_61 ⟨Nat.le_of_ble_eq_true rfl, Nat.le_of_ble_eq_true rfl⟩ hS (fun r61 H locs q61 hP hS => ?_)
                refine lv_if_eq (tgt := 71) hx hb dX10_keep_64 (by decide) (fun c64 => ?_) (fun c64 => ?_)
                · skip
                  have b64 := bo_f q61 c64
                  refine lv_iconst (v := 0) hx hb dX10_keep_71 (by decide) ?_
                  refine lv_istore (lv' := [(6, .int (0 : Int32)), (0, .ref mo), (1, .int d), (2, .int what), (3, .int k0), (4, .long p0)]) hx hb dX10_keep_72 hl (by decide) rfl (fun ls hl => ?_)
                  refine lv_iload hx hb dX10_keep_74 (lv_at hl 0 rfl) ?_
                  refine lv_if_ne (tgt := 81) hx hb dX10_keep_76 (by decide) (fun c76 => ?_) (fun c76 => ?_)
                  · first | exact absurd c76 (by decide) | exact absurd (by decide) c76
                  · skip
                    have d76 := c76
                    rw [fa_eq] at d76
                    refine lv_iconst (v := (-1)) hx hb dX10_keep_79 (by decide) ?_
                    have hP := wm_eq rfl rfl (ec_r___29_30_31_32 r ) (ec_q___33 q ) hP
                    exact W.iret (v := ((-1) : Int32)) hx hb hr (fun t ht hW => ⟨⟨_, ((upd f 0 (0 : Int32)), g, (va_up (va_up (va_up (va_up r 29 (r 29)) 30 (r 30)) 31 (r 31)) 32 (r 32)), (va_up q 33 (q 33))), rfl, ⟨(r 29), (r 30), (r 31), (r 32), (q 33), rfl, by first | exact hI | exact mi_sz (d := d) hI (v := v110) (by omega) rfl rfl rfl rfl rfl rfl rfl rfl | exact mi_sz (d := d) hI (v := v131) (by omega) rfl rfl rfl rfl rfl rfl rfl rfl | exact mi_sz (d := d) hI (v := 0) (by decide) rfl rfl rfl rfl rfl rfl rfl rfl⟩, by unfold mB; rw [ht]; exact hP⟩, hS.F ht⟩) hS.2.2 dX10_keep_80
                · skip
                  have b64 := bo_t q61 c64
                  refine lv_iconst (v := 1) hx hb dX10_keep_67 (by decide) ?_
                  refine lv_goto (tgt := 72) hx hb dX10_keep_68 (by decide) ?_
                  refine lv_istore (lv' := [(6, .int (1 : Int32)), (0, .ref mo), (1, .int d), (2, .int what), (3, .int k0), (4, .long p0)]) hx hb dX10_keep_72 hl (by decide) rfl (fun ls hl => ?_)
                  refine lv_iload hx hb dX10_keep_74 (lv_at hl 0 rfl) ?_
                  refine lv_if_ne (tgt := 81) hx hb dX10_keep_76 (by decide) (fun c76 => ?_) (fun c76 => ?_)
                  · skip
                    have d76 := c76
                    rw [fa_eq] at d76
                    refine lv_aload_n hx hb dX10_keep_81 rfl (lv_at hl 1 rfl) ?_
                    refine m_get (v := .ref (a 29)) hx hb hts hin hown hK hP 29 (by decide) rfl (hts (.fieldLink RX10 61 "ShadowBenchModel" "shelf" "[I") (by decide +kernel)) rfl dX10_keep_82 ?_
                    refine lv_iload_n hx hb dX10_keep_85 rfl (lv_at hl 2 rfl) ?_
                    refine lv_iload_n hx hb dX10_keep_86 rfl (lv_at hl 3 rfl) ?_
                    refine m_iast (w := (r 29)) hx hb hK hP hD hS 17 rfl (vp_in_iff.mpr ⟨by omega, by omega⟩) (va_up r 29 (upd (r 29) d.toNatClampNeg what)) (ms_29 cy mo a _ _ _ _ _) dX10_keep_87 (fun H locs hP hS => ?_)
                    refine lv_aload_n hx hb dX10_keep_88 rfl (lv_at hl 1 rfl) ?_
                    refine m_get (v := .ref (a 30)) hx hb hts hin hown hK hP 30 (by decide) rfl (hts (.fieldLink RX10 64 "ShadowBenchModel" "shelfSize" "[I") (by decide +kernel)) rfl dX10_keep_89 ?_
                    refine lv_iload_n hx hb dX10_keep_92 rfl (lv_at hl 2 rfl) ?_
                    refine lv_iload_n hx hb dX10_keep_93 rfl (lv_at hl 3 rfl) ?_
                    refine lv_iconst (v := 3) hx hb dX10_keep_94 (by decide) ?_
                    refine lv_icmp_ne (tgt := 114) hx hb dX10_keep_95 (by decide) (fun c95 => ?_) (fun c95 => ?_)
                    · first | exact absurd c95 c36 | exact absurd c36 c95
                    · skip
                      have d95 := c95
                      rw [fa_eq] at d95
                      refine lv_aload_n hx hb dX10_keep_98 rfl (lv_at hl 1 rfl) ?_
                      refine m_get (v := .ref (a 3)) hx hb hts hin hown hK hP 3 (by decide) rfl (hts (.fieldLink RX10 13 "ShadowBenchModel" "wide" "[I") (by decide +kernel)) rfl dX10_keep_99 ?_
                      refine lv_iload_n hx hb dX10_keep_102 rfl (lv_at hl 4 rfl) ?_
                      refine m_iald (w := (r 3)) hx hb hK hP 2 rfl (vp_in_iff.mpr ⟨by omega, by omega⟩) dX10_keep_103 ?_
                      refine lv_topi (fun v103 e103 => ?_)
                      have i103 : v103.toInt = ((r 3) k0.toNatClampNeg).toInt := congrArg Int32.toInt e103
                      have w103 := mi_w hI (x := k0) (by omega) (by omega) e103
                      refine lv_aload_n hx hb dX10_keep_104 rfl (lv_at hl 1 rfl) ?_
                      refine m_get (v := .ref (a 4)) hx hb hts hin hown hK hP 4 (by decide) rfl (hts (.fieldLink RX10 16 "ShadowBenchModel" "high" "[I") (by decide +kernel)) rfl dX10_keep_105 ?_
                      refine lv_iload_n hx hb dX10_keep_108 rfl (lv_at hl 4 rfl) ?_
                      refine m_iald (w := (r 4)) hx hb hK hP 3 rfl (vp_in_iff.mpr ⟨by omega, by omega⟩) dX10_keep_109 ?_
                      refine lv_topi (fun v109 e109 => ?_)
                      have i109 : v109.toInt = ((r 4) k0.toNatClampNeg).toInt := congrArg Int32.toInt e109
                      have w109 := mi_h hI (x := k0) (by omega) (by omega) e109
                      have m110 := mul66 w103 w109
                      refine lv_imul hx hb dX10_keep_110 ?_
                      refine lv_topi (fun v110 e110 => ?_)
                      have i110 : v110.toInt = v103.toInt * v109.toInt := by rw [e110]; exact fb_mulI (by omega) (by omega)
                      refine lv_goto (tgt := 136) hx hb dX10_keep_111 (by decide) ?_
                      refine m_iast (w := (r 30)) hx hb hK hP hD hS 18 rfl (vp_in_iff.mpr ⟨by omega, by omega⟩) (va_up (va_up r 29 ((upd (r 29) d.toNatClampNeg what))) 30 (upd (r 30) d.toNatClampNeg v110)) (ms_30 cy mo a _ _ _ _ _) dX10_keep_136 (fun H locs hP hS => ?_)
                      refine lv_iload_n hx hb dX10_keep_137 rfl (lv_at hl 3 rfl) ?_
                      refine lv_iconst (v := 1) hx hb dX10_keep_138 (by decide) ?_
                      refine lv_icmp_ne (tgt := 174) hx hb dX10_keep_139 (by decide) (fun c139 => ?_) (fun c139 => ?_)
                      · skip
                        have d139 := c139
                        rw [fa_eq] at d139
                        refine lv_iconst (v := 0) hx hb dX10_keep_174 (by decide) ?_
                        refine lv_istore (lv' := [(7, .int (0 : Int32)), (6, .int (1 : Int32)), (0, .ref mo), (1, .int d), (2, .int what), (3, .int k0), (4, .long p0)]) hx hb dX10_keep_175 hl (by decide) rfl (fun ls hl => ?_)
                        have loop_177 : ∀ (n : Nat) (i : Nat) (s3 : Nat → Int64), (i ≤ 60) → 60 - i < n → ∀ (H : Heap) (locs : List Loc), va_P D vwCl (WM cy mo a (upd f 0 (0 : Int32)) g (va_up (va_up r 29 ((upd (r 29) d.toNatClampNeg what))) 30 ((upd (r 30) d.toNatClampNeg v110))) (va_up q 33 s3)) H → va_S (AM mo a) s.heap H locs → ∀ (ls : Array Slot), lv_has ls 8 [(7, .int (nI i)), (6, .int (1 : Int32)), (0, .ref mo), (1, .int d), (2, .int what), (3, .int k0), (4, .long p0)] → W p l e (headSpec wsX10_keep ({ frames := 3, cells := 0, slots := 0, locals := 69 })).room s m #[Value.ref mo, Value.int d, Value.int what, Value.int k0, Value.long p0] below meth c H locs 0 0 (MQ below (va_Qi (fun r0 u => ∃ (sh : Nat → Int32), ∃ (sz : Nat → Int32), ∃ (sw : Nat → Int32), ∃ (sf : Nat → Int32), ∃ (sr : Nat → Int64), u = ((upd f 0 (0 : Int32)), g, (va_up (va_up (va_up (va_up r 29 sh) 30 sz) 31 sw) 32 sf), (va_up q 33 sr)) ∧ (MI (upd f 0 (0 : Int32)) (va_up (va_up (va_up (va_up r 29 sh) 30 sz) 31 sw) 32 sf))) (mB D cy mo a) (AM mo a)) #[Value.ref mo, Value.int d, Value.int what, Value.int k0, Value.long p0] s 0 0 (AM mo a)) (F0 m 177 ls []) := by
                          intro n
                          induction n with
                          | zero => intro i s3 j177_0 hn; exact absurd hn (Nat.not_lt_zero _)
                          | succ n ih_177 =>
                            intro i s3 j177_0 hn_177 H locs hP hS ls hl
                            have ii : (nI i).toInt = (i : Int) := nI_toInt (by omega)
                            refine lv_iload hx hb dX10_keep_177 (lv_at hl 0 rfl) ?_
                            refine lv_aload_n hx hb dX10_keep_179 rfl (lv_at hl 2 rfl) ?_
                            refine m_get (v := .ref (a 30)) hx hb hts hin hown hK hP 30 (by decide) rfl (hts (.fieldLink RX10 64 "ShadowBenchModel" "shelfSize" "[I") (by decide +kernel)) rfl dX10_keep_180 ?_
                            refine lv_iload_n hx hb dX10_keep_183 rfl (lv_at hl 3 rfl) ?_
                            refine m_iald (w := ((upd (r 30) d.toNatClampNeg v110))) hx hb hK hP 18 rfl (vp_in_iff.mpr ⟨by omega, by omega⟩) dX10_keep_184 ?_
                            refine lv_topi (fun v184 e184 => ?_)
                            have i184 : v184.toInt = (((upd (r 30) d.toNatClampNeg v110)) d.toNatClampNeg).toInt := congrArg Int32.toInt e184
                            have z184 := e184
                            simp only [upd, if_true] at z184
                            have y184 := congrArg Int32.toInt z184
                            refine lv_icmp_ge (tgt := 272) hx hb dX10_keep_185 (by decide) (fun c185 => ?_) (fun c185 => ?_)
                            · skip
                              have d185 := c185
                              rw [fa_le] at d185
                              refine lv_iconst (v := 0) hx hb dX10_keep_272 (by decide) ?_
                              have hP := wm_eq rfl rfl (ec_r_29_30__29_30_31_32 r ((upd (r 29) d.toNatClampNeg what)) ((upd (r 30) d.toNatClampNeg v110))) rfl hP
                              exact W.iret (v := (0 : Int32)) hx hb hr (fun t ht hW => ⟨⟨_, ((upd f 0 (0 : Int32)), g, (va_up (va_up (va_up (va_up r 29 (((upd (r 29) d.toNatClampNeg what)))) 30 (((upd (r 30) d.toNatClampNeg v110)))) 31 (r 31)) 32 (r 32)), (va_up q 33 s3)), rfl, ⟨((upd (r 29) d.toNatClampNeg what)), ((upd (r 30) d.toNatClampNeg v110)), (r 31), (r 32), s3, rfl, by first | exact hI | exact mi_sz (d := d) hI (v := v110) (by omega) rfl rfl rfl rfl rfl rfl rfl rfl | exact mi_sz (d := d) hI (v := v131) (by omega) rfl rfl rfl rfl rfl rfl rfl rfl | exact mi_sz (d := d) hI (v := 0) (by decide) rfl rfl rfl rfl rfl rfl rfl rfl⟩, by unfold mB; rw [ht]; exact hP⟩, hS.F ht⟩) hS.2.2 dX10_keep_273
                            · skip
                              have d185 := c185
                              rw [fa_le] at d185
                              refine lv_aload_n hx hb dX10_keep_188 rfl (lv_at hl 2 rfl) ?_
                              refine m_get (v := .ref (a 33)) hx hb hts hin hown hK hP 33 (by decide) rfl (hts (.fieldLink RX10 73 "ShadowBenchModel" "shelfRow" "[J") (by decide +kernel)) rfl dX10_keep_189 ?_
                              refine lv_bipush (v := 60) hx hb dX10_keep_192 (by decide) ?_
                              refine lv_iload_n hx hb dX10_keep_194 rfl (lv_at hl 3 rfl) ?_
                              refine lv_imul hx hb dX10_keep_195 ?_
                              refine lv_topi (fun v195 e195 => ?_)
                              have i195 : v195.toInt = 60 * d.toInt := by rw [e195]; exact mulcL rfl (by omega) (by omega)
                              refine lv_iload hx hb dX10_keep_196 (lv_at hl 0 rfl) ?_
                              refine lv_iadd hx hb dX10_keep_198 ?_
                              refine lv_topi (fun v198 e198 => ?_)
                              have i198 : v198.toInt = v195.toInt + (nI i).toInt := by rw [e198]; exact fb_addI (by omega) (by omega)
                              refine lv_iload_n hx hb dX10_keep_199 rfl (lv_at hl 4 rfl) ?_
                              refine lv_iconst (v := 3) hx hb dX10_keep_200 (by decide) ?_
                              refine lv_icmp_ne (tgt := 215) hx hb dX10_keep_201 (by decide) (fun c201 => ?_) (fun c201 => ?_)
                              · first | exact absurd c201 c95 | exact absurd c95 c201
                              · skip
                                have d201 := c201
                                rw [fa_eq] at d201
                                refine lv_lload hx hb dX10_keep_204 (lv_at hl 6 rfl) ?_
                                refine lv_iload hx hb dX10_keep_206 (lv_at hl 0 rfl) ?_
                                refine m_pu (As := [.long p0, .int (nI i)]) (rest := [.int v198, .ref (a 33)]) ⟨hx, hb, hml, hown, hts⟩ (c_X10_one l p0 (nI i) ) (va_cwS 2 hts gX10_keep_X10_one rfl rfl rfl (by decide +kernel) ⟨Nat.le_of_ble_eq_true rfl, Nat.le_of_ble_eq_true rfl⟩) hP rfl hl.1 rfl (Nat.le_of_ble_eq_true rfl) dX10_keep_208 ⟨Nat.le_of_ble_eq_true rfl, Nat.le_of_ble_eq_true rfl⟩ hS (fun r208 H locs q208 hP hS => ?_)
                                have i208 : r208.toInt = (r_one p0 (nI i)).toInt := congrArg Int32.toInt q208
                                refine lv_i2l (v := r208.toInt64) hx hb dX10_keep_211 rfl ?_
                                refine lv_goto (tgt := 265) hx hb dX10_keep_212 (by decide) ?_
                                refine m_last (w := s3) hx hb hK hP hD hS 21 rfl (vp_in_iff.mpr ⟨by omega, by omega⟩) (va_up (va_up q 33 s3) 33 (vp_updL s3 v198.toNatClampNeg r208.toInt64)) (ms_33 cy mo a _ _ _ _ _) dX10_keep_265 (fun H locs hP hS => ?_)
                                have hP := wm_eq rfl rfl rfl (es_q_33__33 q s3 (vp_updL s3 v198.toNatClampNeg r208.toInt64)) hP
                                refine lv_iinc (v := (nI (i + 1))) (lv' := [(7, .int (nI (i + 1))), (6, .int (1 : Int32)), (0, .ref mo), (1, .int d), (2, .int what), (3, .int k0), (4, .long p0)]) hx hb dX10_keep_266 hl (k := 0) rfl (nI_1 _) (by decide) rfl (fun ls hl => ?_)
                                refine lv_goto (tgt := 177) hx hb dX10_keep_269 (by decide) ?_
                                have hP := wm_eq rfl rfl (ec_r_29_30__29_30 r ((upd (r 29) d.toNatClampNeg what)) ((upd (r 30) d.toNatClampNeg v110))) rfl hP
                                exact ih_177 (i + 1) (vp_updL s3 v198.toNatClampNeg r208.toInt64) (by omega) (by omega) _ _ hP hS ls (lv_sub hl [0, 1, 2, 3, 4, 5, 6] rfl)
                        have hP := wm_eq rfl rfl (ec_r_29_30__29_30 r ((upd (r 29) d.toNatClampNeg what)) ((upd (r 30) d.toNatClampNeg v110))) (ec_q___33 q ) hP
                        exact loop_177 (60 + 1) 0 (q 33) (by omega) (by omega) _ _ hP hS ls (lv_sub hl [0, 1, 2, 3, 4, 5, 6] rfl)
                      · skip
                        have d139 := c139
                        rw [fa_eq] at d139
                        refine lv_aload_n hx hb dX10_keep_142 rfl (lv_at hl 1 rfl) ?_
                        refine m_get (v := .ref (a 31)) hx hb hts hin hown hK hP 31 (by decide) rfl (hts (.fieldLink RX10 67 "ShadowBenchModel" "shelfWeight" "[I") (by decide +kernel)) rfl dX10_keep_143 ?_
                        refine lv_iload_n hx hb dX10_keep_146 rfl (lv_at hl 2 rfl) ?_
                        refine lv_aload_n hx hb dX10_keep_147 rfl (lv_at hl 1 rfl) ?_
                        refine lv_iload_n hx hb dX10_keep_148 rfl (lv_at hl 4 rfl) ?_
                        refine m_calli (As := [.int k0]) (rest := [.int d, .ref (a 31)]) ⟨hx, hb, hml, hown, hts⟩ (c_X10_weightOf l D cy mo a (upd f 0 (0 : Int32)) g (va_up (va_up r 29 ((upd (r 29) d.toNatClampNeg what))) 30 ((upd (r 30) d.toNatClampNeg v110))) q k0 hD (by first | exact hI | exact mi_sz (d := d) hI (v := 0) (by first | omega | decide) rfl rfl rfl rfl rfl rfl rfl rfl | exact mi_sz (d := d) hI (v := v131) (by first | omega | decide) rfl rfl rfl rfl rfl rfl rfl rfl | exact mi_sz (d := d) hI (v := v110) (by first | omega | decide) rfl rfl rfl rfl rfl rfl rfl rfl) (show 0 ≤ k0.toInt ∧ k0.toInt < (f 1).toInt by omega)) (cwV 1 hts gX10_keep_X10_weightOf rfl rfl rfl (by decide +kernel) ⟨Nat.le_of_ble_eq_true rfl, Nat.le_of_ble_eq_true rfl⟩) hK hP rfl hl.1 rfl (Nat.le_of_ble_eq_true rfl) dX10_keep_149 ⟨Nat.le_of_ble_eq_true rfl, Nat.le_of_ble_eq_true rfl⟩ hS (fun r149 u H locs q149 hP hS => ?_)
                        obtain ⟨rfl, q149⟩ := q149
                        have hP : va_P D vwCl (WM cy mo a (upd f 0 (0 : Int32)) g (va_up (va_up r 29 ((upd (r 29) d.toNatClampNeg what))) 30 ((upd (r 30) d.toNatClampNeg v110))) q) H := hP
                        have q149 : True := q149
                        refine m_iast (w := (r 31)) hx hb hK hP hD hS 19 rfl (vp_in_iff.mpr ⟨by omega, by omega⟩) (va_up (va_up (va_up r 29 ((upd (r 29) d.toNatClampNeg what))) 30 ((upd (r 30) d.toNatClampNeg v110))) 31 (upd (r 31) d.toNatClampNeg r149)) (ms_31 cy mo a _ _ _ _ _) dX10_keep_152 (fun H locs hP hS => ?_)
                        refine lv_aload_n hx hb dX10_keep_153 rfl (lv_at hl 1 rfl) ?_
                        refine m_get (v := .ref (a 32)) hx hb hts hin hown hK hP 32 (by decide) rfl (hts (.fieldLink RX10 70 "ShadowBenchModel" "shelfFailure" "[I") (by decide +kernel)) rfl dX10_keep_154 ?_
                        refine lv_iload_n hx hb dX10_keep_157 rfl (lv_at hl 2 rfl) ?_
                        refine lv_aload_n hx hb dX10_keep_158 rfl (lv_at hl 1 rfl) ?_
                        refine m_get (v := .ref (a 2)) hx hb hts hin hown hK hP 2 (by decide) rfl (hts (.fieldLink RX10 7 "ShadowBenchModel" "kind" "[I") (by decide +kernel)) rfl dX10_keep_159 ?_
                        refine lv_iload_n hx hb dX10_keep_162 rfl (lv_at hl 4 rfl) ?_
                        refine m_iald (w := (r 2)) hx hb hK hP 1 rfl (vp_in_iff.mpr ⟨by omega, by omega⟩) dX10_keep_163 ?_
                        refine lv_topi (fun v163 e163 => ?_)
                        have i163 : v163.toInt = ((r 2) k0.toNatClampNeg).toInt := congrArg Int32.toInt e163
                        refine lv_if_ne (tgt := 172) hx hb dX10_keep_164 (by decide) (fun c164 => ?_) (fun c164 => ?_)
                        · skip
                          have d164 := c164
                          rw [fa_eq] at d164
                          refine lv_iload_n hx hb dX10_keep_172 rfl (lv_at hl 4 rfl) ?_
                          refine m_iast (w := (r 32)) hx hb hK hP hD hS 20 rfl (vp_in_iff.mpr ⟨by omega, by omega⟩) (va_up (va_up (va_up (va_up r 29 ((upd (r 29) d.toNatClampNeg what))) 30 ((upd (r 30) d.toNatClampNeg v110))) 31 ((upd (r 31) d.toNatClampNeg r149))) 32 (upd (r 32) d.toNatClampNeg k0)) (ms_32 cy mo a _ _ _ _ _) dX10_keep_173 (fun H locs hP hS => ?_)
                          refine lv_iconst (v := 0) hx hb dX10_keep_174 (by decide) ?_
                          refine lv_istore (lv' := [(7, .int (0 : Int32)), (6, .int (1 : Int32)), (0, .ref mo), (1, .int d), (2, .int what), (3, .int k0), (4, .long p0)]) hx hb dX10_keep_175 hl (by decide) rfl (fun ls hl => ?_)
                          have loop_177 : ∀ (n : Nat) (i : Nat) (s3 : Nat → Int64), (i ≤ 60) → 60 - i < n → ∀ (H : Heap) (locs : List Loc), va_P D vwCl (WM cy mo a (upd f 0 (0 : Int32)) g (va_up (va_up (va_up (va_up r 29 ((upd (r 29) d.toNatClampNeg what))) 30 ((upd (r 30) d.toNatClampNeg v110))) 31 ((upd (r 31) d.toNatClampNeg r149))) 32 ((upd (r 32) d.toNatClampNeg k0))) (va_up q 33 s3)) H → va_S (AM mo a) s.heap H locs → ∀ (ls : Array Slot), lv_has ls 8 [(7, .int (nI i)), (6, .int (1 : Int32)), (0, .ref mo), (1, .int d), (2, .int what), (3, .int k0), (4, .long p0)] → W p l e (headSpec wsX10_keep ({ frames := 3, cells := 0, slots := 0, locals := 69 })).room s m #[Value.ref mo, Value.int d, Value.int what, Value.int k0, Value.long p0] below meth c H locs 0 0 (MQ below (va_Qi (fun r0 u => ∃ (sh : Nat → Int32), ∃ (sz : Nat → Int32), ∃ (sw : Nat → Int32), ∃ (sf : Nat → Int32), ∃ (sr : Nat → Int64), u = ((upd f 0 (0 : Int32)), g, (va_up (va_up (va_up (va_up r 29 sh) 30 sz) 31 sw) 32 sf), (va_up q 33 sr)) ∧ (MI (upd f 0 (0 : Int32)) (va_up (va_up (va_up (va_up r 29 sh) 30 sz) 31 sw) 32 sf))) (mB D cy mo a) (AM mo a)) #[Value.ref mo, Value.int d, Value.int what, Value.int k0, Value.long p0] s 0 0 (AM mo a)) (F0 m 177 ls []) := by
                            intro n
                            induction n with
                            | zero => intro i s3 j177_0 hn; exact absurd hn (Nat.not_lt_zero _)
                            | succ n ih_177 =>
                              intro i s3 j177_0 hn_177 H locs hP hS ls hl
                              have ii : (nI i).toInt = (i : Int) := nI_toInt (by omega)
                              refine lv_iload hx hb dX10_keep_177 (lv_at hl 0 rfl) ?_
                              refine lv_aload_n hx hb dX10_keep_179 rfl (lv_at hl 2 rfl) ?_
                              refine m_get (v := .ref (a 30)) hx hb hts hin hown hK hP 30 (by decide) rfl (hts (.fieldLink RX10 64 "ShadowBenchModel" "shelfSize" "[I") (by decide +kernel)) rfl dX10_keep_180 ?_
                              refine lv_iload_n hx hb dX10_keep_183 rfl (lv_at hl 3 rfl) ?_
                              refine m_iald (w := ((upd (r 30) d.toNatClampNeg v110))) hx hb hK hP 18 rfl (vp_in_iff.mpr ⟨by omega, by omega⟩) dX10_keep_184 ?_
                              refine lv_topi (fun v184 e184 => ?_)
                              have i184 : v184.toInt = (((upd (r 30) d.toNatClampNeg v110)) d.toNatClampNeg).toInt := congrArg Int32.toInt e184
                              have z184 := e184
                              simp only [upd, if_true] at z184
                              have y184 := congrArg Int32.toInt z184
                              refine lv_icmp_ge (tgt := 272) hx hb dX10_keep_185 (by decide) (fun c185 => ?_) (fun c185 => ?_)
                              · skip
                                have d185 := c185
                                rw [fa_le] at d185
                                refine lv_iconst (v := 0) hx hb dX10_keep_272 (by decide) ?_
                                have hP := wm_eq rfl rfl (ec_r_29_30_31_32__29_30_31_32 r ((upd (r 29) d.toNatClampNeg what)) ((upd (r 30) d.toNatClampNeg v110)) ((upd (r 31) d.toNatClampNeg r149)) ((upd (r 32) d.toNatClampNeg k0))) rfl hP
                                exact W.iret (v := (0 : Int32)) hx hb hr (fun t ht hW => ⟨⟨_, ((upd f 0 (0 : Int32)), g, (va_up (va_up (va_up (va_up r 29 (((upd (r 29) d.toNatClampNeg what)))) 30 (((upd (r 30) d.toNatClampNeg v110)))) 31 (((upd (r 31) d.toNatClampNeg r149)))) 32 (((upd (r 32) d.toNatClampNeg k0)))), (va_up q 33 s3)), rfl, ⟨((upd (r 29) d.toNatClampNeg what)), ((upd (r 30) d.toNatClampNeg v110)), ((upd (r 31) d.toNatClampNeg r149)), ((upd (r 32) d.toNatClampNeg k0)), s3, rfl, by first | exact hI | exact mi_sz (d := d) hI (v := v110) (by omega) rfl rfl rfl rfl rfl rfl rfl rfl | exact mi_sz (d := d) hI (v := v131) (by omega) rfl rfl rfl rfl rfl rfl rfl rfl | exact mi_sz (d := d) hI (v := 0) (by decide) rfl rfl rfl rfl rfl rfl rfl rfl⟩, by unfold mB; rw [ht]; exact hP⟩, hS.F ht⟩) hS.2.2 dX10_keep_273
                              · skip
                                have d185 := c185
                                rw [fa_le] at d185
                                refine lv_aload_n hx hb dX10_keep_188 rfl (lv_at hl 2 rfl) ?_
                                refine m_get (v := .ref (a 33)) hx hb hts hin hown hK hP 33 (by decide) rfl (hts (.fieldLink RX10 73 "ShadowBenchModel" "shelfRow" "[J") (by decide +kernel)) rfl dX10_keep_189 ?_
                                refine lv_bipush (v := 60) hx hb dX10_keep_192 (by decide) ?_
                                refine lv_iload_n hx hb dX10_keep_194 rfl (lv_at hl 3 rfl) ?_
                                refine lv_imul hx hb dX10_keep_195 ?_
                                refine lv_topi (fun v195 e195 => ?_)
                                have i195 : v195.toInt = 60 * d.toInt := by rw [e195]; exact mulcL rfl (by omega) (by omega)
                                refine lv_iload hx hb dX10_keep_196 (lv_at hl 0 rfl) ?_
                                refine lv_iadd hx hb dX10_keep_198 ?_
                                refine lv_topi (fun v198 e198 => ?_)
                                have i198 : v198.toInt = v195.toInt + (nI i).toInt := by rw [e198]; exact fb_addI (by omega) (by omega)
                                refine lv_iload_n hx hb dX10_keep_199 rfl (lv_at hl 4 rfl) ?_
                                refine lv_iconst (v := 3) hx hb dX10_keep_200 (by decide) ?_
                                refine lv_icmp_ne (tgt := 215) hx hb dX10_keep_201 (by decide) (fun c201 => ?_) (fun c201 => ?_)
                                · first | exact absurd c201 c95 | exact absurd c95 c201
                                · skip
                                  have d201 := c201
                                  rw [fa_eq] at d201
                                  refine lv_lload hx hb dX10_keep_204 (lv_at hl 6 rfl) ?_
                                  refine lv_iload hx hb dX10_keep_206 (lv_at hl 0 rfl) ?_
                                  refine m_pu (As := [.long p0, .int (nI i)]) (rest := [.int v198, .ref (a 33)]) ⟨hx, hb, hml, hown, hts⟩ (c_X10_one l p0 (nI i) ) (va_cwS 2 hts gX10_keep_X10_one rfl rfl rfl (by decide +kernel) ⟨Nat.le_of_ble_eq_true rfl, Nat.le_of_ble_eq_true rfl⟩) hP rfl hl.1 rfl (Nat.le_of_ble_eq_true rfl) dX10_keep_208 ⟨Nat.le_of_ble_eq_true rfl, Nat.le_of_ble_eq_true rfl⟩ hS (fun r208 H locs q208 hP hS => ?_)
                                  have i208 : r208.toInt = (r_one p0 (nI i)).toInt := congrArg Int32.toInt q208
                                  refine lv_i2l (v := r208.toInt64) hx hb dX10_keep_211 rfl ?_
                                  refine lv_goto (tgt := 265) hx hb dX10_keep_212 (by decide) ?_
                                  refine m_last (w := s3) hx hb hK hP hD hS 21 rfl (vp_in_iff.mpr ⟨by omega, by omega⟩) (va_up (va_up q 33 s3) 33 (vp_updL s3 v198.toNatClampNeg r208.toInt64)) (ms_33 cy mo a _ _ _ _ _) dX10_keep_265 (fun H locs hP hS => ?_)
                                  have hP := wm_eq rfl rfl rfl (es_q_33__33 q s3 (vp_updL s3 v198.toNatClampNeg r208.toInt64)) hP
                                  refine lv_iinc (v := (nI (i + 1))) (lv' := [(7, .int (nI (i + 1))), (6, .int (1 : Int32)), (0, .ref mo), (1, .int d), (2, .int what), (3, .int k0), (4, .long p0)]) hx hb dX10_keep_266 hl (k := 0) rfl (nI_1 _) (by decide) rfl (fun ls hl => ?_)
                                  refine lv_goto (tgt := 177) hx hb dX10_keep_269 (by decide) ?_
                                  have hP := wm_eq rfl rfl (ec_r_29_30_31_32__29_30_31_32 r ((upd (r 29) d.toNatClampNeg what)) ((upd (r 30) d.toNatClampNeg v110)) ((upd (r 31) d.toNatClampNeg r149)) ((upd (r 32) d.toNatClampNeg k0))) rfl hP
                                  exact ih_177 (i + 1) (vp_updL s3 v198.toNatClampNeg r208.toInt64) (by omega) (by omega) _ _ hP hS ls (lv_sub hl [0, 1, 2, 3, 4, 5, 6] rfl)
                          have hP := wm_eq rfl rfl (ec_r_29_30_31_32__29_30_31_32 r ((upd (r 29) d.toNatClampNeg what)) ((upd (r 30) d.toNatClampNeg v110)) ((upd (r 31) d.toNatClampNeg r149)) ((upd (r 32) d.toNatClampNeg k0))) (ec_q___33 q ) hP
                          exact loop_177 (60 + 1) 0 (q 33) (by omega) (by omega) _ _ hP hS ls (lv_sub hl [0, 1, 2, 3, 4, 5, 6] rfl)
                        · skip
                          have d164 := c164
                          rw [fa_eq] at d164
                          refine lv_bipush (v := (-15)) hx hb dX10_keep_167 (by decide) ?_
                          refine lv_goto (tgt := 173) hx hb dX10_keep_169 (by decide) ?_
                          refine m_iast (w := (r 32)) hx hb hK hP hD hS 20 rfl (vp_in_iff.mpr ⟨by omega, by omega⟩) (va_up (va_up (va_up (va_up r 29 ((upd (r 29) d.toNatClampNeg what))) 30 ((upd (r 30) d.toNatClampNeg v110))) 31 ((upd (r 31) d.toNatClampNeg r149))) 32 (upd (r 32) d.toNatClampNeg (((-15) : Int32)))) (ms_32 cy mo a _ _ _ _ _) dX10_keep_173 (fun H locs hP hS => ?_)
                          refine lv_iconst (v := 0) hx hb dX10_keep_174 (by decide) ?_
                          refine lv_istore (lv' := [(7, .int (0 : Int32)), (6, .int (1 : Int32)), (0, .ref mo), (1, .int d), (2, .int what), (3, .int k0), (4, .long p0)]) hx hb dX10_keep_175 hl (by decide) rfl (fun ls hl => ?_)
                          have loop_177 : ∀ (n : Nat) (i : Nat) (s3 : Nat → Int64), (i ≤ 60) → 60 - i < n → ∀ (H : Heap) (locs : List Loc), va_P D vwCl (WM cy mo a (upd f 0 (0 : Int32)) g (va_up (va_up (va_up (va_up r 29 ((upd (r 29) d.toNatClampNeg what))) 30 ((upd (r 30) d.toNatClampNeg v110))) 31 ((upd (r 31) d.toNatClampNeg r149))) 32 ((upd (r 32) d.toNatClampNeg (((-15) : Int32))))) (va_up q 33 s3)) H → va_S (AM mo a) s.heap H locs → ∀ (ls : Array Slot), lv_has ls 8 [(7, .int (nI i)), (6, .int (1 : Int32)), (0, .ref mo), (1, .int d), (2, .int what), (3, .int k0), (4, .long p0)] → W p l e (headSpec wsX10_keep ({ frames := 3, cells := 0, slots := 0, locals := 69 })).room s m #[Value.ref mo, Value.int d, Value.int what, Value.int k0, Value.long p0] below meth c H locs 0 0 (MQ below (va_Qi (fun r0 u => ∃ (sh : Nat → Int32), ∃ (sz : Nat → Int32), ∃ (sw : Nat → Int32), ∃ (sf : Nat → Int32), ∃ (sr : Nat → Int64), u = ((upd f 0 (0 : Int32)), g, (va_up (va_up (va_up (va_up r 29 sh) 30 sz) 31 sw) 32 sf), (va_up q 33 sr)) ∧ (MI (upd f 0 (0 : Int32)) (va_up (va_up (va_up (va_up r 29 sh) 30 sz) 31 sw) 32 sf))) (mB D cy mo a) (AM mo a)) #[Value.ref mo, Value.int d, Value.int what, Value.int k0, Value.long p0] s 0 0 (AM mo a)) (F0 m 177 ls []) := by
                            intro n
                            induction n with
                            | zero => intro i s3 j177_0 hn; exact absurd hn (Nat.not_lt_zero _)
                            | succ n ih_177 =>
                              intro i s3 j177_0 hn_177 H locs hP hS ls hl
                              have ii : (nI i).toInt = (i : Int) := nI_toInt (by omega)
                              refine lv_iload hx hb dX10_keep_177 (lv_at hl 0 rfl) ?_
                              refine lv_aload_n hx hb dX10_keep_179 rfl (lv_at hl 2 rfl) ?_
                              refine m_get (v := .ref (a 30)) hx hb hts hin hown hK hP 30 (by decide) rfl (hts (.fieldLink RX10 64 "ShadowBenchModel" "shelfSize" "[I") (by decide +kernel)) rfl dX10_keep_180 ?_
                              refine lv_iload_n hx hb dX10_keep_183 rfl (lv_at hl 3 rfl) ?_
                              refine m_iald (w := ((upd (r 30) d.toNatClampNeg v110))) hx hb hK hP 18 rfl (vp_in_iff.mpr ⟨by omega, by omega⟩) dX10_keep_184 ?_
                              refine lv_topi (fun v184 e184 => ?_)
                              have i184 : v184.toInt = (((upd (r 30) d.toNatClampNeg v110)) d.toNatClampNeg).toInt := congrArg Int32.toInt e184
                              have z184 := e184
                              simp only [upd, if_true] at z184
                              have y184 := congrArg Int32.toInt z184
                              refine lv_icmp_ge (tgt := 272) hx hb dX10_keep_185 (by decide) (fun c185 => ?_) (fun c185 => ?_)
                              · skip
                                have d185 := c185
                                rw [fa_le] at d185
                                refine lv_iconst (v := 0) hx hb dX10_keep_272 (by decide) ?_
                                have hP := wm_eq rfl rfl (ec_r_29_30_31_32__29_30_31_32 r ((upd (r 29) d.toNatClampNeg what)) ((upd (r 30) d.toNatClampNeg v110)) ((upd (r 31) d.toNatClampNeg r149)) ((upd (r 32) d.toNatClampNeg (((-15) : Int32))))) rfl hP
                                exact W.iret (v := (0 : Int32)) hx hb hr (fun t ht hW => ⟨⟨_, ((upd f 0 (0 : Int32)), g, (va_up (va_up (va_up (va_up r 29 (((upd (r 29) d.toNatClampNeg what)))) 30 (((upd (r 30) d.toNatClampNeg v110)))) 31 (((upd (r 31) d.toNatClampNeg r149)))) 32 (((upd (r 32) d.toNatClampNeg (((-15) : Int32)))))), (va_up q 33 s3)), rfl, ⟨((upd (r 29) d.toNatClampNeg what)), ((upd (r 30) d.toNatClampNeg v110)), ((upd (r 31) d.toNatClampNeg r149)), ((upd (r 32) d.toNatClampNeg (((-15) : Int32)))), s3, rfl, by first | exact hI | exact mi_sz (d := d) hI (v := v110) (by omega) rfl rfl rfl rfl rfl rfl rfl rfl | exact mi_sz (d := d) hI (v := v131) (by omega) rfl rfl rfl rfl rfl rfl rfl rfl | exact mi_sz (d := d) hI (v := 0) (by decide) rfl rfl rfl rfl rfl rfl rfl rfl⟩, by unfold mB; rw [ht]; exact hP⟩, hS.F ht⟩) hS.2.2 dX10_keep_273
                              · skip
                                have d185 := c185
                                rw [fa_le] at d185
                                refine lv_aload_n hx hb dX10_keep_188 rfl (lv_at hl 2 rfl) ?_
                                refine m_get (v := .ref (a 33)) hx hb hts hin hown hK hP 33 (by decide) rfl (hts (.fieldLink RX10 73 "ShadowBenchModel" "shelfRow" "[J") (by decide +kernel)) rfl dX10_keep_189 ?_
                                refine lv_bipush (v := 60) hx hb dX10_keep_192 (by decide) ?_
                                refine lv_iload_n hx hb dX10_keep_194 rfl (lv_at hl 3 rfl) ?_
                                refine lv_imul hx hb dX10_keep_195 ?_
                                refine lv_topi (fun v195 e195 => ?_)
                                have i195 : v195.toInt = 60 * d.toInt := by rw [e195]; exact mulcL rfl (by omega) (by omega)
                                refine lv_iload hx hb dX10_keep_196 (lv_at hl 0 rfl) ?_
                                refine lv_iadd hx hb dX10_keep_198 ?_
                                refine lv_topi (fun v198 e198 => ?_)
                                have i198 : v198.toInt = v195.toInt + (nI i).toInt := by rw [e198]; exact fb_addI (by omega) (by omega)
                                refine lv_iload_n hx hb dX10_keep_199 rfl (lv_at hl 4 rfl) ?_
                                refine lv_iconst (v := 3) hx hb dX10_keep_200 (by decide) ?_
                                refine lv_icmp_ne (tgt := 215) hx hb dX10_keep_201 (by decide) (fun c201 => ?_) (fun c201 => ?_)
                                · first | exact absurd c201 c95 | exact absurd c95 c201
                                · skip
                                  have d201 := c201
                                  rw [fa_eq] at d201
                                  refine lv_lload hx hb dX10_keep_204 (lv_at hl 6 rfl) ?_
                                  refine lv_iload hx hb dX10_keep_206 (lv_at hl 0 rfl) ?_
                                  refine m_pu (As := [.long p0, .int (nI i)]) (rest := [.int v198, .ref (a 33)]) ⟨hx, hb, hml, hown, hts⟩ (c_X10_one l p0 (nI i) ) (va_cwS 2 hts gX10_keep_X10_one rfl rfl rfl (by decide +kernel) ⟨Nat.le_of_ble_eq_true rfl, Nat.le_of_ble_eq_true rfl⟩) hP rfl hl.1 rfl (Nat.le_of_ble_eq_true rfl) dX10_keep_208 ⟨Nat.le_of_ble_eq_true rfl, Nat.le_of_ble_eq_true rfl⟩ hS (fun r208 H locs q208 hP hS => ?_)
                                  have i208 : r208.toInt = (r_one p0 (nI i)).toInt := congrArg Int32.toInt q208
                                  refine lv_i2l (v := r208.toInt64) hx hb dX10_keep_211 rfl ?_
                                  refine lv_goto (tgt := 265) hx hb dX10_keep_212 (by decide) ?_
                                  refine m_last (w := s3) hx hb hK hP hD hS 21 rfl (vp_in_iff.mpr ⟨by omega, by omega⟩) (va_up (va_up q 33 s3) 33 (vp_updL s3 v198.toNatClampNeg r208.toInt64)) (ms_33 cy mo a _ _ _ _ _) dX10_keep_265 (fun H locs hP hS => ?_)
                                  have hP := wm_eq rfl rfl rfl (es_q_33__33 q s3 (vp_updL s3 v198.toNatClampNeg r208.toInt64)) hP
                                  refine lv_iinc (v := (nI (i + 1))) (lv' := [(7, .int (nI (i + 1))), (6, .int (1 : Int32)), (0, .ref mo), (1, .int d), (2, .int what), (3, .int k0), (4, .long p0)]) hx hb dX10_keep_266 hl (k := 0) rfl (nI_1 _) (by decide) rfl (fun ls hl => ?_)
                                  refine lv_goto (tgt := 177) hx hb dX10_keep_269 (by decide) ?_
                                  have hP := wm_eq rfl rfl (ec_r_29_30_31_32__29_30_31_32 r ((upd (r 29) d.toNatClampNeg what)) ((upd (r 30) d.toNatClampNeg v110)) ((upd (r 31) d.toNatClampNeg r149)) ((upd (r 32) d.toNatClampNeg (((-15) : Int32))))) rfl hP
                                  exact ih_177 (i + 1) (vp_updL s3 v198.toNatClampNeg r208.toInt64) (by omega) (by omega) _ _ hP hS ls (lv_sub hl [0, 1, 2, 3, 4, 5, 6] rfl)
                          have hP := wm_eq rfl rfl (ec_r_29_30_31_32__29_30_31_32 r ((upd (r 29) d.toNatClampNeg what)) ((upd (r 30) d.toNatClampNeg v110)) ((upd (r 31) d.toNatClampNeg r149)) ((upd (r 32) d.toNatClampNeg (((-15) : Int32))))) (ec_q___33 q ) hP
                          exact loop_177 (60 + 1) 0 (q 33) (by omega) (by omega) _ _ hP hS ls (lv_sub hl [0, 1, 2, 3, 4, 5, 6] rfl)
                  · first | exact absurd c76 (by decide) | exact absurd (by decide) c76
set_option maxHeartbeats 4000000 in
set_option maxRecDepth 100000 in
theorem c_X10_placeOf (l : Launch) (D : va_G) (cy : Nat → ClassId) (mo : Nat) (a : Nat → Nat) (f : Nat → Int32) (g : Nat → Int64) (r : Nat → Nat → Int32) (q : Nat → Nat → Int64) (p0 : Int64) (hD : DM cy mo a) (hp1 : PB (r 21)) (hp2 : ∃ e, e < 65536 ∧ (r 21 e).toInt < 0) : Mi l D cy mo a yX10_placeOf wsX10_placeOf ({ frames := 0, cells := 0, slots := 0, locals := 0 }) f g r q [.long p0] (fun r0 u => u = (f, g, r, q) ∧ (0 ≤ r0.toInt ∧ r0.toInt < 65536)) := by
  refine Met.ofW (cc := cX10_placeOf) (maxL := 4) (ret := (some .int)) (by decide) rfl ?_
  intro p e s m args below meth c s₁ B hml hv
  obtain ⟨rfl, hP, hK⟩ := hv
  have hx := B.exec
  have hb := B.bytes
  have hr := B.returns
  have hts := atoms_spec (ws := wsX10_placeOf) B.pre
  have hin : ∀ w ∈ u_ws RX10 TX10 35, w ∈ wsX10_placeOf := by decide +kernel
  have hown : s.vm.findClass RX10 = some m.cls := findClass_of_methodNamed B.named
  have hlocks := B.notSynchronized
  have hS : va_S (AM mo a) s.heap s.heap [] := va_S.rf
  have hl := lv_entry ([.ref mo, .long p0]) (n := 4) (Nat.le_of_ble_eq_true rfl)
  rw [lg_entry_eq]
  generalize (lg_sl ([.ref mo, .long p0]) ++ List.replicate (4 - (lg_sl ([.ref mo, .long p0])).length) Slot.unset).toArray = ls at hl ⊢
  have hl : lv_has ls 4 [(0, .ref mo), (1, .long p0)] := hl
  have k_0 : (0 : Int32).toInt = 0 := by decide
  have k_1 : (1 : Int32).toInt = 1 := by decide
  have k_48 : (48 : Int32).toInt = 48 := by decide
  have k_65536 : (65536 : Int32).toInt = 65536 := by decide
  have k_m7046029254386353131L : (-7046029254386353131 : Int64).toInt = -7046029254386353131 := by decide
  obtain ⟨e0, he0, he1⟩ := hp2
  refine lv_lload_n hx hb dX10_placeOf_0 rfl (lv_at hl 1 rfl) ?_
  refine lv_ldc2 hx hb hown (hts (.constantLong RX10 208 (-7046029254386353131)) (by decide +kernel)) dX10_placeOf_1 ?_
  refine lv_lmul hx hb dX10_placeOf_4 ?_
  refine lv_topl (fun v4 e4 => ?_)
  refine lv_bipush (v := 48) hx hb dX10_placeOf_5 (by decide) ?_
  refine lv_lushr (v := (v4.toUInt64 >>> ((48 : Int32).toInt64.toUInt64 &&& Int64.toUInt64 63)).toInt64) hx hb dX10_placeOf_7 rfl ?_
  refine lv_l2i (v := (((v4.toUInt64 >>> ((48 : Int32).toInt64.toUInt64 &&& Int64.toUInt64 63)).toInt64)).toInt32) hx hb dX10_placeOf_8 rfl ?_
  have u9 := ush48 v4
  refine lv_istore_n (lv' := [(3, .int ((((v4.toUInt64 >>> ((48 : Int32).toInt64.toUInt64 &&& Int64.toUInt64 63)).toInt64)).toInt32)), (0, .ref mo), (1, .long p0)]) hx hb dX10_placeOf_9 rfl hl (by decide) rfl (fun ls hl => ?_)
  have loop_10 : ∀ (n : Nat) (x3 : Int32), (0 ≤ x3.toInt ∧ x3.toInt < 65536) → (((e0 : Int) - x3.toInt) % 65536).toNat < n → ∀ (H : Heap) (locs : List Loc), va_P D vwCl (WM cy mo a f g r q) H → va_S (AM mo a) s.heap H locs → ∀ (ls : Array Slot), lv_has ls 4 [(3, .int x3), (0, .ref mo), (1, .long p0)] → W p l e (headSpec wsX10_placeOf ({ frames := 0, cells := 0, slots := 0, locals := 0 })).room s m #[Value.ref mo, Value.long p0] below meth c H locs 0 0 (MQ below (va_Qi (fun r0 u => u = (f, g, r, q) ∧ (0 ≤ r0.toInt ∧ r0.toInt < 65536)) (mB D cy mo a) (AM mo a)) #[Value.ref mo, Value.long p0] s 0 0 (AM mo a)) (F0 m 10 ls []) := by
    intro n
    induction n with
    | zero => intro x3  j10_0 hn; exact absurd hn (Nat.not_lt_zero _)
    | succ n ih_10 =>
      intro x3  j10_0 hn_10 H locs hP hS ls hl
      refine lv_aload_n hx hb dX10_placeOf_10 rfl (lv_at hl 1 rfl) ?_
      refine m_get (v := .ref (a 21)) hx hb hts hin hown hK hP 21 (by decide) rfl (hts (.fieldLink RX10 49 "ShadowBenchModel" "place" "[I") (by decide +kernel)) rfl dX10_placeOf_11 ?_
      refine lv_iload_n hx hb dX10_placeOf_14 rfl (lv_at hl 0 rfl) ?_
      refine m_iald (w := (r 21)) hx hb hK hP 13 rfl (vp_in_iff.mpr ⟨by omega, by omega⟩) dX10_placeOf_15 ?_
      refine lv_topi (fun v15 e15 => ?_)
      have i15 : v15.toInt = ((r 21) x3.toNatClampNeg).toInt := congrArg Int32.toInt e15
      have t15 := pb_at hp1 (x := x3) (by omega) (by omega) e15
      refine lv_if_lt (tgt := 45) hx hb dX10_placeOf_16 (by decide) (fun c16 => ?_) (fun c16 => ?_)
      · skip
        have d16 := c16
        rw [fa_lt] at d16
        refine lv_iload_n hx hb dX10_placeOf_45 rfl (lv_at hl 0 rfl) ?_
        exact W.iret (v := x3) hx hb hr (fun t ht hW => ⟨⟨_, (f, g, r, q), rfl, ⟨rfl, by omega⟩, by unfold mB; rw [ht]; exact hP⟩, hS.F ht⟩) hS.2.2 dX10_placeOf_46
      · skip
        have d16 := c16
        rw [fa_lt] at d16
        have z16 : x3.toInt ≠ (e0 : Int) := by
          intro z
          have z1 := m_cl (x := x3) (by omega)
          have z2 : x3.toNatClampNeg = e0 := by omega
          rw [z2] at i15
          omega
        refine lv_aload_n hx hb dX10_placeOf_19 rfl (lv_at hl 1 rfl) ?_
        refine m_get (v := .ref (a 19)) hx hb hts hin hown hK hP 19 (by decide) rfl (hts (.fieldLink RX10 41 "ShadowBenchModel" "row" "[J") (by decide +kernel)) rfl dX10_placeOf_20 ?_
        refine lv_aload_n hx hb dX10_placeOf_23 rfl (lv_at hl 1 rfl) ?_
        refine m_get (v := .ref (a 21)) hx hb hts hin hown hK hP 21 (by decide) rfl (hts (.fieldLink RX10 49 "ShadowBenchModel" "place" "[I") (by decide +kernel)) rfl dX10_placeOf_24 ?_
        refine lv_iload_n hx hb dX10_placeOf_27 rfl (lv_at hl 0 rfl) ?_
        refine m_iald (w := (r 21)) hx hb hK hP 13 rfl (vp_in_iff.mpr ⟨by omega, by omega⟩) dX10_placeOf_28 ?_
        refine lv_topi (fun v28 e28 => ?_)
        have i28 : v28.toInt = ((r 21) x3.toNatClampNeg).toInt := congrArg Int32.toInt e28
        have t28 := pb_at hp1 (x := x3) (by omega) (by omega) e28
        have y28 : v28 = v15 := e28.trans e15.symm
        subst y28
        refine m_lald (w := (q 19)) hx hb hK hP 11 rfl (vp_in_iff.mpr ⟨by omega, by omega⟩) dX10_placeOf_29 ?_
        refine lv_topl (fun v29 e29 => ?_)
        refine lv_lload_n hx hb dX10_placeOf_30 rfl (lv_at hl 2 rfl) ?_
        refine W.lcmp hx hb dX10_placeOf_31 ?_
        refine lv_if_eq (tgt := 45) hx hb dX10_placeOf_32 (by decide) (fun c32 => ?_) (fun c32 => ?_)
        · skip
          have d32 := c32
          rw [lg_cmp_eq, fa_eq64] at d32
          refine lv_iload_n hx hb dX10_placeOf_45 rfl (lv_at hl 0 rfl) ?_
          exact W.iret (v := x3) hx hb hr (fun t ht hW => ⟨⟨_, (f, g, r, q), rfl, ⟨rfl, by omega⟩, by unfold mB; rw [ht]; exact hP⟩, hS.F ht⟩) hS.2.2 dX10_placeOf_46
        · skip
          have d32 := c32
          rw [lg_cmp_eq, fa_eq64] at d32
          refine lv_iload_n hx hb dX10_placeOf_35 rfl (lv_at hl 0 rfl) ?_
          refine lv_iconst (v := 1) hx hb dX10_placeOf_36 (by decide) ?_
          refine lv_iadd hx hb dX10_placeOf_37 ?_
          refine lv_topi (fun v37 e37 => ?_)
          have i37 : v37.toInt = x3.toInt + (1 : Int32).toInt := by rw [e37]; exact fb_addI (by omega) (by omega)
          refine lv_ldc hx hb hown (hts (.constant RX10 48 (65536)) (by decide +kernel)) dX10_placeOf_38 ?_
          refine lv_irem hx hb dX10_placeOf_40 (fun z => by rw [fa_eq] at z; omega) ?_
          refine lv_topi (fun v40 e40 => ?_)
          have i40 : v40.toInt = v37.toInt % (65536 : Int32).toInt := by rw [e40]; exact my_irem (by omega) (by omega)
          have j40 : 0 ≤ v40.toInt ∧ v40.toInt < (65536 : Int32).toInt ∧ v40.toInt ≤ v37.toInt := by rw [e40]; exact my_remb (by omega) (by omega)
          rw [show (65536 : Int32).toInt = 65536 from by decide] at i40 j40
          refine lv_istore_n (lv' := [(3, .int v40), (0, .ref mo), (1, .long p0)]) hx hb dX10_placeOf_41 rfl hl (by decide) rfl (fun ls hl => ?_)
          refine lv_goto (tgt := 10) hx hb dX10_placeOf_42 (by decide) ?_
          exact ih_10 v40 (by omega) (by omega) _ _ hP hS ls (lv_sub hl [0, 1, 2] rfl)
  exact loop_10 (65536 + 1) ((((v4.toUInt64 >>> ((48 : Int32).toInt64.toUInt64 &&& Int64.toUInt64 63)).toInt64)).toInt32) (by omega) (by omega) _ _ hP hS ls (lv_sub hl [0, 1, 2] rfl)
set_option maxHeartbeats 4000000 in
set_option maxRecDepth 100000 in
theorem c_X10_meet (l : Launch) (D : va_G) (cy : Nat → ClassId) (mo : Nat) (a : Nat → Nat) (f : Nat → Int32) (g : Nat → Int64) (r : Nat → Nat → Int32) (q : Nat → Nat → Int64) (q0 : Int64) (far0 : Int32) (to0 : Int64) (hD : DM cy mo a) (hp1 : PB (r 21)) (hm : 1 ≤ (f 22).toInt ∧ (f 22).toInt ≤ 20000) (hc : (ct21 (r 21) : Int) ≤ (f 22).toInt) : Mi l D cy mo a yX10_meet wsX10_meet ({ frames := 1, cells := 0, slots := 0, locals := 23 }) f g r q [.long q0, .int far0, .long to0] (fun r0 u => ∃ (pl : Nat → Int32), ∃ (rr : Nat → Int64), ∃ (st : Nat → Int32), ∃ (mn : Int32), u = ((upd f 22 mn), g, (va_up (va_up r 21 pl) 20 st), (va_up q 19 rr)) ∧ (PB pl ∧ ((f 22).toInt ≤ mn.toInt ∧ mn.toInt ≤ 20000) ∧ (ct21 pl : Int) ≤ mn.toInt)) := by
  refine Met.ofW (cc := cX10_meet) (maxL := 7) (ret := (some .int)) (by decide) rfl ?_
  intro p e s m args below meth c s₁ B hml hv
  obtain ⟨rfl, hP, hK⟩ := hv
  have hx := B.exec
  have hb := B.bytes
  have hr := B.returns
  have hts := atoms_spec (ws := wsX10_meet) B.pre
  have hin : ∀ w ∈ u_ws RX10 TX10 35, w ∈ wsX10_meet := by decide +kernel
  have hown : s.vm.findClass RX10 = some m.cls := findClass_of_methodNamed B.named
  have hlocks := B.notSynchronized
  have hS : va_S (AM mo a) s.heap s.heap [] := va_S.rf
  have hl := lv_entry ([.ref mo, .long q0, .int far0, .long to0]) (n := 7) (Nat.le_of_ble_eq_true rfl)
  rw [lg_entry_eq]
  generalize (lg_sl ([.ref mo, .long q0, .int far0, .long to0]) ++ List.replicate (7 - (lg_sl ([.ref mo, .long q0, .int far0, .long to0])).length) Slot.unset).toArray = ls at hl ⊢
  have hl : lv_has ls 7 [(0, .ref mo), (1, .long q0), (3, .int far0), (4, .long to0)] := hl
  have k_m5 : (-5 : Int32).toInt = -5 := by decide
  have k_0 : (0 : Int32).toInt = 0 := by decide
  have k_1 : (1 : Int32).toInt = 1 := by decide
  have k_20000 : (20000 : Int32).toInt = 20000 := by decide
  refine lv_aload_n hx hb dX10_meet_0 rfl (lv_at hl 0 rfl) ?_
  refine lv_lload_n hx hb dX10_meet_1 rfl (lv_at hl 1 rfl) ?_
  refine m_calli (As := [.long q0]) (rest := []) ⟨hx, hb, hml, hown, hts⟩ (c_X10_placeOf l D cy mo a f g r q q0 hD hp1 (ct21_free (by omega))) (cwV 1 hts gX10_meet_X10_placeOf rfl rfl rfl (by decide +kernel) ⟨Nat.le_of_ble_eq_true rfl, Nat.le_of_ble_eq_true rfl⟩) hK hP rfl hl.1 rfl (Nat.le_of_ble_eq_true rfl) dX10_meet_2 ⟨Nat.le_of_ble_eq_true rfl, Nat.le_of_ble_eq_true rfl⟩ hS (fun r2 u H locs q2 hP hS => ?_)
  obtain ⟨rfl, q2⟩ := q2
  have hP : va_P D vwCl (WM cy mo a f g r q) H := hP
  have q2 : 0 ≤ r2.toInt ∧ r2.toInt < 65536 := q2
  refine lv_istore (lv' := [(6, .int r2), (0, .ref mo), (1, .long q0), (3, .int far0), (4, .long to0)]) hx hb dX10_meet_5 hl (by decide) rfl (fun ls hl => ?_)
  refine lv_aload_n hx hb dX10_meet_7 rfl (lv_at hl 1 rfl) ?_
  refine m_get (v := .ref (a 21)) hx hb hts hin hown hK hP 21 (by decide) rfl (hts (.fieldLink RX10 49 "ShadowBenchModel" "place" "[I") (by decide +kernel)) rfl dX10_meet_8 ?_
  refine lv_iload hx hb dX10_meet_11 (lv_at hl 0 rfl) ?_
  refine m_iald (w := (r 21)) hx hb hK hP 13 rfl (vp_in_iff.mpr ⟨by omega, by omega⟩) dX10_meet_13 ?_
  refine lv_topi (fun v13 e13 => ?_)
  have i13 : v13.toInt = ((r 21) r2.toNatClampNeg).toInt := congrArg Int32.toInt e13
  refine lv_if_lt (tgt := 19) hx hb dX10_meet_14 (by decide) (fun c14 => ?_) (fun c14 => ?_)
  · skip
    have d14 := c14
    rw [fa_lt] at d14
    refine lv_aload_n hx hb dX10_meet_19 rfl (lv_at hl 1 rfl) ?_
    refine m_get (v := .int (f 22)) hx hb hts hin hown hK hP 22 (by decide) rfl (hts (.fieldLink RX10 217 "ShadowBenchModel" "many" "I") (by decide +kernel)) rfl dX10_meet_20 ?_
    refine lv_sipush (v := 20000) hx hb dX10_meet_23 (by decide) ?_
    refine lv_icmp_ne (tgt := 32) hx hb dX10_meet_26 (by decide) (fun c26 => ?_) (fun c26 => ?_)
    · skip
      have d26 := c26
      rw [fa_eq] at d26
      have hfr : (r 21 r2.toNatClampNeg).toInt < 0 := by omega
      have hcl := m_cl (x := r2) (by omega)
      have hput := ct21_put (p := r 21) (i := r2.toNatClampNeg) (v := f 22) (by omega) hfr
      refine lv_aload_n hx hb dX10_meet_32 rfl (lv_at hl 1 rfl) ?_
      refine m_get (v := .ref (a 21)) hx hb hts hin hown hK hP 21 (by decide) rfl (hts (.fieldLink RX10 49 "ShadowBenchModel" "place" "[I") (by decide +kernel)) rfl dX10_meet_33 ?_
      refine lv_iload hx hb dX10_meet_36 (lv_at hl 0 rfl) ?_
      refine lv_aload_n hx hb dX10_meet_38 rfl (lv_at hl 1 rfl) ?_
      refine m_get (v := .int (f 22)) hx hb hts hin hown hK hP 22 (by decide) rfl (hts (.fieldLink RX10 217 "ShadowBenchModel" "many" "I") (by decide +kernel)) rfl dX10_meet_39 ?_
      refine m_iast (w := (r 21)) hx hb hK hP hD hS 13 rfl (vp_in_iff.mpr ⟨by omega, by omega⟩) (va_up r 21 (upd (r 21) r2.toNatClampNeg (f 22))) (ms_21 cy mo a _ _ _ _ _) dX10_meet_42 (fun H locs hP hS => ?_)
      refine lv_aload_n hx hb dX10_meet_43 rfl (lv_at hl 1 rfl) ?_
      refine m_get (v := .ref (a 19)) hx hb hts hin hown hK hP 19 (by decide) rfl (hts (.fieldLink RX10 41 "ShadowBenchModel" "row" "[J") (by decide +kernel)) rfl dX10_meet_44 ?_
      refine lv_aload_n hx hb dX10_meet_47 rfl (lv_at hl 1 rfl) ?_
      refine m_get (v := .int (f 22)) hx hb hts hin hown hK hP 22 (by decide) rfl (hts (.fieldLink RX10 217 "ShadowBenchModel" "many" "I") (by decide +kernel)) rfl dX10_meet_48 ?_
      refine lv_lload_n hx hb dX10_meet_51 rfl (lv_at hl 2 rfl) ?_
      refine m_last (w := (q 19)) hx hb hK hP hD hS 11 rfl (vp_in_iff.mpr ⟨by omega, by omega⟩) (va_up q 19 (vp_updL (q 19) (f 22).toNatClampNeg q0)) (ms_19 cy mo a _ _ _ _ _) dX10_meet_52 (fun H locs hP hS => ?_)
      refine lv_aload_n hx hb dX10_meet_53 rfl (lv_at hl 1 rfl) ?_
      refine m_get (v := .ref (a 20)) hx hb hts hin hown hK hP 20 (by decide) rfl (hts (.fieldLink RX10 45 "ShadowBenchModel" "steps" "[I") (by decide +kernel)) rfl dX10_meet_54 ?_
      refine lv_aload_n hx hb dX10_meet_57 rfl (lv_at hl 1 rfl) ?_
      refine m_get (v := .int (f 22)) hx hb hts hin hown hK hP 22 (by decide) rfl (hts (.fieldLink RX10 217 "ShadowBenchModel" "many" "I") (by decide +kernel)) rfl dX10_meet_58 ?_
      refine lv_iload_n hx hb dX10_meet_61 rfl (lv_at hl 3 rfl) ?_
      refine m_iast (w := (r 20)) hx hb hK hP hD hS 12 rfl (vp_in_iff.mpr ⟨by omega, by omega⟩) (va_up (va_up r 21 ((upd (r 21) r2.toNatClampNeg (f 22)))) 20 (upd (r 20) (f 22).toNatClampNeg far0)) (ms_20 cy mo a _ _ _ _ _) dX10_meet_62 (fun H locs hP hS => ?_)
      refine lv_aload_n hx hb dX10_meet_63 rfl (lv_at hl 1 rfl) ?_
      refine lv_dup hx hb dX10_meet_64 rfl ?_
      refine m_get (v := .int (f 22)) hx hb hts hin hown hK hP 22 (by decide) rfl (hts (.fieldLink RX10 217 "ShadowBenchModel" "many" "I") (by decide +kernel)) rfl dX10_meet_65 ?_
      refine lv_iconst (v := 1) hx hb dX10_meet_68 (by decide) ?_
      refine lv_iadd hx hb dX10_meet_69 ?_
      refine lv_topi (fun v69 e69 => ?_)
      have i69 : v69.toInt = (f 22).toInt + (1 : Int32).toInt := by rw [e69]; exact fb_addI (by omega) (by omega)
      refine m_put (v := .int v69) (ty := .int) hx hb hts hin hown hK hP hD hS 22 (by decide) rfl (hts (.fieldLink RX10 217 "ShadowBenchModel" "many" "I") (by decide +kernel)) rfl (by decide +kernel) rfl rfl (upd f 22 v69) g rfl dX10_meet_70 (fun H locs hP hS => ?_)
      refine lv_lload_n hx hb dX10_meet_73 rfl (lv_at hl 2 rfl) ?_
      refine lv_lload hx hb dX10_meet_74 (lv_at hl 4 rfl) ?_
      refine W.lcmp hx hb dX10_meet_76 ?_
      refine lv_if_ne (tgt := 84) hx hb dX10_meet_77 (by decide) (fun c77 => ?_) (fun c77 => ?_)
      · skip
        have d77 := c77
        rw [lg_cmp_eq, fa_eq64] at d77
        refine lv_iconst (v := 0) hx hb dX10_meet_84 (by decide) ?_
        have hP := wm_eq rfl rfl (ec_r_21_20__21_20 r ((upd (r 21) r2.toNatClampNeg (f 22))) ((upd (r 20) (f 22).toNatClampNeg far0))) (ec_q_19__19 q ((vp_updL (q 19) (f 22).toNatClampNeg q0))) hP
        exact W.iret (v := (0 : Int32)) hx hb hr (fun t ht hW => ⟨⟨_, ((upd f 22 v69), g, (va_up (va_up r 21 (((upd (r 21) r2.toNatClampNeg (f 22))))) 20 (((upd (r 20) (f 22).toNatClampNeg far0)))), (va_up q 19 (((vp_updL (q 19) (f 22).toNatClampNeg q0))))), rfl, ⟨((upd (r 21) r2.toNatClampNeg (f 22))), ((vp_updL (q 19) (f 22).toNatClampNeg q0)), ((upd (r 20) (f 22).toNatClampNeg far0)), v69, rfl, ⟨by first | exact hp1 | exact pb_put hp1 (by omega), by omega, by omega⟩⟩, by unfold mB; rw [ht]; exact hP⟩, hS.F ht⟩) hS.2.2 dX10_meet_85
      · skip
        have d77 := c77
        rw [lg_cmp_eq, fa_eq64] at d77
        refine lv_iload_n hx hb dX10_meet_80 rfl (lv_at hl 3 rfl) ?_
        refine lv_goto (tgt := 85) hx hb dX10_meet_81 (by decide) ?_
        have hP := wm_eq rfl rfl (ec_r_21_20__21_20 r ((upd (r 21) r2.toNatClampNeg (f 22))) ((upd (r 20) (f 22).toNatClampNeg far0))) (ec_q_19__19 q ((vp_updL (q 19) (f 22).toNatClampNeg q0))) hP
        exact W.iret (v := far0) hx hb hr (fun t ht hW => ⟨⟨_, ((upd f 22 v69), g, (va_up (va_up r 21 (((upd (r 21) r2.toNatClampNeg (f 22))))) 20 (((upd (r 20) (f 22).toNatClampNeg far0)))), (va_up q 19 (((vp_updL (q 19) (f 22).toNatClampNeg q0))))), rfl, ⟨((upd (r 21) r2.toNatClampNeg (f 22))), ((vp_updL (q 19) (f 22).toNatClampNeg q0)), ((upd (r 20) (f 22).toNatClampNeg far0)), v69, rfl, ⟨by first | exact hp1 | exact pb_put hp1 (by omega), by omega, by omega⟩⟩, by unfold mB; rw [ht]; exact hP⟩, hS.F ht⟩) hS.2.2 dX10_meet_85
    · skip
      have d26 := c26
      rw [fa_eq] at d26
      refine lv_bipush (v := (-5)) hx hb dX10_meet_29 (by decide) ?_
      have hP := wm_eq (ec_f___22 f ) rfl (ec_r___21_20 r ) (ec_q___19 q ) hP
      exact W.iret (v := ((-5) : Int32)) hx hb hr (fun t ht hW => ⟨⟨_, ((upd f 22 (f 22)), g, (va_up (va_up r 21 (r 21)) 20 (r 20)), (va_up q 19 (q 19))), rfl, ⟨(r 21), (q 19), (r 20), (f 22), rfl, ⟨by first | exact hp1 | exact pb_put hp1 (by omega), by omega, by omega⟩⟩, by unfold mB; rw [ht]; exact hP⟩, hS.F ht⟩) hS.2.2 dX10_meet_31
  · skip
    have d14 := c14
    rw [fa_lt] at d14
    refine lv_iconst (v := 0) hx hb dX10_meet_17 (by decide) ?_
    have hP := wm_eq (ec_f___22 f ) rfl (ec_r___21_20 r ) (ec_q___19 q ) hP
    exact W.iret (v := (0 : Int32)) hx hb hr (fun t ht hW => ⟨⟨_, ((upd f 22 (f 22)), g, (va_up (va_up r 21 (r 21)) 20 (r 20)), (va_up q 19 (q 19))), rfl, ⟨(r 21), (q 19), (r 20), (f 22), rfl, ⟨by first | exact hp1 | exact pb_put hp1 (by omega), by omega, by omega⟩⟩, by unfold mB; rw [ht]; exact hP⟩, hS.F ht⟩) hS.2.2 dX10_meet_18
set_option maxHeartbeats 4000000 in
set_option maxRecDepth 100000 in
theorem c_X10_meetAll (l : Launch) (D : va_G) (cy : Nat → ClassId) (mo : Nat) (a : Nat → Nat) (f : Nat → Int32) (g : Nat → Int64) (r : Nat → Nat → Int32) (q : Nat → Nat → Int64) (w : Int32) (h : Int32) (k0 : Int32) (to0 : Int64) (hD : DM cy mo a) (hw : 1 ≤ w.toInt ∧ w.toInt ≤ 6) (hh : 1 ≤ h.toInt ∧ h.toInt ≤ 6) (hp1 : PB (r 21)) (hm : 1 ≤ (f 22).toInt ∧ (f 22).toInt ≤ 20000) (hc : (ct21 (r 21) : Int) ≤ (f 22).toInt) (hk : 0 ≤ k0.toInt ∧ k0.toInt < 20000) : Mi l D cy mo a yX10_meetAll wsX10_meetAll ({ frames := 2, cells := 0, slots := 0, locals := 49 }) f g r q [.int w, .int h, .int k0, .long to0] (fun r0 u => ∃ (pl : Nat → Int32), ∃ (rr : Nat → Int64), ∃ (st : Nat → Int32), ∃ (mn : Int32), u = ((upd f 22 mn), g, (va_up (va_up r 21 pl) 20 st), (va_up q 19 rr)) ∧ (PB pl ∧ ((f 22).toInt ≤ mn.toInt ∧ mn.toInt ≤ 20000) ∧ (ct21 pl : Int) ≤ mn.toInt)) := by
  refine Met.ofW (cc := cX10_meetAll) (maxL := 17) (ret := (some .int)) (by decide) rfl ?_
  intro p e s m args below meth c s₁ B hml hv
  obtain ⟨rfl, hP, hK⟩ := hv
  have hx := B.exec
  have hb := B.bytes
  have hr := B.returns
  have hts := atoms_spec (ws := wsX10_meetAll) B.pre
  have hin : ∀ w ∈ u_ws RX10 TX10 35, w ∈ wsX10_meetAll := by decide +kernel
  have hown : s.vm.findClass RX10 = some m.cls := findClass_of_methodNamed B.named
  have hlocks := B.notSynchronized
  have hS : va_S (AM mo a) s.heap s.heap [] := va_S.rf
  have hl := lv_entry ([.ref mo, .int w, .int h, .int k0, .long to0]) (n := 17) (Nat.le_of_ble_eq_true rfl)
  rw [lg_entry_eq]
  generalize (lg_sl ([.ref mo, .int w, .int h, .int k0, .long to0]) ++ List.replicate (17 - (lg_sl ([.ref mo, .int w, .int h, .int k0, .long to0])).length) Slot.unset).toArray = ls at hl ⊢
  have hl : lv_has ls 17 [(0, .ref mo), (1, .int w), (2, .int h), (3, .int k0), (4, .long to0)] := hl
  have k_0 : (0 : Int32).toInt = 0 := by decide
  have k_1 : (1 : Int32).toInt = 1 := by decide
  have k_1L : (1 : Int64).toInt = 1 := by decide
  have m4 := mul4 hw hh
  refine lv_aload_n hx hb dX10_meetAll_0 rfl (lv_at hl 0 rfl) ?_
  refine m_get (v := .ref (a 19)) hx hb hts hin hown hK hP 19 (by decide) rfl (hts (.fieldLink RX10 41 "ShadowBenchModel" "row" "[J") (by decide +kernel)) rfl dX10_meetAll_1 ?_
  refine lv_iload_n hx hb dX10_meetAll_4 rfl (lv_at hl 3 rfl) ?_
  refine m_lald (w := (q 19)) hx hb hK hP 11 rfl (vp_in_iff.mpr ⟨by omega, by omega⟩) dX10_meetAll_5 ?_
  refine lv_topl (fun v5 e5 => ?_)
  refine lv_lstore (lv' := [(6, .long v5), (0, .ref mo), (1, .int w), (2, .int h), (3, .int k0), (4, .long to0)]) hx hb dX10_meetAll_6 hl (by decide) rfl (fun ls hl => ?_)
  refine lv_iconst (v := 0) hx hb dX10_meetAll_8 (by decide) ?_
  refine lv_istore (lv' := [(8, .int (0 : Int32)), (6, .long v5), (0, .ref mo), (1, .int w), (2, .int h), (3, .int k0), (4, .long to0)]) hx hb dX10_meetAll_9 hl (by decide) rfl (fun ls hl => ?_)
  have loop_11 : ∀ (n : Nat) (s1 : Nat) (pl1 : Nat → Int32) (rr1 : Nat → Int64) (st1 : Nat → Int32) (mn1 : Int32), (s1 ≤ 1296) → (PB pl1) → ((f 22).toInt ≤ mn1.toInt ∧ mn1.toInt ≤ 20000) → ((ct21 pl1 : Int) ≤ mn1.toInt) → 1296 - s1 < n → ∀ (H : Heap) (locs : List Loc), va_P D vwCl (WM cy mo a (upd f 22 mn1) g (va_up (va_up r 21 pl1) 20 st1) (va_up q 19 rr1)) H → va_S (AM mo a) s.heap H locs → ∀ (ls : Array Slot), lv_has ls 17 [(8, .int (nI s1)), (6, .long v5), (0, .ref mo), (1, .int w), (2, .int h), (3, .int k0), (4, .long to0)] → W p l e (headSpec wsX10_meetAll ({ frames := 2, cells := 0, slots := 0, locals := 49 })).room s m #[Value.ref mo, Value.int w, Value.int h, Value.int k0, Value.long to0] below meth c H locs 0 0 (MQ below (va_Qi (fun r0 u => ∃ (pl : Nat → Int32), ∃ (rr : Nat → Int64), ∃ (st : Nat → Int32), ∃ (mn : Int32), u = ((upd f 22 mn), g, (va_up (va_up r 21 pl) 20 st), (va_up q 19 rr)) ∧ (PB pl ∧ ((f 22).toInt ≤ mn.toInt ∧ mn.toInt ≤ 20000) ∧ (ct21 pl : Int) ≤ mn.toInt)) (mB D cy mo a) (AM mo a)) #[Value.ref mo, Value.int w, Value.int h, Value.int k0, Value.long to0] s 0 0 (AM mo a)) (F0 m 11 ls []) := by
    intro n
    induction n with
    | zero => intro s1 pl1 rr1 st1 mn1 j11_0 j11_1 j11_2 j11_3 hn; exact absurd hn (Nat.not_lt_zero _)
    | succ n ih_11 =>
      intro s1 pl1 rr1 st1 mn1 j11_0 j11_1 j11_2 j11_3 hn_11 H locs hP hS ls hl
      have is1 : (nI s1).toInt = (s1 : Int) := nI_toInt (by omega)
      refine lv_iload hx hb dX10_meetAll_11 (lv_at hl 0 rfl) ?_
      refine lv_iload_n hx hb dX10_meetAll_13 rfl (lv_at hl 3 rfl) ?_
      refine lv_iload_n hx hb dX10_meetAll_14 rfl (lv_at hl 4 rfl) ?_
      refine lv_imul hx hb dX10_meetAll_15 ?_
      refine lv_topi (fun v15 e15 => ?_)
      have i15 : v15.toInt = w.toInt * h.toInt := by rw [e15]; exact fb_mulI (by omega) (by omega)
      refine lv_iload_n hx hb dX10_meetAll_16 rfl (lv_at hl 3 rfl) ?_
      have t17 : v15.toInt * w.toInt = w.toInt * h.toInt * w.toInt := by rw [i15]
      refine lv_imul hx hb dX10_meetAll_17 ?_
      refine lv_topi (fun v17 e17 => ?_)
      have i17 : v17.toInt = v15.toInt * w.toInt := by rw [e17]; exact fb_mulI (by omega) (by omega)
      refine lv_iload_n hx hb dX10_meetAll_18 rfl (lv_at hl 4 rfl) ?_
      have t19 : v17.toInt * h.toInt = w.toInt * h.toInt * w.toInt * h.toInt := by rw [i17, t17]
      refine lv_imul hx hb dX10_meetAll_19 ?_
      refine lv_topi (fun v19 e19 => ?_)
      have i19 : v19.toInt = v17.toInt * h.toInt := by rw [e19]; exact fb_mulI (by omega) (by omega)
      refine lv_icmp_ge (tgt := 240) hx hb dX10_meetAll_20 (by decide) (fun c20 => ?_) (fun c20 => ?_)
      · skip
        have d20 := c20
        rw [fa_le] at d20
        refine lv_iconst (v := 0) hx hb dX10_meetAll_240 (by decide) ?_
        exact W.iret (v := (0 : Int32)) hx hb hr (fun t ht hW => ⟨⟨_, ((upd f 22 mn1), g, (va_up (va_up r 21 pl1) 20 st1), (va_up q 19 rr1)), rfl, ⟨pl1, rr1, st1, mn1, rfl, by first | exact ⟨q221.1, by omega, q221.2.2⟩ | exact ⟨j11_1, by omega, j11_3⟩⟩, by unfold mB; rw [ht]; exact hP⟩, hS.F ht⟩) hS.2.2 dX10_meetAll_241
      · skip
        have d20 := c20
        rw [fa_le] at d20
        refine lv_iload hx hb dX10_meetAll_23 (lv_at hl 0 rfl) ?_
        refine lv_iload_n hx hb dX10_meetAll_25 rfl (lv_at hl 3 rfl) ?_
        refine lv_iload_n hx hb dX10_meetAll_26 rfl (lv_at hl 3 rfl) ?_
        refine lv_imul hx hb dX10_meetAll_27 ?_
        refine lv_topi (fun v27 e27 => ?_)
        have i27 : v27.toInt = w.toInt * w.toInt := by rw [e27]; exact fb_mulI (by omega) (by omega)
        refine lv_iload_n hx hb dX10_meetAll_28 rfl (lv_at hl 4 rfl) ?_
        have t29 : v27.toInt * h.toInt = w.toInt * w.toInt * h.toInt := by rw [i27]
        refine lv_imul hx hb dX10_meetAll_29 ?_
        refine lv_topi (fun v29 e29 => ?_)
        have i29 : v29.toInt = v27.toInt * h.toInt := by rw [e29]; exact fb_mulI (by omega) (by omega)
        refine lv_idiv hx hb dX10_meetAll_30 (fun z => by rw [fa_eq] at z; omega) ?_
        refine lv_topi (fun v30 e30 => ?_)
        have i30 : v30.toInt = (nI s1).toInt / v29.toInt := by rw [e30]; exact my_idiv (by omega) (by omega)
        have j30 : 0 ≤ v30.toInt ∧ v30.toInt ≤ (nI s1).toInt := by rw [e30]; exact my_divb (by omega) (by omega)
        refine lv_istore (lv' := [(9, .int v30), (8, .int (nI s1)), (6, .long v5), (0, .ref mo), (1, .int w), (2, .int h), (3, .int k0), (4, .long to0)]) hx hb dX10_meetAll_31 hl (by decide) rfl (fun ls hl => ?_)
        refine lv_iload hx hb dX10_meetAll_33 (lv_at hl 1 rfl) ?_
        refine lv_iload_n hx hb dX10_meetAll_35 rfl (lv_at hl 4 rfl) ?_
        refine lv_iload_n hx hb dX10_meetAll_36 rfl (lv_at hl 4 rfl) ?_
        refine lv_imul hx hb dX10_meetAll_37 ?_
        refine lv_topi (fun v37 e37 => ?_)
        have i37 : v37.toInt = w.toInt * w.toInt := by rw [e37]; exact fb_mulI (by omega) (by omega)
        refine lv_idiv hx hb dX10_meetAll_38 (fun z => by rw [fa_eq] at z; omega) ?_
        refine lv_topi (fun v38 e38 => ?_)
        have i38 : v38.toInt = (nI s1).toInt / v37.toInt := by rw [e38]; exact my_idiv (by omega) (by omega)
        have j38 : 0 ≤ v38.toInt ∧ v38.toInt ≤ (nI s1).toInt := by rw [e38]; exact my_divb (by omega) (by omega)
        refine lv_iload_n hx hb dX10_meetAll_39 rfl (lv_at hl 5 rfl) ?_
        refine lv_irem hx hb dX10_meetAll_40 (fun z => by rw [fa_eq] at z; omega) ?_
        refine lv_topi (fun v40 e40 => ?_)
        have i40 : v40.toInt = v38.toInt % h.toInt := by rw [e40]; exact my_irem (by omega) (by omega)
        have j40 : 0 ≤ v40.toInt ∧ v40.toInt < h.toInt ∧ v40.toInt ≤ v38.toInt := by rw [e40]; exact my_remb (by omega) (by omega)
        refine lv_istore (lv' := [(10, .int v40), (9, .int v30), (8, .int (nI s1)), (6, .long v5), (0, .ref mo), (1, .int w), (2, .int h), (3, .int k0), (4, .long to0)]) hx hb dX10_meetAll_41 hl (by decide) rfl (fun ls hl => ?_)
        refine lv_iload hx hb dX10_meetAll_43 (lv_at hl 2 rfl) ?_
        refine lv_iload_n hx hb dX10_meetAll_45 rfl (lv_at hl 5 rfl) ?_
        refine lv_idiv hx hb dX10_meetAll_46 (fun z => by rw [fa_eq] at z; omega) ?_
        refine lv_topi (fun v46 e46 => ?_)
        have i46 : v46.toInt = (nI s1).toInt / w.toInt := by rw [e46]; exact my_idiv (by omega) (by omega)
        have j46 : 0 ≤ v46.toInt ∧ v46.toInt ≤ (nI s1).toInt := by rw [e46]; exact my_divb (by omega) (by omega)
        refine lv_iload_n hx hb dX10_meetAll_47 rfl (lv_at hl 5 rfl) ?_
        refine lv_irem hx hb dX10_meetAll_48 (fun z => by rw [fa_eq] at z; omega) ?_
        refine lv_topi (fun v48 e48 => ?_)
        have i48 : v48.toInt = v46.toInt % w.toInt := by rw [e48]; exact my_irem (by omega) (by omega)
        have j48 : 0 ≤ v48.toInt ∧ v48.toInt < w.toInt ∧ v48.toInt ≤ v46.toInt := by rw [e48]; exact my_remb (by omega) (by omega)
        refine lv_istore (lv' := [(11, .int v48), (10, .int v40), (9, .int v30), (8, .int (nI s1)), (6, .long v5), (0, .ref mo), (1, .int w), (2, .int h), (3, .int k0), (4, .long to0)]) hx hb dX10_meetAll_49 hl (by decide) rfl (fun ls hl => ?_)
        refine lv_iload hx hb dX10_meetAll_51 (lv_at hl 3 rfl) ?_
        refine lv_iload_n hx hb dX10_meetAll_53 rfl (lv_at hl 6 rfl) ?_
        refine lv_irem hx hb dX10_meetAll_54 (fun z => by rw [fa_eq] at z; omega) ?_
        refine lv_topi (fun v54 e54 => ?_)
        have i54 : v54.toInt = (nI s1).toInt % w.toInt := by rw [e54]; exact my_irem (by omega) (by omega)
        have j54 : 0 ≤ v54.toInt ∧ v54.toInt < w.toInt ∧ v54.toInt ≤ (nI s1).toInt := by rw [e54]; exact my_remb (by omega) (by omega)
        refine lv_istore (lv' := [(12, .int v54), (11, .int v48), (10, .int v40), (9, .int v30), (8, .int (nI s1)), (6, .long v5), (0, .ref mo), (1, .int w), (2, .int h), (3, .int k0), (4, .long to0)]) hx hb dX10_meetAll_55 hl (by decide) rfl (fun ls hl => ?_)
        refine lv_iload hx hb dX10_meetAll_57 (lv_at hl 3 rfl) ?_
        refine lv_iload hx hb dX10_meetAll_59 (lv_at hl 2 rfl) ?_
        refine lv_icmp_ge (tgt := 156) hx hb dX10_meetAll_61 (by decide) (fun c61 => ?_) (fun c61 => ?_)
        · skip
          have d61 := c61
          rw [fa_le] at d61
          refine lv_iconst (v := 0) hx hb dX10_meetAll_156 (by decide) ?_
          refine lv_istore (lv' := [(13, .int (0 : Int32)), (12, .int v54), (11, .int v48), (10, .int v40), (9, .int v30), (8, .int (nI s1)), (6, .long v5), (0, .ref mo), (1, .int w), (2, .int h), (3, .int k0), (4, .long to0)]) hx hb dX10_meetAll_157 hl (by decide) rfl (fun ls hl => ?_)
          refine lv_iload hx hb dX10_meetAll_159 (lv_at hl 0 rfl) ?_
          refine lv_if_eq (tgt := 234) hx hb dX10_meetAll_161 (by decide) (fun c161 => ?_) (fun c161 => ?_)
          · skip
            have d161 := c161
            rw [fa_eq] at d161
            refine lv_iinc (v := (nI (s1 + 1))) (lv' := [(8, .int (nI (s1 + 1))), (13, .int (0 : Int32)), (12, .int v54), (11, .int v48), (10, .int v40), (9, .int v30), (6, .long v5), (0, .ref mo), (1, .int w), (2, .int h), (3, .int k0), (4, .long to0)]) hx hb dX10_meetAll_234 hl (k := 5) rfl (nI_1 _) (by decide) rfl (fun ls hl => ?_)
            refine lv_goto (tgt := 11) hx hb dX10_meetAll_237 (by decide) ?_
            exact ih_11 (s1 + 1) pl1 rr1 st1 mn1 (by omega) (by first | exact q221.1 | assumption) (by omega) (by first | exact q221.2.2 | assumption) (by omega) _ _ hP hS ls (lv_sub hl [0, 6, 7, 8, 9, 10, 11] rfl)
          · first | exact absurd c161 (by decide) | exact absurd (by decide) c161
        · skip
          have d61 := c61
          rw [fa_le] at d61
          refine lv_iload hx hb dX10_meetAll_64 (lv_at hl 1 rfl) ?_
          refine lv_iload hx hb dX10_meetAll_66 (lv_at hl 0 rfl) ?_
          refine lv_icmp_ge (tgt := 156) hx hb dX10_meetAll_68 (by decide) (fun c68 => ?_) (fun c68 => ?_)
          · skip
            have d68 := c68
            rw [fa_le] at d68
            refine lv_iconst (v := 0) hx hb dX10_meetAll_156 (by decide) ?_
            refine lv_istore (lv' := [(13, .int (0 : Int32)), (12, .int v54), (11, .int v48), (10, .int v40), (9, .int v30), (8, .int (nI s1)), (6, .long v5), (0, .ref mo), (1, .int w), (2, .int h), (3, .int k0), (4, .long to0)]) hx hb dX10_meetAll_157 hl (by decide) rfl (fun ls hl => ?_)
            refine lv_iload hx hb dX10_meetAll_159 (lv_at hl 0 rfl) ?_
            refine lv_if_eq (tgt := 234) hx hb dX10_meetAll_161 (by decide) (fun c161 => ?_) (fun c161 => ?_)
            · skip
              have d161 := c161
              rw [fa_eq] at d161
              refine lv_iinc (v := (nI (s1 + 1))) (lv' := [(8, .int (nI (s1 + 1))), (13, .int (0 : Int32)), (12, .int v54), (11, .int v48), (10, .int v40), (9, .int v30), (6, .long v5), (0, .ref mo), (1, .int w), (2, .int h), (3, .int k0), (4, .long to0)]) hx hb dX10_meetAll_234 hl (k := 5) rfl (nI_1 _) (by decide) rfl (fun ls hl => ?_)
              refine lv_goto (tgt := 11) hx hb dX10_meetAll_237 (by decide) ?_
              exact ih_11 (s1 + 1) pl1 rr1 st1 mn1 (by omega) (by first | exact q221.1 | assumption) (by omega) (by first | exact q221.2.2 | assumption) (by omega) _ _ hP hS ls (lv_sub hl [0, 6, 7, 8, 9, 10, 11] rfl)
            · first | exact absurd c161 (by decide) | exact absurd (by decide) c161
          · skip
            have d68 := c68
            rw [fa_le] at d68
            refine lv_lload hx hb dX10_meetAll_71 (lv_at hl 5 rfl) ?_
            refine lv_iload hx hb dX10_meetAll_73 (lv_at hl 3 rfl) ?_
            refine lv_iload_n hx hb dX10_meetAll_75 rfl (lv_at hl 7 rfl) ?_
            refine lv_imul hx hb dX10_meetAll_76 ?_
            refine lv_topi (fun v76 e76 => ?_)
            refine lv_iload hx hb dX10_meetAll_77 (lv_at hl 1 rfl) ?_
            refine lv_iadd hx hb dX10_meetAll_79 ?_
            refine lv_topi (fun v79 e79 => ?_)
            refine m_pu (As := [.long v5, .int v79]) (rest := []) ⟨hx, hb, hml, hown, hts⟩ (c_X10_one l v5 v79 ) (va_cwS 2 hts gX10_meetAll_X10_one rfl rfl rfl (by decide +kernel) ⟨Nat.le_of_ble_eq_true rfl, Nat.le_of_ble_eq_true rfl⟩) hP rfl hl.1 rfl (Nat.le_of_ble_eq_true rfl) dX10_meetAll_80 ⟨Nat.le_of_ble_eq_true rfl, Nat.le_of_ble_eq_true rfl⟩ hS (fun r80 H locs q80 hP hS => ?_)
            have i80 : r80.toInt = (r_one v5 v79).toInt := congrArg Int32.toInt q80
            refine lv_lload hx hb dX10_meetAll_83 (lv_at hl 5 rfl) ?_
            refine lv_iload hx hb dX10_meetAll_85 (lv_at hl 2 rfl) ?_
            refine lv_iload_n hx hb dX10_meetAll_87 rfl (lv_at hl 7 rfl) ?_
            refine lv_imul hx hb dX10_meetAll_88 ?_
            refine lv_topi (fun v88 e88 => ?_)
            refine lv_iload hx hb dX10_meetAll_89 (lv_at hl 0 rfl) ?_
            refine lv_iadd hx hb dX10_meetAll_91 ?_
            refine lv_topi (fun v91 e91 => ?_)
            refine m_pu (As := [.long v5, .int v91]) (rest := [.int r80]) ⟨hx, hb, hml, hown, hts⟩ (c_X10_one l v5 v91 ) (va_cwS 2 hts gX10_meetAll_X10_one rfl rfl rfl (by decide +kernel) ⟨Nat.le_of_ble_eq_true rfl, Nat.le_of_ble_eq_true rfl⟩) hP rfl hl.1 rfl (Nat.le_of_ble_eq_true rfl) dX10_meetAll_92 ⟨Nat.le_of_ble_eq_true rfl, Nat.le_of_ble_eq_true rfl⟩ hS (fun r92 H locs q92 hP hS => ?_)
            have i92 : r92.toInt = (r_one v5 v91).toInt := congrArg Int32.toInt q92
            refine lv_icmp_ne (tgt := 156) hx hb dX10_meetAll_95 (by decide) (fun c95 => ?_) (fun c95 => ?_)
            · skip
              have d95 := c95
              rw [fa_eq] at d95
              refine lv_iconst (v := 0) hx hb dX10_meetAll_156 (by decide) ?_
              refine lv_istore (lv' := [(13, .int (0 : Int32)), (12, .int v54), (11, .int v48), (10, .int v40), (9, .int v30), (8, .int (nI s1)), (6, .long v5), (0, .ref mo), (1, .int w), (2, .int h), (3, .int k0), (4, .long to0)]) hx hb dX10_meetAll_157 hl (by decide) rfl (fun ls hl => ?_)
              refine lv_iload hx hb dX10_meetAll_159 (lv_at hl 0 rfl) ?_
              refine lv_if_eq (tgt := 234) hx hb dX10_meetAll_161 (by decide) (fun c161 => ?_) (fun c161 => ?_)
              · skip
                have d161 := c161
                rw [fa_eq] at d161
                refine lv_iinc (v := (nI (s1 + 1))) (lv' := [(8, .int (nI (s1 + 1))), (13, .int (0 : Int32)), (12, .int v54), (11, .int v48), (10, .int v40), (9, .int v30), (6, .long v5), (0, .ref mo), (1, .int w), (2, .int h), (3, .int k0), (4, .long to0)]) hx hb dX10_meetAll_234 hl (k := 5) rfl (nI_1 _) (by decide) rfl (fun ls hl => ?_)
                refine lv_goto (tgt := 11) hx hb dX10_meetAll_237 (by decide) ?_
                exact ih_11 (s1 + 1) pl1 rr1 st1 mn1 (by omega) (by first | exact q221.1 | assumption) (by omega) (by first | exact q221.2.2 | assumption) (by omega) _ _ hP hS ls (lv_sub hl [0, 6, 7, 8, 9, 10, 11] rfl)
              · first | exact absurd c161 (by decide) | exact absurd (by decide) c161
            · skip
              have d95 := c95
              rw [fa_eq] at d95
              refine lv_lload hx hb dX10_meetAll_98 (lv_at hl 5 rfl) ?_
              refine lv_iload hx hb dX10_meetAll_100 (lv_at hl 3 rfl) ?_
              refine lv_iload_n hx hb dX10_meetAll_102 rfl (lv_at hl 7 rfl) ?_
              refine lv_imul hx hb dX10_meetAll_103 ?_
              refine lv_topi (fun v103 e103 => ?_)
              refine lv_iload hx hb dX10_meetAll_104 (lv_at hl 0 rfl) ?_
              refine lv_iadd hx hb dX10_meetAll_106 ?_
              refine lv_topi (fun v106 e106 => ?_)
              refine m_pu (As := [.long v5, .int v106]) (rest := []) ⟨hx, hb, hml, hown, hts⟩ (c_X10_one l v5 v106 ) (va_cwS 2 hts gX10_meetAll_X10_one rfl rfl rfl (by decide +kernel) ⟨Nat.le_of_ble_eq_true rfl, Nat.le_of_ble_eq_true rfl⟩) hP rfl hl.1 rfl (Nat.le_of_ble_eq_true rfl) dX10_meetAll_107 ⟨Nat.le_of_ble_eq_true rfl, Nat.le_of_ble_eq_true rfl⟩ hS (fun r107 H locs q107 hP hS => ?_)
              have i107 : r107.toInt = (r_one v5 v106).toInt := congrArg Int32.toInt q107
              refine lv_lload hx hb dX10_meetAll_110 (lv_at hl 5 rfl) ?_
              refine lv_iload hx hb dX10_meetAll_112 (lv_at hl 2 rfl) ?_
              refine lv_iload_n hx hb dX10_meetAll_114 rfl (lv_at hl 7 rfl) ?_
              refine lv_imul hx hb dX10_meetAll_115 ?_
              refine lv_topi (fun v115 e115 => ?_)
              refine lv_iload hx hb dX10_meetAll_116 (lv_at hl 1 rfl) ?_
              refine lv_iadd hx hb dX10_meetAll_118 ?_
              refine lv_topi (fun v118 e118 => ?_)
              refine m_pu (As := [.long v5, .int v118]) (rest := [.int r107]) ⟨hx, hb, hml, hown, hts⟩ (c_X10_one l v5 v118 ) (va_cwS 2 hts gX10_meetAll_X10_one rfl rfl rfl (by decide +kernel) ⟨Nat.le_of_ble_eq_true rfl, Nat.le_of_ble_eq_true rfl⟩) hP rfl hl.1 rfl (Nat.le_of_ble_eq_true rfl) dX10_meetAll_119 ⟨Nat.le_of_ble_eq_true rfl, Nat.le_of_ble_eq_true rfl⟩ hS (fun r119 H locs q119 hP hS => ?_)
              have i119 : r119.toInt = (r_one v5 v118).toInt := congrArg Int32.toInt q119
              refine lv_icmp_ne (tgt := 156) hx hb dX10_meetAll_122 (by decide) (fun c122 => ?_) (fun c122 => ?_)
              · skip
                have d122 := c122
                rw [fa_eq] at d122
                refine lv_iconst (v := 0) hx hb dX10_meetAll_156 (by decide) ?_
                refine lv_istore (lv' := [(13, .int (0 : Int32)), (12, .int v54), (11, .int v48), (10, .int v40), (9, .int v30), (8, .int (nI s1)), (6, .long v5), (0, .ref mo), (1, .int w), (2, .int h), (3, .int k0), (4, .long to0)]) hx hb dX10_meetAll_157 hl (by decide) rfl (fun ls hl => ?_)
                refine lv_iload hx hb dX10_meetAll_159 (lv_at hl 0 rfl) ?_
                refine lv_if_eq (tgt := 234) hx hb dX10_meetAll_161 (by decide) (fun c161 => ?_) (fun c161 => ?_)
                · skip
                  have d161 := c161
                  rw [fa_eq] at d161
                  refine lv_iinc (v := (nI (s1 + 1))) (lv' := [(8, .int (nI (s1 + 1))), (13, .int (0 : Int32)), (12, .int v54), (11, .int v48), (10, .int v40), (9, .int v30), (6, .long v5), (0, .ref mo), (1, .int w), (2, .int h), (3, .int k0), (4, .long to0)]) hx hb dX10_meetAll_234 hl (k := 5) rfl (nI_1 _) (by decide) rfl (fun ls hl => ?_)
                  refine lv_goto (tgt := 11) hx hb dX10_meetAll_237 (by decide) ?_
                  exact ih_11 (s1 + 1) pl1 rr1 st1 mn1 (by omega) (by first | exact q221.1 | assumption) (by omega) (by first | exact q221.2.2 | assumption) (by omega) _ _ hP hS ls (lv_sub hl [0, 6, 7, 8, 9, 10, 11] rfl)
                · first | exact absurd c161 (by decide) | exact absurd (by decide) c161
              · skip
                have d122 := c122
                rw [fa_eq] at d122
                refine lv_lload hx hb dX10_meetAll_125 (lv_at hl 5 rfl) ?_
                refine lv_iload hx hb dX10_meetAll_127 (lv_at hl 3 rfl) ?_
                refine lv_iload_n hx hb dX10_meetAll_129 rfl (lv_at hl 7 rfl) ?_
                refine lv_imul hx hb dX10_meetAll_130 ?_
                refine lv_topi (fun v130 e130 => ?_)
                refine lv_iload hx hb dX10_meetAll_131 (lv_at hl 1 rfl) ?_
                refine lv_iadd hx hb dX10_meetAll_133 ?_
                refine lv_topi (fun v133 e133 => ?_)
                refine m_pu (As := [.long v5, .int v133]) (rest := []) ⟨hx, hb, hml, hown, hts⟩ (c_X10_one l v5 v133 ) (va_cwS 2 hts gX10_meetAll_X10_one rfl rfl rfl (by decide +kernel) ⟨Nat.le_of_ble_eq_true rfl, Nat.le_of_ble_eq_true rfl⟩) hP rfl hl.1 rfl (Nat.le_of_ble_eq_true rfl) dX10_meetAll_134 ⟨Nat.le_of_ble_eq_true rfl, Nat.le_of_ble_eq_true rfl⟩ hS (fun r134 H locs q134 hP hS => ?_)
                have i134 : r134.toInt = (r_one v5 v133).toInt := congrArg Int32.toInt q134
                refine lv_lload hx hb dX10_meetAll_137 (lv_at hl 5 rfl) ?_
                refine lv_iload hx hb dX10_meetAll_139 (lv_at hl 3 rfl) ?_
                refine lv_iload_n hx hb dX10_meetAll_141 rfl (lv_at hl 7 rfl) ?_
                refine lv_imul hx hb dX10_meetAll_142 ?_
                refine lv_topi (fun v142 e142 => ?_)
                refine lv_iload hx hb dX10_meetAll_143 (lv_at hl 0 rfl) ?_
                refine lv_iadd hx hb dX10_meetAll_145 ?_
                refine lv_topi (fun v145 e145 => ?_)
                refine m_pu (As := [.long v5, .int v145]) (rest := [.int r134]) ⟨hx, hb, hml, hown, hts⟩ (c_X10_one l v5 v145 ) (va_cwS 2 hts gX10_meetAll_X10_one rfl rfl rfl (by decide +kernel) ⟨Nat.le_of_ble_eq_true rfl, Nat.le_of_ble_eq_true rfl⟩) hP rfl hl.1 rfl (Nat.le_of_ble_eq_true rfl) dX10_meetAll_146 ⟨Nat.le_of_ble_eq_true rfl, Nat.le_of_ble_eq_true rfl⟩ hS (fun r146 H locs q146 hP hS => ?_)
                have i146 : r146.toInt = (r_one v5 v145).toInt := congrArg Int32.toInt q146
                refine lv_icmp_eq (tgt := 156) hx hb dX10_meetAll_149 (by decide) (fun c149 => ?_) (fun c149 => ?_)
                · skip
                  have d149 := c149
                  rw [fa_eq] at d149
                  refine lv_iconst (v := 0) hx hb dX10_meetAll_156 (by decide) ?_
                  refine lv_istore (lv' := [(13, .int (0 : Int32)), (12, .int v54), (11, .int v48), (10, .int v40), (9, .int v30), (8, .int (nI s1)), (6, .long v5), (0, .ref mo), (1, .int w), (2, .int h), (3, .int k0), (4, .long to0)]) hx hb dX10_meetAll_157 hl (by decide) rfl (fun ls hl => ?_)
                  refine lv_iload hx hb dX10_meetAll_159 (lv_at hl 0 rfl) ?_
                  refine lv_if_eq (tgt := 234) hx hb dX10_meetAll_161 (by decide) (fun c161 => ?_) (fun c161 => ?_)
                  · skip
                    have d161 := c161
                    rw [fa_eq] at d161
                    refine lv_iinc (v := (nI (s1 + 1))) (lv' := [(8, .int (nI (s1 + 1))), (13, .int (0 : Int32)), (12, .int v54), (11, .int v48), (10, .int v40), (9, .int v30), (6, .long v5), (0, .ref mo), (1, .int w), (2, .int h), (3, .int k0), (4, .long to0)]) hx hb dX10_meetAll_234 hl (k := 5) rfl (nI_1 _) (by decide) rfl (fun ls hl => ?_)
                    refine lv_goto (tgt := 11) hx hb dX10_meetAll_237 (by decide) ?_
                    exact ih_11 (s1 + 1) pl1 rr1 st1 mn1 (by omega) (by first | exact q221.1 | assumption) (by omega) (by first | exact q221.2.2 | assumption) (by omega) _ _ hP hS ls (lv_sub hl [0, 6, 7, 8, 9, 10, 11] rfl)
                  · first | exact absurd c161 (by decide) | exact absurd (by decide) c161
                · skip
                  have d149 := c149
                  rw [fa_eq] at d149
                  refine lv_iconst (v := 1) hx hb dX10_meetAll_152 (by decide) ?_
                  refine lv_goto (tgt := 157) hx hb dX10_meetAll_153 (by decide) ?_
                  refine lv_istore (lv' := [(13, .int (1 : Int32)), (12, .int v54), (11, .int v48), (10, .int v40), (9, .int v30), (8, .int (nI s1)), (6, .long v5), (0, .ref mo), (1, .int w), (2, .int h), (3, .int k0), (4, .long to0)]) hx hb dX10_meetAll_157 hl (by decide) rfl (fun ls hl => ?_)
                  refine lv_iload hx hb dX10_meetAll_159 (lv_at hl 0 rfl) ?_
                  refine lv_if_eq (tgt := 234) hx hb dX10_meetAll_161 (by decide) (fun c161 => ?_) (fun c161 => ?_)
                  · first | exact absurd c161 (by decide) | exact absurd (by decide) c161
                  · skip
                    have d161 := c161
                    rw [fa_eq] at d161
                    refine lv_lload hx hb dX10_meetAll_164 (lv_at hl 6 rfl) ?_
                    refine lv_lconst (v := 1) hx hb dX10_meetAll_166 (by decide) ?_
                    refine lv_iload hx hb dX10_meetAll_167 (lv_at hl 4 rfl) ?_
                    refine lv_iload_n hx hb dX10_meetAll_169 rfl (lv_at hl 8 rfl) ?_
                    refine lv_imul hx hb dX10_meetAll_170 ?_
                    refine lv_topi (fun v170 e170 => ?_)
                    refine lv_iload hx hb dX10_meetAll_171 (lv_at hl 2 rfl) ?_
                    refine lv_iadd hx hb dX10_meetAll_173 ?_
                    refine lv_topi (fun v173 e173 => ?_)
                    refine lv_lshl (v := (1 : Int64) <<< (v173.toInt64 &&& 63)) hx hb dX10_meetAll_174 rfl ?_
                    refine lv_lxor hx hb dX10_meetAll_175 ?_
                    refine lv_topl (fun v175 e175 => ?_)
                    refine lv_lconst (v := 1) hx hb dX10_meetAll_176 (by decide) ?_
                    refine lv_iload hx hb dX10_meetAll_177 (lv_at hl 3 rfl) ?_
                    refine lv_iload_n hx hb dX10_meetAll_179 rfl (lv_at hl 8 rfl) ?_
                    refine lv_imul hx hb dX10_meetAll_180 ?_
                    refine lv_topi (fun v180 e180 => ?_)
                    refine lv_iload hx hb dX10_meetAll_181 (lv_at hl 1 rfl) ?_
                    refine lv_iadd hx hb dX10_meetAll_183 ?_
                    refine lv_topi (fun v183 e183 => ?_)
                    refine lv_lshl (v := (1 : Int64) <<< (v183.toInt64 &&& 63)) hx hb dX10_meetAll_184 rfl ?_
                    refine lv_lxor hx hb dX10_meetAll_185 ?_
                    refine lv_topl (fun v185 e185 => ?_)
                    refine lv_lconst (v := 1) hx hb dX10_meetAll_186 (by decide) ?_
                    refine lv_iload hx hb dX10_meetAll_187 (lv_at hl 4 rfl) ?_
                    refine lv_iload_n hx hb dX10_meetAll_189 rfl (lv_at hl 8 rfl) ?_
                    refine lv_imul hx hb dX10_meetAll_190 ?_
                    refine lv_topi (fun v190 e190 => ?_)
                    refine lv_iload hx hb dX10_meetAll_191 (lv_at hl 1 rfl) ?_
                    refine lv_iadd hx hb dX10_meetAll_193 ?_
                    refine lv_topi (fun v193 e193 => ?_)
                    refine lv_lshl (v := (1 : Int64) <<< (v193.toInt64 &&& 63)) hx hb dX10_meetAll_194 rfl ?_
                    refine lv_lxor hx hb dX10_meetAll_195 ?_
                    refine lv_topl (fun v195 e195 => ?_)
                    refine lv_lconst (v := 1) hx hb dX10_meetAll_196 (by decide) ?_
                    refine lv_iload hx hb dX10_meetAll_197 (lv_at hl 3 rfl) ?_
                    refine lv_iload_n hx hb dX10_meetAll_199 rfl (lv_at hl 8 rfl) ?_
                    refine lv_imul hx hb dX10_meetAll_200 ?_
                    refine lv_topi (fun v200 e200 => ?_)
                    refine lv_iload hx hb dX10_meetAll_201 (lv_at hl 2 rfl) ?_
                    refine lv_iadd hx hb dX10_meetAll_203 ?_
                    refine lv_topi (fun v203 e203 => ?_)
                    refine lv_lshl (v := (1 : Int64) <<< (v203.toInt64 &&& 63)) hx hb dX10_meetAll_204 rfl ?_
                    refine lv_lxor hx hb dX10_meetAll_205 ?_
                    refine lv_topl (fun v205 e205 => ?_)
                    refine lv_lstore (lv' := [(14, .long v205), (13, .int (1 : Int32)), (12, .int v54), (11, .int v48), (10, .int v40), (9, .int v30), (8, .int (nI s1)), (6, .long v5), (0, .ref mo), (1, .int w), (2, .int h), (3, .int k0), (4, .long to0)]) hx hb dX10_meetAll_206 hl (by decide) rfl (fun ls hl => ?_)
                    refine lv_aload_n hx hb dX10_meetAll_208 rfl (lv_at hl 8 rfl) ?_
                    refine lv_lload hx hb dX10_meetAll_209 (lv_at hl 0 rfl) ?_
                    refine lv_aload_n hx hb dX10_meetAll_211 rfl (lv_at hl 8 rfl) ?_
                    refine m_get (v := .ref (a 20)) hx hb hts hin hown hK hP 20 (by decide) rfl (hts (.fieldLink RX10 45 "ShadowBenchModel" "steps" "[I") (by decide +kernel)) rfl dX10_meetAll_212 ?_
                    refine lv_iload_n hx hb dX10_meetAll_215 rfl (lv_at hl 11 rfl) ?_
                    refine m_iald (w := st1) hx hb hK hP 12 rfl (vp_in_iff.mpr ⟨by omega, by omega⟩) dX10_meetAll_216 ?_
                    refine lv_topi (fun v216 e216 => ?_)
                    have i216 : v216.toInt = (st1 k0.toNatClampNeg).toInt := congrArg Int32.toInt e216
                    refine lv_iconst (v := 1) hx hb dX10_meetAll_217 (by decide) ?_
                    refine lv_iadd hx hb dX10_meetAll_218 ?_
                    refine lv_topi (fun v218 e218 => ?_)
                    refine lv_lload hx hb dX10_meetAll_219 (lv_at hl 12 rfl) ?_
                    refine m_calli (As := [.long v205, .int v218, .long to0]) (rest := []) ⟨hx, hb, hml, hown, hts⟩ (c_X10_meet l D cy mo a (upd f 22 mn1) g (va_up (va_up r 21 pl1) 20 st1) (va_up q 19 rr1) v205 v218 to0 hD (show PB (pl1) by omega) (show 1 ≤ (mn1).toInt ∧ (mn1).toInt ≤ 20000 by omega) (show (ct21 (pl1) : Int) ≤ (mn1).toInt by omega)) (cwV 3 hts gX10_meetAll_X10_meet rfl rfl rfl (by decide +kernel) ⟨Nat.le_of_ble_eq_true rfl, Nat.le_of_ble_eq_true rfl⟩) hK hP rfl hl.1 rfl (Nat.le_of_ble_eq_true rfl) dX10_meetAll_221 ⟨Nat.le_of_ble_eq_true rfl, Nat.le_of_ble_eq_true rfl⟩ hS (fun r221 u H locs q221 hP hS => ?_)
                    obtain ⟨pl_221, rr_221, st_221, mn_221, rfl, q221⟩ := q221
                    have hP : va_P D vwCl (WM cy mo a (upd f 22 mn_221) g (va_up (va_up r 21 pl_221) 20 st_221) (va_up q 19 rr_221)) H := hP
                    have q221 : PB pl_221 ∧ ((mn1).toInt ≤ mn_221.toInt ∧ mn_221.toInt ≤ 20000) ∧ (ct21 pl_221 : Int) ≤ mn_221.toInt := q221
                    refine lv_istore (lv' := [(16, .int r221), (14, .long v205), (13, .int (1 : Int32)), (12, .int v54), (11, .int v48), (10, .int v40), (9, .int v30), (8, .int (nI s1)), (6, .long v5), (0, .ref mo), (1, .int w), (2, .int h), (3, .int k0), (4, .long to0)]) hx hb dX10_meetAll_224 hl (by decide) rfl (fun ls hl => ?_)
                    refine lv_iload hx hb dX10_meetAll_226 (lv_at hl 0 rfl) ?_
                    refine lv_if_eq (tgt := 234) hx hb dX10_meetAll_228 (by decide) (fun c228 => ?_) (fun c228 => ?_)
                    · skip
                      have d228 := c228
                      rw [fa_eq] at d228
                      refine lv_iinc (v := (nI (s1 + 1))) (lv' := [(8, .int (nI (s1 + 1))), (16, .int r221), (14, .long v205), (13, .int (1 : Int32)), (12, .int v54), (11, .int v48), (10, .int v40), (9, .int v30), (6, .long v5), (0, .ref mo), (1, .int w), (2, .int h), (3, .int k0), (4, .long to0)]) hx hb dX10_meetAll_234 hl (k := 7) rfl (nI_1 _) (by decide) rfl (fun ls hl => ?_)
                      refine lv_goto (tgt := 11) hx hb dX10_meetAll_237 (by decide) ?_
                      exact ih_11 (s1 + 1) pl_221 rr_221 st_221 mn_221 (by omega) (by first | exact q221.1 | assumption) (by omega) (by first | exact q221.2.2 | assumption) (by omega) _ _ hP hS ls (lv_sub hl [0, 8, 9, 10, 11, 12, 13] rfl)
                    · skip
                      have d228 := c228
                      rw [fa_eq] at d228
                      refine lv_iload hx hb dX10_meetAll_231 (lv_at hl 0 rfl) ?_
                      exact W.iret (v := r221) hx hb hr (fun t ht hW => ⟨⟨_, ((upd f 22 mn_221), g, (va_up (va_up r 21 pl_221) 20 st_221), (va_up q 19 rr_221)), rfl, ⟨pl_221, rr_221, st_221, mn_221, rfl, by first | exact ⟨q221.1, by omega, q221.2.2⟩ | exact ⟨j11_1, by omega, j11_3⟩⟩, by unfold mB; rw [ht]; exact hP⟩, hS.F ht⟩) hS.2.2 dX10_meetAll_233
  have hP := wm_eq (ec_f___22 f ) rfl (ec_r___21_20 r ) (ec_q___19 q ) hP
  exact loop_11 (1296 + 1) 0 (r 21) (q 19) (r 20) (f 22) (by omega) (hp1) (by omega) (hc) (by omega) _ _ hP hS ls (lv_sub hl [0, 1, 2, 3, 4, 5, 6] rfl)
set_option maxHeartbeats 4000000 in
set_option maxRecDepth 100000 in
theorem c_X10_far (l : Launch) (D : va_G) (cy : Nat → ClassId) (mo : Nat) (a : Nat → Nat) (f : Nat → Int32) (g : Nat → Int64) (r : Nat → Nat → Int32) (q : Nat → Nat → Int64) (w : Int32) (h : Int32) (p0 : Int64) (p1 : Int64) (hD : DM cy mo a)  : Mi l D cy mo a yX10_far wsX10_far ({ frames := 3, cells := 0, slots := 0, locals := 85 }) f g r q [.int w, .int h, .long p0, .long p1] (fun r0 u => ∃ (pl : Nat → Int32), ∃ (rr : Nat → Int64), ∃ (st : Nat → Int32), ∃ (mn : Int32), u = ((upd (upd f 0 (0 : Int32)) 22 mn), g, (va_up (va_up r 21 pl) 20 st), (va_up q 19 rr)) ∧ (True)) := by
  refine Met.ofW (cc := cX10_far) (maxL := 9) (ret := (some .int)) (by decide) rfl ?_
  intro p e s m args below meth c s₁ B hml hv
  obtain ⟨rfl, hP, hK⟩ := hv
  have hx := B.exec
  have hb := B.bytes
  have hr := B.returns
  have hts := atoms_spec (ws := wsX10_far) B.pre
  have hin : ∀ w ∈ u_ws RX10 TX10 35, w ∈ wsX10_far := by decide +kernel
  have hown : s.vm.findClass RX10 = some m.cls := findClass_of_methodNamed B.named
  have hlocks := B.notSynchronized
  have hS : va_S (AM mo a) s.heap s.heap [] := va_S.rf
  have hl := lv_entry ([.ref mo, .int w, .int h, .long p0, .long p1]) (n := 9) (Nat.le_of_ble_eq_true rfl)
  rw [lg_entry_eq]
  generalize (lg_sl ([.ref mo, .int w, .int h, .long p0, .long p1]) ++ List.replicate (9 - (lg_sl ([.ref mo, .int w, .int h, .long p0, .long p1])).length) Slot.unset).toArray = ls at hl ⊢
  have hl : lv_has ls 9 [(0, .ref mo), (1, .int w), (2, .int h), (3, .long p0), (5, .long p1)] := hl
  have k_m5 : (-5 : Int32).toInt = -5 := by decide
  have k_m2 : (-2 : Int32).toInt = -2 := by decide
  have k_m1 : (-1 : Int32).toInt = -1 := by decide
  have k_0 : (0 : Int32).toInt = 0 := by decide
  have k_1 : (1 : Int32).toInt = 1 := by decide
  have k_65536 : (65536 : Int32).toInt = 65536 := by decide
  refine lv_aload_n hx hb dX10_far_0 rfl (lv_at hl 0 rfl) ?_
  refine lv_iconst (v := 0) hx hb dX10_far_1 (by decide) ?_
  refine m_put (v := .int (0 : Int32)) (ty := .int) hx hb hts hin hown hK hP hD hS 0 (by decide) rfl (hts (.fieldLink RX10 79 "ShadowBenchModel" "thrown" "I") (by decide +kernel)) rfl (by decide +kernel) rfl rfl (upd f 0 (0 : Int32)) g rfl dX10_far_2 (fun H locs hP hS => ?_)
  refine lv_iload_n hx hb dX10_far_5 rfl (lv_at hl 1 rfl) ?_
  refine lv_iload_n hx hb dX10_far_6 rfl (lv_at hl 2 rfl) ?_
  refine lv_lload_n hx hb dX10_far_7 rfl (lv_at hl 3 rfl) ?_
  refine m_pu (As := [.int w, .int h, .long p0]) (rest := []) ⟨hx, hb, hml, hown, hts⟩ (c_X10_isPicture l w h p0 ) (va_cwS 3 hts gX10_far_X10_isPicture rfl rfl rfl (by decide +kernel) ⟨Nat.le_of_ble_eq_true rfl, Nat.le_of_ble_eq_true rfl⟩) hP rfl hl.1 rfl (Nat.le_of_ble_eq_true rfl) dX10_far_8 ⟨Nat.le_of_ble_eq_true rfl, Nat.le_of_ble_eq_true rfl⟩ hS (fun r8 H locs q8 hP hS => ?_)
  refine lv_if_eq (tgt := 24) hx hb dX10_far_11 (by decide) (fun c11 => ?_) (fun c11 => ?_)
  · skip
    have b11 := bo_f q8 c11
    refine lv_iconst (v := (-1)) hx hb dX10_far_24 (by decide) ?_
    have hP := wm_eq (ec_f_0__0_22 f (0 : Int32)) rfl (ec_r___21_20 r ) (ec_q___19 q ) hP
    exact W.iret (v := ((-1) : Int32)) hx hb hr (fun t ht hW => ⟨⟨_, ((upd (upd f 0 (0 : Int32)) 22 (f 22)), g, (va_up (va_up r 21 (r 21)) 20 (r 20)), (va_up q 19 (q 19))), rfl, ⟨(r 21), (q 19), (r 20), (f 22), rfl, trivial⟩, by unfold mB; rw [ht]; exact hP⟩, hS.F ht⟩) hS.2.2 dX10_far_25
  · skip
    have b11 := bo_t q8 c11
    refine lv_iload_n hx hb dX10_far_14 rfl (lv_at hl 1 rfl) ?_
    refine lv_iload_n hx hb dX10_far_15 rfl (lv_at hl 2 rfl) ?_
    refine lv_lload hx hb dX10_far_16 (lv_at hl 4 rfl) ?_
    refine m_pu (As := [.int w, .int h, .long p1]) (rest := []) ⟨hx, hb, hml, hown, hts⟩ (c_X10_isPicture l w h p1 ) (va_cwS 3 hts gX10_far_X10_isPicture rfl rfl rfl (by decide +kernel) ⟨Nat.le_of_ble_eq_true rfl, Nat.le_of_ble_eq_true rfl⟩) hP rfl hl.1 rfl (Nat.le_of_ble_eq_true rfl) dX10_far_18 ⟨Nat.le_of_ble_eq_true rfl, Nat.le_of_ble_eq_true rfl⟩ hS (fun r18 H locs q18 hP hS => ?_)
    refine lv_if_ne (tgt := 26) hx hb dX10_far_21 (by decide) (fun c21 => ?_) (fun c21 => ?_)
    · skip
      have b21 := bo_t q18 c21
      refine lv_iload_n hx hb dX10_far_26 rfl (lv_at hl 1 rfl) ?_
      refine lv_iload_n hx hb dX10_far_27 rfl (lv_at hl 2 rfl) ?_
      refine lv_lload_n hx hb dX10_far_28 rfl (lv_at hl 3 rfl) ?_
      refine lv_lload hx hb dX10_far_29 (lv_at hl 4 rfl) ?_
      refine lv_iconst (v := 0) hx hb dX10_far_31 (by decide) ?_
      refine m_pu (As := [.int w, .int h, .long p0, .long p1, .int (0 : Int32)]) (rest := []) ⟨hx, hb, hml, hown, hts⟩ (c_X10_areAlike l w h p0 p1 (0 : Int32) b11.1.1 b11.1.2) (va_cwS 5 hts gX10_far_X10_areAlike rfl rfl rfl (by decide +kernel) ⟨Nat.le_of_ble_eq_true rfl, Nat.le_of_ble_eq_true rfl⟩) hP rfl hl.1 rfl (Nat.le_of_ble_eq_true rfl) dX10_far_32 ⟨Nat.le_of_ble_eq_true rfl, Nat.le_of_ble_eq_true rfl⟩ hS (fun r32 H locs q32 hP hS => ?_)
      refine lv_if_eq (tgt := 50) hx hb dX10_far_35 (by decide) (fun c35 => ?_) (fun c35 => ?_)
      · skip
        have d35 := c35
        rw [fa_eq] at d35
        refine lv_bipush (v := (-2)) hx hb dX10_far_50 (by decide) ?_
        have hP := wm_eq (ec_f_0__0_22 f (0 : Int32)) rfl (ec_r___21_20 r ) (ec_q___19 q ) hP
        exact W.iret (v := ((-2) : Int32)) hx hb hr (fun t ht hW => ⟨⟨_, ((upd (upd f 0 (0 : Int32)) 22 (f 22)), g, (va_up (va_up r 21 (r 21)) 20 (r 20)), (va_up q 19 (q 19))), rfl, ⟨(r 21), (q 19), (r 20), (f 22), rfl, trivial⟩, by unfold mB; rw [ht]; exact hP⟩, hS.F ht⟩) hS.2.2 dX10_far_52
      · skip
        have d35 := c35
        rw [fa_eq] at d35
        refine lv_iload_n hx hb dX10_far_38 rfl (lv_at hl 1 rfl) ?_
        refine lv_iload_n hx hb dX10_far_39 rfl (lv_at hl 2 rfl) ?_
        refine lv_lload_n hx hb dX10_far_40 rfl (lv_at hl 3 rfl) ?_
        refine lv_lload hx hb dX10_far_41 (lv_at hl 4 rfl) ?_
        refine lv_iconst (v := 1) hx hb dX10_far_43 (by decide) ?_
        refine m_pu (As := [.int w, .int h, .long p0, .long p1, .int (1 : Int32)]) (rest := []) ⟨hx, hb, hml, hown, hts⟩ (c_X10_areAlike l w h p0 p1 (1 : Int32) b11.1.1 b11.1.2) (va_cwS 5 hts gX10_far_X10_areAlike rfl rfl rfl (by decide +kernel) ⟨Nat.le_of_ble_eq_true rfl, Nat.le_of_ble_eq_true rfl⟩) hP rfl hl.1 rfl (Nat.le_of_ble_eq_true rfl) dX10_far_44 ⟨Nat.le_of_ble_eq_true rfl, Nat.le_of_ble_eq_true rfl⟩ hS (fun r44 H locs q44 hP hS => ?_)
        refine lv_if_ne (tgt := 53) hx hb dX10_far_47 (by decide) (fun c47 => ?_) (fun c47 => ?_)
        · skip
          have d47 := c47
          rw [fa_eq] at d47
          refine lv_lload_n hx hb dX10_far_53 rfl (lv_at hl 3 rfl) ?_
          refine lv_lload hx hb dX10_far_54 (lv_at hl 4 rfl) ?_
          refine W.lcmp hx hb dX10_far_56 ?_
          refine lv_if_ne (tgt := 62) hx hb dX10_far_57 (by decide) (fun c57 => ?_) (fun c57 => ?_)
          · skip
            have d57 := c57
            rw [lg_cmp_eq, fa_eq64] at d57
            refine lv_iconst (v := 0) hx hb dX10_far_62 (by decide) ?_
            refine lv_istore (lv' := [(7, .int (0 : Int32)), (0, .ref mo), (1, .int w), (2, .int h), (3, .long p0), (5, .long p1)]) hx hb dX10_far_63 hl (by decide) rfl (fun ls hl => ?_)
            have loop_65 : ∀ (n : Nat) (k : Nat) (pz : Nat → Int32), (k ≤ 65536) → (∀ e, e < k → (pz e).toInt < 0) → 65536 - k < n → ∀ (H : Heap) (locs : List Loc), va_P D vwCl (WM cy mo a (upd f 0 (0 : Int32)) g (va_up r 21 pz) q) H → va_S (AM mo a) s.heap H locs → ∀ (ls : Array Slot), lv_has ls 9 [(7, .int (nI k)), (0, .ref mo), (1, .int w), (2, .int h), (3, .long p0), (5, .long p1)] → W p l e (headSpec wsX10_far ({ frames := 3, cells := 0, slots := 0, locals := 85 })).room s m #[Value.ref mo, Value.int w, Value.int h, Value.long p0, Value.long p1] below meth c H locs 0 0 (MQ below (va_Qi (fun r0 u => ∃ (pl : Nat → Int32), ∃ (rr : Nat → Int64), ∃ (st : Nat → Int32), ∃ (mn : Int32), u = ((upd (upd f 0 (0 : Int32)) 22 mn), g, (va_up (va_up r 21 pl) 20 st), (va_up q 19 rr)) ∧ (True)) (mB D cy mo a) (AM mo a)) #[Value.ref mo, Value.int w, Value.int h, Value.long p0, Value.long p1] s 0 0 (AM mo a)) (F0 m 65 ls []) := by
              intro n
              induction n with
              | zero => intro k pz j65_0 j65_1 hn; exact absurd hn (Nat.not_lt_zero _)
              | succ n ih_65 =>
                intro k pz j65_0 j65_1 hn_65 H locs hP hS ls hl
                have ik : (nI k).toInt = (k : Int) := nI_toInt (by omega)
                refine lv_iload hx hb dX10_far_65 (lv_at hl 0 rfl) ?_
                refine lv_ldc hx hb hown (hts (.constant RX10 48 (65536)) (by decide +kernel)) dX10_far_67 ?_
                refine lv_icmp_ge (tgt := 86) hx hb dX10_far_69 (by decide) (fun c69 => ?_) (fun c69 => ?_)
                · skip
                  have d69 := c69
                  rw [fa_le] at d69
                  refine lv_aload_n hx hb dX10_far_86 rfl (lv_at hl 1 rfl) ?_
                  refine m_get (v := .ref (a 19)) hx hb hts hin hown hK hP 19 (by decide) rfl (hts (.fieldLink RX10 41 "ShadowBenchModel" "row" "[J") (by decide +kernel)) rfl dX10_far_87 ?_
                  refine lv_iconst (v := 0) hx hb dX10_far_90 (by decide) ?_
                  refine lv_lload_n hx hb dX10_far_91 rfl (lv_at hl 4 rfl) ?_
                  refine m_last (w := (q 19)) hx hb hK hP hD hS 11 rfl (vp_in_iff.mpr ⟨by omega, by omega⟩) (va_up q 19 (vp_updL (q 19) (0 : Int32).toNatClampNeg p0)) (ms_19 cy mo a _ _ _ _ _) dX10_far_92 (fun H locs hP hS => ?_)
                  refine lv_aload_n hx hb dX10_far_93 rfl (lv_at hl 1 rfl) ?_
                  refine m_get (v := .ref (a 20)) hx hb hts hin hown hK hP 20 (by decide) rfl (hts (.fieldLink RX10 45 "ShadowBenchModel" "steps" "[I") (by decide +kernel)) rfl dX10_far_94 ?_
                  refine lv_iconst (v := 0) hx hb dX10_far_97 (by decide) ?_
                  refine lv_iconst (v := 0) hx hb dX10_far_98 (by decide) ?_
                  refine m_iast (w := (r 20)) hx hb hK hP hD hS 12 rfl (vp_in_iff.mpr ⟨by omega, by omega⟩) (va_up (va_up r 21 pz) 20 (upd (r 20) (0 : Int32).toNatClampNeg (0 : Int32))) (ms_20 cy mo a _ _ _ _ _) dX10_far_99 (fun H locs hP hS => ?_)
                  refine lv_aload_n hx hb dX10_far_100 rfl (lv_at hl 1 rfl) ?_
                  refine m_get (v := .ref (a 21)) hx hb hts hin hown hK hP 21 (by decide) rfl (hts (.fieldLink RX10 49 "ShadowBenchModel" "place" "[I") (by decide +kernel)) rfl dX10_far_101 ?_
                  refine lv_aload_n hx hb dX10_far_104 rfl (lv_at hl 1 rfl) ?_
                  refine lv_lload_n hx hb dX10_far_105 rfl (lv_at hl 4 rfl) ?_
                  refine m_calli (As := [.long p0]) (rest := [.ref (a 21)]) ⟨hx, hb, hml, hown, hts⟩ (c_X10_placeOf l D cy mo a (upd f 0 (0 : Int32)) g (va_up (va_up r 21 pz) 20 ((upd (r 20) (0 : Int32).toNatClampNeg (0 : Int32)))) (va_up q 19 ((vp_updL (q 19) (0 : Int32).toNatClampNeg p0))) p0 hD (show PB pz from fun e he => by have := j65_1 e (by omega); omega) (show ∃ e, e < 65536 ∧ (pz e).toInt < 0 from ⟨0, by decide, j65_1 0 (by omega)⟩)) (cwV 1 hts gX10_far_X10_placeOf rfl rfl rfl (by decide +kernel) ⟨Nat.le_of_ble_eq_true rfl, Nat.le_of_ble_eq_true rfl⟩) hK hP rfl hl.1 rfl (Nat.le_of_ble_eq_true rfl) dX10_far_106 ⟨Nat.le_of_ble_eq_true rfl, Nat.le_of_ble_eq_true rfl⟩ hS (fun r106 u H locs q106 hP hS => ?_)
                  obtain ⟨rfl, q106⟩ := q106
                  have hP : va_P D vwCl (WM cy mo a (upd f 0 (0 : Int32)) g (va_up (va_up r 21 pz) 20 ((upd (r 20) (0 : Int32).toNatClampNeg (0 : Int32)))) (va_up q 19 ((vp_updL (q 19) (0 : Int32).toNatClampNeg p0)))) H := hP
                  have q106 : 0 ≤ r106.toInt ∧ r106.toInt < 65536 := q106
                  refine lv_iconst (v := 0) hx hb dX10_far_109 (by decide) ?_
                  refine m_iast (w := pz) hx hb hK hP hD hS 13 rfl (vp_in_iff.mpr ⟨by omega, by omega⟩) (va_up (va_up (va_up r 21 pz) 20 ((upd (r 20) (0 : Int32).toNatClampNeg (0 : Int32)))) 21 (upd pz r106.toNatClampNeg (0 : Int32))) (ms_21 cy mo a _ _ _ _ _) dX10_far_110 (fun H locs hP hS => ?_)
                  have hP := wm_eq rfl rfl (es_r_21_20__21 r pz ((upd (r 20) (0 : Int32).toNatClampNeg (0 : Int32))) (upd pz r106.toNatClampNeg (0 : Int32))) rfl hP
                  have hcl := m_cl (x := r106) (by omega)
                  have hput := ct21_put (p := pz) (i := r106.toNatClampNeg) (v := (0 : Int32)) (by omega) (j65_1 _ (by omega))
                  have hnn := ct21_none (p := pz) (fun e he => j65_1 e (by omega))
                  have hpb : PB pz := fun e he => (by have := j65_1 e (by omega); omega)
                  refine lv_aload_n hx hb dX10_far_111 rfl (lv_at hl 1 rfl) ?_
                  refine lv_iconst (v := 1) hx hb dX10_far_112 (by decide) ?_
                  refine m_put (v := .int (1 : Int32)) (ty := .int) hx hb hts hin hown hK hP hD hS 22 (by decide) rfl (hts (.fieldLink RX10 217 "ShadowBenchModel" "many" "I") (by decide +kernel)) rfl (by decide +kernel) rfl rfl (upd (upd f 0 (0 : Int32)) 22 (1 : Int32)) g rfl dX10_far_113 (fun H locs hP hS => ?_)
                  refine lv_iconst (v := 0) hx hb dX10_far_116 (by decide) ?_
                  refine lv_istore (lv' := [(7, .int (0 : Int32)), (0, .ref mo), (1, .int w), (2, .int h), (3, .long p0), (5, .long p1)]) hx hb dX10_far_117 hl (by decide) rfl (fun ls hl => ?_)
                  refine lv_iconst (v := 0) hx hb dX10_far_119 (by decide) ?_
                  refine lv_istore (lv' := [(8, .int (0 : Int32)), (7, .int (0 : Int32)), (0, .ref mo), (1, .int w), (2, .int h), (3, .long p0), (5, .long p1)]) hx hb dX10_far_120 hl (by decide) rfl (fun ls hl => ?_)
                  have loop_122 : ∀ (n : Nat) (k2 : Nat) (x7 : Int32) (pl2 : Nat → Int32) (rr2 : Nat → Int64) (st2 : Nat → Int32) (mn2 : Int32), (k2 ≤ 20000) → (PB pl2) → (1 ≤ mn2.toInt ∧ mn2.toInt ≤ 20000) → ((ct21 pl2 : Int) ≤ mn2.toInt) → 20000 - k2 < n → ∀ (H : Heap) (locs : List Loc), va_P D vwCl (WM cy mo a (upd (upd f 0 (0 : Int32)) 22 mn2) g (va_up (va_up r 21 pl2) 20 st2) (va_up q 19 rr2)) H → va_S (AM mo a) s.heap H locs → ∀ (ls : Array Slot), lv_has ls 9 [(8, .int (nI k2)), (7, .int x7), (0, .ref mo), (1, .int w), (2, .int h), (3, .long p0), (5, .long p1)] → W p l e (headSpec wsX10_far ({ frames := 3, cells := 0, slots := 0, locals := 85 })).room s m #[Value.ref mo, Value.int w, Value.int h, Value.long p0, Value.long p1] below meth c H locs 0 0 (MQ below (va_Qi (fun r0 u => ∃ (pl : Nat → Int32), ∃ (rr : Nat → Int64), ∃ (st : Nat → Int32), ∃ (mn : Int32), u = ((upd (upd f 0 (0 : Int32)) 22 mn), g, (va_up (va_up r 21 pl) 20 st), (va_up q 19 rr)) ∧ (True)) (mB D cy mo a) (AM mo a)) #[Value.ref mo, Value.int w, Value.int h, Value.long p0, Value.long p1] s 0 0 (AM mo a)) (F0 m 122 ls []) := by
                    intro n
                    induction n with
                    | zero => intro k2 x7 pl2 rr2 st2 mn2 j122_0 j122_1 j122_2 j122_3 hn; exact absurd hn (Nat.not_lt_zero _)
                    | succ n ih_122 =>
                      intro k2 x7 pl2 rr2 st2 mn2 j122_0 j122_1 j122_2 j122_3 hn_122 H locs hP hS ls hl
                      have ik2 : (nI k2).toInt = (k2 : Int) := nI_toInt (by omega)
                      refine lv_iload hx hb dX10_far_122 (lv_at hl 0 rfl) ?_
                      refine lv_aload_n hx hb dX10_far_124 rfl (lv_at hl 2 rfl) ?_
                      refine m_get (v := .int mn2) hx hb hts hin hown hK hP 22 (by decide) rfl (hts (.fieldLink RX10 217 "ShadowBenchModel" "many" "I") (by decide +kernel)) rfl dX10_far_125 ?_
                      refine lv_icmp_ge (tgt := 154) hx hb dX10_far_128 (by decide) (fun c128 => ?_) (fun c128 => ?_)
                      · skip
                        have d128 := c128
                        rw [fa_le] at d128
                        refine lv_iload hx hb dX10_far_154 (lv_at hl 1 rfl) ?_
                        refine lv_if_le (tgt := 164) hx hb dX10_far_156 (by decide) (fun c156 => ?_) (fun c156 => ?_)
                        · skip
                          have d156 := c156
                          rw [fa_le] at d156
                          refine lv_iload hx hb dX10_far_164 (lv_at hl 1 rfl) ?_
                          refine lv_if_ge (tgt := 174) hx hb dX10_far_166 (by decide) (fun c166 => ?_) (fun c166 => ?_)
                          · skip
                            have d166 := c166
                            rw [fa_le] at d166
                            refine lv_bipush (v := (-2)) hx hb dX10_far_174 (by decide) ?_
                            exact W.iret (v := ((-2) : Int32)) hx hb hr (fun t ht hW => ⟨⟨_, ((upd (upd f 0 (0 : Int32)) 22 mn2), g, (va_up (va_up r 21 pl2) 20 st2), (va_up q 19 rr2)), rfl, ⟨pl2, rr2, st2, mn2, rfl, trivial⟩, by unfold mB; rw [ht]; exact hP⟩, hS.F ht⟩) hS.2.2 dX10_far_176
                          · skip
                            have d166 := c166
                            rw [fa_le] at d166
                            refine lv_bipush (v := (-5)) hx hb dX10_far_169 (by decide) ?_
                            refine lv_goto (tgt := 176) hx hb dX10_far_171 (by decide) ?_
                            exact W.iret (v := ((-5) : Int32)) hx hb hr (fun t ht hW => ⟨⟨_, ((upd (upd f 0 (0 : Int32)) 22 mn2), g, (va_up (va_up r 21 pl2) 20 st2), (va_up q 19 rr2)), rfl, ⟨pl2, rr2, st2, mn2, rfl, trivial⟩, by unfold mB; rw [ht]; exact hP⟩, hS.F ht⟩) hS.2.2 dX10_far_176
                        · skip
                          have d156 := c156
                          rw [fa_le] at d156
                          refine lv_iload hx hb dX10_far_159 (lv_at hl 1 rfl) ?_
                          refine lv_goto (tgt := 176) hx hb dX10_far_161 (by decide) ?_
                          exact W.iret (v := x7) hx hb hr (fun t ht hW => ⟨⟨_, ((upd (upd f 0 (0 : Int32)) 22 mn2), g, (va_up (va_up r 21 pl2) 20 st2), (va_up q 19 rr2)), rfl, ⟨pl2, rr2, st2, mn2, rfl, trivial⟩, by unfold mB; rw [ht]; exact hP⟩, hS.F ht⟩) hS.2.2 dX10_far_176
                      · skip
                        have d128 := c128
                        rw [fa_le] at d128
                        refine lv_iload hx hb dX10_far_131 (lv_at hl 1 rfl) ?_
                        refine lv_if_ne (tgt := 154) hx hb dX10_far_133 (by decide) (fun c133 => ?_) (fun c133 => ?_)
                        · skip
                          have d133 := c133
                          rw [fa_eq] at d133
                          refine lv_iload hx hb dX10_far_154 (lv_at hl 1 rfl) ?_
                          refine lv_if_le (tgt := 164) hx hb dX10_far_156 (by decide) (fun c156 => ?_) (fun c156 => ?_)
                          · skip
                            have d156 := c156
                            rw [fa_le] at d156
                            refine lv_iload hx hb dX10_far_164 (lv_at hl 1 rfl) ?_
                            refine lv_if_ge (tgt := 174) hx hb dX10_far_166 (by decide) (fun c166 => ?_) (fun c166 => ?_)
                            · skip
                              have d166 := c166
                              rw [fa_le] at d166
                              refine lv_bipush (v := (-2)) hx hb dX10_far_174 (by decide) ?_
                              exact W.iret (v := ((-2) : Int32)) hx hb hr (fun t ht hW => ⟨⟨_, ((upd (upd f 0 (0 : Int32)) 22 mn2), g, (va_up (va_up r 21 pl2) 20 st2), (va_up q 19 rr2)), rfl, ⟨pl2, rr2, st2, mn2, rfl, trivial⟩, by unfold mB; rw [ht]; exact hP⟩, hS.F ht⟩) hS.2.2 dX10_far_176
                            · skip
                              have d166 := c166
                              rw [fa_le] at d166
                              refine lv_bipush (v := (-5)) hx hb dX10_far_169 (by decide) ?_
                              refine lv_goto (tgt := 176) hx hb dX10_far_171 (by decide) ?_
                              exact W.iret (v := ((-5) : Int32)) hx hb hr (fun t ht hW => ⟨⟨_, ((upd (upd f 0 (0 : Int32)) 22 mn2), g, (va_up (va_up r 21 pl2) 20 st2), (va_up q 19 rr2)), rfl, ⟨pl2, rr2, st2, mn2, rfl, trivial⟩, by unfold mB; rw [ht]; exact hP⟩, hS.F ht⟩) hS.2.2 dX10_far_176
                          · skip
                            have d156 := c156
                            rw [fa_le] at d156
                            refine lv_iload hx hb dX10_far_159 (lv_at hl 1 rfl) ?_
                            refine lv_goto (tgt := 176) hx hb dX10_far_161 (by decide) ?_
                            exact W.iret (v := x7) hx hb hr (fun t ht hW => ⟨⟨_, ((upd (upd f 0 (0 : Int32)) 22 mn2), g, (va_up (va_up r 21 pl2) 20 st2), (va_up q 19 rr2)), rfl, ⟨pl2, rr2, st2, mn2, rfl, trivial⟩, by unfold mB; rw [ht]; exact hP⟩, hS.F ht⟩) hS.2.2 dX10_far_176
                        · skip
                          have d133 := c133
                          rw [fa_eq] at d133
                          refine lv_aload_n hx hb dX10_far_136 rfl (lv_at hl 2 rfl) ?_
                          refine lv_iload_n hx hb dX10_far_137 rfl (lv_at hl 3 rfl) ?_
                          refine lv_iload_n hx hb dX10_far_138 rfl (lv_at hl 4 rfl) ?_
                          refine lv_iload hx hb dX10_far_139 (lv_at hl 0 rfl) ?_
                          refine lv_lload hx hb dX10_far_141 (lv_at hl 6 rfl) ?_
                          refine m_calli (As := [.int w, .int h, .int (nI k2), .long p1]) (rest := []) ⟨hx, hb, hml, hown, hts⟩ (c_X10_meetAll l D cy mo a (upd (upd f 0 (0 : Int32)) 22 mn2) g (va_up (va_up r 21 pl2) 20 st2) (va_up q 19 rr2) w h (nI k2) p1 hD b11.1.1 b11.1.2 j122_1 (show 1 ≤ mn2.toInt ∧ mn2.toInt ≤ 20000 by omega) j122_3 (by omega)) (cwV 4 hts gX10_far_X10_meetAll rfl rfl rfl (by decide +kernel) ⟨Nat.le_of_ble_eq_true rfl, Nat.le_of_ble_eq_true rfl⟩) hK hP rfl hl.1 rfl (Nat.le_of_ble_eq_true rfl) dX10_far_143 ⟨Nat.le_of_ble_eq_true rfl, Nat.le_of_ble_eq_true rfl⟩ hS (fun r143 u H locs q143 hP hS => ?_)
                          obtain ⟨pl_143, rr_143, st_143, mn_143, rfl, q143⟩ := q143
                          have hP : va_P D vwCl (WM cy mo a (upd (upd f 0 (0 : Int32)) 22 mn_143) g (va_up (va_up r 21 pl_143) 20 st_143) (va_up q 19 rr_143)) H := hP
                          have q143 : PB pl_143 ∧ ((mn2).toInt ≤ mn_143.toInt ∧ mn_143.toInt ≤ 20000) ∧ (ct21 pl_143 : Int) ≤ mn_143.toInt := q143
                          refine lv_istore (lv' := [(7, .int r143), (8, .int (nI k2)), (0, .ref mo), (1, .int w), (2, .int h), (3, .long p0), (5, .long p1)]) hx hb dX10_far_146 hl (by decide) rfl (fun ls hl => ?_)
                          refine lv_iinc (v := (nI (k2 + 1))) (lv' := [(8, .int (nI (k2 + 1))), (7, .int r143), (0, .ref mo), (1, .int w), (2, .int h), (3, .long p0), (5, .long p1)]) hx hb dX10_far_148 hl (k := 1) rfl (nI_1 _) (by decide) rfl (fun ls hl => ?_)
                          refine lv_goto (tgt := 122) hx hb dX10_far_151 (by decide) ?_
                          exact ih_122 (k2 + 1) r143 pl_143 rr_143 st_143 mn_143 (by omega) (q143.1) (by omega) (q143.2.2) (by omega) _ _ hP hS ls (lv_sub hl [0, 1, 2, 3, 4, 5, 6] rfl)
                  have hP := wm_eq rfl rfl (ec_r_20_21__21_20 r ((upd (r 20) (0 : Int32).toNatClampNeg (0 : Int32))) ((upd pz r106.toNatClampNeg (0 : Int32)))) (ec_q_19__19 q ((vp_updL (q 19) (0 : Int32).toNatClampNeg p0))) hP
                  exact loop_122 (20000 + 1) 0 (0 : Int32) (((upd pz r106.toNatClampNeg (0 : Int32)))) (((vp_updL (q 19) (0 : Int32).toNatClampNeg p0))) (((upd (r 20) (0 : Int32).toNatClampNeg (0 : Int32)))) (1 : Int32) (by omega) (pb_put hpb (by decide)) (by decide) (by have : (1 : Int32).toInt = 1 := rfl; omega) (by omega) _ _ hP hS ls (lv_sub hl [0, 1, 2, 3, 4, 5, 6] rfl)
                · skip
                  have d69 := c69
                  rw [fa_le] at d69
                  refine lv_aload_n hx hb dX10_far_72 rfl (lv_at hl 1 rfl) ?_
                  refine m_get (v := .ref (a 21)) hx hb hts hin hown hK hP 21 (by decide) rfl (hts (.fieldLink RX10 49 "ShadowBenchModel" "place" "[I") (by decide +kernel)) rfl dX10_far_73 ?_
                  refine lv_iload hx hb dX10_far_76 (lv_at hl 0 rfl) ?_
                  refine lv_iconst (v := (-1)) hx hb dX10_far_78 (by decide) ?_
                  refine m_iast (w := pz) hx hb hK hP hD hS 13 rfl (vp_in_iff.mpr ⟨by omega, by omega⟩) (va_up (va_up r 21 pz) 21 (upd pz (nI k).toNatClampNeg (((-1) : Int32)))) (ms_21 cy mo a _ _ _ _ _) dX10_far_79 (fun H locs hP hS => ?_)
                  have hP := wm_eq rfl rfl (es_r_21__21 r pz (upd pz (nI k).toNatClampNeg (((-1) : Int32)))) rfl hP
                  refine lv_iinc (v := (nI (k + 1))) (lv' := [(7, .int (nI (k + 1))), (0, .ref mo), (1, .int w), (2, .int h), (3, .long p0), (5, .long p1)]) hx hb dX10_far_80 hl (k := 0) rfl (nI_1 _) (by decide) rfl (fun ls hl => ?_)
                  refine lv_goto (tgt := 65) hx hb dX10_far_83 (by decide) ?_
                  have hP := wm_eq rfl rfl (ec_r_21__21 r ((upd pz (nI k).toNatClampNeg (((-1) : Int32))))) rfl hP
                  exact ih_65 (k + 1) (((upd pz (nI k).toNatClampNeg (((-1) : Int32))))) (by omega) (fun e he => by have hck := nI_clamp (n := k) (by omega); unfold upd; split; decide; exact j65_1 e (by omega)) (by omega) _ _ hP hS ls (lv_sub hl [0, 1, 2, 3, 4, 5] rfl)
            have hP := wm_eq rfl rfl (ec_r___21 r ) rfl hP
            exact loop_65 (65536 + 1) 0 (r 21) (by omega) (fun e he => absurd he (Nat.not_lt_zero _)) (by omega) _ _ hP hS ls (lv_sub hl [0, 1, 2, 3, 4, 5] rfl)
          · skip
            have d57 := c57
            rw [lg_cmp_eq, fa_eq64] at d57
            refine lv_iconst (v := 0) hx hb dX10_far_60 (by decide) ?_
            have hP := wm_eq (ec_f_0__0_22 f (0 : Int32)) rfl (ec_r___21_20 r ) (ec_q___19 q ) hP
            exact W.iret (v := (0 : Int32)) hx hb hr (fun t ht hW => ⟨⟨_, ((upd (upd f 0 (0 : Int32)) 22 (f 22)), g, (va_up (va_up r 21 (r 21)) 20 (r 20)), (va_up q 19 (q 19))), rfl, ⟨(r 21), (q 19), (r 20), (f 22), rfl, trivial⟩, by unfold mB; rw [ht]; exact hP⟩, hS.F ht⟩) hS.2.2 dX10_far_61
        · skip
          have d47 := c47
          rw [fa_eq] at d47
          refine lv_bipush (v := (-2)) hx hb dX10_far_50 (by decide) ?_
          have hP := wm_eq (ec_f_0__0_22 f (0 : Int32)) rfl (ec_r___21_20 r ) (ec_q___19 q ) hP
          exact W.iret (v := ((-2) : Int32)) hx hb hr (fun t ht hW => ⟨⟨_, ((upd (upd f 0 (0 : Int32)) 22 (f 22)), g, (va_up (va_up r 21 (r 21)) 20 (r 20)), (va_up q 19 (q 19))), rfl, ⟨(r 21), (q 19), (r 20), (f 22), rfl, trivial⟩, by unfold mB; rw [ht]; exact hP⟩, hS.F ht⟩) hS.2.2 dX10_far_52
    · skip
      have b21 := bo_f q18 c21
      refine lv_iconst (v := (-1)) hx hb dX10_far_24 (by decide) ?_
      have hP := wm_eq (ec_f_0__0_22 f (0 : Int32)) rfl (ec_r___21_20 r ) (ec_q___19 q ) hP
      exact W.iret (v := ((-1) : Int32)) hx hb hr (fun t ht hW => ⟨⟨_, ((upd (upd f 0 (0 : Int32)) 22 (f 22)), g, (va_up (va_up r 21 (r 21)) 20 (r 20)), (va_up q 19 (q 19))), rfl, ⟨(r 21), (q 19), (r 20), (f 22), rfl, trivial⟩, by unfold mB; rw [ht]; exact hP⟩, hS.F ht⟩) hS.2.2 dX10_far_25
