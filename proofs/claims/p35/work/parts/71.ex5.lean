set_option maxHeartbeats 4000000 in
set_option maxRecDepth 100000 in
theorem c_X10_element_w (l : Launch) (D : va_G) (cy : Nat → ClassId) (mo : Nat) (a : Nat → Nat) (f : Nat → Int32) (g : Nat → Int64) (r : Nat → Nat → Int32) (q : Nat → Nat → Int64) (d : Int32) (i0 : Int32) (hD : DM cy mo a) (hI : MI f r) : Ml l D cy mo a yX10_element wsX10_element ({ frames := 1, cells := 0, slots := 0, locals := 25 }) f g r q [.int d, .int i0] (fun r0 u => ∃ (th : Int32), u = ((upd f 0 th), g, r, q) ∧ (elA (r 29 d.toNatClampNeg) (r 30 d.toNatClampNeg) (fun e9 => q 33 (60 * d.toNatClampNeg + e9)) d i0 th r0)) := by
  refine Met.ofW (cc := cX10_element) (maxL := 4) (ret := (some .long)) (by decide) rfl ?_
  intro p e s m args below meth c s₁ B hml hv
  obtain ⟨rfl, hP, hK⟩ := hv
  have hx := B.exec
  have hb := B.bytes
  have hr := B.returns
  have hts := atoms_spec (ws := wsX10_element) B.pre
  have hin : ∀ w ∈ u_ws RX10 TX10 35, w ∈ wsX10_element := by decide +kernel
  have hown : s.vm.findClass RX10 = some m.cls := findClass_of_methodNamed B.named
  have hlocks := B.notSynchronized
  have hS : va_S (AM mo a) s.heap s.heap [] := va_S.rf
  have hl := lv_entry ([.ref mo, .int d, .int i0]) (n := 4) (Nat.le_of_ble_eq_true rfl)
  rw [lg_entry_eq]
  generalize (lg_sl ([.ref mo, .int d, .int i0]) ++ List.replicate (4 - (lg_sl ([.ref mo, .int d, .int i0])).length) Slot.unset).toArray = ls at hl ⊢
  have hl : lv_has ls 4 [(0, .ref mo), (1, .int d), (2, .int i0)] := hl
  have k_0 : (0 : Int32).toInt = 0 := by decide
  have k_1 : (1 : Int32).toInt = 1 := by decide
  have k_2 : (2 : Int32).toInt = 2 := by decide
  have k_60 : (60 : Int32).toInt = 60 := by decide
  have k_0L : (0 : Int64).toInt = 0 := by decide
  refine lv_iload_n hx hb dX10_element_0 rfl (lv_at hl 1 rfl) ?_
  refine m_pu (As := [.int d]) (rest := []) ⟨hx, hb, hml, hown, hts⟩ (c_X10_isShelf l d ) (va_cwS 1 hts gX10_element_X10_isShelf rfl rfl rfl (by decide +kernel) ⟨Nat.le_of_ble_eq_true rfl, Nat.le_of_ble_eq_true rfl⟩) hP rfl hl.1 rfl (Nat.le_of_ble_eq_true rfl) dX10_element_1 ⟨Nat.le_of_ble_eq_true rfl, Nat.le_of_ble_eq_true rfl⟩ hS (fun r1 H locs q1 hP hS => ?_)
  refine lv_if_eq (tgt := 39) hx hb dX10_element_4 (by decide) (fun c4 => ?_) (fun c4 => ?_)
  · skip
    have b4 := bo_f q1 c4
    refine lv_iconst (v := 0) hx hb dX10_element_39 (by decide) ?_
    refine lv_istore_n (lv' := [(3, .int (0 : Int32)), (0, .ref mo), (1, .int d), (2, .int i0)]) hx hb dX10_element_40 rfl hl (by decide) rfl (fun ls hl => ?_)
    refine lv_aload_n hx hb dX10_element_41 rfl (lv_at hl 1 rfl) ?_
    refine lv_iload_n hx hb dX10_element_42 rfl (lv_at hl 2 rfl) ?_
    refine m_pu (As := [.int d]) (rest := [.ref mo]) ⟨hx, hb, hml, hown, hts⟩ (c_X10_isShelf l d ) (va_cwS 1 hts gX10_element_X10_isShelf rfl rfl rfl (by decide +kernel) ⟨Nat.le_of_ble_eq_true rfl, Nat.le_of_ble_eq_true rfl⟩) hP rfl hl.1 rfl (Nat.le_of_ble_eq_true rfl) dX10_element_43 ⟨Nat.le_of_ble_eq_true rfl, Nat.le_of_ble_eq_true rfl⟩ hS (fun r43 H locs q43 hP hS => ?_)
    refine lv_if_ne (tgt := 53) hx hb dX10_element_46 (by decide) (fun c46 => ?_) (fun c46 => ?_)
    · skip
      have b46 := bo_t q43 c46
      refine lv_iload_n hx hb dX10_element_53 rfl (lv_at hl 0 rfl) ?_
      refine lv_if_eq (tgt := 61) hx hb dX10_element_54 (by decide) (fun c54 => ?_) (fun c54 => ?_)
      · skip
        have d54 := c54
        rw [fa_eq] at d54
        refine lv_iconst (v := 2) hx hb dX10_element_61 (by decide) ?_
        refine m_put (v := .int (2 : Int32)) (ty := .int) hx hb hts hin hown hK hP hD hS 0 (by decide) rfl (hts (.fieldLink RX10 79 "ShadowBenchModel" "thrown" "I") (by decide +kernel)) rfl (by decide +kernel) rfl rfl (upd f 0 (2 : Int32)) g rfl dX10_element_62 (fun H locs hP hS => ?_)
        refine lv_iload_n hx hb dX10_element_65 rfl (lv_at hl 0 rfl) ?_
        refine lv_if_eq (tgt := 83) hx hb dX10_element_66 (by decide) (fun c66 => ?_) (fun c66 => ?_)
        · skip
          have d66 := c66
          rw [fa_eq] at d66
          refine lv_lconst (v := 0) hx hb dX10_element_83 (by decide) ?_
          exact W.lret (v := (0 : Int64)) hx hb hr (fun t ht hW => ⟨⟨_, ((upd f 0 (2 : Int32)), g, r, q), rfl, ⟨(2 : Int32), rfl, (by first | exact absurd b46 b4 | exact Or.inl ⟨b4, rfl⟩ | exact Or.inl ⟨b46, rfl⟩ | exact Or.inr ⟨b46, Or.inl ⟨⟨by rw [← e12]; omega, by omega, by rw [← e25]; omega⟩, rfl, by rw [e79, f78]⟩⟩ | exact Or.inr ⟨b46, Or.inr ⟨(fun z9 => by unfold elOk at z9; have z8 := z9.1; rw [← e12] at z8; omega), rfl⟩⟩ | exact Or.inr ⟨b46, Or.inr ⟨(fun z9 => by unfold elOk at z9; have z8 := z9.2; rw [← e25] at z8; have y32 := b32; simp only [k64, show (0 : Int64).toInt = 0 from rfl] at y32; omega), rfl⟩⟩)⟩, by unfold mB; rw [ht]; exact hP⟩, hS.F ht⟩) hS.2.2 dX10_element_84
        · first | exact absurd c66 (by decide) | exact absurd (by decide) c66
      · first | exact absurd c54 (by decide) | exact absurd (by decide) c54
    · skip
      have b46 := bo_f q43 c46
      refine lv_iconst (v := 1) hx hb dX10_element_49 (by decide) ?_
      refine lv_goto (tgt := 62) hx hb dX10_element_50 (by decide) ?_
      refine m_put (v := .int (1 : Int32)) (ty := .int) hx hb hts hin hown hK hP hD hS 0 (by decide) rfl (hts (.fieldLink RX10 79 "ShadowBenchModel" "thrown" "I") (by decide +kernel)) rfl (by decide +kernel) rfl rfl (upd f 0 (1 : Int32)) g rfl dX10_element_62 (fun H locs hP hS => ?_)
      refine lv_iload_n hx hb dX10_element_65 rfl (lv_at hl 0 rfl) ?_
      refine lv_if_eq (tgt := 83) hx hb dX10_element_66 (by decide) (fun c66 => ?_) (fun c66 => ?_)
      · skip
        have d66 := c66
        rw [fa_eq] at d66
        refine lv_lconst (v := 0) hx hb dX10_element_83 (by decide) ?_
        exact W.lret (v := (0 : Int64)) hx hb hr (fun t ht hW => ⟨⟨_, ((upd f 0 (1 : Int32)), g, r, q), rfl, ⟨(1 : Int32), rfl, (by first | exact absurd b46 b4 | exact Or.inl ⟨b4, rfl⟩ | exact Or.inl ⟨b46, rfl⟩ | exact Or.inr ⟨b46, Or.inl ⟨⟨by rw [← e12]; omega, by omega, by rw [← e25]; omega⟩, rfl, by rw [e79, f78]⟩⟩ | exact Or.inr ⟨b46, Or.inr ⟨(fun z9 => by unfold elOk at z9; have z8 := z9.1; rw [← e12] at z8; omega), rfl⟩⟩ | exact Or.inr ⟨b46, Or.inr ⟨(fun z9 => by unfold elOk at z9; have z8 := z9.2; rw [← e25] at z8; have y32 := b32; simp only [k64, show (0 : Int64).toInt = 0 from rfl] at y32; omega), rfl⟩⟩)⟩, by unfold mB; rw [ht]; exact hP⟩, hS.F ht⟩) hS.2.2 dX10_element_84
      · first | exact absurd c66 (by decide) | exact absurd (by decide) c66
  · skip
    have b4 := bo_t q1 c4
    refine lv_aload_n hx hb dX10_element_7 rfl (lv_at hl 0 rfl) ?_
    refine m_get (v := .ref (a 29)) hx hb hts hin hown hK hP 29 (by decide) rfl (hts (.fieldLink RX10 61 "ShadowBenchModel" "shelf" "[I") (by decide +kernel)) rfl dX10_element_8 ?_
    refine lv_iload_n hx hb dX10_element_11 rfl (lv_at hl 1 rfl) ?_
    refine m_iald (w := (r 29)) hx hb hK hP 17 rfl (vp_in_iff.mpr ⟨by omega, by omega⟩) dX10_element_12 ?_
    refine lv_topi (fun v12 e12 => ?_)
    have i12 : v12.toInt = ((r 29) d.toNatClampNeg).toInt := congrArg Int32.toInt e12
    refine lv_iconst (v := 2) hx hb dX10_element_13 (by decide) ?_
    refine lv_icmp_le (tgt := 39) hx hb dX10_element_14 (by decide) (fun c14 => ?_) (fun c14 => ?_)
    · skip
      have d14 := c14
      rw [fa_le] at d14
      refine lv_iconst (v := 0) hx hb dX10_element_39 (by decide) ?_
      refine lv_istore_n (lv' := [(3, .int (0 : Int32)), (0, .ref mo), (1, .int d), (2, .int i0)]) hx hb dX10_element_40 rfl hl (by decide) rfl (fun ls hl => ?_)
      refine lv_aload_n hx hb dX10_element_41 rfl (lv_at hl 1 rfl) ?_
      refine lv_iload_n hx hb dX10_element_42 rfl (lv_at hl 2 rfl) ?_
      refine m_pu (As := [.int d]) (rest := [.ref mo]) ⟨hx, hb, hml, hown, hts⟩ (c_X10_isShelf l d ) (va_cwS 1 hts gX10_element_X10_isShelf rfl rfl rfl (by decide +kernel) ⟨Nat.le_of_ble_eq_true rfl, Nat.le_of_ble_eq_true rfl⟩) hP rfl hl.1 rfl (Nat.le_of_ble_eq_true rfl) dX10_element_43 ⟨Nat.le_of_ble_eq_true rfl, Nat.le_of_ble_eq_true rfl⟩ hS (fun r43 H locs q43 hP hS => ?_)
      refine lv_if_ne (tgt := 53) hx hb dX10_element_46 (by decide) (fun c46 => ?_) (fun c46 => ?_)
      · skip
        have b46 := bo_t q43 c46
        refine lv_iload_n hx hb dX10_element_53 rfl (lv_at hl 0 rfl) ?_
        refine lv_if_eq (tgt := 61) hx hb dX10_element_54 (by decide) (fun c54 => ?_) (fun c54 => ?_)
        · skip
          have d54 := c54
          rw [fa_eq] at d54
          refine lv_iconst (v := 2) hx hb dX10_element_61 (by decide) ?_
          refine m_put (v := .int (2 : Int32)) (ty := .int) hx hb hts hin hown hK hP hD hS 0 (by decide) rfl (hts (.fieldLink RX10 79 "ShadowBenchModel" "thrown" "I") (by decide +kernel)) rfl (by decide +kernel) rfl rfl (upd f 0 (2 : Int32)) g rfl dX10_element_62 (fun H locs hP hS => ?_)
          refine lv_iload_n hx hb dX10_element_65 rfl (lv_at hl 0 rfl) ?_
          refine lv_if_eq (tgt := 83) hx hb dX10_element_66 (by decide) (fun c66 => ?_) (fun c66 => ?_)
          · skip
            have d66 := c66
            rw [fa_eq] at d66
            refine lv_lconst (v := 0) hx hb dX10_element_83 (by decide) ?_
            exact W.lret (v := (0 : Int64)) hx hb hr (fun t ht hW => ⟨⟨_, ((upd f 0 (2 : Int32)), g, r, q), rfl, ⟨(2 : Int32), rfl, (by first | exact absurd b46 b4 | exact Or.inl ⟨b4, rfl⟩ | exact Or.inl ⟨b46, rfl⟩ | exact Or.inr ⟨b46, Or.inl ⟨⟨by rw [← e12]; omega, by omega, by rw [← e25]; omega⟩, rfl, by rw [e79, f78]⟩⟩ | exact Or.inr ⟨b46, Or.inr ⟨(fun z9 => by unfold elOk at z9; have z8 := z9.1; rw [← e12] at z8; omega), rfl⟩⟩ | exact Or.inr ⟨b46, Or.inr ⟨(fun z9 => by unfold elOk at z9; have z8 := z9.2; rw [← e25] at z8; have y32 := b32; simp only [k64, show (0 : Int64).toInt = 0 from rfl] at y32; omega), rfl⟩⟩)⟩, by unfold mB; rw [ht]; exact hP⟩, hS.F ht⟩) hS.2.2 dX10_element_84
          · first | exact absurd c66 (by decide) | exact absurd (by decide) c66
        · first | exact absurd c54 (by decide) | exact absurd (by decide) c54
      · skip
        have b46 := bo_f q43 c46
        refine lv_iconst (v := 1) hx hb dX10_element_49 (by decide) ?_
        refine lv_goto (tgt := 62) hx hb dX10_element_50 (by decide) ?_
        refine m_put (v := .int (1 : Int32)) (ty := .int) hx hb hts hin hown hK hP hD hS 0 (by decide) rfl (hts (.fieldLink RX10 79 "ShadowBenchModel" "thrown" "I") (by decide +kernel)) rfl (by decide +kernel) rfl rfl (upd f 0 (1 : Int32)) g rfl dX10_element_62 (fun H locs hP hS => ?_)
        refine lv_iload_n hx hb dX10_element_65 rfl (lv_at hl 0 rfl) ?_
        refine lv_if_eq (tgt := 83) hx hb dX10_element_66 (by decide) (fun c66 => ?_) (fun c66 => ?_)
        · skip
          have d66 := c66
          rw [fa_eq] at d66
          refine lv_lconst (v := 0) hx hb dX10_element_83 (by decide) ?_
          exact W.lret (v := (0 : Int64)) hx hb hr (fun t ht hW => ⟨⟨_, ((upd f 0 (1 : Int32)), g, r, q), rfl, ⟨(1 : Int32), rfl, (by first | exact absurd b46 b4 | exact Or.inl ⟨b4, rfl⟩ | exact Or.inl ⟨b46, rfl⟩ | exact Or.inr ⟨b46, Or.inl ⟨⟨by rw [← e12]; omega, by omega, by rw [← e25]; omega⟩, rfl, by rw [e79, f78]⟩⟩ | exact Or.inr ⟨b46, Or.inr ⟨(fun z9 => by unfold elOk at z9; have z8 := z9.1; rw [← e12] at z8; omega), rfl⟩⟩ | exact Or.inr ⟨b46, Or.inr ⟨(fun z9 => by unfold elOk at z9; have z8 := z9.2; rw [← e25] at z8; have y32 := b32; simp only [k64, show (0 : Int64).toInt = 0 from rfl] at y32; omega), rfl⟩⟩)⟩, by unfold mB; rw [ht]; exact hP⟩, hS.F ht⟩) hS.2.2 dX10_element_84
        · first | exact absurd c66 (by decide) | exact absurd (by decide) c66
    · skip
      have d14 := c14
      rw [fa_le] at d14
      refine lv_iload_n hx hb dX10_element_17 rfl (lv_at hl 2 rfl) ?_
      refine lv_i2l (v := i0.toInt64) hx hb dX10_element_18 rfl ?_
      refine lv_lconst (v := 0) hx hb dX10_element_19 (by decide) ?_
      refine lv_aload_n hx hb dX10_element_20 rfl (lv_at hl 0 rfl) ?_
      refine m_get (v := .ref (a 30)) hx hb hts hin hown hK hP 30 (by decide) rfl (hts (.fieldLink RX10 64 "ShadowBenchModel" "shelfSize" "[I") (by decide +kernel)) rfl dX10_element_21 ?_
      refine lv_iload_n hx hb dX10_element_24 rfl (lv_at hl 1 rfl) ?_
      refine m_iald (w := (r 30)) hx hb hK hP 18 rfl (vp_in_iff.mpr ⟨by omega, by omega⟩) dX10_element_25 ?_
      refine lv_topi (fun v25 e25 => ?_)
      have i25 : v25.toInt = ((r 30) d.toNatClampNeg).toInt := congrArg Int32.toInt e25
      have z25 := mi_s hI (x := d) (by omega) (by omega) e25
      refine lv_iconst (v := 1) hx hb dX10_element_26 (by decide) ?_
      refine lv_isub hx hb dX10_element_27 ?_
      refine lv_topi (fun v27 e27 => ?_)
      have i27 : v27.toInt = v25.toInt - (1 : Int32).toInt := by rw [e27]; exact fb_subI (by omega) (by omega)
      refine lv_i2l (v := v27.toInt64) hx hb dX10_element_28 rfl ?_
      refine m_pu (As := [.long (i0.toInt64), .long (0 : Int64), .long (v27.toInt64)]) (rest := []) ⟨hx, hb, hml, hown, hts⟩ (c_X10_isIn l i0.toInt64 (0 : Int64) v27.toInt64 ) (va_cwS 3 hts gX10_element_X10_isIn rfl rfl rfl (by decide +kernel) ⟨Nat.le_of_ble_eq_true rfl, Nat.le_of_ble_eq_true rfl⟩) hP rfl hl.1 rfl (Nat.le_of_ble_eq_true rfl) dX10_element_29 ⟨Nat.le_of_ble_eq_true rfl, Nat.le_of_ble_eq_true rfl⟩ hS (fun r29 H locs q29 hP hS => ?_)
      have q29 := q29
      simp only [k64, show (0 : Int64).toInt = 0 from rfl, show (1 : Int64).toInt = 1 from rfl, show (2 : Int64).toInt = 2 from rfl, show (3 : Int64).toInt = 3 from rfl, show (6 : Int64).toInt = 6 from rfl] at q29
      refine lv_if_eq (tgt := 39) hx hb dX10_element_32 (by decide) (fun c32 => ?_) (fun c32 => ?_)
      · skip
        have b32 := bo_f q29 c32
        refine lv_iconst (v := 0) hx hb dX10_element_39 (by decide) ?_
        refine lv_istore_n (lv' := [(3, .int (0 : Int32)), (0, .ref mo), (1, .int d), (2, .int i0)]) hx hb dX10_element_40 rfl hl (by decide) rfl (fun ls hl => ?_)
        refine lv_aload_n hx hb dX10_element_41 rfl (lv_at hl 1 rfl) ?_
        refine lv_iload_n hx hb dX10_element_42 rfl (lv_at hl 2 rfl) ?_
        refine m_pu (As := [.int d]) (rest := [.ref mo]) ⟨hx, hb, hml, hown, hts⟩ (c_X10_isShelf l d ) (va_cwS 1 hts gX10_element_X10_isShelf rfl rfl rfl (by decide +kernel) ⟨Nat.le_of_ble_eq_true rfl, Nat.le_of_ble_eq_true rfl⟩) hP rfl hl.1 rfl (Nat.le_of_ble_eq_true rfl) dX10_element_43 ⟨Nat.le_of_ble_eq_true rfl, Nat.le_of_ble_eq_true rfl⟩ hS (fun r43 H locs q43 hP hS => ?_)
        refine lv_if_ne (tgt := 53) hx hb dX10_element_46 (by decide) (fun c46 => ?_) (fun c46 => ?_)
        · skip
          have b46 := bo_t q43 c46
          refine lv_iload_n hx hb dX10_element_53 rfl (lv_at hl 0 rfl) ?_
          refine lv_if_eq (tgt := 61) hx hb dX10_element_54 (by decide) (fun c54 => ?_) (fun c54 => ?_)
          · skip
            have d54 := c54
            rw [fa_eq] at d54
            refine lv_iconst (v := 2) hx hb dX10_element_61 (by decide) ?_
            refine m_put (v := .int (2 : Int32)) (ty := .int) hx hb hts hin hown hK hP hD hS 0 (by decide) rfl (hts (.fieldLink RX10 79 "ShadowBenchModel" "thrown" "I") (by decide +kernel)) rfl (by decide +kernel) rfl rfl (upd f 0 (2 : Int32)) g rfl dX10_element_62 (fun H locs hP hS => ?_)
            refine lv_iload_n hx hb dX10_element_65 rfl (lv_at hl 0 rfl) ?_
            refine lv_if_eq (tgt := 83) hx hb dX10_element_66 (by decide) (fun c66 => ?_) (fun c66 => ?_)
            · skip
              have d66 := c66
              rw [fa_eq] at d66
              refine lv_lconst (v := 0) hx hb dX10_element_83 (by decide) ?_
              exact W.lret (v := (0 : Int64)) hx hb hr (fun t ht hW => ⟨⟨_, ((upd f 0 (2 : Int32)), g, r, q), rfl, ⟨(2 : Int32), rfl, (by first | exact absurd b46 b4 | exact Or.inl ⟨b4, rfl⟩ | exact Or.inl ⟨b46, rfl⟩ | exact Or.inr ⟨b46, Or.inl ⟨⟨by rw [← e12]; omega, by omega, by rw [← e25]; omega⟩, rfl, by rw [e79, f78]⟩⟩ | exact Or.inr ⟨b46, Or.inr ⟨(fun z9 => by unfold elOk at z9; have z8 := z9.1; rw [← e12] at z8; omega), rfl⟩⟩ | exact Or.inr ⟨b46, Or.inr ⟨(fun z9 => by unfold elOk at z9; have z8 := z9.2; rw [← e25] at z8; have y32 := b32; simp only [k64, show (0 : Int64).toInt = 0 from rfl] at y32; omega), rfl⟩⟩)⟩, by unfold mB; rw [ht]; exact hP⟩, hS.F ht⟩) hS.2.2 dX10_element_84
            · first | exact absurd c66 (by decide) | exact absurd (by decide) c66
          · first | exact absurd c54 (by decide) | exact absurd (by decide) c54
        · skip
          have b46 := bo_f q43 c46
          refine lv_iconst (v := 1) hx hb dX10_element_49 (by decide) ?_
          refine lv_goto (tgt := 62) hx hb dX10_element_50 (by decide) ?_
          refine m_put (v := .int (1 : Int32)) (ty := .int) hx hb hts hin hown hK hP hD hS 0 (by decide) rfl (hts (.fieldLink RX10 79 "ShadowBenchModel" "thrown" "I") (by decide +kernel)) rfl (by decide +kernel) rfl rfl (upd f 0 (1 : Int32)) g rfl dX10_element_62 (fun H locs hP hS => ?_)
          refine lv_iload_n hx hb dX10_element_65 rfl (lv_at hl 0 rfl) ?_
          refine lv_if_eq (tgt := 83) hx hb dX10_element_66 (by decide) (fun c66 => ?_) (fun c66 => ?_)
          · skip
            have d66 := c66
            rw [fa_eq] at d66
            refine lv_lconst (v := 0) hx hb dX10_element_83 (by decide) ?_
            exact W.lret (v := (0 : Int64)) hx hb hr (fun t ht hW => ⟨⟨_, ((upd f 0 (1 : Int32)), g, r, q), rfl, ⟨(1 : Int32), rfl, (by first | exact absurd b46 b4 | exact Or.inl ⟨b4, rfl⟩ | exact Or.inl ⟨b46, rfl⟩ | exact Or.inr ⟨b46, Or.inl ⟨⟨by rw [← e12]; omega, by omega, by rw [← e25]; omega⟩, rfl, by rw [e79, f78]⟩⟩ | exact Or.inr ⟨b46, Or.inr ⟨(fun z9 => by unfold elOk at z9; have z8 := z9.1; rw [← e12] at z8; omega), rfl⟩⟩ | exact Or.inr ⟨b46, Or.inr ⟨(fun z9 => by unfold elOk at z9; have z8 := z9.2; rw [← e25] at z8; have y32 := b32; simp only [k64, show (0 : Int64).toInt = 0 from rfl] at y32; omega), rfl⟩⟩)⟩, by unfold mB; rw [ht]; exact hP⟩, hS.F ht⟩) hS.2.2 dX10_element_84
          · first | exact absurd c66 (by decide) | exact absurd (by decide) c66
      · skip
        have b32 := bo_t q29 c32
        refine lv_iconst (v := 1) hx hb dX10_element_35 (by decide) ?_
        refine lv_goto (tgt := 40) hx hb dX10_element_36 (by decide) ?_
        refine lv_istore_n (lv' := [(3, .int (1 : Int32)), (0, .ref mo), (1, .int d), (2, .int i0)]) hx hb dX10_element_40 rfl hl (by decide) rfl (fun ls hl => ?_)
        refine lv_aload_n hx hb dX10_element_41 rfl (lv_at hl 1 rfl) ?_
        refine lv_iload_n hx hb dX10_element_42 rfl (lv_at hl 2 rfl) ?_
        refine m_pu (As := [.int d]) (rest := [.ref mo]) ⟨hx, hb, hml, hown, hts⟩ (c_X10_isShelf l d ) (va_cwS 1 hts gX10_element_X10_isShelf rfl rfl rfl (by decide +kernel) ⟨Nat.le_of_ble_eq_true rfl, Nat.le_of_ble_eq_true rfl⟩) hP rfl hl.1 rfl (Nat.le_of_ble_eq_true rfl) dX10_element_43 ⟨Nat.le_of_ble_eq_true rfl, Nat.le_of_ble_eq_true rfl⟩ hS (fun r43 H locs q43 hP hS => ?_)
        refine lv_if_ne (tgt := 53) hx hb dX10_element_46 (by decide) (fun c46 => ?_) (fun c46 => ?_)
        · skip
          have b46 := bo_t q43 c46
          refine lv_iload_n hx hb dX10_element_53 rfl (lv_at hl 0 rfl) ?_
          refine lv_if_eq (tgt := 61) hx hb dX10_element_54 (by decide) (fun c54 => ?_) (fun c54 => ?_)
          · first | exact absurd c54 (by decide) | exact absurd (by decide) c54
          · skip
            have d54 := c54
            rw [fa_eq] at d54
            refine lv_iconst (v := 0) hx hb dX10_element_57 (by decide) ?_
            refine lv_goto (tgt := 62) hx hb dX10_element_58 (by decide) ?_
            refine m_put (v := .int (0 : Int32)) (ty := .int) hx hb hts hin hown hK hP hD hS 0 (by decide) rfl (hts (.fieldLink RX10 79 "ShadowBenchModel" "thrown" "I") (by decide +kernel)) rfl (by decide +kernel) rfl rfl (upd f 0 (0 : Int32)) g rfl dX10_element_62 (fun H locs hP hS => ?_)
            refine lv_iload_n hx hb dX10_element_65 rfl (lv_at hl 0 rfl) ?_
            refine lv_if_eq (tgt := 83) hx hb dX10_element_66 (by decide) (fun c66 => ?_) (fun c66 => ?_)
            · first | exact absurd c66 (by decide) | exact absurd (by decide) c66
            · skip
              have d66 := c66
              rw [fa_eq] at d66
              have y32 := b32
              try simp only [k64, show (0 : Int64).toInt = 0 from rfl] at y32
              refine lv_aload_n hx hb dX10_element_69 rfl (lv_at hl 1 rfl) ?_
              refine m_get (v := .ref (a 33)) hx hb hts hin hown hK hP 33 (by decide) rfl (hts (.fieldLink RX10 73 "ShadowBenchModel" "shelfRow" "[J") (by decide +kernel)) rfl dX10_element_70 ?_
              refine lv_bipush (v := 60) hx hb dX10_element_73 (by decide) ?_
              refine lv_iload_n hx hb dX10_element_75 rfl (lv_at hl 2 rfl) ?_
              refine lv_imul hx hb dX10_element_76 ?_
              refine lv_topi (fun v76 e76 => ?_)
              have i76 : v76.toInt = 60 * d.toInt := by rw [e76]; exact mulcL rfl (by omega) (by omega)
              refine lv_iload_n hx hb dX10_element_77 rfl (lv_at hl 3 rfl) ?_
              refine lv_iadd hx hb dX10_element_78 ?_
              refine lv_topi (fun v78 e78 => ?_)
              have i78 : v78.toInt = v76.toInt + i0.toInt := by rw [e78]; exact fb_addI (by omega) (by omega)
              have cd9 := m_cl (x := d) (by omega)
              have ci9 := m_cl (x := i0) (by omega)
              have cv9 := m_cl (x := v78) (by omega)
              have f78 : v78.toNatClampNeg = 60 * d.toNatClampNeg + i0.toNatClampNeg := by omega
              refine m_lald (w := (q 33)) hx hb hK hP 21 rfl (vp_in_iff.mpr ⟨by omega, by omega⟩) dX10_element_79 ?_
              refine lv_topl (fun v79 e79 => ?_)
              refine lv_goto (tgt := 84) hx hb dX10_element_80 (by decide) ?_
              exact W.lret (v := v79) hx hb hr (fun t ht hW => ⟨⟨_, ((upd f 0 (0 : Int32)), g, r, q), rfl, ⟨(0 : Int32), rfl, (by first | exact absurd b46 b4 | exact Or.inl ⟨b4, rfl⟩ | exact Or.inl ⟨b46, rfl⟩ | exact Or.inr ⟨b46, Or.inl ⟨⟨by rw [← e12]; omega, by omega, by rw [← e25]; omega⟩, rfl, by rw [e79, f78]⟩⟩ | exact Or.inr ⟨b46, Or.inr ⟨(fun z9 => by unfold elOk at z9; have z8 := z9.1; rw [← e12] at z8; omega), rfl⟩⟩ | exact Or.inr ⟨b46, Or.inr ⟨(fun z9 => by unfold elOk at z9; have z8 := z9.2; rw [← e25] at z8; have y32 := b32; simp only [k64, show (0 : Int64).toInt = 0 from rfl] at y32; omega), rfl⟩⟩)⟩, by unfold mB; rw [ht]; exact hP⟩, hS.F ht⟩) hS.2.2 dX10_element_84
        · skip
          have b46 := bo_f q43 c46
          refine lv_iconst (v := 1) hx hb dX10_element_49 (by decide) ?_
          refine lv_goto (tgt := 62) hx hb dX10_element_50 (by decide) ?_
          refine m_put (v := .int (1 : Int32)) (ty := .int) hx hb hts hin hown hK hP hD hS 0 (by decide) rfl (hts (.fieldLink RX10 79 "ShadowBenchModel" "thrown" "I") (by decide +kernel)) rfl (by decide +kernel) rfl rfl (upd f 0 (1 : Int32)) g rfl dX10_element_62 (fun H locs hP hS => ?_)
          refine lv_iload_n hx hb dX10_element_65 rfl (lv_at hl 0 rfl) ?_
          refine lv_if_eq (tgt := 83) hx hb dX10_element_66 (by decide) (fun c66 => ?_) (fun c66 => ?_)
          · first | exact absurd c66 (by decide) | exact absurd (by decide) c66
          · skip
            have d66 := c66
            rw [fa_eq] at d66
            have y32 := b32
            try simp only [k64, show (0 : Int64).toInt = 0 from rfl] at y32
            refine lv_aload_n hx hb dX10_element_69 rfl (lv_at hl 1 rfl) ?_
            refine m_get (v := .ref (a 33)) hx hb hts hin hown hK hP 33 (by decide) rfl (hts (.fieldLink RX10 73 "ShadowBenchModel" "shelfRow" "[J") (by decide +kernel)) rfl dX10_element_70 ?_
            refine lv_bipush (v := 60) hx hb dX10_element_73 (by decide) ?_
            refine lv_iload_n hx hb dX10_element_75 rfl (lv_at hl 2 rfl) ?_
            refine lv_imul hx hb dX10_element_76 ?_
            refine lv_topi (fun v76 e76 => ?_)
            have i76 : v76.toInt = 60 * d.toInt := by rw [e76]; exact mulcL rfl (by omega) (by omega)
            refine lv_iload_n hx hb dX10_element_77 rfl (lv_at hl 3 rfl) ?_
            refine lv_iadd hx hb dX10_element_78 ?_
            refine lv_topi (fun v78 e78 => ?_)
            have i78 : v78.toInt = v76.toInt + i0.toInt := by rw [e78]; exact fb_addI (by omega) (by omega)
            have cd9 := m_cl (x := d) (by omega)
            have ci9 := m_cl (x := i0) (by omega)
            have cv9 := m_cl (x := v78) (by omega)
            have f78 : v78.toNatClampNeg = 60 * d.toNatClampNeg + i0.toNatClampNeg := by omega
            refine m_lald (w := (q 33)) hx hb hK hP 21 rfl (vp_in_iff.mpr ⟨by omega, by omega⟩) dX10_element_79 ?_
            refine lv_topl (fun v79 e79 => ?_)
            refine lv_goto (tgt := 84) hx hb dX10_element_80 (by decide) ?_
            exact W.lret (v := v79) hx hb hr (fun t ht hW => ⟨⟨_, ((upd f 0 (1 : Int32)), g, r, q), rfl, ⟨(1 : Int32), rfl, (by first | exact absurd b46 b4 | exact Or.inl ⟨b4, rfl⟩ | exact Or.inl ⟨b46, rfl⟩ | exact Or.inr ⟨b46, Or.inl ⟨⟨by rw [← e12]; omega, by omega, by rw [← e25]; omega⟩, rfl, by rw [e79, f78]⟩⟩ | exact Or.inr ⟨b46, Or.inr ⟨(fun z9 => by unfold elOk at z9; have z8 := z9.1; rw [← e12] at z8; omega), rfl⟩⟩ | exact Or.inr ⟨b46, Or.inr ⟨(fun z9 => by unfold elOk at z9; have z8 := z9.2; rw [← e25] at z8; have y32 := b32; simp only [k64, show (0 : Int64).toInt = 0 from rfl] at y32; omega), rfl⟩⟩)⟩, by unfold mB; rw [ht]; exact hP⟩, hS.F ht⟩) hS.2.2 dX10_element_84
set_option maxHeartbeats 4000000 in
set_option maxRecDepth 100000 in
theorem c_X10_layer_w (l : Launch) (D : va_G) (cy : Nat → ClassId) (mo : Nat) (a : Nat → Nat) (f : Nat → Int32) (g : Nat → Int64) (r : Nat → Nat → Int32) (q : Nat → Nat → Int64) (d : Int32) (k0 : Int32) (hD : DM cy mo a) (hI : MI f r) (hq9 : okSh d → r 29 d.toNatClampNeg = 3 → ∀ e9, e9 < (r 30 d.toNatClampNeg).toNatClampNeg → 0 ≤ (q 33 (60 * d.toNatClampNeg + e9)).toInt ∧ (q 33 (60 * d.toNatClampNeg + e9)).toInt ≤ 1) : Ml l D cy mo a yX10_layer wsX10_layer ({ frames := 1, cells := 0, slots := 0, locals := 25 }) f g r q [.int d, .int k0] (fun r0 u => u = ((upd f 0 (0 : Int32)), g, r, q) ∧ (lyA (r 29 d.toNatClampNeg) (r 30 d.toNatClampNeg) (fun e9 => q 33 (60 * d.toNatClampNeg + e9)) d k0 r0)) := by
  refine Met.ofW (cc := cX10_layer) (maxL := 8) (ret := (some .long)) (by decide) rfl ?_
  intro p e s m args below meth c s₁ B hml hv
  obtain ⟨rfl, hP, hK⟩ := hv
  have hx := B.exec
  have hb := B.bytes
  have hr := B.returns
  have hts := atoms_spec (ws := wsX10_layer) B.pre
  have hin : ∀ w ∈ u_ws RX10 TX10 35, w ∈ wsX10_layer := by decide +kernel
  have hown : s.vm.findClass RX10 = some m.cls := findClass_of_methodNamed B.named
  have hlocks := B.notSynchronized
  have hS : va_S (AM mo a) s.heap s.heap [] := va_S.rf
  have hl := lv_entry ([.ref mo, .int d, .int k0]) (n := 8) (Nat.le_of_ble_eq_true rfl)
  rw [lg_entry_eq]
  generalize (lg_sl ([.ref mo, .int d, .int k0]) ++ List.replicate (8 - (lg_sl ([.ref mo, .int d, .int k0])).length) Slot.unset).toArray = ls at hl ⊢
  have hl : lv_has ls 8 [(0, .ref mo), (1, .int d), (2, .int k0)] := hl
  have k_0 : (0 : Int32).toInt = 0 := by decide
  have k_3 : (3 : Int32).toInt = 3 := by decide
  have k_36 : (36 : Int32).toInt = 36 := by decide
  have k_60 : (60 : Int32).toInt = 60 := by decide
  have k_m13L : (-13 : Int64).toInt = -13 := by decide
  have k_m12L : (-12 : Int64).toInt = -12 := by decide
  have k_m11L : (-11 : Int64).toInt = -11 := by decide
  have k_m2L : (-2 : Int64).toInt = -2 := by decide
  have k_m1L : (-1 : Int64).toInt = -1 := by decide
  have k_0L : (0 : Int64).toInt = 0 := by decide
  have k_1L : (1 : Int64).toInt = 1 := by decide
  have k_8L : (8 : Int64).toInt = 8 := by decide
  have k_9L : (9 : Int64).toInt = 9 := by decide
  refine lv_aload_n hx hb dX10_layer_0 rfl (lv_at hl 0 rfl) ?_
  refine lv_iconst (v := 0) hx hb dX10_layer_1 (by decide) ?_
  refine m_put (v := .int (0 : Int32)) (ty := .int) hx hb hts hin hown hK hP hD hS 0 (by decide) rfl (hts (.fieldLink RX10 79 "ShadowBenchModel" "thrown" "I") (by decide +kernel)) rfl (by decide +kernel) rfl rfl (upd f 0 (0 : Int32)) g rfl dX10_layer_2 (fun H locs hP hS => ?_)
  refine lv_iload_n hx hb dX10_layer_5 rfl (lv_at hl 1 rfl) ?_
  refine m_pu (As := [.int d]) (rest := []) ⟨hx, hb, hml, hown, hts⟩ (c_X10_isShelf l d ) (va_cwS 1 hts gX10_layer_X10_isShelf rfl rfl rfl (by decide +kernel) ⟨Nat.le_of_ble_eq_true rfl, Nat.le_of_ble_eq_true rfl⟩) hP rfl hl.1 rfl (Nat.le_of_ble_eq_true rfl) dX10_layer_6 ⟨Nat.le_of_ble_eq_true rfl, Nat.le_of_ble_eq_true rfl⟩ hS (fun r6 H locs q6 hP hS => ?_)
  refine lv_if_eq (tgt := 24) hx hb dX10_layer_9 (by decide) (fun c9 => ?_) (fun c9 => ?_)
  · skip
    have b9 := bo_f q6 c9
    refine lv_ldc2 hx hb hown (hts (.constantLong RX10 185 (-1)) (by decide +kernel)) dX10_layer_24 ?_
    exact W.lret (v := (-1 : Int64)) hx hb hr (fun t ht hW => ⟨⟨_, ((upd f 0 (0 : Int32)), g, r, q), rfl, ⟨rfl, (Or.inl ⟨(fun z9 => by first | exact b9 z9.1 | (have z8 := z9.2; have y21 := b21; simp only [k64, show (0 : Int64).toInt = 0 from rfl, show (8 : Int64).toInt = 8 from rfl, show (9 : Int64).toInt = 9 from rfl] at y21; omega) | (have z8 := z9.2; omega)), rfl⟩)⟩, by unfold mB; rw [ht]; exact hP⟩, hS.F ht⟩) hS.2.2 dX10_layer_27
  · skip
    have b9 := bo_t q6 c9
    refine lv_iload_n hx hb dX10_layer_12 rfl (lv_at hl 2 rfl) ?_
    refine lv_i2l (v := k0.toInt64) hx hb dX10_layer_13 rfl ?_
    refine lv_lconst (v := 0) hx hb dX10_layer_14 (by decide) ?_
    refine lv_ldc2 hx hb hown (hts (.constantLong RX10 250 (8)) (by decide +kernel)) dX10_layer_15 ?_
    refine m_pu (As := [.long (k0.toInt64), .long (0 : Int64), .long (8 : Int64)]) (rest := []) ⟨hx, hb, hml, hown, hts⟩ (c_X10_isIn l k0.toInt64 (0 : Int64) (8 : Int64) ) (va_cwS 3 hts gX10_layer_X10_isIn rfl rfl rfl (by decide +kernel) ⟨Nat.le_of_ble_eq_true rfl, Nat.le_of_ble_eq_true rfl⟩) hP rfl hl.1 rfl (Nat.le_of_ble_eq_true rfl) dX10_layer_18 ⟨Nat.le_of_ble_eq_true rfl, Nat.le_of_ble_eq_true rfl⟩ hS (fun r18 H locs q18 hP hS => ?_)
    have q18 := q18
    simp only [k64, show (0 : Int64).toInt = 0 from rfl, show (1 : Int64).toInt = 1 from rfl, show (2 : Int64).toInt = 2 from rfl, show (3 : Int64).toInt = 3 from rfl, show (6 : Int64).toInt = 6 from rfl] at q18
    refine lv_if_ne (tgt := 28) hx hb dX10_layer_21 (by decide) (fun c21 => ?_) (fun c21 => ?_)
    · skip
      have b21 := bo_t q18 c21
      have y21 := b21
      try simp only [k64, show (0 : Int64).toInt = 0 from rfl, show (8 : Int64).toInt = 8 from rfl] at y21
      refine lv_aload_n hx hb dX10_layer_28 rfl (lv_at hl 0 rfl) ?_
      refine m_get (v := .ref (a 29)) hx hb hts hin hown hK hP 29 (by decide) rfl (hts (.fieldLink RX10 61 "ShadowBenchModel" "shelf" "[I") (by decide +kernel)) rfl dX10_layer_29 ?_
      refine lv_iload_n hx hb dX10_layer_32 rfl (lv_at hl 1 rfl) ?_
      refine m_iald (w := (r 29)) hx hb hK hP 17 rfl (vp_in_iff.mpr ⟨by omega, by omega⟩) dX10_layer_33 ?_
      refine lv_topi (fun v33 e33 => ?_)
      have i33 : v33.toInt = ((r 29) d.toNatClampNeg).toInt := congrArg Int32.toInt e33
      refine lv_iconst (v := 3) hx hb dX10_layer_34 (by decide) ?_
      refine lv_icmp_eq (tgt := 57) hx hb dX10_layer_35 (by decide) (fun c35 => ?_) (fun c35 => ?_)
      · skip
        have d35 := c35
        rw [fa_eq] at d35
        refine lv_aload_n hx hb dX10_layer_57 rfl (lv_at hl 0 rfl) ?_
        refine m_get (v := .ref (a 30)) hx hb hts hin hown hK hP 30 (by decide) rfl (hts (.fieldLink RX10 64 "ShadowBenchModel" "shelfSize" "[I") (by decide +kernel)) rfl dX10_layer_58 ?_
        refine lv_iload_n hx hb dX10_layer_61 rfl (lv_at hl 1 rfl) ?_
        refine m_iald (w := (r 30)) hx hb hK hP 18 rfl (vp_in_iff.mpr ⟨by omega, by omega⟩) dX10_layer_62 ?_
        refine lv_topi (fun v62 e62 => ?_)
        have i62 : v62.toInt = ((r 30) d.toNatClampNeg).toInt := congrArg Int32.toInt e62
        have z62 := mi_s hI (x := d) (by omega) (by omega) e62
        refine lv_bipush (v := 36) hx hb dX10_layer_63 (by decide) ?_
        refine lv_icmp_le (tgt := 72) hx hb dX10_layer_65 (by decide) (fun c65 => ?_) (fun c65 => ?_)
        · skip
          have d65 := c65
          rw [fa_le] at d65
          have k9 : r 29 d.toNatClampNeg = 3 := e33.symm.trans c35
          refine lv_lconst (v := 0) hx hb dX10_layer_72 (by decide) ?_
          refine lv_lstore_n (lv' := [(3, .long (0 : Int64)), (0, .ref mo), (1, .int d), (2, .int k0)]) hx hb dX10_layer_73 rfl hl (by decide) rfl (fun ls hl => ?_)
          refine lv_iconst (v := 0) hx hb dX10_layer_74 (by decide) ?_
          refine lv_istore (lv' := [(5, .int (0 : Int32)), (3, .long (0 : Int64)), (0, .ref mo), (1, .int d), (2, .int k0)]) hx hb dX10_layer_75 hl (by decide) rfl (fun ls hl => ?_)
          have loop_77 : ∀ (n : Nat) (i : Nat) (x3 : Int64), (i ≤ 60) → (x3 = layN (fun e9 => q 33 (60 * d.toNatClampNeg + e9)) k0.toInt i) → ((i : Int) ≤ (r 30 d.toNatClampNeg).toInt) → 60 - i < n → ∀ (H : Heap) (locs : List Loc), va_P D vwCl (WM cy mo a (upd f 0 (0 : Int32)) g r q) H → va_S (AM mo a) s.heap H locs → ∀ (ls : Array Slot), lv_has ls 8 [(5, .int (nI i)), (3, .long x3), (0, .ref mo), (1, .int d), (2, .int k0)] → W p l e (headSpec wsX10_layer ({ frames := 1, cells := 0, slots := 0, locals := 25 })).room s m #[Value.ref mo, Value.int d, Value.int k0] below meth c H locs 0 0 (MQ below (va_Ql (fun r0 u => u = ((upd f 0 (0 : Int32)), g, r, q) ∧ (lyA (r 29 d.toNatClampNeg) (r 30 d.toNatClampNeg) (fun e9 => q 33 (60 * d.toNatClampNeg + e9)) d k0 r0)) (mB D cy mo a) (AM mo a)) #[Value.ref mo, Value.int d, Value.int k0] s 0 0 (AM mo a)) (F0 m 77 ls []) := by
            intro n
            induction n with
            | zero => intro i x3  j77_0 j77_1 j77_2 hn; exact absurd hn (Nat.not_lt_zero _)
            | succ n ih_77 =>
              intro i x3  j77_0 j77_1 j77_2 hn_77 H locs hP hS ls hl
              have ii : (nI i).toInt = (i : Int) := nI_toInt (by omega)
              refine lv_iload hx hb dX10_layer_77 (lv_at hl 0 rfl) ?_
              refine lv_aload_n hx hb dX10_layer_79 rfl (lv_at hl 2 rfl) ?_
              refine m_get (v := .ref (a 30)) hx hb hts hin hown hK hP 30 (by decide) rfl (hts (.fieldLink RX10 64 "ShadowBenchModel" "shelfSize" "[I") (by decide +kernel)) rfl dX10_layer_80 ?_
              refine lv_iload_n hx hb dX10_layer_83 rfl (lv_at hl 3 rfl) ?_
              refine m_iald (w := (r 30)) hx hb hK hP 18 rfl (vp_in_iff.mpr ⟨by omega, by omega⟩) dX10_layer_84 ?_
              refine lv_topi (fun v84 e84 => ?_)
              have i84 : v84.toInt = ((r 30) d.toNatClampNeg).toInt := congrArg Int32.toInt e84
              have z84 := mi_s hI (x := d) (by omega) (by omega) e84
              refine lv_icmp_ge (tgt := 143) hx hb dX10_layer_85 (by decide) (fun c85 => ?_) (fun c85 => ?_)
              · skip
                have d85 := c85
                rw [fa_le] at d85
                refine lv_lload_n hx hb dX10_layer_143 rfl (lv_at hl 1 rfl) ?_
                exact W.lret (v := x3) hx hb hr (fun t ht hW => ⟨⟨_, ((upd f 0 (0 : Int32)), g, r, q), rfl, ⟨rfl, (Or.inr ⟨⟨b9, by omega, by omega⟩, Or.inr (Or.inr (Or.inr ⟨k9, by omega, by rw [j77_1, show i = (r 30 d.toNatClampNeg).toNatClampNeg by have := m_cl (x := r 30 d.toNatClampNeg) (by omega); omega]⟩))⟩)⟩, by unfold mB; rw [ht]; exact hP⟩, hS.F ht⟩) hS.2.2 dX10_layer_144
              · skip
                have d85 := c85
                rw [fa_le] at d85
                refine lv_aload_n hx hb dX10_layer_88 rfl (lv_at hl 2 rfl) ?_
                refine m_get (v := .ref (a 33)) hx hb hts hin hown hK hP 33 (by decide) rfl (hts (.fieldLink RX10 73 "ShadowBenchModel" "shelfRow" "[J") (by decide +kernel)) rfl dX10_layer_89 ?_
                refine lv_bipush (v := 60) hx hb dX10_layer_92 (by decide) ?_
                refine lv_iload_n hx hb dX10_layer_94 rfl (lv_at hl 3 rfl) ?_
                refine lv_imul hx hb dX10_layer_95 ?_
                refine lv_topi (fun v95 e95 => ?_)
                have i95 : v95.toInt = 60 * d.toInt := by rw [e95]; exact mulcL rfl (by omega) (by omega)
                refine lv_iload hx hb dX10_layer_96 (lv_at hl 0 rfl) ?_
                refine lv_iadd hx hb dX10_layer_98 ?_
                refine lv_topi (fun v98 e98 => ?_)
                have i98 : v98.toInt = v95.toInt + (nI i).toInt := by rw [e98]; exact fb_addI (by omega) (by omega)
                have cd9 := m_cl (x := d) (by omega)
                have cv9 := m_cl (x := v98) (by omega)
                have f98 : v98.toNatClampNeg = 60 * d.toNatClampNeg + i := by omega
                refine m_lald (w := (q 33)) hx hb hK hP 21 rfl (vp_in_iff.mpr ⟨by omega, by omega⟩) dX10_layer_99 ?_
                refine lv_topl (fun v99 e99 => ?_)
                refine lv_lstore (lv' := [(6, .long v99), (5, .int (nI i)), (3, .long x3), (0, .ref mo), (1, .int d), (2, .int k0)]) hx hb dX10_layer_100 hl (by decide) rfl (fun ls hl => ?_)
                have cn9 := m_cl (x := r 30 d.toNatClampNeg) (by omega)
                have h01 := hq9 b9 k9 i (by rw [e84] at d85; omega)
                rw [← f98, ← e99] at h01
                refine lv_lload hx hb dX10_layer_102 (lv_at hl 0 rfl) ?_
                refine lv_lconst (v := 0) hx hb dX10_layer_104 (by decide) ?_
                refine lv_ldc2 hx hb hown (hts (.constantLong RX10 276 (9)) (by decide +kernel)) dX10_layer_105 ?_
                refine m_pu (As := [.long v99, .long (0 : Int64), .long (9 : Int64)]) (rest := []) ⟨hx, hb, hml, hown, hts⟩ (c_X10_isIn l v99 (0 : Int64) (9 : Int64) ) (va_cwS 3 hts gX10_layer_X10_isIn rfl rfl rfl (by decide +kernel) ⟨Nat.le_of_ble_eq_true rfl, Nat.le_of_ble_eq_true rfl⟩) hP rfl hl.1 rfl (Nat.le_of_ble_eq_true rfl) dX10_layer_108 ⟨Nat.le_of_ble_eq_true rfl, Nat.le_of_ble_eq_true rfl⟩ hS (fun r108 H locs q108 hP hS => ?_)
                have q108 := q108
                simp only [k64, show (0 : Int64).toInt = 0 from rfl, show (1 : Int64).toInt = 1 from rfl, show (2 : Int64).toInt = 2 from rfl, show (3 : Int64).toInt = 3 from rfl, show (6 : Int64).toInt = 6 from rfl] at q108
                refine lv_if_ne (tgt := 118) hx hb dX10_layer_111 (by decide) (fun c111 => ?_) (fun c111 => ?_)
                · skip
                  have b111 := bo_t q108 c111
                  refine lv_lload_n hx hb dX10_layer_118 rfl (lv_at hl 2 rfl) ?_
                  refine lv_lload hx hb dX10_layer_119 (lv_at hl 0 rfl) ?_
                  refine lv_iload_n hx hb dX10_layer_121 rfl (lv_at hl 5 rfl) ?_
                  refine lv_i2l (v := k0.toInt64) hx hb dX10_layer_122 rfl ?_
                  refine W.lcmp hx hb dX10_layer_123 ?_
                  refine lv_if_le (tgt := 134) hx hb dX10_layer_124 (by decide) (fun c124 => ?_) (fun c124 => ?_)
                  · skip
                    have d124 := c124
                    rw [lg_cmp_le, fa_le64] at d124
                    refine lv_lconst (v := 0) hx hb dX10_layer_134 (by decide) ?_
                    refine lv_lor hx hb dX10_layer_135 ?_
                    refine lv_topl (fun v135 e135 => ?_)
                    refine lv_lstore_n (lv' := [(3, .long v135), (6, .long v99), (5, .int (nI i)), (0, .ref mo), (1, .int d), (2, .int k0)]) hx hb dX10_layer_136 rfl hl (by decide) rfl (fun ls hl => ?_)
                    refine lv_iinc (v := (nI (i + 1))) (lv' := [(5, .int (nI (i + 1))), (3, .long v135), (6, .long v99), (0, .ref mo), (1, .int d), (2, .int k0)]) hx hb dX10_layer_137 hl (k := 2) rfl (nI_1 _) (by decide) rfl (fun ls hl => ?_)
                    refine lv_goto (tgt := 77) hx hb dX10_layer_140 (by decide) ?_
                    exact ih_77 (i + 1) v135 (by omega) (by show v135 = layN (fun e9 => q 33 (60 * d.toNatClampNeg + e9)) k0.toInt i ||| (if k0.toInt < (q 33 (60 * d.toNatClampNeg + i)).toInt then l1 i else 0); rw [← f98, ← e99]; first | (rw [if_pos (by rw [k64] at d124; omega), e135, j77_1]; rfl) | (rw [if_neg (by rw [k64] at d124; omega), e135, j77_1])) (by rw [e84] at d85; omega) (by omega) _ _ hP hS ls (lv_sub hl [0, 1, 3, 4, 5] rfl)
                  · skip
                    have d124 := c124
                    rw [lg_cmp_le, fa_le64] at d124
                    refine lv_lconst (v := 1) hx hb dX10_layer_127 (by decide) ?_
                    refine lv_iload hx hb dX10_layer_128 (lv_at hl 1 rfl) ?_
                    refine lv_lshl (v := (1 : Int64) <<< ((nI i).toInt64 &&& 63)) hx hb dX10_layer_130 rfl ?_
                    refine lv_goto (tgt := 135) hx hb dX10_layer_131 (by decide) ?_
                    refine lv_lor hx hb dX10_layer_135 ?_
                    refine lv_topl (fun v135 e135 => ?_)
                    refine lv_lstore_n (lv' := [(3, .long v135), (6, .long v99), (5, .int (nI i)), (0, .ref mo), (1, .int d), (2, .int k0)]) hx hb dX10_layer_136 rfl hl (by decide) rfl (fun ls hl => ?_)
                    refine lv_iinc (v := (nI (i + 1))) (lv' := [(5, .int (nI (i + 1))), (3, .long v135), (6, .long v99), (0, .ref mo), (1, .int d), (2, .int k0)]) hx hb dX10_layer_137 hl (k := 2) rfl (nI_1 _) (by decide) rfl (fun ls hl => ?_)
                    refine lv_goto (tgt := 77) hx hb dX10_layer_140 (by decide) ?_
                    exact ih_77 (i + 1) v135 (by omega) (by show v135 = layN (fun e9 => q 33 (60 * d.toNatClampNeg + e9)) k0.toInt i ||| (if k0.toInt < (q 33 (60 * d.toNatClampNeg + i)).toInt then l1 i else 0); rw [← f98, ← e99]; first | (rw [if_pos (by rw [k64] at d124; omega), e135, j77_1]; rfl) | (rw [if_neg (by rw [k64] at d124; omega), e135, j77_1])) (by rw [e84] at d85; omega) (by omega) _ _ hP hS ls (lv_sub hl [0, 1, 3, 4, 5] rfl)
                · skip
                  have b111 := bo_f q108 c111
                  refine lv_ldc2 hx hb hown (hts (.constantLong RX10 189 (-2)) (by decide +kernel)) dX10_layer_114 ?_
                  exact W.lret (v := (-2 : Int64)) hx hb hr (fun t ht hW => ⟨⟨_, ((upd f 0 (0 : Int32)), g, r, q), rfl, ⟨rfl, (by exfalso; have y9 := b111; simp only [show (0 : Int64).toInt = 0 from rfl, show (8 : Int64).toInt = 8 from rfl, show (9 : Int64).toInt = 9 from rfl] at y9; omega)⟩, by unfold mB; rw [ht]; exact hP⟩, hS.F ht⟩) hS.2.2 dX10_layer_117
          exact loop_77 (60 + 1) 0 (0 : Int64) (by omega) (rfl) (by omega) (by omega) _ _ hP hS ls (lv_sub hl [0, 1, 2, 3, 4] rfl)
        · skip
          have d65 := c65
          rw [fa_le] at d65
          refine lv_ldc2 hx hb hown (hts (.constantLong RX10 274 (-13)) (by decide +kernel)) dX10_layer_68 ?_
          exact W.lret (v := (-13 : Int64)) hx hb hr (fun t ht hW => ⟨⟨_, ((upd f 0 (0 : Int32)), g, r, q), rfl, ⟨rfl, (Or.inr ⟨⟨b9, by omega, by omega⟩, Or.inr (Or.inr (Or.inl ⟨e33.symm.trans c35, by omega, rfl⟩))⟩)⟩, by unfold mB; rw [ht]; exact hP⟩, hS.F ht⟩) hS.2.2 dX10_layer_71
      · skip
        have d35 := c35
        rw [fa_eq] at d35
        refine lv_aload_n hx hb dX10_layer_38 rfl (lv_at hl 0 rfl) ?_
        refine m_get (v := .ref (a 29)) hx hb hts hin hown hK hP 29 (by decide) rfl (hts (.fieldLink RX10 61 "ShadowBenchModel" "shelf" "[I") (by decide +kernel)) rfl dX10_layer_39 ?_
        refine lv_iload_n hx hb dX10_layer_42 rfl (lv_at hl 1 rfl) ?_
        refine m_iald (w := (r 29)) hx hb hK hP 17 rfl (vp_in_iff.mpr ⟨by omega, by omega⟩) dX10_layer_43 ?_
        refine lv_topi (fun v43 e43 => ?_)
        have i43 : v43.toInt = ((r 29) d.toNatClampNeg).toInt := congrArg Int32.toInt e43
        refine lv_if_ne (tgt := 53) hx hb dX10_layer_44 (by decide) (fun c44 => ?_) (fun c44 => ?_)
        · skip
          have d44 := c44
          rw [fa_eq] at d44
          refine lv_ldc2 hx hb hown (hts (.constantLong RX10 272 (-12)) (by decide +kernel)) dX10_layer_53 ?_
          exact W.lret (v := (-12 : Int64)) hx hb hr (fun t ht hW => ⟨⟨_, ((upd f 0 (0 : Int32)), g, r, q), rfl, ⟨rfl, (Or.inr ⟨⟨b9, by omega, by omega⟩, Or.inr (Or.inl ⟨⟨fun z9 => c44 (e43.trans z9), fun z9 => c35 (e33.trans z9)⟩, rfl⟩)⟩)⟩, by unfold mB; rw [ht]; exact hP⟩, hS.F ht⟩) hS.2.2 dX10_layer_56
        · skip
          have d44 := c44
          rw [fa_eq] at d44
          refine lv_ldc2 hx hb hown (hts (.constantLong RX10 270 (-11)) (by decide +kernel)) dX10_layer_47 ?_
          refine lv_goto (tgt := 56) hx hb dX10_layer_50 (by decide) ?_
          exact W.lret (v := (-11 : Int64)) hx hb hr (fun t ht hW => ⟨⟨_, ((upd f 0 (0 : Int32)), g, r, q), rfl, ⟨rfl, (Or.inr ⟨⟨b9, by omega, by omega⟩, Or.inl ⟨e43.symm.trans c44, rfl⟩⟩)⟩, by unfold mB; rw [ht]; exact hP⟩, hS.F ht⟩) hS.2.2 dX10_layer_56
    · skip
      have b21 := bo_f q18 c21
      refine lv_ldc2 hx hb hown (hts (.constantLong RX10 185 (-1)) (by decide +kernel)) dX10_layer_24 ?_
      exact W.lret (v := (-1 : Int64)) hx hb hr (fun t ht hW => ⟨⟨_, ((upd f 0 (0 : Int32)), g, r, q), rfl, ⟨rfl, (Or.inl ⟨(fun z9 => by first | exact b9 z9.1 | (have z8 := z9.2; have y21 := b21; simp only [k64, show (0 : Int64).toInt = 0 from rfl, show (8 : Int64).toInt = 8 from rfl, show (9 : Int64).toInt = 9 from rfl] at y21; omega) | (have z8 := z9.2; omega)), rfl⟩)⟩, by unfold mB; rw [ht]; exact hP⟩, hS.F ht⟩) hS.2.2 dX10_layer_27

section SHM
variable {cy : Nat → ClassId} {A : Nat → Prop} {xo z1 z2 : Nat} {G G1 : cG} {W W1 : va_W} {o : Option Nat} {x a : Nat} {k n : Int32} {R R1 : Nat → Int64}
/-- cells of rows and of the shelves stay -/
def stR (G : cG) (W W1 : va_W) : Prop := ∀ (z : Nat) (t : Nat × Nat × Nat) (e : va_E), G z = some t → (t.1 = 4 ∨ t.1 = 10 ∨ t.1 = 16) → cIn W z e → cIn W1 z e
theorem shX.mv (h : shX cy G W o x a k n R) (hE : cE G G1) (hx : ∀ (z : Nat) (t : Nat × Nat × Nat) (e : va_E), G z = some t → (t.1 = 4 ∨ t.1 = 16) → cIn W z e → cIn W1 z e) (hR : ∀ e, e < 60 → R e = R1 e) : shX cy G1 W1 o x a k n R1 := by
  rcases h with h | ⟨h, h1, K, m, h2⟩ | ⟨h, m, z, f, h1, h2, h3, h4, h5, h6, h7, h8, h9⟩
  · exact Or.inl h
  · exact Or.inr (Or.inl ⟨h, h1, K, m, hE _ _ h2⟩)
  · refine Or.inr (Or.inr ⟨h, m, z, f, hE _ _ h1, hE _ _ h2, hx _ _ _ h1 (Or.inl rfl) h3, hx _ _ _ h2 (Or.inr rfl) h4, h5, h6, h7, fun e he => ?_, fun hk e he => ?_⟩)
    · rw [← hR e (by omega)]; exact h8 e he
    · rw [← hR e (by omega)]; exact h9 hk e he
/-- a shelf with a row: its cells -/
theorem shX.row3 (h : shX cy G W o x a k n R) (hk : 3 ≤ k.toInt) : o = some x ∧ ∃ (m : Nat) (z : Int32) (f : Nat → Int64), G x = some (4, m, 0) ∧ G a = some (16, m, 0) ∧ cIn W x (.inr (6, [.int z, .ref a])) ∧ cIn W a (.inl (cy 1, m, .inr (.inl f))) ∧ n.toInt = (m : Int) ∧ m ≤ 60 ∧ ((z = 1 ∧ k = 3) ∨ (z = 0 ∧ k = 4)) ∧ (∀ e, e < m → f e = R e) ∧ (k = 3 → ∀ e, e < m → 0 ≤ (R e).toInt ∧ (R e).toInt ≤ 1) := by
  rcases h with ⟨-, h⟩ | ⟨-, h, -⟩ | h
  · rw [h] at hk; exact absurd hk (by decide)
  · rw [h] at hk; exact absurd hk (by decide)
  · exact h
def RSX (cy : Nat → ClassId) (xo : Nat) (G : cG) (W : va_W) (r : Nat → Nat → Int32) (q : Nat → Nat → Int64) : Prop := ∃ (bs js sh wk ll : Nat) (jc lc : Int32) (mo lb : Option Nat) (fb : Nat → Option Nat) (sx sa : Nat → Nat), cIn W xo (.inr (8, [.ref bs, .ref js, .int jc, .ref sh, .ref wk, va_rf mo, .ref ll, .int lc, va_rf lb])) ∧ cIn W sh (.inl (cy 5, cqa 8 fb)) ∧ (∀ i, i < 8 → shX cy G W (fb i) (sx i) (sa i) (r 29 i) (r 30 i) (fun e => q 33 (60 * i + e))) ∧ (∀ i j, i < 8 → j < 8 → i ≠ j → 3 ≤ (r 29 i).toInt → 3 ≤ (r 29 j).toInt → sa i ≠ sa j)
variable {r r1 : Nat → Nat → Int32} {q q1 : Nat → Nat → Int64} {bs js sh wk ll bs1 js1 wk1 ll1 : Nat} {jc lc jc1 lc1 : Int32} {mo lb mo1 lb1 : Option Nat} {fb : Nat → Option Nat} {sx sa : Nat → Nat}
theorem RSX.at (h : RSX cy xo G W r q) (hD : va_D A W) (hM : cIn W xo (.inr (8, [.ref bs, .ref js, .int jc, .ref sh, .ref wk, va_rf mo, .ref ll, .int lc, va_rf lb]))) : ∃ (fb : Nat → Option Nat) (sx sa : Nat → Nat), cIn W sh (.inl (cy 5, cqa 8 fb)) ∧ (∀ i, i < 8 → shX cy G W (fb i) (sx i) (sa i) (r 29 i) (r 30 i) (fun e => q 33 (60 * i + e))) ∧ (∀ i j, i < 8 → j < 8 → i ≠ j → 3 ≤ (r 29 i).toInt → 3 ≤ (r 29 j).toInt → sa i ≠ sa j) := by
  obtain ⟨bs', js', sh', wk', ll', jc', lc', mo', lb', fb, sx, sa, h1, h2, h3, h4⟩ := h
  have z := cIn.eq hD hM h1
  simp only [Sum.inr.injEq, Prod.mk.injEq, List.cons.injEq, Value.int.injEq, Value.ref.injEq, and_true, true_and] at z
  obtain ⟨-, -, -, e4, -⟩ := z
  subst e4
  exact ⟨fb, sx, sa, h2, h3, h4⟩
theorem RSX.mv (h : RSX cy xo G W r q) (hD : va_D A W) (hT : cT cy G W) (hG : G xo = some (7, z1, z2)) (hE : cE G G1) (hx : stR G W W1) (hM : cIn W xo (.inr (8, [.ref bs, .ref js, .int jc, .ref sh, .ref wk, va_rf mo, .ref ll, .int lc, va_rf lb]))) (hM1 : cIn W1 xo (.inr (8, [.ref bs1, .ref js1, .int jc1, .ref sh, .ref wk1, va_rf mo1, .ref ll1, .int lc1, va_rf lb1]))) (e29 : r1 29 = r 29) (e30 : r1 30 = r 30) (e33 : q1 33 = q 33) : RSX cy xo G1 W1 r1 q1 := by
  obtain ⟨fb, sx, sa, a1, a2, a3⟩ := h.at hD hM
  obtain ⟨-, -, -, -, hGs, -⟩ := w7sh hD hT hG hM
  refine ⟨_, _, _, _, _, _, _, _, _, fb, sx, sa, hM1, hx _ _ _ hGs (Or.inr (Or.inl rfl)) a1, fun i hi => ?_, ?_⟩
  · rw [e29, e30]
    exact (a2 i hi).mv (R1 := fun e => q1 33 (60 * i + e)) hE (fun z t e hg ht => hx z t e hg (ht.elim Or.inl (fun y => Or.inr (Or.inr y)))) (fun e _ => by show q 33 (60 * i + e) = q1 33 (60 * i + e); rw [e33])
  · rw [e29]
    exact a3
theorem stR.fr {ch : List Nat} (hX : cX none (chs ch) G W G1 W1) (h4 : chs ch 4 = false) (h10 : chs ch 10 = false) (h16 : chs ch 16 = false) : stR G W W1 := fun z t e hg ht hi => hX.2.1 _ _ (cP.no hg (by rcases ht with y | y | y <;> rw [y] <;> assumption)) hi
theorem RSX.keep (h : RSX cy xo G W r q) (hD : va_D A W) (hT : cT cy G W) (hG : G xo = some (7, z1, z2)) {ch : List Nat} (hX : cX none (chs ch) G W G1 W1) (h7 : chs ch 7 = false) (h4 : chs ch 4 = false) (h10 : chs ch 10 = false) (h16 : chs ch 16 = false) (e29 : r1 29 = r 29) (e30 : r1 30 = r 30) (e33 : q1 33 = q 33) : RSX cy xo G1 W1 r1 q1 := by
  obtain ⟨bs, js, sh, wk, ll, jc, lc, mo, lb, fb, sx, sa, a1, -⟩ := id h
  exact h.mv hD hT hG hX.1 (stR.fr hX h4 h10 h16) a1 (hX.2.1 _ _ (cP.no hG h7) a1) e29 e30 e33
/-- a shelf gets another thing -/
theorem RSX.put (hD : va_D A W) (hT : cT cy G W) (hG : G xo = some (7, z1, z2)) (hS : ∀ i, i < 8 → shX cy G W (fb i) (sx i) (sa i) (r 29 i) (r 30 i) (fun e => q 33 (60 * i + e))) (hd : ∀ i j, i < 8 → j < 8 → i ≠ j → 3 ≤ (r 29 i).toInt → 3 ≤ (r 29 j).toInt → sa i ≠ sa j) (hX : cX none (chs [10]) G W G1 W1) (hM : cIn W xo (.inr (8, [.ref bs, .ref js, .int jc, .ref sh, .ref wk, va_rf mo, .ref ll, .int lc, va_rf lb]))) {d : Nat} {k' n' : Int32} (hf : cIn W1 sh (.inl (cy 5, cqa 8 (va_up fb d o)))) (hn : shX cy G1 W1 o x a k' n' (fun e => q1 33 (60 * d + e))) (ha : 3 ≤ k'.toInt → ∀ e, ¬ cIn W a e) (e29 : r1 29 = upd (r 29) d k') (e30 : r1 30 = upd (r 30) d n') (e33 : ∀ i, i ≠ d → ∀ e, e < 60 → q1 33 (60 * i + e) = q 33 (60 * i + e)) : RSX cy xo G1 W1 r1 q1 := by
  refine ⟨_, _, _, _, _, _, _, _, _, va_up fb d o, fun i => if i = d then x else sx i, fun i => if i = d then a else sa i, hX.2.1 _ _ (cP.no hG rfl) hM, hf, fun i hi => ?_, fun i j hi hj hij h3 h3' => ?_⟩
  · rw [e29, e30]
    by_cases z : i = d
    · subst z
      simp only [va_up, upd, if_true]
      exact hn
    · simp only [va_up, upd, z, if_false]
      exact (hS i hi).mv (R1 := fun e => q1 33 (60 * i + e)) hX.1 (fun z t e hg ht hi => hX.2.1 _ _ (cP.no hg (by rcases ht with y | y <;> rw [y] <;> rfl)) hi) (fun e he => (e33 i z e he).symm)
  · rw [e29] at h3 h3'
    unfold upd at h3 h3'
    show (if i = d then a else sa i) ≠ (if j = d then a else sa j)
    by_cases zi : i = d
    · rw [if_pos zi] at h3 ⊢
      have zj : ¬ j = d := fun y => hij (zi.trans y.symm)
      rw [if_neg zj] at h3' ⊢
      obtain ⟨-, m, z, f, -, -, -, h4, -⟩ := (hS j hj).row3 h3'
      exact fun y => ha h3 _ (y ▸ h4)
    · rw [if_neg zi] at h3 ⊢
      by_cases zj : j = d
      · rw [if_pos zj] at h3' ⊢
        obtain ⟨-, m, z, f, -, -, -, h4, -⟩ := (hS i hi).row3 h3
        exact fun y => ha h3' _ (y ▸ h4)
      · rw [if_neg zj] at h3' ⊢
        exact hd i j hi hj hij h3 h3'
/-- nothing is put -/
theorem RSX.same (hD : va_D A W) (hT : cT cy G W) (hG : G xo = some (7, z1, z2)) (hS : ∀ i, i < 8 → shX cy G W (fb i) (sx i) (sa i) (r 29 i) (r 30 i) (fun e => q 33 (60 * i + e))) (hd : ∀ i j, i < 8 → j < 8 → i ≠ j → 3 ≤ (r 29 i).toInt → 3 ≤ (r 29 j).toInt → sa i ≠ sa j) (hX : cX none (chs [10]) G W G1 W1) (hM : cIn W xo (.inr (8, [.ref bs, .ref js, .int jc, .ref sh, .ref wk, va_rf mo, .ref ll, .int lc, va_rf lb]))) (hf : cIn W1 sh (.inl (cy 5, cqa 8 fb))) (e29 : r1 29 = r 29) (e30 : r1 30 = r 30) (e33 : q1 33 = q 33) : RSX cy xo G1 W1 r1 q1 := by
  refine ⟨_, _, _, _, _, _, _, _, _, fb, sx, sa, hX.2.1 _ _ (cP.no hG rfl) hM, hf, fun i hi => ?_, ?_⟩
  · rw [e29, e30]
    exact (hS i hi).mv (R1 := fun e => q1 33 (60 * i + e)) hX.1 (fun z t e hg ht hi => hX.2.1 _ _ (cP.no hg (by rcases ht with y | y <;> rw [y] <;> rfl)) hi) (fun e _ => by show q 33 (60 * i + e) = q1 33 (60 * i + e); rw [e33])
  · rw [e29]
    exact hd
theorem okSh_lt {d : Int32} (h : okSh d) : d.toNatClampNeg < 8 := by
  have := m_cl (x := d) h.1
  have := h.2
  omega
/-- make on both sides -/
theorem RSX.make (hD : va_D A W) (hT : cT cy G W) (hG : G xo = some (7, z1, z2)) (hS : ∀ i, i < 8 → shX cy G W (fb i) (sx i) (sa i) (r 29 i) (r 30 i) (fun e => q 33 (60 * i + e))) (hd : ∀ i j, i < 8 → j < 8 → i ≠ j → 3 ≤ (r 29 i).toInt → 3 ≤ (r 29 j).toInt → sa i ≠ sa j) (hX : cX none (chs [10]) G W G1 W1) (hM : cIn W xo (.inr (8, [.ref bs, .ref js, .int jc, .ref sh, .ref wk, va_rf mo, .ref ll, .int lc, va_rf lb]))) {d what n : Int32}
    (hc : (mkOk d what n ∧ ∃ x a z, cIn W1 sh (.inl (cy 5, cqa 8 (va_up fb d.toNatClampNeg (some x)))) ∧ G1 x = some (4, n.toNatClampNeg, 0) ∧ G1 a = some (16, n.toNatClampNeg, 0) ∧ (∀ e, ¬ cIn W a e) ∧ cIn W1 x (.inr (6, [.int z, .ref a])) ∧ cIn W1 a (.inl (cy 1, n.toNatClampNeg, .inr (.inl (fun _ => 0)))) ∧ ((z = 1 ∧ what.toInt = 3) ∨ (z = 0 ∧ what.toInt = 4))) ∨ (¬ mkOk d what n ∧ cIn W1 sh (.inl (cy 5, cqa 8 fb))))
    (hr : (mkOk d what n ∧ r1 29 = upd (r 29) d.toNatClampNeg what ∧ r1 30 = upd (r 30) d.toNatClampNeg n ∧ q1 33 = setQ (q 33) (60 * d.toNatClampNeg) (fun _ => 0) n.toNatClampNeg) ∨ (¬ mkOk d what n ∧ r1 29 = r 29 ∧ r1 30 = r 30 ∧ q1 33 = q 33)) : RSX cy xo G1 W1 r1 q1 := by
  rcases hc with ⟨ok, x, a, z, c1, c2, c3, c4, c5, c6, c7⟩ | ⟨no, c1⟩
  · rcases hr with ⟨-, m1, m2, m3⟩ | ⟨no, -⟩
    · have cn := m_cl (x := n) ok.2.1
      have n60 := ok.2.2
      refine RSX.put hD hT hG hS hd hX hM (a := a) c1 (Or.inr (Or.inr ⟨rfl, n.toNatClampNeg, z, _, c2, c3, c5, c6, by omega, by omega, c7.imp (fun y => ⟨y.1, Int32.toInt_inj.mp (by rw [y.2]; rfl)⟩) (fun y => ⟨y.1, Int32.toInt_inj.mp (by rw [y.2]; rfl)⟩), fun e he => ?_, fun _ e he => ?_⟩)) (fun _ => c4) m1 m2 (fun i hi e he => ?_)
      · show (0 : Int64) = q1 33 (60 * d.toNatClampNeg + e)
        rw [m3, setQ_in he]
      · show 0 ≤ (q1 33 (60 * d.toNatClampNeg + e)).toInt ∧ (q1 33 (60 * d.toNatClampNeg + e)).toInt ≤ 1
        rw [m3, setQ_in he]
        show 0 ≤ (0 : Int64).toInt ∧ (0 : Int64).toInt ≤ 1
        decide
      · rw [m3, setQ_out (by omega)]
    · exact absurd ok no
  · rcases hr with ⟨ok, -⟩ | ⟨-, m1, m2, m3⟩
    · exact absurd ok no
    · exact RSX.same hD hT hG hS hd hX hM c1 m1 m2 m3
/-- keep on both sides; fs, s: the job's sums -/
theorem RSX.kept (hD : va_D A W) (hT : cT cy G W) (hG : G xo = some (7, z1, z2)) (hS : ∀ i, i < 8 → shX cy G W (fb i) (sx i) (sa i) (r 29 i) (r 30 i) (fun e => q 33 (60 * i + e))) (hd : ∀ i j, i < 8 → j < 8 → i ≠ j → 3 ≤ (r 29 i).toInt → 3 ≤ (r 29 j).toInt → sa i ≠ sa j) (hX : cX none (chs [10]) G W G1 W1) (hM : cIn W xo (.inr (8, [.ref bs, .ref js, .int jc, .ref sh, .ref wk, va_rf mo, .ref ll, .int lc, va_rf lb]))) {d what : Int32} {w h w' h' : Nat} {p : Int64} {fs s : Nat → Int32} {P Q : Prop} (hb : P → what.toInt = 0 ∨ what.toInt = 1 ∨ ((w' = w ∧ h' = h) ∧ (1 ≤ w ∧ w ≤ 6 ∧ 1 ≤ h ∧ h ≤ 6) ∧ (∀ e, e < h → fs e = s e) ∧ ∀ e, e < w → fs (11 + e) = s (11 + e))) (hPQ : P ↔ Q)
    (hc : (P ∧ ∃ o9 x9 a9, cIn W1 sh (.inl (cy 5, cqa 8 (va_up fb d.toNatClampNeg o9))) ∧ kpX cy W G1 W1 o9 x9 a9 what w h p fs) ∨ (¬ P ∧ cIn W1 sh (.inl (cy 5, cqa 8 fb))))
    (hr : (Q ∧ ∃ nv : Int32, r1 29 = upd (r 29) d.toNatClampNeg what ∧ r1 30 = upd (r 30) d.toNatClampNeg nv ∧ (what.toInt = 3 → nv.toInt = ((w' * h' : Nat) : Int)) ∧ (what.toInt = 4 → nv.toInt = ((h' + w' : Nat) : Int)) ∧ q1 33 = setQ (q 33) (60 * d.toNatClampNeg) (keG what p h' s) nv.toNatClampNeg ∧ nv.toNatClampNeg ≤ 60) ∨ (¬ Q ∧ r1 29 = r 29 ∧ r1 30 = r 30 ∧ q1 33 = q 33)) : RSX cy xo G1 W1 r1 q1 := by
  rcases hc with ⟨ok, o9, x9, a9, c1, c2⟩ | ⟨no, c1⟩
  · rcases hr with ⟨-, nv, m1, m2, m3, m4, m5, m6⟩ | ⟨no, -⟩
    · have ot : ∀ i, i ≠ d.toNatClampNeg → ∀ e, e < 60 → q1 33 (60 * i + e) = q 33 (60 * i + e) := fun i hi e he => by rw [m5, setQ_out (by omega)]
      have cc : ∀ {v : Int32}, what.toInt = v.toInt → what = v := fun e => Int32.toInt_inj.mp e
      rcases c2 with ⟨y1, y2⟩ | ⟨y1, y2, y3⟩ | ⟨y1, m, z, F, y2, y3, y4, y5, y6, y7⟩
      · exact RSX.put (x := 0) (a := 0) hD hT hG hS hd hX hM c1 (Or.inl ⟨y2, cc (v := 0) y1⟩) (fun y => absurd y (by omega)) m1 m2 ot
      · exact RSX.put (a := 0) hD hT hG hS hd hX hM c1 (Or.inr (Or.inl ⟨y2, cc (v := 1) y1, y3⟩)) (fun y => absurd y (by omega)) m1 m2 ot
      · rcases hb ok with hb | hb | ⟨⟨rfl, rfl⟩, ⟨b1, b2, b3, b4⟩, b5, b6⟩
        · exfalso; rcases y7 with ⟨-, y8, -⟩ | ⟨-, y8, -⟩ <;> omega
        · exfalso; rcases y7 with ⟨-, y8, -⟩ | ⟨-, y8, -⟩ <;> omega
        · have mw : w' * h' ≤ 36 := Nat.mul_le_mul b2 b4
          rcases y7 with ⟨z1', y8, y9, yF⟩ | ⟨z1', y8, y9, yF⟩
          · have e3 := m3 y8
            have en : nv.toNatClampNeg = m := by
              have := m_cl (x := nv) (by omega)
              omega
            refine RSX.put hD hT hG hS hd hX hM c1 (Or.inr (Or.inr ⟨y1, m, z, F, y2, y3, y5, y6, by rw [e3, y9], by omega, Or.inl ⟨z1', cc (v := 3) y8⟩, fun e he => ?_, fun _ e he => ?_⟩)) (fun _ => y4) m1 m2 ot
            · show F e = q1 33 (60 * d.toNatClampNeg + e)
              rw [m5, en, setQ_in he, keG_3 y8]; exact yF e he
            · show 0 ≤ (q1 33 (60 * d.toNatClampNeg + e)).toInt ∧ (q1 33 (60 * d.toNatClampNeg + e)).toInt ≤ 1
              rw [m5, en, setQ_in he, keG_3 y8]; exact bI_01 p e
          · have e4 := m4 y8
            have en : nv.toNatClampNeg = m := by
              have := m_cl (x := nv) (by omega)
              omega
            refine RSX.put hD hT hG hS hd hX hM c1 (Or.inr (Or.inr ⟨y1, m, z, F, y2, y3, y5, y6, by rw [e4, y9], by omega, Or.inr ⟨z1', cc (v := 4) y8⟩, fun e he => ?_, fun z3 e he => ?_⟩)) (fun _ => y4) m1 m2 ot
            · show F e = q1 33 (60 * d.toNatClampNeg + e)
              rw [m5, en, setQ_in he]
              by_cases hh : e < h'
              · rw [keG_4 (by omega) hh, yF.1 e hh, b5 e hh]
              · rw [keG_5 (by omega) hh]
                have q1' := yF.2 (e - h') (by omega)
                rw [show h' + (e - h') = e by omega] at q1'
                rw [q1', b6 (e - h') (by omega), show 11 + e - h' = 11 + (e - h') by omega]
            · rw [z3] at y8; exact absurd y8 (by decide)
    · exact absurd (hPQ.mp ok) no
  · rcases hr with ⟨ok, -⟩ | ⟨-, m1, m2, m3⟩
    · exact absurd (hPQ.mpr ok) no
    · exact RSX.same hD hT hG hS hd hX hM c1 m1 m2 m3
/-- copy on both sides -/
theorem RSX.copied (h : RSX cy xo G W r q) (hD : va_D A W) (hT : cT cy G W) (hG : G xo = some (7, z1, z2)) (hfb : cIn W sh (.inl (cy 5, cqa 8 fb))) (hS : ∀ i, i < 8 → shX cy G W (fb i) (sx i) (sa i) (r 29 i) (r 30 i) (fun e => q 33 (60 * i + e))) (hd : ∀ i j, i < 8 → j < 8 → i ≠ j → 3 ≤ (r 29 i).toInt → 3 ≤ (r 29 j).toInt → sa i ≠ sa j) (hM : cIn W xo (.inr (8, [.ref bs, .ref js, .int jc, .ref sh, .ref wk, va_rf mo, .ref ll, .int lc, va_rf lb]))) {d i e j n : Int32}
    (hc : (cpOk (r 29) (r 30) d i e j n ∧ G1 = G ∧ cF (fun b9 => b9 = sa e.toNatClampNeg) W W1 ∧ ∃ (m1 m2 : Nat) (f1 f2 : Nat → Int64), cIn W (sa d.toNatClampNeg) (.inl (cy 1, m1, .inr (.inl f1))) ∧ cIn W (sa e.toNatClampNeg) (.inl (cy 1, m2, .inr (.inl f2))) ∧ cIn W1 (sa e.toNatClampNeg) (.inl (cy 1, m2, .inr (.inl (va_cpy f1 f2 i.toNatClampNeg j.toNatClampNeg n.toNatClampNeg))))) ∨ (¬ cpOk (r 29) (r 30) d i e j n ∧ (G1, W1) = (G, W)))
    (hr : (cpOk (r 29) (r 30) d i e j n ∧ q1 33 = setQ (q 33) (60 * e.toNatClampNeg + j.toNatClampNeg) (fun x9 => q 33 (60 * d.toNatClampNeg + i.toNatClampNeg + x9)) n.toNatClampNeg) ∨ (¬ cpOk (r 29) (r 30) d i e j n ∧ q1 33 = q 33)) (e29 : r1 29 = r 29) (e30 : r1 30 = r 30) : RSX cy xo G1 W1 r1 q1 := by
  rcases hc with ⟨ok, rfl, hF, m1, m2, f1, f2, c1, c2, c3⟩ | ⟨no, c1⟩
  · rcases hr with ⟨-, rq⟩ | ⟨no, -⟩
    · obtain ⟨⟨okd, oke⟩, -, ⟨k3, kk⟩, hp1, hp2⟩ := ok
      have dl := okSh_lt okd
      have el := okSh_lt oke
      have k3' : 3 ≤ (r 29 e.toNatClampNeg).toInt := by rw [← kk]; exact k3
      obtain ⟨-, md, zd, fd, -, -, -, d4, d5, d6, d7, d8, d9⟩ := (hS _ dl).row3 k3
      obtain ⟨eo, me, ze, fe, e1, e2, e3, e4, e5, e6, e7, e8, e9⟩ := (hS _ el).row3 k3'
      have x1 := cIn.eq hD c1 d4
      have x2 := cIn.eq hD c2 e4
      simp only [Sum.inl.injEq, Prod.mk.injEq, Sum.inr.injEq, true_and] at x1 x2
      obtain ⟨rfl, rfl⟩ := x1
      obtain ⟨rfl, rfl⟩ := x2
      have ci := m_cl (x := i) hp1.1.1
      have cj := m_cl (x := j) hp2.1.1
      have cn := m_cl (x := n) hp1.1.2
      have h1 := hp1.2
      have h2 := hp2.2
      have st : ∀ (z : Nat) (t : Nat × Nat × Nat) (y : va_E), G1 z = some t → t.1 ≠ 16 → cIn W z y → cIn W1 z y := fun z t y hg ht hi => hF _ _ (cne hg e2 ht) hi
      obtain ⟨-, -, -, -, hGs, -⟩ := w7sh hD hT hG hM
      refine ⟨_, _, _, _, _, _, _, _, _, fb, sx, sa, st _ _ _ hG (show (7 : Nat) ≠ 16 by decide) hM, st _ _ _ hGs (show (10 : Nat) ≠ 16 by decide) hfb, fun y hy => ?_, ?_⟩
      · rw [e29, e30]
        by_cases z : y = e.toNatClampNeg
        · subst z
          refine Or.inr (Or.inr ⟨eo, m2, ze, _, e1, e2, st _ _ _ e1 (show (4 : Nat) ≠ 16 by decide) e3, c3, e5, e6, e7, fun x hx => ?_, fun hk x hx => ?_⟩)
          · show va_cpy f1 f2 _ _ _ x = q1 33 (60 * e.toNatClampNeg + x)
            unfold va_cpy
            rw [rq]
            unfold setQ
            by_cases c : j.toNatClampNeg ≤ x ∧ x < j.toNatClampNeg + n.toNatClampNeg
            · rw [if_pos c, if_pos (by omega), d8 _ (by omega)]
              show q 33 _ = q 33 _
              congr 1
              omega
            · rw [if_neg c, if_neg (by omega)]
              exact e8 x hx
          · show 0 ≤ (q1 33 (60 * e.toNatClampNeg + x)).toInt ∧ (q1 33 (60 * e.toNatClampNeg + x)).toInt ≤ 1
            rw [rq]
            unfold setQ
            by_cases c : j.toNatClampNeg ≤ x ∧ x < j.toNatClampNeg + n.toNatClampNeg
            · rw [if_pos (by omega)]
              have y9 := d9 (kk.trans hk) (i.toNatClampNeg + (x - j.toNatClampNeg)) (by omega)
              show 0 ≤ (q 33 (60 * d.toNatClampNeg + i.toNatClampNeg + (60 * e.toNatClampNeg + x - (60 * e.toNatClampNeg + j.toNatClampNeg)))).toInt ∧ (q 33 (60 * d.toNatClampNeg + i.toNatClampNeg + (60 * e.toNatClampNeg + x - (60 * e.toNatClampNeg + j.toNatClampNeg)))).toInt ≤ 1
              rw [show 60 * d.toNatClampNeg + i.toNatClampNeg + (60 * e.toNatClampNeg + x - (60 * e.toNatClampNeg + j.toNatClampNeg)) = 60 * d.toNatClampNeg + (i.toNatClampNeg + (x - j.toNatClampNeg)) by omega]
              exact y9
            · rw [if_neg (by omega)]
              exact e9 hk x hx
        · have hy2 := hS y hy
          have cg : ∀ x, x < 60 → q 33 (60 * y + x) = q1 33 (60 * y + x) := fun x hx => by rw [rq, setQ_out (by omega)]
          rcases hy2 with g | ⟨g, g1, g2⟩ | ⟨g, m, z3, f, g1, g2, g3, g4, g5, g6, g7, g8, g9⟩
          · exact Or.inl g
          · exact Or.inr (Or.inl ⟨g, g1, g2⟩)
          · have ky : 3 ≤ (r 29 y).toInt := by rcases g7 with ⟨-, y3⟩ | ⟨-, y3⟩ <;> rw [y3] <;> decide
            refine Or.inr (Or.inr ⟨g, m, z3, f, g1, g2, st _ _ _ g1 (show (4 : Nat) ≠ 16 by decide) g3, hF _ _ (hd y e.toNatClampNeg hy el z ky k3') g4, g5, g6, g7, fun x hx => ?_, fun hk x hx => ?_⟩)
            · show f x = q1 33 (60 * y + x)
              rw [← cg x (by omega)]; exact g8 x hx
            · show 0 ≤ (q1 33 (60 * y + x)).toInt ∧ (q1 33 (60 * y + x)).toInt ≤ 1
              rw [← cg x (by omega)]; exact g9 hk x hx
      · rw [e29]
        exact hd
    · exact absurd ok no
  · rcases hr with ⟨ok, -⟩ | ⟨-, rq⟩
    · exact absurd ok no
    · cases c1
      exact h.mv hD hT hG cE.rf (fun _ _ _ _ _ hi => hi) hM hM e29 e30 rq
end SHM
theorem el_law {kc nc : Int32} {R : Nat → Int64} {d i k th : Int32} {x : Int64} {P : (Nat → Int64) → Prop} (hx : (k = 1 ∧ ¬ okSh d) ∨ (k = 2 ∧ okSh d ∧ ¬ elOk kc nc i) ∨ (k = 0 ∧ okSh d ∧ elOk kc nc i ∧ ∃ w : Nat → Int64, P w ∧ w 0 = R i.toNatClampNeg)) (hy : elA kc nc R d i th x) : th = k ∧ (k = 0 → ∃ w, P w ∧ w 0 = x) := by
  rcases hx with ⟨a, b⟩ | ⟨a, b, c⟩ | ⟨a, b, c, w, h1, h2⟩ <;> rcases hy with ⟨e, f⟩ | ⟨e, ⟨f, g, h⟩ | ⟨f, g⟩⟩
  · exact ⟨f.trans a.symm, fun y => absurd (a.symm.trans y) (by decide)⟩
  · exact absurd e b
  · exact absurd e b
  · exact absurd b e
  · exact absurd f c
  · exact ⟨g.trans a.symm, fun y => absurd (a.symm.trans y) (by decide)⟩
  · exact absurd b e
  · exact ⟨g.trans a.symm, fun _ => ⟨w, h1, by rw [h2, h]⟩⟩
  · exact absurd c f

theorem okKeep_cg {jc d what k : Int32} {p : Int64} {w h : Nat} {Wd Ht : Nat → Nat} (e : okJob jc k → w = Wd k.toNatClampNeg ∧ h = Ht k.toNatClampNeg) : okKeep jc (fun _ => w) (fun _ => h) d what k p ↔ okKeep jc Wd Ht d what k p := by
  unfold okKeep
  constructor
  · rintro ⟨a, b | b | ⟨b, c, f⟩⟩
    · exact ⟨a, Or.inl b⟩
    · exact ⟨a, Or.inr (Or.inl b)⟩
    · exact ⟨a, Or.inr (Or.inr ⟨b, c, by rw [← (e c).1, ← (e c).2]; exact f⟩)⟩
  · rintro ⟨a, b | b | ⟨b, c, f⟩⟩
    · exact ⟨a, Or.inl b⟩
    · exact ⟨a, Or.inr (Or.inl b)⟩
    · exact ⟨a, Or.inr (Or.inr ⟨b, c, by rw [(e c).1, (e c).2]; exact f⟩)⟩
section RJS9
variable {cy : Nat → ClassId} {G : cG} {W : va_W} {fa : Nat → Option Nat} {jc : Int32} {J : Nat → JT} {r : Nat → Nat → Int32} {j : Int32}
/-- a job's sums of rows and of columns are the reference's -/
theorem RJ.rc (h : RJ cy G W fa jc J r) (hj : okJob jc j) : (1 ≤ jW (J j.toNatClampNeg) ∧ jW (J j.toNatClampNeg) ≤ 6 ∧ 1 ≤ jH (J j.toNatClampNeg) ∧ jH (J j.toNatClampNeg) ≤ 6) ∧ (∀ e, e < jH (J j.toNatClampNeg) → jF (J j.toNatClampNeg) e = r 5 (44 * j.toNatClampNeg + e)) ∧ ∀ e, e < jW (J j.toNatClampNeg) → jF (J j.toNatClampNeg) (11 + e) = r 5 (44 * j.toNatClampNeg + (11 + e)) := by
  have a := h.at hj
  have b := a.2.2
  have hb := a.1.2.2.1
  refine ⟨hb, fun e he => ?_, fun e he => ?_⟩
  · have y := b.2.2.2.2.1 0 e (by omega) (by unfold lnC; rw [if_pos rfl]; exact he)
    rw [b.2.2.2.2.2.2.2.2.2.1.1, if_pos rfl, Nat.zero_mul, Nat.zero_add] at y
    exact y
  · have y := b.2.2.2.2.1 1 e (by omega) (by unfold lnC; rw [if_neg (by decide), if_pos rfl]; exact he)
    rw [b.2.2.2.2.2.2.2.2.2.1.2, if_pos rfl, Nat.one_mul] at y
    rw [y, show 44 * j.toNatClampNeg + 11 + e = 44 * j.toNatClampNeg + (11 + e) by omega]
end RJS9

/-- the class's jobs are the reference's jobs, content and all -/
def RlJ (cy : Nat → ClassId) (xo : Nat) (G : cG) (W : va_W) (f : Nat → Int32) (r : Nat → Nat → Int32) : Prop := ∃ (bs js sh wk ll : Nat) (lc : Int32) (mo lb : Option Nat) (fa : Nat → Option Nat) (J : Nat → JT), cIn W xo (.inr (8, [.ref bs, .ref js, .int (f 1), .ref sh, .ref wk, va_rf mo, .ref ll, .int lc, va_rf lb])) ∧ cIn W js (.inl (cy 4, cqa 8 fa)) ∧ RJ cy G W fa (f 1) J r
section RLJ
variable {cy : Nat → ClassId} {A : Nat → Prop} {xo z1 z2 : Nat} {G G1 : cG} {W W1 : va_W} {f f1 : Nat → Int32} {r r1 : Nat → Nat → Int32} {fa : Nat → Option Nat} {J : Nat → JT} {jc : Int32}
theorem RlJ.at (h : RlJ cy xo G W f r) (hD : va_D A W) {bs js sh wk ll : Nat} {jc lc : Int32} {mo lb : Option Nat} (hM : cIn W xo (.inr (8, [.ref bs, .ref js, .int jc, .ref sh, .ref wk, va_rf mo, .ref ll, .int lc, va_rf lb]))) : jc = f 1 ∧ ∃ fa J, cIn W js (.inl (cy 4, cqa 8 fa)) ∧ RJ cy G W fa jc J r := by
  obtain ⟨bs', js', sh', wk', ll', lc', mo', lb', fa, J, h1, h2, h3⟩ := h
  have z := cIn.eq hD hM h1
  simp only [Sum.inr.injEq, Prod.mk.injEq, List.cons.injEq, Value.int.injEq, Value.ref.injEq, and_true, true_and] at z
  obtain ⟨-, e2, e3, -⟩ := z
  subst e2
  subst e3
  exact ⟨rfl, fa, J, h2, h3⟩
theorem RlJ.shp (h : RlJ cy xo G W f r) (hD : va_D A W) (hT : cT cy G W) (hG : G xo = some (7, z1, z2)) {ch : List Nat} (hX : cX none (chs ch) G W G1 W1) (h9 : chs ch 9 = false) (h3 : chs ch 3 = false) (h14 : chs ch 14 = false) {bs js sh wk ll bs1 sh1 wk1 ll1 : Nat} {jc lc lc1 : Int32} {mo lb mo1 lb1 : Option Nat} (hM : cIn W xo (.inr (8, [.ref bs, .ref js, .int jc, .ref sh, .ref wk, va_rf mo, .ref ll, .int lc, va_rf lb]))) (hM1 : cIn W1 xo (.inr (8, [.ref bs1, .ref js, .int jc, .ref sh1, .ref wk1, va_rf mo1, .ref ll1, .int lc1, va_rf lb1]))) (ef : f1 1 = f 1) (e2 : r1 2 = r 2) (e3 : r1 3 = r 3) (e4 : r1 4 = r 4) (e5 : r1 5 = r 5) (e6 : r1 6 = r 6) (e7 : r1 7 = r 7) (e8 : r1 8 = r 8) : RlJ cy xo G1 W1 f1 r1 := by
  obtain ⟨e, fa, J, a1, a2⟩ := h.at hD hM
  obtain ⟨-, -, -, hGj, -⟩ := w7sh hD hT hG hM
  refine ⟨bs1, js, sh1, wk1, ll1, lc1, mo1, lb1, fa, J, (by rw [ef, ← e]; exact hM1), hX.2.1 _ _ (cP.no hGj h9) a1, ?_⟩
  rw [ef, ← e]
  exact a2.keep hD hT hX h3 h14 e2 e3 e4 e5 e6 e7 e8
theorem RlJ.keep (h : RlJ cy xo G W f r) (hD : va_D A W) (hT : cT cy G W) (hG : G xo = some (7, z1, z2)) {ch : List Nat} (hX : cX none (chs ch) G W G1 W1) (h7 : chs ch 7 = false) (h9 : chs ch 9 = false) (h3 : chs ch 3 = false) (h14 : chs ch 14 = false) (ef : f1 1 = f 1) (e2 : r1 2 = r 2) (e3 : r1 3 = r 3) (e4 : r1 4 = r 4) (e5 : r1 5 = r 5) (e6 : r1 6 = r 6) (e7 : r1 7 = r 7) (e8 : r1 8 = r 8) : RlJ cy xo G1 W1 f1 r1 := by
  obtain ⟨bs, js, sh, wk, ll, lc, mo, lb, fa, J, a1, -⟩ := id h
  exact h.shp hD hT hG hX h9 h3 h14 a1 (hX.2.1 _ _ (cP.no hG h7) a1) ef e2 e3 e4 e5 e6 e7 e8
/-- cells of other kinds stay where one job changes -/
theorem RJ.fr (h : RJ cy G W fa jc J r) (hD : va_D A W) (hT : cT cy G W) {j : Int32} {P : Nat → Prop} (hF : cF P W W1) (hq : (okJob jc j ∧ ∀ z, P z → z = jX (J j.toNatClampNeg) ∨ z = jS (J j.toNatClampNeg) ∨ (jK (J j.toNatClampNeg) = 4 ∧ z = jC (J j.toNatClampNeg))) ∨ W1 = W) {z : Nat} {t : Nat × Nat × Nat} (hg : G z = some t) (h3 : t.1 ≠ 3) (h14 : t.1 ≠ 14) {e : va_E} (he : cIn W z e) : cIn W1 z e := by
  rcases hq with ⟨ok, hP⟩ | rfl
  · obtain ⟨k1, k2, k3⟩ := (h.at ok).kinds hD hT
    refine hF _ _ (fun y => ?_) he
    rcases hP _ y with y | y | ⟨y4, y⟩
    · exact cne hg k1 h3 y
    · exact cne hg k2 h14 y
    · exact cne hg (k3 y4) h14 y
  · exact he
end RLJ
section LW6
variable {p : Program} {l : Launch} {e : Env} {R : Room} {s : State} {m : MethodId} {args : Array Value} {below : List Frame} {meth : Method} {c : Code} {H : Heap} {locs : List Loc} {cells slots : Nat} {Q : State → Prop}
variable {y : MethodName} {bytes cc : ByteArray} {maxL nL n index mc ms : Nat} {ret : Option FieldType} {wc Ts : List Cond} {rm : Room} {own C : String} {As rest st0 av : List Value} {pc : Nat} {ls : Array Slot} {D : va_G} {cy : Nat → ClassId} {xo mo ou : Nat} {a : Nat → Nat} {M : Option Nat} {G : cG} {W' : va_W} {f : Nat → Int32} {g : Nat → Int64} {r : Nat → Nat → Int32} {q : Nat → Nat → Int64} {a9 : Array Value}
theorem lk6 {post : Int32 → va_W → Prop} {P : Nat → Prop} (I : LI D cy s xo mo ou a M G W' f g r q H locs) (hr : va_Run p l e R s m args below meth c H locs cells slots mc ms (F0 m pc ls st0) rest (va_Qi (fun r0 u => ∃ w1, u = (G, w1) ∧ cF P W' w1 ∧ post r0 w1) (cB D cy (AC s mo a)) (AC s mo a) a9) (AC s mo a))
    (hsh : ∀ r0 w1, cF P W' w1 → post r0 w1 → ∀ e, cIn W' xo e → cIn w1 xo e)
    (kk : ∀ (r0 : Int32) (w1 : va_W) (H1 : Heap) (locs1 : List Loc), cF P W' w1 → post r0 w1 → LI D cy s xo mo ou a M G w1 f g r q H1 locs1 → W p l e R s m args below meth c H1 locs1 (cells + mc) (slots + ms) Q (F0 m (pc + 3) ls (.int r0 :: rest))) : W p l e R s m args below meth c H locs cells slots Q (F0 m pc ls st0) :=
  va_calli hr I.2.2.2.2.2.2.2.2.1 (fun _ _ h => h.1) (fun _ h => h.1) (fun r0 u t H1 locs1 ht hvm hp hB hz hk hS => by
    obtain ⟨h1, h2, h3⟩ := hB
    obtain ⟨w1, rfl, hF, hp⟩ := hp
    rw [ht] at h1
    obtain ⟨bs, js, sh, wk, ll, jc, lc, lb, hM⟩ := I.2.2.2.2.2.2.2.1
    exact kk r0 w1 H1 locs1 hF hp (I.cla h1 h2 h3 cE.rf ⟨bs, js, sh, wk, ll, jc, lc, lb, hsh r0 w1 hF hp _ hM⟩ hz hk hS))
end LW6
section LWR
variable {p : Program} {l : Launch} {e : Env} {R : Room} {s : State} {m : MethodId} {args : Array Value} {below : List Frame} {meth : Method} {c : Code} {H : Heap} {locs : List Loc} {cells slots : Nat} {Q : State → Prop}
variable {y : MethodName} {bytes cc : ByteArray} {maxL nL n index mc ms : Nat} {ret : Option FieldType} {wc Ts : List Cond} {rm : Room} {own C : String} {As rest st0 av : List Value} {pc : Nat} {ls : Array Slot} {D : va_G} {cy : Nat → ClassId} {xo mo ou : Nat} {a : Nat → Nat} {M : Option Nat} {G : cG} {W' : va_W} {f : Nat → Int32} {g : Nat → Int64} {r : Nat → Nat → Int32} {q : Nat → Nat → Int64} {a9 : Array Value}
theorem lk3_i {ch : List Nat} {post : Int32 → cS → Prop} (I : LI D cy s xo mo ou a M G W' f g r q H locs) (hr : va_Run p l e R s m args below meth c H locs cells slots mc ms (F0 m pc ls st0) rest (va_Qi (fun r0 u => cX none (chs ch) G W' u.1 u.2 ∧ post r0 u) (cB D cy (AC s mo a)) (AC s mo a) a9) (AC s mo a)) (h7 : chs ch 7 = false)
    (kk : ∀ (r0 : Int32) (u : cS) (H1 : Heap) (locs1 : List Loc), post r0 u → cX none (chs ch) G W' u.1 u.2 → LI D cy s xo mo ou a M u.1 u.2 f g r q H1 locs1 → W p l e R s m args below meth c H1 locs1 (cells + mc) (slots + ms) Q (F0 m (pc + 3) ls (.int r0 :: rest))) : W p l e R s m args below meth c H locs cells slots Q (F0 m pc ls st0) :=
  va_calli hr I.2.2.2.2.2.2.2.2.1 (fun _ _ h => h.1) (fun _ h => h.1) (fun r0 u t H1 locs1 ht hvm hp hB hz hk hS => by
    obtain ⟨h1, h2, h3⟩ := hB
    rw [ht] at h1
    obtain ⟨bs, js, sh, wk, ll, jc, lc, lb, hM⟩ := I.2.2.2.2.2.2.2.1
    exact kk r0 u H1 locs1 hp.2 hp.1 (I.cla h1 h2 h3 hp.1.1 ⟨bs, js, sh, wk, ll, jc, lc, lb, hp.1.2.1 _ _ (cP.no I.2.2.2.2.1 h7) hM⟩ hz hk hS))
theorem lk3_l {ch : List Nat} {post : Int64 → cS → Prop} (I : LI D cy s xo mo ou a M G W' f g r q H locs) (hr : va_Run p l e R s m args below meth c H locs cells slots mc ms (F0 m pc ls st0) rest (va_Ql (fun r0 u => cX none (chs ch) G W' u.1 u.2 ∧ post r0 u) (cB D cy (AC s mo a)) (AC s mo a) a9) (AC s mo a)) (h7 : chs ch 7 = false)
    (kk : ∀ (r0 : Int64) (u : cS) (H1 : Heap) (locs1 : List Loc), post r0 u → cX none (chs ch) G W' u.1 u.2 → LI D cy s xo mo ou a M u.1 u.2 f g r q H1 locs1 → W p l e R s m args below meth c H1 locs1 (cells + mc) (slots + ms) Q (F0 m (pc + 3) ls (.long r0 :: rest))) : W p l e R s m args below meth c H locs cells slots Q (F0 m pc ls st0) :=
  va_calll hr I.2.2.2.2.2.2.2.2.1 (fun _ _ h => h.1) (fun _ h => h.1) (fun r0 u t H1 locs1 ht hvm hp hB hz hk hS => by
    obtain ⟨h1, h2, h3⟩ := hB
    rw [ht] at h1
    obtain ⟨bs, js, sh, wk, ll, jc, lc, lb, hM⟩ := I.2.2.2.2.2.2.2.1
    exact kk r0 u H1 locs1 hp.2 hp.1 (I.cla h1 h2 h3 hp.1.1 ⟨bs, js, sh, wk, ll, jc, lc, lb, hp.1.2.1 _ _ (cP.no I.2.2.2.2.1 h7) hM⟩ hz hk hS))
theorem lk3_ri {post : Int32 → cS → Prop} (I : LI D cy s xo mo ou a M G W' f g r q H locs) (hr : va_Run p l e R s m args below meth c H locs cells slots mc ms (F0 m pc ls st0) rest (va_Qi (fun r0 u => u = (G, W') ∧ post r0 u) (cB D cy (AC s mo a)) (AC s mo a) a9) (AC s mo a))
    (kk : ∀ (r0 : Int32) (u : cS) (H1 : Heap) (locs1 : List Loc), post r0 u → cX none (chs []) G W' u.1 u.2 → LI D cy s xo mo ou a M u.1 u.2 f g r q H1 locs1 → W p l e R s m args below meth c H1 locs1 (cells + mc) (slots + ms) Q (F0 m (pc + 3) ls (.int r0 :: rest))) : W p l e R s m args below meth c H locs cells slots Q (F0 m pc ls st0) :=
  va_calli hr I.2.2.2.2.2.2.2.2.1 (fun _ _ h => h.1) (fun _ h => h.1) (fun r0 u t H1 locs1 ht hvm hp hB hz hk hS => by
    obtain ⟨h1, h2, h3⟩ := hB
    obtain ⟨rfl, hp⟩ := hp
    rw [ht] at h1
    exact kk r0 _ H1 locs1 hp cX.rf (I.cla h1 h2 h3 cE.rf I.2.2.2.2.2.2.2.1 hz hk hS))
theorem lk3_rl {post : Int64 → cS → Prop} (I : LI D cy s xo mo ou a M G W' f g r q H locs) (hr : va_Run p l e R s m args below meth c H locs cells slots mc ms (F0 m pc ls st0) rest (va_Ql (fun r0 u => u = (G, W') ∧ post r0 u) (cB D cy (AC s mo a)) (AC s mo a) a9) (AC s mo a))
    (kk : ∀ (r0 : Int64) (u : cS) (H1 : Heap) (locs1 : List Loc), post r0 u → cX none (chs []) G W' u.1 u.2 → LI D cy s xo mo ou a M u.1 u.2 f g r q H1 locs1 → W p l e R s m args below meth c H1 locs1 (cells + mc) (slots + ms) Q (F0 m (pc + 3) ls (.long r0 :: rest))) : W p l e R s m args below meth c H locs cells slots Q (F0 m pc ls st0) :=
  va_calll hr I.2.2.2.2.2.2.2.2.1 (fun _ _ h => h.1) (fun _ h => h.1) (fun r0 u t H1 locs1 ht hvm hp hB hz hk hS => by
    obtain ⟨h1, h2, h3⟩ := hB
    obtain ⟨rfl, hp⟩ := hp
    rw [ht] at h1
    exact kk r0 _ H1 locs1 hp cX.rf (I.cla h1 h2 h3 cE.rf I.2.2.2.2.2.2.2.1 hz hk hS))
theorem lk3_s {ch : List Nat} {post : Int32 → cS → Prop} (I : LI D cy s xo mo ou a M G W' f g r q H locs) (hr : va_Run p l e R s m args below meth c H locs cells slots mc ms (F0 m pc ls st0) rest (va_Qi (fun r0 u => cX none (chs ch) G W' u.1 u.2 ∧ post r0 u) (cB D cy (AC s mo a)) (AC s mo a) a9) (AC s mo a))
    (hsh : ∀ r0 u, post r0 u → ∃ (bs js sh wk ll : Nat) (jc lc : Int32) (lb : Option Nat), cIn u.2 xo (.inr (8, [.ref bs, .ref js, .int jc, .ref sh, .ref wk, va_rf M, .ref ll, .int lc, va_rf lb])))
    (kk : ∀ (r0 : Int32) (u : cS) (H1 : Heap) (locs1 : List Loc), post r0 u → cX none (chs ch) G W' u.1 u.2 → LI D cy s xo mo ou a M u.1 u.2 f g r q H1 locs1 → W p l e R s m args below meth c H1 locs1 (cells + mc) (slots + ms) Q (F0 m (pc + 3) ls (.int r0 :: rest))) : W p l e R s m args below meth c H locs cells slots Q (F0 m pc ls st0) :=
  va_calli hr I.2.2.2.2.2.2.2.2.1 (fun _ _ h => h.1) (fun _ h => h.1) (fun r0 u t H1 locs1 ht hvm hp hB hz hk hS => by
    obtain ⟨h1, h2, h3⟩ := hB
    obtain ⟨hX, hp⟩ := hp
    rw [ht] at h1
    exact kk r0 _ H1 locs1 hp hX (I.cla h1 h2 h3 hX.1 (hsh r0 u hp) hz hk hS))
end LWR

section ANS6
variable {cy : Nat → ClassId} {G : cG} {W : va_W} {fa : Nat → Option Nat} {jc : Int32} {J : Nat → JT} {r : Nat → Nat → Int32} {j x y : Int32}
theorem un_eq (h : RJ cy G W fa jc J r) {way : Int32} (hx : (okUn9 jc j way ∧ x = (if tB (jL (J j.toNatClampNeg)) way.toNatClampNeg then 1 else 0)) ∨ (¬ okUn9 jc j way ∧ x = -1)) (hy : (okUn9 jc j way ∧ y = (if r 6 (4 * j.toNatClampNeg + way.toNatClampNeg) = 0 then 0 else 1)) ∨ (¬ okUn9 jc j way ∧ y = -1)) : x = y := by
  rcases hx with ⟨a, b⟩ | ⟨a, b⟩ <;> rcases hy with ⟨c, d⟩ | ⟨c, d⟩
  · have w0 := a.2
    have cw := m_cl (x := way) (by omega)
    have e := (h.at a.1).2.2.2.2.2.1 way.toNatClampNeg (by omega)
    rw [b, d]
    cases hb : tB (jL (J j.toNatClampNeg)) way.toNatClampNeg
    · rw [if_pos (e.mpr hb)]; rfl
    · rw [if_neg (show ¬ r 6 (4 * j.toNatClampNeg + way.toNatClampNeg) = 0 from fun z => by rw [e.mp z] at hb; cases hb)]; rfl
  · exact absurd a c
  · exact absurd c a
  · rw [b, d]
theorem ho_eq (h : RJ cy G W fa jc J r) {s how : Int32} (hx : (okHold9 jc (jW (J j.toNatClampNeg)) (jH (J j.toNatClampNeg)) j s how ∧ x = hH (jO (J j.toNatClampNeg)) (jNn (J j.toNatClampNeg)) s.toNatClampNeg) ∨ (¬ okHold9 jc (jW (J j.toNatClampNeg)) (jH (J j.toNatClampNeg)) j s how ∧ x = -1)) (hy : (okHold9 jc (r 3 j.toNatClampNeg).toNatClampNeg (r 4 j.toNatClampNeg).toNatClampNeg j s how ∧ y = r 7 (36 * j.toNatClampNeg + s.toNatClampNeg)) ∨ (¬ okHold9 jc (r 3 j.toNatClampNeg).toNatClampNeg (r 4 j.toNatClampNeg).toNatClampNeg j s how ∧ y = -1)) : x = y := by
  rcases hx with ⟨a, b⟩ | ⟨a, b⟩ <;> rcases hy with ⟨c, d⟩ | ⟨c, d⟩
  · have w0 := a.2.1
    have cw := m_cl (x := s) w0.1
    rw [b, d]
    exact ((h.at a.1).2.2.2.2.2.2.2.1 s.toNatClampNeg (by omega)).1.symm
  · have sz := h.sz a.1; exact absurd ⟨a.1, by rw [← sz.1, ← sz.2]; exact a.2.1, a.2.2⟩ c
  · have sz := h.sz c.1; exact absurd ⟨c.1, by rw [sz.1, sz.2]; exact c.2.1, c.2.2⟩ a
  · rw [b, d]
theorem ma_eq (h : RJ cy G W fa jc J r) {s v : Int32} (hx : (okMark9 jc (jW (J j.toNatClampNeg)) (jH (J j.toNatClampNeg)) j s v ∧ ((jK (J j.toNatClampNeg) = 4 ∧ Bo x (¬ jG (J j.toNatClampNeg) s.toNatClampNeg = v)) ∨ (¬ jK (J j.toNatClampNeg) = 4 ∧ x = -4))) ∨ (¬ okMark9 jc (jW (J j.toNatClampNeg)) (jH (J j.toNatClampNeg)) j s v ∧ x = -1)) (hy : (okMark9 jc (r 3 j.toNatClampNeg).toNatClampNeg (r 4 j.toNatClampNeg).toNatClampNeg j s v ∧ ((r 2 j.toNatClampNeg = 3 ∧ y = (if r 8 (36 * j.toNatClampNeg + s.toNatClampNeg) = v then 0 else 1)) ∨ (¬ r 2 j.toNatClampNeg = 3 ∧ y = -4))) ∨ (¬ okMark9 jc (r 3 j.toNatClampNeg).toNatClampNeg (r 4 j.toNatClampNeg).toNatClampNeg j s v ∧ y = -1)) : x = y := by
  rcases hx with ⟨a, b⟩ | ⟨a, b⟩ <;> rcases hy with ⟨c, d⟩ | ⟨c, d⟩
  · have w0 := a.2.1
    have cw := m_cl (x := s) w0.1
    have kk := (h.at a.1).2.2.1
    rcases b with ⟨k4, b⟩ | ⟨k4, b⟩ <;> rcases d with ⟨r3, d⟩ | ⟨r3, d⟩
    · have e := (h.at a.1).2.2.2.2.2.2.2.2.2.1 k4 s.toNatClampNeg (by omega)
      rw [d, ← e]
      rcases b with ⟨b1, b2⟩ | ⟨b1, b2⟩
      · rw [b1, if_neg b2]
      · rw [b1, if_pos (Classical.not_not.mp b2)]
    · exact absurd (kcl_4.mp (kk.symm.trans k4)) r3
    · exact absurd (kk.trans (kcl_4.mpr r3)) k4
    · rw [b, d]
  · have sz := h.sz a.1; exact absurd ⟨a.1, by rw [← sz.1, ← sz.2]; exact a.2.1, a.2.2⟩ c
  · have sz := h.sz c.1; exact absurd ⟨c.1, by rw [sz.1, sz.2]; exact c.2.1, c.2.2⟩ a
  · rw [b, d]
theorem su_eq (h : RJ cy G W fa jc J r) {way line v : Int32} (hx : (okSum9 jc (jW (J j.toNatClampNeg)) (jH (J j.toNatClampNeg)) j way line v ∧ x = 0) ∨ (¬ okSum9 jc (jW (J j.toNatClampNeg)) (jH (J j.toNatClampNeg)) j way line v ∧ x = -1)) (hy : (okSum9 jc (r 3 j.toNatClampNeg).toNatClampNeg (r 4 j.toNatClampNeg).toNatClampNeg j way line v ∧ y = 0) ∨ (¬ okSum9 jc (r 3 j.toNatClampNeg).toNatClampNeg (r 4 j.toNatClampNeg).toNatClampNeg j way line v ∧ y = -1)) : x = y := by
  rcases hx with ⟨a, b⟩ | ⟨a, b⟩ <;> rcases hy with ⟨c, d⟩ | ⟨c, d⟩
  · rw [b, d]
  · have sz := h.sz a.1; exact absurd ⟨a.1, by rw [← sz.1, ← sz.2]; exact a.2.1, a.2.2⟩ c
  · have sz := h.sz c.1; exact absurd ⟨c.1, by rw [sz.1, sz.2]; exact c.2.1, c.2.2⟩ a
  · rw [b, d]
theorem ca_eq (h : RJ cy G W fa jc J r) {way b0 : Int32} {p : Int64} (hx : (okCast9 jc (jW (J j.toNatClampNeg)) (jH (J j.toNatClampNeg)) j way p ∧ x = b0) ∨ (¬ okCast9 jc (jW (J j.toNatClampNeg)) (jH (J j.toNatClampNeg)) j way p ∧ x = -1)) (hy : (okCast9 jc (r 3 j.toNatClampNeg).toNatClampNeg (r 4 j.toNatClampNeg).toNatClampNeg j way p ∧ y = b0) ∨ (¬ okCast9 jc (r 3 j.toNatClampNeg).toNatClampNeg (r 4 j.toNatClampNeg).toNatClampNeg j way p ∧ y = -1)) : x = y := by
  rcases hx with ⟨a, b⟩ | ⟨a, b⟩ <;> rcases hy with ⟨c, d⟩ | ⟨c, d⟩
  · rw [b, d]
  · have sz := h.sz a.1; exact absurd ⟨a.1, a.2.1, by rw [← sz.1, ← sz.2]; exact a.2.2⟩ c
  · have sz := h.sz c.1; exact absurd ⟨c.1, c.2.1, by rw [sz.1, sz.2]; exact c.2.2⟩ a
  · rw [b, d]
theorem to_eq (h : RJ cy G W fa jc J r) {way line : Int32} (hx : toA jc (jW (J j.toNatClampNeg)) (jH (J j.toNatClampNeg)) (fun l => if tB (jL (J j.toNatClampNeg)) way.toNatClampNeg then jF (J j.toNatClampNeg) (way.toNatClampNeg * 11 + l) else -2) j way line x) (hy : toA jc (r 3 j.toNatClampNeg).toNatClampNeg (r 4 j.toNatClampNeg).toNatClampNeg (fun l => if r 6 (4 * j.toNatClampNeg + way.toNatClampNeg) = 0 then -2 else r 5 (44 * j.toNatClampNeg + 11 * way.toNatClampNeg + l)) j way line y) : x = y := by
  rcases hx with ⟨a, b⟩ | ⟨a, b⟩ <;> rcases hy with ⟨c, d⟩ | ⟨c, d⟩
  · have sz := h.sz a.1.1
    by_cases z : line.toInt = -1
    · rw [if_pos z] at b d
      apply Int32.toInt_inj.mp
      rw [b, d, sz.1, sz.2]
    · rw [if_neg z] at b d
      have w0 := a.1.2
      have cw := m_cl (x := way) (by omega)
      rcases a.2 with z2 | z2
      · exact absurd z2 z
      · have e := (h.at a.1.1).2.2.2.2.2.1 way.toNatClampNeg (by omega)
        have cl := m_cl (x := line) z2.2.1
        have l2 := z2.2.2
        have e5 := (h.at a.1.1).2.2.2.2.2.2.1 way.toNatClampNeg line.toNatClampNeg (by omega) (by omega)
        rw [b, d]
        show (if _ then _ else _) = (if _ then _ else _)
        cases hb : tB (jL (J j.toNatClampNeg)) way.toNatClampNeg
        · rw [if_pos (e.mpr hb)]; rfl
        · rw [hb] at e5
          rw [if_neg (show ¬ r 6 (4 * j.toNatClampNeg + way.toNatClampNeg) = 0 from fun z => by rw [e.mp z] at hb; cases hb)]
          exact e5
  · have sz := h.sz a.1.1
    rw [sz.1, sz.2] at a
    exact absurd a c
  · have sz := h.sz c.1.1
    rw [← sz.1, ← sz.2] at c
    exact absurd c a
  · rw [b, d]
end ANS6

def R8 (cy : Nat → ClassId) (xo : Nat) (G : cG) (W : va_W) (f : Nat → Int32) (r : Nat → Nat → Int32) (q : Nat → Nat → Int64) : Prop := RlJ cy xo G W f r ∧ RSX cy xo G W r q
theorem ly_01 {cy : Nat → ClassId} {G : cG} {W : va_W} {fb : Nat → Option Nat} {sx sa : Nat → Nat} {r : Nat → Nat → Int32} {q : Nat → Nat → Int64} (hS : ∀ i, i < 8 → shX cy G W (fb i) (sx i) (sa i) (r 29 i) (r 30 i) (fun e => q 33 (60 * i + e))) (d : Int32) : okSh d → r 29 d.toNatClampNeg = 3 → ∀ e, e < (r 30 d.toNatClampNeg).toNatClampNeg → 0 ≤ (q 33 (60 * d.toNatClampNeg + e)).toInt ∧ (q 33 (60 * d.toNatClampNeg + e)).toInt ≤ 1 := fun ok hk e he => by
  obtain ⟨-, m, z, f, -, -, -, -, h5, -, -, -, h9⟩ := (hS _ (okSh_lt ok)).row3 (by rw [hk]; decide)
  exact h9 hk e (by have := m_cl (x := r 30 d.toNatClampNeg) (by omega); omega)

