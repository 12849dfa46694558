set_option maxHeartbeats 4000000 in
set_option maxRecDepth 100000 in
theorem c_X10_fits (l : Launch) (D : va_G) (cy : Nat → ClassId) (mo : Nat) (a : Nat → Nat) (f : Nat → Int32) (g : Nat → Int64) (r : Nat → Nat → Int32) (q : Nat → Nat → Int64) (j : Int32) (p0 : Int64) (hD : DM cy mo a) (hI : MI f r) : Mi l D cy mo a yX10_fits wsX10_fits ({ frames := 4, cells := 0, slots := 0, locals := 105 }) f g r q [.int j, .long p0] (fun r0 u => ∃ (mt : Nat → Int32), u = ((upd f 0 (0 : Int32)), g, (va_up r 9 mt), q) ∧ (True)) := by
  refine Met.ofW (cc := cX10_fits) (maxL := 4) (ret := (some .int)) (by decide) rfl ?_
  intro p e s m args below meth c s₁ B hml hv
  obtain ⟨rfl, hP, hK⟩ := hv
  have hx := B.exec
  have hb := B.bytes
  have hr := B.returns
  have hts := atoms_spec (ws := wsX10_fits) B.pre
  have hin : ∀ w ∈ u_ws RX10 TX10 35, w ∈ wsX10_fits := by decide +kernel
  have hown : s.vm.findClass RX10 = some m.cls := findClass_of_methodNamed B.named
  have hlocks := B.notSynchronized
  have hS : va_S (AM mo a) s.heap s.heap [] := va_S.rf
  have hl := lv_entry ([.ref mo, .int j, .long p0]) (n := 4) (Nat.le_of_ble_eq_true rfl)
  rw [lg_entry_eq]
  generalize (lg_sl ([.ref mo, .int j, .long p0]) ++ List.replicate (4 - (lg_sl ([.ref mo, .int j, .long p0])).length) Slot.unset).toArray = ls at hl ⊢
  have hl : lv_has ls 4 [(0, .ref mo), (1, .int j), (2, .long p0)] := hl
  have k_m1 : (-1 : Int32).toInt = -1 := by decide
  have k_0 : (0 : Int32).toInt = 0 := by decide
  have k_1 : (1 : Int32).toInt = 1 := by decide
  have hI1 := hI.1
  refine lv_aload_n hx hb dX10_fits_0 rfl (lv_at hl 0 rfl) ?_
  refine lv_iconst (v := 0) hx hb dX10_fits_1 (by decide) ?_
  refine m_put (v := .int (0 : Int32)) (ty := .int) hx hb hts hin hown hK hP hD hS 0 (by decide) rfl (hts (.fieldLink RX10 79 "ShadowBenchModel" "thrown" "I") (by decide +kernel)) rfl (by decide +kernel) rfl rfl (upd f 0 (0 : Int32)) g rfl dX10_fits_2 (fun H locs hP hS => ?_)
  refine lv_aload_n hx hb dX10_fits_5 rfl (lv_at hl 0 rfl) ?_
  refine lv_iload_n hx hb dX10_fits_6 rfl (lv_at hl 1 rfl) ?_
  refine m_calli (As := [.int j]) (rest := []) ⟨hx, hb, hml, hown, hts⟩ (c_X10_isJob l D cy mo a (upd f 0 (0 : Int32)) g r q j hD) (cwV 1 hts gX10_fits_X10_isJob rfl rfl rfl (by decide +kernel) ⟨Nat.le_of_ble_eq_true rfl, Nat.le_of_ble_eq_true rfl⟩) hK hP rfl hl.1 rfl (Nat.le_of_ble_eq_true rfl) dX10_fits_7 ⟨Nat.le_of_ble_eq_true rfl, Nat.le_of_ble_eq_true rfl⟩ hS (fun r7 u H locs q7 hP hS => ?_)
  obtain ⟨rfl, q7⟩ := q7
  have hP : va_P D vwCl (WM cy mo a (upd f 0 (0 : Int32)) g r q) H := hP
  have q7 : Bo r7 (0 ≤ j.toInt ∧ j.toInt < ((f 1)).toInt) := q7
  refine lv_if_eq (tgt := 32) hx hb dX10_fits_10 (by decide) (fun c10 => ?_) (fun c10 => ?_)
  · skip
    have b10 := bo_f q7 c10
    refine lv_iconst (v := (-1)) hx hb dX10_fits_32 (by decide) ?_
    refine lv_goto (tgt := 50) hx hb dX10_fits_33 (by decide) ?_
    exact W.iret (v := ((-1) : Int32)) hx hb hr (fun t ht hW => ⟨⟨_, ((upd f 0 (0 : Int32)), g, (va_up r 9 (r 9)), q), rfl, ⟨(r 9), rfl, trivial⟩, by unfold mB; rw [ht]; exact hP⟩, hS.F ht⟩) hS.2.2 dX10_fits_50
  · skip
    have b10 := bo_t q7 c10
    refine lv_aload_n hx hb dX10_fits_13 rfl (lv_at hl 0 rfl) ?_
    refine m_get (v := .ref (a 3)) hx hb hts hin hown hK hP 3 (by decide) rfl (hts (.fieldLink RX10 13 "ShadowBenchModel" "wide" "[I") (by decide +kernel)) rfl dX10_fits_14 ?_
    refine lv_iload_n hx hb dX10_fits_17 rfl (lv_at hl 1 rfl) ?_
    refine m_iald (w := (r 3)) hx hb hK hP 2 rfl (vp_in_iff.mpr ⟨by omega, by omega⟩) dX10_fits_18 ?_
    refine lv_topi (fun v18 e18 => ?_)
    have i18 : v18.toInt = ((r 3) j.toNatClampNeg).toInt := congrArg Int32.toInt e18
    have w18 := mi_w hI (x := j) (by omega) (by omega) e18
    refine lv_aload_n hx hb dX10_fits_19 rfl (lv_at hl 0 rfl) ?_
    refine m_get (v := .ref (a 4)) hx hb hts hin hown hK hP 4 (by decide) rfl (hts (.fieldLink RX10 16 "ShadowBenchModel" "high" "[I") (by decide +kernel)) rfl dX10_fits_20 ?_
    refine lv_iload_n hx hb dX10_fits_23 rfl (lv_at hl 1 rfl) ?_
    refine m_iald (w := (r 4)) hx hb hK hP 3 rfl (vp_in_iff.mpr ⟨by omega, by omega⟩) dX10_fits_24 ?_
    refine lv_topi (fun v24 e24 => ?_)
    have i24 : v24.toInt = ((r 4) j.toNatClampNeg).toInt := congrArg Int32.toInt e24
    have w24 := mi_h hI (x := j) (by omega) (by omega) e24
    refine lv_lload_n hx hb dX10_fits_25 rfl (lv_at hl 2 rfl) ?_
    refine m_pu (As := [.int v18, .int v24, .long p0]) (rest := []) ⟨hx, hb, hml, hown, hts⟩ (c_X10_isPicture l v18 v24 p0 ) (va_cwS 3 hts gX10_fits_X10_isPicture rfl rfl rfl (by decide +kernel) ⟨Nat.le_of_ble_eq_true rfl, Nat.le_of_ble_eq_true rfl⟩) hP rfl hl.1 rfl (Nat.le_of_ble_eq_true rfl) dX10_fits_26 ⟨Nat.le_of_ble_eq_true rfl, Nat.le_of_ble_eq_true rfl⟩ hS (fun r26 H locs q26 hP hS => ?_)
    refine lv_if_ne (tgt := 36) hx hb dX10_fits_29 (by decide) (fun c29 => ?_) (fun c29 => ?_)
    · skip
      have b29 := bo_t q26 c29
      refine lv_aload_n hx hb dX10_fits_36 rfl (lv_at hl 0 rfl) ?_
      refine lv_iload_n hx hb dX10_fits_37 rfl (lv_at hl 1 rfl) ?_
      refine lv_lload_n hx hb dX10_fits_38 rfl (lv_at hl 2 rfl) ?_
      refine m_calli (As := [.int j, .long p0]) (rest := []) ⟨hx, hb, hml, hown, hts⟩ (c_X10_isFitting l D cy mo a (upd f 0 (0 : Int32)) g r q j p0 hD hI (show 0 ≤ j.toInt ∧ j.toInt < ((f 1)).toInt by omega)) (cwV 2 hts gX10_fits_X10_isFitting rfl rfl rfl (by decide +kernel) ⟨Nat.le_of_ble_eq_true rfl, Nat.le_of_ble_eq_true rfl⟩) hK hP rfl hl.1 rfl (Nat.le_of_ble_eq_true rfl) dX10_fits_39 ⟨Nat.le_of_ble_eq_true rfl, Nat.le_of_ble_eq_true rfl⟩ hS (fun r39 u H locs q39 hP hS => ?_)
      obtain ⟨mt_39, rfl, q39⟩ := q39
      have hP : va_P D vwCl (WM cy mo a (upd f 0 (0 : Int32)) g (va_up r 9 mt_39) q) H := hP
      have q39 : r39 = 0 ∨ r39 = 1 := q39
      refine lv_if_eq (tgt := 49) hx hb dX10_fits_42 (by decide) (fun c42 => ?_) (fun c42 => ?_)
      · skip
        have d42 := c42
        rw [fa_eq] at d42
        refine lv_iconst (v := 0) hx hb dX10_fits_49 (by decide) ?_
        exact W.iret (v := (0 : Int32)) hx hb hr (fun t ht hW => ⟨⟨_, ((upd f 0 (0 : Int32)), g, (va_up r 9 mt_39), q), rfl, ⟨mt_39, rfl, trivial⟩, by unfold mB; rw [ht]; exact hP⟩, hS.F ht⟩) hS.2.2 dX10_fits_50
      · skip
        have d42 := c42
        rw [fa_eq] at d42
        refine lv_iconst (v := 1) hx hb dX10_fits_45 (by decide) ?_
        refine lv_goto (tgt := 50) hx hb dX10_fits_46 (by decide) ?_
        exact W.iret (v := (1 : Int32)) hx hb hr (fun t ht hW => ⟨⟨_, ((upd f 0 (0 : Int32)), g, (va_up r 9 mt_39), q), rfl, ⟨mt_39, rfl, trivial⟩, by unfold mB; rw [ht]; exact hP⟩, hS.F ht⟩) hS.2.2 dX10_fits_50
    · skip
      have b29 := bo_f q26 c29
      refine lv_iconst (v := (-1)) hx hb dX10_fits_32 (by decide) ?_
      refine lv_goto (tgt := 50) hx hb dX10_fits_33 (by decide) ?_
      exact W.iret (v := ((-1) : Int32)) hx hb hr (fun t ht hW => ⟨⟨_, ((upd f 0 (0 : Int32)), g, (va_up r 9 (r 9)), q), rfl, ⟨(r 9), rfl, trivial⟩, by unfold mB; rw [ht]; exact hP⟩, hS.F ht⟩) hS.2.2 dX10_fits_50
set_option maxHeartbeats 4000000 in
set_option maxRecDepth 100000 in
theorem c_X10_isNext (l : Launch) (D : va_G) (cy : Nat → ClassId) (mo : Nat) (a : Nat → Nat) (f : Nat → Int32) (g : Nat → Int64) (r : Nat → Nat → Int32) (q : Nat → Nat → Int64) (j : Int32) (hD : DM cy mo a) (hI : MI f r) (hj : 0 ≤ j.toInt ∧ j.toInt < (f 1).toInt) (hd : -1 ≤ (f 11).toInt ∧ (f 11).toInt < (r 4 j.toNatClampNeg).toInt) (ht : 0 ≤ (f 12).toInt ∧ (f 12).toInt ≤ 200000) : Mi l D cy mo a yX10_isNext wsX10_isNext ({ frames := 4, cells := 0, slots := 0, locals := 105 }) f g r q [.int j] (fun r0 u => ∃ (dp : Int32), ∃ (tr : Int32), ∃ (sp : Int32), ∃ (fd : Int64), ∃ (rw : Nat → Int32), ∃ (mt : Nat → Int32), u = ((upd (upd (upd f 11 dp) 12 tr) 13 sp), (vp_updL g 14 fd), (va_up (va_up r 10 rw) 9 mt), q) ∧ ((r0 = 0 ∨ r0 = 1) ∧ (-1 ≤ dp.toInt ∧ dp.toInt < (r 4 j.toNatClampNeg).toInt) ∧ ((f 12).toInt ≤ tr.toInt ∧ tr.toInt ≤ 200000) ∧ (r0 = 1 → (f 12).toInt < tr.toInt))) := by
  refine Met.ofW (cc := cX10_isNext) (maxL := 2) (ret := (some .boolean)) (by decide) rfl ?_
  intro p e s m args below meth c s₁ B hml hv
  obtain ⟨rfl, hP, hK⟩ := hv
  have hx := B.exec
  have hb := B.bytes
  have hr := B.returns
  have hts := atoms_spec (ws := wsX10_isNext) B.pre
  have hin : ∀ w ∈ u_ws RX10 TX10 35, w ∈ wsX10_isNext := by decide +kernel
  have hown : s.vm.findClass RX10 = some m.cls := findClass_of_methodNamed B.named
  have hlocks := B.notSynchronized
  have hS : va_S (AM mo a) s.heap s.heap [] := va_S.rf
  have hl := lv_entry ([.ref mo, .int j]) (n := 2) (Nat.le_of_ble_eq_true rfl)
  rw [lg_entry_eq]
  generalize (lg_sl ([.ref mo, .int j]) ++ List.replicate (2 - (lg_sl ([.ref mo, .int j])).length) Slot.unset).toArray = ls at hl ⊢
  have hl : lv_has ls 2 [(0, .ref mo), (1, .int j)] := hl
  have k_m1 : (-1 : Int32).toInt = -1 := by decide
  have k_0 : (0 : Int32).toInt = 0 := by decide
  have k_1 : (1 : Int32).toInt = 1 := by decide
  have k_200000 : (200000 : Int32).toInt = 200000 := by decide
  have hI1 := hI.1
  have hh := mi_h hI (x := j) (by omega) (by omega) rfl
  have loop_0 : ∀ (n : Nat)  (dpa : Int32) (tra : Int32) (rwa : Nat → Int32) (mta : Nat → Int32), (-1 ≤ dpa.toInt ∧ dpa.toInt < (r 4 j.toNatClampNeg).toInt) → ((f 12).toInt ≤ tra.toInt ∧ tra.toInt ≤ 200000) → ((200000 - tra.toInt) * 8 + dpa.toInt + 1).toNat < n → ∀ (H : Heap) (locs : List Loc), va_P D vwCl (WM cy mo a (upd (upd f 11 dpa) 12 tra) g (va_up (va_up r 10 rwa) 9 mta) q) H → va_S (AM mo a) s.heap H locs → ∀ (ls : Array Slot), lv_has ls 2 [(0, .ref mo), (1, .int j)] → W p l e (headSpec wsX10_isNext ({ frames := 4, cells := 0, slots := 0, locals := 105 })).room s m #[Value.ref mo, Value.int j] below meth c H locs 0 0 (MQ below (va_Qi (fun r0 u => ∃ (dp : Int32), ∃ (tr : Int32), ∃ (sp : Int32), ∃ (fd : Int64), ∃ (rw : Nat → Int32), ∃ (mt : Nat → Int32), u = ((upd (upd (upd f 11 dp) 12 tr) 13 sp), (vp_updL g 14 fd), (va_up (va_up r 10 rw) 9 mt), q) ∧ ((r0 = 0 ∨ r0 = 1) ∧ (-1 ≤ dp.toInt ∧ dp.toInt < (r 4 j.toNatClampNeg).toInt) ∧ ((f 12).toInt ≤ tr.toInt ∧ tr.toInt ≤ 200000) ∧ (r0 = 1 → (f 12).toInt < tr.toInt))) (mB D cy mo a) (AM mo a)) #[Value.ref mo, Value.int j] s 0 0 (AM mo a)) (F0 m 0 ls []) := by
    intro n
    induction n with
    | zero => intro  dpa tra rwa mta j0_0 j0_1 hn; exact absurd hn (Nat.not_lt_zero _)
    | succ n ih_0 =>
      intro  dpa tra rwa mta j0_0 j0_1 hn_0 H locs hP hS ls hl
      refine lv_aload_n hx hb dX10_isNext_0 rfl (lv_at hl 0 rfl) ?_
      refine m_get (v := .int dpa) hx hb hts hin hown hK hP 11 (by decide) rfl (hts (.fieldLink RX10 157 "ShadowBenchModel" "depth" "I") (by decide +kernel)) rfl dX10_isNext_1 ?_
      refine lv_if_lt (tgt := 164) hx hb dX10_isNext_4 (by decide) (fun c4 => ?_) (fun c4 => ?_)
      · skip
        have d4 := c4
        rw [fa_lt] at d4
        refine lv_iconst (v := 0) hx hb dX10_isNext_164 (by decide) ?_
        have hP := wm_eq (ec_f_11_12__11_12_13 f dpa tra) (ec_g___14 g ) rfl rfl hP
        exact W.zret (v := (0 : Int32)) hx hb hr (by decide) (fun t ht hW => ⟨⟨_, ((upd (upd (upd f 11 dpa) 12 tra) 13 (f 13)), (vp_updL g 14 (g 14)), (va_up (va_up r 10 rwa) 9 mta), q), rfl, ⟨dpa, tra, (f 13), (g 14), rwa, mta, rfl, ⟨by decide, by omega, by omega, fun z => by first | exact absurd z (by decide) | omega⟩⟩, by unfold mB; rw [ht]; exact hP⟩, hS.F ht⟩) hS.2.2 dX10_isNext_165
      · skip
        have d4 := c4
        rw [fa_lt] at d4
        refine lv_aload_n hx hb dX10_isNext_7 rfl (lv_at hl 0 rfl) ?_
        refine m_get (v := .ref (a 10)) hx hb hts hin hown hK hP 10 (by decide) rfl (hts (.fieldLink RX10 35 "ShadowBenchModel" "rows" "[I") (by decide +kernel)) rfl dX10_isNext_8 ?_
        refine lv_aload_n hx hb dX10_isNext_11 rfl (lv_at hl 0 rfl) ?_
        refine m_get (v := .int dpa) hx hb hts hin hown hK hP 11 (by decide) rfl (hts (.fieldLink RX10 157 "ShadowBenchModel" "depth" "I") (by decide +kernel)) rfl dX10_isNext_12 ?_
        refine lv_dup2_11 hx hb dX10_isNext_15 rfl rfl ?_
        refine m_iald (w := rwa) hx hb hK hP 9 rfl (vp_in_iff.mpr ⟨by omega, by omega⟩) dX10_isNext_16 ?_
        refine lv_topi (fun v16 e16 => ?_)
        have i16 : v16.toInt = (rwa dpa.toNatClampNeg).toInt := congrArg Int32.toInt e16
        refine lv_iconst (v := 1) hx hb dX10_isNext_17 (by decide) ?_
        refine lv_iadd hx hb dX10_isNext_18 ?_
        refine lv_topi (fun v18 e18 => ?_)
        refine m_iast (w := rwa) hx hb hK hP hD hS 9 rfl (vp_in_iff.mpr ⟨by omega, by omega⟩) (va_up (va_up (va_up r 10 rwa) 9 mta) 10 (upd rwa dpa.toNatClampNeg v18)) (ms_10 cy mo a _ _ _ _ _) dX10_isNext_19 (fun H locs hP hS => ?_)
        have hP := wm_eq rfl rfl (es_r_10_9__10 r rwa mta (upd rwa dpa.toNatClampNeg v18)) rfl hP
        refine lv_aload_n hx hb dX10_isNext_20 rfl (lv_at hl 0 rfl) ?_
        refine m_get (v := .ref (a 10)) hx hb hts hin hown hK hP 10 (by decide) rfl (hts (.fieldLink RX10 35 "ShadowBenchModel" "rows" "[I") (by decide +kernel)) rfl dX10_isNext_21 ?_
        refine lv_aload_n hx hb dX10_isNext_24 rfl (lv_at hl 0 rfl) ?_
        refine m_get (v := .int dpa) hx hb hts hin hown hK hP 11 (by decide) rfl (hts (.fieldLink RX10 157 "ShadowBenchModel" "depth" "I") (by decide +kernel)) rfl dX10_isNext_25 ?_
        refine m_iald (w := (upd rwa dpa.toNatClampNeg v18)) hx hb hK hP 9 rfl (vp_in_iff.mpr ⟨by omega, by omega⟩) dX10_isNext_28 ?_
        refine lv_topi (fun v28 e28 => ?_)
        have i28 : v28.toInt = ((upd rwa dpa.toNatClampNeg v18) dpa.toNatClampNeg).toInt := congrArg Int32.toInt e28
        refine lv_iconst (v := 1) hx hb dX10_isNext_29 (by decide) ?_
        refine lv_aload_n hx hb dX10_isNext_30 rfl (lv_at hl 0 rfl) ?_
        refine m_get (v := .ref (a 3)) hx hb hts hin hown hK hP 3 (by decide) rfl (hts (.fieldLink RX10 13 "ShadowBenchModel" "wide" "[I") (by decide +kernel)) rfl dX10_isNext_31 ?_
        refine lv_iload_n hx hb dX10_isNext_34 rfl (lv_at hl 1 rfl) ?_
        refine m_iald (w := (r 3)) hx hb hK hP 2 rfl (vp_in_iff.mpr ⟨by omega, by omega⟩) dX10_isNext_35 ?_
        refine lv_topi (fun v35 e35 => ?_)
        have i35 : v35.toInt = ((r 3) j.toNatClampNeg).toInt := congrArg Int32.toInt e35
        have w35 := mi_w hI (x := j) (by omega) (by omega) e35
        refine lv_ishl hx hb dX10_isNext_36 ?_
        refine lv_topi (fun v36 e36 => ?_)
        refine lv_icmp_ne (tgt := 53) hx hb dX10_isNext_37 (by decide) (fun c37 => ?_) (fun c37 => ?_)
        · skip
          have d37 := c37
          rw [fa_eq] at d37
          refine lv_aload_n hx hb dX10_isNext_53 rfl (lv_at hl 0 rfl) ?_
          refine m_get (v := .int tra) hx hb hts hin hown hK hP 12 (by decide) rfl (hts (.fieldLink RX10 160 "ShadowBenchModel" "tries" "I") (by decide +kernel)) rfl dX10_isNext_54 ?_
          refine lv_ldc hx hb hown (hts (.constant RX10 167 (200000)) (by decide +kernel)) dX10_isNext_57 ?_
          refine lv_icmp_ne (tgt := 69) hx hb dX10_isNext_59 (by decide) (fun c59 => ?_) (fun c59 => ?_)
          · skip
            have d59 := c59
            rw [fa_eq] at d59
            refine lv_aload_n hx hb dX10_isNext_69 rfl (lv_at hl 0 rfl) ?_
            refine lv_dup hx hb dX10_isNext_70 rfl ?_
            refine m_get (v := .int tra) hx hb hts hin hown hK hP 12 (by decide) rfl (hts (.fieldLink RX10 160 "ShadowBenchModel" "tries" "I") (by decide +kernel)) rfl dX10_isNext_71 ?_
            refine lv_iconst (v := 1) hx hb dX10_isNext_74 (by decide) ?_
            refine lv_iadd hx hb dX10_isNext_75 ?_
            refine lv_topi (fun v75 e75 => ?_)
            have i75 : v75.toInt = tra.toInt + (1 : Int32).toInt := by rw [e75]; exact fb_addI (by omega) (by omega)
            refine m_put (v := .int v75) (ty := .int) hx hb hts hin hown hK hP hD hS 12 (by decide) rfl (hts (.fieldLink RX10 160 "ShadowBenchModel" "tries" "I") (by decide +kernel)) rfl (by decide +kernel) rfl rfl (upd (upd f 11 dpa) 12 v75) g rfl dX10_isNext_76 (fun H locs hP hS => ?_)
            refine lv_aload_n hx hb dX10_isNext_79 rfl (lv_at hl 0 rfl) ?_
            refine lv_iload_n hx hb dX10_isNext_80 rfl (lv_at hl 1 rfl) ?_
            refine m_calli (As := [.int j]) (rest := []) ⟨hx, hb, hml, hown, hts⟩ (c_X10_goesOn l D cy mo a (upd (upd f 11 dpa) 12 v75) g (va_up (va_up r 9 mta) 10 (upd rwa dpa.toNatClampNeg v18)) q j hD hI (show 0 ≤ j.toInt ∧ j.toInt < ((f 1)).toInt by omega) (show 0 ≤ (dpa).toInt ∧ (dpa).toInt < ((r 4) j.toNatClampNeg).toInt by omega)) (cwV 1 hts gX10_isNext_X10_goesOn rfl rfl rfl (by decide +kernel) ⟨Nat.le_of_ble_eq_true rfl, Nat.le_of_ble_eq_true rfl⟩) hK hP rfl hl.1 rfl (Nat.le_of_ble_eq_true rfl) dX10_isNext_81 ⟨Nat.le_of_ble_eq_true rfl, Nat.le_of_ble_eq_true rfl⟩ hS (fun r81 u H locs q81 hP hS => ?_)
            obtain ⟨rfl, q81⟩ := q81
            have hP : va_P D vwCl (WM cy mo a (upd (upd f 11 dpa) 12 v75) g (va_up (va_up r 9 mta) 10 (upd rwa dpa.toNatClampNeg v18)) q) H := hP
            have q81 : r81 = 0 ∨ r81 = 1 := q81
            refine lv_if_ne (tgt := 90) hx hb dX10_isNext_84 (by decide) (fun c84 => ?_) (fun c84 => ?_)
            · skip
              have d84 := c84
              rw [fa_eq] at d84
              refine lv_aload_n hx hb dX10_isNext_90 rfl (lv_at hl 0 rfl) ?_
              refine m_get (v := .int dpa) hx hb hts hin hown hK hP 11 (by decide) rfl (hts (.fieldLink RX10 157 "ShadowBenchModel" "depth" "I") (by decide +kernel)) rfl dX10_isNext_91 ?_
              refine lv_iconst (v := 1) hx hb dX10_isNext_94 (by decide) ?_
              refine lv_iadd hx hb dX10_isNext_95 ?_
              refine lv_topi (fun v95 e95 => ?_)
              have i95 : v95.toInt = dpa.toInt + (1 : Int32).toInt := by rw [e95]; exact fb_addI (by omega) (by omega)
              refine lv_aload_n hx hb dX10_isNext_96 rfl (lv_at hl 0 rfl) ?_
              refine m_get (v := .ref (a 4)) hx hb hts hin hown hK hP 4 (by decide) rfl (hts (.fieldLink RX10 16 "ShadowBenchModel" "high" "[I") (by decide +kernel)) rfl dX10_isNext_97 ?_
              refine lv_iload_n hx hb dX10_isNext_100 rfl (lv_at hl 1 rfl) ?_
              refine m_iald (w := (r 4)) hx hb hK hP 3 rfl (vp_in_iff.mpr ⟨by omega, by omega⟩) dX10_isNext_101 ?_
              refine lv_topi (fun v101 e101 => ?_)
              have i101 : v101.toInt = ((r 4) j.toNatClampNeg).toInt := congrArg Int32.toInt e101
              have w101 := mi_h hI (x := j) (by omega) (by omega) e101
              refine lv_icmp_ge (tgt := 128) hx hb dX10_isNext_102 (by decide) (fun c102 => ?_) (fun c102 => ?_)
              · skip
                have d102 := c102
                rw [fa_le] at d102
                refine lv_aload_n hx hb dX10_isNext_128 rfl (lv_at hl 0 rfl) ?_
                refine lv_iload_n hx hb dX10_isNext_129 rfl (lv_at hl 1 rfl) ?_
                refine lv_aload_n hx hb dX10_isNext_130 rfl (lv_at hl 0 rfl) ?_
                refine lv_iload_n hx hb dX10_isNext_131 rfl (lv_at hl 1 rfl) ?_
                refine lv_aload_n hx hb dX10_isNext_132 rfl (lv_at hl 0 rfl) ?_
                refine m_get (v := .ref (a 4)) hx hb hts hin hown hK hP 4 (by decide) rfl (hts (.fieldLink RX10 16 "ShadowBenchModel" "high" "[I") (by decide +kernel)) rfl dX10_isNext_133 ?_
                refine lv_iload_n hx hb dX10_isNext_136 rfl (lv_at hl 1 rfl) ?_
                refine m_iald (w := (r 4)) hx hb hK hP 3 rfl (vp_in_iff.mpr ⟨by omega, by omega⟩) dX10_isNext_137 ?_
                refine lv_topi (fun v137 e137 => ?_)
                have i137 : v137.toInt = ((r 4) j.toNatClampNeg).toInt := congrArg Int32.toInt e137
                have w137 := mi_h hI (x := j) (by omega) (by omega) e137
                refine m_calll (As := [.int j, .int v137]) (rest := [.int j, .ref mo]) ⟨hx, hb, hml, hown, hts⟩ (c_X10_picture l D cy mo a (upd (upd f 11 dpa) 12 v75) g (va_up (va_up r 9 mta) 10 (upd rwa dpa.toNatClampNeg v18)) q j v137 hD hI (show 0 ≤ j.toInt ∧ j.toInt < ((f 1)).toInt by omega) (show v137.toInt ≤ 6 by omega)) (cwV 2 hts gX10_isNext_X10_picture rfl rfl rfl (by decide +kernel) ⟨Nat.le_of_ble_eq_true rfl, Nat.le_of_ble_eq_true rfl⟩) hK hP rfl hl.1 rfl (Nat.le_of_ble_eq_true rfl) dX10_isNext_138 ⟨Nat.le_of_ble_eq_true rfl, Nat.le_of_ble_eq_true rfl⟩ hS (fun r138 u H locs q138 hP hS => ?_)
                obtain ⟨rfl, q138⟩ := q138
                have hP : va_P D vwCl (WM cy mo a (upd (upd f 11 dpa) 12 v75) g (va_up (va_up r 9 mta) 10 (upd rwa dpa.toNatClampNeg v18)) q) H := hP
                have q138 : True := q138
                refine m_calli (As := [.int j, .long r138]) (rest := []) ⟨hx, hb, hml, hown, hts⟩ (c_X10_isFitting l D cy mo a (upd (upd f 11 dpa) 12 v75) g (va_up (va_up r 9 mta) 10 (upd rwa dpa.toNatClampNeg v18)) q j r138 hD hI (show 0 ≤ j.toInt ∧ j.toInt < ((f 1)).toInt by omega)) (cwV 2 hts gX10_isNext_X10_isFitting rfl rfl rfl (by decide +kernel) ⟨Nat.le_of_ble_eq_true rfl, Nat.le_of_ble_eq_true rfl⟩) hK hP rfl hl.1 rfl (Nat.le_of_ble_eq_true rfl) dX10_isNext_141 ⟨Nat.le_of_ble_eq_true rfl, Nat.le_of_ble_eq_true rfl⟩ hS (fun r141 u H locs q141 hP hS => ?_)
                obtain ⟨mt_141, rfl, q141⟩ := q141
                have hP : va_P D vwCl (WM cy mo a (upd (upd f 11 dpa) 12 v75) g (va_up (va_up r 10 (upd rwa dpa.toNatClampNeg v18)) 9 mt_141) q) H := hP
                have q141 : r141 = 0 ∨ r141 = 1 := q141
                refine lv_if_eq (tgt := 0) hx hb dX10_isNext_144 (by decide) (fun c144 => ?_) (fun c144 => ?_)
                · skip
                  have d144 := c144
                  rw [fa_eq] at d144
                  exact ih_0 dpa v75 (upd rwa dpa.toNatClampNeg v18) mt_141 (by omega) (by omega) (by omega) _ _ hP hS ls (lv_sub hl [0, 1] rfl)
                · skip
                  have d144 := c144
                  rw [fa_eq] at d144
                  refine lv_aload_n hx hb dX10_isNext_147 rfl (lv_at hl 0 rfl) ?_
                  refine lv_aload_n hx hb dX10_isNext_148 rfl (lv_at hl 0 rfl) ?_
                  refine lv_iload_n hx hb dX10_isNext_149 rfl (lv_at hl 1 rfl) ?_
                  refine lv_aload_n hx hb dX10_isNext_150 rfl (lv_at hl 0 rfl) ?_
                  refine m_get (v := .ref (a 4)) hx hb hts hin hown hK hP 4 (by decide) rfl (hts (.fieldLink RX10 16 "ShadowBenchModel" "high" "[I") (by decide +kernel)) rfl dX10_isNext_151 ?_
                  refine lv_iload_n hx hb dX10_isNext_154 rfl (lv_at hl 1 rfl) ?_
                  refine m_iald (w := (r 4)) hx hb hK hP 3 rfl (vp_in_iff.mpr ⟨by omega, by omega⟩) dX10_isNext_155 ?_
                  refine lv_topi (fun v155 e155 => ?_)
                  have i155 : v155.toInt = ((r 4) j.toNatClampNeg).toInt := congrArg Int32.toInt e155
                  have w155 := mi_h hI (x := j) (by omega) (by omega) e155
                  refine m_calll (As := [.int j, .int v155]) (rest := [.ref mo]) ⟨hx, hb, hml, hown, hts⟩ (c_X10_picture l D cy mo a (upd (upd f 11 dpa) 12 v75) g (va_up (va_up r 10 (upd rwa dpa.toNatClampNeg v18)) 9 mt_141) q j v155 hD hI (show 0 ≤ j.toInt ∧ j.toInt < ((f 1)).toInt by omega) (show v155.toInt ≤ 6 by omega)) (cwV 2 hts gX10_isNext_X10_picture rfl rfl rfl (by decide +kernel) ⟨Nat.le_of_ble_eq_true rfl, Nat.le_of_ble_eq_true rfl⟩) hK hP rfl hl.1 rfl (Nat.le_of_ble_eq_true rfl) dX10_isNext_156 ⟨Nat.le_of_ble_eq_true rfl, Nat.le_of_ble_eq_true rfl⟩ hS (fun r156 u H locs q156 hP hS => ?_)
                  obtain ⟨rfl, q156⟩ := q156
                  have hP : va_P D vwCl (WM cy mo a (upd (upd f 11 dpa) 12 v75) g (va_up (va_up r 10 (upd rwa dpa.toNatClampNeg v18)) 9 mt_141) q) H := hP
                  have q156 : True := q156
                  refine m_put (v := .long r156) (ty := .long) hx hb hts hin hown hK hP hD hS 14 (by decide) rfl (hts (.fieldLink RX10 175 "ShadowBenchModel" "found" "J") (by decide +kernel)) rfl (by decide +kernel) rfl rfl (upd (upd f 11 dpa) 12 v75) (vp_updL g 14 r156) rfl dX10_isNext_159 (fun H locs hP hS => ?_)
                  refine lv_iconst (v := 1) hx hb dX10_isNext_162 (by decide) ?_
                  have hP := wm_eq (ec_f_11_12__11_12_13 f dpa v75) rfl rfl rfl hP
                  exact W.zret (v := (1 : Int32)) hx hb hr (by decide) (fun t ht hW => ⟨⟨_, ((upd (upd (upd f 11 dpa) 12 v75) 13 (f 13)), (vp_updL g 14 r156), (va_up (va_up r 10 (upd rwa dpa.toNatClampNeg v18)) 9 mt_141), q), rfl, ⟨dpa, v75, (f 13), r156, (upd rwa dpa.toNatClampNeg v18), mt_141, rfl, ⟨by decide, by omega, by omega, fun z => by first | exact absurd z (by decide) | omega⟩⟩, by unfold mB; rw [ht]; exact hP⟩, hS.F ht⟩) hS.2.2 dX10_isNext_163
              · skip
                have d102 := c102
                rw [fa_le] at d102
                refine lv_aload_n hx hb dX10_isNext_105 rfl (lv_at hl 0 rfl) ?_
                refine lv_dup hx hb dX10_isNext_106 rfl ?_
                refine m_get (v := .int dpa) hx hb hts hin hown hK hP 11 (by decide) rfl (hts (.fieldLink RX10 157 "ShadowBenchModel" "depth" "I") (by decide +kernel)) rfl dX10_isNext_107 ?_
                refine lv_iconst (v := 1) hx hb dX10_isNext_110 (by decide) ?_
                refine lv_iadd hx hb dX10_isNext_111 ?_
                refine lv_topi (fun v111 e111 => ?_)
                have i111 : v111.toInt = dpa.toInt + (1 : Int32).toInt := by rw [e111]; exact fb_addI (by omega) (by omega)
                refine m_put (v := .int v111) (ty := .int) hx hb hts hin hown hK hP hD hS 11 (by decide) rfl (hts (.fieldLink RX10 157 "ShadowBenchModel" "depth" "I") (by decide +kernel)) rfl (by decide +kernel) rfl rfl (upd (upd f 12 v75) 11 v111) g rfl dX10_isNext_112 (fun H locs hP hS => ?_)
                refine lv_aload_n hx hb dX10_isNext_115 rfl (lv_at hl 0 rfl) ?_
                refine m_get (v := .ref (a 10)) hx hb hts hin hown hK hP 10 (by decide) rfl (hts (.fieldLink RX10 35 "ShadowBenchModel" "rows" "[I") (by decide +kernel)) rfl dX10_isNext_116 ?_
                refine lv_aload_n hx hb dX10_isNext_119 rfl (lv_at hl 0 rfl) ?_
                refine m_get (v := .int v111) hx hb hts hin hown hK hP 11 (by decide) rfl (hts (.fieldLink RX10 157 "ShadowBenchModel" "depth" "I") (by decide +kernel)) rfl dX10_isNext_120 ?_
                refine lv_iconst (v := (-1)) hx hb dX10_isNext_123 (by decide) ?_
                refine m_iast (w := (upd rwa dpa.toNatClampNeg v18)) hx hb hK hP hD hS 9 rfl (vp_in_iff.mpr ⟨by omega, by omega⟩) (va_up (va_up (va_up r 9 mta) 10 (upd rwa dpa.toNatClampNeg v18)) 10 (upd (upd rwa dpa.toNatClampNeg v18) v111.toNatClampNeg (((-1) : Int32)))) (ms_10 cy mo a _ _ _ _ _) dX10_isNext_124 (fun H locs hP hS => ?_)
                have hP := wm_eq rfl rfl (es_r_9_10__10 r mta (upd rwa dpa.toNatClampNeg v18) (upd (upd rwa dpa.toNatClampNeg v18) v111.toNatClampNeg (((-1) : Int32)))) rfl hP
                refine lv_goto (tgt := 0) hx hb dX10_isNext_125 (by decide) ?_
                have hP := wm_eq (ec_f_12_11__11_12 f v75 v111) rfl (ec_r_9_10__10_9 r mta ((upd (upd rwa dpa.toNatClampNeg v18) v111.toNatClampNeg (((-1) : Int32))))) rfl hP
                exact ih_0 v111 v75 (((upd (upd rwa dpa.toNatClampNeg v18) v111.toNatClampNeg (((-1) : Int32))))) mta (by omega) (by omega) (by omega) _ _ hP hS ls (lv_sub hl [0, 1] rfl)
            · skip
              have d84 := c84
              rw [fa_eq] at d84
              refine lv_goto (tgt := 0) hx hb dX10_isNext_87 (by decide) ?_
              have hP := wm_eq rfl rfl (ec_r_9_10__10_9 r mta (upd rwa dpa.toNatClampNeg v18)) rfl hP
              exact ih_0 dpa v75 (upd rwa dpa.toNatClampNeg v18) mta (by omega) (by omega) (by omega) _ _ hP hS ls (lv_sub hl [0, 1] rfl)
          · skip
            have d59 := c59
            rw [fa_eq] at d59
            refine lv_aload_n hx hb dX10_isNext_62 rfl (lv_at hl 0 rfl) ?_
            refine lv_iconst (v := 1) hx hb dX10_isNext_63 (by decide) ?_
            refine m_put (v := .int (1 : Int32)) (ty := .boolean) hx hb hts hin hown hK hP hD hS 13 (by decide) rfl (hts (.fieldLink RX10 163 "ShadowBenchModel" "spent" "Z") (by decide +kernel)) rfl (by decide +kernel) rfl rfl (upd (upd (upd f 11 dpa) 12 tra) 13 (1 : Int32)) g rfl dX10_isNext_64 (fun H locs hP hS => ?_)
            refine lv_iconst (v := 0) hx hb dX10_isNext_67 (by decide) ?_
            have hP := wm_eq rfl (ec_g___14 g ) (ec_r_9_10__10_9 r mta (upd rwa dpa.toNatClampNeg v18)) rfl hP
            exact W.zret (v := (0 : Int32)) hx hb hr (by decide) (fun t ht hW => ⟨⟨_, ((upd (upd (upd f 11 dpa) 12 tra) 13 (1 : Int32)), (vp_updL g 14 (g 14)), (va_up (va_up r 10 (upd rwa dpa.toNatClampNeg v18)) 9 mta), q), rfl, ⟨dpa, tra, (1 : Int32), (g 14), (upd rwa dpa.toNatClampNeg v18), mta, rfl, ⟨by decide, by omega, by omega, fun z => by first | exact absurd z (by decide) | omega⟩⟩, by unfold mB; rw [ht]; exact hP⟩, hS.F ht⟩) hS.2.2 dX10_isNext_68
        · skip
          have d37 := c37
          rw [fa_eq] at d37
          refine lv_aload_n hx hb dX10_isNext_40 rfl (lv_at hl 0 rfl) ?_
          refine lv_dup hx hb dX10_isNext_41 rfl ?_
          refine m_get (v := .int dpa) hx hb hts hin hown hK hP 11 (by decide) rfl (hts (.fieldLink RX10 157 "ShadowBenchModel" "depth" "I") (by decide +kernel)) rfl dX10_isNext_42 ?_
          refine lv_iconst (v := 1) hx hb dX10_isNext_45 (by decide) ?_
          refine lv_isub hx hb dX10_isNext_46 ?_
          refine lv_topi (fun v46 e46 => ?_)
          have i46 : v46.toInt = dpa.toInt - (1 : Int32).toInt := by rw [e46]; exact fb_subI (by omega) (by omega)
          refine m_put (v := .int v46) (ty := .int) hx hb hts hin hown hK hP hD hS 11 (by decide) rfl (hts (.fieldLink RX10 157 "ShadowBenchModel" "depth" "I") (by decide +kernel)) rfl (by decide +kernel) rfl rfl (upd (upd f 12 tra) 11 v46) g rfl dX10_isNext_47 (fun H locs hP hS => ?_)
          refine lv_goto (tgt := 0) hx hb dX10_isNext_50 (by decide) ?_
          have hP := wm_eq (ec_f_12_11__11_12 f tra v46) rfl (ec_r_9_10__10_9 r mta (upd rwa dpa.toNatClampNeg v18)) rfl hP
          exact ih_0 v46 tra (upd rwa dpa.toNatClampNeg v18) mta (by omega) (by omega) (by omega) _ _ hP hS ls (lv_sub hl [0, 1] rfl)
  have hP := wm_eq (ec_f___11_12 f ) rfl (ec_r___10_9 r ) rfl hP
  exact loop_0 (((200000 - (f 12).toInt) * 8 + (f 11).toInt + 1).toNat + 1) (f 11) (f 12) (r 10) (r 9) (by omega) (by omega) (by omega) _ _ hP hS ls (lv_sub hl [0, 1] rfl)
set_option maxHeartbeats 4000000 in
set_option maxRecDepth 100000 in
theorem c_X10_count (l : Launch) (D : va_G) (cy : Nat → ClassId) (mo : Nat) (a : Nat → Nat) (f : Nat → Int32) (g : Nat → Int64) (r : Nat → Nat → Int32) (q : Nat → Nat → Int64) (j : Int32) (hD : DM cy mo a) (hI : MI f r) : Mi l D cy mo a yX10_count wsX10_count ({ frames := 5, cells := 0, slots := 0, locals := 126 }) f g r q [.int j] (fun r0 u => ∃ (dp : Int32), ∃ (tr : Int32), ∃ (sp : Int32), ∃ (fd : Int64), ∃ (rw : Nat → Int32), ∃ (mt : Nat → Int32), u = ((upd (upd (upd (upd f 0 (0 : Int32)) 11 dp) 12 tr) 13 sp), (vp_updL g 14 fd), (va_up (va_up r 10 rw) 9 mt), q) ∧ (True)) := by
  refine Met.ofW (cc := cX10_count) (maxL := 3) (ret := (some .int)) (by decide) rfl ?_
  intro p e s m args below meth c s₁ B hml hv
  obtain ⟨rfl, hP, hK⟩ := hv
  have hx := B.exec
  have hb := B.bytes
  have hr := B.returns
  have hts := atoms_spec (ws := wsX10_count) B.pre
  have hin : ∀ w ∈ u_ws RX10 TX10 35, w ∈ wsX10_count := by decide +kernel
  have hown : s.vm.findClass RX10 = some m.cls := findClass_of_methodNamed B.named
  have hlocks := B.notSynchronized
  have hS : va_S (AM mo a) s.heap s.heap [] := va_S.rf
  have hl := lv_entry ([.ref mo, .int j]) (n := 3) (Nat.le_of_ble_eq_true rfl)
  rw [lg_entry_eq]
  generalize (lg_sl ([.ref mo, .int j]) ++ List.replicate (3 - (lg_sl ([.ref mo, .int j])).length) Slot.unset).toArray = ls at hl ⊢
  have hl : lv_has ls 3 [(0, .ref mo), (1, .int j)] := hl
  have k_m5 : (-5 : Int32).toInt = -5 := by decide
  have k_m1 : (-1 : Int32).toInt = -1 := by decide
  have k_0 : (0 : Int32).toInt = 0 := by decide
  have hI1 := hI.1
  refine lv_aload_n hx hb dX10_count_0 rfl (lv_at hl 0 rfl) ?_
  refine lv_iconst (v := 0) hx hb dX10_count_1 (by decide) ?_
  refine m_put (v := .int (0 : Int32)) (ty := .int) hx hb hts hin hown hK hP hD hS 0 (by decide) rfl (hts (.fieldLink RX10 79 "ShadowBenchModel" "thrown" "I") (by decide +kernel)) rfl (by decide +kernel) rfl rfl (upd f 0 (0 : Int32)) g rfl dX10_count_2 (fun H locs hP hS => ?_)
  refine lv_aload_n hx hb dX10_count_5 rfl (lv_at hl 0 rfl) ?_
  refine lv_iload_n hx hb dX10_count_6 rfl (lv_at hl 1 rfl) ?_
  refine m_calli (As := [.int j]) (rest := []) ⟨hx, hb, hml, hown, hts⟩ (c_X10_isJob l D cy mo a (upd f 0 (0 : Int32)) g r q j hD) (cwV 1 hts gX10_count_X10_isJob rfl rfl rfl (by decide +kernel) ⟨Nat.le_of_ble_eq_true rfl, Nat.le_of_ble_eq_true rfl⟩) hK hP rfl hl.1 rfl (Nat.le_of_ble_eq_true rfl) dX10_count_7 ⟨Nat.le_of_ble_eq_true rfl, Nat.le_of_ble_eq_true rfl⟩ hS (fun r7 u H locs q7 hP hS => ?_)
  obtain ⟨rfl, q7⟩ := q7
  have hP : va_P D vwCl (WM cy mo a (upd f 0 (0 : Int32)) g r q) H := hP
  have q7 : Bo r7 (0 ≤ j.toInt ∧ j.toInt < ((f 1)).toInt) := q7
  refine lv_if_ne (tgt := 15) hx hb dX10_count_10 (by decide) (fun c10 => ?_) (fun c10 => ?_)
  · skip
    have b10 := bo_t q7 c10
    have hh := mi_h hI (x := j) (by omega) (by omega) rfl
    refine lv_aload_n hx hb dX10_count_15 rfl (lv_at hl 0 rfl) ?_
    refine m_callv (As := []) (rest := []) ⟨hx, hb, hml, hown, hts⟩ (c_X10_begin l D cy mo a (upd f 0 (0 : Int32)) g r q hD) (cwV 0 hts gX10_count_X10_begin rfl rfl rfl (by decide +kernel) ⟨Nat.le_of_ble_eq_true rfl, Nat.le_of_ble_eq_true rfl⟩) hK hP rfl hl.1 rfl (Nat.le_of_ble_eq_true rfl) dX10_count_16 ⟨Nat.le_of_ble_eq_true rfl, Nat.le_of_ble_eq_true rfl⟩ hS (fun u H locs q16 hP hS => ?_)
    obtain ⟨rw_16, rfl, q16⟩ := q16
    have hP : va_P D vwCl (WM cy mo a (upd (upd (upd (upd f 0 (0 : Int32)) 11 (0 : Int32)) 12 (0 : Int32)) 13 (0 : Int32)) g (va_up r 10 rw_16) q) H := hP
    have q16 : True := q16
    refine lv_iconst (v := 0) hx hb dX10_count_19 (by decide) ?_
    refine lv_istore_n (lv' := [(2, .int (0 : Int32)), (0, .ref mo), (1, .int j)]) hx hb dX10_count_20 rfl hl (by decide) rfl (fun ls hl => ?_)
    have loop_21 : ∀ (n : Nat) (x2 : Int32) (dpa : Int32) (tra : Int32) (spa : Int32) (fda : Int64) (rwa : Nat → Int32) (mta : Nat → Int32), (-1 ≤ dpa.toInt ∧ dpa.toInt < (r 4 j.toNatClampNeg).toInt) → (0 ≤ tra.toInt ∧ tra.toInt ≤ 200000) → (200000 - tra.toInt).toNat < n → ∀ (H : Heap) (locs : List Loc), va_P D vwCl (WM cy mo a (upd (upd (upd (upd f 0 (0 : Int32)) 11 dpa) 12 tra) 13 spa) (vp_updL g 14 fda) (va_up (va_up r 10 rwa) 9 mta) q) H → va_S (AM mo a) s.heap H locs → ∀ (ls : Array Slot), lv_has ls 3 [(2, .int x2), (0, .ref mo), (1, .int j)] → W p l e (headSpec wsX10_count ({ frames := 5, cells := 0, slots := 0, locals := 126 })).room s m #[Value.ref mo, Value.int j] below meth c H locs 0 0 (MQ below (va_Qi (fun r0 u => ∃ (dp : Int32), ∃ (tr : Int32), ∃ (sp : Int32), ∃ (fd : Int64), ∃ (rw : Nat → Int32), ∃ (mt : Nat → Int32), u = ((upd (upd (upd (upd f 0 (0 : Int32)) 11 dp) 12 tr) 13 sp), (vp_updL g 14 fd), (va_up (va_up r 10 rw) 9 mt), q) ∧ (True)) (mB D cy mo a) (AM mo a)) #[Value.ref mo, Value.int j] s 0 0 (AM mo a)) (F0 m 21 ls []) := by
      intro n
      induction n with
      | zero => intro x2 dpa tra spa fda rwa mta j21_0 j21_1 hn; exact absurd hn (Nat.not_lt_zero _)
      | succ n ih_21 =>
        intro x2 dpa tra spa fda rwa mta j21_0 j21_1 hn_21 H locs hP hS ls hl
        refine lv_aload_n hx hb dX10_count_21 rfl (lv_at hl 1 rfl) ?_
        refine lv_iload_n hx hb dX10_count_22 rfl (lv_at hl 2 rfl) ?_
        refine m_calli (As := [.int j]) (rest := []) ⟨hx, hb, hml, hown, hts⟩ (c_X10_isNext l D cy mo a (upd (upd (upd (upd f 0 (0 : Int32)) 11 dpa) 12 tra) 13 spa) (vp_updL g 14 fda) (va_up (va_up r 10 rwa) 9 mta) q j hD hI (show 0 ≤ j.toInt ∧ j.toInt < ((f 1)).toInt by omega) (show -1 ≤ (dpa).toInt ∧ (dpa).toInt < ((r 4) j.toNatClampNeg).toInt by omega) (show 0 ≤ (tra).toInt ∧ (tra).toInt ≤ 200000 by omega)) (cwV 1 hts gX10_count_X10_isNext rfl rfl rfl (by decide +kernel) ⟨Nat.le_of_ble_eq_true rfl, Nat.le_of_ble_eq_true rfl⟩) hK hP rfl hl.1 rfl (Nat.le_of_ble_eq_true rfl) dX10_count_23 ⟨Nat.le_of_ble_eq_true rfl, Nat.le_of_ble_eq_true rfl⟩ hS (fun r23 u H locs q23 hP hS => ?_)
        obtain ⟨dp_23, tr_23, sp_23, fd_23, rw_23, mt_23, rfl, q23⟩ := q23
        have hP : va_P D vwCl (WM cy mo a (upd (upd (upd (upd f 0 (0 : Int32)) 11 dp_23) 12 tr_23) 13 sp_23) (vp_updL g 14 fd_23) (va_up (va_up r 10 rw_23) 9 mt_23) q) H := hP
        have q23 : (r23 = 0 ∨ r23 = 1) ∧ (-1 ≤ dp_23.toInt ∧ dp_23.toInt < ((r 4) j.toNatClampNeg).toInt) ∧ ((tra).toInt ≤ tr_23.toInt ∧ tr_23.toInt ≤ 200000) ∧ (r23 = 1 → (tra).toInt < tr_23.toInt) := q23
        have b23 := q23.2.1
        have t23 := q23.2.2.1
        refine lv_if_eq (tgt := 35) hx hb dX10_count_26 (by decide) (fun c26 => ?_) (fun c26 => ?_)
        · skip
          have d26 := c26
          rw [fa_eq] at d26
          refine lv_aload_n hx hb dX10_count_35 rfl (lv_at hl 1 rfl) ?_
          refine m_get (v := .int sp_23) hx hb hts hin hown hK hP 13 (by decide) rfl (hts (.fieldLink RX10 163 "ShadowBenchModel" "spent" "Z") (by decide +kernel)) rfl dX10_count_36 ?_
          refine lv_if_eq (tgt := 47) hx hb dX10_count_39 (by decide) (fun c39 => ?_) (fun c39 => ?_)
          · skip
            have d39 := c39
            rw [fa_eq] at d39
            refine lv_iload_n hx hb dX10_count_47 rfl (lv_at hl 0 rfl) ?_
            exact W.iret (v := x2) hx hb hr (fun t ht hW => ⟨⟨_, ((upd (upd (upd (upd f 0 (0 : Int32)) 11 dp_23) 12 tr_23) 13 sp_23), (vp_updL g 14 fd_23), (va_up (va_up r 10 rw_23) 9 mt_23), q), rfl, ⟨dp_23, tr_23, sp_23, fd_23, rw_23, mt_23, rfl, trivial⟩, by unfold mB; rw [ht]; exact hP⟩, hS.F ht⟩) hS.2.2 dX10_count_48
          · skip
            have d39 := c39
            rw [fa_eq] at d39
            refine lv_bipush (v := (-5)) hx hb dX10_count_42 (by decide) ?_
            refine lv_goto (tgt := 48) hx hb dX10_count_44 (by decide) ?_
            exact W.iret (v := ((-5) : Int32)) hx hb hr (fun t ht hW => ⟨⟨_, ((upd (upd (upd (upd f 0 (0 : Int32)) 11 dp_23) 12 tr_23) 13 sp_23), (vp_updL g 14 fd_23), (va_up (va_up r 10 rw_23) 9 mt_23), q), rfl, ⟨dp_23, tr_23, sp_23, fd_23, rw_23, mt_23, rfl, trivial⟩, by unfold mB; rw [ht]; exact hP⟩, hS.F ht⟩) hS.2.2 dX10_count_48
        · skip
          have d26 := c26
          rw [fa_eq] at d26
          have z23 := q23.2.2.2 (q23.1.resolve_left c26)
          obtain ⟨v29, e29⟩ : ∃ y : Int32, y = x2 + 1 := ⟨_, rfl⟩
          refine lv_iinc (v := v29) (lv' := [(2, .int v29), (0, .ref mo), (1, .int j)]) hx hb dX10_count_29 hl (k := 0) rfl (by rw [e29]; rfl) (by decide) rfl (fun ls hl => ?_)
          refine lv_goto (tgt := 21) hx hb dX10_count_32 (by decide) ?_
          exact ih_21 v29 dp_23 tr_23 sp_23 fd_23 rw_23 mt_23 (by omega) (by omega) (by omega) _ _ hP hS ls (lv_sub hl [0, 1, 2] rfl)
    exact loop_21 (200000 + 1) (0 : Int32) (0 : Int32) (0 : Int32) (0 : Int32) (g 14) rw_16 (r 9) (by omega) (by omega) (by omega) _ _ hP hS ls (lv_sub hl [0, 1, 2] rfl)
  · skip
    have b10 := bo_f q7 c10
    refine lv_iconst (v := (-1)) hx hb dX10_count_13 (by decide) ?_
    exact W.iret (v := ((-1) : Int32)) hx hb hr (fun t ht hW => ⟨⟨_, ((upd (upd (upd (upd f 0 (0 : Int32)) 11 (f 11)) 12 (f 12)) 13 (f 13)), (vp_updL g 14 (g 14)), (va_up (va_up r 10 (r 10)) 9 (r 9)), q), rfl, ⟨(f 11), (f 12), (f 13), (g 14), (r 10), (r 9), rfl, trivial⟩, by unfold mB; rw [ht]; exact hP⟩, hS.F ht⟩) hS.2.2 dX10_count_14
set_option maxHeartbeats 4000000 in
set_option maxRecDepth 100000 in
theorem c_X10_find (l : Launch) (D : va_G) (cy : Nat → ClassId) (mo : Nat) (a : Nat → Nat) (f : Nat → Int32) (g : Nat → Int64) (r : Nat → Nat → Int32) (q : Nat → Nat → Int64) (j : Int32) (i0 : Int32) (hD : DM cy mo a) (hI : MI f r) : Ml l D cy mo a yX10_find wsX10_find ({ frames := 5, cells := 0, slots := 0, locals := 126 }) f g r q [.int j, .int i0] (fun r0 u => ∃ (dp : Int32), ∃ (tr : Int32), ∃ (sp : Int32), ∃ (fd : Int64), ∃ (rw : Nat → Int32), ∃ (mt : Nat → Int32), u = ((upd (upd (upd (upd f 0 (0 : Int32)) 11 dp) 12 tr) 13 sp), (vp_updL g 14 fd), (va_up (va_up r 10 rw) 9 mt), q) ∧ (True)) := by
  refine Met.ofW (cc := cX10_find) (maxL := 4) (ret := (some .long)) (by decide) rfl ?_
  intro p e s m args below meth c s₁ B hml hv
  obtain ⟨rfl, hP, hK⟩ := hv
  have hx := B.exec
  have hb := B.bytes
  have hr := B.returns
  have hts := atoms_spec (ws := wsX10_find) B.pre
  have hin : ∀ w ∈ u_ws RX10 TX10 35, w ∈ wsX10_find := by decide +kernel
  have hown : s.vm.findClass RX10 = some m.cls := findClass_of_methodNamed B.named
  have hlocks := B.notSynchronized
  have hS : va_S (AM mo a) s.heap s.heap [] := va_S.rf
  have hl := lv_entry ([.ref mo, .int j, .int i0]) (n := 4) (Nat.le_of_ble_eq_true rfl)
  rw [lg_entry_eq]
  generalize (lg_sl ([.ref mo, .int j, .int i0]) ++ List.replicate (4 - (lg_sl ([.ref mo, .int j, .int i0])).length) Slot.unset).toArray = ls at hl ⊢
  have hl : lv_has ls 4 [(0, .ref mo), (1, .int j), (2, .int i0)] := hl
  have k_0 : (0 : Int32).toInt = 0 := by decide
  have k_m5L : (-5 : Int64).toInt = -5 := by decide
  have k_m2L : (-2 : Int64).toInt = -2 := by decide
  have k_m1L : (-1 : Int64).toInt = -1 := by decide
  have hI1 := hI.1
  refine lv_aload_n hx hb dX10_find_0 rfl (lv_at hl 0 rfl) ?_
  refine lv_iconst (v := 0) hx hb dX10_find_1 (by decide) ?_
  refine m_put (v := .int (0 : Int32)) (ty := .int) hx hb hts hin hown hK hP hD hS 0 (by decide) rfl (hts (.fieldLink RX10 79 "ShadowBenchModel" "thrown" "I") (by decide +kernel)) rfl (by decide +kernel) rfl rfl (upd f 0 (0 : Int32)) g rfl dX10_find_2 (fun H locs hP hS => ?_)
  refine lv_aload_n hx hb dX10_find_5 rfl (lv_at hl 0 rfl) ?_
  refine lv_iload_n hx hb dX10_find_6 rfl (lv_at hl 1 rfl) ?_
  refine m_calli (As := [.int j]) (rest := []) ⟨hx, hb, hml, hown, hts⟩ (c_X10_isJob l D cy mo a (upd f 0 (0 : Int32)) g r q j hD) (cwV 1 hts gX10_find_X10_isJob rfl rfl rfl (by decide +kernel) ⟨Nat.le_of_ble_eq_true rfl, Nat.le_of_ble_eq_true rfl⟩) hK hP rfl hl.1 rfl (Nat.le_of_ble_eq_true rfl) dX10_find_7 ⟨Nat.le_of_ble_eq_true rfl, Nat.le_of_ble_eq_true rfl⟩ hS (fun r7 u H locs q7 hP hS => ?_)
  obtain ⟨rfl, q7⟩ := q7
  have hP : va_P D vwCl (WM cy mo a (upd f 0 (0 : Int32)) g r q) H := hP
  have q7 : Bo r7 (0 ≤ j.toInt ∧ j.toInt < ((f 1)).toInt) := q7
  refine lv_if_eq (tgt := 17) hx hb dX10_find_10 (by decide) (fun c10 => ?_) (fun c10 => ?_)
  · skip
    have b10 := bo_f q7 c10
    refine lv_ldc2 hx hb hown (hts (.constantLong RX10 185 (-1)) (by decide +kernel)) dX10_find_17 ?_
    exact W.lret (v := (-1 : Int64)) hx hb hr (fun t ht hW => ⟨⟨_, ((upd (upd (upd (upd f 0 (0 : Int32)) 11 (f 11)) 12 (f 12)) 13 (f 13)), (vp_updL g 14 (g 14)), (va_up (va_up r 10 (r 10)) 9 (r 9)), q), rfl, ⟨(f 11), (f 12), (f 13), (g 14), (r 10), (r 9), rfl, trivial⟩, by unfold mB; rw [ht]; exact hP⟩, hS.F ht⟩) hS.2.2 dX10_find_20
  · skip
    have b10 := bo_t q7 c10
    refine lv_iload_n hx hb dX10_find_13 rfl (lv_at hl 2 rfl) ?_
    refine lv_if_ge (tgt := 21) hx hb dX10_find_14 (by decide) (fun c14 => ?_) (fun c14 => ?_)
    · skip
      have d14 := c14
      rw [fa_le] at d14
      have hh := mi_h hI (x := j) (by omega) (by omega) rfl
      refine lv_aload_n hx hb dX10_find_21 rfl (lv_at hl 0 rfl) ?_
      refine m_callv (As := []) (rest := []) ⟨hx, hb, hml, hown, hts⟩ (c_X10_begin l D cy mo a (upd f 0 (0 : Int32)) g r q hD) (cwV 0 hts gX10_find_X10_begin rfl rfl rfl (by decide +kernel) ⟨Nat.le_of_ble_eq_true rfl, Nat.le_of_ble_eq_true rfl⟩) hK hP rfl hl.1 rfl (Nat.le_of_ble_eq_true rfl) dX10_find_22 ⟨Nat.le_of_ble_eq_true rfl, Nat.le_of_ble_eq_true rfl⟩ hS (fun u H locs q22 hP hS => ?_)
      obtain ⟨rw_22, rfl, q22⟩ := q22
      have hP : va_P D vwCl (WM cy mo a (upd (upd (upd (upd f 0 (0 : Int32)) 11 (0 : Int32)) 12 (0 : Int32)) 13 (0 : Int32)) g (va_up r 10 rw_22) q) H := hP
      have q22 : True := q22
      refine lv_iload_n hx hb dX10_find_25 rfl (lv_at hl 2 rfl) ?_
      refine lv_istore_n (lv' := [(3, .int i0), (0, .ref mo), (1, .int j), (2, .int i0)]) hx hb dX10_find_26 rfl hl (by decide) rfl (fun ls hl => ?_)
      have loop_27 : ∀ (n : Nat) (x3 : Int32) (dpa : Int32) (tra : Int32) (spa : Int32) (fda : Int64) (rwa : Nat → Int32) (mta : Nat → Int32), (-1 ≤ dpa.toInt ∧ dpa.toInt < (r 4 j.toNatClampNeg).toInt) → (0 ≤ tra.toInt ∧ tra.toInt ≤ 200000) → (200000 - tra.toInt).toNat < n → ∀ (H : Heap) (locs : List Loc), va_P D vwCl (WM cy mo a (upd (upd (upd (upd f 0 (0 : Int32)) 11 dpa) 12 tra) 13 spa) (vp_updL g 14 fda) (va_up (va_up r 10 rwa) 9 mta) q) H → va_S (AM mo a) s.heap H locs → ∀ (ls : Array Slot), lv_has ls 4 [(3, .int x3), (0, .ref mo), (1, .int j), (2, .int i0)] → W p l e (headSpec wsX10_find ({ frames := 5, cells := 0, slots := 0, locals := 126 })).room s m #[Value.ref mo, Value.int j, Value.int i0] below meth c H locs 0 0 (MQ below (va_Ql (fun r0 u => ∃ (dp : Int32), ∃ (tr : Int32), ∃ (sp : Int32), ∃ (fd : Int64), ∃ (rw : Nat → Int32), ∃ (mt : Nat → Int32), u = ((upd (upd (upd (upd f 0 (0 : Int32)) 11 dp) 12 tr) 13 sp), (vp_updL g 14 fd), (va_up (va_up r 10 rw) 9 mt), q) ∧ (True)) (mB D cy mo a) (AM mo a)) #[Value.ref mo, Value.int j, Value.int i0] s 0 0 (AM mo a)) (F0 m 27 ls []) := by
        intro n
        induction n with
        | zero => intro x3 dpa tra spa fda rwa mta j27_0 j27_1 hn; exact absurd hn (Nat.not_lt_zero _)
        | succ n ih_27 =>
          intro x3 dpa tra spa fda rwa mta j27_0 j27_1 hn_27 H locs hP hS ls hl
          refine lv_aload_n hx hb dX10_find_27 rfl (lv_at hl 1 rfl) ?_
          refine lv_iload_n hx hb dX10_find_28 rfl (lv_at hl 2 rfl) ?_
          refine m_calli (As := [.int j]) (rest := []) ⟨hx, hb, hml, hown, hts⟩ (c_X10_isNext l D cy mo a (upd (upd (upd (upd f 0 (0 : Int32)) 11 dpa) 12 tra) 13 spa) (vp_updL g 14 fda) (va_up (va_up r 10 rwa) 9 mta) q j hD hI (show 0 ≤ j.toInt ∧ j.toInt < ((f 1)).toInt by omega) (show -1 ≤ (dpa).toInt ∧ (dpa).toInt < ((r 4) j.toNatClampNeg).toInt by omega) (show 0 ≤ (tra).toInt ∧ (tra).toInt ≤ 200000 by omega)) (cwV 1 hts gX10_find_X10_isNext rfl rfl rfl (by decide +kernel) ⟨Nat.le_of_ble_eq_true rfl, Nat.le_of_ble_eq_true rfl⟩) hK hP rfl hl.1 rfl (Nat.le_of_ble_eq_true rfl) dX10_find_29 ⟨Nat.le_of_ble_eq_true rfl, Nat.le_of_ble_eq_true rfl⟩ hS (fun r29 u H locs q29 hP hS => ?_)
          obtain ⟨dp_29, tr_29, sp_29, fd_29, rw_29, mt_29, rfl, q29⟩ := q29
          have hP : va_P D vwCl (WM cy mo a (upd (upd (upd (upd f 0 (0 : Int32)) 11 dp_29) 12 tr_29) 13 sp_29) (vp_updL g 14 fd_29) (va_up (va_up r 10 rw_29) 9 mt_29) q) H := hP
          have q29 : (r29 = 0 ∨ r29 = 1) ∧ (-1 ≤ dp_29.toInt ∧ dp_29.toInt < ((r 4) j.toNatClampNeg).toInt) ∧ ((tra).toInt ≤ tr_29.toInt ∧ tr_29.toInt ≤ 200000) ∧ (r29 = 1 → (tra).toInt < tr_29.toInt) := q29
          have b29 := q29.2.1
          have t29 := q29.2.2.1
          refine lv_if_eq (tgt := 50) hx hb dX10_find_32 (by decide) (fun c32 => ?_) (fun c32 => ?_)
          · skip
            have d32 := c32
            rw [fa_eq] at d32
            refine lv_aload_n hx hb dX10_find_50 rfl (lv_at hl 1 rfl) ?_
            refine m_get (v := .int sp_29) hx hb hts hin hown hK hP 13 (by decide) rfl (hts (.fieldLink RX10 163 "ShadowBenchModel" "spent" "Z") (by decide +kernel)) rfl dX10_find_51 ?_
            refine lv_if_eq (tgt := 63) hx hb dX10_find_54 (by decide) (fun c54 => ?_) (fun c54 => ?_)
            · skip
              have d54 := c54
              rw [fa_eq] at d54
              refine lv_ldc2 hx hb hown (hts (.constantLong RX10 189 (-2)) (by decide +kernel)) dX10_find_63 ?_
              exact W.lret (v := (-2 : Int64)) hx hb hr (fun t ht hW => ⟨⟨_, ((upd (upd (upd (upd f 0 (0 : Int32)) 11 dp_29) 12 tr_29) 13 sp_29), (vp_updL g 14 fd_29), (va_up (va_up r 10 rw_29) 9 mt_29), q), rfl, ⟨dp_29, tr_29, sp_29, fd_29, rw_29, mt_29, rfl, trivial⟩, by unfold mB; rw [ht]; exact hP⟩, hS.F ht⟩) hS.2.2 dX10_find_66
            · skip
              have d54 := c54
              rw [fa_eq] at d54
              refine lv_ldc2 hx hb hown (hts (.constantLong RX10 187 (-5)) (by decide +kernel)) dX10_find_57 ?_
              refine lv_goto (tgt := 66) hx hb dX10_find_60 (by decide) ?_
              exact W.lret (v := (-5 : Int64)) hx hb hr (fun t ht hW => ⟨⟨_, ((upd (upd (upd (upd f 0 (0 : Int32)) 11 dp_29) 12 tr_29) 13 sp_29), (vp_updL g 14 fd_29), (va_up (va_up r 10 rw_29) 9 mt_29), q), rfl, ⟨dp_29, tr_29, sp_29, fd_29, rw_29, mt_29, rfl, trivial⟩, by unfold mB; rw [ht]; exact hP⟩, hS.F ht⟩) hS.2.2 dX10_find_66
          · skip
            have d32 := c32
            rw [fa_eq] at d32
            have z29 := q29.2.2.2 (q29.1.resolve_left c32)
            refine lv_iload_n hx hb dX10_find_35 rfl (lv_at hl 0 rfl) ?_
            refine lv_if_ne (tgt := 44) hx hb dX10_find_36 (by decide) (fun c36 => ?_) (fun c36 => ?_)
            · skip
              have d36 := c36
              rw [fa_eq] at d36
              obtain ⟨v44, e44⟩ : ∃ y : Int32, y = x3 + (-1) := ⟨_, rfl⟩
              refine lv_iinc (v := v44) (lv' := [(3, .int v44), (0, .ref mo), (1, .int j), (2, .int i0)]) hx hb dX10_find_44 hl (k := 0) rfl (by rw [e44]; rfl) (by decide) rfl (fun ls hl => ?_)
              refine lv_goto (tgt := 27) hx hb dX10_find_47 (by decide) ?_
              exact ih_27 v44 dp_29 tr_29 sp_29 fd_29 rw_29 mt_29 (by omega) (by omega) (by omega) _ _ hP hS ls (lv_sub hl [0, 1, 2, 3] rfl)
            · skip
              have d36 := c36
              rw [fa_eq] at d36
              refine lv_aload_n hx hb dX10_find_39 rfl (lv_at hl 1 rfl) ?_
              refine m_get (v := .long fd_29) hx hb hts hin hown hK hP 14 (by decide) rfl (hts (.fieldLink RX10 175 "ShadowBenchModel" "found" "J") (by decide +kernel)) rfl dX10_find_40 ?_
              exact W.lret (v := fd_29) hx hb hr (fun t ht hW => ⟨⟨_, ((upd (upd (upd (upd f 0 (0 : Int32)) 11 dp_29) 12 tr_29) 13 sp_29), (vp_updL g 14 fd_29), (va_up (va_up r 10 rw_29) 9 mt_29), q), rfl, ⟨dp_29, tr_29, sp_29, fd_29, rw_29, mt_29, rfl, trivial⟩, by unfold mB; rw [ht]; exact hP⟩, hS.F ht⟩) hS.2.2 dX10_find_43
      exact loop_27 (200000 + 1) i0 (0 : Int32) (0 : Int32) (0 : Int32) (g 14) rw_22 (r 9) (by omega) (by omega) (by omega) _ _ hP hS ls (lv_sub hl [0, 1, 2, 3] rfl)
    · skip
      have d14 := c14
      rw [fa_le] at d14
      refine lv_ldc2 hx hb hown (hts (.constantLong RX10 185 (-1)) (by decide +kernel)) dX10_find_17 ?_
      exact W.lret (v := (-1 : Int64)) hx hb hr (fun t ht hW => ⟨⟨_, ((upd (upd (upd (upd f 0 (0 : Int32)) 11 (f 11)) 12 (f 12)) 13 (f 13)), (vp_updL g 14 (g 14)), (va_up (va_up r 10 (r 10)) 9 (r 9)), q), rfl, ⟨(f 11), (f 12), (f 13), (g 14), (r 10), (r 9), rfl, trivial⟩, by unfold mB; rw [ht]; exact hP⟩, hS.F ht⟩) hS.2.2 dX10_find_20
set_option maxHeartbeats 4000000 in
set_option maxRecDepth 100000 in
theorem c_X10_rank (l : Launch) (D : va_G) (cy : Nat → ClassId) (mo : Nat) (a : Nat → Nat) (f : Nat → Int32) (g : Nat → Int64) (r : Nat → Nat → Int32) (q : Nat → Nat → Int64) (j : Int32) (p0 : Int64) (hD : DM cy mo a) (hI : MI f r) : Mi l D cy mo a yX10_rank wsX10_rank ({ frames := 5, cells := 0, slots := 0, locals := 126 }) f g r q [.int j, .long p0] (fun r0 u => ∃ (dp : Int32), ∃ (tr : Int32), ∃ (sp : Int32), ∃ (fd : Int64), ∃ (rw : Nat → Int32), ∃ (mt : Nat → Int32), u = ((upd (upd (upd (upd f 0 (0 : Int32)) 11 dp) 12 tr) 13 sp), (vp_updL g 14 fd), (va_up (va_up r 10 rw) 9 mt), q) ∧ (True)) := by
  refine Met.ofW (cc := cX10_rank) (maxL := 5) (ret := (some .int)) (by decide) rfl ?_
  intro p e s m args below meth c s₁ B hml hv
  obtain ⟨rfl, hP, hK⟩ := hv
  have hx := B.exec
  have hb := B.bytes
  have hr := B.returns
  have hts := atoms_spec (ws := wsX10_rank) B.pre
  have hin : ∀ w ∈ u_ws RX10 TX10 35, w ∈ wsX10_rank := by decide +kernel
  have hown : s.vm.findClass RX10 = some m.cls := findClass_of_methodNamed B.named
  have hlocks := B.notSynchronized
  have hS : va_S (AM mo a) s.heap s.heap [] := va_S.rf
  have hl := lv_entry ([.ref mo, .int j, .long p0]) (n := 5) (Nat.le_of_ble_eq_true rfl)
  rw [lg_entry_eq]
  generalize (lg_sl ([.ref mo, .int j, .long p0]) ++ List.replicate (5 - (lg_sl ([.ref mo, .int j, .long p0])).length) Slot.unset).toArray = ls at hl ⊢
  have hl : lv_has ls 5 [(0, .ref mo), (1, .int j), (2, .long p0)] := hl
  have k_m5 : (-5 : Int32).toInt = -5 := by decide
  have k_m2 : (-2 : Int32).toInt = -2 := by decide
  have k_m1 : (-1 : Int32).toInt = -1 := by decide
  have k_0 : (0 : Int32).toInt = 0 := by decide
  have hI1 := hI.1
  refine lv_aload_n hx hb dX10_rank_0 rfl (lv_at hl 0 rfl) ?_
  refine lv_iconst (v := 0) hx hb dX10_rank_1 (by decide) ?_
  refine m_put (v := .int (0 : Int32)) (ty := .int) hx hb hts hin hown hK hP hD hS 0 (by decide) rfl (hts (.fieldLink RX10 79 "ShadowBenchModel" "thrown" "I") (by decide +kernel)) rfl (by decide +kernel) rfl rfl (upd f 0 (0 : Int32)) g rfl dX10_rank_2 (fun H locs hP hS => ?_)
  refine lv_aload_n hx hb dX10_rank_5 rfl (lv_at hl 0 rfl) ?_
  refine lv_iload_n hx hb dX10_rank_6 rfl (lv_at hl 1 rfl) ?_
  refine m_calli (As := [.int j]) (rest := []) ⟨hx, hb, hml, hown, hts⟩ (c_X10_isJob l D cy mo a (upd f 0 (0 : Int32)) g r q j hD) (cwV 1 hts gX10_rank_X10_isJob rfl rfl rfl (by decide +kernel) ⟨Nat.le_of_ble_eq_true rfl, Nat.le_of_ble_eq_true rfl⟩) hK hP rfl hl.1 rfl (Nat.le_of_ble_eq_true rfl) dX10_rank_7 ⟨Nat.le_of_ble_eq_true rfl, Nat.le_of_ble_eq_true rfl⟩ hS (fun r7 u H locs q7 hP hS => ?_)
  obtain ⟨rfl, q7⟩ := q7
  have hP : va_P D vwCl (WM cy mo a (upd f 0 (0 : Int32)) g r q) H := hP
  have q7 : Bo r7 (0 ≤ j.toInt ∧ j.toInt < ((f 1)).toInt) := q7
  refine lv_if_eq (tgt := 32) hx hb dX10_rank_10 (by decide) (fun c10 => ?_) (fun c10 => ?_)
  · skip
    have b10 := bo_f q7 c10
    refine lv_iconst (v := (-1)) hx hb dX10_rank_32 (by decide) ?_
    exact W.iret (v := ((-1) : Int32)) hx hb hr (fun t ht hW => ⟨⟨_, ((upd (upd (upd (upd f 0 (0 : Int32)) 11 (f 11)) 12 (f 12)) 13 (f 13)), (vp_updL g 14 (g 14)), (va_up (va_up r 10 (r 10)) 9 (r 9)), q), rfl, ⟨(f 11), (f 12), (f 13), (g 14), (r 10), (r 9), rfl, trivial⟩, by unfold mB; rw [ht]; exact hP⟩, hS.F ht⟩) hS.2.2 dX10_rank_33
  · skip
    have b10 := bo_t q7 c10
    refine lv_aload_n hx hb dX10_rank_13 rfl (lv_at hl 0 rfl) ?_
    refine m_get (v := .ref (a 3)) hx hb hts hin hown hK hP 3 (by decide) rfl (hts (.fieldLink RX10 13 "ShadowBenchModel" "wide" "[I") (by decide +kernel)) rfl dX10_rank_14 ?_
    refine lv_iload_n hx hb dX10_rank_17 rfl (lv_at hl 1 rfl) ?_
    refine m_iald (w := (r 3)) hx hb hK hP 2 rfl (vp_in_iff.mpr ⟨by omega, by omega⟩) dX10_rank_18 ?_
    refine lv_topi (fun v18 e18 => ?_)
    have i18 : v18.toInt = ((r 3) j.toNatClampNeg).toInt := congrArg Int32.toInt e18
    have w18 := mi_w hI (x := j) (by omega) (by omega) e18
    refine lv_aload_n hx hb dX10_rank_19 rfl (lv_at hl 0 rfl) ?_
    refine m_get (v := .ref (a 4)) hx hb hts hin hown hK hP 4 (by decide) rfl (hts (.fieldLink RX10 16 "ShadowBenchModel" "high" "[I") (by decide +kernel)) rfl dX10_rank_20 ?_
    refine lv_iload_n hx hb dX10_rank_23 rfl (lv_at hl 1 rfl) ?_
    refine m_iald (w := (r 4)) hx hb hK hP 3 rfl (vp_in_iff.mpr ⟨by omega, by omega⟩) dX10_rank_24 ?_
    refine lv_topi (fun v24 e24 => ?_)
    have i24 : v24.toInt = ((r 4) j.toNatClampNeg).toInt := congrArg Int32.toInt e24
    have w24 := mi_h hI (x := j) (by omega) (by omega) e24
    refine lv_lload_n hx hb dX10_rank_25 rfl (lv_at hl 2 rfl) ?_
    refine m_pu (As := [.int v18, .int v24, .long p0]) (rest := []) ⟨hx, hb, hml, hown, hts⟩ (c_X10_isPicture l v18 v24 p0 ) (va_cwS 3 hts gX10_rank_X10_isPicture rfl rfl rfl (by decide +kernel) ⟨Nat.le_of_ble_eq_true rfl, Nat.le_of_ble_eq_true rfl⟩) hP rfl hl.1 rfl (Nat.le_of_ble_eq_true rfl) dX10_rank_26 ⟨Nat.le_of_ble_eq_true rfl, Nat.le_of_ble_eq_true rfl⟩ hS (fun r26 H locs q26 hP hS => ?_)
    refine lv_if_ne (tgt := 34) hx hb dX10_rank_29 (by decide) (fun c29 => ?_) (fun c29 => ?_)
    · skip
      have b29 := bo_t q26 c29
      refine lv_aload_n hx hb dX10_rank_34 rfl (lv_at hl 0 rfl) ?_
      refine lv_iload_n hx hb dX10_rank_35 rfl (lv_at hl 1 rfl) ?_
      refine lv_lload_n hx hb dX10_rank_36 rfl (lv_at hl 2 rfl) ?_
      refine m_calli (As := [.int j, .long p0]) (rest := []) ⟨hx, hb, hml, hown, hts⟩ (c_X10_isFitting l D cy mo a (upd f 0 (0 : Int32)) g r q j p0 hD hI (show 0 ≤ j.toInt ∧ j.toInt < ((f 1)).toInt by omega)) (cwV 2 hts gX10_rank_X10_isFitting rfl rfl rfl (by decide +kernel) ⟨Nat.le_of_ble_eq_true rfl, Nat.le_of_ble_eq_true rfl⟩) hK hP rfl hl.1 rfl (Nat.le_of_ble_eq_true rfl) dX10_rank_37 ⟨Nat.le_of_ble_eq_true rfl, Nat.le_of_ble_eq_true rfl⟩ hS (fun r37 u H locs q37 hP hS => ?_)
      obtain ⟨mt_37, rfl, q37⟩ := q37
      have hP : va_P D vwCl (WM cy mo a (upd f 0 (0 : Int32)) g (va_up r 9 mt_37) q) H := hP
      have q37 : r37 = 0 ∨ r37 = 1 := q37
      refine lv_if_ne (tgt := 46) hx hb dX10_rank_40 (by decide) (fun c40 => ?_) (fun c40 => ?_)
      · skip
        have d40 := c40
        rw [fa_eq] at d40
        have hh := mi_h hI (x := j) (by omega) (by omega) rfl
        refine lv_aload_n hx hb dX10_rank_46 rfl (lv_at hl 0 rfl) ?_
        refine m_callv (As := []) (rest := []) ⟨hx, hb, hml, hown, hts⟩ (c_X10_begin l D cy mo a (upd f 0 (0 : Int32)) g (va_up r 9 mt_37) q hD) (cwV 0 hts gX10_rank_X10_begin rfl rfl rfl (by decide +kernel) ⟨Nat.le_of_ble_eq_true rfl, Nat.le_of_ble_eq_true rfl⟩) hK hP rfl hl.1 rfl (Nat.le_of_ble_eq_true rfl) dX10_rank_47 ⟨Nat.le_of_ble_eq_true rfl, Nat.le_of_ble_eq_true rfl⟩ hS (fun u H locs q47 hP hS => ?_)
        obtain ⟨rw_47, rfl, q47⟩ := q47
        have hP : va_P D vwCl (WM cy mo a (upd (upd (upd (upd f 0 (0 : Int32)) 11 (0 : Int32)) 12 (0 : Int32)) 13 (0 : Int32)) g (va_up (va_up r 9 mt_37) 10 rw_47) q) H := hP
        have q47 : True := q47
        refine lv_iconst (v := 0) hx hb dX10_rank_50 (by decide) ?_
        refine lv_istore (lv' := [(4, .int (0 : Int32)), (0, .ref mo), (1, .int j), (2, .long p0)]) hx hb dX10_rank_51 hl (by decide) rfl (fun ls hl => ?_)
        have loop_53 : ∀ (n : Nat) (x4 : Int32) (dpa : Int32) (tra : Int32) (spa : Int32) (fda : Int64) (rwa : Nat → Int32) (mta : Nat → Int32), (-1 ≤ dpa.toInt ∧ dpa.toInt < (r 4 j.toNatClampNeg).toInt) → (0 ≤ tra.toInt ∧ tra.toInt ≤ 200000) → (200000 - tra.toInt).toNat < n → ∀ (H : Heap) (locs : List Loc), va_P D vwCl (WM cy mo a (upd (upd (upd (upd f 0 (0 : Int32)) 11 dpa) 12 tra) 13 spa) (vp_updL g 14 fda) (va_up (va_up r 10 rwa) 9 mta) q) H → va_S (AM mo a) s.heap H locs → ∀ (ls : Array Slot), lv_has ls 5 [(4, .int x4), (0, .ref mo), (1, .int j), (2, .long p0)] → W p l e (headSpec wsX10_rank ({ frames := 5, cells := 0, slots := 0, locals := 126 })).room s m #[Value.ref mo, Value.int j, Value.long p0] below meth c H locs 0 0 (MQ below (va_Qi (fun r0 u => ∃ (dp : Int32), ∃ (tr : Int32), ∃ (sp : Int32), ∃ (fd : Int64), ∃ (rw : Nat → Int32), ∃ (mt : Nat → Int32), u = ((upd (upd (upd (upd f 0 (0 : Int32)) 11 dp) 12 tr) 13 sp), (vp_updL g 14 fd), (va_up (va_up r 10 rw) 9 mt), q) ∧ (True)) (mB D cy mo a) (AM mo a)) #[Value.ref mo, Value.int j, Value.long p0] s 0 0 (AM mo a)) (F0 m 53 ls []) := by
          intro n
          induction n with
          | zero => intro x4 dpa tra spa fda rwa mta j53_0 j53_1 hn; exact absurd hn (Nat.not_lt_zero _)
          | succ n ih_53 =>
            intro x4 dpa tra spa fda rwa mta j53_0 j53_1 hn_53 H locs hP hS ls hl
            refine lv_aload_n hx hb dX10_rank_53 rfl (lv_at hl 1 rfl) ?_
            refine lv_iload_n hx hb dX10_rank_54 rfl (lv_at hl 2 rfl) ?_
            refine m_calli (As := [.int j]) (rest := []) ⟨hx, hb, hml, hown, hts⟩ (c_X10_isNext l D cy mo a (upd (upd (upd (upd f 0 (0 : Int32)) 11 dpa) 12 tra) 13 spa) (vp_updL g 14 fda) (va_up (va_up r 10 rwa) 9 mta) q j hD hI (show 0 ≤ j.toInt ∧ j.toInt < ((f 1)).toInt by omega) (show -1 ≤ (dpa).toInt ∧ (dpa).toInt < ((r 4) j.toNatClampNeg).toInt by omega) (show 0 ≤ (tra).toInt ∧ (tra).toInt ≤ 200000 by omega)) (cwV 1 hts gX10_rank_X10_isNext rfl rfl rfl (by decide +kernel) ⟨Nat.le_of_ble_eq_true rfl, Nat.le_of_ble_eq_true rfl⟩) hK hP rfl hl.1 rfl (Nat.le_of_ble_eq_true rfl) dX10_rank_55 ⟨Nat.le_of_ble_eq_true rfl, Nat.le_of_ble_eq_true rfl⟩ hS (fun r55 u H locs q55 hP hS => ?_)
            obtain ⟨dp_55, tr_55, sp_55, fd_55, rw_55, mt_55, rfl, q55⟩ := q55
            have hP : va_P D vwCl (WM cy mo a (upd (upd (upd (upd f 0 (0 : Int32)) 11 dp_55) 12 tr_55) 13 sp_55) (vp_updL g 14 fd_55) (va_up (va_up r 10 rw_55) 9 mt_55) q) H := hP
            have q55 : (r55 = 0 ∨ r55 = 1) ∧ (-1 ≤ dp_55.toInt ∧ dp_55.toInt < ((r 4) j.toNatClampNeg).toInt) ∧ ((tra).toInt ≤ tr_55.toInt ∧ tr_55.toInt ≤ 200000) ∧ (r55 = 1 → (tra).toInt < tr_55.toInt) := q55
            have b55 := q55.2.1
            have t55 := q55.2.2.1
            refine lv_if_eq (tgt := 79) hx hb dX10_rank_58 (by decide) (fun c58 => ?_) (fun c58 => ?_)
            · skip
              have d58 := c58
              rw [fa_eq] at d58
              refine lv_bipush (v := (-5)) hx hb dX10_rank_79 (by decide) ?_
              exact W.iret (v := ((-5) : Int32)) hx hb hr (fun t ht hW => ⟨⟨_, ((upd (upd (upd (upd f 0 (0 : Int32)) 11 dp_55) 12 tr_55) 13 sp_55), (vp_updL g 14 fd_55), (va_up (va_up r 10 rw_55) 9 mt_55), q), rfl, ⟨dp_55, tr_55, sp_55, fd_55, rw_55, mt_55, rfl, trivial⟩, by unfold mB; rw [ht]; exact hP⟩, hS.F ht⟩) hS.2.2 dX10_rank_81
            · skip
              have d58 := c58
              rw [fa_eq] at d58
              have z55 := q55.2.2.2 (q55.1.resolve_left c58)
              refine lv_aload_n hx hb dX10_rank_61 rfl (lv_at hl 1 rfl) ?_
              refine m_get (v := .long fd_55) hx hb hts hin hown hK hP 14 (by decide) rfl (hts (.fieldLink RX10 175 "ShadowBenchModel" "found" "J") (by decide +kernel)) rfl dX10_rank_62 ?_
              refine lv_lload_n hx hb dX10_rank_65 rfl (lv_at hl 3 rfl) ?_
              refine W.lcmp hx hb dX10_rank_66 ?_
              refine lv_if_ne (tgt := 73) hx hb dX10_rank_67 (by decide) (fun c67 => ?_) (fun c67 => ?_)
              · skip
                have d67 := c67
                rw [lg_cmp_eq, fa_eq64] at d67
                obtain ⟨v73, e73⟩ : ∃ y : Int32, y = x4 + 1 := ⟨_, rfl⟩
                refine lv_iinc (v := v73) (lv' := [(4, .int v73), (0, .ref mo), (1, .int j), (2, .long p0)]) hx hb dX10_rank_73 hl (k := 0) rfl (by rw [e73]; rfl) (by decide) rfl (fun ls hl => ?_)
                refine lv_goto (tgt := 53) hx hb dX10_rank_76 (by decide) ?_
                exact ih_53 v73 dp_55 tr_55 sp_55 fd_55 rw_55 mt_55 (by omega) (by omega) (by omega) _ _ hP hS ls (lv_sub hl [0, 1, 2, 3] rfl)
              · skip
                have d67 := c67
                rw [lg_cmp_eq, fa_eq64] at d67
                refine lv_iload hx hb dX10_rank_70 (lv_at hl 0 rfl) ?_
                exact W.iret (v := x4) hx hb hr (fun t ht hW => ⟨⟨_, ((upd (upd (upd (upd f 0 (0 : Int32)) 11 dp_55) 12 tr_55) 13 sp_55), (vp_updL g 14 fd_55), (va_up (va_up r 10 rw_55) 9 mt_55), q), rfl, ⟨dp_55, tr_55, sp_55, fd_55, rw_55, mt_55, rfl, trivial⟩, by unfold mB; rw [ht]; exact hP⟩, hS.F ht⟩) hS.2.2 dX10_rank_72
        exact loop_53 (200000 + 1) (0 : Int32) (0 : Int32) (0 : Int32) (0 : Int32) (g 14) rw_47 mt_37 (by omega) (by omega) (by omega) _ _ hP hS ls (lv_sub hl [0, 1, 2, 3] rfl)
      · skip
        have d40 := c40
        rw [fa_eq] at d40
        refine lv_bipush (v := (-2)) hx hb dX10_rank_43 (by decide) ?_
        exact W.iret (v := ((-2) : Int32)) hx hb hr (fun t ht hW => ⟨⟨_, ((upd (upd (upd (upd f 0 (0 : Int32)) 11 (f 11)) 12 (f 12)) 13 (f 13)), (vp_updL g 14 (g 14)), (va_up (va_up r 10 (r 10)) 9 mt_37), q), rfl, ⟨(f 11), (f 12), (f 13), (g 14), (r 10), mt_37, rfl, trivial⟩, by unfold mB; rw [ht]; exact hP⟩, hS.F ht⟩) hS.2.2 dX10_rank_45
    · skip
      have b29 := bo_f q26 c29
      refine lv_iconst (v := (-1)) hx hb dX10_rank_32 (by decide) ?_
      exact W.iret (v := ((-1) : Int32)) hx hb hr (fun t ht hW => ⟨⟨_, ((upd (upd (upd (upd f 0 (0 : Int32)) 11 (f 11)) 12 (f 12)) 13 (f 13)), (vp_updL g 14 (g 14)), (va_up (va_up r 10 (r 10)) 9 (r 9)), q), rfl, ⟨(f 11), (f 12), (f 13), (g 14), (r 10), (r 9), rfl, trivial⟩, by unfold mB; rw [ht]; exact hP⟩, hS.F ht⟩) hS.2.2 dX10_rank_33
set_option maxHeartbeats 4000000 in
set_option maxRecDepth 100000 in
theorem c_X10_sure (l : Launch) (D : va_G) (cy : Nat → ClassId) (mo : Nat) (a : Nat → Nat) (f : Nat → Int32) (g : Nat → Int64) (r : Nat → Nat → Int32) (q : Nat → Nat → Int64) (j : Int32) (s0 : Int32) (hD : DM cy mo a) (hI : MI f r) : Mi l D cy mo a yX10_sure wsX10_sure ({ frames := 5, cells := 0, slots := 0, locals := 126 }) f g r q [.int j, .int s0] (fun r0 u => ∃ (dp : Int32), ∃ (tr : Int32), ∃ (sp : Int32), ∃ (fd : Int64), ∃ (rw : Nat → Int32), ∃ (mt : Nat → Int32), u = ((upd (upd (upd (upd f 0 (0 : Int32)) 11 dp) 12 tr) 13 sp), (vp_updL g 14 fd), (va_up (va_up r 10 rw) 9 mt), q) ∧ (True)) := by
  refine Met.ofW (cc := cX10_sure) (maxL := 5) (ret := (some .int)) (by decide) rfl ?_
  intro p e s m args below meth c s₁ B hml hv
  obtain ⟨rfl, hP, hK⟩ := hv
  have hx := B.exec
  have hb := B.bytes
  have hr := B.returns
  have hts := atoms_spec (ws := wsX10_sure) B.pre
  have hin : ∀ w ∈ u_ws RX10 TX10 35, w ∈ wsX10_sure := by decide +kernel
  have hown : s.vm.findClass RX10 = some m.cls := findClass_of_methodNamed B.named
  have hlocks := B.notSynchronized
  have hS : va_S (AM mo a) s.heap s.heap [] := va_S.rf
  have hl := lv_entry ([.ref mo, .int j, .int s0]) (n := 5) (Nat.le_of_ble_eq_true rfl)
  rw [lg_entry_eq]
  generalize (lg_sl ([.ref mo, .int j, .int s0]) ++ List.replicate (5 - (lg_sl ([.ref mo, .int j, .int s0])).length) Slot.unset).toArray = ls at hl ⊢
  have hl : lv_has ls 5 [(0, .ref mo), (1, .int j), (2, .int s0)] := hl
  have k_m5 : (-5 : Int32).toInt = -5 := by decide
  have k_m2 : (-2 : Int32).toInt = -2 := by decide
  have k_m1 : (-1 : Int32).toInt = -1 := by decide
  have k_0 : (0 : Int32).toInt = 0 := by decide
  have k_1 : (1 : Int32).toInt = 1 := by decide
  have k_2 : (2 : Int32).toInt = 2 := by decide
  have hI1 := hI.1
  refine lv_aload_n hx hb dX10_sure_0 rfl (lv_at hl 0 rfl) ?_
  refine lv_iconst (v := 0) hx hb dX10_sure_1 (by decide) ?_
  refine m_put (v := .int (0 : Int32)) (ty := .int) hx hb hts hin hown hK hP hD hS 0 (by decide) rfl (hts (.fieldLink RX10 79 "ShadowBenchModel" "thrown" "I") (by decide +kernel)) rfl (by decide +kernel) rfl rfl (upd f 0 (0 : Int32)) g rfl dX10_sure_2 (fun H locs hP hS => ?_)
  refine lv_aload_n hx hb dX10_sure_5 rfl (lv_at hl 0 rfl) ?_
  refine lv_iload_n hx hb dX10_sure_6 rfl (lv_at hl 1 rfl) ?_
  refine lv_iload_n hx hb dX10_sure_7 rfl (lv_at hl 2 rfl) ?_
  refine m_calli (As := [.int j, .int s0]) (rest := []) ⟨hx, hb, hml, hown, hts⟩ (c_X10_isSquare l D cy mo a (upd f 0 (0 : Int32)) g r q j s0 hD hI) (cwV 2 hts gX10_sure_X10_isSquare rfl rfl rfl (by decide +kernel) ⟨Nat.le_of_ble_eq_true rfl, Nat.le_of_ble_eq_true rfl⟩) hK hP rfl hl.1 rfl (Nat.le_of_ble_eq_true rfl) dX10_sure_8 ⟨Nat.le_of_ble_eq_true rfl, Nat.le_of_ble_eq_true rfl⟩ hS (fun r8 u H locs q8 hP hS => ?_)
  obtain ⟨rfl, q8⟩ := q8
  have hP : va_P D vwCl (WM cy mo a (upd f 0 (0 : Int32)) g r q) H := hP
  have q8 : Bo r8 ((0 ≤ j.toInt ∧ j.toInt < ((f 1)).toInt) ∧ 0 ≤ s0.toInt ∧ s0.toInt < ((r 3) j.toNatClampNeg).toInt * ((r 4) j.toNatClampNeg).toInt) := q8
  refine lv_if_ne (tgt := 16) hx hb dX10_sure_11 (by decide) (fun c11 => ?_) (fun c11 => ?_)
  · skip
    have b11 := bo_t q8 c11
    have hh := mi_h hI (x := j) (by omega) (by omega) rfl
    refine lv_aload_n hx hb dX10_sure_16 rfl (lv_at hl 0 rfl) ?_
    refine m_callv (As := []) (rest := []) ⟨hx, hb, hml, hown, hts⟩ (c_X10_begin l D cy mo a (upd f 0 (0 : Int32)) g r q hD) (cwV 0 hts gX10_sure_X10_begin rfl rfl rfl (by decide +kernel) ⟨Nat.le_of_ble_eq_true rfl, Nat.le_of_ble_eq_true rfl⟩) hK hP rfl hl.1 rfl (Nat.le_of_ble_eq_true rfl) dX10_sure_17 ⟨Nat.le_of_ble_eq_true rfl, Nat.le_of_ble_eq_true rfl⟩ hS (fun u H locs q17 hP hS => ?_)
    obtain ⟨rw_17, rfl, q17⟩ := q17
    have hP : va_P D vwCl (WM cy mo a (upd (upd (upd (upd f 0 (0 : Int32)) 11 (0 : Int32)) 12 (0 : Int32)) 13 (0 : Int32)) g (va_up r 10 rw_17) q) H := hP
    have q17 : True := q17
    refine lv_iconst (v := 0) hx hb dX10_sure_20 (by decide) ?_
    refine lv_istore_n (lv' := [(3, .int (0 : Int32)), (0, .ref mo), (1, .int j), (2, .int s0)]) hx hb dX10_sure_21 rfl hl (by decide) rfl (fun ls hl => ?_)
    refine lv_iconst (v := 0) hx hb dX10_sure_22 (by decide) ?_
    refine lv_istore (lv' := [(4, .int (0 : Int32)), (3, .int (0 : Int32)), (0, .ref mo), (1, .int j), (2, .int s0)]) hx hb dX10_sure_23 hl (by decide) rfl (fun ls hl => ?_)
    have loop_25 : ∀ (n : Nat) (x4 : Int32) (x3 : Int32) (dpa : Int32) (tra : Int32) (spa : Int32) (fda : Int64) (rwa : Nat → Int32) (mta : Nat → Int32), (-1 ≤ dpa.toInt ∧ dpa.toInt < (r 4 j.toNatClampNeg).toInt) → (0 ≤ tra.toInt ∧ tra.toInt ≤ 200000) → (200000 - tra.toInt).toNat < n → ∀ (H : Heap) (locs : List Loc), va_P D vwCl (WM cy mo a (upd (upd (upd (upd f 0 (0 : Int32)) 11 dpa) 12 tra) 13 spa) (vp_updL g 14 fda) (va_up (va_up r 10 rwa) 9 mta) q) H → va_S (AM mo a) s.heap H locs → ∀ (ls : Array Slot), lv_has ls 5 [(4, .int x4), (3, .int x3), (0, .ref mo), (1, .int j), (2, .int s0)] → W p l e (headSpec wsX10_sure ({ frames := 5, cells := 0, slots := 0, locals := 126 })).room s m #[Value.ref mo, Value.int j, Value.int s0] below meth c H locs 0 0 (MQ below (va_Qi (fun r0 u => ∃ (dp : Int32), ∃ (tr : Int32), ∃ (sp : Int32), ∃ (fd : Int64), ∃ (rw : Nat → Int32), ∃ (mt : Nat → Int32), u = ((upd (upd (upd (upd f 0 (0 : Int32)) 11 dp) 12 tr) 13 sp), (vp_updL g 14 fd), (va_up (va_up r 10 rw) 9 mt), q) ∧ (True)) (mB D cy mo a) (AM mo a)) #[Value.ref mo, Value.int j, Value.int s0] s 0 0 (AM mo a)) (F0 m 25 ls []) := by
      intro n
      induction n with
      | zero => intro x4 x3 dpa tra spa fda rwa mta j25_0 j25_1 hn; exact absurd hn (Nat.not_lt_zero _)
      | succ n ih_25 =>
        intro x4 x3 dpa tra spa fda rwa mta j25_0 j25_1 hn_25 H locs hP hS ls hl
        refine lv_aload_n hx hb dX10_sure_25 rfl (lv_at hl 2 rfl) ?_
        refine lv_iload_n hx hb dX10_sure_26 rfl (lv_at hl 3 rfl) ?_
        refine m_calli (As := [.int j]) (rest := []) ⟨hx, hb, hml, hown, hts⟩ (c_X10_isNext l D cy mo a (upd (upd (upd (upd f 0 (0 : Int32)) 11 dpa) 12 tra) 13 spa) (vp_updL g 14 fda) (va_up (va_up r 10 rwa) 9 mta) q j hD hI (show 0 ≤ j.toInt ∧ j.toInt < ((f 1)).toInt by omega) (show -1 ≤ (dpa).toInt ∧ (dpa).toInt < ((r 4) j.toNatClampNeg).toInt by omega) (show 0 ≤ (tra).toInt ∧ (tra).toInt ≤ 200000 by omega)) (cwV 1 hts gX10_sure_X10_isNext rfl rfl rfl (by decide +kernel) ⟨Nat.le_of_ble_eq_true rfl, Nat.le_of_ble_eq_true rfl⟩) hK hP rfl hl.1 rfl (Nat.le_of_ble_eq_true rfl) dX10_sure_27 ⟨Nat.le_of_ble_eq_true rfl, Nat.le_of_ble_eq_true rfl⟩ hS (fun r27 u H locs q27 hP hS => ?_)
        obtain ⟨dp_27, tr_27, sp_27, fd_27, rw_27, mt_27, rfl, q27⟩ := q27
        have hP : va_P D vwCl (WM cy mo a (upd (upd (upd (upd f 0 (0 : Int32)) 11 dp_27) 12 tr_27) 13 sp_27) (vp_updL g 14 fd_27) (va_up (va_up r 10 rw_27) 9 mt_27) q) H := hP
        have q27 : (r27 = 0 ∨ r27 = 1) ∧ (-1 ≤ dp_27.toInt ∧ dp_27.toInt < ((r 4) j.toNatClampNeg).toInt) ∧ ((tra).toInt ≤ tr_27.toInt ∧ tr_27.toInt ≤ 200000) ∧ (r27 = 1 → (tra).toInt < tr_27.toInt) := q27
        have b27 := q27.2.1
        have t27 := q27.2.2.1
        refine lv_if_eq (tgt := 52) hx hb dX10_sure_30 (by decide) (fun c30 => ?_) (fun c30 => ?_)
        · skip
          have d30 := c30
          rw [fa_eq] at d30
          refine lv_aload_n hx hb dX10_sure_52 rfl (lv_at hl 2 rfl) ?_
          refine m_get (v := .int sp_27) hx hb hts hin hown hK hP 13 (by decide) rfl (hts (.fieldLink RX10 163 "ShadowBenchModel" "spent" "Z") (by decide +kernel)) rfl dX10_sure_53 ?_
          refine lv_if_eq (tgt := 64) hx hb dX10_sure_56 (by decide) (fun c56 => ?_) (fun c56 => ?_)
          · skip
            have d56 := c56
            rw [fa_eq] at d56
            refine lv_iload_n hx hb dX10_sure_64 rfl (lv_at hl 1 rfl) ?_
            refine lv_if_ne (tgt := 73) hx hb dX10_sure_65 (by decide) (fun c65 => ?_) (fun c65 => ?_)
            · skip
              have d65 := c65
              rw [fa_eq] at d65
              refine lv_iload hx hb dX10_sure_73 (lv_at hl 0 rfl) ?_
              refine lv_if_ne (tgt := 82) hx hb dX10_sure_75 (by decide) (fun c75 => ?_) (fun c75 => ?_)
              · skip
                have d75 := c75
                rw [fa_eq] at d75
                refine lv_iload hx hb dX10_sure_82 (lv_at hl 0 rfl) ?_
                refine lv_iload_n hx hb dX10_sure_84 rfl (lv_at hl 1 rfl) ?_
                refine lv_icmp_ne (tgt := 92) hx hb dX10_sure_85 (by decide) (fun c85 => ?_) (fun c85 => ?_)
                · skip
                  have d85 := c85
                  rw [fa_eq] at d85
                  refine lv_iconst (v := 2) hx hb dX10_sure_92 (by decide) ?_
                  exact W.iret (v := (2 : Int32)) hx hb hr (fun t ht hW => ⟨⟨_, ((upd (upd (upd (upd f 0 (0 : Int32)) 11 dp_27) 12 tr_27) 13 sp_27), (vp_updL g 14 fd_27), (va_up (va_up r 10 rw_27) 9 mt_27), q), rfl, ⟨dp_27, tr_27, sp_27, fd_27, rw_27, mt_27, rfl, trivial⟩, by unfold mB; rw [ht]; exact hP⟩, hS.F ht⟩) hS.2.2 dX10_sure_93
                · skip
                  have d85 := c85
                  rw [fa_eq] at d85
                  refine lv_iconst (v := 1) hx hb dX10_sure_88 (by decide) ?_
                  refine lv_goto (tgt := 93) hx hb dX10_sure_89 (by decide) ?_
                  exact W.iret (v := (1 : Int32)) hx hb hr (fun t ht hW => ⟨⟨_, ((upd (upd (upd (upd f 0 (0 : Int32)) 11 dp_27) 12 tr_27) 13 sp_27), (vp_updL g 14 fd_27), (va_up (va_up r 10 rw_27) 9 mt_27), q), rfl, ⟨dp_27, tr_27, sp_27, fd_27, rw_27, mt_27, rfl, trivial⟩, by unfold mB; rw [ht]; exact hP⟩, hS.F ht⟩) hS.2.2 dX10_sure_93
              · skip
                have d75 := c75
                rw [fa_eq] at d75
                refine lv_iconst (v := 0) hx hb dX10_sure_78 (by decide) ?_
                refine lv_goto (tgt := 93) hx hb dX10_sure_79 (by decide) ?_
                exact W.iret (v := (0 : Int32)) hx hb hr (fun t ht hW => ⟨⟨_, ((upd (upd (upd (upd f 0 (0 : Int32)) 11 dp_27) 12 tr_27) 13 sp_27), (vp_updL g 14 fd_27), (va_up (va_up r 10 rw_27) 9 mt_27), q), rfl, ⟨dp_27, tr_27, sp_27, fd_27, rw_27, mt_27, rfl, trivial⟩, by unfold mB; rw [ht]; exact hP⟩, hS.F ht⟩) hS.2.2 dX10_sure_93
            · skip
              have d65 := c65
              rw [fa_eq] at d65
              refine lv_bipush (v := (-2)) hx hb dX10_sure_68 (by decide) ?_
              refine lv_goto (tgt := 93) hx hb dX10_sure_70 (by decide) ?_
              exact W.iret (v := ((-2) : Int32)) hx hb hr (fun t ht hW => ⟨⟨_, ((upd (upd (upd (upd f 0 (0 : Int32)) 11 dp_27) 12 tr_27) 13 sp_27), (vp_updL g 14 fd_27), (va_up (va_up r 10 rw_27) 9 mt_27), q), rfl, ⟨dp_27, tr_27, sp_27, fd_27, rw_27, mt_27, rfl, trivial⟩, by unfold mB; rw [ht]; exact hP⟩, hS.F ht⟩) hS.2.2 dX10_sure_93
          · skip
            have d56 := c56
            rw [fa_eq] at d56
            refine lv_bipush (v := (-5)) hx hb dX10_sure_59 (by decide) ?_
            refine lv_goto (tgt := 93) hx hb dX10_sure_61 (by decide) ?_
            exact W.iret (v := ((-5) : Int32)) hx hb hr (fun t ht hW => ⟨⟨_, ((upd (upd (upd (upd f 0 (0 : Int32)) 11 dp_27) 12 tr_27) 13 sp_27), (vp_updL g 14 fd_27), (va_up (va_up r 10 rw_27) 9 mt_27), q), rfl, ⟨dp_27, tr_27, sp_27, fd_27, rw_27, mt_27, rfl, trivial⟩, by unfold mB; rw [ht]; exact hP⟩, hS.F ht⟩) hS.2.2 dX10_sure_93
        · skip
          have d30 := c30
          rw [fa_eq] at d30
          have z27 := q27.2.2.2 (q27.1.resolve_left c30)
          obtain ⟨v33, e33⟩ : ∃ y : Int32, y = x3 + 1 := ⟨_, rfl⟩
          refine lv_iinc (v := v33) (lv' := [(3, .int v33), (4, .int x4), (0, .ref mo), (1, .int j), (2, .int s0)]) hx hb dX10_sure_33 hl (k := 1) rfl (by rw [e33]; rfl) (by decide) rfl (fun ls hl => ?_)
          refine lv_iload hx hb dX10_sure_36 (lv_at hl 1 rfl) ?_
          refine lv_aload_n hx hb dX10_sure_38 rfl (lv_at hl 2 rfl) ?_
          refine m_get (v := .long fd_27) hx hb hts hin hown hK hP 14 (by decide) rfl (hts (.fieldLink RX10 175 "ShadowBenchModel" "found" "J") (by decide +kernel)) rfl dX10_sure_39 ?_
          refine lv_iload_n hx hb dX10_sure_42 rfl (lv_at hl 4 rfl) ?_
          refine m_pu (As := [.long fd_27, .int s0]) (rest := [.int x4]) ⟨hx, hb, hml, hown, hts⟩ (c_X10_one l fd_27 s0 ) (va_cwS 2 hts gX10_sure_X10_one rfl rfl rfl (by decide +kernel) ⟨Nat.le_of_ble_eq_true rfl, Nat.le_of_ble_eq_true rfl⟩) hP rfl hl.1 rfl (Nat.le_of_ble_eq_true rfl) dX10_sure_43 ⟨Nat.le_of_ble_eq_true rfl, Nat.le_of_ble_eq_true rfl⟩ hS (fun r43 H locs q43 hP hS => ?_)
          have i43 : r43.toInt = (r_one fd_27 s0).toInt := congrArg Int32.toInt q43
          refine lv_iadd hx hb dX10_sure_46 ?_
          refine lv_topi (fun v46 e46 => ?_)
          refine lv_istore (lv' := [(4, .int v46), (3, .int v33), (0, .ref mo), (1, .int j), (2, .int s0)]) hx hb dX10_sure_47 hl (by decide) rfl (fun ls hl => ?_)
          refine lv_goto (tgt := 25) hx hb dX10_sure_49 (by decide) ?_
          exact ih_25 v46 v33 dp_27 tr_27 sp_27 fd_27 rw_27 mt_27 (by omega) (by omega) (by omega) _ _ hP hS ls (lv_sub hl [0, 1, 2, 3, 4] rfl)
    exact loop_25 (200000 + 1) (0 : Int32) (0 : Int32) (0 : Int32) (0 : Int32) (0 : Int32) (g 14) rw_17 (r 9) (by omega) (by omega) (by omega) _ _ hP hS ls (lv_sub hl [0, 1, 2, 3, 4] rfl)
  · skip
    have b11 := bo_f q8 c11
    refine lv_iconst (v := (-1)) hx hb dX10_sure_14 (by decide) ?_
    exact W.iret (v := ((-1) : Int32)) hx hb hr (fun t ht hW => ⟨⟨_, ((upd (upd (upd (upd f 0 (0 : Int32)) 11 (f 11)) 12 (f 12)) 13 (f 13)), (vp_updL g 14 (g 14)), (va_up (va_up r 10 (r 10)) 9 (r 9)), q), rfl, ⟨(f 11), (f 12), (f 13), (g 14), (r 10), (r 9), rfl, trivial⟩, by unfold mB; rw [ht]; exact hP⟩, hS.F ht⟩) hS.2.2 dX10_sure_15
set_option maxHeartbeats 4000000 in
set_option maxRecDepth 100000 in
theorem c_X10_across (l : Launch) (way : Int32)  : Pu l yX10_across wsX10_across ({ frames := 0, cells := 0, slots := 0, locals := 0 }) [.int way] (fun r => 0 ≤ r.toInt ∧ r.toInt ≤ 1) := by
  refine Met.ofW (cc := cX10_across) (maxL := 1) (ret := (some .int)) (by decide) rfl ?_
  intro p e s m args below meth c s₁ B hml hv
  obtain ⟨rfl, -⟩ := hv
  have hx := B.exec
  have hb := B.bytes
  have hr := B.returns
  have hts := atoms_spec (ws := wsX10_across) B.pre
  have hown : s.vm.findClass RX10 = some m.cls := findClass_of_methodNamed B.named
  have hlocks := B.notSynchronized
  have hS : va_S (fun _ => False) s.heap s.heap [] := va_S.rf
  have hl := lv_entry ([.int way]) (n := 1) (Nat.le_of_ble_eq_true rfl)
  rw [lg_entry_eq]
  generalize (lg_sl ([.int way]) ++ List.replicate (1 - (lg_sl ([.int way])).length) Slot.unset).toArray = ls at hl ⊢
  have hl : lv_has ls 1 [(0, .int way)] := hl
  have hS0 := hS
  have k_0 : (0 : Int32).toInt = 0 := by decide
  have k_1 : (1 : Int32).toInt = 1 := by decide
  refine lv_iload_n hx hb dX10_across_0 rfl (lv_at hl 0 rfl) ?_
  refine lv_iconst (v := 1) hx hb dX10_across_1 (by decide) ?_
  refine lv_icmp_ne (tgt := 9) hx hb dX10_across_2 (by decide) (fun c2 => ?_) (fun c2 => ?_)
  · skip
    have d2 := c2
    rw [fa_eq] at d2
    refine lv_iconst (v := 1) hx hb dX10_across_9 (by decide) ?_
    exact W.iret (v := (1 : Int32)) hx hb hr (fun t ht hW => ⟨⟨_, (), rfl, (by decide), trivial⟩, hS.F ht⟩) hS.2.2 dX10_across_10
  · skip
    have d2 := c2
    rw [fa_eq] at d2
    refine lv_iconst (v := 0) hx hb dX10_across_5 (by decide) ?_
    refine lv_goto (tgt := 10) hx hb dX10_across_6 (by decide) ?_
    exact W.iret (v := (0 : Int32)) hx hb hr (fun t ht hW => ⟨⟨_, (), rfl, (by decide), trivial⟩, hS.F ht⟩) hS.2.2 dX10_across_10
set_option maxHeartbeats 4000000 in
set_option maxRecDepth 100000 in
theorem c_X10_down (l : Launch) (way : Int32)  : Pu l yX10_down wsX10_down ({ frames := 0, cells := 0, slots := 0, locals := 0 }) [.int way] (fun r => -1 ≤ r.toInt ∧ r.toInt ≤ 1) := by
  refine Met.ofW (cc := cX10_down) (maxL := 1) (ret := (some .int)) (by decide) rfl ?_
  intro p e s m args below meth c s₁ B hml hv
  obtain ⟨rfl, -⟩ := hv
  have hx := B.exec
  have hb := B.bytes
  have hr := B.returns
  have hts := atoms_spec (ws := wsX10_down) B.pre
  have hown : s.vm.findClass RX10 = some m.cls := findClass_of_methodNamed B.named
  have hlocks := B.notSynchronized
  have hS : va_S (fun _ => False) s.heap s.heap [] := va_S.rf
  have hl := lv_entry ([.int way]) (n := 1) (Nat.le_of_ble_eq_true rfl)
  rw [lg_entry_eq]
  generalize (lg_sl ([.int way]) ++ List.replicate (1 - (lg_sl ([.int way])).length) Slot.unset).toArray = ls at hl ⊢
  have hl : lv_has ls 1 [(0, .int way)] := hl
  have hS0 := hS
  have k_m1 : (-1 : Int32).toInt = -1 := by decide
  have k_0 : (0 : Int32).toInt = 0 := by decide
  have k_1 : (1 : Int32).toInt = 1 := by decide
  have k_3 : (3 : Int32).toInt = 3 := by decide
  refine lv_iload_n hx hb dX10_down_0 rfl (lv_at hl 0 rfl) ?_
  refine lv_if_ne (tgt := 8) hx hb dX10_down_1 (by decide) (fun c1 => ?_) (fun c1 => ?_)
  · skip
    have d1 := c1
    rw [fa_eq] at d1
    refine lv_iload_n hx hb dX10_down_8 rfl (lv_at hl 0 rfl) ?_
    refine lv_iconst (v := 3) hx hb dX10_down_9 (by decide) ?_
    refine lv_icmp_ne (tgt := 17) hx hb dX10_down_10 (by decide) (fun c10 => ?_) (fun c10 => ?_)
    · skip
      have d10 := c10
      rw [fa_eq] at d10
      refine lv_iconst (v := 1) hx hb dX10_down_17 (by decide) ?_
      exact W.iret (v := (1 : Int32)) hx hb hr (fun t ht hW => ⟨⟨_, (), rfl, (by decide), trivial⟩, hS.F ht⟩) hS.2.2 dX10_down_18
    · skip
      have d10 := c10
      rw [fa_eq] at d10
      refine lv_iconst (v := (-1)) hx hb dX10_down_13 (by decide) ?_
      refine lv_goto (tgt := 18) hx hb dX10_down_14 (by decide) ?_
      exact W.iret (v := ((-1) : Int32)) hx hb hr (fun t ht hW => ⟨⟨_, (), rfl, (by decide), trivial⟩, hS.F ht⟩) hS.2.2 dX10_down_18
  · skip
    have d1 := c1
    rw [fa_eq] at d1
    refine lv_iconst (v := 0) hx hb dX10_down_4 (by decide) ?_
    refine lv_goto (tgt := 18) hx hb dX10_down_5 (by decide) ?_
    exact W.iret (v := (0 : Int32)) hx hb hr (fun t ht hW => ⟨⟨_, (), rfl, (by decide), trivial⟩, hS.F ht⟩) hS.2.2 dX10_down_18
set_option maxHeartbeats 4000000 in
set_option maxRecDepth 100000 in
theorem c_X10_job (l : Launch) (D : va_G) (cy : Nat → ClassId) (mo : Nat) (a : Nat → Nat) (f : Nat → Int32) (g : Nat → Int64) (r : Nat → Nat → Int32) (q : Nat → Nat → Int64) (k0 : Int32) (w : Int32) (h : Int32) (hD : DM cy mo a) (hI : MI f r) : Mi l D cy mo a yX10_job wsX10_job ({ frames := 2, cells := 0, slots := 0, locals := 46 }) f g r q [.int k0, .int w, .int h] (fun r0 u => ∃ (kd : Nat → Int32), ∃ (wd : Nat → Int32), ∃ (hg : Nat → Int32), ∃ (tl : Nat → Int32), ∃ (hd : Nat → Int32), ∃ (jb : Int32), u = ((upd (upd f 0 (0 : Int32)) 1 jb), g, (va_up (va_up (va_up (va_up (va_up r 2 kd) 3 wd) 4 hg) 6 tl) 7 hd), q) ∧ (MI (upd (upd f 0 (0 : Int32)) 1 jb) (va_up (va_up (va_up (va_up (va_up r 2 kd) 3 wd) 4 hg) 6 tl) 7 hd))) := by
  refine Met.ofW (cc := cX10_job) (maxL := 5) (ret := (some .int)) (by decide) rfl ?_
  intro p e s m args below meth c s₁ B hml hv
  obtain ⟨rfl, hP, hK⟩ := hv
  have hx := B.exec
  have hb := B.bytes
  have hr := B.returns
  have hts := atoms_spec (ws := wsX10_job) B.pre
  have hin : ∀ w ∈ u_ws RX10 TX10 35, w ∈ wsX10_job := by decide +kernel
  have hown : s.vm.findClass RX10 = some m.cls := findClass_of_methodNamed B.named
  have hlocks := B.notSynchronized
  have hS : va_S (AM mo a) s.heap s.heap [] := va_S.rf
  have hl := lv_entry ([.ref mo, .int k0, .int w, .int h]) (n := 5) (Nat.le_of_ble_eq_true rfl)
  rw [lg_entry_eq]
  generalize (lg_sl ([.ref mo, .int k0, .int w, .int h]) ++ List.replicate (5 - (lg_sl ([.ref mo, .int k0, .int w, .int h])).length) Slot.unset).toArray = ls at hl ⊢
  have hl : lv_has ls 5 [(0, .ref mo), (1, .int k0), (2, .int w), (3, .int h)] := hl
  have k_m2 : (-2 : Int32).toInt = -2 := by decide
  have k_m1 : (-1 : Int32).toInt = -1 := by decide
  have k_0 : (0 : Int32).toInt = 0 := by decide
  have k_1 : (1 : Int32).toInt = 1 := by decide
  have k_2 : (2 : Int32).toInt = 2 := by decide
  have k_4 : (4 : Int32).toInt = 4 := by decide
  have k_8 : (8 : Int32).toInt = 8 := by decide
  have k_36 : (36 : Int32).toInt = 36 := by decide
  have k_0L : (0 : Int64).toInt = 0 := by decide
  have k_3L : (3 : Int64).toInt = 3 := by decide
  have hI1 := hI.1
  refine lv_aload_n hx hb dX10_job_0 rfl (lv_at hl 0 rfl) ?_
  refine lv_iconst (v := 0) hx hb dX10_job_1 (by decide) ?_
  refine m_put (v := .int (0 : Int32)) (ty := .int) hx hb hts hin hown hK hP hD hS 0 (by decide) rfl (hts (.fieldLink RX10 79 "ShadowBenchModel" "thrown" "I") (by decide +kernel)) rfl (by decide +kernel) rfl rfl (upd f 0 (0 : Int32)) g rfl dX10_job_2 (fun H locs hP hS => ?_)
  refine lv_iload_n hx hb dX10_job_5 rfl (lv_at hl 1 rfl) ?_
  refine lv_i2l (v := k0.toInt64) hx hb dX10_job_6 rfl ?_
  refine lv_lconst (v := 0) hx hb dX10_job_7 (by decide) ?_
  refine lv_ldc2 hx hb hown (hts (.constantLong RX10 116 (3)) (by decide +kernel)) dX10_job_8 ?_
  refine m_pu (As := [.long (k0.toInt64), .long (0 : Int64), .long (3 : Int64)]) (rest := []) ⟨hx, hb, hml, hown, hts⟩ (c_X10_isIn l k0.toInt64 (0 : Int64) (3 : Int64) ) (va_cwS 3 hts gX10_job_X10_isIn rfl rfl rfl (by decide +kernel) ⟨Nat.le_of_ble_eq_true rfl, Nat.le_of_ble_eq_true rfl⟩) hP rfl hl.1 rfl (Nat.le_of_ble_eq_true rfl) dX10_job_11 ⟨Nat.le_of_ble_eq_true rfl, Nat.le_of_ble_eq_true rfl⟩ hS (fun r11 H locs q11 hP hS => ?_)
  have q11 := q11
  simp only [k64, show (0 : Int64).toInt = 0 from rfl, show (1 : Int64).toInt = 1 from rfl, show (2 : Int64).toInt = 2 from rfl, show (3 : Int64).toInt = 3 from rfl, show (6 : Int64).toInt = 6 from rfl] at q11
  refine lv_if_eq (tgt := 25) hx hb dX10_job_14 (by decide) (fun c14 => ?_) (fun c14 => ?_)
  · skip
    have b14 := bo_f q11 c14
    refine lv_iconst (v := (-1)) hx hb dX10_job_25 (by decide) ?_
    have hP := wm_eq (ec_f_0__0_1 f (0 : Int32)) rfl (ec_r___2_3_4_6_7 r ) rfl hP
    exact W.iret (v := ((-1) : Int32)) hx hb hr (fun t ht hW => ⟨⟨_, ((upd (upd f 0 (0 : Int32)) 1 (f 1)), g, (va_up (va_up (va_up (va_up (va_up r 2 (r 2)) 3 (r 3)) 4 (r 4)) 6 (r 6)) 7 (r 7)), q), rfl, ⟨(r 2), (r 3), (r 4), (r 6), (r 7), (f 1), rfl, by first | exact hI | exact mi_job hI (k := k0) (w := w) (hh := h) (jb := (f 1)) (by omega) (by omega) (by omega) (by omega) (by omega) rfl rfl rfl rfl rfl rfl rfl rfl⟩, by unfold mB; rw [ht]; exact hP⟩, hS.F ht⟩) hS.2.2 dX10_job_26
  · skip
    have b14 := bo_t q11 c14
    refine lv_iload_n hx hb dX10_job_17 rfl (lv_at hl 2 rfl) ?_
    refine lv_iload_n hx hb dX10_job_18 rfl (lv_at hl 3 rfl) ?_
    refine m_pu (As := [.int w, .int h]) (rest := []) ⟨hx, hb, hml, hown, hts⟩ (c_X10_isBoard l w h ) (va_cwS 2 hts gX10_job_X10_isBoard rfl rfl rfl (by decide +kernel) ⟨Nat.le_of_ble_eq_true rfl, Nat.le_of_ble_eq_true rfl⟩) hP rfl hl.1 rfl (Nat.le_of_ble_eq_true rfl) dX10_job_19 ⟨Nat.le_of_ble_eq_true rfl, Nat.le_of_ble_eq_true rfl⟩ hS (fun r19 H locs q19 hP hS => ?_)
    refine lv_if_ne (tgt := 27) hx hb dX10_job_22 (by decide) (fun c22 => ?_) (fun c22 => ?_)
    · skip
      have b22 := bo_t q19 c22
      refine lv_aload_n hx hb dX10_job_27 rfl (lv_at hl 0 rfl) ?_
      refine m_get (v := .int (f 1)) hx hb hts hin hown hK hP 1 (by decide) rfl (hts (.fieldLink RX10 93 "ShadowBenchModel" "jobs" "I") (by decide +kernel)) rfl dX10_job_28 ?_
      refine lv_bipush (v := 8) hx hb dX10_job_31 (by decide) ?_
      refine lv_icmp_ne (tgt := 39) hx hb dX10_job_33 (by decide) (fun c33 => ?_) (fun c33 => ?_)
      · skip
        have d33 := c33
        rw [fa_eq] at d33
        refine lv_aload_n hx hb dX10_job_39 rfl (lv_at hl 0 rfl) ?_
        refine m_get (v := .ref (a 2)) hx hb hts hin hown hK hP 2 (by decide) rfl (hts (.fieldLink RX10 7 "ShadowBenchModel" "kind" "[I") (by decide +kernel)) rfl dX10_job_40 ?_
        refine lv_aload_n hx hb dX10_job_43 rfl (lv_at hl 0 rfl) ?_
        refine m_get (v := .int (f 1)) hx hb hts hin hown hK hP 1 (by decide) rfl (hts (.fieldLink RX10 93 "ShadowBenchModel" "jobs" "I") (by decide +kernel)) rfl dX10_job_44 ?_
        refine lv_iload_n hx hb dX10_job_47 rfl (lv_at hl 1 rfl) ?_
        refine m_iast (w := (r 2)) hx hb hK hP hD hS 1 rfl (vp_in_iff.mpr ⟨by omega, by omega⟩) (va_up r 2 (upd (r 2) (f 1).toNatClampNeg k0)) (ms_2 cy mo a _ _ _ _ _) dX10_job_48 (fun H locs hP hS => ?_)
        refine lv_aload_n hx hb dX10_job_49 rfl (lv_at hl 0 rfl) ?_
        refine m_get (v := .ref (a 3)) hx hb hts hin hown hK hP 3 (by decide) rfl (hts (.fieldLink RX10 13 "ShadowBenchModel" "wide" "[I") (by decide +kernel)) rfl dX10_job_50 ?_
        refine lv_aload_n hx hb dX10_job_53 rfl (lv_at hl 0 rfl) ?_
        refine m_get (v := .int (f 1)) hx hb hts hin hown hK hP 1 (by decide) rfl (hts (.fieldLink RX10 93 "ShadowBenchModel" "jobs" "I") (by decide +kernel)) rfl dX10_job_54 ?_
        refine lv_iload_n hx hb dX10_job_57 rfl (lv_at hl 2 rfl) ?_
        refine m_iast (w := (r 3)) hx hb hK hP hD hS 2 rfl (vp_in_iff.mpr ⟨by omega, by omega⟩) (va_up (va_up r 2 ((upd (r 2) (f 1).toNatClampNeg k0))) 3 (upd (r 3) (f 1).toNatClampNeg w)) (ms_3 cy mo a _ _ _ _ _) dX10_job_58 (fun H locs hP hS => ?_)
        refine lv_aload_n hx hb dX10_job_59 rfl (lv_at hl 0 rfl) ?_
        refine m_get (v := .ref (a 4)) hx hb hts hin hown hK hP 4 (by decide) rfl (hts (.fieldLink RX10 16 "ShadowBenchModel" "high" "[I") (by decide +kernel)) rfl dX10_job_60 ?_
        refine lv_aload_n hx hb dX10_job_63 rfl (lv_at hl 0 rfl) ?_
        refine m_get (v := .int (f 1)) hx hb hts hin hown hK hP 1 (by decide) rfl (hts (.fieldLink RX10 93 "ShadowBenchModel" "jobs" "I") (by decide +kernel)) rfl dX10_job_64 ?_
        refine lv_iload_n hx hb dX10_job_67 rfl (lv_at hl 3 rfl) ?_
        refine m_iast (w := (r 4)) hx hb hK hP hD hS 3 rfl (vp_in_iff.mpr ⟨by omega, by omega⟩) (va_up (va_up (va_up r 2 ((upd (r 2) (f 1).toNatClampNeg k0))) 3 ((upd (r 3) (f 1).toNatClampNeg w))) 4 (upd (r 4) (f 1).toNatClampNeg h)) (ms_4 cy mo a _ _ _ _ _) dX10_job_68 (fun H locs hP hS => ?_)
        refine lv_aload_n hx hb dX10_job_69 rfl (lv_at hl 0 rfl) ?_
        refine m_get (v := .ref (a 6)) hx hb hts hin hown hK hP 6 (by decide) rfl (hts (.fieldLink RX10 22 "ShadowBenchModel" "isTold" "[Z") (by decide +kernel)) rfl dX10_job_70 ?_
        refine lv_iconst (v := 4) hx hb dX10_job_73 (by decide) ?_
        refine lv_aload_n hx hb dX10_job_74 rfl (lv_at hl 0 rfl) ?_
        refine m_get (v := .int (f 1)) hx hb hts hin hown hK hP 1 (by decide) rfl (hts (.fieldLink RX10 93 "ShadowBenchModel" "jobs" "I") (by decide +kernel)) rfl dX10_job_75 ?_
        refine lv_imul hx hb dX10_job_78 ?_
        refine lv_topi (fun v78 e78 => ?_)
        have i78 : v78.toInt = 4 * (f 1).toInt := by rw [e78]; exact mulcL rfl (by omega) (by omega)
        refine lv_iconst (v := 1) hx hb dX10_job_79 (by decide) ?_
        refine m_zast (w := (r 6)) hx hb hK hP hD hS 5 rfl (vp_in_iff.mpr ⟨by omega, by omega⟩) (va_up (va_up (va_up (va_up r 2 ((upd (r 2) (f 1).toNatClampNeg k0))) 3 ((upd (r 3) (f 1).toNatClampNeg w))) 4 ((upd (r 4) (f 1).toNatClampNeg h))) 6 (upd (r 6) v78.toNatClampNeg ((1 : Int32) &&& 1))) (ms_6 cy mo a _ _ _ _ _) dX10_job_80 (fun H locs hP hS => ?_)
        refine lv_aload_n hx hb dX10_job_81 rfl (lv_at hl 0 rfl) ?_
        refine m_get (v := .ref (a 6)) hx hb hts hin hown hK hP 6 (by decide) rfl (hts (.fieldLink RX10 22 "ShadowBenchModel" "isTold" "[Z") (by decide +kernel)) rfl dX10_job_82 ?_
        refine lv_iconst (v := 4) hx hb dX10_job_85 (by decide) ?_
        refine lv_aload_n hx hb dX10_job_86 rfl (lv_at hl 0 rfl) ?_
        refine m_get (v := .int (f 1)) hx hb hts hin hown hK hP 1 (by decide) rfl (hts (.fieldLink RX10 93 "ShadowBenchModel" "jobs" "I") (by decide +kernel)) rfl dX10_job_87 ?_
        refine lv_imul hx hb dX10_job_90 ?_
        refine lv_topi (fun v90 e90 => ?_)
        have i90 : v90.toInt = 4 * (f 1).toInt := by rw [e90]; exact mulcL rfl (by omega) (by omega)
        refine lv_iconst (v := 1) hx hb dX10_job_91 (by decide) ?_
        refine lv_iadd hx hb dX10_job_92 ?_
        refine lv_topi (fun v92 e92 => ?_)
        have i92 : v92.toInt = v90.toInt + (1 : Int32).toInt := by rw [e92]; exact fb_addI (by omega) (by omega)
        refine lv_iconst (v := 1) hx hb dX10_job_93 (by decide) ?_
        refine m_zast (w := ((upd (r 6) v78.toNatClampNeg ((1 : Int32) &&& 1)))) hx hb hK hP hD hS 5 rfl (vp_in_iff.mpr ⟨by omega, by omega⟩) (va_up (va_up (va_up (va_up (va_up r 2 ((upd (r 2) (f 1).toNatClampNeg k0))) 3 ((upd (r 3) (f 1).toNatClampNeg w))) 4 ((upd (r 4) (f 1).toNatClampNeg h))) 6 ((upd (r 6) v78.toNatClampNeg ((1 : Int32) &&& 1)))) 6 (upd ((upd (r 6) v78.toNatClampNeg ((1 : Int32) &&& 1))) v92.toNatClampNeg ((1 : Int32) &&& 1))) (ms_6 cy mo a _ _ _ _ _) dX10_job_94 (fun H locs hP hS => ?_)
        have hP := wm_eq rfl rfl (es_r_2_3_4_6__6 r ((upd (r 2) (f 1).toNatClampNeg k0)) ((upd (r 3) (f 1).toNatClampNeg w)) ((upd (r 4) (f 1).toNatClampNeg h)) ((upd (r 6) v78.toNatClampNeg ((1 : Int32) &&& 1))) (upd ((upd (r 6) v78.toNatClampNeg ((1 : Int32) &&& 1))) v92.toNatClampNeg ((1 : Int32) &&& 1))) rfl hP
        refine lv_bipush (v := 36) hx hb dX10_job_95 (by decide) ?_
        refine lv_aload_n hx hb dX10_job_97 rfl (lv_at hl 0 rfl) ?_
        refine m_get (v := .int (f 1)) hx hb hts hin hown hK hP 1 (by decide) rfl (hts (.fieldLink RX10 93 "ShadowBenchModel" "jobs" "I") (by decide +kernel)) rfl dX10_job_98 ?_
        refine lv_imul hx hb dX10_job_101 ?_
        refine lv_topi (fun v101 e101 => ?_)
        have i101 : v101.toInt = 36 * (f 1).toInt := by rw [e101]; exact mulcL rfl (by omega) (by omega)
        refine lv_istore (lv' := [(4, .int v101), (0, .ref mo), (1, .int k0), (2, .int w), (3, .int h)]) hx hb dX10_job_102 hl (by decide) rfl (fun ls hl => ?_)
        have loop_104 : ∀ (n : Nat) (x4 : Int32) (hd : Nat → Int32), (36 * (f 1).toInt ≤ x4.toInt ∧ x4.toInt ≤ 36 * (f 1).toInt + 36) → (36 * (f 1).toInt + 36 - x4.toInt).toNat < n → ∀ (H : Heap) (locs : List Loc), va_P D vwCl (WM cy mo a (upd f 0 (0 : Int32)) g (va_up (va_up (va_up (va_up (va_up r 2 ((upd (r 2) (f 1).toNatClampNeg k0))) 3 ((upd (r 3) (f 1).toNatClampNeg w))) 4 ((upd (r 4) (f 1).toNatClampNeg h))) 6 ((upd ((upd (r 6) v78.toNatClampNeg ((1 : Int32) &&& 1))) v92.toNatClampNeg ((1 : Int32) &&& 1)))) 7 hd) q) H → va_S (AM mo a) s.heap H locs → ∀ (ls : Array Slot), lv_has ls 5 [(4, .int x4), (0, .ref mo), (1, .int k0), (2, .int w), (3, .int h)] → W p l e (headSpec wsX10_job ({ frames := 2, cells := 0, slots := 0, locals := 46 })).room s m #[Value.ref mo, Value.int k0, Value.int w, Value.int h] below meth c H locs 0 0 (MQ below (va_Qi (fun r0 u => ∃ (kd : Nat → Int32), ∃ (wd : Nat → Int32), ∃ (hg : Nat → Int32), ∃ (tl : Nat → Int32), ∃ (hd : Nat → Int32), ∃ (jb : Int32), u = ((upd (upd f 0 (0 : Int32)) 1 jb), g, (va_up (va_up (va_up (va_up (va_up r 2 kd) 3 wd) 4 hg) 6 tl) 7 hd), q) ∧ (MI (upd (upd f 0 (0 : Int32)) 1 jb) (va_up (va_up (va_up (va_up (va_up r 2 kd) 3 wd) 4 hg) 6 tl) 7 hd))) (mB D cy mo a) (AM mo a)) #[Value.ref mo, Value.int k0, Value.int w, Value.int h] s 0 0 (AM mo a)) (F0 m 104 ls []) := by
          intro n
          induction n with
          | zero => intro x4 hd j104_0 hn; exact absurd hn (Nat.not_lt_zero _)
          | succ n ih_104 =>
            intro x4 hd j104_0 hn_104 H locs hP hS ls hl
            refine lv_iload hx hb dX10_job_104 (lv_at hl 0 rfl) ?_
            refine lv_bipush (v := 36) hx hb dX10_job_106 (by decide) ?_
            refine lv_aload_n hx hb dX10_job_108 rfl (lv_at hl 1 rfl) ?_
            refine m_get (v := .int (f 1)) hx hb hts hin hown hK hP 1 (by decide) rfl (hts (.fieldLink RX10 93 "ShadowBenchModel" "jobs" "I") (by decide +kernel)) rfl dX10_job_109 ?_
            refine lv_imul hx hb dX10_job_112 ?_
            refine lv_topi (fun v112 e112 => ?_)
            have i112 : v112.toInt = 36 * (f 1).toInt := by rw [e112]; exact mulcL rfl (by omega) (by omega)
            refine lv_bipush (v := 36) hx hb dX10_job_113 (by decide) ?_
            refine lv_iadd hx hb dX10_job_115 ?_
            refine lv_topi (fun v115 e115 => ?_)
            have i115 : v115.toInt = v112.toInt + (36 : Int32).toInt := by rw [e115]; exact fb_addI (by omega) (by omega)
            refine lv_icmp_ge (tgt := 133) hx hb dX10_job_116 (by decide) (fun c116 => ?_) (fun c116 => ?_)
            · skip
              have d116 := c116
              rw [fa_le] at d116
              refine lv_aload_n hx hb dX10_job_133 rfl (lv_at hl 1 rfl) ?_
              refine lv_dup hx hb dX10_job_134 rfl ?_
              refine m_get (v := .int (f 1)) hx hb hts hin hown hK hP 1 (by decide) rfl (hts (.fieldLink RX10 93 "ShadowBenchModel" "jobs" "I") (by decide +kernel)) rfl dX10_job_135 ?_
              refine lv_iconst (v := 1) hx hb dX10_job_138 (by decide) ?_
              refine lv_iadd hx hb dX10_job_139 ?_
              refine lv_topi (fun v139 e139 => ?_)
              have i139 : v139.toInt = (f 1).toInt + (1 : Int32).toInt := by rw [e139]; exact fb_addI (by omega) (by omega)
              refine m_put (v := .int v139) (ty := .int) hx hb hts hin hown hK hP hD hS 1 (by decide) rfl (hts (.fieldLink RX10 93 "ShadowBenchModel" "jobs" "I") (by decide +kernel)) rfl (by decide +kernel) rfl rfl (upd (upd f 0 (0 : Int32)) 1 v139) g rfl dX10_job_140 (fun H locs hP hS => ?_)
              refine lv_aload_n hx hb dX10_job_143 rfl (lv_at hl 1 rfl) ?_
              refine m_get (v := .int v139) hx hb hts hin hown hK hP 1 (by decide) rfl (hts (.fieldLink RX10 93 "ShadowBenchModel" "jobs" "I") (by decide +kernel)) rfl dX10_job_144 ?_
              refine lv_iconst (v := 1) hx hb dX10_job_147 (by decide) ?_
              refine lv_isub hx hb dX10_job_148 ?_
              refine lv_topi (fun v148 e148 => ?_)
              have i148 : v148.toInt = v139.toInt - (1 : Int32).toInt := by rw [e148]; exact fb_subI (by omega) (by omega)
              have hP := wm_eq rfl rfl (ec_r_2_3_4_6_7__2_3_4_6_7 r ((upd (r 2) (f 1).toNatClampNeg k0)) ((upd (r 3) (f 1).toNatClampNeg w)) ((upd (r 4) (f 1).toNatClampNeg h)) ((upd ((upd (r 6) v78.toNatClampNeg ((1 : Int32) &&& 1))) v92.toNatClampNeg ((1 : Int32) &&& 1))) hd) rfl hP
              exact W.iret (v := v148) hx hb hr (fun t ht hW => ⟨⟨_, ((upd (upd f 0 (0 : Int32)) 1 v139), g, (va_up (va_up (va_up (va_up (va_up r 2 (((upd (r 2) (f 1).toNatClampNeg k0)))) 3 (((upd (r 3) (f 1).toNatClampNeg w)))) 4 (((upd (r 4) (f 1).toNatClampNeg h)))) 6 (((upd ((upd (r 6) v78.toNatClampNeg ((1 : Int32) &&& 1))) v92.toNatClampNeg ((1 : Int32) &&& 1))))) 7 hd), q), rfl, ⟨((upd (r 2) (f 1).toNatClampNeg k0)), ((upd (r 3) (f 1).toNatClampNeg w)), ((upd (r 4) (f 1).toNatClampNeg h)), ((upd ((upd (r 6) v78.toNatClampNeg ((1 : Int32) &&& 1))) v92.toNatClampNeg ((1 : Int32) &&& 1))), hd, v139, rfl, by first | exact hI | exact mi_job hI (k := k0) (w := w) (hh := h) (jb := v139) (by omega) (by omega) (by omega) (by omega) (by omega) rfl rfl rfl rfl rfl rfl rfl rfl⟩, by unfold mB; rw [ht]; exact hP⟩, hS.F ht⟩) hS.2.2 dX10_job_149
            · skip
              have d116 := c116
              rw [fa_le] at d116
              refine lv_aload_n hx hb dX10_job_119 rfl (lv_at hl 1 rfl) ?_
              refine m_get (v := .ref (a 7)) hx hb hts hin hown hK hP 7 (by decide) rfl (hts (.fieldLink RX10 26 "ShadowBenchModel" "held" "[I") (by decide +kernel)) rfl dX10_job_120 ?_
              refine lv_iload hx hb dX10_job_123 (lv_at hl 0 rfl) ?_
              refine lv_iconst (v := 2) hx hb dX10_job_125 (by decide) ?_
              refine m_iast (w := hd) hx hb hK hP hD hS 6 rfl (vp_in_iff.mpr ⟨by omega, by omega⟩) (va_up (va_up (va_up (va_up (va_up (va_up r 2 ((upd (r 2) (f 1).toNatClampNeg k0))) 3 ((upd (r 3) (f 1).toNatClampNeg w))) 4 ((upd (r 4) (f 1).toNatClampNeg h))) 6 ((upd ((upd (r 6) v78.toNatClampNeg ((1 : Int32) &&& 1))) v92.toNatClampNeg ((1 : Int32) &&& 1)))) 7 hd) 7 (upd hd x4.toNatClampNeg (2 : Int32))) (ms_7 cy mo a _ _ _ _ _) dX10_job_126 (fun H locs hP hS => ?_)
              have hP := wm_eq rfl rfl (es_r_2_3_4_6_7__7 r ((upd (r 2) (f 1).toNatClampNeg k0)) ((upd (r 3) (f 1).toNatClampNeg w)) ((upd (r 4) (f 1).toNatClampNeg h)) ((upd ((upd (r 6) v78.toNatClampNeg ((1 : Int32) &&& 1))) v92.toNatClampNeg ((1 : Int32) &&& 1))) hd (upd hd x4.toNatClampNeg (2 : Int32))) rfl hP
              obtain ⟨v127, e127⟩ : ∃ y : Int32, y = x4 + 1 := ⟨_, rfl⟩
              have i127 : v127.toInt = x4.toInt + 1 := by rw [e127]; exact fb_addI (by omega) (by omega)
              refine lv_iinc (v := v127) (lv' := [(4, .int v127), (0, .ref mo), (1, .int k0), (2, .int w), (3, .int h)]) hx hb dX10_job_127 hl (k := 0) rfl (by rw [e127]; rfl) (by decide) rfl (fun ls hl => ?_)
              refine lv_goto (tgt := 104) hx hb dX10_job_130 (by decide) ?_
              have hP := wm_eq rfl rfl (ec_r_2_3_4_6_7__2_3_4_6_7 r ((upd (r 2) (f 1).toNatClampNeg k0)) ((upd (r 3) (f 1).toNatClampNeg w)) ((upd (r 4) (f 1).toNatClampNeg h)) ((upd ((upd (r 6) v78.toNatClampNeg ((1 : Int32) &&& 1))) v92.toNatClampNeg ((1 : Int32) &&& 1))) ((upd hd x4.toNatClampNeg (2 : Int32)))) rfl hP
              exact ih_104 v127 (((upd hd x4.toNatClampNeg (2 : Int32)))) (by omega) (by omega) _ _ hP hS ls (lv_sub hl [0, 1, 2, 3, 4] rfl)
        have hP := wm_eq rfl rfl (ec_r_2_3_4_6__2_3_4_6_7 r ((upd (r 2) (f 1).toNatClampNeg k0)) ((upd (r 3) (f 1).toNatClampNeg w)) ((upd (r 4) (f 1).toNatClampNeg h)) ((upd ((upd (r 6) v78.toNatClampNeg ((1 : Int32) &&& 1))) v92.toNatClampNeg ((1 : Int32) &&& 1)))) rfl hP
        exact loop_104 (36 + 1) v101 (r 7) (by omega) (by omega) _ _ hP hS ls (lv_sub hl [0, 1, 2, 3, 4] rfl)
      · skip
        have d33 := c33
        rw [fa_eq] at d33
        refine lv_bipush (v := (-2)) hx hb dX10_job_36 (by decide) ?_
        have hP := wm_eq (ec_f_0__0_1 f (0 : Int32)) rfl (ec_r___2_3_4_6_7 r ) rfl hP
        exact W.iret (v := ((-2) : Int32)) hx hb hr (fun t ht hW => ⟨⟨_, ((upd (upd f 0 (0 : Int32)) 1 (f 1)), g, (va_up (va_up (va_up (va_up (va_up r 2 (r 2)) 3 (r 3)) 4 (r 4)) 6 (r 6)) 7 (r 7)), q), rfl, ⟨(r 2), (r 3), (r 4), (r 6), (r 7), (f 1), rfl, by first | exact hI | exact mi_job hI (k := k0) (w := w) (hh := h) (jb := (f 1)) (by omega) (by omega) (by omega) (by omega) (by omega) rfl rfl rfl rfl rfl rfl rfl rfl⟩, by unfold mB; rw [ht]; exact hP⟩, hS.F ht⟩) hS.2.2 dX10_job_38
    · skip
      have b22 := bo_f q19 c22
      refine lv_iconst (v := (-1)) hx hb dX10_job_25 (by decide) ?_
      have hP := wm_eq (ec_f_0__0_1 f (0 : Int32)) rfl (ec_r___2_3_4_6_7 r ) rfl hP
      exact W.iret (v := ((-1) : Int32)) hx hb hr (fun t ht hW => ⟨⟨_, ((upd (upd f 0 (0 : Int32)) 1 (f 1)), g, (va_up (va_up (va_up (va_up (va_up r 2 (r 2)) 3 (r 3)) 4 (r 4)) 6 (r 6)) 7 (r 7)), q), rfl, ⟨(r 2), (r 3), (r 4), (r 6), (r 7), (f 1), rfl, by first | exact hI | exact mi_job hI (k := k0) (w := w) (hh := h) (jb := (f 1)) (by omega) (by omega) (by omega) (by omega) (by omega) rfl rfl rfl rfl rfl rfl rfl rfl⟩, by unfold mB; rw [ht]; exact hP⟩, hS.F ht⟩) hS.2.2 dX10_job_26
set_option maxHeartbeats 4000000 in
set_option maxRecDepth 100000 in
theorem c_X10_clash (l : Launch) (D : va_G) (cy : Nat → ClassId) (mo : Nat) (a : Nat → Nat) (f : Nat → Int32) (g : Nat → Int64) (r : Nat → Nat → Int32) (q : Nat → Nat → Int64) (j : Int32) (hD : DM cy mo a) (hI : MI f r) : Mi l D cy mo a yX10_clash wsX10_clash ({ frames := 1, cells := 0, slots := 0, locals := 21 }) f g r q [.int j] (fun r0 u => ∃ (cl : Nat → Int32), u = ((upd f 0 (0 : Int32)), g, (va_up r 15 cl), q) ∧ (True)) := by
  refine Met.ofW (cc := cX10_clash) (maxL := 11) (ret := (some .int)) (by decide) rfl ?_
  intro p e s m args below meth c s₁ B hml hv
  obtain ⟨rfl, hP, hK⟩ := hv
  have hx := B.exec
  have hb := B.bytes
  have hr := B.returns
  have hts := atoms_spec (ws := wsX10_clash) B.pre
  have hin : ∀ w ∈ u_ws RX10 TX10 35, w ∈ wsX10_clash := by decide +kernel
  have hown : s.vm.findClass RX10 = some m.cls := findClass_of_methodNamed B.named
  have hlocks := B.notSynchronized
  have hS : va_S (AM mo a) s.heap s.heap [] := va_S.rf
  have hl := lv_entry ([.ref mo, .int j]) (n := 11) (Nat.le_of_ble_eq_true rfl)
  rw [lg_entry_eq]
  generalize (lg_sl ([.ref mo, .int j]) ++ List.replicate (11 - (lg_sl ([.ref mo, .int j])).length) Slot.unset).toArray = ls at hl ⊢
  have hl : lv_has ls 11 [(0, .ref mo), (1, .int j)] := hl
  have k_m2 : (-2 : Int32).toInt = -2 := by decide
  have k_m1 : (-1 : Int32).toInt = -1 := by decide
  have k_0 : (0 : Int32).toInt = 0 := by decide
  have k_1 : (1 : Int32).toInt = 1 := by decide
  have k_11 : (11 : Int32).toInt = 11 := by decide
  have k_44 : (44 : Int32).toInt = 44 := by decide
  have hI1 := hI.1
  refine lv_aload_n hx hb dX10_clash_0 rfl (lv_at hl 0 rfl) ?_
  refine lv_iconst (v := 0) hx hb dX10_clash_1 (by decide) ?_
  refine m_put (v := .int (0 : Int32)) (ty := .int) hx hb hts hin hown hK hP hD hS 0 (by decide) rfl (hts (.fieldLink RX10 79 "ShadowBenchModel" "thrown" "I") (by decide +kernel)) rfl (by decide +kernel) rfl rfl (upd f 0 (0 : Int32)) g rfl dX10_clash_2 (fun H locs hP hS => ?_)
  refine lv_aload_n hx hb dX10_clash_5 rfl (lv_at hl 0 rfl) ?_
  refine lv_iload_n hx hb dX10_clash_6 rfl (lv_at hl 1 rfl) ?_
  refine m_calli (As := [.int j]) (rest := []) ⟨hx, hb, hml, hown, hts⟩ (c_X10_isJob l D cy mo a (upd f 0 (0 : Int32)) g r q j hD) (cwV 1 hts gX10_clash_X10_isJob rfl rfl rfl (by decide +kernel) ⟨Nat.le_of_ble_eq_true rfl, Nat.le_of_ble_eq_true rfl⟩) hK hP rfl hl.1 rfl (Nat.le_of_ble_eq_true rfl) dX10_clash_7 ⟨Nat.le_of_ble_eq_true rfl, Nat.le_of_ble_eq_true rfl⟩ hS (fun r7 u H locs q7 hP hS => ?_)
  obtain ⟨rfl, q7⟩ := q7
  have hP : va_P D vwCl (WM cy mo a (upd f 0 (0 : Int32)) g r q) H := hP
  have q7 : Bo r7 (0 ≤ j.toInt ∧ j.toInt < ((f 1)).toInt) := q7
  refine lv_if_ne (tgt := 15) hx hb dX10_clash_10 (by decide) (fun c10 => ?_) (fun c10 => ?_)
  · skip
    have b10 := bo_t q7 c10
    refine lv_aload_n hx hb dX10_clash_15 rfl (lv_at hl 0 rfl) ?_
    refine m_get (v := .ref (a 3)) hx hb hts hin hown hK hP 3 (by decide) rfl (hts (.fieldLink RX10 13 "ShadowBenchModel" "wide" "[I") (by decide +kernel)) rfl dX10_clash_16 ?_
    refine lv_iload_n hx hb dX10_clash_19 rfl (lv_at hl 1 rfl) ?_
    refine m_iald (w := (r 3)) hx hb hK hP 2 rfl (vp_in_iff.mpr ⟨by omega, by omega⟩) dX10_clash_20 ?_
    refine lv_topi (fun v20 e20 => ?_)
    have i20 : v20.toInt = ((r 3) j.toNatClampNeg).toInt := congrArg Int32.toInt e20
    have w20 := mi_w hI (x := j) (by omega) (by omega) e20
    refine lv_istore_n (lv' := [(2, .int v20), (0, .ref mo), (1, .int j)]) hx hb dX10_clash_21 rfl hl (by decide) rfl (fun ls hl => ?_)
    refine lv_iconst (v := 0) hx hb dX10_clash_22 (by decide) ?_
    refine lv_istore_n (lv' := [(3, .int (0 : Int32)), (2, .int v20), (0, .ref mo), (1, .int j)]) hx hb dX10_clash_23 rfl hl (by decide) rfl (fun ls hl => ?_)
    refine lv_iconst (v := 0) hx hb dX10_clash_24 (by decide) ?_
    refine lv_istore (lv' := [(4, .int (0 : Int32)), (3, .int (0 : Int32)), (2, .int v20), (0, .ref mo), (1, .int j)]) hx hb dX10_clash_25 hl (by decide) rfl (fun ls hl => ?_)
    refine lv_iconst (v := 0) hx hb dX10_clash_27 (by decide) ?_
    refine lv_istore (lv' := [(5, .int (0 : Int32)), (4, .int (0 : Int32)), (3, .int (0 : Int32)), (2, .int v20), (0, .ref mo), (1, .int j)]) hx hb dX10_clash_28 hl (by decide) rfl (fun ls hl => ?_)
    have loop_30 : ∀ (n : Nat) (k : Nat) (x3 : Int32), (k ≤ 6) → 6 - k < n → ∀ (H : Heap) (locs : List Loc), va_P D vwCl (WM cy mo a (upd f 0 (0 : Int32)) g r q) H → va_S (AM mo a) s.heap H locs → ∀ (ls : Array Slot), lv_has ls 11 [(5, .int (nI k)), (4, .int (0 : Int32)), (3, .int x3), (2, .int v20), (0, .ref mo), (1, .int j)] → W p l e (headSpec wsX10_clash ({ frames := 1, cells := 0, slots := 0, locals := 21 })).room s m #[Value.ref mo, Value.int j] below meth c H locs 0 0 (MQ below (va_Qi (fun r0 u => ∃ (cl : Nat → Int32), u = ((upd f 0 (0 : Int32)), g, (va_up r 15 cl), q) ∧ (True)) (mB D cy mo a) (AM mo a)) #[Value.ref mo, Value.int j] s 0 0 (AM mo a)) (F0 m 30 ls []) := by
      intro n
      induction n with
      | zero => intro k x3  j30_0 hn; exact absurd hn (Nat.not_lt_zero _)
      | succ n ih_30 =>
        intro k x3  j30_0 hn_30 H locs hP hS ls hl
        have ik : (nI k).toInt = (k : Int) := nI_toInt (by omega)
        refine lv_iload hx hb dX10_clash_30 (lv_at hl 0 rfl) ?_
        refine lv_aload_n hx hb dX10_clash_32 rfl (lv_at hl 4 rfl) ?_
        refine m_get (v := .ref (a 4)) hx hb hts hin hown hK hP 4 (by decide) rfl (hts (.fieldLink RX10 16 "ShadowBenchModel" "high" "[I") (by decide +kernel)) rfl dX10_clash_33 ?_
        refine lv_iload_n hx hb dX10_clash_36 rfl (lv_at hl 5 rfl) ?_
        refine m_iald (w := (r 4)) hx hb hK hP 3 rfl (vp_in_iff.mpr ⟨by omega, by omega⟩) dX10_clash_37 ?_
        refine lv_topi (fun v37 e37 => ?_)
        have i37 : v37.toInt = ((r 4) j.toNatClampNeg).toInt := congrArg Int32.toInt e37
        have w37 := mi_h hI (x := j) (by omega) (by omega) e37
        refine lv_icmp_ge (tgt := 62) hx hb dX10_clash_38 (by decide) (fun c38 => ?_) (fun c38 => ?_)
        · skip
          have d38 := c38
          rw [fa_le] at d38
          refine lv_iconst (v := 0) hx hb dX10_clash_62 (by decide) ?_
          refine lv_istore (lv' := [(5, .int (0 : Int32)), (4, .int (0 : Int32)), (3, .int x3), (2, .int v20), (0, .ref mo), (1, .int j)]) hx hb dX10_clash_63 hl (by decide) rfl (fun ls hl => ?_)
          have loop_65 : ∀ (n : Nat) (k2 : Nat) (x4 : Int32) (cl2 : Nat → Int32), (k2 ≤ 6) → 6 - k2 < n → ∀ (H : Heap) (locs : List Loc), va_P D vwCl (WM cy mo a (upd f 0 (0 : Int32)) g (va_up r 15 cl2) q) H → va_S (AM mo a) s.heap H locs → ∀ (ls : Array Slot), lv_has ls 11 [(5, .int (nI k2)), (4, .int x4), (3, .int x3), (2, .int v20), (0, .ref mo), (1, .int j)] → W p l e (headSpec wsX10_clash ({ frames := 1, cells := 0, slots := 0, locals := 21 })).room s m #[Value.ref mo, Value.int j] below meth c H locs 0 0 (MQ below (va_Qi (fun r0 u => ∃ (cl : Nat → Int32), u = ((upd f 0 (0 : Int32)), g, (va_up r 15 cl), q) ∧ (True)) (mB D cy mo a) (AM mo a)) #[Value.ref mo, Value.int j] s 0 0 (AM mo a)) (F0 m 65 ls []) := by
            intro n
            induction n with
            | zero => intro k2 x4 cl2 j65_0 hn; exact absurd hn (Nat.not_lt_zero _)
            | succ n ih_65 =>
              intro k2 x4 cl2 j65_0 hn_65 H locs hP hS ls hl
              have ik2 : (nI k2).toInt = (k2 : Int) := nI_toInt (by omega)
              refine lv_iload hx hb dX10_clash_65 (lv_at hl 0 rfl) ?_
              refine lv_iload_n hx hb dX10_clash_67 rfl (lv_at hl 3 rfl) ?_
              refine lv_icmp_ge (tgt := 111) hx hb dX10_clash_68 (by decide) (fun c68 => ?_) (fun c68 => ?_)
              · skip
                have d68 := c68
                rw [fa_le] at d68
                refine lv_iload_n hx hb dX10_clash_111 rfl (lv_at hl 2 rfl) ?_
                refine lv_iload hx hb dX10_clash_112 (lv_at hl 1 rfl) ?_
                refine lv_icmp_eq (tgt := 119) hx hb dX10_clash_114 (by decide) (fun c114 => ?_) (fun c114 => ?_)
                · skip
                  have d114 := c114
                  rw [fa_eq] at d114
                  refine lv_iconst (v := 0) hx hb dX10_clash_119 (by decide) ?_
                  refine lv_istore (lv' := [(5, .int (0 : Int32)), (4, .int x4), (3, .int x3), (2, .int v20), (0, .ref mo), (1, .int j)]) hx hb dX10_clash_120 hl (by decide) rfl (fun ls hl => ?_)
                  refine lv_iconst (v := 1) hx hb dX10_clash_122 (by decide) ?_
                  refine lv_istore (lv' := [(6, .int (1 : Int32)), (5, .int (0 : Int32)), (4, .int x4), (3, .int x3), (2, .int v20), (0, .ref mo), (1, .int j)]) hx hb dX10_clash_123 hl (by decide) rfl (fun ls hl => ?_)
                  have loop_125 : ∀ (n : Nat) (k3 : Nat) (x5 : Int32) (cl3 : Nat → Int32), (1 ≤ k3 ∧ k3 ≤ 7) → 7 - k3 < n → ∀ (H : Heap) (locs : List Loc), va_P D vwCl (WM cy mo a (upd f 0 (0 : Int32)) g (va_up r 15 cl3) q) H → va_S (AM mo a) s.heap H locs → ∀ (ls : Array Slot), lv_has ls 11 [(6, .int (nI k3)), (5, .int x5), (4, .int x4), (3, .int x3), (2, .int v20), (0, .ref mo), (1, .int j)] → W p l e (headSpec wsX10_clash ({ frames := 1, cells := 0, slots := 0, locals := 21 })).room s m #[Value.ref mo, Value.int j] below meth c H locs 0 0 (MQ below (va_Qi (fun r0 u => ∃ (cl : Nat → Int32), u = ((upd f 0 (0 : Int32)), g, (va_up r 15 cl), q) ∧ (True)) (mB D cy mo a) (AM mo a)) #[Value.ref mo, Value.int j] s 0 0 (AM mo a)) (F0 m 125 ls []) := by
                    intro n
                    induction n with
                    | zero => intro k3 x5 cl3 j125_0 hn; exact absurd hn (Nat.not_lt_zero _)
                    | succ n ih_125 =>
                      intro k3 x5 cl3 j125_0 hn_125 H locs hP hS ls hl
                      have ik3 : (nI k3).toInt = (k3 : Int) := nI_toInt (by omega)
                      refine lv_iload hx hb dX10_clash_125 (lv_at hl 0 rfl) ?_
                      refine lv_iload_n hx hb dX10_clash_127 rfl (lv_at hl 4 rfl) ?_
                      refine lv_icmp_gt (tgt := 267) hx hb dX10_clash_128 (by decide) (fun c128 => ?_) (fun c128 => ?_)
                      · skip
                        have d128 := c128
                        rw [fa_lt] at d128
                        refine lv_bipush (v := (-2)) hx hb dX10_clash_267 (by decide) ?_
                        exact W.iret (v := ((-2) : Int32)) hx hb hr (fun t ht hW => ⟨⟨_, ((upd f 0 (0 : Int32)), g, (va_up r 15 cl3), q), rfl, ⟨cl3, rfl, trivial⟩, by unfold mB; rw [ht]; exact hP⟩, hS.F ht⟩) hS.2.2 dX10_clash_269
                      · skip
                        have d128 := c128
                        rw [fa_lt] at d128
                        refine lv_iconst (v := 0) hx hb dX10_clash_131 (by decide) ?_
                        refine lv_istore (lv' := [(7, .int (0 : Int32)), (6, .int (nI k3)), (5, .int x5), (4, .int x4), (3, .int x3), (2, .int v20), (0, .ref mo), (1, .int j)]) hx hb dX10_clash_132 hl (by decide) rfl (fun ls hl => ?_)
                        refine lv_iconst (v := 0) hx hb dX10_clash_134 (by decide) ?_
                        refine lv_istore (lv' := [(8, .int (0 : Int32)), (7, .int (0 : Int32)), (6, .int (nI k3)), (5, .int x5), (4, .int x4), (3, .int x3), (2, .int v20), (0, .ref mo), (1, .int j)]) hx hb dX10_clash_135 hl (by decide) rfl (fun ls hl => ?_)
                        have loop_137 : ∀ (n : Nat) (i : Nat) (x7 : Int32), (i ≤ 6) → (0 ≤ x7.toInt ∧ x7.toInt < 6) → 6 - i < n → ∀ (H : Heap) (locs : List Loc), va_P D vwCl (WM cy mo a (upd f 0 (0 : Int32)) g (va_up r 15 cl3) q) H → va_S (AM mo a) s.heap H locs → ∀ (ls : Array Slot), lv_has ls 11 [(8, .int (nI i)), (7, .int x7), (6, .int (nI k3)), (5, .int x5), (4, .int x4), (3, .int x3), (2, .int v20), (0, .ref mo), (1, .int j)] → W p l e (headSpec wsX10_clash ({ frames := 1, cells := 0, slots := 0, locals := 21 })).room s m #[Value.ref mo, Value.int j] below meth c H locs 0 0 (MQ below (va_Qi (fun r0 u => ∃ (cl : Nat → Int32), u = ((upd f 0 (0 : Int32)), g, (va_up r 15 cl), q) ∧ (True)) (mB D cy mo a) (AM mo a)) #[Value.ref mo, Value.int j] s 0 0 (AM mo a)) (F0 m 137 ls []) := by
                          intro n
                          induction n with
                          | zero => intro i x7  j137_0 j137_1 hn; exact absurd hn (Nat.not_lt_zero _)
                          | succ n ih_137 =>
                            intro i x7  j137_0 j137_1 hn_137 H locs hP hS ls hl
                            have ii : (nI i).toInt = (i : Int) := nI_toInt (by omega)
                            refine lv_iload hx hb dX10_clash_137 (lv_at hl 0 rfl) ?_
                            refine lv_iload_n hx hb dX10_clash_139 rfl (lv_at hl 6 rfl) ?_
                            refine lv_icmp_ge (tgt := 175) hx hb dX10_clash_140 (by decide) (fun c140 => ?_) (fun c140 => ?_)
                            · skip
                              have d140 := c140
                              rw [fa_le] at d140
                              refine lv_iload hx hb dX10_clash_175 (lv_at hl 3 rfl) ?_
                              refine lv_aload_n hx hb dX10_clash_177 rfl (lv_at hl 7 rfl) ?_
                              refine m_get (v := .ref (a 15)) hx hb hts hin hown hK hP 15 (by decide) rfl (hts (.fieldLink RX10 38 "ShadowBenchModel" "columns" "[I") (by decide +kernel)) rfl dX10_clash_178 ?_
                              refine lv_iload hx hb dX10_clash_181 (lv_at hl 1 rfl) ?_
                              refine m_iald (w := cl3) hx hb hK hP 10 rfl (vp_in_iff.mpr ⟨by omega, by omega⟩) dX10_clash_183 ?_
                              refine lv_topi (fun v183 e183 => ?_)
                              have i183 : v183.toInt = (cl3 x7.toNatClampNeg).toInt := congrArg Int32.toInt e183
                              refine lv_iadd hx hb dX10_clash_184 ?_
                              refine lv_topi (fun v184 e184 => ?_)
                              refine lv_istore (lv' := [(5, .int v184), (8, .int (nI i)), (7, .int x7), (6, .int (nI k3)), (4, .int x4), (3, .int x3), (2, .int v20), (0, .ref mo), (1, .int j)]) hx hb dX10_clash_185 hl (by decide) rfl (fun ls hl => ?_)
                              refine lv_aload_n hx hb dX10_clash_187 rfl (lv_at hl 7 rfl) ?_
                              refine m_get (v := .ref (a 15)) hx hb hts hin hown hK hP 15 (by decide) rfl (hts (.fieldLink RX10 38 "ShadowBenchModel" "columns" "[I") (by decide +kernel)) rfl dX10_clash_188 ?_
                              refine lv_iload hx hb dX10_clash_191 (lv_at hl 2 rfl) ?_
                              refine lv_iconst (v := (-1)) hx hb dX10_clash_193 (by decide) ?_
                              refine m_iast (w := cl3) hx hb hK hP hD hS 10 rfl (vp_in_iff.mpr ⟨by omega, by omega⟩) (va_up (va_up r 15 cl3) 15 (upd cl3 x7.toNatClampNeg (((-1) : Int32)))) (ms_15 cy mo a _ _ _ _ _) dX10_clash_194 (fun H locs hP hS => ?_)
                              have hP := wm_eq rfl rfl (es_r_15__15 r cl3 (upd cl3 x7.toNatClampNeg (((-1) : Int32)))) rfl hP
                              refine lv_iconst (v := 0) hx hb dX10_clash_195 (by decide) ?_
                              refine lv_istore (lv' := [(8, .int (0 : Int32)), (5, .int v184), (7, .int x7), (6, .int (nI k3)), (4, .int x4), (3, .int x3), (2, .int v20), (0, .ref mo), (1, .int j)]) hx hb dX10_clash_196 hl (by decide) rfl (fun ls hl => ?_)
                              refine lv_iconst (v := 0) hx hb dX10_clash_198 (by decide) ?_
                              refine lv_istore (lv' := [(9, .int (0 : Int32)), (8, .int (0 : Int32)), (5, .int v184), (7, .int x7), (6, .int (nI k3)), (4, .int x4), (3, .int x3), (2, .int v20), (0, .ref mo), (1, .int j)]) hx hb dX10_clash_199 hl (by decide) rfl (fun ls hl => ?_)
                              have loop_201 : ∀ (n : Nat) (y : Nat) (x8 : Int32), (y ≤ 6) → 6 - y < n → ∀ (H : Heap) (locs : List Loc), va_P D vwCl (WM cy mo a (upd f 0 (0 : Int32)) g (va_up r 15 ((upd cl3 x7.toNatClampNeg (((-1) : Int32))))) q) H → va_S (AM mo a) s.heap H locs → ∀ (ls : Array Slot), lv_has ls 11 [(9, .int (nI y)), (8, .int x8), (5, .int v184), (7, .int x7), (6, .int (nI k3)), (4, .int x4), (3, .int x3), (2, .int v20), (0, .ref mo), (1, .int j)] → W p l e (headSpec wsX10_clash ({ frames := 1, cells := 0, slots := 0, locals := 21 })).room s m #[Value.ref mo, Value.int j] below meth c H locs 0 0 (MQ below (va_Qi (fun r0 u => ∃ (cl : Nat → Int32), u = ((upd f 0 (0 : Int32)), g, (va_up r 15 cl), q) ∧ (True)) (mB D cy mo a) (AM mo a)) #[Value.ref mo, Value.int j] s 0 0 (AM mo a)) (F0 m 201 ls []) := by
                                intro n
                                induction n with
                                | zero => intro y x8  j201_0 hn; exact absurd hn (Nat.not_lt_zero _)
                                | succ n ih_201 =>
                                  intro y x8  j201_0 hn_201 H locs hP hS ls hl
                                  have iy : (nI y).toInt = (y : Int) := nI_toInt (by omega)
                                  refine lv_iload hx hb dX10_clash_201 (lv_at hl 0 rfl) ?_
                                  refine lv_aload_n hx hb dX10_clash_203 rfl (lv_at hl 8 rfl) ?_
                                  refine m_get (v := .ref (a 4)) hx hb hts hin hown hK hP 4 (by decide) rfl (hts (.fieldLink RX10 16 "ShadowBenchModel" "high" "[I") (by decide +kernel)) rfl dX10_clash_204 ?_
                                  refine lv_iload_n hx hb dX10_clash_207 rfl (lv_at hl 9 rfl) ?_
                                  refine m_iald (w := (r 4)) hx hb hK hP 3 rfl (vp_in_iff.mpr ⟨by omega, by omega⟩) dX10_clash_208 ?_
                                  refine lv_topi (fun v208 e208 => ?_)
                                  have i208 : v208.toInt = ((r 4) j.toNatClampNeg).toInt := congrArg Int32.toInt e208
                                  have w208 := mi_h hI (x := j) (by omega) (by omega) e208
                                  refine lv_icmp_ge (tgt := 251) hx hb dX10_clash_209 (by decide) (fun c209 => ?_) (fun c209 => ?_)
                                  · skip
                                    have d209 := c209
                                    rw [fa_le] at d209
                                    refine lv_iload hx hb dX10_clash_251 (lv_at hl 2 rfl) ?_
                                    refine lv_iload hx hb dX10_clash_253 (lv_at hl 1 rfl) ?_
                                    refine lv_icmp_le (tgt := 261) hx hb dX10_clash_255 (by decide) (fun c255 => ?_) (fun c255 => ?_)
                                    · skip
                                      have d255 := c255
                                      rw [fa_le] at d255
                                      refine lv_iinc (v := (nI (k3 + 1))) (lv' := [(6, .int (nI (k3 + 1))), (9, .int (nI y)), (8, .int x8), (5, .int v184), (7, .int x7), (4, .int x4), (3, .int x3), (2, .int v20), (0, .ref mo), (1, .int j)]) hx hb dX10_clash_261 hl (k := 4) rfl (nI_1 _) (by decide) rfl (fun ls hl => ?_)
                                      refine lv_goto (tgt := 125) hx hb dX10_clash_264 (by decide) ?_
                                      have hP := wm_eq rfl rfl (ec_r_15__15 r ((upd cl3 x7.toNatClampNeg (((-1) : Int32))))) rfl hP
                                      exact ih_125 (k3 + 1) v184 (((upd cl3 x7.toNatClampNeg (((-1) : Int32))))) (by omega) (by omega) _ _ hP hS ls (lv_sub hl [0, 3, 5, 6, 7, 8, 9] rfl)
                                    · skip
                                      have d255 := c255
                                      rw [fa_le] at d255
                                      refine lv_iload hx hb dX10_clash_258 (lv_at hl 4 rfl) ?_
                                      have hP := wm_eq rfl rfl (ec_r_15__15 r ((upd cl3 x7.toNatClampNeg (((-1) : Int32))))) rfl hP
                                      exact W.iret (v := (nI k3)) hx hb hr (fun t ht hW => ⟨⟨_, ((upd f 0 (0 : Int32)), g, (va_up r 15 (((upd cl3 x7.toNatClampNeg (((-1) : Int32)))))), q), rfl, ⟨((upd cl3 x7.toNatClampNeg (((-1) : Int32)))), rfl, trivial⟩, by unfold mB; rw [ht]; exact hP⟩, hS.F ht⟩) hS.2.2 dX10_clash_260
                                  · skip
                                    have d209 := c209
                                    rw [fa_le] at d209
                                    refine lv_aload_n hx hb dX10_clash_212 rfl (lv_at hl 8 rfl) ?_
                                    refine m_get (v := .ref (a 5)) hx hb hts hin hown hK hP 5 (by decide) rfl (hts (.fieldLink RX10 19 "ShadowBenchModel" "sums" "[I") (by decide +kernel)) rfl dX10_clash_213 ?_
                                    refine lv_bipush (v := 44) hx hb dX10_clash_216 (by decide) ?_
                                    refine lv_iload_n hx hb dX10_clash_218 rfl (lv_at hl 9 rfl) ?_
                                    refine lv_imul hx hb dX10_clash_219 ?_
                                    refine lv_topi (fun v219 e219 => ?_)
                                    have i219 : v219.toInt = 44 * j.toInt := by rw [e219]; exact mulcL rfl (by omega) (by omega)
                                    refine lv_iload hx hb dX10_clash_220 (lv_at hl 0 rfl) ?_
                                    refine lv_iadd hx hb dX10_clash_222 ?_
                                    refine lv_topi (fun v222 e222 => ?_)
                                    have i222 : v222.toInt = v219.toInt + (nI y).toInt := by rw [e222]; exact fb_addI (by omega) (by omega)
                                    refine m_iald (w := (r 5)) hx hb hK hP 4 rfl (vp_in_iff.mpr ⟨by omega, by omega⟩) dX10_clash_223 ?_
                                    refine lv_topi (fun v223 e223 => ?_)
                                    have i223 : v223.toInt = ((r 5) v222.toNatClampNeg).toInt := congrArg Int32.toInt e223
                                    refine lv_istore (lv' := [(10, .int v223), (9, .int (nI y)), (8, .int x8), (5, .int v184), (7, .int x7), (6, .int (nI k3)), (4, .int x4), (3, .int x3), (2, .int v20), (0, .ref mo), (1, .int j)]) hx hb dX10_clash_224 hl (by decide) rfl (fun ls hl => ?_)
                                    refine lv_iload hx hb dX10_clash_226 (lv_at hl 2 rfl) ?_
                                    refine lv_iload hx hb dX10_clash_228 (lv_at hl 0 rfl) ?_
                                    refine lv_iload hx hb dX10_clash_230 (lv_at hl 5 rfl) ?_
                                    refine lv_icmp_ge (tgt := 240) hx hb dX10_clash_232 (by decide) (fun c232 => ?_) (fun c232 => ?_)
                                    · skip
                                      have d232 := c232
                                      rw [fa_le] at d232
                                      refine lv_iload hx hb dX10_clash_240 (lv_at hl 5 rfl) ?_
                                      refine lv_iadd hx hb dX10_clash_242 ?_
                                      refine lv_topi (fun v242 e242 => ?_)
                                      refine lv_istore (lv' := [(8, .int v242), (10, .int v223), (9, .int (nI y)), (5, .int v184), (7, .int x7), (6, .int (nI k3)), (4, .int x4), (3, .int x3), (2, .int v20), (0, .ref mo), (1, .int j)]) hx hb dX10_clash_243 hl (by decide) rfl (fun ls hl => ?_)
                                      refine lv_iinc (v := (nI (y + 1))) (lv' := [(9, .int (nI (y + 1))), (8, .int v242), (10, .int v223), (5, .int v184), (7, .int x7), (6, .int (nI k3)), (4, .int x4), (3, .int x3), (2, .int v20), (0, .ref mo), (1, .int j)]) hx hb dX10_clash_245 hl (k := 2) rfl (nI_1 _) (by decide) rfl (fun ls hl => ?_)
                                      refine lv_goto (tgt := 201) hx hb dX10_clash_248 (by decide) ?_
                                      have hP := wm_eq rfl rfl (ec_r_15__15 r ((upd cl3 x7.toNatClampNeg (((-1) : Int32))))) rfl hP
                                      exact ih_201 (y + 1) v242 (by omega) (by omega) _ _ hP hS ls (lv_sub hl [0, 1, 3, 4, 5, 6, 7, 8, 9, 10] rfl)
                                    · skip
                                      have d232 := c232
                                      rw [fa_le] at d232
                                      refine lv_iload hx hb dX10_clash_235 (lv_at hl 0 rfl) ?_
                                      refine lv_goto (tgt := 242) hx hb dX10_clash_237 (by decide) ?_
                                      refine lv_iadd hx hb dX10_clash_242 ?_
                                      refine lv_topi (fun v242 e242 => ?_)
                                      refine lv_istore (lv' := [(8, .int v242), (10, .int v223), (9, .int (nI y)), (5, .int v184), (7, .int x7), (6, .int (nI k3)), (4, .int x4), (3, .int x3), (2, .int v20), (0, .ref mo), (1, .int j)]) hx hb dX10_clash_243 hl (by decide) rfl (fun ls hl => ?_)
                                      refine lv_iinc (v := (nI (y + 1))) (lv' := [(9, .int (nI (y + 1))), (8, .int v242), (10, .int v223), (5, .int v184), (7, .int x7), (6, .int (nI k3)), (4, .int x4), (3, .int x3), (2, .int v20), (0, .ref mo), (1, .int j)]) hx hb dX10_clash_245 hl (k := 2) rfl (nI_1 _) (by decide) rfl (fun ls hl => ?_)
                                      refine lv_goto (tgt := 201) hx hb dX10_clash_248 (by decide) ?_
                                      have hP := wm_eq rfl rfl (ec_r_15__15 r ((upd cl3 x7.toNatClampNeg (((-1) : Int32))))) rfl hP
                                      exact ih_201 (y + 1) v242 (by omega) (by omega) _ _ hP hS ls (lv_sub hl [0, 1, 3, 4, 5, 6, 7, 8, 9, 10] rfl)
                              have hP := wm_eq rfl rfl (ec_r_15__15 r ((upd cl3 x7.toNatClampNeg (((-1) : Int32))))) rfl hP
                              exact loop_201 (6 + 1) 0 (0 : Int32) (by omega) (by omega) _ _ hP hS ls (lv_sub hl [0, 1, 2, 3, 4, 5, 6, 7, 8, 9] rfl)
                            · skip
                              have d140 := c140
                              rw [fa_le] at d140
                              refine lv_aload_n hx hb dX10_clash_143 rfl (lv_at hl 7 rfl) ?_
                              refine m_get (v := .ref (a 15)) hx hb hts hin hown hK hP 15 (by decide) rfl (hts (.fieldLink RX10 38 "ShadowBenchModel" "columns" "[I") (by decide +kernel)) rfl dX10_clash_144 ?_
                              refine lv_iload hx hb dX10_clash_147 (lv_at hl 0 rfl) ?_
                              refine m_iald (w := cl3) hx hb hK hP 10 rfl (vp_in_iff.mpr ⟨by omega, by omega⟩) dX10_clash_149 ?_
                              refine lv_topi (fun v149 e149 => ?_)
                              have i149 : v149.toInt = (cl3 (nI i).toNatClampNeg).toInt := congrArg Int32.toInt e149
                              refine lv_aload_n hx hb dX10_clash_150 rfl (lv_at hl 7 rfl) ?_
                              refine m_get (v := .ref (a 15)) hx hb hts hin hown hK hP 15 (by decide) rfl (hts (.fieldLink RX10 38 "ShadowBenchModel" "columns" "[I") (by decide +kernel)) rfl dX10_clash_151 ?_
                              refine lv_iload hx hb dX10_clash_154 (lv_at hl 1 rfl) ?_
                              refine m_iald (w := cl3) hx hb hK hP 10 rfl (vp_in_iff.mpr ⟨by omega, by omega⟩) dX10_clash_156 ?_
                              refine lv_topi (fun v156 e156 => ?_)
                              have i156 : v156.toInt = (cl3 x7.toNatClampNeg).toInt := congrArg Int32.toInt e156
                              refine lv_icmp_le (tgt := 165) hx hb dX10_clash_157 (by decide) (fun c157 => ?_) (fun c157 => ?_)
                              · skip
                                have d157 := c157
                                rw [fa_le] at d157
                                refine lv_iload hx hb dX10_clash_165 (lv_at hl 1 rfl) ?_
                                refine lv_istore (lv' := [(7, .int x7), (8, .int (nI i)), (6, .int (nI k3)), (5, .int x5), (4, .int x4), (3, .int x3), (2, .int v20), (0, .ref mo), (1, .int j)]) hx hb dX10_clash_167 hl (by decide) rfl (fun ls hl => ?_)
                                refine lv_iinc (v := (nI (i + 1))) (lv' := [(8, .int (nI (i + 1))), (7, .int x7), (6, .int (nI k3)), (5, .int x5), (4, .int x4), (3, .int x3), (2, .int v20), (0, .ref mo), (1, .int j)]) hx hb dX10_clash_169 hl (k := 1) rfl (nI_1 _) (by decide) rfl (fun ls hl => ?_)
                                refine lv_goto (tgt := 137) hx hb dX10_clash_172 (by decide) ?_
                                exact ih_137 (i + 1) x7 (by omega) (by omega) (by omega) _ _ hP hS ls (lv_sub hl [0, 1, 2, 3, 4, 5, 6, 7, 8] rfl)
                              · skip
                                have d157 := c157
                                rw [fa_le] at d157
                                refine lv_iload hx hb dX10_clash_160 (lv_at hl 0 rfl) ?_
                                refine lv_goto (tgt := 167) hx hb dX10_clash_162 (by decide) ?_
                                refine lv_istore (lv' := [(7, .int (nI i)), (8, .int (nI i)), (6, .int (nI k3)), (5, .int x5), (4, .int x4), (3, .int x3), (2, .int v20), (0, .ref mo), (1, .int j)]) hx hb dX10_clash_167 hl (by decide) rfl (fun ls hl => ?_)
                                refine lv_iinc (v := (nI (i + 1))) (lv' := [(8, .int (nI (i + 1))), (7, .int (nI i)), (6, .int (nI k3)), (5, .int x5), (4, .int x4), (3, .int x3), (2, .int v20), (0, .ref mo), (1, .int j)]) hx hb dX10_clash_169 hl (k := 1) rfl (nI_1 _) (by decide) rfl (fun ls hl => ?_)
                                refine lv_goto (tgt := 137) hx hb dX10_clash_172 (by decide) ?_
                                exact ih_137 (i + 1) (nI i) (by omega) (by omega) (by omega) _ _ hP hS ls (lv_sub hl [0, 1, 2, 3, 4, 5, 6, 7, 8] rfl)
                        exact loop_137 (6 + 1) 0 (0 : Int32) (by omega) (by omega) (by omega) _ _ hP hS ls (lv_sub hl [0, 1, 2, 3, 4, 5, 6, 7, 8] rfl)
                  exact loop_125 (7 + 1) 1 (0 : Int32) cl2 (by omega) (by omega) _ _ hP hS ls (lv_sub hl [0, 1, 2, 3, 4, 5, 6] rfl)
                · skip
                  have d114 := c114
                  rw [fa_eq] at d114
                  refine lv_iconst (v := 0) hx hb dX10_clash_117 (by decide) ?_
                  exact W.iret (v := (0 : Int32)) hx hb hr (fun t ht hW => ⟨⟨_, ((upd f 0 (0 : Int32)), g, (va_up r 15 cl2), q), rfl, ⟨cl2, rfl, trivial⟩, by unfold mB; rw [ht]; exact hP⟩, hS.F ht⟩) hS.2.2 dX10_clash_118
              · skip
                have d68 := c68
                rw [fa_le] at d68
                refine lv_aload_n hx hb dX10_clash_71 rfl (lv_at hl 4 rfl) ?_
                refine m_get (v := .ref (a 15)) hx hb hts hin hown hK hP 15 (by decide) rfl (hts (.fieldLink RX10 38 "ShadowBenchModel" "columns" "[I") (by decide +kernel)) rfl dX10_clash_72 ?_
                refine lv_iload hx hb dX10_clash_75 (lv_at hl 0 rfl) ?_
                refine lv_aload_n hx hb dX10_clash_77 rfl (lv_at hl 4 rfl) ?_
                refine m_get (v := .ref (a 5)) hx hb hts hin hown hK hP 5 (by decide) rfl (hts (.fieldLink RX10 19 "ShadowBenchModel" "sums" "[I") (by decide +kernel)) rfl dX10_clash_78 ?_
                refine lv_bipush (v := 44) hx hb dX10_clash_81 (by decide) ?_
                refine lv_iload_n hx hb dX10_clash_83 rfl (lv_at hl 5 rfl) ?_
                refine lv_imul hx hb dX10_clash_84 ?_
                refine lv_topi (fun v84 e84 => ?_)
                have i84 : v84.toInt = 44 * j.toInt := by rw [e84]; exact mulcL rfl (by omega) (by omega)
                refine lv_bipush (v := 11) hx hb dX10_clash_85 (by decide) ?_
                refine lv_iadd hx hb dX10_clash_87 ?_
                refine lv_topi (fun v87 e87 => ?_)
                have i87 : v87.toInt = v84.toInt + (11 : Int32).toInt := by rw [e87]; exact fb_addI (by omega) (by omega)
                refine lv_iload hx hb dX10_clash_88 (lv_at hl 0 rfl) ?_
                refine lv_iadd hx hb dX10_clash_90 ?_
                refine lv_topi (fun v90 e90 => ?_)
                have i90 : v90.toInt = v87.toInt + (nI k2).toInt := by rw [e90]; exact fb_addI (by omega) (by omega)
                refine m_iald (w := (r 5)) hx hb hK hP 4 rfl (vp_in_iff.mpr ⟨by omega, by omega⟩) dX10_clash_91 ?_
                refine lv_topi (fun v91 e91 => ?_)
                have i91 : v91.toInt = ((r 5) v90.toNatClampNeg).toInt := congrArg Int32.toInt e91
                refine m_iast (w := cl2) hx hb hK hP hD hS 10 rfl (vp_in_iff.mpr ⟨by omega, by omega⟩) (va_up (va_up r 15 cl2) 15 (upd cl2 (nI k2).toNatClampNeg v91)) (ms_15 cy mo a _ _ _ _ _) dX10_clash_92 (fun H locs hP hS => ?_)
                have hP := wm_eq rfl rfl (es_r_15__15 r cl2 (upd cl2 (nI k2).toNatClampNeg v91)) rfl hP
                refine lv_iload hx hb dX10_clash_93 (lv_at hl 1 rfl) ?_
                refine lv_aload_n hx hb dX10_clash_95 rfl (lv_at hl 4 rfl) ?_
                refine m_get (v := .ref (a 15)) hx hb hts hin hown hK hP 15 (by decide) rfl (hts (.fieldLink RX10 38 "ShadowBenchModel" "columns" "[I") (by decide +kernel)) rfl dX10_clash_96 ?_
                refine lv_iload hx hb dX10_clash_99 (lv_at hl 0 rfl) ?_
                refine m_iald (w := ((upd cl2 (nI k2).toNatClampNeg v91))) hx hb hK hP 10 rfl (vp_in_iff.mpr ⟨by omega, by omega⟩) dX10_clash_101 ?_
                refine lv_topi (fun v101 e101 => ?_)
                have i101 : v101.toInt = (((upd cl2 (nI k2).toNatClampNeg v91)) (nI k2).toNatClampNeg).toInt := congrArg Int32.toInt e101
                refine lv_iadd hx hb dX10_clash_102 ?_
                refine lv_topi (fun v102 e102 => ?_)
                refine lv_istore (lv' := [(4, .int v102), (5, .int (nI k2)), (3, .int x3), (2, .int v20), (0, .ref mo), (1, .int j)]) hx hb dX10_clash_103 hl (by decide) rfl (fun ls hl => ?_)
                refine lv_iinc (v := (nI (k2 + 1))) (lv' := [(5, .int (nI (k2 + 1))), (4, .int v102), (3, .int x3), (2, .int v20), (0, .ref mo), (1, .int j)]) hx hb dX10_clash_105 hl (k := 1) rfl (nI_1 _) (by decide) rfl (fun ls hl => ?_)
                refine lv_goto (tgt := 65) hx hb dX10_clash_108 (by decide) ?_
                have hP := wm_eq rfl rfl (ec_r_15__15 r ((upd cl2 (nI k2).toNatClampNeg v91))) rfl hP
                exact ih_65 (k2 + 1) v102 (((upd cl2 (nI k2).toNatClampNeg v91))) (by omega) (by omega) _ _ hP hS ls (lv_sub hl [0, 1, 2, 3, 4, 5] rfl)
          have hP := wm_eq rfl rfl (ec_r___15 r ) rfl hP
          exact loop_65 (6 + 1) 0 (0 : Int32) (r 15) (by omega) (by omega) _ _ hP hS ls (lv_sub hl [0, 1, 2, 3, 4, 5] rfl)
        · skip
          have d38 := c38
          rw [fa_le] at d38
          refine lv_iload_n hx hb dX10_clash_41 rfl (lv_at hl 2 rfl) ?_
          refine lv_aload_n hx hb dX10_clash_42 rfl (lv_at hl 4 rfl) ?_
          refine m_get (v := .ref (a 5)) hx hb hts hin hown hK hP 5 (by decide) rfl (hts (.fieldLink RX10 19 "ShadowBenchModel" "sums" "[I") (by decide +kernel)) rfl dX10_clash_43 ?_
          refine lv_bipush (v := 44) hx hb dX10_clash_46 (by decide) ?_
          refine lv_iload_n hx hb dX10_clash_48 rfl (lv_at hl 5 rfl) ?_
          refine lv_imul hx hb dX10_clash_49 ?_
          refine lv_topi (fun v49 e49 => ?_)
          have i49 : v49.toInt = 44 * j.toInt := by rw [e49]; exact mulcL rfl (by omega) (by omega)
          refine lv_iload hx hb dX10_clash_50 (lv_at hl 0 rfl) ?_
          refine lv_iadd hx hb dX10_clash_52 ?_
          refine lv_topi (fun v52 e52 => ?_)
          have i52 : v52.toInt = v49.toInt + (nI k).toInt := by rw [e52]; exact fb_addI (by omega) (by omega)
          refine m_iald (w := (r 5)) hx hb hK hP 4 rfl (vp_in_iff.mpr ⟨by omega, by omega⟩) dX10_clash_53 ?_
          refine lv_topi (fun v53 e53 => ?_)
          have i53 : v53.toInt = ((r 5) v52.toNatClampNeg).toInt := congrArg Int32.toInt e53
          refine lv_iadd hx hb dX10_clash_54 ?_
          refine lv_topi (fun v54 e54 => ?_)
          refine lv_istore_n (lv' := [(3, .int v54), (5, .int (nI k)), (4, .int (0 : Int32)), (2, .int v20), (0, .ref mo), (1, .int j)]) hx hb dX10_clash_55 rfl hl (by decide) rfl (fun ls hl => ?_)
          refine lv_iinc (v := (nI (k + 1))) (lv' := [(5, .int (nI (k + 1))), (3, .int v54), (4, .int (0 : Int32)), (2, .int v20), (0, .ref mo), (1, .int j)]) hx hb dX10_clash_56 hl (k := 1) rfl (nI_1 _) (by decide) rfl (fun ls hl => ?_)
          refine lv_goto (tgt := 30) hx hb dX10_clash_59 (by decide) ?_
          exact ih_30 (k + 1) v54 (by omega) (by omega) _ _ hP hS ls (lv_sub hl [0, 2, 1, 3, 4, 5] rfl)
    exact loop_30 (6 + 1) 0 (0 : Int32) (by omega) (by omega) _ _ hP hS ls (lv_sub hl [0, 1, 2, 3, 4, 5] rfl)
  · skip
    have b10 := bo_f q7 c10
    refine lv_iconst (v := (-1)) hx hb dX10_clash_13 (by decide) ?_
    have hP := wm_eq rfl rfl (ec_r___15 r ) rfl hP
    exact W.iret (v := ((-1) : Int32)) hx hb hr (fun t ht hW => ⟨⟨_, ((upd f 0 (0 : Int32)), g, (va_up r 15 (r 15)), q), rfl, ⟨(r 15), rfl, trivial⟩, by unfold mB; rw [ht]; exact hP⟩, hS.F ht⟩) hS.2.2 dX10_clash_14
set_option maxHeartbeats 4000000 in
set_option maxRecDepth 100000 in
theorem c_X10_seek (l : Launch) (D : va_G) (cy : Nat → ClassId) (mo : Nat) (a : Nat → Nat) (f : Nat → Int32) (g : Nat → Int64) (r : Nat → Nat → Int32) (q : Nat → Nat → Int64) (j : Int32) (hD : DM cy mo a) (hI : MI f r) : Mi l D cy mo a yX10_seek wsX10_seek ({ frames := 5, cells := 0, slots := 0, locals := 126 }) f g r q [.int j] (fun r0 u => ∃ (dp : Int32), ∃ (tr : Int32), ∃ (sp : Int32), ∃ (fd : Int64), ∃ (rw : Nat → Int32), ∃ (mt : Nat → Int32), ∃ (bs : Int32), ∃ (bp : Int64), u = ((upd (upd (upd (upd f 11 dp) 12 tr) 13 sp) 17 bs), (vp_updL (vp_updL g 14 fd) 16 bp), (va_up (va_up r 10 rw) 9 mt), q) ∧ (0 ≤ r0.toInt ∧ r0.toInt ≤ 2)) := by
  refine Met.ofW (cc := cX10_seek) (maxL := 5) (ret := (some .int)) (by decide) rfl ?_
  intro p e s m args below meth c s₁ B hml hv
  obtain ⟨rfl, hP, hK⟩ := hv
  have hx := B.exec
  have hb := B.bytes
  have hr := B.returns
  have hts := atoms_spec (ws := wsX10_seek) B.pre
  have hin : ∀ w ∈ u_ws RX10 TX10 35, w ∈ wsX10_seek := by decide +kernel
  have hown : s.vm.findClass RX10 = some m.cls := findClass_of_methodNamed B.named
  have hlocks := B.notSynchronized
  have hS : va_S (AM mo a) s.heap s.heap [] := va_S.rf
  have hl := lv_entry ([.ref mo, .int j]) (n := 5) (Nat.le_of_ble_eq_true rfl)
  rw [lg_entry_eq]
  generalize (lg_sl ([.ref mo, .int j]) ++ List.replicate (5 - (lg_sl ([.ref mo, .int j])).length) Slot.unset).toArray = ls at hl ⊢
  have hl : lv_has ls 5 [(0, .ref mo), (1, .int j)] := hl
  have k_0 : (0 : Int32).toInt = 0 := by decide
  have k_1 : (1 : Int32).toInt = 1 := by decide
  have k_2 : (2 : Int32).toInt = 2 := by decide
  have k_3 : (3 : Int32).toInt = 3 := by decide
  have k_36 : (36 : Int32).toInt = 36 := by decide
  have hI1 := hI.1
  refine lv_aload_n hx hb dX10_seek_0 rfl (lv_at hl 0 rfl) ?_
  refine lv_iload_n hx hb dX10_seek_1 rfl (lv_at hl 1 rfl) ?_
  refine m_calli (As := [.int j]) (rest := []) ⟨hx, hb, hml, hown, hts⟩ (c_X10_isJob l D cy mo a f g r q j hD) (cwV 1 hts gX10_seek_X10_isJob rfl rfl rfl (by decide +kernel) ⟨Nat.le_of_ble_eq_true rfl, Nat.le_of_ble_eq_true rfl⟩) hK hP rfl hl.1 rfl (Nat.le_of_ble_eq_true rfl) dX10_seek_2 ⟨Nat.le_of_ble_eq_true rfl, Nat.le_of_ble_eq_true rfl⟩ hS (fun r2 u H locs q2 hP hS => ?_)
  obtain ⟨rfl, q2⟩ := q2
  have hP : va_P D vwCl (WM cy mo a f g r q) H := hP
  have q2 : Bo r2 (0 ≤ j.toInt ∧ j.toInt < ((f 1)).toInt) := q2
  refine lv_if_eq (tgt := 18) hx hb dX10_seek_5 (by decide) (fun c5 => ?_) (fun c5 => ?_)
  · skip
    have b5 := bo_f q2 c5
    refine lv_iconst (v := 1) hx hb dX10_seek_18 (by decide) ?_
    have hP := wm_eq (ec_f___11_12_13_17 f ) (ec_g___14_16 g ) (ec_r___10_9 r ) rfl hP
    exact W.iret (v := (1 : Int32)) hx hb hr (fun t ht hW => ⟨⟨_, ((upd (upd (upd (upd f 11 (f 11)) 12 (f 12)) 13 (f 13)) 17 (f 17)), (vp_updL (vp_updL g 14 (g 14)) 16 (g 16)), (va_up (va_up r 10 (r 10)) 9 (r 9)), q), rfl, ⟨(f 11), (f 12), (f 13), (g 14), (r 10), (r 9), (f 17), (g 16), rfl, by decide⟩, by unfold mB; rw [ht]; exact hP⟩, hS.F ht⟩) hS.2.2 dX10_seek_19
  · skip
    have b5 := bo_t q2 c5
    refine lv_aload_n hx hb dX10_seek_8 rfl (lv_at hl 0 rfl) ?_
    refine m_get (v := .ref (a 2)) hx hb hts hin hown hK hP 2 (by decide) rfl (hts (.fieldLink RX10 7 "ShadowBenchModel" "kind" "[I") (by decide +kernel)) rfl dX10_seek_9 ?_
    refine lv_iload_n hx hb dX10_seek_12 rfl (lv_at hl 1 rfl) ?_
    refine m_iald (w := (r 2)) hx hb hK hP 1 rfl (vp_in_iff.mpr ⟨by omega, by omega⟩) dX10_seek_13 ?_
    refine lv_topi (fun v13 e13 => ?_)
    have i13 : v13.toInt = ((r 2) j.toNatClampNeg).toInt := congrArg Int32.toInt e13
    refine lv_iconst (v := 3) hx hb dX10_seek_14 (by decide) ?_
    refine lv_icmp_eq (tgt := 20) hx hb dX10_seek_15 (by decide) (fun c15 => ?_) (fun c15 => ?_)
    · skip
      have d15 := c15
      rw [fa_eq] at d15
      have hh := mi_h hI (x := j) (by omega) (by omega) rfl
      refine lv_aload_n hx hb dX10_seek_20 rfl (lv_at hl 0 rfl) ?_
      refine m_callv (As := []) (rest := []) ⟨hx, hb, hml, hown, hts⟩ (c_X10_begin l D cy mo a f g r q hD) (cwV 0 hts gX10_seek_X10_begin rfl rfl rfl (by decide +kernel) ⟨Nat.le_of_ble_eq_true rfl, Nat.le_of_ble_eq_true rfl⟩) hK hP rfl hl.1 rfl (Nat.le_of_ble_eq_true rfl) dX10_seek_21 ⟨Nat.le_of_ble_eq_true rfl, Nat.le_of_ble_eq_true rfl⟩ hS (fun u H locs q21 hP hS => ?_)
      obtain ⟨rw_21, rfl, q21⟩ := q21
      have hP : va_P D vwCl (WM cy mo a (upd (upd (upd f 11 (0 : Int32)) 12 (0 : Int32)) 13 (0 : Int32)) g (va_up r 10 rw_21) q) H := hP
      have q21 : True := q21
      refine lv_iconst (v := 0) hx hb dX10_seek_24 (by decide) ?_
      refine lv_istore_n (lv' := [(2, .int (0 : Int32)), (0, .ref mo), (1, .int j)]) hx hb dX10_seek_25 rfl hl (by decide) rfl (fun ls hl => ?_)
      have loop_26 : ∀ (n : Nat) (x2 : Int32) (dpa : Int32) (tra : Int32) (spa : Int32) (fda : Int64) (rwa : Nat → Int32) (mta : Nat → Int32) (bsa : Int32) (bpa : Int64), (-1 ≤ dpa.toInt ∧ dpa.toInt < (r 4 j.toNatClampNeg).toInt) → (0 ≤ tra.toInt ∧ tra.toInt ≤ 200000) → (200000 - tra.toInt).toNat < n → ∀ (H : Heap) (locs : List Loc), va_P D vwCl (WM cy mo a (upd (upd (upd (upd f 11 dpa) 12 tra) 13 spa) 17 bsa) (vp_updL (vp_updL g 14 fda) 16 bpa) (va_up (va_up r 10 rwa) 9 mta) q) H → va_S (AM mo a) s.heap H locs → ∀ (ls : Array Slot), lv_has ls 5 [(2, .int x2), (0, .ref mo), (1, .int j)] → W p l e (headSpec wsX10_seek ({ frames := 5, cells := 0, slots := 0, locals := 126 })).room s m #[Value.ref mo, Value.int j] below meth c H locs 0 0 (MQ below (va_Qi (fun r0 u => ∃ (dp : Int32), ∃ (tr : Int32), ∃ (sp : Int32), ∃ (fd : Int64), ∃ (rw : Nat → Int32), ∃ (mt : Nat → Int32), ∃ (bs : Int32), ∃ (bp : Int64), u = ((upd (upd (upd (upd f 11 dp) 12 tr) 13 sp) 17 bs), (vp_updL (vp_updL g 14 fd) 16 bp), (va_up (va_up r 10 rw) 9 mt), q) ∧ (0 ≤ r0.toInt ∧ r0.toInt ≤ 2)) (mB D cy mo a) (AM mo a)) #[Value.ref mo, Value.int j] s 0 0 (AM mo a)) (F0 m 26 ls []) := by
        intro n
        induction n with
        | zero => intro x2 dpa tra spa fda rwa mta bsa bpa j26_0 j26_1 hn; exact absurd hn (Nat.not_lt_zero _)
        | succ n ih_26 =>
          intro x2 dpa tra spa fda rwa mta bsa bpa j26_0 j26_1 hn_26 H locs hP hS ls hl
          refine lv_aload_n hx hb dX10_seek_26 rfl (lv_at hl 1 rfl) ?_
          refine lv_iload_n hx hb dX10_seek_27 rfl (lv_at hl 2 rfl) ?_
          refine m_calli (As := [.int j]) (rest := []) ⟨hx, hb, hml, hown, hts⟩ (c_X10_isNext l D cy mo a (upd (upd (upd (upd f 11 dpa) 12 tra) 13 spa) 17 bsa) (vp_updL (vp_updL g 14 fda) 16 bpa) (va_up (va_up r 10 rwa) 9 mta) q j hD hI (show 0 ≤ j.toInt ∧ j.toInt < ((f 1)).toInt by omega) (show -1 ≤ (dpa).toInt ∧ (dpa).toInt < ((r 4) j.toNatClampNeg).toInt by omega) (show 0 ≤ (tra).toInt ∧ (tra).toInt ≤ 200000 by omega)) (cwV 1 hts gX10_seek_X10_isNext rfl rfl rfl (by decide +kernel) ⟨Nat.le_of_ble_eq_true rfl, Nat.le_of_ble_eq_true rfl⟩) hK hP rfl hl.1 rfl (Nat.le_of_ble_eq_true rfl) dX10_seek_28 ⟨Nat.le_of_ble_eq_true rfl, Nat.le_of_ble_eq_true rfl⟩ hS (fun r28 u H locs q28 hP hS => ?_)
          obtain ⟨dp_28, tr_28, sp_28, fd_28, rw_28, mt_28, rfl, q28⟩ := q28
          have hP : va_P D vwCl (WM cy mo a (upd (upd (upd (upd f 17 bsa) 11 dp_28) 12 tr_28) 13 sp_28) (vp_updL (vp_updL g 16 bpa) 14 fd_28) (va_up (va_up r 10 rw_28) 9 mt_28) q) H := hP
          have q28 : (r28 = 0 ∨ r28 = 1) ∧ (-1 ≤ dp_28.toInt ∧ dp_28.toInt < ((r 4) j.toNatClampNeg).toInt) ∧ ((tra).toInt ≤ tr_28.toInt ∧ tr_28.toInt ≤ 200000) ∧ (r28 = 1 → (tra).toInt < tr_28.toInt) := q28
          have b28 := q28.2.1
          have t28 := q28.2.2.1
          refine lv_if_eq (tgt := 118) hx hb dX10_seek_31 (by decide) (fun c31 => ?_) (fun c31 => ?_)
          · skip
            have d31 := c31
            rw [fa_eq] at d31
            refine lv_aload_n hx hb dX10_seek_118 rfl (lv_at hl 1 rfl) ?_
            refine m_get (v := .int sp_28) hx hb hts hin hown hK hP 13 (by decide) rfl (hts (.fieldLink RX10 163 "ShadowBenchModel" "spent" "Z") (by decide +kernel)) rfl dX10_seek_119 ?_
            refine lv_if_ne (tgt := 129) hx hb dX10_seek_122 (by decide) (fun c122 => ?_) (fun c122 => ?_)
            · skip
              have d122 := c122
              rw [fa_eq] at d122
              refine lv_iconst (v := 2) hx hb dX10_seek_129 (by decide) ?_
              refine lv_goto (tgt := 134) hx hb dX10_seek_130 (by decide) ?_
              have hP := wm_eq (ec_f_17_11_12_13__11_12_13_17 f bsa dp_28 tr_28 sp_28) (ec_g_16_14__14_16 g bpa fd_28) rfl rfl hP
              exact W.iret (v := (2 : Int32)) hx hb hr (fun t ht hW => ⟨⟨_, ((upd (upd (upd (upd f 11 dp_28) 12 tr_28) 13 sp_28) 17 bsa), (vp_updL (vp_updL g 14 fd_28) 16 bpa), (va_up (va_up r 10 rw_28) 9 mt_28), q), rfl, ⟨dp_28, tr_28, sp_28, fd_28, rw_28, mt_28, bsa, bpa, rfl, by decide⟩, by unfold mB; rw [ht]; exact hP⟩, hS.F ht⟩) hS.2.2 dX10_seek_134
            · skip
              have d122 := c122
              rw [fa_eq] at d122
              refine lv_iload_n hx hb dX10_seek_125 rfl (lv_at hl 0 rfl) ?_
              refine lv_if_ne (tgt := 133) hx hb dX10_seek_126 (by decide) (fun c126 => ?_) (fun c126 => ?_)
              · skip
                have d126 := c126
                rw [fa_eq] at d126
                refine lv_iconst (v := 0) hx hb dX10_seek_133 (by decide) ?_
                have hP := wm_eq (ec_f_17_11_12_13__11_12_13_17 f bsa dp_28 tr_28 sp_28) (ec_g_16_14__14_16 g bpa fd_28) rfl rfl hP
                exact W.iret (v := (0 : Int32)) hx hb hr (fun t ht hW => ⟨⟨_, ((upd (upd (upd (upd f 11 dp_28) 12 tr_28) 13 sp_28) 17 bsa), (vp_updL (vp_updL g 14 fd_28) 16 bpa), (va_up (va_up r 10 rw_28) 9 mt_28), q), rfl, ⟨dp_28, tr_28, sp_28, fd_28, rw_28, mt_28, bsa, bpa, rfl, by decide⟩, by unfold mB; rw [ht]; exact hP⟩, hS.F ht⟩) hS.2.2 dX10_seek_134
              · skip
                have d126 := c126
                rw [fa_eq] at d126
                refine lv_iconst (v := 2) hx hb dX10_seek_129 (by decide) ?_
                refine lv_goto (tgt := 134) hx hb dX10_seek_130 (by decide) ?_
                have hP := wm_eq (ec_f_17_11_12_13__11_12_13_17 f bsa dp_28 tr_28 sp_28) (ec_g_16_14__14_16 g bpa fd_28) rfl rfl hP
                exact W.iret (v := (2 : Int32)) hx hb hr (fun t ht hW => ⟨⟨_, ((upd (upd (upd (upd f 11 dp_28) 12 tr_28) 13 sp_28) 17 bsa), (vp_updL (vp_updL g 14 fd_28) 16 bpa), (va_up (va_up r 10 rw_28) 9 mt_28), q), rfl, ⟨dp_28, tr_28, sp_28, fd_28, rw_28, mt_28, bsa, bpa, rfl, by decide⟩, by unfold mB; rw [ht]; exact hP⟩, hS.F ht⟩) hS.2.2 dX10_seek_134
          · skip
            have d31 := c31
            rw [fa_eq] at d31
            have z28 := q28.2.2.2 (q28.1.resolve_left c31)
            refine lv_iconst (v := 0) hx hb dX10_seek_34 (by decide) ?_
            refine lv_istore_n (lv' := [(3, .int (0 : Int32)), (2, .int x2), (0, .ref mo), (1, .int j)]) hx hb dX10_seek_35 rfl hl (by decide) rfl (fun ls hl => ?_)
            refine lv_iconst (v := 0) hx hb dX10_seek_36 (by decide) ?_
            refine lv_istore (lv' := [(4, .int (0 : Int32)), (3, .int (0 : Int32)), (2, .int x2), (0, .ref mo), (1, .int j)]) hx hb dX10_seek_37 hl (by decide) rfl (fun ls hl => ?_)
            have loop_39 : ∀ (n : Nat) (s1 : Nat) (x3 : Int32), (s1 ≤ 36) → 36 - s1 < n → ∀ (H : Heap) (locs : List Loc), va_P D vwCl (WM cy mo a (upd (upd (upd (upd f 17 bsa) 11 dp_28) 12 tr_28) 13 sp_28) (vp_updL (vp_updL g 16 bpa) 14 fd_28) (va_up (va_up r 10 rw_28) 9 mt_28) q) H → va_S (AM mo a) s.heap H locs → ∀ (ls : Array Slot), lv_has ls 5 [(4, .int (nI s1)), (3, .int x3), (2, .int x2), (0, .ref mo), (1, .int j)] → W p l e (headSpec wsX10_seek ({ frames := 5, cells := 0, slots := 0, locals := 126 })).room s m #[Value.ref mo, Value.int j] below meth c H locs 0 0 (MQ below (va_Qi (fun r0 u => ∃ (dp : Int32), ∃ (tr : Int32), ∃ (sp : Int32), ∃ (fd : Int64), ∃ (rw : Nat → Int32), ∃ (mt : Nat → Int32), ∃ (bs : Int32), ∃ (bp : Int64), u = ((upd (upd (upd (upd f 11 dp) 12 tr) 13 sp) 17 bs), (vp_updL (vp_updL g 14 fd) 16 bp), (va_up (va_up r 10 rw) 9 mt), q) ∧ (0 ≤ r0.toInt ∧ r0.toInt ≤ 2)) (mB D cy mo a) (AM mo a)) #[Value.ref mo, Value.int j] s 0 0 (AM mo a)) (F0 m 39 ls []) := by
              intro n
              induction n with
              | zero => intro s1 x3  j39_0 hn; exact absurd hn (Nat.not_lt_zero _)
              | succ n ih_39 =>
                intro s1 x3  j39_0 hn_39 H locs hP hS ls hl
                have is1 : (nI s1).toInt = (s1 : Int) := nI_toInt (by omega)
                refine lv_iload hx hb dX10_seek_39 (lv_at hl 0 rfl) ?_
                refine lv_aload_n hx hb dX10_seek_41 rfl (lv_at hl 3 rfl) ?_
                refine m_get (v := .ref (a 3)) hx hb hts hin hown hK hP 3 (by decide) rfl (hts (.fieldLink RX10 13 "ShadowBenchModel" "wide" "[I") (by decide +kernel)) rfl dX10_seek_42 ?_
                refine lv_iload_n hx hb dX10_seek_45 rfl (lv_at hl 4 rfl) ?_
                refine m_iald (w := (r 3)) hx hb hK hP 2 rfl (vp_in_iff.mpr ⟨by omega, by omega⟩) dX10_seek_46 ?_
                refine lv_topi (fun v46 e46 => ?_)
                have i46 : v46.toInt = ((r 3) j.toNatClampNeg).toInt := congrArg Int32.toInt e46
                have w46 := mi_w hI (x := j) (by omega) (by omega) e46
                refine lv_aload_n hx hb dX10_seek_47 rfl (lv_at hl 3 rfl) ?_
                refine m_get (v := .ref (a 4)) hx hb hts hin hown hK hP 4 (by decide) rfl (hts (.fieldLink RX10 16 "ShadowBenchModel" "high" "[I") (by decide +kernel)) rfl dX10_seek_48 ?_
                refine lv_iload_n hx hb dX10_seek_51 rfl (lv_at hl 4 rfl) ?_
                refine m_iald (w := (r 4)) hx hb hK hP 3 rfl (vp_in_iff.mpr ⟨by omega, by omega⟩) dX10_seek_52 ?_
                refine lv_topi (fun v52 e52 => ?_)
                have i52 : v52.toInt = ((r 4) j.toNatClampNeg).toInt := congrArg Int32.toInt e52
                have w52 := mi_h hI (x := j) (by omega) (by omega) e52
                have m53 := mul66 w46 w52
                refine lv_imul hx hb dX10_seek_53 ?_
                refine lv_topi (fun v53 e53 => ?_)
                have i53 : v53.toInt = v46.toInt * v52.toInt := by rw [e53]; exact fb_mulI (by omega) (by omega)
                refine lv_icmp_ge (tgt := 88) hx hb dX10_seek_54 (by decide) (fun c54 => ?_) (fun c54 => ?_)
                · skip
                  have d54 := c54
                  rw [fa_le] at d54
                  refine lv_iload_n hx hb dX10_seek_88 rfl (lv_at hl 2 rfl) ?_
                  refine lv_if_eq (tgt := 100) hx hb dX10_seek_89 (by decide) (fun c89 => ?_) (fun c89 => ?_)
                  · skip
                    have d89 := c89
                    rw [fa_eq] at d89
                    refine lv_aload_n hx hb dX10_seek_100 rfl (lv_at hl 3 rfl) ?_
                    refine lv_iload_n hx hb dX10_seek_101 rfl (lv_at hl 1 rfl) ?_
                    refine m_put (v := .int x3) (ty := .int) hx hb hts hin hown hK hP hD hS 17 (by decide) rfl (hts (.fieldLink RX10 191 "ShadowBenchModel" "bestSum" "I") (by decide +kernel)) rfl (by decide +kernel) rfl rfl (upd (upd (upd (upd f 11 dp_28) 12 tr_28) 13 sp_28) 17 x3) (vp_updL (vp_updL g 16 bpa) 14 fd_28) rfl dX10_seek_102 (fun H locs hP hS => ?_)
                    refine lv_aload_n hx hb dX10_seek_105 rfl (lv_at hl 3 rfl) ?_
                    refine lv_aload_n hx hb dX10_seek_106 rfl (lv_at hl 3 rfl) ?_
                    refine m_get (v := .long fd_28) hx hb hts hin hown hK hP 14 (by decide) rfl (hts (.fieldLink RX10 175 "ShadowBenchModel" "found" "J") (by decide +kernel)) rfl dX10_seek_107 ?_
                    refine m_put (v := .long fd_28) (ty := .long) hx hb hts hin hown hK hP hD hS 16 (by decide) rfl (hts (.fieldLink RX10 194 "ShadowBenchModel" "bestPicture" "J") (by decide +kernel)) rfl (by decide +kernel) rfl rfl (upd (upd (upd (upd f 11 dp_28) 12 tr_28) 13 sp_28) 17 x3) (vp_updL (vp_updL g 14 fd_28) 16 fd_28) rfl dX10_seek_110 (fun H locs hP hS => ?_)
                    refine lv_iconst (v := 1) hx hb dX10_seek_113 (by decide) ?_
                    refine lv_istore_n (lv' := [(2, .int (1 : Int32)), (4, .int (nI s1)), (3, .int x3), (0, .ref mo), (1, .int j)]) hx hb dX10_seek_114 rfl hl (by decide) rfl (fun ls hl => ?_)
                    refine lv_goto (tgt := 26) hx hb dX10_seek_115 (by decide) ?_
                    exact ih_26 (1 : Int32) dp_28 tr_28 sp_28 fd_28 rw_28 mt_28 x3 fd_28 (by omega) (by omega) (by omega) _ _ hP hS ls (lv_sub hl [0, 3, 4] rfl)
                  · skip
                    have d89 := c89
                    rw [fa_eq] at d89
                    refine lv_iload_n hx hb dX10_seek_92 rfl (lv_at hl 1 rfl) ?_
                    refine lv_aload_n hx hb dX10_seek_93 rfl (lv_at hl 3 rfl) ?_
                    refine m_get (v := .int bsa) hx hb hts hin hown hK hP 17 (by decide) rfl (hts (.fieldLink RX10 191 "ShadowBenchModel" "bestSum" "I") (by decide +kernel)) rfl dX10_seek_94 ?_
                    refine lv_icmp_le (tgt := 113) hx hb dX10_seek_97 (by decide) (fun c97 => ?_) (fun c97 => ?_)
                    · skip
                      have d97 := c97
                      rw [fa_le] at d97
                      refine lv_iconst (v := 1) hx hb dX10_seek_113 (by decide) ?_
                      refine lv_istore_n (lv' := [(2, .int (1 : Int32)), (4, .int (nI s1)), (3, .int x3), (0, .ref mo), (1, .int j)]) hx hb dX10_seek_114 rfl hl (by decide) rfl (fun ls hl => ?_)
                      refine lv_goto (tgt := 26) hx hb dX10_seek_115 (by decide) ?_
                      have hP := wm_eq (ec_f_17_11_12_13__11_12_13_17 f bsa dp_28 tr_28 sp_28) (ec_g_16_14__14_16 g bpa fd_28) rfl rfl hP
                      exact ih_26 (1 : Int32) dp_28 tr_28 sp_28 fd_28 rw_28 mt_28 bsa bpa (by omega) (by omega) (by omega) _ _ hP hS ls (lv_sub hl [0, 3, 4] rfl)
                    · skip
                      have d97 := c97
                      rw [fa_le] at d97
                      refine lv_aload_n hx hb dX10_seek_100 rfl (lv_at hl 3 rfl) ?_
                      refine lv_iload_n hx hb dX10_seek_101 rfl (lv_at hl 1 rfl) ?_
                      refine m_put (v := .int x3) (ty := .int) hx hb hts hin hown hK hP hD hS 17 (by decide) rfl (hts (.fieldLink RX10 191 "ShadowBenchModel" "bestSum" "I") (by decide +kernel)) rfl (by decide +kernel) rfl rfl (upd (upd (upd (upd f 11 dp_28) 12 tr_28) 13 sp_28) 17 x3) (vp_updL (vp_updL g 16 bpa) 14 fd_28) rfl dX10_seek_102 (fun H locs hP hS => ?_)
                      refine lv_aload_n hx hb dX10_seek_105 rfl (lv_at hl 3 rfl) ?_
                      refine lv_aload_n hx hb dX10_seek_106 rfl (lv_at hl 3 rfl) ?_
                      refine m_get (v := .long fd_28) hx hb hts hin hown hK hP 14 (by decide) rfl (hts (.fieldLink RX10 175 "ShadowBenchModel" "found" "J") (by decide +kernel)) rfl dX10_seek_107 ?_
                      refine m_put (v := .long fd_28) (ty := .long) hx hb hts hin hown hK hP hD hS 16 (by decide) rfl (hts (.fieldLink RX10 194 "ShadowBenchModel" "bestPicture" "J") (by decide +kernel)) rfl (by decide +kernel) rfl rfl (upd (upd (upd (upd f 11 dp_28) 12 tr_28) 13 sp_28) 17 x3) (vp_updL (vp_updL g 14 fd_28) 16 fd_28) rfl dX10_seek_110 (fun H locs hP hS => ?_)
                      refine lv_iconst (v := 1) hx hb dX10_seek_113 (by decide) ?_
                      refine lv_istore_n (lv' := [(2, .int (1 : Int32)), (4, .int (nI s1)), (3, .int x3), (0, .ref mo), (1, .int j)]) hx hb dX10_seek_114 rfl hl (by decide) rfl (fun ls hl => ?_)
                      refine lv_goto (tgt := 26) hx hb dX10_seek_115 (by decide) ?_
                      exact ih_26 (1 : Int32) dp_28 tr_28 sp_28 fd_28 rw_28 mt_28 x3 fd_28 (by omega) (by omega) (by omega) _ _ hP hS ls (lv_sub hl [0, 3, 4] rfl)
                · skip
                  have d54 := c54
                  rw [fa_le] at d54
                  refine lv_iload_n hx hb dX10_seek_57 rfl (lv_at hl 1 rfl) ?_
                  refine lv_aload_n hx hb dX10_seek_58 rfl (lv_at hl 3 rfl) ?_
                  refine m_get (v := .long fd_28) hx hb hts hin hown hK hP 14 (by decide) rfl (hts (.fieldLink RX10 175 "ShadowBenchModel" "found" "J") (by decide +kernel)) rfl dX10_seek_59 ?_
                  refine lv_iload hx hb dX10_seek_62 (lv_at hl 0 rfl) ?_
                  refine m_pu (As := [.long fd_28, .int (nI s1)]) (rest := [.int x3]) ⟨hx, hb, hml, hown, hts⟩ (c_X10_one l fd_28 (nI s1) ) (va_cwS 2 hts gX10_seek_X10_one rfl rfl rfl (by decide +kernel) ⟨Nat.le_of_ble_eq_true rfl, Nat.le_of_ble_eq_true rfl⟩) hP rfl hl.1 rfl (Nat.le_of_ble_eq_true rfl) dX10_seek_64 ⟨Nat.le_of_ble_eq_true rfl, Nat.le_of_ble_eq_true rfl⟩ hS (fun r64 H locs q64 hP hS => ?_)
                  have i64 : r64.toInt = (r_one fd_28 (nI s1)).toInt := congrArg Int32.toInt q64
                  refine lv_aload_n hx hb dX10_seek_67 rfl (lv_at hl 3 rfl) ?_
                  refine m_get (v := .ref (a 8)) hx hb hts hin hown hK hP 8 (by decide) rfl (hts (.fieldLink RX10 29 "ShadowBenchModel" "weight" "[I") (by decide +kernel)) rfl dX10_seek_68 ?_
                  refine lv_bipush (v := 36) hx hb dX10_seek_71 (by decide) ?_
                  refine lv_iload_n hx hb dX10_seek_73 rfl (lv_at hl 4 rfl) ?_
                  refine lv_imul hx hb dX10_seek_74 ?_
                  refine lv_topi (fun v74 e74 => ?_)
                  have i74 : v74.toInt = 36 * j.toInt := by rw [e74]; exact mulcL rfl (by omega) (by omega)
                  refine lv_iload hx hb dX10_seek_75 (lv_at hl 0 rfl) ?_
                  refine lv_iadd hx hb dX10_seek_77 ?_
                  refine lv_topi (fun v77 e77 => ?_)
                  have i77 : v77.toInt = v74.toInt + (nI s1).toInt := by rw [e77]; exact fb_addI (by omega) (by omega)
                  refine m_iald (w := (r 8)) hx hb hK hP 7 rfl (vp_in_iff.mpr ⟨by omega, by omega⟩) dX10_seek_78 ?_
                  refine lv_topi (fun v78 e78 => ?_)
                  have i78 : v78.toInt = ((r 8) v77.toNatClampNeg).toInt := congrArg Int32.toInt e78
                  refine lv_imul hx hb dX10_seek_79 ?_
                  refine lv_topi (fun v79 e79 => ?_)
                  refine lv_iadd hx hb dX10_seek_80 ?_
                  refine lv_topi (fun v80 e80 => ?_)
                  refine lv_istore_n (lv' := [(3, .int v80), (4, .int (nI s1)), (2, .int x2), (0, .ref mo), (1, .int j)]) hx hb dX10_seek_81 rfl hl (by decide) rfl (fun ls hl => ?_)
                  refine lv_iinc (v := (nI (s1 + 1))) (lv' := [(4, .int (nI (s1 + 1))), (3, .int v80), (2, .int x2), (0, .ref mo), (1, .int j)]) hx hb dX10_seek_82 hl (k := 1) rfl (nI_1 _) (by decide) rfl (fun ls hl => ?_)
                  refine lv_goto (tgt := 39) hx hb dX10_seek_85 (by decide) ?_
                  exact ih_39 (s1 + 1) v80 (by omega) (by omega) _ _ hP hS ls (lv_sub hl [0, 1, 2, 3, 4] rfl)
            exact loop_39 (36 + 1) 0 (0 : Int32) (by omega) (by omega) _ _ hP hS ls (lv_sub hl [0, 1, 2, 3, 4] rfl)
      have hP := wm_eq (ec_f_11_12_13__11_12_13_17 f (0 : Int32) (0 : Int32) (0 : Int32)) (ec_g___14_16 g ) (ec_r_10__10_9 r rw_21) rfl hP
      exact loop_26 (200000 + 1) (0 : Int32) (0 : Int32) (0 : Int32) (0 : Int32) (g 14) rw_21 (r 9) (f 17) (g 16) (by omega) (by omega) (by omega) _ _ hP hS ls (lv_sub hl [0, 1, 2] rfl)
    · skip
      have d15 := c15
      rw [fa_eq] at d15
      refine lv_iconst (v := 1) hx hb dX10_seek_18 (by decide) ?_
      have hP := wm_eq (ec_f___11_12_13_17 f ) (ec_g___14_16 g ) (ec_r___10_9 r ) rfl hP
      exact W.iret (v := (1 : Int32)) hx hb hr (fun t ht hW => ⟨⟨_, ((upd (upd (upd (upd f 11 (f 11)) 12 (f 12)) 13 (f 13)) 17 (f 17)), (vp_updL (vp_updL g 14 (g 14)) 16 (g 16)), (va_up (va_up r 10 (r 10)) 9 (r 9)), q), rfl, ⟨(f 11), (f 12), (f 13), (g 14), (r 10), (r 9), (f 17), (g 16), rfl, by decide⟩, by unfold mB; rw [ht]; exact hP⟩, hS.F ht⟩) hS.2.2 dX10_seek_19
set_option maxHeartbeats 4000000 in
set_option maxRecDepth 100000 in
theorem c_X10_best (l : Launch) (D : va_G) (cy : Nat → ClassId) (mo : Nat) (a : Nat → Nat) (f : Nat → Int32) (g : Nat → Int64) (r : Nat → Nat → Int32) (q : Nat → Nat → Int64) (j : Int32) (hD : DM cy mo a) (hI : MI f r) : Mi l D cy mo a yX10_best wsX10_best ({ frames := 6, cells := 0, slots := 0, locals := 150 }) f g r q [.int j] (fun r0 u => ∃ (th : Int32), ∃ (dp : Int32), ∃ (tr : Int32), ∃ (sp : Int32), ∃ (fd : Int64), ∃ (rw : Nat → Int32), ∃ (mt : Nat → Int32), ∃ (bs : Int32), ∃ (bp : Int64), u = ((upd (upd (upd (upd (upd f 0 th) 11 dp) 12 tr) 13 sp) 17 bs), (vp_updL (vp_updL g 14 fd) 16 bp), (va_up (va_up r 10 rw) 9 mt), q) ∧ (True)) := by
  refine Met.ofW (cc := cX10_best) (maxL := 2) (ret := (some .int)) (by decide) rfl ?_
  intro p e s m args below meth c s₁ B hml hv
  obtain ⟨rfl, hP, hK⟩ := hv
  have hx := B.exec
  have hb := B.bytes
  have hr := B.returns
  have hts := atoms_spec (ws := wsX10_best) B.pre
  have hin : ∀ w ∈ u_ws RX10 TX10 35, w ∈ wsX10_best := by decide +kernel
  have hown : s.vm.findClass RX10 = some m.cls := findClass_of_methodNamed B.named
  have hlocks := B.notSynchronized
  have hS : va_S (AM mo a) s.heap s.heap [] := va_S.rf
  have hl := lv_entry ([.ref mo, .int j]) (n := 2) (Nat.le_of_ble_eq_true rfl)
  rw [lg_entry_eq]
  generalize (lg_sl ([.ref mo, .int j]) ++ List.replicate (2 - (lg_sl ([.ref mo, .int j])).length) Slot.unset).toArray = ls at hl ⊢
  have hl : lv_has ls 2 [(0, .ref mo), (1, .int j)] := hl
  have k_0 : (0 : Int32).toInt = 0 := by decide
  have hI1 := hI.1
  refine lv_aload_n hx hb dX10_best_0 rfl (lv_at hl 0 rfl) ?_
  refine lv_aload_n hx hb dX10_best_1 rfl (lv_at hl 0 rfl) ?_
  refine lv_iload_n hx hb dX10_best_2 rfl (lv_at hl 1 rfl) ?_
  refine m_calli (As := [.int j]) (rest := [.ref mo]) ⟨hx, hb, hml, hown, hts⟩ (c_X10_seek l D cy mo a f g r q j hD hI) (cwV 1 hts gX10_best_X10_seek rfl rfl rfl (by decide +kernel) ⟨Nat.le_of_ble_eq_true rfl, Nat.le_of_ble_eq_true rfl⟩) hK hP rfl hl.1 rfl (Nat.le_of_ble_eq_true rfl) dX10_best_3 ⟨Nat.le_of_ble_eq_true rfl, Nat.le_of_ble_eq_true rfl⟩ hS (fun r3 u H locs q3 hP hS => ?_)
  obtain ⟨dp_3, tr_3, sp_3, fd_3, rw_3, mt_3, bs_3, bp_3, rfl, q3⟩ := q3
  have hP : va_P D vwCl (WM cy mo a (upd (upd (upd (upd f 11 dp_3) 12 tr_3) 13 sp_3) 17 bs_3) (vp_updL (vp_updL g 14 fd_3) 16 bp_3) (va_up (va_up r 10 rw_3) 9 mt_3) q) H := hP
  have q3 : 0 ≤ r3.toInt ∧ r3.toInt ≤ 2 := q3
  refine m_put (v := .int r3) (ty := .int) hx hb hts hin hown hK hP hD hS 0 (by decide) rfl (hts (.fieldLink RX10 79 "ShadowBenchModel" "thrown" "I") (by decide +kernel)) rfl (by decide +kernel) rfl rfl (upd (upd (upd (upd (upd f 11 dp_3) 12 tr_3) 13 sp_3) 17 bs_3) 0 r3) (vp_updL (vp_updL g 14 fd_3) 16 bp_3) rfl dX10_best_6 (fun H locs hP hS => ?_)
  refine lv_aload_n hx hb dX10_best_9 rfl (lv_at hl 0 rfl) ?_
  refine m_get (v := .int r3) hx hb hts hin hown hK hP 0 (by decide) rfl (hts (.fieldLink RX10 79 "ShadowBenchModel" "thrown" "I") (by decide +kernel)) rfl dX10_best_10 ?_
  refine lv_if_le (tgt := 20) hx hb dX10_best_13 (by decide) (fun c13 => ?_) (fun c13 => ?_)
  · skip
    have d13 := c13
    rw [fa_le] at d13
    refine lv_aload_n hx hb dX10_best_20 rfl (lv_at hl 0 rfl) ?_
    refine m_get (v := .int bs_3) hx hb hts hin hown hK hP 17 (by decide) rfl (hts (.fieldLink RX10 191 "ShadowBenchModel" "bestSum" "I") (by decide +kernel)) rfl dX10_best_21 ?_
    have hP := wm_eq (ec_f_11_12_13_17_0__0_11_12_13_17 f dp_3 tr_3 sp_3 bs_3 r3) rfl rfl rfl hP
    exact W.iret (v := bs_3) hx hb hr (fun t ht hW => ⟨⟨_, ((upd (upd (upd (upd (upd f 0 r3) 11 dp_3) 12 tr_3) 13 sp_3) 17 bs_3), (vp_updL (vp_updL g 14 fd_3) 16 bp_3), (va_up (va_up r 10 rw_3) 9 mt_3), q), rfl, ⟨r3, dp_3, tr_3, sp_3, fd_3, rw_3, mt_3, bs_3, bp_3, rfl, trivial⟩, by unfold mB; rw [ht]; exact hP⟩, hS.F ht⟩) hS.2.2 dX10_best_24
  · skip
    have d13 := c13
    rw [fa_le] at d13
    refine lv_iconst (v := 0) hx hb dX10_best_16 (by decide) ?_
    refine lv_goto (tgt := 24) hx hb dX10_best_17 (by decide) ?_
    have hP := wm_eq (ec_f_11_12_13_17_0__0_11_12_13_17 f dp_3 tr_3 sp_3 bs_3 r3) rfl rfl rfl hP
    exact W.iret (v := (0 : Int32)) hx hb hr (fun t ht hW => ⟨⟨_, ((upd (upd (upd (upd (upd f 0 r3) 11 dp_3) 12 tr_3) 13 sp_3) 17 bs_3), (vp_updL (vp_updL g 14 fd_3) 16 bp_3), (va_up (va_up r 10 rw_3) 9 mt_3), q), rfl, ⟨r3, dp_3, tr_3, sp_3, fd_3, rw_3, mt_3, bs_3, bp_3, rfl, trivial⟩, by unfold mB; rw [ht]; exact hP⟩, hS.F ht⟩) hS.2.2 dX10_best_24
set_option maxHeartbeats 4000000 in
set_option maxRecDepth 100000 in
theorem c_X10_bestOne (l : Launch) (D : va_G) (cy : Nat → ClassId) (mo : Nat) (a : Nat → Nat) (f : Nat → Int32) (g : Nat → Int64) (r : Nat → Nat → Int32) (q : Nat → Nat → Int64) (j : Int32) (hD : DM cy mo a) (hI : MI f r) : Ml l D cy mo a yX10_bestOne wsX10_bestOne ({ frames := 6, cells := 0, slots := 0, locals := 150 }) f g r q [.int j] (fun r0 u => ∃ (th : Int32), ∃ (dp : Int32), ∃ (tr : Int32), ∃ (sp : Int32), ∃ (fd : Int64), ∃ (rw : Nat → Int32), ∃ (mt : Nat → Int32), ∃ (bs : Int32), ∃ (bp : Int64), u = ((upd (upd (upd (upd (upd f 0 th) 11 dp) 12 tr) 13 sp) 17 bs), (vp_updL (vp_updL g 14 fd) 16 bp), (va_up (va_up r 10 rw) 9 mt), q) ∧ (True)) := by
  refine Met.ofW (cc := cX10_bestOne) (maxL := 2) (ret := (some .long)) (by decide) rfl ?_
  intro p e s m args below meth c s₁ B hml hv
  obtain ⟨rfl, hP, hK⟩ := hv
  have hx := B.exec
  have hb := B.bytes
  have hr := B.returns
  have hts := atoms_spec (ws := wsX10_bestOne) B.pre
  have hin : ∀ w ∈ u_ws RX10 TX10 35, w ∈ wsX10_bestOne := by decide +kernel
  have hown : s.vm.findClass RX10 = some m.cls := findClass_of_methodNamed B.named
  have hlocks := B.notSynchronized
  have hS : va_S (AM mo a) s.heap s.heap [] := va_S.rf
  have hl := lv_entry ([.ref mo, .int j]) (n := 2) (Nat.le_of_ble_eq_true rfl)
  rw [lg_entry_eq]
  generalize (lg_sl ([.ref mo, .int j]) ++ List.replicate (2 - (lg_sl ([.ref mo, .int j])).length) Slot.unset).toArray = ls at hl ⊢
  have hl : lv_has ls 2 [(0, .ref mo), (1, .int j)] := hl
  have k_0 : (0 : Int32).toInt = 0 := by decide
  have k_0L : (0 : Int64).toInt = 0 := by decide
  have hI1 := hI.1
  refine lv_aload_n hx hb dX10_bestOne_0 rfl (lv_at hl 0 rfl) ?_
  refine lv_aload_n hx hb dX10_bestOne_1 rfl (lv_at hl 0 rfl) ?_
  refine lv_iload_n hx hb dX10_bestOne_2 rfl (lv_at hl 1 rfl) ?_
  refine m_calli (As := [.int j]) (rest := [.ref mo]) ⟨hx, hb, hml, hown, hts⟩ (c_X10_seek l D cy mo a f g r q j hD hI) (cwV 1 hts gX10_bestOne_X10_seek rfl rfl rfl (by decide +kernel) ⟨Nat.le_of_ble_eq_true rfl, Nat.le_of_ble_eq_true rfl⟩) hK hP rfl hl.1 rfl (Nat.le_of_ble_eq_true rfl) dX10_bestOne_3 ⟨Nat.le_of_ble_eq_true rfl, Nat.le_of_ble_eq_true rfl⟩ hS (fun r3 u H locs q3 hP hS => ?_)
  obtain ⟨dp_3, tr_3, sp_3, fd_3, rw_3, mt_3, bs_3, bp_3, rfl, q3⟩ := q3
  have hP : va_P D vwCl (WM cy mo a (upd (upd (upd (upd f 11 dp_3) 12 tr_3) 13 sp_3) 17 bs_3) (vp_updL (vp_updL g 14 fd_3) 16 bp_3) (va_up (va_up r 10 rw_3) 9 mt_3) q) H := hP
  have q3 : 0 ≤ r3.toInt ∧ r3.toInt ≤ 2 := q3
  refine m_put (v := .int r3) (ty := .int) hx hb hts hin hown hK hP hD hS 0 (by decide) rfl (hts (.fieldLink RX10 79 "ShadowBenchModel" "thrown" "I") (by decide +kernel)) rfl (by decide +kernel) rfl rfl (upd (upd (upd (upd (upd f 11 dp_3) 12 tr_3) 13 sp_3) 17 bs_3) 0 r3) (vp_updL (vp_updL g 14 fd_3) 16 bp_3) rfl dX10_bestOne_6 (fun H locs hP hS => ?_)
  refine lv_aload_n hx hb dX10_bestOne_9 rfl (lv_at hl 0 rfl) ?_
  refine m_get (v := .int r3) hx hb hts hin hown hK hP 0 (by decide) rfl (hts (.fieldLink RX10 79 "ShadowBenchModel" "thrown" "I") (by decide +kernel)) rfl dX10_bestOne_10 ?_
  refine lv_if_le (tgt := 20) hx hb dX10_bestOne_13 (by decide) (fun c13 => ?_) (fun c13 => ?_)
  · skip
    have d13 := c13
    rw [fa_le] at d13
    refine lv_aload_n hx hb dX10_bestOne_20 rfl (lv_at hl 0 rfl) ?_
    refine m_get (v := .long bp_3) hx hb hts hin hown hK hP 16 (by decide) rfl (hts (.fieldLink RX10 194 "ShadowBenchModel" "bestPicture" "J") (by decide +kernel)) rfl dX10_bestOne_21 ?_
    have hP := wm_eq (ec_f_11_12_13_17_0__0_11_12_13_17 f dp_3 tr_3 sp_3 bs_3 r3) rfl rfl rfl hP
    exact W.lret (v := bp_3) hx hb hr (fun t ht hW => ⟨⟨_, ((upd (upd (upd (upd (upd f 0 r3) 11 dp_3) 12 tr_3) 13 sp_3) 17 bs_3), (vp_updL (vp_updL g 14 fd_3) 16 bp_3), (va_up (va_up r 10 rw_3) 9 mt_3), q), rfl, ⟨r3, dp_3, tr_3, sp_3, fd_3, rw_3, mt_3, bs_3, bp_3, rfl, trivial⟩, by unfold mB; rw [ht]; exact hP⟩, hS.F ht⟩) hS.2.2 dX10_bestOne_24
  · skip
    have d13 := c13
    rw [fa_le] at d13
    refine lv_lconst (v := 0) hx hb dX10_bestOne_16 (by decide) ?_
    refine lv_goto (tgt := 24) hx hb dX10_bestOne_17 (by decide) ?_
    have hP := wm_eq (ec_f_11_12_13_17_0__0_11_12_13_17 f dp_3 tr_3 sp_3 bs_3 r3) rfl rfl rfl hP
    exact W.lret (v := (0 : Int64)) hx hb hr (fun t ht hW => ⟨⟨_, ((upd (upd (upd (upd (upd f 0 r3) 11 dp_3) 12 tr_3) 13 sp_3) 17 bs_3), (vp_updL (vp_updL g 14 fd_3) 16 bp_3), (va_up (va_up r 10 rw_3) 9 mt_3), q), rfl, ⟨r3, dp_3, tr_3, sp_3, fd_3, rw_3, mt_3, bs_3, bp_3, rfl, trivial⟩, by unfold mB; rw [ht]; exact hP⟩, hS.F ht⟩) hS.2.2 dX10_bestOne_24
set_option maxHeartbeats 4000000 in
set_option maxRecDepth 100000 in
theorem c_X10_goSwitches (l : Launch) (D : va_G) (cy : Nat → ClassId) (mo : Nat) (a : Nat → Nat) (f : Nat → Int32) (g : Nat → Int64) (r : Nat → Nat → Int32) (q : Nat → Nat → Int64) (w : Int32) (h : Int32) (p0 : Int64) (at0 : Int32) (hD : DM cy mo a) (hw : 1 ≤ w.toInt ∧ w.toInt ≤ 6) (hh : 1 ≤ h.toInt ∧ h.toInt ≤ 6) : Mi l D cy mo a yX10_goSwitches wsX10_goSwitches ({ frames := 1, cells := 0, slots := 0, locals := 22 }) f g r q [.int w, .int h, .long p0, .int at0] (fun r0 u => ∃ (bh : Int64), u = (f, (vp_updL g 18 bh), r, q) ∧ (True)) := by
  refine Met.ofW (cc := cX10_goSwitches) (maxL := 15) (ret := (some .int)) (by decide) rfl ?_
  intro p e s m args below meth c s₁ B hml hv
  obtain ⟨rfl, hP, hK⟩ := hv
  have hx := B.exec
  have hb := B.bytes
  have hr := B.returns
  have hts := atoms_spec (ws := wsX10_goSwitches) B.pre
  have hin : ∀ w ∈ u_ws RX10 TX10 35, w ∈ wsX10_goSwitches := by decide +kernel
  have hown : s.vm.findClass RX10 = some m.cls := findClass_of_methodNamed B.named
  have hlocks := B.notSynchronized
  have hS : va_S (AM mo a) s.heap s.heap [] := va_S.rf
  have hl := lv_entry ([.ref mo, .int w, .int h, .long p0, .int at0]) (n := 15) (Nat.le_of_ble_eq_true rfl)
  rw [lg_entry_eq]
  generalize (lg_sl ([.ref mo, .int w, .int h, .long p0, .int at0]) ++ List.replicate (15 - (lg_sl ([.ref mo, .int w, .int h, .long p0, .int at0])).length) Slot.unset).toArray = ls at hl ⊢
  have hl : lv_has ls 15 [(0, .ref mo), (1, .int w), (2, .int h), (3, .long p0), (5, .int at0)] := hl
  have k_0 : (0 : Int32).toInt = 0 := by decide
  have k_1 : (1 : Int32).toInt = 1 := by decide
  have k_1L : (1 : Int64).toInt = 1 := by decide
  refine lv_iconst (v := 0) hx hb dX10_goSwitches_0 (by decide) ?_
  refine lv_istore (lv' := [(6, .int (0 : Int32)), (0, .ref mo), (1, .int w), (2, .int h), (3, .long p0), (5, .int at0)]) hx hb dX10_goSwitches_1 hl (by decide) rfl (fun ls hl => ?_)
  refine lv_iconst (v := 0) hx hb dX10_goSwitches_3 (by decide) ?_
  refine lv_istore (lv' := [(7, .int (0 : Int32)), (6, .int (0 : Int32)), (0, .ref mo), (1, .int w), (2, .int h), (3, .long p0), (5, .int at0)]) hx hb dX10_goSwitches_4 hl (by decide) rfl (fun ls hl => ?_)
  have loop_6 : ∀ (n : Nat) (k : Nat) (x6 : Int32) (bh1 : Int64), (k ≤ 6) → 6 - k < n → ∀ (H : Heap) (locs : List Loc), va_P D vwCl (WM cy mo a f (vp_updL g 18 bh1) r q) H → va_S (AM mo a) s.heap H locs → ∀ (ls : Array Slot), lv_has ls 15 [(7, .int (nI k)), (6, .int x6), (0, .ref mo), (1, .int w), (2, .int h), (3, .long p0), (5, .int at0)] → W p l e (headSpec wsX10_goSwitches ({ frames := 1, cells := 0, slots := 0, locals := 22 })).room s m #[Value.ref mo, Value.int w, Value.int h, Value.long p0, Value.int at0] below meth c H locs 0 0 (MQ below (va_Qi (fun r0 u => ∃ (bh : Int64), u = (f, (vp_updL g 18 bh), r, q) ∧ (True)) (mB D cy mo a) (AM mo a)) #[Value.ref mo, Value.int w, Value.int h, Value.long p0, Value.int at0] s 0 0 (AM mo a)) (F0 m 6 ls []) := by
    intro n
    induction n with
    | zero => intro k x6 bh1 j6_0 hn; exact absurd hn (Nat.not_lt_zero _)
    | succ n ih_6 =>
      intro k x6 bh1 j6_0 hn_6 H locs hP hS ls hl
      have ik : (nI k).toInt = (k : Int) := nI_toInt (by omega)
      refine lv_iload hx hb dX10_goSwitches_6 (lv_at hl 0 rfl) ?_
      refine lv_iload_n hx hb dX10_goSwitches_8 rfl (lv_at hl 4 rfl) ?_
      refine lv_icmp_ge (tgt := 204) hx hb dX10_goSwitches_9 (by decide) (fun c9 => ?_) (fun c9 => ?_)
      · skip
        have d9 := c9
        rw [fa_le] at d9
        refine lv_iload hx hb dX10_goSwitches_204 (lv_at hl 1 rfl) ?_
        exact W.iret (v := x6) hx hb hr (fun t ht hW => ⟨⟨_, (f, (vp_updL g 18 bh1), r, q), rfl, ⟨bh1, rfl, trivial⟩, by unfold mB; rw [ht]; exact hP⟩, hS.F ht⟩) hS.2.2 dX10_goSwitches_206
      · skip
        have d9 := c9
        rw [fa_le] at d9
        refine lv_iload hx hb dX10_goSwitches_12 (lv_at hl 0 rfl) ?_
        refine lv_iconst (v := 1) hx hb dX10_goSwitches_14 (by decide) ?_
        refine lv_iadd hx hb dX10_goSwitches_15 ?_
        refine lv_topi (fun v15 e15 => ?_)
        obtain rfl : v15 = nI (k + 1) := e15.trans (nI_1 _)
        refine lv_istore (lv' := [(8, .int (nI (k + 1))), (7, .int (nI k)), (6, .int x6), (0, .ref mo), (1, .int w), (2, .int h), (3, .long p0), (5, .int at0)]) hx hb dX10_goSwitches_16 hl (by decide) rfl (fun ls hl => ?_)
        have loop_18 : ∀ (n : Nat) (k2 : Nat) (y6 : Int32) (bh2 : Int64), (k2 ≤ 6) → 6 - k2 < n → ∀ (H : Heap) (locs : List Loc), va_P D vwCl (WM cy mo a f (vp_updL g 18 bh2) r q) H → va_S (AM mo a) s.heap H locs → ∀ (ls : Array Slot), lv_has ls 15 [(8, .int (nI k2)), (7, .int (nI k)), (6, .int y6), (0, .ref mo), (1, .int w), (2, .int h), (3, .long p0), (5, .int at0)] → W p l e (headSpec wsX10_goSwitches ({ frames := 1, cells := 0, slots := 0, locals := 22 })).room s m #[Value.ref mo, Value.int w, Value.int h, Value.long p0, Value.int at0] below meth c H locs 0 0 (MQ below (va_Qi (fun r0 u => ∃ (bh : Int64), u = (f, (vp_updL g 18 bh), r, q) ∧ (True)) (mB D cy mo a) (AM mo a)) #[Value.ref mo, Value.int w, Value.int h, Value.long p0, Value.int at0] s 0 0 (AM mo a)) (F0 m 18 ls []) := by
          intro n
          induction n with
          | zero => intro k2 y6 bh2 j18_0 hn; exact absurd hn (Nat.not_lt_zero _)
          | succ n ih_18 =>
            intro k2 y6 bh2 j18_0 hn_18 H locs hP hS ls hl
            have ik2 : (nI k2).toInt = (k2 : Int) := nI_toInt (by omega)
            refine lv_iload hx hb dX10_goSwitches_18 (lv_at hl 0 rfl) ?_
            refine lv_iload_n hx hb dX10_goSwitches_20 rfl (lv_at hl 5 rfl) ?_
            refine lv_icmp_ge (tgt := 198) hx hb dX10_goSwitches_21 (by decide) (fun c21 => ?_) (fun c21 => ?_)
            · skip
              have d21 := c21
              rw [fa_le] at d21
              refine lv_iinc (v := (nI (k + 1))) (lv' := [(7, .int (nI (k + 1))), (8, .int (nI k2)), (6, .int y6), (0, .ref mo), (1, .int w), (2, .int h), (3, .long p0), (5, .int at0)]) hx hb dX10_goSwitches_198 hl (k := 1) rfl (nI_1 _) (by decide) rfl (fun ls hl => ?_)
              refine lv_goto (tgt := 6) hx hb dX10_goSwitches_201 (by decide) ?_
              exact ih_6 (k + 1) y6 bh2 (by omega) (by omega) _ _ hP hS ls (lv_sub hl [0, 2, 3, 4, 5, 6, 7] rfl)
            · skip
              have d21 := c21
              rw [fa_le] at d21
              refine lv_iconst (v := 0) hx hb dX10_goSwitches_24 (by decide) ?_
              refine lv_istore (lv' := [(9, .int (0 : Int32)), (8, .int (nI k2)), (7, .int (nI k)), (6, .int y6), (0, .ref mo), (1, .int w), (2, .int h), (3, .long p0), (5, .int at0)]) hx hb dX10_goSwitches_25 hl (by decide) rfl (fun ls hl => ?_)
              have loop_27 : ∀ (n : Nat) (k3 : Nat) (z6 : Int32) (bh3 : Int64), (k3 ≤ 6) → 6 - k3 < n → ∀ (H : Heap) (locs : List Loc), va_P D vwCl (WM cy mo a f (vp_updL g 18 bh3) r q) H → va_S (AM mo a) s.heap H locs → ∀ (ls : Array Slot), lv_has ls 15 [(9, .int (nI k3)), (8, .int (nI k2)), (7, .int (nI k)), (6, .int z6), (0, .ref mo), (1, .int w), (2, .int h), (3, .long p0), (5, .int at0)] → W p l e (headSpec wsX10_goSwitches ({ frames := 1, cells := 0, slots := 0, locals := 22 })).room s m #[Value.ref mo, Value.int w, Value.int h, Value.long p0, Value.int at0] below meth c H locs 0 0 (MQ below (va_Qi (fun r0 u => ∃ (bh : Int64), u = (f, (vp_updL g 18 bh), r, q) ∧ (True)) (mB D cy mo a) (AM mo a)) #[Value.ref mo, Value.int w, Value.int h, Value.long p0, Value.int at0] s 0 0 (AM mo a)) (F0 m 27 ls []) := by
                intro n
                induction n with
                | zero => intro k3 z6 bh3 j27_0 hn; exact absurd hn (Nat.not_lt_zero _)
                | succ n ih_27 =>
                  intro k3 z6 bh3 j27_0 hn_27 H locs hP hS ls hl
                  have ik3 : (nI k3).toInt = (k3 : Int) := nI_toInt (by omega)
                  refine lv_iload hx hb dX10_goSwitches_27 (lv_at hl 0 rfl) ?_
                  refine lv_iload_n hx hb dX10_goSwitches_29 rfl (lv_at hl 5 rfl) ?_
                  refine lv_icmp_ge (tgt := 192) hx hb dX10_goSwitches_30 (by decide) (fun c30 => ?_) (fun c30 => ?_)
                  · skip
                    have d30 := c30
                    rw [fa_le] at d30
                    refine lv_iinc (v := (nI (k2 + 1))) (lv' := [(8, .int (nI (k2 + 1))), (9, .int (nI k3)), (7, .int (nI k)), (6, .int z6), (0, .ref mo), (1, .int w), (2, .int h), (3, .long p0), (5, .int at0)]) hx hb dX10_goSwitches_192 hl (k := 1) rfl (nI_1 _) (by decide) rfl (fun ls hl => ?_)
                    refine lv_goto (tgt := 18) hx hb dX10_goSwitches_195 (by decide) ?_
                    exact ih_18 (k2 + 1) z6 bh3 (by omega) (by omega) _ _ hP hS ls (lv_sub hl [0, 2, 3, 4, 5, 6, 7, 8] rfl)
                  · skip
                    have d30 := c30
                    rw [fa_le] at d30
                    refine lv_iload hx hb dX10_goSwitches_33 (lv_at hl 0 rfl) ?_
                    refine lv_iconst (v := 1) hx hb dX10_goSwitches_35 (by decide) ?_
                    refine lv_iadd hx hb dX10_goSwitches_36 ?_
                    refine lv_topi (fun v36 e36 => ?_)
                    obtain rfl : v36 = nI (k3 + 1) := e36.trans (nI_1 _)
                    refine lv_istore (lv' := [(10, .int (nI (k3 + 1))), (9, .int (nI k3)), (8, .int (nI k2)), (7, .int (nI k)), (6, .int z6), (0, .ref mo), (1, .int w), (2, .int h), (3, .long p0), (5, .int at0)]) hx hb dX10_goSwitches_37 hl (by decide) rfl (fun ls hl => ?_)
                    have loop_39 : ∀ (n : Nat) (k4 : Nat) (u6 : Int32) (bh4 : Int64), (k4 ≤ 6) → 6 - k4 < n → ∀ (H : Heap) (locs : List Loc), va_P D vwCl (WM cy mo a f (vp_updL g 18 bh4) r q) H → va_S (AM mo a) s.heap H locs → ∀ (ls : Array Slot), lv_has ls 15 [(10, .int (nI k4)), (9, .int (nI k3)), (8, .int (nI k2)), (7, .int (nI k)), (6, .int u6), (0, .ref mo), (1, .int w), (2, .int h), (3, .long p0), (5, .int at0)] → W p l e (headSpec wsX10_goSwitches ({ frames := 1, cells := 0, slots := 0, locals := 22 })).room s m #[Value.ref mo, Value.int w, Value.int h, Value.long p0, Value.int at0] below meth c H locs 0 0 (MQ below (va_Qi (fun r0 u => ∃ (bh : Int64), u = (f, (vp_updL g 18 bh), r, q) ∧ (True)) (mB D cy mo a) (AM mo a)) #[Value.ref mo, Value.int w, Value.int h, Value.long p0, Value.int at0] s 0 0 (AM mo a)) (F0 m 39 ls []) := by
                      intro n
                      induction n with
                      | zero => intro k4 u6 bh4 j39_0 hn; exact absurd hn (Nat.not_lt_zero _)
                      | succ n ih_39 =>
                        intro k4 u6 bh4 j39_0 hn_39 H locs hP hS ls hl
                        have ik4 : (nI k4).toInt = (k4 : Int) := nI_toInt (by omega)
                        refine lv_iload hx hb dX10_goSwitches_39 (lv_at hl 0 rfl) ?_
                        refine lv_iload_n hx hb dX10_goSwitches_41 rfl (lv_at hl 6 rfl) ?_
                        refine lv_icmp_ge (tgt := 186) hx hb dX10_goSwitches_42 (by decide) (fun c42 => ?_) (fun c42 => ?_)
                        · skip
                          have d42 := c42
                          rw [fa_le] at d42
                          refine lv_iinc (v := (nI (k3 + 1))) (lv' := [(9, .int (nI (k3 + 1))), (10, .int (nI k4)), (8, .int (nI k2)), (7, .int (nI k)), (6, .int u6), (0, .ref mo), (1, .int w), (2, .int h), (3, .long p0), (5, .int at0)]) hx hb dX10_goSwitches_186 hl (k := 1) rfl (nI_1 _) (by decide) rfl (fun ls hl => ?_)
                          refine lv_goto (tgt := 27) hx hb dX10_goSwitches_189 (by decide) ?_
                          exact ih_27 (k3 + 1) u6 bh4 (by omega) (by omega) _ _ hP hS ls (lv_sub hl [0, 2, 3, 4, 5, 6, 7, 8, 9] rfl)
                        · skip
                          have d42 := c42
                          rw [fa_le] at d42
                          refine lv_lload_n hx hb dX10_goSwitches_45 rfl (lv_at hl 8 rfl) ?_
                          refine lv_iload hx hb dX10_goSwitches_46 (lv_at hl 3 rfl) ?_
                          refine lv_iload_n hx hb dX10_goSwitches_48 rfl (lv_at hl 6 rfl) ?_
                          refine lv_imul hx hb dX10_goSwitches_49 ?_
                          refine lv_topi (fun v49 e49 => ?_)
                          refine lv_iload hx hb dX10_goSwitches_50 (lv_at hl 1 rfl) ?_
                          refine lv_iadd hx hb dX10_goSwitches_52 ?_
                          refine lv_topi (fun v52 e52 => ?_)
                          refine m_pu (As := [.long p0, .int v52]) (rest := []) ⟨hx, hb, hml, hown, hts⟩ (c_X10_one l p0 v52 ) (va_cwS 2 hts gX10_goSwitches_X10_one rfl rfl rfl (by decide +kernel) ⟨Nat.le_of_ble_eq_true rfl, Nat.le_of_ble_eq_true rfl⟩) hP rfl hl.1 rfl (Nat.le_of_ble_eq_true rfl) dX10_goSwitches_53 ⟨Nat.le_of_ble_eq_true rfl, Nat.le_of_ble_eq_true rfl⟩ hS (fun r53 H locs q53 hP hS => ?_)
                          have i53 : r53.toInt = (r_one p0 v52).toInt := congrArg Int32.toInt q53
                          refine lv_istore (lv' := [(11, .int r53), (10, .int (nI k4)), (9, .int (nI k3)), (8, .int (nI k2)), (7, .int (nI k)), (6, .int u6), (0, .ref mo), (1, .int w), (2, .int h), (3, .long p0), (5, .int at0)]) hx hb dX10_goSwitches_56 hl (by decide) rfl (fun ls hl => ?_)
                          refine lv_lload_n hx hb dX10_goSwitches_58 rfl (lv_at hl 9 rfl) ?_
                          refine lv_iload hx hb dX10_goSwitches_59 (lv_at hl 3 rfl) ?_
                          refine lv_iload_n hx hb dX10_goSwitches_61 rfl (lv_at hl 7 rfl) ?_
                          refine lv_imul hx hb dX10_goSwitches_62 ?_
                          refine lv_topi (fun v62 e62 => ?_)
                          refine lv_iload hx hb dX10_goSwitches_63 (lv_at hl 1 rfl) ?_
                          refine lv_iadd hx hb dX10_goSwitches_65 ?_
                          refine lv_topi (fun v65 e65 => ?_)
                          refine m_pu (As := [.long p0, .int v65]) (rest := []) ⟨hx, hb, hml, hown, hts⟩ (c_X10_one l p0 v65 ) (va_cwS 2 hts gX10_goSwitches_X10_one rfl rfl rfl (by decide +kernel) ⟨Nat.le_of_ble_eq_true rfl, Nat.le_of_ble_eq_true rfl⟩) hP rfl hl.1 rfl (Nat.le_of_ble_eq_true rfl) dX10_goSwitches_66 ⟨Nat.le_of_ble_eq_true rfl, Nat.le_of_ble_eq_true rfl⟩ hS (fun r66 H locs q66 hP hS => ?_)
                          have i66 : r66.toInt = (r_one p0 v65).toInt := congrArg Int32.toInt q66
                          refine lv_istore (lv' := [(12, .int r66), (11, .int r53), (10, .int (nI k4)), (9, .int (nI k3)), (8, .int (nI k2)), (7, .int (nI k)), (6, .int u6), (0, .ref mo), (1, .int w), (2, .int h), (3, .long p0), (5, .int at0)]) hx hb dX10_goSwitches_69 hl (by decide) rfl (fun ls hl => ?_)
                          refine lv_lload_n hx hb dX10_goSwitches_71 rfl (lv_at hl 10 rfl) ?_
                          refine lv_iload hx hb dX10_goSwitches_72 (lv_at hl 5 rfl) ?_
                          refine lv_iload_n hx hb dX10_goSwitches_74 rfl (lv_at hl 8 rfl) ?_
                          refine lv_imul hx hb dX10_goSwitches_75 ?_
                          refine lv_topi (fun v75 e75 => ?_)
                          refine lv_iload hx hb dX10_goSwitches_76 (lv_at hl 2 rfl) ?_
                          refine lv_iadd hx hb dX10_goSwitches_78 ?_
                          refine lv_topi (fun v78 e78 => ?_)
                          refine m_pu (As := [.long p0, .int v78]) (rest := []) ⟨hx, hb, hml, hown, hts⟩ (c_X10_one l p0 v78 ) (va_cwS 2 hts gX10_goSwitches_X10_one rfl rfl rfl (by decide +kernel) ⟨Nat.le_of_ble_eq_true rfl, Nat.le_of_ble_eq_true rfl⟩) hP rfl hl.1 rfl (Nat.le_of_ble_eq_true rfl) dX10_goSwitches_79 ⟨Nat.le_of_ble_eq_true rfl, Nat.le_of_ble_eq_true rfl⟩ hS (fun r79 H locs q79 hP hS => ?_)
                          have i79 : r79.toInt = (r_one p0 v78).toInt := congrArg Int32.toInt q79
                          refine lv_istore (lv' := [(13, .int r79), (12, .int r66), (11, .int r53), (10, .int (nI k4)), (9, .int (nI k3)), (8, .int (nI k2)), (7, .int (nI k)), (6, .int u6), (0, .ref mo), (1, .int w), (2, .int h), (3, .long p0), (5, .int at0)]) hx hb dX10_goSwitches_82 hl (by decide) rfl (fun ls hl => ?_)
                          refine lv_lload_n hx hb dX10_goSwitches_84 rfl (lv_at hl 11 rfl) ?_
                          refine lv_iload hx hb dX10_goSwitches_85 (lv_at hl 5 rfl) ?_
                          refine lv_iload_n hx hb dX10_goSwitches_87 rfl (lv_at hl 9 rfl) ?_
                          refine lv_imul hx hb dX10_goSwitches_88 ?_
                          refine lv_topi (fun v88 e88 => ?_)
                          refine lv_iload hx hb dX10_goSwitches_89 (lv_at hl 4 rfl) ?_
                          refine lv_iadd hx hb dX10_goSwitches_91 ?_
                          refine lv_topi (fun v91 e91 => ?_)
                          refine m_pu (As := [.long p0, .int v91]) (rest := []) ⟨hx, hb, hml, hown, hts⟩ (c_X10_one l p0 v91 ) (va_cwS 2 hts gX10_goSwitches_X10_one rfl rfl rfl (by decide +kernel) ⟨Nat.le_of_ble_eq_true rfl, Nat.le_of_ble_eq_true rfl⟩) hP rfl hl.1 rfl (Nat.le_of_ble_eq_true rfl) dX10_goSwitches_92 ⟨Nat.le_of_ble_eq_true rfl, Nat.le_of_ble_eq_true rfl⟩ hS (fun r92 H locs q92 hP hS => ?_)
                          have i92 : r92.toInt = (r_one p0 v91).toInt := congrArg Int32.toInt q92
                          refine lv_istore (lv' := [(14, .int r92), (13, .int r79), (12, .int r66), (11, .int r53), (10, .int (nI k4)), (9, .int (nI k3)), (8, .int (nI k2)), (7, .int (nI k)), (6, .int u6), (0, .ref mo), (1, .int w), (2, .int h), (3, .long p0), (5, .int at0)]) hx hb dX10_goSwitches_95 hl (by decide) rfl (fun ls hl => ?_)
                          refine lv_iload hx hb dX10_goSwitches_97 (lv_at hl 3 rfl) ?_
                          refine lv_iload hx hb dX10_goSwitches_99 (lv_at hl 2 rfl) ?_
                          refine lv_icmp_ne (tgt := 180) hx hb dX10_goSwitches_101 (by decide) (fun c101 => ?_) (fun c101 => ?_)
                          · skip
                            have d101 := c101
                            rw [fa_eq] at d101
                            refine lv_iinc (v := (nI (k4 + 1))) (lv' := [(10, .int (nI (k4 + 1))), (14, .int r92), (13, .int r79), (12, .int r66), (11, .int r53), (9, .int (nI k3)), (8, .int (nI k2)), (7, .int (nI k)), (6, .int u6), (0, .ref mo), (1, .int w), (2, .int h), (3, .long p0), (5, .int at0)]) hx hb dX10_goSwitches_180 hl (k := 4) rfl (nI_1 _) (by decide) rfl (fun ls hl => ?_)
                            refine lv_goto (tgt := 39) hx hb dX10_goSwitches_183 (by decide) ?_
                            exact ih_39 (k4 + 1) u6 bh4 (by omega) (by omega) _ _ hP hS ls (lv_sub hl [0, 5, 6, 7, 8, 9, 10, 11, 12, 13] rfl)
                          · skip
                            have d101 := c101
                            rw [fa_eq] at d101
                            refine lv_iload hx hb dX10_goSwitches_104 (lv_at hl 1 rfl) ?_
                            refine lv_iload hx hb dX10_goSwitches_106 (lv_at hl 0 rfl) ?_
                            refine lv_icmp_ne (tgt := 180) hx hb dX10_goSwitches_108 (by decide) (fun c108 => ?_) (fun c108 => ?_)
                            · skip
                              have d108 := c108
                              rw [fa_eq] at d108
                              refine lv_iinc (v := (nI (k4 + 1))) (lv' := [(10, .int (nI (k4 + 1))), (14, .int r92), (13, .int r79), (12, .int r66), (11, .int r53), (9, .int (nI k3)), (8, .int (nI k2)), (7, .int (nI k)), (6, .int u6), (0, .ref mo), (1, .int w), (2, .int h), (3, .long p0), (5, .int at0)]) hx hb dX10_goSwitches_180 hl (k := 4) rfl (nI_1 _) (by decide) rfl (fun ls hl => ?_)
                              refine lv_goto (tgt := 39) hx hb dX10_goSwitches_183 (by decide) ?_
                              exact ih_39 (k4 + 1) u6 bh4 (by omega) (by omega) _ _ hP hS ls (lv_sub hl [0, 5, 6, 7, 8, 9, 10, 11, 12, 13] rfl)
                            · skip
                              have d108 := c108
                              rw [fa_eq] at d108
                              refine lv_iload hx hb dX10_goSwitches_111 (lv_at hl 3 rfl) ?_
                              refine lv_iload hx hb dX10_goSwitches_113 (lv_at hl 1 rfl) ?_
                              refine lv_icmp_eq (tgt := 180) hx hb dX10_goSwitches_115 (by decide) (fun c115 => ?_) (fun c115 => ?_)
                              · skip
                                have d115 := c115
                                rw [fa_eq] at d115
                                refine lv_iinc (v := (nI (k4 + 1))) (lv' := [(10, .int (nI (k4 + 1))), (14, .int r92), (13, .int r79), (12, .int r66), (11, .int r53), (9, .int (nI k3)), (8, .int (nI k2)), (7, .int (nI k)), (6, .int u6), (0, .ref mo), (1, .int w), (2, .int h), (3, .long p0), (5, .int at0)]) hx hb dX10_goSwitches_180 hl (k := 4) rfl (nI_1 _) (by decide) rfl (fun ls hl => ?_)
                                refine lv_goto (tgt := 39) hx hb dX10_goSwitches_183 (by decide) ?_
                                exact ih_39 (k4 + 1) u6 bh4 (by omega) (by omega) _ _ hP hS ls (lv_sub hl [0, 5, 6, 7, 8, 9, 10, 11, 12, 13] rfl)
                              · skip
                                have d115 := c115
                                rw [fa_eq] at d115
                                refine lv_aload_n hx hb dX10_goSwitches_118 rfl (lv_at hl 9 rfl) ?_
                                refine lv_iload hx hb dX10_goSwitches_119 (lv_at hl 8 rfl) ?_
                                refine lv_iload hx hb dX10_goSwitches_121 (lv_at hl 13 rfl) ?_
                                refine lv_icmp_ne (tgt := 170) hx hb dX10_goSwitches_123 (by decide) (fun c123 => ?_) (fun c123 => ?_)
                                · skip
                                  have d123 := c123
                                  rw [fa_eq] at d123
                                  refine lv_aload_n hx hb dX10_goSwitches_170 rfl (lv_at hl 9 rfl) ?_
                                  refine m_get (v := .long bh4) hx hb hts hin hown hK hP 18 (by decide) rfl (hts (.fieldLink RX10 201 "ShadowBenchModel" "behind" "J") (by decide +kernel)) rfl dX10_goSwitches_171 ?_
                                  refine m_put (v := .long bh4) (ty := .long) hx hb hts hin hown hK hP hD hS 18 (by decide) rfl (hts (.fieldLink RX10 201 "ShadowBenchModel" "behind" "J") (by decide +kernel)) rfl (by decide +kernel) rfl rfl f (vp_updL g 18 bh4) rfl dX10_goSwitches_174 (fun H locs hP hS => ?_)
                                  obtain ⟨v177, e177⟩ : ∃ y : Int32, y = u6 + 1 := ⟨_, rfl⟩
                                  refine lv_iinc (v := v177) (lv' := [(6, .int v177), (14, .int r92), (13, .int r79), (12, .int r66), (11, .int r53), (10, .int (nI k4)), (9, .int (nI k3)), (8, .int (nI k2)), (7, .int (nI k)), (0, .ref mo), (1, .int w), (2, .int h), (3, .long p0), (5, .int at0)]) hx hb dX10_goSwitches_177 hl (k := 8) rfl (by rw [e177]; rfl) (by decide) rfl (fun ls hl => ?_)
                                  refine lv_iinc (v := (nI (k4 + 1))) (lv' := [(10, .int (nI (k4 + 1))), (6, .int v177), (14, .int r92), (13, .int r79), (12, .int r66), (11, .int r53), (9, .int (nI k3)), (8, .int (nI k2)), (7, .int (nI k)), (0, .ref mo), (1, .int w), (2, .int h), (3, .long p0), (5, .int at0)]) hx hb dX10_goSwitches_180 hl (k := 5) rfl (nI_1 _) (by decide) rfl (fun ls hl => ?_)
                                  refine lv_goto (tgt := 39) hx hb dX10_goSwitches_183 (by decide) ?_
                                  exact ih_39 (k4 + 1) v177 bh4 (by omega) (by omega) _ _ hP hS ls (lv_sub hl [0, 6, 7, 8, 1, 9, 10, 11, 12, 13] rfl)
                                · skip
                                  have d123 := c123
                                  rw [fa_eq] at d123
                                  refine lv_lload_n hx hb dX10_goSwitches_126 rfl (lv_at hl 12 rfl) ?_
                                  refine lv_lconst (v := 1) hx hb dX10_goSwitches_127 (by decide) ?_
                                  refine lv_iload hx hb dX10_goSwitches_128 (lv_at hl 7 rfl) ?_
                                  refine lv_iload_n hx hb dX10_goSwitches_130 rfl (lv_at hl 10 rfl) ?_
                                  refine lv_imul hx hb dX10_goSwitches_131 ?_
                                  refine lv_topi (fun v131 e131 => ?_)
                                  refine lv_iload hx hb dX10_goSwitches_132 (lv_at hl 5 rfl) ?_
                                  refine lv_iadd hx hb dX10_goSwitches_134 ?_
                                  refine lv_topi (fun v134 e134 => ?_)
                                  refine lv_lshl (v := (1 : Int64) <<< (v134.toInt64 &&& 63)) hx hb dX10_goSwitches_135 rfl ?_
                                  refine lv_lxor hx hb dX10_goSwitches_136 ?_
                                  refine lv_topl (fun v136 e136 => ?_)
                                  refine lv_lconst (v := 1) hx hb dX10_goSwitches_137 (by decide) ?_
                                  refine lv_iload hx hb dX10_goSwitches_138 (lv_at hl 6 rfl) ?_
                                  refine lv_iload_n hx hb dX10_goSwitches_140 rfl (lv_at hl 10 rfl) ?_
                                  refine lv_imul hx hb dX10_goSwitches_141 ?_
                                  refine lv_topi (fun v141 e141 => ?_)
                                  refine lv_iload hx hb dX10_goSwitches_142 (lv_at hl 4 rfl) ?_
                                  refine lv_iadd hx hb dX10_goSwitches_144 ?_
                                  refine lv_topi (fun v144 e144 => ?_)
                                  refine lv_lshl (v := (1 : Int64) <<< (v144.toInt64 &&& 63)) hx hb dX10_goSwitches_145 rfl ?_
                                  refine lv_lxor hx hb dX10_goSwitches_146 ?_
                                  refine lv_topl (fun v146 e146 => ?_)
                                  refine lv_lconst (v := 1) hx hb dX10_goSwitches_147 (by decide) ?_
                                  refine lv_iload hx hb dX10_goSwitches_148 (lv_at hl 7 rfl) ?_
                                  refine lv_iload_n hx hb dX10_goSwitches_150 rfl (lv_at hl 10 rfl) ?_
                                  refine lv_imul hx hb dX10_goSwitches_151 ?_
                                  refine lv_topi (fun v151 e151 => ?_)
                                  refine lv_iload hx hb dX10_goSwitches_152 (lv_at hl 4 rfl) ?_
                                  refine lv_iadd hx hb dX10_goSwitches_154 ?_
                                  refine lv_topi (fun v154 e154 => ?_)
                                  refine lv_lshl (v := (1 : Int64) <<< (v154.toInt64 &&& 63)) hx hb dX10_goSwitches_155 rfl ?_
                                  refine lv_lxor hx hb dX10_goSwitches_156 ?_
                                  refine lv_topl (fun v156 e156 => ?_)
                                  refine lv_lconst (v := 1) hx hb dX10_goSwitches_157 (by decide) ?_
                                  refine lv_iload hx hb dX10_goSwitches_158 (lv_at hl 6 rfl) ?_
                                  refine lv_iload_n hx hb dX10_goSwitches_160 rfl (lv_at hl 10 rfl) ?_
                                  refine lv_imul hx hb dX10_goSwitches_161 ?_
                                  refine lv_topi (fun v161 e161 => ?_)
                                  refine lv_iload hx hb dX10_goSwitches_162 (lv_at hl 5 rfl) ?_
                                  refine lv_iadd hx hb dX10_goSwitches_164 ?_
                                  refine lv_topi (fun v164 e164 => ?_)
                                  refine lv_lshl (v := (1 : Int64) <<< (v164.toInt64 &&& 63)) hx hb dX10_goSwitches_165 rfl ?_
                                  refine lv_lxor hx hb dX10_goSwitches_166 ?_
                                  refine lv_topl (fun v166 e166 => ?_)
                                  refine lv_goto (tgt := 174) hx hb dX10_goSwitches_167 (by decide) ?_
                                  refine m_put (v := .long v166) (ty := .long) hx hb hts hin hown hK hP hD hS 18 (by decide) rfl (hts (.fieldLink RX10 201 "ShadowBenchModel" "behind" "J") (by decide +kernel)) rfl (by decide +kernel) rfl rfl f (vp_updL g 18 v166) rfl dX10_goSwitches_174 (fun H locs hP hS => ?_)
                                  obtain ⟨v177, e177⟩ : ∃ y : Int32, y = u6 + 1 := ⟨_, rfl⟩
                                  refine lv_iinc (v := v177) (lv' := [(6, .int v177), (14, .int r92), (13, .int r79), (12, .int r66), (11, .int r53), (10, .int (nI k4)), (9, .int (nI k3)), (8, .int (nI k2)), (7, .int (nI k)), (0, .ref mo), (1, .int w), (2, .int h), (3, .long p0), (5, .int at0)]) hx hb dX10_goSwitches_177 hl (k := 8) rfl (by rw [e177]; rfl) (by decide) rfl (fun ls hl => ?_)
                                  refine lv_iinc (v := (nI (k4 + 1))) (lv' := [(10, .int (nI (k4 + 1))), (6, .int v177), (14, .int r92), (13, .int r79), (12, .int r66), (11, .int r53), (9, .int (nI k3)), (8, .int (nI k2)), (7, .int (nI k)), (0, .ref mo), (1, .int w), (2, .int h), (3, .long p0), (5, .int at0)]) hx hb dX10_goSwitches_180 hl (k := 5) rfl (nI_1 _) (by decide) rfl (fun ls hl => ?_)
                                  refine lv_goto (tgt := 39) hx hb dX10_goSwitches_183 (by decide) ?_
                                  exact ih_39 (k4 + 1) v177 v166 (by omega) (by omega) _ _ hP hS ls (lv_sub hl [0, 6, 7, 8, 1, 9, 10, 11, 12, 13] rfl)
                    exact loop_39 (6 + 1) (k3 + 1) z6 bh3 (by omega) (by omega) _ _ hP hS ls (lv_sub hl [0, 1, 2, 3, 4, 5, 6, 7, 8, 9] rfl)
              exact loop_27 (6 + 1) 0 y6 bh2 (by omega) (by omega) _ _ hP hS ls (lv_sub hl [0, 1, 2, 3, 4, 5, 6, 7, 8] rfl)
        exact loop_18 (6 + 1) (k + 1) x6 bh1 (by omega) (by omega) _ _ hP hS ls (lv_sub hl [0, 1, 2, 3, 4, 5, 6, 7] rfl)
  have hP := wm_eq rfl (ec_g___18 g ) rfl rfl hP
  exact loop_6 (6 + 1) 0 (0 : Int32) (g 18) (by omega) (by omega) _ _ hP hS ls (lv_sub hl [0, 1, 2, 3, 4, 5, 6] rfl)
