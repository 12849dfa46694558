
theorem wm_eq {D : va_G} {cy : Nat → ClassId} {mo : Nat} {a : Nat → Nat} {f1 f2 : Nat → Int32} {g1 g2 : Nat → Int64} {r1 r2 : Nat → Nat → Int32} {q1 q2 : Nat → Nat → Int64} {H : Heap} (ef : f1 = f2) (eg : g1 = g2) (er : r1 = r2) (eq : q1 = q2) (h : va_P D vwCl (WM cy mo a f1 g1 r1 q1) H) : va_P D vwCl (WM cy mo a f2 g2 r2 q2) H := by
  subst ef; subst eg; subst er; subst eq
  exact h
set_option maxHeartbeats 4000000 in
set_option maxRecDepth 100000 in
theorem c_X10_fits (l : Launch) (D : va_G) (cy : Nat → ClassId) (mo : Nat) (a : Nat → Nat) (f : Nat → Int32) (g : Nat → Int64) (r : Nat → Nat → Int32) (q : Nat → Nat → Int64) (j : Int32) (p0 : Int64) (hD : DM cy mo a) (hI : MI f r) : Mi l D cy mo a yX10_fits wsX10_fits ({ frames := 4, cells := 0, slots := 0, locals := 105 }) f g r q [.int j, .long p0] (fun r0 u => ∃ (mt : Nat → Int32), u = ((upd f 0 (0 : Int32)), g, (va_up r 9 mt), q) ∧ (True)) := by
  refine Met.ofW (cc := cX10_fits) (maxL := 4) (ret := (some .int)) (by decide) rfl ?_
  intro p e s m args below meth c s₁ B hml hv
  obtain ⟨rfl, hP, hK⟩ := hv
  have hx := B.exec
  have hb := B.bytes
  have hr := B.returns
  have hts := atoms_spec (ws := wsX10_fits) B.pre
  have hin : ∀ w ∈ u_ws RX10 TX10 35, w ∈ wsX10_fits := by decide +kernel
  have hown : s.vm.findClass RX10 = some m.cls := findClass_of_methodNamed B.named
  have hlocks := B.notSynchronized
  have hS : va_S (AM mo a) s.heap s.heap [] := va_S.rf
  have hl := lv_entry ([.ref mo, .int j, .long p0]) (n := 4) (Nat.le_of_ble_eq_true rfl)
  rw [lg_entry_eq]
  generalize (lg_sl ([.ref mo, .int j, .long p0]) ++ List.replicate (4 - (lg_sl ([.ref mo, .int j, .long p0])).length) Slot.unset).toArray = ls at hl ⊢
  have hl : lv_has ls 4 [(0, .ref mo), (1, .int j), (2, .long p0)] := hl
  have k_m1 : (-1 : Int32).toInt = -1 := by decide
  have k_0 : (0 : Int32).toInt = 0 := by decide
  have k_1 : (1 : Int32).toInt = 1 := by decide
  have hI1 := hI.1
  refine lv_aload_n hx hb dX10_fits_0 rfl (lv_at hl 0 rfl) ?_
  refine lv_iconst (v := 0) hx hb dX10_fits_1 (by decide) ?_
  refine m_put (v := .int (0 : Int32)) (ty := .int) hx hb hts hin hown hK hP hD hS 0 (by decide) rfl (hts (.fieldLink RX10 79 "ShadowBenchModel" "thrown" "I") (by decide +kernel)) rfl (by decide +kernel) rfl rfl (upd f 0 (0 : Int32)) g rfl dX10_fits_2 (fun H locs hP hS => ?_)
  refine lv_aload_n hx hb dX10_fits_5 rfl (lv_at hl 0 rfl) ?_
  refine lv_iload_n hx hb dX10_fits_6 rfl (lv_at hl 1 rfl) ?_
  refine m_calli (As := [.int j]) (rest := []) ⟨hx, hb, hml, hown, hts⟩ (c_X10_isJob l D cy mo a (upd f 0 (0 : Int32)) g r q j hD) (cwV 1 hts gX10_fits_X10_isJob rfl rfl rfl (by decide +kernel) ⟨Nat.le_of_ble_eq_true rfl, Nat.le_of_ble_eq_true rfl⟩) hK hP rfl hl.1 rfl (Nat.le_of_ble_eq_true rfl) dX10_fits_7 ⟨Nat.le_of_ble_eq_true rfl, Nat.le_of_ble_eq_true rfl⟩ hS (fun r7 u H locs q7 hP hS => ?_)
  obtain ⟨rfl, q7⟩ := q7
  have hP : va_P D vwCl (WM cy mo a (upd f 0 (0 : Int32)) g r q) H := hP
  have q7 : Bo r7 (0 ≤ j.toInt ∧ j.toInt < ((f 1)).toInt) := q7
  refine lv_if_eq (tgt := 32) hx hb dX10_fits_10 (by decide) (fun c10 => ?_) (fun c10 => ?_)
  · skip
    have b10 := bo_f q7 c10
    refine lv_iconst (v := (-1)) hx hb dX10_fits_32 (by decide) ?_
    refine lv_goto (tgt := 50) hx hb dX10_fits_33 (by decide) ?_
    exact W.iret (v := ((-1) : Int32)) hx hb hr (fun t ht hW => ⟨⟨_, ((upd f 0 (0 : Int32)), g, (va_up r 9 (r 9)), q), rfl, ⟨(r 9), rfl, trivial⟩, by unfold mB; rw [ht]; exact hP⟩, hS.F ht⟩) hS.2.2 dX10_fits_50
  · skip
    have b10 := bo_t q7 c10
    refine lv_aload_n hx hb dX10_fits_13 rfl (lv_at hl 0 rfl) ?_
    refine m_get (v := .ref (a 3)) hx hb hts hin hown hK hP 3 (by decide) rfl (hts (.fieldLink RX10 13 "ShadowBenchModel" "wide" "[I") (by decide +kernel)) rfl dX10_fits_14 ?_
    refine lv_iload_n hx hb dX10_fits_17 rfl (lv_at hl 1 rfl) ?_
    refine m_iald (w := (r 3)) hx hb hK hP 2 rfl (vp_in_iff.mpr ⟨by omega, by omega⟩) dX10_fits_18 ?_
    refine lv_topi (fun v18 e18 => ?_)
    have i18 : v18.toInt = ((r 3) j.toNatClampNeg).toInt := congrArg Int32.toInt e18
    have w18 := mi_w hI (x := j) (by omega) (by omega) e18
    refine lv_aload_n hx hb dX10_fits_19 rfl (lv_at hl 0 rfl) ?_
    refine m_get (v := .ref (a 4)) hx hb hts hin hown hK hP 4 (by decide) rfl (hts (.fieldLink RX10 16 "ShadowBenchModel" "high" "[I") (by decide +kernel)) rfl dX10_fits_20 ?_
    refine lv_iload_n hx hb dX10_fits_23 rfl (lv_at hl 1 rfl) ?_
    refine m_iald (w := (r 4)) hx hb hK hP 3 rfl (vp_in_iff.mpr ⟨by omega, by omega⟩) dX10_fits_24 ?_
    refine lv_topi (fun v24 e24 => ?_)
    have i24 : v24.toInt = ((r 4) j.toNatClampNeg).toInt := congrArg Int32.toInt e24
    have w24 := mi_h hI (x := j) (by omega) (by omega) e24
    refine lv_lload_n hx hb dX10_fits_25 rfl (lv_at hl 2 rfl) ?_
    refine m_pu (As := [.int v18, .int v24, .long p0]) (rest := []) ⟨hx, hb, hml, hown, hts⟩ (c_X10_isPicture l v18 v24 p0 ) (va_cwS 3 hts gX10_fits_X10_isPicture rfl rfl rfl (by decide +kernel) ⟨Nat.le_of_ble_eq_true rfl, Nat.le_of_ble_eq_true rfl⟩) hP rfl hl.1 rfl (Nat.le_of_ble_eq_true rfl) dX10_fits_26 ⟨Nat.le_of_ble_eq_true rfl, Nat.le_of_ble_eq_true rfl⟩ hS (fun r26 H locs q26 hP hS => ?_)
    refine lv_if_ne (tgt := 36) hx hb dX10_fits_29 (by decide) (fun c29 => ?_) (fun c29 => ?_)
    · skip
      have b29 := bo_t q26 c29
      refine lv_aload_n hx hb dX10_fits_36 rfl (lv_at hl 0 rfl) ?_
      refine lv_iload_n hx hb dX10_fits_37 rfl (lv_at hl 1 rfl) ?_
      refine lv_lload_n hx hb dX10_fits_38 rfl (lv_at hl 2 rfl) ?_
      refine m_calli (As := [.int j, .long p0]) (rest := []) ⟨hx, hb, hml, hown, hts⟩ (c_X10_isFitting l D cy mo a (upd f 0 (0 : Int32)) g r q j p0 hD hI (show 0 ≤ j.toInt ∧ j.toInt < ((f 1)).toInt by omega)) (cwV 2 hts gX10_fits_X10_isFitting rfl rfl rfl (by decide +kernel) ⟨Nat.le_of_ble_eq_true rfl, Nat.le_of_ble_eq_true rfl⟩) hK hP rfl hl.1 rfl (Nat.le_of_ble_eq_true rfl) dX10_fits_39 ⟨Nat.le_of_ble_eq_true rfl, Nat.le_of_ble_eq_true rfl⟩ hS (fun r39 u H locs q39 hP hS => ?_)
      obtain ⟨mt_39, rfl, q39⟩ := q39
      have hP : va_P D vwCl (WM cy mo a (upd f 0 (0 : Int32)) g (va_up r 9 mt_39) q) H := hP
      have q39 : r39 = 0 ∨ r39 = 1 := q39
      refine lv_if_eq (tgt := 49) hx hb dX10_fits_42 (by decide) (fun c42 => ?_) (fun c42 => ?_)
      · skip
        have d42 := c42
        rw [fa_eq] at d42
        refine lv_iconst (v := 0) hx hb dX10_fits_49 (by decide) ?_
        exact W.iret (v := (0 : Int32)) hx hb hr (fun t ht hW => ⟨⟨_, ((upd f 0 (0 : Int32)), g, (va_up r 9 mt_39), q), rfl, ⟨mt_39, rfl, trivial⟩, by unfold mB; rw [ht]; exact hP⟩, hS.F ht⟩) hS.2.2 dX10_fits_50
      · skip
        have d42 := c42
        rw [fa_eq] at d42
        refine lv_iconst (v := 1) hx hb dX10_fits_45 (by decide) ?_
        refine lv_goto (tgt := 50) hx hb dX10_fits_46 (by decide) ?_
        exact W.iret (v := (1 : Int32)) hx hb hr (fun t ht hW => ⟨⟨_, ((upd f 0 (0 : Int32)), g, (va_up r 9 mt_39), q), rfl, ⟨mt_39, rfl, trivial⟩, by unfold mB; rw [ht]; exact hP⟩, hS.F ht⟩) hS.2.2 dX10_fits_50
    · skip
      have b29 := bo_f q26 c29
      refine lv_iconst (v := (-1)) hx hb dX10_fits_32 (by decide) ?_
      refine lv_goto (tgt := 50) hx hb dX10_fits_33 (by decide) ?_
      exact W.iret (v := ((-1) : Int32)) hx hb hr (fun t ht hW => ⟨⟨_, ((upd f 0 (0 : Int32)), g, (va_up r 9 (r 9)), q), rfl, ⟨(r 9), rfl, trivial⟩, by unfold mB; rw [ht]; exact hP⟩, hS.F ht⟩) hS.2.2 dX10_fits_50
theorem ec_f_11_12__11_12_13 (f : Nat → Int32) (v11 : Int32) (v12 : Int32) : (upd (upd f 11 v11) 12 v12) = (upd (upd (upd f 11 v11) 12 v12) 13 (f 13)) := by
  funext j9
  simp only [upd]
  (repeat' split) <;> simp_all
theorem ec_g___14 (f : Nat → Int64)  : f = (vp_updL f 14 (f 14)) := by
  funext j9
  simp only [vp_updL]
  (repeat' split) <;> simp_all
theorem ec_f_12_11__11_12 (f : Nat → Int32) (v12 : Int32) (v11 : Int32) : (upd (upd f 12 v12) 11 v11) = (upd (upd f 11 v11) 12 v12) := by
  funext j9
  simp only [upd]
  (repeat' split) <;> simp_all
theorem ec_r_9_10__10_9 (f : Nat → Nat → Int32) (v9 : Nat → Int32) (v10 : Nat → Int32) : (va_up (va_up f 9 v9) 10 v10) = (va_up (va_up f 10 v10) 9 v9) := by
  funext j9
  simp only [va_up]
  (repeat' split) <;> simp_all
theorem ec_f___11_12 (f : Nat → Int32)  : f = (upd (upd f 11 (f 11)) 12 (f 12)) := by
  funext j9
  simp only [upd]
  (repeat' split) <;> simp_all
theorem ec_r___10_9 (f : Nat → Nat → Int32)  : f = (va_up (va_up f 10 (f 10)) 9 (f 9)) := by
  funext j9
  simp only [va_up]
  (repeat' split) <;> simp_all
set_option maxHeartbeats 4000000 in
set_option maxRecDepth 100000 in
theorem c_X10_isNext (l : Launch) (D : va_G) (cy : Nat → ClassId) (mo : Nat) (a : Nat → Nat) (f : Nat → Int32) (g : Nat → Int64) (r : Nat → Nat → Int32) (q : Nat → Nat → Int64) (j : Int32) (hD : DM cy mo a) (hI : MI f r) (hj : 0 ≤ j.toInt ∧ j.toInt < (f 1).toInt) (hd : -1 ≤ (f 11).toInt ∧ (f 11).toInt < (r 4 j.toNatClampNeg).toInt) (ht : 0 ≤ (f 12).toInt ∧ (f 12).toInt ≤ 200000) : Mi l D cy mo a yX10_isNext wsX10_isNext ({ frames := 4, cells := 0, slots := 0, locals := 105 }) f g r q [.int j] (fun r0 u => ∃ (dp : Int32), ∃ (tr : Int32), ∃ (sp : Int32), ∃ (fd : Int64), ∃ (rw : Nat → Int32), ∃ (mt : Nat → Int32), u = ((upd (upd (upd f 11 dp) 12 tr) 13 sp), (vp_updL g 14 fd), (va_up (va_up r 10 rw) 9 mt), q) ∧ ((r0 = 0 ∨ r0 = 1) ∧ (-1 ≤ dp.toInt ∧ dp.toInt < (r 4 j.toNatClampNeg).toInt) ∧ ((f 12).toInt ≤ tr.toInt ∧ tr.toInt ≤ 200000) ∧ (r0 = 1 → (f 12).toInt < tr.toInt))) := by
  refine Met.ofW (cc := cX10_isNext) (maxL := 2) (ret := (some .boolean)) (by decide) rfl ?_
  intro p e s m args below meth c s₁ B hml hv
  obtain ⟨rfl, hP, hK⟩ := hv
  have hx := B.exec
  have hb := B.bytes
  have hr := B.returns
  have hts := atoms_spec (ws := wsX10_isNext) B.pre
  have hin : ∀ w ∈ u_ws RX10 TX10 35, w ∈ wsX10_isNext := by decide +kernel
  have hown : s.vm.findClass RX10 = some m.cls := findClass_of_methodNamed B.named
  have hlocks := B.notSynchronized
  have hS : va_S (AM mo a) s.heap s.heap [] := va_S.rf
  have hl := lv_entry ([.ref mo, .int j]) (n := 2) (Nat.le_of_ble_eq_true rfl)
  rw [lg_entry_eq]
  generalize (lg_sl ([.ref mo, .int j]) ++ List.replicate (2 - (lg_sl ([.ref mo, .int j])).length) Slot.unset).toArray = ls at hl ⊢
  have hl : lv_has ls 2 [(0, .ref mo), (1, .int j)] := hl
  have k_m1 : (-1 : Int32).toInt = -1 := by decide
  have k_0 : (0 : Int32).toInt = 0 := by decide
  have k_1 : (1 : Int32).toInt = 1 := by decide
  have k_200000 : (200000 : Int32).toInt = 200000 := by decide
  have hI1 := hI.1
  have hh := mi_h hI (x := j) (by omega) (by omega) rfl
  have loop_0 : ∀ (n : Nat)  (dpa : Int32) (tra : Int32) (rwa : Nat → Int32) (mta : Nat → Int32), (-1 ≤ dpa.toInt ∧ dpa.toInt < (r 4 j.toNatClampNeg).toInt) → ((f 12).toInt ≤ tra.toInt ∧ tra.toInt ≤ 200000) → ((200000 - tra.toInt) * 8 + dpa.toInt + 1).toNat < n → ∀ (H : Heap) (locs : List Loc), va_P D vwCl (WM cy mo a (upd (upd f 11 dpa) 12 tra) g (va_up (va_up r 10 rwa) 9 mta) q) H → va_S (AM mo a) s.heap H locs → ∀ (ls : Array Slot), lv_has ls 2 [(0, .ref mo), (1, .int j)] → W p l e (headSpec wsX10_isNext ({ frames := 4, cells := 0, slots := 0, locals := 105 })).room s m #[Value.ref mo, Value.int j] below meth c H locs 0 0 (MQ below (va_Qi (fun r0 u => ∃ (dp : Int32), ∃ (tr : Int32), ∃ (sp : Int32), ∃ (fd : Int64), ∃ (rw : Nat → Int32), ∃ (mt : Nat → Int32), u = ((upd (upd (upd f 11 dp) 12 tr) 13 sp), (vp_updL g 14 fd), (va_up (va_up r 10 rw) 9 mt), q) ∧ ((r0 = 0 ∨ r0 = 1) ∧ (-1 ≤ dp.toInt ∧ dp.toInt < (r 4 j.toNatClampNeg).toInt) ∧ ((f 12).toInt ≤ tr.toInt ∧ tr.toInt ≤ 200000) ∧ (r0 = 1 → (f 12).toInt < tr.toInt))) (mB D cy mo a) (AM mo a)) #[Value.ref mo, Value.int j] s 0 0 (AM mo a)) (F0 m 0 ls []) := by
    intro n
    induction n with
    | zero => intro  dpa tra rwa mta j0_0 j0_1 hn; exact absurd hn (Nat.not_lt_zero _)
    | succ n ih_0 =>
      intro  dpa tra rwa mta j0_0 j0_1 hn_0 H locs hP hS ls hl
      refine lv_aload_n hx hb dX10_isNext_0 rfl (lv_at hl 0 rfl) ?_
      refine m_get (v := .int dpa) hx hb hts hin hown hK hP 11 (by decide) rfl (hts (.fieldLink RX10 157 "ShadowBenchModel" "depth" "I") (by decide +kernel)) rfl dX10_isNext_1 ?_
      refine lv_if_lt (tgt := 164) hx hb dX10_isNext_4 (by decide) (fun c4 => ?_) (fun c4 => ?_)
      · skip
        have d4 := c4
        rw [fa_lt] at d4
        refine lv_iconst (v := 0) hx hb dX10_isNext_164 (by decide) ?_
        have hP := wm_eq (ec_f_11_12__11_12_13 f dpa tra) (ec_g___14 g ) rfl rfl hP
        exact W.zret (v := (0 : Int32)) hx hb hr (by decide) (fun t ht hW => ⟨⟨_, ((upd (upd (upd f 11 dpa) 12 tra) 13 (f 13)), (vp_updL g 14 (g 14)), (va_up (va_up r 10 rwa) 9 mta), q), rfl, ⟨dpa, tra, (f 13), (g 14), rwa, mta, rfl, ⟨by decide, by omega, by omega, fun z => by first | exact absurd z (by decide) | omega⟩⟩, by unfold mB; rw [ht]; exact hP⟩, hS.F ht⟩) hS.2.2 dX10_isNext_165
      · skip
        have d4 := c4
        rw [fa_lt] at d4
        refine lv_aload_n hx hb dX10_isNext_7 rfl (lv_at hl 0 rfl) ?_
        refine m_get (v := .ref (a 10)) hx hb hts hin hown hK hP 10 (by decide) rfl (hts (.fieldLink RX10 35 "ShadowBenchModel" "rows" "[I") (by decide +kernel)) rfl dX10_isNext_8 ?_
        refine lv_aload_n hx hb dX10_isNext_11 rfl (lv_at hl 0 rfl) ?_
        refine m_get (v := .int dpa) hx hb hts hin hown hK hP 11 (by decide) rfl (hts (.fieldLink RX10 157 "ShadowBenchModel" "depth" "I") (by decide +kernel)) rfl dX10_isNext_12 ?_
        refine lv_dup2_11 hx hb dX10_isNext_15 rfl rfl ?_
        refine m_iald (w := rwa) hx hb hK hP 9 rfl (vp_in_iff.mpr ⟨by omega, by omega⟩) dX10_isNext_16 ?_
        refine lv_topi (fun v16 e16 => ?_)
        have i16 : v16.toInt = (rwa dpa.toNatClampNeg).toInt := congrArg Int32.toInt e16
        refine lv_iconst (v := 1) hx hb dX10_isNext_17 (by decide) ?_
        refine lv_iadd hx hb dX10_isNext_18 ?_
        refine lv_topi (fun v18 e18 => ?_)
        refine m_iast (w := rwa) hx hb hK hP hD hS 9 rfl (vp_in_iff.mpr ⟨by omega, by omega⟩) (va_up (va_up r 9 mta) 10 (upd rwa dpa.toNatClampNeg v18)) rfl dX10_isNext_19 (fun H locs hP hS => ?_)
        refine lv_aload_n hx hb dX10_isNext_20 rfl (lv_at hl 0 rfl) ?_
        refine m_get (v := .ref (a 10)) hx hb hts hin hown hK hP 10 (by decide) rfl (hts (.fieldLink RX10 35 "ShadowBenchModel" "rows" "[I") (by decide +kernel)) rfl dX10_isNext_21 ?_
        refine lv_aload_n hx hb dX10_isNext_24 rfl (lv_at hl 0 rfl) ?_
        refine m_get (v := .int dpa) hx hb hts hin hown hK hP 11 (by decide) rfl (hts (.fieldLink RX10 157 "ShadowBenchModel" "depth" "I") (by decide +kernel)) rfl dX10_isNext_25 ?_
        refine m_iald (w := (upd rwa dpa.toNatClampNeg v18)) hx hb hK hP 9 rfl (vp_in_iff.mpr ⟨by omega, by omega⟩) dX10_isNext_28 ?_
        refine lv_topi (fun v28 e28 => ?_)
        have i28 : v28.toInt = ((upd rwa dpa.toNatClampNeg v18) dpa.toNatClampNeg).toInt := congrArg Int32.toInt e28
        refine lv_iconst (v := 1) hx hb dX10_isNext_29 (by decide) ?_
        refine lv_aload_n hx hb dX10_isNext_30 rfl (lv_at hl 0 rfl) ?_
        refine m_get (v := .ref (a 3)) hx hb hts hin hown hK hP 3 (by decide) rfl (hts (.fieldLink RX10 13 "ShadowBenchModel" "wide" "[I") (by decide +kernel)) rfl dX10_isNext_31 ?_
        refine lv_iload_n hx hb dX10_isNext_34 rfl (lv_at hl 1 rfl) ?_
        refine m_iald (w := (r 3)) hx hb hK hP 2 rfl (vp_in_iff.mpr ⟨by omega, by omega⟩) dX10_isNext_35 ?_
        refine lv_topi (fun v35 e35 => ?_)
        have i35 : v35.toInt = ((r 3) j.toNatClampNeg).toInt := congrArg Int32.toInt e35
        have w35 := mi_w hI (x := j) (by omega) (by omega) e35
        refine lv_ishl hx hb dX10_isNext_36 ?_
        refine lv_topi (fun v36 e36 => ?_)
        refine lv_icmp_ne (tgt := 53) hx hb dX10_isNext_37 (by decide) (fun c37 => ?_) (fun c37 => ?_)
        · skip
          have d37 := c37
          rw [fa_eq] at d37
          refine lv_aload_n hx hb dX10_isNext_53 rfl (lv_at hl 0 rfl) ?_
          refine m_get (v := .int tra) hx hb hts hin hown hK hP 12 (by decide) rfl (hts (.fieldLink RX10 160 "ShadowBenchModel" "tries" "I") (by decide +kernel)) rfl dX10_isNext_54 ?_
          refine lv_ldc hx hb hown (hts (.constant RX10 167 (200000)) (by decide +kernel)) dX10_isNext_57 ?_
          refine lv_icmp_ne (tgt := 69) hx hb dX10_isNext_59 (by decide) (fun c59 => ?_) (fun c59 => ?_)
          · skip
            have d59 := c59
            rw [fa_eq] at d59
            refine lv_aload_n hx hb dX10_isNext_69 rfl (lv_at hl 0 rfl) ?_
            refine lv_dup hx hb dX10_isNext_70 rfl ?_
            refine m_get (v := .int tra) hx hb hts hin hown hK hP 12 (by decide) rfl (hts (.fieldLink RX10 160 "ShadowBenchModel" "tries" "I") (by decide +kernel)) rfl dX10_isNext_71 ?_
            refine lv_iconst (v := 1) hx hb dX10_isNext_74 (by decide) ?_
            refine lv_iadd hx hb dX10_isNext_75 ?_
            refine lv_topi (fun v75 e75 => ?_)
            have i75 : v75.toInt = tra.toInt + (1 : Int32).toInt := by rw [e75]; exact fb_addI (by omega) (by omega)
            refine m_put (v := .int v75) (ty := .int) hx hb hts hin hown hK hP hD hS 12 (by decide) rfl (hts (.fieldLink RX10 160 "ShadowBenchModel" "tries" "I") (by decide +kernel)) rfl (by decide +kernel) rfl rfl (upd (upd f 11 dpa) 12 v75) g rfl dX10_isNext_76 (fun H locs hP hS => ?_)
            refine lv_aload_n hx hb dX10_isNext_79 rfl (lv_at hl 0 rfl) ?_
            refine lv_iload_n hx hb dX10_isNext_80 rfl (lv_at hl 1 rfl) ?_
            refine m_calli (As := [.int j]) (rest := []) ⟨hx, hb, hml, hown, hts⟩ (c_X10_goesOn l D cy mo a (upd (upd f 11 dpa) 12 v75) g (va_up (va_up r 9 mta) 10 (upd rwa dpa.toNatClampNeg v18)) q j hD hI (show 0 ≤ j.toInt ∧ j.toInt < ((f 1)).toInt by omega) (show 0 ≤ (dpa).toInt ∧ (dpa).toInt < ((r 4) j.toNatClampNeg).toInt by omega)) (cwV 1 hts gX10_isNext_X10_goesOn rfl rfl rfl (by decide +kernel) ⟨Nat.le_of_ble_eq_true rfl, Nat.le_of_ble_eq_true rfl⟩) hK hP rfl hl.1 rfl (Nat.le_of_ble_eq_true rfl) dX10_isNext_81 ⟨Nat.le_of_ble_eq_true rfl, Nat.le_of_ble_eq_true rfl⟩ hS (fun r81 u H locs q81 hP hS => ?_)
            obtain ⟨rfl, q81⟩ := q81
            have hP : va_P D vwCl (WM cy mo a (upd (upd f 11 dpa) 12 v75) g (va_up (va_up r 9 mta) 10 (upd rwa dpa.toNatClampNeg v18)) q) H := hP
            have q81 : r81 = 0 ∨ r81 = 1 := q81
            refine lv_if_ne (tgt := 90) hx hb dX10_isNext_84 (by decide) (fun c84 => ?_) (fun c84 => ?_)
            · skip
              have d84 := c84
              rw [fa_eq] at d84
              refine lv_aload_n hx hb dX10_isNext_90 rfl (lv_at hl 0 rfl) ?_
              refine m_get (v := .int dpa) hx hb hts hin hown hK hP 11 (by decide) rfl (hts (.fieldLink RX10 157 "ShadowBenchModel" "depth" "I") (by decide +kernel)) rfl dX10_isNext_91 ?_
              refine lv_iconst (v := 1) hx hb dX10_isNext_94 (by decide) ?_
              refine lv_iadd hx hb dX10_isNext_95 ?_
              refine lv_topi (fun v95 e95 => ?_)
              have i95 : v95.toInt = dpa.toInt + (1 : Int32).toInt := by rw [e95]; exact fb_addI (by omega) (by omega)
              refine lv_aload_n hx hb dX10_isNext_96 rfl (lv_at hl 0 rfl) ?_
              refine m_get (v := .ref (a 4)) hx hb hts hin hown hK hP 4 (by decide) rfl (hts (.fieldLink RX10 16 "ShadowBenchModel" "high" "[I") (by decide +kernel)) rfl dX10_isNext_97 ?_
              refine lv_iload_n hx hb dX10_isNext_100 rfl (lv_at hl 1 rfl) ?_
              refine m_iald (w := (r 4)) hx hb hK hP 3 rfl (vp_in_iff.mpr ⟨by omega, by omega⟩) dX10_isNext_101 ?_
              refine lv_topi (fun v101 e101 => ?_)
              have i101 : v101.toInt = ((r 4) j.toNatClampNeg).toInt := congrArg Int32.toInt e101
              have w101 := mi_h hI (x := j) (by omega) (by omega) e101
              refine lv_icmp_ge (tgt := 128) hx hb dX10_isNext_102 (by decide) (fun c102 => ?_) (fun c102 => ?_)
              · skip
                have d102 := c102
                rw [fa_le] at d102
                refine lv_aload_n hx hb dX10_isNext_128 rfl (lv_at hl 0 rfl) ?_
                refine lv_iload_n hx hb dX10_isNext_129 rfl (lv_at hl 1 rfl) ?_
                refine lv_aload_n hx hb dX10_isNext_130 rfl (lv_at hl 0 rfl) ?_
                refine lv_iload_n hx hb dX10_isNext_131 rfl (lv_at hl 1 rfl) ?_
                refine lv_aload_n hx hb dX10_isNext_132 rfl (lv_at hl 0 rfl) ?_
                refine m_get (v := .ref (a 4)) hx hb hts hin hown hK hP 4 (by decide) rfl (hts (.fieldLink RX10 16 "ShadowBenchModel" "high" "[I") (by decide +kernel)) rfl dX10_isNext_133 ?_
                refine lv_iload_n hx hb dX10_isNext_136 rfl (lv_at hl 1 rfl) ?_
                refine m_iald (w := (r 4)) hx hb hK hP 3 rfl (vp_in_iff.mpr ⟨by omega, by omega⟩) dX10_isNext_137 ?_
                refine lv_topi (fun v137 e137 => ?_)
                have i137 : v137.toInt = ((r 4) j.toNatClampNeg).toInt := congrArg Int32.toInt e137
                have w137 := mi_h hI (x := j) (by omega) (by omega) e137
                refine m_calll (As := [.int j, .int v137]) (rest := [.int j, .ref mo]) ⟨hx, hb, hml, hown, hts⟩ (c_X10_picture l D cy mo a (upd (upd f 11 dpa) 12 v75) g (va_up (va_up r 9 mta) 10 (upd rwa dpa.toNatClampNeg v18)) q j v137 hD hI (show 0 ≤ j.toInt ∧ j.toInt < ((f 1)).toInt by omega) (show v137.toInt ≤ 6 by omega)) (cwV 2 hts gX10_isNext_X10_picture rfl rfl rfl (by decide +kernel) ⟨Nat.le_of_ble_eq_true rfl, Nat.le_of_ble_eq_true rfl⟩) hK hP rfl hl.1 rfl (Nat.le_of_ble_eq_true rfl) dX10_isNext_138 ⟨Nat.le_of_ble_eq_true rfl, Nat.le_of_ble_eq_true rfl⟩ hS (fun r138 u H locs q138 hP hS => ?_)
                obtain ⟨rfl, q138⟩ := q138
                have hP : va_P D vwCl (WM cy mo a (upd (upd f 11 dpa) 12 v75) g (va_up (va_up r 9 mta) 10 (upd rwa dpa.toNatClampNeg v18)) q) H := hP
                have q138 : True := q138
                refine m_calli (As := [.int j, .long r138]) (rest := []) ⟨hx, hb, hml, hown, hts⟩ (c_X10_isFitting l D cy mo a (upd (upd f 11 dpa) 12 v75) g (va_up (va_up r 9 mta) 10 (upd rwa dpa.toNatClampNeg v18)) q j r138 hD hI (show 0 ≤ j.toInt ∧ j.toInt < ((f 1)).toInt by omega)) (cwV 2 hts gX10_isNext_X10_isFitting rfl rfl rfl (by decide +kernel) ⟨Nat.le_of_ble_eq_true rfl, Nat.le_of_ble_eq_true rfl⟩) hK hP rfl hl.1 rfl (Nat.le_of_ble_eq_true rfl) dX10_isNext_141 ⟨Nat.le_of_ble_eq_true rfl, Nat.le_of_ble_eq_true rfl⟩ hS (fun r141 u H locs q141 hP hS => ?_)
                obtain ⟨mt_141, rfl, q141⟩ := q141
                have hP : va_P D vwCl (WM cy mo a (upd (upd f 11 dpa) 12 v75) g (va_up (va_up r 10 (upd rwa dpa.toNatClampNeg v18)) 9 mt_141) q) H := hP
                have q141 : r141 = 0 ∨ r141 = 1 := q141
                refine lv_if_eq (tgt := 0) hx hb dX10_isNext_144 (by decide) (fun c144 => ?_) (fun c144 => ?_)
                · skip
                  have d144 := c144
                  rw [fa_eq] at d144
                  exact ih_0 dpa v75 (upd rwa dpa.toNatClampNeg v18) mt_141 (by omega) (by omega) (by omega) _ _ hP hS ls (lv_sub hl [0, 1] rfl)
                · skip
                  have d144 := c144
                  rw [fa_eq] at d144
                  refine lv_aload_n hx hb dX10_isNext_147 rfl (lv_at hl 0 rfl) ?_
                  refine lv_aload_n hx hb dX10_isNext_148 rfl (lv_at hl 0 rfl) ?_
                  refine lv_iload_n hx hb dX10_isNext_149 rfl (lv_at hl 1 rfl) ?_
                  refine lv_aload_n hx hb dX10_isNext_150 rfl (lv_at hl 0 rfl) ?_
                  refine m_get (v := .ref (a 4)) hx hb hts hin hown hK hP 4 (by decide) rfl (hts (.fieldLink RX10 16 "ShadowBenchModel" "high" "[I") (by decide +kernel)) rfl dX10_isNext_151 ?_
                  refine lv_iload_n hx hb dX10_isNext_154 rfl (lv_at hl 1 rfl) ?_
                  refine m_iald (w := (r 4)) hx hb hK hP 3 rfl (vp_in_iff.mpr ⟨by omega, by omega⟩) dX10_isNext_155 ?_
                  refine lv_topi (fun v155 e155 => ?_)
                  have i155 : v155.toInt = ((r 4) j.toNatClampNeg).toInt := congrArg Int32.toInt e155
                  have w155 := mi_h hI (x := j) (by omega) (by omega) e155
                  refine m_calll (As := [.int j, .int v155]) (rest := [.ref mo]) ⟨hx, hb, hml, hown, hts⟩ (c_X10_picture l D cy mo a (upd (upd f 11 dpa) 12 v75) g (va_up (va_up r 10 (upd rwa dpa.toNatClampNeg v18)) 9 mt_141) q j v155 hD hI (show 0 ≤ j.toInt ∧ j.toInt < ((f 1)).toInt by omega) (show v155.toInt ≤ 6 by omega)) (cwV 2 hts gX10_isNext_X10_picture rfl rfl rfl (by decide +kernel) ⟨Nat.le_of_ble_eq_true rfl, Nat.le_of_ble_eq_true rfl⟩) hK hP rfl hl.1 rfl (Nat.le_of_ble_eq_true rfl) dX10_isNext_156 ⟨Nat.le_of_ble_eq_true rfl, Nat.le_of_ble_eq_true rfl⟩ hS (fun r156 u H locs q156 hP hS => ?_)
                  obtain ⟨rfl, q156⟩ := q156
                  have hP : va_P D vwCl (WM cy mo a (upd (upd f 11 dpa) 12 v75) g (va_up (va_up r 10 (upd rwa dpa.toNatClampNeg v18)) 9 mt_141) q) H := hP
                  have q156 : True := q156
                  refine m_put (v := .long r156) (ty := .long) hx hb hts hin hown hK hP hD hS 14 (by decide) rfl (hts (.fieldLink RX10 175 "ShadowBenchModel" "found" "J") (by decide +kernel)) rfl (by decide +kernel) rfl rfl (upd (upd f 11 dpa) 12 v75) (vp_updL g 14 r156) rfl dX10_isNext_159 (fun H locs hP hS => ?_)
                  refine lv_iconst (v := 1) hx hb dX10_isNext_162 (by decide) ?_
                  have hP := wm_eq (ec_f_11_12__11_12_13 f dpa v75) rfl rfl rfl hP
                  exact W.zret (v := (1 : Int32)) hx hb hr (by decide) (fun t ht hW => ⟨⟨_, ((upd (upd (upd f 11 dpa) 12 v75) 13 (f 13)), (vp_updL g 14 r156), (va_up (va_up r 10 (upd rwa dpa.toNatClampNeg v18)) 9 mt_141), q), rfl, ⟨dpa, v75, (f 13), r156, (upd rwa dpa.toNatClampNeg v18), mt_141, rfl, ⟨by decide, by omega, by omega, fun z => by first | exact absurd z (by decide) | omega⟩⟩, by unfold mB; rw [ht]; exact hP⟩, hS.F ht⟩) hS.2.2 dX10_isNext_163
              · skip
                have d102 := c102
                rw [fa_le] at d102
                refine lv_aload_n hx hb dX10_isNext_105 rfl (lv_at hl 0 rfl) ?_
                refine lv_dup hx hb dX10_isNext_106 rfl ?_
                refine m_get (v := .int dpa) hx hb hts hin hown hK hP 11 (by decide) rfl (hts (.fieldLink RX10 157 "ShadowBenchModel" "depth" "I") (by decide +kernel)) rfl dX10_isNext_107 ?_
                refine lv_iconst (v := 1) hx hb dX10_isNext_110 (by decide) ?_
                refine lv_iadd hx hb dX10_isNext_111 ?_
                refine lv_topi (fun v111 e111 => ?_)
                have i111 : v111.toInt = dpa.toInt + (1 : Int32).toInt := by rw [e111]; exact fb_addI (by omega) (by omega)
                refine m_put (v := .int v111) (ty := .int) hx hb hts hin hown hK hP hD hS 11 (by decide) rfl (hts (.fieldLink RX10 157 "ShadowBenchModel" "depth" "I") (by decide +kernel)) rfl (by decide +kernel) rfl rfl (upd (upd f 12 v75) 11 v111) g rfl dX10_isNext_112 (fun H locs hP hS => ?_)
                refine lv_aload_n hx hb dX10_isNext_115 rfl (lv_at hl 0 rfl) ?_
                refine m_get (v := .ref (a 10)) hx hb hts hin hown hK hP 10 (by decide) rfl (hts (.fieldLink RX10 35 "ShadowBenchModel" "rows" "[I") (by decide +kernel)) rfl dX10_isNext_116 ?_
                refine lv_aload_n hx hb dX10_isNext_119 rfl (lv_at hl 0 rfl) ?_
                refine m_get (v := .int v111) hx hb hts hin hown hK hP 11 (by decide) rfl (hts (.fieldLink RX10 157 "ShadowBenchModel" "depth" "I") (by decide +kernel)) rfl dX10_isNext_120 ?_
                refine lv_iconst (v := (-1)) hx hb dX10_isNext_123 (by decide) ?_
                refine m_iast (w := (upd rwa dpa.toNatClampNeg v18)) hx hb hK hP hD hS 9 rfl (vp_in_iff.mpr ⟨by omega, by omega⟩) (va_up (va_up r 9 mta) 10 ((upd (upd rwa dpa.toNatClampNeg v18) v111.toNatClampNeg (((-1) : Int32))))) rfl dX10_isNext_124 (fun H locs hP hS => ?_)
                refine lv_goto (tgt := 0) hx hb dX10_isNext_125 (by decide) ?_
                have hP := wm_eq (ec_f_12_11__11_12 f v75 v111) rfl (ec_r_9_10__10_9 r mta ((upd (upd rwa dpa.toNatClampNeg v18) v111.toNatClampNeg (((-1) : Int32))))) rfl hP
                exact ih_0 v111 v75 (((upd (upd rwa dpa.toNatClampNeg v18) v111.toNatClampNeg (((-1) : Int32))))) mta (by omega) (by omega) (by omega) _ _ hP hS ls (lv_sub hl [0, 1] rfl)
            · skip
              have d84 := c84
              rw [fa_eq] at d84
              refine lv_goto (tgt := 0) hx hb dX10_isNext_87 (by decide) ?_
              have hP := wm_eq rfl rfl (ec_r_9_10__10_9 r mta (upd rwa dpa.toNatClampNeg v18)) rfl hP
              exact ih_0 dpa v75 (upd rwa dpa.toNatClampNeg v18) mta (by omega) (by omega) (by omega) _ _ hP hS ls (lv_sub hl [0, 1] rfl)
          · skip
            have d59 := c59
            rw [fa_eq] at d59
            refine lv_aload_n hx hb dX10_isNext_62 rfl (lv_at hl 0 rfl) ?_
            refine lv_iconst (v := 1) hx hb dX10_isNext_63 (by decide) ?_
            refine m_put (v := .int (1 : Int32)) (ty := .boolean) hx hb hts hin hown hK hP hD hS 13 (by decide) rfl (hts (.fieldLink RX10 163 "ShadowBenchModel" "spent" "Z") (by decide +kernel)) rfl (by decide +kernel) rfl rfl (upd (upd (upd f 11 dpa) 12 tra) 13 (1 : Int32)) g rfl dX10_isNext_64 (fun H locs hP hS => ?_)
            refine lv_iconst (v := 0) hx hb dX10_isNext_67 (by decide) ?_
            have hP := wm_eq rfl (ec_g___14 g ) (ec_r_9_10__10_9 r mta (upd rwa dpa.toNatClampNeg v18)) rfl hP
            exact W.zret (v := (0 : Int32)) hx hb hr (by decide) (fun t ht hW => ⟨⟨_, ((upd (upd (upd f 11 dpa) 12 tra) 13 (1 : Int32)), (vp_updL g 14 (g 14)), (va_up (va_up r 10 (upd rwa dpa.toNatClampNeg v18)) 9 mta), q), rfl, ⟨dpa, tra, (1 : Int32), (g 14), (upd rwa dpa.toNatClampNeg v18), mta, rfl, ⟨by decide, by omega, by omega, fun z => by first | exact absurd z (by decide) | omega⟩⟩, by unfold mB; rw [ht]; exact hP⟩, hS.F ht⟩) hS.2.2 dX10_isNext_68
        · skip
          have d37 := c37
          rw [fa_eq] at d37
          refine lv_aload_n hx hb dX10_isNext_40 rfl (lv_at hl 0 rfl) ?_
          refine lv_dup hx hb dX10_isNext_41 rfl ?_
          refine m_get (v := .int dpa) hx hb hts hin hown hK hP 11 (by decide) rfl (hts (.fieldLink RX10 157 "ShadowBenchModel" "depth" "I") (by decide +kernel)) rfl dX10_isNext_42 ?_
          refine lv_iconst (v := 1) hx hb dX10_isNext_45 (by decide) ?_
          refine lv_isub hx hb dX10_isNext_46 ?_
          refine lv_topi (fun v46 e46 => ?_)
          have i46 : v46.toInt = dpa.toInt - (1 : Int32).toInt := by rw [e46]; exact fb_subI (by omega) (by omega)
          refine m_put (v := .int v46) (ty := .int) hx hb hts hin hown hK hP hD hS 11 (by decide) rfl (hts (.fieldLink RX10 157 "ShadowBenchModel" "depth" "I") (by decide +kernel)) rfl (by decide +kernel) rfl rfl (upd (upd f 12 tra) 11 v46) g rfl dX10_isNext_47 (fun H locs hP hS => ?_)
          refine lv_goto (tgt := 0) hx hb dX10_isNext_50 (by decide) ?_
          have hP := wm_eq (ec_f_12_11__11_12 f tra v46) rfl (ec_r_9_10__10_9 r mta (upd rwa dpa.toNatClampNeg v18)) rfl hP
          exact ih_0 v46 tra (upd rwa dpa.toNatClampNeg v18) mta (by omega) (by omega) (by omega) _ _ hP hS ls (lv_sub hl [0, 1] rfl)
  have hP := wm_eq (ec_f___11_12 f ) rfl (ec_r___10_9 r ) rfl hP
  exact loop_0 (((200000 - (f 12).toInt) * 8 + (f 11).toInt + 1).toNat + 1) (f 11) (f 12) (r 10) (r 9) (by omega) (by omega) (by omega) _ _ hP hS ls (lv_sub hl [0, 1] rfl)
set_option maxHeartbeats 4000000 in
set_option maxRecDepth 100000 in
theorem c_X10_count (l : Launch) (D : va_G) (cy : Nat → ClassId) (mo : Nat) (a : Nat → Nat) (f : Nat → Int32) (g : Nat → Int64) (r : Nat → Nat → Int32) (q : Nat → Nat → Int64) (j : Int32) (hD : DM cy mo a) (hI : MI f r) : Mi l D cy mo a yX10_count wsX10_count ({ frames := 5, cells := 0, slots := 0, locals := 126 }) f g r q [.int j] (fun r0 u => ∃ (dp : Int32), ∃ (tr : Int32), ∃ (sp : Int32), ∃ (fd : Int64), ∃ (rw : Nat → Int32), ∃ (mt : Nat → Int32), u = ((upd (upd (upd (upd f 0 (0 : Int32)) 11 dp) 12 tr) 13 sp), (vp_updL g 14 fd), (va_up (va_up r 10 rw) 9 mt), q) ∧ (True)) := by
  refine Met.ofW (cc := cX10_count) (maxL := 3) (ret := (some .int)) (by decide) rfl ?_
  intro p e s m args below meth c s₁ B hml hv
  obtain ⟨rfl, hP, hK⟩ := hv
  have hx := B.exec
  have hb := B.bytes
  have hr := B.returns
  have hts := atoms_spec (ws := wsX10_count) B.pre
  have hin : ∀ w ∈ u_ws RX10 TX10 35, w ∈ wsX10_count := by decide +kernel
  have hown : s.vm.findClass RX10 = some m.cls := findClass_of_methodNamed B.named
  have hlocks := B.notSynchronized
  have hS : va_S (AM mo a) s.heap s.heap [] := va_S.rf
  have hl := lv_entry ([.ref mo, .int j]) (n := 3) (Nat.le_of_ble_eq_true rfl)
  rw [lg_entry_eq]
  generalize (lg_sl ([.ref mo, .int j]) ++ List.replicate (3 - (lg_sl ([.ref mo, .int j])).length) Slot.unset).toArray = ls at hl ⊢
  have hl : lv_has ls 3 [(0, .ref mo), (1, .int j)] := hl
  have k_m5 : (-5 : Int32).toInt = -5 := by decide
  have k_m1 : (-1 : Int32).toInt = -1 := by decide
  have k_0 : (0 : Int32).toInt = 0 := by decide
  have hI1 := hI.1
  refine lv_aload_n hx hb dX10_count_0 rfl (lv_at hl 0 rfl) ?_
  refine lv_iconst (v := 0) hx hb dX10_count_1 (by decide) ?_
  refine m_put (v := .int (0 : Int32)) (ty := .int) hx hb hts hin hown hK hP hD hS 0 (by decide) rfl (hts (.fieldLink RX10 79 "ShadowBenchModel" "thrown" "I") (by decide +kernel)) rfl (by decide +kernel) rfl rfl (upd f 0 (0 : Int32)) g rfl dX10_count_2 (fun H locs hP hS => ?_)
  refine lv_aload_n hx hb dX10_count_5 rfl (lv_at hl 0 rfl) ?_
  refine lv_iload_n hx hb dX10_count_6 rfl (lv_at hl 1 rfl) ?_
  refine m_calli (As := [.int j]) (rest := []) ⟨hx, hb, hml, hown, hts⟩ (c_X10_isJob l D cy mo a (upd f 0 (0 : Int32)) g r q j hD) (cwV 1 hts gX10_count_X10_isJob rfl rfl rfl (by decide +kernel) ⟨Nat.le_of_ble_eq_true rfl, Nat.le_of_ble_eq_true rfl⟩) hK hP rfl hl.1 rfl (Nat.le_of_ble_eq_true rfl) dX10_count_7 ⟨Nat.le_of_ble_eq_true rfl, Nat.le_of_ble_eq_true rfl⟩ hS (fun r7 u H locs q7 hP hS => ?_)
  obtain ⟨rfl, q7⟩ := q7
  have hP : va_P D vwCl (WM cy mo a (upd f 0 (0 : Int32)) g r q) H := hP
  have q7 : Bo r7 (0 ≤ j.toInt ∧ j.toInt < ((f 1)).toInt) := q7
  refine lv_if_ne (tgt := 15) hx hb dX10_count_10 (by decide) (fun c10 => ?_) (fun c10 => ?_)
  · skip
    have b10 := bo_t q7 c10
    have hh := mi_h hI (x := j) (by omega) (by omega) rfl
    refine lv_aload_n hx hb dX10_count_15 rfl (lv_at hl 0 rfl) ?_
    refine m_callv (As := []) (rest := []) ⟨hx, hb, hml, hown, hts⟩ (c_X10_begin l D cy mo a (upd f 0 (0 : Int32)) g r q hD) (cwV 0 hts gX10_count_X10_begin rfl rfl rfl (by decide +kernel) ⟨Nat.le_of_ble_eq_true rfl, Nat.le_of_ble_eq_true rfl⟩) hK hP rfl hl.1 rfl (Nat.le_of_ble_eq_true rfl) dX10_count_16 ⟨Nat.le_of_ble_eq_true rfl, Nat.le_of_ble_eq_true rfl⟩ hS (fun u H locs q16 hP hS => ?_)
    obtain ⟨rw_16, rfl, q16⟩ := q16
    have hP : va_P D vwCl (WM cy mo a (upd (upd (upd (upd f 0 (0 : Int32)) 11 (0 : Int32)) 12 (0 : Int32)) 13 (0 : Int32)) g (va_up r 10 rw_16) q) H := hP
    have q16 : True := q16
    refine lv_iconst (v := 0) hx hb dX10_count_19 (by decide) ?_
    refine lv_istore_n (lv' := [(2, .int (0 : Int32)), (0, .ref mo), (1, .int j)]) hx hb dX10_count_20 rfl hl (by decide) rfl (fun ls hl => ?_)
    have loop_21 : ∀ (n : Nat) (x2 : Int32) (dpa : Int32) (tra : Int32) (spa : Int32) (fda : Int64) (rwa : Nat → Int32) (mta : Nat → Int32), (-1 ≤ dpa.toInt ∧ dpa.toInt < (r 4 j.toNatClampNeg).toInt) → (0 ≤ tra.toInt ∧ tra.toInt ≤ 200000) → (200000 - tra.toInt).toNat < n → ∀ (H : Heap) (locs : List Loc), va_P D vwCl (WM cy mo a (upd (upd (upd (upd f 0 (0 : Int32)) 11 dpa) 12 tra) 13 spa) (vp_updL g 14 fda) (va_up (va_up r 10 rwa) 9 mta) q) H → va_S (AM mo a) s.heap H locs → ∀ (ls : Array Slot), lv_has ls 3 [(2, .int x2), (0, .ref mo), (1, .int j)] → W p l e (headSpec wsX10_count ({ frames := 5, cells := 0, slots := 0, locals := 126 })).room s m #[Value.ref mo, Value.int j] below meth c H locs 0 0 (MQ below (va_Qi (fun r0 u => ∃ (dp : Int32), ∃ (tr : Int32), ∃ (sp : Int32), ∃ (fd : Int64), ∃ (rw : Nat → Int32), ∃ (mt : Nat → Int32), u = ((upd (upd (upd (upd f 0 (0 : Int32)) 11 dp) 12 tr) 13 sp), (vp_updL g 14 fd), (va_up (va_up r 10 rw) 9 mt), q) ∧ (True)) (mB D cy mo a) (AM mo a)) #[Value.ref mo, Value.int j] s 0 0 (AM mo a)) (F0 m 21 ls []) := by
      intro n
      induction n with
      | zero => intro x2 dpa tra spa fda rwa mta j21_0 j21_1 hn; exact absurd hn (Nat.not_lt_zero _)
      | succ n ih_21 =>
        intro x2 dpa tra spa fda rwa mta j21_0 j21_1 hn_21 H locs hP hS ls hl
        refine lv_aload_n hx hb dX10_count_21 rfl (lv_at hl 1 rfl) ?_
        refine lv_iload_n hx hb dX10_count_22 rfl (lv_at hl 2 rfl) ?_
        refine m_calli (As := [.int j]) (rest := []) ⟨hx, hb, hml, hown, hts⟩ (c_X10_isNext l D cy mo a (upd (upd (upd (upd f 0 (0 : Int32)) 11 dpa) 12 tra) 13 spa) (vp_updL g 14 fda) (va_up (va_up r 10 rwa) 9 mta) q j hD hI (show 0 ≤ j.toInt ∧ j.toInt < ((f 1)).toInt by omega) (show -1 ≤ (dpa).toInt ∧ (dpa).toInt < ((r 4) j.toNatClampNeg).toInt by omega) (show 0 ≤ (tra).toInt ∧ (tra).toInt ≤ 200000 by omega)) (cwV 1 hts gX10_count_X10_isNext rfl rfl rfl (by decide +kernel) ⟨Nat.le_of_ble_eq_true rfl, Nat.le_of_ble_eq_true rfl⟩) hK hP rfl hl.1 rfl (Nat.le_of_ble_eq_true rfl) dX10_count_23 ⟨Nat.le_of_ble_eq_true rfl, Nat.le_of_ble_eq_true rfl⟩ hS (fun r23 u H locs q23 hP hS => ?_)
        obtain ⟨dp_23, tr_23, sp_23, fd_23, rw_23, mt_23, rfl, q23⟩ := q23
        have hP : va_P D vwCl (WM cy mo a (upd (upd (upd (upd f 0 (0 : Int32)) 11 dp_23) 12 tr_23) 13 sp_23) (vp_updL g 14 fd_23) (va_up (va_up r 10 rw_23) 9 mt_23) q) H := hP
        have q23 : (r23 = 0 ∨ r23 = 1) ∧ (-1 ≤ dp_23.toInt ∧ dp_23.toInt < ((r 4) j.toNatClampNeg).toInt) ∧ ((tra).toInt ≤ tr_23.toInt ∧ tr_23.toInt ≤ 200000) ∧ (r23 = 1 → (tra).toInt < tr_23.toInt) := q23
        have b23 := q23.2.1
        have t23 := q23.2.2.1
        refine lv_if_eq (tgt := 35) hx hb dX10_count_26 (by decide) (fun c26 => ?_) (fun c26 => ?_)
        · skip
          have d26 := c26
          rw [fa_eq] at d26
          refine lv_aload_n hx hb dX10_count_35 rfl (lv_at hl 1 rfl) ?_
          refine m_get (v := .int sp_23) hx hb hts hin hown hK hP 13 (by decide) rfl (hts (.fieldLink RX10 163 "ShadowBenchModel" "spent" "Z") (by decide +kernel)) rfl dX10_count_36 ?_
          refine lv_if_eq (tgt := 47) hx hb dX10_count_39 (by decide) (fun c39 => ?_) (fun c39 => ?_)
          · skip
            have d39 := c39
            rw [fa_eq] at d39
            refine lv_iload_n hx hb dX10_count_47 rfl (lv_at hl 0 rfl) ?_
            exact W.iret (v := x2) hx hb hr (fun t ht hW => ⟨⟨_, ((upd (upd (upd (upd f 0 (0 : Int32)) 11 dp_23) 12 tr_23) 13 sp_23), (vp_updL g 14 fd_23), (va_up (va_up r 10 rw_23) 9 mt_23), q), rfl, ⟨dp_23, tr_23, sp_23, fd_23, rw_23, mt_23, rfl, trivial⟩, by unfold mB; rw [ht]; exact hP⟩, hS.F ht⟩) hS.2.2 dX10_count_48
          · skip
            have d39 := c39
            rw [fa_eq] at d39
            refine lv_bipush (v := (-5)) hx hb dX10_count_42 (by decide) ?_
            refine lv_goto (tgt := 48) hx hb dX10_count_44 (by decide) ?_
            exact W.iret (v := ((-5) : Int32)) hx hb hr (fun t ht hW => ⟨⟨_, ((upd (upd (upd (upd f 0 (0 : Int32)) 11 dp_23) 12 tr_23) 13 sp_23), (vp_updL g 14 fd_23), (va_up (va_up r 10 rw_23) 9 mt_23), q), rfl, ⟨dp_23, tr_23, sp_23, fd_23, rw_23, mt_23, rfl, trivial⟩, by unfold mB; rw [ht]; exact hP⟩, hS.F ht⟩) hS.2.2 dX10_count_48
        · skip
          have d26 := c26
          rw [fa_eq] at d26
          have z23 := q23.2.2.2 (q23.1.resolve_left c26)
          obtain ⟨v29, e29⟩ : ∃ y : Int32, y = x2 + 1 := ⟨_, rfl⟩
          refine lv_iinc (v := v29) (lv' := [(2, .int v29), (0, .ref mo), (1, .int j)]) hx hb dX10_count_29 hl (k := 0) rfl (by rw [e29]; rfl) (by decide) rfl (fun ls hl => ?_)
          refine lv_goto (tgt := 21) hx hb dX10_count_32 (by decide) ?_
          exact ih_21 v29 dp_23 tr_23 sp_23 fd_23 rw_23 mt_23 (by omega) (by omega) (by omega) _ _ hP hS ls (lv_sub hl [0, 1, 2] rfl)
    exact loop_21 (200000 + 1) (0 : Int32) (0 : Int32) (0 : Int32) (0 : Int32) (g 14) rw_16 (r 9) (by omega) (by omega) (by omega) _ _ hP hS ls (lv_sub hl [0, 1, 2] rfl)
  · skip
    have b10 := bo_f q7 c10
    refine lv_iconst (v := (-1)) hx hb dX10_count_13 (by decide) ?_
    exact W.iret (v := ((-1) : Int32)) hx hb hr (fun t ht hW => ⟨⟨_, ((upd (upd (upd (upd f 0 (0 : Int32)) 11 (f 11)) 12 (f 12)) 13 (f 13)), (vp_updL g 14 (g 14)), (va_up (va_up r 10 (r 10)) 9 (r 9)), q), rfl, ⟨(f 11), (f 12), (f 13), (g 14), (r 10), (r 9), rfl, trivial⟩, by unfold mB; rw [ht]; exact hP⟩, hS.F ht⟩) hS.2.2 dX10_count_14
set_option maxHeartbeats 4000000 in
set_option maxRecDepth 100000 in
theorem c_X10_find (l : Launch) (D : va_G) (cy : Nat → ClassId) (mo : Nat) (a : Nat → Nat) (f : Nat → Int32) (g : Nat → Int64) (r : Nat → Nat → Int32) (q : Nat → Nat → Int64) (j : Int32) (i0 : Int32) (hD : DM cy mo a) (hI : MI f r) : Ml l D cy mo a yX10_find wsX10_find ({ frames := 5, cells := 0, slots := 0, locals := 126 }) f g r q [.int j, .int i0] (fun r0 u => ∃ (dp : Int32), ∃ (tr : Int32), ∃ (sp : Int32), ∃ (fd : Int64), ∃ (rw : Nat → Int32), ∃ (mt : Nat → Int32), u = ((upd (upd (upd (upd f 0 (0 : Int32)) 11 dp) 12 tr) 13 sp), (vp_updL g 14 fd), (va_up (va_up r 10 rw) 9 mt), q) ∧ (True)) := by
  refine Met.ofW (cc := cX10_find) (maxL := 4) (ret := (some .long)) (by decide) rfl ?_
  intro p e s m args below meth c s₁ B hml hv
  obtain ⟨rfl, hP, hK⟩ := hv
  have hx := B.exec
  have hb := B.bytes
  have hr := B.returns
  have hts := atoms_spec (ws := wsX10_find) B.pre
  have hin : ∀ w ∈ u_ws RX10 TX10 35, w ∈ wsX10_find := by decide +kernel
  have hown : s.vm.findClass RX10 = some m.cls := findClass_of_methodNamed B.named
  have hlocks := B.notSynchronized
  have hS : va_S (AM mo a) s.heap s.heap [] := va_S.rf
  have hl := lv_entry ([.ref mo, .int j, .int i0]) (n := 4) (Nat.le_of_ble_eq_true rfl)
  rw [lg_entry_eq]
  generalize (lg_sl ([.ref mo, .int j, .int i0]) ++ List.replicate (4 - (lg_sl ([.ref mo, .int j, .int i0])).length) Slot.unset).toArray = ls at hl ⊢
  have hl : lv_has ls 4 [(0, .ref mo), (1, .int j), (2, .int i0)] := hl
  have k_0 : (0 : Int32).toInt = 0 := by decide
  have k_m5L : (-5 : Int64).toInt = -5 := by decide
  have k_m2L : (-2 : Int64).toInt = -2 := by decide
  have k_m1L : (-1 : Int64).toInt = -1 := by decide
  have hI1 := hI.1
  refine lv_aload_n hx hb dX10_find_0 rfl (lv_at hl 0 rfl) ?_
  refine lv_iconst (v := 0) hx hb dX10_find_1 (by decide) ?_
  refine m_put (v := .int (0 : Int32)) (ty := .int) hx hb hts hin hown hK hP hD hS 0 (by decide) rfl (hts (.fieldLink RX10 79 "ShadowBenchModel" "thrown" "I") (by decide +kernel)) rfl (by decide +kernel) rfl rfl (upd f 0 (0 : Int32)) g rfl dX10_find_2 (fun H locs hP hS => ?_)
  refine lv_aload_n hx hb dX10_find_5 rfl (lv_at hl 0 rfl) ?_
  refine lv_iload_n hx hb dX10_find_6 rfl (lv_at hl 1 rfl) ?_
  refine m_calli (As := [.int j]) (rest := []) ⟨hx, hb, hml, hown, hts⟩ (c_X10_isJob l D cy mo a (upd f 0 (0 : Int32)) g r q j hD) (cwV 1 hts gX10_find_X10_isJob rfl rfl rfl (by decide +kernel) ⟨Nat.le_of_ble_eq_true rfl, Nat.le_of_ble_eq_true rfl⟩) hK hP rfl hl.1 rfl (Nat.le_of_ble_eq_true rfl) dX10_find_7 ⟨Nat.le_of_ble_eq_true rfl, Nat.le_of_ble_eq_true rfl⟩ hS (fun r7 u H locs q7 hP hS => ?_)
  obtain ⟨rfl, q7⟩ := q7
  have hP : va_P D vwCl (WM cy mo a (upd f 0 (0 : Int32)) g r q) H := hP
  have q7 : Bo r7 (0 ≤ j.toInt ∧ j.toInt < ((f 1)).toInt) := q7
  refine lv_if_eq (tgt := 17) hx hb dX10_find_10 (by decide) (fun c10 => ?_) (fun c10 => ?_)
  · skip
    have b10 := bo_f q7 c10
    refine lv_ldc2 hx hb hown (hts (.constantLong RX10 185 (-1)) (by decide +kernel)) dX10_find_17 ?_
    exact W.lret (v := (-1 : Int64)) hx hb hr (fun t ht hW => ⟨⟨_, ((upd (upd (upd (upd f 0 (0 : Int32)) 11 (f 11)) 12 (f 12)) 13 (f 13)), (vp_updL g 14 (g 14)), (va_up (va_up r 10 (r 10)) 9 (r 9)), q), rfl, ⟨(f 11), (f 12), (f 13), (g 14), (r 10), (r 9), rfl, trivial⟩, by unfold mB; rw [ht]; exact hP⟩, hS.F ht⟩) hS.2.2 dX10_find_20
  · skip
    have b10 := bo_t q7 c10
    refine lv_iload_n hx hb dX10_find_13 rfl (lv_at hl 2 rfl) ?_
    refine lv_if_ge (tgt := 21) hx hb dX10_find_14 (by decide) (fun c14 => ?_) (fun c14 => ?_)
    · skip
      have d14 := c14
      rw [fa_le] at d14
      have hh := mi_h hI (x := j) (by omega) (by omega) rfl
      refine lv_aload_n hx hb dX10_find_21 rfl (lv_at hl 0 rfl) ?_
      refine m_callv (As := []) (rest := []) ⟨hx, hb, hml, hown, hts⟩ (c_X10_begin l D cy mo a (upd f 0 (0 : Int32)) g r q hD) (cwV 0 hts gX10_find_X10_begin rfl rfl rfl (by decide +kernel) ⟨Nat.le_of_ble_eq_true rfl, Nat.le_of_ble_eq_true rfl⟩) hK hP rfl hl.1 rfl (Nat.le_of_ble_eq_true rfl) dX10_find_22 ⟨Nat.le_of_ble_eq_true rfl, Nat.le_of_ble_eq_true rfl⟩ hS (fun u H locs q22 hP hS => ?_)
      obtain ⟨rw_22, rfl, q22⟩ := q22
      have hP : va_P D vwCl (WM cy mo a (upd (upd (upd (upd f 0 (0 : Int32)) 11 (0 : Int32)) 12 (0 : Int32)) 13 (0 : Int32)) g (va_up r 10 rw_22) q) H := hP
      have q22 : True := q22
      refine lv_iload_n hx hb dX10_find_25 rfl (lv_at hl 2 rfl) ?_
      refine lv_istore_n (lv' := [(3, .int i0), (0, .ref mo), (1, .int j), (2, .int i0)]) hx hb dX10_find_26 rfl hl (by decide) rfl (fun ls hl => ?_)
      have loop_27 : ∀ (n : Nat) (x3 : Int32) (dpa : Int32) (tra : Int32) (spa : Int32) (fda : Int64) (rwa : Nat → Int32) (mta : Nat → Int32), (-1 ≤ dpa.toInt ∧ dpa.toInt < (r 4 j.toNatClampNeg).toInt) → (0 ≤ tra.toInt ∧ tra.toInt ≤ 200000) → (200000 - tra.toInt).toNat < n → ∀ (H : Heap) (locs : List Loc), va_P D vwCl (WM cy mo a (upd (upd (upd (upd f 0 (0 : Int32)) 11 dpa) 12 tra) 13 spa) (vp_updL g 14 fda) (va_up (va_up r 10 rwa) 9 mta) q) H → va_S (AM mo a) s.heap H locs → ∀ (ls : Array Slot), lv_has ls 4 [(3, .int x3), (0, .ref mo), (1, .int j), (2, .int i0)] → W p l e (headSpec wsX10_find ({ frames := 5, cells := 0, slots := 0, locals := 126 })).room s m #[Value.ref mo, Value.int j, Value.int i0] below meth c H locs 0 0 (MQ below (va_Ql (fun r0 u => ∃ (dp : Int32), ∃ (tr : Int32), ∃ (sp : Int32), ∃ (fd : Int64), ∃ (rw : Nat → Int32), ∃ (mt : Nat → Int32), u = ((upd (upd (upd (upd f 0 (0 : Int32)) 11 dp) 12 tr) 13 sp), (vp_updL g 14 fd), (va_up (va_up r 10 rw) 9 mt), q) ∧ (True)) (mB D cy mo a) (AM mo a)) #[Value.ref mo, Value.int j, Value.int i0] s 0 0 (AM mo a)) (F0 m 27 ls []) := by
        intro n
        induction n with
        | zero => intro x3 dpa tra spa fda rwa mta j27_0 j27_1 hn; exact absurd hn (Nat.not_lt_zero _)
        | succ n ih_27 =>
          intro x3 dpa tra spa fda rwa mta j27_0 j27_1 hn_27 H locs hP hS ls hl
          refine lv_aload_n hx hb dX10_find_27 rfl (lv_at hl 1 rfl) ?_
          refine lv_iload_n hx hb dX10_find_28 rfl (lv_at hl 2 rfl) ?_
          refine m_calli (As := [.int j]) (rest := []) ⟨hx, hb, hml, hown, hts⟩ (c_X10_isNext l D cy mo a (upd (upd (upd (upd f 0 (0 : Int32)) 11 dpa) 12 tra) 13 spa) (vp_updL g 14 fda) (va_up (va_up r 10 rwa) 9 mta) q j hD hI (show 0 ≤ j.toInt ∧ j.toInt < ((f 1)).toInt by omega) (show -1 ≤ (dpa).toInt ∧ (dpa).toInt < ((r 4) j.toNatClampNeg).toInt by omega) (show 0 ≤ (tra).toInt ∧ (tra).toInt ≤ 200000 by omega)) (cwV 1 hts gX10_find_X10_isNext rfl rfl rfl (by decide +kernel) ⟨Nat.le_of_ble_eq_true rfl, Nat.le_of_ble_eq_true rfl⟩) hK hP rfl hl.1 rfl (Nat.le_of_ble_eq_true rfl) dX10_find_29 ⟨Nat.le_of_ble_eq_true rfl, Nat.le_of_ble_eq_true rfl⟩ hS (fun r29 u H locs q29 hP hS => ?_)
          obtain ⟨dp_29, tr_29, sp_29, fd_29, rw_29, mt_29, rfl, q29⟩ := q29
          have hP : va_P D vwCl (WM cy mo a (upd (upd (upd (upd f 0 (0 : Int32)) 11 dp_29) 12 tr_29) 13 sp_29) (vp_updL g 14 fd_29) (va_up (va_up r 10 rw_29) 9 mt_29) q) H := hP
          have q29 : (r29 = 0 ∨ r29 = 1) ∧ (-1 ≤ dp_29.toInt ∧ dp_29.toInt < ((r 4) j.toNatClampNeg).toInt) ∧ ((tra).toInt ≤ tr_29.toInt ∧ tr_29.toInt ≤ 200000) ∧ (r29 = 1 → (tra).toInt < tr_29.toInt) := q29
          have b29 := q29.2.1
          have t29 := q29.2.2.1
          refine lv_if_eq (tgt := 50) hx hb dX10_find_32 (by decide) (fun c32 => ?_) (fun c32 => ?_)
          · skip
            have d32 := c32
            rw [fa_eq] at d32
            refine lv_aload_n hx hb dX10_find_50 rfl (lv_at hl 1 rfl) ?_
            refine m_get (v := .int sp_29) hx hb hts hin hown hK hP 13 (by decide) rfl (hts (.fieldLink RX10 163 "ShadowBenchModel" "spent" "Z") (by decide +kernel)) rfl dX10_find_51 ?_
            refine lv_if_eq (tgt := 63) hx hb dX10_find_54 (by decide) (fun c54 => ?_) (fun c54 => ?_)
            · skip
              have d54 := c54
              rw [fa_eq] at d54
              refine lv_ldc2 hx hb hown (hts (.constantLong RX10 189 (-2)) (by decide +kernel)) dX10_find_63 ?_
              exact W.lret (v := (-2 : Int64)) hx hb hr (fun t ht hW => ⟨⟨_, ((upd (upd (upd (upd f 0 (0 : Int32)) 11 dp_29) 12 tr_29) 13 sp_29), (vp_updL g 14 fd_29), (va_up (va_up r 10 rw_29) 9 mt_29), q), rfl, ⟨dp_29, tr_29, sp_29, fd_29, rw_29, mt_29, rfl, trivial⟩, by unfold mB; rw [ht]; exact hP⟩, hS.F ht⟩) hS.2.2 dX10_find_66
            · skip
              have d54 := c54
              rw [fa_eq] at d54
              refine lv_ldc2 hx hb hown (hts (.constantLong RX10 187 (-5)) (by decide +kernel)) dX10_find_57 ?_
              refine lv_goto (tgt := 66) hx hb dX10_find_60 (by decide) ?_
              exact W.lret (v := (-5 : Int64)) hx hb hr (fun t ht hW => ⟨⟨_, ((upd (upd (upd (upd f 0 (0 : Int32)) 11 dp_29) 12 tr_29) 13 sp_29), (vp_updL g 14 fd_29), (va_up (va_up r 10 rw_29) 9 mt_29), q), rfl, ⟨dp_29, tr_29, sp_29, fd_29, rw_29, mt_29, rfl, trivial⟩, by unfold mB; rw [ht]; exact hP⟩, hS.F ht⟩) hS.2.2 dX10_find_66
          · skip
            have d32 := c32
            rw [fa_eq] at d32
            have z29 := q29.2.2.2 (q29.1.resolve_left c32)
            refine lv_iload_n hx hb dX10_find_35 rfl (lv_at hl 0 rfl) ?_
            refine lv_if_ne (tgt := 44) hx hb dX10_find_36 (by decide) (fun c36 => ?_) (fun c36 => ?_)
            · skip
              have d36 := c36
              rw [fa_eq] at d36
              obtain ⟨v44, e44⟩ : ∃ y : Int32, y = x3 + (-1) := ⟨_, rfl⟩
              refine lv_iinc (v := v44) (lv' := [(3, .int v44), (0, .ref mo), (1, .int j), (2, .int i0)]) hx hb dX10_find_44 hl (k := 0) rfl (by rw [e44]; rfl) (by decide) rfl (fun ls hl => ?_)
              refine lv_goto (tgt := 27) hx hb dX10_find_47 (by decide) ?_
              exact ih_27 v44 dp_29 tr_29 sp_29 fd_29 rw_29 mt_29 (by omega) (by omega) (by omega) _ _ hP hS ls (lv_sub hl [0, 1, 2, 3] rfl)
            · skip
              have d36 := c36
              rw [fa_eq] at d36
              refine lv_aload_n hx hb dX10_find_39 rfl (lv_at hl 1 rfl) ?_
              refine m_get (v := .long fd_29) hx hb hts hin hown hK hP 14 (by decide) rfl (hts (.fieldLink RX10 175 "ShadowBenchModel" "found" "J") (by decide +kernel)) rfl dX10_find_40 ?_
              exact W.lret (v := fd_29) hx hb hr (fun t ht hW => ⟨⟨_, ((upd (upd (upd (upd f 0 (0 : Int32)) 11 dp_29) 12 tr_29) 13 sp_29), (vp_updL g 14 fd_29), (va_up (va_up r 10 rw_29) 9 mt_29), q), rfl, ⟨dp_29, tr_29, sp_29, fd_29, rw_29, mt_29, rfl, trivial⟩, by unfold mB; rw [ht]; exact hP⟩, hS.F ht⟩) hS.2.2 dX10_find_43
      exact loop_27 (200000 + 1) i0 (0 : Int32) (0 : Int32) (0 : Int32) (g 14) rw_22 (r 9) (by omega) (by omega) (by omega) _ _ hP hS ls (lv_sub hl [0, 1, 2, 3] rfl)
    · skip
      have d14 := c14
      rw [fa_le] at d14
      refine lv_ldc2 hx hb hown (hts (.constantLong RX10 185 (-1)) (by decide +kernel)) dX10_find_17 ?_
      exact W.lret (v := (-1 : Int64)) hx hb hr (fun t ht hW => ⟨⟨_, ((upd (upd (upd (upd f 0 (0 : Int32)) 11 (f 11)) 12 (f 12)) 13 (f 13)), (vp_updL g 14 (g 14)), (va_up (va_up r 10 (r 10)) 9 (r 9)), q), rfl, ⟨(f 11), (f 12), (f 13), (g 14), (r 10), (r 9), rfl, trivial⟩, by unfold mB; rw [ht]; exact hP⟩, hS.F ht⟩) hS.2.2 dX10_find_20
set_option maxHeartbeats 4000000 in
set_option maxRecDepth 100000 in
theorem c_X10_rank (l : Launch) (D : va_G) (cy : Nat → ClassId) (mo : Nat) (a : Nat → Nat) (f : Nat → Int32) (g : Nat → Int64) (r : Nat → Nat → Int32) (q : Nat → Nat → Int64) (j : Int32) (p0 : Int64) (hD : DM cy mo a) (hI : MI f r) : Mi l D cy mo a yX10_rank wsX10_rank ({ frames := 5, cells := 0, slots := 0, locals := 126 }) f g r q [.int j, .long p0] (fun r0 u => ∃ (dp : Int32), ∃ (tr : Int32), ∃ (sp : Int32), ∃ (fd : Int64), ∃ (rw : Nat → Int32), ∃ (mt : Nat → Int32), u = ((upd (upd (upd (upd f 0 (0 : Int32)) 11 dp) 12 tr) 13 sp), (vp_updL g 14 fd), (va_up (va_up r 10 rw) 9 mt), q) ∧ (True)) := by
  refine Met.ofW (cc := cX10_rank) (maxL := 5) (ret := (some .int)) (by decide) rfl ?_
  intro p e s m args below meth c s₁ B hml hv
  obtain ⟨rfl, hP, hK⟩ := hv
  have hx := B.exec
  have hb := B.bytes
  have hr := B.returns
  have hts := atoms_spec (ws := wsX10_rank) B.pre
  have hin : ∀ w ∈ u_ws RX10 TX10 35, w ∈ wsX10_rank := by decide +kernel
  have hown : s.vm.findClass RX10 = some m.cls := findClass_of_methodNamed B.named
  have hlocks := B.notSynchronized
  have hS : va_S (AM mo a) s.heap s.heap [] := va_S.rf
  have hl := lv_entry ([.ref mo, .int j, .long p0]) (n := 5) (Nat.le_of_ble_eq_true rfl)
  rw [lg_entry_eq]
  generalize (lg_sl ([.ref mo, .int j, .long p0]) ++ List.replicate (5 - (lg_sl ([.ref mo, .int j, .long p0])).length) Slot.unset).toArray = ls at hl ⊢
  have hl : lv_has ls 5 [(0, .ref mo), (1, .int j), (2, .long p0)] := hl
  have k_m5 : (-5 : Int32).toInt = -5 := by decide
  have k_m2 : (-2 : Int32).toInt = -2 := by decide
  have k_m1 : (-1 : Int32).toInt = -1 := by decide
  have k_0 : (0 : Int32).toInt = 0 := by decide
  have hI1 := hI.1
  refine lv_aload_n hx hb dX10_rank_0 rfl (lv_at hl 0 rfl) ?_
  refine lv_iconst (v := 0) hx hb dX10_rank_1 (by decide) ?_
  refine m_put (v := .int (0 : Int32)) (ty := .int) hx hb hts hin hown hK hP hD hS 0 (by decide) rfl (hts (.fieldLink RX10 79 "ShadowBenchModel" "thrown" "I") (by decide +kernel)) rfl (by decide +kernel) rfl rfl (upd f 0 (0 : Int32)) g rfl dX10_rank_2 (fun H locs hP hS => ?_)
  refine lv_aload_n hx hb dX10_rank_5 rfl (lv_at hl 0 rfl) ?_
  refine lv_iload_n hx hb dX10_rank_6 rfl (lv_at hl 1 rfl) ?_
  refine m_calli (As := [.int j]) (rest := []) ⟨hx, hb, hml, hown, hts⟩ (c_X10_isJob l D cy mo a (upd f 0 (0 : Int32)) g r q j hD) (cwV 1 hts gX10_rank_X10_isJob rfl rfl rfl (by decide +kernel) ⟨Nat.le_of_ble_eq_true rfl, Nat.le_of_ble_eq_true rfl⟩) hK hP rfl hl.1 rfl (Nat.le_of_ble_eq_true rfl) dX10_rank_7 ⟨Nat.le_of_ble_eq_true rfl, Nat.le_of_ble_eq_true rfl⟩ hS (fun r7 u H locs q7 hP hS => ?_)
  obtain ⟨rfl, q7⟩ := q7
  have hP : va_P D vwCl (WM cy mo a (upd f 0 (0 : Int32)) g r q) H := hP
  have q7 : Bo r7 (0 ≤ j.toInt ∧ j.toInt < ((f 1)).toInt) := q7
  refine lv_if_eq (tgt := 32) hx hb dX10_rank_10 (by decide) (fun c10 => ?_) (fun c10 => ?_)
  · skip
    have b10 := bo_f q7 c10
    refine lv_iconst (v := (-1)) hx hb dX10_rank_32 (by decide) ?_
    exact W.iret (v := ((-1) : Int32)) hx hb hr (fun t ht hW => ⟨⟨_, ((upd (upd (upd (upd f 0 (0 : Int32)) 11 (f 11)) 12 (f 12)) 13 (f 13)), (vp_updL g 14 (g 14)), (va_up (va_up r 10 (r 10)) 9 (r 9)), q), rfl, ⟨(f 11), (f 12), (f 13), (g 14), (r 10), (r 9), rfl, trivial⟩, by unfold mB; rw [ht]; exact hP⟩, hS.F ht⟩) hS.2.2 dX10_rank_33
  · skip
    have b10 := bo_t q7 c10
    refine lv_aload_n hx hb dX10_rank_13 rfl (lv_at hl 0 rfl) ?_
    refine m_get (v := .ref (a 3)) hx hb hts hin hown hK hP 3 (by decide) rfl (hts (.fieldLink RX10 13 "ShadowBenchModel" "wide" "[I") (by decide +kernel)) rfl dX10_rank_14 ?_
    refine lv_iload_n hx hb dX10_rank_17 rfl (lv_at hl 1 rfl) ?_
    refine m_iald (w := (r 3)) hx hb hK hP 2 rfl (vp_in_iff.mpr ⟨by omega, by omega⟩) dX10_rank_18 ?_
    refine lv_topi (fun v18 e18 => ?_)
    have i18 : v18.toInt = ((r 3) j.toNatClampNeg).toInt := congrArg Int32.toInt e18
    have w18 := mi_w hI (x := j) (by omega) (by omega) e18
    refine lv_aload_n hx hb dX10_rank_19 rfl (lv_at hl 0 rfl) ?_
    refine m_get (v := .ref (a 4)) hx hb hts hin hown hK hP 4 (by decide) rfl (hts (.fieldLink RX10 16 "ShadowBenchModel" "high" "[I") (by decide +kernel)) rfl dX10_rank_20 ?_
    refine lv_iload_n hx hb dX10_rank_23 rfl (lv_at hl 1 rfl) ?_
    refine m_iald (w := (r 4)) hx hb hK hP 3 rfl (vp_in_iff.mpr ⟨by omega, by omega⟩) dX10_rank_24 ?_
    refine lv_topi (fun v24 e24 => ?_)
    have i24 : v24.toInt = ((r 4) j.toNatClampNeg).toInt := congrArg Int32.toInt e24
    have w24 := mi_h hI (x := j) (by omega) (by omega) e24
    refine lv_lload_n hx hb dX10_rank_25 rfl (lv_at hl 2 rfl) ?_
    refine m_pu (As := [.int v18, .int v24, .long p0]) (rest := []) ⟨hx, hb, hml, hown, hts⟩ (c_X10_isPicture l v18 v24 p0 ) (va_cwS 3 hts gX10_rank_X10_isPicture rfl rfl rfl (by decide +kernel) ⟨Nat.le_of_ble_eq_true rfl, Nat.le_of_ble_eq_true rfl⟩) hP rfl hl.1 rfl (Nat.le_of_ble_eq_true rfl) dX10_rank_26 ⟨Nat.le_of_ble_eq_true rfl, Nat.le_of_ble_eq_true rfl⟩ hS (fun r26 H locs q26 hP hS => ?_)
    refine lv_if_ne (tgt := 34) hx hb dX10_rank_29 (by decide) (fun c29 => ?_) (fun c29 => ?_)
    · skip
      have b29 := bo_t q26 c29
      refine lv_aload_n hx hb dX10_rank_34 rfl (lv_at hl 0 rfl) ?_
      refine lv_iload_n hx hb dX10_rank_35 rfl (lv_at hl 1 rfl) ?_
      refine lv_lload_n hx hb dX10_rank_36 rfl (lv_at hl 2 rfl) ?_
      refine m_calli (As := [.int j, .long p0]) (rest := []) ⟨hx, hb, hml, hown, hts⟩ (c_X10_isFitting l D cy mo a (upd f 0 (0 : Int32)) g r q j p0 hD hI (show 0 ≤ j.toInt ∧ j.toInt < ((f 1)).toInt by omega)) (cwV 2 hts gX10_rank_X10_isFitting rfl rfl rfl (by decide +kernel) ⟨Nat.le_of_ble_eq_true rfl, Nat.le_of_ble_eq_true rfl⟩) hK hP rfl hl.1 rfl (Nat.le_of_ble_eq_true rfl) dX10_rank_37 ⟨Nat.le_of_ble_eq_true rfl, Nat.le_of_ble_eq_true rfl⟩ hS (fun r37 u H locs q37 hP hS => ?_)
      obtain ⟨mt_37, rfl, q37⟩ := q37
      have hP : va_P D vwCl (WM cy mo a (upd f 0 (0 : Int32)) g (va_up r 9 mt_37) q) H := hP
      have q37 : r37 = 0 ∨ r37 = 1 := q37
      refine lv_if_ne (tgt := 46) hx hb dX10_rank_40 (by decide) (fun c40 => ?_) (fun c40 => ?_)
      · skip
        have d40 := c40
        rw [fa_eq] at d40
        have hh := mi_h hI (x := j) (by omega) (by omega) rfl
        refine lv_aload_n hx hb dX10_rank_46 rfl (lv_at hl 0 rfl) ?_
        refine m_callv (As := []) (rest := []) ⟨hx, hb, hml, hown, hts⟩ (c_X10_begin l D cy mo a (upd f 0 (0 : Int32)) g (va_up r 9 mt_37) q hD) (cwV 0 hts gX10_rank_X10_begin rfl rfl rfl (by decide +kernel) ⟨Nat.le_of_ble_eq_true rfl, Nat.le_of_ble_eq_true rfl⟩) hK hP rfl hl.1 rfl (Nat.le_of_ble_eq_true rfl) dX10_rank_47 ⟨Nat.le_of_ble_eq_true rfl, Nat.le_of_ble_eq_true rfl⟩ hS (fun u H locs q47 hP hS => ?_)
        obtain ⟨rw_47, rfl, q47⟩ := q47
        have hP : va_P D vwCl (WM cy mo a (upd (upd (upd (upd f 0 (0 : Int32)) 11 (0 : Int32)) 12 (0 : Int32)) 13 (0 : Int32)) g (va_up (va_up r 9 mt_37) 10 rw_47) q) H := hP
        have q47 : True := q47
        refine lv_iconst (v := 0) hx hb dX10_rank_50 (by decide) ?_
        refine lv_istore (lv' := [(4, .int (0 : Int32)), (0, .ref mo), (1, .int j), (2, .long p0)]) hx hb dX10_rank_51 hl (by decide) rfl (fun ls hl => ?_)
        have loop_53 : ∀ (n : Nat) (x4 : Int32) (dpa : Int32) (tra : Int32) (spa : Int32) (fda : Int64) (rwa : Nat → Int32) (mta : Nat → Int32), (-1 ≤ dpa.toInt ∧ dpa.toInt < (r 4 j.toNatClampNeg).toInt) → (0 ≤ tra.toInt ∧ tra.toInt ≤ 200000) → (200000 - tra.toInt).toNat < n → ∀ (H : Heap) (locs : List Loc), va_P D vwCl (WM cy mo a (upd (upd (upd (upd f 0 (0 : Int32)) 11 dpa) 12 tra) 13 spa) (vp_updL g 14 fda) (va_up (va_up r 10 rwa) 9 mta) q) H → va_S (AM mo a) s.heap H locs → ∀ (ls : Array Slot), lv_has ls 5 [(4, .int x4), (0, .ref mo), (1, .int j), (2, .long p0)] → W p l e (headSpec wsX10_rank ({ frames := 5, cells := 0, slots := 0, locals := 126 })).room s m #[Value.ref mo, Value.int j, Value.long p0] below meth c H locs 0 0 (MQ below (va_Qi (fun r0 u => ∃ (dp : Int32), ∃ (tr : Int32), ∃ (sp : Int32), ∃ (fd : Int64), ∃ (rw : Nat → Int32), ∃ (mt : Nat → Int32), u = ((upd (upd (upd (upd f 0 (0 : Int32)) 11 dp) 12 tr) 13 sp), (vp_updL g 14 fd), (va_up (va_up r 10 rw) 9 mt), q) ∧ (True)) (mB D cy mo a) (AM mo a)) #[Value.ref mo, Value.int j, Value.long p0] s 0 0 (AM mo a)) (F0 m 53 ls []) := by
          intro n
          induction n with
          | zero => intro x4 dpa tra spa fda rwa mta j53_0 j53_1 hn; exact absurd hn (Nat.not_lt_zero _)
          | succ n ih_53 =>
            intro x4 dpa tra spa fda rwa mta j53_0 j53_1 hn_53 H locs hP hS ls hl
            refine lv_aload_n hx hb dX10_rank_53 rfl (lv_at hl 1 rfl) ?_
            refine lv_iload_n hx hb dX10_rank_54 rfl (lv_at hl 2 rfl) ?_
            refine m_calli (As := [.int j]) (rest := []) ⟨hx, hb, hml, hown, hts⟩ (c_X10_isNext l D cy mo a (upd (upd (upd (upd f 0 (0 : Int32)) 11 dpa) 12 tra) 13 spa) (vp_updL g 14 fda) (va_up (va_up r 10 rwa) 9 mta) q j hD hI (show 0 ≤ j.toInt ∧ j.toInt < ((f 1)).toInt by omega) (show -1 ≤ (dpa).toInt ∧ (dpa).toInt < ((r 4) j.toNatClampNeg).toInt by omega) (show 0 ≤ (tra).toInt ∧ (tra).toInt ≤ 200000 by omega)) (cwV 1 hts gX10_rank_X10_isNext rfl rfl rfl (by decide +kernel) ⟨Nat.le_of_ble_eq_true rfl, Nat.le_of_ble_eq_true rfl⟩) hK hP rfl hl.1 rfl (Nat.le_of_ble_eq_true rfl) dX10_rank_55 ⟨Nat.le_of_ble_eq_true rfl, Nat.le_of_ble_eq_true rfl⟩ hS (fun r55 u H locs q55 hP hS => ?_)
            obtain ⟨dp_55, tr_55, sp_55, fd_55, rw_55, mt_55, rfl, q55⟩ := q55
            have hP : va_P D vwCl (WM cy mo a (upd (upd (upd (upd f 0 (0 : Int32)) 11 dp_55) 12 tr_55) 13 sp_55) (vp_updL g 14 fd_55) (va_up (va_up r 10 rw_55) 9 mt_55) q) H := hP
            have q55 : (r55 = 0 ∨ r55 = 1) ∧ (-1 ≤ dp_55.toInt ∧ dp_55.toInt < ((r 4) j.toNatClampNeg).toInt) ∧ ((tra).toInt ≤ tr_55.toInt ∧ tr_55.toInt ≤ 200000) ∧ (r55 = 1 → (tra).toInt < tr_55.toInt) := q55
            have b55 := q55.2.1
            have t55 := q55.2.2.1
            refine lv_if_eq (tgt := 79) hx hb dX10_rank_58 (by decide) (fun c58 => ?_) (fun c58 => ?_)
            · skip
              have d58 := c58
              rw [fa_eq] at d58
              refine lv_bipush (v := (-5)) hx hb dX10_rank_79 (by decide) ?_
              exact W.iret (v := ((-5) : Int32)) hx hb hr (fun t ht hW => ⟨⟨_, ((upd (upd (upd (upd f 0 (0 : Int32)) 11 dp_55) 12 tr_55) 13 sp_55), (vp_updL g 14 fd_55), (va_up (va_up r 10 rw_55) 9 mt_55), q), rfl, ⟨dp_55, tr_55, sp_55, fd_55, rw_55, mt_55, rfl, trivial⟩, by unfold mB; rw [ht]; exact hP⟩, hS.F ht⟩) hS.2.2 dX10_rank_81
            · skip
              have d58 := c58
              rw [fa_eq] at d58
              have z55 := q55.2.2.2 (q55.1.resolve_left c58)
              refine lv_aload_n hx hb dX10_rank_61 rfl (lv_at hl 1 rfl) ?_
              refine m_get (v := .long fd_55) hx hb hts hin hown hK hP 14 (by decide) rfl (hts (.fieldLink RX10 175 "ShadowBenchModel" "found" "J") (by decide +kernel)) rfl dX10_rank_62 ?_
              refine lv_lload_n hx hb dX10_rank_65 rfl (lv_at hl 3 rfl) ?_
              refine W.lcmp hx hb dX10_rank_66 ?_
              refine lv_if_ne (tgt := 73) hx hb dX10_rank_67 (by decide) (fun c67 => ?_) (fun c67 => ?_)
              · skip
                have d67 := c67
                rw [lg_cmp_eq, fa_eq64] at d67
                obtain ⟨v73, e73⟩ : ∃ y : Int32, y = x4 + 1 := ⟨_, rfl⟩
                refine lv_iinc (v := v73) (lv' := [(4, .int v73), (0, .ref mo), (1, .int j), (2, .long p0)]) hx hb dX10_rank_73 hl (k := 0) rfl (by rw [e73]; rfl) (by decide) rfl (fun ls hl => ?_)
                refine lv_goto (tgt := 53) hx hb dX10_rank_76 (by decide) ?_
                exact ih_53 v73 dp_55 tr_55 sp_55 fd_55 rw_55 mt_55 (by omega) (by omega) (by omega) _ _ hP hS ls (lv_sub hl [0, 1, 2, 3] rfl)
              · skip
                have d67 := c67
                rw [lg_cmp_eq, fa_eq64] at d67
                refine lv_iload hx hb dX10_rank_70 (lv_at hl 0 rfl) ?_
                exact W.iret (v := x4) hx hb hr (fun t ht hW => ⟨⟨_, ((upd (upd (upd (upd f 0 (0 : Int32)) 11 dp_55) 12 tr_55) 13 sp_55), (vp_updL g 14 fd_55), (va_up (va_up r 10 rw_55) 9 mt_55), q), rfl, ⟨dp_55, tr_55, sp_55, fd_55, rw_55, mt_55, rfl, trivial⟩, by unfold mB; rw [ht]; exact hP⟩, hS.F ht⟩) hS.2.2 dX10_rank_72
        exact loop_53 (200000 + 1) (0 : Int32) (0 : Int32) (0 : Int32) (0 : Int32) (g 14) rw_47 mt_37 (by omega) (by omega) (by omega) _ _ hP hS ls (lv_sub hl [0, 1, 2, 3] rfl)
      · skip
        have d40 := c40
        rw [fa_eq] at d40
        refine lv_bipush (v := (-2)) hx hb dX10_rank_43 (by decide) ?_
        exact W.iret (v := ((-2) : Int32)) hx hb hr (fun t ht hW => ⟨⟨_, ((upd (upd (upd (upd f 0 (0 : Int32)) 11 (f 11)) 12 (f 12)) 13 (f 13)), (vp_updL g 14 (g 14)), (va_up (va_up r 10 (r 10)) 9 mt_37), q), rfl, ⟨(f 11), (f 12), (f 13), (g 14), (r 10), mt_37, rfl, trivial⟩, by unfold mB; rw [ht]; exact hP⟩, hS.F ht⟩) hS.2.2 dX10_rank_45
    · skip
      have b29 := bo_f q26 c29
      refine lv_iconst (v := (-1)) hx hb dX10_rank_32 (by decide) ?_
      exact W.iret (v := ((-1) : Int32)) hx hb hr (fun t ht hW => ⟨⟨_, ((upd (upd (upd (upd f 0 (0 : Int32)) 11 (f 11)) 12 (f 12)) 13 (f 13)), (vp_updL g 14 (g 14)), (va_up (va_up r 10 (r 10)) 9 (r 9)), q), rfl, ⟨(f 11), (f 12), (f 13), (g 14), (r 10), (r 9), rfl, trivial⟩, by unfold mB; rw [ht]; exact hP⟩, hS.F ht⟩) hS.2.2 dX10_rank_33
set_option maxHeartbeats 4000000 in
set_option maxRecDepth 100000 in
theorem c_X10_sure (l : Launch) (D : va_G) (cy : Nat → ClassId) (mo : Nat) (a : Nat → Nat) (f : Nat → Int32) (g : Nat → Int64) (r : Nat → Nat → Int32) (q : Nat → Nat → Int64) (j : Int32) (s0 : Int32) (hD : DM cy mo a) (hI : MI f r) : Mi l D cy mo a yX10_sure wsX10_sure ({ frames := 5, cells := 0, slots := 0, locals := 126 }) f g r q [.int j, .int s0] (fun r0 u => ∃ (dp : Int32), ∃ (tr : Int32), ∃ (sp : Int32), ∃ (fd : Int64), ∃ (rw : Nat → Int32), ∃ (mt : Nat → Int32), u = ((upd (upd (upd (upd f 0 (0 : Int32)) 11 dp) 12 tr) 13 sp), (vp_updL g 14 fd), (va_up (va_up r 10 rw) 9 mt), q) ∧ (True)) := by
  refine Met.ofW (cc := cX10_sure) (maxL := 5) (ret := (some .int)) (by decide) rfl ?_
  intro p e s m args below meth c s₁ B hml hv
  obtain ⟨rfl, hP, hK⟩ := hv
  have hx := B.exec
  have hb := B.bytes
  have hr := B.returns
  have hts := atoms_spec (ws := wsX10_sure) B.pre
  have hin : ∀ w ∈ u_ws RX10 TX10 35, w ∈ wsX10_sure := by decide +kernel
  have hown : s.vm.findClass RX10 = some m.cls := findClass_of_methodNamed B.named
  have hlocks := B.notSynchronized
  have hS : va_S (AM mo a) s.heap s.heap [] := va_S.rf
  have hl := lv_entry ([.ref mo, .int j, .int s0]) (n := 5) (Nat.le_of_ble_eq_true rfl)
  rw [lg_entry_eq]
  generalize (lg_sl ([.ref mo, .int j, .int s0]) ++ List.replicate (5 - (lg_sl ([.ref mo, .int j, .int s0])).length) Slot.unset).toArray = ls at hl ⊢
  have hl : lv_has ls 5 [(0, .ref mo), (1, .int j), (2, .int s0)] := hl
  have k_m5 : (-5 : Int32).toInt = -5 := by decide
  have k_m2 : (-2 : Int32).toInt = -2 := by decide
  have k_m1 : (-1 : Int32).toInt = -1 := by decide
  have k_0 : (0 : Int32).toInt = 0 := by decide
  have k_1 : (1 : Int32).toInt = 1 := by decide
  have k_2 : (2 : Int32).toInt = 2 := by decide
  have hI1 := hI.1
  refine lv_aload_n hx hb dX10_sure_0 rfl (lv_at hl 0 rfl) ?_
  refine lv_iconst (v := 0) hx hb dX10_sure_1 (by decide) ?_
  refine m_put (v := .int (0 : Int32)) (ty := .int) hx hb hts hin hown hK hP hD hS 0 (by decide) rfl (hts (.fieldLink RX10 79 "ShadowBenchModel" "thrown" "I") (by decide +kernel)) rfl (by decide +kernel) rfl rfl (upd f 0 (0 : Int32)) g rfl dX10_sure_2 (fun H locs hP hS => ?_)
  refine lv_aload_n hx hb dX10_sure_5 rfl (lv_at hl 0 rfl) ?_
  refine lv_iload_n hx hb dX10_sure_6 rfl (lv_at hl 1 rfl) ?_
  refine lv_iload_n hx hb dX10_sure_7 rfl (lv_at hl 2 rfl) ?_
  refine m_calli (As := [.int j, .int s0]) (rest := []) ⟨hx, hb, hml, hown, hts⟩ (c_X10_isSquare l D cy mo a (upd f 0 (0 : Int32)) g r q j s0 hD hI) (cwV 2 hts gX10_sure_X10_isSquare rfl rfl rfl (by decide +kernel) ⟨Nat.le_of_ble_eq_true rfl, Nat.le_of_ble_eq_true rfl⟩) hK hP rfl hl.1 rfl (Nat.le_of_ble_eq_true rfl) dX10_sure_8 ⟨Nat.le_of_ble_eq_true rfl, Nat.le_of_ble_eq_true rfl⟩ hS (fun r8 u H locs q8 hP hS => ?_)
  obtain ⟨rfl, q8⟩ := q8
  have hP : va_P D vwCl (WM cy mo a (upd f 0 (0 : Int32)) g r q) H := hP
  have q8 : Bo r8 ((0 ≤ j.toInt ∧ j.toInt < ((f 1)).toInt) ∧ 0 ≤ s0.toInt ∧ s0.toInt < ((r 3) j.toNatClampNeg).toInt * ((r 4) j.toNatClampNeg).toInt) := q8
  refine lv_if_ne (tgt := 16) hx hb dX10_sure_11 (by decide) (fun c11 => ?_) (fun c11 => ?_)
  · skip
    have b11 := bo_t q8 c11
    have hh := mi_h hI (x := j) (by omega) (by omega) rfl
    refine lv_aload_n hx hb dX10_sure_16 rfl (lv_at hl 0 rfl) ?_
    refine m_callv (As := []) (rest := []) ⟨hx, hb, hml, hown, hts⟩ (c_X10_begin l D cy mo a (upd f 0 (0 : Int32)) g r q hD) (cwV 0 hts gX10_sure_X10_begin rfl rfl rfl (by decide +kernel) ⟨Nat.le_of_ble_eq_true rfl, Nat.le_of_ble_eq_true rfl⟩) hK hP rfl hl.1 rfl (Nat.le_of_ble_eq_true rfl) dX10_sure_17 ⟨Nat.le_of_ble_eq_true rfl, Nat.le_of_ble_eq_true rfl⟩ hS (fun u H locs q17 hP hS => ?_)
    obtain ⟨rw_17, rfl, q17⟩ := q17
    have hP : va_P D vwCl (WM cy mo a (upd (upd (upd (upd f 0 (0 : Int32)) 11 (0 : Int32)) 12 (0 : Int32)) 13 (0 : Int32)) g (va_up r 10 rw_17) q) H := hP
    have q17 : True := q17
    refine lv_iconst (v := 0) hx hb dX10_sure_20 (by decide) ?_
    refine lv_istore_n (lv' := [(3, .int (0 : Int32)), (0, .ref mo), (1, .int j), (2, .int s0)]) hx hb dX10_sure_21 rfl hl (by decide) rfl (fun ls hl => ?_)
    refine lv_iconst (v := 0) hx hb dX10_sure_22 (by decide) ?_
    refine lv_istore (lv' := [(4, .int (0 : Int32)), (3, .int (0 : Int32)), (0, .ref mo), (1, .int j), (2, .int s0)]) hx hb dX10_sure_23 hl (by decide) rfl (fun ls hl => ?_)
    have loop_25 : ∀ (n : Nat) (x4 : Int32) (x3 : Int32) (dpa : Int32) (tra : Int32) (spa : Int32) (fda : Int64) (rwa : Nat → Int32) (mta : Nat → Int32), (-1 ≤ dpa.toInt ∧ dpa.toInt < (r 4 j.toNatClampNeg).toInt) → (0 ≤ tra.toInt ∧ tra.toInt ≤ 200000) → (200000 - tra.toInt).toNat < n → ∀ (H : Heap) (locs : List Loc), va_P D vwCl (WM cy mo a (upd (upd (upd (upd f 0 (0 : Int32)) 11 dpa) 12 tra) 13 spa) (vp_updL g 14 fda) (va_up (va_up r 10 rwa) 9 mta) q) H → va_S (AM mo a) s.heap H locs → ∀ (ls : Array Slot), lv_has ls 5 [(4, .int x4), (3, .int x3), (0, .ref mo), (1, .int j), (2, .int s0)] → W p l e (headSpec wsX10_sure ({ frames := 5, cells := 0, slots := 0, locals := 126 })).room s m #[Value.ref mo, Value.int j, Value.int s0] below meth c H locs 0 0 (MQ below (va_Qi (fun r0 u => ∃ (dp : Int32), ∃ (tr : Int32), ∃ (sp : Int32), ∃ (fd : Int64), ∃ (rw : Nat → Int32), ∃ (mt : Nat → Int32), u = ((upd (upd (upd (upd f 0 (0 : Int32)) 11 dp) 12 tr) 13 sp), (vp_updL g 14 fd), (va_up (va_up r 10 rw) 9 mt), q) ∧ (True)) (mB D cy mo a) (AM mo a)) #[Value.ref mo, Value.int j, Value.int s0] s 0 0 (AM mo a)) (F0 m 25 ls []) := by
      intro n
      induction n with
      | zero => intro x4 x3 dpa tra spa fda rwa mta j25_0 j25_1 hn; exact absurd hn (Nat.not_lt_zero _)
      | succ n ih_25 =>
        intro x4 x3 dpa tra spa fda rwa mta j25_0 j25_1 hn_25 H locs hP hS ls hl
        refine lv_aload_n hx hb dX10_sure_25 rfl (lv_at hl 2 rfl) ?_
        refine lv_iload_n hx hb dX10_sure_26 rfl (lv_at hl 3 rfl) ?_
        refine m_calli (As := [.int j]) (rest := []) ⟨hx, hb, hml, hown, hts⟩ (c_X10_isNext l D cy mo a (upd (upd (upd (upd f 0 (0 : Int32)) 11 dpa) 12 tra) 13 spa) (vp_updL g 14 fda) (va_up (va_up r 10 rwa) 9 mta) q j hD hI (show 0 ≤ j.toInt ∧ j.toInt < ((f 1)).toInt by omega) (show -1 ≤ (dpa).toInt ∧ (dpa).toInt < ((r 4) j.toNatClampNeg).toInt by omega) (show 0 ≤ (tra).toInt ∧ (tra).toInt ≤ 200000 by omega)) (cwV 1 hts gX10_sure_X10_isNext rfl rfl rfl (by decide +kernel) ⟨Nat.le_of_ble_eq_true rfl, Nat.le_of_ble_eq_true rfl⟩) hK hP rfl hl.1 rfl (Nat.le_of_ble_eq_true rfl) dX10_sure_27 ⟨Nat.le_of_ble_eq_true rfl, Nat.le_of_ble_eq_true rfl⟩ hS (fun r27 u H locs q27 hP hS => ?_)
        obtain ⟨dp_27, tr_27, sp_27, fd_27, rw_27, mt_27, rfl, q27⟩ := q27
        have hP : va_P D vwCl (WM cy mo a (upd (upd (upd (upd f 0 (0 : Int32)) 11 dp_27) 12 tr_27) 13 sp_27) (vp_updL g 14 fd_27) (va_up (va_up r 10 rw_27) 9 mt_27) q) H := hP
        have q27 : (r27 = 0 ∨ r27 = 1) ∧ (-1 ≤ dp_27.toInt ∧ dp_27.toInt < ((r 4) j.toNatClampNeg).toInt) ∧ ((tra).toInt ≤ tr_27.toInt ∧ tr_27.toInt ≤ 200000) ∧ (r27 = 1 → (tra).toInt < tr_27.toInt) := q27
        have b27 := q27.2.1
        have t27 := q27.2.2.1
        refine lv_if_eq (tgt := 52) hx hb dX10_sure_30 (by decide) (fun c30 => ?_) (fun c30 => ?_)
        · skip
          have d30 := c30
          rw [fa_eq] at d30
          refine lv_aload_n hx hb dX10_sure_52 rfl (lv_at hl 2 rfl) ?_
          refine m_get (v := .int sp_27) hx hb hts hin hown hK hP 13 (by decide) rfl (hts (.fieldLink RX10 163 "ShadowBenchModel" "spent" "Z") (by decide +kernel)) rfl dX10_sure_53 ?_
          refine lv_if_eq (tgt := 64) hx hb dX10_sure_56 (by decide) (fun c56 => ?_) (fun c56 => ?_)
          · skip
            have d56 := c56
            rw [fa_eq] at d56
            refine lv_iload_n hx hb dX10_sure_64 rfl (lv_at hl 1 rfl) ?_
            refine lv_if_ne (tgt := 73) hx hb dX10_sure_65 (by decide) (fun c65 => ?_) (fun c65 => ?_)
            · skip
              have d65 := c65
              rw [fa_eq] at d65
              refine lv_iload hx hb dX10_sure_73 (lv_at hl 0 rfl) ?_
              refine lv_if_ne (tgt := 82) hx hb dX10_sure_75 (by decide) (fun c75 => ?_) (fun c75 => ?_)
              · skip
                have d75 := c75
                rw [fa_eq] at d75
                refine lv_iload hx hb dX10_sure_82 (lv_at hl 0 rfl) ?_
                refine lv_iload_n hx hb dX10_sure_84 rfl (lv_at hl 1 rfl) ?_
                refine lv_icmp_ne (tgt := 92) hx hb dX10_sure_85 (by decide) (fun c85 => ?_) (fun c85 => ?_)
                · skip
                  have d85 := c85
                  rw [fa_eq] at d85
                  refine lv_iconst (v := 2) hx hb dX10_sure_92 (by decide) ?_
                  exact W.iret (v := (2 : Int32)) hx hb hr (fun t ht hW => ⟨⟨_, ((upd (upd (upd (upd f 0 (0 : Int32)) 11 dp_27) 12 tr_27) 13 sp_27), (vp_updL g 14 fd_27), (va_up (va_up r 10 rw_27) 9 mt_27), q), rfl, ⟨dp_27, tr_27, sp_27, fd_27, rw_27, mt_27, rfl, trivial⟩, by unfold mB; rw [ht]; exact hP⟩, hS.F ht⟩) hS.2.2 dX10_sure_93
                · skip
                  have d85 := c85
                  rw [fa_eq] at d85
                  refine lv_iconst (v := 1) hx hb dX10_sure_88 (by decide) ?_
                  refine lv_goto (tgt := 93) hx hb dX10_sure_89 (by decide) ?_
                  exact W.iret (v := (1 : Int32)) hx hb hr (fun t ht hW => ⟨⟨_, ((upd (upd (upd (upd f 0 (0 : Int32)) 11 dp_27) 12 tr_27) 13 sp_27), (vp_updL g 14 fd_27), (va_up (va_up r 10 rw_27) 9 mt_27), q), rfl, ⟨dp_27, tr_27, sp_27, fd_27, rw_27, mt_27, rfl, trivial⟩, by unfold mB; rw [ht]; exact hP⟩, hS.F ht⟩) hS.2.2 dX10_sure_93
              · skip
                have d75 := c75
                rw [fa_eq] at d75
                refine lv_iconst (v := 0) hx hb dX10_sure_78 (by decide) ?_
                refine lv_goto (tgt := 93) hx hb dX10_sure_79 (by decide) ?_
                exact W.iret (v := (0 : Int32)) hx hb hr (fun t ht hW => ⟨⟨_, ((upd (upd (upd (upd f 0 (0 : Int32)) 11 dp_27) 12 tr_27) 13 sp_27), (vp_updL g 14 fd_27), (va_up (va_up r 10 rw_27) 9 mt_27), q), rfl, ⟨dp_27, tr_27, sp_27, fd_27, rw_27, mt_27, rfl, trivial⟩, by unfold mB; rw [ht]; exact hP⟩, hS.F ht⟩) hS.2.2 dX10_sure_93
            · skip
              have d65 := c65
              rw [fa_eq] at d65
              refine lv_bipush (v := (-2)) hx hb dX10_sure_68 (by decide) ?_
              refine lv_goto (tgt := 93) hx hb dX10_sure_70 (by decide) ?_
              exact W.iret (v := ((-2) : Int32)) hx hb hr (fun t ht hW => ⟨⟨_, ((upd (upd (upd (upd f 0 (0 : Int32)) 11 dp_27) 12 tr_27) 13 sp_27), (vp_updL g 14 fd_27), (va_up (va_up r 10 rw_27) 9 mt_27), q), rfl, ⟨dp_27, tr_27, sp_27, fd_27, rw_27, mt_27, rfl, trivial⟩, by unfold mB; rw [ht]; exact hP⟩, hS.F ht⟩) hS.2.2 dX10_sure_93
          · skip
            have d56 := c56
            rw [fa_eq] at d56
            refine lv_bipush (v := (-5)) hx hb dX10_sure_59 (by decide) ?_
            refine lv_goto (tgt := 93) hx hb dX10_sure_61 (by decide) ?_
            exact W.iret (v := ((-5) : Int32)) hx hb hr (fun t ht hW => ⟨⟨_, ((upd (upd (upd (upd f 0 (0 : Int32)) 11 dp_27) 12 tr_27) 13 sp_27), (vp_updL g 14 fd_27), (va_up (va_up r 10 rw_27) 9 mt_27), q), rfl, ⟨dp_27, tr_27, sp_27, fd_27, rw_27, mt_27, rfl, trivial⟩, by unfold mB; rw [ht]; exact hP⟩, hS.F ht⟩) hS.2.2 dX10_sure_93
        · skip
          have d30 := c30
          rw [fa_eq] at d30
          have z27 := q27.2.2.2 (q27.1.resolve_left c30)
          obtain ⟨v33, e33⟩ : ∃ y : Int32, y = x3 + 1 := ⟨_, rfl⟩
          refine lv_iinc (v := v33) (lv' := [(3, .int v33), (4, .int x4), (0, .ref mo), (1, .int j), (2, .int s0)]) hx hb dX10_sure_33 hl (k := 1) rfl (by rw [e33]; rfl) (by decide) rfl (fun ls hl => ?_)
          refine lv_iload hx hb dX10_sure_36 (lv_at hl 1 rfl) ?_
          refine lv_aload_n hx hb dX10_sure_38 rfl (lv_at hl 2 rfl) ?_
          refine m_get (v := .long fd_27) hx hb hts hin hown hK hP 14 (by decide) rfl (hts (.fieldLink RX10 175 "ShadowBenchModel" "found" "J") (by decide +kernel)) rfl dX10_sure_39 ?_
          refine lv_iload_n hx hb dX10_sure_42 rfl (lv_at hl 4 rfl) ?_
          refine m_pu (As := [.long fd_27, .int s0]) (rest := [.int x4]) ⟨hx, hb, hml, hown, hts⟩ (c_X10_one l fd_27 s0 ) (va_cwS 2 hts gX10_sure_X10_one rfl rfl rfl (by decide +kernel) ⟨Nat.le_of_ble_eq_true rfl, Nat.le_of_ble_eq_true rfl⟩) hP rfl hl.1 rfl (Nat.le_of_ble_eq_true rfl) dX10_sure_43 ⟨Nat.le_of_ble_eq_true rfl, Nat.le_of_ble_eq_true rfl⟩ hS (fun r43 H locs q43 hP hS => ?_)
          have i43 : r43.toInt = (r_one fd_27 s0).toInt := congrArg Int32.toInt q43
          refine lv_iadd hx hb dX10_sure_46 ?_
          refine lv_topi (fun v46 e46 => ?_)
          refine lv_istore (lv' := [(4, .int v46), (3, .int v33), (0, .ref mo), (1, .int j), (2, .int s0)]) hx hb dX10_sure_47 hl (by decide) rfl (fun ls hl => ?_)
          refine lv_goto (tgt := 25) hx hb dX10_sure_49 (by decide) ?_
          exact ih_25 v46 v33 dp_27 tr_27 sp_27 fd_27 rw_27 mt_27 (by omega) (by omega) (by omega) _ _ hP hS ls (lv_sub hl [0, 1, 2, 3, 4] rfl)
    exact loop_25 (200000 + 1) (0 : Int32) (0 : Int32) (0 : Int32) (0 : Int32) (0 : Int32) (g 14) rw_17 (r 9) (by omega) (by omega) (by omega) _ _ hP hS ls (lv_sub hl [0, 1, 2, 3, 4] rfl)
  · skip
    have b11 := bo_f q8 c11
    refine lv_iconst (v := (-1)) hx hb dX10_sure_14 (by decide) ?_
    exact W.iret (v := ((-1) : Int32)) hx hb hr (fun t ht hW => ⟨⟨_, ((upd (upd (upd (upd f 0 (0 : Int32)) 11 (f 11)) 12 (f 12)) 13 (f 13)), (vp_updL g 14 (g 14)), (va_up (va_up r 10 (r 10)) 9 (r 9)), q), rfl, ⟨(f 11), (f 12), (f 13), (g 14), (r 10), (r 9), rfl, trivial⟩, by unfold mB; rw [ht]; exact hP⟩, hS.F ht⟩) hS.2.2 dX10_sure_15
