
def jA (k w h jc : Int32) : Int := if (0 ≤ k.toInt ∧ k.toInt ≤ 3) ∧ (1 ≤ w.toInt ∧ w.toInt ≤ 6) ∧ (1 ≤ h.toInt ∧ h.toInt ≤ 6) then (if jc.toInt < 8 then jc.toInt else -2) else -1
def jN (k w h jc : Int32) : Int := if ((0 ≤ k.toInt ∧ k.toInt ≤ 3) ∧ (1 ≤ w.toInt ∧ w.toInt ≤ 6) ∧ (1 ≤ h.toInt ∧ h.toInt ≤ 6)) ∧ jc.toInt < 8 then jc.toInt + 1 else jc.toInt
set_option maxHeartbeats 4000000 in
set_option maxRecDepth 100000 in
theorem c_X9_job_x (l : Launch) (D : va_G) (cy : Nat → ClassId) (A : Nat → Prop) (G : cG) (ws : va_W) (o : Nat) (kind : Int32) (wide : Int32) (high : Int32) {bs_o js_o sh_o wk_o ll_o : Nat} {jc_o lc_o : Int32} {mo_o lb_o : Option Nat} (hD : va_D A ws) (hT : cT cy G ws) (hG_o : G o = some (7, 0, 0)) (hM_o : cIn ws o (.inr (8, [.ref bs_o, .ref js_o, .int jc_o, .ref sh_o, .ref wk_o, va_rf mo_o, .ref ll_o, .int lc_o, va_rf lb_o])))  : Ci l D cy A yX9_job wsX9_job ({ frames := 6, cells := 7, slots := 588, locals := 124 }) 7 588 ws [.ref o, .int kind, .int wide, .int high] (fun r0 u => cX none (chs [1, 7, 8, 9]) G ws u.1 u.2 ∧ (r0.toInt = jA kind wide high jc_o ∧ ∃ jc lc lb, cIn u.2 o (.inr (8, [.ref bs_o, .ref js_o, .int jc, .ref sh_o, .ref wk_o, va_rf mo_o, .ref ll_o, .int lc, va_rf lb])) ∧ jc.toInt = jN kind wide high jc_o)) := by
  refine Met.ofW (cc := cX9_job) (maxL := 5) (ret := (some .int)) (by decide) rfl ?_
  intro p e s m args below meth c s₁ B hml hv
  obtain ⟨rfl, hP, hK, hA, hV⟩ := hv
  have hx := B.exec
  have hb := B.bytes
  have hr := B.returns
  have hts := atoms_spec (ws := wsX9_job) B.pre
  have hown : s.vm.findClass RX9 = some m.cls := findClass_of_methodNamed B.named
  have hlocks := B.notSynchronized
  have hS : va_S A s.heap s.heap [] := va_S.rf
  have hX : cX none (chs [1, 7, 8, 9]) G ws G ws := cX.rf
  have hl := lv_entry ([.ref o, .int kind, .int wide, .int high]) (n := 5) (Nat.le_of_ble_eq_true rfl)
  rw [lg_entry_eq]
  generalize (lg_sl ([.ref o, .int kind, .int wide, .int high]) ++ List.replicate (5 - (lg_sl ([.ref o, .int kind, .int wide, .int high])).length) Slot.unset).toArray = ls at hl ⊢
  have hl : lv_has ls 5 [(0, .ref o), (1, .int kind), (2, .int wide), (3, .int high)] := hl
  have k_m2 : (-2 : Int32).toInt = -2 := by decide
  have k_m1 : (-1 : Int32).toInt = -1 := by decide
  have k_0 : (0 : Int32).toInt = 0 := by decide
  have k_1 : (1 : Int32).toInt = 1 := by decide
  have k_3 : (3 : Int32).toInt = 3 := by decide
  have k_8 : (8 : Int32).toInt = 8 := by decide
  obtain ⟨hjc_o, hlc_o, hG_bs_o, hG_js_o, hG_sh_o, hG_wk_o, hmo_o, hG_ll_o, hlb_o⟩ := w7sh hD hT hG_o hM_o
  refine lv_aload_n hx hb dX9_job_0 rfl (lv_at hl 0 rfl) ?_
  refine lv_iload_n hx hb dX9_job_1 rfl (lv_at hl 2 rfl) ?_
  refine lv_iload_n hx hb dX9_job_2 rfl (lv_at hl 3 rfl) ?_
  refine t_calla (va_runV (g := F0 m 3 ls ([.int high, .int wide, .ref o])) (As := [.int wide, .int high]) (rest := []) ⟨hx, hb, hml, hown, hts⟩ (c_X9_boardOf_x l D cy A G ws o wide high hD hT hG_o ) (cwV 2 hts gX9_job_X9_boardOf rfl rfl rfl (by decide +kernel) ⟨Nat.le_of_ble_eq_true rfl, Nat.le_of_ble_eq_true rfl⟩) (c_preV hM_o rfl hP hK hA hS hV) rfl rfl hl.1 rfl (lv_room (Nat.le_of_ble_eq_true rfl)) dX9_job_3 ⟨Nat.le_of_ble_eq_true rfl, Nat.le_of_ble_eq_true rfl⟩) hS (fun r3 u H locs q3 hP9 hD9 hT9 hS => ?_)
  obtain ⟨G3, w3⟩ := u
  obtain ⟨hX9, q3⟩ := q3
  have hX9 : cX none (chs [1, 8]) G ws G3 w3 := hX9
  have hP : va_P D vwCl w3 H := hP9
  have hD : va_D A w3 := hD9
  have hT : cT cy G3 w3 := hT9
  have hM_o := hX9.2.1 _ _ (cP.no hG_o rfl) hM_o
  have hG_o := hX9.1 _ _ hG_o
  have hG_bs_o := hX9.1 _ _ hG_bs_o
  have hG_js_o := hX9.1 _ _ hG_js_o
  have hG_sh_o := hX9.1 _ _ hG_sh_o
  have hG_wk_o := hX9.1 _ _ hG_wk_o
  have hG_ll_o := hX9.1 _ _ hG_ll_o
  have hmo_o := fun x9 z9 => hX9.1 _ _ (hmo_o x9 z9)
  have hlb_o : ∀ x9, lb_o = some x9 → ∃ w9 h9, _ = some (2, w9, h9) := fun x9 z9 => (hlb_o x9 z9).elim fun w9 z9 => z9.elim fun h9 z9 => ⟨w9, h9, hX9.1 _ _ z9⟩
  have hX := hX.tr (hX9.wk (chs_sub (by decide)))
  rcases r3 with _ | x3
  · skip
    have vn3 := q3.2.1 rfl
    refine lv_astoreN (lv' := [(4, .null), (0, .ref o), (1, .int kind), (2, .int wide), (3, .int high)]) hx hb dX9_job_6 hl (by decide) rfl (fun ls hl => ?_)
    refine lv_aloadN hx hb dX9_job_8 (lv_at hl 0 rfl) ?_
    refine lv_ifnullN (tgt := 22) hx hb dX9_job_10 (by decide) ?_
    refine lv_iconst (v := (-1)) hx hb dX9_job_22 (by decide) ?_
    refine W.widen (k := 7) (n := 588) (Nat.le_of_ble_eq_true rfl) (Nat.le_of_ble_eq_true rfl) ?_
    exact W.iret (v := ((-1) : Int32)) hx hb hr (fun t ht hW => ⟨⟨_, (G3, w3), rfl, ⟨hX, ⟨(by unfold jA; rw [if_neg (by omega)]; rfl), _, _, lb_o, hM_o, (by unfold jN; rw [if_neg (by omega)])⟩⟩, by show va_P D vwCl w3 t.heap; rw [ht]; exact hP, hD, hT⟩, hS.F ht⟩) hS.2.2 dX9_job_23
  · skip
    have hG_x3 := q3.1 x3 rfl
    have vb3 := q3.2.2 x3 rfl
    refine lv_astore (lv' := [(4, .ref x3), (0, .ref o), (1, .int kind), (2, .int wide), (3, .int high)]) hx hb dX9_job_6 hl (by decide) rfl (fun ls hl => ?_)
    refine lv_aload hx hb dX9_job_8 (lv_at hl 0 rfl) ?_
    refine lv_ifnull hx hb dX9_job_10 ?_
    refine lv_iload_n hx hb dX9_job_13 rfl (lv_at hl 2 rfl) ?_
    refine lv_if_lt (tgt := 22) hx hb dX9_job_14 (by decide) (fun c14 => ?_) (fun c14 => ?_)
    · skip
      have d14 := c14
      rw [fa_lt] at d14
      refine lv_iconst (v := (-1)) hx hb dX9_job_22 (by decide) ?_
      refine W.widen (k := 7) (n := 588) (Nat.le_of_ble_eq_true rfl) (Nat.le_of_ble_eq_true rfl) ?_
      exact W.iret (v := ((-1) : Int32)) hx hb hr (fun t ht hW => ⟨⟨_, (G3, w3), rfl, ⟨hX, ⟨(by unfold jA; rw [if_neg (by omega)]; rfl), _, _, lb_o, hM_o, (by unfold jN; rw [if_neg (by omega)])⟩⟩, by show va_P D vwCl w3 t.heap; rw [ht]; exact hP, hD, hT⟩, hS.F ht⟩) hS.2.2 dX9_job_23
    · skip
      have d14 := c14
      rw [fa_lt] at d14
      refine lv_iload_n hx hb dX9_job_17 rfl (lv_at hl 2 rfl) ?_
      refine lv_iconst (v := 3) hx hb dX9_job_18 (by decide) ?_
      refine lv_icmp_le (tgt := 24) hx hb dX9_job_19 (by decide) (fun c19 => ?_) (fun c19 => ?_)
      · skip
        have d19 := c19
        rw [fa_le] at d19
        refine lv_aload_n hx hb dX9_job_24 rfl (lv_at hl 1 rfl) ?_
        refine t_get (v := .int jc_o) (C := RX9) (T := TX9) (N := 9) hx hb hts (by decide +kernel) hown hK hP hM_o rfl 2 (by decide) (hts (.fieldLink RX9 21 "ShadowBench" "jobCount" "I") (by decide +kernel)) (fun _ h9 => h9) rfl dX9_job_25 ?_
        refine lv_bipush (v := 8) hx hb dX9_job_28 (by decide) ?_
        refine lv_icmp_lt (tgt := 36) hx hb dX9_job_30 (by decide) (fun c30 => ?_) (fun c30 => ?_)
        · skip
          have d30 := c30
          rw [fa_lt] at d30
          refine lv_aload_n hx hb dX9_job_36 rfl (lv_at hl 1 rfl) ?_
          refine t_get (v := .ref js_o) (C := RX9) (T := TX9) (N := 9) hx hb hts (by decide +kernel) hown hK hP hM_o rfl 1 (by decide) (hts (.fieldLink RX9 17 "ShadowBench" "jobs" "[LShadowBench$Job;") (by decide +kernel)) (fun _ h9 => h9) rfl dX9_job_37 ?_
          refine lv_aload_n hx hb dX9_job_40 rfl (lv_at hl 1 rfl) ?_
          refine t_get (v := .int jc_o) (C := RX9) (T := TX9) (N := 9) hx hb hts (by decide +kernel) hown hK hP hM_o rfl 2 (by decide) (hts (.fieldLink RX9 21 "ShadowBench" "jobCount" "I") (by decide +kernel)) (fun _ h9 => h9) rfl dX9_job_41 ?_
          refine lv_iload_n hx hb dX9_job_44 rfl (lv_at hl 2 rfl) ?_
          refine lv_aload hx hb dX9_job_45 (lv_at hl 0 rfl) ?_
          refine t_calla (va_runS (g := F0 m 47 ls ([.ref x3, .int kind, .int jc_o, .ref js_o])) (As := [.int kind, .ref x3]) (rest := [.int jc_o, .ref js_o]) ⟨hx, hb, hml, hown, hts⟩ (c_X9_newJob l D cy A G3 w3 kind x3 hD hT hG_x3 ) (va_cwS 2 hts gX9_job_X9_newJob rfl rfl rfl (by decide +kernel) ⟨Nat.le_of_ble_eq_true rfl, Nat.le_of_ble_eq_true rfl⟩) (c_preS hP hK hA hS hV) rfl rfl hl.1 rfl (lv_room (Nat.le_of_ble_eq_true rfl)) dX9_job_47 ⟨Nat.le_of_ble_eq_true rfl, Nat.le_of_ble_eq_true rfl⟩) hS (fun r47 u H locs q47 hP9 hD9 hT9 hS => ?_)
          obtain ⟨G47, w47⟩ := u
          obtain ⟨hX9, q47⟩ := q47
          have hX9 : cX none (chs []) G3 w3 G47 w47 := hX9
          have hP : va_P D vwCl w47 H := hP9
          have hD : va_D A w47 := hD9
          have hT : cT cy G47 w47 := hT9
          have hM_o := hX9.2.1 _ _ (cP.no hG_o rfl) hM_o
          have hG_o := hX9.1 _ _ hG_o
          have hG_bs_o := hX9.1 _ _ hG_bs_o
          have hG_js_o := hX9.1 _ _ hG_js_o
          have hG_sh_o := hX9.1 _ _ hG_sh_o
          have hG_wk_o := hX9.1 _ _ hG_wk_o
          have hG_ll_o := hX9.1 _ _ hG_ll_o
          have hG_x3 := hX9.1 _ _ hG_x3
          have hmo_o := fun x9 z9 => hX9.1 _ _ (hmo_o x9 z9)
          have hlb_o : ∀ x9, lb_o = some x9 → ∃ w9 h9, _ = some (2, w9, h9) := fun x9 z9 => (hlb_o x9 z9).elim fun w9 z9 => z9.elim fun h9 z9 => ⟨w9, h9, hX9.1 _ _ z9⟩
          have hX := hX.tr (hX9.wk (chs_sub (by decide)))
          obtain ⟨x47, k47, n47, rfl, hG_x47⟩ := q47
          refine t_aast9 hx hb hV hK hP hD hS hT hG_js_o hG_x47 (vp_in_iff.mpr ⟨by omega, by omega⟩) dX9_job_50 (fun H locs w50 hU50 hP hD hT hS => ?_)
          have hM_o := hU50 _ _ (cne hG_o hG_js_o (show (7 : Nat) ≠ 9 by decide)) hM_o
          have hX := hX.tr (cX.uF hU50 (Or.inr ⟨_, hG_js_o, rfl⟩))
          refine lv_aload_n hx hb dX9_job_51 rfl (lv_at hl 1 rfl) ?_
          refine lv_dup hx hb dX9_job_52 rfl ?_
          refine t_get (v := .int jc_o) (C := RX9) (T := TX9) (N := 9) hx hb hts (by decide +kernel) hown hK hP hM_o rfl 2 (by decide) (hts (.fieldLink RX9 21 "ShadowBench" "jobCount" "I") (by decide +kernel)) (fun _ h9 => h9) rfl dX9_job_53 ?_
          refine lv_iconst (v := 1) hx hb dX9_job_56 (by decide) ?_
          refine lv_iadd hx hb dX9_job_57 ?_
          refine lv_topi (fun v57 e57 => ?_)
          have i57 : v57.toInt = jc_o.toInt + (1 : Int32).toInt := by rw [e57]; exact fb_addI (by omega) (by omega)
          refine t_put (v := .int v57) (C := RX9) (T := TX9) (N := 9) (ty0 := tyX9) hx hb hts (by decide +kernel) tyX9_ok nmX9 hown hK hP hD hS hM_o rfl 2 (by decide) (hts (.fieldLink RX9 21 "ShadowBench" "jobCount" "I") (by decide +kernel)) (fun _ h9 => h9) rfl rfl rfl (Nat.le_of_ble_eq_true rfl) dX9_job_58 (fun H locs w58 hU58 hP hD hS => ?_)
          have hT := hT.up hU58 hG_o ⟨_, _, _, _, _, _, _, mo_o, lb_o, rfl, ⟨by omega, by omega⟩, ⟨by omega, by omega⟩, hG_bs_o, hG_js_o, hG_sh_o, hG_wk_o, hmo_o, hG_ll_o, hlb_o⟩
          have hM_o : cIn w58 o (.inr (8, [.ref bs_o, .ref js_o, .int v57, .ref sh_o, .ref wk_o, va_rf mo_o, .ref ll_o, .int lc_o, va_rf lb_o])) := hU58.1
          have hX := hX.tr (cX.up hU58 (Or.inr ⟨_, hG_o, rfl⟩))
          refine lv_aload_n hx hb dX9_job_61 rfl (lv_at hl 1 rfl) ?_
          refine t_get (v := .int v57) (C := RX9) (T := TX9) (N := 9) hx hb hts (by decide +kernel) hown hK hP hM_o rfl 2 (by decide) (hts (.fieldLink RX9 21 "ShadowBench" "jobCount" "I") (by decide +kernel)) (fun _ h9 => h9) rfl dX9_job_62 ?_
          refine lv_iconst (v := 1) hx hb dX9_job_65 (by decide) ?_
          refine lv_isub hx hb dX9_job_66 ?_
          refine lv_topi (fun v66 e66 => ?_)
          have i66 : v66.toInt = v57.toInt - (1 : Int32).toInt := by rw [e66]; exact fb_subI (by omega) (by omega)
          refine W.widen (k := 7) (n := 588) (Nat.le_of_ble_eq_true rfl) (Nat.le_of_ble_eq_true rfl) ?_
          exact W.iret (v := v66) hx hb hr (fun t ht hW => ⟨⟨_, (G47, w58), rfl, ⟨hX, ⟨(by unfold jA; rw [if_pos (by omega), if_pos (by omega)]; omega), _, _, lb_o, hM_o, (by unfold jN; rw [if_pos (by omega)]; omega)⟩⟩, by show va_P D vwCl w58 t.heap; rw [ht]; exact hP, hD, hT⟩, hS.F ht⟩) hS.2.2 dX9_job_67
        · skip
          have d30 := c30
          rw [fa_lt] at d30
          refine lv_bipush (v := (-2)) hx hb dX9_job_33 (by decide) ?_
          refine W.widen (k := 7) (n := 588) (Nat.le_of_ble_eq_true rfl) (Nat.le_of_ble_eq_true rfl) ?_
          exact W.iret (v := ((-2) : Int32)) hx hb hr (fun t ht hW => ⟨⟨_, (G3, w3), rfl, ⟨hX, ⟨(by unfold jA; rw [if_pos (by omega), if_neg (by omega)]; rfl), _, _, lb_o, hM_o, (by unfold jN; rw [if_neg (by omega)])⟩⟩, by show va_P D vwCl w3 t.heap; rw [ht]; exact hP, hD, hT⟩, hS.F ht⟩) hS.2.2 dX9_job_35
      · skip
        have d19 := c19
        rw [fa_le] at d19
        refine lv_iconst (v := (-1)) hx hb dX9_job_22 (by decide) ?_
        refine W.widen (k := 7) (n := 588) (Nat.le_of_ble_eq_true rfl) (Nat.le_of_ble_eq_true rfl) ?_
        exact W.iret (v := ((-1) : Int32)) hx hb hr (fun t ht hW => ⟨⟨_, (G3, w3), rfl, ⟨hX, ⟨(by unfold jA; rw [if_neg (by omega)]; rfl), _, _, lb_o, hM_o, (by unfold jN; rw [if_neg (by omega)])⟩⟩, by show va_P D vwCl w3 t.heap; rw [ht]; exact hP, hD, hT⟩, hS.F ht⟩) hS.2.2 dX9_job_23
set_option maxHeartbeats 4000000 in
set_option maxRecDepth 100000 in
theorem c_X9_list_k (l : Launch) (D : va_G) (cy : Nat → ClassId) (A : Nat → Prop) (G : cG) (ws : va_W) (o : Nat) (wide : Int32) (high : Int32) (p0 : Int64) {bs_o js_o sh_o wk_o ll_o : Nat} {jc_o lc_o : Int32} {mo_o lb_o : Option Nat} (hD : va_D A ws) (hT : cT cy G ws) (hG_o : G o = some (7, 0, 0)) (hM_o : cIn ws o (.inr (8, [.ref bs_o, .ref js_o, .int jc_o, .ref sh_o, .ref wk_o, va_rf mo_o, .ref ll_o, .int lc_o, va_rf lb_o])))  : Ci l D cy A yX9_list wsX9_list ({ frames := 5, cells := 4, slots := 502, locals := 116 }) 4 502 ws [.ref o, .int wide, .int high, .long p0] (fun r0 u => cX none (chs [1, 7, 8, 17]) G ws u.1 u.2 ∧ (∃ lc lb, cIn u.2 o (.inr (8, [.ref bs_o, .ref js_o, .int jc_o, .ref sh_o, .ref wk_o, va_rf mo_o, .ref ll_o, .int lc, va_rf lb])))) := by
  refine Met.ofW (cc := cX9_list) (maxL := 6) (ret := (some .int)) (by decide) rfl ?_
  intro p e s m args below meth c s₁ B hml hv
  obtain ⟨rfl, hP, hK, hA, hV⟩ := hv
  have hx := B.exec
  have hb := B.bytes
  have hr := B.returns
  have hts := atoms_spec (ws := wsX9_list) B.pre
  have hown : s.vm.findClass RX9 = some m.cls := findClass_of_methodNamed B.named
  have hlocks := B.notSynchronized
  have hS : va_S A s.heap s.heap [] := va_S.rf
  have hX : cX none (chs [1, 7, 8, 17]) G ws G ws := cX.rf
  have hl := lv_entry ([.ref o, .int wide, .int high, .long p0]) (n := 6) (Nat.le_of_ble_eq_true rfl)
  rw [lg_entry_eq]
  generalize (lg_sl ([.ref o, .int wide, .int high, .long p0]) ++ List.replicate (6 - (lg_sl ([.ref o, .int wide, .int high, .long p0])).length) Slot.unset).toArray = ls at hl ⊢
  have hl : lv_has ls 6 [(0, .ref o), (1, .int wide), (2, .int high), (3, .long p0)] := hl
  have k_m3 : (-3 : Int32).toInt = -3 := by decide
  have k_m2 : (-2 : Int32).toInt = -2 := by decide
  have k_m1 : (-1 : Int32).toInt = -1 := by decide
  have k_0 : (0 : Int32).toInt = 0 := by decide
  have k_1 : (1 : Int32).toInt = 1 := by decide
  have k_12 : (12 : Int32).toInt = 12 := by decide
  obtain ⟨hjc_o, hlc_o, hG_bs_o, hG_js_o, hG_sh_o, hG_wk_o, hmo_o, hG_ll_o, hlb_o⟩ := w7sh hD hT hG_o hM_o
  refine lv_aload_n hx hb dX9_list_0 rfl (lv_at hl 0 rfl) ?_
  refine lv_iload_n hx hb dX9_list_1 rfl (lv_at hl 1 rfl) ?_
  refine lv_iload_n hx hb dX9_list_2 rfl (lv_at hl 2 rfl) ?_
  refine t_calla (va_runV (g := F0 m 3 ls ([.int high, .int wide, .ref o])) (As := [.int wide, .int high]) (rest := []) ⟨hx, hb, hml, hown, hts⟩ (c_X9_boardOf l D cy A G ws o wide high hD hT hG_o ) (cwV 2 hts gX9_list_X9_boardOf rfl rfl rfl (by decide +kernel) ⟨Nat.le_of_ble_eq_true rfl, Nat.le_of_ble_eq_true rfl⟩) (c_preV hM_o rfl hP hK hA hS hV) rfl rfl hl.1 rfl (lv_room (Nat.le_of_ble_eq_true rfl)) dX9_list_3 ⟨Nat.le_of_ble_eq_true rfl, Nat.le_of_ble_eq_true rfl⟩) hS (fun r3 u H locs q3 hP9 hD9 hT9 hS => ?_)
  obtain ⟨G3, w3⟩ := u
  obtain ⟨hX9, q3⟩ := q3
  have hX9 : cX none (chs [1, 8]) G ws G3 w3 := hX9
  have hP : va_P D vwCl w3 H := hP9
  have hD : va_D A w3 := hD9
  have hT : cT cy G3 w3 := hT9
  have hM_o := hX9.2.1 _ _ (cP.no hG_o rfl) hM_o
  have hG_o := hX9.1 _ _ hG_o
  have hG_bs_o := hX9.1 _ _ hG_bs_o
  have hG_js_o := hX9.1 _ _ hG_js_o
  have hG_sh_o := hX9.1 _ _ hG_sh_o
  have hG_wk_o := hX9.1 _ _ hG_wk_o
  have hG_ll_o := hX9.1 _ _ hG_ll_o
  have hmo_o := fun x9 z9 => hX9.1 _ _ (hmo_o x9 z9)
  have hlb_o : ∀ x9, lb_o = some x9 → ∃ w9 h9, _ = some (2, w9, h9) := fun x9 z9 => (hlb_o x9 z9).elim fun w9 z9 => z9.elim fun h9 z9 => ⟨w9, h9, hX9.1 _ _ z9⟩
  have hX := hX.tr (hX9.wk (chs_sub (by decide)))
  rcases r3 with _ | x3
  · skip
    refine lv_astoreN (lv' := [(5, .null), (0, .ref o), (1, .int wide), (2, .int high), (3, .long p0)]) hx hb dX9_list_6 hl (by decide) rfl (fun ls hl => ?_)
    refine lv_aloadN hx hb dX9_list_8 (lv_at hl 0 rfl) ?_
    refine lv_ifnullN (tgt := 22) hx hb dX9_list_10 (by decide) ?_
    refine lv_iconst (v := (-1)) hx hb dX9_list_22 (by decide) ?_
    refine W.widen (k := 4) (n := 502) (Nat.le_of_ble_eq_true rfl) (Nat.le_of_ble_eq_true rfl) ?_
    exact W.iret (v := ((-1) : Int32)) hx hb hr (fun t ht hW => ⟨⟨_, (G3, w3), rfl, ⟨hX, ⟨_, lb_o, hM_o⟩⟩, by show va_P D vwCl w3 t.heap; rw [ht]; exact hP, hD, hT⟩, hS.F ht⟩) hS.2.2 dX9_list_23
  · skip
    have hG_x3 := q3 x3 rfl
    refine lv_astore (lv' := [(5, .ref x3), (0, .ref o), (1, .int wide), (2, .int high), (3, .long p0)]) hx hb dX9_list_6 hl (by decide) rfl (fun ls hl => ?_)
    refine lv_aload hx hb dX9_list_8 (lv_at hl 0 rfl) ?_
    refine lv_ifnull hx hb dX9_list_10 ?_
    refine lv_aload hx hb dX9_list_13 (lv_at hl 0 rfl) ?_
    refine lv_lload_n hx hb dX9_list_15 rfl (lv_at hl 4 rfl) ?_
    obtain ⟨_, hM_x3, hb_x3, l_x3, f_x3, r_x3, rfl, hG_l_x3, hG_f_x3, hG_r_x3⟩ := hT _ _ hG_x3
    refine t_calli (va_runV (g := F0 m 16 ls ([.long p0, .ref x3])) (As := [.long p0]) (rest := []) ⟨hx, hb, hml, hown, hts⟩ (c_X0_isPicture l D cy A G3 w3 x3 p0 hD hT hG_x3 ) (cwV 1 hts gX9_list_X0_isPicture rfl rfl rfl (by decide +kernel) ⟨Nat.le_of_ble_eq_true rfl, Nat.le_of_ble_eq_true rfl⟩) (c_preV hM_x3 rfl hP hK hA hS hV) rfl rfl hl.1 rfl (lv_room (Nat.le_of_ble_eq_true rfl)) dX9_list_16 ⟨Nat.le_of_ble_eq_true rfl, Nat.le_of_ble_eq_true rfl⟩) hS (fun r16 u H locs q16 hP9 hD9 hT9 hS => ?_)
    obtain ⟨rfl, q16⟩ := q16
    have hP : va_P D vwCl w3 H := hP9
    refine lv_if_ne (tgt := 24) hx hb dX9_list_19 (by decide) (fun c19 => ?_) (fun c19 => ?_)
    · skip
      have d19 := c19
      rw [fa_eq] at d19
      refine lv_aload_n hx hb dX9_list_24 rfl (lv_at hl 1 rfl) ?_
      refine t_get (v := .int lc_o) (C := RX9) (T := TX9) (N := 9) hx hb hts (by decide +kernel) hown hK hP hM_o rfl 7 (by decide) (hts (.fieldLink RX9 46 "ShadowBench" "listCount" "I") (by decide +kernel)) (fun _ h9 => h9) rfl dX9_list_25 ?_
      refine lv_bipush (v := 12) hx hb dX9_list_28 (by decide) ?_
      refine lv_icmp_lt (tgt := 36) hx hb dX9_list_30 (by decide) (fun c30 => ?_) (fun c30 => ?_)
      · skip
        have d30 := c30
        rw [fa_lt] at d30
        refine lv_aload_n hx hb dX9_list_36 rfl (lv_at hl 1 rfl) ?_
        refine lv_iload_n hx hb dX9_list_37 rfl (lv_at hl 2 rfl) ?_
        refine lv_iload_n hx hb dX9_list_38 rfl (lv_at hl 3 rfl) ?_
        refine t_calli (va_runV (g := F0 m 39 ls ([.int high, .int wide, .ref o])) (As := [.int wide, .int high]) (rest := []) ⟨hx, hb, hml, hown, hts⟩ (c_X9_isOtherThanListed l D cy A G3 w3 o wide high hD hT hG_o ) (cwV 2 hts gX9_list_X9_isOtherThanListed rfl rfl rfl (by decide +kernel) ⟨Nat.le_of_ble_eq_true rfl, Nat.le_of_ble_eq_true rfl⟩) (c_preV hM_o rfl hP hK hA hS hV) rfl rfl hl.1 rfl (lv_room (Nat.le_of_ble_eq_true rfl)) dX9_list_39 ⟨Nat.le_of_ble_eq_true rfl, Nat.le_of_ble_eq_true rfl⟩) hS (fun r39 u H locs q39 hP9 hD9 hT9 hS => ?_)
        obtain ⟨rfl, q39⟩ := q39
        have hP : va_P D vwCl w3 H := hP9
        refine lv_if_ne (tgt := 53) hx hb dX9_list_42 (by decide) (fun c42 => ?_) (fun c42 => ?_)
        · skip
          have d42 := c42
          rw [fa_eq] at d42
          refine lv_bipush (v := (-3)) hx hb dX9_list_53 (by decide) ?_
          refine W.widen (k := 4) (n := 502) (Nat.le_of_ble_eq_true rfl) (Nat.le_of_ble_eq_true rfl) ?_
          exact W.iret (v := ((-3) : Int32)) hx hb hr (fun t ht hW => ⟨⟨_, (G3, w3), rfl, ⟨hX, ⟨_, lb_o, hM_o⟩⟩, by show va_P D vwCl w3 t.heap; rw [ht]; exact hP, hD, hT⟩, hS.F ht⟩) hS.2.2 dX9_list_55
        · skip
          have d42 := c42
          rw [fa_eq] at d42
          refine lv_aload_n hx hb dX9_list_45 rfl (lv_at hl 1 rfl) ?_
          refine lv_lload_n hx hb dX9_list_46 rfl (lv_at hl 4 rfl) ?_
          refine t_calli (va_runV (g := F0 m 47 ls ([.long p0, .ref o])) (As := [.long p0]) (rest := []) ⟨hx, hb, hml, hown, hts⟩ (c_X9_isListed l D cy A G3 w3 o p0 hD hT hG_o ) (cwV 1 hts gX9_list_X9_isListed rfl rfl rfl (by decide +kernel) ⟨Nat.le_of_ble_eq_true rfl, Nat.le_of_ble_eq_true rfl⟩) (c_preV hM_o rfl hP hK hA hS hV) rfl rfl hl.1 rfl (lv_room (Nat.le_of_ble_eq_true rfl)) dX9_list_47 ⟨Nat.le_of_ble_eq_true rfl, Nat.le_of_ble_eq_true rfl⟩) hS (fun r47 u H locs q47 hP9 hD9 hT9 hS => ?_)
          obtain ⟨rfl, q47⟩ := q47
          have hP : va_P D vwCl w3 H := hP9
          refine lv_if_eq (tgt := 56) hx hb dX9_list_50 (by decide) (fun c50 => ?_) (fun c50 => ?_)
          · skip
            have d50 := c50
            rw [fa_eq] at d50
            refine lv_aload_n hx hb dX9_list_56 rfl (lv_at hl 1 rfl) ?_
            refine lv_aload hx hb dX9_list_57 (lv_at hl 0 rfl) ?_
            refine t_put (v := .ref x3) (C := RX9) (T := TX9) (N := 9) (ty0 := tyX9) hx hb hts (by decide +kernel) tyX9_ok nmX9 hown hK hP hD hS hM_o rfl 8 (by decide) (hts (.fieldLink RX9 49 "ShadowBench" "listBoard" "LShadowBench$Board;") (by decide +kernel)) (fun _ h9 => h9) rfl rfl rfl (Nat.le_of_ble_eq_true rfl) dX9_list_59 (fun H locs w59 hU59 hP hD hS => ?_)
            have hM_x3 := hU59.2 _ _ (cne hG_x3 hG_o (show (2 : Nat) ≠ 7 by decide)) hM_x3
            have hT := hT.up hU59 hG_o ⟨_, _, _, _, _, _, _, mo_o, (some x3), rfl, ⟨by omega, by omega⟩, ⟨by omega, by omega⟩, hG_bs_o, hG_js_o, hG_sh_o, hG_wk_o, hmo_o, hG_ll_o, (fun _ z => Option.some.inj z ▸ ⟨_, _, hG_x3⟩)⟩
            have hM_o : cIn w59 o (.inr (8, [.ref bs_o, .ref js_o, .int jc_o, .ref sh_o, .ref wk_o, va_rf mo_o, .ref ll_o, .int lc_o, .ref x3])) := hU59.1
            have hX := hX.tr (cX.up hU59 (Or.inr ⟨_, hG_o, rfl⟩))
            refine lv_aload_n hx hb dX9_list_62 rfl (lv_at hl 1 rfl) ?_
            refine t_get (v := .ref ll_o) (C := RX9) (T := TX9) (N := 9) hx hb hts (by decide +kernel) hown hK hP hM_o rfl 6 (by decide) (hts (.fieldLink RX9 42 "ShadowBench" "listed" "[J") (by decide +kernel)) (fun _ h9 => h9) rfl dX9_list_63 ?_
            refine lv_aload_n hx hb dX9_list_66 rfl (lv_at hl 1 rfl) ?_
            refine t_get (v := .int lc_o) (C := RX9) (T := TX9) (N := 9) hx hb hts (by decide +kernel) hown hK hP hM_o rfl 7 (by decide) (hts (.fieldLink RX9 46 "ShadowBench" "listCount" "I") (by decide +kernel)) (fun _ h9 => h9) rfl dX9_list_67 ?_
            refine lv_lload_n hx hb dX9_list_70 rfl (lv_at hl 4 rfl) ?_
            refine t_last hx hb hK hP hD hS hT (Or.inr (Or.inr rfl)) hG_ll_o (vp_in_iff.mpr ⟨by omega, by omega⟩) dX9_list_71 (fun H locs w71 hU71 hP hD hT hS => ?_)
            have hM_o := hU71 _ _ (cne hG_o hG_ll_o (show (7 : Nat) ≠ 17 by decide)) hM_o
            have hM_x3 := hU71 _ _ (cne hG_x3 hG_ll_o (show (2 : Nat) ≠ 17 by decide)) hM_x3
            have hX := hX.tr (cX.uF hU71 (Or.inr ⟨_, hG_ll_o, rfl⟩))
            refine lv_aload_n hx hb dX9_list_72 rfl (lv_at hl 1 rfl) ?_
            refine lv_dup hx hb dX9_list_73 rfl ?_
            refine t_get (v := .int lc_o) (C := RX9) (T := TX9) (N := 9) hx hb hts (by decide +kernel) hown hK hP hM_o rfl 7 (by decide) (hts (.fieldLink RX9 46 "ShadowBench" "listCount" "I") (by decide +kernel)) (fun _ h9 => h9) rfl dX9_list_74 ?_
            refine lv_iconst (v := 1) hx hb dX9_list_77 (by decide) ?_
            refine lv_iadd hx hb dX9_list_78 ?_
            refine lv_topi (fun v78 e78 => ?_)
            have i78 : v78.toInt = lc_o.toInt + (1 : Int32).toInt := by rw [e78]; exact fb_addI (by omega) (by omega)
            refine t_put (v := .int v78) (C := RX9) (T := TX9) (N := 9) (ty0 := tyX9) hx hb hts (by decide +kernel) tyX9_ok nmX9 hown hK hP hD hS hM_o rfl 7 (by decide) (hts (.fieldLink RX9 46 "ShadowBench" "listCount" "I") (by decide +kernel)) (fun _ h9 => h9) rfl rfl rfl (Nat.le_of_ble_eq_true rfl) dX9_list_79 (fun H locs w79 hU79 hP hD hS => ?_)
            have hM_x3 := hU79.2 _ _ (cne hG_x3 hG_o (show (2 : Nat) ≠ 7 by decide)) hM_x3
            have hT := hT.up hU79 hG_o ⟨_, _, _, _, _, _, _, mo_o, (some x3), rfl, ⟨by omega, by omega⟩, ⟨by omega, by omega⟩, hG_bs_o, hG_js_o, hG_sh_o, hG_wk_o, hmo_o, hG_ll_o, (fun _ z => Option.some.inj z ▸ ⟨_, _, hG_x3⟩)⟩
            have hM_o : cIn w79 o (.inr (8, [.ref bs_o, .ref js_o, .int jc_o, .ref sh_o, .ref wk_o, va_rf mo_o, .ref ll_o, .int v78, .ref x3])) := hU79.1
            have hX := hX.tr (cX.up hU79 (Or.inr ⟨_, hG_o, rfl⟩))
            refine lv_aload_n hx hb dX9_list_82 rfl (lv_at hl 1 rfl) ?_
            refine t_get (v := .int v78) (C := RX9) (T := TX9) (N := 9) hx hb hts (by decide +kernel) hown hK hP hM_o rfl 7 (by decide) (hts (.fieldLink RX9 46 "ShadowBench" "listCount" "I") (by decide +kernel)) (fun _ h9 => h9) rfl dX9_list_83 ?_
            refine W.widen (k := 4) (n := 502) (Nat.le_of_ble_eq_true rfl) (Nat.le_of_ble_eq_true rfl) ?_
            exact W.iret (v := v78) hx hb hr (fun t ht hW => ⟨⟨_, (G3, w79), rfl, ⟨hX, ⟨_, (some x3), hM_o⟩⟩, by show va_P D vwCl w79 t.heap; rw [ht]; exact hP, hD, hT⟩, hS.F ht⟩) hS.2.2 dX9_list_86
          · skip
            have d50 := c50
            rw [fa_eq] at d50
            refine lv_bipush (v := (-3)) hx hb dX9_list_53 (by decide) ?_
            refine W.widen (k := 4) (n := 502) (Nat.le_of_ble_eq_true rfl) (Nat.le_of_ble_eq_true rfl) ?_
            exact W.iret (v := ((-3) : Int32)) hx hb hr (fun t ht hW => ⟨⟨_, (G3, w3), rfl, ⟨hX, ⟨_, lb_o, hM_o⟩⟩, by show va_P D vwCl w3 t.heap; rw [ht]; exact hP, hD, hT⟩, hS.F ht⟩) hS.2.2 dX9_list_55
      · skip
        have d30 := c30
        rw [fa_lt] at d30
        refine lv_bipush (v := (-2)) hx hb dX9_list_33 (by decide) ?_
        refine W.widen (k := 4) (n := 502) (Nat.le_of_ble_eq_true rfl) (Nat.le_of_ble_eq_true rfl) ?_
        exact W.iret (v := ((-2) : Int32)) hx hb hr (fun t ht hW => ⟨⟨_, (G3, w3), rfl, ⟨hX, ⟨_, lb_o, hM_o⟩⟩, by show va_P D vwCl w3 t.heap; rw [ht]; exact hP, hD, hT⟩, hS.F ht⟩) hS.2.2 dX9_list_35
    · skip
      have d19 := c19
      rw [fa_eq] at d19
      refine lv_iconst (v := (-1)) hx hb dX9_list_22 (by decide) ?_
      refine W.widen (k := 4) (n := 502) (Nat.le_of_ble_eq_true rfl) (Nat.le_of_ble_eq_true rfl) ?_
      exact W.iret (v := ((-1) : Int32)) hx hb hr (fun t ht hW => ⟨⟨_, (G3, w3), rfl, ⟨hX, ⟨_, lb_o, hM_o⟩⟩, by show va_P D vwCl w3 t.heap; rw [ht]; exact hP, hD, hT⟩, hS.F ht⟩) hS.2.2 dX9_list_23
set_option maxHeartbeats 4000000 in
set_option maxRecDepth 100000 in
theorem c_X9_clear_k (l : Launch) (D : va_G) (cy : Nat → ClassId) (A : Nat → Prop) (G : cG) (ws : va_W) (o : Nat) {bs_o js_o sh_o wk_o ll_o : Nat} {jc_o lc_o : Int32} {mo_o lb_o : Option Nat} (hD : va_D A ws) (hT : cT cy G ws) (hG_o : G o = some (7, 0, 0)) (hM_o : cIn ws o (.inr (8, [.ref bs_o, .ref js_o, .int jc_o, .ref sh_o, .ref wk_o, va_rf mo_o, .ref ll_o, .int lc_o, va_rf lb_o])))  : Ci l D cy A yX9_clear wsX9_clear ({ frames := 0, cells := 0, slots := 0, locals := 0 }) 0 0 ws [.ref o] (fun r0 u => cX none (chs [7]) G ws u.1 u.2 ∧ (∃ lc lb, cIn u.2 o (.inr (8, [.ref bs_o, .ref js_o, .int jc_o, .ref sh_o, .ref wk_o, va_rf mo_o, .ref ll_o, .int lc, va_rf lb])))) := by
  refine Met.ofW (cc := cX9_clear) (maxL := 2) (ret := (some .int)) (by decide) rfl ?_
  intro p e s m args below meth c s₁ B hml hv
  obtain ⟨rfl, hP, hK, hA, hV⟩ := hv
  have hx := B.exec
  have hb := B.bytes
  have hr := B.returns
  have hts := atoms_spec (ws := wsX9_clear) B.pre
  have hown : s.vm.findClass RX9 = some m.cls := findClass_of_methodNamed B.named
  have hlocks := B.notSynchronized
  have hS : va_S A s.heap s.heap [] := va_S.rf
  have hX : cX none (chs [7]) G ws G ws := cX.rf
  have hl := lv_entry ([.ref o]) (n := 2) (Nat.le_of_ble_eq_true rfl)
  rw [lg_entry_eq]
  generalize (lg_sl ([.ref o]) ++ List.replicate (2 - (lg_sl ([.ref o])).length) Slot.unset).toArray = ls at hl ⊢
  have hl : lv_has ls 2 [(0, .ref o)] := hl
  have k_0 : (0 : Int32).toInt = 0 := by decide
  obtain ⟨hjc_o, hlc_o, hG_bs_o, hG_js_o, hG_sh_o, hG_wk_o, hmo_o, hG_ll_o, hlb_o⟩ := w7sh hD hT hG_o hM_o
  refine lv_aload_n hx hb dX9_clear_0 rfl (lv_at hl 0 rfl) ?_
  refine t_get (v := .int lc_o) (C := RX9) (T := TX9) (N := 9) hx hb hts (by decide +kernel) hown hK hP hM_o rfl 7 (by decide) (hts (.fieldLink RX9 46 "ShadowBench" "listCount" "I") (by decide +kernel)) (fun _ h9 => h9) rfl dX9_clear_1 ?_
  refine lv_istore_n (lv' := [(1, .int lc_o), (0, .ref o)]) hx hb dX9_clear_4 rfl hl (by decide) rfl (fun ls hl => ?_)
  refine lv_aload_n hx hb dX9_clear_5 rfl (lv_at hl 1 rfl) ?_
  refine lv_iconst (v := 0) hx hb dX9_clear_6 (by decide) ?_
  refine t_put (v := .int (0 : Int32)) (C := RX9) (T := TX9) (N := 9) (ty0 := tyX9) hx hb hts (by decide +kernel) tyX9_ok nmX9 hown hK hP hD hS hM_o rfl 7 (by decide) (hts (.fieldLink RX9 46 "ShadowBench" "listCount" "I") (by decide +kernel)) (fun _ h9 => h9) rfl rfl rfl (Nat.le_of_ble_eq_true rfl) dX9_clear_7 (fun H locs w7 hU7 hP hD hS => ?_)
  have hT := hT.up hU7 hG_o ⟨_, _, _, _, _, _, _, mo_o, lb_o, rfl, ⟨by omega, by omega⟩, ⟨by omega, by omega⟩, hG_bs_o, hG_js_o, hG_sh_o, hG_wk_o, hmo_o, hG_ll_o, hlb_o⟩
  have hM_o : cIn w7 o (.inr (8, [.ref bs_o, .ref js_o, .int jc_o, .ref sh_o, .ref wk_o, va_rf mo_o, .ref ll_o, .int (0 : Int32), va_rf lb_o])) := hU7.1
  have hX := hX.tr (cX.up hU7 (Or.inr ⟨_, hG_o, rfl⟩))
  refine lv_aload_n hx hb dX9_clear_10 rfl (lv_at hl 1 rfl) ?_
  refine lv_null hx hb dX9_clear_11 ?_
  refine t_put (v := .null) (C := RX9) (T := TX9) (N := 9) (ty0 := tyX9) hx hb hts (by decide +kernel) tyX9_ok nmX9 hown hK hP hD hS hM_o rfl 8 (by decide) (hts (.fieldLink RX9 49 "ShadowBench" "listBoard" "LShadowBench$Board;") (by decide +kernel)) (fun _ h9 => h9) rfl rfl rfl (Nat.le_of_ble_eq_true rfl) dX9_clear_12 (fun H locs w12 hU12 hP hD hS => ?_)
  have hT := hT.up hU12 hG_o ⟨_, _, _, _, _, _, _, mo_o, none, rfl, ⟨by omega, by omega⟩, ⟨by omega, by omega⟩, hG_bs_o, hG_js_o, hG_sh_o, hG_wk_o, hmo_o, hG_ll_o, (fun _ z => nomatch z)⟩
  have hM_o : cIn w12 o (.inr (8, [.ref bs_o, .ref js_o, .int jc_o, .ref sh_o, .ref wk_o, va_rf mo_o, .ref ll_o, .int (0 : Int32), .null])) := hU12.1
  have hX := hX.tr (cX.up hU12 (Or.inr ⟨_, hG_o, rfl⟩))
  refine lv_iload_n hx hb dX9_clear_15 rfl (lv_at hl 0 rfl) ?_
  exact W.iret (v := lc_o) hx hb hr (fun t ht hW => ⟨⟨_, (G, w12), rfl, ⟨hX, ⟨_, none, hM_o⟩⟩, by show va_P D vwCl w12 t.heap; rw [ht]; exact hP, hD, hT⟩, hS.F ht⟩) hS.2.2 dX9_clear_16

set_option maxHeartbeats 4000000 in
set_option maxRecDepth 100000 in
theorem c_X10_job_x (l : Launch) (D : va_G) (cy : Nat → ClassId) (mo : Nat) (a : Nat → Nat) (f : Nat → Int32) (g : Nat → Int64) (r : Nat → Nat → Int32) (q : Nat → Nat → Int64) (k0 : Int32) (w : Int32) (h : Int32) (hD : DM cy mo a) (hI : MI f r) : Mi l D cy mo a yX10_job wsX10_job ({ frames := 2, cells := 0, slots := 0, locals := 46 }) f g r q [.int k0, .int w, .int h] (fun r0 u => ∃ (kd : Nat → Int32), ∃ (wd : Nat → Int32), ∃ (hg : Nat → Int32), ∃ (tl : Nat → Int32), ∃ (hd : Nat → Int32), ∃ (jb : Int32), u = ((upd (upd f 0 (0 : Int32)) 1 jb), g, (va_up (va_up (va_up (va_up (va_up r 2 kd) 3 wd) 4 hg) 6 tl) 7 hd), q) ∧ (r0.toInt = jA k0 w h (f 1) ∧ jb.toInt = jN k0 w h (f 1) ∧ MI (upd (upd f 0 (0 : Int32)) 1 jb) (va_up (va_up (va_up (va_up (va_up r 2 kd) 3 wd) 4 hg) 6 tl) 7 hd))) := by
  refine Met.ofW (cc := cX10_job) (maxL := 5) (ret := (some .int)) (by decide) rfl ?_
  intro p e s m args below meth c s₁ B hml hv
  obtain ⟨rfl, hP, hK⟩ := hv
  have hx := B.exec
  have hb := B.bytes
  have hr := B.returns
  have hts := atoms_spec (ws := wsX10_job) B.pre
  have hin : ∀ w ∈ u_ws RX10 TX10 35, w ∈ wsX10_job := by decide +kernel
  have hown : s.vm.findClass RX10 = some m.cls := findClass_of_methodNamed B.named
  have hlocks := B.notSynchronized
  have hS : va_S (AM mo a) s.heap s.heap [] := va_S.rf
  have hl := lv_entry ([.ref mo, .int k0, .int w, .int h]) (n := 5) (Nat.le_of_ble_eq_true rfl)
  rw [lg_entry_eq]
  generalize (lg_sl ([.ref mo, .int k0, .int w, .int h]) ++ List.replicate (5 - (lg_sl ([.ref mo, .int k0, .int w, .int h])).length) Slot.unset).toArray = ls at hl ⊢
  have hl : lv_has ls 5 [(0, .ref mo), (1, .int k0), (2, .int w), (3, .int h)] := hl
  have k_m2 : (-2 : Int32).toInt = -2 := by decide
  have k_m1 : (-1 : Int32).toInt = -1 := by decide
  have k_0 : (0 : Int32).toInt = 0 := by decide
  have k_1 : (1 : Int32).toInt = 1 := by decide
  have k_2 : (2 : Int32).toInt = 2 := by decide
  have k_4 : (4 : Int32).toInt = 4 := by decide
  have k_8 : (8 : Int32).toInt = 8 := by decide
  have k_36 : (36 : Int32).toInt = 36 := by decide
  have k_0L : (0 : Int64).toInt = 0 := by decide
  have k_3L : (3 : Int64).toInt = 3 := by decide
  have hI1 := hI.1
  refine lv_aload_n hx hb dX10_job_0 rfl (lv_at hl 0 rfl) ?_
  refine lv_iconst (v := 0) hx hb dX10_job_1 (by decide) ?_
  refine m_put (v := .int (0 : Int32)) (ty := .int) hx hb hts hin hown hK hP hD hS 0 (by decide) rfl (hts (.fieldLink RX10 79 "ShadowBenchModel" "thrown" "I") (by decide +kernel)) rfl (by decide +kernel) rfl rfl (upd f 0 (0 : Int32)) g rfl dX10_job_2 (fun H locs hP hS => ?_)
  refine lv_iload_n hx hb dX10_job_5 rfl (lv_at hl 1 rfl) ?_
  refine lv_i2l (v := k0.toInt64) hx hb dX10_job_6 rfl ?_
  refine lv_lconst (v := 0) hx hb dX10_job_7 (by decide) ?_
  refine lv_ldc2 hx hb hown (hts (.constantLong RX10 116 (3)) (by decide +kernel)) dX10_job_8 ?_
  refine m_pu (As := [.long (k0.toInt64), .long (0 : Int64), .long (3 : Int64)]) (rest := []) ⟨hx, hb, hml, hown, hts⟩ (c_X10_isIn l k0.toInt64 (0 : Int64) (3 : Int64) ) (va_cwS 3 hts gX10_job_X10_isIn rfl rfl rfl (by decide +kernel) ⟨Nat.le_of_ble_eq_true rfl, Nat.le_of_ble_eq_true rfl⟩) hP rfl hl.1 rfl (Nat.le_of_ble_eq_true rfl) dX10_job_11 ⟨Nat.le_of_ble_eq_true rfl, Nat.le_of_ble_eq_true rfl⟩ hS (fun r11 H locs q11 hP hS => ?_)
  have q11 := q11
  simp only [k64, show (0 : Int64).toInt = 0 from rfl, show (1 : Int64).toInt = 1 from rfl, show (2 : Int64).toInt = 2 from rfl, show (3 : Int64).toInt = 3 from rfl, show (6 : Int64).toInt = 6 from rfl] at q11
  refine lv_if_eq (tgt := 25) hx hb dX10_job_14 (by decide) (fun c14 => ?_) (fun c14 => ?_)
  · skip
    have b14 := bo_f q11 c14
    refine lv_iconst (v := (-1)) hx hb dX10_job_25 (by decide) ?_
    have hP := wm_eq (ec_f_0__0_1 f (0 : Int32)) rfl (ec_r___2_3_4_6_7 r ) rfl hP
    exact W.iret (v := ((-1) : Int32)) hx hb hr (fun t ht hW => ⟨⟨_, ((upd (upd f 0 (0 : Int32)) 1 (f 1)), g, (va_up (va_up (va_up (va_up (va_up r 2 (r 2)) 3 (r 3)) 4 (r 4)) 6 (r 6)) 7 (r 7)), q), rfl, ⟨(r 2), (r 3), (r 4), (r 6), (r 7), (f 1), rfl, ⟨(by unfold jA; rw [if_neg (by omega)]; rfl), (by unfold jN; rw [if_neg (by omega)]), by first | exact hI | exact mi_job hI (k := k0) (w := w) (hh := h) (jb := (f 1)) (by omega) (by omega) (by omega) (by omega) (by omega) rfl rfl rfl rfl rfl rfl rfl rfl⟩⟩, by unfold mB; rw [ht]; exact hP⟩, hS.F ht⟩) hS.2.2 dX10_job_26
  · skip
    have b14 := bo_t q11 c14
    refine lv_iload_n hx hb dX10_job_17 rfl (lv_at hl 2 rfl) ?_
    refine lv_iload_n hx hb dX10_job_18 rfl (lv_at hl 3 rfl) ?_
    refine m_pu (As := [.int w, .int h]) (rest := []) ⟨hx, hb, hml, hown, hts⟩ (c_X10_isBoard l w h ) (va_cwS 2 hts gX10_job_X10_isBoard rfl rfl rfl (by decide +kernel) ⟨Nat.le_of_ble_eq_true rfl, Nat.le_of_ble_eq_true rfl⟩) hP rfl hl.1 rfl (Nat.le_of_ble_eq_true rfl) dX10_job_19 ⟨Nat.le_of_ble_eq_true rfl, Nat.le_of_ble_eq_true rfl⟩ hS (fun r19 H locs q19 hP hS => ?_)
    refine lv_if_ne (tgt := 27) hx hb dX10_job_22 (by decide) (fun c22 => ?_) (fun c22 => ?_)
    · skip
      have b22 := bo_t q19 c22
      refine lv_aload_n hx hb dX10_job_27 rfl (lv_at hl 0 rfl) ?_
      refine m_get (v := .int (f 1)) hx hb hts hin hown hK hP 1 (by decide) rfl (hts (.fieldLink RX10 93 "ShadowBenchModel" "jobs" "I") (by decide +kernel)) rfl dX10_job_28 ?_
      refine lv_bipush (v := 8) hx hb dX10_job_31 (by decide) ?_
      refine lv_icmp_ne (tgt := 39) hx hb dX10_job_33 (by decide) (fun c33 => ?_) (fun c33 => ?_)
      · skip
        have d33 := c33
        rw [fa_eq] at d33
        refine lv_aload_n hx hb dX10_job_39 rfl (lv_at hl 0 rfl) ?_
        refine m_get (v := .ref (a 2)) hx hb hts hin hown hK hP 2 (by decide) rfl (hts (.fieldLink RX10 7 "ShadowBenchModel" "kind" "[I") (by decide +kernel)) rfl dX10_job_40 ?_
        refine lv_aload_n hx hb dX10_job_43 rfl (lv_at hl 0 rfl) ?_
        refine m_get (v := .int (f 1)) hx hb hts hin hown hK hP 1 (by decide) rfl (hts (.fieldLink RX10 93 "ShadowBenchModel" "jobs" "I") (by decide +kernel)) rfl dX10_job_44 ?_
        refine lv_iload_n hx hb dX10_job_47 rfl (lv_at hl 1 rfl) ?_
        refine m_iast (w := (r 2)) hx hb hK hP hD hS 1 rfl (vp_in_iff.mpr ⟨by omega, by omega⟩) (va_up r 2 (upd (r 2) (f 1).toNatClampNeg k0)) (ms_2 cy mo a _ _ _ _ _) dX10_job_48 (fun H locs hP hS => ?_)
        refine lv_aload_n hx hb dX10_job_49 rfl (lv_at hl 0 rfl) ?_
        refine m_get (v := .ref (a 3)) hx hb hts hin hown hK hP 3 (by decide) rfl (hts (.fieldLink RX10 13 "ShadowBenchModel" "wide" "[I") (by decide +kernel)) rfl dX10_job_50 ?_
        refine lv_aload_n hx hb dX10_job_53 rfl (lv_at hl 0 rfl) ?_
        refine m_get (v := .int (f 1)) hx hb hts hin hown hK hP 1 (by decide) rfl (hts (.fieldLink RX10 93 "ShadowBenchModel" "jobs" "I") (by decide +kernel)) rfl dX10_job_54 ?_
        refine lv_iload_n hx hb dX10_job_57 rfl (lv_at hl 2 rfl) ?_
        refine m_iast (w := (r 3)) hx hb hK hP hD hS 2 rfl (vp_in_iff.mpr ⟨by omega, by omega⟩) (va_up (va_up r 2 ((upd (r 2) (f 1).toNatClampNeg k0))) 3 (upd (r 3) (f 1).toNatClampNeg w)) (ms_3 cy mo a _ _ _ _ _) dX10_job_58 (fun H locs hP hS => ?_)
        refine lv_aload_n hx hb dX10_job_59 rfl (lv_at hl 0 rfl) ?_
        refine m_get (v := .ref (a 4)) hx hb hts hin hown hK hP 4 (by decide) rfl (hts (.fieldLink RX10 16 "ShadowBenchModel" "high" "[I") (by decide +kernel)) rfl dX10_job_60 ?_
        refine lv_aload_n hx hb dX10_job_63 rfl (lv_at hl 0 rfl) ?_
        refine m_get (v := .int (f 1)) hx hb hts hin hown hK hP 1 (by decide) rfl (hts (.fieldLink RX10 93 "ShadowBenchModel" "jobs" "I") (by decide +kernel)) rfl dX10_job_64 ?_
        refine lv_iload_n hx hb dX10_job_67 rfl (lv_at hl 3 rfl) ?_
        refine m_iast (w := (r 4)) hx hb hK hP hD hS 3 rfl (vp_in_iff.mpr ⟨by omega, by omega⟩) (va_up (va_up (va_up r 2 ((upd (r 2) (f 1).toNatClampNeg k0))) 3 ((upd (r 3) (f 1).toNatClampNeg w))) 4 (upd (r 4) (f 1).toNatClampNeg h)) (ms_4 cy mo a _ _ _ _ _) dX10_job_68 (fun H locs hP hS => ?_)
        refine lv_aload_n hx hb dX10_job_69 rfl (lv_at hl 0 rfl) ?_
        refine m_get (v := .ref (a 6)) hx hb hts hin hown hK hP 6 (by decide) rfl (hts (.fieldLink RX10 22 "ShadowBenchModel" "isTold" "[Z") (by decide +kernel)) rfl dX10_job_70 ?_
        refine lv_iconst (v := 4) hx hb dX10_job_73 (by decide) ?_
        refine lv_aload_n hx hb dX10_job_74 rfl (lv_at hl 0 rfl) ?_
        refine m_get (v := .int (f 1)) hx hb hts hin hown hK hP 1 (by decide) rfl (hts (.fieldLink RX10 93 "ShadowBenchModel" "jobs" "I") (by decide +kernel)) rfl dX10_job_75 ?_
        refine lv_imul hx hb dX10_job_78 ?_
        refine lv_topi (fun v78 e78 => ?_)
        have i78 : v78.toInt = 4 * (f 1).toInt := by rw [e78]; exact mulcL rfl (by omega) (by omega)
        refine lv_iconst (v := 1) hx hb dX10_job_79 (by decide) ?_
        refine m_zast (w := (r 6)) hx hb hK hP hD hS 5 rfl (vp_in_iff.mpr ⟨by omega, by omega⟩) (va_up (va_up (va_up (va_up r 2 ((upd (r 2) (f 1).toNatClampNeg k0))) 3 ((upd (r 3) (f 1).toNatClampNeg w))) 4 ((upd (r 4) (f 1).toNatClampNeg h))) 6 (upd (r 6) v78.toNatClampNeg ((1 : Int32) &&& 1))) (ms_6 cy mo a _ _ _ _ _) dX10_job_80 (fun H locs hP hS => ?_)
        refine lv_aload_n hx hb dX10_job_81 rfl (lv_at hl 0 rfl) ?_
        refine m_get (v := .ref (a 6)) hx hb hts hin hown hK hP 6 (by decide) rfl (hts (.fieldLink RX10 22 "ShadowBenchModel" "isTold" "[Z") (by decide +kernel)) rfl dX10_job_82 ?_
        refine lv_iconst (v := 4) hx hb dX10_job_85 (by decide) ?_
        refine lv_aload_n hx hb dX10_job_86 rfl (lv_at hl 0 rfl) ?_
        refine m_get (v := .int (f 1)) hx hb hts hin hown hK hP 1 (by decide) rfl (hts (.fieldLink RX10 93 "ShadowBenchModel" "jobs" "I") (by decide +kernel)) rfl dX10_job_87 ?_
        refine lv_imul hx hb dX10_job_90 ?_
        refine lv_topi (fun v90 e90 => ?_)
        have i90 : v90.toInt = 4 * (f 1).toInt := by rw [e90]; exact mulcL rfl (by omega) (by omega)
        refine lv_iconst (v := 1) hx hb dX10_job_91 (by decide) ?_
        refine lv_iadd hx hb dX10_job_92 ?_
        refine lv_topi (fun v92 e92 => ?_)
        have i92 : v92.toInt = v90.toInt + (1 : Int32).toInt := by rw [e92]; exact fb_addI (by omega) (by omega)
        refine lv_iconst (v := 1) hx hb dX10_job_93 (by decide) ?_
        refine m_zast (w := ((upd (r 6) v78.toNatClampNeg ((1 : Int32) &&& 1)))) hx hb hK hP hD hS 5 rfl (vp_in_iff.mpr ⟨by omega, by omega⟩) (va_up (va_up (va_up (va_up (va_up r 2 ((upd (r 2) (f 1).toNatClampNeg k0))) 3 ((upd (r 3) (f 1).toNatClampNeg w))) 4 ((upd (r 4) (f 1).toNatClampNeg h))) 6 ((upd (r 6) v78.toNatClampNeg ((1 : Int32) &&& 1)))) 6 (upd ((upd (r 6) v78.toNatClampNeg ((1 : Int32) &&& 1))) v92.toNatClampNeg ((1 : Int32) &&& 1))) (ms_6 cy mo a _ _ _ _ _) dX10_job_94 (fun H locs hP hS => ?_)
        have hP := wm_eq rfl rfl (es_r_2_3_4_6__6 r ((upd (r 2) (f 1).toNatClampNeg k0)) ((upd (r 3) (f 1).toNatClampNeg w)) ((upd (r 4) (f 1).toNatClampNeg h)) ((upd (r 6) v78.toNatClampNeg ((1 : Int32) &&& 1))) (upd ((upd (r 6) v78.toNatClampNeg ((1 : Int32) &&& 1))) v92.toNatClampNeg ((1 : Int32) &&& 1))) rfl hP
        refine lv_bipush (v := 36) hx hb dX10_job_95 (by decide) ?_
        refine lv_aload_n hx hb dX10_job_97 rfl (lv_at hl 0 rfl) ?_
        refine m_get (v := .int (f 1)) hx hb hts hin hown hK hP 1 (by decide) rfl (hts (.fieldLink RX10 93 "ShadowBenchModel" "jobs" "I") (by decide +kernel)) rfl dX10_job_98 ?_
        refine lv_imul hx hb dX10_job_101 ?_
        refine lv_topi (fun v101 e101 => ?_)
        have i101 : v101.toInt = 36 * (f 1).toInt := by rw [e101]; exact mulcL rfl (by omega) (by omega)
        refine lv_istore (lv' := [(4, .int v101), (0, .ref mo), (1, .int k0), (2, .int w), (3, .int h)]) hx hb dX10_job_102 hl (by decide) rfl (fun ls hl => ?_)
        have loop_104 : ∀ (n : Nat) (x4 : Int32) (hd : Nat → Int32), (36 * (f 1).toInt ≤ x4.toInt ∧ x4.toInt ≤ 36 * (f 1).toInt + 36) → (36 * (f 1).toInt + 36 - x4.toInt).toNat < n → ∀ (H : Heap) (locs : List Loc), va_P D vwCl (WM cy mo a (upd f 0 (0 : Int32)) g (va_up (va_up (va_up (va_up (va_up r 2 ((upd (r 2) (f 1).toNatClampNeg k0))) 3 ((upd (r 3) (f 1).toNatClampNeg w))) 4 ((upd (r 4) (f 1).toNatClampNeg h))) 6 ((upd ((upd (r 6) v78.toNatClampNeg ((1 : Int32) &&& 1))) v92.toNatClampNeg ((1 : Int32) &&& 1)))) 7 hd) q) H → va_S (AM mo a) s.heap H locs → ∀ (ls : Array Slot), lv_has ls 5 [(4, .int x4), (0, .ref mo), (1, .int k0), (2, .int w), (3, .int h)] → W p l e (headSpec wsX10_job ({ frames := 2, cells := 0, slots := 0, locals := 46 })).room s m #[Value.ref mo, Value.int k0, Value.int w, Value.int h] below meth c H locs 0 0 (MQ below (va_Qi (fun r0 u => ∃ (kd : Nat → Int32), ∃ (wd : Nat → Int32), ∃ (hg : Nat → Int32), ∃ (tl : Nat → Int32), ∃ (hd : Nat → Int32), ∃ (jb : Int32), u = ((upd (upd f 0 (0 : Int32)) 1 jb), g, (va_up (va_up (va_up (va_up (va_up r 2 kd) 3 wd) 4 hg) 6 tl) 7 hd), q) ∧ (r0.toInt = jA k0 w h (f 1) ∧ jb.toInt = jN k0 w h (f 1) ∧ MI (upd (upd f 0 (0 : Int32)) 1 jb) (va_up (va_up (va_up (va_up (va_up r 2 kd) 3 wd) 4 hg) 6 tl) 7 hd))) (mB D cy mo a) (AM mo a)) #[Value.ref mo, Value.int k0, Value.int w, Value.int h] s 0 0 (AM mo a)) (F0 m 104 ls []) := by
          intro n
          induction n with
          | zero => intro x4 hd j104_0 hn; exact absurd hn (Nat.not_lt_zero _)
          | succ n ih_104 =>
            intro x4 hd j104_0 hn_104 H locs hP hS ls hl
            refine lv_iload hx hb dX10_job_104 (lv_at hl 0 rfl) ?_
            refine lv_bipush (v := 36) hx hb dX10_job_106 (by decide) ?_
            refine lv_aload_n hx hb dX10_job_108 rfl (lv_at hl 1 rfl) ?_
            refine m_get (v := .int (f 1)) hx hb hts hin hown hK hP 1 (by decide) rfl (hts (.fieldLink RX10 93 "ShadowBenchModel" "jobs" "I") (by decide +kernel)) rfl dX10_job_109 ?_
            refine lv_imul hx hb dX10_job_112 ?_
            refine lv_topi (fun v112 e112 => ?_)
            have i112 : v112.toInt = 36 * (f 1).toInt := by rw [e112]; exact mulcL rfl (by omega) (by omega)
            refine lv_bipush (v := 36) hx hb dX10_job_113 (by decide) ?_
            refine lv_iadd hx hb dX10_job_115 ?_
            refine lv_topi (fun v115 e115 => ?_)
            have i115 : v115.toInt = v112.toInt + (36 : Int32).toInt := by rw [e115]; exact fb_addI (by omega) (by omega)
            refine lv_icmp_ge (tgt := 133) hx hb dX10_job_116 (by decide) (fun c116 => ?_) (fun c116 => ?_)
            · skip
              have d116 := c116
              rw [fa_le] at d116
              refine lv_aload_n hx hb dX10_job_133 rfl (lv_at hl 1 rfl) ?_
              refine lv_dup hx hb dX10_job_134 rfl ?_
              refine m_get (v := .int (f 1)) hx hb hts hin hown hK hP 1 (by decide) rfl (hts (.fieldLink RX10 93 "ShadowBenchModel" "jobs" "I") (by decide +kernel)) rfl dX10_job_135 ?_
              refine lv_iconst (v := 1) hx hb dX10_job_138 (by decide) ?_
              refine lv_iadd hx hb dX10_job_139 ?_
              refine lv_topi (fun v139 e139 => ?_)
              have i139 : v139.toInt = (f 1).toInt + (1 : Int32).toInt := by rw [e139]; exact fb_addI (by omega) (by omega)
              refine m_put (v := .int v139) (ty := .int) hx hb hts hin hown hK hP hD hS 1 (by decide) rfl (hts (.fieldLink RX10 93 "ShadowBenchModel" "jobs" "I") (by decide +kernel)) rfl (by decide +kernel) rfl rfl (upd (upd f 0 (0 : Int32)) 1 v139) g rfl dX10_job_140 (fun H locs hP hS => ?_)
              refine lv_aload_n hx hb dX10_job_143 rfl (lv_at hl 1 rfl) ?_
              refine m_get (v := .int v139) hx hb hts hin hown hK hP 1 (by decide) rfl (hts (.fieldLink RX10 93 "ShadowBenchModel" "jobs" "I") (by decide +kernel)) rfl dX10_job_144 ?_
              refine lv_iconst (v := 1) hx hb dX10_job_147 (by decide) ?_
              refine lv_isub hx hb dX10_job_148 ?_
              refine lv_topi (fun v148 e148 => ?_)
              have i148 : v148.toInt = v139.toInt - (1 : Int32).toInt := by rw [e148]; exact fb_subI (by omega) (by omega)
              have hP := wm_eq rfl rfl (ec_r_2_3_4_6_7__2_3_4_6_7 r ((upd (r 2) (f 1).toNatClampNeg k0)) ((upd (r 3) (f 1).toNatClampNeg w)) ((upd (r 4) (f 1).toNatClampNeg h)) ((upd ((upd (r 6) v78.toNatClampNeg ((1 : Int32) &&& 1))) v92.toNatClampNeg ((1 : Int32) &&& 1))) hd) rfl hP
              exact W.iret (v := v148) hx hb hr (fun t ht hW => ⟨⟨_, ((upd (upd f 0 (0 : Int32)) 1 v139), g, (va_up (va_up (va_up (va_up (va_up r 2 (((upd (r 2) (f 1).toNatClampNeg k0)))) 3 (((upd (r 3) (f 1).toNatClampNeg w)))) 4 (((upd (r 4) (f 1).toNatClampNeg h)))) 6 (((upd ((upd (r 6) v78.toNatClampNeg ((1 : Int32) &&& 1))) v92.toNatClampNeg ((1 : Int32) &&& 1))))) 7 hd), q), rfl, ⟨((upd (r 2) (f 1).toNatClampNeg k0)), ((upd (r 3) (f 1).toNatClampNeg w)), ((upd (r 4) (f 1).toNatClampNeg h)), ((upd ((upd (r 6) v78.toNatClampNeg ((1 : Int32) &&& 1))) v92.toNatClampNeg ((1 : Int32) &&& 1))), hd, v139, rfl, ⟨(by unfold jA; rw [if_pos (by omega), if_pos (by omega)]; omega), (by unfold jN; rw [if_pos (by omega)]; omega), by first | exact hI | exact mi_job hI (k := k0) (w := w) (hh := h) (jb := v139) (by omega) (by omega) (by omega) (by omega) (by omega) rfl rfl rfl rfl rfl rfl rfl rfl⟩⟩, by unfold mB; rw [ht]; exact hP⟩, hS.F ht⟩) hS.2.2 dX10_job_149
            · skip
              have d116 := c116
              rw [fa_le] at d116
              refine lv_aload_n hx hb dX10_job_119 rfl (lv_at hl 1 rfl) ?_
              refine m_get (v := .ref (a 7)) hx hb hts hin hown hK hP 7 (by decide) rfl (hts (.fieldLink RX10 26 "ShadowBenchModel" "held" "[I") (by decide +kernel)) rfl dX10_job_120 ?_
              refine lv_iload hx hb dX10_job_123 (lv_at hl 0 rfl) ?_
              refine lv_iconst (v := 2) hx hb dX10_job_125 (by decide) ?_
              refine m_iast (w := hd) hx hb hK hP hD hS 6 rfl (vp_in_iff.mpr ⟨by omega, by omega⟩) (va_up (va_up (va_up (va_up (va_up (va_up r 2 ((upd (r 2) (f 1).toNatClampNeg k0))) 3 ((upd (r 3) (f 1).toNatClampNeg w))) 4 ((upd (r 4) (f 1).toNatClampNeg h))) 6 ((upd ((upd (r 6) v78.toNatClampNeg ((1 : Int32) &&& 1))) v92.toNatClampNeg ((1 : Int32) &&& 1)))) 7 hd) 7 (upd hd x4.toNatClampNeg (2 : Int32))) (ms_7 cy mo a _ _ _ _ _) dX10_job_126 (fun H locs hP hS => ?_)
              have hP := wm_eq rfl rfl (es_r_2_3_4_6_7__7 r ((upd (r 2) (f 1).toNatClampNeg k0)) ((upd (r 3) (f 1).toNatClampNeg w)) ((upd (r 4) (f 1).toNatClampNeg h)) ((upd ((upd (r 6) v78.toNatClampNeg ((1 : Int32) &&& 1))) v92.toNatClampNeg ((1 : Int32) &&& 1))) hd (upd hd x4.toNatClampNeg (2 : Int32))) rfl hP
              obtain ⟨v127, e127⟩ : ∃ y : Int32, y = x4 + 1 := ⟨_, rfl⟩
              have i127 : v127.toInt = x4.toInt + 1 := by rw [e127]; exact fb_addI (by omega) (by omega)
              refine lv_iinc (v := v127) (lv' := [(4, .int v127), (0, .ref mo), (1, .int k0), (2, .int w), (3, .int h)]) hx hb dX10_job_127 hl (k := 0) rfl (by rw [e127]; rfl) (by decide) rfl (fun ls hl => ?_)
              refine lv_goto (tgt := 104) hx hb dX10_job_130 (by decide) ?_
              have hP := wm_eq rfl rfl (ec_r_2_3_4_6_7__2_3_4_6_7 r ((upd (r 2) (f 1).toNatClampNeg k0)) ((upd (r 3) (f 1).toNatClampNeg w)) ((upd (r 4) (f 1).toNatClampNeg h)) ((upd ((upd (r 6) v78.toNatClampNeg ((1 : Int32) &&& 1))) v92.toNatClampNeg ((1 : Int32) &&& 1))) ((upd hd x4.toNatClampNeg (2 : Int32)))) rfl hP
              exact ih_104 v127 (((upd hd x4.toNatClampNeg (2 : Int32)))) (by omega) (by omega) _ _ hP hS ls (lv_sub hl [0, 1, 2, 3, 4] rfl)
        have hP := wm_eq rfl rfl (ec_r_2_3_4_6__2_3_4_6_7 r ((upd (r 2) (f 1).toNatClampNeg k0)) ((upd (r 3) (f 1).toNatClampNeg w)) ((upd (r 4) (f 1).toNatClampNeg h)) ((upd ((upd (r 6) v78.toNatClampNeg ((1 : Int32) &&& 1))) v92.toNatClampNeg ((1 : Int32) &&& 1)))) rfl hP
        exact loop_104 (36 + 1) v101 (r 7) (by omega) (by omega) _ _ hP hS ls (lv_sub hl [0, 1, 2, 3, 4] rfl)
      · skip
        have d33 := c33
        rw [fa_eq] at d33
        refine lv_bipush (v := (-2)) hx hb dX10_job_36 (by decide) ?_
        have hP := wm_eq (ec_f_0__0_1 f (0 : Int32)) rfl (ec_r___2_3_4_6_7 r ) rfl hP
        exact W.iret (v := ((-2) : Int32)) hx hb hr (fun t ht hW => ⟨⟨_, ((upd (upd f 0 (0 : Int32)) 1 (f 1)), g, (va_up (va_up (va_up (va_up (va_up r 2 (r 2)) 3 (r 3)) 4 (r 4)) 6 (r 6)) 7 (r 7)), q), rfl, ⟨(r 2), (r 3), (r 4), (r 6), (r 7), (f 1), rfl, ⟨(by unfold jA; rw [if_pos (by omega), if_neg (by omega)]; rfl), (by unfold jN; rw [if_neg (by omega)]), by first | exact hI | exact mi_job hI (k := k0) (w := w) (hh := h) (jb := (f 1)) (by omega) (by omega) (by omega) (by omega) (by omega) rfl rfl rfl rfl rfl rfl rfl rfl⟩⟩, by unfold mB; rw [ht]; exact hP⟩, hS.F ht⟩) hS.2.2 dX10_job_38
    · skip
      have b22 := bo_f q19 c22
      refine lv_iconst (v := (-1)) hx hb dX10_job_25 (by decide) ?_
      have hP := wm_eq (ec_f_0__0_1 f (0 : Int32)) rfl (ec_r___2_3_4_6_7 r ) rfl hP
      exact W.iret (v := ((-1) : Int32)) hx hb hr (fun t ht hW => ⟨⟨_, ((upd (upd f 0 (0 : Int32)) 1 (f 1)), g, (va_up (va_up (va_up (va_up (va_up r 2 (r 2)) 3 (r 3)) 4 (r 4)) 6 (r 6)) 7 (r 7)), q), rfl, ⟨(r 2), (r 3), (r 4), (r 6), (r 7), (f 1), rfl, ⟨(by unfold jA; rw [if_neg (by omega)]; rfl), (by unfold jN; rw [if_neg (by omega)]), by first | exact hI | exact mi_job hI (k := k0) (w := w) (hh := h) (jb := (f 1)) (by omega) (by omega) (by omega) (by omega) (by omega) rfl rfl rfl rfl rfl rfl rfl rfl⟩⟩, by unfold mB; rw [ht]; exact hP⟩, hS.F ht⟩) hS.2.2 dX10_job_26
/-! pictures by their bits -/
def lb (x : Int64) (i : Nat) : Bool := x.toBitVec.getLsbD i
theorem lb_ext {x y : Int64} (h : ∀ i, i < 64 → lb x i = lb y i) : x = y := Int64.toBitVec_inj.mp (BitVec.eq_of_getLsbD_eq (fun i hi => h i hi))
theorem lb_or (x y : Int64) (i : Nat) : lb (x ||| y) i = (lb x i || lb y i) := by unfold lb; rw [Int64.toBitVec_or, BitVec.getLsbD_or]
theorem lb_and (x y : Int64) (i : Nat) : lb (x &&& y) i = (lb x i && lb y i) := by unfold lb; rw [Int64.toBitVec_and, BitVec.getLsbD_and]
theorem lb_xor (x y : Int64) (i : Nat) : lb (x ^^^ y) i = (lb x i ^^ lb y i) := by unfold lb; rw [Int64.toBitVec_xor, BitVec.getLsbD_xor]
theorem lb_big {x : Int64} {i : Nat} (h : 64 ≤ i) : lb x i = false := BitVec.getLsbD_of_ge _ _ h
theorem lb_0 (i : Nat) : lb 0 i = false := BitVec.getLsbD_zero
theorem lb_1 (i : Nat) : lb 1 i = decide (i = 0) := by
  rcases Nat.lt_or_ge i 64 with h | h
  · exact (by decide +kernel : ∀ i, i < 64 → lb 1 i = decide (i = 0)) i h
  · rw [lb_big h, decide_eq_false (by omega)]
theorem lb_m1 : ∀ i, i < 64 → lb (-1) i = true := by decide +kernel
theorem s64_l : ∀ n, n < 64 → (((nI n).toInt64 &&& 63).toBitVec.smod 64).toNat = n := by decide +kernel
theorem s64_u : ∀ n, n < 64 → (((nI n).toInt64.toUInt64 &&& Int64.toUInt64 63).toBitVec % 64).toNat = n := by decide +kernel
theorem lb_shl (n : Nat) (hn : n < 64) (x : Int64) {i : Nat} (hi : i < 64) : lb (x <<< ((nI n).toInt64 &&& 63)) i = (decide (n ≤ i) && lb x (i - n)) := by
  unfold lb
  rw [Int64.toBitVec_shiftLeft]
  show (x.toBitVec <<< (((nI n).toInt64 &&& 63).toBitVec.smod 64).toNat).getLsbD i = _
  rw [s64_l n hn, BitVec.getLsbD_shiftLeft]
  rcases Nat.lt_or_ge i n with h | h
  · simp [h, Nat.not_le.mpr h]
  · simp [hi, h, Nat.not_lt.mpr h]
theorem lb_ushr (n : Nat) (hn : n < 64) (x : Int64) (i : Nat) : lb ((x.toUInt64 >>> ((nI n).toInt64.toUInt64 &&& Int64.toUInt64 63)).toInt64) i = lb x (n + i) := by
  show (x.toUInt64 >>> ((nI n).toInt64.toUInt64 &&& Int64.toUInt64 63)).toBitVec.getLsbD i = x.toUInt64.toBitVec.getLsbD (n + i)
  rw [UInt64.toBitVec_shiftRight]
  show (x.toUInt64.toBitVec >>> (((nI n).toInt64.toUInt64 &&& Int64.toUInt64 63).toBitVec % 64).toNat).getLsbD i = _
  rw [s64_u n hn, BitVec.getLsbD_ushiftRight]
theorem lb_sshr (n : Nat) (hn : n < 64) (x : Int64) {i : Nat} (hi : i < 64) : lb (x >>> ((nI n).toInt64 &&& 63)) i = if n + i < 64 then lb x (n + i) else lb x 63 := by
  unfold lb
  rw [Int64.toBitVec_shiftRight]
  show (x.toBitVec.sshiftRight (((nI n).toInt64 &&& 63).toBitVec.smod 64).toNat).getLsbD i = _
  rw [s64_l n hn, BitVec.getLsbD_sshiftRight, BitVec.msb_eq_getLsbD_last]
  simp [hi]
/-- a single bit -/
theorem lb_l1 {k : Nat} (hk : k < 64) {i : Nat} (hi : i < 64) : lb (l1 k) i = decide (i = k) := by
  unfold l1
  rw [lb_shl k hk 1 hi, lb_1]
  rcases Nat.lt_or_ge i k with h | h
  · rw [decide_eq_false (show ¬ k ≤ i by omega), decide_eq_false (show ¬ i = k by omega)]; rfl
  · rw [decide_eq_true h, Bool.true_and]
    by_cases e : i = k
    · rw [decide_eq_true e, decide_eq_true (by omega)]
    · rw [decide_eq_false e, decide_eq_false (by omega)]
theorem l1_no {p : Int64} {k : Nat} (hk : k < 64) : (p &&& l1 k) = 0 ↔ lb p k = false := by
  constructor
  · intro h
    have t := congrArg (fun x => lb x k) h
    simp only [lb_and, lb_l1 hk hk, lb_0, decide_true, Bool.and_true] at t
    exact t
  · intro h
    apply lb_ext
    intro i hi
    rw [lb_and, lb_l1 hk hi, lb_0]
    by_cases e : i = k
    · rw [e, h]; rfl
    · rw [decide_eq_false e, Bool.and_false]
theorem one_lb (p : Int64) {k : Nat} (hk : k < 64) : r_one p (nI k) = if lb p k then 1 else 0 := by
  have h : (p >>> ((nI k).toInt64 &&& 63)) &&& 1 = if lb p k then (1 : Int64) else 0 := by
    apply lb_ext
    intro i hi
    rw [lb_and, lb_1, lb_sshr k hk p hi]
    by_cases e : i = 0
    · subst e
      rw [if_pos (by omega), decide_eq_true rfl, Bool.and_true, Nat.add_zero]
      cases hb : lb p k
      · simp [lb_0]
      · simp [lb_1]
    · rw [decide_eq_false e, Bool.and_false]
      split
      · rw [lb_1, decide_eq_false e]
      · rw [lb_0]
  unfold r_one
  rw [h]
  split <;> rfl
/-- what a picture of a board is -/
def isPic (n : Nat) (p : Int64) : Prop := 0 ≤ p.toInt ∧ p.toInt < ((2 ^ n : Nat) : Int)
theorem pic_nat {n : Nat} {p : Int64} (hn : n ≤ 36) : isPic n p ↔ p.toBitVec.toNat < 2 ^ n := by
  have h1 : p.toInt = if 2 * p.toBitVec.toNat < 18446744073709551616 then (p.toBitVec.toNat : Int) else (p.toBitVec.toNat : Int) - 18446744073709551616 := BitVec.toInt_eq_toNat_cond _
  have h2 := p.toBitVec.isLt
  have h3 : 2 ^ n ≤ 2 ^ 36 := Nat.pow_le_pow_right (by decide) hn
  unfold isPic
  rw [h1]
  generalize 2 ^ n = N at *
  split <;> omega
theorem pic_u {p : Int64} {n : Nat} (hn : n ≤ 36) : (p.toUInt64 >>> ((nI n).toInt64.toUInt64 &&& Int64.toUInt64 63)).toInt64 = 0 ↔ isPic n p := by
  rw [pic_nat hn, ← Int64.toBitVec_inj, ← BitVec.toNat_inj]
  show (p.toUInt64 >>> ((nI n).toInt64.toUInt64 &&& Int64.toUInt64 63)).toNat = 0 ↔ p.toUInt64.toNat < 2 ^ n
  have h := s64_u n (by omega)
  rw [UInt64.toNat_shiftRight, show ((nI n).toInt64.toUInt64 &&& Int64.toUInt64 63).toNat % 64 = n from h, Nat.shiftRight_eq_div_pow]
  constructor
  · intro h
    have d : p.toUInt64.toNat / 2 ^ n < 1 := by rw [h]; decide
    have e := (Nat.div_lt_iff_lt_mul (Nat.two_pow_pos n)).mp d
    rw [Nat.one_mul] at e
    exact e
  · exact Nat.div_eq_of_lt
theorem pic_hi {n : Nat} {p : Int64} (hn : n ≤ 36) (h : isPic n p) {i : Nat} (hi : n ≤ i) : lb p i = false := by
  have h1 := (pic_nat hn).mp h
  unfold lb
  rw [BitVec.getLsbD]
  exact Nat.testBit_lt_two_pow (Nat.lt_of_lt_of_le h1 (Nat.pow_le_pow_right (by decide) hi))
theorem l1_top : ∀ n, n ≤ 36 → (l1 n).toInt = ((2 ^ n : Nat) : Int) := by decide +kernel
theorem cl_nI {w : Int32} (h : 0 ≤ w.toInt) : nI w.toNatClampNeg = w := by
  have h2 : w.toInt < 2 ^ 31 := Int32.toInt_lt w
  have e := m_cl (x := w) h
  apply Int32.toInt_inj.mp
  rw [nI_toInt (by omega)]
  omega
theorem top_eq {w h : Int32} (hw : 1 ≤ w.toInt ∧ w.toInt ≤ 6) (hh : 1 ≤ h.toInt ∧ h.toInt ≤ 6) : (r_top w h).toInt = ((2 ^ (w.toNatClampNeg * h.toNatClampNeg) : Nat) : Int) := by
  have e1 := cl_nI (w := w) (by omega)
  have e2 := cl_nI (w := h) (by omega)
  have a1 := m_cl (x := w) (by omega)
  have a2 := m_cl (x := h) (by omega)
  have hm : w.toNatClampNeg * h.toNatClampNeg ≤ 6 * 6 := Nat.mul_le_mul (by omega) (by omega)
  unfold r_top
  rw [← e1, ← e2, pk_mul]
  rw [e1, e2]
  exact l1_top _ (by omega)
def goodP (w h : Int32) (p : Int64) : Prop := ((1 ≤ w.toInt ∧ w.toInt ≤ 6) ∧ (1 ≤ h.toInt ∧ h.toInt ≤ 6)) ∧ isPic (w.toNatClampNeg * h.toNatClampNeg) p
theorem goodP_of {w h : Int32} {p : Int64} (hb : ((1 ≤ w.toInt ∧ w.toInt ≤ 6) ∧ (1 ≤ h.toInt ∧ h.toInt ≤ 6)) ∧ 0 ≤ p.toInt ∧ p.toInt < (r_top w h).toInt) : goodP w h p := ⟨hb.1, hb.2.1, by rw [← top_eq hb.1.1 hb.1.2]; exact hb.2.2⟩
theorem goodP_no {w h : Int32} {p : Int64} (hb : ¬ (((1 ≤ w.toInt ∧ w.toInt ≤ 6) ∧ (1 ≤ h.toInt ∧ h.toInt ≤ 6)) ∧ 0 ≤ p.toInt ∧ p.toInt < (r_top w h).toInt)) : ¬ goodP w h p := fun g => hb ⟨g.1, g.2.1, by rw [top_eq g.1.1 g.1.2]; exact g.2.2⟩
theorem wh36 {w h : Int32} (hw : 1 ≤ w.toInt ∧ w.toInt ≤ 6) (hh : 1 ≤ h.toInt ∧ h.toInt ≤ 6) : (1 ≤ w.toNatClampNeg ∧ w.toNatClampNeg ≤ 6) ∧ (1 ≤ h.toNatClampNeg ∧ h.toNatClampNeg ≤ 6) ∧ w.toNatClampNeg * h.toNatClampNeg ≤ 36 ∧ ((w.toNatClampNeg * h.toNatClampNeg : Nat) : Int) = w.toInt * h.toInt := by
  have a1 := m_cl (x := w) (by omega)
  have a2 := m_cl (x := h) (by omega)
  have hm : w.toNatClampNeg * h.toNatClampNeg ≤ 6 * 6 := Nat.mul_le_mul (by omega) (by omega)
  refine ⟨by omega, by omega, by omega, ?_⟩
  rw [Int.natCast_mul, a1, a2]

def tP (w h : Nat) (how : Int) (x y : Nat) : Nat := if how = 0 then x * h + h - 1 - y else if how = 1 then (h - 1 - y) * w + x else x * h + y
theorem tP_b {w h x y : Nat} (how : Int) (hw : w ≤ 6) (hh : h ≤ 6) (hx : x < w) (hy : y < h) : tP w h how x y < 64 := by
  unfold tP
  have h1 : x * h ≤ 5 * 6 := Nat.mul_le_mul (by omega) hh
  have h2 : (h - 1 - y) * w ≤ 5 * 6 := Nat.mul_le_mul (by omega) hw
  split
  · omega
  · split <;> omega
def tF (w h : Nat) (p : Int64) (how : Int) : Nat → Int64
  | 0 => 0
  | n + 1 => tF w h p how n ||| (if lb p n then l1 (tP w h how (n % w) (n / w)) else 0)
def tN (p : Int64) : Nat → Int64
  | 0 => 0
  | n + 1 => tN p n ||| (if lb p n then 0 else l1 n)
def tQ (w h : Nat) (p : Int64) (how : Int) : Int64 := if how = 3 then tN p (w * h) else tF w h p how (w * h)
def tA (w h : Int32) (p : Int64) (how : Int32) (x : Int64) : Prop := (goodP w h p ∧ (0 ≤ how.toInt ∧ how.toInt ≤ 3) ∧ x = tQ w.toNatClampNeg h.toNatClampNeg p how.toInt) ∨ (¬ (goodP w h p ∧ (0 ≤ how.toInt ∧ how.toInt ≤ 3)) ∧ x = -1)
theorem tA_eq {w h : Int32} {p : Int64} {how : Int32} {x y : Int64} (hx : tA w h p how x) (hy : tA w h p how y) : x = y := by
  rcases hx with ⟨a, b, c⟩ | ⟨a, c⟩ <;> rcases hy with ⟨d, e, f⟩ | ⟨d, f⟩
  · rw [c, f]
  · exact absurd ⟨a, b⟩ d
  · exact absurd ⟨d, e⟩ a
  · rw [c, f]
theorem lb_tN (p : Int64) {i : Nat} (hi : i < 64) : ∀ n, n ≤ 64 → lb (tN p n) i = (decide (i < n) && !lb p i) := by
  intro n
  induction n with
  | zero => intro _; rw [decide_eq_false (by omega)]; exact lb_0 i
  | succ n ih =>
    intro hn
    simp only [tN]
    rw [lb_or, ih (by omega)]
    by_cases e : i = n
    · subst e
      cases hb : lb p i
      · simp [hb, lb_l1 hi hi]
      · simp [hb, lb_0]
    · have h1 : lb (if lb p n = true then 0 else l1 n) i = false := by
        split
        · exact lb_0 i
        · rw [lb_l1 (by omega) hi, decide_eq_false e]
      rw [h1, Bool.or_false]
      by_cases e2 : i < n
      · rw [decide_eq_true e2, decide_eq_true (by omega)]
      · rw [decide_eq_false e2, decide_eq_false (by omega)]
theorem l1_mask : ∀ n, n ≤ 36 → ∀ i, i < 64 → lb (l1 n - 1) i = decide (i < n) := by decide +kernel
theorem tN_mask {p : Int64} {n : Nat} (hn : n ≤ 36) : (p ^^^ (-1)) &&& (l1 n - 1) = tN p n := by
  apply lb_ext
  intro i hi
  rw [lb_tN p hi n (by omega), lb_and, lb_xor, lb_m1 i hi, l1_mask n hn i hi, Bool.and_comm]
  simp
theorem tF_1 {w h k i : Nat} {p : Int64} {how : Int} (hi : i < w) (hb : lb p (k * w + i) = true) : tF w h p how (k * w + (i + 1)) = tF w h p how (k * w + i) ||| l1 (tP w h how i k) := by
  show tF w h p how ((k * w + i) + 1) = _
  simp only [tF]
  rw [if_pos hb, Nat.mul_comm k w, Nat.mul_add_mod, Nat.mod_eq_of_lt hi, Nat.mul_add_div (by omega), Nat.div_eq_of_lt hi, Nat.add_zero]
theorem or_0 (x : Int64) : x ||| 0 = x := by
  apply lb_ext
  intro i _
  rw [lb_or, lb_0, Bool.or_false]
theorem tF_0 {w h k i : Nat} {p : Int64} {how : Int} (hb : lb p (k * w + i) = false) : tF w h p how (k * w + (i + 1)) = tF w h p how (k * w + i) := by
  show tF w h p how ((k * w + i) + 1) = _
  simp only [tF]
  rw [hb, if_neg (by decide), or_0]
theorem kw_b {k i w h : Nat} (hw : w ≤ 6) (hh : h ≤ 6) (hi : i < w) (hk : k < h) : k * w + i < 64 := by
  have : k * w ≤ 5 * 6 := Nat.mul_le_mul (by omega) hw
  omega
/-- the reference's step -/
theorem t_one {p : Int64} {k t : Nat} (hk : k < 64) {z : Int32} (hz : z = r_one p (nI k)) : z.toInt64 <<< ((nI t).toInt64 &&& 63) = if lb p k then l1 t else 0 := by
  rw [hz, one_lb p hk]
  split
  · rfl
  · apply lb_ext
    intro i hi
    show lb ((0 : Int64) <<< ((nI t).toInt64 &&& 63)) i = _
    unfold lb
    rw [Int64.toBitVec_shiftLeft]
    show ((0#64) <<< (((nI t).toInt64 &&& 63).toBitVec.smod 64).toNat).getLsbD i = (0#64).getLsbD i
    simp
theorem t_not {p : Int64} {k t : Nat} (hk : k < 64) {z y : Int32} (hz : z = r_one p (nI k)) (hy : y = 1 - z) : y.toInt64 <<< ((nI t).toInt64 &&& 63) = if lb p k then 0 else l1 t := by
  rw [hy, hz, one_lb p hk]
  split
  · apply lb_ext
    intro i hi
    show lb ((0 : Int64) <<< ((nI t).toInt64 &&& 63)) i = _
    unfold lb
    rw [Int64.toBitVec_shiftLeft]
    show ((0#64) <<< (((nI t).toInt64 &&& 63).toBitVec.smod 64).toNat).getLsbD i = (0#64).getLsbD i
    simp
  · rfl
def tR (w h : Nat) (p : Int64) (how : Int) (n : Nat) : Int64 := if how = 3 then tN p n else tF w h p how n
theorem tR_0 (w h : Nat) (p : Int64) (how : Int) : (0 : Int64) = tR w h p how 0 := by unfold tR; split <;> rfl
theorem tR_s {w h : Nat} {p : Int64} {how : Int} {n t : Nat} (h3 : ¬ how = 3) (hn : n < 64) (ht : t = tP w h how (n % w) (n / w)) {z : Int32} (hz : z = r_one p (nI n)) {x y : Int64} (hx : x = tR w h p how n) (hy : y = x ||| (z.toInt64 <<< ((nI t).toInt64 &&& 63))) : y = tR w h p how (n + 1) := by
  rw [hy, hx, t_one hn hz, ht]
  unfold tR
  rw [if_neg h3, if_neg h3]
  simp only [tF]
theorem tR_3 {w h : Nat} {p : Int64} {how : Int} {n t : Nat} (h3 : how = 3) (hn : n < 64) (ht : t = n) {z u : Int32} (hz : z = r_one p (nI n)) (hu : u = 1 - z) {x y : Int64} (hx : x = tR w h p how n) (hy : y = x ||| (u.toInt64 <<< ((nI t).toInt64 &&& 63))) : y = tR w h p how (n + 1) := by
  rw [hy, hx, t_not hn hz hu, ht]
  unfold tR
  rw [if_pos h3, if_pos h3]
  simp only [tN]
/-- the reference's places -/
theorem t_p0 {i a b : Nat} {x y v1 v2 v3 v4 w h : Int32} (ew : w = nI a) (eh : h = nI b) (hb : 1 ≤ b) (ex : x = nI (i % a)) (ey : y = nI (i / a)) (hy : i / a < b) (e1 : v1 = x * h) (e2 : v2 = v1 + h) (e3 : v3 = v2 - 1) (e4 : v4 = v3 - y) : v4 = nI (i % a * b + b - 1 - i / a) := by
  rw [e4, e3, e2, e1, ex, ey, eh, pk_mul, nI_add, show (1 : Int32) = nI 1 from rfl, pk_sub (by omega), pk_sub (by omega)]
theorem t_p1 {i a b : Nat} {x y v1 v2 v3 v4 w h : Int32} (ew : w = nI a) (eh : h = nI b) (hb : 1 ≤ b) (ex : x = nI (i % a)) (ey : y = nI (i / a)) (hy : i / a < b) (e1 : v1 = h - 1) (e2 : v2 = v1 - y) (e3 : v3 = v2 * w) (e4 : v4 = v3 + x) : v4 = nI ((b - 1 - i / a) * a + i % a) := by
  rw [e4, e3, e2, e1, ex, ey, eh, ew, show (1 : Int32) = nI 1 from rfl, pk_sub (by omega), pk_sub (by omega), pk_mul, nI_add]
theorem t_p2 {i a b : Nat} {x y v1 v2 h : Int32} (eh : h = nI b) (ex : x = nI (i % a)) (ey : y = nI (i / a)) (e1 : v1 = x * h) (e2 : v2 = v1 + y) : v2 = nI (i % a * b + i / a) := by
  rw [e2, e1, ex, ey, eh, pk_mul, nI_add]
set_option maxHeartbeats 4000000 in
set_option maxRecDepth 100000 in
theorem c_X0_isPicture_x (l : Launch) (D : va_G) (cy : Nat → ClassId) (A : Nat → Prop) (G : cG) (ws : va_W) (o : Nat) (p0 : Int64) {w h : Nat} (hD : va_D A ws) (hT : cT cy G ws) (hG_o : G o = some (2, w, h))  : Ci l D cy A yX0_isPicture wsX0_isPicture ({ frames := 0, cells := 0, slots := 0, locals := 0 }) 0 0 ws [.ref o, .long p0] (fun r0 u => u = (G, ws) ∧ (Bo r0 (isPic (w * h) p0))) := by
  refine Met.ofW (cc := cX0_isPicture) (maxL := 3) (ret := (some .boolean)) (by decide) rfl ?_
  intro p e s m args below meth c s₁ B hml hv
  obtain ⟨rfl, hP, hK, hA, hV⟩ := hv
  have hx := B.exec
  have hb := B.bytes
  have hr := B.returns
  have hts := atoms_spec (ws := wsX0_isPicture) B.pre
  have hown : s.vm.findClass RX0 = some m.cls := findClass_of_methodNamed B.named
  have hlocks := B.notSynchronized
  have hS : va_S A s.heap s.heap [] := va_S.rf
  have hl := lv_entry ([.ref o, .long p0]) (n := 3) (Nat.le_of_ble_eq_true rfl)
  rw [lg_entry_eq]
  generalize (lg_sl ([.ref o, .long p0]) ++ List.replicate (3 - (lg_sl ([.ref o, .long p0])).length) Slot.unset).toArray = ls at hl ⊢
  have hl : lv_has ls 3 [(0, .ref o), (1, .long p0)] := hl
  have k_0 : (0 : Int32).toInt = 0 := by decide
  have k_1 : (1 : Int32).toInt = 1 := by decide
  have k_0L : (0 : Int64).toInt = 0 := by decide
  refine lv_lload_n hx hb dX0_isPicture_0 rfl (lv_at hl 1 rfl) ?_
  refine lv_aload_n hx hb dX0_isPicture_1 rfl (lv_at hl 0 rfl) ?_
  obtain ⟨_, hM_o, hb_o, l_o, f_o, r_o, rfl, hG_l_o, hG_f_o, hG_r_o⟩ := hT _ _ hG_o
  refine t_get (v := .int (nI (w * h))) (C := RX0) (T := TX0) (N := 8) hx hb hts (by decide +kernel) hown hK hP hM_o rfl 2 (by decide) (hts (.fieldLink RX0 20 "ShadowBench$Board" "squares" "I") (by decide +kernel)) (fun _ h9 => h9) rfl dX0_isPicture_2 ?_
  have m_wh_o := cb_mul hb_o
  have i_wh_o : (nI (w * h)).toInt = _ := nI_toInt (by omega)
  refine lv_lushr (v := (p0.toUInt64 >>> (((nI (w * h))).toInt64.toUInt64 &&& Int64.toUInt64 63)).toInt64) hx hb dX0_isPicture_5 rfl ?_
  refine lv_lconst (v := 0) hx hb dX0_isPicture_6 (by decide) ?_
  refine W.lcmp hx hb dX0_isPicture_7 ?_
  refine lv_if_ne (tgt := 15) hx hb dX0_isPicture_8 (by decide) (fun c8 => ?_) (fun c8 => ?_)
  · skip
    have d8 := c8
    rw [lg_cmp_eq, fa_eq64] at d8
    refine lv_iconst (v := 0) hx hb dX0_isPicture_15 (by decide) ?_
    exact W.zret (v := (0 : Int32)) hx hb hr (by decide) (fun t ht hW => ⟨⟨_, (G, ws), rfl, ⟨rfl, Or.inr ⟨rfl, fun z9 => c8 ((lg_cmp_eq _ _).mpr ((pic_u m_wh_o.2).mpr z9))⟩⟩, by show va_P D vwCl ws t.heap; rw [ht]; exact hP, hD, hT⟩, hS.F ht⟩) hS.2.2 dX0_isPicture_16
  · skip
    have d8 := c8
    rw [lg_cmp_eq, fa_eq64] at d8
    refine lv_iconst (v := 1) hx hb dX0_isPicture_11 (by decide) ?_
    refine lv_goto (tgt := 16) hx hb dX0_isPicture_12 (by decide) ?_
    exact W.zret (v := (1 : Int32)) hx hb hr (by decide) (fun t ht hW => ⟨⟨_, (G, ws), rfl, ⟨rfl, Or.inl ⟨rfl, (pic_u m_wh_o.2).mp ((lg_cmp_eq _ _).mp c8)⟩⟩, by show va_P D vwCl ws t.heap; rw [ht]; exact hP, hD, hT⟩, hS.F ht⟩) hS.2.2 dX0_isPicture_16
set_option maxHeartbeats 4000000 in
set_option maxRecDepth 100000 in
theorem c_X0_bit_x (l : Launch) (D : va_G) (cy : Nat → ClassId) (A : Nat → Prop) (G : cG) (ws : va_W) (o : Nat) (x : Nat) (y : Nat) {w h : Nat} (hD : va_D A ws) (hT : cT cy G ws) (hG_o : G o = some (2, w, h))  : Cl l D cy A yX0_bit wsX0_bit ({ frames := 0, cells := 0, slots := 0, locals := 0 }) 0 0 ws [.ref o, .int (nI x), .int (nI y)] (fun r0 u => u = (G, ws) ∧ (r0 = l1 (y * w + x))) := by
  refine Met.ofW (cc := cX0_bit) (maxL := 3) (ret := (some .long)) (by decide) rfl ?_
  intro p e s m args below meth c s₁ B hml hv
  obtain ⟨rfl, hP, hK, hA, hV⟩ := hv
  have hx := B.exec
  have hb := B.bytes
  have hr := B.returns
  have hts := atoms_spec (ws := wsX0_bit) B.pre
  have hown : s.vm.findClass RX0 = some m.cls := findClass_of_methodNamed B.named
  have hlocks := B.notSynchronized
  have hS : va_S A s.heap s.heap [] := va_S.rf
  have hl := lv_entry ([.ref o, .int (nI x), .int (nI y)]) (n := 3) (Nat.le_of_ble_eq_true rfl)
  rw [lg_entry_eq]
  generalize (lg_sl ([.ref o, .int (nI x), .int (nI y)]) ++ List.replicate (3 - (lg_sl ([.ref o, .int (nI x), .int (nI y)])).length) Slot.unset).toArray = ls at hl ⊢
  have hl : lv_has ls 3 [(0, .ref o), (1, .int (nI x)), (2, .int (nI y))] := hl
  have k_0 : (0 : Int32).toInt = 0 := by decide
  have k_1L : (1 : Int64).toInt = 1 := by decide
  refine lv_lconst (v := 1) hx hb dX0_bit_0 (by decide) ?_
  refine lv_iload_n hx hb dX0_bit_1 rfl (lv_at hl 2 rfl) ?_
  refine lv_aload_n hx hb dX0_bit_2 rfl (lv_at hl 0 rfl) ?_
  obtain ⟨_, hM_o, hb_o, l_o, f_o, r_o, rfl, hG_l_o, hG_f_o, hG_r_o⟩ := hT _ _ hG_o
  refine t_get (v := .int (nI w)) (C := RX0) (T := TX0) (N := 8) hx hb hts (by decide +kernel) hown hK hP hM_o rfl 0 (by decide) (hts (.fieldLink RX0 13 "ShadowBench$Board" "wide" "I") (by decide +kernel)) (fun _ h9 => h9) rfl dX0_bit_3 ?_
  have i_w_o : (nI w).toInt = _ := nI_toInt (by omega)
  refine lv_imul hx hb dX0_bit_6 ?_
  refine lv_topi (fun v6 e6 => ?_)
  refine lv_iload_n hx hb dX0_bit_7 rfl (lv_at hl 1 rfl) ?_
  refine lv_iadd hx hb dX0_bit_8 ?_
  refine lv_topi (fun v8 e8 => ?_)
  refine lv_lshl (v := (1 : Int64) <<< (v8.toInt64 &&& 63)) hx hb dX0_bit_9 rfl ?_
  exact W.lret (v := ((1 : Int64) <<< (v8.toInt64 &&& 63))) hx hb hr (fun t ht hW => ⟨⟨_, (G, ws), rfl, ⟨rfl, (by unfold l1; rw [e8, e6, pk_mul, nI_add])⟩, by show va_P D vwCl ws t.heap; rw [ht]; exact hP, hD, hT⟩, hS.F ht⟩) hS.2.2 dX0_bit_10
set_option maxHeartbeats 4000000 in
set_option maxRecDepth 100000 in
theorem c_X0_placeTurned_x (l : Launch) (D : va_G) (cy : Nat → ClassId) (A : Nat → Prop) (G : cG) (ws : va_W) (o : Nat) (how : Int32) (x : Nat) (y : Nat) {w h : Nat} (hD : va_D A ws) (hT : cT cy G ws) (hG_o : G o = some (2, w, h)) (hx1 : x < w) (hy1 : y < h) : Ci l D cy A yX0_placeTurned wsX0_placeTurned ({ frames := 0, cells := 0, slots := 0, locals := 0 }) 0 0 ws [.ref o, .int how, .int (nI x), .int (nI y)] (fun r0 u => u = (G, ws) ∧ (r0 = nI (tP w h how.toInt x y))) := by
  refine Met.ofW (cc := cX0_placeTurned) (maxL := 4) (ret := (some .int)) (by decide) rfl ?_
  intro p e s m args below meth c s₁ B hml hv
  obtain ⟨rfl, hP, hK, hA, hV⟩ := hv
  have hx := B.exec
  have hb := B.bytes
  have hr := B.returns
  have hts := atoms_spec (ws := wsX0_placeTurned) B.pre
  have hown : s.vm.findClass RX0 = some m.cls := findClass_of_methodNamed B.named
  have hlocks := B.notSynchronized
  have hS : va_S A s.heap s.heap [] := va_S.rf
  have hl := lv_entry ([.ref o, .int how, .int (nI x), .int (nI y)]) (n := 4) (Nat.le_of_ble_eq_true rfl)
  rw [lg_entry_eq]
  generalize (lg_sl ([.ref o, .int how, .int (nI x), .int (nI y)]) ++ List.replicate (4 - (lg_sl ([.ref o, .int how, .int (nI x), .int (nI y)])).length) Slot.unset).toArray = ls at hl ⊢
  have hl : lv_has ls 4 [(0, .ref o), (1, .int how), (2, .int (nI x)), (3, .int (nI y))] := hl
  have k_0 : (0 : Int32).toInt = 0 := by decide
  have k_1 : (1 : Int32).toInt = 1 := by decide
  refine lv_iload_n hx hb dX0_placeTurned_0 rfl (lv_at hl 1 rfl) ?_
  by_cases s1_0 : how.toInt = 0
  · skip
    refine lv_lookup (off := 27) (tgt := 28) hx hb dX0_placeTurned_1 (by decide) (by rw [s1_0]; decide) (by decide) ?_
    refine lv_iload_n hx hb dX0_placeTurned_28 rfl (lv_at hl 2 rfl) ?_
    refine lv_aload_n hx hb dX0_placeTurned_29 rfl (lv_at hl 0 rfl) ?_
    obtain ⟨_, hM_o, hb_o, l_o, f_o, r_o, rfl, hG_l_o, hG_f_o, hG_r_o⟩ := hT _ _ hG_o
    refine t_get (v := .int (nI h)) (C := RX0) (T := TX0) (N := 8) hx hb hts (by decide +kernel) hown hK hP hM_o rfl 1 (by decide) (hts (.fieldLink RX0 17 "ShadowBench$Board" "high" "I") (by decide +kernel)) (fun _ h9 => h9) rfl dX0_placeTurned_30 ?_
    have i_h_o : (nI h).toInt = _ := nI_toInt (by omega)
    refine lv_imul hx hb dX0_placeTurned_33 ?_
    refine lv_topi (fun v33 e33 => ?_)
    refine lv_aload_n hx hb dX0_placeTurned_34 rfl (lv_at hl 0 rfl) ?_
    refine t_get (v := .int (nI h)) (C := RX0) (T := TX0) (N := 8) hx hb hts (by decide +kernel) hown hK hP hM_o rfl 1 (by decide) (hts (.fieldLink RX0 17 "ShadowBench$Board" "high" "I") (by decide +kernel)) (fun _ h9 => h9) rfl dX0_placeTurned_35 ?_
    refine lv_iadd hx hb dX0_placeTurned_38 ?_
    refine lv_topi (fun v38 e38 => ?_)
    refine lv_iconst (v := 1) hx hb dX0_placeTurned_39 (by decide) ?_
    refine lv_isub hx hb dX0_placeTurned_40 ?_
    refine lv_topi (fun v40 e40 => ?_)
    refine lv_iload_n hx hb dX0_placeTurned_41 rfl (lv_at hl 3 rfl) ?_
    refine lv_isub hx hb dX0_placeTurned_42 ?_
    refine lv_topi (fun v42 e42 => ?_)
    exact W.iret (v := v42) hx hb hr (fun t ht hW => ⟨⟨_, (G, ws), rfl, ⟨rfl, (by unfold tP; rw [if_pos s1_0, e42, e40, e38, e33, pk_mul, nI_add, show (1 : Int32) = nI 1 from rfl, pk_sub (by omega), pk_sub (by omega)])⟩, by show va_P D vwCl ws t.heap; rw [ht]; exact hP, hD, hT⟩, hS.F ht⟩) hS.2.2 dX0_placeTurned_43
  by_cases s1_1 : how.toInt = 1
  · skip
    refine lv_lookup (off := 43) (tgt := 44) hx hb dX0_placeTurned_1 (by decide) (by rw [s1_1]; decide) (by decide) ?_
    refine lv_aload_n hx hb dX0_placeTurned_44 rfl (lv_at hl 0 rfl) ?_
    obtain ⟨_, hM_o, hb_o, l_o, f_o, r_o, rfl, hG_l_o, hG_f_o, hG_r_o⟩ := hT _ _ hG_o
    refine t_get (v := .int (nI h)) (C := RX0) (T := TX0) (N := 8) hx hb hts (by decide +kernel) hown hK hP hM_o rfl 1 (by decide) (hts (.fieldLink RX0 17 "ShadowBench$Board" "high" "I") (by decide +kernel)) (fun _ h9 => h9) rfl dX0_placeTurned_45 ?_
    have i_h_o : (nI h).toInt = _ := nI_toInt (by omega)
    refine lv_iconst (v := 1) hx hb dX0_placeTurned_48 (by decide) ?_
    refine lv_isub hx hb dX0_placeTurned_49 ?_
    refine lv_topi (fun v49 e49 => ?_)
    refine lv_iload_n hx hb dX0_placeTurned_50 rfl (lv_at hl 3 rfl) ?_
    refine lv_isub hx hb dX0_placeTurned_51 ?_
    refine lv_topi (fun v51 e51 => ?_)
    refine lv_aload_n hx hb dX0_placeTurned_52 rfl (lv_at hl 0 rfl) ?_
    refine t_get (v := .int (nI w)) (C := RX0) (T := TX0) (N := 8) hx hb hts (by decide +kernel) hown hK hP hM_o rfl 0 (by decide) (hts (.fieldLink RX0 13 "ShadowBench$Board" "wide" "I") (by decide +kernel)) (fun _ h9 => h9) rfl dX0_placeTurned_53 ?_
    have i_w_o : (nI w).toInt = _ := nI_toInt (by omega)
    refine lv_imul hx hb dX0_placeTurned_56 ?_
    refine lv_topi (fun v56 e56 => ?_)
    refine lv_iload_n hx hb dX0_placeTurned_57 rfl (lv_at hl 2 rfl) ?_
    refine lv_iadd hx hb dX0_placeTurned_58 ?_
    refine lv_topi (fun v58 e58 => ?_)
    exact W.iret (v := v58) hx hb hr (fun t ht hW => ⟨⟨_, (G, ws), rfl, ⟨rfl, (by unfold tP; rw [if_neg s1_0, if_pos s1_1, e58, e56, e51, e49, show (1 : Int32) = nI 1 from rfl, pk_sub (by omega), pk_sub (by omega), pk_mul, nI_add])⟩, by show va_P D vwCl ws t.heap; rw [ht]; exact hP, hD, hT⟩, hS.F ht⟩) hS.2.2 dX0_placeTurned_59
  refine lv_lookup (off := 59) (tgt := 60) hx hb dX0_placeTurned_1 (by decide) (by simp [Op.lookupswitch.offset_cons, Op.lookupswitch.offset_nil, Ne.symm s1_0, s1_0, Ne.symm s1_1, s1_1]) (by decide) ?_
  refine lv_iload_n hx hb dX0_placeTurned_60 rfl (lv_at hl 2 rfl) ?_
  refine lv_aload_n hx hb dX0_placeTurned_61 rfl (lv_at hl 0 rfl) ?_
  obtain ⟨_, hM_o, hb_o, l_o, f_o, r_o, rfl, hG_l_o, hG_f_o, hG_r_o⟩ := hT _ _ hG_o
  refine t_get (v := .int (nI h)) (C := RX0) (T := TX0) (N := 8) hx hb hts (by decide +kernel) hown hK hP hM_o rfl 1 (by decide) (hts (.fieldLink RX0 17 "ShadowBench$Board" "high" "I") (by decide +kernel)) (fun _ h9 => h9) rfl dX0_placeTurned_62 ?_
  have i_h_o : (nI h).toInt = _ := nI_toInt (by omega)
  refine lv_imul hx hb dX0_placeTurned_65 ?_
  refine lv_topi (fun v65 e65 => ?_)
  refine lv_iload_n hx hb dX0_placeTurned_66 rfl (lv_at hl 3 rfl) ?_
  refine lv_iadd hx hb dX0_placeTurned_67 ?_
  refine lv_topi (fun v67 e67 => ?_)
  exact W.iret (v := v67) hx hb hr (fun t ht hW => ⟨⟨_, (G, ws), rfl, ⟨rfl, (by unfold tP; rw [if_neg s1_0, if_neg s1_1, e67, e65, pk_mul, nI_add])⟩, by show va_P D vwCl ws t.heap; rw [ht]; exact hP, hD, hT⟩, hS.F ht⟩) hS.2.2 dX0_placeTurned_68
set_option maxHeartbeats 4000000 in
set_option maxRecDepth 100000 in
theorem c_X0_turnedPicture_x (l : Launch) (D : va_G) (cy : Nat → ClassId) (A : Nat → Prop) (G : cG) (ws : va_W) (o : Nat) (p0 : Int64) (how : Int32) {w h : Nat} (hD : va_D A ws) (hT : cT cy G ws) (hG_o : G o = some (2, w, h))  : Cl l D cy A yX0_turnedPicture wsX0_turnedPicture ({ frames := 1, cells := 0, slots := 0, locals := 23 }) 0 0 ws [.ref o, .long p0, .int how] (fun r0 u => u = (G, ws) ∧ (r0 = tQ w h p0 how.toInt)) := by
  refine Met.ofW (cc := cX0_turnedPicture) (maxL := 8) (ret := (some .long)) (by decide) rfl ?_
  intro p e s m args below meth c s₁ B hml hv
  obtain ⟨rfl, hP, hK, hA, hV⟩ := hv
  have hx := B.exec
  have hb := B.bytes
  have hr := B.returns
  have hts := atoms_spec (ws := wsX0_turnedPicture) B.pre
  have hown : s.vm.findClass RX0 = some m.cls := findClass_of_methodNamed B.named
  have hlocks := B.notSynchronized
  have hS : va_S A s.heap s.heap [] := va_S.rf
  have hl := lv_entry ([.ref o, .long p0, .int how]) (n := 8) (Nat.le_of_ble_eq_true rfl)
  rw [lg_entry_eq]
  generalize (lg_sl ([.ref o, .long p0, .int how]) ++ List.replicate (8 - (lg_sl ([.ref o, .long p0, .int how])).length) Slot.unset).toArray = ls at hl ⊢
  have hl : lv_has ls 8 [(0, .ref o), (1, .long p0), (3, .int how)] := hl
  have k_0 : (0 : Int32).toInt = 0 := by decide
  have k_3 : (3 : Int32).toInt = 3 := by decide
  have k_m1L : (-1 : Int64).toInt = -1 := by decide
  have k_0L : (0 : Int64).toInt = 0 := by decide
  have k_1L : (1 : Int64).toInt = 1 := by decide
  have hb9 := c_hb hT hG_o
  refine lv_iload_n hx hb dX0_turnedPicture_0 rfl (lv_at hl 2 rfl) ?_
  refine lv_iconst (v := 3) hx hb dX0_turnedPicture_1 (by decide) ?_
  refine lv_icmp_ne (tgt := 20) hx hb dX0_turnedPicture_2 (by decide) (fun c2 => ?_) (fun c2 => ?_)
  · skip
    have d2 := c2
    rw [fa_eq] at d2
    refine lv_lconst (v := 0) hx hb dX0_turnedPicture_20 (by decide) ?_
    refine lv_lstore (lv' := [(4, .long (0 : Int64)), (0, .ref o), (1, .long p0), (3, .int how)]) hx hb dX0_turnedPicture_21 hl (by decide) rfl (fun ls hl => ?_)
    refine lv_iconst (v := 0) hx hb dX0_turnedPicture_23 (by decide) ?_
    refine lv_istore (lv' := [(6, .int (0 : Int32)), (4, .long (0 : Int64)), (0, .ref o), (1, .long p0), (3, .int how)]) hx hb dX0_turnedPicture_24 hl (by decide) rfl (fun ls hl => ?_)
    have loop_26 : ∀ (n : Nat) (k : Nat) (x4 : Int64), (k ≤ h) → (x4 = tF w h p0 how.toInt (k * w)) → h - k < n → ∀ (H : Heap) (locs : List Loc), va_P D vwCl ws H → va_S A s.heap H locs → ∀ (ls : Array Slot), lv_has ls 8 [(6, .int (nI k)), (4, .long x4), (0, .ref o), (1, .long p0), (3, .int how)] → W p l e (headSpec wsX0_turnedPicture ({ frames := 1, cells := 0, slots := 0, locals := 23 })).room s m #[Value.ref o, Value.long p0, Value.int how] below meth c H locs 0 0 (MQ below (va_Ql (fun r0 u => u = (G, ws) ∧ (r0 = tQ w h p0 how.toInt)) (cB D cy A) A) #[Value.ref o, Value.long p0, Value.int how] s 0 0 A) (F0 m 26 ls []) := by
      intro n
      induction n with
      | zero => intro k x4 j26_0 j26_1 hn; exact absurd hn (Nat.not_lt_zero _)
      | succ n ih_26 =>
        intro k x4 j26_0 j26_1 hn_26 H locs hP hS  ls hl
        have ik : (nI k).toInt = (k : Int) := nI_toInt (by omega)
        refine lv_iload hx hb dX0_turnedPicture_26 (lv_at hl 0 rfl) ?_
        refine lv_aload_n hx hb dX0_turnedPicture_28 rfl (lv_at hl 2 rfl) ?_
        obtain ⟨_, hM_o, hb_o, l_o, f_o, r_o, rfl, hG_l_o, hG_f_o, hG_r_o⟩ := hT _ _ hG_o
        refine t_get (v := .int (nI h)) (C := RX0) (T := TX0) (N := 8) hx hb hts (by decide +kernel) hown hK hP hM_o rfl 1 (by decide) (hts (.fieldLink RX0 17 "ShadowBench$Board" "high" "I") (by decide +kernel)) (fun _ h9 => h9) rfl dX0_turnedPicture_29 ?_
        have i_h_o : (nI h).toInt = _ := nI_toInt (by omega)
        refine lv_icmp_ge (tgt := 90) hx hb dX0_turnedPicture_32 (by decide) (fun c32 => ?_) (fun c32 => ?_)
        · skip
          have d32 := c32
          rw [fa_le] at d32
          obtain rfl : k = h := by omega
          refine lv_lload hx hb dX0_turnedPicture_90 (lv_at hl 1 rfl) ?_
          exact W.lret (v := x4) hx hb hr (fun t ht hW => ⟨⟨_, (G, ws), rfl, ⟨rfl, (by unfold tQ; rw [if_neg (by omega), Nat.mul_comm w k]; exact j26_1)⟩, by show va_P D vwCl ws t.heap; rw [ht]; exact hP, hD, hT⟩, hS.F ht⟩) hS.2.2 dX0_turnedPicture_92
        · skip
          have d32 := c32
          rw [fa_le] at d32
          refine lv_iconst (v := 0) hx hb dX0_turnedPicture_35 (by decide) ?_
          refine lv_istore (lv' := [(7, .int (0 : Int32)), (6, .int (nI k)), (4, .long x4), (0, .ref o), (1, .long p0), (3, .int how)]) hx hb dX0_turnedPicture_36 hl (by decide) rfl (fun ls hl => ?_)
          have loop_38 : ∀ (n : Nat) (i : Nat) (z4 : Int64), (i ≤ w) → (z4 = tF w h p0 how.toInt (k * w + i)) → w - i < n → ∀ (H : Heap) (locs : List Loc), va_P D vwCl ws H → va_S A s.heap H locs → ∀ (ls : Array Slot), lv_has ls 8 [(7, .int (nI i)), (6, .int (nI k)), (4, .long z4), (0, .ref o), (1, .long p0), (3, .int how)] → W p l e (headSpec wsX0_turnedPicture ({ frames := 1, cells := 0, slots := 0, locals := 23 })).room s m #[Value.ref o, Value.long p0, Value.int how] below meth c H locs 0 0 (MQ below (va_Ql (fun r0 u => u = (G, ws) ∧ (r0 = tQ w h p0 how.toInt)) (cB D cy A) A) #[Value.ref o, Value.long p0, Value.int how] s 0 0 A) (F0 m 38 ls []) := by
            intro n
            induction n with
            | zero => intro i z4 j38_0 j38_1 hn; exact absurd hn (Nat.not_lt_zero _)
            | succ n ih_38 =>
              intro i z4 j38_0 j38_1 hn_38 H locs hP hS  ls hl
              have ii : (nI i).toInt = (i : Int) := nI_toInt (by omega)
              refine lv_iload hx hb dX0_turnedPicture_38 (lv_at hl 0 rfl) ?_
              refine lv_aload_n hx hb dX0_turnedPicture_40 rfl (lv_at hl 3 rfl) ?_
              refine t_get (v := .int (nI w)) (C := RX0) (T := TX0) (N := 8) hx hb hts (by decide +kernel) hown hK hP hM_o rfl 0 (by decide) (hts (.fieldLink RX0 13 "ShadowBench$Board" "wide" "I") (by decide +kernel)) (fun _ h9 => h9) rfl dX0_turnedPicture_41 ?_
              have i_w_o : (nI w).toInt = _ := nI_toInt (by omega)
              refine lv_icmp_ge (tgt := 84) hx hb dX0_turnedPicture_44 (by decide) (fun c44 => ?_) (fun c44 => ?_)
              · skip
                have d44 := c44
                rw [fa_le] at d44
                obtain rfl : i = w := by omega
                have e84 : z4 = tF i h p0 how.toInt ((k + 1) * i) := by rw [Nat.succ_mul]; exact j38_1
                refine lv_iinc (v := (nI (k + 1))) (lv' := [(6, .int (nI (k + 1))), (7, .int (nI i)), (4, .long z4), (0, .ref o), (1, .long p0), (3, .int how)]) hx hb dX0_turnedPicture_84 hl (k := 1) rfl (nI_1 _) (by decide) rfl (fun ls hl => ?_)
                refine lv_goto (tgt := 26) hx hb dX0_turnedPicture_87 (by decide) ?_
                exact ih_26 (k + 1) z4 (by omega) (e84) (by omega) _ _ hP hS  ls (lv_sub hl [0, 2, 3, 4, 5] rfl)
              · skip
                have d44 := c44
                rw [fa_le] at d44
                have kb := kw_b (k := k) (i := i) hb9.2.1 hb9.2.2.2 (by omega) (by omega)
                refine lv_lload_n hx hb dX0_turnedPicture_47 rfl (lv_at hl 4 rfl) ?_
                refine lv_aload_n hx hb dX0_turnedPicture_48 rfl (lv_at hl 3 rfl) ?_
                refine lv_iload hx hb dX0_turnedPicture_49 (lv_at hl 0 rfl) ?_
                refine lv_iload hx hb dX0_turnedPicture_51 (lv_at hl 1 rfl) ?_
                refine t_calll (va_runV (g := F0 m 53 ls ([.int (nI k), .int (nI i), .ref o, .long p0])) (As := [.int (nI i), .int (nI k)]) (rest := [.long p0]) ⟨hx, hb, hml, hown, hts⟩ (c_X0_bit_x l D cy A G ws o i k hD hT hG_o ) (cwV 2 hts gX0_turnedPicture_X0_bit rfl rfl rfl (by decide +kernel) ⟨Nat.le_of_ble_eq_true rfl, Nat.le_of_ble_eq_true rfl⟩) (c_preV hM_o rfl hP hK hA hS hV) rfl rfl hl.1 rfl (lv_room (Nat.le_of_ble_eq_true rfl)) dX0_turnedPicture_53 ⟨Nat.le_of_ble_eq_true rfl, Nat.le_of_ble_eq_true rfl⟩) hS (fun r53 u H locs q53 hP9 hD9 hT9 hS => ?_)
                obtain ⟨rfl, q53⟩ := q53
                have hP : va_P D vwCl ws H := hP9
                refine lv_land hx hb dX0_turnedPicture_56 ?_
                refine lv_topl (fun v56 e56 => ?_)
                refine lv_lconst (v := 0) hx hb dX0_turnedPicture_57 (by decide) ?_
                refine W.lcmp hx hb dX0_turnedPicture_58 ?_
                have e56b : v56 = p0 &&& l1 (k * w + i) := by rw [e56, q53]
                refine lv_if_eq (tgt := 78) hx hb dX0_turnedPicture_59 (by decide) (fun c59 => ?_) (fun c59 => ?_)
                · skip
                  have d59 := c59
                  rw [lg_cmp_eq, fa_eq64] at d59
                  have hst : tF w h p0 how.toInt (k * w + (i + 1)) = tF w h p0 how.toInt (k * w + (i + 1)) := rfl
                  first | have hl0 : lb p0 (k * w + i) = false := (l1_no kb).mp (e56b.symm.trans ((lg_cmp_eq _ _).mp c59)) | skip
                  first | have e78b : z4 = tF w h p0 how.toInt (k * w + (i + 1)) := (by rw [tF_0 hl0]; exact j38_1) | skip
                  refine lv_iinc (v := (nI (i + 1))) (lv' := [(7, .int (nI (i + 1))), (6, .int (nI k)), (4, .long z4), (0, .ref o), (1, .long p0), (3, .int how)]) hx hb dX0_turnedPicture_78 hl (k := 0) rfl (nI_1 _) (by decide) rfl (fun ls hl => ?_)
                  refine lv_goto (tgt := 38) hx hb dX0_turnedPicture_81 (by decide) ?_
                  exact ih_38 (i + 1) z4 (by omega) (by first | exact e75b | exact e78b) (by omega) _ _ hP hS  ls (lv_sub hl [0, 1, 2, 3, 4, 5] rfl)
                · skip
                  have d59 := c59
                  rw [lg_cmp_eq, fa_eq64] at d59
                  have hl1 : lb p0 (k * w + i) = true := by cases hq : lb p0 (k * w + i); exact absurd ((lg_cmp_eq _ _).mpr (e56b.trans ((l1_no kb).mpr hq))) c59; rfl
                  refine lv_lload hx hb dX0_turnedPicture_62 (lv_at hl 2 rfl) ?_
                  refine lv_lconst (v := 1) hx hb dX0_turnedPicture_64 (by decide) ?_
                  refine lv_aload_n hx hb dX0_turnedPicture_65 rfl (lv_at hl 3 rfl) ?_
                  refine lv_iload_n hx hb dX0_turnedPicture_66 rfl (lv_at hl 5 rfl) ?_
                  refine lv_iload hx hb dX0_turnedPicture_67 (lv_at hl 0 rfl) ?_
                  refine lv_iload hx hb dX0_turnedPicture_69 (lv_at hl 1 rfl) ?_
                  refine t_calli (va_runV (g := F0 m 71 ls ([.int (nI k), .int (nI i), .int how, .ref o, .long (1 : Int64), .long z4])) (As := [.int how, .int (nI i), .int (nI k)]) (rest := [.long (1 : Int64), .long z4]) ⟨hx, hb, hml, hown, hts⟩ (c_X0_placeTurned_x l D cy A G ws o how i k hD hT hG_o (by omega) (by omega)) (cwV 3 hts gX0_turnedPicture_X0_placeTurned rfl rfl rfl (by decide +kernel) ⟨Nat.le_of_ble_eq_true rfl, Nat.le_of_ble_eq_true rfl⟩) (c_preV hM_o rfl hP hK hA hS hV) rfl rfl hl.1 rfl (lv_room (Nat.le_of_ble_eq_true rfl)) dX0_turnedPicture_71 ⟨Nat.le_of_ble_eq_true rfl, Nat.le_of_ble_eq_true rfl⟩) hS (fun r71 u H locs q71 hP9 hD9 hT9 hS => ?_)
                  obtain ⟨rfl, q71⟩ := q71
                  have hP : va_P D vwCl ws H := hP9
                  refine lv_lshl (v := (1 : Int64) <<< (r71.toInt64 &&& 63)) hx hb dX0_turnedPicture_74 rfl ?_
                  refine lv_lor hx hb dX0_turnedPicture_75 ?_
                  refine lv_topl (fun v75 e75 => ?_)
                  have e75b : v75 = tF w h p0 how.toInt (k * w + (i + 1)) := by rw [tF_1 (by omega) hl1, e75, q71, j38_1]; rfl
                  refine lv_lstore (lv' := [(4, .long v75), (7, .int (nI i)), (6, .int (nI k)), (0, .ref o), (1, .long p0), (3, .int how)]) hx hb dX0_turnedPicture_76 hl (by decide) rfl (fun ls hl => ?_)
                  have hst : tF w h p0 how.toInt (k * w + (i + 1)) = tF w h p0 how.toInt (k * w + (i + 1)) := rfl
                  first | have hl0 : lb p0 (k * w + i) = false := (l1_no kb).mp (e56b.symm.trans ((lg_cmp_eq _ _).mp c59)) | skip
                  first | have e78b : z4 = tF w h p0 how.toInt (k * w + (i + 1)) := (by rw [tF_0 hl0]; exact j38_1) | skip
                  refine lv_iinc (v := (nI (i + 1))) (lv' := [(7, .int (nI (i + 1))), (4, .long v75), (6, .int (nI k)), (0, .ref o), (1, .long p0), (3, .int how)]) hx hb dX0_turnedPicture_78 hl (k := 1) rfl (nI_1 _) (by decide) rfl (fun ls hl => ?_)
                  refine lv_goto (tgt := 38) hx hb dX0_turnedPicture_81 (by decide) ?_
                  exact ih_38 (i + 1) v75 (by omega) (by first | exact e75b | exact e78b) (by omega) _ _ hP hS  ls (lv_sub hl [0, 2, 1, 3, 4, 5] rfl)
          exact loop_38 (w + 1) 0 x4 (by omega) (by rw [Nat.add_zero]; exact j26_1) (by omega) _ _ hP hS  ls (lv_sub hl [0, 1, 2, 3, 4, 5] rfl)
    exact loop_26 (h + 1) 0 (0 : Int64) (by omega) (by rw [Nat.zero_mul]; rfl) (by omega) _ _ hP hS  ls (lv_sub hl [0, 1, 2, 3, 4] rfl)
  · skip
    have d2 := c2
    rw [fa_eq] at d2
    refine lv_lload_n hx hb dX0_turnedPicture_5 rfl (lv_at hl 1 rfl) ?_
    refine lv_ldc2 hx hb hown (hts (.constantLong RX0 73 (-1)) (by decide +kernel)) dX0_turnedPicture_6 ?_
    refine lv_lxor hx hb dX0_turnedPicture_9 ?_
    refine lv_topl (fun v9 e9 => ?_)
    refine lv_lconst (v := 1) hx hb dX0_turnedPicture_10 (by decide) ?_
    refine lv_aload_n hx hb dX0_turnedPicture_11 rfl (lv_at hl 0 rfl) ?_
    obtain ⟨_, hM_o, hb_o, l_o, f_o, r_o, rfl, hG_l_o, hG_f_o, hG_r_o⟩ := hT _ _ hG_o
    refine t_get (v := .int (nI (w * h))) (C := RX0) (T := TX0) (N := 8) hx hb hts (by decide +kernel) hown hK hP hM_o rfl 2 (by decide) (hts (.fieldLink RX0 20 "ShadowBench$Board" "squares" "I") (by decide +kernel)) (fun _ h9 => h9) rfl dX0_turnedPicture_12 ?_
    have m_wh_o := cb_mul hb_o
    have i_wh_o : (nI (w * h)).toInt = _ := nI_toInt (by omega)
    refine lv_lshl (v := (1 : Int64) <<< (((nI (w * h))).toInt64 &&& 63)) hx hb dX0_turnedPicture_15 rfl ?_
    refine lv_lconst (v := 1) hx hb dX0_turnedPicture_16 (by decide) ?_
    refine lv_lsub hx hb dX0_turnedPicture_17 ?_
    refine lv_topl (fun v17 e17 => ?_)
    refine lv_land hx hb dX0_turnedPicture_18 ?_
    refine lv_topl (fun v18 e18 => ?_)
    exact W.lret (v := v18) hx hb hr (fun t ht hW => ⟨⟨_, (G, ws), rfl, ⟨rfl, (by have m9 := cb_mul hb9; unfold tQ; rw [if_pos (by omega), ← tN_mask m9.2, e18, e17, e9]; rfl)⟩, by show va_P D vwCl ws t.heap; rw [ht]; exact hP, hD, hT⟩, hS.F ht⟩) hS.2.2 dX0_turnedPicture_19
set_option maxHeartbeats 4000000 in
set_option maxRecDepth 100000 in
theorem c_X9_turned_x (l : Launch) (D : va_G) (cy : Nat → ClassId) (A : Nat → Prop) (G : cG) (ws : va_W) (o : Nat) (wide : Int32) (high : Int32) (p0 : Int64) (how : Int32)  (hD : va_D A ws) (hT : cT cy G ws) (hG_o : G o = some (7, 0, 0))  : Cl l D cy A yX9_turned wsX9_turned ({ frames := 5, cells := 4, slots := 502, locals := 116 }) 4 502 ws [.ref o, .int wide, .int high, .long p0, .int how] (fun r0 u => cX none (chs [1, 8]) G ws u.1 u.2 ∧ (tA wide high p0 how r0)) := by
  refine Met.ofW (cc := cX9_turned) (maxL := 7) (ret := (some .long)) (by decide) rfl ?_
  intro p e s m args below meth c s₁ B hml hv
  obtain ⟨rfl, hP, hK, hA, hV⟩ := hv
  have hx := B.exec
  have hb := B.bytes
  have hr := B.returns
  have hts := atoms_spec (ws := wsX9_turned) B.pre
  have hown : s.vm.findClass RX9 = some m.cls := findClass_of_methodNamed B.named
  have hlocks := B.notSynchronized
  have hS : va_S A s.heap s.heap [] := va_S.rf
  have hX : cX none (chs [1, 8]) G ws G ws := cX.rf
  have hl := lv_entry ([.ref o, .int wide, .int high, .long p0, .int how]) (n := 7) (Nat.le_of_ble_eq_true rfl)
  rw [lg_entry_eq]
  generalize (lg_sl ([.ref o, .int wide, .int high, .long p0, .int how]) ++ List.replicate (7 - (lg_sl ([.ref o, .int wide, .int high, .long p0, .int how])).length) Slot.unset).toArray = ls at hl ⊢
  have hl : lv_has ls 7 [(0, .ref o), (1, .int wide), (2, .int high), (3, .long p0), (5, .int how)] := hl
  have k_0 : (0 : Int32).toInt = 0 := by decide
  have k_3 : (3 : Int32).toInt = 3 := by decide
  have k_m1L : (-1 : Int64).toInt = -1 := by decide
  refine lv_aload_n hx hb dX9_turned_0 rfl (lv_at hl 0 rfl) ?_
  refine lv_iload_n hx hb dX9_turned_1 rfl (lv_at hl 1 rfl) ?_
  refine lv_iload_n hx hb dX9_turned_2 rfl (lv_at hl 2 rfl) ?_
  obtain ⟨_, hM_o, bs_o, js_o, sh_o, wk_o, ll_o, jc_o, lc_o, mo_o, lb_o, rfl, hjc_o, hlc_o, hG_bs_o, hG_js_o, hG_sh_o, hG_wk_o, hmo_o, hG_ll_o, hlb_o⟩ := hT _ _ hG_o
  refine t_calla (va_runV (g := F0 m 3 ls ([.int high, .int wide, .ref o])) (As := [.int wide, .int high]) (rest := []) ⟨hx, hb, hml, hown, hts⟩ (c_X9_boardOf_x l D cy A G ws o wide high hD hT hG_o ) (cwV 2 hts gX9_turned_X9_boardOf rfl rfl rfl (by decide +kernel) ⟨Nat.le_of_ble_eq_true rfl, Nat.le_of_ble_eq_true rfl⟩) (c_preV hM_o rfl hP hK hA hS hV) rfl rfl hl.1 rfl (lv_room (Nat.le_of_ble_eq_true rfl)) dX9_turned_3 ⟨Nat.le_of_ble_eq_true rfl, Nat.le_of_ble_eq_true rfl⟩) hS (fun r3 u H locs q3 hP9 hD9 hT9 hS => ?_)
  obtain ⟨G3, w3⟩ := u
  obtain ⟨hX9, q3⟩ := q3
  have hX9 : cX none (chs [1, 8]) G ws G3 w3 := hX9
  have hP : va_P D vwCl w3 H := hP9
  have hD : va_D A w3 := hD9
  have hT : cT cy G3 w3 := hT9
  have hM_o := hX9.2.1 _ _ (cP.no hG_o rfl) hM_o
  have hG_o := hX9.1 _ _ hG_o
  have hG_bs_o := hX9.1 _ _ hG_bs_o
  have hG_js_o := hX9.1 _ _ hG_js_o
  have hG_sh_o := hX9.1 _ _ hG_sh_o
  have hG_wk_o := hX9.1 _ _ hG_wk_o
  have hG_ll_o := hX9.1 _ _ hG_ll_o
  have hX := hX.tr hX9
  rcases r3 with _ | x3
  · skip
    have vn3 := q3.2.1 rfl
    refine lv_astoreN (lv' := [(6, .null), (0, .ref o), (1, .int wide), (2, .int high), (3, .long p0), (5, .int how)]) hx hb dX9_turned_6 hl (by decide) rfl (fun ls hl => ?_)
    refine lv_aloadN hx hb dX9_turned_8 (lv_at hl 0 rfl) ?_
    refine lv_ifnullN (tgt := 33) hx hb dX9_turned_10 (by decide) ?_
    refine lv_ldc2 hx hb hown (hts (.constantLong RX9 143 (-1)) (by decide +kernel)) dX9_turned_33 ?_
    refine W.widen (k := 4) (n := 502) (Nat.le_of_ble_eq_true rfl) (Nat.le_of_ble_eq_true rfl) ?_
    exact W.lret (v := (-1 : Int64)) hx hb hr (fun t ht hW => ⟨⟨_, (G3, w3), rfl, ⟨hX, (Or.inr ⟨(fun z9 => by first | exact vn3 z9.1.1 | exact b19 z9.1.2 | omega), rfl⟩)⟩, by show va_P D vwCl w3 t.heap; rw [ht]; exact hP, hD, hT⟩, hS.F ht⟩) hS.2.2 dX9_turned_36
  · skip
    have hG_x3 := q3.1 x3 rfl
    have vb3 := q3.2.2 x3 rfl
    refine lv_astore (lv' := [(6, .ref x3), (0, .ref o), (1, .int wide), (2, .int high), (3, .long p0), (5, .int how)]) hx hb dX9_turned_6 hl (by decide) rfl (fun ls hl => ?_)
    refine lv_aload hx hb dX9_turned_8 (lv_at hl 0 rfl) ?_
    refine lv_ifnull hx hb dX9_turned_10 ?_
    refine lv_aload hx hb dX9_turned_13 (lv_at hl 0 rfl) ?_
    refine lv_lload_n hx hb dX9_turned_15 rfl (lv_at hl 4 rfl) ?_
    obtain ⟨_, hM_x3, hb_x3, l_x3, f_x3, r_x3, rfl, hG_l_x3, hG_f_x3, hG_r_x3⟩ := hT _ _ hG_x3
    refine t_calli (va_runV (g := F0 m 16 ls ([.long p0, .ref x3])) (As := [.long p0]) (rest := []) ⟨hx, hb, hml, hown, hts⟩ (c_X0_isPicture_x l D cy A G3 w3 x3 p0 hD hT hG_x3 ) (cwV 1 hts gX9_turned_X0_isPicture rfl rfl rfl (by decide +kernel) ⟨Nat.le_of_ble_eq_true rfl, Nat.le_of_ble_eq_true rfl⟩) (c_preV hM_x3 rfl hP hK hA hS hV) rfl rfl hl.1 rfl (lv_room (Nat.le_of_ble_eq_true rfl)) dX9_turned_16 ⟨Nat.le_of_ble_eq_true rfl, Nat.le_of_ble_eq_true rfl⟩) hS (fun r16 u H locs q16 hP9 hD9 hT9 hS => ?_)
    obtain ⟨rfl, q16⟩ := q16
    have hP : va_P D vwCl w3 H := hP9
    refine lv_if_eq (tgt := 33) hx hb dX9_turned_19 (by decide) (fun c19 => ?_) (fun c19 => ?_)
    · skip
      have b19 := bo_f q16 c19
      refine lv_ldc2 hx hb hown (hts (.constantLong RX9 143 (-1)) (by decide +kernel)) dX9_turned_33 ?_
      refine W.widen (k := 4) (n := 502) (Nat.le_of_ble_eq_true rfl) (Nat.le_of_ble_eq_true rfl) ?_
      exact W.lret (v := (-1 : Int64)) hx hb hr (fun t ht hW => ⟨⟨_, (G3, w3), rfl, ⟨hX, (Or.inr ⟨(fun z9 => by first | exact vn3 z9.1.1 | exact b19 z9.1.2 | omega), rfl⟩)⟩, by show va_P D vwCl w3 t.heap; rw [ht]; exact hP, hD, hT⟩, hS.F ht⟩) hS.2.2 dX9_turned_36
    · skip
      have b19 := bo_t q16 c19
      refine lv_iload hx hb dX9_turned_22 (lv_at hl 5 rfl) ?_
      refine lv_if_lt (tgt := 33) hx hb dX9_turned_24 (by decide) (fun c24 => ?_) (fun c24 => ?_)
      · skip
        have d24 := c24
        rw [fa_lt] at d24
        refine lv_ldc2 hx hb hown (hts (.constantLong RX9 143 (-1)) (by decide +kernel)) dX9_turned_33 ?_
        refine W.widen (k := 4) (n := 502) (Nat.le_of_ble_eq_true rfl) (Nat.le_of_ble_eq_true rfl) ?_
        exact W.lret (v := (-1 : Int64)) hx hb hr (fun t ht hW => ⟨⟨_, (G3, w3), rfl, ⟨hX, (Or.inr ⟨(fun z9 => by first | exact vn3 z9.1.1 | exact b19 z9.1.2 | omega), rfl⟩)⟩, by show va_P D vwCl w3 t.heap; rw [ht]; exact hP, hD, hT⟩, hS.F ht⟩) hS.2.2 dX9_turned_36
      · skip
        have d24 := c24
        rw [fa_lt] at d24
        refine lv_iload hx hb dX9_turned_27 (lv_at hl 5 rfl) ?_
        refine lv_iconst (v := 3) hx hb dX9_turned_29 (by decide) ?_
        refine lv_icmp_le (tgt := 37) hx hb dX9_turned_30 (by decide) (fun c30 => ?_) (fun c30 => ?_)
        · skip
          have d30 := c30
          rw [fa_le] at d30
          refine lv_aload hx hb dX9_turned_37 (lv_at hl 0 rfl) ?_
          refine lv_lload_n hx hb dX9_turned_39 rfl (lv_at hl 4 rfl) ?_
          refine lv_iload hx hb dX9_turned_40 (lv_at hl 5 rfl) ?_
          refine t_calll (va_runV (g := F0 m 42 ls ([.int how, .long p0, .ref x3])) (As := [.long p0, .int how]) (rest := []) ⟨hx, hb, hml, hown, hts⟩ (c_X0_turnedPicture_x l D cy A G3 w3 x3 p0 how hD hT hG_x3 ) (cwV 2 hts gX9_turned_X0_turnedPicture rfl rfl rfl (by decide +kernel) ⟨Nat.le_of_ble_eq_true rfl, Nat.le_of_ble_eq_true rfl⟩) (c_preV hM_x3 rfl hP hK hA hS hV) rfl rfl hl.1 rfl (lv_room (Nat.le_of_ble_eq_true rfl)) dX9_turned_42 ⟨Nat.le_of_ble_eq_true rfl, Nat.le_of_ble_eq_true rfl⟩) hS (fun r42 u H locs q42 hP9 hD9 hT9 hS => ?_)
          obtain ⟨rfl, q42⟩ := q42
          have hP : va_P D vwCl w3 H := hP9
          refine W.widen (k := 4) (n := 502) (Nat.le_of_ble_eq_true rfl) (Nat.le_of_ble_eq_true rfl) ?_
          exact W.lret (v := r42) hx hb hr (fun t ht hW => ⟨⟨_, (G3, w3), rfl, ⟨hX, (Or.inl ⟨⟨vb3, b19⟩, (by omega), q42⟩)⟩, by show va_P D vwCl w3 t.heap; rw [ht]; exact hP, hD, hT⟩, hS.F ht⟩) hS.2.2 dX9_turned_45
        · skip
          have d30 := c30
          rw [fa_le] at d30
          refine lv_ldc2 hx hb hown (hts (.constantLong RX9 143 (-1)) (by decide +kernel)) dX9_turned_33 ?_
          refine W.widen (k := 4) (n := 502) (Nat.le_of_ble_eq_true rfl) (Nat.le_of_ble_eq_true rfl) ?_
          exact W.lret (v := (-1 : Int64)) hx hb hr (fun t ht hW => ⟨⟨_, (G3, w3), rfl, ⟨hX, (Or.inr ⟨(fun z9 => by first | exact vn3 z9.1.1 | exact b19 z9.1.2 | omega), rfl⟩)⟩, by show va_P D vwCl w3 t.heap; rw [ht]; exact hP, hD, hT⟩, hS.F ht⟩) hS.2.2 dX9_turned_36

set_option maxHeartbeats 4000000 in
set_option maxRecDepth 100000 in
theorem c_X10_turned_x (l : Launch) (D : va_G) (cy : Nat → ClassId) (mo : Nat) (a : Nat → Nat) (f : Nat → Int32) (g : Nat → Int64) (r : Nat → Nat → Int32) (q : Nat → Nat → Int64) (w : Int32) (h : Int32) (p0 : Int64) (how : Int32) (hD : DM cy mo a)  : Ml l D cy mo a yX10_turned wsX10_turned ({ frames := 3, cells := 0, slots := 0, locals := 69 }) f g r q [.int w, .int h, .long p0, .int how] (fun r0 u => u = ((upd f 0 (0 : Int32)), g, r, q) ∧ (tA w h p0 how r0)) := by
  refine Met.ofW (cc := cX10_turned) (maxL := 12) (ret := (some .long)) (by decide) rfl ?_
  intro p e s m args below meth c s₁ B hml hv
  obtain ⟨rfl, hP, hK⟩ := hv
  have hx := B.exec
  have hb := B.bytes
  have hr := B.returns
  have hts := atoms_spec (ws := wsX10_turned) B.pre
  have hin : ∀ w ∈ u_ws RX10 TX10 35, w ∈ wsX10_turned := by decide +kernel
  have hown : s.vm.findClass RX10 = some m.cls := findClass_of_methodNamed B.named
  have hlocks := B.notSynchronized
  have hS : va_S (AM mo a) s.heap s.heap [] := va_S.rf
  have hl := lv_entry ([.ref mo, .int w, .int h, .long p0, .int how]) (n := 12) (Nat.le_of_ble_eq_true rfl)
  rw [lg_entry_eq]
  generalize (lg_sl ([.ref mo, .int w, .int h, .long p0, .int how]) ++ List.replicate (12 - (lg_sl ([.ref mo, .int w, .int h, .long p0, .int how])).length) Slot.unset).toArray = ls at hl ⊢
  have hl : lv_has ls 12 [(0, .ref mo), (1, .int w), (2, .int h), (3, .long p0), (5, .int how)] := hl
  have k_0 : (0 : Int32).toInt = 0 := by decide
  have k_1 : (1 : Int32).toInt = 1 := by decide
  have k_2 : (2 : Int32).toInt = 2 := by decide
  have k_3 : (3 : Int32).toInt = 3 := by decide
  have k_m1L : (-1 : Int64).toInt = -1 := by decide
  have k_0L : (0 : Int64).toInt = 0 := by decide
  have k_3L : (3 : Int64).toInt = 3 := by decide
  refine lv_aload_n hx hb dX10_turned_0 rfl (lv_at hl 0 rfl) ?_
  refine lv_iconst (v := 0) hx hb dX10_turned_1 (by decide) ?_
  refine m_put (v := .int (0 : Int32)) (ty := .int) hx hb hts hin hown hK hP hD hS 0 (by decide) rfl (hts (.fieldLink RX10 79 "ShadowBenchModel" "thrown" "I") (by decide +kernel)) rfl (by decide +kernel) rfl rfl (upd f 0 (0 : Int32)) g rfl dX10_turned_2 (fun H locs hP hS => ?_)
  refine lv_iload_n hx hb dX10_turned_5 rfl (lv_at hl 1 rfl) ?_
  refine lv_iload_n hx hb dX10_turned_6 rfl (lv_at hl 2 rfl) ?_
  refine lv_lload_n hx hb dX10_turned_7 rfl (lv_at hl 3 rfl) ?_
  refine m_pu (As := [.int w, .int h, .long p0]) (rest := []) ⟨hx, hb, hml, hown, hts⟩ (c_X10_isPicture l w h p0 ) (va_cwS 3 hts gX10_turned_X10_isPicture rfl rfl rfl (by decide +kernel) ⟨Nat.le_of_ble_eq_true rfl, Nat.le_of_ble_eq_true rfl⟩) hP rfl hl.1 rfl (Nat.le_of_ble_eq_true rfl) dX10_turned_8 ⟨Nat.le_of_ble_eq_true rfl, Nat.le_of_ble_eq_true rfl⟩ hS (fun r8 H locs q8 hP hS => ?_)
  refine lv_if_eq (tgt := 27) hx hb dX10_turned_11 (by decide) (fun c11 => ?_) (fun c11 => ?_)
  · skip
    have b11 := bo_f q8 c11
    refine lv_ldc2 hx hb hown (hts (.constantLong RX10 185 (-1)) (by decide +kernel)) dX10_turned_27 ?_
    exact W.lret (v := (-1 : Int64)) hx hb hr (fun t ht hW => ⟨⟨_, ((upd f 0 (0 : Int32)), g, r, q), rfl, ⟨rfl, (Or.inr ⟨(fun z9 => by first | exact goodP_no b11 z9.1 | exact b24 z9.2), rfl⟩)⟩, by unfold mB; rw [ht]; exact hP⟩, hS.F ht⟩) hS.2.2 dX10_turned_30
  · skip
    have b11 := bo_t q8 c11
    refine lv_iload hx hb dX10_turned_14 (lv_at hl 4 rfl) ?_
    refine lv_i2l (v := how.toInt64) hx hb dX10_turned_16 rfl ?_
    refine lv_lconst (v := 0) hx hb dX10_turned_17 (by decide) ?_
    refine lv_ldc2 hx hb hown (hts (.constantLong RX10 116 (3)) (by decide +kernel)) dX10_turned_18 ?_
    refine m_pu (As := [.long (how.toInt64), .long (0 : Int64), .long (3 : Int64)]) (rest := []) ⟨hx, hb, hml, hown, hts⟩ (c_X10_isIn l how.toInt64 (0 : Int64) (3 : Int64) ) (va_cwS 3 hts gX10_turned_X10_isIn rfl rfl rfl (by decide +kernel) ⟨Nat.le_of_ble_eq_true rfl, Nat.le_of_ble_eq_true rfl⟩) hP rfl hl.1 rfl (Nat.le_of_ble_eq_true rfl) dX10_turned_21 ⟨Nat.le_of_ble_eq_true rfl, Nat.le_of_ble_eq_true rfl⟩ hS (fun r21 H locs q21 hP hS => ?_)
    have q21 := q21
    simp only [k64, show (0 : Int64).toInt = 0 from rfl, show (1 : Int64).toInt = 1 from rfl, show (2 : Int64).toInt = 2 from rfl, show (3 : Int64).toInt = 3 from rfl, show (6 : Int64).toInt = 6 from rfl] at q21
    refine lv_if_ne (tgt := 31) hx hb dX10_turned_24 (by decide) (fun c24 => ?_) (fun c24 => ?_)
    · skip
      have b24 := bo_t q21 c24
      have gp := goodP_of b11
      have y24 := b24
      try simp only [k64, show (0 : Int64).toInt = 0 from rfl, show (3 : Int64).toInt = 3 from rfl] at y24
      obtain ⟨ha, hb9, h36, hwh⟩ := wh36 b11.1.1 b11.1.2
      have ew := cl_nI (w := w) (by omega)
      have eh := cl_nI (w := h) (by omega)
      obtain ⟨A9, hA9⟩ : ∃ z, z = w.toNatClampNeg := ⟨_, rfl⟩
      obtain ⟨B9, hB9⟩ : ∃ z, z = h.toNatClampNeg := ⟨_, rfl⟩
      rw [← hA9] at ha h36 hwh ew
      rw [← hB9] at hb9 h36 hwh eh
      have m37 := mul66 b11.1.1 b11.1.2
      refine lv_lconst (v := 0) hx hb dX10_turned_31 (by decide) ?_
      refine lv_lstore (lv' := [(6, .long (0 : Int64)), (0, .ref mo), (1, .int w), (2, .int h), (3, .long p0), (5, .int how)]) hx hb dX10_turned_32 hl (by decide) rfl (fun ls hl => ?_)
      refine lv_iconst (v := 0) hx hb dX10_turned_34 (by decide) ?_
      refine lv_istore (lv' := [(8, .int (0 : Int32)), (6, .long (0 : Int64)), (0, .ref mo), (1, .int w), (2, .int h), (3, .long p0), (5, .int how)]) hx hb dX10_turned_35 hl (by decide) rfl (fun ls hl => ?_)
      have loop_37 : ∀ (n : Nat) (s1 : Nat) (x6 : Int64), ((s1 : Int) ≤ ((A9 * B9 : Nat) : Int)) → (x6 = tR A9 B9 p0 how.toInt s1) → A9 * B9 - s1 < n → ∀ (H : Heap) (locs : List Loc), va_P D vwCl (WM cy mo a (upd f 0 (0 : Int32)) g r q) H → va_S (AM mo a) s.heap H locs → ∀ (ls : Array Slot), lv_has ls 12 [(8, .int (nI s1)), (6, .long x6), (0, .ref mo), (1, .int w), (2, .int h), (3, .long p0), (5, .int how)] → W p l e (headSpec wsX10_turned ({ frames := 3, cells := 0, slots := 0, locals := 69 })).room s m #[Value.ref mo, Value.int w, Value.int h, Value.long p0, Value.int how] below meth c H locs 0 0 (MQ below (va_Ql (fun r0 u => u = ((upd f 0 (0 : Int32)), g, r, q) ∧ (tA w h p0 how r0)) (mB D cy mo a) (AM mo a)) #[Value.ref mo, Value.int w, Value.int h, Value.long p0, Value.int how] s 0 0 (AM mo a)) (F0 m 37 ls []) := by
        intro n
        induction n with
        | zero => intro s1 x6  j37_0 j37_1 hn; exact absurd hn (Nat.not_lt_zero _)
        | succ n ih_37 =>
          intro s1 x6  j37_0 j37_1 hn_37 H locs hP hS ls hl
          have is1 : (nI s1).toInt = (s1 : Int) := nI_toInt (by omega)
          refine lv_iload hx hb dX10_turned_37 (lv_at hl 0 rfl) ?_
          refine lv_iload_n hx hb dX10_turned_39 rfl (lv_at hl 3 rfl) ?_
          refine lv_iload_n hx hb dX10_turned_40 rfl (lv_at hl 4 rfl) ?_
          refine lv_imul hx hb dX10_turned_41 ?_
          refine lv_topi (fun v41 e41 => ?_)
          have i41 : v41.toInt = w.toInt * h.toInt := by rw [e41]; exact fb_mulI (by omega) (by omega)
          refine lv_icmp_ge (tgt := 154) hx hb dX10_turned_42 (by decide) (fun c42 => ?_) (fun c42 => ?_)
          · skip
            have d42 := c42
            rw [fa_le] at d42
            obtain rfl : s1 = A9 * B9 := by omega
            refine lv_lload hx hb dX10_turned_154 (lv_at hl 1 rfl) ?_
            exact W.lret (v := x6) hx hb hr (fun t ht hW => ⟨⟨_, ((upd f 0 (0 : Int32)), g, r, q), rfl, ⟨rfl, (Or.inl ⟨gp, y24, (by rw [← hA9, ← hB9]; exact j37_1)⟩)⟩, by unfold mB; rw [ht]; exact hP⟩, hS.F ht⟩) hS.2.2 dX10_turned_156
          · skip
            have d42 := c42
            rw [fa_le] at d42
            have hs1 : s1 < A9 * B9 := by omega
            have hdv : s1 / A9 < B9 := Nat.div_lt_of_lt_mul hs1
            refine lv_iload hx hb dX10_turned_45 (lv_at hl 0 rfl) ?_
            refine lv_iload_n hx hb dX10_turned_47 rfl (lv_at hl 3 rfl) ?_
            refine lv_irem hx hb dX10_turned_48 (fun z => by rw [fa_eq] at z; omega) ?_
            refine lv_topi (fun v48 e48 => ?_)
            have i48 : v48.toInt = (nI s1).toInt % w.toInt := by rw [e48]; exact my_irem (by omega) (by omega)
            have j48 : 0 ≤ v48.toInt ∧ v48.toInt < w.toInt ∧ v48.toInt ≤ (nI s1).toInt := by rw [e48]; exact my_remb (by omega) (by omega)
            refine lv_istore (lv' := [(9, .int v48), (8, .int (nI s1)), (6, .long x6), (0, .ref mo), (1, .int w), (2, .int h), (3, .long p0), (5, .int how)]) hx hb dX10_turned_49 hl (by decide) rfl (fun ls hl => ?_)
            refine lv_iload hx hb dX10_turned_51 (lv_at hl 1 rfl) ?_
            refine lv_iload_n hx hb dX10_turned_53 rfl (lv_at hl 4 rfl) ?_
            refine lv_idiv hx hb dX10_turned_54 (fun z => by rw [fa_eq] at z; omega) ?_
            refine lv_topi (fun v54 e54 => ?_)
            have i54 : v54.toInt = (nI s1).toInt / w.toInt := by rw [e54]; exact my_idiv (by omega) (by omega)
            have j54 : 0 ≤ v54.toInt ∧ v54.toInt ≤ (nI s1).toInt := by rw [e54]; exact my_divb (by omega) (by omega)
            refine lv_istore (lv' := [(10, .int v54), (9, .int v48), (8, .int (nI s1)), (6, .long x6), (0, .ref mo), (1, .int w), (2, .int h), (3, .long p0), (5, .int how)]) hx hb dX10_turned_55 hl (by decide) rfl (fun ls hl => ?_)
            have f48 : v48 = nI (s1 % A9) := by rw [e48, ← ew]; exact pk_rem (by omega) (by omega) (by omega)
            have f54 : v54 = nI (s1 / A9) := by rw [e54, ← ew]; exact pk_div (by omega) (by omega) (by omega)
            refine lv_iload hx hb dX10_turned_57 (lv_at hl 8 rfl) ?_
            refine lv_if_ne (tgt := 76) hx hb dX10_turned_59 (by decide) (fun c59 => ?_) (fun c59 => ?_)
            · skip
              have d59 := c59
              rw [fa_eq] at d59
              refine lv_iload hx hb dX10_turned_76 (lv_at hl 8 rfl) ?_
              refine lv_iconst (v := 1) hx hb dX10_turned_78 (by decide) ?_
              refine lv_icmp_ne (tgt := 96) hx hb dX10_turned_79 (by decide) (fun c79 => ?_) (fun c79 => ?_)
              · skip
                have d79 := c79
                rw [fa_eq] at d79
                refine lv_iload hx hb dX10_turned_96 (lv_at hl 8 rfl) ?_
                refine lv_iconst (v := 2) hx hb dX10_turned_98 (by decide) ?_
                refine lv_icmp_ne (tgt := 112) hx hb dX10_turned_99 (by decide) (fun c99 => ?_) (fun c99 => ?_)
                · skip
                  have d99 := c99
                  rw [fa_eq] at d99
                  refine lv_iload hx hb dX10_turned_112 (lv_at hl 2 rfl) ?_
                  refine lv_istore (lv' := [(11, .int (nI s1)), (10, .int v54), (9, .int v48), (8, .int (nI s1)), (6, .long x6), (0, .ref mo), (1, .int w), (2, .int h), (3, .long p0), (5, .int how)]) hx hb dX10_turned_114 hl (by decide) rfl (fun ls hl => ?_)
                  refine lv_lload hx hb dX10_turned_116 (lv_at hl 4 rfl) ?_
                  refine lv_iload hx hb dX10_turned_118 (lv_at hl 9 rfl) ?_
                  refine lv_iconst (v := 3) hx hb dX10_turned_120 (by decide) ?_
                  refine lv_icmp_ne (tgt := 135) hx hb dX10_turned_121 (by decide) (fun c121 => ?_) (fun c121 => ?_)
                  · skip
                    have d121 := c121
                    rw [fa_eq] at d121
                    refine lv_lload_n hx hb dX10_turned_135 rfl (lv_at hl 8 rfl) ?_
                    refine lv_iload hx hb dX10_turned_136 (lv_at hl 3 rfl) ?_
                    refine m_pu (As := [.long p0, .int (nI s1)]) (rest := [.long x6]) ⟨hx, hb, hml, hown, hts⟩ (c_X10_one l p0 (nI s1) ) (va_cwS 2 hts gX10_turned_X10_one rfl rfl rfl (by decide +kernel) ⟨Nat.le_of_ble_eq_true rfl, Nat.le_of_ble_eq_true rfl⟩) hP rfl hl.1 rfl (Nat.le_of_ble_eq_true rfl) dX10_turned_138 ⟨Nat.le_of_ble_eq_true rfl, Nat.le_of_ble_eq_true rfl⟩ hS (fun r138 H locs q138 hP hS => ?_)
                    have i138 : r138.toInt = (r_one p0 (nI s1)).toInt := congrArg Int32.toInt q138
                    refine lv_i2l (v := r138.toInt64) hx hb dX10_turned_141 rfl ?_
                    refine lv_iload hx hb dX10_turned_142 (lv_at hl 0 rfl) ?_
                    refine lv_lshl (v := r138.toInt64 <<< ((nI s1).toInt64 &&& 63)) hx hb dX10_turned_144 rfl ?_
                    refine lv_lor hx hb dX10_turned_145 ?_
                    refine lv_topl (fun v145 e145 => ?_)
                    have hnx : v145 = tR A9 B9 p0 how.toInt (s1 + 1) := by
                      first
                      | exact tR_s (by omega) (by omega) rfl q138 j37_1 (by rw [e145, f72])
                      | exact tR_s (by omega) (by omega) rfl q138 j37_1 (by rw [e145, f92])
                      | exact tR_s (by omega) (by omega) rfl q138 j37_1 (by rw [e145, f108])
                      | exact tR_3 (by omega) (by omega) rfl q128 e131 j37_1 e145
                      | (exfalso; omega)
                    refine lv_lstore (lv' := [(6, .long v145), (11, .int (nI s1)), (10, .int v54), (9, .int v48), (8, .int (nI s1)), (0, .ref mo), (1, .int w), (2, .int h), (3, .long p0), (5, .int how)]) hx hb dX10_turned_146 hl (by decide) rfl (fun ls hl => ?_)
                    refine lv_iinc (v := (nI (s1 + 1))) (lv' := [(8, .int (nI (s1 + 1))), (6, .long v145), (11, .int (nI s1)), (10, .int v54), (9, .int v48), (0, .ref mo), (1, .int w), (2, .int h), (3, .long p0), (5, .int how)]) hx hb dX10_turned_148 hl (k := 4) rfl (nI_1 _) (by decide) rfl (fun ls hl => ?_)
                    refine lv_goto (tgt := 37) hx hb dX10_turned_151 (by decide) ?_
                    exact ih_37 (s1 + 1) v145 (by omega) (hnx) (by omega) _ _ hP hS ls (lv_sub hl [0, 1, 5, 6, 7, 8, 9] rfl)
                  · skip
                    have d121 := c121
                    rw [fa_eq] at d121
                    refine lv_iconst (v := 1) hx hb dX10_turned_124 (by decide) ?_
                    refine lv_lload_n hx hb dX10_turned_125 rfl (lv_at hl 8 rfl) ?_
                    refine lv_iload hx hb dX10_turned_126 (lv_at hl 3 rfl) ?_
                    refine m_pu (As := [.long p0, .int (nI s1)]) (rest := [.int (1 : Int32), .long x6]) ⟨hx, hb, hml, hown, hts⟩ (c_X10_one l p0 (nI s1) ) (va_cwS 2 hts gX10_turned_X10_one rfl rfl rfl (by decide +kernel) ⟨Nat.le_of_ble_eq_true rfl, Nat.le_of_ble_eq_true rfl⟩) hP rfl hl.1 rfl (Nat.le_of_ble_eq_true rfl) dX10_turned_128 ⟨Nat.le_of_ble_eq_true rfl, Nat.le_of_ble_eq_true rfl⟩ hS (fun r128 H locs q128 hP hS => ?_)
                    have i128 : r128.toInt = (r_one p0 (nI s1)).toInt := congrArg Int32.toInt q128
                    refine lv_isub hx hb dX10_turned_131 ?_
                    refine lv_topi (fun v131 e131 => ?_)
                    refine lv_goto (tgt := 141) hx hb dX10_turned_132 (by decide) ?_
                    refine lv_i2l (v := v131.toInt64) hx hb dX10_turned_141 rfl ?_
                    refine lv_iload hx hb dX10_turned_142 (lv_at hl 0 rfl) ?_
                    refine lv_lshl (v := v131.toInt64 <<< ((nI s1).toInt64 &&& 63)) hx hb dX10_turned_144 rfl ?_
                    refine lv_lor hx hb dX10_turned_145 ?_
                    refine lv_topl (fun v145 e145 => ?_)
                    have hnx : v145 = tR A9 B9 p0 how.toInt (s1 + 1) := by
                      first
                      | exact tR_s (by omega) (by omega) rfl q138 j37_1 (by rw [e145, f72])
                      | exact tR_s (by omega) (by omega) rfl q138 j37_1 (by rw [e145, f92])
                      | exact tR_s (by omega) (by omega) rfl q138 j37_1 (by rw [e145, f108])
                      | exact tR_3 (by omega) (by omega) rfl q128 e131 j37_1 e145
                      | (exfalso; omega)
                    refine lv_lstore (lv' := [(6, .long v145), (11, .int (nI s1)), (10, .int v54), (9, .int v48), (8, .int (nI s1)), (0, .ref mo), (1, .int w), (2, .int h), (3, .long p0), (5, .int how)]) hx hb dX10_turned_146 hl (by decide) rfl (fun ls hl => ?_)
                    refine lv_iinc (v := (nI (s1 + 1))) (lv' := [(8, .int (nI (s1 + 1))), (6, .long v145), (11, .int (nI s1)), (10, .int v54), (9, .int v48), (0, .ref mo), (1, .int w), (2, .int h), (3, .long p0), (5, .int how)]) hx hb dX10_turned_148 hl (k := 4) rfl (nI_1 _) (by decide) rfl (fun ls hl => ?_)
                    refine lv_goto (tgt := 37) hx hb dX10_turned_151 (by decide) ?_
                    exact ih_37 (s1 + 1) v145 (by omega) (hnx) (by omega) _ _ hP hS ls (lv_sub hl [0, 1, 5, 6, 7, 8, 9] rfl)
                · skip
                  have d99 := c99
                  rw [fa_eq] at d99
                  refine lv_iload hx hb dX10_turned_102 (lv_at hl 1 rfl) ?_
                  refine lv_iload_n hx hb dX10_turned_104 rfl (lv_at hl 6 rfl) ?_
                  refine lv_imul hx hb dX10_turned_105 ?_
                  refine lv_topi (fun v105 e105 => ?_)
                  refine lv_iload hx hb dX10_turned_106 (lv_at hl 0 rfl) ?_
                  refine lv_iadd hx hb dX10_turned_108 ?_
                  refine lv_topi (fun v108 e108 => ?_)
                  have f108 : v108 = nI (tP A9 B9 how.toInt (s1 % A9) (s1 / A9)) := by unfold tP; rw [if_neg (by omega), if_neg (by omega)]; exact t_p2 eh.symm f48 f54 e105 e108
                  refine lv_goto (tgt := 114) hx hb dX10_turned_109 (by decide) ?_
                  refine lv_istore (lv' := [(11, .int v108), (10, .int v54), (9, .int v48), (8, .int (nI s1)), (6, .long x6), (0, .ref mo), (1, .int w), (2, .int h), (3, .long p0), (5, .int how)]) hx hb dX10_turned_114 hl (by decide) rfl (fun ls hl => ?_)
                  refine lv_lload hx hb dX10_turned_116 (lv_at hl 4 rfl) ?_
                  refine lv_iload hx hb dX10_turned_118 (lv_at hl 9 rfl) ?_
                  refine lv_iconst (v := 3) hx hb dX10_turned_120 (by decide) ?_
                  refine lv_icmp_ne (tgt := 135) hx hb dX10_turned_121 (by decide) (fun c121 => ?_) (fun c121 => ?_)
                  · skip
                    have d121 := c121
                    rw [fa_eq] at d121
                    refine lv_lload_n hx hb dX10_turned_135 rfl (lv_at hl 8 rfl) ?_
                    refine lv_iload hx hb dX10_turned_136 (lv_at hl 3 rfl) ?_
                    refine m_pu (As := [.long p0, .int (nI s1)]) (rest := [.long x6]) ⟨hx, hb, hml, hown, hts⟩ (c_X10_one l p0 (nI s1) ) (va_cwS 2 hts gX10_turned_X10_one rfl rfl rfl (by decide +kernel) ⟨Nat.le_of_ble_eq_true rfl, Nat.le_of_ble_eq_true rfl⟩) hP rfl hl.1 rfl (Nat.le_of_ble_eq_true rfl) dX10_turned_138 ⟨Nat.le_of_ble_eq_true rfl, Nat.le_of_ble_eq_true rfl⟩ hS (fun r138 H locs q138 hP hS => ?_)
                    have i138 : r138.toInt = (r_one p0 (nI s1)).toInt := congrArg Int32.toInt q138
                    refine lv_i2l (v := r138.toInt64) hx hb dX10_turned_141 rfl ?_
                    refine lv_iload hx hb dX10_turned_142 (lv_at hl 0 rfl) ?_
                    refine lv_lshl (v := r138.toInt64 <<< (v108.toInt64 &&& 63)) hx hb dX10_turned_144 rfl ?_
                    refine lv_lor hx hb dX10_turned_145 ?_
                    refine lv_topl (fun v145 e145 => ?_)
                    have hnx : v145 = tR A9 B9 p0 how.toInt (s1 + 1) := by
                      first
                      | exact tR_s (by omega) (by omega) rfl q138 j37_1 (by rw [e145, f72])
                      | exact tR_s (by omega) (by omega) rfl q138 j37_1 (by rw [e145, f92])
                      | exact tR_s (by omega) (by omega) rfl q138 j37_1 (by rw [e145, f108])
                      | exact tR_3 (by omega) (by omega) rfl q128 e131 j37_1 e145
                      | (exfalso; omega)
                    refine lv_lstore (lv' := [(6, .long v145), (11, .int v108), (10, .int v54), (9, .int v48), (8, .int (nI s1)), (0, .ref mo), (1, .int w), (2, .int h), (3, .long p0), (5, .int how)]) hx hb dX10_turned_146 hl (by decide) rfl (fun ls hl => ?_)
                    refine lv_iinc (v := (nI (s1 + 1))) (lv' := [(8, .int (nI (s1 + 1))), (6, .long v145), (11, .int v108), (10, .int v54), (9, .int v48), (0, .ref mo), (1, .int w), (2, .int h), (3, .long p0), (5, .int how)]) hx hb dX10_turned_148 hl (k := 4) rfl (nI_1 _) (by decide) rfl (fun ls hl => ?_)
                    refine lv_goto (tgt := 37) hx hb dX10_turned_151 (by decide) ?_
                    exact ih_37 (s1 + 1) v145 (by omega) (hnx) (by omega) _ _ hP hS ls (lv_sub hl [0, 1, 5, 6, 7, 8, 9] rfl)
                  · skip
                    have d121 := c121
                    rw [fa_eq] at d121
                    refine lv_iconst (v := 1) hx hb dX10_turned_124 (by decide) ?_
                    refine lv_lload_n hx hb dX10_turned_125 rfl (lv_at hl 8 rfl) ?_
                    refine lv_iload hx hb dX10_turned_126 (lv_at hl 3 rfl) ?_
                    refine m_pu (As := [.long p0, .int (nI s1)]) (rest := [.int (1 : Int32), .long x6]) ⟨hx, hb, hml, hown, hts⟩ (c_X10_one l p0 (nI s1) ) (va_cwS 2 hts gX10_turned_X10_one rfl rfl rfl (by decide +kernel) ⟨Nat.le_of_ble_eq_true rfl, Nat.le_of_ble_eq_true rfl⟩) hP rfl hl.1 rfl (Nat.le_of_ble_eq_true rfl) dX10_turned_128 ⟨Nat.le_of_ble_eq_true rfl, Nat.le_of_ble_eq_true rfl⟩ hS (fun r128 H locs q128 hP hS => ?_)
                    have i128 : r128.toInt = (r_one p0 (nI s1)).toInt := congrArg Int32.toInt q128
                    refine lv_isub hx hb dX10_turned_131 ?_
                    refine lv_topi (fun v131 e131 => ?_)
                    refine lv_goto (tgt := 141) hx hb dX10_turned_132 (by decide) ?_
                    refine lv_i2l (v := v131.toInt64) hx hb dX10_turned_141 rfl ?_
                    refine lv_iload hx hb dX10_turned_142 (lv_at hl 0 rfl) ?_
                    refine lv_lshl (v := v131.toInt64 <<< (v108.toInt64 &&& 63)) hx hb dX10_turned_144 rfl ?_
                    refine lv_lor hx hb dX10_turned_145 ?_
                    refine lv_topl (fun v145 e145 => ?_)
                    have hnx : v145 = tR A9 B9 p0 how.toInt (s1 + 1) := by
                      first
                      | exact tR_s (by omega) (by omega) rfl q138 j37_1 (by rw [e145, f72])
                      | exact tR_s (by omega) (by omega) rfl q138 j37_1 (by rw [e145, f92])
                      | exact tR_s (by omega) (by omega) rfl q138 j37_1 (by rw [e145, f108])
                      | exact tR_3 (by omega) (by omega) rfl q128 e131 j37_1 e145
                      | (exfalso; omega)
                    refine lv_lstore (lv' := [(6, .long v145), (11, .int v108), (10, .int v54), (9, .int v48), (8, .int (nI s1)), (0, .ref mo), (1, .int w), (2, .int h), (3, .long p0), (5, .int how)]) hx hb dX10_turned_146 hl (by decide) rfl (fun ls hl => ?_)
                    refine lv_iinc (v := (nI (s1 + 1))) (lv' := [(8, .int (nI (s1 + 1))), (6, .long v145), (11, .int v108), (10, .int v54), (9, .int v48), (0, .ref mo), (1, .int w), (2, .int h), (3, .long p0), (5, .int how)]) hx hb dX10_turned_148 hl (k := 4) rfl (nI_1 _) (by decide) rfl (fun ls hl => ?_)
                    refine lv_goto (tgt := 37) hx hb dX10_turned_151 (by decide) ?_
                    exact ih_37 (s1 + 1) v145 (by omega) (hnx) (by omega) _ _ hP hS ls (lv_sub hl [0, 1, 5, 6, 7, 8, 9] rfl)
              · skip
                have d79 := c79
                rw [fa_eq] at d79
                refine lv_iload_n hx hb dX10_turned_82 rfl (lv_at hl 6 rfl) ?_
                refine lv_iconst (v := 1) hx hb dX10_turned_83 (by decide) ?_
                refine lv_isub hx hb dX10_turned_84 ?_
                refine lv_topi (fun v84 e84 => ?_)
                refine lv_iload hx hb dX10_turned_85 (lv_at hl 0 rfl) ?_
                refine lv_isub hx hb dX10_turned_87 ?_
                refine lv_topi (fun v87 e87 => ?_)
                refine lv_iload_n hx hb dX10_turned_88 rfl (lv_at hl 5 rfl) ?_
                refine lv_imul hx hb dX10_turned_89 ?_
                refine lv_topi (fun v89 e89 => ?_)
                refine lv_iload hx hb dX10_turned_90 (lv_at hl 1 rfl) ?_
                refine lv_iadd hx hb dX10_turned_92 ?_
                refine lv_topi (fun v92 e92 => ?_)
                have f92 : v92 = nI (tP A9 B9 how.toInt (s1 % A9) (s1 / A9)) := by unfold tP; rw [if_neg (by omega), if_pos (by omega)]; exact t_p1 ew.symm eh.symm (by omega) f48 f54 hdv e84 e87 e89 e92
                refine lv_goto (tgt := 114) hx hb dX10_turned_93 (by decide) ?_
                refine lv_istore (lv' := [(11, .int v92), (10, .int v54), (9, .int v48), (8, .int (nI s1)), (6, .long x6), (0, .ref mo), (1, .int w), (2, .int h), (3, .long p0), (5, .int how)]) hx hb dX10_turned_114 hl (by decide) rfl (fun ls hl => ?_)
                refine lv_lload hx hb dX10_turned_116 (lv_at hl 4 rfl) ?_
                refine lv_iload hx hb dX10_turned_118 (lv_at hl 9 rfl) ?_
                refine lv_iconst (v := 3) hx hb dX10_turned_120 (by decide) ?_
                refine lv_icmp_ne (tgt := 135) hx hb dX10_turned_121 (by decide) (fun c121 => ?_) (fun c121 => ?_)
                · skip
                  have d121 := c121
                  rw [fa_eq] at d121
                  refine lv_lload_n hx hb dX10_turned_135 rfl (lv_at hl 8 rfl) ?_
                  refine lv_iload hx hb dX10_turned_136 (lv_at hl 3 rfl) ?_
                  refine m_pu (As := [.long p0, .int (nI s1)]) (rest := [.long x6]) ⟨hx, hb, hml, hown, hts⟩ (c_X10_one l p0 (nI s1) ) (va_cwS 2 hts gX10_turned_X10_one rfl rfl rfl (by decide +kernel) ⟨Nat.le_of_ble_eq_true rfl, Nat.le_of_ble_eq_true rfl⟩) hP rfl hl.1 rfl (Nat.le_of_ble_eq_true rfl) dX10_turned_138 ⟨Nat.le_of_ble_eq_true rfl, Nat.le_of_ble_eq_true rfl⟩ hS (fun r138 H locs q138 hP hS => ?_)
                  have i138 : r138.toInt = (r_one p0 (nI s1)).toInt := congrArg Int32.toInt q138
                  refine lv_i2l (v := r138.toInt64) hx hb dX10_turned_141 rfl ?_
                  refine lv_iload hx hb dX10_turned_142 (lv_at hl 0 rfl) ?_
                  refine lv_lshl (v := r138.toInt64 <<< (v92.toInt64 &&& 63)) hx hb dX10_turned_144 rfl ?_
                  refine lv_lor hx hb dX10_turned_145 ?_
                  refine lv_topl (fun v145 e145 => ?_)
                  have hnx : v145 = tR A9 B9 p0 how.toInt (s1 + 1) := by
                    first
                    | exact tR_s (by omega) (by omega) rfl q138 j37_1 (by rw [e145, f72])
                    | exact tR_s (by omega) (by omega) rfl q138 j37_1 (by rw [e145, f92])
                    | exact tR_s (by omega) (by omega) rfl q138 j37_1 (by rw [e145, f108])
                    | exact tR_3 (by omega) (by omega) rfl q128 e131 j37_1 e145
                    | (exfalso; omega)
                  refine lv_lstore (lv' := [(6, .long v145), (11, .int v92), (10, .int v54), (9, .int v48), (8, .int (nI s1)), (0, .ref mo), (1, .int w), (2, .int h), (3, .long p0), (5, .int how)]) hx hb dX10_turned_146 hl (by decide) rfl (fun ls hl => ?_)
                  refine lv_iinc (v := (nI (s1 + 1))) (lv' := [(8, .int (nI (s1 + 1))), (6, .long v145), (11, .int v92), (10, .int v54), (9, .int v48), (0, .ref mo), (1, .int w), (2, .int h), (3, .long p0), (5, .int how)]) hx hb dX10_turned_148 hl (k := 4) rfl (nI_1 _) (by decide) rfl (fun ls hl => ?_)
                  refine lv_goto (tgt := 37) hx hb dX10_turned_151 (by decide) ?_
                  exact ih_37 (s1 + 1) v145 (by omega) (hnx) (by omega) _ _ hP hS ls (lv_sub hl [0, 1, 5, 6, 7, 8, 9] rfl)
                · skip
                  have d121 := c121
                  rw [fa_eq] at d121
                  refine lv_iconst (v := 1) hx hb dX10_turned_124 (by decide) ?_
                  refine lv_lload_n hx hb dX10_turned_125 rfl (lv_at hl 8 rfl) ?_
                  refine lv_iload hx hb dX10_turned_126 (lv_at hl 3 rfl) ?_
                  refine m_pu (As := [.long p0, .int (nI s1)]) (rest := [.int (1 : Int32), .long x6]) ⟨hx, hb, hml, hown, hts⟩ (c_X10_one l p0 (nI s1) ) (va_cwS 2 hts gX10_turned_X10_one rfl rfl rfl (by decide +kernel) ⟨Nat.le_of_ble_eq_true rfl, Nat.le_of_ble_eq_true rfl⟩) hP rfl hl.1 rfl (Nat.le_of_ble_eq_true rfl) dX10_turned_128 ⟨Nat.le_of_ble_eq_true rfl, Nat.le_of_ble_eq_true rfl⟩ hS (fun r128 H locs q128 hP hS => ?_)
                  have i128 : r128.toInt = (r_one p0 (nI s1)).toInt := congrArg Int32.toInt q128
                  refine lv_isub hx hb dX10_turned_131 ?_
                  refine lv_topi (fun v131 e131 => ?_)
                  refine lv_goto (tgt := 141) hx hb dX10_turned_132 (by decide) ?_
                  refine lv_i2l (v := v131.toInt64) hx hb dX10_turned_141 rfl ?_
                  refine lv_iload hx hb dX10_turned_142 (lv_at hl 0 rfl) ?_
                  refine lv_lshl (v := v131.toInt64 <<< (v92.toInt64 &&& 63)) hx hb dX10_turned_144 rfl ?_
                  refine lv_lor hx hb dX10_turned_145 ?_
                  refine lv_topl (fun v145 e145 => ?_)
                  have hnx : v145 = tR A9 B9 p0 how.toInt (s1 + 1) := by
                    first
                    | exact tR_s (by omega) (by omega) rfl q138 j37_1 (by rw [e145, f72])
                    | exact tR_s (by omega) (by omega) rfl q138 j37_1 (by rw [e145, f92])
                    | exact tR_s (by omega) (by omega) rfl q138 j37_1 (by rw [e145, f108])
                    | exact tR_3 (by omega) (by omega) rfl q128 e131 j37_1 e145
                    | (exfalso; omega)
                  refine lv_lstore (lv' := [(6, .long v145), (11, .int v92), (10, .int v54), (9, .int v48), (8, .int (nI s1)), (0, .ref mo), (1, .int w), (2, .int h), (3, .long p0), (5, .int how)]) hx hb dX10_turned_146 hl (by decide) rfl (fun ls hl => ?_)
                  refine lv_iinc (v := (nI (s1 + 1))) (lv' := [(8, .int (nI (s1 + 1))), (6, .long v145), (11, .int v92), (10, .int v54), (9, .int v48), (0, .ref mo), (1, .int w), (2, .int h), (3, .long p0), (5, .int how)]) hx hb dX10_turned_148 hl (k := 4) rfl (nI_1 _) (by decide) rfl (fun ls hl => ?_)
                  refine lv_goto (tgt := 37) hx hb dX10_turned_151 (by decide) ?_
                  exact ih_37 (s1 + 1) v145 (by omega) (hnx) (by omega) _ _ hP hS ls (lv_sub hl [0, 1, 5, 6, 7, 8, 9] rfl)
            · skip
              have d59 := c59
              rw [fa_eq] at d59
              refine lv_iload hx hb dX10_turned_62 (lv_at hl 1 rfl) ?_
              refine lv_iload_n hx hb dX10_turned_64 rfl (lv_at hl 6 rfl) ?_
              refine lv_imul hx hb dX10_turned_65 ?_
              refine lv_topi (fun v65 e65 => ?_)
              refine lv_iload_n hx hb dX10_turned_66 rfl (lv_at hl 6 rfl) ?_
              refine lv_iadd hx hb dX10_turned_67 ?_
              refine lv_topi (fun v67 e67 => ?_)
              refine lv_iconst (v := 1) hx hb dX10_turned_68 (by decide) ?_
              refine lv_isub hx hb dX10_turned_69 ?_
              refine lv_topi (fun v69 e69 => ?_)
              refine lv_iload hx hb dX10_turned_70 (lv_at hl 0 rfl) ?_
              refine lv_isub hx hb dX10_turned_72 ?_
              refine lv_topi (fun v72 e72 => ?_)
              have f72 : v72 = nI (tP A9 B9 how.toInt (s1 % A9) (s1 / A9)) := by unfold tP; rw [if_pos (by omega)]; exact t_p0 ew.symm eh.symm (by omega) f48 f54 hdv e65 e67 e69 e72
              refine lv_goto (tgt := 114) hx hb dX10_turned_73 (by decide) ?_
              refine lv_istore (lv' := [(11, .int v72), (10, .int v54), (9, .int v48), (8, .int (nI s1)), (6, .long x6), (0, .ref mo), (1, .int w), (2, .int h), (3, .long p0), (5, .int how)]) hx hb dX10_turned_114 hl (by decide) rfl (fun ls hl => ?_)
              refine lv_lload hx hb dX10_turned_116 (lv_at hl 4 rfl) ?_
              refine lv_iload hx hb dX10_turned_118 (lv_at hl 9 rfl) ?_
              refine lv_iconst (v := 3) hx hb dX10_turned_120 (by decide) ?_
              refine lv_icmp_ne (tgt := 135) hx hb dX10_turned_121 (by decide) (fun c121 => ?_) (fun c121 => ?_)
              · skip
                have d121 := c121
                rw [fa_eq] at d121
                refine lv_lload_n hx hb dX10_turned_135 rfl (lv_at hl 8 rfl) ?_
                refine lv_iload hx hb dX10_turned_136 (lv_at hl 3 rfl) ?_
                refine m_pu (As := [.long p0, .int (nI s1)]) (rest := [.long x6]) ⟨hx, hb, hml, hown, hts⟩ (c_X10_one l p0 (nI s1) ) (va_cwS 2 hts gX10_turned_X10_one rfl rfl rfl (by decide +kernel) ⟨Nat.le_of_ble_eq_true rfl, Nat.le_of_ble_eq_true rfl⟩) hP rfl hl.1 rfl (Nat.le_of_ble_eq_true rfl) dX10_turned_138 ⟨Nat.le_of_ble_eq_true rfl, Nat.le_of_ble_eq_true rfl⟩ hS (fun r138 H locs q138 hP hS => ?_)
                have i138 : r138.toInt = (r_one p0 (nI s1)).toInt := congrArg Int32.toInt q138
                refine lv_i2l (v := r138.toInt64) hx hb dX10_turned_141 rfl ?_
                refine lv_iload hx hb dX10_turned_142 (lv_at hl 0 rfl) ?_
                refine lv_lshl (v := r138.toInt64 <<< (v72.toInt64 &&& 63)) hx hb dX10_turned_144 rfl ?_
                refine lv_lor hx hb dX10_turned_145 ?_
                refine lv_topl (fun v145 e145 => ?_)
                have hnx : v145 = tR A9 B9 p0 how.toInt (s1 + 1) := by
                  first
                  | exact tR_s (by omega) (by omega) rfl q138 j37_1 (by rw [e145, f72])
                  | exact tR_s (by omega) (by omega) rfl q138 j37_1 (by rw [e145, f92])
                  | exact tR_s (by omega) (by omega) rfl q138 j37_1 (by rw [e145, f108])
                  | exact tR_3 (by omega) (by omega) rfl q128 e131 j37_1 e145
                  | (exfalso; omega)
                refine lv_lstore (lv' := [(6, .long v145), (11, .int v72), (10, .int v54), (9, .int v48), (8, .int (nI s1)), (0, .ref mo), (1, .int w), (2, .int h), (3, .long p0), (5, .int how)]) hx hb dX10_turned_146 hl (by decide) rfl (fun ls hl => ?_)
                refine lv_iinc (v := (nI (s1 + 1))) (lv' := [(8, .int (nI (s1 + 1))), (6, .long v145), (11, .int v72), (10, .int v54), (9, .int v48), (0, .ref mo), (1, .int w), (2, .int h), (3, .long p0), (5, .int how)]) hx hb dX10_turned_148 hl (k := 4) rfl (nI_1 _) (by decide) rfl (fun ls hl => ?_)
                refine lv_goto (tgt := 37) hx hb dX10_turned_151 (by decide) ?_
                exact ih_37 (s1 + 1) v145 (by omega) (hnx) (by omega) _ _ hP hS ls (lv_sub hl [0, 1, 5, 6, 7, 8, 9] rfl)
              · skip
                have d121 := c121
                rw [fa_eq] at d121
                refine lv_iconst (v := 1) hx hb dX10_turned_124 (by decide) ?_
                refine lv_lload_n hx hb dX10_turned_125 rfl (lv_at hl 8 rfl) ?_
                refine lv_iload hx hb dX10_turned_126 (lv_at hl 3 rfl) ?_
                refine m_pu (As := [.long p0, .int (nI s1)]) (rest := [.int (1 : Int32), .long x6]) ⟨hx, hb, hml, hown, hts⟩ (c_X10_one l p0 (nI s1) ) (va_cwS 2 hts gX10_turned_X10_one rfl rfl rfl (by decide +kernel) ⟨Nat.le_of_ble_eq_true rfl, Nat.le_of_ble_eq_true rfl⟩) hP rfl hl.1 rfl (Nat.le_of_ble_eq_true rfl) dX10_turned_128 ⟨Nat.le_of_ble_eq_true rfl, Nat.le_of_ble_eq_true rfl⟩ hS (fun r128 H locs q128 hP hS => ?_)
                have i128 : r128.toInt = (r_one p0 (nI s1)).toInt := congrArg Int32.toInt q128
                refine lv_isub hx hb dX10_turned_131 ?_
                refine lv_topi (fun v131 e131 => ?_)
                refine lv_goto (tgt := 141) hx hb dX10_turned_132 (by decide) ?_
                refine lv_i2l (v := v131.toInt64) hx hb dX10_turned_141 rfl ?_
                refine lv_iload hx hb dX10_turned_142 (lv_at hl 0 rfl) ?_
                refine lv_lshl (v := v131.toInt64 <<< (v72.toInt64 &&& 63)) hx hb dX10_turned_144 rfl ?_
                refine lv_lor hx hb dX10_turned_145 ?_
                refine lv_topl (fun v145 e145 => ?_)
                have hnx : v145 = tR A9 B9 p0 how.toInt (s1 + 1) := by
                  first
                  | exact tR_s (by omega) (by omega) rfl q138 j37_1 (by rw [e145, f72])
                  | exact tR_s (by omega) (by omega) rfl q138 j37_1 (by rw [e145, f92])
                  | exact tR_s (by omega) (by omega) rfl q138 j37_1 (by rw [e145, f108])
                  | exact tR_3 (by omega) (by omega) rfl q128 e131 j37_1 e145
                  | (exfalso; omega)
                refine lv_lstore (lv' := [(6, .long v145), (11, .int v72), (10, .int v54), (9, .int v48), (8, .int (nI s1)), (0, .ref mo), (1, .int w), (2, .int h), (3, .long p0), (5, .int how)]) hx hb dX10_turned_146 hl (by decide) rfl (fun ls hl => ?_)
                refine lv_iinc (v := (nI (s1 + 1))) (lv' := [(8, .int (nI (s1 + 1))), (6, .long v145), (11, .int v72), (10, .int v54), (9, .int v48), (0, .ref mo), (1, .int w), (2, .int h), (3, .long p0), (5, .int how)]) hx hb dX10_turned_148 hl (k := 4) rfl (nI_1 _) (by decide) rfl (fun ls hl => ?_)
                refine lv_goto (tgt := 37) hx hb dX10_turned_151 (by decide) ?_
                exact ih_37 (s1 + 1) v145 (by omega) (hnx) (by omega) _ _ hP hS ls (lv_sub hl [0, 1, 5, 6, 7, 8, 9] rfl)
      exact loop_37 (A9 * B9 + 1) 0 (0 : Int64) (by omega) (tR_0 _ _ _ _) (by omega) _ _ hP hS ls (lv_sub hl [0, 1, 2, 3, 4, 5, 6] rfl)
    · skip
      have b24 := bo_f q21 c24
      refine lv_ldc2 hx hb hown (hts (.constantLong RX10 185 (-1)) (by decide +kernel)) dX10_turned_27 ?_
      exact W.lret (v := (-1 : Int64)) hx hb hr (fun t ht hW => ⟨⟨_, ((upd f 0 (0 : Int32)), g, r, q), rfl, ⟨rfl, (Or.inr ⟨(fun z9 => by first | exact goodP_no b11 z9.1 | exact b24 z9.2), rfl⟩)⟩, by unfold mB; rw [ht]; exact hP⟩, hS.F ht⟩) hS.2.2 dX10_turned_30

def bt (x : Int32) (i : Nat) : Bool := x.toBitVec.getLsbD i
theorem b_or (x y : Int32) (i : Nat) : bt (x ||| y) i = (bt x i || bt y i) := by unfold bt; rw [Int32.toBitVec_or, BitVec.getLsbD_or]
theorem b_and (x y : Int32) (i : Nat) : bt (x &&& y) i = (bt x i && bt y i) := by unfold bt; rw [Int32.toBitVec_and, BitVec.getLsbD_and]
theorem b_xor (x y : Int32) (i : Nat) : bt (x ^^^ y) i = (bt x i ^^ bt y i) := by unfold bt; rw [Int32.toBitVec_xor, BitVec.getLsbD_xor]
theorem b_ext {x y : Int32} (h : ∀ i, i < 32 → bt x i = bt y i) : x = y := Int32.toBitVec_inj.mp (BitVec.eq_of_getLsbD_eq (fun i hi => h i hi))
theorem b_0 (i : Nat) : bt 0 i = false := BitVec.getLsbD_zero
theorem b_m1 : ∀ i, i < 32 → bt (-1) i = true := by decide +kernel
theorem b_l2i (x : Int64) {i : Nat} (hi : i < 32) : bt x.toInt32 i = lb x i := by
  unfold bt lb
  rw [Int64.toBitVec_toInt32, BitVec.getLsbD_signExtend]
  simp [hi, show i < 64 by omega]
theorem b_msk : ∀ w, w < 7 → ∀ i, i < 32 → bt (nI (2 ^ w) - 1) i = decide (i < w) := by decide +kernel
/-- the runs of ones in a row of k squares, and its last square -/
def eL (b : Nat → Bool) : Nat → Bool
  | 0 => false
  | k + 1 => b k
def eB (b : Nat → Bool) : Nat → Nat
  | 0 => 0
  | k + 1 => eB b k + (if b k = true ∧ eL b k = false then 1 else 0)
theorem eB_b (b : Nat → Bool) (k : Nat) : eB b k ≤ k := by
  induction k with
  | zero => exact Nat.le_refl _
  | succ k ih => simp only [eB]; split <;> omega
theorem eB_mono (b : Nat → Bool) {j k : Nat} (h : j ≤ k) : eB b j ≤ eB b k := by
  induction k with
  | zero => have : j = 0 := by omega
            rw [this]; exact Nat.le_refl _
  | succ k ih =>
    by_cases e : j = k + 1
    · rw [e]; exact Nat.le_refl _
    · have := ih (by omega); simp only [eB]; omega
theorem eB_ge (b : Nat → Bool) {j k : Nat} (hj : j < k) (hb : b j = true) : 1 ≤ eB b k := by
  induction k with
  | zero => omega
  | succ k ih =>
    by_cases e : j = k
    · subst e
      simp only [eB]
      cases j with
      | zero => simp [eL, hb]
      | succ j =>
        by_cases h2 : b j = true
        · have h3 : 1 ≤ eB b (j + 1) := by
            clear ih hj
            induction j with
            | zero => simp [eB, eL, h2]
            | succ j ih2 =>
              by_cases h4 : b j = true
              · have := ih2 h2 h4
                have := eB_mono b (show j + 1 ≤ j + 1 + 1 by omega); omega
              · simp [eB, eL, h2, h4]
          omega
        · simp [eL, hb, h2]
    · have := ih (by omega); simp only [eB]; omega
theorem eB_no (b : Nat → Bool) (k : Nat) (h : ∀ j, j < k → b j = false) : eB b k = 0 := by
  induction k with
  | zero => rfl
  | succ k ih => simp only [eB]; rw [ih (fun j hj => h j (by omega)), if_neg (by rw [h k (by omega)]; simp)]
theorem eB_st {b : Nat → Bool} {i : Nat} {z x10 x9 v : Int32} (f : z = if b i then 1 else 0) (j : x10 = if eL b i then 1 else 0) (hx : x9 = nI (eB b i)) (hv : (z = 1 ∧ x10 = 0 ∧ v = x9 + 1) ∨ (¬ (z = 1 ∧ x10 = 0) ∧ v = x9 + 0)) : v = nI (eB b (i + 1)) := by
  show v = nI (eB b i + (if b i = true ∧ eL b i = false then 1 else 0))
  rcases hv with ⟨h1, h2, h3⟩ | ⟨h1, h2⟩
  · have a1 : b i = true := by
      cases hb : b i
      · rw [hb] at f; exact absurd (h1.symm.trans f) (by decide)
      · rfl
    have a2 : eL b i = false := by
      cases hb : eL b i
      · rfl
      · rw [hb] at j; exact absurd (h2.symm.trans j) (by decide)
    rw [if_pos ⟨a1, a2⟩, h3, hx]
    exact nI_1 _
  · rw [if_neg (fun z9 => h1 ⟨by rw [f, z9.1]; rfl, by rw [j, z9.2]; rfl⟩), h2, hx]
    exact nI_add _ 0
/-- the square x of the row y -/
def rB (w : Nat) (p : Int64) (y x : Nat) : Bool := lb p (y * w + x)
def rowsW (w h : Nat) (p : Int64) : Prop := ∀ y, y < h → eB (rB w p y) w < 2
def colsW (w h : Nat) (p : Int64) : Prop := ∀ x, x < w → eB (fun y => rB w p y x) h < 2
/-- a row as a number -/
def isRow (w : Nat) (b : Nat → Bool) (v : Int32) : Prop := ∀ i, i < 32 → bt v i = (decide (i < w) && b i)
theorem row_n {w : Nat} {b : Nat → Bool} {v : Int32} (hw : w ≤ 6) (h : isRow w b v) : ∃ n, n < 2 ^ w ∧ v = nI n := by
  refine ⟨v.toBitVec.toNat, ?_, ?_⟩
  · apply Nat.lt_of_not_le
    intro hge
    have h1 : v.toBitVec.toNat = v.toBitVec.toNat % 2 ^ w := by
      apply Nat.eq_of_testBit_eq
      intro i
      rw [Nat.testBit_mod_two_pow]
      by_cases hi : i < 32
      · have := h i hi
        unfold bt at this
        rw [BitVec.getLsbD] at this
        rw [this]
        by_cases hiw : i < w
        · simp [hiw]
        · simp [hiw]
      · have : v.toBitVec.toNat.testBit i = false := Nat.testBit_lt_two_pow (Nat.lt_of_lt_of_le v.toBitVec.isLt (Nat.pow_le_pow_right (by decide) (by omega)))
        rw [this, Bool.and_false]
    have := Nat.mod_lt v.toBitVec.toNat (Nat.two_pow_pos w)
    omega
  · apply Int32.toBitVec_inj.mp
    show _ = BitVec.ofNat 32 _
    simp
theorem eB_cg {b c : Nat → Bool} {k : Nat} (h : ∀ j, j < k → b j = c j) : eB b k = eB c k ∧ (∀ j, j ≤ k → eL b j = eL c j) := by
  induction k with
  | zero => exact ⟨rfl, fun j hj => by have : j = 0 := by omega
                                       rw [this]; rfl⟩
  | succ k ih =>
    obtain ⟨h1, h2⟩ := ih (fun j hj => h j (by omega))
    refine ⟨?_, fun j hj => ?_⟩
    · simp only [eB]
      rw [h1, h2 k (Nat.le_refl _), h k (by omega)]
    · cases j with
      | zero => rfl
      | succ j => simp only [eL]; exact h j (by omega)
set_option maxRecDepth 100000 in
theorem row_all : ∀ w, w < 7 → ∀ n, n < 2 ^ w → (((nI n &&& (nI n + (nI n &&& -(nI n)))) = 0) = (eB (fun i => bt (nI n) i) w < 2)) := by
  intro w hw
  have h : ∀ w, w < 7 → ∀ n, n < 2 ^ w → (decide ((nI n &&& (nI n + (nI n &&& -(nI n)))) = 0) = decide (eB (fun i => bt (nI n) i) w < 2)) := by decide +kernel
  intro n hn
  exact decide_eq_decide.mp (h w hw n hn) |> propext
theorem row_ok {w : Nat} {b : Nat → Bool} {v v1 v2 v3 v4 : Int32} (hw : w ≤ 6) (h : isRow w b v) (e1 : v1 = -v) (e2 : v2 = v &&& v1) (e3 : v3 = v + v2) (e4 : v4 = v &&& v3) : v4 = 0 ↔ eB b w < 2 := by
  obtain ⟨n, hn, rfl⟩ := row_n hw h
  have h1 := row_all w (by omega) n hn
  have h2 : eB (fun i => bt (nI n) i) w = eB b w := (eB_cg (fun j hj => by show bt (nI n) j = b j; rw [h j (by omega), decide_eq_true hj, Bool.true_and])).1
  rw [e4, e3, e2, e1, h1, h2]
theorem isRow_of {w : Nat} (hw : w < 7) {y : Nat} (hy : y < 6) {p : Int64} {v1 v2 v3 : Int32} {q : Int64} (e1 : v1 = nI y * nI w) (hq : q = (p.toUInt64 >>> (v1.toInt64.toUInt64 &&& Int64.toUInt64 63)).toInt64) (e2 : v2 = nI (2 ^ w) - 1) (e3 : v3 = q.toInt32 &&& v2) : isRow w (rB w p y) v3 := by
  intro i hi
  have hm : y * w ≤ 5 * 6 := Nat.mul_le_mul (by omega) (by omega)
  rw [e3, b_and, b_l2i _ hi, hq, e1, pk_mul, lb_ushr _ (by omega), e2, b_msk w hw i hi, Bool.and_comm]
  rfl
/-- columns, row by row: what has begun, what has ended -/
def cBeg (w : Nat) (p : Int64) (k : Nat) (v : Int32) : Prop := ∀ i, i < 32 → bt v i = (decide (i < w) && decide (∃ y, y < k ∧ rB w p y i = true))
def cEnd (w : Nat) (p : Int64) (k : Nat) (v : Int32) : Prop := ∀ i, i < 32 → bt v i = (decide (i < w) && decide ((∃ y, y < k ∧ rB w p y i = true) ∧ eL (fun y => rB w p y i) k = false))
def cGood (w : Nat) (p : Int64) (k : Nat) : Prop := ∀ i, i < w → eB (fun y => rB w p y i) k < 2
theorem c_0 (w : Nat) (p : Int64) : cBeg w p 0 0 ∧ cEnd w p 0 0 ∧ cGood w p 0 := by
  refine ⟨fun i hi => ?_, fun i hi => ?_, fun i hi => by simp [eB]⟩
  · rw [b_0, decide_eq_false (show ¬ ∃ y, y < 0 ∧ rB w p y i = true from fun ⟨y, h, _⟩ => absurd h (Nat.not_lt_zero _)), Bool.and_false]
  · rw [b_0, decide_eq_false (show ¬ ((∃ y, y < 0 ∧ rB w p y i = true) ∧ eL (fun y => rB w p y i) 0 = false) from fun ⟨⟨y, h, _⟩, _⟩ => absurd h (Nat.not_lt_zero _)), Bool.and_false]
theorem c_beg {w k : Nat} {p : Int64} {v row v2 : Int32} (h : cBeg w p k v) (hr : isRow w (rB w p k) row) (e : v2 = v ||| row) : cBeg w p (k + 1) v2 := by
  intro i hi
  rw [e, b_or, h i hi, hr i hi]
  by_cases hw : i < w
  · rw [decide_eq_true hw, Bool.true_and, Bool.true_and, Bool.true_and]
    cases hb : rB w p k i
    · rw [Bool.or_false]
      congr 1
      apply propext
      exact ⟨fun ⟨y, h1, h2⟩ => ⟨y, by omega, h2⟩, fun ⟨y, h1, h2⟩ => ⟨y, by
        by_cases e : y = k
        · rw [e, hb] at h2; cases h2
        · omega, h2⟩⟩
    · rw [Bool.or_true, decide_eq_true ⟨k, by omega, hb⟩]
  · simp [hw]
theorem c_end {w k : Nat} {p : Int64} {v row v2 v3 : Int32} (h : cBeg w p (k + 1) v) (hr : isRow w (rB w p k) row) (e2 : v2 = row ^^^ (-1)) (e3 : v3 = v &&& v2) : cEnd w p (k + 1) v3 := by
  intro i hi
  rw [e3, b_and, h i hi, e2, b_xor, hr i hi, b_m1 i hi]
  by_cases hw : i < w
  · rw [decide_eq_true hw, Bool.true_and, Bool.true_and, Bool.true_and]
    show _ = decide (_ ∧ rB w p k i = false)
    by_cases hb : rB w p k i = true
    · simp [hb]
    · have hb2 : rB w p k i = false := by simpa using hb
      simp [hb2]
  · simp [hw]
theorem c_no {w k : Nat} {p : Int64} {v row z : Int32} (hE : cEnd w p k v) (hr : isRow w (rB w p k) row) (hw : w ≤ 6) (e : z = row &&& v) (hz : ¬ z = 0) {h : Nat} (hk : k < h) : ¬ colsW w h p := by
  intro hc
  apply hz
  rw [e]
  apply b_ext
  intro i hi
  rw [b_and, hr i hi, hE i hi, b_0]
  by_cases hiw : i < w
  · rw [decide_eq_true hiw, Bool.true_and, Bool.true_and]
    cases hb : rB w p k i
    · rfl
    · rw [Bool.true_and]
      apply decide_eq_false
      rintro ⟨⟨y, hy, hyb⟩, hl⟩
      have h1 := eB_ge (fun y => rB w p y i) hy hyb
      have h2 : eB (fun y => rB w p y i) (k + 1) = eB (fun y => rB w p y i) k + 1 := by
        show eB (fun y => rB w p y i) k + (if rB w p k i = true ∧ eL (fun y => rB w p y i) k = false then 1 else 0) = _
        rw [if_pos ⟨hb, hl⟩]
      have h3 := eB_mono (fun y => rB w p y i) (show k + 1 ≤ h by omega)
      have h4 := hc i hiw
      omega
  · simp [hiw]
theorem c_go {w k : Nat} {p : Int64} {v row z : Int32} (hg : cGood w p k) (hE : cEnd w p k v) (hr : isRow w (rB w p k) row) (hw : w ≤ 6) (e : z = row &&& v) (hz : z = 0) : cGood w p (k + 1) := by
  intro i hi
  have h0 := hg i hi
  show eB (fun y => rB w p y i) k + (if rB w p k i = true ∧ eL (fun y => rB w p y i) k = false then 1 else 0) < 2
  split
  · rename_i hc
    have h1 : bt z i = false := by rw [hz, b_0]
    rw [e, b_and, hr i (by omega), hE i (by omega), decide_eq_true hi, Bool.true_and, Bool.true_and, hc.1, Bool.true_and] at h1
    have h2 := of_decide_eq_false h1
    have h3 : eB (fun y => rB w p y i) k = 0 := eB_no _ _ (fun j hj => by
      cases hb : rB w p j i
      · rfl
      · exact absurd ⟨⟨j, hj, hb⟩, hc.2⟩ h2)
    omega
  · omega
def evA (w h : Int32) (p : Int64) (col : Int32) (x : Int32) : Prop := (goodP w h p ∧ ((x = 1 ∧ (if col = 0 then rowsW w.toNatClampNeg h.toNatClampNeg p else colsW w.toNatClampNeg h.toNatClampNeg p)) ∨ (x = 0 ∧ ¬ (if col = 0 then rowsW w.toNatClampNeg h.toNatClampNeg p else colsW w.toNatClampNeg h.toNatClampNeg p)))) ∨ (¬ goodP w h p ∧ x = -1)
theorem evA_eq {w h : Int32} {p : Int64} {col x y : Int32} (hx : evA w h p col x) (hy : evA w h p col y) : x = y := by
  rcases hx with ⟨a, ⟨b, c⟩ | ⟨b, c⟩⟩ | ⟨a, c⟩ <;> rcases hy with ⟨d, ⟨e, f⟩ | ⟨e, f⟩⟩ | ⟨d, f⟩
  · rw [b, e]
  · exact absurd c f
  · exact absurd a d
  · exact absurd f c
  · rw [b, e]
  · exact absurd a d
  · exact absurd d a
  · exact absurd d a
  · rw [c, f]
/-- the reference: a line's squares -/
def eS (w : Nat) (p : Int64) (col : Int32) (l k : Nat) : Bool := if col = 0 then rB w p l k else rB w p k l
def eMany (w h : Nat) (col : Int32) : Nat := if col = 0 then w else h
def eLin (w h : Nat) (col : Int32) : Nat := if col = 0 then h else w
theorem e_all {w h : Nat} {p : Int64} {col : Int32} : (∀ l, l < eLin w h col → eB (eS w p col l) (eMany w h col) < 2) ↔ (if col = 0 then rowsW w h p else colsW w h p) := by
  unfold eLin eMany
  by_cases hc : col = 0
  · rw [if_pos hc, if_pos hc, if_pos hc]
    unfold rowsW
    constructor
    · intro h9 y hy; have := h9 y hy; rwa [(eB_cg (c := rB w p y) (fun j _ => by unfold eS; rw [if_pos hc])).1] at this
    · intro h9 y hy; have := h9 y hy; rwa [(eB_cg (b := eS w p col y) (c := rB w p y) (fun j _ => by unfold eS; rw [if_pos hc])).1]
  · rw [if_neg hc, if_neg hc, if_neg hc]
    unfold colsW
    constructor
    · intro h9 y hy; have := h9 y hy; rwa [(eB_cg (c := fun z => rB w p z y) (fun j _ => by unfold eS; rw [if_neg hc])).1] at this
    · intro h9 y hy; have := h9 y hy; rwa [(eB_cg (b := eS w p col y) (c := fun z => rB w p z y) (fun j _ => by unfold eS; rw [if_neg hc])).1]
set_option maxHeartbeats 4000000 in
set_option maxRecDepth 100000 in
theorem c_X0_rowOf_x (l : Launch) (D : va_G) (cy : Nat → ClassId) (A : Nat → Prop) (G : cG) (ws : va_W) (o : Nat) (p0 : Int64) (y : Nat) {w h : Nat} (hD : va_D A ws) (hT : cT cy G ws) (hG_o : G o = some (2, w, h)) (hy1 : y < h) : Ci l D cy A yX0_rowOf wsX0_rowOf ({ frames := 0, cells := 0, slots := 0, locals := 0 }) 0 0 ws [.ref o, .long p0, .int (nI y)] (fun r0 u => u = (G, ws) ∧ (isRow w (rB w p0 y) r0)) := by
  refine Met.ofW (cc := cX0_rowOf) (maxL := 4) (ret := (some .int)) (by decide) rfl ?_
  intro p e s m args below meth c s₁ B hml hv
  obtain ⟨rfl, hP, hK, hA, hV⟩ := hv
  have hx := B.exec
  have hb := B.bytes
  have hr := B.returns
  have hts := atoms_spec (ws := wsX0_rowOf) B.pre
  have hown : s.vm.findClass RX0 = some m.cls := findClass_of_methodNamed B.named
  have hlocks := B.notSynchronized
  have hS : va_S A s.heap s.heap [] := va_S.rf
  have hl := lv_entry ([.ref o, .long p0, .int (nI y)]) (n := 4) (Nat.le_of_ble_eq_true rfl)
  rw [lg_entry_eq]
  generalize (lg_sl ([.ref o, .long p0, .int (nI y)]) ++ List.replicate (4 - (lg_sl ([.ref o, .long p0, .int (nI y)])).length) Slot.unset).toArray = ls at hl ⊢
  have hl : lv_has ls 4 [(0, .ref o), (1, .long p0), (3, .int (nI y))] := hl
  have k_0 : (0 : Int32).toInt = 0 := by decide
  have k_1 : (1 : Int32).toInt = 1 := by decide
  have hb9 := c_hb hT hG_o
  refine lv_lload_n hx hb dX0_rowOf_0 rfl (lv_at hl 1 rfl) ?_
  refine lv_iload_n hx hb dX0_rowOf_1 rfl (lv_at hl 2 rfl) ?_
  refine lv_aload_n hx hb dX0_rowOf_2 rfl (lv_at hl 0 rfl) ?_
  obtain ⟨_, hM_o, hb_o, l_o, f_o, r_o, rfl, hG_l_o, hG_f_o, hG_r_o⟩ := hT _ _ hG_o
  refine t_get (v := .int (nI w)) (C := RX0) (T := TX0) (N := 8) hx hb hts (by decide +kernel) hown hK hP hM_o rfl 0 (by decide) (hts (.fieldLink RX0 13 "ShadowBench$Board" "wide" "I") (by decide +kernel)) (fun _ h9 => h9) rfl dX0_rowOf_3 ?_
  have i_w_o : (nI w).toInt = _ := nI_toInt (by omega)
  refine lv_imul hx hb dX0_rowOf_6 ?_
  refine lv_topi (fun v6 e6 => ?_)
  refine lv_lushr (v := (p0.toUInt64 >>> (v6.toInt64.toUInt64 &&& Int64.toUInt64 63)).toInt64) hx hb dX0_rowOf_7 rfl ?_
  refine lv_l2i (v := (((p0.toUInt64 >>> (v6.toInt64.toUInt64 &&& Int64.toUInt64 63)).toInt64)).toInt32) hx hb dX0_rowOf_8 rfl ?_
  refine lv_aload_n hx hb dX0_rowOf_9 rfl (lv_at hl 0 rfl) ?_
  refine t_get (v := .int (nI (2 ^ w))) (C := RX0) (T := TX0) (N := 8) hx hb hts (by decide +kernel) hown hK hP hM_o rfl 3 (by decide) (hts (.fieldLink RX0 23 "ShadowBench$Board" "rowNumbers" "I") (by decide +kernel)) (fun _ h9 => h9) rfl dX0_rowOf_10 ?_
  have m_p_o := cb_pow hb_o
  have i_p_o : (nI (2 ^ w)).toInt = _ := nI_toInt (by omega)
  refine lv_iconst (v := 1) hx hb dX0_rowOf_13 (by decide) ?_
  refine lv_isub hx hb dX0_rowOf_14 ?_
  refine lv_topi (fun v14 e14 => ?_)
  refine lv_iand hx hb dX0_rowOf_15 ?_
  refine lv_topi (fun v15 e15 => ?_)
  exact W.iret (v := v15) hx hb hr (fun t ht hW => ⟨⟨_, (G, ws), rfl, ⟨rfl, (isRow_of (by omega) (by omega) e6 rfl e14 e15)⟩, by show va_P D vwCl ws t.heap; rw [ht]; exact hP, hD, hT⟩, hS.F ht⟩) hS.2.2 dX0_rowOf_16
set_option maxHeartbeats 4000000 in
set_option maxRecDepth 100000 in
theorem c_X0_rowsAreWhole_x (l : Launch) (D : va_G) (cy : Nat → ClassId) (A : Nat → Prop) (G : cG) (ws : va_W) (o : Nat) (p0 : Int64) {w h : Nat} (hD : va_D A ws) (hT : cT cy G ws) (hG_o : G o = some (2, w, h))  : Ci l D cy A yX0_rowsAreWhole wsX0_rowsAreWhole ({ frames := 1, cells := 0, slots := 0, locals := 23 }) 0 0 ws [.ref o, .long p0] (fun r0 u => u = (G, ws) ∧ (Bo r0 (rowsW w h p0))) := by
  refine Met.ofW (cc := cX0_rowsAreWhole) (maxL := 5) (ret := (some .boolean)) (by decide) rfl ?_
  intro p e s m args below meth c s₁ B hml hv
  obtain ⟨rfl, hP, hK, hA, hV⟩ := hv
  have hx := B.exec
  have hb := B.bytes
  have hr := B.returns
  have hts := atoms_spec (ws := wsX0_rowsAreWhole) B.pre
  have hown : s.vm.findClass RX0 = some m.cls := findClass_of_methodNamed B.named
  have hlocks := B.notSynchronized
  have hS : va_S A s.heap s.heap [] := va_S.rf
  have hl := lv_entry ([.ref o, .long p0]) (n := 5) (Nat.le_of_ble_eq_true rfl)
  rw [lg_entry_eq]
  generalize (lg_sl ([.ref o, .long p0]) ++ List.replicate (5 - (lg_sl ([.ref o, .long p0])).length) Slot.unset).toArray = ls at hl ⊢
  have hl : lv_has ls 5 [(0, .ref o), (1, .long p0)] := hl
  have k_0 : (0 : Int32).toInt = 0 := by decide
  have k_1 : (1 : Int32).toInt = 1 := by decide
  have hb9 := c_hb hT hG_o
  refine lv_iconst (v := 0) hx hb dX0_rowsAreWhole_0 (by decide) ?_
  refine lv_istore_n (lv' := [(3, .int (0 : Int32)), (0, .ref o), (1, .long p0)]) hx hb dX0_rowsAreWhole_1 rfl hl (by decide) rfl (fun ls hl => ?_)
  have loop_2 : ∀ (n : Nat) (k : Nat), (k ≤ h) → (∀ y, y < k → eB (rB w p0 y) w < 2) → h - k < n → ∀ (H : Heap) (locs : List Loc), va_P D vwCl ws H → va_S A s.heap H locs → ∀ (ls : Array Slot), lv_has ls 5 [(3, .int (nI k)), (0, .ref o), (1, .long p0)] → W p l e (headSpec wsX0_rowsAreWhole ({ frames := 1, cells := 0, slots := 0, locals := 23 })).room s m #[Value.ref o, Value.long p0] below meth c H locs 0 0 (MQ below (va_Qi (fun r0 u => u = (G, ws) ∧ (Bo r0 (rowsW w h p0))) (cB D cy A) A) #[Value.ref o, Value.long p0] s 0 0 A) (F0 m 2 ls []) := by
    intro n
    induction n with
    | zero => intro k j2_0 j2_1 hn; exact absurd hn (Nat.not_lt_zero _)
    | succ n ih_2 =>
      intro k j2_0 j2_1 hn_2 H locs hP hS  ls hl
      have ik : (nI k).toInt = (k : Int) := nI_toInt (by omega)
      refine lv_iload_n hx hb dX0_rowsAreWhole_2 rfl (lv_at hl 0 rfl) ?_
      refine lv_aload_n hx hb dX0_rowsAreWhole_3 rfl (lv_at hl 1 rfl) ?_
      obtain ⟨_, hM_o, hb_o, l_o, f_o, r_o, rfl, hG_l_o, hG_f_o, hG_r_o⟩ := hT _ _ hG_o
      refine t_get (v := .int (nI h)) (C := RX0) (T := TX0) (N := 8) hx hb hts (by decide +kernel) hown hK hP hM_o rfl 1 (by decide) (hts (.fieldLink RX0 17 "ShadowBench$Board" "high" "I") (by decide +kernel)) (fun _ h9 => h9) rfl dX0_rowsAreWhole_4 ?_
      have i_h_o : (nI h).toInt = _ := nI_toInt (by omega)
      refine lv_icmp_ge (tgt := 41) hx hb dX0_rowsAreWhole_7 (by decide) (fun c7 => ?_) (fun c7 => ?_)
      · skip
        have d7 := c7
        rw [fa_le] at d7
        refine lv_iconst (v := 1) hx hb dX0_rowsAreWhole_41 (by decide) ?_
        exact W.zret (v := (1 : Int32)) hx hb hr (by decide) (fun t ht hW => ⟨⟨_, (G, ws), rfl, ⟨rfl, Or.inl ⟨rfl, (fun y9 hy9 => j2_1 y9 (by omega))⟩⟩, by show va_P D vwCl ws t.heap; rw [ht]; exact hP, hD, hT⟩, hS.F ht⟩) hS.2.2 dX0_rowsAreWhole_42
      · skip
        have d7 := c7
        rw [fa_le] at d7
        refine lv_aload_n hx hb dX0_rowsAreWhole_10 rfl (lv_at hl 1 rfl) ?_
        refine lv_lload_n hx hb dX0_rowsAreWhole_11 rfl (lv_at hl 2 rfl) ?_
        refine lv_iload_n hx hb dX0_rowsAreWhole_12 rfl (lv_at hl 0 rfl) ?_
        refine t_calli (va_runV (g := F0 m 13 ls ([.int (nI k), .long p0, .ref o])) (As := [.long p0, .int (nI k)]) (rest := []) ⟨hx, hb, hml, hown, hts⟩ (c_X0_rowOf_x l D cy A G ws o p0 k hD hT hG_o (by omega)) (cwV 2 hts gX0_rowsAreWhole_X0_rowOf rfl rfl rfl (by decide +kernel) ⟨Nat.le_of_ble_eq_true rfl, Nat.le_of_ble_eq_true rfl⟩) (c_preV hM_o rfl hP hK hA hS hV) rfl rfl hl.1 rfl (lv_room (Nat.le_of_ble_eq_true rfl)) dX0_rowsAreWhole_13 ⟨Nat.le_of_ble_eq_true rfl, Nat.le_of_ble_eq_true rfl⟩) hS (fun r13 u H locs q13 hP9 hD9 hT9 hS => ?_)
        obtain ⟨rfl, q13⟩ := q13
        have hP : va_P D vwCl ws H := hP9
        refine lv_istore (lv' := [(4, .int r13), (3, .int (nI k)), (0, .ref o), (1, .long p0)]) hx hb dX0_rowsAreWhole_16 hl (by decide) rfl (fun ls hl => ?_)
        refine lv_iload hx hb dX0_rowsAreWhole_18 (lv_at hl 0 rfl) ?_
        refine lv_iload hx hb dX0_rowsAreWhole_20 (lv_at hl 0 rfl) ?_
        refine lv_iload hx hb dX0_rowsAreWhole_22 (lv_at hl 0 rfl) ?_
        refine lv_iload hx hb dX0_rowsAreWhole_24 (lv_at hl 0 rfl) ?_
        refine lv_ineg hx hb dX0_rowsAreWhole_26 ?_
        refine lv_topi (fun v26 e26 => ?_)
        refine lv_iand hx hb dX0_rowsAreWhole_27 ?_
        refine lv_topi (fun v27 e27 => ?_)
        refine lv_iadd hx hb dX0_rowsAreWhole_28 ?_
        refine lv_topi (fun v28 e28 => ?_)
        refine lv_iand hx hb dX0_rowsAreWhole_29 ?_
        refine lv_topi (fun v29 e29 => ?_)
        have hro := row_ok (by omega) q13 e26 e27 e28 e29
        refine lv_if_eq (tgt := 35) hx hb dX0_rowsAreWhole_30 (by decide) (fun c30 => ?_) (fun c30 => ?_)
        · skip
          have d30 := c30
          rw [fa_eq] at d30
          refine lv_iinc (v := (nI (k + 1))) (lv' := [(3, .int (nI (k + 1))), (4, .int r13), (0, .ref o), (1, .long p0)]) hx hb dX0_rowsAreWhole_35 hl (k := 1) rfl (nI_1 _) (by decide) rfl (fun ls hl => ?_)
          refine lv_goto (tgt := 2) hx hb dX0_rowsAreWhole_38 (by decide) ?_
          exact ih_2 (k + 1) (by omega) (fun y hy => by
            by_cases e9 : y = k
            · rw [e9]; exact hro.mp c30
            · exact j2_1 y (by omega)) (by omega) _ _ hP hS  ls (lv_sub hl [0, 2, 3] rfl)
        · skip
          have d30 := c30
          rw [fa_eq] at d30
          refine lv_iconst (v := 0) hx hb dX0_rowsAreWhole_33 (by decide) ?_
          exact W.zret (v := (0 : Int32)) hx hb hr (by decide) (fun t ht hW => ⟨⟨_, (G, ws), rfl, ⟨rfl, Or.inr ⟨rfl, (fun z9 => c30 (hro.mpr (z9 k (by omega))))⟩⟩, by show va_P D vwCl ws t.heap; rw [ht]; exact hP, hD, hT⟩, hS.F ht⟩) hS.2.2 dX0_rowsAreWhole_34
  exact loop_2 (h + 1) 0 (by omega) (fun y hy => absurd hy (Nat.not_lt_zero _)) (by omega) _ _ hP hS  ls (lv_sub hl [0, 1, 2] rfl)
set_option maxHeartbeats 4000000 in
set_option maxRecDepth 100000 in
theorem c_X0_columnsAreWhole_x (l : Launch) (D : va_G) (cy : Nat → ClassId) (A : Nat → Prop) (G : cG) (ws : va_W) (o : Nat) (p0 : Int64) {w h : Nat} (hD : va_D A ws) (hT : cT cy G ws) (hG_o : G o = some (2, w, h))  : Ci l D cy A yX0_columnsAreWhole wsX0_columnsAreWhole ({ frames := 1, cells := 0, slots := 0, locals := 23 }) 0 0 ws [.ref o, .long p0] (fun r0 u => u = (G, ws) ∧ (Bo r0 (colsW w h p0))) := by
  refine Met.ofW (cc := cX0_columnsAreWhole) (maxL := 7) (ret := (some .boolean)) (by decide) rfl ?_
  intro p e s m args below meth c s₁ B hml hv
  obtain ⟨rfl, hP, hK, hA, hV⟩ := hv
  have hx := B.exec
  have hb := B.bytes
  have hr := B.returns
  have hts := atoms_spec (ws := wsX0_columnsAreWhole) B.pre
  have hown : s.vm.findClass RX0 = some m.cls := findClass_of_methodNamed B.named
  have hlocks := B.notSynchronized
  have hS : va_S A s.heap s.heap [] := va_S.rf
  have hl := lv_entry ([.ref o, .long p0]) (n := 7) (Nat.le_of_ble_eq_true rfl)
  rw [lg_entry_eq]
  generalize (lg_sl ([.ref o, .long p0]) ++ List.replicate (7 - (lg_sl ([.ref o, .long p0])).length) Slot.unset).toArray = ls at hl ⊢
  have hl : lv_has ls 7 [(0, .ref o), (1, .long p0)] := hl
  have k_m1 : (-1 : Int32).toInt = -1 := by decide
  have k_0 : (0 : Int32).toInt = 0 := by decide
  have k_1 : (1 : Int32).toInt = 1 := by decide
  have hb9 := c_hb hT hG_o
  refine lv_iconst (v := 0) hx hb dX0_columnsAreWhole_0 (by decide) ?_
  refine lv_istore_n (lv' := [(3, .int (0 : Int32)), (0, .ref o), (1, .long p0)]) hx hb dX0_columnsAreWhole_1 rfl hl (by decide) rfl (fun ls hl => ?_)
  refine lv_iconst (v := 0) hx hb dX0_columnsAreWhole_2 (by decide) ?_
  refine lv_istore (lv' := [(4, .int (0 : Int32)), (3, .int (0 : Int32)), (0, .ref o), (1, .long p0)]) hx hb dX0_columnsAreWhole_3 hl (by decide) rfl (fun ls hl => ?_)
  refine lv_iconst (v := 0) hx hb dX0_columnsAreWhole_5 (by decide) ?_
  refine lv_istore (lv' := [(5, .int (0 : Int32)), (4, .int (0 : Int32)), (3, .int (0 : Int32)), (0, .ref o), (1, .long p0)]) hx hb dX0_columnsAreWhole_6 hl (by decide) rfl (fun ls hl => ?_)
  have loop_8 : ∀ (n : Nat) (k : Nat) (x4 : Int32) (x3 : Int32), (k ≤ h) → (cBeg w p0 k x3) → (cEnd w p0 k x4) → (cGood w p0 k) → h - k < n → ∀ (H : Heap) (locs : List Loc), va_P D vwCl ws H → va_S A s.heap H locs → ∀ (ls : Array Slot), lv_has ls 7 [(5, .int (nI k)), (4, .int x4), (3, .int x3), (0, .ref o), (1, .long p0)] → W p l e (headSpec wsX0_columnsAreWhole ({ frames := 1, cells := 0, slots := 0, locals := 23 })).room s m #[Value.ref o, Value.long p0] below meth c H locs 0 0 (MQ below (va_Qi (fun r0 u => u = (G, ws) ∧ (Bo r0 (colsW w h p0))) (cB D cy A) A) #[Value.ref o, Value.long p0] s 0 0 A) (F0 m 8 ls []) := by
    intro n
    induction n with
    | zero => intro k x4 x3 j8_0 j8_1 j8_2 j8_3 hn; exact absurd hn (Nat.not_lt_zero _)
    | succ n ih_8 =>
      intro k x4 x3 j8_0 j8_1 j8_2 j8_3 hn_8 H locs hP hS  ls hl
      have ik : (nI k).toInt = (k : Int) := nI_toInt (by omega)
      refine lv_iload hx hb dX0_columnsAreWhole_8 (lv_at hl 0 rfl) ?_
      refine lv_aload_n hx hb dX0_columnsAreWhole_10 rfl (lv_at hl 3 rfl) ?_
      obtain ⟨_, hM_o, hb_o, l_o, f_o, r_o, rfl, hG_l_o, hG_f_o, hG_r_o⟩ := hT _ _ hG_o
      refine t_get (v := .int (nI h)) (C := RX0) (T := TX0) (N := 8) hx hb hts (by decide +kernel) hown hK hP hM_o rfl 1 (by decide) (hts (.fieldLink RX0 17 "ShadowBench$Board" "high" "I") (by decide +kernel)) (fun _ h9 => h9) rfl dX0_columnsAreWhole_11 ?_
      have i_h_o : (nI h).toInt = _ := nI_toInt (by omega)
      refine lv_icmp_ge (tgt := 55) hx hb dX0_columnsAreWhole_14 (by decide) (fun c14 => ?_) (fun c14 => ?_)
      · skip
        have d14 := c14
        rw [fa_le] at d14
        refine lv_iconst (v := 1) hx hb dX0_columnsAreWhole_55 (by decide) ?_
        exact W.zret (v := (1 : Int32)) hx hb hr (by decide) (fun t ht hW => ⟨⟨_, (G, ws), rfl, ⟨rfl, Or.inl ⟨rfl, (by obtain rfl : k = h := (by omega); exact j8_3)⟩⟩, by show va_P D vwCl ws t.heap; rw [ht]; exact hP, hD, hT⟩, hS.F ht⟩) hS.2.2 dX0_columnsAreWhole_56
      · skip
        have d14 := c14
        rw [fa_le] at d14
        refine lv_aload_n hx hb dX0_columnsAreWhole_17 rfl (lv_at hl 3 rfl) ?_
        refine lv_lload_n hx hb dX0_columnsAreWhole_18 rfl (lv_at hl 4 rfl) ?_
        refine lv_iload hx hb dX0_columnsAreWhole_19 (lv_at hl 0 rfl) ?_
        refine t_calli (va_runV (g := F0 m 21 ls ([.int (nI k), .long p0, .ref o])) (As := [.long p0, .int (nI k)]) (rest := []) ⟨hx, hb, hml, hown, hts⟩ (c_X0_rowOf_x l D cy A G ws o p0 k hD hT hG_o (by omega)) (cwV 2 hts gX0_columnsAreWhole_X0_rowOf rfl rfl rfl (by decide +kernel) ⟨Nat.le_of_ble_eq_true rfl, Nat.le_of_ble_eq_true rfl⟩) (c_preV hM_o rfl hP hK hA hS hV) rfl rfl hl.1 rfl (lv_room (Nat.le_of_ble_eq_true rfl)) dX0_columnsAreWhole_21 ⟨Nat.le_of_ble_eq_true rfl, Nat.le_of_ble_eq_true rfl⟩) hS (fun r21 u H locs q21 hP9 hD9 hT9 hS => ?_)
        obtain ⟨rfl, q21⟩ := q21
        have hP : va_P D vwCl ws H := hP9
        refine lv_istore (lv' := [(6, .int r21), (5, .int (nI k)), (4, .int x4), (3, .int x3), (0, .ref o), (1, .long p0)]) hx hb dX0_columnsAreWhole_24 hl (by decide) rfl (fun ls hl => ?_)
        refine lv_iload hx hb dX0_columnsAreWhole_26 (lv_at hl 0 rfl) ?_
        refine lv_iload hx hb dX0_columnsAreWhole_28 (lv_at hl 2 rfl) ?_
        refine lv_iand hx hb dX0_columnsAreWhole_30 ?_
        refine lv_topi (fun v30 e30 => ?_)
        refine lv_if_eq (tgt := 36) hx hb dX0_columnsAreWhole_31 (by decide) (fun c31 => ?_) (fun c31 => ?_)
        · skip
          have d31 := c31
          rw [fa_eq] at d31
          refine lv_iload_n hx hb dX0_columnsAreWhole_36 rfl (lv_at hl 3 rfl) ?_
          refine lv_iload hx hb dX0_columnsAreWhole_37 (lv_at hl 0 rfl) ?_
          refine lv_ior hx hb dX0_columnsAreWhole_39 ?_
          refine lv_topi (fun v39 e39 => ?_)
          refine lv_istore_n (lv' := [(3, .int v39), (6, .int r21), (5, .int (nI k)), (4, .int x4), (0, .ref o), (1, .long p0)]) hx hb dX0_columnsAreWhole_40 rfl hl (by decide) rfl (fun ls hl => ?_)
          refine lv_iload_n hx hb dX0_columnsAreWhole_41 rfl (lv_at hl 0 rfl) ?_
          refine lv_iload hx hb dX0_columnsAreWhole_42 (lv_at hl 1 rfl) ?_
          refine lv_iconst (v := (-1)) hx hb dX0_columnsAreWhole_44 (by decide) ?_
          refine lv_ixor hx hb dX0_columnsAreWhole_45 ?_
          refine lv_topi (fun v45 e45 => ?_)
          refine lv_iand hx hb dX0_columnsAreWhole_46 ?_
          refine lv_topi (fun v46 e46 => ?_)
          have hbg := c_beg j8_1 q21 e39
          have hen := c_end hbg q21 e45 e46
          have hgo := c_go j8_3 j8_2 q21 (by omega) e30 c31
          refine lv_istore (lv' := [(4, .int v46), (3, .int v39), (6, .int r21), (5, .int (nI k)), (0, .ref o), (1, .long p0)]) hx hb dX0_columnsAreWhole_47 hl (by decide) rfl (fun ls hl => ?_)
          refine lv_iinc (v := (nI (k + 1))) (lv' := [(5, .int (nI (k + 1))), (4, .int v46), (3, .int v39), (6, .int r21), (0, .ref o), (1, .long p0)]) hx hb dX0_columnsAreWhole_49 hl (k := 3) rfl (nI_1 _) (by decide) rfl (fun ls hl => ?_)
          refine lv_goto (tgt := 8) hx hb dX0_columnsAreWhole_52 (by decide) ?_
          exact ih_8 (k + 1) v46 v39 (by omega) (hbg) (hen) (hgo) (by omega) _ _ hP hS  ls (lv_sub hl [0, 1, 2, 4, 5] rfl)
        · skip
          have d31 := c31
          rw [fa_eq] at d31
          refine lv_iconst (v := 0) hx hb dX0_columnsAreWhole_34 (by decide) ?_
          exact W.zret (v := (0 : Int32)) hx hb hr (by decide) (fun t ht hW => ⟨⟨_, (G, ws), rfl, ⟨rfl, Or.inr ⟨rfl, (c_no j8_2 q21 (by omega) e30 c31 (by omega))⟩⟩, by show va_P D vwCl ws t.heap; rw [ht]; exact hP, hD, hT⟩, hS.F ht⟩) hS.2.2 dX0_columnsAreWhole_35
  exact loop_8 (h + 1) 0 (0 : Int32) (0 : Int32) (by omega) ((c_0 w p0).1) ((c_0 w p0).2.1) ((c_0 w p0).2.2) (by omega) _ _ hP hS  ls (lv_sub hl [0, 1, 2, 3, 4] rfl)
set_option maxHeartbeats 4000000 in
set_option maxRecDepth 100000 in
theorem c_X9_even_x (l : Launch) (D : va_G) (cy : Nat → ClassId) (A : Nat → Prop) (G : cG) (ws : va_W) (o : Nat) (wide : Int32) (high : Int32) (p0 : Int64) (col : Int32)  (hD : va_D A ws) (hT : cT cy G ws) (hG_o : G o = some (7, 0, 0))  : Ci l D cy A yX9_even wsX9_even ({ frames := 5, cells := 4, slots := 502, locals := 116 }) 4 502 ws [.ref o, .int wide, .int high, .long p0, .int col] (fun r0 u => cX none (chs [1, 8]) G ws u.1 u.2 ∧ (evA wide high p0 col r0)) := by
  refine Met.ofW (cc := cX9_even) (maxL := 8) (ret := (some .int)) (by decide) rfl ?_
  intro p e s m args below meth c s₁ B hml hv
  obtain ⟨rfl, hP, hK, hA, hV⟩ := hv
  have hx := B.exec
  have hb := B.bytes
  have hr := B.returns
  have hts := atoms_spec (ws := wsX9_even) B.pre
  have hown : s.vm.findClass RX9 = some m.cls := findClass_of_methodNamed B.named
  have hlocks := B.notSynchronized
  have hS : va_S A s.heap s.heap [] := va_S.rf
  have hX : cX none (chs [1, 8]) G ws G ws := cX.rf
  have hl := lv_entry ([.ref o, .int wide, .int high, .long p0, .int col]) (n := 8) (Nat.le_of_ble_eq_true rfl)
  rw [lg_entry_eq]
  generalize (lg_sl ([.ref o, .int wide, .int high, .long p0, .int col]) ++ List.replicate (8 - (lg_sl ([.ref o, .int wide, .int high, .long p0, .int col])).length) Slot.unset).toArray = ls at hl ⊢
  have hl : lv_has ls 8 [(0, .ref o), (1, .int wide), (2, .int high), (3, .long p0), (5, .int col)] := hl
  have k_m1 : (-1 : Int32).toInt = -1 := by decide
  have k_0 : (0 : Int32).toInt = 0 := by decide
  have k_1 : (1 : Int32).toInt = 1 := by decide
  refine lv_aload_n hx hb dX9_even_0 rfl (lv_at hl 0 rfl) ?_
  refine lv_iload_n hx hb dX9_even_1 rfl (lv_at hl 1 rfl) ?_
  refine lv_iload_n hx hb dX9_even_2 rfl (lv_at hl 2 rfl) ?_
  obtain ⟨_, hM_o, bs_o, js_o, sh_o, wk_o, ll_o, jc_o, lc_o, mo_o, lb_o, rfl, hjc_o, hlc_o, hG_bs_o, hG_js_o, hG_sh_o, hG_wk_o, hmo_o, hG_ll_o, hlb_o⟩ := hT _ _ hG_o
  refine t_calla (va_runV (g := F0 m 3 ls ([.int high, .int wide, .ref o])) (As := [.int wide, .int high]) (rest := []) ⟨hx, hb, hml, hown, hts⟩ (c_X9_boardOf_x l D cy A G ws o wide high hD hT hG_o ) (cwV 2 hts gX9_even_X9_boardOf rfl rfl rfl (by decide +kernel) ⟨Nat.le_of_ble_eq_true rfl, Nat.le_of_ble_eq_true rfl⟩) (c_preV hM_o rfl hP hK hA hS hV) rfl rfl hl.1 rfl (lv_room (Nat.le_of_ble_eq_true rfl)) dX9_even_3 ⟨Nat.le_of_ble_eq_true rfl, Nat.le_of_ble_eq_true rfl⟩) hS (fun r3 u H locs q3 hP9 hD9 hT9 hS => ?_)
  obtain ⟨G3, w3⟩ := u
  obtain ⟨hX9, q3⟩ := q3
  have hX9 : cX none (chs [1, 8]) G ws G3 w3 := hX9
  have hP : va_P D vwCl w3 H := hP9
  have hD : va_D A w3 := hD9
  have hT : cT cy G3 w3 := hT9
  have hM_o := hX9.2.1 _ _ (cP.no hG_o rfl) hM_o
  have hG_o := hX9.1 _ _ hG_o
  have hG_bs_o := hX9.1 _ _ hG_bs_o
  have hG_js_o := hX9.1 _ _ hG_js_o
  have hG_sh_o := hX9.1 _ _ hG_sh_o
  have hG_wk_o := hX9.1 _ _ hG_wk_o
  have hG_ll_o := hX9.1 _ _ hG_ll_o
  have hX := hX.tr hX9
  rcases r3 with _ | x3
  · skip
    have vn3 := q3.2.1 rfl
    refine lv_astoreN (lv' := [(6, .null), (0, .ref o), (1, .int wide), (2, .int high), (3, .long p0), (5, .int col)]) hx hb dX9_even_6 hl (by decide) rfl (fun ls hl => ?_)
    refine lv_aloadN hx hb dX9_even_8 (lv_at hl 0 rfl) ?_
    refine lv_ifnullN (tgt := 22) hx hb dX9_even_10 (by decide) ?_
    refine lv_iconst (v := (-1)) hx hb dX9_even_22 (by decide) ?_
    refine W.widen (k := 4) (n := 502) (Nat.le_of_ble_eq_true rfl) (Nat.le_of_ble_eq_true rfl) ?_
    exact W.iret (v := ((-1) : Int32)) hx hb hr (fun t ht hW => ⟨⟨_, (G3, w3), rfl, ⟨hX, (Or.inr ⟨(fun z9 => by first | exact vn3 z9.1 | exact b19 z9.2), rfl⟩)⟩, by show va_P D vwCl w3 t.heap; rw [ht]; exact hP, hD, hT⟩, hS.F ht⟩) hS.2.2 dX9_even_23
  · skip
    have hG_x3 := q3.1 x3 rfl
    have vb3 := q3.2.2 x3 rfl
    refine lv_astore (lv' := [(6, .ref x3), (0, .ref o), (1, .int wide), (2, .int high), (3, .long p0), (5, .int col)]) hx hb dX9_even_6 hl (by decide) rfl (fun ls hl => ?_)
    refine lv_aload hx hb dX9_even_8 (lv_at hl 0 rfl) ?_
    refine lv_ifnull hx hb dX9_even_10 ?_
    refine lv_aload hx hb dX9_even_13 (lv_at hl 0 rfl) ?_
    refine lv_lload_n hx hb dX9_even_15 rfl (lv_at hl 4 rfl) ?_
    obtain ⟨_, hM_x3, hb_x3, l_x3, f_x3, r_x3, rfl, hG_l_x3, hG_f_x3, hG_r_x3⟩ := hT _ _ hG_x3
    refine t_calli (va_runV (g := F0 m 16 ls ([.long p0, .ref x3])) (As := [.long p0]) (rest := []) ⟨hx, hb, hml, hown, hts⟩ (c_X0_isPicture_x l D cy A G3 w3 x3 p0 hD hT hG_x3 ) (cwV 1 hts gX9_even_X0_isPicture rfl rfl rfl (by decide +kernel) ⟨Nat.le_of_ble_eq_true rfl, Nat.le_of_ble_eq_true rfl⟩) (c_preV hM_x3 rfl hP hK hA hS hV) rfl rfl hl.1 rfl (lv_room (Nat.le_of_ble_eq_true rfl)) dX9_even_16 ⟨Nat.le_of_ble_eq_true rfl, Nat.le_of_ble_eq_true rfl⟩) hS (fun r16 u H locs q16 hP9 hD9 hT9 hS => ?_)
    obtain ⟨rfl, q16⟩ := q16
    have hP : va_P D vwCl w3 H := hP9
    refine lv_if_ne (tgt := 24) hx hb dX9_even_19 (by decide) (fun c19 => ?_) (fun c19 => ?_)
    · skip
      have b19 := bo_t q16 c19
      refine lv_iload hx hb dX9_even_24 (lv_at hl 5 rfl) ?_
      refine lv_if_eq (tgt := 38) hx hb dX9_even_26 (by decide) (fun c26 => ?_) (fun c26 => ?_)
      · skip
        have d26 := c26
        rw [fa_eq] at d26
        refine lv_aload hx hb dX9_even_38 (lv_at hl 0 rfl) ?_
        refine lv_lload_n hx hb dX9_even_40 rfl (lv_at hl 4 rfl) ?_
        refine t_calli (va_runV (g := F0 m 41 ls ([.long p0, .ref x3])) (As := [.long p0]) (rest := []) ⟨hx, hb, hml, hown, hts⟩ (c_X0_rowsAreWhole_x l D cy A G3 w3 x3 p0 hD hT hG_x3 ) (cwV 1 hts gX9_even_X0_rowsAreWhole rfl rfl rfl (by decide +kernel) ⟨Nat.le_of_ble_eq_true rfl, Nat.le_of_ble_eq_true rfl⟩) (c_preV hM_x3 rfl hP hK hA hS hV) rfl rfl hl.1 rfl (lv_room (Nat.le_of_ble_eq_true rfl)) dX9_even_41 ⟨Nat.le_of_ble_eq_true rfl, Nat.le_of_ble_eq_true rfl⟩) hS (fun r41 u H locs q41 hP9 hD9 hT9 hS => ?_)
        obtain ⟨rfl, q41⟩ := q41
        have hP : va_P D vwCl w3 H := hP9
        refine lv_istore (lv' := [(7, .int r41), (6, .ref x3), (0, .ref o), (1, .int wide), (2, .int high), (3, .long p0), (5, .int col)]) hx hb dX9_even_44 hl (by decide) rfl (fun ls hl => ?_)
        refine lv_iload hx hb dX9_even_46 (lv_at hl 0 rfl) ?_
        refine lv_if_eq (tgt := 55) hx hb dX9_even_48 (by decide) (fun c48 => ?_) (fun c48 => ?_)
        · skip
          have b48 := bo_f q41 c48
          refine lv_iconst (v := 0) hx hb dX9_even_55 (by decide) ?_
          refine W.widen (k := 4) (n := 502) (Nat.le_of_ble_eq_true rfl) (Nat.le_of_ble_eq_true rfl) ?_
          exact W.iret (v := (0 : Int32)) hx hb hr (fun t ht hW => ⟨⟨_, (G3, w3), rfl, ⟨hX, (Or.inl ⟨⟨vb3, b19⟩, Or.inr ⟨rfl, (by first | (rw [if_neg c26]; exact b48) | (rw [if_pos c26]; exact b48))⟩⟩)⟩, by show va_P D vwCl w3 t.heap; rw [ht]; exact hP, hD, hT⟩, hS.F ht⟩) hS.2.2 dX9_even_56
        · skip
          have b48 := bo_t q41 c48
          refine lv_iconst (v := 1) hx hb dX9_even_51 (by decide) ?_
          refine lv_goto (tgt := 56) hx hb dX9_even_52 (by decide) ?_
          refine W.widen (k := 4) (n := 502) (Nat.le_of_ble_eq_true rfl) (Nat.le_of_ble_eq_true rfl) ?_
          exact W.iret (v := (1 : Int32)) hx hb hr (fun t ht hW => ⟨⟨_, (G3, w3), rfl, ⟨hX, (Or.inl ⟨⟨vb3, b19⟩, Or.inl ⟨rfl, (by first | (rw [if_neg c26]; exact b48) | (rw [if_pos c26]; exact b48))⟩⟩)⟩, by show va_P D vwCl w3 t.heap; rw [ht]; exact hP, hD, hT⟩, hS.F ht⟩) hS.2.2 dX9_even_56
      · skip
        have d26 := c26
        rw [fa_eq] at d26
        refine lv_aload hx hb dX9_even_29 (lv_at hl 0 rfl) ?_
        refine lv_lload_n hx hb dX9_even_31 rfl (lv_at hl 4 rfl) ?_
        refine t_calli (va_runV (g := F0 m 32 ls ([.long p0, .ref x3])) (As := [.long p0]) (rest := []) ⟨hx, hb, hml, hown, hts⟩ (c_X0_columnsAreWhole_x l D cy A G3 w3 x3 p0 hD hT hG_x3 ) (cwV 1 hts gX9_even_X0_columnsAreWhole rfl rfl rfl (by decide +kernel) ⟨Nat.le_of_ble_eq_true rfl, Nat.le_of_ble_eq_true rfl⟩) (c_preV hM_x3 rfl hP hK hA hS hV) rfl rfl hl.1 rfl (lv_room (Nat.le_of_ble_eq_true rfl)) dX9_even_32 ⟨Nat.le_of_ble_eq_true rfl, Nat.le_of_ble_eq_true rfl⟩) hS (fun r32 u H locs q32 hP9 hD9 hT9 hS => ?_)
        obtain ⟨rfl, q32⟩ := q32
        have hP : va_P D vwCl w3 H := hP9
        refine lv_goto (tgt := 44) hx hb dX9_even_35 (by decide) ?_
        refine lv_istore (lv' := [(7, .int r32), (6, .ref x3), (0, .ref o), (1, .int wide), (2, .int high), (3, .long p0), (5, .int col)]) hx hb dX9_even_44 hl (by decide) rfl (fun ls hl => ?_)
        refine lv_iload hx hb dX9_even_46 (lv_at hl 0 rfl) ?_
        refine lv_if_eq (tgt := 55) hx hb dX9_even_48 (by decide) (fun c48 => ?_) (fun c48 => ?_)
        · skip
          have b48 := bo_f q32 c48
          refine lv_iconst (v := 0) hx hb dX9_even_55 (by decide) ?_
          refine W.widen (k := 4) (n := 502) (Nat.le_of_ble_eq_true rfl) (Nat.le_of_ble_eq_true rfl) ?_
          exact W.iret (v := (0 : Int32)) hx hb hr (fun t ht hW => ⟨⟨_, (G3, w3), rfl, ⟨hX, (Or.inl ⟨⟨vb3, b19⟩, Or.inr ⟨rfl, (by first | (rw [if_neg c26]; exact b48) | (rw [if_pos c26]; exact b48))⟩⟩)⟩, by show va_P D vwCl w3 t.heap; rw [ht]; exact hP, hD, hT⟩, hS.F ht⟩) hS.2.2 dX9_even_56
        · skip
          have b48 := bo_t q32 c48
          refine lv_iconst (v := 1) hx hb dX9_even_51 (by decide) ?_
          refine lv_goto (tgt := 56) hx hb dX9_even_52 (by decide) ?_
          refine W.widen (k := 4) (n := 502) (Nat.le_of_ble_eq_true rfl) (Nat.le_of_ble_eq_true rfl) ?_
          exact W.iret (v := (1 : Int32)) hx hb hr (fun t ht hW => ⟨⟨_, (G3, w3), rfl, ⟨hX, (Or.inl ⟨⟨vb3, b19⟩, Or.inl ⟨rfl, (by first | (rw [if_neg c26]; exact b48) | (rw [if_pos c26]; exact b48))⟩⟩)⟩, by show va_P D vwCl w3 t.heap; rw [ht]; exact hP, hD, hT⟩, hS.F ht⟩) hS.2.2 dX9_even_56
    · skip
      have b19 := bo_f q16 c19
      refine lv_iconst (v := (-1)) hx hb dX9_even_22 (by decide) ?_
      refine W.widen (k := 4) (n := 502) (Nat.le_of_ble_eq_true rfl) (Nat.le_of_ble_eq_true rfl) ?_
      exact W.iret (v := ((-1) : Int32)) hx hb hr (fun t ht hW => ⟨⟨_, (G3, w3), rfl, ⟨hX, (Or.inr ⟨(fun z9 => by first | exact vn3 z9.1 | exact b19 z9.2), rfl⟩)⟩, by show va_P D vwCl w3 t.heap; rw [ht]; exact hP, hD, hT⟩, hS.F ht⟩) hS.2.2 dX9_even_23
set_option maxHeartbeats 4000000 in
set_option maxRecDepth 100000 in
theorem c_X10_isEven_x (l : Launch) (w : Int32) (h : Int32) (p0 : Int64) (col : Int32) (hw : 1 ≤ w.toInt ∧ w.toInt ≤ 6) (hh : 1 ≤ h.toInt ∧ h.toInt ≤ 6) : Pu l yX10_isEven wsX10_isEven ({ frames := 1, cells := 0, slots := 0, locals := 22 }) [.int w, .int h, .long p0, .int col] (fun r => Bo r (if col = 0 then rowsW w.toNatClampNeg h.toNatClampNeg p0 else colsW w.toNatClampNeg h.toNatClampNeg p0)) := by
  refine Met.ofW (cc := cX10_isEven) (maxL := 13) (ret := (some .boolean)) (by decide) rfl ?_
  intro p e s m args below meth c s₁ B hml hv
  obtain ⟨rfl, -⟩ := hv
  have hx := B.exec
  have hb := B.bytes
  have hr := B.returns
  have hts := atoms_spec (ws := wsX10_isEven) B.pre
  have hown : s.vm.findClass RX10 = some m.cls := findClass_of_methodNamed B.named
  have hlocks := B.notSynchronized
  have hS : va_S (fun _ => False) s.heap s.heap [] := va_S.rf
  have hl := lv_entry ([.int w, .int h, .long p0, .int col]) (n := 13) (Nat.le_of_ble_eq_true rfl)
  rw [lg_entry_eq]
  generalize (lg_sl ([.int w, .int h, .long p0, .int col]) ++ List.replicate (13 - (lg_sl ([.int w, .int h, .long p0, .int col])).length) Slot.unset).toArray = ls at hl ⊢
  have hl : lv_has ls 13 [(0, .int w), (1, .int h), (2, .long p0), (4, .int col)] := hl
  have hS0 := hS
  have k_0 : (0 : Int32).toInt = 0 := by decide
  have k_1 : (1 : Int32).toInt = 1 := by decide
  have k_2 : (2 : Int32).toInt = 2 := by decide
  obtain ⟨ha, hb9, h36, hwh⟩ := wh36 hw hh
  have ew := cl_nI (w := w) (by omega)
  have eh := cl_nI (w := h) (by omega)
  obtain ⟨A9, hA9⟩ : ∃ z, z = w.toNatClampNeg := ⟨_, rfl⟩
  obtain ⟨B9, hB9⟩ : ∃ z, z = h.toNatClampNeg := ⟨_, rfl⟩
  rw [← hA9] at ha h36 hwh ew
  rw [← hB9] at hb9 h36 hwh eh
  have aw : w.toInt = (A9 : Int) := by rw [← ew]; exact nI_toInt (by omega)
  have ah : h.toInt = (B9 : Int) := by rw [← eh]; exact nI_toInt (by omega)
  refine lv_iload hx hb dX10_isEven_0 (lv_at hl 3 rfl) ?_
  refine lv_if_eq (tgt := 9) hx hb dX10_isEven_2 (by decide) (fun c2 => ?_) (fun c2 => ?_)
  · skip
    have d2 := c2
    rw [fa_eq] at d2
    refine lv_iload_n hx hb dX10_isEven_9 rfl (lv_at hl 1 rfl) ?_
    refine lv_istore (lv' := [(5, .int h), (0, .int w), (1, .int h), (2, .long p0), (4, .int col)]) hx hb dX10_isEven_10 hl (by decide) rfl (fun ls hl => ?_)
    refine lv_iload hx hb dX10_isEven_12 (lv_at hl 4 rfl) ?_
    refine lv_if_eq (tgt := 21) hx hb dX10_isEven_14 (by decide) (fun c14 => ?_) (fun c14 => ?_)
    · skip
      have d14 := c14
      rw [fa_eq] at d14
      refine lv_iload_n hx hb dX10_isEven_21 rfl (lv_at hl 1 rfl) ?_
      refine lv_istore (lv' := [(6, .int w), (5, .int h), (0, .int w), (1, .int h), (2, .long p0), (4, .int col)]) hx hb dX10_isEven_22 hl (by decide) rfl (fun ls hl => ?_)
      first | have hE : eLin A9 B9 col = B9 ∧ eMany A9 B9 col = A9 := (by unfold eLin eMany; rw [if_pos c2, if_pos c2]; exact ⟨rfl, rfl⟩) | have hE : eLin A9 B9 col = A9 ∧ eMany A9 B9 col = B9 := (by unfold eLin eMany; rw [if_neg c2, if_neg c2]; exact ⟨rfl, rfl⟩)
      refine lv_iconst (v := 1) hx hb dX10_isEven_24 (by decide) ?_
      refine lv_istore (lv' := [(7, .int (1 : Int32)), (6, .int w), (5, .int h), (0, .int w), (1, .int h), (2, .long p0), (4, .int col)]) hx hb dX10_isEven_25 hl (by decide) rfl (fun ls hl => ?_)
      refine lv_iconst (v := 0) hx hb dX10_isEven_27 (by decide) ?_
      refine lv_istore (lv' := [(8, .int (0 : Int32)), (7, .int (1 : Int32)), (6, .int w), (5, .int h), (0, .int w), (1, .int h), (2, .long p0), (4, .int col)]) hx hb dX10_isEven_28 hl (by decide) rfl (fun ls hl => ?_)
      have loop_30 : ∀ (n : Nat) (k : Nat) (x7 : Int32), (k ≤ eLin A9 B9 col) → ((x7 = 1 ∧ ∀ l, l < k → eB (eS A9 p0 col l) (eMany A9 B9 col) < 2) ∨ (x7 = 0 ∧ ¬ ∀ l, l < k → eB (eS A9 p0 col l) (eMany A9 B9 col) < 2)) → 7 - k < n → ∀ (H : Heap) (locs : List Loc), va_S (fun _ => False) s.heap H locs → ∀ (ls : Array Slot), lv_has ls 13 [(8, .int (nI k)), (7, .int x7), (6, .int w), (5, .int h), (0, .int w), (1, .int h), (2, .long p0), (4, .int col)] → W p l e (headSpec wsX10_isEven ({ frames := 1, cells := 0, slots := 0, locals := 22 })).room s m #[Value.int w, Value.int h, Value.long p0, Value.int col] below meth c H locs 0 0 (MQ below (va_Qi (fun r (_ : Unit) => Bo r (if col = 0 then rowsW w.toNatClampNeg h.toNatClampNeg p0 else colsW w.toNatClampNeg h.toNatClampNeg p0)) (fun _ _ => True) (fun _ => False)) #[Value.int w, Value.int h, Value.long p0, Value.int col] s 0 0 (fun _ => False)) (F0 m 30 ls []) := by
        intro n
        induction n with
        | zero => intro k x7 j30_0 j30_1 hn; exact absurd hn (Nat.not_lt_zero _)
        | succ n ih_30 =>
          intro k x7 j30_0 j30_1 hn_30 H locs hS ls hl
          have hlk : k ≤ 6 := by omega
          have ik : (nI k).toInt = (k : Int) := nI_toInt (by omega)
          refine lv_iload hx hb dX10_isEven_30 (lv_at hl 0 rfl) ?_
          refine lv_iload hx hb dX10_isEven_32 (lv_at hl 3 rfl) ?_
          refine lv_icmp_ge (tgt := 136) hx hb dX10_isEven_34 (by decide) (fun c34 => ?_) (fun c34 => ?_)
          · skip
            have d34 := c34
            rw [fa_le] at d34
            refine lv_iload hx hb dX10_isEven_136 (lv_at hl 1 rfl) ?_
            exact W.zret (v := x7) hx hb hr (by first | decide | (rcases j30_1 with ⟨z, _⟩ | ⟨z, _⟩ <;> rw [z] <;> rfl)) (fun t ht hW => ⟨⟨_, (), rfl, (by rw [← hA9, ← hB9]; have z9 : k = eLin A9 B9 col := (by omega); subst z9; rcases j30_1 with ⟨z, y⟩ | ⟨z, y⟩; exact Or.inl ⟨z, e_all.mp y⟩; exact Or.inr ⟨z, fun u => y (e_all.mpr u)⟩), trivial⟩, hS.F ht⟩) hS.2.2 dX10_isEven_138
          · skip
            have d34 := c34
            rw [fa_le] at d34
            refine lv_iconst (v := 0) hx hb dX10_isEven_37 (by decide) ?_
            refine lv_istore (lv' := [(9, .int (0 : Int32)), (8, .int (nI k)), (7, .int x7), (6, .int w), (5, .int h), (0, .int w), (1, .int h), (2, .long p0), (4, .int col)]) hx hb dX10_isEven_38 hl (by decide) rfl (fun ls hl => ?_)
            refine lv_iconst (v := 0) hx hb dX10_isEven_40 (by decide) ?_
            refine lv_istore (lv' := [(10, .int (0 : Int32)), (9, .int (0 : Int32)), (8, .int (nI k)), (7, .int x7), (6, .int w), (5, .int h), (0, .int w), (1, .int h), (2, .long p0), (4, .int col)]) hx hb dX10_isEven_41 hl (by decide) rfl (fun ls hl => ?_)
            refine lv_iconst (v := 0) hx hb dX10_isEven_43 (by decide) ?_
            refine lv_istore (lv' := [(11, .int (0 : Int32)), (10, .int (0 : Int32)), (9, .int (0 : Int32)), (8, .int (nI k)), (7, .int x7), (6, .int w), (5, .int h), (0, .int w), (1, .int h), (2, .long p0), (4, .int col)]) hx hb dX10_isEven_44 hl (by decide) rfl (fun ls hl => ?_)
            have loop_46 : ∀ (n : Nat) (i : Nat) (x10 : Int32) (x9 : Int32), (i ≤ eMany A9 B9 col) → (x9 = nI (eB (eS A9 p0 col k) i)) → (x10 = if eL (eS A9 p0 col k) i then 1 else 0) → 7 - i < n → ∀ (H : Heap) (locs : List Loc), va_S (fun _ => False) s.heap H locs → ∀ (ls : Array Slot), lv_has ls 13 [(11, .int (nI i)), (10, .int x10), (9, .int x9), (8, .int (nI k)), (7, .int x7), (6, .int w), (5, .int h), (0, .int w), (1, .int h), (2, .long p0), (4, .int col)] → W p l e (headSpec wsX10_isEven ({ frames := 1, cells := 0, slots := 0, locals := 22 })).room s m #[Value.int w, Value.int h, Value.long p0, Value.int col] below meth c H locs 0 0 (MQ below (va_Qi (fun r (_ : Unit) => Bo r (if col = 0 then rowsW w.toNatClampNeg h.toNatClampNeg p0 else colsW w.toNatClampNeg h.toNatClampNeg p0)) (fun _ _ => True) (fun _ => False)) #[Value.int w, Value.int h, Value.long p0, Value.int col] s 0 0 (fun _ => False)) (F0 m 46 ls []) := by
              intro n
              induction n with
              | zero => intro i x10 x9 j46_0 j46_1 j46_2 hn; exact absurd hn (Nat.not_lt_zero _)
              | succ n ih_46 =>
                intro i x10 x9 j46_0 j46_1 j46_2 hn_46 H locs hS ls hl
                have hli : i ≤ 6 := by omega
                have ii : (nI i).toInt = (i : Int) := nI_toInt (by omega)
                refine lv_iload hx hb dX10_isEven_46 (lv_at hl 0 rfl) ?_
                refine lv_iload hx hb dX10_isEven_48 (lv_at hl 5 rfl) ?_
                refine lv_icmp_ge (tgt := 112) hx hb dX10_isEven_50 (by decide) (fun c50 => ?_) (fun c50 => ?_)
                · skip
                  have d50 := c50
                  rw [fa_le] at d50
                  have him : i = eMany A9 B9 col := by omega
                  have ibe : x9.toInt = (eB (eS A9 p0 col k) (eMany A9 B9 col) : Int) := by rw [j46_1, ← him]; exact nI_toInt (by have := eB_b (eS A9 p0 col k) i; omega)
                  refine lv_iload hx hb dX10_isEven_112 (lv_at hl 4 rfl) ?_
                  refine lv_if_eq (tgt := 127) hx hb dX10_isEven_114 (by decide) (fun c114 => ?_) (fun c114 => ?_)
                  · skip
                    have d114 := c114
                    rw [fa_eq] at d114
                    refine lv_iconst (v := 0) hx hb dX10_isEven_127 (by decide) ?_
                    refine lv_istore (lv' := [(7, .int (0 : Int32)), (11, .int (nI i)), (10, .int x10), (9, .int x9), (8, .int (nI k)), (6, .int w), (5, .int h), (0, .int w), (1, .int h), (2, .long p0), (4, .int col)]) hx hb dX10_isEven_128 hl (by decide) rfl (fun ls hl => ?_)
                    refine lv_iinc (v := (nI (k + 1))) (lv' := [(8, .int (nI (k + 1))), (7, .int (0 : Int32)), (11, .int (nI i)), (10, .int x10), (9, .int x9), (6, .int w), (5, .int h), (0, .int w), (1, .int h), (2, .long p0), (4, .int col)]) hx hb dX10_isEven_130 hl (k := 4) rfl (nI_1 _) (by decide) rfl (fun ls hl => ?_)
                    refine lv_goto (tgt := 30) hx hb dX10_isEven_133 (by decide) ?_
                    exact ih_30 (k + 1) (0 : Int32) (by omega) (by
            first
            | exact Or.inl ⟨rfl, fun l hl => by
                by_cases e9 : l = k
                · rw [e9]; omega
                · rcases j30_1 with ⟨_, y⟩ | ⟨z, _⟩
                  · exact y l (by omega)
                  · exact absurd z c114⟩
            | exact Or.inr ⟨rfl, fun u => by have := u k (by omega); omega⟩
            | exact Or.inr ⟨rfl, fun u => by rcases j30_1 with ⟨z, _⟩ | ⟨_, y⟩; exact absurd (z.symm.trans c114) (by decide); exact y (fun l hl => u l (by omega))⟩) (by omega) _ _ hS ls (lv_sub hl [0, 1, 5, 6, 7, 8, 9, 10] rfl)
                  · skip
                    have d114 := c114
                    rw [fa_eq] at d114
                    refine lv_iload hx hb dX10_isEven_117 (lv_at hl 2 rfl) ?_
                    refine lv_iconst (v := 2) hx hb dX10_isEven_119 (by decide) ?_
                    refine lv_icmp_ge (tgt := 127) hx hb dX10_isEven_120 (by decide) (fun c120 => ?_) (fun c120 => ?_)
                    · skip
                      have d120 := c120
                      rw [fa_le] at d120
                      refine lv_iconst (v := 0) hx hb dX10_isEven_127 (by decide) ?_
                      refine lv_istore (lv' := [(7, .int (0 : Int32)), (11, .int (nI i)), (10, .int x10), (9, .int x9), (8, .int (nI k)), (6, .int w), (5, .int h), (0, .int w), (1, .int h), (2, .long p0), (4, .int col)]) hx hb dX10_isEven_128 hl (by decide) rfl (fun ls hl => ?_)
                      refine lv_iinc (v := (nI (k + 1))) (lv' := [(8, .int (nI (k + 1))), (7, .int (0 : Int32)), (11, .int (nI i)), (10, .int x10), (9, .int x9), (6, .int w), (5, .int h), (0, .int w), (1, .int h), (2, .long p0), (4, .int col)]) hx hb dX10_isEven_130 hl (k := 4) rfl (nI_1 _) (by decide) rfl (fun ls hl => ?_)
                      refine lv_goto (tgt := 30) hx hb dX10_isEven_133 (by decide) ?_
                      exact ih_30 (k + 1) (0 : Int32) (by omega) (by
            first
            | exact Or.inl ⟨rfl, fun l hl => by
                by_cases e9 : l = k
                · rw [e9]; omega
                · rcases j30_1 with ⟨_, y⟩ | ⟨z, _⟩
                  · exact y l (by omega)
                  · exact absurd z c114⟩
            | exact Or.inr ⟨rfl, fun u => by have := u k (by omega); omega⟩
            | exact Or.inr ⟨rfl, fun u => by rcases j30_1 with ⟨z, _⟩ | ⟨_, y⟩; exact absurd (z.symm.trans c114) (by decide); exact y (fun l hl => u l (by omega))⟩) (by omega) _ _ hS ls (lv_sub hl [0, 1, 5, 6, 7, 8, 9, 10] rfl)
                    · skip
                      have d120 := c120
                      rw [fa_le] at d120
                      refine lv_iconst (v := 1) hx hb dX10_isEven_123 (by decide) ?_
                      refine lv_goto (tgt := 128) hx hb dX10_isEven_124 (by decide) ?_
                      refine lv_istore (lv' := [(7, .int (1 : Int32)), (11, .int (nI i)), (10, .int x10), (9, .int x9), (8, .int (nI k)), (6, .int w), (5, .int h), (0, .int w), (1, .int h), (2, .long p0), (4, .int col)]) hx hb dX10_isEven_128 hl (by decide) rfl (fun ls hl => ?_)
                      refine lv_iinc (v := (nI (k + 1))) (lv' := [(8, .int (nI (k + 1))), (7, .int (1 : Int32)), (11, .int (nI i)), (10, .int x10), (9, .int x9), (6, .int w), (5, .int h), (0, .int w), (1, .int h), (2, .long p0), (4, .int col)]) hx hb dX10_isEven_130 hl (k := 4) rfl (nI_1 _) (by decide) rfl (fun ls hl => ?_)
                      refine lv_goto (tgt := 30) hx hb dX10_isEven_133 (by decide) ?_
                      exact ih_30 (k + 1) (1 : Int32) (by omega) (by
            first
            | exact Or.inl ⟨rfl, fun l hl => by
                by_cases e9 : l = k
                · rw [e9]; omega
                · rcases j30_1 with ⟨_, y⟩ | ⟨z, _⟩
                  · exact y l (by omega)
                  · exact absurd z c114⟩
            | exact Or.inr ⟨rfl, fun u => by have := u k (by omega); omega⟩
            | exact Or.inr ⟨rfl, fun u => by rcases j30_1 with ⟨z, _⟩ | ⟨_, y⟩; exact absurd (z.symm.trans c114) (by decide); exact y (fun l hl => u l (by omega))⟩) (by omega) _ _ hS ls (lv_sub hl [0, 1, 5, 6, 7, 8, 9, 10] rfl)
                · skip
                  have d50 := c50
                  rw [fa_le] at d50
                  refine lv_lload_n hx hb dX10_isEven_53 rfl (lv_at hl 9 rfl) ?_
                  refine lv_iload hx hb dX10_isEven_54 (lv_at hl 10 rfl) ?_
                  refine lv_if_eq (tgt := 69) hx hb dX10_isEven_56 (by decide) (fun c56 => ?_) (fun c56 => ?_)
                  · skip
                    have d56 := c56
                    rw [fa_eq] at d56
                    refine lv_iload hx hb dX10_isEven_69 (lv_at hl 3 rfl) ?_
                    refine lv_iload_n hx hb dX10_isEven_71 rfl (lv_at hl 7 rfl) ?_
                    refine lv_imul hx hb dX10_isEven_72 ?_
                    refine lv_topi (fun v72 e72 => ?_)
                    refine lv_iload hx hb dX10_isEven_73 (lv_at hl 0 rfl) ?_
                    refine lv_iadd hx hb dX10_isEven_75 ?_
                    refine lv_topi (fun v75 e75 => ?_)
                    refine pu_call (As := [.long p0, .int v75]) (rest := []) ⟨hx, hb, hml, hown, hts⟩ (c_X10_one l p0 v75 ) (va_cwS 2 hts gX10_isEven_X10_one rfl rfl rfl (by decide +kernel) ⟨Nat.le_of_ble_eq_true rfl, Nat.le_of_ble_eq_true rfl⟩) rfl hl.1 rfl (Nat.le_of_ble_eq_true rfl) dX10_isEven_76 ⟨Nat.le_of_ble_eq_true rfl, Nat.le_of_ble_eq_true rfl⟩ hS (fun r76 H locs q76 hS => ?_)
                    have i76 : r76.toInt = (r_one p0 v75).toInt := congrArg Int32.toInt q76
                    have f76 : r76 = if eS A9 p0 col k i then 1 else 0 := by
                      have hkm : k * A9 ≤ 6 * 6 ∧ i * A9 ≤ 6 * 6 := ⟨Nat.mul_le_mul (by omega) (by omega), Nat.mul_le_mul (by omega) (by omega)⟩
                      rw [q76]
                      unfold eS rB
                      first
                      | (rw [if_neg c56, e65, e62, ← ew, pk_mul, nI_add]; exact one_lb p0 (by omega))
                      | (rw [if_pos c56, e75, e72, ← ew, pk_mul, nI_add]; exact one_lb p0 (by omega))
                    refine lv_istore (lv' := [(12, .int r76), (11, .int (nI i)), (10, .int x10), (9, .int x9), (8, .int (nI k)), (7, .int x7), (6, .int w), (5, .int h), (0, .int w), (1, .int h), (2, .long p0), (4, .int col)]) hx hb dX10_isEven_79 hl (by decide) rfl (fun ls hl => ?_)
                    refine lv_iload hx hb dX10_isEven_81 (lv_at hl 3 rfl) ?_
                    refine lv_iload hx hb dX10_isEven_83 (lv_at hl 0 rfl) ?_
                    refine lv_iconst (v := 1) hx hb dX10_isEven_85 (by decide) ?_
                    refine lv_icmp_ne (tgt := 98) hx hb dX10_isEven_86 (by decide) (fun c86 => ?_) (fun c86 => ?_)
                    · skip
                      have d86 := c86
                      rw [fa_eq] at d86
                      refine lv_iconst (v := 0) hx hb dX10_isEven_98 (by decide) ?_
                      refine lv_iadd hx hb dX10_isEven_99 ?_
                      refine lv_topi (fun v99 e99 => ?_)
                      refine lv_istore (lv' := [(9, .int v99), (12, .int r76), (11, .int (nI i)), (10, .int x10), (8, .int (nI k)), (7, .int x7), (6, .int w), (5, .int h), (0, .int w), (1, .int h), (2, .long p0), (4, .int col)]) hx hb dX10_isEven_100 hl (by decide) rfl (fun ls hl => ?_)
                      have hbg := eB_st f76 j46_2 j46_1 (by first | exact Or.inl ⟨c86, c91, e99⟩ | exact Or.inr ⟨fun z => c86 z.1, e99⟩ | exact Or.inr ⟨fun z => c91 z.2, e99⟩)
                      refine lv_iload hx hb dX10_isEven_102 (lv_at hl 1 rfl) ?_
                      refine lv_istore (lv' := [(10, .int r76), (9, .int v99), (12, .int r76), (11, .int (nI i)), (8, .int (nI k)), (7, .int x7), (6, .int w), (5, .int h), (0, .int w), (1, .int h), (2, .long p0), (4, .int col)]) hx hb dX10_isEven_104 hl (by decide) rfl (fun ls hl => ?_)
                      refine lv_iinc (v := (nI (i + 1))) (lv' := [(11, .int (nI (i + 1))), (10, .int r76), (9, .int v99), (12, .int r76), (8, .int (nI k)), (7, .int x7), (6, .int w), (5, .int h), (0, .int w), (1, .int h), (2, .long p0), (4, .int col)]) hx hb dX10_isEven_106 hl (k := 3) rfl (nI_1 _) (by decide) rfl (fun ls hl => ?_)
                      refine lv_goto (tgt := 46) hx hb dX10_isEven_109 (by decide) ?_
                      exact ih_46 (i + 1) r76 v99 (by omega) (hbg) (f76) (by omega) _ _ hS ls (lv_sub hl [0, 1, 2, 4, 5, 6, 7, 8, 9, 10, 11] rfl)
                    · skip
                      have d86 := c86
                      rw [fa_eq] at d86
                      refine lv_iload hx hb dX10_isEven_89 (lv_at hl 2 rfl) ?_
                      refine lv_if_ne (tgt := 98) hx hb dX10_isEven_91 (by decide) (fun c91 => ?_) (fun c91 => ?_)
                      · skip
                        have d91 := c91
                        rw [fa_eq] at d91
                        refine lv_iconst (v := 0) hx hb dX10_isEven_98 (by decide) ?_
                        refine lv_iadd hx hb dX10_isEven_99 ?_
                        refine lv_topi (fun v99 e99 => ?_)
                        refine lv_istore (lv' := [(9, .int v99), (12, .int r76), (11, .int (nI i)), (10, .int x10), (8, .int (nI k)), (7, .int x7), (6, .int w), (5, .int h), (0, .int w), (1, .int h), (2, .long p0), (4, .int col)]) hx hb dX10_isEven_100 hl (by decide) rfl (fun ls hl => ?_)
                        have hbg := eB_st f76 j46_2 j46_1 (by first | exact Or.inl ⟨c86, c91, e99⟩ | exact Or.inr ⟨fun z => c86 z.1, e99⟩ | exact Or.inr ⟨fun z => c91 z.2, e99⟩)
                        refine lv_iload hx hb dX10_isEven_102 (lv_at hl 1 rfl) ?_
                        refine lv_istore (lv' := [(10, .int r76), (9, .int v99), (12, .int r76), (11, .int (nI i)), (8, .int (nI k)), (7, .int x7), (6, .int w), (5, .int h), (0, .int w), (1, .int h), (2, .long p0), (4, .int col)]) hx hb dX10_isEven_104 hl (by decide) rfl (fun ls hl => ?_)
                        refine lv_iinc (v := (nI (i + 1))) (lv' := [(11, .int (nI (i + 1))), (10, .int r76), (9, .int v99), (12, .int r76), (8, .int (nI k)), (7, .int x7), (6, .int w), (5, .int h), (0, .int w), (1, .int h), (2, .long p0), (4, .int col)]) hx hb dX10_isEven_106 hl (k := 3) rfl (nI_1 _) (by decide) rfl (fun ls hl => ?_)
                        refine lv_goto (tgt := 46) hx hb dX10_isEven_109 (by decide) ?_
                        exact ih_46 (i + 1) r76 v99 (by omega) (hbg) (f76) (by omega) _ _ hS ls (lv_sub hl [0, 1, 2, 4, 5, 6, 7, 8, 9, 10, 11] rfl)
                      · skip
                        have d91 := c91
                        rw [fa_eq] at d91
                        refine lv_iconst (v := 1) hx hb dX10_isEven_94 (by decide) ?_
                        refine lv_goto (tgt := 99) hx hb dX10_isEven_95 (by decide) ?_
                        refine lv_iadd hx hb dX10_isEven_99 ?_
                        refine lv_topi (fun v99 e99 => ?_)
                        refine lv_istore (lv' := [(9, .int v99), (12, .int r76), (11, .int (nI i)), (10, .int x10), (8, .int (nI k)), (7, .int x7), (6, .int w), (5, .int h), (0, .int w), (1, .int h), (2, .long p0), (4, .int col)]) hx hb dX10_isEven_100 hl (by decide) rfl (fun ls hl => ?_)
                        have hbg := eB_st f76 j46_2 j46_1 (by first | exact Or.inl ⟨c86, c91, e99⟩ | exact Or.inr ⟨fun z => c86 z.1, e99⟩ | exact Or.inr ⟨fun z => c91 z.2, e99⟩)
                        refine lv_iload hx hb dX10_isEven_102 (lv_at hl 1 rfl) ?_
                        refine lv_istore (lv' := [(10, .int r76), (9, .int v99), (12, .int r76), (11, .int (nI i)), (8, .int (nI k)), (7, .int x7), (6, .int w), (5, .int h), (0, .int w), (1, .int h), (2, .long p0), (4, .int col)]) hx hb dX10_isEven_104 hl (by decide) rfl (fun ls hl => ?_)
                        refine lv_iinc (v := (nI (i + 1))) (lv' := [(11, .int (nI (i + 1))), (10, .int r76), (9, .int v99), (12, .int r76), (8, .int (nI k)), (7, .int x7), (6, .int w), (5, .int h), (0, .int w), (1, .int h), (2, .long p0), (4, .int col)]) hx hb dX10_isEven_106 hl (k := 3) rfl (nI_1 _) (by decide) rfl (fun ls hl => ?_)
                        refine lv_goto (tgt := 46) hx hb dX10_isEven_109 (by decide) ?_
                        exact ih_46 (i + 1) r76 v99 (by omega) (hbg) (f76) (by omega) _ _ hS ls (lv_sub hl [0, 1, 2, 4, 5, 6, 7, 8, 9, 10, 11] rfl)
                  · first | exact absurd c56 c14 | exact absurd c14 c56
            exact loop_46 (7 + 1) 0 (0 : Int32) (0 : Int32) (by omega) (rfl) (rfl) (by omega) _ _ hS ls (lv_sub hl [0, 1, 2, 3, 4, 5, 6, 7, 8, 9, 10] rfl)
      exact loop_30 (7 + 1) 0 (1 : Int32) (by omega) (Or.inl ⟨rfl, fun l hl => absurd hl (Nat.not_lt_zero _)⟩) (by omega) _ _ hS ls (lv_sub hl [0, 1, 2, 3, 4, 5, 6, 7] rfl)
    · first | exact absurd c14 c2 | exact absurd c2 c14
  · skip
    have d2 := c2
    rw [fa_eq] at d2
    refine lv_iload_n hx hb dX10_isEven_5 rfl (lv_at hl 0 rfl) ?_
    refine lv_goto (tgt := 10) hx hb dX10_isEven_6 (by decide) ?_
    refine lv_istore (lv' := [(5, .int w), (0, .int w), (1, .int h), (2, .long p0), (4, .int col)]) hx hb dX10_isEven_10 hl (by decide) rfl (fun ls hl => ?_)
    refine lv_iload hx hb dX10_isEven_12 (lv_at hl 4 rfl) ?_
    refine lv_if_eq (tgt := 21) hx hb dX10_isEven_14 (by decide) (fun c14 => ?_) (fun c14 => ?_)
    · first | exact absurd c14 c2 | exact absurd c2 c14
    · skip
      have d14 := c14
      rw [fa_eq] at d14
      refine lv_iload_n hx hb dX10_isEven_17 rfl (lv_at hl 2 rfl) ?_
      refine lv_goto (tgt := 22) hx hb dX10_isEven_18 (by decide) ?_
      refine lv_istore (lv' := [(6, .int h), (5, .int w), (0, .int w), (1, .int h), (2, .long p0), (4, .int col)]) hx hb dX10_isEven_22 hl (by decide) rfl (fun ls hl => ?_)
      first | have hE : eLin A9 B9 col = B9 ∧ eMany A9 B9 col = A9 := (by unfold eLin eMany; rw [if_pos c2, if_pos c2]; exact ⟨rfl, rfl⟩) | have hE : eLin A9 B9 col = A9 ∧ eMany A9 B9 col = B9 := (by unfold eLin eMany; rw [if_neg c2, if_neg c2]; exact ⟨rfl, rfl⟩)
      refine lv_iconst (v := 1) hx hb dX10_isEven_24 (by decide) ?_
      refine lv_istore (lv' := [(7, .int (1 : Int32)), (6, .int h), (5, .int w), (0, .int w), (1, .int h), (2, .long p0), (4, .int col)]) hx hb dX10_isEven_25 hl (by decide) rfl (fun ls hl => ?_)
      refine lv_iconst (v := 0) hx hb dX10_isEven_27 (by decide) ?_
      refine lv_istore (lv' := [(8, .int (0 : Int32)), (7, .int (1 : Int32)), (6, .int h), (5, .int w), (0, .int w), (1, .int h), (2, .long p0), (4, .int col)]) hx hb dX10_isEven_28 hl (by decide) rfl (fun ls hl => ?_)
      have loop_30 : ∀ (n : Nat) (k : Nat) (x7 : Int32), (k ≤ eLin A9 B9 col) → ((x7 = 1 ∧ ∀ l, l < k → eB (eS A9 p0 col l) (eMany A9 B9 col) < 2) ∨ (x7 = 0 ∧ ¬ ∀ l, l < k → eB (eS A9 p0 col l) (eMany A9 B9 col) < 2)) → 7 - k < n → ∀ (H : Heap) (locs : List Loc), va_S (fun _ => False) s.heap H locs → ∀ (ls : Array Slot), lv_has ls 13 [(8, .int (nI k)), (7, .int x7), (6, .int h), (5, .int w), (0, .int w), (1, .int h), (2, .long p0), (4, .int col)] → W p l e (headSpec wsX10_isEven ({ frames := 1, cells := 0, slots := 0, locals := 22 })).room s m #[Value.int w, Value.int h, Value.long p0, Value.int col] below meth c H locs 0 0 (MQ below (va_Qi (fun r (_ : Unit) => Bo r (if col = 0 then rowsW w.toNatClampNeg h.toNatClampNeg p0 else colsW w.toNatClampNeg h.toNatClampNeg p0)) (fun _ _ => True) (fun _ => False)) #[Value.int w, Value.int h, Value.long p0, Value.int col] s 0 0 (fun _ => False)) (F0 m 30 ls []) := by
        intro n
        induction n with
        | zero => intro k x7 j30_0 j30_1 hn; exact absurd hn (Nat.not_lt_zero _)
        | succ n ih_30 =>
          intro k x7 j30_0 j30_1 hn_30 H locs hS ls hl
          have hlk : k ≤ 6 := by omega
          have ik : (nI k).toInt = (k : Int) := nI_toInt (by omega)
          refine lv_iload hx hb dX10_isEven_30 (lv_at hl 0 rfl) ?_
          refine lv_iload hx hb dX10_isEven_32 (lv_at hl 3 rfl) ?_
          refine lv_icmp_ge (tgt := 136) hx hb dX10_isEven_34 (by decide) (fun c34 => ?_) (fun c34 => ?_)
          · skip
            have d34 := c34
            rw [fa_le] at d34
            refine lv_iload hx hb dX10_isEven_136 (lv_at hl 1 rfl) ?_
            exact W.zret (v := x7) hx hb hr (by first | decide | (rcases j30_1 with ⟨z, _⟩ | ⟨z, _⟩ <;> rw [z] <;> rfl)) (fun t ht hW => ⟨⟨_, (), rfl, (by rw [← hA9, ← hB9]; have z9 : k = eLin A9 B9 col := (by omega); subst z9; rcases j30_1 with ⟨z, y⟩ | ⟨z, y⟩; exact Or.inl ⟨z, e_all.mp y⟩; exact Or.inr ⟨z, fun u => y (e_all.mpr u)⟩), trivial⟩, hS.F ht⟩) hS.2.2 dX10_isEven_138
          · skip
            have d34 := c34
            rw [fa_le] at d34
            refine lv_iconst (v := 0) hx hb dX10_isEven_37 (by decide) ?_
            refine lv_istore (lv' := [(9, .int (0 : Int32)), (8, .int (nI k)), (7, .int x7), (6, .int h), (5, .int w), (0, .int w), (1, .int h), (2, .long p0), (4, .int col)]) hx hb dX10_isEven_38 hl (by decide) rfl (fun ls hl => ?_)
            refine lv_iconst (v := 0) hx hb dX10_isEven_40 (by decide) ?_
            refine lv_istore (lv' := [(10, .int (0 : Int32)), (9, .int (0 : Int32)), (8, .int (nI k)), (7, .int x7), (6, .int h), (5, .int w), (0, .int w), (1, .int h), (2, .long p0), (4, .int col)]) hx hb dX10_isEven_41 hl (by decide) rfl (fun ls hl => ?_)
            refine lv_iconst (v := 0) hx hb dX10_isEven_43 (by decide) ?_
            refine lv_istore (lv' := [(11, .int (0 : Int32)), (10, .int (0 : Int32)), (9, .int (0 : Int32)), (8, .int (nI k)), (7, .int x7), (6, .int h), (5, .int w), (0, .int w), (1, .int h), (2, .long p0), (4, .int col)]) hx hb dX10_isEven_44 hl (by decide) rfl (fun ls hl => ?_)
            have loop_46 : ∀ (n : Nat) (i : Nat) (x10 : Int32) (x9 : Int32), (i ≤ eMany A9 B9 col) → (x9 = nI (eB (eS A9 p0 col k) i)) → (x10 = if eL (eS A9 p0 col k) i then 1 else 0) → 7 - i < n → ∀ (H : Heap) (locs : List Loc), va_S (fun _ => False) s.heap H locs → ∀ (ls : Array Slot), lv_has ls 13 [(11, .int (nI i)), (10, .int x10), (9, .int x9), (8, .int (nI k)), (7, .int x7), (6, .int h), (5, .int w), (0, .int w), (1, .int h), (2, .long p0), (4, .int col)] → W p l e (headSpec wsX10_isEven ({ frames := 1, cells := 0, slots := 0, locals := 22 })).room s m #[Value.int w, Value.int h, Value.long p0, Value.int col] below meth c H locs 0 0 (MQ below (va_Qi (fun r (_ : Unit) => Bo r (if col = 0 then rowsW w.toNatClampNeg h.toNatClampNeg p0 else colsW w.toNatClampNeg h.toNatClampNeg p0)) (fun _ _ => True) (fun _ => False)) #[Value.int w, Value.int h, Value.long p0, Value.int col] s 0 0 (fun _ => False)) (F0 m 46 ls []) := by
              intro n
              induction n with
              | zero => intro i x10 x9 j46_0 j46_1 j46_2 hn; exact absurd hn (Nat.not_lt_zero _)
              | succ n ih_46 =>
                intro i x10 x9 j46_0 j46_1 j46_2 hn_46 H locs hS ls hl
                have hli : i ≤ 6 := by omega
                have ii : (nI i).toInt = (i : Int) := nI_toInt (by omega)
                refine lv_iload hx hb dX10_isEven_46 (lv_at hl 0 rfl) ?_
                refine lv_iload hx hb dX10_isEven_48 (lv_at hl 5 rfl) ?_
                refine lv_icmp_ge (tgt := 112) hx hb dX10_isEven_50 (by decide) (fun c50 => ?_) (fun c50 => ?_)
                · skip
                  have d50 := c50
                  rw [fa_le] at d50
                  have him : i = eMany A9 B9 col := by omega
                  have ibe : x9.toInt = (eB (eS A9 p0 col k) (eMany A9 B9 col) : Int) := by rw [j46_1, ← him]; exact nI_toInt (by have := eB_b (eS A9 p0 col k) i; omega)
                  refine lv_iload hx hb dX10_isEven_112 (lv_at hl 4 rfl) ?_
                  refine lv_if_eq (tgt := 127) hx hb dX10_isEven_114 (by decide) (fun c114 => ?_) (fun c114 => ?_)
                  · skip
                    have d114 := c114
                    rw [fa_eq] at d114
                    refine lv_iconst (v := 0) hx hb dX10_isEven_127 (by decide) ?_
                    refine lv_istore (lv' := [(7, .int (0 : Int32)), (11, .int (nI i)), (10, .int x10), (9, .int x9), (8, .int (nI k)), (6, .int h), (5, .int w), (0, .int w), (1, .int h), (2, .long p0), (4, .int col)]) hx hb dX10_isEven_128 hl (by decide) rfl (fun ls hl => ?_)
                    refine lv_iinc (v := (nI (k + 1))) (lv' := [(8, .int (nI (k + 1))), (7, .int (0 : Int32)), (11, .int (nI i)), (10, .int x10), (9, .int x9), (6, .int h), (5, .int w), (0, .int w), (1, .int h), (2, .long p0), (4, .int col)]) hx hb dX10_isEven_130 hl (k := 4) rfl (nI_1 _) (by decide) rfl (fun ls hl => ?_)
                    refine lv_goto (tgt := 30) hx hb dX10_isEven_133 (by decide) ?_
                    exact ih_30 (k + 1) (0 : Int32) (by omega) (by
            first
            | exact Or.inl ⟨rfl, fun l hl => by
                by_cases e9 : l = k
                · rw [e9]; omega
                · rcases j30_1 with ⟨_, y⟩ | ⟨z, _⟩
                  · exact y l (by omega)
                  · exact absurd z c114⟩
            | exact Or.inr ⟨rfl, fun u => by have := u k (by omega); omega⟩
            | exact Or.inr ⟨rfl, fun u => by rcases j30_1 with ⟨z, _⟩ | ⟨_, y⟩; exact absurd (z.symm.trans c114) (by decide); exact y (fun l hl => u l (by omega))⟩) (by omega) _ _ hS ls (lv_sub hl [0, 1, 5, 6, 7, 8, 9, 10] rfl)
                  · skip
                    have d114 := c114
                    rw [fa_eq] at d114
                    refine lv_iload hx hb dX10_isEven_117 (lv_at hl 2 rfl) ?_
                    refine lv_iconst (v := 2) hx hb dX10_isEven_119 (by decide) ?_
                    refine lv_icmp_ge (tgt := 127) hx hb dX10_isEven_120 (by decide) (fun c120 => ?_) (fun c120 => ?_)
                    · skip
                      have d120 := c120
                      rw [fa_le] at d120
                      refine lv_iconst (v := 0) hx hb dX10_isEven_127 (by decide) ?_
                      refine lv_istore (lv' := [(7, .int (0 : Int32)), (11, .int (nI i)), (10, .int x10), (9, .int x9), (8, .int (nI k)), (6, .int h), (5, .int w), (0, .int w), (1, .int h), (2, .long p0), (4, .int col)]) hx hb dX10_isEven_128 hl (by decide) rfl (fun ls hl => ?_)
                      refine lv_iinc (v := (nI (k + 1))) (lv' := [(8, .int (nI (k + 1))), (7, .int (0 : Int32)), (11, .int (nI i)), (10, .int x10), (9, .int x9), (6, .int h), (5, .int w), (0, .int w), (1, .int h), (2, .long p0), (4, .int col)]) hx hb dX10_isEven_130 hl (k := 4) rfl (nI_1 _) (by decide) rfl (fun ls hl => ?_)
                      refine lv_goto (tgt := 30) hx hb dX10_isEven_133 (by decide) ?_
                      exact ih_30 (k + 1) (0 : Int32) (by omega) (by
            first
            | exact Or.inl ⟨rfl, fun l hl => by
                by_cases e9 : l = k
                · rw [e9]; omega
                · rcases j30_1 with ⟨_, y⟩ | ⟨z, _⟩
                  · exact y l (by omega)
                  · exact absurd z c114⟩
            | exact Or.inr ⟨rfl, fun u => by have := u k (by omega); omega⟩
            | exact Or.inr ⟨rfl, fun u => by rcases j30_1 with ⟨z, _⟩ | ⟨_, y⟩; exact absurd (z.symm.trans c114) (by decide); exact y (fun l hl => u l (by omega))⟩) (by omega) _ _ hS ls (lv_sub hl [0, 1, 5, 6, 7, 8, 9, 10] rfl)
                    · skip
                      have d120 := c120
                      rw [fa_le] at d120
                      refine lv_iconst (v := 1) hx hb dX10_isEven_123 (by decide) ?_
                      refine lv_goto (tgt := 128) hx hb dX10_isEven_124 (by decide) ?_
                      refine lv_istore (lv' := [(7, .int (1 : Int32)), (11, .int (nI i)), (10, .int x10), (9, .int x9), (8, .int (nI k)), (6, .int h), (5, .int w), (0, .int w), (1, .int h), (2, .long p0), (4, .int col)]) hx hb dX10_isEven_128 hl (by decide) rfl (fun ls hl => ?_)
                      refine lv_iinc (v := (nI (k + 1))) (lv' := [(8, .int (nI (k + 1))), (7, .int (1 : Int32)), (11, .int (nI i)), (10, .int x10), (9, .int x9), (6, .int h), (5, .int w), (0, .int w), (1, .int h), (2, .long p0), (4, .int col)]) hx hb dX10_isEven_130 hl (k := 4) rfl (nI_1 _) (by decide) rfl (fun ls hl => ?_)
                      refine lv_goto (tgt := 30) hx hb dX10_isEven_133 (by decide) ?_
                      exact ih_30 (k + 1) (1 : Int32) (by omega) (by
            first
            | exact Or.inl ⟨rfl, fun l hl => by
                by_cases e9 : l = k
                · rw [e9]; omega
                · rcases j30_1 with ⟨_, y⟩ | ⟨z, _⟩
                  · exact y l (by omega)
                  · exact absurd z c114⟩
            | exact Or.inr ⟨rfl, fun u => by have := u k (by omega); omega⟩
            | exact Or.inr ⟨rfl, fun u => by rcases j30_1 with ⟨z, _⟩ | ⟨_, y⟩; exact absurd (z.symm.trans c114) (by decide); exact y (fun l hl => u l (by omega))⟩) (by omega) _ _ hS ls (lv_sub hl [0, 1, 5, 6, 7, 8, 9, 10] rfl)
                · skip
                  have d50 := c50
                  rw [fa_le] at d50
                  refine lv_lload_n hx hb dX10_isEven_53 rfl (lv_at hl 9 rfl) ?_
                  refine lv_iload hx hb dX10_isEven_54 (lv_at hl 10 rfl) ?_
                  refine lv_if_eq (tgt := 69) hx hb dX10_isEven_56 (by decide) (fun c56 => ?_) (fun c56 => ?_)
                  · first | exact absurd c56 c14 | exact absurd c14 c56
                  · skip
                    have d56 := c56
                    rw [fa_eq] at d56
                    refine lv_iload hx hb dX10_isEven_59 (lv_at hl 0 rfl) ?_
                    refine lv_iload_n hx hb dX10_isEven_61 rfl (lv_at hl 7 rfl) ?_
                    refine lv_imul hx hb dX10_isEven_62 ?_
                    refine lv_topi (fun v62 e62 => ?_)
                    refine lv_iload hx hb dX10_isEven_63 (lv_at hl 3 rfl) ?_
                    refine lv_iadd hx hb dX10_isEven_65 ?_
                    refine lv_topi (fun v65 e65 => ?_)
                    refine lv_goto (tgt := 76) hx hb dX10_isEven_66 (by decide) ?_
                    refine pu_call (As := [.long p0, .int v65]) (rest := []) ⟨hx, hb, hml, hown, hts⟩ (c_X10_one l p0 v65 ) (va_cwS 2 hts gX10_isEven_X10_one rfl rfl rfl (by decide +kernel) ⟨Nat.le_of_ble_eq_true rfl, Nat.le_of_ble_eq_true rfl⟩) rfl hl.1 rfl (Nat.le_of_ble_eq_true rfl) dX10_isEven_76 ⟨Nat.le_of_ble_eq_true rfl, Nat.le_of_ble_eq_true rfl⟩ hS (fun r76 H locs q76 hS => ?_)
                    have i76 : r76.toInt = (r_one p0 v65).toInt := congrArg Int32.toInt q76
                    have f76 : r76 = if eS A9 p0 col k i then 1 else 0 := by
                      have hkm : k * A9 ≤ 6 * 6 ∧ i * A9 ≤ 6 * 6 := ⟨Nat.mul_le_mul (by omega) (by omega), Nat.mul_le_mul (by omega) (by omega)⟩
                      rw [q76]
                      unfold eS rB
                      first
                      | (rw [if_neg c56, e65, e62, ← ew, pk_mul, nI_add]; exact one_lb p0 (by omega))
                      | (rw [if_pos c56, e75, e72, ← ew, pk_mul, nI_add]; exact one_lb p0 (by omega))
                    refine lv_istore (lv' := [(12, .int r76), (11, .int (nI i)), (10, .int x10), (9, .int x9), (8, .int (nI k)), (7, .int x7), (6, .int h), (5, .int w), (0, .int w), (1, .int h), (2, .long p0), (4, .int col)]) hx hb dX10_isEven_79 hl (by decide) rfl (fun ls hl => ?_)
                    refine lv_iload hx hb dX10_isEven_81 (lv_at hl 3 rfl) ?_
                    refine lv_iload hx hb dX10_isEven_83 (lv_at hl 0 rfl) ?_
                    refine lv_iconst (v := 1) hx hb dX10_isEven_85 (by decide) ?_
                    refine lv_icmp_ne (tgt := 98) hx hb dX10_isEven_86 (by decide) (fun c86 => ?_) (fun c86 => ?_)
                    · skip
                      have d86 := c86
                      rw [fa_eq] at d86
                      refine lv_iconst (v := 0) hx hb dX10_isEven_98 (by decide) ?_
                      refine lv_iadd hx hb dX10_isEven_99 ?_
                      refine lv_topi (fun v99 e99 => ?_)
                      refine lv_istore (lv' := [(9, .int v99), (12, .int r76), (11, .int (nI i)), (10, .int x10), (8, .int (nI k)), (7, .int x7), (6, .int h), (5, .int w), (0, .int w), (1, .int h), (2, .long p0), (4, .int col)]) hx hb dX10_isEven_100 hl (by decide) rfl (fun ls hl => ?_)
                      have hbg := eB_st f76 j46_2 j46_1 (by first | exact Or.inl ⟨c86, c91, e99⟩ | exact Or.inr ⟨fun z => c86 z.1, e99⟩ | exact Or.inr ⟨fun z => c91 z.2, e99⟩)
                      refine lv_iload hx hb dX10_isEven_102 (lv_at hl 1 rfl) ?_
                      refine lv_istore (lv' := [(10, .int r76), (9, .int v99), (12, .int r76), (11, .int (nI i)), (8, .int (nI k)), (7, .int x7), (6, .int h), (5, .int w), (0, .int w), (1, .int h), (2, .long p0), (4, .int col)]) hx hb dX10_isEven_104 hl (by decide) rfl (fun ls hl => ?_)
                      refine lv_iinc (v := (nI (i + 1))) (lv' := [(11, .int (nI (i + 1))), (10, .int r76), (9, .int v99), (12, .int r76), (8, .int (nI k)), (7, .int x7), (6, .int h), (5, .int w), (0, .int w), (1, .int h), (2, .long p0), (4, .int col)]) hx hb dX10_isEven_106 hl (k := 3) rfl (nI_1 _) (by decide) rfl (fun ls hl => ?_)
                      refine lv_goto (tgt := 46) hx hb dX10_isEven_109 (by decide) ?_
                      exact ih_46 (i + 1) r76 v99 (by omega) (hbg) (f76) (by omega) _ _ hS ls (lv_sub hl [0, 1, 2, 4, 5, 6, 7, 8, 9, 10, 11] rfl)
                    · skip
                      have d86 := c86
                      rw [fa_eq] at d86
                      refine lv_iload hx hb dX10_isEven_89 (lv_at hl 2 rfl) ?_
                      refine lv_if_ne (tgt := 98) hx hb dX10_isEven_91 (by decide) (fun c91 => ?_) (fun c91 => ?_)
                      · skip
                        have d91 := c91
                        rw [fa_eq] at d91
                        refine lv_iconst (v := 0) hx hb dX10_isEven_98 (by decide) ?_
                        refine lv_iadd hx hb dX10_isEven_99 ?_
                        refine lv_topi (fun v99 e99 => ?_)
                        refine lv_istore (lv' := [(9, .int v99), (12, .int r76), (11, .int (nI i)), (10, .int x10), (8, .int (nI k)), (7, .int x7), (6, .int h), (5, .int w), (0, .int w), (1, .int h), (2, .long p0), (4, .int col)]) hx hb dX10_isEven_100 hl (by decide) rfl (fun ls hl => ?_)
                        have hbg := eB_st f76 j46_2 j46_1 (by first | exact Or.inl ⟨c86, c91, e99⟩ | exact Or.inr ⟨fun z => c86 z.1, e99⟩ | exact Or.inr ⟨fun z => c91 z.2, e99⟩)
                        refine lv_iload hx hb dX10_isEven_102 (lv_at hl 1 rfl) ?_
                        refine lv_istore (lv' := [(10, .int r76), (9, .int v99), (12, .int r76), (11, .int (nI i)), (8, .int (nI k)), (7, .int x7), (6, .int h), (5, .int w), (0, .int w), (1, .int h), (2, .long p0), (4, .int col)]) hx hb dX10_isEven_104 hl (by decide) rfl (fun ls hl => ?_)
                        refine lv_iinc (v := (nI (i + 1))) (lv' := [(11, .int (nI (i + 1))), (10, .int r76), (9, .int v99), (12, .int r76), (8, .int (nI k)), (7, .int x7), (6, .int h), (5, .int w), (0, .int w), (1, .int h), (2, .long p0), (4, .int col)]) hx hb dX10_isEven_106 hl (k := 3) rfl (nI_1 _) (by decide) rfl (fun ls hl => ?_)
                        refine lv_goto (tgt := 46) hx hb dX10_isEven_109 (by decide) ?_
                        exact ih_46 (i + 1) r76 v99 (by omega) (hbg) (f76) (by omega) _ _ hS ls (lv_sub hl [0, 1, 2, 4, 5, 6, 7, 8, 9, 10, 11] rfl)
                      · skip
                        have d91 := c91
                        rw [fa_eq] at d91
                        refine lv_iconst (v := 1) hx hb dX10_isEven_94 (by decide) ?_
                        refine lv_goto (tgt := 99) hx hb dX10_isEven_95 (by decide) ?_
                        refine lv_iadd hx hb dX10_isEven_99 ?_
                        refine lv_topi (fun v99 e99 => ?_)
                        refine lv_istore (lv' := [(9, .int v99), (12, .int r76), (11, .int (nI i)), (10, .int x10), (8, .int (nI k)), (7, .int x7), (6, .int h), (5, .int w), (0, .int w), (1, .int h), (2, .long p0), (4, .int col)]) hx hb dX10_isEven_100 hl (by decide) rfl (fun ls hl => ?_)
                        have hbg := eB_st f76 j46_2 j46_1 (by first | exact Or.inl ⟨c86, c91, e99⟩ | exact Or.inr ⟨fun z => c86 z.1, e99⟩ | exact Or.inr ⟨fun z => c91 z.2, e99⟩)
                        refine lv_iload hx hb dX10_isEven_102 (lv_at hl 1 rfl) ?_
                        refine lv_istore (lv' := [(10, .int r76), (9, .int v99), (12, .int r76), (11, .int (nI i)), (8, .int (nI k)), (7, .int x7), (6, .int h), (5, .int w), (0, .int w), (1, .int h), (2, .long p0), (4, .int col)]) hx hb dX10_isEven_104 hl (by decide) rfl (fun ls hl => ?_)
                        refine lv_iinc (v := (nI (i + 1))) (lv' := [(11, .int (nI (i + 1))), (10, .int r76), (9, .int v99), (12, .int r76), (8, .int (nI k)), (7, .int x7), (6, .int h), (5, .int w), (0, .int w), (1, .int h), (2, .long p0), (4, .int col)]) hx hb dX10_isEven_106 hl (k := 3) rfl (nI_1 _) (by decide) rfl (fun ls hl => ?_)
                        refine lv_goto (tgt := 46) hx hb dX10_isEven_109 (by decide) ?_
                        exact ih_46 (i + 1) r76 v99 (by omega) (hbg) (f76) (by omega) _ _ hS ls (lv_sub hl [0, 1, 2, 4, 5, 6, 7, 8, 9, 10, 11] rfl)
            exact loop_46 (7 + 1) 0 (0 : Int32) (0 : Int32) (by omega) (rfl) (rfl) (by omega) _ _ hS ls (lv_sub hl [0, 1, 2, 3, 4, 5, 6, 7, 8, 9, 10] rfl)
      exact loop_30 (7 + 1) 0 (1 : Int32) (by omega) (Or.inl ⟨rfl, fun l hl => absurd hl (Nat.not_lt_zero _)⟩) (by omega) _ _ hS ls (lv_sub hl [0, 1, 2, 3, 4, 5, 6, 7] rfl)

set_option maxHeartbeats 4000000 in
set_option maxRecDepth 100000 in
theorem c_X10_even_x (l : Launch) (D : va_G) (cy : Nat → ClassId) (mo : Nat) (a : Nat → Nat) (f : Nat → Int32) (g : Nat → Int64) (r : Nat → Nat → Int32) (q : Nat → Nat → Int64) (w : Int32) (h : Int32) (p0 : Int64) (col : Int32) (hD : DM cy mo a)  : Mi l D cy mo a yX10_even wsX10_even ({ frames := 3, cells := 0, slots := 0, locals := 69 }) f g r q [.int w, .int h, .long p0, .int col] (fun r0 u => u = ((upd f 0 (0 : Int32)), g, r, q) ∧ (evA w h p0 col r0)) := by
  refine Met.ofW (cc := cX10_even) (maxL := 6) (ret := (some .int)) (by decide) rfl ?_
  intro p e s m args below meth c s₁ B hml hv
  obtain ⟨rfl, hP, hK⟩ := hv
  have hx := B.exec
  have hb := B.bytes
  have hr := B.returns
  have hts := atoms_spec (ws := wsX10_even) B.pre
  have hin : ∀ w ∈ u_ws RX10 TX10 35, w ∈ wsX10_even := by decide +kernel
  have hown : s.vm.findClass RX10 = some m.cls := findClass_of_methodNamed B.named
  have hlocks := B.notSynchronized
  have hS : va_S (AM mo a) s.heap s.heap [] := va_S.rf
  have hl := lv_entry ([.ref mo, .int w, .int h, .long p0, .int col]) (n := 6) (Nat.le_of_ble_eq_true rfl)
  rw [lg_entry_eq]
  generalize (lg_sl ([.ref mo, .int w, .int h, .long p0, .int col]) ++ List.replicate (6 - (lg_sl ([.ref mo, .int w, .int h, .long p0, .int col])).length) Slot.unset).toArray = ls at hl ⊢
  have hl : lv_has ls 6 [(0, .ref mo), (1, .int w), (2, .int h), (3, .long p0), (5, .int col)] := hl
  have k_m1 : (-1 : Int32).toInt = -1 := by decide
  have k_0 : (0 : Int32).toInt = 0 := by decide
  have k_1 : (1 : Int32).toInt = 1 := by decide
  refine lv_aload_n hx hb dX10_even_0 rfl (lv_at hl 0 rfl) ?_
  refine lv_iconst (v := 0) hx hb dX10_even_1 (by decide) ?_
  refine m_put (v := .int (0 : Int32)) (ty := .int) hx hb hts hin hown hK hP hD hS 0 (by decide) rfl (hts (.fieldLink RX10 79 "ShadowBenchModel" "thrown" "I") (by decide +kernel)) rfl (by decide +kernel) rfl rfl (upd f 0 (0 : Int32)) g rfl dX10_even_2 (fun H locs hP hS => ?_)
  refine lv_iload_n hx hb dX10_even_5 rfl (lv_at hl 1 rfl) ?_
  refine lv_iload_n hx hb dX10_even_6 rfl (lv_at hl 2 rfl) ?_
  refine lv_lload_n hx hb dX10_even_7 rfl (lv_at hl 3 rfl) ?_
  refine m_pu (As := [.int w, .int h, .long p0]) (rest := []) ⟨hx, hb, hml, hown, hts⟩ (c_X10_isPicture l w h p0 ) (va_cwS 3 hts gX10_even_X10_isPicture rfl rfl rfl (by decide +kernel) ⟨Nat.le_of_ble_eq_true rfl, Nat.le_of_ble_eq_true rfl⟩) hP rfl hl.1 rfl (Nat.le_of_ble_eq_true rfl) dX10_even_8 ⟨Nat.le_of_ble_eq_true rfl, Nat.le_of_ble_eq_true rfl⟩ hS (fun r8 H locs q8 hP hS => ?_)
  refine lv_if_ne (tgt := 18) hx hb dX10_even_11 (by decide) (fun c11 => ?_) (fun c11 => ?_)
  · skip
    have b11 := bo_t q8 c11
    refine lv_iload_n hx hb dX10_even_18 rfl (lv_at hl 1 rfl) ?_
    refine lv_iload_n hx hb dX10_even_19 rfl (lv_at hl 2 rfl) ?_
    refine lv_lload_n hx hb dX10_even_20 rfl (lv_at hl 3 rfl) ?_
    refine lv_iload hx hb dX10_even_21 (lv_at hl 4 rfl) ?_
    refine m_pu (As := [.int w, .int h, .long p0, .int col]) (rest := []) ⟨hx, hb, hml, hown, hts⟩ (c_X10_isEven_x l w h p0 col b11.1.1 b11.1.2) (va_cwS 4 hts gX10_even_X10_isEven rfl rfl rfl (by decide +kernel) ⟨Nat.le_of_ble_eq_true rfl, Nat.le_of_ble_eq_true rfl⟩) hP rfl hl.1 rfl (Nat.le_of_ble_eq_true rfl) dX10_even_23 ⟨Nat.le_of_ble_eq_true rfl, Nat.le_of_ble_eq_true rfl⟩ hS (fun r23 H locs q23 hP hS => ?_)
    refine lv_if_eq (tgt := 33) hx hb dX10_even_26 (by decide) (fun c26 => ?_) (fun c26 => ?_)
    · skip
      have b26 := bo_f q23 c26
      refine lv_iconst (v := 0) hx hb dX10_even_33 (by decide) ?_
      exact W.iret (v := (0 : Int32)) hx hb hr (fun t ht hW => ⟨⟨_, ((upd f 0 (0 : Int32)), g, r, q), rfl, ⟨rfl, (Or.inl ⟨goodP_of b11, Or.inr ⟨rfl, b26⟩⟩)⟩, by unfold mB; rw [ht]; exact hP⟩, hS.F ht⟩) hS.2.2 dX10_even_34
    · skip
      have b26 := bo_t q23 c26
      refine lv_iconst (v := 1) hx hb dX10_even_29 (by decide) ?_
      refine lv_goto (tgt := 34) hx hb dX10_even_30 (by decide) ?_
      exact W.iret (v := (1 : Int32)) hx hb hr (fun t ht hW => ⟨⟨_, ((upd f 0 (0 : Int32)), g, r, q), rfl, ⟨rfl, (Or.inl ⟨goodP_of b11, Or.inl ⟨rfl, b26⟩⟩)⟩, by unfold mB; rw [ht]; exact hP⟩, hS.F ht⟩) hS.2.2 dX10_even_34
  · skip
    have b11 := bo_f q8 c11
    refine lv_iconst (v := (-1)) hx hb dX10_even_14 (by decide) ?_
    refine lv_goto (tgt := 34) hx hb dX10_even_15 (by decide) ?_
    exact W.iret (v := ((-1) : Int32)) hx hb hr (fun t ht hW => ⟨⟨_, ((upd f 0 (0 : Int32)), g, r, q), rfl, ⟨rfl, (Or.inr ⟨goodP_no b11, rfl⟩)⟩, by unfold mB; rw [ht]; exact hP⟩, hS.F ht⟩) hS.2.2 dX10_even_34
