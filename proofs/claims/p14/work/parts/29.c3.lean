
def w5sh := @c5
theorem and15 {v x : Int32} (e : v = x &&& 32767) : 0 ≤ v.toInt ∧ v.toInt < 32768 := by
  have h := pk_andIn x (m := 32767) 15 (by decide) (by decide)
  rw [← e] at h
  exact vp_in_iff.mp h
set_option maxHeartbeats 4000000 in
set_option maxRecDepth 100000 in
theorem c_X8_isSpent (l : Launch) (D : va_G) (cy : Nat → ClassId) (A : Nat → Prop) (G : cG) (ws : va_W) (o : Nat)  (hD : va_D A ws) (hT : cT cy G ws) (hG_o : G o = some (5, 0, 0))  : Ci l D cy A yX8_isSpent wsX8_isSpent ({ frames := 0, cells := 0, slots := 0, locals := 0 }) 0 0 ws [.ref o] (fun r0 u => u = (G, ws) ∧ (isBo r0)) := by
  refine Met.ofW (cc := cX8_isSpent) (maxL := 1) (ret := (some .boolean)) (by decide) rfl ?_
  intro p e s m args below meth c s₁ B hml hv
  obtain ⟨rfl, hP, hK, hA, hV⟩ := hv
  have hx := B.exec
  have hb := B.bytes
  have hr := B.returns
  have hts := atoms_spec (ws := wsX8_isSpent) B.pre
  have hown : s.vm.findClass RX8 = some m.cls := findClass_of_methodNamed B.named
  have hlocks := B.notSynchronized
  have hS : va_S A s.heap s.heap [] := va_S.rf
  have hl := lv_entry ([.ref o]) (n := 1) (Nat.le_of_ble_eq_true rfl)
  rw [lg_entry_eq]
  generalize (lg_sl ([.ref o]) ++ List.replicate (1 - (lg_sl ([.ref o])).length) Slot.unset).toArray = ls at hl ⊢
  have hl : lv_has ls 1 [(0, .ref o)] := hl
  have k_0 : (0 : Int32).toInt = 0 := by decide
  refine lv_aload_n hx hb dX8_isSpent_0 rfl (lv_at hl 0 rfl) ?_
  obtain ⟨_, hM_o, j_o, y_o, tr_o, sp_o, fd_o, a1_o, a2_o, a3_o, a4_o, a5_o, rfl, hsp_o, hj_o, hG_a1_o, hG_a2_o, hG_a3_o, hG_a4_o, hG_a5_o⟩ := hT _ _ hG_o
  refine t_get (v := .int sp_o) (C := RX8) (T := TX8) (N := 10) hx hb hts (by decide +kernel) hown hK hP hM_o rfl 3 (by decide) (hts (.fieldLink RX8 20 "ShadowBench$Walk" "spent" "Z") (by decide +kernel)) (fun _ h9 => h9) rfl dX8_isSpent_1 ?_
  exact W.zret (v := sp_o) hx hb hr (isBo_z hsp_o) (fun t ht hW => ⟨⟨_, (G, ws), rfl, ⟨rfl, hsp_o⟩, by show va_P D vwCl ws t.heap; rw [ht]; exact hP, hD, hT⟩, hS.F ht⟩) hS.2.2 dX8_isSpent_4
set_option maxHeartbeats 4000000 in
set_option maxRecDepth 100000 in
theorem c_X8_found (l : Launch) (D : va_G) (cy : Nat → ClassId) (A : Nat → Prop) (G : cG) (ws : va_W) (o : Nat)  (hD : va_D A ws) (hT : cT cy G ws) (hG_o : G o = some (5, 0, 0))  : Cl l D cy A yX8_found wsX8_found ({ frames := 0, cells := 0, slots := 0, locals := 0 }) 0 0 ws [.ref o] (fun r0 u => u = (G, ws) ∧ (True)) := by
  refine Met.ofW (cc := cX8_found) (maxL := 1) (ret := (some .long)) (by decide) rfl ?_
  intro p e s m args below meth c s₁ B hml hv
  obtain ⟨rfl, hP, hK, hA, hV⟩ := hv
  have hx := B.exec
  have hb := B.bytes
  have hr := B.returns
  have hts := atoms_spec (ws := wsX8_found) B.pre
  have hown : s.vm.findClass RX8 = some m.cls := findClass_of_methodNamed B.named
  have hlocks := B.notSynchronized
  have hS : va_S A s.heap s.heap [] := va_S.rf
  have hl := lv_entry ([.ref o]) (n := 1) (Nat.le_of_ble_eq_true rfl)
  rw [lg_entry_eq]
  generalize (lg_sl ([.ref o]) ++ List.replicate (1 - (lg_sl ([.ref o])).length) Slot.unset).toArray = ls at hl ⊢
  have hl : lv_has ls 1 [(0, .ref o)] := hl
  have k_0 : (0 : Int32).toInt = 0 := by decide
  refine lv_aload_n hx hb dX8_found_0 rfl (lv_at hl 0 rfl) ?_
  obtain ⟨_, hM_o, j_o, y_o, tr_o, sp_o, fd_o, a1_o, a2_o, a3_o, a4_o, a5_o, rfl, hsp_o, hj_o, hG_a1_o, hG_a2_o, hG_a3_o, hG_a4_o, hG_a5_o⟩ := hT _ _ hG_o
  refine t_get (v := .long fd_o) (C := RX8) (T := TX8) (N := 10) hx hb hts (by decide +kernel) hown hK hP hM_o rfl 4 (by decide) (hts (.fieldLink RX8 24 "ShadowBench$Walk" "found" "J") (by decide +kernel)) (fun _ h9 => h9) rfl dX8_found_1 ?_
  exact W.lret (v := fd_o) hx hb hr (fun t ht hW => ⟨⟨_, (G, ws), rfl, ⟨rfl, trivial⟩, by show va_P D vwCl ws t.heap; rw [ht]; exact hP, hD, hT⟩, hS.F ht⟩) hS.2.2 dX8_found_4
set_option maxHeartbeats 4000000 in
set_option maxRecDepth 100000 in
theorem c_X8_hasRow (l : Launch) (D : va_G) (cy : Nat → ClassId) (A : Nat → Prop) (G : cG) (ws : va_W) (o : Nat) {j_o : Option Nat} {y_o tr_o sp_o : Int32} {fd_o : Int64} {a1_o a2_o a3_o a4_o a5_o : Nat} (hD : va_D A ws) (hT : cT cy G ws) (hG_o : G o = some (5, 0, 0)) (hM_o : cIn ws o (.inr (7, [va_rf j_o, .int y_o, .int tr_o, .int sp_o, .long fd_o, .ref a1_o, .ref a2_o, .ref a3_o, .ref a4_o, .ref a5_o])))  : Ci l D cy A yX8_hasRow wsX8_hasRow ({ frames := 0, cells := 0, slots := 0, locals := 0 }) 0 0 ws [.ref o] (fun r0 u => u = (G, ws) ∧ (isBo r0 ∧ (r0 = 1 → (∃ x, j_o = some x) ∧ 0 ≤ y_o.toInt ∧ y_o.toInt < 6))) := by
  refine Met.ofW (cc := cX8_hasRow) (maxL := 1) (ret := (some .boolean)) (by decide) rfl ?_
  intro p e s m args below meth c s₁ B hml hv
  obtain ⟨rfl, hP, hK, hA, hV⟩ := hv
  have hx := B.exec
  have hb := B.bytes
  have hr := B.returns
  have hts := atoms_spec (ws := wsX8_hasRow) B.pre
  have hown : s.vm.findClass RX8 = some m.cls := findClass_of_methodNamed B.named
  have hlocks := B.notSynchronized
  have hS : va_S A s.heap s.heap [] := va_S.rf
  have hinJ : ∀ w ∈ wsX10 ++ wsX30 ++ wsX40 ++ wsX50, w ∈ wsX8_hasRow := by decide +kernel
  have hl := lv_entry ([.ref o]) (n := 1) (Nat.le_of_ble_eq_true rfl)
  rw [lg_entry_eq]
  generalize (lg_sl ([.ref o]) ++ List.replicate (1 - (lg_sl ([.ref o])).length) Slot.unset).toArray = ls at hl ⊢
  have hl : lv_has ls 1 [(0, .ref o)] := hl
  have k_0 : (0 : Int32).toInt = 0 := by decide
  have k_1 : (1 : Int32).toInt = 1 := by decide
  have k_6 : (6 : Int32).toInt = 6 := by decide
  obtain ⟨hsp_o, hj_o, hG_a1_o, hG_a2_o, hG_a3_o, hG_a4_o, hG_a5_o⟩ := c5 hD hT hG_o hM_o
  refine lv_aload_n hx hb dX8_hasRow_0 rfl (lv_at hl 0 rfl) ?_
  have hoq : j_o = none ∨ ∃ x, j_o = some x := by cases j_o; exact Or.inl rfl; exact Or.inr ⟨_, rfl⟩
  rcases hoq with hopt | ⟨x1, hopt⟩
  · skip
    rw [hopt] at hM_o
    have hM_o : cIn ws o (.inr (7, [.null, .int y_o, .int tr_o, .int sp_o, .long fd_o, .ref a1_o, .ref a2_o, .ref a3_o, .ref a4_o, .ref a5_o])) := hM_o
    refine t_get (v := .null) (C := RX8) (T := TX8) (N := 10) hx hb hts (by decide +kernel) hown hK hP hM_o rfl 0 (by decide) (hts (.fieldLink RX8 7 "ShadowBench$Walk" "job" "LShadowBench$Job;") (by decide +kernel)) (fun _ h9 => h9) rfl dX8_hasRow_1 ?_
    refine lv_ifnullN (tgt := 44) hx hb dX8_hasRow_4 (by decide) ?_
    refine lv_iconst (v := 0) hx hb dX8_hasRow_44 (by decide) ?_
    exact W.zret (v := (0 : Int32)) hx hb hr (by decide) (fun t ht hW => ⟨⟨_, (G, ws), rfl, ⟨rfl, ⟨Or.inl rfl, fun z => absurd z (by decide)⟩⟩, by show va_P D vwCl ws t.heap; rw [ht]; exact hP, hD, hT⟩, hS.F ht⟩) hS.2.2 dX8_hasRow_45
  · skip
    obtain ⟨kx1, nx1, hG_x1⟩ := hj_o x1 hopt
    rw [hopt] at hM_o
    have hM_o : cIn ws o (.inr (7, [.ref x1, .int y_o, .int tr_o, .int sp_o, .long fd_o, .ref a1_o, .ref a2_o, .ref a3_o, .ref a4_o, .ref a5_o])) := hM_o
    refine t_get (v := .ref x1) (C := RX8) (T := TX8) (N := 10) hx hb hts (by decide +kernel) hown hK hP hM_o rfl 0 (by decide) (hts (.fieldLink RX8 7 "ShadowBench$Walk" "job" "LShadowBench$Job;") (by decide +kernel)) (fun _ h9 => h9) rfl dX8_hasRow_1 ?_
    refine lv_ifnull hx hb dX8_hasRow_4 ?_
    refine lv_aload_n hx hb dX8_hasRow_7 rfl (lv_at hl 0 rfl) ?_
    refine t_get (v := .int y_o) (C := RX8) (T := TX8) (N := 10) hx hb hts (by decide +kernel) hown hK hP hM_o rfl 1 (by decide) (hts (.fieldLink RX8 13 "ShadowBench$Walk" "y" "I") (by decide +kernel)) (fun _ h9 => h9) rfl dX8_hasRow_8 ?_
    refine lv_if_lt (tgt := 44) hx hb dX8_hasRow_11 (by decide) (fun c11 => ?_) (fun c11 => ?_)
    · skip
      have d11 := c11
      rw [fa_lt] at d11
      refine lv_iconst (v := 0) hx hb dX8_hasRow_44 (by decide) ?_
      exact W.zret (v := (0 : Int32)) hx hb hr (by decide) (fun t ht hW => ⟨⟨_, (G, ws), rfl, ⟨rfl, ⟨Or.inl rfl, fun z => absurd z (by decide)⟩⟩, by show va_P D vwCl ws t.heap; rw [ht]; exact hP, hD, hT⟩, hS.F ht⟩) hS.2.2 dX8_hasRow_45
    · skip
      have d11 := c11
      rw [fa_lt] at d11
      refine lv_aload_n hx hb dX8_hasRow_14 rfl (lv_at hl 0 rfl) ?_
      refine t_get (v := .int y_o) (C := RX8) (T := TX8) (N := 10) hx hb hts (by decide +kernel) hown hK hP hM_o rfl 1 (by decide) (hts (.fieldLink RX8 13 "ShadowBench$Walk" "y" "I") (by decide +kernel)) (fun _ h9 => h9) rfl dX8_hasRow_15 ?_
      refine lv_aload_n hx hb dX8_hasRow_18 rfl (lv_at hl 0 rfl) ?_
      refine t_get (v := .ref x1) (C := RX8) (T := TX8) (N := 10) hx hb hts (by decide +kernel) hown hK hP hM_o rfl 0 (by decide) (hts (.fieldLink RX8 7 "ShadowBench$Walk" "job" "LShadowBench$Job;") (by decide +kernel)) (fun _ h9 => h9) rfl dX8_hasRow_19 ?_
      obtain ⟨_, hM_x1, b_x1, s_x1, w_x1, h_x1, t_x1, x_x1, y_x1, ms_x1, rfl, hG_b_x1, hG_s_x1, hJ_x1⟩ := hT _ _ hG_x1
      refine t_getJ (v := .ref b_x1) hx hb hts hinJ hown hK hP hJ_x1.kc hM_x1 0 (by decide) (hts (.fieldLink RX8 64 "ShadowBench$Job" "board" "LShadowBench$Board;") (by decide +kernel)) (fun _ h9 => h9) rfl dX8_hasRow_22 ?_
      obtain ⟨_, hM_b_x1, hb_b_x1, l_b_x1, f_b_x1, r_b_x1, rfl, hG_l_b_x1, hG_f_b_x1, hG_r_b_x1⟩ := hT _ _ hG_b_x1
      refine t_get (v := .int (nI h_x1)) (C := RX0) (T := TX0) (N := 8) hx hb hts (by decide +kernel) hown hK hP hM_b_x1 rfl 1 (by decide) (hts (.fieldLink RX8 70 "ShadowBench$Board" "high" "I") (by decide +kernel)) (fun _ h9 => h9) rfl dX8_hasRow_25 ?_
      have i_h_b_x1 : (nI h_x1).toInt = _ := nI_toInt (by omega)
      refine lv_icmp_ge (tgt := 44) hx hb dX8_hasRow_28 (by decide) (fun c28 => ?_) (fun c28 => ?_)
      · skip
        have d28 := c28
        rw [fa_le] at d28
        refine lv_iconst (v := 0) hx hb dX8_hasRow_44 (by decide) ?_
        exact W.zret (v := (0 : Int32)) hx hb hr (by decide) (fun t ht hW => ⟨⟨_, (G, ws), rfl, ⟨rfl, ⟨Or.inl rfl, fun z => absurd z (by decide)⟩⟩, by show va_P D vwCl ws t.heap; rw [ht]; exact hP, hD, hT⟩, hS.F ht⟩) hS.2.2 dX8_hasRow_45
      · skip
        have d28 := c28
        rw [fa_le] at d28
        refine lv_aload_n hx hb dX8_hasRow_31 rfl (lv_at hl 0 rfl) ?_
        refine t_get (v := .int y_o) (C := RX8) (T := TX8) (N := 10) hx hb hts (by decide +kernel) hown hK hP hM_o rfl 1 (by decide) (hts (.fieldLink RX8 13 "ShadowBench$Walk" "y" "I") (by decide +kernel)) (fun _ h9 => h9) rfl dX8_hasRow_32 ?_
        refine lv_bipush (v := 6) hx hb dX8_hasRow_35 (by decide) ?_
        refine lv_icmp_ge (tgt := 44) hx hb dX8_hasRow_37 (by decide) (fun c37 => ?_) (fun c37 => ?_)
        · skip
          have d37 := c37
          rw [fa_le] at d37
          refine lv_iconst (v := 0) hx hb dX8_hasRow_44 (by decide) ?_
          exact W.zret (v := (0 : Int32)) hx hb hr (by decide) (fun t ht hW => ⟨⟨_, (G, ws), rfl, ⟨rfl, ⟨Or.inl rfl, fun z => absurd z (by decide)⟩⟩, by show va_P D vwCl ws t.heap; rw [ht]; exact hP, hD, hT⟩, hS.F ht⟩) hS.2.2 dX8_hasRow_45
        · skip
          have d37 := c37
          rw [fa_le] at d37
          refine lv_iconst (v := 1) hx hb dX8_hasRow_40 (by decide) ?_
          refine lv_goto (tgt := 45) hx hb dX8_hasRow_41 (by decide) ?_
          exact W.zret (v := (1 : Int32)) hx hb hr (by decide) (fun t ht hW => ⟨⟨_, (G, ws), rfl, ⟨rfl, ⟨Or.inr rfl, fun _ => ⟨⟨_, hopt⟩, by omega, by omega⟩⟩⟩, by show va_P D vwCl ws t.heap; rw [ht]; exact hP, hD, hT⟩, hS.F ht⟩) hS.2.2 dX8_hasRow_45
set_option maxHeartbeats 4000000 in
set_option maxRecDepth 100000 in
theorem c_X8_nextGoingOn (l : Launch) (D : va_G) (cy : Nat → ClassId) (A : Nat → Prop) (G : cG) (ws : va_W) (o : Nat) {j_o : Option Nat} {y_o tr_o sp_o : Int32} {fd_o : Int64} {a1_o a2_o a3_o a4_o a5_o : Nat} (hD : va_D A ws) (hT : cT cy G ws) (hG_o : G o = some (5, 0, 0)) (hM_o : cIn ws o (.inr (7, [va_rf j_o, .int y_o, .int tr_o, .int sp_o, .long fd_o, .ref a1_o, .ref a2_o, .ref a3_o, .ref a4_o, .ref a5_o]))) (hj1 : ∃ x, j_o = some x) (hy1 : 0 ≤ y_o.toInt ∧ y_o.toInt < 6) : Ci l D cy A yX8_nextGoingOn wsX8_nextGoingOn ({ frames := 1, cells := 0, slots := 0, locals := 20 }) 0 0 ws [.ref o] (fun r0 u => cX none (chs [5, 20, 21, 22, 23]) G ws u.1 u.2 ∧ (∃ tr sp, cIn u.2 o (.inr (7, [va_rf j_o, .int y_o, .int tr, .int sp, .long fd_o, .ref a1_o, .ref a2_o, .ref a3_o, .ref a4_o, .ref a5_o])))) := by
  refine Met.ofW (cc := cX8_nextGoingOn) (maxL := 3) (ret := (some .int)) (by decide) rfl ?_
  intro p e s m args below meth c s₁ B hml hv
  obtain ⟨rfl, hP, hK, hA, hV⟩ := hv
  have hx := B.exec
  have hb := B.bytes
  have hr := B.returns
  have hts := atoms_spec (ws := wsX8_nextGoingOn) B.pre
  have hown : s.vm.findClass RX8 = some m.cls := findClass_of_methodNamed B.named
  have hlocks := B.notSynchronized
  have hS : va_S A s.heap s.heap [] := va_S.rf
  have hinJ : ∀ w ∈ wsX10 ++ wsX30 ++ wsX40 ++ wsX50, w ∈ wsX8_nextGoingOn := by decide +kernel
  have hX : cX none (chs [5, 20, 21, 22, 23]) G ws G ws := cX.rf
  have hl := lv_entry ([.ref o]) (n := 3) (Nat.le_of_ble_eq_true rfl)
  rw [lg_entry_eq]
  generalize (lg_sl ([.ref o]) ++ List.replicate (3 - (lg_sl ([.ref o])).length) Slot.unset).toArray = ls at hl ⊢
  have hl : lv_has ls 3 [(0, .ref o)] := hl
  have k_m1 : (-1 : Int32).toInt = -1 := by decide
  have k_0 : (0 : Int32).toInt = 0 := by decide
  have k_1 : (1 : Int32).toInt = 1 := by decide
  have k_200000 : (200000 : Int32).toInt = 200000 := by decide
  obtain ⟨hsp_o, hj_o, hG_a1_o, hG_a2_o, hG_a3_o, hG_a4_o, hG_a5_o⟩ := c5 hD hT hG_o hM_o
  refine lv_aload_n hx hb dX8_nextGoingOn_0 rfl (lv_at hl 0 rfl) ?_
  have hoq : j_o = none ∨ ∃ x, j_o = some x := by cases j_o; exact Or.inl rfl; exact Or.inr ⟨_, rfl⟩
  rcases hoq with hopt | ⟨x1, hopt⟩
  · obtain ⟨_, z⟩ := hj1; rw [hopt] at z; cases z
  · skip
    obtain ⟨kx1, nx1, hG_x1⟩ := hj_o x1 hopt
    rw [hopt] at hM_o
    have hM_o : cIn ws o (.inr (7, [.ref x1, .int y_o, .int tr_o, .int sp_o, .long fd_o, .ref a1_o, .ref a2_o, .ref a3_o, .ref a4_o, .ref a5_o])) := hM_o
    refine t_get (v := .ref x1) (C := RX8) (T := TX8) (N := 10) hx hb hts (by decide +kernel) hown hK hP hM_o rfl 0 (by decide) (hts (.fieldLink RX8 7 "ShadowBench$Walk" "job" "LShadowBench$Job;") (by decide +kernel)) (fun _ h9 => h9) rfl dX8_nextGoingOn_1 ?_
    obtain ⟨_, hM_x1, b_x1, s_x1, w_x1, h_x1, t_x1, x_x1, y_x1, ms_x1, rfl, hG_b_x1, hG_s_x1, hJ_x1⟩ := hT _ _ hG_x1
    refine t_getJ (v := .ref b_x1) hx hb hts hinJ hown hK hP hJ_x1.kc hM_x1 0 (by decide) (hts (.fieldLink RX8 64 "ShadowBench$Job" "board" "LShadowBench$Board;") (by decide +kernel)) (fun _ h9 => h9) rfl dX8_nextGoingOn_4 ?_
    obtain ⟨_, hM_b_x1, hb_b_x1, l_b_x1, f_b_x1, r_b_x1, rfl, hG_l_b_x1, hG_f_b_x1, hG_r_b_x1⟩ := hT _ _ hG_b_x1
    refine t_get (v := .int (nI (2 ^ w_x1))) (C := RX0) (T := TX0) (N := 8) hx hb hts (by decide +kernel) hown hK hP hM_b_x1 rfl 3 (by decide) (hts (.fieldLink RX8 88 "ShadowBench$Board" "rowNumbers" "I") (by decide +kernel)) (fun _ h9 => h9) rfl dX8_nextGoingOn_7 ?_
    have m_p_b_x1 := cb_pow hb_b_x1
    have i_p_b_x1 : (nI (2 ^ w_x1)).toInt = _ := nI_toInt (by omega)
    refine lv_istore_n (lv' := [(1, .int (nI (2 ^ w_x1))), (0, .ref o)]) hx hb dX8_nextGoingOn_10 rfl hl (by decide) rfl (fun ls hl => ?_)
    refine lv_aload_n hx hb dX8_nextGoingOn_11 rfl (lv_at hl 1 rfl) ?_
    refine t_get (v := .ref a1_o) (C := RX8) (T := TX8) (N := 10) hx hb hts (by decide +kernel) hown hK hP hM_o rfl 5 (by decide) (hts (.fieldLink RX8 30 "ShadowBench$Walk" "nextRow" "[I") (by decide +kernel)) (fun _ h9 => h9) rfl dX8_nextGoingOn_12 ?_
    refine lv_aload_n hx hb dX8_nextGoingOn_15 rfl (lv_at hl 1 rfl) ?_
    refine t_get (v := .int y_o) (C := RX8) (T := TX8) (N := 10) hx hb hts (by decide +kernel) hown hK hP hM_o rfl 1 (by decide) (hts (.fieldLink RX8 13 "ShadowBench$Walk" "y" "I") (by decide +kernel)) (fun _ h9 => h9) rfl dX8_nextGoingOn_16 ?_
    refine t_iald hx hb hK hP hT (Or.inr (Or.inr (Or.inl rfl))) hG_a1_o (vp_in_iff.mpr ⟨by omega, by omega⟩) dX8_nextGoingOn_19 (fun v19 => ?_)
    refine lv_istore_n (lv' := [(2, .int v19), (1, .int (nI (2 ^ w_x1))), (0, .ref o)]) hx hb dX8_nextGoingOn_20 rfl hl (by decide) rfl (fun ls hl => ?_)
    have loop_21 : ∀ (n : Nat) (x2 : Int32) (trl : Int32), ((64 : Int) - x2.toInt).toNat < n → ∀ (Gl21 : cG) (wl21 : va_W), cE G Gl21 → cX none (chs [5, 20, 21, 22, 23]) G ws Gl21 wl21 → va_D A wl21 → cT cy Gl21 wl21 → ∀ (H : Heap) (locs : List Loc), va_P D vwCl wl21 H → va_S A s.heap H locs → cIn wl21 o (.inr (7, [.ref x1, .int y_o, .int trl, .int sp_o, .long fd_o, .ref a1_o, .ref a2_o, .ref a3_o, .ref a4_o, .ref a5_o])) → ∀ (ls : Array Slot), lv_has ls 3 [(2, .int x2), (1, .int (nI (2 ^ w_x1))), (0, .ref o)] → W p l e (headSpec wsX8_nextGoingOn ({ frames := 1, cells := 0, slots := 0, locals := 20 })).room s m #[Value.ref o] below meth c H locs 0 0 (MQ below (va_Qi (fun r0 u => cX none (chs [5, 20, 21, 22, 23]) G ws u.1 u.2 ∧ (∃ tr sp, cIn u.2 o (.inr (7, [va_rf j_o, .int y_o, .int tr, .int sp, .long fd_o, .ref a1_o, .ref a2_o, .ref a3_o, .ref a4_o, .ref a5_o])))) (cB D cy A) A) #[Value.ref o] s 0 0 A) (F0 m 21 ls []) := by
      intro n
      induction n with
      | zero => intro x2 trl  hn; exact absurd hn (Nat.not_lt_zero _)
      | succ n ih_21 =>
        intro x2 trl  hn_21 Gl21 wl21 hEl21 hX hD hT H locs hP hS hM_o ls hl
        have hG_o := hEl21 _ _ hG_o
        have hG_a1_o := hEl21 _ _ hG_a1_o
        have hG_a2_o := hEl21 _ _ hG_a2_o
        have hG_a3_o := hEl21 _ _ hG_a3_o
        have hG_a4_o := hEl21 _ _ hG_a4_o
        have hG_a5_o := hEl21 _ _ hG_a5_o
        have hG_x1 := hEl21 _ _ hG_x1
        have hG_b_x1 := hEl21 _ _ hG_b_x1
        have hG_s_x1 := hEl21 _ _ hG_s_x1
        have hG_l_b_x1 := hEl21 _ _ hG_l_b_x1
        have hG_f_b_x1 := hEl21 _ _ hG_f_b_x1
        have hG_r_b_x1 := hEl21 _ _ hG_r_b_x1
        have x2l := Int32.le_toInt x2
        refine lv_iload_n hx hb dX8_nextGoingOn_21 rfl (lv_at hl 0 rfl) ?_
        refine lv_iload_n hx hb dX8_nextGoingOn_22 rfl (lv_at hl 1 rfl) ?_
        refine lv_icmp_ge (tgt := 118) hx hb dX8_nextGoingOn_23 (by decide) (fun c23 => ?_) (fun c23 => ?_)
        · skip
          have d23 := c23
          rw [fa_le] at d23
          refine lv_aload_n hx hb dX8_nextGoingOn_118 rfl (lv_at hl 2 rfl) ?_
          refine lv_iload_n hx hb dX8_nextGoingOn_119 rfl (lv_at hl 0 rfl) ?_
          refine lv_iload_n hx hb dX8_nextGoingOn_120 rfl (lv_at hl 1 rfl) ?_
          refine lv_icmp_ge (tgt := 128) hx hb dX8_nextGoingOn_121 (by decide) (fun c121 => ?_) (fun c121 => ?_)
          · skip
            have d121 := c121
            rw [fa_le] at d121
            refine lv_iconst (v := 0) hx hb dX8_nextGoingOn_128 (by decide) ?_
            refine t_put (v := .int (0 : Int32)) (C := RX8) (T := TX8) (N := 10) (ty0 := tyX8) hx hb hts (by decide +kernel) tyX8_ok nmX8 hown hK hP hD hS hM_o rfl 3 (by decide) (hts (.fieldLink RX8 20 "ShadowBench$Walk" "spent" "Z") (by decide +kernel)) (fun _ h9 => h9) rfl rfl rfl (Nat.le_of_ble_eq_true rfl) dX8_nextGoingOn_129 (fun H locs w129 hU129 hP hD hS => ?_)
            have hT := hT.up hU129 hG_o ⟨(some x1), _, _, _, _, _, _, _, _, _, rfl, (Or.inl rfl), (fun _ z => Option.some.inj z ▸ ⟨_, _, hG_x1⟩), hG_a1_o, hG_a2_o, hG_a3_o, hG_a4_o, hG_a5_o⟩
            have hM_o : cIn w129 o (.inr (7, [.ref x1, .int y_o, .int trl, .int (0 : Int32), .long fd_o, .ref a1_o, .ref a2_o, .ref a3_o, .ref a4_o, .ref a5_o])) := hU129.1
            have hX := hX.tr (cX.up hU129 (Or.inr ⟨_, hG_o, rfl⟩))
            refine lv_iconst (v := (-1)) hx hb dX8_nextGoingOn_132 (by decide) ?_
            exact W.iret (v := ((-1) : Int32)) hx hb hr (fun t ht hW => ⟨⟨_, (Gl21, w129), rfl, ⟨hX, ⟨_, _, by rw [hopt]; exact hM_o⟩⟩, by show va_P D vwCl w129 t.heap; rw [ht]; exact hP, hD, hT⟩, hS.F ht⟩) hS.2.2 dX8_nextGoingOn_133
          · first | exact absurd c121 c23 | exact absurd c23 c121
        · skip
          have d23 := c23
          rw [fa_le] at d23
          refine lv_aload_n hx hb dX8_nextGoingOn_26 rfl (lv_at hl 2 rfl) ?_
          refine t_get (v := .int trl) (C := RX8) (T := TX8) (N := 10) hx hb hts (by decide +kernel) hown hK hP hM_o rfl 2 (by decide) (hts (.fieldLink RX8 17 "ShadowBench$Walk" "tried" "I") (by decide +kernel)) (fun _ h9 => h9) rfl dX8_nextGoingOn_27 ?_
          refine lv_ldc hx hb hown (hts (.constant RX8 91 (200000)) (by decide +kernel)) dX8_nextGoingOn_30 ?_
          refine lv_icmp_ge (tgt := 118) hx hb dX8_nextGoingOn_32 (by decide) (fun c32 => ?_) (fun c32 => ?_)
          · skip
            have d32 := c32
            rw [fa_le] at d32
            refine lv_aload_n hx hb dX8_nextGoingOn_118 rfl (lv_at hl 2 rfl) ?_
            refine lv_iload_n hx hb dX8_nextGoingOn_119 rfl (lv_at hl 0 rfl) ?_
            refine lv_iload_n hx hb dX8_nextGoingOn_120 rfl (lv_at hl 1 rfl) ?_
            refine lv_icmp_ge (tgt := 128) hx hb dX8_nextGoingOn_121 (by decide) (fun c121 => ?_) (fun c121 => ?_)
            · first | exact absurd c121 c23 | exact absurd c23 c121
            · skip
              have d121 := c121
              rw [fa_le] at d121
              refine lv_iconst (v := 1) hx hb dX8_nextGoingOn_124 (by decide) ?_
              refine lv_goto (tgt := 129) hx hb dX8_nextGoingOn_125 (by decide) ?_
              refine t_put (v := .int (1 : Int32)) (C := RX8) (T := TX8) (N := 10) (ty0 := tyX8) hx hb hts (by decide +kernel) tyX8_ok nmX8 hown hK hP hD hS hM_o rfl 3 (by decide) (hts (.fieldLink RX8 20 "ShadowBench$Walk" "spent" "Z") (by decide +kernel)) (fun _ h9 => h9) rfl rfl rfl (Nat.le_of_ble_eq_true rfl) dX8_nextGoingOn_129 (fun H locs w129 hU129 hP hD hS => ?_)
              have hT := hT.up hU129 hG_o ⟨(some x1), _, _, _, _, _, _, _, _, _, rfl, (Or.inr rfl), (fun _ z => Option.some.inj z ▸ ⟨_, _, hG_x1⟩), hG_a1_o, hG_a2_o, hG_a3_o, hG_a4_o, hG_a5_o⟩
              have hM_o : cIn w129 o (.inr (7, [.ref x1, .int y_o, .int trl, .int (1 : Int32), .long fd_o, .ref a1_o, .ref a2_o, .ref a3_o, .ref a4_o, .ref a5_o])) := hU129.1
              have hX := hX.tr (cX.up hU129 (Or.inr ⟨_, hG_o, rfl⟩))
              refine lv_iconst (v := (-1)) hx hb dX8_nextGoingOn_132 (by decide) ?_
              exact W.iret (v := ((-1) : Int32)) hx hb hr (fun t ht hW => ⟨⟨_, (Gl21, w129), rfl, ⟨hX, ⟨_, _, by rw [hopt]; exact hM_o⟩⟩, by show va_P D vwCl w129 t.heap; rw [ht]; exact hP, hD, hT⟩, hS.F ht⟩) hS.2.2 dX8_nextGoingOn_133
          · skip
            have d32 := c32
            rw [fa_le] at d32
            refine lv_aload_n hx hb dX8_nextGoingOn_35 rfl (lv_at hl 2 rfl) ?_
            refine lv_dup hx hb dX8_nextGoingOn_36 rfl ?_
            refine t_get (v := .int trl) (C := RX8) (T := TX8) (N := 10) hx hb hts (by decide +kernel) hown hK hP hM_o rfl 2 (by decide) (hts (.fieldLink RX8 17 "ShadowBench$Walk" "tried" "I") (by decide +kernel)) (fun _ h9 => h9) rfl dX8_nextGoingOn_37 ?_
            refine lv_iconst (v := 1) hx hb dX8_nextGoingOn_40 (by decide) ?_
            refine lv_iadd hx hb dX8_nextGoingOn_41 ?_
            refine lv_topi (fun v41 e41 => ?_)
            refine t_put (v := .int v41) (C := RX8) (T := TX8) (N := 10) (ty0 := tyX8) hx hb hts (by decide +kernel) tyX8_ok nmX8 hown hK hP hD hS hM_o rfl 2 (by decide) (hts (.fieldLink RX8 17 "ShadowBench$Walk" "tried" "I") (by decide +kernel)) (fun _ h9 => h9) rfl rfl rfl (Nat.le_of_ble_eq_true rfl) dX8_nextGoingOn_42 (fun H locs w42 hU42 hP hD hS => ?_)
            have hT := hT.up hU42 hG_o ⟨(some x1), _, _, _, _, _, _, _, _, _, rfl, hsp_o, (fun _ z => Option.some.inj z ▸ ⟨_, _, hG_x1⟩), hG_a1_o, hG_a2_o, hG_a3_o, hG_a4_o, hG_a5_o⟩
            have hM_o : cIn w42 o (.inr (7, [.ref x1, .int y_o, .int v41, .int sp_o, .long fd_o, .ref a1_o, .ref a2_o, .ref a3_o, .ref a4_o, .ref a5_o])) := hU42.1
            have hX := hX.tr (cX.up hU42 (Or.inr ⟨_, hG_o, rfl⟩))
            refine lv_iload_n hx hb dX8_nextGoingOn_45 rfl (lv_at hl 0 rfl) ?_
            refine lv_aload_n hx hb dX8_nextGoingOn_46 rfl (lv_at hl 2 rfl) ?_
            refine t_get (v := .ref a4_o) (C := RX8) (T := TX8) (N := 10) hx hb hts (by decide +kernel) hown hK hP hM_o rfl 8 (by decide) (hts (.fieldLink RX8 40 "ShadowBench$Walk" "barred" "[I") (by decide +kernel)) (fun _ h9 => h9) rfl dX8_nextGoingOn_47 ?_
            refine lv_aload_n hx hb dX8_nextGoingOn_50 rfl (lv_at hl 2 rfl) ?_
            refine t_get (v := .int y_o) (C := RX8) (T := TX8) (N := 10) hx hb hts (by decide +kernel) hown hK hP hM_o rfl 1 (by decide) (hts (.fieldLink RX8 13 "ShadowBench$Walk" "y" "I") (by decide +kernel)) (fun _ h9 => h9) rfl dX8_nextGoingOn_51 ?_
            refine t_iald hx hb hK hP hT (Or.inr (Or.inr (Or.inr (Or.inr (Or.inr rfl))))) hG_a4_o (vp_in_iff.mpr ⟨by omega, by omega⟩) dX8_nextGoingOn_54 (fun v54 => ?_)
            refine lv_iand hx hb dX8_nextGoingOn_55 ?_
            refine lv_topi (fun v55 e55 => ?_)
            refine lv_if_ne (tgt := 112) hx hb dX8_nextGoingOn_56 (by decide) (fun c56 => ?_) (fun c56 => ?_)
            · skip
              have d56 := c56
              rw [fa_eq] at d56
              obtain ⟨v112, e112⟩ : ∃ y : Int32, y = x2 + 1 := ⟨_, rfl⟩
              have i112 : v112.toInt = x2.toInt + 1 := by rw [e112]; exact fb_addI (by omega) (by omega)
              refine lv_iinc (v := v112) (lv' := [(2, .int v112), (1, .int (nI (2 ^ w_x1))), (0, .ref o)]) hx hb dX8_nextGoingOn_112 hl (k := 0) rfl (by rw [e112]; rfl) (by decide) rfl (fun ls hl => ?_)
              refine lv_goto (tgt := 21) hx hb dX8_nextGoingOn_115 (by decide) ?_
              exact ih_21 v112 v41  (by omega) Gl21 w42 hEl21 hX hD hT _ _ hP hS hM_o ls (lv_sub hl [0, 1, 2] rfl)
            · skip
              have d56 := c56
              rw [fa_eq] at d56
              refine lv_iload_n hx hb dX8_nextGoingOn_59 rfl (lv_at hl 0 rfl) ?_
              refine lv_aload_n hx hb dX8_nextGoingOn_60 rfl (lv_at hl 2 rfl) ?_
              refine t_get (v := .ref a3_o) (C := RX8) (T := TX8) (N := 10) hx hb hts (by decide +kernel) hown hK hP hM_o rfl 7 (by decide) (hts (.fieldLink RX8 37 "ShadowBench$Walk" "needed" "[I") (by decide +kernel)) (fun _ h9 => h9) rfl dX8_nextGoingOn_61 ?_
              refine lv_aload_n hx hb dX8_nextGoingOn_64 rfl (lv_at hl 2 rfl) ?_
              refine t_get (v := .int y_o) (C := RX8) (T := TX8) (N := 10) hx hb hts (by decide +kernel) hown hK hP hM_o rfl 1 (by decide) (hts (.fieldLink RX8 13 "ShadowBench$Walk" "y" "I") (by decide +kernel)) (fun _ h9 => h9) rfl dX8_nextGoingOn_65 ?_
              refine t_iald hx hb hK hP hT (Or.inr (Or.inr (Or.inr (Or.inr (Or.inl rfl))))) hG_a3_o (vp_in_iff.mpr ⟨by omega, by omega⟩) dX8_nextGoingOn_68 (fun v68 => ?_)
              refine lv_iand hx hb dX8_nextGoingOn_69 ?_
              refine lv_topi (fun v69 e69 => ?_)
              refine lv_aload_n hx hb dX8_nextGoingOn_70 rfl (lv_at hl 2 rfl) ?_
              refine t_get (v := .ref a3_o) (C := RX8) (T := TX8) (N := 10) hx hb hts (by decide +kernel) hown hK hP hM_o rfl 7 (by decide) (hts (.fieldLink RX8 37 "ShadowBench$Walk" "needed" "[I") (by decide +kernel)) (fun _ h9 => h9) rfl dX8_nextGoingOn_71 ?_
              refine lv_aload_n hx hb dX8_nextGoingOn_74 rfl (lv_at hl 2 rfl) ?_
              refine t_get (v := .int y_o) (C := RX8) (T := TX8) (N := 10) hx hb hts (by decide +kernel) hown hK hP hM_o rfl 1 (by decide) (hts (.fieldLink RX8 13 "ShadowBench$Walk" "y" "I") (by decide +kernel)) (fun _ h9 => h9) rfl dX8_nextGoingOn_75 ?_
              refine t_iald hx hb hK hP hT (Or.inr (Or.inr (Or.inr (Or.inr (Or.inl rfl))))) hG_a3_o (vp_in_iff.mpr ⟨by omega, by omega⟩) dX8_nextGoingOn_78 (fun v78 => ?_)
              refine lv_icmp_ne (tgt := 112) hx hb dX8_nextGoingOn_79 (by decide) (fun c79 => ?_) (fun c79 => ?_)
              · skip
                have d79 := c79
                rw [fa_eq] at d79
                obtain ⟨v112, e112⟩ : ∃ y : Int32, y = x2 + 1 := ⟨_, rfl⟩
                have i112 : v112.toInt = x2.toInt + 1 := by rw [e112]; exact fb_addI (by omega) (by omega)
                refine lv_iinc (v := v112) (lv' := [(2, .int v112), (1, .int (nI (2 ^ w_x1))), (0, .ref o)]) hx hb dX8_nextGoingOn_112 hl (k := 0) rfl (by rw [e112]; rfl) (by decide) rfl (fun ls hl => ?_)
                refine lv_goto (tgt := 21) hx hb dX8_nextGoingOn_115 (by decide) ?_
                exact ih_21 v112 v41  (by omega) Gl21 w42 hEl21 hX hD hT _ _ hP hS hM_o ls (lv_sub hl [0, 1, 2] rfl)
              · skip
                have d79 := c79
                rw [fa_eq] at d79
                refine lv_iload_n hx hb dX8_nextGoingOn_82 rfl (lv_at hl 0 rfl) ?_
                refine t_pu (As := [.int x2]) (rest := []) ⟨hx, hb, hml, hown, hts⟩ (c_J6_bitCount_0f7a4 l x2 ) (va_cwS 1 hts gX8_nextGoingOn_J6_bitCount_0f7a4 rfl rfl rfl (by decide +kernel) ⟨Nat.le_of_ble_eq_true rfl, Nat.le_of_ble_eq_true rfl⟩) hP rfl hl.1 rfl (Nat.le_of_ble_eq_true rfl) dX8_nextGoingOn_83 ⟨Nat.le_of_ble_eq_true rfl, Nat.le_of_ble_eq_true rfl⟩ hS (fun r83 H locs q83 hP hS => ?_)
                refine lv_aload_n hx hb dX8_nextGoingOn_86 rfl (lv_at hl 2 rfl) ?_
                refine t_get (v := .ref a2_o) (C := RX8) (T := TX8) (N := 10) hx hb hts (by decide +kernel) hown hK hP hM_o rfl 6 (by decide) (hts (.fieldLink RX8 34 "ShadowBench$Walk" "rowSum" "[I") (by decide +kernel)) (fun _ h9 => h9) rfl dX8_nextGoingOn_87 ?_
                refine lv_aload_n hx hb dX8_nextGoingOn_90 rfl (lv_at hl 2 rfl) ?_
                refine t_get (v := .int y_o) (C := RX8) (T := TX8) (N := 10) hx hb hts (by decide +kernel) hown hK hP hM_o rfl 1 (by decide) (hts (.fieldLink RX8 13 "ShadowBench$Walk" "y" "I") (by decide +kernel)) (fun _ h9 => h9) rfl dX8_nextGoingOn_91 ?_
                refine t_iald hx hb hK hP hT (Or.inr (Or.inr (Or.inr (Or.inl rfl)))) hG_a2_o (vp_in_iff.mpr ⟨by omega, by omega⟩) dX8_nextGoingOn_94 (fun v94 => ?_)
                refine lv_icmp_ne (tgt := 112) hx hb dX8_nextGoingOn_95 (by decide) (fun c95 => ?_) (fun c95 => ?_)
                · skip
                  have d95 := c95
                  rw [fa_eq] at d95
                  obtain ⟨v112, e112⟩ : ∃ y : Int32, y = x2 + 1 := ⟨_, rfl⟩
                  have i112 : v112.toInt = x2.toInt + 1 := by rw [e112]; exact fb_addI (by omega) (by omega)
                  refine lv_iinc (v := v112) (lv' := [(2, .int v112), (1, .int (nI (2 ^ w_x1))), (0, .ref o)]) hx hb dX8_nextGoingOn_112 hl (k := 0) rfl (by rw [e112]; rfl) (by decide) rfl (fun ls hl => ?_)
                  refine lv_goto (tgt := 21) hx hb dX8_nextGoingOn_115 (by decide) ?_
                  exact ih_21 v112 v41  (by omega) Gl21 w42 hEl21 hX hD hT _ _ hP hS hM_o ls (lv_sub hl [0, 1, 2] rfl)
                · skip
                  have d95 := c95
                  rw [fa_eq] at d95
                  refine lv_aload_n hx hb dX8_nextGoingOn_98 rfl (lv_at hl 2 rfl) ?_
                  refine t_get (v := .ref a1_o) (C := RX8) (T := TX8) (N := 10) hx hb hts (by decide +kernel) hown hK hP hM_o rfl 5 (by decide) (hts (.fieldLink RX8 30 "ShadowBench$Walk" "nextRow" "[I") (by decide +kernel)) (fun _ h9 => h9) rfl dX8_nextGoingOn_99 ?_
                  refine lv_aload_n hx hb dX8_nextGoingOn_102 rfl (lv_at hl 2 rfl) ?_
                  refine t_get (v := .int y_o) (C := RX8) (T := TX8) (N := 10) hx hb hts (by decide +kernel) hown hK hP hM_o rfl 1 (by decide) (hts (.fieldLink RX8 13 "ShadowBench$Walk" "y" "I") (by decide +kernel)) (fun _ h9 => h9) rfl dX8_nextGoingOn_103 ?_
                  refine lv_iload_n hx hb dX8_nextGoingOn_106 rfl (lv_at hl 0 rfl) ?_
                  refine lv_iconst (v := 1) hx hb dX8_nextGoingOn_107 (by decide) ?_
                  refine lv_iadd hx hb dX8_nextGoingOn_108 ?_
                  refine lv_topi (fun v108 e108 => ?_)
                  refine t_iast hx hb hK hP hD hS hT (Or.inr (Or.inr (Or.inl rfl))) hG_a1_o (vp_in_iff.mpr ⟨by omega, by omega⟩) dX8_nextGoingOn_109 (fun H locs w109 hU109 hP hD hT hS => ?_)
                  have hM_o := hU109 _ _ (cne hG_o hG_a1_o (show (5 : Nat) ≠ 20 by decide)) hM_o
                  have hX := hX.tr (cX.uF hU109 (Or.inr ⟨_, hG_a1_o, rfl⟩))
                  refine lv_iload_n hx hb dX8_nextGoingOn_110 rfl (lv_at hl 0 rfl) ?_
                  exact W.iret (v := x2) hx hb hr (fun t ht hW => ⟨⟨_, (Gl21, w109), rfl, ⟨hX, ⟨_, _, by rw [hopt]; exact hM_o⟩⟩, by show va_P D vwCl w109 t.heap; rw [ht]; exact hP, hD, hT⟩, hS.F ht⟩) hS.2.2 dX8_nextGoingOn_111
    exact loop_21 (((64 : Int) - v19.toInt).toNat + 1) v19 tr_o  (by omega) G ws cE.rf hX hD hT _ _ hP hS hM_o ls (lv_sub hl [0, 1, 2] rfl)
set_option maxHeartbeats 4000000 in
set_option maxRecDepth 100000 in
theorem c_X8_enterRow (l : Launch) (D : va_G) (cy : Nat → ClassId) (A : Nat → Prop) (G : cG) (ws : va_W) (o : Nat) (next : Int32) (above : Int64) {j_o : Option Nat} {y_o tr_o sp_o : Int32} {fd_o : Int64} {a1_o a2_o a3_o a4_o a5_o : Nat} (hD : va_D A ws) (hT : cT cy G ws) (hG_o : G o = some (5, 0, 0)) (hM_o : cIn ws o (.inr (7, [va_rf j_o, .int y_o, .int tr_o, .int sp_o, .long fd_o, .ref a1_o, .ref a2_o, .ref a3_o, .ref a4_o, .ref a5_o])))  : Cv l D cy A yX8_enterRow wsX8_enterRow ({ frames := 3, cells := 0, slots := 0, locals := 71 }) 0 0 ws [.ref o, .int next, .long above] (fun u => cX none (chs [1, 5, 20, 21, 22, 23]) G ws u.1 u.2 ∧ (True)) := by
  refine Met.ofW (cc := cX8_enterRow) (maxL := 4) (ret := none) (by decide) rfl ?_
  intro p e s m args below meth c s₁ B hml hv
  obtain ⟨rfl, hP, hK, hA, hV⟩ := hv
  have hx := B.exec
  have hb := B.bytes
  have hr := B.returns
  have hts := atoms_spec (ws := wsX8_enterRow) B.pre
  have hown : s.vm.findClass RX8 = some m.cls := findClass_of_methodNamed B.named
  have hlocks := B.notSynchronized
  have hS : va_S A s.heap s.heap [] := va_S.rf
  have hX : cX none (chs [1, 5, 20, 21, 22, 23]) G ws G ws := cX.rf
  have hl := lv_entry ([.ref o, .int next, .long above]) (n := 4) (Nat.le_of_ble_eq_true rfl)
  rw [lg_entry_eq]
  generalize (lg_sl ([.ref o, .int next, .long above]) ++ List.replicate (4 - (lg_sl ([.ref o, .int next, .long above])).length) Slot.unset).toArray = ls at hl ⊢
  have hl : lv_has ls 4 [(0, .ref o), (1, .int next), (2, .long above)] := hl
  have k_0 : (0 : Int32).toInt = 0 := by decide
  obtain ⟨hsp_o, hj_o, hG_a1_o, hG_a2_o, hG_a3_o, hG_a4_o, hG_a5_o⟩ := c5 hD hT hG_o hM_o
  refine lv_aload_n hx hb dX8_enterRow_0 rfl (lv_at hl 0 rfl) ?_
  refine lv_iload_n hx hb dX8_enterRow_1 rfl (lv_at hl 1 rfl) ?_
  refine t_put (v := .int next) (C := RX8) (T := TX8) (N := 10) (ty0 := tyX8) hx hb hts (by decide +kernel) tyX8_ok nmX8 hown hK hP hD hS hM_o rfl 1 (by decide) (hts (.fieldLink RX8 13 "ShadowBench$Walk" "y" "I") (by decide +kernel)) (fun _ h9 => h9) rfl rfl rfl (Nat.le_of_ble_eq_true rfl) dX8_enterRow_2 (fun H locs w2 hU2 hP hD hS => ?_)
  have hT := hT.up hU2 hG_o ⟨j_o, _, _, _, _, _, _, _, _, _, rfl, hsp_o, hj_o, hG_a1_o, hG_a2_o, hG_a3_o, hG_a4_o, hG_a5_o⟩
  have hM_o : cIn w2 o (.inr (7, [va_rf j_o, .int next, .int tr_o, .int sp_o, .long fd_o, .ref a1_o, .ref a2_o, .ref a3_o, .ref a4_o, .ref a5_o])) := hU2.1
  have hX := hX.tr (cX.up hU2 (Or.inr ⟨_, hG_o, rfl⟩))
  refine lv_aload_n hx hb dX8_enterRow_5 rfl (lv_at hl 0 rfl) ?_
  refine t_calli (va_runV (g := F0 m 6 ls ([.ref o])) (As := []) (rest := []) ⟨hx, hb, hml, hown, hts⟩ (c_X8_hasRow (j_o := j_o) l D cy A G w2 o hD hT hG_o hM_o ) (cwV 0 hts gX8_enterRow_X8_hasRow rfl rfl rfl (by decide +kernel) ⟨Nat.le_of_ble_eq_true rfl, Nat.le_of_ble_eq_true rfl⟩) (c_preV hM_o rfl hP hK hA hS hV) rfl rfl hl.1 rfl (lv_room (Nat.le_of_ble_eq_true rfl)) dX8_enterRow_6 ⟨Nat.le_of_ble_eq_true rfl, Nat.le_of_ble_eq_true rfl⟩) hS (fun r6 u H locs q6 hP9 hD9 hT9 hS => ?_)
  obtain ⟨rfl, q6⟩ := q6
  have hP : va_P D vwCl w2 H := hP9
  refine lv_if_eq (tgt := 102) hx hb dX8_enterRow_9 (by decide) (fun c9 => ?_) (fun c9 => ?_)
  · skip
    have d9 := c9
    rw [fa_eq] at d9
    exact W.vret hx hb hr (fun t ht hW => ⟨⟨(G, w2), rfl, ⟨hX, trivial⟩, by show va_P D vwCl w2 t.heap; rw [ht]; exact hP, hD, hT⟩, hS.F ht⟩) hS.2.2 dX8_enterRow_102
  · skip
    have d9 := c9
    rw [fa_eq] at d9
    have z6 := q6.2 (Or.resolve_left q6.1 c9)
    refine lv_aload_n hx hb dX8_enterRow_12 rfl (lv_at hl 0 rfl) ?_
    refine t_get (v := .ref a1_o) (C := RX8) (T := TX8) (N := 10) hx hb hts (by decide +kernel) hown hK hP hM_o rfl 5 (by decide) (hts (.fieldLink RX8 30 "ShadowBench$Walk" "nextRow" "[I") (by decide +kernel)) (fun _ h9 => h9) rfl dX8_enterRow_13 ?_
    refine lv_aload_n hx hb dX8_enterRow_16 rfl (lv_at hl 0 rfl) ?_
    refine t_get (v := .int next) (C := RX8) (T := TX8) (N := 10) hx hb hts (by decide +kernel) hown hK hP hM_o rfl 1 (by decide) (hts (.fieldLink RX8 13 "ShadowBench$Walk" "y" "I") (by decide +kernel)) (fun _ h9 => h9) rfl dX8_enterRow_17 ?_
    refine lv_iconst (v := 0) hx hb dX8_enterRow_20 (by decide) ?_
    refine t_iast hx hb hK hP hD hS hT (Or.inr (Or.inr (Or.inl rfl))) hG_a1_o (vp_in_iff.mpr ⟨by omega, by omega⟩) dX8_enterRow_21 (fun H locs w21 hU21 hP hD hT hS => ?_)
    have hM_o := hU21 _ _ (cne hG_o hG_a1_o (show (5 : Nat) ≠ 20 by decide)) hM_o
    have hX := hX.tr (cX.uF hU21 (Or.inr ⟨_, hG_a1_o, rfl⟩))
    refine lv_aload_n hx hb dX8_enterRow_22 rfl (lv_at hl 0 rfl) ?_
    refine t_get (v := .ref a2_o) (C := RX8) (T := TX8) (N := 10) hx hb hts (by decide +kernel) hown hK hP hM_o rfl 6 (by decide) (hts (.fieldLink RX8 34 "ShadowBench$Walk" "rowSum" "[I") (by decide +kernel)) (fun _ h9 => h9) rfl dX8_enterRow_23 ?_
    refine lv_aload_n hx hb dX8_enterRow_26 rfl (lv_at hl 0 rfl) ?_
    refine t_get (v := .int next) (C := RX8) (T := TX8) (N := 10) hx hb hts (by decide +kernel) hown hK hP hM_o rfl 1 (by decide) (hts (.fieldLink RX8 13 "ShadowBench$Walk" "y" "I") (by decide +kernel)) (fun _ h9 => h9) rfl dX8_enterRow_27 ?_
    refine lv_aload_n hx hb dX8_enterRow_30 rfl (lv_at hl 0 rfl) ?_
    have hoq : j_o = none ∨ ∃ x, j_o = some x := by cases j_o; exact Or.inl rfl; exact Or.inr ⟨_, rfl⟩
    rcases hoq with hopt | ⟨x31, hopt⟩
    · obtain ⟨⟨_, z⟩, _⟩ := z6; rw [hopt] at z; cases z
    · skip
      obtain ⟨kx31, nx31, hG_x31⟩ := hj_o x31 hopt
      rw [hopt] at hM_o
      have hM_o : cIn w21 o (.inr (7, [.ref x31, .int next, .int tr_o, .int sp_o, .long fd_o, .ref a1_o, .ref a2_o, .ref a3_o, .ref a4_o, .ref a5_o])) := hM_o
      refine t_get (v := .ref x31) (C := RX8) (T := TX8) (N := 10) hx hb hts (by decide +kernel) hown hK hP hM_o rfl 0 (by decide) (hts (.fieldLink RX8 7 "ShadowBench$Walk" "job" "LShadowBench$Job;") (by decide +kernel)) (fun _ h9 => h9) rfl dX8_enterRow_31 ?_
      refine lv_iconst (v := 0) hx hb dX8_enterRow_34 (by decide) ?_
      refine lv_aload_n hx hb dX8_enterRow_35 rfl (lv_at hl 0 rfl) ?_
      refine t_get (v := .int next) (C := RX8) (T := TX8) (N := 10) hx hb hts (by decide +kernel) hown hK hP hM_o rfl 1 (by decide) (hts (.fieldLink RX8 13 "ShadowBench$Walk" "y" "I") (by decide +kernel)) (fun _ h9 => h9) rfl dX8_enterRow_36 ?_
      obtain ⟨_, hM_x31, b_x31, s_x31, w_x31, h_x31, t_x31, x_x31, y_x31, ms_x31, rfl, hG_b_x31, hG_s_x31, hJ_x31⟩ := hT _ _ hG_x31
      refine t_calli (t_runJ (g := F0 m 39 ls ([.int next, .int (0 : Int32), .ref x31, .int next, .ref a2_o])) (As := [.int (0 : Int32), .int next]) (rest := [.int next, .ref a2_o]) ⟨hx, hb, hml, hown, hts⟩ (c_X3_sumOf l D cy A G w21 x31 (0 : Int32) next hD hT hG_x31 ) (va_cwU 2 hts gX8_enterRow_X3_sumOf_u73X1 rfl rfl rfl rfl (by decide +kernel) ⟨Nat.le_of_ble_eq_true rfl, Nat.le_of_ble_eq_true rfl⟩) (cwV 2 hts gX8_enterRow_X3_sumOf rfl rfl rfl (by decide +kernel) ⟨Nat.le_of_ble_eq_true rfl, Nat.le_of_ble_eq_true rfl⟩) (va_cwU 2 hts gX8_enterRow_X3_sumOf_u73X4 rfl rfl rfl rfl (by decide +kernel) ⟨Nat.le_of_ble_eq_true rfl, Nat.le_of_ble_eq_true rfl⟩) (va_cwU 2 hts gX8_enterRow_X3_sumOf_u73X5 rfl rfl rfl rfl (by decide +kernel) ⟨Nat.le_of_ble_eq_true rfl, Nat.le_of_ble_eq_true rfl⟩) hJ_x31.kc hM_x31 hP hK c_blind (c_preS hP hK hA hS hV).2 rfl rfl hl.1 rfl (lv_room (Nat.le_of_ble_eq_true rfl)) dX8_enterRow_39 ⟨Nat.le_of_ble_eq_true rfl, Nat.le_of_ble_eq_true rfl⟩) hS (fun r39 u H locs q39 hP9 hD9 hT9 hS => ?_)
      obtain ⟨rfl, q39⟩ := q39
      have hP : va_P D vwCl w21 H := hP9
      refine t_iast hx hb hK hP hD hS hT (Or.inr (Or.inr (Or.inr (Or.inl rfl)))) hG_a2_o (vp_in_iff.mpr ⟨by omega, by omega⟩) dX8_enterRow_42 (fun H locs w42 hU42 hP hD hT hS => ?_)
      have hM_o := hU42 _ _ (cne hG_o hG_a2_o (show (5 : Nat) ≠ 21 by decide)) hM_o
      have hM_x31 := hU42 _ _ (cne hG_x31 hG_a2_o (show (3 : Nat) ≠ 21 by decide)) hM_x31
      have hX := hX.tr (cX.uF hU42 (Or.inr ⟨_, hG_a2_o, rfl⟩))
      refine lv_aload_n hx hb dX8_enterRow_43 rfl (lv_at hl 0 rfl) ?_
      refine t_get (v := .ref a3_o) (C := RX8) (T := TX8) (N := 10) hx hb hts (by decide +kernel) hown hK hP hM_o rfl 7 (by decide) (hts (.fieldLink RX8 37 "ShadowBench$Walk" "needed" "[I") (by decide +kernel)) (fun _ h9 => h9) rfl dX8_enterRow_44 ?_
      refine lv_aload_n hx hb dX8_enterRow_47 rfl (lv_at hl 0 rfl) ?_
      refine t_get (v := .int next) (C := RX8) (T := TX8) (N := 10) hx hb hts (by decide +kernel) hown hK hP hM_o rfl 1 (by decide) (hts (.fieldLink RX8 13 "ShadowBench$Walk" "y" "I") (by decide +kernel)) (fun _ h9 => h9) rfl dX8_enterRow_48 ?_
      refine lv_aload_n hx hb dX8_enterRow_51 rfl (lv_at hl 0 rfl) ?_
      refine t_get (v := .ref x31) (C := RX8) (T := TX8) (N := 10) hx hb hts (by decide +kernel) hown hK hP hM_o rfl 0 (by decide) (hts (.fieldLink RX8 7 "ShadowBench$Walk" "job" "LShadowBench$Job;") (by decide +kernel)) (fun _ h9 => h9) rfl dX8_enterRow_52 ?_
      refine lv_aload_n hx hb dX8_enterRow_55 rfl (lv_at hl 0 rfl) ?_
      refine t_get (v := .int next) (C := RX8) (T := TX8) (N := 10) hx hb hts (by decide +kernel) hown hK hP hM_o rfl 1 (by decide) (hts (.fieldLink RX8 13 "ShadowBench$Walk" "y" "I") (by decide +kernel)) (fun _ h9 => h9) rfl dX8_enterRow_56 ?_
      refine t_calli (t_runJ (g := F0 m 59 ls ([.int next, .ref x31, .int next, .ref a3_o])) (As := [.int next]) (rest := [.int next, .ref a3_o]) ⟨hx, hb, hml, hown, hts⟩ (c_X3_onesHeldInRow l D cy A G w42 x31 next hD hT hG_x31 ) (va_cwU 1 hts gX8_enterRow_X3_onesHeldInRow_u77X1 rfl rfl rfl rfl (by decide +kernel) ⟨Nat.le_of_ble_eq_true rfl, Nat.le_of_ble_eq_true rfl⟩) (cwV 1 hts gX8_enterRow_X3_onesHeldInRow rfl rfl rfl (by decide +kernel) ⟨Nat.le_of_ble_eq_true rfl, Nat.le_of_ble_eq_true rfl⟩) (va_cwU 1 hts gX8_enterRow_X3_onesHeldInRow_u77X4 rfl rfl rfl rfl (by decide +kernel) ⟨Nat.le_of_ble_eq_true rfl, Nat.le_of_ble_eq_true rfl⟩) (va_cwU 1 hts gX8_enterRow_X3_onesHeldInRow_u77X5 rfl rfl rfl rfl (by decide +kernel) ⟨Nat.le_of_ble_eq_true rfl, Nat.le_of_ble_eq_true rfl⟩) hJ_x31.kc hM_x31 hP hK c_blind (c_preS hP hK hA hS hV).2 rfl rfl hl.1 rfl (lv_room (Nat.le_of_ble_eq_true rfl)) dX8_enterRow_59 ⟨Nat.le_of_ble_eq_true rfl, Nat.le_of_ble_eq_true rfl⟩) hS (fun r59 u H locs q59 hP9 hD9 hT9 hS => ?_)
      obtain ⟨rfl, q59⟩ := q59
      have hP : va_P D vwCl w42 H := hP9
      refine t_iast hx hb hK hP hD hS hT (Or.inr (Or.inr (Or.inr (Or.inr (Or.inl rfl))))) hG_a3_o (vp_in_iff.mpr ⟨by omega, by omega⟩) dX8_enterRow_62 (fun H locs w62 hU62 hP hD hT hS => ?_)
      have hM_o := hU62 _ _ (cne hG_o hG_a3_o (show (5 : Nat) ≠ 22 by decide)) hM_o
      have hM_x31 := hU62 _ _ (cne hG_x31 hG_a3_o (show (3 : Nat) ≠ 22 by decide)) hM_x31
      have hX := hX.tr (cX.uF hU62 (Or.inr ⟨_, hG_a3_o, rfl⟩))
      refine lv_aload_n hx hb dX8_enterRow_63 rfl (lv_at hl 0 rfl) ?_
      refine t_get (v := .ref a4_o) (C := RX8) (T := TX8) (N := 10) hx hb hts (by decide +kernel) hown hK hP hM_o rfl 8 (by decide) (hts (.fieldLink RX8 40 "ShadowBench$Walk" "barred" "[I") (by decide +kernel)) (fun _ h9 => h9) rfl dX8_enterRow_64 ?_
      refine lv_aload_n hx hb dX8_enterRow_67 rfl (lv_at hl 0 rfl) ?_
      refine t_get (v := .int next) (C := RX8) (T := TX8) (N := 10) hx hb hts (by decide +kernel) hown hK hP hM_o rfl 1 (by decide) (hts (.fieldLink RX8 13 "ShadowBench$Walk" "y" "I") (by decide +kernel)) (fun _ h9 => h9) rfl dX8_enterRow_68 ?_
      refine lv_aload_n hx hb dX8_enterRow_71 rfl (lv_at hl 0 rfl) ?_
      refine t_get (v := .ref x31) (C := RX8) (T := TX8) (N := 10) hx hb hts (by decide +kernel) hown hK hP hM_o rfl 0 (by decide) (hts (.fieldLink RX8 7 "ShadowBench$Walk" "job" "LShadowBench$Job;") (by decide +kernel)) (fun _ h9 => h9) rfl dX8_enterRow_72 ?_
      refine lv_aload_n hx hb dX8_enterRow_75 rfl (lv_at hl 0 rfl) ?_
      refine t_get (v := .int next) (C := RX8) (T := TX8) (N := 10) hx hb hts (by decide +kernel) hown hK hP hM_o rfl 1 (by decide) (hts (.fieldLink RX8 13 "ShadowBench$Walk" "y" "I") (by decide +kernel)) (fun _ h9 => h9) rfl dX8_enterRow_76 ?_
      refine t_calli (t_runJ (g := F0 m 79 ls ([.int next, .ref x31, .int next, .ref a4_o])) (As := [.int next]) (rest := [.int next, .ref a4_o]) ⟨hx, hb, hml, hown, hts⟩ (c_X3_noughtsHeldInRow l D cy A G w62 x31 next hD hT hG_x31 ) (va_cwU 1 hts gX8_enterRow_X3_noughtsHeldInRow_u81X1 rfl rfl rfl rfl (by decide +kernel) ⟨Nat.le_of_ble_eq_true rfl, Nat.le_of_ble_eq_true rfl⟩) (cwV 1 hts gX8_enterRow_X3_noughtsHeldInRow rfl rfl rfl (by decide +kernel) ⟨Nat.le_of_ble_eq_true rfl, Nat.le_of_ble_eq_true rfl⟩) (va_cwU 1 hts gX8_enterRow_X3_noughtsHeldInRow_u81X4 rfl rfl rfl rfl (by decide +kernel) ⟨Nat.le_of_ble_eq_true rfl, Nat.le_of_ble_eq_true rfl⟩) (va_cwU 1 hts gX8_enterRow_X3_noughtsHeldInRow_u81X5 rfl rfl rfl rfl (by decide +kernel) ⟨Nat.le_of_ble_eq_true rfl, Nat.le_of_ble_eq_true rfl⟩) hJ_x31.kc hM_x31 hP hK c_blind (c_preS hP hK hA hS hV).2 rfl rfl hl.1 rfl (lv_room (Nat.le_of_ble_eq_true rfl)) dX8_enterRow_79 ⟨Nat.le_of_ble_eq_true rfl, Nat.le_of_ble_eq_true rfl⟩) hS (fun r79 u H locs q79 hP9 hD9 hT9 hS => ?_)
      obtain ⟨rfl, q79⟩ := q79
      have hP : va_P D vwCl w62 H := hP9
      refine lv_aload_n hx hb dX8_enterRow_82 rfl (lv_at hl 0 rfl) ?_
      refine t_get (v := .ref x31) (C := RX8) (T := TX8) (N := 10) hx hb hts (by decide +kernel) hown hK hP hM_o rfl 0 (by decide) (hts (.fieldLink RX8 7 "ShadowBench$Walk" "job" "LShadowBench$Job;") (by decide +kernel)) (fun _ h9 => h9) rfl dX8_enterRow_83 ?_
      refine lv_lload_n hx hb dX8_enterRow_86 rfl (lv_at hl 2 rfl) ?_
      refine t_calli (t_runJ (g := F0 m 87 ls ([.long above, .ref x31, .int r79, .int next, .ref a4_o])) (As := [.long above]) (rest := [.int r79, .int next, .ref a4_o]) ⟨hx, hb, hml, hown, hts⟩ (c_X3_fullColumns l D cy A G w62 x31 above hD hT hG_x31 ) (va_cwU 1 hts gX8_enterRow_X3_fullColumns_u84X1 rfl rfl rfl rfl (by decide +kernel) ⟨Nat.le_of_ble_eq_true rfl, Nat.le_of_ble_eq_true rfl⟩) (cwV 1 hts gX8_enterRow_X3_fullColumns rfl rfl rfl (by decide +kernel) ⟨Nat.le_of_ble_eq_true rfl, Nat.le_of_ble_eq_true rfl⟩) (va_cwU 1 hts gX8_enterRow_X3_fullColumns_u84X4 rfl rfl rfl rfl (by decide +kernel) ⟨Nat.le_of_ble_eq_true rfl, Nat.le_of_ble_eq_true rfl⟩) (va_cwU 1 hts gX8_enterRow_X3_fullColumns_u84X5 rfl rfl rfl rfl (by decide +kernel) ⟨Nat.le_of_ble_eq_true rfl, Nat.le_of_ble_eq_true rfl⟩) hJ_x31.kc hM_x31 hP hK c_blind (c_preS hP hK hA hS hV).2 rfl rfl hl.1 rfl (lv_room (Nat.le_of_ble_eq_true rfl)) dX8_enterRow_87 ⟨Nat.le_of_ble_eq_true rfl, Nat.le_of_ble_eq_true rfl⟩) hS (fun r87 u H locs q87 hP9 hD9 hT9 hS => ?_)
      obtain ⟨rfl, q87⟩ := q87
      have hP : va_P D vwCl w62 H := hP9
      refine lv_ior hx hb dX8_enterRow_90 ?_
      refine lv_topi (fun v90 e90 => ?_)
      refine t_iast hx hb hK hP hD hS hT (Or.inr (Or.inr (Or.inr (Or.inr (Or.inr rfl))))) hG_a4_o (vp_in_iff.mpr ⟨by omega, by omega⟩) dX8_enterRow_91 (fun H locs w91 hU91 hP hD hT hS => ?_)
      have hM_o := hU91 _ _ (cne hG_o hG_a4_o (show (5 : Nat) ≠ 23 by decide)) hM_o
      have hM_x31 := hU91 _ _ (cne hG_x31 hG_a4_o (show (3 : Nat) ≠ 23 by decide)) hM_x31
      have hX := hX.tr (cX.uF hU91 (Or.inr ⟨_, hG_a4_o, rfl⟩))
      refine lv_aload_n hx hb dX8_enterRow_92 rfl (lv_at hl 0 rfl) ?_
      refine t_get (v := .ref a5_o) (C := RX8) (T := TX8) (N := 10) hx hb hts (by decide +kernel) hown hK hP hM_o rfl 9 (by decide) (hts (.fieldLink RX8 43 "ShadowBench$Walk" "drawn" "[J") (by decide +kernel)) (fun _ h9 => h9) rfl dX8_enterRow_93 ?_
      refine lv_aload_n hx hb dX8_enterRow_96 rfl (lv_at hl 0 rfl) ?_
      refine t_get (v := .int next) (C := RX8) (T := TX8) (N := 10) hx hb hts (by decide +kernel) hown hK hP hM_o rfl 1 (by decide) (hts (.fieldLink RX8 13 "ShadowBench$Walk" "y" "I") (by decide +kernel)) (fun _ h9 => h9) rfl dX8_enterRow_97 ?_
      refine lv_lload_n hx hb dX8_enterRow_100 rfl (lv_at hl 2 rfl) ?_
      refine t_last hx hb hK hP hD hS hT (Or.inl rfl) hG_a5_o (vp_in_iff.mpr ⟨by omega, by omega⟩) dX8_enterRow_101 (fun H locs w101 hU101 hP hD hT hS => ?_)
      have hM_o := hU101 _ _ (cne hG_o hG_a5_o (show (5 : Nat) ≠ 1 by decide)) hM_o
      have hM_x31 := hU101 _ _ (cne hG_x31 hG_a5_o (show (3 : Nat) ≠ 1 by decide)) hM_x31
      have hX := hX.tr (cX.uF hU101 (Or.inr ⟨_, hG_a5_o, rfl⟩))
      exact W.vret hx hb hr (fun t ht hW => ⟨⟨(G, w101), rfl, ⟨hX, trivial⟩, by show va_P D vwCl w101 t.heap; rw [ht]; exact hP, hD, hT⟩, hS.F ht⟩) hS.2.2 dX8_enterRow_102
set_option maxHeartbeats 4000000 in
set_option maxRecDepth 100000 in
theorem c_X8_start (l : Launch) (D : va_G) (cy : Nat → ClassId) (A : Nat → Prop) (G : cG) (ws : va_W) (o : Nat) (x1 : Nat) {k1 n1 : Nat} (hD : va_D A ws) (hT : cT cy G ws) (hG_o : G o = some (5, 0, 0)) (hG_x1 : G x1 = some (3, k1, n1))  : Cv l D cy A yX8_start wsX8_start ({ frames := 4, cells := 0, slots := 0, locals := 94 }) 0 0 ws [.ref o, .ref x1] (fun u => cX none (chs [1, 5, 20, 21, 22, 23]) G ws u.1 u.2 ∧ (True)) := by
  refine Met.ofW (cc := cX8_start) (maxL := 2) (ret := none) (by decide) rfl ?_
  intro p e s m args below meth c s₁ B hml hv
  obtain ⟨rfl, hP, hK, hA, hV⟩ := hv
  have hx := B.exec
  have hb := B.bytes
  have hr := B.returns
  have hts := atoms_spec (ws := wsX8_start) B.pre
  have hown : s.vm.findClass RX8 = some m.cls := findClass_of_methodNamed B.named
  have hlocks := B.notSynchronized
  have hS : va_S A s.heap s.heap [] := va_S.rf
  have hX : cX none (chs [1, 5, 20, 21, 22, 23]) G ws G ws := cX.rf
  have hl := lv_entry ([.ref o, .ref x1]) (n := 2) (Nat.le_of_ble_eq_true rfl)
  rw [lg_entry_eq]
  generalize (lg_sl ([.ref o, .ref x1]) ++ List.replicate (2 - (lg_sl ([.ref o, .ref x1])).length) Slot.unset).toArray = ls at hl ⊢
  have hl : lv_has ls 2 [(0, .ref o), (1, .ref x1)] := hl
  have k_0 : (0 : Int32).toInt = 0 := by decide
  have k_0L : (0 : Int64).toInt = 0 := by decide
  refine lv_aload_n hx hb dX8_start_0 rfl (lv_at hl 0 rfl) ?_
  refine lv_aload_n hx hb dX8_start_1 rfl (lv_at hl 1 rfl) ?_
  obtain ⟨_, hM_o, j_o, y_o, tr_o, sp_o, fd_o, a1_o, a2_o, a3_o, a4_o, a5_o, rfl, hsp_o, hj_o, hG_a1_o, hG_a2_o, hG_a3_o, hG_a4_o, hG_a5_o⟩ := hT _ _ hG_o
  refine t_put (v := .ref x1) (C := RX8) (T := TX8) (N := 10) (ty0 := tyX8) hx hb hts (by decide +kernel) tyX8_ok nmX8 hown hK hP hD hS hM_o rfl 0 (by decide) (hts (.fieldLink RX8 7 "ShadowBench$Walk" "job" "LShadowBench$Job;") (by decide +kernel)) (fun _ h9 => h9) rfl rfl rfl (Nat.le_of_ble_eq_true rfl) dX8_start_2 (fun H locs w2 hU2 hP hD hS => ?_)
  have hT := hT.up hU2 hG_o ⟨(some x1), _, _, _, _, _, _, _, _, _, rfl, hsp_o, (fun _ z => Option.some.inj z ▸ ⟨_, _, hG_x1⟩), hG_a1_o, hG_a2_o, hG_a3_o, hG_a4_o, hG_a5_o⟩
  have hM_o : cIn w2 o (.inr (7, [.ref x1, .int y_o, .int tr_o, .int sp_o, .long fd_o, .ref a1_o, .ref a2_o, .ref a3_o, .ref a4_o, .ref a5_o])) := hU2.1
  have hX := hX.tr (cX.up hU2 (Or.inr ⟨_, hG_o, rfl⟩))
  refine lv_aload_n hx hb dX8_start_5 rfl (lv_at hl 0 rfl) ?_
  refine lv_iconst (v := 0) hx hb dX8_start_6 (by decide) ?_
  refine t_put (v := .int (0 : Int32)) (C := RX8) (T := TX8) (N := 10) (ty0 := tyX8) hx hb hts (by decide +kernel) tyX8_ok nmX8 hown hK hP hD hS hM_o rfl 2 (by decide) (hts (.fieldLink RX8 17 "ShadowBench$Walk" "tried" "I") (by decide +kernel)) (fun _ h9 => h9) rfl rfl rfl (Nat.le_of_ble_eq_true rfl) dX8_start_7 (fun H locs w7 hU7 hP hD hS => ?_)
  have hT := hT.up hU7 hG_o ⟨(some x1), _, _, _, _, _, _, _, _, _, rfl, hsp_o, (fun _ z => Option.some.inj z ▸ ⟨_, _, hG_x1⟩), hG_a1_o, hG_a2_o, hG_a3_o, hG_a4_o, hG_a5_o⟩
  have hM_o : cIn w7 o (.inr (7, [.ref x1, .int y_o, .int (0 : Int32), .int sp_o, .long fd_o, .ref a1_o, .ref a2_o, .ref a3_o, .ref a4_o, .ref a5_o])) := hU7.1
  have hX := hX.tr (cX.up hU7 (Or.inr ⟨_, hG_o, rfl⟩))
  refine lv_aload_n hx hb dX8_start_10 rfl (lv_at hl 0 rfl) ?_
  refine lv_iconst (v := 0) hx hb dX8_start_11 (by decide) ?_
  refine t_put (v := .int (0 : Int32)) (C := RX8) (T := TX8) (N := 10) (ty0 := tyX8) hx hb hts (by decide +kernel) tyX8_ok nmX8 hown hK hP hD hS hM_o rfl 3 (by decide) (hts (.fieldLink RX8 20 "ShadowBench$Walk" "spent" "Z") (by decide +kernel)) (fun _ h9 => h9) rfl rfl rfl (Nat.le_of_ble_eq_true rfl) dX8_start_12 (fun H locs w12 hU12 hP hD hS => ?_)
  have hT := hT.up hU12 hG_o ⟨(some x1), _, _, _, _, _, _, _, _, _, rfl, (Or.inl rfl), (fun _ z => Option.some.inj z ▸ ⟨_, _, hG_x1⟩), hG_a1_o, hG_a2_o, hG_a3_o, hG_a4_o, hG_a5_o⟩
  have hM_o : cIn w12 o (.inr (7, [.ref x1, .int y_o, .int (0 : Int32), .int (0 : Int32), .long fd_o, .ref a1_o, .ref a2_o, .ref a3_o, .ref a4_o, .ref a5_o])) := hU12.1
  have hX := hX.tr (cX.up hU12 (Or.inr ⟨_, hG_o, rfl⟩))
  refine lv_aload_n hx hb dX8_start_15 rfl (lv_at hl 0 rfl) ?_
  refine lv_lconst (v := 0) hx hb dX8_start_16 (by decide) ?_
  refine t_put (v := .long (0 : Int64)) (C := RX8) (T := TX8) (N := 10) (ty0 := tyX8) hx hb hts (by decide +kernel) tyX8_ok nmX8 hown hK hP hD hS hM_o rfl 4 (by decide) (hts (.fieldLink RX8 24 "ShadowBench$Walk" "found" "J") (by decide +kernel)) (fun _ h9 => h9) rfl rfl rfl (Nat.le_of_ble_eq_true rfl) dX8_start_17 (fun H locs w17 hU17 hP hD hS => ?_)
  have hT := hT.up hU17 hG_o ⟨(some x1), _, _, _, _, _, _, _, _, _, rfl, (Or.inl rfl), (fun _ z => Option.some.inj z ▸ ⟨_, _, hG_x1⟩), hG_a1_o, hG_a2_o, hG_a3_o, hG_a4_o, hG_a5_o⟩
  have hM_o : cIn w17 o (.inr (7, [.ref x1, .int y_o, .int (0 : Int32), .int (0 : Int32), .long (0 : Int64), .ref a1_o, .ref a2_o, .ref a3_o, .ref a4_o, .ref a5_o])) := hU17.1
  have hX := hX.tr (cX.up hU17 (Or.inr ⟨_, hG_o, rfl⟩))
  refine lv_aload_n hx hb dX8_start_20 rfl (lv_at hl 0 rfl) ?_
  refine lv_iconst (v := 0) hx hb dX8_start_21 (by decide) ?_
  refine lv_lconst (v := 0) hx hb dX8_start_22 (by decide) ?_
  refine t_callv (va_runV (g := F0 m 23 ls ([.long (0 : Int64), .int (0 : Int32), .ref o])) (As := [.int (0 : Int32), .long (0 : Int64)]) (rest := []) ⟨hx, hb, hml, hown, hts⟩ (c_X8_enterRow (j_o := some x1) l D cy A G w17 o (0 : Int32) (0 : Int64) hD hT hG_o hM_o ) (cwV 2 hts gX8_start_X8_enterRow rfl rfl rfl (by decide +kernel) ⟨Nat.le_of_ble_eq_true rfl, Nat.le_of_ble_eq_true rfl⟩) (c_preV hM_o rfl hP hK hA hS hV) rfl rfl hl.1 rfl (lv_room (Nat.le_of_ble_eq_true rfl)) dX8_start_23 ⟨Nat.le_of_ble_eq_true rfl, Nat.le_of_ble_eq_true rfl⟩) hS (fun u H locs q23 hP9 hD9 hT9 hS => ?_)
  obtain ⟨G23, w23⟩ := u
  obtain ⟨hX9, q23⟩ := q23
  have hX9 : cX none (chs [1, 5, 20, 21, 22, 23]) G w17 G23 w23 := hX9
  have hP : va_P D vwCl w23 H := hP9
  have hD : va_D A w23 := hD9
  have hT : cT cy G23 w23 := hT9
  have hG_o := hX9.1 _ _ hG_o
  have hG_x1 := hX9.1 _ _ hG_x1
  have hG_a1_o := hX9.1 _ _ hG_a1_o
  have hG_a2_o := hX9.1 _ _ hG_a2_o
  have hG_a3_o := hX9.1 _ _ hG_a3_o
  have hG_a4_o := hX9.1 _ _ hG_a4_o
  have hG_a5_o := hX9.1 _ _ hG_a5_o
  have hX := hX.tr hX9
  exact W.vret hx hb hr (fun t ht hW => ⟨⟨(G23, w23), rfl, ⟨hX, trivial⟩, by show va_P D vwCl w23 t.heap; rw [ht]; exact hP, hD, hT⟩, hS.F ht⟩) hS.2.2 dX8_start_26
set_option maxHeartbeats 4000000 in
set_option maxRecDepth 100000 in
theorem c_X8_completes (l : Launch) (D : va_G) (cy : Nat → ClassId) (A : Nat → Prop) (G : cG) (ws : va_W) (o : Nat) (row : Int32) {j_o : Option Nat} {y_o tr_o sp_o : Int32} {fd_o : Int64} {a1_o a2_o a3_o a4_o a5_o : Nat} (hD : va_D A ws) (hT : cT cy G ws) (hG_o : G o = some (5, 0, 0)) (hM_o : cIn ws o (.inr (7, [va_rf j_o, .int y_o, .int tr_o, .int sp_o, .long fd_o, .ref a1_o, .ref a2_o, .ref a3_o, .ref a4_o, .ref a5_o]))) (hj1 : ∃ x, j_o = some x) (hy1 : 0 ≤ y_o.toInt ∧ y_o.toInt < 6) : Ci l D cy A yX8_completes wsX8_completes ({ frames := 4, cells := 0, slots := 0, locals := 99 }) 0 0 ws [.ref o, .int row] (fun r0 u => cX none (chs [1, 5, 20, 21, 22, 23]) G ws u.1 u.2 ∧ (isBo r0)) := by
  refine Met.ofW (cc := cX8_completes) (maxL := 4) (ret := (some .boolean)) (by decide) rfl ?_
  intro p e s m args below meth c s₁ B hml hv
  obtain ⟨rfl, hP, hK, hA, hV⟩ := hv
  have hx := B.exec
  have hb := B.bytes
  have hr := B.returns
  have hts := atoms_spec (ws := wsX8_completes) B.pre
  have hown : s.vm.findClass RX8 = some m.cls := findClass_of_methodNamed B.named
  have hlocks := B.notSynchronized
  have hS : va_S A s.heap s.heap [] := va_S.rf
  have hinJ : ∀ w ∈ wsX10 ++ wsX30 ++ wsX40 ++ wsX50, w ∈ wsX8_completes := by decide +kernel
  have hX : cX none (chs [1, 5, 20, 21, 22, 23]) G ws G ws := cX.rf
  have hl := lv_entry ([.ref o, .int row]) (n := 4) (Nat.le_of_ble_eq_true rfl)
  rw [lg_entry_eq]
  generalize (lg_sl ([.ref o, .int row]) ++ List.replicate (4 - (lg_sl ([.ref o, .int row])).length) Slot.unset).toArray = ls at hl ⊢
  have hl : lv_has ls 4 [(0, .ref o), (1, .int row)] := hl
  have k_0 : (0 : Int32).toInt = 0 := by decide
  have k_1 : (1 : Int32).toInt = 1 := by decide
  obtain ⟨hsp_o, hj_o, hG_a1_o, hG_a2_o, hG_a3_o, hG_a4_o, hG_a5_o⟩ := c5 hD hT hG_o hM_o
  refine lv_aload_n hx hb dX8_completes_0 rfl (lv_at hl 0 rfl) ?_
  refine t_get (v := .ref a5_o) (C := RX8) (T := TX8) (N := 10) hx hb hts (by decide +kernel) hown hK hP hM_o rfl 9 (by decide) (hts (.fieldLink RX8 43 "ShadowBench$Walk" "drawn" "[J") (by decide +kernel)) (fun _ h9 => h9) rfl dX8_completes_1 ?_
  refine lv_aload_n hx hb dX8_completes_4 rfl (lv_at hl 0 rfl) ?_
  refine t_get (v := .int y_o) (C := RX8) (T := TX8) (N := 10) hx hb hts (by decide +kernel) hown hK hP hM_o rfl 1 (by decide) (hts (.fieldLink RX8 13 "ShadowBench$Walk" "y" "I") (by decide +kernel)) (fun _ h9 => h9) rfl dX8_completes_5 ?_
  refine t_lald hx hb hK hP hT (Or.inl rfl) hG_a5_o (vp_in_iff.mpr ⟨by omega, by omega⟩) dX8_completes_8 (fun v8 => ?_)
  refine lv_iload_n hx hb dX8_completes_9 rfl (lv_at hl 1 rfl) ?_
  refine lv_i2l (v := row.toInt64) hx hb dX8_completes_10 rfl ?_
  refine lv_aload_n hx hb dX8_completes_11 rfl (lv_at hl 0 rfl) ?_
  refine t_get (v := .int y_o) (C := RX8) (T := TX8) (N := 10) hx hb hts (by decide +kernel) hown hK hP hM_o rfl 1 (by decide) (hts (.fieldLink RX8 13 "ShadowBench$Walk" "y" "I") (by decide +kernel)) (fun _ h9 => h9) rfl dX8_completes_12 ?_
  refine lv_aload_n hx hb dX8_completes_15 rfl (lv_at hl 0 rfl) ?_
  have hoq : j_o = none ∨ ∃ x, j_o = some x := by cases j_o; exact Or.inl rfl; exact Or.inr ⟨_, rfl⟩
  rcases hoq with hopt | ⟨x16, hopt⟩
  · obtain ⟨_, z⟩ := hj1; rw [hopt] at z; cases z
  · skip
    obtain ⟨kx16, nx16, hG_x16⟩ := hj_o x16 hopt
    rw [hopt] at hM_o
    have hM_o : cIn ws o (.inr (7, [.ref x16, .int y_o, .int tr_o, .int sp_o, .long fd_o, .ref a1_o, .ref a2_o, .ref a3_o, .ref a4_o, .ref a5_o])) := hM_o
    refine t_get (v := .ref x16) (C := RX8) (T := TX8) (N := 10) hx hb hts (by decide +kernel) hown hK hP hM_o rfl 0 (by decide) (hts (.fieldLink RX8 7 "ShadowBench$Walk" "job" "LShadowBench$Job;") (by decide +kernel)) (fun _ h9 => h9) rfl dX8_completes_16 ?_
    obtain ⟨_, hM_x16, b_x16, s_x16, w_x16, h_x16, t_x16, x_x16, y_x16, ms_x16, rfl, hG_b_x16, hG_s_x16, hJ_x16⟩ := hT _ _ hG_x16
    refine t_getJ (v := .ref b_x16) hx hb hts hinJ hown hK hP hJ_x16.kc hM_x16 0 (by decide) (hts (.fieldLink RX8 64 "ShadowBench$Job" "board" "LShadowBench$Board;") (by decide +kernel)) (fun _ h9 => h9) rfl dX8_completes_19 ?_
    obtain ⟨_, hM_b_x16, hb_b_x16, l_b_x16, f_b_x16, r_b_x16, rfl, hG_l_b_x16, hG_f_b_x16, hG_r_b_x16⟩ := hT _ _ hG_b_x16
    refine t_get (v := .int (nI w_x16)) (C := RX0) (T := TX0) (N := 8) hx hb hts (by decide +kernel) hown hK hP hM_b_x16 rfl 0 (by decide) (hts (.fieldLink RX8 97 "ShadowBench$Board" "wide" "I") (by decide +kernel)) (fun _ h9 => h9) rfl dX8_completes_22 ?_
    have i_w_b_x16 : (nI w_x16).toInt = _ := nI_toInt (by omega)
    refine lv_imul hx hb dX8_completes_25 ?_
    refine lv_topi (fun v25 e25 => ?_)
    refine lv_lshl (v := row.toInt64 <<< (v25.toInt64 &&& 63)) hx hb dX8_completes_26 rfl ?_
    refine lv_lor hx hb dX8_completes_27 ?_
    refine lv_topl (fun v27 e27 => ?_)
    refine lv_lstore_n (lv' := [(2, .long v27), (0, .ref o), (1, .int row)]) hx hb dX8_completes_28 rfl hl (by decide) rfl (fun ls hl => ?_)
    refine lv_aload_n hx hb dX8_completes_29 rfl (lv_at hl 1 rfl) ?_
    refine t_get (v := .int y_o) (C := RX8) (T := TX8) (N := 10) hx hb hts (by decide +kernel) hown hK hP hM_o rfl 1 (by decide) (hts (.fieldLink RX8 13 "ShadowBench$Walk" "y" "I") (by decide +kernel)) (fun _ h9 => h9) rfl dX8_completes_30 ?_
    refine lv_iconst (v := 1) hx hb dX8_completes_33 (by decide) ?_
    refine lv_iadd hx hb dX8_completes_34 ?_
    refine lv_topi (fun v34 e34 => ?_)
    refine lv_aload_n hx hb dX8_completes_35 rfl (lv_at hl 1 rfl) ?_
    refine t_get (v := .ref x16) (C := RX8) (T := TX8) (N := 10) hx hb hts (by decide +kernel) hown hK hP hM_o rfl 0 (by decide) (hts (.fieldLink RX8 7 "ShadowBench$Walk" "job" "LShadowBench$Job;") (by decide +kernel)) (fun _ h9 => h9) rfl dX8_completes_36 ?_
    refine t_getJ (v := .ref b_x16) hx hb hts hinJ hown hK hP hJ_x16.kc hM_x16 0 (by decide) (hts (.fieldLink RX8 64 "ShadowBench$Job" "board" "LShadowBench$Board;") (by decide +kernel)) (fun _ h9 => h9) rfl dX8_completes_39 ?_
    refine t_get (v := .int (nI h_x16)) (C := RX0) (T := TX0) (N := 8) hx hb hts (by decide +kernel) hown hK hP hM_b_x16 rfl 1 (by decide) (hts (.fieldLink RX8 70 "ShadowBench$Board" "high" "I") (by decide +kernel)) (fun _ h9 => h9) rfl dX8_completes_42 ?_
    have i_h_b_x16 : (nI h_x16).toInt = _ := nI_toInt (by omega)
    refine lv_icmp_ge (tgt := 61) hx hb dX8_completes_45 (by decide) (fun c45 => ?_) (fun c45 => ?_)
    · skip
      have d45 := c45
      rw [fa_le] at d45
      refine lv_aload_n hx hb dX8_completes_61 rfl (lv_at hl 1 rfl) ?_
      refine lv_lload_n hx hb dX8_completes_62 rfl (lv_at hl 0 rfl) ?_
      refine t_put (v := .long v27) (C := RX8) (T := TX8) (N := 10) (ty0 := tyX8) hx hb hts (by decide +kernel) tyX8_ok nmX8 hown hK hP hD hS hM_o rfl 4 (by decide) (hts (.fieldLink RX8 24 "ShadowBench$Walk" "found" "J") (by decide +kernel)) (fun _ h9 => h9) rfl rfl rfl (Nat.le_of_ble_eq_true rfl) dX8_completes_63 (fun H locs w63 hU63 hP hD hS => ?_)
      have hM_x16 := hU63.2 _ _ (cne hG_x16 hG_o (show (3 : Nat) ≠ 5 by decide)) hM_x16
      have hM_b_x16 := hU63.2 _ _ (cne hG_b_x16 hG_o (show (2 : Nat) ≠ 5 by decide)) hM_b_x16
      have hT := hT.up hU63 hG_o ⟨(some x16), _, _, _, _, _, _, _, _, _, rfl, hsp_o, (fun _ z => Option.some.inj z ▸ ⟨_, _, hG_x16⟩), hG_a1_o, hG_a2_o, hG_a3_o, hG_a4_o, hG_a5_o⟩
      have hM_o : cIn w63 o (.inr (7, [.ref x16, .int y_o, .int tr_o, .int sp_o, .long v27, .ref a1_o, .ref a2_o, .ref a3_o, .ref a4_o, .ref a5_o])) := hU63.1
      have hX := hX.tr (cX.up hU63 (Or.inr ⟨_, hG_o, rfl⟩))
      refine lv_aload_n hx hb dX8_completes_66 rfl (lv_at hl 1 rfl) ?_
      refine t_get (v := .ref x16) (C := RX8) (T := TX8) (N := 10) hx hb hts (by decide +kernel) hown hK hP hM_o rfl 0 (by decide) (hts (.fieldLink RX8 7 "ShadowBench$Walk" "job" "LShadowBench$Job;") (by decide +kernel)) (fun _ h9 => h9) rfl dX8_completes_67 ?_
      refine lv_lload_n hx hb dX8_completes_70 rfl (lv_at hl 0 rfl) ?_
      refine t_calli (t_runJ (g := F0 m 71 ls ([.long v27, .ref x16])) (As := [.long v27]) (rest := []) ⟨hx, hb, hml, hown, hts⟩ (c_X3_admits l D cy A G w63 x16 v27 hD hT hG_x16 ) (va_cwU 1 hts gX8_completes_X3_admits_u100X1 rfl rfl rfl rfl (by decide +kernel) ⟨Nat.le_of_ble_eq_true rfl, Nat.le_of_ble_eq_true rfl⟩) (cwV 1 hts gX8_completes_X3_admits rfl rfl rfl (by decide +kernel) ⟨Nat.le_of_ble_eq_true rfl, Nat.le_of_ble_eq_true rfl⟩) (va_cwU 1 hts gX8_completes_X3_admits_u100X4 rfl rfl rfl rfl (by decide +kernel) ⟨Nat.le_of_ble_eq_true rfl, Nat.le_of_ble_eq_true rfl⟩) (va_cwU 1 hts gX8_completes_X3_admits_u100X5 rfl rfl rfl rfl (by decide +kernel) ⟨Nat.le_of_ble_eq_true rfl, Nat.le_of_ble_eq_true rfl⟩) hJ_x16.kc hM_x16 hP hK c_blind (c_preS hP hK hA hS hV).2 rfl rfl hl.1 rfl (lv_room (Nat.le_of_ble_eq_true rfl)) dX8_completes_71 ⟨Nat.le_of_ble_eq_true rfl, Nat.le_of_ble_eq_true rfl⟩) hS (fun r71 u H locs q71 hP9 hD9 hT9 hS => ?_)
      obtain ⟨rfl, q71⟩ := q71
      have hP : va_P D vwCl w63 H := hP9
      exact W.zret (v := r71) hx hb hr (isBo_z q71) (fun t ht hW => ⟨⟨_, (G, w63), rfl, ⟨hX, q71⟩, by show va_P D vwCl w63 t.heap; rw [ht]; exact hP, hD, hT⟩, hS.F ht⟩) hS.2.2 dX8_completes_74
    · skip
      have d45 := c45
      rw [fa_le] at d45
      refine lv_aload_n hx hb dX8_completes_48 rfl (lv_at hl 1 rfl) ?_
      refine lv_aload_n hx hb dX8_completes_49 rfl (lv_at hl 1 rfl) ?_
      refine t_get (v := .int y_o) (C := RX8) (T := TX8) (N := 10) hx hb hts (by decide +kernel) hown hK hP hM_o rfl 1 (by decide) (hts (.fieldLink RX8 13 "ShadowBench$Walk" "y" "I") (by decide +kernel)) (fun _ h9 => h9) rfl dX8_completes_50 ?_
      refine lv_iconst (v := 1) hx hb dX8_completes_53 (by decide) ?_
      refine lv_iadd hx hb dX8_completes_54 ?_
      refine lv_topi (fun v54 e54 => ?_)
      refine lv_lload_n hx hb dX8_completes_55 rfl (lv_at hl 0 rfl) ?_
      refine t_callv (va_runV (g := F0 m 56 ls ([.long v27, .int v54, .ref o])) (As := [.int v54, .long v27]) (rest := []) ⟨hx, hb, hml, hown, hts⟩ (c_X8_enterRow (j_o := some x16) l D cy A G ws o v54 v27 hD hT hG_o hM_o ) (cwV 2 hts gX8_completes_X8_enterRow rfl rfl rfl (by decide +kernel) ⟨Nat.le_of_ble_eq_true rfl, Nat.le_of_ble_eq_true rfl⟩) (c_preV hM_o rfl hP hK hA hS hV) rfl rfl hl.1 rfl (lv_room (Nat.le_of_ble_eq_true rfl)) dX8_completes_56 ⟨Nat.le_of_ble_eq_true rfl, Nat.le_of_ble_eq_true rfl⟩) hS (fun u H locs q56 hP9 hD9 hT9 hS => ?_)
      obtain ⟨G56, w56⟩ := u
      obtain ⟨hX9, q56⟩ := q56
      have hX9 : cX none (chs [1, 5, 20, 21, 22, 23]) G ws G56 w56 := hX9
      have hP : va_P D vwCl w56 H := hP9
      have hD : va_D A w56 := hD9
      have hT : cT cy G56 w56 := hT9
      have hM_x16 := hX9.2.1 _ _ (cP.no hG_x16 rfl) hM_x16
      have hM_b_x16 := hX9.2.1 _ _ (cP.no hG_b_x16 rfl) hM_b_x16
      have hG_o := hX9.1 _ _ hG_o
      have hG_a1_o := hX9.1 _ _ hG_a1_o
      have hG_a2_o := hX9.1 _ _ hG_a2_o
      have hG_a3_o := hX9.1 _ _ hG_a3_o
      have hG_a4_o := hX9.1 _ _ hG_a4_o
      have hG_a5_o := hX9.1 _ _ hG_a5_o
      have hG_x16 := hX9.1 _ _ hG_x16
      have hG_b_x16 := hX9.1 _ _ hG_b_x16
      have hG_s_x16 := hX9.1 _ _ hG_s_x16
      have hG_l_b_x16 := hX9.1 _ _ hG_l_b_x16
      have hG_f_b_x16 := hX9.1 _ _ hG_f_b_x16
      have hG_r_b_x16 := hX9.1 _ _ hG_r_b_x16
      have hX := hX.tr hX9
      refine lv_iconst (v := 0) hx hb dX8_completes_59 (by decide) ?_
      exact W.zret (v := (0 : Int32)) hx hb hr (by decide) (fun t ht hW => ⟨⟨_, (G56, w56), rfl, ⟨hX, Or.inl rfl⟩, by show va_P D vwCl w56 t.heap; rw [ht]; exact hP, hD, hT⟩, hS.F ht⟩) hS.2.2 dX8_completes_60
set_option maxHeartbeats 4000000 in
set_option maxRecDepth 100000 in
theorem c_X8_advance (l : Launch) (D : va_G) (cy : Nat → ClassId) (A : Nat → Prop) (G : cG) (ws : va_W) (o : Nat)  (hD : va_D A ws) (hT : cT cy G ws) (hG_o : G o = some (5, 0, 0))  : Ci l D cy A yX8_advance wsX8_advance ({ frames := 5, cells := 0, slots := 0, locals := 122 }) 0 0 ws [.ref o] (fun r0 u => cX none (chs [1, 5, 20, 21, 22, 23]) G ws u.1 u.2 ∧ (isBo r0)) := by
  refine Met.ofW (cc := cX8_advance) (maxL := 3) (ret := (some .boolean)) (by decide) rfl ?_
  intro p e s m args below meth c s₁ B hml hv
  obtain ⟨rfl, hP, hK, hA, hV⟩ := hv
  have hx := B.exec
  have hb := B.bytes
  have hr := B.returns
  have hts := atoms_spec (ws := wsX8_advance) B.pre
  have hown : s.vm.findClass RX8 = some m.cls := findClass_of_methodNamed B.named
  have hlocks := B.notSynchronized
  have hS : va_S A s.heap s.heap [] := va_S.rf
  have hX : cX none (chs [1, 5, 20, 21, 22, 23]) G ws G ws := cX.rf
  have hl := lv_entry ([.ref o]) (n := 3) (Nat.le_of_ble_eq_true rfl)
  rw [lg_entry_eq]
  generalize (lg_sl ([.ref o]) ++ List.replicate (3 - (lg_sl ([.ref o])).length) Slot.unset).toArray = ls at hl ⊢
  have hl : lv_has ls 3 [(0, .ref o)] := hl
  have k_0 : (0 : Int32).toInt = 0 := by decide
  have k_1 : (1 : Int32).toInt = 1 := by decide
  have k_1000000 : (1000000 : Int32).toInt = 1000000 := by decide
  refine lv_iconst (v := 0) hx hb dX8_advance_0 (by decide) ?_
  refine lv_istore_n (lv' := [(1, .int (0 : Int32)), (0, .ref o)]) hx hb dX8_advance_1 rfl hl (by decide) rfl (fun ls hl => ?_)
  have loop_2 : ∀ (n : Nat) (i : Nat), (i ≤ 1000000) → 1000000 - i < n → ∀ (Gl2 : cG) (wl2 : va_W), cE G Gl2 → cX none (chs [1, 5, 20, 21, 22, 23]) G ws Gl2 wl2 → va_D A wl2 → cT cy Gl2 wl2 → ∀ (H : Heap) (locs : List Loc), va_P D vwCl wl2 H → va_S A s.heap H locs → ∀ (ls : Array Slot), lv_has ls 3 [(1, .int (nI i)), (0, .ref o)] → W p l e (headSpec wsX8_advance ({ frames := 5, cells := 0, slots := 0, locals := 122 })).room s m #[Value.ref o] below meth c H locs 0 0 (MQ below (va_Qi (fun r0 u => cX none (chs [1, 5, 20, 21, 22, 23]) G ws u.1 u.2 ∧ (isBo r0)) (cB D cy A) A) #[Value.ref o] s 0 0 A) (F0 m 2 ls []) := by
    intro n
    induction n with
    | zero => intro i j2_0 hn; exact absurd hn (Nat.not_lt_zero _)
    | succ n ih_2 =>
      intro i j2_0 hn_2 Gl2 wl2 hEl2 hX hD hT H locs hP hS  ls hl
      have hG_o := hEl2 _ _ hG_o
      have ik_i : (nI i).toInt = (i : Int) := nI_toInt (by omega)
      refine lv_iload_n hx hb dX8_advance_2 rfl (lv_at hl 0 rfl) ?_
      refine lv_ldc hx hb hown (hts (.constant RX8 51 (1000000)) (by decide +kernel)) dX8_advance_3 ?_
      refine lv_icmp_ge (tgt := 60) hx hb dX8_advance_5 (by decide) (fun c5 => ?_) (fun c5 => ?_)
      · skip
        have d5 := c5
        rw [fa_le] at d5
        refine lv_iconst (v := 0) hx hb dX8_advance_60 (by decide) ?_
        exact W.zret (v := (0 : Int32)) hx hb hr (by decide) (fun t ht hW => ⟨⟨_, (Gl2, wl2), rfl, ⟨hX, Or.inl rfl⟩, by show va_P D vwCl wl2 t.heap; rw [ht]; exact hP, hD, hT⟩, hS.F ht⟩) hS.2.2 dX8_advance_61
      · skip
        have d5 := c5
        rw [fa_le] at d5
        refine lv_aload_n hx hb dX8_advance_8 rfl (lv_at hl 1 rfl) ?_
        obtain ⟨_, hM_o, j_o, y_o, tr_o, sp_o, fd_o, a1_o, a2_o, a3_o, a4_o, a5_o, rfl, hsp_o, hj_o, hG_a1_o, hG_a2_o, hG_a3_o, hG_a4_o, hG_a5_o⟩ := hT _ _ hG_o
        refine t_calli (va_runV (g := F0 m 9 ls ([.ref o])) (As := []) (rest := []) ⟨hx, hb, hml, hown, hts⟩ (c_X8_hasRow (j_o := j_o) l D cy A Gl2 wl2 o hD hT hG_o hM_o ) (cwV 0 hts gX8_advance_X8_hasRow rfl rfl rfl (by decide +kernel) ⟨Nat.le_of_ble_eq_true rfl, Nat.le_of_ble_eq_true rfl⟩) (c_preV hM_o rfl hP hK hA hS hV) rfl rfl hl.1 rfl (lv_room (Nat.le_of_ble_eq_true rfl)) dX8_advance_9 ⟨Nat.le_of_ble_eq_true rfl, Nat.le_of_ble_eq_true rfl⟩) hS (fun r9 u H locs q9 hP9 hD9 hT9 hS => ?_)
        obtain ⟨rfl, q9⟩ := q9
        have hP : va_P D vwCl wl2 H := hP9
        refine lv_if_eq (tgt := 60) hx hb dX8_advance_12 (by decide) (fun c12 => ?_) (fun c12 => ?_)
        · skip
          have d12 := c12
          rw [fa_eq] at d12
          refine lv_iconst (v := 0) hx hb dX8_advance_60 (by decide) ?_
          exact W.zret (v := (0 : Int32)) hx hb hr (by decide) (fun t ht hW => ⟨⟨_, (Gl2, wl2), rfl, ⟨hX, Or.inl rfl⟩, by show va_P D vwCl wl2 t.heap; rw [ht]; exact hP, hD, hT⟩, hS.F ht⟩) hS.2.2 dX8_advance_61
        · skip
          have d12 := c12
          rw [fa_eq] at d12
          have z9 := q9.2 (Or.resolve_left q9.1 c12)
          refine lv_aload_n hx hb dX8_advance_15 rfl (lv_at hl 1 rfl) ?_
          refine t_get (v := .int sp_o) (C := RX8) (T := TX8) (N := 10) hx hb hts (by decide +kernel) hown hK hP hM_o rfl 3 (by decide) (hts (.fieldLink RX8 20 "ShadowBench$Walk" "spent" "Z") (by decide +kernel)) (fun _ h9 => h9) rfl dX8_advance_16 ?_
          refine lv_if_ne (tgt := 60) hx hb dX8_advance_19 (by decide) (fun c19 => ?_) (fun c19 => ?_)
          · skip
            have d19 := c19
            rw [fa_eq] at d19
            refine lv_iconst (v := 0) hx hb dX8_advance_60 (by decide) ?_
            exact W.zret (v := (0 : Int32)) hx hb hr (by decide) (fun t ht hW => ⟨⟨_, (Gl2, wl2), rfl, ⟨hX, Or.inl rfl⟩, by show va_P D vwCl wl2 t.heap; rw [ht]; exact hP, hD, hT⟩, hS.F ht⟩) hS.2.2 dX8_advance_61
          · skip
            have d19 := c19
            rw [fa_eq] at d19
            refine lv_aload_n hx hb dX8_advance_22 rfl (lv_at hl 1 rfl) ?_
            refine t_calli (va_runV (g := F0 m 23 ls ([.ref o])) (As := []) (rest := []) ⟨hx, hb, hml, hown, hts⟩ (c_X8_nextGoingOn (j_o := j_o) l D cy A Gl2 wl2 o hD hT hG_o hM_o z9.1 z9.2) (cwV 0 hts gX8_advance_X8_nextGoingOn rfl rfl rfl (by decide +kernel) ⟨Nat.le_of_ble_eq_true rfl, Nat.le_of_ble_eq_true rfl⟩) (c_preV hM_o rfl hP hK hA hS hV) rfl rfl hl.1 rfl (lv_room (Nat.le_of_ble_eq_true rfl)) dX8_advance_23 ⟨Nat.le_of_ble_eq_true rfl, Nat.le_of_ble_eq_true rfl⟩) hS (fun r23 u H locs q23 hP9 hD9 hT9 hS => ?_)
            obtain ⟨G23, w23⟩ := u
            obtain ⟨hX9, q23⟩ := q23
            have hX9 : cX none (chs [5, 20, 21, 22, 23]) Gl2 wl2 G23 w23 := hX9
            have hP : va_P D vwCl w23 H := hP9
            have hD : va_D A w23 := hD9
            have hT : cT cy G23 w23 := hT9
            have hG_o := hX9.1 _ _ hG_o
            have hG_a1_o := hX9.1 _ _ hG_a1_o
            have hG_a2_o := hX9.1 _ _ hG_a2_o
            have hG_a3_o := hX9.1 _ _ hG_a3_o
            have hG_a4_o := hX9.1 _ _ hG_a4_o
            have hG_a5_o := hX9.1 _ _ hG_a5_o
            have hEl2 := hEl2.tr hX9.1
            have hX := hX.tr (hX9.wk (chs_sub (by decide)))
            obtain ⟨tr23, sp23, hM_o⟩ := q23
            obtain ⟨hsp_o, hj_o, -⟩ := w5sh (j := j_o) hD hT hG_o hM_o
            refine lv_istore_n (lv' := [(2, .int r23), (1, .int (nI i)), (0, .ref o)]) hx hb dX8_advance_26 rfl hl (by decide) rfl (fun ls hl => ?_)
            refine lv_iload_n hx hb dX8_advance_27 rfl (lv_at hl 0 rfl) ?_
            refine lv_if_ge (tgt := 44) hx hb dX8_advance_28 (by decide) (fun c28 => ?_) (fun c28 => ?_)
            · skip
              have d28 := c28
              rw [fa_le] at d28
              refine lv_aload_n hx hb dX8_advance_44 rfl (lv_at hl 2 rfl) ?_
              refine lv_iload_n hx hb dX8_advance_45 rfl (lv_at hl 0 rfl) ?_
              refine t_calli (va_runV (g := F0 m 46 ls ([.int r23, .ref o])) (As := [.int r23]) (rest := []) ⟨hx, hb, hml, hown, hts⟩ (c_X8_completes (j_o := j_o) l D cy A G23 w23 o r23 hD hT hG_o hM_o z9.1 z9.2) (cwV 1 hts gX8_advance_X8_completes rfl rfl rfl (by decide +kernel) ⟨Nat.le_of_ble_eq_true rfl, Nat.le_of_ble_eq_true rfl⟩) (c_preV hM_o rfl hP hK hA hS hV) rfl rfl hl.1 rfl (lv_room (Nat.le_of_ble_eq_true rfl)) dX8_advance_46 ⟨Nat.le_of_ble_eq_true rfl, Nat.le_of_ble_eq_true rfl⟩) hS (fun r46 u H locs q46 hP9 hD9 hT9 hS => ?_)
              obtain ⟨G46, w46⟩ := u
              obtain ⟨hX9, q46⟩ := q46
              have hX9 : cX none (chs [1, 5, 20, 21, 22, 23]) G23 w23 G46 w46 := hX9
              have hP : va_P D vwCl w46 H := hP9
              have hD : va_D A w46 := hD9
              have hT : cT cy G46 w46 := hT9
              have hG_o := hX9.1 _ _ hG_o
              have hG_a1_o := hX9.1 _ _ hG_a1_o
              have hG_a2_o := hX9.1 _ _ hG_a2_o
              have hG_a3_o := hX9.1 _ _ hG_a3_o
              have hG_a4_o := hX9.1 _ _ hG_a4_o
              have hG_a5_o := hX9.1 _ _ hG_a5_o
              have hEl2 := hEl2.tr hX9.1
              have hX := hX.tr hX9
              refine lv_if_eq (tgt := 54) hx hb dX8_advance_49 (by decide) (fun c49 => ?_) (fun c49 => ?_)
              · skip
                have d49 := c49
                rw [fa_eq] at d49
                refine lv_iinc (v := (nI (i + 1))) (lv' := [(1, .int (nI (i + 1))), (2, .int r23), (0, .ref o)]) hx hb dX8_advance_54 hl (k := 1) rfl (nI_1 _) (by decide) rfl (fun ls hl => ?_)
                refine lv_goto (tgt := 2) hx hb dX8_advance_57 (by decide) ?_
                exact ih_2 (i + 1) (by omega) (by omega) G46 w46 hEl2 hX hD hT _ _ hP hS  ls (lv_sub hl [0, 2] rfl)
              · skip
                have d49 := c49
                rw [fa_eq] at d49
                refine lv_iconst (v := 1) hx hb dX8_advance_52 (by decide) ?_
                exact W.zret (v := (1 : Int32)) hx hb hr (by decide) (fun t ht hW => ⟨⟨_, (G46, w46), rfl, ⟨hX, Or.inr rfl⟩, by show va_P D vwCl w46 t.heap; rw [ht]; exact hP, hD, hT⟩, hS.F ht⟩) hS.2.2 dX8_advance_53
            · skip
              have d28 := c28
              rw [fa_le] at d28
              refine lv_aload_n hx hb dX8_advance_31 rfl (lv_at hl 2 rfl) ?_
              refine lv_dup hx hb dX8_advance_32 rfl ?_
              refine t_get (v := .int y_o) (C := RX8) (T := TX8) (N := 10) hx hb hts (by decide +kernel) hown hK hP hM_o rfl 1 (by decide) (hts (.fieldLink RX8 13 "ShadowBench$Walk" "y" "I") (by decide +kernel)) (fun _ h9 => h9) rfl dX8_advance_33 ?_
              refine lv_iconst (v := 1) hx hb dX8_advance_36 (by decide) ?_
              refine lv_isub hx hb dX8_advance_37 ?_
              refine lv_topi (fun v37 e37 => ?_)
              refine t_put (v := .int v37) (C := RX8) (T := TX8) (N := 10) (ty0 := tyX8) hx hb hts (by decide +kernel) tyX8_ok nmX8 hown hK hP hD hS hM_o rfl 1 (by decide) (hts (.fieldLink RX8 13 "ShadowBench$Walk" "y" "I") (by decide +kernel)) (fun _ h9 => h9) rfl rfl rfl (Nat.le_of_ble_eq_true rfl) dX8_advance_38 (fun H locs w38 hU38 hP hD hS => ?_)
              have hT := hT.up hU38 hG_o ⟨j_o, _, _, _, _, _, _, _, _, _, rfl, hsp_o, hj_o, hG_a1_o, hG_a2_o, hG_a3_o, hG_a4_o, hG_a5_o⟩
              have hM_o : cIn w38 o (.inr (7, [va_rf j_o, .int v37, .int tr23, .int sp23, .long fd_o, .ref a1_o, .ref a2_o, .ref a3_o, .ref a4_o, .ref a5_o])) := hU38.1
              have hX := hX.tr (cX.up hU38 (Or.inr ⟨_, hG_o, rfl⟩))
              refine lv_goto (tgt := 54) hx hb dX8_advance_41 (by decide) ?_
              refine lv_iinc (v := (nI (i + 1))) (lv' := [(1, .int (nI (i + 1))), (2, .int r23), (0, .ref o)]) hx hb dX8_advance_54 hl (k := 1) rfl (nI_1 _) (by decide) rfl (fun ls hl => ?_)
              refine lv_goto (tgt := 2) hx hb dX8_advance_57 (by decide) ?_
              exact ih_2 (i + 1) (by omega) (by omega) G23 w38 hEl2 hX hD hT _ _ hP hS  ls (lv_sub hl [0, 2] rfl)
  exact loop_2 (1000000 + 1) 0 (by omega) (by omega) G ws cE.rf hX hD hT _ _ hP hS  ls (lv_sub hl [0, 1] rfl)
set_option maxHeartbeats 4000000 in
set_option maxRecDepth 100000 in
theorem c_X8_init (l : Launch) (D : va_G) (cy : Nat → ClassId) (A : Nat → Prop) (G : cG) (ws : va_W) (o : Nat)  (hD : va_D A ws) (hT : cT cy G ws) (hO_o : G o = none) (hM_o : cIn ws o (.inr (7, [.null, .int 0, .int 0, .int 0, .long 0, .null, .null, .null, .null, .null])))  : Cv l D cy A yX8_init wsX8_init ({ frames := 1, cells := 5, slots := 30, locals := 20 }) 5 30 ws [.ref o] (fun u => cX (some o) (chs []) G ws u.1 u.2 ∧ u.1 o = some (5, 0, 0) ∧ (True)) := by
  refine Met.ofW (cc := cX8_init) (maxL := 1) (ret := none) (by decide) rfl ?_
  intro p e s m args below meth c s₁ B hml hv
  obtain ⟨rfl, hP, hK, hA, hV⟩ := hv
  have hx := B.exec
  have hb := B.bytes
  have hr := B.returns
  have hts := atoms_spec (ws := wsX8_init) B.pre
  have hown : s.vm.findClass RX8 = some m.cls := findClass_of_methodNamed B.named
  have hlocks := B.notSynchronized
  have hS : va_S A s.heap s.heap [] := va_S.rf
  have hin2 : meth.name = "<init>" := (name_of_methodNamed B.named B.method).1
  have hX : cX (some o) (chs []) G ws G ws := cX.rf
  have hM0_o := hM_o
  have hl := lv_entry ([.ref o]) (n := 1) (Nat.le_of_ble_eq_true rfl)
  rw [lg_entry_eq]
  generalize (lg_sl ([.ref o]) ++ List.replicate (1 - (lg_sl ([.ref o])).length) Slot.unset).toArray = ls at hl ⊢
  have hl : lv_has ls 1 [(0, .ref o)] := hl
  have k_m1 : (-1 : Int32).toInt = -1 := by decide
  have k_0 : (0 : Int32).toInt = 0 := by decide
  have k_6 : (6 : Int32).toInt = 6 := by decide
  have k_0L : (0 : Int64).toInt = 0 := by decide
  refine lv_aload_n hx hb dX8_init_0 rfl (lv_at hl 0 rfl) ?_
  refine W.objInit hx hb hown (hts (.methodLink RX8 1 objectInit) (by decide +kernel)) (hts (.instanceMethod objectInit) (by decide +kernel)) (hts (.code objectInit ⟨#[0xb1]⟩ 1 none) (by decide +kernel)) rfl (by rw [hml]; exact hl.1) rfl dX8_init_1 (Nat.le_of_ble_eq_true rfl) (Nat.le_of_ble_eq_true rfl) ?_
  refine W.eq (g2 := F0 m 4 ls []) rfl ?_
  refine lv_aload_n hx hb dX8_init_4 rfl (lv_at hl 0 rfl) ?_
  refine lv_null hx hb dX8_init_5 ?_
  refine t_put (v := .null) (C := RX8) (T := TX8) (N := 10) (ty0 := tyX8) hx hb hts (by decide +kernel) tyX8_ok nmX8 hown hK hP hD hS hM_o rfl 0 (by decide) (hts (.fieldLink RX8 7 "ShadowBench$Walk" "job" "LShadowBench$Job;") (by decide +kernel)) (fun _ h9 => h9) rfl rfl rfl (Nat.le_of_ble_eq_true rfl) dX8_init_6 (fun H locs w6 hU6 hP hD hS => ?_)
  have hT := hT.up0 hU6 hO_o
  have hM_o : cIn w6 o (.inr (7, [.null, .int 0, .int 0, .int 0, .long 0, .null, .null, .null, .null, .null])) := hU6.1
  have hX := hX.tr (cX.up hU6 (Or.inl rfl))
  refine lv_aload_n hx hb dX8_init_9 rfl (lv_at hl 0 rfl) ?_
  refine lv_iconst (v := (-1)) hx hb dX8_init_10 (by decide) ?_
  refine t_put (v := .int ((-1) : Int32)) (C := RX8) (T := TX8) (N := 10) (ty0 := tyX8) hx hb hts (by decide +kernel) tyX8_ok nmX8 hown hK hP hD hS hM_o rfl 1 (by decide) (hts (.fieldLink RX8 13 "ShadowBench$Walk" "y" "I") (by decide +kernel)) (fun _ h9 => h9) rfl rfl rfl (Nat.le_of_ble_eq_true rfl) dX8_init_11 (fun H locs w11 hU11 hP hD hS => ?_)
  have hT := hT.up0 hU11 hO_o
  have hM_o : cIn w11 o (.inr (7, [.null, .int ((-1) : Int32), .int 0, .int 0, .long 0, .null, .null, .null, .null, .null])) := hU11.1
  have hX := hX.tr (cX.up hU11 (Or.inl rfl))
  refine lv_aload_n hx hb dX8_init_14 rfl (lv_at hl 0 rfl) ?_
  refine lv_iconst (v := 0) hx hb dX8_init_15 (by decide) ?_
  refine t_put (v := .int (0 : Int32)) (C := RX8) (T := TX8) (N := 10) (ty0 := tyX8) hx hb hts (by decide +kernel) tyX8_ok nmX8 hown hK hP hD hS hM_o rfl 2 (by decide) (hts (.fieldLink RX8 17 "ShadowBench$Walk" "tried" "I") (by decide +kernel)) (fun _ h9 => h9) rfl rfl rfl (Nat.le_of_ble_eq_true rfl) dX8_init_16 (fun H locs w16 hU16 hP hD hS => ?_)
  have hT := hT.up0 hU16 hO_o
  have hM_o : cIn w16 o (.inr (7, [.null, .int ((-1) : Int32), .int (0 : Int32), .int 0, .long 0, .null, .null, .null, .null, .null])) := hU16.1
  have hX := hX.tr (cX.up hU16 (Or.inl rfl))
  refine lv_aload_n hx hb dX8_init_19 rfl (lv_at hl 0 rfl) ?_
  refine lv_iconst (v := 0) hx hb dX8_init_20 (by decide) ?_
  refine t_put (v := .int (0 : Int32)) (C := RX8) (T := TX8) (N := 10) (ty0 := tyX8) hx hb hts (by decide +kernel) tyX8_ok nmX8 hown hK hP hD hS hM_o rfl 3 (by decide) (hts (.fieldLink RX8 20 "ShadowBench$Walk" "spent" "Z") (by decide +kernel)) (fun _ h9 => h9) rfl rfl rfl (Nat.le_of_ble_eq_true rfl) dX8_init_21 (fun H locs w21 hU21 hP hD hS => ?_)
  have hT := hT.up0 hU21 hO_o
  have hM_o : cIn w21 o (.inr (7, [.null, .int ((-1) : Int32), .int (0 : Int32), .int (0 : Int32), .long 0, .null, .null, .null, .null, .null])) := hU21.1
  have hX := hX.tr (cX.up hU21 (Or.inl rfl))
  refine lv_aload_n hx hb dX8_init_24 rfl (lv_at hl 0 rfl) ?_
  refine lv_lconst (v := 0) hx hb dX8_init_25 (by decide) ?_
  refine t_put (v := .long (0 : Int64)) (C := RX8) (T := TX8) (N := 10) (ty0 := tyX8) hx hb hts (by decide +kernel) tyX8_ok nmX8 hown hK hP hD hS hM_o rfl 4 (by decide) (hts (.fieldLink RX8 24 "ShadowBench$Walk" "found" "J") (by decide +kernel)) (fun _ h9 => h9) rfl rfl rfl (Nat.le_of_ble_eq_true rfl) dX8_init_26 (fun H locs w26 hU26 hP hD hS => ?_)
  have hT := hT.up0 hU26 hO_o
  have hM_o : cIn w26 o (.inr (7, [.null, .int ((-1) : Int32), .int (0 : Int32), .int (0 : Int32), .long (0 : Int64), .null, .null, .null, .null, .null])) := hU26.1
  have hX := hX.tr (cX.up hU26 (Or.inl rfl))
  refine lv_aload_n hx hb dX8_init_29 rfl (lv_at hl 0 rfl) ?_
  refine lv_bipush (v := 6) hx hb dX8_init_30 (by decide) ?_
  refine t_newi hx hb (hts (.arrayClass .int) (by decide +kernel)) hK hP hD hS hA hT (kd9 := 20) (Or.inr (Or.inr (Or.inl rfl))) 6 (N := 6) (by decide) rfl (by omega) (by decide) (Nat.le_of_ble_eq_true rfl) (Nat.le_of_ble_eq_true rfl) dX8_init_32 (fun q32 H w32 G32 hG_q32 hz32 hF32 hX32 hk32 hg32 hP hD hT hS => ?_)
  have hN_q32 := hX.new1 hM_o hz32 hF32
  have hO_o := (hg32 o (fun z => hF32 _ (z ▸ hM_o))).trans hO_o
  have hM_o := hk32 _ _ hM_o
  have hX := hX.tr (hX32 _ _)
  refine t_putF (v := .ref q32) (C := RX8) (T := TX8) (N := 10) (ty0 := tyX8) hx hb hts (by decide +kernel) tyX8_ok nmX8 hown hK hP hD hS hM_o rfl 5 (by decide) (hts (.fieldLink RX8 30 "ShadowBench$Walk" "nextRow" "[I") (by decide +kernel)) (fun _ h9 => h9) rfl hin2 rfl rfl rfl (Nat.le_of_ble_eq_true rfl) dX8_init_34 (fun H locs w34 hU34 hP hD hS => ?_)
  have hT := hT.up0 hU34 hO_o
  have hM_o : cIn w34 o (.inr (7, [.null, .int ((-1) : Int32), .int (0 : Int32), .int (0 : Int32), .long (0 : Int64), .ref q32, .null, .null, .null, .null])) := hU34.1
  have hX := hX.tr (cX.up hU34 (Or.inl rfl))
  refine lv_aload_n hx hb dX8_init_37 rfl (lv_at hl 0 rfl) ?_
  refine lv_bipush (v := 6) hx hb dX8_init_38 (by decide) ?_
  refine t_newi hx hb (hts (.arrayClass .int) (by decide +kernel)) hK hP hD hS hA hT (kd9 := 21) (Or.inr (Or.inr (Or.inr (Or.inl rfl)))) 6 (N := 6) (by decide) rfl (by omega) (by decide) (Nat.le_of_ble_eq_true rfl) (Nat.le_of_ble_eq_true rfl) dX8_init_40 (fun q40 H w40 G40 hG_q40 hz40 hF40 hX40 hk40 hg40 hP hD hT hS => ?_)
  have hN_q40 := hX.new1 hM_o hz40 hF40
  have hO_o := (hg40 o (fun z => hF40 _ (z ▸ hM_o))).trans hO_o
  have hM_o := hk40 _ _ hM_o
  have hG_q32 := (hX40 none (chs [])).1 _ _ hG_q32
  have hX := hX.tr (hX40 _ _)
  refine t_putF (v := .ref q40) (C := RX8) (T := TX8) (N := 10) (ty0 := tyX8) hx hb hts (by decide +kernel) tyX8_ok nmX8 hown hK hP hD hS hM_o rfl 6 (by decide) (hts (.fieldLink RX8 34 "ShadowBench$Walk" "rowSum" "[I") (by decide +kernel)) (fun _ h9 => h9) rfl hin2 rfl rfl rfl (Nat.le_of_ble_eq_true rfl) dX8_init_42 (fun H locs w42 hU42 hP hD hS => ?_)
  have hT := hT.up0 hU42 hO_o
  have hM_o : cIn w42 o (.inr (7, [.null, .int ((-1) : Int32), .int (0 : Int32), .int (0 : Int32), .long (0 : Int64), .ref q32, .ref q40, .null, .null, .null])) := hU42.1
  have hX := hX.tr (cX.up hU42 (Or.inl rfl))
  refine lv_aload_n hx hb dX8_init_45 rfl (lv_at hl 0 rfl) ?_
  refine lv_bipush (v := 6) hx hb dX8_init_46 (by decide) ?_
  refine t_newi hx hb (hts (.arrayClass .int) (by decide +kernel)) hK hP hD hS hA hT (kd9 := 22) (Or.inr (Or.inr (Or.inr (Or.inr (Or.inl rfl))))) 6 (N := 6) (by decide) rfl (by omega) (by decide) (Nat.le_of_ble_eq_true rfl) (Nat.le_of_ble_eq_true rfl) dX8_init_48 (fun q48 H w48 G48 hG_q48 hz48 hF48 hX48 hk48 hg48 hP hD hT hS => ?_)
  have hN_q48 := hX.new1 hM_o hz48 hF48
  have hO_o := (hg48 o (fun z => hF48 _ (z ▸ hM_o))).trans hO_o
  have hM_o := hk48 _ _ hM_o
  have hG_q32 := (hX48 none (chs [])).1 _ _ hG_q32
  have hG_q40 := (hX48 none (chs [])).1 _ _ hG_q40
  have hX := hX.tr (hX48 _ _)
  refine t_putF (v := .ref q48) (C := RX8) (T := TX8) (N := 10) (ty0 := tyX8) hx hb hts (by decide +kernel) tyX8_ok nmX8 hown hK hP hD hS hM_o rfl 7 (by decide) (hts (.fieldLink RX8 37 "ShadowBench$Walk" "needed" "[I") (by decide +kernel)) (fun _ h9 => h9) rfl hin2 rfl rfl rfl (Nat.le_of_ble_eq_true rfl) dX8_init_50 (fun H locs w50 hU50 hP hD hS => ?_)
  have hT := hT.up0 hU50 hO_o
  have hM_o : cIn w50 o (.inr (7, [.null, .int ((-1) : Int32), .int (0 : Int32), .int (0 : Int32), .long (0 : Int64), .ref q32, .ref q40, .ref q48, .null, .null])) := hU50.1
  have hX := hX.tr (cX.up hU50 (Or.inl rfl))
  refine lv_aload_n hx hb dX8_init_53 rfl (lv_at hl 0 rfl) ?_
  refine lv_bipush (v := 6) hx hb dX8_init_54 (by decide) ?_
  refine t_newi hx hb (hts (.arrayClass .int) (by decide +kernel)) hK hP hD hS hA hT (kd9 := 23) (Or.inr (Or.inr (Or.inr (Or.inr (Or.inr rfl))))) 6 (N := 6) (by decide) rfl (by omega) (by decide) (Nat.le_of_ble_eq_true rfl) (Nat.le_of_ble_eq_true rfl) dX8_init_56 (fun q56 H w56 G56 hG_q56 hz56 hF56 hX56 hk56 hg56 hP hD hT hS => ?_)
  have hN_q56 := hX.new1 hM_o hz56 hF56
  have hO_o := (hg56 o (fun z => hF56 _ (z ▸ hM_o))).trans hO_o
  have hM_o := hk56 _ _ hM_o
  have hG_q32 := (hX56 none (chs [])).1 _ _ hG_q32
  have hG_q40 := (hX56 none (chs [])).1 _ _ hG_q40
  have hG_q48 := (hX56 none (chs [])).1 _ _ hG_q48
  have hX := hX.tr (hX56 _ _)
  refine t_putF (v := .ref q56) (C := RX8) (T := TX8) (N := 10) (ty0 := tyX8) hx hb hts (by decide +kernel) tyX8_ok nmX8 hown hK hP hD hS hM_o rfl 8 (by decide) (hts (.fieldLink RX8 40 "ShadowBench$Walk" "barred" "[I") (by decide +kernel)) (fun _ h9 => h9) rfl hin2 rfl rfl rfl (Nat.le_of_ble_eq_true rfl) dX8_init_58 (fun H locs w58 hU58 hP hD hS => ?_)
  have hT := hT.up0 hU58 hO_o
  have hM_o : cIn w58 o (.inr (7, [.null, .int ((-1) : Int32), .int (0 : Int32), .int (0 : Int32), .long (0 : Int64), .ref q32, .ref q40, .ref q48, .ref q56, .null])) := hU58.1
  have hX := hX.tr (cX.up hU58 (Or.inl rfl))
  refine lv_aload_n hx hb dX8_init_61 rfl (lv_at hl 0 rfl) ?_
  refine lv_bipush (v := 6) hx hb dX8_init_62 (by decide) ?_
  refine t_newl hx hb (hts (.arrayClass .long) (by decide +kernel)) hK hP hD hS hA hT (kd9 := 1) (Or.inl rfl) 6 (N := 6) (by decide) rfl (by omega) (by decide) (Nat.le_of_ble_eq_true rfl) (Nat.le_of_ble_eq_true rfl) dX8_init_64 (fun q64 H w64 G64 hG_q64 hz64 hF64 hX64 hk64 hg64 hP hD hT hS => ?_)
  have hN_q64 := hX.new1 hM_o hz64 hF64
  have hO_o := (hg64 o (fun z => hF64 _ (z ▸ hM_o))).trans hO_o
  have hM_o := hk64 _ _ hM_o
  have hG_q32 := (hX64 none (chs [])).1 _ _ hG_q32
  have hG_q40 := (hX64 none (chs [])).1 _ _ hG_q40
  have hG_q48 := (hX64 none (chs [])).1 _ _ hG_q48
  have hG_q56 := (hX64 none (chs [])).1 _ _ hG_q56
  have hX := hX.tr (hX64 _ _)
  refine t_putF (v := .ref q64) (C := RX8) (T := TX8) (N := 10) (ty0 := tyX8) hx hb hts (by decide +kernel) tyX8_ok nmX8 hown hK hP hD hS hM_o rfl 9 (by decide) (hts (.fieldLink RX8 43 "ShadowBench$Walk" "drawn" "[J") (by decide +kernel)) (fun _ h9 => h9) rfl hin2 rfl rfl rfl (Nat.le_of_ble_eq_true rfl) dX8_init_66 (fun H locs w66 hU66 hP hD hS => ?_)
  have hT := hT.up0 hU66 hO_o
  have hM_o : cIn w66 o (.inr (7, [.null, .int ((-1) : Int32), .int (0 : Int32), .int (0 : Int32), .long (0 : Int64), .ref q32, .ref q40, .ref q48, .ref q56, .ref q64])) := hU66.1
  have hX := hX.tr (cX.up hU66 (Or.inl rfl))
  obtain ⟨Gk69, hGk⟩ : ∃ z, z = va_up G64 o (some (5, 0, 0)) := ⟨_, rfl⟩
  have hE9 : cE G64 Gk69 := by rw [hGk]; exact cE.add hO_o
  have hG_o : Gk69 o = some (5, 0, 0) := by rw [hGk]; simp [va_up]
  have hG_q32 := hE9 _ _ hG_q32
  have hG_q40 := hE9 _ _ hG_q40
  have hG_q48 := hE9 _ _ hG_q48
  have hG_q56 := hE9 _ _ hG_q56
  have hG_q64 := hE9 _ _ hG_q64
  have hT : cT cy Gk69 w66 := by rw [hGk]; exact hT.kind hO_o hM_o (by rw [← hGk]; exact ⟨none, _, _, _, _, _, _, _, _, _, rfl, Or.inl rfl, (fun _ z => nomatch z), hG_q32, hG_q40, hG_q48, hG_q56, hG_q64⟩)
  have hX := hX.tr (show cX (some o) (chs []) G64 w66 Gk69 w66 by rw [hGk]; exact cX.kind hO_o)
  refine W.widen (k := 5) (n := 30) (Nat.le_of_ble_eq_true rfl) (Nat.le_of_ble_eq_true rfl) ?_
  exact W.vret hx hb hr (fun t ht hW => ⟨⟨(Gk69, w66), rfl, ⟨hX, hG_o, trivial⟩, by show va_P D vwCl w66 t.heap; rw [ht]; exact hP, hD, hT⟩, hS.F ht⟩) hS.2.2 dX8_init_69
set_option maxHeartbeats 4000000 in
set_option maxRecDepth 100000 in
theorem c_X6_init (l : Launch) (D : va_G) (cy : Nat → ClassId) (A : Nat → Prop) (G : cG) (ws : va_W) (o : Nat)  (hD : va_D A ws) (hT : cT cy G ws) (hO_o : G o = none) (hM_o : cIn ws o (.inr (5, [.null, .int 0, .null])))  : Cv l D cy A yX6_init wsX6_init ({ frames := 1, cells := 2, slots := 52768, locals := 20 }) 2 52768 ws [.ref o] (fun u => cX (some o) (chs []) G ws u.1 u.2 ∧ u.1 o = some (6, 0, 0) ∧ (True)) := by
  refine Met.ofW (cc := cX6_init) (maxL := 1) (ret := none) (by decide) rfl ?_
  intro p e s m args below meth c s₁ B hml hv
  obtain ⟨rfl, hP, hK, hA, hV⟩ := hv
  have hx := B.exec
  have hb := B.bytes
  have hr := B.returns
  have hts := atoms_spec (ws := wsX6_init) B.pre
  have hown : s.vm.findClass RX6 = some m.cls := findClass_of_methodNamed B.named
  have hlocks := B.notSynchronized
  have hS : va_S A s.heap s.heap [] := va_S.rf
  have hin2 : meth.name = "<init>" := (name_of_methodNamed B.named B.method).1
  have hX : cX (some o) (chs []) G ws G ws := cX.rf
  have hM0_o := hM_o
  have hl := lv_entry ([.ref o]) (n := 1) (Nat.le_of_ble_eq_true rfl)
  rw [lg_entry_eq]
  generalize (lg_sl ([.ref o]) ++ List.replicate (1 - (lg_sl ([.ref o])).length) Slot.unset).toArray = ls at hl ⊢
  have hl : lv_has ls 1 [(0, .ref o)] := hl
  have k_0 : (0 : Int32).toInt = 0 := by decide
  have k_20000 : (20000 : Int32).toInt = 20000 := by decide
  have k_32768 : (32768 : Int32).toInt = 32768 := by decide
  refine lv_aload_n hx hb dX6_init_0 rfl (lv_at hl 0 rfl) ?_
  refine W.objInit hx hb hown (hts (.methodLink RX6 5 objectInit) (by decide +kernel)) (hts (.instanceMethod objectInit) (by decide +kernel)) (hts (.code objectInit ⟨#[0xb1]⟩ 1 none) (by decide +kernel)) rfl (by rw [hml]; exact hl.1) rfl dX6_init_1 (Nat.le_of_ble_eq_true rfl) (Nat.le_of_ble_eq_true rfl) ?_
  refine W.eq (g2 := F0 m 4 ls []) rfl ?_
  refine lv_aload_n hx hb dX6_init_4 rfl (lv_at hl 0 rfl) ?_
  refine lv_sipush (v := 20000) hx hb dX6_init_5 (by decide) ?_
  refine t_newl hx hb (hts (.arrayClass .long) (by decide +kernel)) hK hP hD hS hA hT (kd9 := 1) (Or.inl rfl) 20000 (N := 20000) (by decide) rfl (by omega) (by decide) (Nat.le_of_ble_eq_true rfl) (Nat.le_of_ble_eq_true rfl) dX6_init_8 (fun q8 H w8 G8 hG_q8 hz8 hF8 hX8 hk8 hg8 hP hD hT hS => ?_)
  have hN_q8 := hX.new1 hM_o hz8 hF8
  have hO_o := (hg8 o (fun z => hF8 _ (z ▸ hM_o))).trans hO_o
  have hM_o := hk8 _ _ hM_o
  have hX := hX.tr (hX8 _ _)
  refine t_putF (v := .ref q8) (C := RX6) (T := TX6) (N := 3) (ty0 := tyX6) hx hb hts (by decide +kernel) tyX6_ok nmX6 hown hK hP hD hS hM_o rfl 0 (by decide) (hts (.fieldLink RX6 11 "ShadowBench$Meetings" "met" "[J") (by decide +kernel)) (fun _ h9 => h9) rfl hin2 rfl rfl rfl (Nat.le_of_ble_eq_true rfl) dX6_init_10 (fun H locs w10 hU10 hP hD hS => ?_)
  have hT := hT.up0 hU10 hO_o
  have hM_o : cIn w10 o (.inr (5, [.ref q8, .int 0, .null])) := hU10.1
  have hX := hX.tr (cX.up hU10 (Or.inl rfl))
  refine lv_aload_n hx hb dX6_init_13 rfl (lv_at hl 0 rfl) ?_
  refine lv_iconst (v := 0) hx hb dX6_init_14 (by decide) ?_
  refine t_put (v := .int (0 : Int32)) (C := RX6) (T := TX6) (N := 3) (ty0 := tyX6) hx hb hts (by decide +kernel) tyX6_ok nmX6 hown hK hP hD hS hM_o rfl 1 (by decide) (hts (.fieldLink RX6 15 "ShadowBench$Meetings" "size" "I") (by decide +kernel)) (fun _ h9 => h9) rfl rfl rfl (Nat.le_of_ble_eq_true rfl) dX6_init_15 (fun H locs w15 hU15 hP hD hS => ?_)
  have hT := hT.up0 hU15 hO_o
  have hM_o : cIn w15 o (.inr (5, [.ref q8, .int (0 : Int32), .null])) := hU15.1
  have hX := hX.tr (cX.up hU15 (Or.inl rfl))
  refine lv_aload_n hx hb dX6_init_18 rfl (lv_at hl 0 rfl) ?_
  refine lv_ldc hx hb hown (hts (.constant RX6 19 (32768)) (by decide +kernel)) dX6_init_19 ?_
  refine t_newi hx hb (hts (.arrayClass .int) (by decide +kernel)) hK hP hD hS hA hT (kd9 := 0) (Or.inl rfl) 32768 (N := 32768) (by decide) rfl (by omega) (by decide) (Nat.le_of_ble_eq_true rfl) (Nat.le_of_ble_eq_true rfl) dX6_init_21 (fun q21 H w21 G21 hG_q21 hz21 hF21 hX21 hk21 hg21 hP hD hT hS => ?_)
  have hN_q21 := hX.new1 hM_o hz21 hF21
  have hO_o := (hg21 o (fun z => hF21 _ (z ▸ hM_o))).trans hO_o
  have hM_o := hk21 _ _ hM_o
  have hG_q8 := (hX21 none (chs [])).1 _ _ hG_q8
  have hX := hX.tr (hX21 _ _)
  refine t_putF (v := .ref q21) (C := RX6) (T := TX6) (N := 3) (ty0 := tyX6) hx hb hts (by decide +kernel) tyX6_ok nmX6 hown hK hP hD hS hM_o rfl 2 (by decide) (hts (.fieldLink RX6 20 "ShadowBench$Meetings" "slots" "[I") (by decide +kernel)) (fun _ h9 => h9) rfl hin2 rfl rfl rfl (Nat.le_of_ble_eq_true rfl) dX6_init_23 (fun H locs w23 hU23 hP hD hS => ?_)
  have hT := hT.up0 hU23 hO_o
  have hM_o : cIn w23 o (.inr (5, [.ref q8, .int (0 : Int32), .ref q21])) := hU23.1
  have hX := hX.tr (cX.up hU23 (Or.inl rfl))
  obtain ⟨Gk26, hGk⟩ : ∃ z, z = va_up G21 o (some (6, 0, 0)) := ⟨_, rfl⟩
  have hE9 : cE G21 Gk26 := by rw [hGk]; exact cE.add hO_o
  have hG_o : Gk26 o = some (6, 0, 0) := by rw [hGk]; simp [va_up]
  have hG_q8 := hE9 _ _ hG_q8
  have hG_q21 := hE9 _ _ hG_q21
  have hT : cT cy Gk26 w23 := by rw [hGk]; exact hT.kind hO_o hM_o (by rw [← hGk]; exact ⟨_, _, _, rfl, ⟨by decide, by decide⟩, hG_q8, hG_q21⟩)
  have hX := hX.tr (show cX (some o) (chs []) G21 w23 Gk26 w23 by rw [hGk]; exact cX.kind hO_o)
  refine W.widen (k := 2) (n := 52768) (Nat.le_of_ble_eq_true rfl) (Nat.le_of_ble_eq_true rfl) ?_
  exact W.vret hx hb hr (fun t ht hW => ⟨⟨(Gk26, w23), rfl, ⟨hX, hG_o, trivial⟩, by show va_P D vwCl w23 t.heap; rw [ht]; exact hP, hD, hT⟩, hS.F ht⟩) hS.2.2 dX6_init_26
set_option maxHeartbeats 4000000 in
set_option maxRecDepth 100000 in
theorem c_X6_isTakenByOther (l : Launch) (D : va_G) (cy : Nat → ClassId) (A : Nat → Prop) (G : cG) (ws : va_W) (o : Nat) (slot : Int32) (p0 : Int64)  (hD : va_D A ws) (hT : cT cy G ws) (hG_o : G o = some (6, 0, 0)) (hs : 0 ≤ slot.toInt ∧ slot.toInt < 32768) : Ci l D cy A yX6_isTakenByOther wsX6_isTakenByOther ({ frames := 0, cells := 0, slots := 0, locals := 0 }) 0 0 ws [.ref o, .int slot, .long p0] (fun r0 u => u = (G, ws) ∧ (isBo r0)) := by
  refine Met.ofW (cc := cX6_isTakenByOther) (maxL := 5) (ret := (some .boolean)) (by decide) rfl ?_
  intro p e s m args below meth c s₁ B hml hv
  obtain ⟨rfl, hP, hK, hA, hV⟩ := hv
  have hx := B.exec
  have hb := B.bytes
  have hr := B.returns
  have hts := atoms_spec (ws := wsX6_isTakenByOther) B.pre
  have hown : s.vm.findClass RX6 = some m.cls := findClass_of_methodNamed B.named
  have hlocks := B.notSynchronized
  have hS : va_S A s.heap s.heap [] := va_S.rf
  have hl := lv_entry ([.ref o, .int slot, .long p0]) (n := 5) (Nat.le_of_ble_eq_true rfl)
  rw [lg_entry_eq]
  generalize (lg_sl ([.ref o, .int slot, .long p0]) ++ List.replicate (5 - (lg_sl ([.ref o, .int slot, .long p0])).length) Slot.unset).toArray = ls at hl ⊢
  have hl : lv_has ls 5 [(0, .ref o), (1, .int slot), (2, .long p0)] := hl
  have k_0 : (0 : Int32).toInt = 0 := by decide
  have k_1 : (1 : Int32).toInt = 1 := by decide
  have k_20000 : (20000 : Int32).toInt = 20000 := by decide
  refine lv_aload_n hx hb dX6_isTakenByOther_0 rfl (lv_at hl 0 rfl) ?_
  obtain ⟨_, hM_o, a_o, b_o, z_o, rfl, hz_o, hG_a_o, hG_b_o⟩ := hT _ _ hG_o
  refine t_get (v := .ref b_o) (C := RX6) (T := TX6) (N := 3) hx hb hts (by decide +kernel) hown hK hP hM_o rfl 2 (by decide) (hts (.fieldLink RX6 20 "ShadowBench$Meetings" "slots" "[I") (by decide +kernel)) (fun _ h9 => h9) rfl dX6_isTakenByOther_1 ?_
  refine lv_iload_n hx hb dX6_isTakenByOther_4 rfl (lv_at hl 1 rfl) ?_
  refine t_iald hx hb hK hP hT (Or.inl rfl) hG_b_o (vp_in_iff.mpr ⟨by omega, by omega⟩) dX6_isTakenByOther_5 (fun v5 => ?_)
  refine lv_iconst (v := 1) hx hb dX6_isTakenByOther_6 (by decide) ?_
  refine lv_isub hx hb dX6_isTakenByOther_7 ?_
  refine lv_topi (fun v7 e7 => ?_)
  refine lv_istore (lv' := [(4, .int v7), (0, .ref o), (1, .int slot), (2, .long p0)]) hx hb dX6_isTakenByOther_8 hl (by decide) rfl (fun ls hl => ?_)
  refine lv_iload hx hb dX6_isTakenByOther_10 (lv_at hl 0 rfl) ?_
  refine lv_if_lt (tgt := 39) hx hb dX6_isTakenByOther_12 (by decide) (fun c12 => ?_) (fun c12 => ?_)
  · skip
    have d12 := c12
    rw [fa_lt] at d12
    refine lv_iconst (v := 0) hx hb dX6_isTakenByOther_39 (by decide) ?_
    exact W.zret (v := (0 : Int32)) hx hb hr (by decide) (fun t ht hW => ⟨⟨_, (G, ws), rfl, ⟨rfl, Or.inl rfl⟩, by show va_P D vwCl ws t.heap; rw [ht]; exact hP, hD, hT⟩, hS.F ht⟩) hS.2.2 dX6_isTakenByOther_40
  · skip
    have d12 := c12
    rw [fa_lt] at d12
    refine lv_iload hx hb dX6_isTakenByOther_15 (lv_at hl 0 rfl) ?_
    refine lv_sipush (v := 20000) hx hb dX6_isTakenByOther_17 (by decide) ?_
    refine lv_icmp_ge (tgt := 39) hx hb dX6_isTakenByOther_20 (by decide) (fun c20 => ?_) (fun c20 => ?_)
    · skip
      have d20 := c20
      rw [fa_le] at d20
      refine lv_iconst (v := 0) hx hb dX6_isTakenByOther_39 (by decide) ?_
      exact W.zret (v := (0 : Int32)) hx hb hr (by decide) (fun t ht hW => ⟨⟨_, (G, ws), rfl, ⟨rfl, Or.inl rfl⟩, by show va_P D vwCl ws t.heap; rw [ht]; exact hP, hD, hT⟩, hS.F ht⟩) hS.2.2 dX6_isTakenByOther_40
    · skip
      have d20 := c20
      rw [fa_le] at d20
      refine lv_aload_n hx hb dX6_isTakenByOther_23 rfl (lv_at hl 1 rfl) ?_
      refine t_get (v := .ref a_o) (C := RX6) (T := TX6) (N := 3) hx hb hts (by decide +kernel) hown hK hP hM_o rfl 0 (by decide) (hts (.fieldLink RX6 11 "ShadowBench$Meetings" "met" "[J") (by decide +kernel)) (fun _ h9 => h9) rfl dX6_isTakenByOther_24 ?_
      refine lv_iload hx hb dX6_isTakenByOther_27 (lv_at hl 0 rfl) ?_
      refine t_lald hx hb hK hP hT (Or.inl rfl) hG_a_o (vp_in_iff.mpr ⟨by omega, by omega⟩) dX6_isTakenByOther_29 (fun v29 => ?_)
      refine lv_lload_n hx hb dX6_isTakenByOther_30 rfl (lv_at hl 3 rfl) ?_
      refine W.lcmp hx hb dX6_isTakenByOther_31 ?_
      refine lv_if_eq (tgt := 39) hx hb dX6_isTakenByOther_32 (by decide) (fun c32 => ?_) (fun c32 => ?_)
      · skip
        have d32 := c32
        rw [lg_cmp_eq, fa_eq64] at d32
        refine lv_iconst (v := 0) hx hb dX6_isTakenByOther_39 (by decide) ?_
        exact W.zret (v := (0 : Int32)) hx hb hr (by decide) (fun t ht hW => ⟨⟨_, (G, ws), rfl, ⟨rfl, Or.inl rfl⟩, by show va_P D vwCl ws t.heap; rw [ht]; exact hP, hD, hT⟩, hS.F ht⟩) hS.2.2 dX6_isTakenByOther_40
      · skip
        have d32 := c32
        rw [lg_cmp_eq, fa_eq64] at d32
        refine lv_iconst (v := 1) hx hb dX6_isTakenByOther_35 (by decide) ?_
        refine lv_goto (tgt := 40) hx hb dX6_isTakenByOther_36 (by decide) ?_
        exact W.zret (v := (1 : Int32)) hx hb hr (by decide) (fun t ht hW => ⟨⟨_, (G, ws), rfl, ⟨rfl, Or.inr rfl⟩, by show va_P D vwCl ws t.heap; rw [ht]; exact hP, hD, hT⟩, hS.F ht⟩) hS.2.2 dX6_isTakenByOther_40
set_option maxHeartbeats 4000000 in
set_option maxRecDepth 100000 in
theorem c_X6_slotFor (l : Launch) (D : va_G) (cy : Nat → ClassId) (A : Nat → Prop) (G : cG) (ws : va_W) (o : Nat) (p0 : Int64)  (hD : va_D A ws) (hT : cT cy G ws) (hG_o : G o = some (6, 0, 0))  : Ci l D cy A yX6_slotFor wsX6_slotFor ({ frames := 1, cells := 0, slots := 0, locals := 24 }) 0 0 ws [.ref o, .long p0] (fun r0 u => u = (G, ws) ∧ (0 ≤ r0.toInt ∧ r0.toInt < 32768)) := by
  refine Met.ofW (cc := cX6_slotFor) (maxL := 5) (ret := (some .int)) (by decide) rfl ?_
  intro p e s m args below meth c s₁ B hml hv
  obtain ⟨rfl, hP, hK, hA, hV⟩ := hv
  have hx := B.exec
  have hb := B.bytes
  have hr := B.returns
  have hts := atoms_spec (ws := wsX6_slotFor) B.pre
  have hown : s.vm.findClass RX6 = some m.cls := findClass_of_methodNamed B.named
  have hlocks := B.notSynchronized
  have hS : va_S A s.heap s.heap [] := va_S.rf
  have hl := lv_entry ([.ref o, .long p0]) (n := 5) (Nat.le_of_ble_eq_true rfl)
  rw [lg_entry_eq]
  generalize (lg_sl ([.ref o, .long p0]) ++ List.replicate (5 - (lg_sl ([.ref o, .long p0])).length) Slot.unset).toArray = ls at hl ⊢
  have hl : lv_has ls 5 [(0, .ref o), (1, .long p0)] := hl
  have k_0 : (0 : Int32).toInt = 0 := by decide
  have k_1 : (1 : Int32).toInt = 1 := by decide
  have k_49 : (49 : Int32).toInt = 49 := by decide
  have k_32767 : (32767 : Int32).toInt = 32767 := by decide
  have k_32768 : (32768 : Int32).toInt = 32768 := by decide
  have k_m7046029254386353131L : (-7046029254386353131 : Int64).toInt = -7046029254386353131 := by decide
  refine lv_lload_n hx hb dX6_slotFor_0 rfl (lv_at hl 1 rfl) ?_
  refine lv_ldc2 hx hb hown (hts (.constantLong RX6 54 (-7046029254386353131)) (by decide +kernel)) dX6_slotFor_1 ?_
  refine lv_lmul hx hb dX6_slotFor_4 ?_
  refine lv_topl (fun v4 e4 => ?_)
  refine lv_bipush (v := 49) hx hb dX6_slotFor_5 (by decide) ?_
  refine lv_lushr (v := (v4.toUInt64 >>> ((49 : Int32).toInt64.toUInt64 &&& Int64.toUInt64 63)).toInt64) hx hb dX6_slotFor_7 rfl ?_
  refine lv_l2i (v := (((v4.toUInt64 >>> ((49 : Int32).toInt64.toUInt64 &&& Int64.toUInt64 63)).toInt64)).toInt32) hx hb dX6_slotFor_8 rfl ?_
  refine lv_sipush (v := 32767) hx hb dX6_slotFor_9 (by decide) ?_
  refine lv_iand hx hb dX6_slotFor_12 ?_
  refine lv_topi (fun v12 e12 => ?_)
  have b12 := and15 e12
  refine lv_istore_n (lv' := [(3, .int v12), (0, .ref o), (1, .long p0)]) hx hb dX6_slotFor_13 rfl hl (by decide) rfl (fun ls hl => ?_)
  refine lv_iconst (v := 0) hx hb dX6_slotFor_14 (by decide) ?_
  refine lv_istore (lv' := [(4, .int (0 : Int32)), (3, .int v12), (0, .ref o), (1, .long p0)]) hx hb dX6_slotFor_15 hl (by decide) rfl (fun ls hl => ?_)
  have loop_17 : ∀ (n : Nat) (i : Nat) (x3 : Int32), (i ≤ 32768) → (0 ≤ x3.toInt ∧ x3.toInt < 32768) → 32768 - i < n → ∀ (H : Heap) (locs : List Loc), va_P D vwCl ws H → va_S A s.heap H locs → ∀ (ls : Array Slot), lv_has ls 5 [(4, .int (nI i)), (3, .int x3), (0, .ref o), (1, .long p0)] → W p l e (headSpec wsX6_slotFor ({ frames := 1, cells := 0, slots := 0, locals := 24 })).room s m #[Value.ref o, Value.long p0] below meth c H locs 0 0 (MQ below (va_Qi (fun r0 u => u = (G, ws) ∧ (0 ≤ r0.toInt ∧ r0.toInt < 32768)) (cB D cy A) A) #[Value.ref o, Value.long p0] s 0 0 A) (F0 m 17 ls []) := by
    intro n
    induction n with
    | zero => intro i x3 j17_0 j17_1 hn; exact absurd hn (Nat.not_lt_zero _)
    | succ n ih_17 =>
      intro i x3 j17_0 j17_1 hn_17 H locs hP hS  ls hl
      have ik_i : (nI i).toInt = (i : Int) := nI_toInt (by omega)
      refine lv_iload hx hb dX6_slotFor_17 (lv_at hl 0 rfl) ?_
      refine lv_ldc hx hb hown (hts (.constant RX6 19 (32768)) (by decide +kernel)) dX6_slotFor_19 ?_
      refine lv_icmp_ge (tgt := 47) hx hb dX6_slotFor_21 (by decide) (fun c21 => ?_) (fun c21 => ?_)
      · skip
        have d21 := c21
        rw [fa_le] at d21
        refine lv_iload_n hx hb dX6_slotFor_47 rfl (lv_at hl 1 rfl) ?_
        exact W.iret (v := x3) hx hb hr (fun t ht hW => ⟨⟨_, (G, ws), rfl, ⟨rfl, by omega⟩, by show va_P D vwCl ws t.heap; rw [ht]; exact hP, hD, hT⟩, hS.F ht⟩) hS.2.2 dX6_slotFor_48
      · skip
        have d21 := c21
        rw [fa_le] at d21
        refine lv_aload_n hx hb dX6_slotFor_24 rfl (lv_at hl 2 rfl) ?_
        refine lv_iload_n hx hb dX6_slotFor_25 rfl (lv_at hl 1 rfl) ?_
        refine lv_lload_n hx hb dX6_slotFor_26 rfl (lv_at hl 3 rfl) ?_
        obtain ⟨_, hM_o, a_o, b_o, z_o, rfl, hz_o, hG_a_o, hG_b_o⟩ := hT _ _ hG_o
        refine t_calli (va_runV (g := F0 m 27 ls ([.long p0, .int x3, .ref o])) (As := [.int x3, .long p0]) (rest := []) ⟨hx, hb, hml, hown, hts⟩ (c_X6_isTakenByOther l D cy A G ws o x3 p0 hD hT hG_o (by omega)) (cwV 2 hts gX6_slotFor_X6_isTakenByOther rfl rfl rfl (by decide +kernel) ⟨Nat.le_of_ble_eq_true rfl, Nat.le_of_ble_eq_true rfl⟩) (c_preV hM_o rfl hP hK hA hS hV) rfl rfl hl.1 rfl (lv_room (Nat.le_of_ble_eq_true rfl)) dX6_slotFor_27 ⟨Nat.le_of_ble_eq_true rfl, Nat.le_of_ble_eq_true rfl⟩) hS (fun r27 u H locs q27 hP9 hD9 hT9 hS => ?_)
        obtain ⟨rfl, q27⟩ := q27
        have hP : va_P D vwCl ws H := hP9
        refine lv_if_eq (tgt := 47) hx hb dX6_slotFor_30 (by decide) (fun c30 => ?_) (fun c30 => ?_)
        · skip
          have d30 := c30
          rw [fa_eq] at d30
          refine lv_iload_n hx hb dX6_slotFor_47 rfl (lv_at hl 1 rfl) ?_
          exact W.iret (v := x3) hx hb hr (fun t ht hW => ⟨⟨_, (G, ws), rfl, ⟨rfl, by omega⟩, by show va_P D vwCl ws t.heap; rw [ht]; exact hP, hD, hT⟩, hS.F ht⟩) hS.2.2 dX6_slotFor_48
        · skip
          have d30 := c30
          rw [fa_eq] at d30
          refine lv_iload_n hx hb dX6_slotFor_33 rfl (lv_at hl 1 rfl) ?_
          refine lv_iconst (v := 1) hx hb dX6_slotFor_34 (by decide) ?_
          refine lv_iadd hx hb dX6_slotFor_35 ?_
          refine lv_topi (fun v35 e35 => ?_)
          refine lv_sipush (v := 32767) hx hb dX6_slotFor_36 (by decide) ?_
          refine lv_iand hx hb dX6_slotFor_39 ?_
          refine lv_topi (fun v39 e39 => ?_)
          have b39 := and15 e39
          refine lv_istore_n (lv' := [(3, .int v39), (4, .int (nI i)), (0, .ref o), (1, .long p0)]) hx hb dX6_slotFor_40 rfl hl (by decide) rfl (fun ls hl => ?_)
          refine lv_iinc (v := (nI (i + 1))) (lv' := [(4, .int (nI (i + 1))), (3, .int v39), (0, .ref o), (1, .long p0)]) hx hb dX6_slotFor_41 hl (k := 1) rfl (nI_1 _) (by decide) rfl (fun ls hl => ?_)
          refine lv_goto (tgt := 17) hx hb dX6_slotFor_44 (by decide) ?_
          exact ih_17 (i + 1) v39 (by omega) (by omega) (by omega) _ _ hP hS  ls (lv_sub hl [0, 1, 2, 3] rfl)
  exact loop_17 (32768 + 1) 0 v12 (by omega) (by omega) (by omega) _ _ hP hS  ls (lv_sub hl [0, 1, 2, 3] rfl)
set_option maxHeartbeats 4000000 in
set_option maxRecDepth 100000 in
theorem c_X6_knows (l : Launch) (D : va_G) (cy : Nat → ClassId) (A : Nat → Prop) (G : cG) (ws : va_W) (o : Nat) (p0 : Int64)  (hD : va_D A ws) (hT : cT cy G ws) (hG_o : G o = some (6, 0, 0))  : Ci l D cy A yX6_knows wsX6_knows ({ frames := 2, cells := 0, slots := 0, locals := 48 }) 0 0 ws [.ref o, .long p0] (fun r0 u => u = (G, ws) ∧ (isBo r0)) := by
  refine Met.ofW (cc := cX6_knows) (maxL := 3) (ret := (some .boolean)) (by decide) rfl ?_
  intro p e s m args below meth c s₁ B hml hv
  obtain ⟨rfl, hP, hK, hA, hV⟩ := hv
  have hx := B.exec
  have hb := B.bytes
  have hr := B.returns
  have hts := atoms_spec (ws := wsX6_knows) B.pre
  have hown : s.vm.findClass RX6 = some m.cls := findClass_of_methodNamed B.named
  have hlocks := B.notSynchronized
  have hS : va_S A s.heap s.heap [] := va_S.rf
  have hl := lv_entry ([.ref o, .long p0]) (n := 3) (Nat.le_of_ble_eq_true rfl)
  rw [lg_entry_eq]
  generalize (lg_sl ([.ref o, .long p0]) ++ List.replicate (3 - (lg_sl ([.ref o, .long p0])).length) Slot.unset).toArray = ls at hl ⊢
  have hl : lv_has ls 3 [(0, .ref o), (1, .long p0)] := hl
  have k_0 : (0 : Int32).toInt = 0 := by decide
  have k_1 : (1 : Int32).toInt = 1 := by decide
  refine lv_aload_n hx hb dX6_knows_0 rfl (lv_at hl 0 rfl) ?_
  obtain ⟨_, hM_o, a_o, b_o, z_o, rfl, hz_o, hG_a_o, hG_b_o⟩ := hT _ _ hG_o
  refine t_get (v := .ref b_o) (C := RX6) (T := TX6) (N := 3) hx hb hts (by decide +kernel) hown hK hP hM_o rfl 2 (by decide) (hts (.fieldLink RX6 20 "ShadowBench$Meetings" "slots" "[I") (by decide +kernel)) (fun _ h9 => h9) rfl dX6_knows_1 ?_
  refine lv_aload_n hx hb dX6_knows_4 rfl (lv_at hl 0 rfl) ?_
  refine lv_lload_n hx hb dX6_knows_5 rfl (lv_at hl 1 rfl) ?_
  refine t_calli (va_runV (g := F0 m 6 ls ([.long p0, .ref o, .ref b_o])) (As := [.long p0]) (rest := [.ref b_o]) ⟨hx, hb, hml, hown, hts⟩ (c_X6_slotFor l D cy A G ws o p0 hD hT hG_o ) (cwV 1 hts gX6_knows_X6_slotFor rfl rfl rfl (by decide +kernel) ⟨Nat.le_of_ble_eq_true rfl, Nat.le_of_ble_eq_true rfl⟩) (c_preV hM_o rfl hP hK hA hS hV) rfl rfl hl.1 rfl (lv_room (Nat.le_of_ble_eq_true rfl)) dX6_knows_6 ⟨Nat.le_of_ble_eq_true rfl, Nat.le_of_ble_eq_true rfl⟩) hS (fun r6 u H locs q6 hP9 hD9 hT9 hS => ?_)
  obtain ⟨rfl, q6⟩ := q6
  have hP : va_P D vwCl ws H := hP9
  refine t_iald hx hb hK hP hT (Or.inl rfl) hG_b_o (vp_in_iff.mpr ⟨by omega, by omega⟩) dX6_knows_9 (fun v9 => ?_)
  refine lv_if_eq (tgt := 17) hx hb dX6_knows_10 (by decide) (fun c10 => ?_) (fun c10 => ?_)
  · skip
    have d10 := c10
    rw [fa_eq] at d10
    refine lv_iconst (v := 0) hx hb dX6_knows_17 (by decide) ?_
    exact W.zret (v := (0 : Int32)) hx hb hr (by decide) (fun t ht hW => ⟨⟨_, (G, ws), rfl, ⟨rfl, Or.inl rfl⟩, by show va_P D vwCl ws t.heap; rw [ht]; exact hP, hD, hT⟩, hS.F ht⟩) hS.2.2 dX6_knows_18
  · skip
    have d10 := c10
    rw [fa_eq] at d10
    refine lv_iconst (v := 1) hx hb dX6_knows_13 (by decide) ?_
    refine lv_goto (tgt := 18) hx hb dX6_knows_14 (by decide) ?_
    exact W.zret (v := (1 : Int32)) hx hb hr (by decide) (fun t ht hW => ⟨⟨_, (G, ws), rfl, ⟨rfl, Or.inr rfl⟩, by show va_P D vwCl ws t.heap; rw [ht]; exact hP, hD, hT⟩, hS.F ht⟩) hS.2.2 dX6_knows_18
set_option maxHeartbeats 4000000 in
set_option maxRecDepth 100000 in
theorem c_X6_meet (l : Launch) (D : va_G) (cy : Nat → ClassId) (A : Nat → Prop) (G : cG) (ws : va_W) (o : Nat) (p0 : Int64)  (hD : va_D A ws) (hT : cT cy G ws) (hG_o : G o = some (6, 0, 0))  : Ci l D cy A yX6_meet wsX6_meet ({ frames := 2, cells := 0, slots := 0, locals := 48 }) 0 0 ws [.ref o, .long p0] (fun r0 u => cX none (chs [0, 1, 6]) G ws u.1 u.2 ∧ (isBo r0)) := by
  refine Met.ofW (cc := cX6_meet) (maxL := 4) (ret := (some .boolean)) (by decide) rfl ?_
  intro p e s m args below meth c s₁ B hml hv
  obtain ⟨rfl, hP, hK, hA, hV⟩ := hv
  have hx := B.exec
  have hb := B.bytes
  have hr := B.returns
  have hts := atoms_spec (ws := wsX6_meet) B.pre
  have hown : s.vm.findClass RX6 = some m.cls := findClass_of_methodNamed B.named
  have hlocks := B.notSynchronized
  have hS : va_S A s.heap s.heap [] := va_S.rf
  have hX : cX none (chs [0, 1, 6]) G ws G ws := cX.rf
  have hl := lv_entry ([.ref o, .long p0]) (n := 4) (Nat.le_of_ble_eq_true rfl)
  rw [lg_entry_eq]
  generalize (lg_sl ([.ref o, .long p0]) ++ List.replicate (4 - (lg_sl ([.ref o, .long p0])).length) Slot.unset).toArray = ls at hl ⊢
  have hl : lv_has ls 4 [(0, .ref o), (1, .long p0)] := hl
  have k_0 : (0 : Int32).toInt = 0 := by decide
  have k_1 : (1 : Int32).toInt = 1 := by decide
  have k_20000 : (20000 : Int32).toInt = 20000 := by decide
  refine lv_aload_n hx hb dX6_meet_0 rfl (lv_at hl 0 rfl) ?_
  refine lv_lload_n hx hb dX6_meet_1 rfl (lv_at hl 1 rfl) ?_
  obtain ⟨_, hM_o, a_o, b_o, z_o, rfl, hz_o, hG_a_o, hG_b_o⟩ := hT _ _ hG_o
  refine t_calli (va_runV (g := F0 m 2 ls ([.long p0, .ref o])) (As := [.long p0]) (rest := []) ⟨hx, hb, hml, hown, hts⟩ (c_X6_slotFor l D cy A G ws o p0 hD hT hG_o ) (cwV 1 hts gX6_meet_X6_slotFor rfl rfl rfl (by decide +kernel) ⟨Nat.le_of_ble_eq_true rfl, Nat.le_of_ble_eq_true rfl⟩) (c_preV hM_o rfl hP hK hA hS hV) rfl rfl hl.1 rfl (lv_room (Nat.le_of_ble_eq_true rfl)) dX6_meet_2 ⟨Nat.le_of_ble_eq_true rfl, Nat.le_of_ble_eq_true rfl⟩) hS (fun r2 u H locs q2 hP9 hD9 hT9 hS => ?_)
  obtain ⟨rfl, q2⟩ := q2
  have hP : va_P D vwCl ws H := hP9
  refine lv_istore_n (lv' := [(3, .int r2), (0, .ref o), (1, .long p0)]) hx hb dX6_meet_5 rfl hl (by decide) rfl (fun ls hl => ?_)
  refine lv_aload_n hx hb dX6_meet_6 rfl (lv_at hl 1 rfl) ?_
  refine t_get (v := .ref b_o) (C := RX6) (T := TX6) (N := 3) hx hb hts (by decide +kernel) hown hK hP hM_o rfl 2 (by decide) (hts (.fieldLink RX6 20 "ShadowBench$Meetings" "slots" "[I") (by decide +kernel)) (fun _ h9 => h9) rfl dX6_meet_7 ?_
  refine lv_iload_n hx hb dX6_meet_10 rfl (lv_at hl 0 rfl) ?_
  refine t_iald hx hb hK hP hT (Or.inl rfl) hG_b_o (vp_in_iff.mpr ⟨by omega, by omega⟩) dX6_meet_11 (fun v11 => ?_)
  refine lv_if_eq (tgt := 17) hx hb dX6_meet_12 (by decide) (fun c12 => ?_) (fun c12 => ?_)
  · skip
    have d12 := c12
    rw [fa_eq] at d12
    refine lv_aload_n hx hb dX6_meet_17 rfl (lv_at hl 1 rfl) ?_
    refine t_get (v := .int z_o) (C := RX6) (T := TX6) (N := 3) hx hb hts (by decide +kernel) hown hK hP hM_o rfl 1 (by decide) (hts (.fieldLink RX6 15 "ShadowBench$Meetings" "size" "I") (by decide +kernel)) (fun _ h9 => h9) rfl dX6_meet_18 ?_
    refine lv_sipush (v := 20000) hx hb dX6_meet_21 (by decide) ?_
    refine lv_icmp_lt (tgt := 29) hx hb dX6_meet_24 (by decide) (fun c24 => ?_) (fun c24 => ?_)
    · skip
      have d24 := c24
      rw [fa_lt] at d24
      refine lv_aload_n hx hb dX6_meet_29 rfl (lv_at hl 1 rfl) ?_
      refine t_get (v := .ref a_o) (C := RX6) (T := TX6) (N := 3) hx hb hts (by decide +kernel) hown hK hP hM_o rfl 0 (by decide) (hts (.fieldLink RX6 11 "ShadowBench$Meetings" "met" "[J") (by decide +kernel)) (fun _ h9 => h9) rfl dX6_meet_30 ?_
      refine lv_aload_n hx hb dX6_meet_33 rfl (lv_at hl 1 rfl) ?_
      refine t_get (v := .int z_o) (C := RX6) (T := TX6) (N := 3) hx hb hts (by decide +kernel) hown hK hP hM_o rfl 1 (by decide) (hts (.fieldLink RX6 15 "ShadowBench$Meetings" "size" "I") (by decide +kernel)) (fun _ h9 => h9) rfl dX6_meet_34 ?_
      refine lv_lload_n hx hb dX6_meet_37 rfl (lv_at hl 2 rfl) ?_
      refine t_last hx hb hK hP hD hS hT (Or.inl rfl) hG_a_o (vp_in_iff.mpr ⟨by omega, by omega⟩) dX6_meet_38 (fun H locs w38 hU38 hP hD hT hS => ?_)
      have hM_o := hU38 _ _ (cne hG_o hG_a_o (show (6 : Nat) ≠ 1 by decide)) hM_o
      have hX := hX.tr (cX.uF hU38 (Or.inr ⟨_, hG_a_o, rfl⟩))
      refine lv_aload_n hx hb dX6_meet_39 rfl (lv_at hl 1 rfl) ?_
      refine lv_dup hx hb dX6_meet_40 rfl ?_
      refine t_get (v := .int z_o) (C := RX6) (T := TX6) (N := 3) hx hb hts (by decide +kernel) hown hK hP hM_o rfl 1 (by decide) (hts (.fieldLink RX6 15 "ShadowBench$Meetings" "size" "I") (by decide +kernel)) (fun _ h9 => h9) rfl dX6_meet_41 ?_
      refine lv_iconst (v := 1) hx hb dX6_meet_44 (by decide) ?_
      refine lv_iadd hx hb dX6_meet_45 ?_
      refine lv_topi (fun v45 e45 => ?_)
      have i45 : v45.toInt = z_o.toInt + (1 : Int32).toInt := by rw [e45]; exact fb_addI (by omega) (by omega)
      refine t_put (v := .int v45) (C := RX6) (T := TX6) (N := 3) (ty0 := tyX6) hx hb hts (by decide +kernel) tyX6_ok nmX6 hown hK hP hD hS hM_o rfl 1 (by decide) (hts (.fieldLink RX6 15 "ShadowBench$Meetings" "size" "I") (by decide +kernel)) (fun _ h9 => h9) rfl rfl rfl (Nat.le_of_ble_eq_true rfl) dX6_meet_46 (fun H locs w46 hU46 hP hD hS => ?_)
      have hT := hT.up hU46 hG_o ⟨_, _, _, rfl, ⟨by omega, by omega⟩, hG_a_o, hG_b_o⟩
      have hM_o : cIn w46 o (.inr (5, [.ref a_o, .int v45, .ref b_o])) := hU46.1
      have hX := hX.tr (cX.up hU46 (Or.inr ⟨_, hG_o, rfl⟩))
      refine lv_aload_n hx hb dX6_meet_49 rfl (lv_at hl 1 rfl) ?_
      refine t_get (v := .ref b_o) (C := RX6) (T := TX6) (N := 3) hx hb hts (by decide +kernel) hown hK hP hM_o rfl 2 (by decide) (hts (.fieldLink RX6 20 "ShadowBench$Meetings" "slots" "[I") (by decide +kernel)) (fun _ h9 => h9) rfl dX6_meet_50 ?_
      refine lv_iload_n hx hb dX6_meet_53 rfl (lv_at hl 0 rfl) ?_
      refine lv_aload_n hx hb dX6_meet_54 rfl (lv_at hl 1 rfl) ?_
      refine t_get (v := .int v45) (C := RX6) (T := TX6) (N := 3) hx hb hts (by decide +kernel) hown hK hP hM_o rfl 1 (by decide) (hts (.fieldLink RX6 15 "ShadowBench$Meetings" "size" "I") (by decide +kernel)) (fun _ h9 => h9) rfl dX6_meet_55 ?_
      refine t_iast hx hb hK hP hD hS hT (Or.inl rfl) hG_b_o (vp_in_iff.mpr ⟨by omega, by omega⟩) dX6_meet_58 (fun H locs w58 hU58 hP hD hT hS => ?_)
      have hM_o := hU58 _ _ (cne hG_o hG_b_o (show (6 : Nat) ≠ 0 by decide)) hM_o
      have hX := hX.tr (cX.uF hU58 (Or.inr ⟨_, hG_b_o, rfl⟩))
      refine lv_iconst (v := 1) hx hb dX6_meet_59 (by decide) ?_
      exact W.zret (v := (1 : Int32)) hx hb hr (by decide) (fun t ht hW => ⟨⟨_, (G, w58), rfl, ⟨hX, Or.inr rfl⟩, by show va_P D vwCl w58 t.heap; rw [ht]; exact hP, hD, hT⟩, hS.F ht⟩) hS.2.2 dX6_meet_60
    · skip
      have d24 := c24
      rw [fa_lt] at d24
      refine lv_iconst (v := 0) hx hb dX6_meet_27 (by decide) ?_
      exact W.zret (v := (0 : Int32)) hx hb hr (by decide) (fun t ht hW => ⟨⟨_, (G, ws), rfl, ⟨hX, Or.inl rfl⟩, by show va_P D vwCl ws t.heap; rw [ht]; exact hP, hD, hT⟩, hS.F ht⟩) hS.2.2 dX6_meet_28
  · skip
    have d12 := c12
    rw [fa_eq] at d12
    refine lv_iconst (v := 1) hx hb dX6_meet_15 (by decide) ?_
    exact W.zret (v := (1 : Int32)) hx hb hr (by decide) (fun t ht hW => ⟨⟨_, (G, ws), rfl, ⟨hX, Or.inr rfl⟩, by show va_P D vwCl ws t.heap; rw [ht]; exact hP, hD, hT⟩, hS.F ht⟩) hS.2.2 dX6_meet_16
set_option maxHeartbeats 4000000 in
set_option maxRecDepth 100000 in
theorem c_X6_meetNeighbours (l : Launch) (D : va_G) (cy : Nat → ClassId) (A : Nat → Prop) (G : cG) (ws : va_W) (o : Nat) (x1 : Nat) (p0 : Int64) {w h : Nat} (hD : va_D A ws) (hT : cT cy G ws) (hG_o : G o = some (6, 0, 0)) (hG_x1 : G x1 = some (2, w, h))  : Ci l D cy A yX6_meetNeighbours wsX6_meetNeighbours ({ frames := 3, cells := 0, slots := 0, locals := 71 }) 0 0 ws [.ref o, .ref x1, .long p0] (fun r0 u => cX none (chs [0, 1, 6]) G ws u.1 u.2 ∧ (isBo r0)) := by
  refine Met.ofW (cc := cX6_meetNeighbours) (maxL := 7) (ret := (some .boolean)) (by decide) rfl ?_
  intro p e s m args below meth c s₁ B hml hv
  obtain ⟨rfl, hP, hK, hA, hV⟩ := hv
  have hx := B.exec
  have hb := B.bytes
  have hr := B.returns
  have hts := atoms_spec (ws := wsX6_meetNeighbours) B.pre
  have hown : s.vm.findClass RX6 = some m.cls := findClass_of_methodNamed B.named
  have hlocks := B.notSynchronized
  have hS : va_S A s.heap s.heap [] := va_S.rf
  have hX : cX none (chs [0, 1, 6]) G ws G ws := cX.rf
  have hl := lv_entry ([.ref o, .ref x1, .long p0]) (n := 7) (Nat.le_of_ble_eq_true rfl)
  rw [lg_entry_eq]
  generalize (lg_sl ([.ref o, .ref x1, .long p0]) ++ List.replicate (7 - (lg_sl ([.ref o, .ref x1, .long p0])).length) Slot.unset).toArray = ls at hl ⊢
  have hl : lv_has ls 7 [(0, .ref o), (1, .ref x1), (2, .long p0)] := hl
  have k_0 : (0 : Int32).toInt = 0 := by decide
  have k_1 : (1 : Int32).toInt = 1 := by decide
  refine lv_iconst (v := 0) hx hb dX6_meetNeighbours_0 (by decide) ?_
  refine lv_istore (lv' := [(4, .int (0 : Int32)), (0, .ref o), (1, .ref x1), (2, .long p0)]) hx hb dX6_meetNeighbours_1 hl (by decide) rfl (fun ls hl => ?_)
  have loop_3 : ∀ (n : Nat) (i : Nat), (i ≤ 225) → 225 - i < n → ∀ (Gl3 : cG) (wl3 : va_W), cE G Gl3 → cX none (chs [0, 1, 6]) G ws Gl3 wl3 → va_D A wl3 → cT cy Gl3 wl3 → ∀ (H : Heap) (locs : List Loc), va_P D vwCl wl3 H → va_S A s.heap H locs → ∀ (ls : Array Slot), lv_has ls 7 [(4, .int (nI i)), (0, .ref o), (1, .ref x1), (2, .long p0)] → W p l e (headSpec wsX6_meetNeighbours ({ frames := 3, cells := 0, slots := 0, locals := 71 })).room s m #[Value.ref o, Value.ref x1, Value.long p0] below meth c H locs 0 0 (MQ below (va_Qi (fun r0 u => cX none (chs [0, 1, 6]) G ws u.1 u.2 ∧ (isBo r0)) (cB D cy A) A) #[Value.ref o, Value.ref x1, Value.long p0] s 0 0 A) (F0 m 3 ls []) := by
    intro n
    induction n with
    | zero => intro i j3_0 hn; exact absurd hn (Nat.not_lt_zero _)
    | succ n ih_3 =>
      intro i j3_0 hn_3 Gl3 wl3 hEl3 hX hD hT H locs hP hS  ls hl
      have hG_o := hEl3 _ _ hG_o
      have hG_x1 := hEl3 _ _ hG_x1
      have ik_i : (nI i).toInt = (i : Int) := nI_toInt (by omega)
      refine lv_iload hx hb dX6_meetNeighbours_3 (lv_at hl 0 rfl) ?_
      refine lv_aload_n hx hb dX6_meetNeighbours_5 rfl (lv_at hl 2 rfl) ?_
      obtain ⟨_, hM_x1, hb_x1, l_x1, f_x1, r_x1, rfl, hG_l_x1, hG_f_x1, hG_r_x1⟩ := hT _ _ hG_x1
      refine t_get (v := .int (nI (cfo w h))) (C := RX0) (T := TX0) (N := 8) hx hb hts (by decide +kernel) hown hK hP hM_x1 rfl 4 (by decide) (hts (.fieldLink RX6 41 "ShadowBench$Board" "fours" "I") (by decide +kernel)) (fun _ h9 => h9) rfl dX6_meetNeighbours_6 ?_
      have m_fo_x1 := cb_fo hb_x1
      have i_fo_x1 : (nI (cfo w h)).toInt = _ := nI_toInt (by omega)
      refine lv_icmp_ge (tgt := 45) hx hb dX6_meetNeighbours_9 (by decide) (fun c9 => ?_) (fun c9 => ?_)
      · skip
        have d9 := c9
        rw [fa_le] at d9
        refine lv_iconst (v := 1) hx hb dX6_meetNeighbours_45 (by decide) ?_
        exact W.zret (v := (1 : Int32)) hx hb hr (by decide) (fun t ht hW => ⟨⟨_, (Gl3, wl3), rfl, ⟨hX, Or.inr rfl⟩, by show va_P D vwCl wl3 t.heap; rw [ht]; exact hP, hD, hT⟩, hS.F ht⟩) hS.2.2 dX6_meetNeighbours_46
      · skip
        have d9 := c9
        rw [fa_le] at d9
        refine lv_aload_n hx hb dX6_meetNeighbours_12 rfl (lv_at hl 2 rfl) ?_
        refine lv_iload hx hb dX6_meetNeighbours_13 (lv_at hl 0 rfl) ?_
        refine lv_lload_n hx hb dX6_meetNeighbours_15 rfl (lv_at hl 3 rfl) ?_
        refine t_calll (va_runV (g := F0 m 16 ls ([.long p0, .int (nI i), .ref x1])) (As := [.int (nI i), .long p0]) (rest := []) ⟨hx, hb, hml, hown, hts⟩ (c_X0_behindFour l D cy A Gl3 wl3 x1 (nI i) p0 hD hT hG_x1 ) (cwV 2 hts gX6_meetNeighbours_X0_behindFour rfl rfl rfl (by decide +kernel) ⟨Nat.le_of_ble_eq_true rfl, Nat.le_of_ble_eq_true rfl⟩) (c_preV hM_x1 rfl hP hK hA hS hV) rfl rfl hl.1 rfl (lv_room (Nat.le_of_ble_eq_true rfl)) dX6_meetNeighbours_16 ⟨Nat.le_of_ble_eq_true rfl, Nat.le_of_ble_eq_true rfl⟩) hS (fun r16 u H locs q16 hP9 hD9 hT9 hS => ?_)
        obtain ⟨rfl, q16⟩ := q16
        have hP : va_P D vwCl wl3 H := hP9
        refine lv_lstore (lv' := [(5, .long r16), (4, .int (nI i)), (0, .ref o), (1, .ref x1), (2, .long p0)]) hx hb dX6_meetNeighbours_19 hl (by decide) rfl (fun ls hl => ?_)
        refine lv_lload hx hb dX6_meetNeighbours_21 (lv_at hl 0 rfl) ?_
        refine lv_lload_n hx hb dX6_meetNeighbours_23 rfl (lv_at hl 4 rfl) ?_
        refine W.lcmp hx hb dX6_meetNeighbours_24 ?_
        refine lv_if_eq (tgt := 39) hx hb dX6_meetNeighbours_25 (by decide) (fun c25 => ?_) (fun c25 => ?_)
        · skip
          have d25 := c25
          rw [lg_cmp_eq, fa_eq64] at d25
          refine lv_iinc (v := (nI (i + 1))) (lv' := [(4, .int (nI (i + 1))), (5, .long r16), (0, .ref o), (1, .ref x1), (2, .long p0)]) hx hb dX6_meetNeighbours_39 hl (k := 1) rfl (nI_1 _) (by decide) rfl (fun ls hl => ?_)
          refine lv_goto (tgt := 3) hx hb dX6_meetNeighbours_42 (by decide) ?_
          exact ih_3 (i + 1) (by omega) (by omega) Gl3 wl3 hEl3 hX hD hT _ _ hP hS  ls (lv_sub hl [0, 2, 3, 4] rfl)
        · skip
          have d25 := c25
          rw [lg_cmp_eq, fa_eq64] at d25
          refine lv_aload_n hx hb dX6_meetNeighbours_28 rfl (lv_at hl 2 rfl) ?_
          refine lv_lload hx hb dX6_meetNeighbours_29 (lv_at hl 0 rfl) ?_
          obtain ⟨_, hM_o, a_o, b_o, z_o, rfl, hz_o, hG_a_o, hG_b_o⟩ := hT _ _ hG_o
          refine t_calli (va_runV (g := F0 m 31 ls ([.long r16, .ref o])) (As := [.long r16]) (rest := []) ⟨hx, hb, hml, hown, hts⟩ (c_X6_meet l D cy A Gl3 wl3 o r16 hD hT hG_o ) (cwV 1 hts gX6_meetNeighbours_X6_meet rfl rfl rfl (by decide +kernel) ⟨Nat.le_of_ble_eq_true rfl, Nat.le_of_ble_eq_true rfl⟩) (c_preV hM_o rfl hP hK hA hS hV) rfl rfl hl.1 rfl (lv_room (Nat.le_of_ble_eq_true rfl)) dX6_meetNeighbours_31 ⟨Nat.le_of_ble_eq_true rfl, Nat.le_of_ble_eq_true rfl⟩) hS (fun r31 u H locs q31 hP9 hD9 hT9 hS => ?_)
          obtain ⟨G31, w31⟩ := u
          obtain ⟨hX9, q31⟩ := q31
          have hX9 : cX none (chs [0, 1, 6]) Gl3 wl3 G31 w31 := hX9
          have hP : va_P D vwCl w31 H := hP9
          have hD : va_D A w31 := hD9
          have hT : cT cy G31 w31 := hT9
          have hM_x1 := hX9.2.1 _ _ (cP.no hG_x1 rfl) hM_x1
          have hG_o := hX9.1 _ _ hG_o
          have hG_x1 := hX9.1 _ _ hG_x1
          have hG_l_x1 := hX9.1 _ _ hG_l_x1
          have hG_f_x1 := hX9.1 _ _ hG_f_x1
          have hG_r_x1 := hX9.1 _ _ hG_r_x1
          have hG_a_o := hX9.1 _ _ hG_a_o
          have hG_b_o := hX9.1 _ _ hG_b_o
          have hEl3 := hEl3.tr hX9.1
          have hX := hX.tr hX9
          refine lv_if_ne (tgt := 39) hx hb dX6_meetNeighbours_34 (by decide) (fun c34 => ?_) (fun c34 => ?_)
          · skip
            have d34 := c34
            rw [fa_eq] at d34
            refine lv_iinc (v := (nI (i + 1))) (lv' := [(4, .int (nI (i + 1))), (5, .long r16), (0, .ref o), (1, .ref x1), (2, .long p0)]) hx hb dX6_meetNeighbours_39 hl (k := 1) rfl (nI_1 _) (by decide) rfl (fun ls hl => ?_)
            refine lv_goto (tgt := 3) hx hb dX6_meetNeighbours_42 (by decide) ?_
            exact ih_3 (i + 1) (by omega) (by omega) G31 w31 hEl3 hX hD hT _ _ hP hS  ls (lv_sub hl [0, 2, 3, 4] rfl)
          · skip
            have d34 := c34
            rw [fa_eq] at d34
            refine lv_iconst (v := 0) hx hb dX6_meetNeighbours_37 (by decide) ?_
            exact W.zret (v := (0 : Int32)) hx hb hr (by decide) (fun t ht hW => ⟨⟨_, (G31, w31), rfl, ⟨hX, Or.inl rfl⟩, by show va_P D vwCl w31 t.heap; rw [ht]; exact hP, hD, hT⟩, hS.F ht⟩) hS.2.2 dX6_meetNeighbours_38
  exact loop_3 (225 + 1) 0 (by omega) (by omega) G ws cE.rf hX hD hT _ _ hP hS  ls (lv_sub hl [0, 1, 2, 3] rfl)
set_option maxHeartbeats 4000000 in
set_option maxRecDepth 100000 in
theorem c_J7_fill_53178 (l : Launch) (D : va_G) (cy : Nat → ClassId) (A : Nat → Prop) (G : cG) (ws : va_W) (a : Nat) (v : Int32) {n0 z0 : Nat} (hD : va_D A ws) (hT : cT cy G ws) (hG_a : G a = some (0, n0, z0)) (hn0 : n0 ≤ 100000) : Cv l D cy A yJ7_fill_53178 wsJ7_fill_53178 ({ frames := 0, cells := 0, slots := 0, locals := 0 }) 0 0 ws [.ref a, .int v] (fun u => cX none (chs [0]) G ws u.1 u.2 ∧ (True)) := by
  refine Met.ofW (cc := cJ7_fill_53178) (maxL := 4) (ret := none) (by decide) rfl ?_
  intro p e s m args below meth c s₁ B hml hv
  obtain ⟨rfl, hP, hK, hA, hV⟩ := hv
  have hx := B.exec
  have hb := B.bytes
  have hr := B.returns
  have hts := atoms_spec (ws := wsJ7_fill_53178) B.pre
  have hown : s.vm.findClass RJ7 = some m.cls := findClass_of_methodNamed B.named
  have hlocks := B.notSynchronized
  have hS : va_S A s.heap s.heap [] := va_S.rf
  have hX : cX none (chs [0]) G ws G ws := cX.rf
  have hl := lv_entry ([.ref a, .int v]) (n := 4) (Nat.le_of_ble_eq_true rfl)
  rw [lg_entry_eq]
  generalize (lg_sl ([.ref a, .int v]) ++ List.replicate (4 - (lg_sl ([.ref a, .int v])).length) Slot.unset).toArray = ls at hl ⊢
  have hl : lv_has ls 4 [(0, .ref a), (1, .int v)] := hl
  have k_0 : (0 : Int32).toInt = 0 := by decide
  refine lv_iconst (v := 0) hx hb dJ7_fill_53178_0 (by decide) ?_
  refine lv_istore_n (lv' := [(2, .int (0 : Int32)), (0, .ref a), (1, .int v)]) hx hb dJ7_fill_53178_1 rfl hl (by decide) rfl (fun ls hl => ?_)
  refine lv_aload_n hx hb dJ7_fill_53178_2 rfl (lv_at hl 1 rfl) ?_
  refine t_alenI hx hb hK hP hT (Or.inl rfl) hG_a dJ7_fill_53178_3 ?_
  have i3 : (nI n0).toInt = _ := nI_toInt (by omega)
  refine lv_istore_n (lv' := [(3, .int (nI n0)), (2, .int (0 : Int32)), (0, .ref a), (1, .int v)]) hx hb dJ7_fill_53178_4 rfl hl (by decide) rfl (fun ls hl => ?_)
  have loop_5 : ∀ (n : Nat) (i : Nat), (i ≤ n0) → n0 - i < n → ∀ (Gl5 : cG) (wl5 : va_W), cE G Gl5 → cX none (chs [0]) G ws Gl5 wl5 → va_D A wl5 → cT cy Gl5 wl5 → ∀ (H : Heap) (locs : List Loc), va_P D vwCl wl5 H → va_S A s.heap H locs → ∀ (ls : Array Slot), lv_has ls 4 [(3, .int (nI n0)), (2, .int (nI i)), (0, .ref a), (1, .int v)] → W p l e (headSpec wsJ7_fill_53178 ({ frames := 0, cells := 0, slots := 0, locals := 0 })).room s m #[Value.ref a, Value.int v] below meth c H locs 0 0 (MQ below (va_Qv (fun u => cX none (chs [0]) G ws u.1 u.2 ∧ (True)) (cB D cy A) A) #[Value.ref a, Value.int v] s 0 0 A) (F0 m 5 ls []) := by
    intro n
    induction n with
    | zero => intro i j5_0 hn; exact absurd hn (Nat.not_lt_zero _)
    | succ n ih_5 =>
      intro i j5_0 hn_5 Gl5 wl5 hEl5 hX hD hT H locs hP hS  ls hl
      have hG_a := hEl5 _ _ hG_a
      have ik_i : (nI i).toInt = (i : Int) := nI_toInt (by omega)
      refine lv_iload_n hx hb dJ7_fill_53178_5 rfl (lv_at hl 1 rfl) ?_
      refine lv_iload_n hx hb dJ7_fill_53178_6 rfl (lv_at hl 0 rfl) ?_
      refine lv_icmp_ge (tgt := 20) hx hb dJ7_fill_53178_7 (by decide) (fun c7 => ?_) (fun c7 => ?_)
      · skip
        have d7 := c7
        rw [fa_le] at d7
        exact W.vret hx hb hr (fun t ht hW => ⟨⟨(Gl5, wl5), rfl, ⟨hX, trivial⟩, by show va_P D vwCl wl5 t.heap; rw [ht]; exact hP, hD, hT⟩, hS.F ht⟩) hS.2.2 dJ7_fill_53178_20
      · skip
        have d7 := c7
        rw [fa_le] at d7
        refine lv_aload_n hx hb dJ7_fill_53178_10 rfl (lv_at hl 2 rfl) ?_
        refine lv_iload_n hx hb dJ7_fill_53178_11 rfl (lv_at hl 1 rfl) ?_
        refine lv_iload_n hx hb dJ7_fill_53178_12 rfl (lv_at hl 3 rfl) ?_
        refine t_iast hx hb hK hP hD hS hT (Or.inl rfl) hG_a (vp_in_iff.mpr ⟨by omega, by omega⟩) dJ7_fill_53178_13 (fun H locs w13 hU13 hP hD hT hS => ?_)
        have hX := hX.tr (cX.uF hU13 (Or.inr ⟨_, hG_a, rfl⟩))
        refine lv_iinc (v := (nI (i + 1))) (lv' := [(2, .int (nI (i + 1))), (3, .int (nI n0)), (0, .ref a), (1, .int v)]) hx hb dJ7_fill_53178_14 hl (k := 1) rfl (nI_1 _) (by decide) rfl (fun ls hl => ?_)
        refine lv_goto (tgt := 5) hx hb dJ7_fill_53178_17 (by decide) ?_
        exact ih_5 (i + 1) (by omega) (by omega) Gl5 w13 hEl5 hX hD hT _ _ hP hS  ls (lv_sub hl [1, 0, 2, 3] rfl)
  exact loop_5 (n0 + 1) 0 (by omega) (by omega) G ws cE.rf hX hD hT _ _ hP hS  ls (lv_sub hl [0, 1, 2, 3] rfl)
set_option maxHeartbeats 4000000 in
set_option maxRecDepth 100000 in
theorem c_X6_fewestSwitches (l : Launch) (D : va_G) (cy : Nat → ClassId) (A : Nat → Prop) (G : cG) (ws : va_W) (o : Nat) (x1 : Nat) (p0 : Int64) (p1 : Int64) {w h : Nat} (hD : va_D A ws) (hT : cT cy G ws) (hG_o : G o = some (6, 0, 0)) (hG_x1 : G x1 = some (2, w, h))  : Ci l D cy A yX6_fewestSwitches wsX6_fewestSwitches ({ frames := 4, cells := 0, slots := 0, locals := 97 }) 0 0 ws [.ref o, .ref x1, .long p0, .long p1] (fun r0 u => cX none (chs [0, 1, 6]) G ws u.1 u.2 ∧ (True)) := by
  refine Met.ofW (cc := cX6_fewestSwitches) (maxL := 10) (ret := (some .int)) (by decide) rfl ?_
  intro p e s m args below meth c s₁ B hml hv
  obtain ⟨rfl, hP, hK, hA, hV⟩ := hv
  have hx := B.exec
  have hb := B.bytes
  have hr := B.returns
  have hts := atoms_spec (ws := wsX6_fewestSwitches) B.pre
  have hown : s.vm.findClass RX6 = some m.cls := findClass_of_methodNamed B.named
  have hlocks := B.notSynchronized
  have hS : va_S A s.heap s.heap [] := va_S.rf
  have hX : cX none (chs [0, 1, 6]) G ws G ws := cX.rf
  have hl := lv_entry ([.ref o, .ref x1, .long p0, .long p1]) (n := 10) (Nat.le_of_ble_eq_true rfl)
  rw [lg_entry_eq]
  generalize (lg_sl ([.ref o, .ref x1, .long p0, .long p1]) ++ List.replicate (10 - (lg_sl ([.ref o, .ref x1, .long p0, .long p1])).length) Slot.unset).toArray = ls at hl ⊢
  have hl : lv_has ls 10 [(0, .ref o), (1, .ref x1), (2, .long p0), (4, .long p1)] := hl
  have k_m5 : (-5 : Int32).toInt = -5 := by decide
  have k_0 : (0 : Int32).toInt = 0 := by decide
  have k_1 : (1 : Int32).toInt = 1 := by decide
  have k_20000 : (20000 : Int32).toInt = 20000 := by decide
  refine lv_aload_n hx hb dX6_fewestSwitches_0 rfl (lv_at hl 0 rfl) ?_
  obtain ⟨_, hM_o, a_o, b_o, z_o, rfl, hz_o, hG_a_o, hG_b_o⟩ := hT _ _ hG_o
  refine t_get (v := .ref b_o) (C := RX6) (T := TX6) (N := 3) hx hb hts (by decide +kernel) hown hK hP hM_o rfl 2 (by decide) (hts (.fieldLink RX6 20 "ShadowBench$Meetings" "slots" "[I") (by decide +kernel)) (fun _ h9 => h9) rfl dX6_fewestSwitches_1 ?_
  refine lv_iconst (v := 0) hx hb dX6_fewestSwitches_4 (by decide) ?_
  refine t_callv (va_runS (g := F0 m 5 ls ([.int (0 : Int32), .ref b_o])) (As := [.ref b_o, .int (0 : Int32)]) (rest := []) ⟨hx, hb, hml, hown, hts⟩ (c_J7_fill_53178 l D cy A G ws b_o (0 : Int32) hD hT hG_b_o (by omega)) (va_cwS 2 hts gX6_fewestSwitches_J7_fill_53178 rfl rfl rfl (by decide +kernel) ⟨Nat.le_of_ble_eq_true rfl, Nat.le_of_ble_eq_true rfl⟩) (c_preS hP hK hA hS hV) rfl rfl hl.1 rfl (lv_room (Nat.le_of_ble_eq_true rfl)) dX6_fewestSwitches_5 ⟨Nat.le_of_ble_eq_true rfl, Nat.le_of_ble_eq_true rfl⟩) hS (fun u H locs q5 hP9 hD9 hT9 hS => ?_)
  obtain ⟨G5, w5⟩ := u
  obtain ⟨hX9, q5⟩ := q5
  have hX9 : cX none (chs [0]) G ws G5 w5 := hX9
  have hP : va_P D vwCl w5 H := hP9
  have hD : va_D A w5 := hD9
  have hT : cT cy G5 w5 := hT9
  have hM_o := hX9.2.1 _ _ (cP.no hG_o rfl) hM_o
  have hG_o := hX9.1 _ _ hG_o
  have hG_x1 := hX9.1 _ _ hG_x1
  have hG_a_o := hX9.1 _ _ hG_a_o
  have hG_b_o := hX9.1 _ _ hG_b_o
  have hX := hX.tr (hX9.wk (chs_sub (by decide)))
  refine lv_aload_n hx hb dX6_fewestSwitches_8 rfl (lv_at hl 0 rfl) ?_
  refine lv_iconst (v := 0) hx hb dX6_fewestSwitches_9 (by decide) ?_
  refine t_put (v := .int (0 : Int32)) (C := RX6) (T := TX6) (N := 3) (ty0 := tyX6) hx hb hts (by decide +kernel) tyX6_ok nmX6 hown hK hP hD hS hM_o rfl 1 (by decide) (hts (.fieldLink RX6 15 "ShadowBench$Meetings" "size" "I") (by decide +kernel)) (fun _ h9 => h9) rfl rfl rfl (Nat.le_of_ble_eq_true rfl) dX6_fewestSwitches_10 (fun H locs w10 hU10 hP hD hS => ?_)
  have hT := hT.up hU10 hG_o ⟨_, _, _, rfl, ⟨by omega, by omega⟩, hG_a_o, hG_b_o⟩
  have hM_o : cIn w10 o (.inr (5, [.ref a_o, .int (0 : Int32), .ref b_o])) := hU10.1
  have hX := hX.tr (cX.up hU10 (Or.inr ⟨_, hG_o, rfl⟩))
  refine lv_aload_n hx hb dX6_fewestSwitches_13 rfl (lv_at hl 0 rfl) ?_
  refine lv_lload_n hx hb dX6_fewestSwitches_14 rfl (lv_at hl 2 rfl) ?_
  refine t_calli (va_runV (g := F0 m 15 ls ([.long p0, .ref o])) (As := [.long p0]) (rest := []) ⟨hx, hb, hml, hown, hts⟩ (c_X6_meet l D cy A G5 w10 o p0 hD hT hG_o ) (cwV 1 hts gX6_fewestSwitches_X6_meet rfl rfl rfl (by decide +kernel) ⟨Nat.le_of_ble_eq_true rfl, Nat.le_of_ble_eq_true rfl⟩) (c_preV hM_o rfl hP hK hA hS hV) rfl rfl hl.1 rfl (lv_room (Nat.le_of_ble_eq_true rfl)) dX6_fewestSwitches_15 ⟨Nat.le_of_ble_eq_true rfl, Nat.le_of_ble_eq_true rfl⟩) hS (fun r15 u H locs q15 hP9 hD9 hT9 hS => ?_)
  obtain ⟨G15, w15⟩ := u
  obtain ⟨hX9, q15⟩ := q15
  have hX9 : cX none (chs [0, 1, 6]) G5 w10 G15 w15 := hX9
  have hP : va_P D vwCl w15 H := hP9
  have hD : va_D A w15 := hD9
  have hT : cT cy G15 w15 := hT9
  have hG_o := hX9.1 _ _ hG_o
  have hG_x1 := hX9.1 _ _ hG_x1
  have hG_a_o := hX9.1 _ _ hG_a_o
  have hG_b_o := hX9.1 _ _ hG_b_o
  have hX := hX.tr hX9
  refine lv_pop hx hb dX6_fewestSwitches_18 rfl ?_
  refine lv_iconst (v := 0) hx hb dX6_fewestSwitches_19 (by decide) ?_
  refine lv_istore (lv' := [(6, .int (0 : Int32)), (0, .ref o), (1, .ref x1), (2, .long p0), (4, .long p1)]) hx hb dX6_fewestSwitches_20 hl (by decide) rfl (fun ls hl => ?_)
  refine lv_iconst (v := 1) hx hb dX6_fewestSwitches_22 (by decide) ?_
  refine lv_istore (lv' := [(7, .int (1 : Int32)), (6, .int (0 : Int32)), (0, .ref o), (1, .ref x1), (2, .long p0), (4, .long p1)]) hx hb dX6_fewestSwitches_23 hl (by decide) rfl (fun ls hl => ?_)
  refine lv_iconst (v := 0) hx hb dX6_fewestSwitches_25 (by decide) ?_
  refine lv_istore (lv' := [(8, .int (0 : Int32)), (7, .int (1 : Int32)), (6, .int (0 : Int32)), (0, .ref o), (1, .ref x1), (2, .long p0), (4, .long p1)]) hx hb dX6_fewestSwitches_26 hl (by decide) rfl (fun ls hl => ?_)
  have loop_28 : ∀ (n : Nat) (i : Nat) (x7 : Int32) (x6 : Int32), (i ≤ 20000) → 20000 - i < n → ∀ (Gl28 : cG) (wl28 : va_W), cE G15 Gl28 → cX none (chs [0, 1, 6]) G ws Gl28 wl28 → va_D A wl28 → cT cy Gl28 wl28 → ∀ (H : Heap) (locs : List Loc), va_P D vwCl wl28 H → va_S A s.heap H locs → ∀ (ls : Array Slot), lv_has ls 10 [(8, .int (nI i)), (7, .int x7), (6, .int x6), (0, .ref o), (1, .ref x1), (2, .long p0), (4, .long p1)] → W p l e (headSpec wsX6_fewestSwitches ({ frames := 4, cells := 0, slots := 0, locals := 97 })).room s m #[Value.ref o, Value.ref x1, Value.long p0, Value.long p1] below meth c H locs 0 0 (MQ below (va_Qi (fun r0 u => cX none (chs [0, 1, 6]) G ws u.1 u.2 ∧ (True)) (cB D cy A) A) #[Value.ref o, Value.ref x1, Value.long p0, Value.long p1] s 0 0 A) (F0 m 28 ls []) := by
    intro n
    induction n with
    | zero => intro i x7 x6 j28_0 hn; exact absurd hn (Nat.not_lt_zero _)
    | succ n ih_28 =>
      intro i x7 x6 j28_0 hn_28 Gl28 wl28 hEl28 hX hD hT H locs hP hS  ls hl
      have hG_o := hEl28 _ _ hG_o
      have hG_x1 := hEl28 _ _ hG_x1
      have hG_a_o := hEl28 _ _ hG_a_o
      have hG_b_o := hEl28 _ _ hG_b_o
      have ik_i : (nI i).toInt = (i : Int) := nI_toInt (by omega)
      refine lv_iload hx hb dX6_fewestSwitches_28 (lv_at hl 0 rfl) ?_
      refine lv_sipush (v := 20000) hx hb dX6_fewestSwitches_30 (by decide) ?_
      refine lv_icmp_ge (tgt := 103) hx hb dX6_fewestSwitches_33 (by decide) (fun c33 => ?_) (fun c33 => ?_)
      · skip
        have d33 := c33
        rw [fa_le] at d33
        refine lv_bipush (v := (-5)) hx hb dX6_fewestSwitches_103 (by decide) ?_
        exact W.iret (v := ((-5) : Int32)) hx hb hr (fun t ht hW => ⟨⟨_, (Gl28, wl28), rfl, ⟨hX, trivial⟩, by show va_P D vwCl wl28 t.heap; rw [ht]; exact hP, hD, hT⟩, hS.F ht⟩) hS.2.2 dX6_fewestSwitches_105
      · skip
        have d33 := c33
        rw [fa_le] at d33
        refine lv_iload hx hb dX6_fewestSwitches_36 (lv_at hl 0 rfl) ?_
        refine lv_aload_n hx hb dX6_fewestSwitches_38 rfl (lv_at hl 3 rfl) ?_
        obtain ⟨_, hM_o, av1_o, bv1_o, zv1_o, rfl, hz_o, hG_av1_o, hG_bv1_o⟩ := hT _ _ hG_o
        refine t_get (v := .int zv1_o) (C := RX6) (T := TX6) (N := 3) hx hb hts (by decide +kernel) hown hK hP hM_o rfl 1 (by decide) (hts (.fieldLink RX6 15 "ShadowBench$Meetings" "size" "I") (by decide +kernel)) (fun _ h9 => h9) rfl dX6_fewestSwitches_39 ?_
        refine lv_icmp_ge (tgt := 103) hx hb dX6_fewestSwitches_42 (by decide) (fun c42 => ?_) (fun c42 => ?_)
        · skip
          have d42 := c42
          rw [fa_le] at d42
          refine lv_bipush (v := (-5)) hx hb dX6_fewestSwitches_103 (by decide) ?_
          exact W.iret (v := ((-5) : Int32)) hx hb hr (fun t ht hW => ⟨⟨_, (Gl28, wl28), rfl, ⟨hX, trivial⟩, by show va_P D vwCl wl28 t.heap; rw [ht]; exact hP, hD, hT⟩, hS.F ht⟩) hS.2.2 dX6_fewestSwitches_105
        · skip
          have d42 := c42
          rw [fa_le] at d42
          refine lv_iload hx hb dX6_fewestSwitches_45 (lv_at hl 0 rfl) ?_
          refine lv_iload hx hb dX6_fewestSwitches_47 (lv_at hl 1 rfl) ?_
          refine lv_icmp_ne (tgt := 61) hx hb dX6_fewestSwitches_49 (by decide) (fun c49 => ?_) (fun c49 => ?_)
          · skip
            have d49 := c49
            rw [fa_eq] at d49
            refine lv_aload_n hx hb dX6_fewestSwitches_61 rfl (lv_at hl 3 rfl) ?_
            refine lv_aload_n hx hb dX6_fewestSwitches_62 rfl (lv_at hl 4 rfl) ?_
            refine lv_aload_n hx hb dX6_fewestSwitches_63 rfl (lv_at hl 3 rfl) ?_
            refine t_get (v := .ref av1_o) (C := RX6) (T := TX6) (N := 3) hx hb hts (by decide +kernel) hown hK hP hM_o rfl 0 (by decide) (hts (.fieldLink RX6 11 "ShadowBench$Meetings" "met" "[J") (by decide +kernel)) (fun _ h9 => h9) rfl dX6_fewestSwitches_64 ?_
            refine lv_iload hx hb dX6_fewestSwitches_67 (lv_at hl 0 rfl) ?_
            refine t_lald hx hb hK hP hT (Or.inl rfl) hG_av1_o (vp_in_iff.mpr ⟨by omega, by omega⟩) dX6_fewestSwitches_69 (fun v69 => ?_)
            refine t_calli (va_runV (g := F0 m 70 ls ([.long v69, .ref x1, .ref o])) (As := [.ref x1, .long v69]) (rest := []) ⟨hx, hb, hml, hown, hts⟩ (c_X6_meetNeighbours l D cy A Gl28 wl28 o x1 v69 hD hT hG_o hG_x1 ) (cwV 2 hts gX6_fewestSwitches_X6_meetNeighbours rfl rfl rfl (by decide +kernel) ⟨Nat.le_of_ble_eq_true rfl, Nat.le_of_ble_eq_true rfl⟩) (c_preV hM_o rfl hP hK hA hS hV) rfl rfl hl.1 rfl (lv_room (Nat.le_of_ble_eq_true rfl)) dX6_fewestSwitches_70 ⟨Nat.le_of_ble_eq_true rfl, Nat.le_of_ble_eq_true rfl⟩) hS (fun r70 u H locs q70 hP9 hD9 hT9 hS => ?_)
            obtain ⟨G70, w70⟩ := u
            obtain ⟨hX9, q70⟩ := q70
            have hX9 : cX none (chs [0, 1, 6]) Gl28 wl28 G70 w70 := hX9
            have hP : va_P D vwCl w70 H := hP9
            have hD : va_D A w70 := hD9
            have hT : cT cy G70 w70 := hT9
            have hG_o := hX9.1 _ _ hG_o
            have hG_x1 := hX9.1 _ _ hG_x1
            have hG_a_o := hX9.1 _ _ hG_a_o
            have hG_b_o := hX9.1 _ _ hG_b_o
            have hG_av1_o := hX9.1 _ _ hG_av1_o
            have hG_bv1_o := hX9.1 _ _ hG_bv1_o
            have hEl28 := hEl28.tr hX9.1
            have hX := hX.tr hX9
            refine lv_istore (lv' := [(9, .int r70), (8, .int (nI i)), (7, .int x7), (6, .int x6), (0, .ref o), (1, .ref x1), (2, .long p0), (4, .long p1)]) hx hb dX6_fewestSwitches_73 hl (by decide) rfl (fun ls hl => ?_)
            refine lv_aload_n hx hb dX6_fewestSwitches_75 rfl (lv_at hl 4 rfl) ?_
            refine lv_lload hx hb dX6_fewestSwitches_76 (lv_at hl 7 rfl) ?_
            obtain ⟨_, hM_o, av2_o, bv2_o, zv2_o, rfl, hz_o, hG_av2_o, hG_bv2_o⟩ := hT _ _ hG_o
            refine t_calli (va_runV (g := F0 m 78 ls ([.long p1, .ref o])) (As := [.long p1]) (rest := []) ⟨hx, hb, hml, hown, hts⟩ (c_X6_knows l D cy A G70 w70 o p1 hD hT hG_o ) (cwV 1 hts gX6_fewestSwitches_X6_knows rfl rfl rfl (by decide +kernel) ⟨Nat.le_of_ble_eq_true rfl, Nat.le_of_ble_eq_true rfl⟩) (c_preV hM_o rfl hP hK hA hS hV) rfl rfl hl.1 rfl (lv_room (Nat.le_of_ble_eq_true rfl)) dX6_fewestSwitches_78 ⟨Nat.le_of_ble_eq_true rfl, Nat.le_of_ble_eq_true rfl⟩) hS (fun r78 u H locs q78 hP9 hD9 hT9 hS => ?_)
            obtain ⟨rfl, q78⟩ := q78
            have hP : va_P D vwCl w70 H := hP9
            refine lv_if_eq (tgt := 89) hx hb dX6_fewestSwitches_81 (by decide) (fun c81 => ?_) (fun c81 => ?_)
            · skip
              have d81 := c81
              rw [fa_eq] at d81
              refine lv_iload hx hb dX6_fewestSwitches_89 (lv_at hl 0 rfl) ?_
              refine lv_if_ne (tgt := 97) hx hb dX6_fewestSwitches_91 (by decide) (fun c91 => ?_) (fun c91 => ?_)
              · skip
                have d91 := c91
                rw [fa_eq] at d91
                refine lv_iinc (v := (nI (i + 1))) (lv' := [(8, .int (nI (i + 1))), (9, .int r70), (7, .int x7), (6, .int x6), (0, .ref o), (1, .ref x1), (2, .long p0), (4, .long p1)]) hx hb dX6_fewestSwitches_97 hl (k := 1) rfl (nI_1 _) (by decide) rfl (fun ls hl => ?_)
                refine lv_goto (tgt := 28) hx hb dX6_fewestSwitches_100 (by decide) ?_
                exact ih_28 (i + 1) x7 x6 (by omega) (by omega) G70 w70 hEl28 hX hD hT _ _ hP hS  ls (lv_sub hl [0, 2, 3, 4, 5, 6, 7] rfl)
              · skip
                have d91 := c91
                rw [fa_eq] at d91
                refine lv_bipush (v := (-5)) hx hb dX6_fewestSwitches_94 (by decide) ?_
                exact W.iret (v := ((-5) : Int32)) hx hb hr (fun t ht hW => ⟨⟨_, (G70, w70), rfl, ⟨hX, trivial⟩, by show va_P D vwCl w70 t.heap; rw [ht]; exact hP, hD, hT⟩, hS.F ht⟩) hS.2.2 dX6_fewestSwitches_96
            · skip
              have d81 := c81
              rw [fa_eq] at d81
              refine lv_iload hx hb dX6_fewestSwitches_84 (lv_at hl 3 rfl) ?_
              refine lv_iconst (v := 1) hx hb dX6_fewestSwitches_86 (by decide) ?_
              refine lv_iadd hx hb dX6_fewestSwitches_87 ?_
              refine lv_topi (fun v87 e87 => ?_)
              exact W.iret (v := v87) hx hb hr (fun t ht hW => ⟨⟨_, (G70, w70), rfl, ⟨hX, trivial⟩, by show va_P D vwCl w70 t.heap; rw [ht]; exact hP, hD, hT⟩, hS.F ht⟩) hS.2.2 dX6_fewestSwitches_88
          · skip
            have d49 := c49
            rw [fa_eq] at d49
            obtain ⟨v52, e52⟩ : ∃ y : Int32, y = x6 + 1 := ⟨_, rfl⟩
            refine lv_iinc (v := v52) (lv' := [(6, .int v52), (8, .int (nI i)), (7, .int x7), (0, .ref o), (1, .ref x1), (2, .long p0), (4, .long p1)]) hx hb dX6_fewestSwitches_52 hl (k := 2) rfl (by rw [e52]; rfl) (by decide) rfl (fun ls hl => ?_)
            refine lv_aload_n hx hb dX6_fewestSwitches_55 rfl (lv_at hl 3 rfl) ?_
            refine t_get (v := .int zv1_o) (C := RX6) (T := TX6) (N := 3) hx hb hts (by decide +kernel) hown hK hP hM_o rfl 1 (by decide) (hts (.fieldLink RX6 15 "ShadowBench$Meetings" "size" "I") (by decide +kernel)) (fun _ h9 => h9) rfl dX6_fewestSwitches_56 ?_
            refine lv_istore (lv' := [(7, .int zv1_o), (6, .int v52), (8, .int (nI i)), (0, .ref o), (1, .ref x1), (2, .long p0), (4, .long p1)]) hx hb dX6_fewestSwitches_59 hl (by decide) rfl (fun ls hl => ?_)
            refine lv_aload_n hx hb dX6_fewestSwitches_61 rfl (lv_at hl 3 rfl) ?_
            refine lv_aload_n hx hb dX6_fewestSwitches_62 rfl (lv_at hl 4 rfl) ?_
            refine lv_aload_n hx hb dX6_fewestSwitches_63 rfl (lv_at hl 3 rfl) ?_
            refine t_get (v := .ref av1_o) (C := RX6) (T := TX6) (N := 3) hx hb hts (by decide +kernel) hown hK hP hM_o rfl 0 (by decide) (hts (.fieldLink RX6 11 "ShadowBench$Meetings" "met" "[J") (by decide +kernel)) (fun _ h9 => h9) rfl dX6_fewestSwitches_64 ?_
            refine lv_iload hx hb dX6_fewestSwitches_67 (lv_at hl 2 rfl) ?_
            refine t_lald hx hb hK hP hT (Or.inl rfl) hG_av1_o (vp_in_iff.mpr ⟨by omega, by omega⟩) dX6_fewestSwitches_69 (fun v69 => ?_)
            refine t_calli (va_runV (g := F0 m 70 ls ([.long v69, .ref x1, .ref o])) (As := [.ref x1, .long v69]) (rest := []) ⟨hx, hb, hml, hown, hts⟩ (c_X6_meetNeighbours l D cy A Gl28 wl28 o x1 v69 hD hT hG_o hG_x1 ) (cwV 2 hts gX6_fewestSwitches_X6_meetNeighbours rfl rfl rfl (by decide +kernel) ⟨Nat.le_of_ble_eq_true rfl, Nat.le_of_ble_eq_true rfl⟩) (c_preV hM_o rfl hP hK hA hS hV) rfl rfl hl.1 rfl (lv_room (Nat.le_of_ble_eq_true rfl)) dX6_fewestSwitches_70 ⟨Nat.le_of_ble_eq_true rfl, Nat.le_of_ble_eq_true rfl⟩) hS (fun r70 u H locs q70 hP9 hD9 hT9 hS => ?_)
            obtain ⟨G70, w70⟩ := u
            obtain ⟨hX9, q70⟩ := q70
            have hX9 : cX none (chs [0, 1, 6]) Gl28 wl28 G70 w70 := hX9
            have hP : va_P D vwCl w70 H := hP9
            have hD : va_D A w70 := hD9
            have hT : cT cy G70 w70 := hT9
            have hG_o := hX9.1 _ _ hG_o
            have hG_x1 := hX9.1 _ _ hG_x1
            have hG_a_o := hX9.1 _ _ hG_a_o
            have hG_b_o := hX9.1 _ _ hG_b_o
            have hG_av1_o := hX9.1 _ _ hG_av1_o
            have hG_bv1_o := hX9.1 _ _ hG_bv1_o
            have hEl28 := hEl28.tr hX9.1
            have hX := hX.tr hX9
            refine lv_istore (lv' := [(9, .int r70), (7, .int zv1_o), (6, .int v52), (8, .int (nI i)), (0, .ref o), (1, .ref x1), (2, .long p0), (4, .long p1)]) hx hb dX6_fewestSwitches_73 hl (by decide) rfl (fun ls hl => ?_)
            refine lv_aload_n hx hb dX6_fewestSwitches_75 rfl (lv_at hl 4 rfl) ?_
            refine lv_lload hx hb dX6_fewestSwitches_76 (lv_at hl 7 rfl) ?_
            obtain ⟨_, hM_o, av2_o, bv2_o, zv2_o, rfl, hz_o, hG_av2_o, hG_bv2_o⟩ := hT _ _ hG_o
            refine t_calli (va_runV (g := F0 m 78 ls ([.long p1, .ref o])) (As := [.long p1]) (rest := []) ⟨hx, hb, hml, hown, hts⟩ (c_X6_knows l D cy A G70 w70 o p1 hD hT hG_o ) (cwV 1 hts gX6_fewestSwitches_X6_knows rfl rfl rfl (by decide +kernel) ⟨Nat.le_of_ble_eq_true rfl, Nat.le_of_ble_eq_true rfl⟩) (c_preV hM_o rfl hP hK hA hS hV) rfl rfl hl.1 rfl (lv_room (Nat.le_of_ble_eq_true rfl)) dX6_fewestSwitches_78 ⟨Nat.le_of_ble_eq_true rfl, Nat.le_of_ble_eq_true rfl⟩) hS (fun r78 u H locs q78 hP9 hD9 hT9 hS => ?_)
            obtain ⟨rfl, q78⟩ := q78
            have hP : va_P D vwCl w70 H := hP9
            refine lv_if_eq (tgt := 89) hx hb dX6_fewestSwitches_81 (by decide) (fun c81 => ?_) (fun c81 => ?_)
            · skip
              have d81 := c81
              rw [fa_eq] at d81
              refine lv_iload hx hb dX6_fewestSwitches_89 (lv_at hl 0 rfl) ?_
              refine lv_if_ne (tgt := 97) hx hb dX6_fewestSwitches_91 (by decide) (fun c91 => ?_) (fun c91 => ?_)
              · skip
                have d91 := c91
                rw [fa_eq] at d91
                refine lv_iinc (v := (nI (i + 1))) (lv' := [(8, .int (nI (i + 1))), (9, .int r70), (7, .int zv1_o), (6, .int v52), (0, .ref o), (1, .ref x1), (2, .long p0), (4, .long p1)]) hx hb dX6_fewestSwitches_97 hl (k := 3) rfl (nI_1 _) (by decide) rfl (fun ls hl => ?_)
                refine lv_goto (tgt := 28) hx hb dX6_fewestSwitches_100 (by decide) ?_
                exact ih_28 (i + 1) zv1_o v52 (by omega) (by omega) G70 w70 hEl28 hX hD hT _ _ hP hS  ls (lv_sub hl [0, 2, 3, 4, 5, 6, 7] rfl)
              · skip
                have d91 := c91
                rw [fa_eq] at d91
                refine lv_bipush (v := (-5)) hx hb dX6_fewestSwitches_94 (by decide) ?_
                exact W.iret (v := ((-5) : Int32)) hx hb hr (fun t ht hW => ⟨⟨_, (G70, w70), rfl, ⟨hX, trivial⟩, by show va_P D vwCl w70 t.heap; rw [ht]; exact hP, hD, hT⟩, hS.F ht⟩) hS.2.2 dX6_fewestSwitches_96
            · skip
              have d81 := c81
              rw [fa_eq] at d81
              refine lv_iload hx hb dX6_fewestSwitches_84 (lv_at hl 2 rfl) ?_
              refine lv_iconst (v := 1) hx hb dX6_fewestSwitches_86 (by decide) ?_
              refine lv_iadd hx hb dX6_fewestSwitches_87 ?_
              refine lv_topi (fun v87 e87 => ?_)
              exact W.iret (v := v87) hx hb hr (fun t ht hW => ⟨⟨_, (G70, w70), rfl, ⟨hX, trivial⟩, by show va_P D vwCl w70 t.heap; rw [ht]; exact hP, hD, hT⟩, hS.F ht⟩) hS.2.2 dX6_fewestSwitches_88
  exact loop_28 (20000 + 1) 0 (1 : Int32) (0 : Int32) (by omega) (by omega) G15 w15 cE.rf hX hD hT _ _ hP hS  ls (lv_sub hl [0, 1, 2, 3, 4, 5, 6] rfl)
