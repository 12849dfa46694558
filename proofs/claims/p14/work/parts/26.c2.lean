
theorem cI_shl {w h : Nat} (hb : 1 ≤ w ∧ w ≤ 6 ∧ 1 ≤ h ∧ h ≤ 6) {v : Int32} (e : v = 1 <<< (nI w &&& 31)) : v = nI (2 ^ w) := by
  have h1 : w = 1 ∨ w = 2 ∨ w = 3 ∨ w = 4 ∨ w = 5 ∨ w = 6 := by omega
  rcases h1 with rfl | rfl | rfl | rfl | rfl | rfl <;> rw [e] <;> decide
theorem cI_pr {n : Nat} (hn : 1 ≤ n ∧ n ≤ 6) {r : Int32} (q : r.toInt = (nI n).toInt * ((nI n).toInt - 1) / 2) : r = nI (n * (n - 1) / 2) := by
  apply Int32.toInt_inj.mp
  rw [q]
  have h1 : n = 1 ∨ n = 2 ∨ n = 3 ∨ n = 4 ∨ n = 5 ∨ n = 6 := by omega
  rcases h1 with rfl | rfl | rfl | rfl | rfl | rfl <;> decide
theorem cI_fo {w h : Nat} (hb : 1 ≤ w ∧ w ≤ 6 ∧ 1 ≤ h ∧ h ≤ 6) {r q v : Int32} (e : v = r * q) (q1 : r.toInt = (nI w).toInt * ((nI w).toInt - 1) / 2) (q2 : q.toInt = (nI h).toInt * ((nI h).toInt - 1) / 2) : v = nI (cfo w h) := by
  rw [e, cI_pr (by omega) q1, cI_pr (by omega) q2, pk_mul]
  rfl
set_option maxHeartbeats 4000000 in
set_option maxRecDepth 100000 in
theorem c_X0_drawLines (l : Launch) (D : va_G) (cy : Nat → ClassId) (A : Nat → Prop) (G : cG) (ws : va_W) (o : Nat) {w h l_o f_o r_o : Nat} (hD : va_D A ws) (hT : cT cy G ws) (hM_o : cIn ws o (.inr (0, [.int (nI w), .int (nI h), .int (nI (w * h)), .int (nI (2 ^ w)), .int (nI (cfo w h)), .ref l_o, .ref f_o, .ref r_o]))) (hO_l_o : G l_o = none) (hM_l_o : cIn ws l_o (.inl (cy 1, 44, .inr (.inl (fun _ => 0))))) (hb_o : 1 ≤ w ∧ w ≤ 6 ∧ 1 ≤ h ∧ h ≤ 6) : Cv l D cy A yX0_drawLines wsX0_drawLines ({ frames := 1, cells := 0, slots := 0, locals := 23 }) 0 0 ws [.ref o] (fun u => ∃ w1, u = (G, w1) ∧ cUp ws l_o (.inl (cy 1, 44, .inr (.inl (bLn w h)))) w1) := by
  refine Met.ofW (cc := cX0_drawLines) (maxL := 4) (ret := none) (by decide) rfl ?_
  intro p e s m args below meth c s₁ B hml hv
  obtain ⟨rfl, hP, hK, hA, hV⟩ := hv
  have hx := B.exec
  have hb := B.bytes
  have hr := B.returns
  have hts := atoms_spec (ws := wsX0_drawLines) B.pre
  have hown : s.vm.findClass RX0 = some m.cls := findClass_of_methodNamed B.named
  have hlocks := B.notSynchronized
  have hS : va_S A s.heap s.heap [] := va_S.rf
  have hF : cF (fun b9 => b9 = l_o) ws ws := cF.rf
  have hl := lv_entry ([.ref o]) (n := 4) (Nat.le_of_ble_eq_true rfl)
  rw [lg_entry_eq]
  generalize (lg_sl ([.ref o]) ++ List.replicate (4 - (lg_sl ([.ref o])).length) Slot.unset).toArray = ls at hl ⊢
  have hl : lv_has ls 4 [(0, .ref o)] := hl
  have k_0 : (0 : Int32).toInt = 0 := by decide
  have k_4 : (4 : Int32).toInt = 4 := by decide
  have k_11 : (11 : Int32).toInt = 11 := by decide
  have hne_l_o_o : l_o ≠ o := fun z9 => by rw [z9] at hM_l_o; exact absurd (hM_l_o.eq hD hM_o) (by intro z; cases z)
  refine lv_iconst (v := 0) hx hb dX0_drawLines_0 (by decide) ?_
  refine lv_istore_n (lv' := [(1, .int (0 : Int32)), (0, .ref o)]) hx hb dX0_drawLines_1 rfl hl (by decide) rfl (fun ls hl => ?_)
  have loop_2 : ∀ (n : Nat) (k : Nat), (k ≤ h) → h - k < n → ∀ (wl2 : va_W), cF (fun b9 => b9 = l_o) ws wl2 → va_D A wl2 → cT cy G wl2 → cIn wl2 o (.inr (0, [.int (nI w), .int (nI h), .int (nI (w * h)), .int (nI (2 ^ w)), .int (nI (cfo w h)), .ref l_o, .ref f_o, .ref r_o])) → cIn wl2 l_o (.inl (cy 1, 44, .inr (.inl (bLN w h (4 * (k * w)))))) → ∀ (H : Heap) (locs : List Loc), va_P D vwCl wl2 H → va_S A s.heap H locs → ∀ (ls : Array Slot), lv_has ls 4 [(1, .int (nI k)), (0, .ref o)] → W p l e (headSpec wsX0_drawLines ({ frames := 1, cells := 0, slots := 0, locals := 23 })).room s m #[Value.ref o] below meth c H locs 0 0 (MQ below (va_Qv (fun u => ∃ w1, u = (G, w1) ∧ cUp ws l_o (.inl (cy 1, 44, .inr (.inl (bLn w h)))) w1) (cB D cy A) A) #[Value.ref o] s 0 0 A) (F0 m 2 ls []) := by
    intro n
    induction n with
    | zero => intro k j2_0 hn; exact absurd hn (Nat.not_lt_zero _)
    | succ n ih_2 =>
      intro k j2_0 hn_2 wl2 hF hD hT hM_o hM_l_o H locs hP hS  ls hl
      have ik_k : (nI k).toInt = (k : Int) := nI_toInt (by omega)
      refine lv_iload_n hx hb dX0_drawLines_2 rfl (lv_at hl 0 rfl) ?_
      refine lv_aload_n hx hb dX0_drawLines_3 rfl (lv_at hl 1 rfl) ?_
      refine t_get (v := .int (nI h)) (C := RX0) (T := TX0) (N := 8) hx hb hts (by decide +kernel) hown hK hP hM_o rfl 1 (by decide) (hts (.fieldLink RX0 17 "ShadowBench$Board" "high" "I") (by decide +kernel)) (fun _ h9 => h9) rfl dX0_drawLines_4 ?_
      have i_h_o : (nI h).toInt = _ := nI_toInt (by omega)
      refine lv_icmp_ge (tgt := 71) hx hb dX0_drawLines_7 (by decide) (fun c7 => ?_) (fun c7 => ?_)
      · skip
        have d7 := c7
        rw [fa_le] at d7
        exact W.vret hx hb hr (fun t ht hW => ⟨⟨(G, wl2), rfl, ⟨wl2, rfl, (by have z9 : 4 * (w * h) = 4 * (k * w) := (by have z8 : k = h := (by omega); rw [z8, Nat.mul_comm w h]); unfold bLn; rw [z9]; exact hM_l_o), fun b9 e9 h9 z9 => hF b9 e9 h9 z9⟩, by show va_P D vwCl wl2 t.heap; rw [ht]; exact hP, hD, hT⟩, hS.F ht⟩) hS.2.2 dX0_drawLines_71
      · skip
        have d7 := c7
        rw [fa_le] at d7
        refine lv_iconst (v := 0) hx hb dX0_drawLines_10 (by decide) ?_
        refine lv_istore_n (lv' := [(2, .int (0 : Int32)), (1, .int (nI k)), (0, .ref o)]) hx hb dX0_drawLines_11 rfl hl (by decide) rfl (fun ls hl => ?_)
        have loop_12 : ∀ (n : Nat) (i : Nat), (i ≤ w) → w - i < n → ∀ (wl12 : va_W), cF (fun b9 => b9 = l_o) ws wl12 → va_D A wl12 → cT cy G wl12 → cIn wl12 o (.inr (0, [.int (nI w), .int (nI h), .int (nI (w * h)), .int (nI (2 ^ w)), .int (nI (cfo w h)), .ref l_o, .ref f_o, .ref r_o])) → cIn wl12 l_o (.inl (cy 1, 44, .inr (.inl (bLN w h (4 * (k * w + i)))))) → ∀ (H : Heap) (locs : List Loc), va_P D vwCl wl12 H → va_S A s.heap H locs → ∀ (ls : Array Slot), lv_has ls 4 [(2, .int (nI i)), (1, .int (nI k)), (0, .ref o)] → W p l e (headSpec wsX0_drawLines ({ frames := 1, cells := 0, slots := 0, locals := 23 })).room s m #[Value.ref o] below meth c H locs 0 0 (MQ below (va_Qv (fun u => ∃ w1, u = (G, w1) ∧ cUp ws l_o (.inl (cy 1, 44, .inr (.inl (bLn w h)))) w1) (cB D cy A) A) #[Value.ref o] s 0 0 A) (F0 m 12 ls []) := by
          intro n
          induction n with
          | zero => intro i j12_0 hn; exact absurd hn (Nat.not_lt_zero _)
          | succ n ih_12 =>
            intro i j12_0 hn_12 wl12 hF hD hT hM_o hM_l_o H locs hP hS  ls hl
            have ik_i : (nI i).toInt = (i : Int) := nI_toInt (by omega)
            refine lv_iload_n hx hb dX0_drawLines_12 rfl (lv_at hl 0 rfl) ?_
            refine lv_aload_n hx hb dX0_drawLines_13 rfl (lv_at hl 2 rfl) ?_
            refine t_get (v := .int (nI w)) (C := RX0) (T := TX0) (N := 8) hx hb hts (by decide +kernel) hown hK hP hM_o rfl 0 (by decide) (hts (.fieldLink RX0 13 "ShadowBench$Board" "wide" "I") (by decide +kernel)) (fun _ h9 => h9) rfl dX0_drawLines_14 ?_
            have i_w_o : (nI w).toInt = _ := nI_toInt (by omega)
            refine lv_icmp_ge (tgt := 65) hx hb dX0_drawLines_17 (by decide) (fun c17 => ?_) (fun c17 => ?_)
            · skip
              have d17 := c17
              rw [fa_le] at d17
              refine lv_iinc (v := (nI (k + 1))) (lv' := [(1, .int (nI (k + 1))), (2, .int (nI i)), (0, .ref o)]) hx hb dX0_drawLines_65 hl (k := 1) rfl (nI_1 _) (by decide) rfl (fun ls hl => ?_)
              refine lv_goto (tgt := 2) hx hb dX0_drawLines_68 (by decide) ?_
              exact ih_2 (k + 1) (by omega) (by omega) wl12 hF hD hT hM_o (show cIn _ _ (.inl (cy 1, 44, .inr (.inl (bLN w h (4 * ((k + 1) * w)))))) by rw [show (k + 1) * w = k * w + i by rw [Nat.succ_mul]; omega]; exact hM_l_o) _ _ hP hS  ls (lv_sub hl [0, 2] rfl)
            · skip
              have d17 := c17
              rw [fa_le] at d17
              refine lv_iconst (v := 0) hx hb dX0_drawLines_20 (by decide) ?_
              refine lv_istore_n (lv' := [(3, .int (0 : Int32)), (2, .int (nI i)), (1, .int (nI k)), (0, .ref o)]) hx hb dX0_drawLines_21 rfl hl (by decide) rfl (fun ls hl => ?_)
              have loop_22 : ∀ (n : Nat) (u1 : Nat), (u1 ≤ 4) → 4 - u1 < n → ∀ (wl22 : va_W), cF (fun b9 => b9 = l_o) ws wl22 → va_D A wl22 → cT cy G wl22 → cIn wl22 o (.inr (0, [.int (nI w), .int (nI h), .int (nI (w * h)), .int (nI (2 ^ w)), .int (nI (cfo w h)), .ref l_o, .ref f_o, .ref r_o])) → cIn wl22 l_o (.inl (cy 1, 44, .inr (.inl (bLN w h (4 * (k * w + i) + u1))))) → ∀ (H : Heap) (locs : List Loc), va_P D vwCl wl22 H → va_S A s.heap H locs → ∀ (ls : Array Slot), lv_has ls 4 [(3, .int (nI u1)), (2, .int (nI i)), (1, .int (nI k)), (0, .ref o)] → W p l e (headSpec wsX0_drawLines ({ frames := 1, cells := 0, slots := 0, locals := 23 })).room s m #[Value.ref o] below meth c H locs 0 0 (MQ below (va_Qv (fun u => ∃ w1, u = (G, w1) ∧ cUp ws l_o (.inl (cy 1, 44, .inr (.inl (bLn w h)))) w1) (cB D cy A) A) #[Value.ref o] s 0 0 A) (F0 m 22 ls []) := by
                intro n
                induction n with
                | zero => intro u1 j22_0 hn; exact absurd hn (Nat.not_lt_zero _)
                | succ n ih_22 =>
                  intro u1 j22_0 hn_22 wl22 hF hD hT hM_o hM_l_o H locs hP hS  ls hl
                  have ik_u1 : (nI u1).toInt = (u1 : Int) := nI_toInt (by omega)
                  refine lv_iload_n hx hb dX0_drawLines_22 rfl (lv_at hl 0 rfl) ?_
                  refine lv_iconst (v := 4) hx hb dX0_drawLines_23 (by decide) ?_
                  refine lv_icmp_ge (tgt := 59) hx hb dX0_drawLines_24 (by decide) (fun c24 => ?_) (fun c24 => ?_)
                  · skip
                    have d24 := c24
                    rw [fa_le] at d24
                    refine lv_iinc (v := (nI (i + 1))) (lv' := [(2, .int (nI (i + 1))), (3, .int (nI u1)), (1, .int (nI k)), (0, .ref o)]) hx hb dX0_drawLines_59 hl (k := 1) rfl (nI_1 _) (by decide) rfl (fun ls hl => ?_)
                    refine lv_goto (tgt := 12) hx hb dX0_drawLines_62 (by decide) ?_
                    exact ih_12 (i + 1) (by omega) (by omega) wl22 hF hD hT hM_o (show cIn _ _ (.inl (cy 1, 44, .inr (.inl (bLN w h (4 * (k * w + (i + 1))))))) by rw [show 4 * (k * w + (i + 1)) = 4 * (k * w + i) + u1 by omega]; exact hM_l_o) _ _ hP hS  ls (lv_sub hl [0, 2, 3] rfl)
                  · skip
                    have d24 := c24
                    rw [fa_le] at d24
                    refine lv_aload_n hx hb dX0_drawLines_27 rfl (lv_at hl 3 rfl) ?_
                    refine t_get (v := .ref l_o) (C := RX0) (T := TX0) (N := 8) hx hb hts (by decide +kernel) hown hK hP hM_o rfl 5 (by decide) (hts (.fieldLink RX0 9 "ShadowBench$Board" "lines" "[J") (by decide +kernel)) (fun _ h9 => h9) rfl dX0_drawLines_28 ?_
                    refine lv_iload_n hx hb dX0_drawLines_31 rfl (lv_at hl 0 rfl) ?_
                    refine lv_bipush (v := 11) hx hb dX0_drawLines_32 (by decide) ?_
                    refine lv_imul hx hb dX0_drawLines_34 ?_
                    refine lv_topi (fun v34 e34 => ?_)
                    have i34 : v34.toInt = (nI u1).toInt * 11 := by rw [e34]; exact mulcR rfl (by omega) (by omega)
                    refine lv_aload_n hx hb dX0_drawLines_35 rfl (lv_at hl 3 rfl) ?_
                    refine lv_iload_n hx hb dX0_drawLines_36 rfl (lv_at hl 0 rfl) ?_
                    refine lv_iload_n hx hb dX0_drawLines_37 rfl (lv_at hl 1 rfl) ?_
                    refine lv_iload_n hx hb dX0_drawLines_38 rfl (lv_at hl 2 rfl) ?_
                    refine t_calli (va_runV (g := F0 m 39 ls ([.int (nI k), .int (nI i), .int (nI u1), .ref o, .int v34, .ref l_o])) (As := [.int (nI u1), .int (nI i), .int (nI k)]) (rest := [.int v34, .ref l_o]) ⟨hx, hb, hml, hown, hts⟩ (c_X0_lineThrough l D cy A G wl22 o u1 i k hD hT hM_o hb_o (by omega) (by omega) (by omega)) (cwV 3 hts gX0_drawLines_X0_lineThrough rfl rfl rfl (by decide +kernel) ⟨Nat.le_of_ble_eq_true rfl, Nat.le_of_ble_eq_true rfl⟩) (c_preV hM_o rfl hP hK hA hS hV) rfl rfl hl.1 rfl (lv_room (Nat.le_of_ble_eq_true rfl)) dX0_drawLines_39 ⟨Nat.le_of_ble_eq_true rfl, Nat.le_of_ble_eq_true rfl⟩) hS (fun r39 u H locs q39 hP9 hD9 hT9 hS => ?_)
                    obtain ⟨rfl, q39⟩ := q39
                    have hP : va_P D vwCl wl22 H := hP9
                    have b39 := lnT_b (way := u1) hb_o (show i < w by omega) (show k < h by omega)
                    have i39 : r39.toInt = (lnT h u1 i k : Int) := by rw [q39]; exact nI_toInt (by omega)
                    refine lv_iadd hx hb dX0_drawLines_42 ?_
                    refine lv_topi (fun v42 e42 => ?_)
                    have i42 : v42.toInt = v34.toInt + r39.toInt := by rw [e42]; exact fb_addI (by omega) (by omega)
                    have f42 : v42.toNatClampNeg = u1 * 11 + lnT h u1 i k := by have z9 := m_cl (x := v42) (by omega); omega
                    refine lv_dup2_11 hx hb dX0_drawLines_43 rfl rfl ?_
                    refine t_laldM hx hb hK hP hM_l_o (vp_in_iff.mpr ⟨by omega, by omega⟩) dX0_drawLines_44 ?_
                    refine lv_topl (fun v44 e44 => ?_)
                    refine lv_aload_n hx hb dX0_drawLines_45 rfl (lv_at hl 3 rfl) ?_
                    refine lv_iload_n hx hb dX0_drawLines_46 rfl (lv_at hl 1 rfl) ?_
                    refine lv_iload_n hx hb dX0_drawLines_47 rfl (lv_at hl 2 rfl) ?_
                    refine t_calll (va_runV (g := F0 m 48 ls ([.int (nI k), .int (nI i), .ref o, .long v44, .int v42, .ref l_o])) (As := [.int (nI i), .int (nI k)]) (rest := [.long v44, .int v42, .ref l_o]) ⟨hx, hb, hml, hown, hts⟩ (c_X0_bit l D cy A G wl22 o i k hD hT hM_o hb_o) (cwV 2 hts gX0_drawLines_X0_bit rfl rfl rfl (by decide +kernel) ⟨Nat.le_of_ble_eq_true rfl, Nat.le_of_ble_eq_true rfl⟩) (c_preV hM_o rfl hP hK hA hS hV) rfl rfl hl.1 rfl (lv_room (Nat.le_of_ble_eq_true rfl)) dX0_drawLines_48 ⟨Nat.le_of_ble_eq_true rfl, Nat.le_of_ble_eq_true rfl⟩) hS (fun r48 u H locs q48 hP9 hD9 hT9 hS => ?_)
                    obtain ⟨rfl, q48⟩ := q48
                    have hP : va_P D vwCl wl22 H := hP9
                    refine lv_lor hx hb dX0_drawLines_51 ?_
                    refine lv_topl (fun v51 e51 => ?_)
                    refine t_lastM hx hb hK hP hD hS hT hO_l_o hM_l_o (vp_in_iff.mpr ⟨by omega, by omega⟩) dX0_drawLines_52 (fun H locs w52 hU52 hP hD hT hS => ?_)
                    have hM_o := hU52.2 _ _ (Ne.symm hne_l_o_o) hM_o
                    have hM_l_o := hU52.1
                    have hF := hF.tr (show cF (fun b9 => b9 = l_o) wl22 w52 from fun b9 e9 h9 z9 => hU52.2 b9 e9 h9 z9)
                    have hst : cIn w52 l_o (.inl (cy 1, 44, .inr (.inl (bLN w h (4 * (k * w + i) + (u1 + 1)))))) := by rw [bLN_s (by omega) (by omega), ← f42, ← e44, ← q48, ← e51]; exact hM_l_o
                    refine lv_iinc (v := (nI (u1 + 1))) (lv' := [(3, .int (nI (u1 + 1))), (2, .int (nI i)), (1, .int (nI k)), (0, .ref o)]) hx hb dX0_drawLines_53 hl (k := 0) rfl (nI_1 _) (by decide) rfl (fun ls hl => ?_)
                    refine lv_goto (tgt := 22) hx hb dX0_drawLines_56 (by decide) ?_
                    exact ih_22 (u1 + 1) (by omega) (by omega) w52 hF hD hT hM_o hst _ _ hP hS  ls (lv_sub hl [0, 1, 2, 3] rfl)
              exact loop_22 (4 + 1) 0 (by omega) (by omega) wl12 hF hD hT hM_o hM_l_o _ _ hP hS  ls (lv_sub hl [0, 1, 2, 3] rfl)
        exact loop_12 (w + 1) 0 (by omega) (by omega) wl2 hF hD hT hM_o hM_l_o _ _ hP hS  ls (lv_sub hl [0, 1, 2] rfl)
  exact loop_2 (h + 1) 0 (by omega) (by omega) ws hF hD hT hM_o (show cIn _ _ (.inl (cy 1, 44, .inr (.inl (bLN w h (4 * (0 * w)))))) by rw [Nat.zero_mul]; exact hM_l_o) _ _ hP hS  ls (lv_sub hl [0, 1] rfl)
set_option maxHeartbeats 4000000 in
set_option maxRecDepth 100000 in
theorem c_X0_drawFoursOfRows (l : Launch) (D : va_G) (cy : Nat → ClassId) (A : Nat → Prop) (G : cG) (ws : va_W) (o : Nat) (first : Nat) (y : Nat) (v : Nat) {w h l_o f_o r_o : Nat} (hD : va_D A ws) (hT : cT cy G ws) (hM_o : cIn ws o (.inr (0, [.int (nI w), .int (nI h), .int (nI (w * h)), .int (nI (2 ^ w)), .int (nI (cfo w h)), .ref l_o, .ref f_o, .ref r_o]))) (hO_f_o : G f_o = none) (hM_f_o : cIn ws f_o (.inl (cy 1, (cfo w h), .inr (.inl (bFN w h first))))) (hO_r_o : G r_o = none) (hM_r_o : cIn ws r_o (.inl (cy 1, (cfo w h), .inr (.inl (bRN w h first))))) (hb_o : 1 ≤ w ∧ w ≤ 6 ∧ 1 ≤ h ∧ h ≤ 6) (hne_f_o_r_o : f_o ≠ r_o) (hf : first = prI h y v * (w * (w - 1) / 2)) (hyv : y < v ∧ v < h) : Ci l D cy A yX0_drawFoursOfRows wsX0_drawFoursOfRows ({ frames := 1, cells := 0, slots := 0, locals := 22 }) 0 0 ws [.ref o, .int (nI first), .int (nI y), .int (nI v)] (fun r0 u => ∃ w1, u = (G, w1) ∧ cF (fun b9 => b9 = f_o ∨ b9 = r_o) ws w1 ∧ (r0 = nI ((prI h y v + 1) * (w * (w - 1) / 2)) ∧ cIn w1 f_o (.inl (cy 1, cfo w h, .inr (.inl (bFN w h ((prI h y v + 1) * (w * (w - 1) / 2)))))) ∧ cIn w1 r_o (.inl (cy 1, cfo w h, .inr (.inl (bRN w h ((prI h y v + 1) * (w * (w - 1) / 2)))))))) := by
  refine Met.ofW (cc := cX0_drawFoursOfRows) (maxL := 7) (ret := (some .int)) (by decide) rfl ?_
  intro p e s m args below meth c s₁ B hml hv
  obtain ⟨rfl, hP, hK, hA, hV⟩ := hv
  have hx := B.exec
  have hb := B.bytes
  have hr := B.returns
  have hts := atoms_spec (ws := wsX0_drawFoursOfRows) B.pre
  have hown : s.vm.findClass RX0 = some m.cls := findClass_of_methodNamed B.named
  have hlocks := B.notSynchronized
  have hS : va_S A s.heap s.heap [] := va_S.rf
  have hF : cF (fun b9 => b9 = f_o ∨ b9 = r_o) ws ws := cF.rf
  have hl := lv_entry ([.ref o, .int (nI first), .int (nI y), .int (nI v)]) (n := 7) (Nat.le_of_ble_eq_true rfl)
  rw [lg_entry_eq]
  generalize (lg_sl ([.ref o, .int (nI first), .int (nI y), .int (nI v)]) ++ List.replicate (7 - (lg_sl ([.ref o, .int (nI first), .int (nI y), .int (nI v)])).length) Slot.unset).toArray = ls at hl ⊢
  have hl : lv_has ls 7 [(0, .ref o), (1, .int (nI first)), (2, .int (nI y)), (3, .int (nI v))] := hl
  have k_0 : (0 : Int32).toInt = 0 := by decide
  have k_1 : (1 : Int32).toInt = 1 := by decide
  have hne_f_o_o : f_o ≠ o := fun z9 => by rw [z9] at hM_f_o; exact absurd (hM_f_o.eq hD hM_o) (by intro z; cases z)
  have hne_r_o_o : r_o ≠ o := fun z9 => by rw [z9] at hM_r_o; exact absurd (hM_r_o.eq hD hM_o) (by intro z; cases z)
  have hfo := cb_fo hb_o
  have ifo : (nI (cfo w h)).toInt = (cfo w h : Int) := nI_toInt (by omega)
  refine lv_iload_n hx hb dX0_drawFoursOfRows_0 rfl (lv_at hl 1 rfl) ?_
  refine lv_istore (lv' := [(4, .int (nI first)), (0, .ref o), (1, .int (nI first)), (2, .int (nI y)), (3, .int (nI v))]) hx hb dX0_drawFoursOfRows_1 hl (by decide) rfl (fun ls hl => ?_)
  refine lv_iconst (v := 0) hx hb dX0_drawFoursOfRows_3 (by decide) ?_
  refine lv_istore (lv' := [(5, .int (0 : Int32)), (4, .int (nI first)), (0, .ref o), (1, .int (nI first)), (2, .int (nI y)), (3, .int (nI v))]) hx hb dX0_drawFoursOfRows_4 hl (by decide) rfl (fun ls hl => ?_)
  have loop_6 : ∀ (n : Nat) (k : Nat) (c4 : Nat), (k ≤ w) → (c4 = prI h y v * (w * (w - 1) / 2) + prS w k) → w - k < n → ∀ (wl6 : va_W), cF (fun b9 => b9 = f_o ∨ b9 = r_o) ws wl6 → va_D A wl6 → cT cy G wl6 → cIn wl6 o (.inr (0, [.int (nI w), .int (nI h), .int (nI (w * h)), .int (nI (2 ^ w)), .int (nI (cfo w h)), .ref l_o, .ref f_o, .ref r_o])) → cIn wl6 f_o (.inl (cy 1, (cfo w h), .inr (.inl (bFN w h c4)))) → cIn wl6 r_o (.inl (cy 1, (cfo w h), .inr (.inl (bRN w h c4)))) → ∀ (H : Heap) (locs : List Loc), va_P D vwCl wl6 H → va_S A s.heap H locs → ∀ (ls : Array Slot), lv_has ls 7 [(5, .int (nI k)), (4, .int (nI c4)), (0, .ref o), (1, .int (nI first)), (2, .int (nI y)), (3, .int (nI v))] → W p l e (headSpec wsX0_drawFoursOfRows ({ frames := 1, cells := 0, slots := 0, locals := 22 })).room s m #[Value.ref o, Value.int (nI first), Value.int (nI y), Value.int (nI v)] below meth c H locs 0 0 (MQ below (va_Qi (fun r0 u => ∃ w1, u = (G, w1) ∧ cF (fun b9 => b9 = f_o ∨ b9 = r_o) ws w1 ∧ (r0 = nI ((prI h y v + 1) * (w * (w - 1) / 2)) ∧ cIn w1 f_o (.inl (cy 1, cfo w h, .inr (.inl (bFN w h ((prI h y v + 1) * (w * (w - 1) / 2)))))) ∧ cIn w1 r_o (.inl (cy 1, cfo w h, .inr (.inl (bRN w h ((prI h y v + 1) * (w * (w - 1) / 2)))))))) (cB D cy A) A) #[Value.ref o, Value.int (nI first), Value.int (nI y), Value.int (nI v)] s 0 0 A) (F0 m 6 ls []) := by
    intro n
    induction n with
    | zero => intro k c4 j6_0 j6_1 hn; exact absurd hn (Nat.not_lt_zero _)
    | succ n ih_6 =>
      intro k c4 j6_0 j6_1 hn_6 wl6 hF hD hT hM_o hM_f_o hM_r_o H locs hP hS ls hl
      have ik_k : (nI k).toInt = (k : Int) := nI_toInt (by omega)
      refine lv_iload hx hb dX0_drawFoursOfRows_6 (lv_at hl 0 rfl) ?_
      refine lv_aload_n hx hb dX0_drawFoursOfRows_8 rfl (lv_at hl 2 rfl) ?_
      refine t_get (v := .int (nI w)) (C := RX0) (T := TX0) (N := 8) hx hb hts (by decide +kernel) hown hK hP hM_o rfl 0 (by decide) (hts (.fieldLink RX0 13 "ShadowBench$Board" "wide" "I") (by decide +kernel)) (fun _ h9 => h9) rfl dX0_drawFoursOfRows_9 ?_
      have i_w_o : (nI w).toInt = _ := nI_toInt (by omega)
      refine lv_icmp_ge (tgt := 98) hx hb dX0_drawFoursOfRows_12 (by decide) (fun c12 => ?_) (fun c12 => ?_)
      · skip
        have d12 := c12
        rw [fa_le] at d12
        refine lv_iload hx hb dX0_drawFoursOfRows_98 (lv_at hl 1 rfl) ?_
        exact W.iret (v := (nI c4)) hx hb hr (fun t ht hW => ⟨⟨_, (G, wl6), rfl, ⟨wl6, rfl, hF, (by have z9 : c4 = (prI h y v + 1) * (w * (w - 1) / 2) := (by have z8 := (prS_0 w (by omega) 0 (by omega)).2.2; rw [j6_1, Nat.succ_mul, show k = w by omega, z8]); rw [← z9]; exact ⟨rfl, hM_f_o, hM_r_o⟩)⟩, by show va_P D vwCl wl6 t.heap; rw [ht]; exact hP, hD, hT⟩, hS.F ht⟩) hS.2.2 dX0_drawFoursOfRows_100
      · skip
        have d12 := c12
        rw [fa_le] at d12
        refine lv_iload hx hb dX0_drawFoursOfRows_15 (lv_at hl 0 rfl) ?_
        refine lv_iconst (v := 1) hx hb dX0_drawFoursOfRows_17 (by decide) ?_
        refine lv_iadd hx hb dX0_drawFoursOfRows_18 ?_
        refine lv_topi (fun v18 e18 => ?_)
        obtain rfl : v18 = nI (k + 1) := e18.trans (nI_1 _)
        refine lv_istore (lv' := [(6, .int (nI (k + 1))), (5, .int (nI k)), (4, .int (nI c4)), (0, .ref o), (1, .int (nI first)), (2, .int (nI y)), (3, .int (nI v))]) hx hb dX0_drawFoursOfRows_19 hl (by decide) rfl (fun ls hl => ?_)
        have loop_21 : ∀ (n : Nat) (i : Nat) (d4 : Nat), (k + 1 ≤ i ∧ i ≤ w) → (d4 = prI h y v * (w * (w - 1) / 2) + prS w k + (i - (k + 1))) → w - i < n → ∀ (wl21 : va_W), cF (fun b9 => b9 = f_o ∨ b9 = r_o) ws wl21 → va_D A wl21 → cT cy G wl21 → cIn wl21 o (.inr (0, [.int (nI w), .int (nI h), .int (nI (w * h)), .int (nI (2 ^ w)), .int (nI (cfo w h)), .ref l_o, .ref f_o, .ref r_o])) → cIn wl21 f_o (.inl (cy 1, (cfo w h), .inr (.inl (bFN w h d4)))) → cIn wl21 r_o (.inl (cy 1, (cfo w h), .inr (.inl (bRN w h d4)))) → ∀ (H : Heap) (locs : List Loc), va_P D vwCl wl21 H → va_S A s.heap H locs → ∀ (ls : Array Slot), lv_has ls 7 [(6, .int (nI i)), (5, .int (nI k)), (4, .int (nI d4)), (0, .ref o), (1, .int (nI first)), (2, .int (nI y)), (3, .int (nI v))] → W p l e (headSpec wsX0_drawFoursOfRows ({ frames := 1, cells := 0, slots := 0, locals := 22 })).room s m #[Value.ref o, Value.int (nI first), Value.int (nI y), Value.int (nI v)] below meth c H locs 0 0 (MQ below (va_Qi (fun r0 u => ∃ w1, u = (G, w1) ∧ cF (fun b9 => b9 = f_o ∨ b9 = r_o) ws w1 ∧ (r0 = nI ((prI h y v + 1) * (w * (w - 1) / 2)) ∧ cIn w1 f_o (.inl (cy 1, cfo w h, .inr (.inl (bFN w h ((prI h y v + 1) * (w * (w - 1) / 2)))))) ∧ cIn w1 r_o (.inl (cy 1, cfo w h, .inr (.inl (bRN w h ((prI h y v + 1) * (w * (w - 1) / 2)))))))) (cB D cy A) A) #[Value.ref o, Value.int (nI first), Value.int (nI y), Value.int (nI v)] s 0 0 A) (F0 m 21 ls []) := by
          intro n
          induction n with
          | zero => intro i d4 j21_0 j21_1 hn; exact absurd hn (Nat.not_lt_zero _)
          | succ n ih_21 =>
            intro i d4 j21_0 j21_1 hn_21 wl21 hF hD hT hM_o hM_f_o hM_r_o H locs hP hS ls hl
            have ik_i : (nI i).toInt = (i : Int) := nI_toInt (by omega)
            refine lv_iload hx hb dX0_drawFoursOfRows_21 (lv_at hl 0 rfl) ?_
            refine lv_aload_n hx hb dX0_drawFoursOfRows_23 rfl (lv_at hl 3 rfl) ?_
            refine t_get (v := .int (nI w)) (C := RX0) (T := TX0) (N := 8) hx hb hts (by decide +kernel) hown hK hP hM_o rfl 0 (by decide) (hts (.fieldLink RX0 13 "ShadowBench$Board" "wide" "I") (by decide +kernel)) (fun _ h9 => h9) rfl dX0_drawFoursOfRows_24 ?_
            refine lv_icmp_ge (tgt := 92) hx hb dX0_drawFoursOfRows_27 (by decide) (fun c27 => ?_) (fun c27 => ?_)
            · skip
              have d27 := c27
              rw [fa_le] at d27
              refine lv_iinc (v := (nI (k + 1))) (lv' := [(5, .int (nI (k + 1))), (6, .int (nI i)), (4, .int (nI d4)), (0, .ref o), (1, .int (nI first)), (2, .int (nI y)), (3, .int (nI v))]) hx hb dX0_drawFoursOfRows_92 hl (k := 1) rfl (nI_1 _) (by decide) rfl (fun ls hl => ?_)
              refine lv_goto (tgt := 6) hx hb dX0_drawFoursOfRows_95 (by decide) ?_
              exact ih_6 (k + 1) d4 (by omega) (by rw [(prS_0 w (by omega) k (by omega)).1]; omega) (by omega) wl21 hF hD hT hM_o hM_f_o hM_r_o _ _ hP hS ls (lv_sub hl [0, 2, 3, 4, 5, 6] rfl)
            · skip
              have d27 := c27
              rw [fa_le] at d27
              have lt9 := fo_lt (w := w) (h := h) (y := y) (v := v) (x := k) (u := i) (by omega) (by omega) hyv.1 hyv.2 (by omega) (by omega)
              have ei9 : d4 = prI h y v * (w * (w - 1) / 2) + prI w k i := by unfold prI at j21_1 ⊢; omega
              have id4 : (nI d4).toInt = (d4 : Int) := nI_toInt (by omega)
              have cd4 : (nI d4).toNatClampNeg = d4 := nI_clamp (by omega)
              refine lv_iload hx hb dX0_drawFoursOfRows_30 (lv_at hl 2 rfl) ?_
              refine lv_aload_n hx hb dX0_drawFoursOfRows_32 rfl (lv_at hl 3 rfl) ?_
              refine t_get (v := .int (nI (cfo w h))) (C := RX0) (T := TX0) (N := 8) hx hb hts (by decide +kernel) hown hK hP hM_o rfl 4 (by decide) (hts (.fieldLink RX0 30 "ShadowBench$Board" "fours" "I") (by decide +kernel)) (fun _ h9 => h9) rfl dX0_drawFoursOfRows_33 ?_
              have m_fo_o := cb_fo hb_o
              have i_fo_o : (nI (cfo w h)).toInt = _ := nI_toInt (by omega)
              refine lv_icmp_ge (tgt := 92) hx hb dX0_drawFoursOfRows_36 (by decide) (fun c36 => ?_) (fun c36 => ?_)
              · skip
                have d36 := c36
                rw [fa_le] at d36
                refine lv_iinc (v := (nI (k + 1))) (lv' := [(5, .int (nI (k + 1))), (6, .int (nI i)), (4, .int (nI d4)), (0, .ref o), (1, .int (nI first)), (2, .int (nI y)), (3, .int (nI v))]) hx hb dX0_drawFoursOfRows_92 hl (k := 1) rfl (nI_1 _) (by decide) rfl (fun ls hl => ?_)
                refine lv_goto (tgt := 6) hx hb dX0_drawFoursOfRows_95 (by decide) ?_
                exact ih_6 (k + 1) d4 (by omega) (by rw [(prS_0 w (by omega) k (by omega)).1]; omega) (by omega) wl21 hF hD hT hM_o hM_f_o hM_r_o _ _ hP hS ls (lv_sub hl [0, 2, 3, 4, 5, 6] rfl)
              · skip
                have d36 := c36
                rw [fa_le] at d36
                refine lv_aload_n hx hb dX0_drawFoursOfRows_39 rfl (lv_at hl 3 rfl) ?_
                refine t_get (v := .ref f_o) (C := RX0) (T := TX0) (N := 8) hx hb hts (by decide +kernel) hown hK hP hM_o rfl 6 (by decide) (hts (.fieldLink RX0 33 "ShadowBench$Board" "falling" "[J") (by decide +kernel)) (fun _ h9 => h9) rfl dX0_drawFoursOfRows_40 ?_
                refine lv_iload hx hb dX0_drawFoursOfRows_43 (lv_at hl 2 rfl) ?_
                refine lv_aload_n hx hb dX0_drawFoursOfRows_45 rfl (lv_at hl 3 rfl) ?_
                refine lv_iload hx hb dX0_drawFoursOfRows_46 (lv_at hl 1 rfl) ?_
                refine lv_iload_n hx hb dX0_drawFoursOfRows_48 rfl (lv_at hl 5 rfl) ?_
                refine t_calll (va_runV (g := F0 m 49 ls ([.int (nI y), .int (nI k), .ref o, .int (nI d4), .ref f_o])) (As := [.int (nI k), .int (nI y)]) (rest := [.int (nI d4), .ref f_o]) ⟨hx, hb, hml, hown, hts⟩ (c_X0_bit l D cy A G wl21 o k y hD hT hM_o hb_o) (cwV 2 hts gX0_drawFoursOfRows_X0_bit rfl rfl rfl (by decide +kernel) ⟨Nat.le_of_ble_eq_true rfl, Nat.le_of_ble_eq_true rfl⟩) (c_preV hM_o rfl hP hK hA hS hV) rfl rfl hl.1 rfl (lv_room (Nat.le_of_ble_eq_true rfl)) dX0_drawFoursOfRows_49 ⟨Nat.le_of_ble_eq_true rfl, Nat.le_of_ble_eq_true rfl⟩) hS (fun r49 u H locs q49 hP9 hD9 hT9 hS => ?_)
                obtain ⟨rfl, q49⟩ := q49
                have hP : va_P D vwCl wl21 H := hP9
                refine lv_aload_n hx hb dX0_drawFoursOfRows_52 rfl (lv_at hl 3 rfl) ?_
                refine lv_iload hx hb dX0_drawFoursOfRows_53 (lv_at hl 0 rfl) ?_
                refine lv_iload_n hx hb dX0_drawFoursOfRows_55 rfl (lv_at hl 6 rfl) ?_
                refine t_calll (va_runV (g := F0 m 56 ls ([.int (nI v), .int (nI i), .ref o, .long r49, .int (nI d4), .ref f_o])) (As := [.int (nI i), .int (nI v)]) (rest := [.long r49, .int (nI d4), .ref f_o]) ⟨hx, hb, hml, hown, hts⟩ (c_X0_bit l D cy A G wl21 o i v hD hT hM_o hb_o) (cwV 2 hts gX0_drawFoursOfRows_X0_bit rfl rfl rfl (by decide +kernel) ⟨Nat.le_of_ble_eq_true rfl, Nat.le_of_ble_eq_true rfl⟩) (c_preV hM_o rfl hP hK hA hS hV) rfl rfl hl.1 rfl (lv_room (Nat.le_of_ble_eq_true rfl)) dX0_drawFoursOfRows_56 ⟨Nat.le_of_ble_eq_true rfl, Nat.le_of_ble_eq_true rfl⟩) hS (fun r56 u H locs q56 hP9 hD9 hT9 hS => ?_)
                obtain ⟨rfl, q56⟩ := q56
                have hP : va_P D vwCl wl21 H := hP9
                refine lv_lor hx hb dX0_drawFoursOfRows_59 ?_
                refine lv_topl (fun v59 e59 => ?_)
                refine t_lastM hx hb hK hP hD hS hT hO_f_o hM_f_o (vp_in_iff.mpr ⟨by omega, by omega⟩) dX0_drawFoursOfRows_60 (fun H locs w60 hU60 hP hD hT hS => ?_)
                have hM_o := hU60.2 _ _ (Ne.symm hne_f_o_o) hM_o
                have hM_r_o := hU60.2 _ _ (Ne.symm hne_f_o_r_o) hM_r_o
                have hM_f_o := hU60.1
                have hF := hF.tr (cF.up hU60 (Or.inl rfl))
                have hsf : cIn w60 f_o (.inl (cy 1, cfo w h, .inr (.inl (bFN w h (d4 + 1))))) := by rw [cd4, e59, q49, q56, ei9, bFN_s (by omega) (by omega) hyv.1 hyv.2 (by omega) (by omega), ← ei9] at hM_f_o; exact hM_f_o
                refine lv_aload_n hx hb dX0_drawFoursOfRows_61 rfl (lv_at hl 3 rfl) ?_
                refine t_get (v := .ref r_o) (C := RX0) (T := TX0) (N := 8) hx hb hts (by decide +kernel) hown hK hP hM_o rfl 7 (by decide) (hts (.fieldLink RX0 36 "ShadowBench$Board" "rising" "[J") (by decide +kernel)) (fun _ h9 => h9) rfl dX0_drawFoursOfRows_62 ?_
                refine lv_iload hx hb dX0_drawFoursOfRows_65 (lv_at hl 2 rfl) ?_
                refine lv_aload_n hx hb dX0_drawFoursOfRows_67 rfl (lv_at hl 3 rfl) ?_
                refine lv_iload hx hb dX0_drawFoursOfRows_68 (lv_at hl 0 rfl) ?_
                refine lv_iload_n hx hb dX0_drawFoursOfRows_70 rfl (lv_at hl 5 rfl) ?_
                refine t_calll (va_runV (g := F0 m 71 ls ([.int (nI y), .int (nI i), .ref o, .int (nI d4), .ref r_o])) (As := [.int (nI i), .int (nI y)]) (rest := [.int (nI d4), .ref r_o]) ⟨hx, hb, hml, hown, hts⟩ (c_X0_bit l D cy A G w60 o i y hD hT hM_o hb_o) (cwV 2 hts gX0_drawFoursOfRows_X0_bit rfl rfl rfl (by decide +kernel) ⟨Nat.le_of_ble_eq_true rfl, Nat.le_of_ble_eq_true rfl⟩) (c_preV hM_o rfl hP hK hA hS hV) rfl rfl hl.1 rfl (lv_room (Nat.le_of_ble_eq_true rfl)) dX0_drawFoursOfRows_71 ⟨Nat.le_of_ble_eq_true rfl, Nat.le_of_ble_eq_true rfl⟩) hS (fun r71 u H locs q71 hP9 hD9 hT9 hS => ?_)
                obtain ⟨rfl, q71⟩ := q71
                have hP : va_P D vwCl w60 H := hP9
                refine lv_aload_n hx hb dX0_drawFoursOfRows_74 rfl (lv_at hl 3 rfl) ?_
                refine lv_iload hx hb dX0_drawFoursOfRows_75 (lv_at hl 1 rfl) ?_
                refine lv_iload_n hx hb dX0_drawFoursOfRows_77 rfl (lv_at hl 6 rfl) ?_
                refine t_calll (va_runV (g := F0 m 78 ls ([.int (nI v), .int (nI k), .ref o, .long r71, .int (nI d4), .ref r_o])) (As := [.int (nI k), .int (nI v)]) (rest := [.long r71, .int (nI d4), .ref r_o]) ⟨hx, hb, hml, hown, hts⟩ (c_X0_bit l D cy A G w60 o k v hD hT hM_o hb_o) (cwV 2 hts gX0_drawFoursOfRows_X0_bit rfl rfl rfl (by decide +kernel) ⟨Nat.le_of_ble_eq_true rfl, Nat.le_of_ble_eq_true rfl⟩) (c_preV hM_o rfl hP hK hA hS hV) rfl rfl hl.1 rfl (lv_room (Nat.le_of_ble_eq_true rfl)) dX0_drawFoursOfRows_78 ⟨Nat.le_of_ble_eq_true rfl, Nat.le_of_ble_eq_true rfl⟩) hS (fun r78 u H locs q78 hP9 hD9 hT9 hS => ?_)
                obtain ⟨rfl, q78⟩ := q78
                have hP : va_P D vwCl w60 H := hP9
                refine lv_lor hx hb dX0_drawFoursOfRows_81 ?_
                refine lv_topl (fun v81 e81 => ?_)
                refine t_lastM hx hb hK hP hD hS hT hO_r_o hM_r_o (vp_in_iff.mpr ⟨by omega, by omega⟩) dX0_drawFoursOfRows_82 (fun H locs w82 hU82 hP hD hT hS => ?_)
                have hM_o := hU82.2 _ _ (Ne.symm hne_r_o_o) hM_o
                have hM_f_o := hU82.2 _ _ (hne_f_o_r_o) hM_f_o
                have hM_r_o := hU82.1
                have hF := hF.tr (cF.up hU82 (Or.inr (rfl)))
                have hsr : cIn w82 r_o (.inl (cy 1, cfo w h, .inr (.inl (bRN w h (d4 + 1))))) := by rw [cd4, e81, q71, q78, ei9, bRN_s (by omega) (by omega) hyv.1 hyv.2 (by omega) (by omega), ← ei9] at hM_r_o; exact hM_r_o
                have hsf := hU82.2 _ _ hne_f_o_r_o hsf
                refine lv_iinc (v := (nI (d4 + 1))) (lv' := [(4, .int (nI (d4 + 1))), (6, .int (nI i)), (5, .int (nI k)), (0, .ref o), (1, .int (nI first)), (2, .int (nI y)), (3, .int (nI v))]) hx hb dX0_drawFoursOfRows_83 hl (k := 2) rfl (nI_1 _) (by decide) rfl (fun ls hl => ?_)
                refine lv_iinc (v := (nI (i + 1))) (lv' := [(6, .int (nI (i + 1))), (4, .int (nI (d4 + 1))), (5, .int (nI k)), (0, .ref o), (1, .int (nI first)), (2, .int (nI y)), (3, .int (nI v))]) hx hb dX0_drawFoursOfRows_86 hl (k := 1) rfl (nI_1 _) (by decide) rfl (fun ls hl => ?_)
                refine lv_goto (tgt := 21) hx hb dX0_drawFoursOfRows_89 (by decide) ?_
                exact ih_21 (i + 1) (d4 + 1) (by omega) (by omega) (by omega) w82 hF hD hT hM_o hsf hsr _ _ hP hS ls (lv_sub hl [0, 2, 1, 3, 4, 5, 6] rfl)
        exact loop_21 (w + 1) (k + 1) c4 (by omega) (by rw [j6_1]; omega) (by omega) wl6 hF hD hT hM_o hM_f_o hM_r_o _ _ hP hS ls (lv_sub hl [0, 1, 2, 3, 4, 5, 6] rfl)
  exact loop_6 (w + 1) 0 first (by omega) (by rw [hf, (prS_0 w (by omega) 0 (by omega)).2.1, Nat.add_zero]) (by omega) ws hF hD hT hM_o hM_f_o hM_r_o _ _ hP hS ls (lv_sub hl [0, 1, 2, 3, 4, 5] rfl)
set_option maxHeartbeats 4000000 in
set_option maxRecDepth 100000 in
theorem c_X0_drawFours (l : Launch) (D : va_G) (cy : Nat → ClassId) (A : Nat → Prop) (G : cG) (ws : va_W) (o : Nat) {w h l_o f_o r_o : Nat} (hD : va_D A ws) (hT : cT cy G ws) (hM_o : cIn ws o (.inr (0, [.int (nI w), .int (nI h), .int (nI (w * h)), .int (nI (2 ^ w)), .int (nI (cfo w h)), .ref l_o, .ref f_o, .ref r_o]))) (hO_f_o : G f_o = none) (hM_f_o : cIn ws f_o (.inl (cy 1, (cfo w h), .inr (.inl (fun _ => 0))))) (hO_r_o : G r_o = none) (hM_r_o : cIn ws r_o (.inl (cy 1, (cfo w h), .inr (.inl (fun _ => 0))))) (hb_o : 1 ≤ w ∧ w ≤ 6 ∧ 1 ≤ h ∧ h ≤ 6) (hne_f_o_r_o : f_o ≠ r_o) : Cv l D cy A yX0_drawFours wsX0_drawFours ({ frames := 2, cells := 0, slots := 0, locals := 48 }) 0 0 ws [.ref o] (fun u => ∃ w1, u = (G, w1) ∧ cF (fun b9 => b9 = f_o ∨ b9 = r_o) ws w1 ∧ (cIn w1 f_o (.inl (cy 1, cfo w h, .inr (.inl (bFN w h (cfo w h))))) ∧ cIn w1 r_o (.inl (cy 1, cfo w h, .inr (.inl (bRN w h (cfo w h))))))) := by
  refine Met.ofW (cc := cX0_drawFours) (maxL := 4) (ret := none) (by decide) rfl ?_
  intro p e s m args below meth c s₁ B hml hv
  obtain ⟨rfl, hP, hK, hA, hV⟩ := hv
  have hx := B.exec
  have hb := B.bytes
  have hr := B.returns
  have hts := atoms_spec (ws := wsX0_drawFours) B.pre
  have hown : s.vm.findClass RX0 = some m.cls := findClass_of_methodNamed B.named
  have hlocks := B.notSynchronized
  have hS : va_S A s.heap s.heap [] := va_S.rf
  have hF : cF (fun b9 => b9 = f_o ∨ b9 = r_o) ws ws := cF.rf
  have hl := lv_entry ([.ref o]) (n := 4) (Nat.le_of_ble_eq_true rfl)
  rw [lg_entry_eq]
  generalize (lg_sl ([.ref o]) ++ List.replicate (4 - (lg_sl ([.ref o])).length) Slot.unset).toArray = ls at hl ⊢
  have hl : lv_has ls 4 [(0, .ref o)] := hl
  have k_0 : (0 : Int32).toInt = 0 := by decide
  have k_1 : (1 : Int32).toInt = 1 := by decide
  have hne_f_o_o : f_o ≠ o := fun z9 => by rw [z9] at hM_f_o; exact absurd (hM_f_o.eq hD hM_o) (by intro z; cases z)
  have hne_r_o_o : r_o ≠ o := fun z9 => by rw [z9] at hM_r_o; exact absurd (hM_r_o.eq hD hM_o) (by intro z; cases z)
  refine lv_iconst (v := 0) hx hb dX0_drawFours_0 (by decide) ?_
  refine lv_istore_n (lv' := [(1, .int (0 : Int32)), (0, .ref o)]) hx hb dX0_drawFours_1 rfl hl (by decide) rfl (fun ls hl => ?_)
  refine lv_iconst (v := 0) hx hb dX0_drawFours_2 (by decide) ?_
  refine lv_istore_n (lv' := [(2, .int (0 : Int32)), (1, .int (0 : Int32)), (0, .ref o)]) hx hb dX0_drawFours_3 rfl hl (by decide) rfl (fun ls hl => ?_)
  have loop_4 : ∀ (n : Nat) (k : Nat) (c1 : Nat), (k ≤ h) → (c1 = prS h k * (w * (w - 1) / 2)) → h - k < n → ∀ (wl4 : va_W), cF (fun b9 => b9 = f_o ∨ b9 = r_o) ws wl4 → va_D A wl4 → cT cy G wl4 → cIn wl4 o (.inr (0, [.int (nI w), .int (nI h), .int (nI (w * h)), .int (nI (2 ^ w)), .int (nI (cfo w h)), .ref l_o, .ref f_o, .ref r_o])) → cIn wl4 f_o (.inl (cy 1, (cfo w h), .inr (.inl (bFN w h c1)))) → cIn wl4 r_o (.inl (cy 1, (cfo w h), .inr (.inl (bRN w h c1)))) → ∀ (H : Heap) (locs : List Loc), va_P D vwCl wl4 H → va_S A s.heap H locs → ∀ (ls : Array Slot), lv_has ls 4 [(2, .int (nI k)), (1, .int (nI c1)), (0, .ref o)] → W p l e (headSpec wsX0_drawFours ({ frames := 2, cells := 0, slots := 0, locals := 48 })).room s m #[Value.ref o] below meth c H locs 0 0 (MQ below (va_Qv (fun u => ∃ w1, u = (G, w1) ∧ cF (fun b9 => b9 = f_o ∨ b9 = r_o) ws w1 ∧ (cIn w1 f_o (.inl (cy 1, cfo w h, .inr (.inl (bFN w h (cfo w h))))) ∧ cIn w1 r_o (.inl (cy 1, cfo w h, .inr (.inl (bRN w h (cfo w h))))))) (cB D cy A) A) #[Value.ref o] s 0 0 A) (F0 m 4 ls []) := by
    intro n
    induction n with
    | zero => intro k c1 j4_0 j4_1 hn; exact absurd hn (Nat.not_lt_zero _)
    | succ n ih_4 =>
      intro k c1 j4_0 j4_1 hn_4 wl4 hF hD hT hM_o hM_f_o hM_r_o H locs hP hS ls hl
      have ik_k : (nI k).toInt = (k : Int) := nI_toInt (by omega)
      refine lv_iload_n hx hb dX0_drawFours_4 rfl (lv_at hl 0 rfl) ?_
      refine lv_aload_n hx hb dX0_drawFours_5 rfl (lv_at hl 2 rfl) ?_
      refine t_get (v := .int (nI h)) (C := RX0) (T := TX0) (N := 8) hx hb hts (by decide +kernel) hown hK hP hM_o rfl 1 (by decide) (hts (.fieldLink RX0 17 "ShadowBench$Board" "high" "I") (by decide +kernel)) (fun _ h9 => h9) rfl dX0_drawFours_6 ?_
      have i_h_o : (nI h).toInt = _ := nI_toInt (by omega)
      refine lv_icmp_ge (tgt := 44) hx hb dX0_drawFours_9 (by decide) (fun c9 => ?_) (fun c9 => ?_)
      · skip
        have d9 := c9
        rw [fa_le] at d9
        exact W.vret hx hb hr (fun t ht hW => ⟨⟨(G, wl4), rfl, ⟨wl4, rfl, hF, (by have z9 : c1 = cfo w h := (by have z8 := (prS_0 h (by omega) 0 (by omega)).2.2; rw [j4_1, show k = h by omega, z8]; unfold cfo; rw [Nat.mul_comm]); rw [z9] at hM_f_o hM_r_o; exact ⟨hM_f_o, hM_r_o⟩)⟩, by show va_P D vwCl wl4 t.heap; rw [ht]; exact hP, hD, hT⟩, hS.F ht⟩) hS.2.2 dX0_drawFours_44
      · skip
        have d9 := c9
        rw [fa_le] at d9
        refine lv_iload_n hx hb dX0_drawFours_12 rfl (lv_at hl 0 rfl) ?_
        refine lv_iconst (v := 1) hx hb dX0_drawFours_13 (by decide) ?_
        refine lv_iadd hx hb dX0_drawFours_14 ?_
        refine lv_topi (fun v14 e14 => ?_)
        obtain rfl : v14 = nI (k + 1) := e14.trans (nI_1 _)
        refine lv_istore_n (lv' := [(3, .int (nI (k + 1))), (2, .int (nI k)), (1, .int (nI c1)), (0, .ref o)]) hx hb dX0_drawFours_15 rfl hl (by decide) rfl (fun ls hl => ?_)
        have loop_16 : ∀ (n : Nat) (i : Nat) (d1 : Nat), (k + 1 ≤ i ∧ i ≤ h) → (d1 = (prS h k + (i - (k + 1))) * (w * (w - 1) / 2)) → h - i < n → ∀ (wl16 : va_W), cF (fun b9 => b9 = f_o ∨ b9 = r_o) ws wl16 → va_D A wl16 → cT cy G wl16 → cIn wl16 o (.inr (0, [.int (nI w), .int (nI h), .int (nI (w * h)), .int (nI (2 ^ w)), .int (nI (cfo w h)), .ref l_o, .ref f_o, .ref r_o])) → cIn wl16 f_o (.inl (cy 1, (cfo w h), .inr (.inl (bFN w h d1)))) → cIn wl16 r_o (.inl (cy 1, (cfo w h), .inr (.inl (bRN w h d1)))) → ∀ (H : Heap) (locs : List Loc), va_P D vwCl wl16 H → va_S A s.heap H locs → ∀ (ls : Array Slot), lv_has ls 4 [(3, .int (nI i)), (2, .int (nI k)), (1, .int (nI d1)), (0, .ref o)] → W p l e (headSpec wsX0_drawFours ({ frames := 2, cells := 0, slots := 0, locals := 48 })).room s m #[Value.ref o] below meth c H locs 0 0 (MQ below (va_Qv (fun u => ∃ w1, u = (G, w1) ∧ cF (fun b9 => b9 = f_o ∨ b9 = r_o) ws w1 ∧ (cIn w1 f_o (.inl (cy 1, cfo w h, .inr (.inl (bFN w h (cfo w h))))) ∧ cIn w1 r_o (.inl (cy 1, cfo w h, .inr (.inl (bRN w h (cfo w h))))))) (cB D cy A) A) #[Value.ref o] s 0 0 A) (F0 m 16 ls []) := by
          intro n
          induction n with
          | zero => intro i d1 j16_0 j16_1 hn; exact absurd hn (Nat.not_lt_zero _)
          | succ n ih_16 =>
            intro i d1 j16_0 j16_1 hn_16 wl16 hF hD hT hM_o hM_f_o hM_r_o H locs hP hS ls hl
            have ik_i : (nI i).toInt = (i : Int) := nI_toInt (by omega)
            refine lv_iload_n hx hb dX0_drawFours_16 rfl (lv_at hl 0 rfl) ?_
            refine lv_aload_n hx hb dX0_drawFours_17 rfl (lv_at hl 3 rfl) ?_
            refine t_get (v := .int (nI h)) (C := RX0) (T := TX0) (N := 8) hx hb hts (by decide +kernel) hown hK hP hM_o rfl 1 (by decide) (hts (.fieldLink RX0 17 "ShadowBench$Board" "high" "I") (by decide +kernel)) (fun _ h9 => h9) rfl dX0_drawFours_18 ?_
            refine lv_icmp_ge (tgt := 38) hx hb dX0_drawFours_21 (by decide) (fun c21 => ?_) (fun c21 => ?_)
            · skip
              have d21 := c21
              rw [fa_le] at d21
              refine lv_iinc (v := (nI (k + 1))) (lv' := [(2, .int (nI (k + 1))), (3, .int (nI i)), (1, .int (nI d1)), (0, .ref o)]) hx hb dX0_drawFours_38 hl (k := 1) rfl (nI_1 _) (by decide) rfl (fun ls hl => ?_)
              refine lv_goto (tgt := 4) hx hb dX0_drawFours_41 (by decide) ?_
              exact ih_4 (k + 1) d1 (by omega) (by rw [j16_1, (prS_0 h (by omega) k (by omega)).1, show i = h by omega]) (by omega) wl16 hF hD hT hM_o hM_f_o hM_r_o _ _ hP hS ls (lv_sub hl [0, 2, 3] rfl)
            · skip
              have d21 := c21
              rw [fa_le] at d21
              refine lv_aload_n hx hb dX0_drawFours_24 rfl (lv_at hl 3 rfl) ?_
              refine lv_iload_n hx hb dX0_drawFours_25 rfl (lv_at hl 2 rfl) ?_
              refine lv_iload_n hx hb dX0_drawFours_26 rfl (lv_at hl 1 rfl) ?_
              refine lv_iload_n hx hb dX0_drawFours_27 rfl (lv_at hl 0 rfl) ?_
              refine t_calli (va_runV (g := F0 m 28 ls ([.int (nI i), .int (nI k), .int (nI d1), .ref o])) (As := [.int (nI d1), .int (nI k), .int (nI i)]) (rest := []) ⟨hx, hb, hml, hown, hts⟩ (c_X0_drawFoursOfRows l D cy A G wl16 o d1 k i hD hT hM_o hO_f_o hM_f_o hO_r_o hM_r_o hb_o hne_f_o_r_o (by rw [j16_1]; rfl) ⟨by omega, by omega⟩) (cwV 3 hts gX0_drawFours_X0_drawFoursOfRows rfl rfl rfl (by decide +kernel) ⟨Nat.le_of_ble_eq_true rfl, Nat.le_of_ble_eq_true rfl⟩) (c_preV hM_o rfl hP hK hA hS hV) rfl rfl hl.1 rfl (lv_room (Nat.le_of_ble_eq_true rfl)) dX0_drawFours_28 ⟨Nat.le_of_ble_eq_true rfl, Nat.le_of_ble_eq_true rfl⟩) hS (fun r28 u H locs q28 hP9 hD9 hT9 hS => ?_)
              obtain ⟨w28, rfl, hF28, q28⟩ := q28
              have hP : va_P D vwCl w28 H := hP9
              have hD : va_D A w28 := hD9
              have hT : cT cy G w28 := hT9
              have hM_o := hF28 _ _ (fun z9 => z9.elim (Ne.symm hne_f_o_o) (Ne.symm hne_r_o_o)) hM_o
              have hF := hF.tr hF28
              have hM_f_o : cIn w28 f_o (.inl (cy 1, (cfo w h), .inr (.inl (bFN w h ((prI h k i + 1) * (w * (w - 1) / 2)))))) := q28.2.1
              have hM_r_o : cIn w28 r_o (.inl (cy 1, (cfo w h), .inr (.inl (bRN w h ((prI h k i + 1) * (w * (w - 1) / 2)))))) := q28.2.2
              obtain rfl : r28 = nI ((prI h k i + 1) * (w * (w - 1) / 2)) := q28.1
              refine lv_istore_n (lv' := [(1, .int (nI ((prI h k i + 1) * (w * (w - 1) / 2)))), (3, .int (nI i)), (2, .int (nI k)), (0, .ref o)]) hx hb dX0_drawFours_31 rfl hl (by decide) rfl (fun ls hl => ?_)
              refine lv_iinc (v := (nI (i + 1))) (lv' := [(3, .int (nI (i + 1))), (1, .int (nI ((prI h k i + 1) * (w * (w - 1) / 2)))), (2, .int (nI k)), (0, .ref o)]) hx hb dX0_drawFours_32 hl (k := 1) rfl (nI_1 _) (by decide) rfl (fun ls hl => ?_)
              refine lv_goto (tgt := 16) hx hb dX0_drawFours_35 (by decide) ?_
              exact ih_16 (i + 1) (((prI h k i + 1) * (w * (w - 1) / 2))) (by omega) (by unfold prI; rw [show i + 1 - (k + 1) = i - (k + 1) + 1 by omega]; rfl) (by omega) w28 hF hD hT hM_o hM_f_o hM_r_o _ _ hP hS ls (lv_sub hl [0, 2, 1, 3] rfl)
        exact loop_16 (h + 1) (k + 1) c1 (by omega) (by rw [j4_1, Nat.sub_self, Nat.add_zero]) (by omega) wl4 hF hD hT hM_o hM_f_o hM_r_o _ _ hP hS ls (lv_sub hl [0, 1, 2, 3] rfl)
  exact loop_4 (h + 1) 0 0 (by omega) (by rw [(prS_0 h (by omega) 0 (by omega)).2.1, Nat.zero_mul]) (by omega) ws hF hD hT hM_o (show cIn _ _ (.inl (cy 1, cfo w h, .inr (.inl (bFN w h 0)))) by rw [bFN_0]; exact hM_f_o) (show cIn _ _ (.inl (cy 1, cfo w h, .inr (.inl (bRN w h 0)))) by rw [bRN_0]; exact hM_r_o) _ _ hP hS ls (lv_sub hl [0, 1, 2] rfl)
set_option maxHeartbeats 4000000 in
set_option maxRecDepth 100000 in
theorem c_X0_init (l : Launch) (D : va_G) (cy : Nat → ClassId) (A : Nat → Prop) (G : cG) (ws : va_W) (o : Nat) (w : Nat) (h : Nat)  (hD : va_D A ws) (hT : cT cy G ws) (hO_o : G o = none) (hM_o : cIn ws o (.inr (0, [.int 0, .int 0, .int 0, .int 0, .int 0, .null, .null, .null]))) (hb0 : 1 ≤ w ∧ w ≤ 6 ∧ 1 ≤ h ∧ h ≤ 6) : Cv l D cy A yX0_init wsX0_init ({ frames := 3, cells := 3, slots := 494, locals := 71 }) 3 494 ws [.ref o, .int (nI w), .int (nI h)] (fun u => cX (some o) (chs [1]) G ws u.1 u.2 ∧ u.1 o = some (2, w, h) ∧ (True)) := by
  refine Met.ofW (cc := cX0_init) (maxL := 3) (ret := none) (by decide) rfl ?_
  intro p e s m args below meth c s₁ B hml hv
  obtain ⟨rfl, hP, hK, hA, hV⟩ := hv
  have hx := B.exec
  have hb := B.bytes
  have hr := B.returns
  have hts := atoms_spec (ws := wsX0_init) B.pre
  have hown : s.vm.findClass RX0 = some m.cls := findClass_of_methodNamed B.named
  have hlocks := B.notSynchronized
  have hS : va_S A s.heap s.heap [] := va_S.rf
  have hin2 : meth.name = "<init>" := (name_of_methodNamed B.named B.method).1
  have hX : cX (some o) (chs [1]) G ws G ws := cX.rf
  have hM0_o := hM_o
  have hl := lv_entry ([.ref o, .int (nI w), .int (nI h)]) (n := 3) (Nat.le_of_ble_eq_true rfl)
  rw [lg_entry_eq]
  generalize (lg_sl ([.ref o, .int (nI w), .int (nI h)]) ++ List.replicate (3 - (lg_sl ([.ref o, .int (nI w), .int (nI h)])).length) Slot.unset).toArray = ls at hl ⊢
  have hl : lv_has ls 3 [(0, .ref o), (1, .int (nI w)), (2, .int (nI h))] := hl
  have k_0 : (0 : Int32).toInt = 0 := by decide
  have k_1 : (1 : Int32).toInt = 1 := by decide
  have k_44 : (44 : Int32).toInt = 44 := by decide
  have ik_w : (nI w).toInt = (w : Int) := nI_toInt (by omega)
  have ik_h : (nI h).toInt = (h : Int) := nI_toInt (by omega)
  have hfo := cb_fo hb0
  have ifo : (nI (cfo w h)).toInt = (cfo w h : Int) := nI_toInt (by omega)
  refine lv_aload_n hx hb dX0_init_0 rfl (lv_at hl 0 rfl) ?_
  refine W.objInit hx hb hown (hts (.methodLink RX0 1 objectInit) (by decide +kernel)) (hts (.instanceMethod objectInit) (by decide +kernel)) (hts (.code objectInit ⟨#[0xb1]⟩ 1 none) (by decide +kernel)) rfl (by rw [hml]; exact hl.1) rfl dX0_init_1 (Nat.le_of_ble_eq_true rfl) (Nat.le_of_ble_eq_true rfl) ?_
  refine W.eq (g2 := F0 m 4 ls []) rfl ?_
  refine lv_aload_n hx hb dX0_init_4 rfl (lv_at hl 0 rfl) ?_
  refine lv_bipush (v := 44) hx hb dX0_init_5 (by decide) ?_
  refine t_newl0 hx hb (hts (.arrayClass .long) (by decide +kernel)) hK hP hD hS hA hT 44 (N := 44) (by decide) rfl (by omega) (by decide) (Nat.le_of_ble_eq_true rfl) (Nat.le_of_ble_eq_true rfl) dX0_init_7 (fun q7 H w7 hM_q7 hO_q7 hF7 hX7 hk7 hP hD hT hS => ?_)
  have hN_q7 := hX.new1 hM_o hO_q7 hF7
  have hne_o_q7 : o ≠ q7 := fun z => hF7 _ (z ▸ hM_o)
  have hM_o := hk7 _ _ hM_o
  have hX := hX.tr (hX7 _ _)
  refine t_putF (v := .ref q7) (C := RX0) (T := TX0) (N := 8) (ty0 := tyX0) hx hb hts (by decide +kernel) tyX0_ok nmX0 hown hK hP hD hS hM_o rfl 5 (by decide) (hts (.fieldLink RX0 9 "ShadowBench$Board" "lines" "[J") (by decide +kernel)) (fun _ h9 => h9) rfl hin2 rfl rfl rfl (Nat.le_of_ble_eq_true rfl) dX0_init_9 (fun H locs w9 hU9 hP hD hS => ?_)
  have hM_q7 := hU9.2 _ _ (Ne.symm hne_o_q7) hM_q7
  have hT := hT.up0 hU9 hO_o
  have hM_o : cIn w9 o (.inr (0, [.int 0, .int 0, .int 0, .int 0, .int 0, .ref q7, .null, .null])) := hU9.1
  have hX := hX.tr (cX.up hU9 (Or.inl rfl))
  refine lv_aload_n hx hb dX0_init_12 rfl (lv_at hl 0 rfl) ?_
  refine lv_iload_n hx hb dX0_init_13 rfl (lv_at hl 1 rfl) ?_
  refine t_putF (v := .int (nI w)) (C := RX0) (T := TX0) (N := 8) (ty0 := tyX0) hx hb hts (by decide +kernel) tyX0_ok nmX0 hown hK hP hD hS hM_o rfl 0 (by decide) (hts (.fieldLink RX0 13 "ShadowBench$Board" "wide" "I") (by decide +kernel)) (fun _ h9 => h9) rfl hin2 rfl rfl rfl (Nat.le_of_ble_eq_true rfl) dX0_init_14 (fun H locs w14 hU14 hP hD hS => ?_)
  have hM_q7 := hU14.2 _ _ (Ne.symm hne_o_q7) hM_q7
  have hT := hT.up0 hU14 hO_o
  have hM_o : cIn w14 o (.inr (0, [.int (nI w), .int 0, .int 0, .int 0, .int 0, .ref q7, .null, .null])) := hU14.1
  have hX := hX.tr (cX.up hU14 (Or.inl rfl))
  refine lv_aload_n hx hb dX0_init_17 rfl (lv_at hl 0 rfl) ?_
  refine lv_iload_n hx hb dX0_init_18 rfl (lv_at hl 2 rfl) ?_
  refine t_putF (v := .int (nI h)) (C := RX0) (T := TX0) (N := 8) (ty0 := tyX0) hx hb hts (by decide +kernel) tyX0_ok nmX0 hown hK hP hD hS hM_o rfl 1 (by decide) (hts (.fieldLink RX0 17 "ShadowBench$Board" "high" "I") (by decide +kernel)) (fun _ h9 => h9) rfl hin2 rfl rfl rfl (Nat.le_of_ble_eq_true rfl) dX0_init_19 (fun H locs w19 hU19 hP hD hS => ?_)
  have hM_q7 := hU19.2 _ _ (Ne.symm hne_o_q7) hM_q7
  have hT := hT.up0 hU19 hO_o
  have hM_o : cIn w19 o (.inr (0, [.int (nI w), .int (nI h), .int 0, .int 0, .int 0, .ref q7, .null, .null])) := hU19.1
  have hX := hX.tr (cX.up hU19 (Or.inl rfl))
  refine lv_aload_n hx hb dX0_init_22 rfl (lv_at hl 0 rfl) ?_
  refine lv_iload_n hx hb dX0_init_23 rfl (lv_at hl 1 rfl) ?_
  refine lv_iload_n hx hb dX0_init_24 rfl (lv_at hl 2 rfl) ?_
  refine lv_imul hx hb dX0_init_25 ?_
  refine lv_topi (fun v25 e25 => ?_)
  obtain rfl : v25 = nI (w * h) := e25.trans (pk_mul _ _)
  refine t_putF (v := .int (nI (w * h))) (C := RX0) (T := TX0) (N := 8) (ty0 := tyX0) hx hb hts (by decide +kernel) tyX0_ok nmX0 hown hK hP hD hS hM_o rfl 2 (by decide) (hts (.fieldLink RX0 20 "ShadowBench$Board" "squares" "I") (by decide +kernel)) (fun _ h9 => h9) rfl hin2 rfl rfl rfl (Nat.le_of_ble_eq_true rfl) dX0_init_26 (fun H locs w26 hU26 hP hD hS => ?_)
  have hM_q7 := hU26.2 _ _ (Ne.symm hne_o_q7) hM_q7
  have hT := hT.up0 hU26 hO_o
  have hM_o : cIn w26 o (.inr (0, [.int (nI w), .int (nI h), .int (nI (w * h)), .int 0, .int 0, .ref q7, .null, .null])) := hU26.1
  have hX := hX.tr (cX.up hU26 (Or.inl rfl))
  refine lv_aload_n hx hb dX0_init_29 rfl (lv_at hl 0 rfl) ?_
  refine lv_iconst (v := 1) hx hb dX0_init_30 (by decide) ?_
  refine lv_iload_n hx hb dX0_init_31 rfl (lv_at hl 1 rfl) ?_
  refine lv_ishl hx hb dX0_init_32 ?_
  refine lv_topi (fun v32 e32 => ?_)
  obtain rfl : v32 = nI (2 ^ w) := cI_shl hb0 e32
  refine t_putF (v := .int (nI (2 ^ w))) (C := RX0) (T := TX0) (N := 8) (ty0 := tyX0) hx hb hts (by decide +kernel) tyX0_ok nmX0 hown hK hP hD hS hM_o rfl 3 (by decide) (hts (.fieldLink RX0 23 "ShadowBench$Board" "rowNumbers" "I") (by decide +kernel)) (fun _ h9 => h9) rfl hin2 rfl rfl rfl (Nat.le_of_ble_eq_true rfl) dX0_init_33 (fun H locs w33 hU33 hP hD hS => ?_)
  have hM_q7 := hU33.2 _ _ (Ne.symm hne_o_q7) hM_q7
  have hT := hT.up0 hU33 hO_o
  have hM_o : cIn w33 o (.inr (0, [.int (nI w), .int (nI h), .int (nI (w * h)), .int (nI (2 ^ w)), .int 0, .ref q7, .null, .null])) := hU33.1
  have hX := hX.tr (cX.up hU33 (Or.inl rfl))
  refine lv_aload_n hx hb dX0_init_36 rfl (lv_at hl 0 rfl) ?_
  refine lv_iload_n hx hb dX0_init_37 rfl (lv_at hl 1 rfl) ?_
  refine t_pu (As := [.int (nI w)]) (rest := [.ref o]) ⟨hx, hb, hml, hown, hts⟩ (c_X0_pairsOf l (nI w) (by omega)) (va_cwS 1 hts gX0_init_X0_pairsOf rfl rfl rfl (by decide +kernel) ⟨Nat.le_of_ble_eq_true rfl, Nat.le_of_ble_eq_true rfl⟩) hP rfl hl.1 rfl (Nat.le_of_ble_eq_true rfl) dX0_init_38 ⟨Nat.le_of_ble_eq_true rfl, Nat.le_of_ble_eq_true rfl⟩ hS (fun r38 H locs q38 hP hS => ?_)
  refine lv_iload_n hx hb dX0_init_41 rfl (lv_at hl 2 rfl) ?_
  refine t_pu (As := [.int (nI h)]) (rest := [.int r38, .ref o]) ⟨hx, hb, hml, hown, hts⟩ (c_X0_pairsOf l (nI h) (by omega)) (va_cwS 1 hts gX0_init_X0_pairsOf rfl rfl rfl (by decide +kernel) ⟨Nat.le_of_ble_eq_true rfl, Nat.le_of_ble_eq_true rfl⟩) hP rfl hl.1 rfl (Nat.le_of_ble_eq_true rfl) dX0_init_42 ⟨Nat.le_of_ble_eq_true rfl, Nat.le_of_ble_eq_true rfl⟩ hS (fun r42 H locs q42 hP hS => ?_)
  refine lv_imul hx hb dX0_init_45 ?_
  refine lv_topi (fun v45 e45 => ?_)
  obtain rfl : v45 = nI (cfo w h) := cI_fo hb0 e45 q38 q42
  refine t_putF (v := .int (nI (cfo w h))) (C := RX0) (T := TX0) (N := 8) (ty0 := tyX0) hx hb hts (by decide +kernel) tyX0_ok nmX0 hown hK hP hD hS hM_o rfl 4 (by decide) (hts (.fieldLink RX0 30 "ShadowBench$Board" "fours" "I") (by decide +kernel)) (fun _ h9 => h9) rfl hin2 rfl rfl rfl (Nat.le_of_ble_eq_true rfl) dX0_init_46 (fun H locs w46 hU46 hP hD hS => ?_)
  have hM_q7 := hU46.2 _ _ (Ne.symm hne_o_q7) hM_q7
  have hT := hT.up0 hU46 hO_o
  have hM_o : cIn w46 o (.inr (0, [.int (nI w), .int (nI h), .int (nI (w * h)), .int (nI (2 ^ w)), .int (nI (cfo w h)), .ref q7, .null, .null])) := hU46.1
  have hX := hX.tr (cX.up hU46 (Or.inl rfl))
  refine lv_aload_n hx hb dX0_init_49 rfl (lv_at hl 0 rfl) ?_
  refine lv_aload_n hx hb dX0_init_50 rfl (lv_at hl 0 rfl) ?_
  refine t_get (v := .int (nI (cfo w h))) (C := RX0) (T := TX0) (N := 8) hx hb hts (by decide +kernel) hown hK hP hM_o rfl 4 (by decide) (hts (.fieldLink RX0 30 "ShadowBench$Board" "fours" "I") (by decide +kernel)) (fun _ h9 => h9) rfl dX0_init_51 ?_
  refine t_newl0 hx hb (hts (.arrayClass .long) (by decide +kernel)) hK hP hD hS hA hT 225 (N := (cfo w h)) (by rw [fa_lt]; omega) (nI_clamp (by omega)) (by omega) (by decide) (Nat.le_of_ble_eq_true rfl) (Nat.le_of_ble_eq_true rfl) dX0_init_54 (fun q54 H w54 hM_q54 hO_q54 hF54 hX54 hk54 hP hD hT hS => ?_)
  have hN_q54 := hX.new1 hM_o hO_q54 hF54
  have hne_o_q54 : o ≠ q54 := fun z => hF54 _ (z ▸ hM_o)
  have hne_q7_q54 : q7 ≠ q54 := fun z => hF54 _ (z ▸ hM_q7)
  have hM_o := hk54 _ _ hM_o
  have hM_q7 := hk54 _ _ hM_q7
  have hX := hX.tr (hX54 _ _)
  refine t_putF (v := .ref q54) (C := RX0) (T := TX0) (N := 8) (ty0 := tyX0) hx hb hts (by decide +kernel) tyX0_ok nmX0 hown hK hP hD hS hM_o rfl 6 (by decide) (hts (.fieldLink RX0 33 "ShadowBench$Board" "falling" "[J") (by decide +kernel)) (fun _ h9 => h9) rfl hin2 rfl rfl rfl (Nat.le_of_ble_eq_true rfl) dX0_init_56 (fun H locs w56 hU56 hP hD hS => ?_)
  have hM_q7 := hU56.2 _ _ (Ne.symm hne_o_q7) hM_q7
  have hM_q54 := hU56.2 _ _ (Ne.symm hne_o_q54) hM_q54
  have hT := hT.up0 hU56 hO_o
  have hM_o : cIn w56 o (.inr (0, [.int (nI w), .int (nI h), .int (nI (w * h)), .int (nI (2 ^ w)), .int (nI (cfo w h)), .ref q7, .ref q54, .null])) := hU56.1
  have hX := hX.tr (cX.up hU56 (Or.inl rfl))
  refine lv_aload_n hx hb dX0_init_59 rfl (lv_at hl 0 rfl) ?_
  refine lv_aload_n hx hb dX0_init_60 rfl (lv_at hl 0 rfl) ?_
  refine t_get (v := .int (nI (cfo w h))) (C := RX0) (T := TX0) (N := 8) hx hb hts (by decide +kernel) hown hK hP hM_o rfl 4 (by decide) (hts (.fieldLink RX0 30 "ShadowBench$Board" "fours" "I") (by decide +kernel)) (fun _ h9 => h9) rfl dX0_init_61 ?_
  refine t_newl0 hx hb (hts (.arrayClass .long) (by decide +kernel)) hK hP hD hS hA hT 225 (N := (cfo w h)) (by rw [fa_lt]; omega) (nI_clamp (by omega)) (by omega) (by decide) (Nat.le_of_ble_eq_true rfl) (Nat.le_of_ble_eq_true rfl) dX0_init_64 (fun q64 H w64 hM_q64 hO_q64 hF64 hX64 hk64 hP hD hT hS => ?_)
  have hN_q64 := hX.new1 hM_o hO_q64 hF64
  have hne_o_q64 : o ≠ q64 := fun z => hF64 _ (z ▸ hM_o)
  have hne_q54_q64 : q54 ≠ q64 := fun z => hF64 _ (z ▸ hM_q54)
  have hne_q7_q64 : q7 ≠ q64 := fun z => hF64 _ (z ▸ hM_q7)
  have hM_o := hk64 _ _ hM_o
  have hM_q7 := hk64 _ _ hM_q7
  have hM_q54 := hk64 _ _ hM_q54
  have hX := hX.tr (hX64 _ _)
  refine t_putF (v := .ref q64) (C := RX0) (T := TX0) (N := 8) (ty0 := tyX0) hx hb hts (by decide +kernel) tyX0_ok nmX0 hown hK hP hD hS hM_o rfl 7 (by decide) (hts (.fieldLink RX0 36 "ShadowBench$Board" "rising" "[J") (by decide +kernel)) (fun _ h9 => h9) rfl hin2 rfl rfl rfl (Nat.le_of_ble_eq_true rfl) dX0_init_66 (fun H locs w66 hU66 hP hD hS => ?_)
  have hM_q7 := hU66.2 _ _ (Ne.symm hne_o_q7) hM_q7
  have hM_q54 := hU66.2 _ _ (Ne.symm hne_o_q54) hM_q54
  have hM_q64 := hU66.2 _ _ (Ne.symm hne_o_q64) hM_q64
  have hT := hT.up0 hU66 hO_o
  have hM_o : cIn w66 o (.inr (0, [.int (nI w), .int (nI h), .int (nI (w * h)), .int (nI (2 ^ w)), .int (nI (cfo w h)), .ref q7, .ref q54, .ref q64])) := hU66.1
  have hX := hX.tr (cX.up hU66 (Or.inl rfl))
  refine lv_aload_n hx hb dX0_init_69 rfl (lv_at hl 0 rfl) ?_
  refine t_callv (va_runV (g := F0 m 70 ls ([.ref o])) (As := []) (rest := []) ⟨hx, hb, hml, hown, hts⟩ (c_X0_drawLines l D cy A G w66 o hD hT hM_o hO_q7 hM_q7 hb0) (cwV 0 hts gX0_init_X0_drawLines rfl rfl rfl (by decide +kernel) ⟨Nat.le_of_ble_eq_true rfl, Nat.le_of_ble_eq_true rfl⟩) (c_preV hM_o rfl hP hK hA hS hV) rfl rfl hl.1 rfl (lv_room (Nat.le_of_ble_eq_true rfl)) dX0_init_70 ⟨Nat.le_of_ble_eq_true rfl, Nat.le_of_ble_eq_true rfl⟩) hS (fun u H locs q70 hP9 hD9 hT9 hS => ?_)
  obtain ⟨w70, rfl, hU70⟩ := q70
  have hP : va_P D vwCl w70 H := hP9
  have hD : va_D A w70 := hD9
  have hT : cT cy G w70 := hT9
  have hM_o := hU70.2 _ _ (hne_o_q7) hM_o
  have hM_q54 := hU70.2 _ _ (Ne.symm hne_q7_q54) hM_q54
  have hM_q64 := hU70.2 _ _ (Ne.symm hne_q7_q64) hM_q64
  have hM_q7 : cIn w70 q7 (.inl (cy 1, 44, .inr (.inl (bLn w h)))) := hU70.1
  have hX := hX.upN hN_q7 hU70
  refine lv_aload_n hx hb dX0_init_73 rfl (lv_at hl 0 rfl) ?_
  refine t_callv (va_runV (g := F0 m 74 ls ([.ref o])) (As := []) (rest := []) ⟨hx, hb, hml, hown, hts⟩ (c_X0_drawFours l D cy A G w70 o hD hT hM_o hO_q54 hM_q54 hO_q64 hM_q64 hb0 hne_q54_q64) (cwV 0 hts gX0_init_X0_drawFours rfl rfl rfl (by decide +kernel) ⟨Nat.le_of_ble_eq_true rfl, Nat.le_of_ble_eq_true rfl⟩) (c_preV hM_o rfl hP hK hA hS hV) rfl rfl hl.1 rfl (lv_room (Nat.le_of_ble_eq_true rfl)) dX0_init_74 ⟨Nat.le_of_ble_eq_true rfl, Nat.le_of_ble_eq_true rfl⟩) hS (fun u H locs q74 hP9 hD9 hT9 hS => ?_)
  obtain ⟨w74, rfl, hF74, q74⟩ := q74
  have hP : va_P D vwCl w74 H := hP9
  have hD : va_D A w74 := hD9
  have hT : cT cy G w74 := hT9
  have hM_o := hF74 _ _ (fun z9 => z9.elim (hne_o_q54) (hne_o_q64)) hM_o
  have hM_q7 := hF74 _ _ (fun z9 => z9.elim (hne_q7_q54) (hne_q7_q64)) hM_q7
  have hX := hX.trG (fun b9 z9 => by rcases z9 with rfl | rfl; exact hN_q54; exact hN_q64) hF74
  have hM_q54 : cIn w74 q54 (.inl (cy 1, (cfo w h), .inr (.inl (bFN w h (cfo w h))))) := q74.1
  have hM_q64 : cIn w74 q64 (.inl (cy 1, (cfo w h), .inr (.inl (bRN w h (cfo w h))))) := q74.2
  obtain ⟨Gk77, hGk⟩ : ∃ z, z = va_up G q7 (some (11, w, h)) := ⟨_, rfl⟩
  have hE9 : cE G Gk77 := by rw [hGk]; exact cE.add hO_q7
  have hG_q7 : Gk77 q7 = some (11, w, h) := by rw [hGk]; simp [va_up]
  have hO9_o : Gk77 o = none := by rw [hGk]; simp only [va_up]; rw [if_neg hne_o_q7]; exact hO_o
  have hO9_q54 : Gk77 q54 = none := by rw [hGk]; simp only [va_up]; rw [if_neg (Ne.symm hne_q7_q54)]; exact hO_q54
  have hO9_q64 : Gk77 q64 = none := by rw [hGk]; simp only [va_up]; rw [if_neg (Ne.symm hne_q7_q64)]; exact hO_q64
  have hT : cT cy Gk77 w74 := by rw [hGk]; exact hT.kind hO_q7 hM_q7 (by rw [← hGk]; exact rfl)
  have hX := hX.trN hN_q7 (show cX (some q7) (chs [1]) G w74 Gk77 w74 by rw [hGk]; exact cX.kind hO_q7)
  have hO_o := hO9_o
  have hO_q54 := hO9_q54
  have hO_q64 := hO9_q64
  obtain ⟨Gk1077, hGk⟩ : ∃ z, z = va_up Gk77 q54 (some (12, w, h)) := ⟨_, rfl⟩
  have hE9 : cE Gk77 Gk1077 := by rw [hGk]; exact cE.add hO_q54
  have hG_q54 : Gk1077 q54 = some (12, w, h) := by rw [hGk]; simp [va_up]
  have hG_q7 := hE9 _ _ hG_q7
  have hO9_o : Gk1077 o = none := by rw [hGk]; simp only [va_up]; rw [if_neg hne_o_q54]; exact hO_o
  have hO9_q64 : Gk1077 q64 = none := by rw [hGk]; simp only [va_up]; rw [if_neg (Ne.symm hne_q54_q64)]; exact hO_q64
  have hT : cT cy Gk1077 w74 := by rw [hGk]; exact hT.kind hO_q54 hM_q54 (by rw [← hGk]; exact rfl)
  have hX := hX.trN hN_q54 (show cX (some q54) (chs [1]) Gk77 w74 Gk1077 w74 by rw [hGk]; exact cX.kind hO_q54)
  have hO_o := hO9_o
  have hO_q64 := hO9_q64
  obtain ⟨Gk2077, hGk⟩ : ∃ z, z = va_up Gk1077 q64 (some (13, w, h)) := ⟨_, rfl⟩
  have hE9 : cE Gk1077 Gk2077 := by rw [hGk]; exact cE.add hO_q64
  have hG_q64 : Gk2077 q64 = some (13, w, h) := by rw [hGk]; simp [va_up]
  have hG_q7 := hE9 _ _ hG_q7
  have hG_q54 := hE9 _ _ hG_q54
  have hO9_o : Gk2077 o = none := by rw [hGk]; simp only [va_up]; rw [if_neg hne_o_q64]; exact hO_o
  have hT : cT cy Gk2077 w74 := by rw [hGk]; exact hT.kind hO_q64 hM_q64 (by rw [← hGk]; exact rfl)
  have hX := hX.trN hN_q64 (show cX (some q64) (chs [1]) Gk1077 w74 Gk2077 w74 by rw [hGk]; exact cX.kind hO_q64)
  have hO_o := hO9_o
  obtain ⟨Gk3077, hGk⟩ : ∃ z, z = va_up Gk2077 o (some (2, w, h)) := ⟨_, rfl⟩
  have hE9 : cE Gk2077 Gk3077 := by rw [hGk]; exact cE.add hO_o
  have hG_o : Gk3077 o = some (2, w, h) := by rw [hGk]; simp [va_up]
  have hG_q7 := hE9 _ _ hG_q7
  have hG_q54 := hE9 _ _ hG_q54
  have hG_q64 := hE9 _ _ hG_q64
  have hT : cT cy Gk3077 w74 := by rw [hGk]; exact hT.kind hO_o hM_o (by rw [← hGk]; exact ⟨hb0, _, _, _, rfl, hG_q7, hG_q54, hG_q64⟩)
  have hX := hX.tr (show cX (some o) (chs [1]) Gk2077 w74 Gk3077 w74 by rw [hGk]; exact cX.kind hO_o)
  refine W.widen (k := 3) (n := 494) (Nat.le_of_ble_eq_true rfl) (Nat.le_of_ble_eq_true rfl) ?_
  exact W.vret hx hb hr (fun t ht hW => ⟨⟨(Gk3077, w74), rfl, ⟨hX, hG_o, trivial⟩, by show va_P D vwCl w74 t.heap; rw [ht]; exact hP, hD, hT⟩, hS.F ht⟩) hS.2.2 dX0_init_77
set_option maxHeartbeats 4000000 in
set_option maxRecDepth 100000 in
theorem c_X2_init (l : Launch) (D : va_G) (cy : Nat → ClassId) (A : Nat → Prop) (G : cG) (ws : va_W) (o : Nat)  (hD : va_D A ws) (hT : cT cy G ws)   : Cv l D cy A yX2_init wsX2_init ({ frames := 1, cells := 0, slots := 0, locals := 20 }) 0 0 ws [.ref o] (fun u => u = (G, ws) ∧ (True)) := by
  refine Met.ofW (cc := cX2_init) (maxL := 1) (ret := none) (by decide) rfl ?_
  intro p e s m args below meth c s₁ B hml hv
  obtain ⟨rfl, hP, hK, hA, hV⟩ := hv
  have hx := B.exec
  have hb := B.bytes
  have hr := B.returns
  have hts := atoms_spec (ws := wsX2_init) B.pre
  have hown : s.vm.findClass RX2 = some m.cls := findClass_of_methodNamed B.named
  have hlocks := B.notSynchronized
  have hS : va_S A s.heap s.heap [] := va_S.rf
  have hin2 : meth.name = "<init>" := (name_of_methodNamed B.named B.method).1
  have hl := lv_entry ([.ref o]) (n := 1) (Nat.le_of_ble_eq_true rfl)
  rw [lg_entry_eq]
  generalize (lg_sl ([.ref o]) ++ List.replicate (1 - (lg_sl ([.ref o])).length) Slot.unset).toArray = ls at hl ⊢
  have hl : lv_has ls 1 [(0, .ref o)] := hl
  have k_0 : (0 : Int32).toInt = 0 := by decide
  refine lv_aload_n hx hb dX2_init_0 rfl (lv_at hl 0 rfl) ?_
  refine W.objInit hx hb hown (hts (.methodLink RX2 1 objectInit) (by decide +kernel)) (hts (.instanceMethod objectInit) (by decide +kernel)) (hts (.code objectInit ⟨#[0xb1]⟩ 1 none) (by decide +kernel)) rfl (by rw [hml]; exact hl.1) rfl dX2_init_1 (Nat.le_of_ble_eq_true rfl) (Nat.le_of_ble_eq_true rfl) ?_
  refine W.eq (g2 := F0 m 4 ls []) rfl ?_
  exact W.vret hx hb hr (fun t ht hW => ⟨⟨(G, ws), rfl, ⟨rfl, trivial⟩, by show va_P D vwCl ws t.heap; rw [ht]; exact hP, hD, hT⟩, hS.F ht⟩) hS.2.2 dX2_init_4
set_option maxHeartbeats 4000000 in
set_option maxRecDepth 100000 in
theorem c_X3_init (l : Launch) (D : va_G) (cy : Nat → ClassId) (A : Nat → Prop) (G : cG) (ws : va_W) (o : Nat) (b : Nat) {kc : Nat} {ms : List Value} {w h : Nat} (hD : va_D A ws) (hT : cT cy G ws) (hO_o : G o = none) (hM_o : cIn ws o (.inr (kc, .null :: .null :: .int 0 :: .long 0 :: .long 0 :: ms))) (hG_b : G b = some (2, w, h)) (hKc_o : cKc kc) : Cv l D cy A yX3_init wsX3_init ({ frames := 2, cells := 1, slots := 44, locals := 40 }) 1 44 ws [.ref o, .ref b] (fun u => cX (some o) (chs []) G ws u.1 u.2 ∧ u.1 o = none ∧ ∃ a, u.1 a = some (14, 44, 0) ∧ cIn u.2 o (.inr (kc, .ref b :: .ref a :: .int 3 :: .long 0 :: .long 0 :: ms))) := by
  refine Met.ofW (cc := cX3_init) (maxL := 2) (ret := none) (by decide) rfl ?_
  intro p e s m args below meth c s₁ B hml hv
  obtain ⟨rfl, hP, hK, hA, hV⟩ := hv
  have hx := B.exec
  have hb := B.bytes
  have hr := B.returns
  have hts := atoms_spec (ws := wsX3_init) B.pre
  have hown : s.vm.findClass RX3 = some m.cls := findClass_of_methodNamed B.named
  have hlocks := B.notSynchronized
  have hS : va_S A s.heap s.heap [] := va_S.rf
  have hinJ : ∀ w ∈ wsX10 ++ wsX30 ++ wsX40 ++ wsX50, w ∈ wsX3_init := by decide +kernel
  have hin2 : meth.name = "<init>" := (name_of_methodNamed B.named B.method).1
  have hX : cX (some o) (chs []) G ws G ws := cX.rf
  have hM0_o := hM_o
  have hl := lv_entry ([.ref o, .ref b]) (n := 2) (Nat.le_of_ble_eq_true rfl)
  rw [lg_entry_eq]
  generalize (lg_sl ([.ref o, .ref b]) ++ List.replicate (2 - (lg_sl ([.ref o, .ref b])).length) Slot.unset).toArray = ls at hl ⊢
  have hl : lv_has ls 2 [(0, .ref o), (1, .ref b)] := hl
  have k_0 : (0 : Int32).toInt = 0 := by decide
  have k_3 : (3 : Int32).toInt = 3 := by decide
  have k_44 : (44 : Int32).toInt = 44 := by decide
  have k_0L : (0 : Int64).toInt = 0 := by decide
  refine lv_aload_n hx hb dX3_init_0 rfl (lv_at hl 0 rfl) ?_
  refine t_callv (va_runIN (g := F0 m 1 ls ([.ref o])) (As := []) (rest := []) (b := o) ⟨hx, hb, hml, hown, hts⟩ (c_X2_init l D cy A G ws o hD hT ) ⟨va_cnB 0 hts gX3_init_X2_init_n3 rfl rfl rfl hV.1.2.1 (hts (.initialized RX2) (by decide +kernel)) (by decide +kernel) ⟨Nat.le_of_ble_eq_true rfl, Nat.le_of_ble_eq_true rfl⟩, rfl, hts (.instanceMethod yX2_init) (by decide +kernel)⟩ (c_preS hP hK hA hS hV) rfl rfl hl.1 rfl (lv_room (Nat.le_of_ble_eq_true rfl)) dX3_init_1 ⟨Nat.le_of_ble_eq_true rfl, Nat.le_of_ble_eq_true rfl⟩) hS (fun u H locs q1 hP9 hD9 hT9 hS => ?_)
  obtain ⟨rfl, q1⟩ := q1
  have hP : va_P D vwCl ws H := hP9
  refine lv_aload_n hx hb dX3_init_4 rfl (lv_at hl 0 rfl) ?_
  refine lv_bipush (v := 44) hx hb dX3_init_5 (by decide) ?_
  refine t_newi hx hb (hts (.arrayClass .int) (by decide +kernel)) hK hP hD hS hA hT (kd9 := 14) (Or.inr (Or.inl rfl)) 44 (N := 44) (by decide) rfl (by omega) (by decide) (Nat.le_of_ble_eq_true rfl) (Nat.le_of_ble_eq_true rfl) dX3_init_7 (fun q7 H w7 G7 hG_q7 hz7 hF7 hX7 hk7 hg7 hP hD hT hS => ?_)
  have hN_q7 := hX.new1 hM_o hz7 hF7
  have hO_o := (hg7 o (fun z => hF7 _ (z ▸ hM_o))).trans hO_o
  have hM_o := hk7 _ _ hM_o
  have hG_b := (hX7 none (chs [])).1 _ _ hG_b
  have hX := hX.tr (hX7 _ _)
  refine t_putFJ (v := .ref q7) hx hb hts hinJ hown hK hP hD hS hKc_o hM_o 1 (by decide) (hts (.fieldLink RX3 11 "ShadowBench$Job" "sums" "[I") (by decide +kernel)) (fun _ h9 => h9) rfl hin2 rfl rfl rfl (Nat.le_of_ble_eq_true rfl) dX3_init_9 (fun H locs w9 hU9 hP hD hS => ?_)
  have hT := hT.up0 hU9 hO_o
  have hM_o : cIn w9 o (.inr (kc, .null :: .ref q7 :: .int 0 :: .long 0 :: .long 0 :: ms)) := hU9.1
  have hX := hX.tr (cX.up hU9 (Or.inl rfl))
  refine lv_aload_n hx hb dX3_init_12 rfl (lv_at hl 0 rfl) ?_
  refine lv_iconst (v := 3) hx hb dX3_init_13 (by decide) ?_
  refine t_putJ (v := .int (3 : Int32)) hx hb hts hinJ hown hK hP hD hS hKc_o hM_o 2 (by decide) (hts (.fieldLink RX3 17 "ShadowBench$Job" "toldWays" "I") (by decide +kernel)) (fun _ h9 => h9) rfl rfl rfl (Nat.le_of_ble_eq_true rfl) dX3_init_14 (fun H locs w14 hU14 hP hD hS => ?_)
  have hT := hT.up0 hU14 hO_o
  have hM_o : cIn w14 o (.inr (kc, .null :: .ref q7 :: .int (3 : Int32) :: .long 0 :: .long 0 :: ms)) := hU14.1
  have hX := hX.tr (cX.up hU14 (Or.inl rfl))
  refine lv_aload_n hx hb dX3_init_17 rfl (lv_at hl 0 rfl) ?_
  refine lv_lconst (v := 0) hx hb dX3_init_18 (by decide) ?_
  refine t_putJ (v := .long (0 : Int64)) hx hb hts hinJ hown hK hP hD hS hKc_o hM_o 3 (by decide) (hts (.fieldLink RX3 21 "ShadowBench$Job" "heldOnes" "J") (by decide +kernel)) (fun _ h9 => h9) rfl rfl rfl (Nat.le_of_ble_eq_true rfl) dX3_init_19 (fun H locs w19 hU19 hP hD hS => ?_)
  have hT := hT.up0 hU19 hO_o
  have hM_o : cIn w19 o (.inr (kc, .null :: .ref q7 :: .int (3 : Int32) :: .long (0 : Int64) :: .long 0 :: ms)) := hU19.1
  have hX := hX.tr (cX.up hU19 (Or.inl rfl))
  refine lv_aload_n hx hb dX3_init_22 rfl (lv_at hl 0 rfl) ?_
  refine lv_lconst (v := 0) hx hb dX3_init_23 (by decide) ?_
  refine t_putJ (v := .long (0 : Int64)) hx hb hts hinJ hown hK hP hD hS hKc_o hM_o 4 (by decide) (hts (.fieldLink RX3 25 "ShadowBench$Job" "heldNoughts" "J") (by decide +kernel)) (fun _ h9 => h9) rfl rfl rfl (Nat.le_of_ble_eq_true rfl) dX3_init_24 (fun H locs w24 hU24 hP hD hS => ?_)
  have hT := hT.up0 hU24 hO_o
  have hM_o : cIn w24 o (.inr (kc, .null :: .ref q7 :: .int (3 : Int32) :: .long (0 : Int64) :: .long (0 : Int64) :: ms)) := hU24.1
  have hX := hX.tr (cX.up hU24 (Or.inl rfl))
  refine lv_aload_n hx hb dX3_init_27 rfl (lv_at hl 0 rfl) ?_
  refine lv_aload_n hx hb dX3_init_28 rfl (lv_at hl 1 rfl) ?_
  refine t_putFJ (v := .ref b) hx hb hts hinJ hown hK hP hD hS hKc_o hM_o 0 (by decide) (hts (.fieldLink RX3 28 "ShadowBench$Job" "board" "LShadowBench$Board;") (by decide +kernel)) (fun _ h9 => h9) rfl hin2 rfl rfl rfl (Nat.le_of_ble_eq_true rfl) dX3_init_29 (fun H locs w29 hU29 hP hD hS => ?_)
  have hT := hT.up0 hU29 hO_o
  have hM_o : cIn w29 o (.inr (kc, .ref b :: .ref q7 :: .int (3 : Int32) :: .long (0 : Int64) :: .long (0 : Int64) :: ms)) := hU29.1
  have hX := hX.tr (cX.up hU29 (Or.inl rfl))
  refine W.widen (k := 1) (n := 44) (Nat.le_of_ble_eq_true rfl) (Nat.le_of_ble_eq_true rfl) ?_
  exact W.vret hx hb hr (fun t ht hW => ⟨⟨(G7, w29), rfl, ⟨hX, hO_o, _, hG_q7, hM_o⟩, by show va_P D vwCl w29 t.heap; rw [ht]; exact hP, hD, hT⟩, hS.F ht⟩) hS.2.2 dX3_init_32
set_option maxHeartbeats 4000000 in
set_option maxRecDepth 100000 in
theorem c_X4_init (l : Launch) (D : va_G) (cy : Nat → ClassId) (A : Nat → Prop) (G : cG) (ws : va_W) (o : Nat) (b : Nat) {kc : Nat} {ms : List Value} {w h : Nat} (hD : va_D A ws) (hT : cT cy G ws) (hO_o : G o = none) (hM_o : cIn ws o (.inr (kc, .null :: .null :: .int 0 :: .long 0 :: .long 0 :: ms))) (hG_b : G b = some (2, w, h)) (hKc_o : cKc kc) : Cv l D cy A yX4_init wsX4_init ({ frames := 3, cells := 1, slots := 44, locals := 61 }) 1 44 ws [.ref o, .ref b] (fun u => cX (some o) (chs []) G ws u.1 u.2 ∧ u.1 o = none ∧ ∃ a, u.1 a = some (14, 44, 0) ∧ cIn u.2 o (.inr (kc, .ref b :: .ref a :: .int 3 :: .long 0 :: .long 0 :: ms))) := by
  refine Met.ofW (cc := cX4_init) (maxL := 2) (ret := none) (by decide) rfl ?_
  intro p e s m args below meth c s₁ B hml hv
  obtain ⟨rfl, hP, hK, hA, hV⟩ := hv
  have hx := B.exec
  have hb := B.bytes
  have hr := B.returns
  have hts := atoms_spec (ws := wsX4_init) B.pre
  have hown : s.vm.findClass RX4 = some m.cls := findClass_of_methodNamed B.named
  have hlocks := B.notSynchronized
  have hS : va_S A s.heap s.heap [] := va_S.rf
  have hin2 : meth.name = "<init>" := (name_of_methodNamed B.named B.method).1
  have hX : cX (some o) (chs []) G ws G ws := cX.rf
  have hM0_o := hM_o
  have hl := lv_entry ([.ref o, .ref b]) (n := 2) (Nat.le_of_ble_eq_true rfl)
  rw [lg_entry_eq]
  generalize (lg_sl ([.ref o, .ref b]) ++ List.replicate (2 - (lg_sl ([.ref o, .ref b])).length) Slot.unset).toArray = ls at hl ⊢
  have hl : lv_has ls 2 [(0, .ref o), (1, .ref b)] := hl
  have k_0 : (0 : Int32).toInt = 0 := by decide
  refine lv_aload_n hx hb dX4_init_0 rfl (lv_at hl 0 rfl) ?_
  refine lv_aload_n hx hb dX4_init_1 rfl (lv_at hl 1 rfl) ?_
  refine t_callv (va_runI (g := F0 m 2 ls ([.ref b, .ref o])) (As := [.ref b]) (rest := []) (b := o) ⟨hx, hb, hml, hown, hts⟩ (c_X3_init l D cy A G ws o b hD hT hO_o hM_o hG_b hKc_o) (cwI 1 hts gX4_init_X3_init rfl rfl rfl (hts (.initialized RX3) (by decide +kernel)) (hts (.methodLink RX4 1 yX3_init) (by decide +kernel)) (hts (.instanceMethod yX3_init) (by decide +kernel)) rfl (by decide +kernel) ⟨Nat.le_of_ble_eq_true rfl, Nat.le_of_ble_eq_true rfl⟩) (c_preS hP hK hA hS hV) rfl rfl hl.1 rfl (lv_room (Nat.le_of_ble_eq_true rfl)) dX4_init_2 ⟨Nat.le_of_ble_eq_true rfl, Nat.le_of_ble_eq_true rfl⟩) hS (fun u H locs q2 hP9 hD9 hT9 hS => ?_)
  obtain ⟨G2, w2⟩ := u
  obtain ⟨hX9, q2⟩ := q2
  have hX9 : cX (some o) (chs []) G ws G2 w2 := hX9
  have hP : va_P D vwCl w2 H := hP9
  have hD : va_D A w2 := hD9
  have hT : cT cy G2 w2 := hT9
  have hG_b := hX9.1 _ _ hG_b
  obtain ⟨hO_o, a2, hG_a2, hM_o⟩ := q2
  have hM_o : cIn w2 o (.inr (kc, .ref b :: .ref a2 :: .int 3 :: .long 0 :: .long 0 :: ms)) := hM_o
  have hX := hX.tr hX9
  refine W.widen (k := 1) (n := 44) (Nat.le_of_ble_eq_true rfl) (Nat.le_of_ble_eq_true rfl) ?_
  exact W.vret hx hb hr (fun t ht hW => ⟨⟨(G2, w2), rfl, ⟨hX, hO_o, _, hG_a2, hM_o⟩, by show va_P D vwCl w2 t.heap; rw [ht]; exact hP, hD, hT⟩, hS.F ht⟩) hS.2.2 dX4_init_5
set_option maxHeartbeats 4000000 in
set_option maxRecDepth 100000 in
theorem c_X1_init (l : Launch) (D : va_G) (cy : Nat → ClassId) (A : Nat → Prop) (G : cG) (ws : va_W) (o : Nat) (b : Nat) {kc : Nat} {ms : List Value} {w h : Nat} (hD : va_D A ws) (hT : cT cy G ws) (hO_o : G o = none) (hM_o : cIn ws o (.inr (kc, .null :: .null :: .int 0 :: .long 0 :: .long 0 :: ms))) (hG_b : G b = some (2, w, h)) (hKc_o : cKc kc) : Cv l D cy A yX1_init wsX1_init ({ frames := 4, cells := 1, slots := 44, locals := 82 }) 1 44 ws [.ref o, .ref b] (fun u => cX (some o) (chs []) G ws u.1 u.2 ∧ u.1 o = none ∧ ∃ a, u.1 a = some (14, 44, 0) ∧ cIn u.2 o (.inr (kc, .ref b :: .ref a :: .int 3 :: .long 0 :: .long 0 :: ms))) := by
  refine Met.ofW (cc := cX1_init) (maxL := 2) (ret := none) (by decide) rfl ?_
  intro p e s m args below meth c s₁ B hml hv
  obtain ⟨rfl, hP, hK, hA, hV⟩ := hv
  have hx := B.exec
  have hb := B.bytes
  have hr := B.returns
  have hts := atoms_spec (ws := wsX1_init) B.pre
  have hown : s.vm.findClass RX1 = some m.cls := findClass_of_methodNamed B.named
  have hlocks := B.notSynchronized
  have hS : va_S A s.heap s.heap [] := va_S.rf
  have hin2 : meth.name = "<init>" := (name_of_methodNamed B.named B.method).1
  have hX : cX (some o) (chs []) G ws G ws := cX.rf
  have hM0_o := hM_o
  have hl := lv_entry ([.ref o, .ref b]) (n := 2) (Nat.le_of_ble_eq_true rfl)
  rw [lg_entry_eq]
  generalize (lg_sl ([.ref o, .ref b]) ++ List.replicate (2 - (lg_sl ([.ref o, .ref b])).length) Slot.unset).toArray = ls at hl ⊢
  have hl : lv_has ls 2 [(0, .ref o), (1, .ref b)] := hl
  have k_0 : (0 : Int32).toInt = 0 := by decide
  refine lv_aload_n hx hb dX1_init_0 rfl (lv_at hl 0 rfl) ?_
  refine lv_aload_n hx hb dX1_init_1 rfl (lv_at hl 1 rfl) ?_
  refine t_callv (va_runI (g := F0 m 2 ls ([.ref b, .ref o])) (As := [.ref b]) (rest := []) (b := o) ⟨hx, hb, hml, hown, hts⟩ (c_X4_init l D cy A G ws o b hD hT hO_o hM_o hG_b hKc_o) (cwI 1 hts gX1_init_X4_init rfl rfl rfl (hts (.initialized RX4) (by decide +kernel)) (hts (.methodLink RX1 1 yX4_init) (by decide +kernel)) (hts (.instanceMethod yX4_init) (by decide +kernel)) rfl (by decide +kernel) ⟨Nat.le_of_ble_eq_true rfl, Nat.le_of_ble_eq_true rfl⟩) (c_preS hP hK hA hS hV) rfl rfl hl.1 rfl (lv_room (Nat.le_of_ble_eq_true rfl)) dX1_init_2 ⟨Nat.le_of_ble_eq_true rfl, Nat.le_of_ble_eq_true rfl⟩) hS (fun u H locs q2 hP9 hD9 hT9 hS => ?_)
  obtain ⟨G2, w2⟩ := u
  obtain ⟨hX9, q2⟩ := q2
  have hX9 : cX (some o) (chs []) G ws G2 w2 := hX9
  have hP : va_P D vwCl w2 H := hP9
  have hD : va_D A w2 := hD9
  have hT : cT cy G2 w2 := hT9
  have hG_b := hX9.1 _ _ hG_b
  obtain ⟨hO_o, a2, hG_a2, hM_o⟩ := q2
  have hM_o : cIn w2 o (.inr (kc, .ref b :: .ref a2 :: .int 3 :: .long 0 :: .long 0 :: ms)) := hM_o
  have hX := hX.tr hX9
  refine W.widen (k := 1) (n := 44) (Nat.le_of_ble_eq_true rfl) (Nat.le_of_ble_eq_true rfl) ?_
  exact W.vret hx hb hr (fun t ht hW => ⟨⟨(G2, w2), rfl, ⟨hX, hO_o, _, hG_a2, hM_o⟩, by show va_P D vwCl w2 t.heap; rw [ht]; exact hP, hD, hT⟩, hS.F ht⟩) hS.2.2 dX1_init_5
set_option maxHeartbeats 4000000 in
set_option maxRecDepth 100000 in
theorem c_X5_init (l : Launch) (D : va_G) (cy : Nat → ClassId) (A : Nat → Prop) (G : cG) (ws : va_W) (o : Nat) (b : Nat) {w h : Nat} (hD : va_D A ws) (hT : cT cy G ws) (hO_o : G o = none) (hM_o : cIn ws o (.inr (4, [.null, .null, .int 0, .long 0, .long 0, .null]))) (hG_b : G b = some (2, w, h))  : Cv l D cy A yX5_init wsX5_init ({ frames := 3, cells := 2, slots := 80, locals := 61 }) 2 80 ws [.ref o, .ref b] (fun u => cX (some o) (chs []) G ws u.1 u.2 ∧ u.1 o = none ∧ ∃ a, u.1 a = some (14, 44, 0) ∧ ∃ c, u.1 c = some (14, w * h, 0) ∧ cIn u.2 o (.inr (4, [.ref b, .ref a, .int 3, .long 0, .long 0, .ref c]))) := by
  refine Met.ofW (cc := cX5_init) (maxL := 2) (ret := none) (by decide) rfl ?_
  intro p e s m args below meth c s₁ B hml hv
  obtain ⟨rfl, hP, hK, hA, hV⟩ := hv
  have hx := B.exec
  have hb := B.bytes
  have hr := B.returns
  have hts := atoms_spec (ws := wsX5_init) B.pre
  have hown : s.vm.findClass RX5 = some m.cls := findClass_of_methodNamed B.named
  have hlocks := B.notSynchronized
  have hS : va_S A s.heap s.heap [] := va_S.rf
  have hin2 : meth.name = "<init>" := (name_of_methodNamed B.named B.method).1
  have hX : cX (some o) (chs []) G ws G ws := cX.rf
  have hM0_o := hM_o
  have hl := lv_entry ([.ref o, .ref b]) (n := 2) (Nat.le_of_ble_eq_true rfl)
  rw [lg_entry_eq]
  generalize (lg_sl ([.ref o, .ref b]) ++ List.replicate (2 - (lg_sl ([.ref o, .ref b])).length) Slot.unset).toArray = ls at hl ⊢
  have hl : lv_has ls 2 [(0, .ref o), (1, .ref b)] := hl
  have k_0 : (0 : Int32).toInt = 0 := by decide
  refine lv_aload_n hx hb dX5_init_0 rfl (lv_at hl 0 rfl) ?_
  refine lv_aload_n hx hb dX5_init_1 rfl (lv_at hl 1 rfl) ?_
  refine t_callv (va_runI (g := F0 m 2 ls ([.ref b, .ref o])) (As := [.ref b]) (rest := []) (b := o) ⟨hx, hb, hml, hown, hts⟩ (c_X3_init l D cy A G ws o b hD hT hO_o hM_o hG_b (by unfold cKc; omega)) (cwI 1 hts gX5_init_X3_init rfl rfl rfl (hts (.initialized RX3) (by decide +kernel)) (hts (.methodLink RX5 1 yX3_init) (by decide +kernel)) (hts (.instanceMethod yX3_init) (by decide +kernel)) rfl (by decide +kernel) ⟨Nat.le_of_ble_eq_true rfl, Nat.le_of_ble_eq_true rfl⟩) (c_preS hP hK hA hS hV) rfl rfl hl.1 rfl (lv_room (Nat.le_of_ble_eq_true rfl)) dX5_init_2 ⟨Nat.le_of_ble_eq_true rfl, Nat.le_of_ble_eq_true rfl⟩) hS (fun u H locs q2 hP9 hD9 hT9 hS => ?_)
  obtain ⟨G2, w2⟩ := u
  obtain ⟨hX9, q2⟩ := q2
  have hX9 : cX (some o) (chs []) G ws G2 w2 := hX9
  have hP : va_P D vwCl w2 H := hP9
  have hD : va_D A w2 := hD9
  have hT : cT cy G2 w2 := hT9
  have hG_b := hX9.1 _ _ hG_b
  obtain ⟨hO_o, a2, hG_a2, hM_o⟩ := q2
  have hM_o : cIn w2 o (.inr (4, [.ref b, .ref a2, .int 3, .long 0, .long 0, .null])) := hM_o
  have hX := hX.tr hX9
  refine lv_aload_n hx hb dX5_init_5 rfl (lv_at hl 0 rfl) ?_
  refine lv_aload_n hx hb dX5_init_6 rfl (lv_at hl 1 rfl) ?_
  obtain ⟨_, hM_b, hb_b, l_b, f_b, r_b, rfl, hG_l_b, hG_f_b, hG_r_b⟩ := hT _ _ hG_b
  refine t_get (v := .int (nI (w * h))) (C := RX0) (T := TX0) (N := 8) hx hb hts (by decide +kernel) hown hK hP hM_b rfl 2 (by decide) (hts (.fieldLink RX5 7 "ShadowBench$Board" "squares" "I") (by decide +kernel)) (fun _ h9 => h9) rfl dX5_init_7 ?_
  have m_wh_b := cb_mul hb_b
  have i_wh_b : (nI (w * h)).toInt = _ := nI_toInt (by omega)
  refine t_newi hx hb (hts (.arrayClass .int) (by decide +kernel)) hK hP hD hS hA hT (kd9 := 14) (Or.inr (Or.inl rfl)) 36 (N := (w * h)) (by rw [fa_lt]; omega) (nI_clamp (by omega)) (by omega) (by decide) (Nat.le_of_ble_eq_true rfl) (Nat.le_of_ble_eq_true rfl) dX5_init_10 (fun q10 H w10 G10 hG_q10 hz10 hF10 hX10 hk10 hg10 hP hD hT hS => ?_)
  have hN_q10 := hX.new1 hM_o hz10 hF10
  have hO_o := (hg10 o (fun z => hF10 _ (z ▸ hM_o))).trans hO_o
  have hM_o := hk10 _ _ hM_o
  have hM_b := hk10 _ _ hM_b
  have hG_b := (hX10 none (chs [])).1 _ _ hG_b
  have hG_a2 := (hX10 none (chs [])).1 _ _ hG_a2
  have hG_l_b := (hX10 none (chs [])).1 _ _ hG_l_b
  have hG_f_b := (hX10 none (chs [])).1 _ _ hG_f_b
  have hG_r_b := (hX10 none (chs [])).1 _ _ hG_r_b
  have hX := hX.tr (hX10 _ _)
  refine t_putF (v := .ref q10) (C := RX5) (T := TX5) (N := 6) (ty0 := tyX5) hx hb hts (by decide +kernel) tyX5_ok nmX5 hown hK hP hD hS hM_o rfl 5 (by decide) (hts (.fieldLink RX5 13 "ShadowBench$MarkedJob" "marks" "[I") (by decide +kernel)) (fun _ h9 => h9) rfl hin2 rfl rfl rfl (Nat.le_of_ble_eq_true rfl) dX5_init_12 (fun H locs w12 hU12 hP hD hS => ?_)
  have hM_b := hU12.2 _ _ (Ne.symm (cne0 hO_o hG_b)) hM_b
  have hT := hT.up0 hU12 hO_o
  have hM_o : cIn w12 o (.inr (4, [.ref b, .ref a2, .int 3, .long 0, .long 0, .ref q10])) := hU12.1
  have hX := hX.tr (cX.up hU12 (Or.inl rfl))
  refine W.widen (k := 2) (n := 80) (Nat.le_of_ble_eq_true rfl) (Nat.le_of_ble_eq_true rfl) ?_
  exact W.vret hx hb hr (fun t ht hW => ⟨⟨(G10, w12), rfl, ⟨hX, hO_o, _, hG_a2, _, hG_q10, hM_o⟩, by show va_P D vwCl w12 t.heap; rw [ht]; exact hP, hD, hT⟩, hS.F ht⟩) hS.2.2 dX5_init_15
set_option maxHeartbeats 4000000 in
set_option maxRecDepth 100000 in
theorem c_X3_isTold (l : Launch) (D : va_G) (cy : Nat → ClassId) (A : Nat → Prop) (G : cG) (ws : va_W) (o : Nat) (way : Int32) {kq nq : Nat} (hD : va_D A ws) (hT : cT cy G ws) (hG_o : G o = some (3, kq, nq))  : Ci l D cy A yX3_isTold wsX3_isTold ({ frames := 0, cells := 0, slots := 0, locals := 0 }) 0 0 ws [.ref o, .int way] (fun r0 u => u = (G, ws) ∧ (isBo r0)) := by
  refine Met.ofW (cc := cX3_isTold) (maxL := 2) (ret := (some .boolean)) (by decide) rfl ?_
  intro p e s m args below meth c s₁ B hml hv
  obtain ⟨rfl, hP, hK, hA, hV⟩ := hv
  have hx := B.exec
  have hb := B.bytes
  have hr := B.returns
  have hts := atoms_spec (ws := wsX3_isTold) B.pre
  have hown : s.vm.findClass RX3 = some m.cls := findClass_of_methodNamed B.named
  have hlocks := B.notSynchronized
  have hS : va_S A s.heap s.heap [] := va_S.rf
  have hinJ : ∀ w ∈ wsX10 ++ wsX30 ++ wsX40 ++ wsX50, w ∈ wsX3_isTold := by decide +kernel
  have hl := lv_entry ([.ref o, .int way]) (n := 2) (Nat.le_of_ble_eq_true rfl)
  rw [lg_entry_eq]
  generalize (lg_sl ([.ref o, .int way]) ++ List.replicate (2 - (lg_sl ([.ref o, .int way])).length) Slot.unset).toArray = ls at hl ⊢
  have hl : lv_has ls 2 [(0, .ref o), (1, .int way)] := hl
  have k_0 : (0 : Int32).toInt = 0 := by decide
  have k_1 : (1 : Int32).toInt = 1 := by decide
  refine lv_aload_n hx hb dX3_isTold_0 rfl (lv_at hl 0 rfl) ?_
  obtain ⟨_, hM_o, b_o, s_o, w_o, h_o, t_o, x_o, y_o, ms_o, rfl, hG_b_o, hG_s_o, hJ_o⟩ := hT _ _ hG_o
  refine t_getJ (v := .int t_o) hx hb hts hinJ hown hK hP hJ_o.kc hM_o 2 (by decide) (hts (.fieldLink RX3 17 "ShadowBench$Job" "toldWays" "I") (by decide +kernel)) (fun _ h9 => h9) rfl dX3_isTold_1 ?_
  refine lv_iload_n hx hb dX3_isTold_4 rfl (lv_at hl 1 rfl) ?_
  refine lv_ishr hx hb dX3_isTold_5 ?_
  refine lv_topi (fun v5 e5 => ?_)
  refine lv_iconst (v := 1) hx hb dX3_isTold_6 (by decide) ?_
  refine lv_iand hx hb dX3_isTold_7 ?_
  refine lv_topi (fun v7 e7 => ?_)
  refine lv_iconst (v := 1) hx hb dX3_isTold_8 (by decide) ?_
  refine lv_icmp_ne (tgt := 16) hx hb dX3_isTold_9 (by decide) (fun c9 => ?_) (fun c9 => ?_)
  · skip
    have d9 := c9
    rw [fa_eq] at d9
    refine lv_iconst (v := 0) hx hb dX3_isTold_16 (by decide) ?_
    exact W.zret (v := (0 : Int32)) hx hb hr (by decide) (fun t ht hW => ⟨⟨_, (G, ws), rfl, ⟨rfl, Or.inl rfl⟩, by show va_P D vwCl ws t.heap; rw [ht]; exact hP, hD, hT⟩, hS.F ht⟩) hS.2.2 dX3_isTold_17
  · skip
    have d9 := c9
    rw [fa_eq] at d9
    refine lv_iconst (v := 1) hx hb dX3_isTold_12 (by decide) ?_
    refine lv_goto (tgt := 17) hx hb dX3_isTold_13 (by decide) ?_
    exact W.zret (v := (1 : Int32)) hx hb hr (by decide) (fun t ht hW => ⟨⟨_, (G, ws), rfl, ⟨rfl, Or.inr rfl⟩, by show va_P D vwCl ws t.heap; rw [ht]; exact hP, hD, hT⟩, hS.F ht⟩) hS.2.2 dX3_isTold_17
set_option maxHeartbeats 4000000 in
set_option maxRecDepth 100000 in
theorem c_X3_sumOf (l : Launch) (D : va_G) (cy : Nat → ClassId) (A : Nat → Prop) (G : cG) (ws : va_W) (o : Nat) (way : Int32) (line : Int32) {kq nq : Nat} (hD : va_D A ws) (hT : cT cy G ws) (hG_o : G o = some (3, kq, nq))  : Ci l D cy A yX3_sumOf wsX3_sumOf ({ frames := 0, cells := 0, slots := 0, locals := 0 }) 0 0 ws [.ref o, .int way, .int line] (fun r0 u => u = (G, ws) ∧ (True)) := by
  refine Met.ofW (cc := cX3_sumOf) (maxL := 4) (ret := (some .int)) (by decide) rfl ?_
  intro p e s m args below meth c s₁ B hml hv
  obtain ⟨rfl, hP, hK, hA, hV⟩ := hv
  have hx := B.exec
  have hb := B.bytes
  have hr := B.returns
  have hts := atoms_spec (ws := wsX3_sumOf) B.pre
  have hown : s.vm.findClass RX3 = some m.cls := findClass_of_methodNamed B.named
  have hlocks := B.notSynchronized
  have hS : va_S A s.heap s.heap [] := va_S.rf
  have hinJ : ∀ w ∈ wsX10 ++ wsX30 ++ wsX40 ++ wsX50, w ∈ wsX3_sumOf := by decide +kernel
  have hl := lv_entry ([.ref o, .int way, .int line]) (n := 4) (Nat.le_of_ble_eq_true rfl)
  rw [lg_entry_eq]
  generalize (lg_sl ([.ref o, .int way, .int line]) ++ List.replicate (4 - (lg_sl ([.ref o, .int way, .int line])).length) Slot.unset).toArray = ls at hl ⊢
  have hl : lv_has ls 4 [(0, .ref o), (1, .int way), (2, .int line)] := hl
  have k_0 : (0 : Int32).toInt = 0 := by decide
  have k_11 : (11 : Int32).toInt = 11 := by decide
  refine lv_iload_n hx hb dX3_sumOf_0 rfl (lv_at hl 1 rfl) ?_
  refine lv_bipush (v := 11) hx hb dX3_sumOf_1 (by decide) ?_
  refine lv_imul hx hb dX3_sumOf_3 ?_
  refine lv_topi (fun v3 e3 => ?_)
  refine lv_iload_n hx hb dX3_sumOf_4 rfl (lv_at hl 2 rfl) ?_
  refine lv_iadd hx hb dX3_sumOf_5 ?_
  refine lv_topi (fun v5 e5 => ?_)
  refine lv_istore_n (lv' := [(3, .int v5), (0, .ref o), (1, .int way), (2, .int line)]) hx hb dX3_sumOf_6 rfl hl (by decide) rfl (fun ls hl => ?_)
  refine lv_iload_n hx hb dX3_sumOf_7 rfl (lv_at hl 0 rfl) ?_
  refine lv_if_lt (tgt := 29) hx hb dX3_sumOf_8 (by decide) (fun c8 => ?_) (fun c8 => ?_)
  · skip
    have d8 := c8
    rw [fa_lt] at d8
    refine lv_iconst (v := 0) hx hb dX3_sumOf_29 (by decide) ?_
    exact W.iret (v := (0 : Int32)) hx hb hr (fun t ht hW => ⟨⟨_, (G, ws), rfl, ⟨rfl, trivial⟩, by show va_P D vwCl ws t.heap; rw [ht]; exact hP, hD, hT⟩, hS.F ht⟩) hS.2.2 dX3_sumOf_30
  · skip
    have d8 := c8
    rw [fa_lt] at d8
    refine lv_iload_n hx hb dX3_sumOf_11 rfl (lv_at hl 0 rfl) ?_
    refine lv_aload_n hx hb dX3_sumOf_12 rfl (lv_at hl 1 rfl) ?_
    obtain ⟨_, hM_o, b_o, s_o, w_o, h_o, t_o, x_o, y_o, ms_o, rfl, hG_b_o, hG_s_o, hJ_o⟩ := hT _ _ hG_o
    refine t_getJ (v := .ref s_o) hx hb hts hinJ hown hK hP hJ_o.kc hM_o 1 (by decide) (hts (.fieldLink RX3 11 "ShadowBench$Job" "sums" "[I") (by decide +kernel)) (fun _ h9 => h9) rfl dX3_sumOf_13 ?_
    refine t_alenI hx hb hK hP hT (Or.inr (Or.inl rfl)) hG_s_o dX3_sumOf_16 ?_
    have i16 : (nI 44).toInt = _ := nI_toInt (by omega)
    refine lv_icmp_ge (tgt := 29) hx hb dX3_sumOf_17 (by decide) (fun c17 => ?_) (fun c17 => ?_)
    · skip
      have d17 := c17
      rw [fa_le] at d17
      refine lv_iconst (v := 0) hx hb dX3_sumOf_29 (by decide) ?_
      exact W.iret (v := (0 : Int32)) hx hb hr (fun t ht hW => ⟨⟨_, (G, ws), rfl, ⟨rfl, trivial⟩, by show va_P D vwCl ws t.heap; rw [ht]; exact hP, hD, hT⟩, hS.F ht⟩) hS.2.2 dX3_sumOf_30
    · skip
      have d17 := c17
      rw [fa_le] at d17
      refine lv_aload_n hx hb dX3_sumOf_20 rfl (lv_at hl 1 rfl) ?_
      refine t_getJ (v := .ref s_o) hx hb hts hinJ hown hK hP hJ_o.kc hM_o 1 (by decide) (hts (.fieldLink RX3 11 "ShadowBench$Job" "sums" "[I") (by decide +kernel)) (fun _ h9 => h9) rfl dX3_sumOf_21 ?_
      refine lv_iload_n hx hb dX3_sumOf_24 rfl (lv_at hl 0 rfl) ?_
      refine t_iald hx hb hK hP hT (Or.inr (Or.inl rfl)) hG_s_o (vp_in_iff.mpr ⟨by omega, by omega⟩) dX3_sumOf_25 (fun v25 => ?_)
      refine lv_goto (tgt := 30) hx hb dX3_sumOf_26 (by decide) ?_
      exact W.iret (v := v25) hx hb hr (fun t ht hW => ⟨⟨_, (G, ws), rfl, ⟨rfl, trivial⟩, by show va_P D vwCl ws t.heap; rw [ht]; exact hP, hD, hT⟩, hS.F ht⟩) hS.2.2 dX3_sumOf_30
set_option maxHeartbeats 4000000 in
set_option maxRecDepth 100000 in
theorem c_X3_tellLine (l : Launch) (D : va_G) (cy : Nat → ClassId) (A : Nat → Prop) (G : cG) (ws : va_W) (o : Nat) (way : Int32) (line : Int32) (v : Int32) {kq nq : Nat} (hD : va_D A ws) (hT : cT cy G ws) (hG_o : G o = some (3, kq, nq))  : Cv l D cy A yX3_tellLine wsX3_tellLine ({ frames := 2, cells := 0, slots := 0, locals := 43 }) 0 0 ws [.ref o, .int way, .int line, .int v] (fun u => cX none (chs [3, 14]) G ws u.1 u.2 ∧ (True)) := by
  refine Met.ofW (cc := cX3_tellLine) (maxL := 4) (ret := none) (by decide) rfl ?_
  intro p e s m args below meth c s₁ B hml hv
  obtain ⟨rfl, hP, hK, hA, hV⟩ := hv
  have hx := B.exec
  have hb := B.bytes
  have hr := B.returns
  have hts := atoms_spec (ws := wsX3_tellLine) B.pre
  have hown : s.vm.findClass RX3 = some m.cls := findClass_of_methodNamed B.named
  have hlocks := B.notSynchronized
  have hS : va_S A s.heap s.heap [] := va_S.rf
  have hinJ : ∀ w ∈ wsX10 ++ wsX30 ++ wsX40 ++ wsX50, w ∈ wsX3_tellLine := by decide +kernel
  have hX : cX none (chs [3, 14]) G ws G ws := cX.rf
  have hl := lv_entry ([.ref o, .int way, .int line, .int v]) (n := 4) (Nat.le_of_ble_eq_true rfl)
  rw [lg_entry_eq]
  generalize (lg_sl ([.ref o, .int way, .int line, .int v]) ++ List.replicate (4 - (lg_sl ([.ref o, .int way, .int line, .int v])).length) Slot.unset).toArray = ls at hl ⊢
  have hl : lv_has ls 4 [(0, .ref o), (1, .int way), (2, .int line), (3, .int v)] := hl
  have k_0 : (0 : Int32).toInt = 0 := by decide
  have k_1 : (1 : Int32).toInt = 1 := by decide
  have k_11 : (11 : Int32).toInt = 11 := by decide
  refine lv_aload_n hx hb dX3_tellLine_0 rfl (lv_at hl 0 rfl) ?_
  obtain ⟨_, hM_o, b_o, s_o, w_o, h_o, t_o, x_o, y_o, ms_o, rfl, hG_b_o, hG_s_o, hJ_o⟩ := hT _ _ hG_o
  refine t_getJ (v := .ref b_o) hx hb hts hinJ hown hK hP hJ_o.kc hM_o 0 (by decide) (hts (.fieldLink RX3 28 "ShadowBench$Job" "board" "LShadowBench$Board;") (by decide +kernel)) (fun _ h9 => h9) rfl dX3_tellLine_1 ?_
  refine lv_iload_n hx hb dX3_tellLine_4 rfl (lv_at hl 1 rfl) ?_
  refine lv_iload_n hx hb dX3_tellLine_5 rfl (lv_at hl 2 rfl) ?_
  obtain ⟨_, hM_b_o, hb_b_o, l_b_o, f_b_o, r_b_o, rfl, hG_l_b_o, hG_f_b_o, hG_r_b_o⟩ := hT _ _ hG_b_o
  refine t_calli (va_runV (g := F0 m 6 ls ([.int line, .int way, .ref b_o])) (As := [.int way, .int line]) (rest := []) ⟨hx, hb, hml, hown, hts⟩ (c_X0_isLine l D cy A G ws b_o way line hD hT hG_b_o ) (cwV 2 hts gX3_tellLine_X0_isLine rfl rfl rfl (by decide +kernel) ⟨Nat.le_of_ble_eq_true rfl, Nat.le_of_ble_eq_true rfl⟩) (c_preV hM_b_o rfl hP hK hA hS hV) rfl rfl hl.1 rfl (lv_room (Nat.le_of_ble_eq_true rfl)) dX3_tellLine_6 ⟨Nat.le_of_ble_eq_true rfl, Nat.le_of_ble_eq_true rfl⟩) hS (fun r6 u H locs q6 hP9 hD9 hT9 hS => ?_)
  obtain ⟨rfl, q6⟩ := q6
  have hP : va_P D vwCl ws H := hP9
  refine lv_if_eq (tgt := 36) hx hb dX3_tellLine_9 (by decide) (fun c9 => ?_) (fun c9 => ?_)
  · skip
    have b9 := bo_f q6 c9
    exact W.vret hx hb hr (fun t ht hW => ⟨⟨(G, ws), rfl, ⟨hX, trivial⟩, by show va_P D vwCl ws t.heap; rw [ht]; exact hP, hD, hT⟩, hS.F ht⟩) hS.2.2 dX3_tellLine_36
  · skip
    have b9 := bo_t q6 c9
    have hcl := cLines_b (c_hb hT hG_b_o) way
    refine lv_aload_n hx hb dX3_tellLine_12 rfl (lv_at hl 0 rfl) ?_
    refine t_getJ (v := .ref s_o) hx hb hts hinJ hown hK hP hJ_o.kc hM_o 1 (by decide) (hts (.fieldLink RX3 11 "ShadowBench$Job" "sums" "[I") (by decide +kernel)) (fun _ h9 => h9) rfl dX3_tellLine_13 ?_
    refine lv_iload_n hx hb dX3_tellLine_16 rfl (lv_at hl 1 rfl) ?_
    refine lv_bipush (v := 11) hx hb dX3_tellLine_17 (by decide) ?_
    refine lv_imul hx hb dX3_tellLine_19 ?_
    refine lv_topi (fun v19 e19 => ?_)
    have i19 : v19.toInt = way.toInt * 11 := by rw [e19]; exact mulcR rfl (by omega) (by omega)
    refine lv_iload_n hx hb dX3_tellLine_20 rfl (lv_at hl 2 rfl) ?_
    refine lv_iadd hx hb dX3_tellLine_21 ?_
    refine lv_topi (fun v21 e21 => ?_)
    have i21 : v21.toInt = v19.toInt + line.toInt := by rw [e21]; exact fb_addI (by omega) (by omega)
    refine lv_iload_n hx hb dX3_tellLine_22 rfl (lv_at hl 3 rfl) ?_
    refine t_iast hx hb hK hP hD hS hT (Or.inr (Or.inl rfl)) hG_s_o (vp_in_iff.mpr ⟨by omega, by omega⟩) dX3_tellLine_23 (fun H locs w23 hU23 hP hD hT hS => ?_)
    have hM_o := hU23 _ _ (cne hG_o hG_s_o (show (3 : Nat) ≠ 14 by decide)) hM_o
    have hM_b_o := hU23 _ _ (cne hG_b_o hG_s_o (show (2 : Nat) ≠ 14 by decide)) hM_b_o
    have hX := hX.tr (cX.uF hU23 (Or.inr ⟨_, hG_s_o, rfl⟩))
    refine lv_aload_n hx hb dX3_tellLine_24 rfl (lv_at hl 0 rfl) ?_
    refine lv_dup hx hb dX3_tellLine_25 rfl ?_
    refine t_getJ (v := .int t_o) hx hb hts hinJ hown hK hP hJ_o.kc hM_o 2 (by decide) (hts (.fieldLink RX3 17 "ShadowBench$Job" "toldWays" "I") (by decide +kernel)) (fun _ h9 => h9) rfl dX3_tellLine_26 ?_
    refine lv_iconst (v := 1) hx hb dX3_tellLine_29 (by decide) ?_
    refine lv_iload_n hx hb dX3_tellLine_30 rfl (lv_at hl 1 rfl) ?_
    refine lv_ishl hx hb dX3_tellLine_31 ?_
    refine lv_topi (fun v31 e31 => ?_)
    refine lv_ior hx hb dX3_tellLine_32 ?_
    refine lv_topi (fun v32 e32 => ?_)
    refine t_putJ (v := .int v32) hx hb hts hinJ hown hK hP hD hS hJ_o.kc hM_o 2 (by decide) (hts (.fieldLink RX3 17 "ShadowBench$Job" "toldWays" "I") (by decide +kernel)) (fun _ h9 => h9) rfl rfl rfl (Nat.le_of_ble_eq_true rfl) dX3_tellLine_33 (fun H locs w33 hU33 hP hD hS => ?_)
    have hM_b_o := hU33.2 _ _ (cne hG_b_o hG_o (show (2 : Nat) ≠ 3 by decide)) hM_b_o
    have hT := hT.up hU33 hG_o ⟨b_o, s_o, w_o, h_o, _, _, _, ms_o, rfl, hG_b_o, hG_s_o, hJ_o⟩
    have hM_o : cIn w33 o (.inr (kq, .ref b_o :: .ref s_o :: .int v32 :: .long x_o :: .long y_o :: ms_o)) := hU33.1
    have hX := hX.tr (cX.up hU33 (Or.inr ⟨_, hG_o, rfl⟩))
    exact W.vret hx hb hr (fun t ht hW => ⟨⟨(G, w33), rfl, ⟨hX, trivial⟩, by show va_P D vwCl w33 t.heap; rw [ht]; exact hP, hD, hT⟩, hS.F ht⟩) hS.2.2 dX3_tellLine_36
set_option maxHeartbeats 4000000 in
set_option maxRecDepth 100000 in
theorem c_X3_tellShadow (l : Launch) (D : va_G) (cy : Nat → ClassId) (A : Nat → Prop) (G : cG) (ws : va_W) (o : Nat) (way : Int32) (p0 : Int64) {kq nq : Nat} (hD : va_D A ws) (hT : cT cy G ws) (hG_o : G o = some (3, kq, nq))  : Cv l D cy A yX3_tellShadow wsX3_tellShadow ({ frames := 3, cells := 0, slots := 0, locals := 66 }) 0 0 ws [.ref o, .int way, .long p0] (fun u => cX none (chs [3, 14]) G ws u.1 u.2 ∧ (True)) := by
  refine Met.ofW (cc := cX3_tellShadow) (maxL := 5) (ret := none) (by decide) rfl ?_
  intro p e s m args below meth c s₁ B hml hv
  obtain ⟨rfl, hP, hK, hA, hV⟩ := hv
  have hx := B.exec
  have hb := B.bytes
  have hr := B.returns
  have hts := atoms_spec (ws := wsX3_tellShadow) B.pre
  have hown : s.vm.findClass RX3 = some m.cls := findClass_of_methodNamed B.named
  have hlocks := B.notSynchronized
  have hS : va_S A s.heap s.heap [] := va_S.rf
  have hinJ : ∀ w ∈ wsX10 ++ wsX30 ++ wsX40 ++ wsX50, w ∈ wsX3_tellShadow := by decide +kernel
  have hX : cX none (chs [3, 14]) G ws G ws := cX.rf
  have hl := lv_entry ([.ref o, .int way, .long p0]) (n := 5) (Nat.le_of_ble_eq_true rfl)
  rw [lg_entry_eq]
  generalize (lg_sl ([.ref o, .int way, .long p0]) ++ List.replicate (5 - (lg_sl ([.ref o, .int way, .long p0])).length) Slot.unset).toArray = ls at hl ⊢
  have hl : lv_has ls 5 [(0, .ref o), (1, .int way), (2, .long p0)] := hl
  have k_0 : (0 : Int32).toInt = 0 := by decide
  refine lv_iconst (v := 0) hx hb dX3_tellShadow_0 (by decide) ?_
  refine lv_istore (lv' := [(4, .int (0 : Int32)), (0, .ref o), (1, .int way), (2, .long p0)]) hx hb dX3_tellShadow_1 hl (by decide) rfl (fun ls hl => ?_)
  have loop_3 : ∀ (n : Nat) (i : Nat), (i ≤ 11) → 11 - i < n → ∀ (Gl3 : cG) (wl3 : va_W), cE G Gl3 → cX none (chs [3, 14]) G ws Gl3 wl3 → va_D A wl3 → cT cy Gl3 wl3 → ∀ (H : Heap) (locs : List Loc), va_P D vwCl wl3 H → va_S A s.heap H locs → ∀ (ls : Array Slot), lv_has ls 5 [(4, .int (nI i)), (0, .ref o), (1, .int way), (2, .long p0)] → W p l e (headSpec wsX3_tellShadow ({ frames := 3, cells := 0, slots := 0, locals := 66 })).room s m #[Value.ref o, Value.int way, Value.long p0] below meth c H locs 0 0 (MQ below (va_Qv (fun u => cX none (chs [3, 14]) G ws u.1 u.2 ∧ (True)) (cB D cy A) A) #[Value.ref o, Value.int way, Value.long p0] s 0 0 A) (F0 m 3 ls []) := by
    intro n
    induction n with
    | zero => intro i j3_0 hn; exact absurd hn (Nat.not_lt_zero _)
    | succ n ih_3 =>
      intro i j3_0 hn_3 Gl3 wl3 hEl3 hX hD hT H locs hP hS  ls hl
      have hG_o := hEl3 _ _ hG_o
      have ik_i : (nI i).toInt = (i : Int) := nI_toInt (by omega)
      refine lv_iload hx hb dX3_tellShadow_3 (lv_at hl 0 rfl) ?_
      refine lv_aload_n hx hb dX3_tellShadow_5 rfl (lv_at hl 1 rfl) ?_
      obtain ⟨_, hM_o, b_o, s_o, w_o, h_o, t_o, x_o, y_o, ms_o, rfl, hG_b_o, hG_s_o, hJ_o⟩ := hT _ _ hG_o
      refine t_getJ (v := .ref b_o) hx hb hts hinJ hown hK hP hJ_o.kc hM_o 0 (by decide) (hts (.fieldLink RX3 28 "ShadowBench$Job" "board" "LShadowBench$Board;") (by decide +kernel)) (fun _ h9 => h9) rfl dX3_tellShadow_6 ?_
      refine lv_iload_n hx hb dX3_tellShadow_9 rfl (lv_at hl 2 rfl) ?_
      obtain ⟨_, hM_b_o, hb_b_o, l_b_o, f_b_o, r_b_o, rfl, hG_l_b_o, hG_f_b_o, hG_r_b_o⟩ := hT _ _ hG_b_o
      refine t_calli (va_runV (g := F0 m 10 ls ([.int way, .ref b_o, .int (nI i)])) (As := [.int way]) (rest := [.int (nI i)]) ⟨hx, hb, hml, hown, hts⟩ (c_X0_lineCount l D cy A Gl3 wl3 b_o way hD hT hG_b_o ) (cwV 1 hts gX3_tellShadow_X0_lineCount rfl rfl rfl (by decide +kernel) ⟨Nat.le_of_ble_eq_true rfl, Nat.le_of_ble_eq_true rfl⟩) (c_preV hM_b_o rfl hP hK hA hS hV) rfl rfl hl.1 rfl (lv_room (Nat.le_of_ble_eq_true rfl)) dX3_tellShadow_10 ⟨Nat.le_of_ble_eq_true rfl, Nat.le_of_ble_eq_true rfl⟩) hS (fun r10 u H locs q10 hP9 hD9 hT9 hS => ?_)
      obtain ⟨rfl, q10⟩ := q10
      have hP : va_P D vwCl wl3 H := hP9
      have hcl := cLines_b (c_hb hT hG_b_o) way
      have z10 := congrArg Int32.toInt q10
      refine lv_icmp_ge (tgt := 40) hx hb dX3_tellShadow_13 (by decide) (fun c13 => ?_) (fun c13 => ?_)
      · skip
        have d13 := c13
        rw [fa_le] at d13
        exact W.vret hx hb hr (fun t ht hW => ⟨⟨(Gl3, wl3), rfl, ⟨hX, trivial⟩, by show va_P D vwCl wl3 t.heap; rw [ht]; exact hP, hD, hT⟩, hS.F ht⟩) hS.2.2 dX3_tellShadow_40
      · skip
        have d13 := c13
        rw [fa_le] at d13
        refine lv_aload_n hx hb dX3_tellShadow_16 rfl (lv_at hl 1 rfl) ?_
        refine lv_iload_n hx hb dX3_tellShadow_17 rfl (lv_at hl 2 rfl) ?_
        refine lv_iload hx hb dX3_tellShadow_18 (lv_at hl 0 rfl) ?_
        refine lv_aload_n hx hb dX3_tellShadow_20 rfl (lv_at hl 1 rfl) ?_
        refine t_getJ (v := .ref b_o) hx hb hts hinJ hown hK hP hJ_o.kc hM_o 0 (by decide) (hts (.fieldLink RX3 28 "ShadowBench$Job" "board" "LShadowBench$Board;") (by decide +kernel)) (fun _ h9 => h9) rfl dX3_tellShadow_21 ?_
        refine lv_iload_n hx hb dX3_tellShadow_24 rfl (lv_at hl 2 rfl) ?_
        refine lv_iload hx hb dX3_tellShadow_25 (lv_at hl 0 rfl) ?_
        refine lv_lload_n hx hb dX3_tellShadow_27 rfl (lv_at hl 3 rfl) ?_
        refine t_calli (va_runV (g := F0 m 28 ls ([.long p0, .int (nI i), .int way, .ref b_o, .int (nI i), .int way, .ref o])) (As := [.int way, .int (nI i), .long p0]) (rest := [.int (nI i), .int way, .ref o]) ⟨hx, hb, hml, hown, hts⟩ (c_X0_onesOfLine l D cy A Gl3 wl3 b_o way (nI i) p0 hD hT hG_b_o ) (cwV 3 hts gX3_tellShadow_X0_onesOfLine rfl rfl rfl (by decide +kernel) ⟨Nat.le_of_ble_eq_true rfl, Nat.le_of_ble_eq_true rfl⟩) (c_preV hM_b_o rfl hP hK hA hS hV) rfl rfl hl.1 rfl (lv_room (Nat.le_of_ble_eq_true rfl)) dX3_tellShadow_28 ⟨Nat.le_of_ble_eq_true rfl, Nat.le_of_ble_eq_true rfl⟩) hS (fun r28 u H locs q28 hP9 hD9 hT9 hS => ?_)
        obtain ⟨rfl, q28⟩ := q28
        have hP : va_P D vwCl wl3 H := hP9
        refine t_callv (t_runJ (g := F0 m 31 ls ([.int r28, .int (nI i), .int way, .ref o])) (As := [.int way, .int (nI i), .int r28]) (rest := []) ⟨hx, hb, hml, hown, hts⟩ (c_X3_tellLine l D cy A Gl3 wl3 o way (nI i) r28 hD hT hG_o ) (va_cwU 3 hts gX3_tellShadow_X3_tellLine_u44X1 rfl rfl rfl rfl (by decide +kernel) ⟨Nat.le_of_ble_eq_true rfl, Nat.le_of_ble_eq_true rfl⟩) (cwV 3 hts gX3_tellShadow_X3_tellLine rfl rfl rfl (by decide +kernel) ⟨Nat.le_of_ble_eq_true rfl, Nat.le_of_ble_eq_true rfl⟩) (va_cwU 3 hts gX3_tellShadow_X3_tellLine_u44X4 rfl rfl rfl rfl (by decide +kernel) ⟨Nat.le_of_ble_eq_true rfl, Nat.le_of_ble_eq_true rfl⟩) (va_cwU 3 hts gX3_tellShadow_X3_tellLine_u44X5 rfl rfl rfl rfl (by decide +kernel) ⟨Nat.le_of_ble_eq_true rfl, Nat.le_of_ble_eq_true rfl⟩) hJ_o.kc hM_o hP hK c_blind (c_preS hP hK hA hS hV).2 rfl rfl hl.1 rfl (lv_room (Nat.le_of_ble_eq_true rfl)) dX3_tellShadow_31 ⟨Nat.le_of_ble_eq_true rfl, Nat.le_of_ble_eq_true rfl⟩) hS (fun u H locs q31 hP9 hD9 hT9 hS => ?_)
        obtain ⟨G31, w31⟩ := u
        obtain ⟨hX9, q31⟩ := q31
        have hX9 : cX none (chs [3, 14]) Gl3 wl3 G31 w31 := hX9
        have hP : va_P D vwCl w31 H := hP9
        have hD : va_D A w31 := hD9
        have hT : cT cy G31 w31 := hT9
        have hM_b_o := hX9.2.1 _ _ (cP.no hG_b_o rfl) hM_b_o
        have hG_o := hX9.1 _ _ hG_o
        have hG_b_o := hX9.1 _ _ hG_b_o
        have hG_s_o := hX9.1 _ _ hG_s_o
        have hG_l_b_o := hX9.1 _ _ hG_l_b_o
        have hG_f_b_o := hX9.1 _ _ hG_f_b_o
        have hG_r_b_o := hX9.1 _ _ hG_r_b_o
        have hEl3 := hEl3.tr hX9.1
        have hX := hX.tr hX9
        refine lv_iinc (v := (nI (i + 1))) (lv' := [(4, .int (nI (i + 1))), (0, .ref o), (1, .int way), (2, .long p0)]) hx hb dX3_tellShadow_34 hl (k := 0) rfl (nI_1 _) (by decide) rfl (fun ls hl => ?_)
        refine lv_goto (tgt := 3) hx hb dX3_tellShadow_37 (by decide) ?_
        exact ih_3 (i + 1) (by omega) (by omega) G31 w31 hEl3 hX hD hT _ _ hP hS  ls (lv_sub hl [0, 1, 2, 3] rfl)
  exact loop_3 (11 + 1) 0 (by omega) (by omega) G ws cE.rf hX hD hT _ _ hP hS  ls (lv_sub hl [0, 1, 2, 3] rfl)
set_option maxHeartbeats 4000000 in
set_option maxRecDepth 100000 in
theorem c_X3_forgetWay (l : Launch) (D : va_G) (cy : Nat → ClassId) (A : Nat → Prop) (G : cG) (ws : va_W) (o : Nat) (way : Int32) {kq nq : Nat} (hD : va_D A ws) (hT : cT cy G ws) (hG_o : G o = some (3, kq, nq))  : Cv l D cy A yX3_forgetWay wsX3_forgetWay ({ frames := 3, cells := 0, slots := 0, locals := 66 }) 0 0 ws [.ref o, .int way] (fun u => cX none (chs [3, 14]) G ws u.1 u.2 ∧ (True)) := by
  refine Met.ofW (cc := cX3_forgetWay) (maxL := 3) (ret := none) (by decide) rfl ?_
  intro p e s m args below meth c s₁ B hml hv
  obtain ⟨rfl, hP, hK, hA, hV⟩ := hv
  have hx := B.exec
  have hb := B.bytes
  have hr := B.returns
  have hts := atoms_spec (ws := wsX3_forgetWay) B.pre
  have hown : s.vm.findClass RX3 = some m.cls := findClass_of_methodNamed B.named
  have hlocks := B.notSynchronized
  have hS : va_S A s.heap s.heap [] := va_S.rf
  have hinJ : ∀ w ∈ wsX10 ++ wsX30 ++ wsX40 ++ wsX50, w ∈ wsX3_forgetWay := by decide +kernel
  have hX : cX none (chs [3, 14]) G ws G ws := cX.rf
  have hl := lv_entry ([.ref o, .int way]) (n := 3) (Nat.le_of_ble_eq_true rfl)
  rw [lg_entry_eq]
  generalize (lg_sl ([.ref o, .int way]) ++ List.replicate (3 - (lg_sl ([.ref o, .int way])).length) Slot.unset).toArray = ls at hl ⊢
  have hl : lv_has ls 3 [(0, .ref o), (1, .int way)] := hl
  have k_m1 : (-1 : Int32).toInt = -1 := by decide
  have k_0 : (0 : Int32).toInt = 0 := by decide
  have k_1 : (1 : Int32).toInt = 1 := by decide
  refine lv_iconst (v := 0) hx hb dX3_forgetWay_0 (by decide) ?_
  refine lv_istore_n (lv' := [(2, .int (0 : Int32)), (0, .ref o), (1, .int way)]) hx hb dX3_forgetWay_1 rfl hl (by decide) rfl (fun ls hl => ?_)
  have loop_2 : ∀ (n : Nat) (i : Nat), (i ≤ 11) → 11 - i < n → ∀ (Gl2 : cG) (wl2 : va_W), cE G Gl2 → cX none (chs [3, 14]) G ws Gl2 wl2 → va_D A wl2 → cT cy Gl2 wl2 → ∀ (H : Heap) (locs : List Loc), va_P D vwCl wl2 H → va_S A s.heap H locs → ∀ (ls : Array Slot), lv_has ls 3 [(2, .int (nI i)), (0, .ref o), (1, .int way)] → W p l e (headSpec wsX3_forgetWay ({ frames := 3, cells := 0, slots := 0, locals := 66 })).room s m #[Value.ref o, Value.int way] below meth c H locs 0 0 (MQ below (va_Qv (fun u => cX none (chs [3, 14]) G ws u.1 u.2 ∧ (True)) (cB D cy A) A) #[Value.ref o, Value.int way] s 0 0 A) (F0 m 2 ls []) := by
    intro n
    induction n with
    | zero => intro i j2_0 hn; exact absurd hn (Nat.not_lt_zero _)
    | succ n ih_2 =>
      intro i j2_0 hn_2 Gl2 wl2 hEl2 hX hD hT H locs hP hS  ls hl
      have hG_o := hEl2 _ _ hG_o
      have ik_i : (nI i).toInt = (i : Int) := nI_toInt (by omega)
      refine lv_iload_n hx hb dX3_forgetWay_2 rfl (lv_at hl 0 rfl) ?_
      refine lv_aload_n hx hb dX3_forgetWay_3 rfl (lv_at hl 1 rfl) ?_
      obtain ⟨_, hM_o, b_o, s_o, w_o, h_o, t_o, x_o, y_o, ms_o, rfl, hG_b_o, hG_s_o, hJ_o⟩ := hT _ _ hG_o
      refine t_getJ (v := .ref b_o) hx hb hts hinJ hown hK hP hJ_o.kc hM_o 0 (by decide) (hts (.fieldLink RX3 28 "ShadowBench$Job" "board" "LShadowBench$Board;") (by decide +kernel)) (fun _ h9 => h9) rfl dX3_forgetWay_4 ?_
      refine lv_iload_n hx hb dX3_forgetWay_7 rfl (lv_at hl 2 rfl) ?_
      obtain ⟨_, hM_b_o, hb_b_o, l_b_o, f_b_o, r_b_o, rfl, hG_l_b_o, hG_f_b_o, hG_r_b_o⟩ := hT _ _ hG_b_o
      refine t_calli (va_runV (g := F0 m 8 ls ([.int way, .ref b_o, .int (nI i)])) (As := [.int way]) (rest := [.int (nI i)]) ⟨hx, hb, hml, hown, hts⟩ (c_X0_lineCount l D cy A Gl2 wl2 b_o way hD hT hG_b_o ) (cwV 1 hts gX3_forgetWay_X0_lineCount rfl rfl rfl (by decide +kernel) ⟨Nat.le_of_ble_eq_true rfl, Nat.le_of_ble_eq_true rfl⟩) (c_preV hM_b_o rfl hP hK hA hS hV) rfl rfl hl.1 rfl (lv_room (Nat.le_of_ble_eq_true rfl)) dX3_forgetWay_8 ⟨Nat.le_of_ble_eq_true rfl, Nat.le_of_ble_eq_true rfl⟩) hS (fun r8 u H locs q8 hP9 hD9 hT9 hS => ?_)
      obtain ⟨rfl, q8⟩ := q8
      have hP : va_P D vwCl wl2 H := hP9
      have hcl := cLines_b (c_hb hT hG_b_o) way
      have z8 := congrArg Int32.toInt q8
      refine lv_icmp_ge (tgt := 27) hx hb dX3_forgetWay_11 (by decide) (fun c11 => ?_) (fun c11 => ?_)
      · skip
        have d11 := c11
        rw [fa_le] at d11
        refine lv_aload_n hx hb dX3_forgetWay_27 rfl (lv_at hl 1 rfl) ?_
        refine lv_dup hx hb dX3_forgetWay_28 rfl ?_
        refine t_getJ (v := .int t_o) hx hb hts hinJ hown hK hP hJ_o.kc hM_o 2 (by decide) (hts (.fieldLink RX3 17 "ShadowBench$Job" "toldWays" "I") (by decide +kernel)) (fun _ h9 => h9) rfl dX3_forgetWay_29 ?_
        refine lv_iconst (v := 1) hx hb dX3_forgetWay_32 (by decide) ?_
        refine lv_iload_n hx hb dX3_forgetWay_33 rfl (lv_at hl 2 rfl) ?_
        refine lv_ishl hx hb dX3_forgetWay_34 ?_
        refine lv_topi (fun v34 e34 => ?_)
        refine lv_iconst (v := (-1)) hx hb dX3_forgetWay_35 (by decide) ?_
        refine lv_ixor hx hb dX3_forgetWay_36 ?_
        refine lv_topi (fun v36 e36 => ?_)
        refine lv_iand hx hb dX3_forgetWay_37 ?_
        refine lv_topi (fun v37 e37 => ?_)
        refine t_putJ (v := .int v37) hx hb hts hinJ hown hK hP hD hS hJ_o.kc hM_o 2 (by decide) (hts (.fieldLink RX3 17 "ShadowBench$Job" "toldWays" "I") (by decide +kernel)) (fun _ h9 => h9) rfl rfl rfl (Nat.le_of_ble_eq_true rfl) dX3_forgetWay_38 (fun H locs w38 hU38 hP hD hS => ?_)
        have hM_b_o := hU38.2 _ _ (cne hG_b_o hG_o (show (2 : Nat) ≠ 3 by decide)) hM_b_o
        have hT := hT.up hU38 hG_o ⟨b_o, s_o, w_o, h_o, _, _, _, ms_o, rfl, hG_b_o, hG_s_o, hJ_o⟩
        have hM_o : cIn w38 o (.inr (kq, .ref b_o :: .ref s_o :: .int v37 :: .long x_o :: .long y_o :: ms_o)) := hU38.1
        have hX := hX.tr (cX.up hU38 (Or.inr ⟨_, hG_o, rfl⟩))
        exact W.vret hx hb hr (fun t ht hW => ⟨⟨(Gl2, w38), rfl, ⟨hX, trivial⟩, by show va_P D vwCl w38 t.heap; rw [ht]; exact hP, hD, hT⟩, hS.F ht⟩) hS.2.2 dX3_forgetWay_41
      · skip
        have d11 := c11
        rw [fa_le] at d11
        refine lv_aload_n hx hb dX3_forgetWay_14 rfl (lv_at hl 1 rfl) ?_
        refine lv_iload_n hx hb dX3_forgetWay_15 rfl (lv_at hl 2 rfl) ?_
        refine lv_iload_n hx hb dX3_forgetWay_16 rfl (lv_at hl 0 rfl) ?_
        refine lv_iconst (v := 0) hx hb dX3_forgetWay_17 (by decide) ?_
        refine t_callv (t_runJ (g := F0 m 18 ls ([.int (0 : Int32), .int (nI i), .int way, .ref o])) (As := [.int way, .int (nI i), .int (0 : Int32)]) (rest := []) ⟨hx, hb, hml, hown, hts⟩ (c_X3_tellLine l D cy A Gl2 wl2 o way (nI i) (0 : Int32) hD hT hG_o ) (va_cwU 3 hts gX3_forgetWay_X3_tellLine_u44X1 rfl rfl rfl rfl (by decide +kernel) ⟨Nat.le_of_ble_eq_true rfl, Nat.le_of_ble_eq_true rfl⟩) (cwV 3 hts gX3_forgetWay_X3_tellLine rfl rfl rfl (by decide +kernel) ⟨Nat.le_of_ble_eq_true rfl, Nat.le_of_ble_eq_true rfl⟩) (va_cwU 3 hts gX3_forgetWay_X3_tellLine_u44X4 rfl rfl rfl rfl (by decide +kernel) ⟨Nat.le_of_ble_eq_true rfl, Nat.le_of_ble_eq_true rfl⟩) (va_cwU 3 hts gX3_forgetWay_X3_tellLine_u44X5 rfl rfl rfl rfl (by decide +kernel) ⟨Nat.le_of_ble_eq_true rfl, Nat.le_of_ble_eq_true rfl⟩) hJ_o.kc hM_o hP hK c_blind (c_preS hP hK hA hS hV).2 rfl rfl hl.1 rfl (lv_room (Nat.le_of_ble_eq_true rfl)) dX3_forgetWay_18 ⟨Nat.le_of_ble_eq_true rfl, Nat.le_of_ble_eq_true rfl⟩) hS (fun u H locs q18 hP9 hD9 hT9 hS => ?_)
        obtain ⟨G18, w18⟩ := u
        obtain ⟨hX9, q18⟩ := q18
        have hX9 : cX none (chs [3, 14]) Gl2 wl2 G18 w18 := hX9
        have hP : va_P D vwCl w18 H := hP9
        have hD : va_D A w18 := hD9
        have hT : cT cy G18 w18 := hT9
        have hM_b_o := hX9.2.1 _ _ (cP.no hG_b_o rfl) hM_b_o
        have hG_o := hX9.1 _ _ hG_o
        have hG_b_o := hX9.1 _ _ hG_b_o
        have hG_s_o := hX9.1 _ _ hG_s_o
        have hG_l_b_o := hX9.1 _ _ hG_l_b_o
        have hG_f_b_o := hX9.1 _ _ hG_f_b_o
        have hG_r_b_o := hX9.1 _ _ hG_r_b_o
        have hEl2 := hEl2.tr hX9.1
        have hX := hX.tr hX9
        refine lv_iinc (v := (nI (i + 1))) (lv' := [(2, .int (nI (i + 1))), (0, .ref o), (1, .int way)]) hx hb dX3_forgetWay_21 hl (k := 0) rfl (nI_1 _) (by decide) rfl (fun ls hl => ?_)
        refine lv_goto (tgt := 2) hx hb dX3_forgetWay_24 (by decide) ?_
        exact ih_2 (i + 1) (by omega) (by omega) G18 w18 hEl2 hX hD hT _ _ hP hS  ls (lv_sub hl [0, 1, 2] rfl)
  exact loop_2 (11 + 1) 0 (by omega) (by omega) G ws cE.rf hX hD hT _ _ hP hS  ls (lv_sub hl [0, 1, 2] rfl)
set_option maxHeartbeats 4000000 in
set_option maxRecDepth 100000 in
theorem c_X3_howHeld (l : Launch) (D : va_G) (cy : Nat → ClassId) (A : Nat → Prop) (G : cG) (ws : va_W) (o : Nat) (s0 : Int32) {kq nq : Nat} (hD : va_D A ws) (hT : cT cy G ws) (hG_o : G o = some (3, kq, nq))  : Ci l D cy A yX3_howHeld wsX3_howHeld ({ frames := 0, cells := 0, slots := 0, locals := 0 }) 0 0 ws [.ref o, .int s0] (fun r0 u => u = (G, ws) ∧ (True)) := by
  refine Met.ofW (cc := cX3_howHeld) (maxL := 2) (ret := (some .int)) (by decide) rfl ?_
  intro p e s m args below meth c s₁ B hml hv
  obtain ⟨rfl, hP, hK, hA, hV⟩ := hv
  have hx := B.exec
  have hb := B.bytes
  have hr := B.returns
  have hts := atoms_spec (ws := wsX3_howHeld) B.pre
  have hown : s.vm.findClass RX3 = some m.cls := findClass_of_methodNamed B.named
  have hlocks := B.notSynchronized
  have hS : va_S A s.heap s.heap [] := va_S.rf
  have hinJ : ∀ w ∈ wsX10 ++ wsX30 ++ wsX40 ++ wsX50, w ∈ wsX3_howHeld := by decide +kernel
  have hl := lv_entry ([.ref o, .int s0]) (n := 2) (Nat.le_of_ble_eq_true rfl)
  rw [lg_entry_eq]
  generalize (lg_sl ([.ref o, .int s0]) ++ List.replicate (2 - (lg_sl ([.ref o, .int s0])).length) Slot.unset).toArray = ls at hl ⊢
  have hl : lv_has ls 2 [(0, .ref o), (1, .int s0)] := hl
  have k_0 : (0 : Int32).toInt = 0 := by decide
  have k_1 : (1 : Int32).toInt = 1 := by decide
  have k_2 : (2 : Int32).toInt = 2 := by decide
  have k_1L : (1 : Int64).toInt = 1 := by decide
  refine lv_aload_n hx hb dX3_howHeld_0 rfl (lv_at hl 0 rfl) ?_
  obtain ⟨_, hM_o, b_o, s_o, w_o, h_o, t_o, x_o, y_o, ms_o, rfl, hG_b_o, hG_s_o, hJ_o⟩ := hT _ _ hG_o
  refine t_getJ (v := .long x_o) hx hb hts hinJ hown hK hP hJ_o.kc hM_o 3 (by decide) (hts (.fieldLink RX3 21 "ShadowBench$Job" "heldOnes" "J") (by decide +kernel)) (fun _ h9 => h9) rfl dX3_howHeld_1 ?_
  refine lv_iload_n hx hb dX3_howHeld_4 rfl (lv_at hl 1 rfl) ?_
  refine lv_lushr (v := (x_o.toUInt64 >>> (s0.toInt64.toUInt64 &&& Int64.toUInt64 63)).toInt64) hx hb dX3_howHeld_5 rfl ?_
  refine lv_lconst (v := 1) hx hb dX3_howHeld_6 (by decide) ?_
  refine lv_land hx hb dX3_howHeld_7 ?_
  refine lv_topl (fun v7 e7 => ?_)
  refine lv_lconst (v := 1) hx hb dX3_howHeld_8 (by decide) ?_
  refine W.lcmp hx hb dX3_howHeld_9 ?_
  refine lv_if_ne (tgt := 15) hx hb dX3_howHeld_10 (by decide) (fun c10 => ?_) (fun c10 => ?_)
  · skip
    have d10 := c10
    rw [lg_cmp_eq, fa_eq64] at d10
    refine lv_aload_n hx hb dX3_howHeld_15 rfl (lv_at hl 0 rfl) ?_
    refine t_getJ (v := .long y_o) hx hb hts hinJ hown hK hP hJ_o.kc hM_o 4 (by decide) (hts (.fieldLink RX3 25 "ShadowBench$Job" "heldNoughts" "J") (by decide +kernel)) (fun _ h9 => h9) rfl dX3_howHeld_16 ?_
    refine lv_iload_n hx hb dX3_howHeld_19 rfl (lv_at hl 1 rfl) ?_
    refine lv_lushr (v := (y_o.toUInt64 >>> (s0.toInt64.toUInt64 &&& Int64.toUInt64 63)).toInt64) hx hb dX3_howHeld_20 rfl ?_
    refine lv_lconst (v := 1) hx hb dX3_howHeld_21 (by decide) ?_
    refine lv_land hx hb dX3_howHeld_22 ?_
    refine lv_topl (fun v22 e22 => ?_)
    refine lv_lconst (v := 1) hx hb dX3_howHeld_23 (by decide) ?_
    refine W.lcmp hx hb dX3_howHeld_24 ?_
    refine lv_if_ne (tgt := 32) hx hb dX3_howHeld_25 (by decide) (fun c25 => ?_) (fun c25 => ?_)
    · skip
      have d25 := c25
      rw [lg_cmp_eq, fa_eq64] at d25
      refine lv_iconst (v := 2) hx hb dX3_howHeld_32 (by decide) ?_
      exact W.iret (v := (2 : Int32)) hx hb hr (fun t ht hW => ⟨⟨_, (G, ws), rfl, ⟨rfl, trivial⟩, by show va_P D vwCl ws t.heap; rw [ht]; exact hP, hD, hT⟩, hS.F ht⟩) hS.2.2 dX3_howHeld_33
    · skip
      have d25 := c25
      rw [lg_cmp_eq, fa_eq64] at d25
      refine lv_iconst (v := 0) hx hb dX3_howHeld_28 (by decide) ?_
      refine lv_goto (tgt := 33) hx hb dX3_howHeld_29 (by decide) ?_
      exact W.iret (v := (0 : Int32)) hx hb hr (fun t ht hW => ⟨⟨_, (G, ws), rfl, ⟨rfl, trivial⟩, by show va_P D vwCl ws t.heap; rw [ht]; exact hP, hD, hT⟩, hS.F ht⟩) hS.2.2 dX3_howHeld_33
  · skip
    have d10 := c10
    rw [lg_cmp_eq, fa_eq64] at d10
    refine lv_iconst (v := 1) hx hb dX3_howHeld_13 (by decide) ?_
    exact W.iret (v := (1 : Int32)) hx hb hr (fun t ht hW => ⟨⟨_, (G, ws), rfl, ⟨rfl, trivial⟩, by show va_P D vwCl ws t.heap; rw [ht]; exact hP, hD, hT⟩, hS.F ht⟩) hS.2.2 dX3_howHeld_14
set_option maxHeartbeats 4000000 in
set_option maxRecDepth 100000 in
theorem c_X3_holdSquare (l : Launch) (D : va_G) (cy : Nat → ClassId) (A : Nat → Prop) (G : cG) (ws : va_W) (o : Nat) (s0 : Int32) (how : Int32) {kq nq : Nat} (hD : va_D A ws) (hT : cT cy G ws) (hG_o : G o = some (3, kq, nq))  : Cv l D cy A yX3_holdSquare wsX3_holdSquare ({ frames := 0, cells := 0, slots := 0, locals := 0 }) 0 0 ws [.ref o, .int s0, .int how] (fun u => cX none (chs [3]) G ws u.1 u.2 ∧ (True)) := by
  refine Met.ofW (cc := cX3_holdSquare) (maxL := 5) (ret := none) (by decide) rfl ?_
  intro p e s m args below meth c s₁ B hml hv
  obtain ⟨rfl, hP, hK, hA, hV⟩ := hv
  have hx := B.exec
  have hb := B.bytes
  have hr := B.returns
  have hts := atoms_spec (ws := wsX3_holdSquare) B.pre
  have hown : s.vm.findClass RX3 = some m.cls := findClass_of_methodNamed B.named
  have hlocks := B.notSynchronized
  have hS : va_S A s.heap s.heap [] := va_S.rf
  have hinJ : ∀ w ∈ wsX10 ++ wsX30 ++ wsX40 ++ wsX50, w ∈ wsX3_holdSquare := by decide +kernel
  have hX : cX none (chs [3]) G ws G ws := cX.rf
  have hl := lv_entry ([.ref o, .int s0, .int how]) (n := 5) (Nat.le_of_ble_eq_true rfl)
  rw [lg_entry_eq]
  generalize (lg_sl ([.ref o, .int s0, .int how]) ++ List.replicate (5 - (lg_sl ([.ref o, .int s0, .int how])).length) Slot.unset).toArray = ls at hl ⊢
  have hl : lv_has ls 5 [(0, .ref o), (1, .int s0), (2, .int how)] := hl
  have k_0 : (0 : Int32).toInt = 0 := by decide
  have k_1 : (1 : Int32).toInt = 1 := by decide
  have k_m1L : (-1 : Int64).toInt = -1 := by decide
  have k_1L : (1 : Int64).toInt = 1 := by decide
  refine lv_lconst (v := 1) hx hb dX3_holdSquare_0 (by decide) ?_
  refine lv_iload_n hx hb dX3_holdSquare_1 rfl (lv_at hl 1 rfl) ?_
  refine lv_lshl (v := (1 : Int64) <<< (s0.toInt64 &&& 63)) hx hb dX3_holdSquare_2 rfl ?_
  refine lv_lstore_n (lv' := [(3, .long ((1 : Int64) <<< (s0.toInt64 &&& 63))), (0, .ref o), (1, .int s0), (2, .int how)]) hx hb dX3_holdSquare_3 rfl hl (by decide) rfl (fun ls hl => ?_)
  refine lv_aload_n hx hb dX3_holdSquare_4 rfl (lv_at hl 1 rfl) ?_
  refine lv_iload_n hx hb dX3_holdSquare_5 rfl (lv_at hl 3 rfl) ?_
  refine lv_iconst (v := 1) hx hb dX3_holdSquare_6 (by decide) ?_
  refine lv_icmp_ne (tgt := 19) hx hb dX3_holdSquare_7 (by decide) (fun c7 => ?_) (fun c7 => ?_)
  · skip
    have d7 := c7
    rw [fa_eq] at d7
    refine lv_aload_n hx hb dX3_holdSquare_19 rfl (lv_at hl 1 rfl) ?_
    obtain ⟨_, hM_o, b_o, s_o, w_o, h_o, t_o, x_o, y_o, ms_o, rfl, hG_b_o, hG_s_o, hJ_o⟩ := hT _ _ hG_o
    refine t_getJ (v := .long x_o) hx hb hts hinJ hown hK hP hJ_o.kc hM_o 3 (by decide) (hts (.fieldLink RX3 21 "ShadowBench$Job" "heldOnes" "J") (by decide +kernel)) (fun _ h9 => h9) rfl dX3_holdSquare_20 ?_
    refine lv_lload_n hx hb dX3_holdSquare_23 rfl (lv_at hl 0 rfl) ?_
    refine lv_ldc2 hx hb hown (hts (.constantLong RX3 48 (-1)) (by decide +kernel)) dX3_holdSquare_24 ?_
    refine lv_lxor hx hb dX3_holdSquare_27 ?_
    refine lv_topl (fun v27 e27 => ?_)
    refine lv_land hx hb dX3_holdSquare_28 ?_
    refine lv_topl (fun v28 e28 => ?_)
    refine t_putJ (v := .long v28) hx hb hts hinJ hown hK hP hD hS hJ_o.kc hM_o 3 (by decide) (hts (.fieldLink RX3 21 "ShadowBench$Job" "heldOnes" "J") (by decide +kernel)) (fun _ h9 => h9) rfl rfl rfl (Nat.le_of_ble_eq_true rfl) dX3_holdSquare_29 (fun H locs w29 hU29 hP hD hS => ?_)
    have hT := hT.up hU29 hG_o ⟨b_o, s_o, w_o, h_o, _, _, _, ms_o, rfl, hG_b_o, hG_s_o, hJ_o⟩
    have hM_o : cIn w29 o (.inr (kq, .ref b_o :: .ref s_o :: .int t_o :: .long v28 :: .long y_o :: ms_o)) := hU29.1
    have hX := hX.tr (cX.up hU29 (Or.inr ⟨_, hG_o, rfl⟩))
    refine lv_aload_n hx hb dX3_holdSquare_32 rfl (lv_at hl 1 rfl) ?_
    refine lv_iload_n hx hb dX3_holdSquare_33 rfl (lv_at hl 3 rfl) ?_
    refine lv_if_ne (tgt := 46) hx hb dX3_holdSquare_34 (by decide) (fun c34 => ?_) (fun c34 => ?_)
    · skip
      have d34 := c34
      rw [fa_eq] at d34
      refine lv_aload_n hx hb dX3_holdSquare_46 rfl (lv_at hl 1 rfl) ?_
      refine t_getJ (v := .long y_o) hx hb hts hinJ hown hK hP hJ_o.kc hM_o 4 (by decide) (hts (.fieldLink RX3 25 "ShadowBench$Job" "heldNoughts" "J") (by decide +kernel)) (fun _ h9 => h9) rfl dX3_holdSquare_47 ?_
      refine lv_lload_n hx hb dX3_holdSquare_50 rfl (lv_at hl 0 rfl) ?_
      refine lv_ldc2 hx hb hown (hts (.constantLong RX3 48 (-1)) (by decide +kernel)) dX3_holdSquare_51 ?_
      refine lv_lxor hx hb dX3_holdSquare_54 ?_
      refine lv_topl (fun v54 e54 => ?_)
      refine lv_land hx hb dX3_holdSquare_55 ?_
      refine lv_topl (fun v55 e55 => ?_)
      refine t_putJ (v := .long v55) hx hb hts hinJ hown hK hP hD hS hJ_o.kc hM_o 4 (by decide) (hts (.fieldLink RX3 25 "ShadowBench$Job" "heldNoughts" "J") (by decide +kernel)) (fun _ h9 => h9) rfl rfl rfl (Nat.le_of_ble_eq_true rfl) dX3_holdSquare_56 (fun H locs w56 hU56 hP hD hS => ?_)
      have hT := hT.up hU56 hG_o ⟨b_o, s_o, w_o, h_o, _, _, _, ms_o, rfl, hG_b_o, hG_s_o, hJ_o⟩
      have hM_o : cIn w56 o (.inr (kq, .ref b_o :: .ref s_o :: .int t_o :: .long v28 :: .long v55 :: ms_o)) := hU56.1
      have hX := hX.tr (cX.up hU56 (Or.inr ⟨_, hG_o, rfl⟩))
      exact W.vret hx hb hr (fun t ht hW => ⟨⟨(G, w56), rfl, ⟨hX, trivial⟩, by show va_P D vwCl w56 t.heap; rw [ht]; exact hP, hD, hT⟩, hS.F ht⟩) hS.2.2 dX3_holdSquare_59
    · skip
      have d34 := c34
      rw [fa_eq] at d34
      refine lv_aload_n hx hb dX3_holdSquare_37 rfl (lv_at hl 1 rfl) ?_
      refine t_getJ (v := .long y_o) hx hb hts hinJ hown hK hP hJ_o.kc hM_o 4 (by decide) (hts (.fieldLink RX3 25 "ShadowBench$Job" "heldNoughts" "J") (by decide +kernel)) (fun _ h9 => h9) rfl dX3_holdSquare_38 ?_
      refine lv_lload_n hx hb dX3_holdSquare_41 rfl (lv_at hl 0 rfl) ?_
      refine lv_lor hx hb dX3_holdSquare_42 ?_
      refine lv_topl (fun v42 e42 => ?_)
      refine lv_goto (tgt := 56) hx hb dX3_holdSquare_43 (by decide) ?_
      refine t_putJ (v := .long v42) hx hb hts hinJ hown hK hP hD hS hJ_o.kc hM_o 4 (by decide) (hts (.fieldLink RX3 25 "ShadowBench$Job" "heldNoughts" "J") (by decide +kernel)) (fun _ h9 => h9) rfl rfl rfl (Nat.le_of_ble_eq_true rfl) dX3_holdSquare_56 (fun H locs w56 hU56 hP hD hS => ?_)
      have hT := hT.up hU56 hG_o ⟨b_o, s_o, w_o, h_o, _, _, _, ms_o, rfl, hG_b_o, hG_s_o, hJ_o⟩
      have hM_o : cIn w56 o (.inr (kq, .ref b_o :: .ref s_o :: .int t_o :: .long v28 :: .long v42 :: ms_o)) := hU56.1
      have hX := hX.tr (cX.up hU56 (Or.inr ⟨_, hG_o, rfl⟩))
      exact W.vret hx hb hr (fun t ht hW => ⟨⟨(G, w56), rfl, ⟨hX, trivial⟩, by show va_P D vwCl w56 t.heap; rw [ht]; exact hP, hD, hT⟩, hS.F ht⟩) hS.2.2 dX3_holdSquare_59
  · skip
    have d7 := c7
    rw [fa_eq] at d7
    refine lv_aload_n hx hb dX3_holdSquare_10 rfl (lv_at hl 1 rfl) ?_
    obtain ⟨_, hM_o, b_o, s_o, w_o, h_o, t_o, x_o, y_o, ms_o, rfl, hG_b_o, hG_s_o, hJ_o⟩ := hT _ _ hG_o
    refine t_getJ (v := .long x_o) hx hb hts hinJ hown hK hP hJ_o.kc hM_o 3 (by decide) (hts (.fieldLink RX3 21 "ShadowBench$Job" "heldOnes" "J") (by decide +kernel)) (fun _ h9 => h9) rfl dX3_holdSquare_11 ?_
    refine lv_lload_n hx hb dX3_holdSquare_14 rfl (lv_at hl 0 rfl) ?_
    refine lv_lor hx hb dX3_holdSquare_15 ?_
    refine lv_topl (fun v15 e15 => ?_)
    refine lv_goto (tgt := 29) hx hb dX3_holdSquare_16 (by decide) ?_
    refine t_putJ (v := .long v15) hx hb hts hinJ hown hK hP hD hS hJ_o.kc hM_o 3 (by decide) (hts (.fieldLink RX3 21 "ShadowBench$Job" "heldOnes" "J") (by decide +kernel)) (fun _ h9 => h9) rfl rfl rfl (Nat.le_of_ble_eq_true rfl) dX3_holdSquare_29 (fun H locs w29 hU29 hP hD hS => ?_)
    have hT := hT.up hU29 hG_o ⟨b_o, s_o, w_o, h_o, _, _, _, ms_o, rfl, hG_b_o, hG_s_o, hJ_o⟩
    have hM_o : cIn w29 o (.inr (kq, .ref b_o :: .ref s_o :: .int t_o :: .long v15 :: .long y_o :: ms_o)) := hU29.1
    have hX := hX.tr (cX.up hU29 (Or.inr ⟨_, hG_o, rfl⟩))
    refine lv_aload_n hx hb dX3_holdSquare_32 rfl (lv_at hl 1 rfl) ?_
    refine lv_iload_n hx hb dX3_holdSquare_33 rfl (lv_at hl 3 rfl) ?_
    refine lv_if_ne (tgt := 46) hx hb dX3_holdSquare_34 (by decide) (fun c34 => ?_) (fun c34 => ?_)
    · skip
      have d34 := c34
      rw [fa_eq] at d34
      refine lv_aload_n hx hb dX3_holdSquare_46 rfl (lv_at hl 1 rfl) ?_
      refine t_getJ (v := .long y_o) hx hb hts hinJ hown hK hP hJ_o.kc hM_o 4 (by decide) (hts (.fieldLink RX3 25 "ShadowBench$Job" "heldNoughts" "J") (by decide +kernel)) (fun _ h9 => h9) rfl dX3_holdSquare_47 ?_
      refine lv_lload_n hx hb dX3_holdSquare_50 rfl (lv_at hl 0 rfl) ?_
      refine lv_ldc2 hx hb hown (hts (.constantLong RX3 48 (-1)) (by decide +kernel)) dX3_holdSquare_51 ?_
      refine lv_lxor hx hb dX3_holdSquare_54 ?_
      refine lv_topl (fun v54 e54 => ?_)
      refine lv_land hx hb dX3_holdSquare_55 ?_
      refine lv_topl (fun v55 e55 => ?_)
      refine t_putJ (v := .long v55) hx hb hts hinJ hown hK hP hD hS hJ_o.kc hM_o 4 (by decide) (hts (.fieldLink RX3 25 "ShadowBench$Job" "heldNoughts" "J") (by decide +kernel)) (fun _ h9 => h9) rfl rfl rfl (Nat.le_of_ble_eq_true rfl) dX3_holdSquare_56 (fun H locs w56 hU56 hP hD hS => ?_)
      have hT := hT.up hU56 hG_o ⟨b_o, s_o, w_o, h_o, _, _, _, ms_o, rfl, hG_b_o, hG_s_o, hJ_o⟩
      have hM_o : cIn w56 o (.inr (kq, .ref b_o :: .ref s_o :: .int t_o :: .long v15 :: .long v55 :: ms_o)) := hU56.1
      have hX := hX.tr (cX.up hU56 (Or.inr ⟨_, hG_o, rfl⟩))
      exact W.vret hx hb hr (fun t ht hW => ⟨⟨(G, w56), rfl, ⟨hX, trivial⟩, by show va_P D vwCl w56 t.heap; rw [ht]; exact hP, hD, hT⟩, hS.F ht⟩) hS.2.2 dX3_holdSquare_59
    · skip
      have d34 := c34
      rw [fa_eq] at d34
      refine lv_aload_n hx hb dX3_holdSquare_37 rfl (lv_at hl 1 rfl) ?_
      refine t_getJ (v := .long y_o) hx hb hts hinJ hown hK hP hJ_o.kc hM_o 4 (by decide) (hts (.fieldLink RX3 25 "ShadowBench$Job" "heldNoughts" "J") (by decide +kernel)) (fun _ h9 => h9) rfl dX3_holdSquare_38 ?_
      refine lv_lload_n hx hb dX3_holdSquare_41 rfl (lv_at hl 0 rfl) ?_
      refine lv_lor hx hb dX3_holdSquare_42 ?_
      refine lv_topl (fun v42 e42 => ?_)
      refine lv_goto (tgt := 56) hx hb dX3_holdSquare_43 (by decide) ?_
      refine t_putJ (v := .long v42) hx hb hts hinJ hown hK hP hD hS hJ_o.kc hM_o 4 (by decide) (hts (.fieldLink RX3 25 "ShadowBench$Job" "heldNoughts" "J") (by decide +kernel)) (fun _ h9 => h9) rfl rfl rfl (Nat.le_of_ble_eq_true rfl) dX3_holdSquare_56 (fun H locs w56 hU56 hP hD hS => ?_)
      have hT := hT.up hU56 hG_o ⟨b_o, s_o, w_o, h_o, _, _, _, ms_o, rfl, hG_b_o, hG_s_o, hJ_o⟩
      have hM_o : cIn w56 o (.inr (kq, .ref b_o :: .ref s_o :: .int t_o :: .long v15 :: .long v42 :: ms_o)) := hU56.1
      have hX := hX.tr (cX.up hU56 (Or.inr ⟨_, hG_o, rfl⟩))
      exact W.vret hx hb hr (fun t ht hW => ⟨⟨(G, w56), rfl, ⟨hX, trivial⟩, by show va_P D vwCl w56 t.heap; rw [ht]; exact hP, hD, hT⟩, hS.F ht⟩) hS.2.2 dX3_holdSquare_59
set_option maxHeartbeats 4000000 in
set_option maxRecDepth 100000 in
theorem c_X3_onesHeldInRow (l : Launch) (D : va_G) (cy : Nat → ClassId) (A : Nat → Prop) (G : cG) (ws : va_W) (o : Nat) (y : Int32) {kq nq : Nat} (hD : va_D A ws) (hT : cT cy G ws) (hG_o : G o = some (3, kq, nq))  : Ci l D cy A yX3_onesHeldInRow wsX3_onesHeldInRow ({ frames := 1, cells := 0, slots := 0, locals := 23 }) 0 0 ws [.ref o, .int y] (fun r0 u => u = (G, ws) ∧ (True)) := by
  refine Met.ofW (cc := cX3_onesHeldInRow) (maxL := 2) (ret := (some .int)) (by decide) rfl ?_
  intro p e s m args below meth c s₁ B hml hv
  obtain ⟨rfl, hP, hK, hA, hV⟩ := hv
  have hx := B.exec
  have hb := B.bytes
  have hr := B.returns
  have hts := atoms_spec (ws := wsX3_onesHeldInRow) B.pre
  have hown : s.vm.findClass RX3 = some m.cls := findClass_of_methodNamed B.named
  have hlocks := B.notSynchronized
  have hS : va_S A s.heap s.heap [] := va_S.rf
  have hinJ : ∀ w ∈ wsX10 ++ wsX30 ++ wsX40 ++ wsX50, w ∈ wsX3_onesHeldInRow := by decide +kernel
  have hl := lv_entry ([.ref o, .int y]) (n := 2) (Nat.le_of_ble_eq_true rfl)
  rw [lg_entry_eq]
  generalize (lg_sl ([.ref o, .int y]) ++ List.replicate (2 - (lg_sl ([.ref o, .int y])).length) Slot.unset).toArray = ls at hl ⊢
  have hl : lv_has ls 2 [(0, .ref o), (1, .int y)] := hl
  have k_0 : (0 : Int32).toInt = 0 := by decide
  refine lv_aload_n hx hb dX3_onesHeldInRow_0 rfl (lv_at hl 0 rfl) ?_
  obtain ⟨_, hM_o, b_o, s_o, w_o, h_o, t_o, x_o, y_o, ms_o, rfl, hG_b_o, hG_s_o, hJ_o⟩ := hT _ _ hG_o
  refine t_getJ (v := .ref b_o) hx hb hts hinJ hown hK hP hJ_o.kc hM_o 0 (by decide) (hts (.fieldLink RX3 28 "ShadowBench$Job" "board" "LShadowBench$Board;") (by decide +kernel)) (fun _ h9 => h9) rfl dX3_onesHeldInRow_1 ?_
  refine lv_aload_n hx hb dX3_onesHeldInRow_4 rfl (lv_at hl 0 rfl) ?_
  refine t_getJ (v := .long x_o) hx hb hts hinJ hown hK hP hJ_o.kc hM_o 3 (by decide) (hts (.fieldLink RX3 21 "ShadowBench$Job" "heldOnes" "J") (by decide +kernel)) (fun _ h9 => h9) rfl dX3_onesHeldInRow_5 ?_
  refine lv_iload_n hx hb dX3_onesHeldInRow_8 rfl (lv_at hl 1 rfl) ?_
  obtain ⟨_, hM_b_o, hb_b_o, l_b_o, f_b_o, r_b_o, rfl, hG_l_b_o, hG_f_b_o, hG_r_b_o⟩ := hT _ _ hG_b_o
  refine t_calli (va_runV (g := F0 m 9 ls ([.int y, .long x_o, .ref b_o])) (As := [.long x_o, .int y]) (rest := []) ⟨hx, hb, hml, hown, hts⟩ (c_X0_rowOf l D cy A G ws b_o x_o y hD hT hG_b_o ) (cwV 2 hts gX3_onesHeldInRow_X0_rowOf rfl rfl rfl (by decide +kernel) ⟨Nat.le_of_ble_eq_true rfl, Nat.le_of_ble_eq_true rfl⟩) (c_preV hM_b_o rfl hP hK hA hS hV) rfl rfl hl.1 rfl (lv_room (Nat.le_of_ble_eq_true rfl)) dX3_onesHeldInRow_9 ⟨Nat.le_of_ble_eq_true rfl, Nat.le_of_ble_eq_true rfl⟩) hS (fun r9 u H locs q9 hP9 hD9 hT9 hS => ?_)
  obtain ⟨rfl, q9⟩ := q9
  have hP : va_P D vwCl ws H := hP9
  exact W.iret (v := r9) hx hb hr (fun t ht hW => ⟨⟨_, (G, ws), rfl, ⟨rfl, trivial⟩, by show va_P D vwCl ws t.heap; rw [ht]; exact hP, hD, hT⟩, hS.F ht⟩) hS.2.2 dX3_onesHeldInRow_12
set_option maxHeartbeats 4000000 in
set_option maxRecDepth 100000 in
theorem c_X3_noughtsHeldInRow (l : Launch) (D : va_G) (cy : Nat → ClassId) (A : Nat → Prop) (G : cG) (ws : va_W) (o : Nat) (y : Int32) {kq nq : Nat} (hD : va_D A ws) (hT : cT cy G ws) (hG_o : G o = some (3, kq, nq))  : Ci l D cy A yX3_noughtsHeldInRow wsX3_noughtsHeldInRow ({ frames := 1, cells := 0, slots := 0, locals := 23 }) 0 0 ws [.ref o, .int y] (fun r0 u => u = (G, ws) ∧ (True)) := by
  refine Met.ofW (cc := cX3_noughtsHeldInRow) (maxL := 2) (ret := (some .int)) (by decide) rfl ?_
  intro p e s m args below meth c s₁ B hml hv
  obtain ⟨rfl, hP, hK, hA, hV⟩ := hv
  have hx := B.exec
  have hb := B.bytes
  have hr := B.returns
  have hts := atoms_spec (ws := wsX3_noughtsHeldInRow) B.pre
  have hown : s.vm.findClass RX3 = some m.cls := findClass_of_methodNamed B.named
  have hlocks := B.notSynchronized
  have hS : va_S A s.heap s.heap [] := va_S.rf
  have hinJ : ∀ w ∈ wsX10 ++ wsX30 ++ wsX40 ++ wsX50, w ∈ wsX3_noughtsHeldInRow := by decide +kernel
  have hl := lv_entry ([.ref o, .int y]) (n := 2) (Nat.le_of_ble_eq_true rfl)
  rw [lg_entry_eq]
  generalize (lg_sl ([.ref o, .int y]) ++ List.replicate (2 - (lg_sl ([.ref o, .int y])).length) Slot.unset).toArray = ls at hl ⊢
  have hl : lv_has ls 2 [(0, .ref o), (1, .int y)] := hl
  have k_0 : (0 : Int32).toInt = 0 := by decide
  refine lv_aload_n hx hb dX3_noughtsHeldInRow_0 rfl (lv_at hl 0 rfl) ?_
  obtain ⟨_, hM_o, b_o, s_o, w_o, h_o, t_o, x_o, y_o, ms_o, rfl, hG_b_o, hG_s_o, hJ_o⟩ := hT _ _ hG_o
  refine t_getJ (v := .ref b_o) hx hb hts hinJ hown hK hP hJ_o.kc hM_o 0 (by decide) (hts (.fieldLink RX3 28 "ShadowBench$Job" "board" "LShadowBench$Board;") (by decide +kernel)) (fun _ h9 => h9) rfl dX3_noughtsHeldInRow_1 ?_
  refine lv_aload_n hx hb dX3_noughtsHeldInRow_4 rfl (lv_at hl 0 rfl) ?_
  refine t_getJ (v := .long y_o) hx hb hts hinJ hown hK hP hJ_o.kc hM_o 4 (by decide) (hts (.fieldLink RX3 25 "ShadowBench$Job" "heldNoughts" "J") (by decide +kernel)) (fun _ h9 => h9) rfl dX3_noughtsHeldInRow_5 ?_
  refine lv_iload_n hx hb dX3_noughtsHeldInRow_8 rfl (lv_at hl 1 rfl) ?_
  obtain ⟨_, hM_b_o, hb_b_o, l_b_o, f_b_o, r_b_o, rfl, hG_l_b_o, hG_f_b_o, hG_r_b_o⟩ := hT _ _ hG_b_o
  refine t_calli (va_runV (g := F0 m 9 ls ([.int y, .long y_o, .ref b_o])) (As := [.long y_o, .int y]) (rest := []) ⟨hx, hb, hml, hown, hts⟩ (c_X0_rowOf l D cy A G ws b_o y_o y hD hT hG_b_o ) (cwV 2 hts gX3_noughtsHeldInRow_X0_rowOf rfl rfl rfl (by decide +kernel) ⟨Nat.le_of_ble_eq_true rfl, Nat.le_of_ble_eq_true rfl⟩) (c_preV hM_b_o rfl hP hK hA hS hV) rfl rfl hl.1 rfl (lv_room (Nat.le_of_ble_eq_true rfl)) dX3_noughtsHeldInRow_9 ⟨Nat.le_of_ble_eq_true rfl, Nat.le_of_ble_eq_true rfl⟩) hS (fun r9 u H locs q9 hP9 hD9 hT9 hS => ?_)
  obtain ⟨rfl, q9⟩ := q9
  have hP : va_P D vwCl ws H := hP9
  exact W.iret (v := r9) hx hb hr (fun t ht hW => ⟨⟨_, (G, ws), rfl, ⟨rfl, trivial⟩, by show va_P D vwCl ws t.heap; rw [ht]; exact hP, hD, hT⟩, hS.F ht⟩) hS.2.2 dX3_noughtsHeldInRow_12
set_option maxHeartbeats 4000000 in
set_option maxRecDepth 100000 in
theorem c_X3_fullColumns (l : Launch) (D : va_G) (cy : Nat → ClassId) (A : Nat → Prop) (G : cG) (ws : va_W) (o : Nat) (p0 : Int64) {kq nq : Nat} (hD : va_D A ws) (hT : cT cy G ws) (hG_o : G o = some (3, kq, nq))  : Ci l D cy A yX3_fullColumns wsX3_fullColumns ({ frames := 2, cells := 0, slots := 0, locals := 46 }) 0 0 ws [.ref o, .long p0] (fun r0 u => u = (G, ws) ∧ (True)) := by
  refine Met.ofW (cc := cX3_fullColumns) (maxL := 6) (ret := (some .int)) (by decide) rfl ?_
  intro p e s m args below meth c s₁ B hml hv
  obtain ⟨rfl, hP, hK, hA, hV⟩ := hv
  have hx := B.exec
  have hb := B.bytes
  have hr := B.returns
  have hts := atoms_spec (ws := wsX3_fullColumns) B.pre
  have hown : s.vm.findClass RX3 = some m.cls := findClass_of_methodNamed B.named
  have hlocks := B.notSynchronized
  have hS : va_S A s.heap s.heap [] := va_S.rf
  have hinJ : ∀ w ∈ wsX10 ++ wsX30 ++ wsX40 ++ wsX50, w ∈ wsX3_fullColumns := by decide +kernel
  have hl := lv_entry ([.ref o, .long p0]) (n := 6) (Nat.le_of_ble_eq_true rfl)
  rw [lg_entry_eq]
  generalize (lg_sl ([.ref o, .long p0]) ++ List.replicate (6 - (lg_sl ([.ref o, .long p0])).length) Slot.unset).toArray = ls at hl ⊢
  have hl : lv_has ls 6 [(0, .ref o), (1, .long p0)] := hl
  have k_0 : (0 : Int32).toInt = 0 := by decide
  have k_1 : (1 : Int32).toInt = 1 := by decide
  refine lv_iconst (v := 0) hx hb dX3_fullColumns_0 (by decide) ?_
  refine lv_istore_n (lv' := [(3, .int (0 : Int32)), (0, .ref o), (1, .long p0)]) hx hb dX3_fullColumns_1 rfl hl (by decide) rfl (fun ls hl => ?_)
  refine lv_iconst (v := 0) hx hb dX3_fullColumns_2 (by decide) ?_
  refine lv_istore (lv' := [(4, .int (0 : Int32)), (3, .int (0 : Int32)), (0, .ref o), (1, .long p0)]) hx hb dX3_fullColumns_3 hl (by decide) rfl (fun ls hl => ?_)
  have loop_5 : ∀ (n : Nat) (i : Nat) (x3 : Int32), (i ≤ 6) → 6 - i < n → ∀ (H : Heap) (locs : List Loc), va_P D vwCl ws H → va_S A s.heap H locs → ∀ (ls : Array Slot), lv_has ls 6 [(4, .int (nI i)), (3, .int x3), (0, .ref o), (1, .long p0)] → W p l e (headSpec wsX3_fullColumns ({ frames := 2, cells := 0, slots := 0, locals := 46 })).room s m #[Value.ref o, Value.long p0] below meth c H locs 0 0 (MQ below (va_Qi (fun r0 u => u = (G, ws) ∧ (True)) (cB D cy A) A) #[Value.ref o, Value.long p0] s 0 0 A) (F0 m 5 ls []) := by
    intro n
    induction n with
    | zero => intro i x3 j5_0 hn; exact absurd hn (Nat.not_lt_zero _)
    | succ n ih_5 =>
      intro i x3 j5_0 hn_5 H locs hP hS  ls hl
      have ik_i : (nI i).toInt = (i : Int) := nI_toInt (by omega)
      refine lv_iload hx hb dX3_fullColumns_5 (lv_at hl 0 rfl) ?_
      refine lv_aload_n hx hb dX3_fullColumns_7 rfl (lv_at hl 2 rfl) ?_
      obtain ⟨_, hM_o, b_o, s_o, w_o, h_o, t_o, x_o, y_o, ms_o, rfl, hG_b_o, hG_s_o, hJ_o⟩ := hT _ _ hG_o
      refine t_getJ (v := .ref b_o) hx hb hts hinJ hown hK hP hJ_o.kc hM_o 0 (by decide) (hts (.fieldLink RX3 28 "ShadowBench$Job" "board" "LShadowBench$Board;") (by decide +kernel)) (fun _ h9 => h9) rfl dX3_fullColumns_8 ?_
      obtain ⟨_, hM_b_o, hb_b_o, l_b_o, f_b_o, r_b_o, rfl, hG_l_b_o, hG_f_b_o, hG_r_b_o⟩ := hT _ _ hG_b_o
      refine t_get (v := .int (nI w_o)) (C := RX0) (T := TX0) (N := 8) hx hb hts (by decide +kernel) hown hK hP hM_b_o rfl 0 (by decide) (hts (.fieldLink RX3 54 "ShadowBench$Board" "wide" "I") (by decide +kernel)) (fun _ h9 => h9) rfl dX3_fullColumns_11 ?_
      have i_w_b_o : (nI w_o).toInt = _ := nI_toInt (by omega)
      refine lv_icmp_ge (tgt := 55) hx hb dX3_fullColumns_14 (by decide) (fun c14 => ?_) (fun c14 => ?_)
      · skip
        have d14 := c14
        rw [fa_le] at d14
        refine lv_iload_n hx hb dX3_fullColumns_55 rfl (lv_at hl 1 rfl) ?_
        exact W.iret (v := x3) hx hb hr (fun t ht hW => ⟨⟨_, (G, ws), rfl, ⟨rfl, trivial⟩, by show va_P D vwCl ws t.heap; rw [ht]; exact hP, hD, hT⟩, hS.F ht⟩) hS.2.2 dX3_fullColumns_56
      · skip
        have d14 := c14
        rw [fa_le] at d14
        refine lv_aload_n hx hb dX3_fullColumns_17 rfl (lv_at hl 2 rfl) ?_
        refine t_getJ (v := .ref b_o) hx hb hts hinJ hown hK hP hJ_o.kc hM_o 0 (by decide) (hts (.fieldLink RX3 28 "ShadowBench$Job" "board" "LShadowBench$Board;") (by decide +kernel)) (fun _ h9 => h9) rfl dX3_fullColumns_18 ?_
        refine lv_iconst (v := 1) hx hb dX3_fullColumns_21 (by decide) ?_
        refine lv_iload hx hb dX3_fullColumns_22 (lv_at hl 0 rfl) ?_
        refine lv_lload_n hx hb dX3_fullColumns_24 rfl (lv_at hl 3 rfl) ?_
        refine t_calli (va_runV (g := F0 m 25 ls ([.long p0, .int (nI i), .int (1 : Int32), .ref b_o])) (As := [.int (1 : Int32), .int (nI i), .long p0]) (rest := []) ⟨hx, hb, hml, hown, hts⟩ (c_X0_onesOfLine l D cy A G ws b_o (1 : Int32) (nI i) p0 hD hT hG_b_o ) (cwV 3 hts gX3_fullColumns_X0_onesOfLine rfl rfl rfl (by decide +kernel) ⟨Nat.le_of_ble_eq_true rfl, Nat.le_of_ble_eq_true rfl⟩) (c_preV hM_b_o rfl hP hK hA hS hV) rfl rfl hl.1 rfl (lv_room (Nat.le_of_ble_eq_true rfl)) dX3_fullColumns_25 ⟨Nat.le_of_ble_eq_true rfl, Nat.le_of_ble_eq_true rfl⟩) hS (fun r25 u H locs q25 hP9 hD9 hT9 hS => ?_)
        obtain ⟨rfl, q25⟩ := q25
        have hP : va_P D vwCl ws H := hP9
        refine lv_istore (lv' := [(5, .int r25), (4, .int (nI i)), (3, .int x3), (0, .ref o), (1, .long p0)]) hx hb dX3_fullColumns_28 hl (by decide) rfl (fun ls hl => ?_)
        refine lv_iload hx hb dX3_fullColumns_30 (lv_at hl 0 rfl) ?_
        refine lv_aload_n hx hb dX3_fullColumns_32 rfl (lv_at hl 3 rfl) ?_
        refine lv_iconst (v := 1) hx hb dX3_fullColumns_33 (by decide) ?_
        refine lv_iload hx hb dX3_fullColumns_34 (lv_at hl 1 rfl) ?_
        refine t_calli (t_runJ (g := F0 m 36 ls ([.int (nI i), .int (1 : Int32), .ref o, .int r25])) (As := [.int (1 : Int32), .int (nI i)]) (rest := [.int r25]) ⟨hx, hb, hml, hown, hts⟩ (c_X3_sumOf l D cy A G ws o (1 : Int32) (nI i) hD hT hG_o ) (va_cwU 2 hts gX3_fullColumns_X3_sumOf_u57X1 rfl rfl rfl rfl (by decide +kernel) ⟨Nat.le_of_ble_eq_true rfl, Nat.le_of_ble_eq_true rfl⟩) (cwV 2 hts gX3_fullColumns_X3_sumOf rfl rfl rfl (by decide +kernel) ⟨Nat.le_of_ble_eq_true rfl, Nat.le_of_ble_eq_true rfl⟩) (va_cwU 2 hts gX3_fullColumns_X3_sumOf_u57X4 rfl rfl rfl rfl (by decide +kernel) ⟨Nat.le_of_ble_eq_true rfl, Nat.le_of_ble_eq_true rfl⟩) (va_cwU 2 hts gX3_fullColumns_X3_sumOf_u57X5 rfl rfl rfl rfl (by decide +kernel) ⟨Nat.le_of_ble_eq_true rfl, Nat.le_of_ble_eq_true rfl⟩) hJ_o.kc hM_o hP hK c_blind (c_preS hP hK hA hS hV).2 rfl rfl hl.1 rfl (lv_room (Nat.le_of_ble_eq_true rfl)) dX3_fullColumns_36 ⟨Nat.le_of_ble_eq_true rfl, Nat.le_of_ble_eq_true rfl⟩) hS (fun r36 u H locs q36 hP9 hD9 hT9 hS => ?_)
        obtain ⟨rfl, q36⟩ := q36
        have hP : va_P D vwCl ws H := hP9
        refine lv_icmp_lt (tgt := 49) hx hb dX3_fullColumns_39 (by decide) (fun c39 => ?_) (fun c39 => ?_)
        · skip
          have d39 := c39
          rw [fa_lt] at d39
          refine lv_iinc (v := (nI (i + 1))) (lv' := [(4, .int (nI (i + 1))), (5, .int r25), (3, .int x3), (0, .ref o), (1, .long p0)]) hx hb dX3_fullColumns_49 hl (k := 1) rfl (nI_1 _) (by decide) rfl (fun ls hl => ?_)
          refine lv_goto (tgt := 5) hx hb dX3_fullColumns_52 (by decide) ?_
          exact ih_5 (i + 1) x3 (by omega) (by omega) _ _ hP hS  ls (lv_sub hl [0, 2, 3, 4] rfl)
        · skip
          have d39 := c39
          rw [fa_lt] at d39
          refine lv_iload_n hx hb dX3_fullColumns_42 rfl (lv_at hl 2 rfl) ?_
          refine lv_iconst (v := 1) hx hb dX3_fullColumns_43 (by decide) ?_
          refine lv_iload hx hb dX3_fullColumns_44 (lv_at hl 1 rfl) ?_
          refine lv_ishl hx hb dX3_fullColumns_46 ?_
          refine lv_topi (fun v46 e46 => ?_)
          refine lv_ior hx hb dX3_fullColumns_47 ?_
          refine lv_topi (fun v47 e47 => ?_)
          refine lv_istore_n (lv' := [(3, .int v47), (5, .int r25), (4, .int (nI i)), (0, .ref o), (1, .long p0)]) hx hb dX3_fullColumns_48 rfl hl (by decide) rfl (fun ls hl => ?_)
          refine lv_iinc (v := (nI (i + 1))) (lv' := [(4, .int (nI (i + 1))), (3, .int v47), (5, .int r25), (0, .ref o), (1, .long p0)]) hx hb dX3_fullColumns_49 hl (k := 2) rfl (nI_1 _) (by decide) rfl (fun ls hl => ?_)
          refine lv_goto (tgt := 5) hx hb dX3_fullColumns_52 (by decide) ?_
          exact ih_5 (i + 1) v47 (by omega) (by omega) _ _ hP hS  ls (lv_sub hl [0, 1, 3, 4] rfl)
  exact loop_5 (6 + 1) 0 (0 : Int32) (by omega) (by omega) _ _ hP hS  ls (lv_sub hl [0, 1, 2, 3] rfl)
set_option maxHeartbeats 4000000 in
set_option maxRecDepth 100000 in
theorem c_X3_hasShadowsAsTold (l : Launch) (D : va_G) (cy : Nat → ClassId) (A : Nat → Prop) (G : cG) (ws : va_W) (o : Nat) (p0 : Int64) {kq nq : Nat} (hD : va_D A ws) (hT : cT cy G ws) (hG_o : G o = some (3, kq, nq))  : Ci l D cy A yX3_hasShadowsAsTold wsX3_hasShadowsAsTold ({ frames := 2, cells := 0, slots := 0, locals := 46 }) 0 0 ws [.ref o, .long p0] (fun r0 u => u = (G, ws) ∧ (isBo r0)) := by
  refine Met.ofW (cc := cX3_hasShadowsAsTold) (maxL := 5) (ret := (some .boolean)) (by decide) rfl ?_
  intro p e s m args below meth c s₁ B hml hv
  obtain ⟨rfl, hP, hK, hA, hV⟩ := hv
  have hx := B.exec
  have hb := B.bytes
  have hr := B.returns
  have hts := atoms_spec (ws := wsX3_hasShadowsAsTold) B.pre
  have hown : s.vm.findClass RX3 = some m.cls := findClass_of_methodNamed B.named
  have hlocks := B.notSynchronized
  have hS : va_S A s.heap s.heap [] := va_S.rf
  have hinJ : ∀ w ∈ wsX10 ++ wsX30 ++ wsX40 ++ wsX50, w ∈ wsX3_hasShadowsAsTold := by decide +kernel
  have hl := lv_entry ([.ref o, .long p0]) (n := 5) (Nat.le_of_ble_eq_true rfl)
  rw [lg_entry_eq]
  generalize (lg_sl ([.ref o, .long p0]) ++ List.replicate (5 - (lg_sl ([.ref o, .long p0])).length) Slot.unset).toArray = ls at hl ⊢
  have hl : lv_has ls 5 [(0, .ref o), (1, .long p0)] := hl
  have k_0 : (0 : Int32).toInt = 0 := by decide
  have k_1 : (1 : Int32).toInt = 1 := by decide
  have k_4 : (4 : Int32).toInt = 4 := by decide
  refine lv_iconst (v := 0) hx hb dX3_hasShadowsAsTold_0 (by decide) ?_
  refine lv_istore_n (lv' := [(3, .int (0 : Int32)), (0, .ref o), (1, .long p0)]) hx hb dX3_hasShadowsAsTold_1 rfl hl (by decide) rfl (fun ls hl => ?_)
  have loop_2 : ∀ (n : Nat) (k1 : Nat), (k1 ≤ 4) → 4 - k1 < n → ∀ (H : Heap) (locs : List Loc), va_P D vwCl ws H → va_S A s.heap H locs → ∀ (ls : Array Slot), lv_has ls 5 [(3, .int (nI k1)), (0, .ref o), (1, .long p0)] → W p l e (headSpec wsX3_hasShadowsAsTold ({ frames := 2, cells := 0, slots := 0, locals := 46 })).room s m #[Value.ref o, Value.long p0] below meth c H locs 0 0 (MQ below (va_Qi (fun r0 u => u = (G, ws) ∧ (isBo r0)) (cB D cy A) A) #[Value.ref o, Value.long p0] s 0 0 A) (F0 m 2 ls []) := by
    intro n
    induction n with
    | zero => intro k1 j2_0 hn; exact absurd hn (Nat.not_lt_zero _)
    | succ n ih_2 =>
      intro k1 j2_0 hn_2 H locs hP hS  ls hl
      have ik_k1 : (nI k1).toInt = (k1 : Int) := nI_toInt (by omega)
      refine lv_iload_n hx hb dX3_hasShadowsAsTold_2 rfl (lv_at hl 0 rfl) ?_
      refine lv_iconst (v := 4) hx hb dX3_hasShadowsAsTold_3 (by decide) ?_
      refine lv_icmp_ge (tgt := 66) hx hb dX3_hasShadowsAsTold_4 (by decide) (fun c4 => ?_) (fun c4 => ?_)
      · skip
        have d4 := c4
        rw [fa_le] at d4
        refine lv_iconst (v := 1) hx hb dX3_hasShadowsAsTold_66 (by decide) ?_
        exact W.zret (v := (1 : Int32)) hx hb hr (by decide) (fun t ht hW => ⟨⟨_, (G, ws), rfl, ⟨rfl, Or.inr rfl⟩, by show va_P D vwCl ws t.heap; rw [ht]; exact hP, hD, hT⟩, hS.F ht⟩) hS.2.2 dX3_hasShadowsAsTold_67
      · skip
        have d4 := c4
        rw [fa_le] at d4
        refine lv_iconst (v := 0) hx hb dX3_hasShadowsAsTold_7 (by decide) ?_
        refine lv_istore (lv' := [(4, .int (0 : Int32)), (3, .int (nI k1)), (0, .ref o), (1, .long p0)]) hx hb dX3_hasShadowsAsTold_8 hl (by decide) rfl (fun ls hl => ?_)
        have loop_10 : ∀ (n : Nat) (i : Nat), (i ≤ 11) → 11 - i < n → ∀ (H : Heap) (locs : List Loc), va_P D vwCl ws H → va_S A s.heap H locs → ∀ (ls : Array Slot), lv_has ls 5 [(4, .int (nI i)), (3, .int (nI k1)), (0, .ref o), (1, .long p0)] → W p l e (headSpec wsX3_hasShadowsAsTold ({ frames := 2, cells := 0, slots := 0, locals := 46 })).room s m #[Value.ref o, Value.long p0] below meth c H locs 0 0 (MQ below (va_Qi (fun r0 u => u = (G, ws) ∧ (isBo r0)) (cB D cy A) A) #[Value.ref o, Value.long p0] s 0 0 A) (F0 m 10 ls []) := by
          intro n
          induction n with
          | zero => intro i j10_0 hn; exact absurd hn (Nat.not_lt_zero _)
          | succ n ih_10 =>
            intro i j10_0 hn_10 H locs hP hS  ls hl
            have ik_i : (nI i).toInt = (i : Int) := nI_toInt (by omega)
            refine lv_aload_n hx hb dX3_hasShadowsAsTold_10 rfl (lv_at hl 2 rfl) ?_
            refine lv_iload_n hx hb dX3_hasShadowsAsTold_11 rfl (lv_at hl 1 rfl) ?_
            obtain ⟨_, hM_o, b_o, s_o, w_o, h_o, t_o, x_o, y_o, ms_o, rfl, hG_b_o, hG_s_o, hJ_o⟩ := hT _ _ hG_o
            refine t_calli (t_runJ (g := F0 m 12 ls ([.int (nI k1), .ref o])) (As := [.int (nI k1)]) (rest := []) ⟨hx, hb, hml, hown, hts⟩ (c_X3_isTold l D cy A G ws o (nI k1) hD hT hG_o ) (va_cwU 1 hts gX3_hasShadowsAsTold_X3_isTold_u68X1 rfl rfl rfl rfl (by decide +kernel) ⟨Nat.le_of_ble_eq_true rfl, Nat.le_of_ble_eq_true rfl⟩) (cwV 1 hts gX3_hasShadowsAsTold_X3_isTold rfl rfl rfl (by decide +kernel) ⟨Nat.le_of_ble_eq_true rfl, Nat.le_of_ble_eq_true rfl⟩) (va_cwU 1 hts gX3_hasShadowsAsTold_X3_isTold_u68X4 rfl rfl rfl rfl (by decide +kernel) ⟨Nat.le_of_ble_eq_true rfl, Nat.le_of_ble_eq_true rfl⟩) (va_cwU 1 hts gX3_hasShadowsAsTold_X3_isTold_u68X5 rfl rfl rfl rfl (by decide +kernel) ⟨Nat.le_of_ble_eq_true rfl, Nat.le_of_ble_eq_true rfl⟩) hJ_o.kc hM_o hP hK c_blind (c_preS hP hK hA hS hV).2 rfl rfl hl.1 rfl (lv_room (Nat.le_of_ble_eq_true rfl)) dX3_hasShadowsAsTold_12 ⟨Nat.le_of_ble_eq_true rfl, Nat.le_of_ble_eq_true rfl⟩) hS (fun r12 u H locs q12 hP9 hD9 hT9 hS => ?_)
            obtain ⟨rfl, q12⟩ := q12
            have hP : va_P D vwCl ws H := hP9
            refine lv_if_eq (tgt := 60) hx hb dX3_hasShadowsAsTold_15 (by decide) (fun c15 => ?_) (fun c15 => ?_)
            · skip
              have d15 := c15
              rw [fa_eq] at d15
              refine lv_iinc (v := (nI (k1 + 1))) (lv' := [(3, .int (nI (k1 + 1))), (4, .int (nI i)), (0, .ref o), (1, .long p0)]) hx hb dX3_hasShadowsAsTold_60 hl (k := 1) rfl (nI_1 _) (by decide) rfl (fun ls hl => ?_)
              refine lv_goto (tgt := 2) hx hb dX3_hasShadowsAsTold_63 (by decide) ?_
              exact ih_2 (k1 + 1) (by omega) (by omega) _ _ hP hS  ls (lv_sub hl [0, 2, 3] rfl)
            · skip
              have d15 := c15
              rw [fa_eq] at d15
              refine lv_iload hx hb dX3_hasShadowsAsTold_18 (lv_at hl 0 rfl) ?_
              refine lv_aload_n hx hb dX3_hasShadowsAsTold_20 rfl (lv_at hl 2 rfl) ?_
              refine t_getJ (v := .ref b_o) hx hb hts hinJ hown hK hP hJ_o.kc hM_o 0 (by decide) (hts (.fieldLink RX3 28 "ShadowBench$Job" "board" "LShadowBench$Board;") (by decide +kernel)) (fun _ h9 => h9) rfl dX3_hasShadowsAsTold_21 ?_
              refine lv_iload_n hx hb dX3_hasShadowsAsTold_24 rfl (lv_at hl 1 rfl) ?_
              obtain ⟨_, hM_b_o, hb_b_o, l_b_o, f_b_o, r_b_o, rfl, hG_l_b_o, hG_f_b_o, hG_r_b_o⟩ := hT _ _ hG_b_o
              refine t_calli (va_runV (g := F0 m 25 ls ([.int (nI k1), .ref b_o, .int (nI i)])) (As := [.int (nI k1)]) (rest := [.int (nI i)]) ⟨hx, hb, hml, hown, hts⟩ (c_X0_lineCount l D cy A G ws b_o (nI k1) hD hT hG_b_o ) (cwV 1 hts gX3_hasShadowsAsTold_X0_lineCount rfl rfl rfl (by decide +kernel) ⟨Nat.le_of_ble_eq_true rfl, Nat.le_of_ble_eq_true rfl⟩) (c_preV hM_b_o rfl hP hK hA hS hV) rfl rfl hl.1 rfl (lv_room (Nat.le_of_ble_eq_true rfl)) dX3_hasShadowsAsTold_25 ⟨Nat.le_of_ble_eq_true rfl, Nat.le_of_ble_eq_true rfl⟩) hS (fun r25 u H locs q25 hP9 hD9 hT9 hS => ?_)
              obtain ⟨rfl, q25⟩ := q25
              have hP : va_P D vwCl ws H := hP9
              have hcl := cLines_b (c_hb hT hG_b_o) (nI k1)
              have z25 := congrArg Int32.toInt q25
              refine lv_icmp_ge (tgt := 60) hx hb dX3_hasShadowsAsTold_28 (by decide) (fun c28 => ?_) (fun c28 => ?_)
              · skip
                have d28 := c28
                rw [fa_le] at d28
                refine lv_iinc (v := (nI (k1 + 1))) (lv' := [(3, .int (nI (k1 + 1))), (4, .int (nI i)), (0, .ref o), (1, .long p0)]) hx hb dX3_hasShadowsAsTold_60 hl (k := 1) rfl (nI_1 _) (by decide) rfl (fun ls hl => ?_)
                refine lv_goto (tgt := 2) hx hb dX3_hasShadowsAsTold_63 (by decide) ?_
                exact ih_2 (k1 + 1) (by omega) (by omega) _ _ hP hS  ls (lv_sub hl [0, 2, 3] rfl)
              · skip
                have d28 := c28
                rw [fa_le] at d28
                refine lv_aload_n hx hb dX3_hasShadowsAsTold_31 rfl (lv_at hl 2 rfl) ?_
                refine t_getJ (v := .ref b_o) hx hb hts hinJ hown hK hP hJ_o.kc hM_o 0 (by decide) (hts (.fieldLink RX3 28 "ShadowBench$Job" "board" "LShadowBench$Board;") (by decide +kernel)) (fun _ h9 => h9) rfl dX3_hasShadowsAsTold_32 ?_
                refine lv_iload_n hx hb dX3_hasShadowsAsTold_35 rfl (lv_at hl 1 rfl) ?_
                refine lv_iload hx hb dX3_hasShadowsAsTold_36 (lv_at hl 0 rfl) ?_
                refine lv_lload_n hx hb dX3_hasShadowsAsTold_38 rfl (lv_at hl 3 rfl) ?_
                refine t_calli (va_runV (g := F0 m 39 ls ([.long p0, .int (nI i), .int (nI k1), .ref b_o])) (As := [.int (nI k1), .int (nI i), .long p0]) (rest := []) ⟨hx, hb, hml, hown, hts⟩ (c_X0_onesOfLine l D cy A G ws b_o (nI k1) (nI i) p0 hD hT hG_b_o ) (cwV 3 hts gX3_hasShadowsAsTold_X0_onesOfLine rfl rfl rfl (by decide +kernel) ⟨Nat.le_of_ble_eq_true rfl, Nat.le_of_ble_eq_true rfl⟩) (c_preV hM_b_o rfl hP hK hA hS hV) rfl rfl hl.1 rfl (lv_room (Nat.le_of_ble_eq_true rfl)) dX3_hasShadowsAsTold_39 ⟨Nat.le_of_ble_eq_true rfl, Nat.le_of_ble_eq_true rfl⟩) hS (fun r39 u H locs q39 hP9 hD9 hT9 hS => ?_)
                obtain ⟨rfl, q39⟩ := q39
                have hP : va_P D vwCl ws H := hP9
                refine lv_aload_n hx hb dX3_hasShadowsAsTold_42 rfl (lv_at hl 2 rfl) ?_
                refine lv_iload_n hx hb dX3_hasShadowsAsTold_43 rfl (lv_at hl 1 rfl) ?_
                refine lv_iload hx hb dX3_hasShadowsAsTold_44 (lv_at hl 0 rfl) ?_
                refine t_calli (t_runJ (g := F0 m 46 ls ([.int (nI i), .int (nI k1), .ref o, .int r39])) (As := [.int (nI k1), .int (nI i)]) (rest := [.int r39]) ⟨hx, hb, hml, hown, hts⟩ (c_X3_sumOf l D cy A G ws o (nI k1) (nI i) hD hT hG_o ) (va_cwU 2 hts gX3_hasShadowsAsTold_X3_sumOf_u57X1 rfl rfl rfl rfl (by decide +kernel) ⟨Nat.le_of_ble_eq_true rfl, Nat.le_of_ble_eq_true rfl⟩) (cwV 2 hts gX3_hasShadowsAsTold_X3_sumOf rfl rfl rfl (by decide +kernel) ⟨Nat.le_of_ble_eq_true rfl, Nat.le_of_ble_eq_true rfl⟩) (va_cwU 2 hts gX3_hasShadowsAsTold_X3_sumOf_u57X4 rfl rfl rfl rfl (by decide +kernel) ⟨Nat.le_of_ble_eq_true rfl, Nat.le_of_ble_eq_true rfl⟩) (va_cwU 2 hts gX3_hasShadowsAsTold_X3_sumOf_u57X5 rfl rfl rfl rfl (by decide +kernel) ⟨Nat.le_of_ble_eq_true rfl, Nat.le_of_ble_eq_true rfl⟩) hJ_o.kc hM_o hP hK c_blind (c_preS hP hK hA hS hV).2 rfl rfl hl.1 rfl (lv_room (Nat.le_of_ble_eq_true rfl)) dX3_hasShadowsAsTold_46 ⟨Nat.le_of_ble_eq_true rfl, Nat.le_of_ble_eq_true rfl⟩) hS (fun r46 u H locs q46 hP9 hD9 hT9 hS => ?_)
                obtain ⟨rfl, q46⟩ := q46
                have hP : va_P D vwCl ws H := hP9
                refine lv_icmp_eq (tgt := 54) hx hb dX3_hasShadowsAsTold_49 (by decide) (fun c49 => ?_) (fun c49 => ?_)
                · skip
                  have d49 := c49
                  rw [fa_eq] at d49
                  refine lv_iinc (v := (nI (i + 1))) (lv' := [(4, .int (nI (i + 1))), (3, .int (nI k1)), (0, .ref o), (1, .long p0)]) hx hb dX3_hasShadowsAsTold_54 hl (k := 0) rfl (nI_1 _) (by decide) rfl (fun ls hl => ?_)
                  refine lv_goto (tgt := 10) hx hb dX3_hasShadowsAsTold_57 (by decide) ?_
                  exact ih_10 (i + 1) (by omega) (by omega) _ _ hP hS  ls (lv_sub hl [0, 1, 2, 3] rfl)
                · skip
                  have d49 := c49
                  rw [fa_eq] at d49
                  refine lv_iconst (v := 0) hx hb dX3_hasShadowsAsTold_52 (by decide) ?_
                  exact W.zret (v := (0 : Int32)) hx hb hr (by decide) (fun t ht hW => ⟨⟨_, (G, ws), rfl, ⟨rfl, Or.inl rfl⟩, by show va_P D vwCl ws t.heap; rw [ht]; exact hP, hD, hT⟩, hS.F ht⟩) hS.2.2 dX3_hasShadowsAsTold_53
        exact loop_10 (11 + 1) 0 (by omega) (by omega) _ _ hP hS  ls (lv_sub hl [0, 1, 2, 3] rfl)
  exact loop_2 (4 + 1) 0 (by omega) (by omega) _ _ hP hS  ls (lv_sub hl [0, 1, 2] rfl)
set_option maxHeartbeats 4000000 in
set_option maxRecDepth 100000 in
theorem c_X3_isAsKindAsks (l : Launch) (D : va_G) (cy : Nat → ClassId) (A : Nat → Prop) (G : cG) (ws : va_W) (o : Nat) (p0 : Int64) {kq nq : Nat} (hD : va_D A ws) (hT : cT cy G ws) (hG_o : G o = some (3, kq, nq))  : Ci l D cy A yX3_isAsKindAsks wsX3_isAsKindAsks ({ frames := 0, cells := 0, slots := 0, locals := 0 }) 0 0 ws [.ref o, .long p0] (fun r0 u => u = (G, ws) ∧ (isBo r0)) := by
  refine Met.ofW (cc := cX3_isAsKindAsks) (maxL := 3) (ret := (some .boolean)) (by decide) rfl ?_
  intro p e s m args below meth c s₁ B hml hv
  obtain ⟨rfl, hP, hK, hA, hV⟩ := hv
  have hx := B.exec
  have hb := B.bytes
  have hr := B.returns
  have hts := atoms_spec (ws := wsX3_isAsKindAsks) B.pre
  have hown : s.vm.findClass RX3 = some m.cls := findClass_of_methodNamed B.named
  have hlocks := B.notSynchronized
  have hS : va_S A s.heap s.heap [] := va_S.rf
  have hl := lv_entry ([.ref o, .long p0]) (n := 3) (Nat.le_of_ble_eq_true rfl)
  rw [lg_entry_eq]
  generalize (lg_sl ([.ref o, .long p0]) ++ List.replicate (3 - (lg_sl ([.ref o, .long p0])).length) Slot.unset).toArray = ls at hl ⊢
  have hl : lv_has ls 3 [(0, .ref o), (1, .long p0)] := hl
  have k_0 : (0 : Int32).toInt = 0 := by decide
  have k_1 : (1 : Int32).toInt = 1 := by decide
  refine lv_iconst (v := 1) hx hb dX3_isAsKindAsks_0 (by decide) ?_
  exact W.zret (v := (1 : Int32)) hx hb hr (by decide) (fun t ht hW => ⟨⟨_, (G, ws), rfl, ⟨rfl, Or.inr rfl⟩, by show va_P D vwCl ws t.heap; rw [ht]; exact hP, hD, hT⟩, hS.F ht⟩) hS.2.2 dX3_isAsKindAsks_1
set_option maxHeartbeats 4000000 in
set_option maxRecDepth 100000 in
theorem c_X4_isAsKindAsks (l : Launch) (D : va_G) (cy : Nat → ClassId) (A : Nat → Prop) (G : cG) (ws : va_W) (o : Nat) (p0 : Int64) {kq nq : Nat} (hD : va_D A ws) (hT : cT cy G ws) (hG_o : G o = some (3, kq, nq))  : Ci l D cy A yX4_isAsKindAsks wsX4_isAsKindAsks ({ frames := 1, cells := 0, slots := 0, locals := 33 }) 0 0 ws [.ref o, .long p0] (fun r0 u => u = (G, ws) ∧ (isBo r0)) := by
  refine Met.ofW (cc := cX4_isAsKindAsks) (maxL := 3) (ret := (some .boolean)) (by decide) rfl ?_
  intro p e s m args below meth c s₁ B hml hv
  obtain ⟨rfl, hP, hK, hA, hV⟩ := hv
  have hx := B.exec
  have hb := B.bytes
  have hr := B.returns
  have hts := atoms_spec (ws := wsX4_isAsKindAsks) B.pre
  have hown : s.vm.findClass RX4 = some m.cls := findClass_of_methodNamed B.named
  have hlocks := B.notSynchronized
  have hS : va_S A s.heap s.heap [] := va_S.rf
  have hinJ : ∀ w ∈ wsX10 ++ wsX30 ++ wsX40 ++ wsX50, w ∈ wsX4_isAsKindAsks := by decide +kernel
  have hl := lv_entry ([.ref o, .long p0]) (n := 3) (Nat.le_of_ble_eq_true rfl)
  rw [lg_entry_eq]
  generalize (lg_sl ([.ref o, .long p0]) ++ List.replicate (3 - (lg_sl ([.ref o, .long p0])).length) Slot.unset).toArray = ls at hl ⊢
  have hl : lv_has ls 3 [(0, .ref o), (1, .long p0)] := hl
  have k_0 : (0 : Int32).toInt = 0 := by decide
  refine lv_aload_n hx hb dX4_isAsKindAsks_0 rfl (lv_at hl 0 rfl) ?_
  obtain ⟨_, hM_o, b_o, s_o, w_o, h_o, t_o, x_o, y_o, ms_o, rfl, hG_b_o, hG_s_o, hJ_o⟩ := hT _ _ hG_o
  refine t_getJ (v := .ref b_o) hx hb hts hinJ hown hK hP hJ_o.kc hM_o 0 (by decide) (hts (.fieldLink RX4 7 "ShadowBench$JoinedJob" "board" "LShadowBench$Board;") (by decide +kernel)) (fun _ h9 => u_same (hts (.sameField "ShadowBench$JoinedJob" "ShadowBench$Job" "board" "LShadowBench$Board;") (by decide +kernel)) _ h9) rfl dX4_isAsKindAsks_1 ?_
  refine lv_lload_n hx hb dX4_isAsKindAsks_4 rfl (lv_at hl 1 rfl) ?_
  obtain ⟨_, hM_b_o, hb_b_o, l_b_o, f_b_o, r_b_o, rfl, hG_l_b_o, hG_f_b_o, hG_r_b_o⟩ := hT _ _ hG_b_o
  refine t_calli (va_runV (g := F0 m 5 ls ([.long p0, .ref b_o])) (As := [.long p0]) (rest := []) ⟨hx, hb, hml, hown, hts⟩ (c_X0_hangsTogether l D cy A G ws b_o p0 hD hT hG_b_o ) (cwV 1 hts gX4_isAsKindAsks_X0_hangsTogether rfl rfl rfl (by decide +kernel) ⟨Nat.le_of_ble_eq_true rfl, Nat.le_of_ble_eq_true rfl⟩) (c_preV hM_b_o rfl hP hK hA hS hV) rfl rfl hl.1 rfl (lv_room (Nat.le_of_ble_eq_true rfl)) dX4_isAsKindAsks_5 ⟨Nat.le_of_ble_eq_true rfl, Nat.le_of_ble_eq_true rfl⟩) hS (fun r5 u H locs q5 hP9 hD9 hT9 hS => ?_)
  obtain ⟨rfl, q5⟩ := q5
  have hP : va_P D vwCl ws H := hP9
  exact W.zret (v := r5) hx hb hr (isBo_z q5) (fun t ht hW => ⟨⟨_, (G, ws), rfl, ⟨rfl, q5⟩, by show va_P D vwCl ws t.heap; rw [ht]; exact hP, hD, hT⟩, hS.F ht⟩) hS.2.2 dX4_isAsKindAsks_8
set_option maxHeartbeats 4000000 in
set_option maxRecDepth 100000 in
theorem c_X1_isAsKindAsks (l : Launch) (D : va_G) (cy : Nat → ClassId) (A : Nat → Prop) (G : cG) (ws : va_W) (o : Nat) (p0 : Int64) {nq : Nat} (hD : va_D A ws) (hT : cT cy G ws) (hG_o : G o = some (3, 1, nq))  : Ci l D cy A yX1_isAsKindAsks wsX1_isAsKindAsks ({ frames := 2, cells := 0, slots := 0, locals := 55 }) 0 0 ws [.ref o, .long p0] (fun r0 u => u = (G, ws) ∧ (isBo r0)) := by
  refine Met.ofW (cc := cX1_isAsKindAsks) (maxL := 3) (ret := (some .boolean)) (by decide) rfl ?_
  intro p e s m args below meth c s₁ B hml hv
  obtain ⟨rfl, hP, hK, hA, hV⟩ := hv
  have hx := B.exec
  have hb := B.bytes
  have hr := B.returns
  have hts := atoms_spec (ws := wsX1_isAsKindAsks) B.pre
  have hown : s.vm.findClass RX1 = some m.cls := findClass_of_methodNamed B.named
  have hlocks := B.notSynchronized
  have hS : va_S A s.heap s.heap [] := va_S.rf
  have hl := lv_entry ([.ref o, .long p0]) (n := 3) (Nat.le_of_ble_eq_true rfl)
  rw [lg_entry_eq]
  generalize (lg_sl ([.ref o, .long p0]) ++ List.replicate (3 - (lg_sl ([.ref o, .long p0])).length) Slot.unset).toArray = ls at hl ⊢
  have hl : lv_has ls 3 [(0, .ref o), (1, .long p0)] := hl
  have k_0 : (0 : Int32).toInt = 0 := by decide
  have k_1 : (1 : Int32).toInt = 1 := by decide
  refine lv_aload_n hx hb dX1_isAsKindAsks_0 rfl (lv_at hl 0 rfl) ?_
  refine lv_lload_n hx hb dX1_isAsKindAsks_1 rfl (lv_at hl 1 rfl) ?_
  obtain ⟨_, hM_o, b_o, s_o, w_o, h_o, t_o, x_o, y_o, ms_o, rfl, hG_b_o, hG_s_o, hJ_o⟩ := hT _ _ hG_o
  refine t_calli (va_runSU (g := F0 m 2 ls ([.long p0, .ref o])) (As := [.long p0]) (rest := []) (hK.1 1 _ rfl).2 ⟨hx, hb, hml, hown, hts⟩ (c_X4_isAsKindAsks l D cy A G ws o p0 hD hT hG_o ) (va_cwSU 1 hts gX1_isAsKindAsks_X4_isAsKindAsks_s7 rfl rfl rfl (by decide +kernel) ⟨Nat.le_of_ble_eq_true rfl, Nat.le_of_ble_eq_true rfl⟩) (c_preV hM_o rfl hP hK hA hS hV) rfl rfl hl.1 rfl (lv_room (Nat.le_of_ble_eq_true rfl)) dX1_isAsKindAsks_2 ⟨Nat.le_of_ble_eq_true rfl, Nat.le_of_ble_eq_true rfl⟩) hS (fun r2 u H locs q2 hP9 hD9 hT9 hS => ?_)
  obtain ⟨rfl, q2⟩ := q2
  have hP : va_P D vwCl ws H := hP9
  refine lv_if_eq (tgt := 34) hx hb dX1_isAsKindAsks_5 (by decide) (fun c5 => ?_) (fun c5 => ?_)
  · skip
    have d5 := c5
    rw [fa_eq] at d5
    refine lv_iconst (v := 0) hx hb dX1_isAsKindAsks_34 (by decide) ?_
    exact W.zret (v := (0 : Int32)) hx hb hr (by decide) (fun t ht hW => ⟨⟨_, (G, ws), rfl, ⟨rfl, Or.inl rfl⟩, by show va_P D vwCl ws t.heap; rw [ht]; exact hP, hD, hT⟩, hS.F ht⟩) hS.2.2 dX1_isAsKindAsks_35
  · skip
    have d5 := c5
    rw [fa_eq] at d5
    refine lv_aload_n hx hb dX1_isAsKindAsks_8 rfl (lv_at hl 0 rfl) ?_
    refine t_get (v := .ref b_o) (C := RX1) (T := TX1) (N := 5) hx hb hts (by decide +kernel) hown hK hP hM_o rfl 0 (by decide) (hts (.fieldLink RX1 11 "ShadowBench$EvenJob" "board" "LShadowBench$Board;") (by decide +kernel)) (fun _ h9 => u_same (hts (.sameField "ShadowBench$EvenJob" "ShadowBench$Job" "board" "LShadowBench$Board;") (by decide +kernel)) _ h9) rfl dX1_isAsKindAsks_9 ?_
    refine lv_lload_n hx hb dX1_isAsKindAsks_12 rfl (lv_at hl 1 rfl) ?_
    obtain ⟨_, hM_b_o, hb_b_o, l_b_o, f_b_o, r_b_o, rfl, hG_l_b_o, hG_f_b_o, hG_r_b_o⟩ := hT _ _ hG_b_o
    refine t_calli (va_runV (g := F0 m 13 ls ([.long p0, .ref b_o])) (As := [.long p0]) (rest := []) ⟨hx, hb, hml, hown, hts⟩ (c_X0_rowsAreWhole l D cy A G ws b_o p0 hD hT hG_b_o ) (cwV 1 hts gX1_isAsKindAsks_X0_rowsAreWhole rfl rfl rfl (by decide +kernel) ⟨Nat.le_of_ble_eq_true rfl, Nat.le_of_ble_eq_true rfl⟩) (c_preV hM_b_o rfl hP hK hA hS hV) rfl rfl hl.1 rfl (lv_room (Nat.le_of_ble_eq_true rfl)) dX1_isAsKindAsks_13 ⟨Nat.le_of_ble_eq_true rfl, Nat.le_of_ble_eq_true rfl⟩) hS (fun r13 u H locs q13 hP9 hD9 hT9 hS => ?_)
    obtain ⟨rfl, q13⟩ := q13
    have hP : va_P D vwCl ws H := hP9
    refine lv_if_eq (tgt := 34) hx hb dX1_isAsKindAsks_16 (by decide) (fun c16 => ?_) (fun c16 => ?_)
    · skip
      have d16 := c16
      rw [fa_eq] at d16
      refine lv_iconst (v := 0) hx hb dX1_isAsKindAsks_34 (by decide) ?_
      exact W.zret (v := (0 : Int32)) hx hb hr (by decide) (fun t ht hW => ⟨⟨_, (G, ws), rfl, ⟨rfl, Or.inl rfl⟩, by show va_P D vwCl ws t.heap; rw [ht]; exact hP, hD, hT⟩, hS.F ht⟩) hS.2.2 dX1_isAsKindAsks_35
    · skip
      have d16 := c16
      rw [fa_eq] at d16
      refine lv_aload_n hx hb dX1_isAsKindAsks_19 rfl (lv_at hl 0 rfl) ?_
      refine t_get (v := .ref b_o) (C := RX1) (T := TX1) (N := 5) hx hb hts (by decide +kernel) hown hK hP hM_o rfl 0 (by decide) (hts (.fieldLink RX1 11 "ShadowBench$EvenJob" "board" "LShadowBench$Board;") (by decide +kernel)) (fun _ h9 => u_same (hts (.sameField "ShadowBench$EvenJob" "ShadowBench$Job" "board" "LShadowBench$Board;") (by decide +kernel)) _ h9) rfl dX1_isAsKindAsks_20 ?_
      refine lv_lload_n hx hb dX1_isAsKindAsks_23 rfl (lv_at hl 1 rfl) ?_
      refine t_calli (va_runV (g := F0 m 24 ls ([.long p0, .ref b_o])) (As := [.long p0]) (rest := []) ⟨hx, hb, hml, hown, hts⟩ (c_X0_columnsAreWhole l D cy A G ws b_o p0 hD hT hG_b_o ) (cwV 1 hts gX1_isAsKindAsks_X0_columnsAreWhole rfl rfl rfl (by decide +kernel) ⟨Nat.le_of_ble_eq_true rfl, Nat.le_of_ble_eq_true rfl⟩) (c_preV hM_b_o rfl hP hK hA hS hV) rfl rfl hl.1 rfl (lv_room (Nat.le_of_ble_eq_true rfl)) dX1_isAsKindAsks_24 ⟨Nat.le_of_ble_eq_true rfl, Nat.le_of_ble_eq_true rfl⟩) hS (fun r24 u H locs q24 hP9 hD9 hT9 hS => ?_)
      obtain ⟨rfl, q24⟩ := q24
      have hP : va_P D vwCl ws H := hP9
      refine lv_if_eq (tgt := 34) hx hb dX1_isAsKindAsks_27 (by decide) (fun c27 => ?_) (fun c27 => ?_)
      · skip
        have d27 := c27
        rw [fa_eq] at d27
        refine lv_iconst (v := 0) hx hb dX1_isAsKindAsks_34 (by decide) ?_
        exact W.zret (v := (0 : Int32)) hx hb hr (by decide) (fun t ht hW => ⟨⟨_, (G, ws), rfl, ⟨rfl, Or.inl rfl⟩, by show va_P D vwCl ws t.heap; rw [ht]; exact hP, hD, hT⟩, hS.F ht⟩) hS.2.2 dX1_isAsKindAsks_35
      · skip
        have d27 := c27
        rw [fa_eq] at d27
        refine lv_iconst (v := 1) hx hb dX1_isAsKindAsks_30 (by decide) ?_
        refine lv_goto (tgt := 35) hx hb dX1_isAsKindAsks_31 (by decide) ?_
        exact W.zret (v := (1 : Int32)) hx hb hr (by decide) (fun t ht hW => ⟨⟨_, (G, ws), rfl, ⟨rfl, Or.inr rfl⟩, by show va_P D vwCl ws t.heap; rw [ht]; exact hP, hD, hT⟩, hS.F ht⟩) hS.2.2 dX1_isAsKindAsks_35
set_option maxHeartbeats 4000000 in
set_option maxRecDepth 100000 in
theorem c_X3_admits (l : Launch) (D : va_G) (cy : Nat → ClassId) (A : Nat → Prop) (G : cG) (ws : va_W) (o : Nat) (p0 : Int64) {kq nq : Nat} (hD : va_D A ws) (hT : cT cy G ws) (hG_o : G o = some (3, kq, nq))  : Ci l D cy A yX3_admits wsX3_admits ({ frames := 3, cells := 0, slots := 0, locals := 77 }) 0 0 ws [.ref o, .long p0] (fun r0 u => u = (G, ws) ∧ (isBo r0)) := by
  refine Met.ofW (cc := cX3_admits) (maxL := 3) (ret := (some .boolean)) (by decide) rfl ?_
  intro p e s m args below meth c s₁ B hml hv
  obtain ⟨rfl, hP, hK, hA, hV⟩ := hv
  have hx := B.exec
  have hb := B.bytes
  have hr := B.returns
  have hts := atoms_spec (ws := wsX3_admits) B.pre
  have hown : s.vm.findClass RX3 = some m.cls := findClass_of_methodNamed B.named
  have hlocks := B.notSynchronized
  have hS : va_S A s.heap s.heap [] := va_S.rf
  have hinJ : ∀ w ∈ wsX10 ++ wsX30 ++ wsX40 ++ wsX50, w ∈ wsX3_admits := by decide +kernel
  have hl := lv_entry ([.ref o, .long p0]) (n := 3) (Nat.le_of_ble_eq_true rfl)
  rw [lg_entry_eq]
  generalize (lg_sl ([.ref o, .long p0]) ++ List.replicate (3 - (lg_sl ([.ref o, .long p0])).length) Slot.unset).toArray = ls at hl ⊢
  have hl : lv_has ls 3 [(0, .ref o), (1, .long p0)] := hl
  have k_0 : (0 : Int32).toInt = 0 := by decide
  have k_1 : (1 : Int32).toInt = 1 := by decide
  have k_m1L : (-1 : Int64).toInt = -1 := by decide
  have k_0L : (0 : Int64).toInt = 0 := by decide
  refine lv_lload_n hx hb dX3_admits_0 rfl (lv_at hl 1 rfl) ?_
  refine lv_aload_n hx hb dX3_admits_1 rfl (lv_at hl 0 rfl) ?_
  obtain ⟨_, hM_o, b_o, s_o, w_o, h_o, t_o, x_o, y_o, ms_o, rfl, hG_b_o, hG_s_o, hJ_o⟩ := hT _ _ hG_o
  refine t_getJ (v := .long y_o) hx hb hts hinJ hown hK hP hJ_o.kc hM_o 4 (by decide) (hts (.fieldLink RX3 25 "ShadowBench$Job" "heldNoughts" "J") (by decide +kernel)) (fun _ h9 => h9) rfl dX3_admits_2 ?_
  refine lv_land hx hb dX3_admits_5 ?_
  refine lv_topl (fun v5 e5 => ?_)
  refine lv_lconst (v := 0) hx hb dX3_admits_6 (by decide) ?_
  refine W.lcmp hx hb dX3_admits_7 ?_
  refine lv_if_ne (tgt := 46) hx hb dX3_admits_8 (by decide) (fun c8 => ?_) (fun c8 => ?_)
  · skip
    have d8 := c8
    rw [lg_cmp_eq, fa_eq64] at d8
    refine lv_iconst (v := 0) hx hb dX3_admits_46 (by decide) ?_
    exact W.zret (v := (0 : Int32)) hx hb hr (by decide) (fun t ht hW => ⟨⟨_, (G, ws), rfl, ⟨rfl, Or.inl rfl⟩, by show va_P D vwCl ws t.heap; rw [ht]; exact hP, hD, hT⟩, hS.F ht⟩) hS.2.2 dX3_admits_47
  · skip
    have d8 := c8
    rw [lg_cmp_eq, fa_eq64] at d8
    refine lv_lload_n hx hb dX3_admits_11 rfl (lv_at hl 1 rfl) ?_
    refine lv_ldc2 hx hb hown (hts (.constantLong RX3 48 (-1)) (by decide +kernel)) dX3_admits_12 ?_
    refine lv_lxor hx hb dX3_admits_15 ?_
    refine lv_topl (fun v15 e15 => ?_)
    refine lv_aload_n hx hb dX3_admits_16 rfl (lv_at hl 0 rfl) ?_
    refine t_getJ (v := .long x_o) hx hb hts hinJ hown hK hP hJ_o.kc hM_o 3 (by decide) (hts (.fieldLink RX3 21 "ShadowBench$Job" "heldOnes" "J") (by decide +kernel)) (fun _ h9 => h9) rfl dX3_admits_17 ?_
    refine lv_land hx hb dX3_admits_20 ?_
    refine lv_topl (fun v20 e20 => ?_)
    refine lv_lconst (v := 0) hx hb dX3_admits_21 (by decide) ?_
    refine W.lcmp hx hb dX3_admits_22 ?_
    refine lv_if_ne (tgt := 46) hx hb dX3_admits_23 (by decide) (fun c23 => ?_) (fun c23 => ?_)
    · skip
      have d23 := c23
      rw [lg_cmp_eq, fa_eq64] at d23
      refine lv_iconst (v := 0) hx hb dX3_admits_46 (by decide) ?_
      exact W.zret (v := (0 : Int32)) hx hb hr (by decide) (fun t ht hW => ⟨⟨_, (G, ws), rfl, ⟨rfl, Or.inl rfl⟩, by show va_P D vwCl ws t.heap; rw [ht]; exact hP, hD, hT⟩, hS.F ht⟩) hS.2.2 dX3_admits_47
    · skip
      have d23 := c23
      rw [lg_cmp_eq, fa_eq64] at d23
      refine lv_aload_n hx hb dX3_admits_26 rfl (lv_at hl 0 rfl) ?_
      refine lv_lload_n hx hb dX3_admits_27 rfl (lv_at hl 1 rfl) ?_
      refine t_calli (t_runJ (g := F0 m 28 ls ([.long p0, .ref o])) (As := [.long p0]) (rest := []) ⟨hx, hb, hml, hown, hts⟩ (c_X3_hasShadowsAsTold l D cy A G ws o p0 hD hT hG_o ) (va_cwU 1 hts gX3_admits_X3_hasShadowsAsTold_u61X1 rfl rfl rfl rfl (by decide +kernel) ⟨Nat.le_of_ble_eq_true rfl, Nat.le_of_ble_eq_true rfl⟩) (cwV 1 hts gX3_admits_X3_hasShadowsAsTold rfl rfl rfl (by decide +kernel) ⟨Nat.le_of_ble_eq_true rfl, Nat.le_of_ble_eq_true rfl⟩) (va_cwU 1 hts gX3_admits_X3_hasShadowsAsTold_u61X4 rfl rfl rfl rfl (by decide +kernel) ⟨Nat.le_of_ble_eq_true rfl, Nat.le_of_ble_eq_true rfl⟩) (va_cwU 1 hts gX3_admits_X3_hasShadowsAsTold_u61X5 rfl rfl rfl rfl (by decide +kernel) ⟨Nat.le_of_ble_eq_true rfl, Nat.le_of_ble_eq_true rfl⟩) hJ_o.kc hM_o hP hK c_blind (c_preS hP hK hA hS hV).2 rfl rfl hl.1 rfl (lv_room (Nat.le_of_ble_eq_true rfl)) dX3_admits_28 ⟨Nat.le_of_ble_eq_true rfl, Nat.le_of_ble_eq_true rfl⟩) hS (fun r28 u H locs q28 hP9 hD9 hT9 hS => ?_)
      obtain ⟨rfl, q28⟩ := q28
      have hP : va_P D vwCl ws H := hP9
      refine lv_if_eq (tgt := 46) hx hb dX3_admits_31 (by decide) (fun c31 => ?_) (fun c31 => ?_)
      · skip
        have d31 := c31
        rw [fa_eq] at d31
        refine lv_iconst (v := 0) hx hb dX3_admits_46 (by decide) ?_
        exact W.zret (v := (0 : Int32)) hx hb hr (by decide) (fun t ht hW => ⟨⟨_, (G, ws), rfl, ⟨rfl, Or.inl rfl⟩, by show va_P D vwCl ws t.heap; rw [ht]; exact hP, hD, hT⟩, hS.F ht⟩) hS.2.2 dX3_admits_47
      · skip
        have d31 := c31
        rw [fa_eq] at d31
        refine lv_aload_n hx hb dX3_admits_34 rfl (lv_at hl 0 rfl) ?_
        refine lv_lload_n hx hb dX3_admits_35 rfl (lv_at hl 1 rfl) ?_
        have hJ9 := hJ_o
        obtain ⟨hn9, hJ9⟩ := hJ9
        rcases hJ9 with ⟨rfl, rfl⟩ | ⟨rfl, rfl⟩ | ⟨rfl, rfl⟩ | ⟨rfl, c9, rfl, hG_c9⟩
        · skip
          have hM_o : cIn ws o (.inr (1, [.ref b_o, .ref s_o, .int t_o, .long x_o, .long y_o])) := hM_o
          refine t_calli (va_runU (g := F0 m 36 ls ([.long p0, .ref o])) (As := [.long p0]) (rest := []) ⟨hx, hb, hml, hown, hts⟩ (c_X1_isAsKindAsks l D cy A G ws o p0 hD hT hG_o ) (va_cwO 1 hts gX3_admits_X1_isAsKindAsks_u65X1 rfl rfl rfl (b0 := cX3_isAsKindAsks) (m0 := 3) (r0 := (some .boolean)) (by decide +kernel) (by decide +kernel) ⟨Nat.le_of_ble_eq_true rfl, Nat.le_of_ble_eq_true rfl⟩) (c_preV hM_o rfl hP hK hA hS hV) rfl rfl hl.1 rfl (lv_room (Nat.le_of_ble_eq_true rfl)) dX3_admits_36 ⟨Nat.le_of_ble_eq_true rfl, Nat.le_of_ble_eq_true rfl⟩) hS (fun r36 u H locs q36 hP9 hD9 hT9 hS => ?_)
          obtain ⟨rfl, q36⟩ := q36
          have hP : va_P D vwCl ws H := hP9
          refine lv_if_eq (tgt := 46) hx hb dX3_admits_39 (by decide) (fun c39 => ?_) (fun c39 => ?_)
          · skip
            have d39 := c39
            rw [fa_eq] at d39
            refine lv_iconst (v := 0) hx hb dX3_admits_46 (by decide) ?_
            exact W.zret (v := (0 : Int32)) hx hb hr (by decide) (fun t ht hW => ⟨⟨_, (G, ws), rfl, ⟨rfl, Or.inl rfl⟩, by show va_P D vwCl ws t.heap; rw [ht]; exact hP, hD, hT⟩, hS.F ht⟩) hS.2.2 dX3_admits_47
          · skip
            have d39 := c39
            rw [fa_eq] at d39
            refine lv_iconst (v := 1) hx hb dX3_admits_42 (by decide) ?_
            refine lv_goto (tgt := 47) hx hb dX3_admits_43 (by decide) ?_
            exact W.zret (v := (1 : Int32)) hx hb hr (by decide) (fun t ht hW => ⟨⟨_, (G, ws), rfl, ⟨rfl, Or.inr rfl⟩, by show va_P D vwCl ws t.heap; rw [ht]; exact hP, hD, hT⟩, hS.F ht⟩) hS.2.2 dX3_admits_47
        · skip
          have hM_o : cIn ws o (.inr (2, [.ref b_o, .ref s_o, .int t_o, .long x_o, .long y_o])) := hM_o
          refine t_calli (va_runV (g := F0 m 36 ls ([.long p0, .ref o])) (As := [.long p0]) (rest := []) ⟨hx, hb, hml, hown, hts⟩ (c_X3_isAsKindAsks l D cy A G ws o p0 hD hT hG_o ) (cwV 1 hts gX3_admits_X3_isAsKindAsks rfl rfl rfl (by decide +kernel) ⟨Nat.le_of_ble_eq_true rfl, Nat.le_of_ble_eq_true rfl⟩) (c_preV hM_o rfl hP hK hA hS hV) rfl rfl hl.1 rfl (lv_room (Nat.le_of_ble_eq_true rfl)) dX3_admits_36 ⟨Nat.le_of_ble_eq_true rfl, Nat.le_of_ble_eq_true rfl⟩) hS (fun r36 u H locs q36 hP9 hD9 hT9 hS => ?_)
          obtain ⟨rfl, q36⟩ := q36
          have hP : va_P D vwCl ws H := hP9
          refine lv_if_eq (tgt := 46) hx hb dX3_admits_39 (by decide) (fun c39 => ?_) (fun c39 => ?_)
          · skip
            have d39 := c39
            rw [fa_eq] at d39
            refine lv_iconst (v := 0) hx hb dX3_admits_46 (by decide) ?_
            exact W.zret (v := (0 : Int32)) hx hb hr (by decide) (fun t ht hW => ⟨⟨_, (G, ws), rfl, ⟨rfl, Or.inl rfl⟩, by show va_P D vwCl ws t.heap; rw [ht]; exact hP, hD, hT⟩, hS.F ht⟩) hS.2.2 dX3_admits_47
          · skip
            have d39 := c39
            rw [fa_eq] at d39
            refine lv_iconst (v := 1) hx hb dX3_admits_42 (by decide) ?_
            refine lv_goto (tgt := 47) hx hb dX3_admits_43 (by decide) ?_
            exact W.zret (v := (1 : Int32)) hx hb hr (by decide) (fun t ht hW => ⟨⟨_, (G, ws), rfl, ⟨rfl, Or.inr rfl⟩, by show va_P D vwCl ws t.heap; rw [ht]; exact hP, hD, hT⟩, hS.F ht⟩) hS.2.2 dX3_admits_47
        · skip
          have hM_o : cIn ws o (.inr (3, [.ref b_o, .ref s_o, .int t_o, .long x_o, .long y_o])) := hM_o
          refine t_calli (va_runU (g := F0 m 36 ls ([.long p0, .ref o])) (As := [.long p0]) (rest := []) ⟨hx, hb, hml, hown, hts⟩ (c_X4_isAsKindAsks l D cy A G ws o p0 hD hT hG_o ) (va_cwO 1 hts gX3_admits_X4_isAsKindAsks_u65X4 rfl rfl rfl (b0 := cX3_isAsKindAsks) (m0 := 3) (r0 := (some .boolean)) (by decide +kernel) (by decide +kernel) ⟨Nat.le_of_ble_eq_true rfl, Nat.le_of_ble_eq_true rfl⟩) (c_preV hM_o rfl hP hK hA hS hV) rfl rfl hl.1 rfl (lv_room (Nat.le_of_ble_eq_true rfl)) dX3_admits_36 ⟨Nat.le_of_ble_eq_true rfl, Nat.le_of_ble_eq_true rfl⟩) hS (fun r36 u H locs q36 hP9 hD9 hT9 hS => ?_)
          obtain ⟨rfl, q36⟩ := q36
          have hP : va_P D vwCl ws H := hP9
          refine lv_if_eq (tgt := 46) hx hb dX3_admits_39 (by decide) (fun c39 => ?_) (fun c39 => ?_)
          · skip
            have d39 := c39
            rw [fa_eq] at d39
            refine lv_iconst (v := 0) hx hb dX3_admits_46 (by decide) ?_
            exact W.zret (v := (0 : Int32)) hx hb hr (by decide) (fun t ht hW => ⟨⟨_, (G, ws), rfl, ⟨rfl, Or.inl rfl⟩, by show va_P D vwCl ws t.heap; rw [ht]; exact hP, hD, hT⟩, hS.F ht⟩) hS.2.2 dX3_admits_47
          · skip
            have d39 := c39
            rw [fa_eq] at d39
            refine lv_iconst (v := 1) hx hb dX3_admits_42 (by decide) ?_
            refine lv_goto (tgt := 47) hx hb dX3_admits_43 (by decide) ?_
            exact W.zret (v := (1 : Int32)) hx hb hr (by decide) (fun t ht hW => ⟨⟨_, (G, ws), rfl, ⟨rfl, Or.inr rfl⟩, by show va_P D vwCl ws t.heap; rw [ht]; exact hP, hD, hT⟩, hS.F ht⟩) hS.2.2 dX3_admits_47
        · skip
          have hM_o : cIn ws o (.inr (4, [.ref b_o, .ref s_o, .int t_o, .long x_o, .long y_o, .ref c9])) := hM_o
          have hn36 := cb_mul (c_hb hT hG_b_o)
          refine t_calli (va_runU (g := F0 m 36 ls ([.long p0, .ref o])) (As := [.long p0]) (rest := []) ⟨hx, hb, hml, hown, hts⟩ (c_X3_isAsKindAsks l D cy A G ws o p0 hD hT hG_o ) (va_cwU 1 hts gX3_admits_X3_isAsKindAsks_u65X5 rfl rfl rfl rfl (by decide +kernel) ⟨Nat.le_of_ble_eq_true rfl, Nat.le_of_ble_eq_true rfl⟩) (c_preV hM_o rfl hP hK hA hS hV) rfl rfl hl.1 rfl (lv_room (Nat.le_of_ble_eq_true rfl)) dX3_admits_36 ⟨Nat.le_of_ble_eq_true rfl, Nat.le_of_ble_eq_true rfl⟩) hS (fun r36 u H locs q36 hP9 hD9 hT9 hS => ?_)
          obtain ⟨rfl, q36⟩ := q36
          have hP : va_P D vwCl ws H := hP9
          refine lv_if_eq (tgt := 46) hx hb dX3_admits_39 (by decide) (fun c39 => ?_) (fun c39 => ?_)
          · skip
            have d39 := c39
            rw [fa_eq] at d39
            refine lv_iconst (v := 0) hx hb dX3_admits_46 (by decide) ?_
            exact W.zret (v := (0 : Int32)) hx hb hr (by decide) (fun t ht hW => ⟨⟨_, (G, ws), rfl, ⟨rfl, Or.inl rfl⟩, by show va_P D vwCl ws t.heap; rw [ht]; exact hP, hD, hT⟩, hS.F ht⟩) hS.2.2 dX3_admits_47
          · skip
            have d39 := c39
            rw [fa_eq] at d39
            refine lv_iconst (v := 1) hx hb dX3_admits_42 (by decide) ?_
            refine lv_goto (tgt := 47) hx hb dX3_admits_43 (by decide) ?_
            exact W.zret (v := (1 : Int32)) hx hb hr (by decide) (fun t ht hW => ⟨⟨_, (G, ws), rfl, ⟨rfl, Or.inr rfl⟩, by show va_P D vwCl ws t.heap; rw [ht]; exact hP, hD, hT⟩, hS.F ht⟩) hS.2.2 dX3_admits_47
set_option maxHeartbeats 4000000 in
set_option maxRecDepth 100000 in
theorem c_X3_sumOfWay (l : Launch) (D : va_G) (cy : Nat → ClassId) (A : Nat → Prop) (G : cG) (ws : va_W) (o : Nat) (way : Int32) {kq nq : Nat} (hD : va_D A ws) (hT : cT cy G ws) (hG_o : G o = some (3, kq, nq))  : Ci l D cy A yX3_sumOfWay wsX3_sumOfWay ({ frames := 1, cells := 0, slots := 0, locals := 23 }) 0 0 ws [.ref o, .int way] (fun r0 u => u = (G, ws) ∧ (True)) := by
  refine Met.ofW (cc := cX3_sumOfWay) (maxL := 4) (ret := (some .int)) (by decide) rfl ?_
  intro p e s m args below meth c s₁ B hml hv
  obtain ⟨rfl, hP, hK, hA, hV⟩ := hv
  have hx := B.exec
  have hb := B.bytes
  have hr := B.returns
  have hts := atoms_spec (ws := wsX3_sumOfWay) B.pre
  have hown : s.vm.findClass RX3 = some m.cls := findClass_of_methodNamed B.named
  have hlocks := B.notSynchronized
  have hS : va_S A s.heap s.heap [] := va_S.rf
  have hinJ : ∀ w ∈ wsX10 ++ wsX30 ++ wsX40 ++ wsX50, w ∈ wsX3_sumOfWay := by decide +kernel
  have hl := lv_entry ([.ref o, .int way]) (n := 4) (Nat.le_of_ble_eq_true rfl)
  rw [lg_entry_eq]
  generalize (lg_sl ([.ref o, .int way]) ++ List.replicate (4 - (lg_sl ([.ref o, .int way])).length) Slot.unset).toArray = ls at hl ⊢
  have hl : lv_has ls 4 [(0, .ref o), (1, .int way)] := hl
  have k_0 : (0 : Int32).toInt = 0 := by decide
  refine lv_iconst (v := 0) hx hb dX3_sumOfWay_0 (by decide) ?_
  refine lv_istore_n (lv' := [(2, .int (0 : Int32)), (0, .ref o), (1, .int way)]) hx hb dX3_sumOfWay_1 rfl hl (by decide) rfl (fun ls hl => ?_)
  refine lv_iconst (v := 0) hx hb dX3_sumOfWay_2 (by decide) ?_
  refine lv_istore_n (lv' := [(3, .int (0 : Int32)), (2, .int (0 : Int32)), (0, .ref o), (1, .int way)]) hx hb dX3_sumOfWay_3 rfl hl (by decide) rfl (fun ls hl => ?_)
  have loop_4 : ∀ (n : Nat) (i : Nat) (x2 : Int32), (i ≤ 11) → 11 - i < n → ∀ (H : Heap) (locs : List Loc), va_P D vwCl ws H → va_S A s.heap H locs → ∀ (ls : Array Slot), lv_has ls 4 [(3, .int (nI i)), (2, .int x2), (0, .ref o), (1, .int way)] → W p l e (headSpec wsX3_sumOfWay ({ frames := 1, cells := 0, slots := 0, locals := 23 })).room s m #[Value.ref o, Value.int way] below meth c H locs 0 0 (MQ below (va_Qi (fun r0 u => u = (G, ws) ∧ (True)) (cB D cy A) A) #[Value.ref o, Value.int way] s 0 0 A) (F0 m 4 ls []) := by
    intro n
    induction n with
    | zero => intro i x2 j4_0 hn; exact absurd hn (Nat.not_lt_zero _)
    | succ n ih_4 =>
      intro i x2 j4_0 hn_4 H locs hP hS  ls hl
      have ik_i : (nI i).toInt = (i : Int) := nI_toInt (by omega)
      refine lv_iload_n hx hb dX3_sumOfWay_4 rfl (lv_at hl 0 rfl) ?_
      refine lv_aload_n hx hb dX3_sumOfWay_5 rfl (lv_at hl 2 rfl) ?_
      obtain ⟨_, hM_o, b_o, s_o, w_o, h_o, t_o, x_o, y_o, ms_o, rfl, hG_b_o, hG_s_o, hJ_o⟩ := hT _ _ hG_o
      refine t_getJ (v := .ref b_o) hx hb hts hinJ hown hK hP hJ_o.kc hM_o 0 (by decide) (hts (.fieldLink RX3 28 "ShadowBench$Job" "board" "LShadowBench$Board;") (by decide +kernel)) (fun _ h9 => h9) rfl dX3_sumOfWay_6 ?_
      refine lv_iload_n hx hb dX3_sumOfWay_9 rfl (lv_at hl 3 rfl) ?_
      obtain ⟨_, hM_b_o, hb_b_o, l_b_o, f_b_o, r_b_o, rfl, hG_l_b_o, hG_f_b_o, hG_r_b_o⟩ := hT _ _ hG_b_o
      refine t_calli (va_runV (g := F0 m 10 ls ([.int way, .ref b_o, .int (nI i)])) (As := [.int way]) (rest := [.int (nI i)]) ⟨hx, hb, hml, hown, hts⟩ (c_X0_lineCount l D cy A G ws b_o way hD hT hG_b_o ) (cwV 1 hts gX3_sumOfWay_X0_lineCount rfl rfl rfl (by decide +kernel) ⟨Nat.le_of_ble_eq_true rfl, Nat.le_of_ble_eq_true rfl⟩) (c_preV hM_b_o rfl hP hK hA hS hV) rfl rfl hl.1 rfl (lv_room (Nat.le_of_ble_eq_true rfl)) dX3_sumOfWay_10 ⟨Nat.le_of_ble_eq_true rfl, Nat.le_of_ble_eq_true rfl⟩) hS (fun r10 u H locs q10 hP9 hD9 hT9 hS => ?_)
      obtain ⟨rfl, q10⟩ := q10
      have hP : va_P D vwCl ws H := hP9
      have hcl := cLines_b (c_hb hT hG_b_o) way
      have z10 := congrArg Int32.toInt q10
      refine lv_icmp_ge (tgt := 31) hx hb dX3_sumOfWay_13 (by decide) (fun c13 => ?_) (fun c13 => ?_)
      · skip
        have d13 := c13
        rw [fa_le] at d13
        refine lv_iload_n hx hb dX3_sumOfWay_31 rfl (lv_at hl 1 rfl) ?_
        exact W.iret (v := x2) hx hb hr (fun t ht hW => ⟨⟨_, (G, ws), rfl, ⟨rfl, trivial⟩, by show va_P D vwCl ws t.heap; rw [ht]; exact hP, hD, hT⟩, hS.F ht⟩) hS.2.2 dX3_sumOfWay_32
      · skip
        have d13 := c13
        rw [fa_le] at d13
        refine lv_iload_n hx hb dX3_sumOfWay_16 rfl (lv_at hl 1 rfl) ?_
        refine lv_aload_n hx hb dX3_sumOfWay_17 rfl (lv_at hl 2 rfl) ?_
        refine lv_iload_n hx hb dX3_sumOfWay_18 rfl (lv_at hl 3 rfl) ?_
        refine lv_iload_n hx hb dX3_sumOfWay_19 rfl (lv_at hl 0 rfl) ?_
        refine t_calli (t_runJ (g := F0 m 20 ls ([.int (nI i), .int way, .ref o, .int x2])) (As := [.int way, .int (nI i)]) (rest := [.int x2]) ⟨hx, hb, hml, hown, hts⟩ (c_X3_sumOf l D cy A G ws o way (nI i) hD hT hG_o ) (va_cwU 2 hts gX3_sumOfWay_X3_sumOf_u57X1 rfl rfl rfl rfl (by decide +kernel) ⟨Nat.le_of_ble_eq_true rfl, Nat.le_of_ble_eq_true rfl⟩) (cwV 2 hts gX3_sumOfWay_X3_sumOf rfl rfl rfl (by decide +kernel) ⟨Nat.le_of_ble_eq_true rfl, Nat.le_of_ble_eq_true rfl⟩) (va_cwU 2 hts gX3_sumOfWay_X3_sumOf_u57X4 rfl rfl rfl rfl (by decide +kernel) ⟨Nat.le_of_ble_eq_true rfl, Nat.le_of_ble_eq_true rfl⟩) (va_cwU 2 hts gX3_sumOfWay_X3_sumOf_u57X5 rfl rfl rfl rfl (by decide +kernel) ⟨Nat.le_of_ble_eq_true rfl, Nat.le_of_ble_eq_true rfl⟩) hJ_o.kc hM_o hP hK c_blind (c_preS hP hK hA hS hV).2 rfl rfl hl.1 rfl (lv_room (Nat.le_of_ble_eq_true rfl)) dX3_sumOfWay_20 ⟨Nat.le_of_ble_eq_true rfl, Nat.le_of_ble_eq_true rfl⟩) hS (fun r20 u H locs q20 hP9 hD9 hT9 hS => ?_)
        obtain ⟨rfl, q20⟩ := q20
        have hP : va_P D vwCl ws H := hP9
        refine lv_iadd hx hb dX3_sumOfWay_23 ?_
        refine lv_topi (fun v23 e23 => ?_)
        refine lv_istore_n (lv' := [(2, .int v23), (3, .int (nI i)), (0, .ref o), (1, .int way)]) hx hb dX3_sumOfWay_24 rfl hl (by decide) rfl (fun ls hl => ?_)
        refine lv_iinc (v := (nI (i + 1))) (lv' := [(3, .int (nI (i + 1))), (2, .int v23), (0, .ref o), (1, .int way)]) hx hb dX3_sumOfWay_25 hl (k := 1) rfl (nI_1 _) (by decide) rfl (fun ls hl => ?_)
        refine lv_goto (tgt := 4) hx hb dX3_sumOfWay_28 (by decide) ?_
        exact ih_4 (i + 1) v23 (by omega) (by omega) _ _ hP hS  ls (lv_sub hl [0, 1, 2, 3] rfl)
  exact loop_4 (11 + 1) 0 (0 : Int32) (by omega) (by omega) _ _ hP hS  ls (lv_sub hl [0, 1, 2, 3] rfl)
set_option maxHeartbeats 4000000 in
set_option maxRecDepth 100000 in
theorem c_X3_greatestColumns (l : Launch) (D : va_G) (cy : Nat → ClassId) (A : Nat → Prop) (G : cG) (ws : va_W) (o : Nat) (k0 : Int32) {kq nq : Nat} (hD : va_D A ws) (hT : cT cy G ws) (hG_o : G o = some (3, kq, nq))  : Ci l D cy A yX3_greatestColumns wsX3_greatestColumns ({ frames := 1, cells := 0, slots := 0, locals := 23 }) 0 0 ws [.ref o, .int k0] (fun r0 u => u = (G, ws) ∧ (True)) := by
  refine Met.ofW (cc := cX3_greatestColumns) (maxL := 6) (ret := (some .int)) (by decide) rfl ?_
  intro p e s m args below meth c s₁ B hml hv
  obtain ⟨rfl, hP, hK, hA, hV⟩ := hv
  have hx := B.exec
  have hb := B.bytes
  have hr := B.returns
  have hts := atoms_spec (ws := wsX3_greatestColumns) B.pre
  have hown : s.vm.findClass RX3 = some m.cls := findClass_of_methodNamed B.named
  have hlocks := B.notSynchronized
  have hS : va_S A s.heap s.heap [] := va_S.rf
  have hinJ : ∀ w ∈ wsX10 ++ wsX30 ++ wsX40 ++ wsX50, w ∈ wsX3_greatestColumns := by decide +kernel
  have hl := lv_entry ([.ref o, .int k0]) (n := 6) (Nat.le_of_ble_eq_true rfl)
  rw [lg_entry_eq]
  generalize (lg_sl ([.ref o, .int k0]) ++ List.replicate (6 - (lg_sl ([.ref o, .int k0])).length) Slot.unset).toArray = ls at hl ⊢
  have hl : lv_has ls 6 [(0, .ref o), (1, .int k0)] := hl
  have k_m1 : (-1 : Int32).toInt = -1 := by decide
  have k_0 : (0 : Int32).toInt = 0 := by decide
  have k_1 : (1 : Int32).toInt = 1 := by decide
  have k_6 : (6 : Int32).toInt = 6 := by decide
  refine lv_iconst (v := 0) hx hb dX3_greatestColumns_0 (by decide) ?_
  refine lv_istore_n (lv' := [(2, .int (0 : Int32)), (0, .ref o), (1, .int k0)]) hx hb dX3_greatestColumns_1 rfl hl (by decide) rfl (fun ls hl => ?_)
  refine lv_iconst (v := 0) hx hb dX3_greatestColumns_2 (by decide) ?_
  refine lv_istore_n (lv' := [(3, .int (0 : Int32)), (2, .int (0 : Int32)), (0, .ref o), (1, .int k0)]) hx hb dX3_greatestColumns_3 rfl hl (by decide) rfl (fun ls hl => ?_)
  refine lv_bipush (v := 6) hx hb dX3_greatestColumns_4 (by decide) ?_
  refine lv_istore (lv' := [(4, .int (6 : Int32)), (3, .int (0 : Int32)), (2, .int (0 : Int32)), (0, .ref o), (1, .int k0)]) hx hb dX3_greatestColumns_6 hl (by decide) rfl (fun ls hl => ?_)
  have loop_8 : ∀ (n : Nat) (x4 : Int32) (x3 : Int32) (x2 : Int32), (0 ≤ x4.toInt ∧ x4.toInt ≤ 6) → x4.toInt.toNat < n → ∀ (H : Heap) (locs : List Loc), va_P D vwCl ws H → va_S A s.heap H locs → ∀ (ls : Array Slot), lv_has ls 6 [(4, .int x4), (3, .int x3), (2, .int x2), (0, .ref o), (1, .int k0)] → W p l e (headSpec wsX3_greatestColumns ({ frames := 1, cells := 0, slots := 0, locals := 23 })).room s m #[Value.ref o, Value.int k0] below meth c H locs 0 0 (MQ below (va_Qi (fun r0 u => u = (G, ws) ∧ (True)) (cB D cy A) A) #[Value.ref o, Value.int k0] s 0 0 A) (F0 m 8 ls []) := by
    intro n
    induction n with
    | zero => intro x4 x3 x2 j8_0 hn; exact absurd hn (Nat.not_lt_zero _)
    | succ n ih_8 =>
      intro x4 x3 x2 j8_0 hn_8 H locs hP hS  ls hl
      refine lv_iload hx hb dX3_greatestColumns_8 (lv_at hl 0 rfl) ?_
      refine lv_if_le (tgt := 65) hx hb dX3_greatestColumns_10 (by decide) (fun c10 => ?_) (fun c10 => ?_)
      · skip
        have d10 := c10
        rw [fa_le] at d10
        refine lv_iload_n hx hb dX3_greatestColumns_65 rfl (lv_at hl 2 rfl) ?_
        exact W.iret (v := x2) hx hb hr (fun t ht hW => ⟨⟨_, (G, ws), rfl, ⟨rfl, trivial⟩, by show va_P D vwCl ws t.heap; rw [ht]; exact hP, hD, hT⟩, hS.F ht⟩) hS.2.2 dX3_greatestColumns_66
      · skip
        have d10 := c10
        rw [fa_le] at d10
        refine lv_iconst (v := 0) hx hb dX3_greatestColumns_13 (by decide) ?_
        refine lv_istore (lv' := [(5, .int (0 : Int32)), (4, .int x4), (3, .int x3), (2, .int x2), (0, .ref o), (1, .int k0)]) hx hb dX3_greatestColumns_14 hl (by decide) rfl (fun ls hl => ?_)
        have loop_16 : ∀ (n : Nat) (i : Nat) (z3 : Int32) (z2 : Int32), (i ≤ 6) → 6 - i < n → ∀ (H : Heap) (locs : List Loc), va_P D vwCl ws H → va_S A s.heap H locs → ∀ (ls : Array Slot), lv_has ls 6 [(5, .int (nI i)), (4, .int x4), (3, .int z3), (2, .int z2), (0, .ref o), (1, .int k0)] → W p l e (headSpec wsX3_greatestColumns ({ frames := 1, cells := 0, slots := 0, locals := 23 })).room s m #[Value.ref o, Value.int k0] below meth c H locs 0 0 (MQ below (va_Qi (fun r0 u => u = (G, ws) ∧ (True)) (cB D cy A) A) #[Value.ref o, Value.int k0] s 0 0 A) (F0 m 16 ls []) := by
          intro n
          induction n with
          | zero => intro i z3 z2 j16_0 hn; exact absurd hn (Nat.not_lt_zero _)
          | succ n ih_16 =>
            intro i z3 z2 j16_0 hn_16 H locs hP hS  ls hl
            have ik_i : (nI i).toInt = (i : Int) := nI_toInt (by omega)
            refine lv_iload hx hb dX3_greatestColumns_16 (lv_at hl 0 rfl) ?_
            refine lv_aload_n hx hb dX3_greatestColumns_18 rfl (lv_at hl 4 rfl) ?_
            obtain ⟨_, hM_o, b_o, s_o, w_o, h_o, t_o, x_o, y_o, ms_o, rfl, hG_b_o, hG_s_o, hJ_o⟩ := hT _ _ hG_o
            refine t_getJ (v := .ref b_o) hx hb hts hinJ hown hK hP hJ_o.kc hM_o 0 (by decide) (hts (.fieldLink RX3 28 "ShadowBench$Job" "board" "LShadowBench$Board;") (by decide +kernel)) (fun _ h9 => h9) rfl dX3_greatestColumns_19 ?_
            obtain ⟨_, hM_b_o, hb_b_o, l_b_o, f_b_o, r_b_o, rfl, hG_l_b_o, hG_f_b_o, hG_r_b_o⟩ := hT _ _ hG_b_o
            refine t_get (v := .int (nI w_o)) (C := RX0) (T := TX0) (N := 8) hx hb hts (by decide +kernel) hown hK hP hM_b_o rfl 0 (by decide) (hts (.fieldLink RX3 54 "ShadowBench$Board" "wide" "I") (by decide +kernel)) (fun _ h9 => h9) rfl dX3_greatestColumns_22 ?_
            have i_w_b_o : (nI w_o).toInt = _ := nI_toInt (by omega)
            refine lv_icmp_ge (tgt := 59) hx hb dX3_greatestColumns_25 (by decide) (fun c25 => ?_) (fun c25 => ?_)
            · skip
              have d25 := c25
              rw [fa_le] at d25
              obtain ⟨v59, e59⟩ : ∃ y : Int32, y = x4 + (-1) := ⟨_, rfl⟩
              have i59 : v59.toInt = x4.toInt + -1 := by rw [e59]; exact fb_addI (by omega) (by omega)
              refine lv_iinc (v := v59) (lv' := [(4, .int v59), (5, .int (nI i)), (3, .int z3), (2, .int z2), (0, .ref o), (1, .int k0)]) hx hb dX3_greatestColumns_59 hl (k := 1) rfl (by rw [e59]; rfl) (by decide) rfl (fun ls hl => ?_)
              refine lv_goto (tgt := 8) hx hb dX3_greatestColumns_62 (by decide) ?_
              exact ih_8 v59 z3 z2 (by omega) (by omega) _ _ hP hS  ls (lv_sub hl [0, 2, 3, 4, 5] rfl)
            · skip
              have d25 := c25
              rw [fa_le] at d25
              refine lv_iload_n hx hb dX3_greatestColumns_28 rfl (lv_at hl 2 rfl) ?_
              refine lv_iload_n hx hb dX3_greatestColumns_29 rfl (lv_at hl 5 rfl) ?_
              refine lv_icmp_ge (tgt := 53) hx hb dX3_greatestColumns_30 (by decide) (fun c30 => ?_) (fun c30 => ?_)
              · skip
                have d30 := c30
                rw [fa_le] at d30
                refine lv_iinc (v := (nI (i + 1))) (lv' := [(5, .int (nI (i + 1))), (4, .int x4), (3, .int z3), (2, .int z2), (0, .ref o), (1, .int k0)]) hx hb dX3_greatestColumns_53 hl (k := 0) rfl (nI_1 _) (by decide) rfl (fun ls hl => ?_)
                refine lv_goto (tgt := 16) hx hb dX3_greatestColumns_56 (by decide) ?_
                exact ih_16 (i + 1) z3 z2 (by omega) (by omega) _ _ hP hS  ls (lv_sub hl [0, 1, 2, 3, 4, 5] rfl)
              · skip
                have d30 := c30
                rw [fa_le] at d30
                refine lv_aload_n hx hb dX3_greatestColumns_33 rfl (lv_at hl 4 rfl) ?_
                refine lv_iconst (v := 1) hx hb dX3_greatestColumns_34 (by decide) ?_
                refine lv_iload hx hb dX3_greatestColumns_35 (lv_at hl 0 rfl) ?_
                refine t_calli (t_runJ (g := F0 m 37 ls ([.int (nI i), .int (1 : Int32), .ref o])) (As := [.int (1 : Int32), .int (nI i)]) (rest := []) ⟨hx, hb, hml, hown, hts⟩ (c_X3_sumOf l D cy A G ws o (1 : Int32) (nI i) hD hT hG_o ) (va_cwU 2 hts gX3_greatestColumns_X3_sumOf_u57X1 rfl rfl rfl rfl (by decide +kernel) ⟨Nat.le_of_ble_eq_true rfl, Nat.le_of_ble_eq_true rfl⟩) (cwV 2 hts gX3_greatestColumns_X3_sumOf rfl rfl rfl (by decide +kernel) ⟨Nat.le_of_ble_eq_true rfl, Nat.le_of_ble_eq_true rfl⟩) (va_cwU 2 hts gX3_greatestColumns_X3_sumOf_u57X4 rfl rfl rfl rfl (by decide +kernel) ⟨Nat.le_of_ble_eq_true rfl, Nat.le_of_ble_eq_true rfl⟩) (va_cwU 2 hts gX3_greatestColumns_X3_sumOf_u57X5 rfl rfl rfl rfl (by decide +kernel) ⟨Nat.le_of_ble_eq_true rfl, Nat.le_of_ble_eq_true rfl⟩) hJ_o.kc hM_o hP hK c_blind (c_preS hP hK hA hS hV).2 rfl rfl hl.1 rfl (lv_room (Nat.le_of_ble_eq_true rfl)) dX3_greatestColumns_37 ⟨Nat.le_of_ble_eq_true rfl, Nat.le_of_ble_eq_true rfl⟩) hS (fun r37 u H locs q37 hP9 hD9 hT9 hS => ?_)
                obtain ⟨rfl, q37⟩ := q37
                have hP : va_P D vwCl ws H := hP9
                refine lv_iload hx hb dX3_greatestColumns_40 (lv_at hl 1 rfl) ?_
                refine lv_icmp_ne (tgt := 53) hx hb dX3_greatestColumns_42 (by decide) (fun c42 => ?_) (fun c42 => ?_)
                · skip
                  have d42 := c42
                  rw [fa_eq] at d42
                  refine lv_iinc (v := (nI (i + 1))) (lv' := [(5, .int (nI (i + 1))), (4, .int x4), (3, .int z3), (2, .int z2), (0, .ref o), (1, .int k0)]) hx hb dX3_greatestColumns_53 hl (k := 0) rfl (nI_1 _) (by decide) rfl (fun ls hl => ?_)
                  refine lv_goto (tgt := 16) hx hb dX3_greatestColumns_56 (by decide) ?_
                  exact ih_16 (i + 1) z3 z2 (by omega) (by omega) _ _ hP hS  ls (lv_sub hl [0, 1, 2, 3, 4, 5] rfl)
                · skip
                  have d42 := c42
                  rw [fa_eq] at d42
                  refine lv_iload_n hx hb dX3_greatestColumns_45 rfl (lv_at hl 3 rfl) ?_
                  refine lv_iload hx hb dX3_greatestColumns_46 (lv_at hl 1 rfl) ?_
                  refine lv_iadd hx hb dX3_greatestColumns_48 ?_
                  refine lv_topi (fun v48 e48 => ?_)
                  refine lv_istore_n (lv' := [(2, .int v48), (5, .int (nI i)), (4, .int x4), (3, .int z3), (0, .ref o), (1, .int k0)]) hx hb dX3_greatestColumns_49 rfl hl (by decide) rfl (fun ls hl => ?_)
                  obtain ⟨v50, e50⟩ : ∃ y : Int32, y = z3 + 1 := ⟨_, rfl⟩
                  refine lv_iinc (v := v50) (lv' := [(3, .int v50), (2, .int v48), (5, .int (nI i)), (4, .int x4), (0, .ref o), (1, .int k0)]) hx hb dX3_greatestColumns_50 hl (k := 3) rfl (by rw [e50]; rfl) (by decide) rfl (fun ls hl => ?_)
                  refine lv_iinc (v := (nI (i + 1))) (lv' := [(5, .int (nI (i + 1))), (3, .int v50), (2, .int v48), (4, .int x4), (0, .ref o), (1, .int k0)]) hx hb dX3_greatestColumns_53 hl (k := 2) rfl (nI_1 _) (by decide) rfl (fun ls hl => ?_)
                  refine lv_goto (tgt := 16) hx hb dX3_greatestColumns_56 (by decide) ?_
                  exact ih_16 (i + 1) v50 v48 (by omega) (by omega) _ _ hP hS  ls (lv_sub hl [0, 3, 1, 2, 4, 5] rfl)
        exact loop_16 (6 + 1) 0 x3 x2 (by omega) (by omega) _ _ hP hS  ls (lv_sub hl [0, 1, 2, 3, 4, 5] rfl)
  exact loop_8 (6 + 1) (6 : Int32) (0 : Int32) (0 : Int32) (by omega) (by omega) _ _ hP hS  ls (lv_sub hl [0, 1, 2, 3, 4] rfl)
set_option maxHeartbeats 4000000 in
set_option maxRecDepth 100000 in
theorem c_X3_roomInRows (l : Launch) (D : va_G) (cy : Nat → ClassId) (A : Nat → Prop) (G : cG) (ws : va_W) (o : Nat) (k0 : Int32) {kq nq : Nat} (hD : va_D A ws) (hT : cT cy G ws) (hG_o : G o = some (3, kq, nq))  : Ci l D cy A yX3_roomInRows wsX3_roomInRows ({ frames := 1, cells := 0, slots := 0, locals := 23 }) 0 0 ws [.ref o, .int k0] (fun r0 u => u = (G, ws) ∧ (True)) := by
  refine Met.ofW (cc := cX3_roomInRows) (maxL := 4) (ret := (some .int)) (by decide) rfl ?_
  intro p e s m args below meth c s₁ B hml hv
  obtain ⟨rfl, hP, hK, hA, hV⟩ := hv
  have hx := B.exec
  have hb := B.bytes
  have hr := B.returns
  have hts := atoms_spec (ws := wsX3_roomInRows) B.pre
  have hown : s.vm.findClass RX3 = some m.cls := findClass_of_methodNamed B.named
  have hlocks := B.notSynchronized
  have hS : va_S A s.heap s.heap [] := va_S.rf
  have hinJ : ∀ w ∈ wsX10 ++ wsX30 ++ wsX40 ++ wsX50, w ∈ wsX3_roomInRows := by decide +kernel
  have hl := lv_entry ([.ref o, .int k0]) (n := 4) (Nat.le_of_ble_eq_true rfl)
  rw [lg_entry_eq]
  generalize (lg_sl ([.ref o, .int k0]) ++ List.replicate (4 - (lg_sl ([.ref o, .int k0])).length) Slot.unset).toArray = ls at hl ⊢
  have hl : lv_has ls 4 [(0, .ref o), (1, .int k0)] := hl
  have k_0 : (0 : Int32).toInt = 0 := by decide
  refine lv_iconst (v := 0) hx hb dX3_roomInRows_0 (by decide) ?_
  refine lv_istore_n (lv' := [(2, .int (0 : Int32)), (0, .ref o), (1, .int k0)]) hx hb dX3_roomInRows_1 rfl hl (by decide) rfl (fun ls hl => ?_)
  refine lv_iconst (v := 0) hx hb dX3_roomInRows_2 (by decide) ?_
  refine lv_istore_n (lv' := [(3, .int (0 : Int32)), (2, .int (0 : Int32)), (0, .ref o), (1, .int k0)]) hx hb dX3_roomInRows_3 rfl hl (by decide) rfl (fun ls hl => ?_)
  have loop_4 : ∀ (n : Nat) (i : Nat) (x2 : Int32), (i ≤ 6) → 6 - i < n → ∀ (H : Heap) (locs : List Loc), va_P D vwCl ws H → va_S A s.heap H locs → ∀ (ls : Array Slot), lv_has ls 4 [(3, .int (nI i)), (2, .int x2), (0, .ref o), (1, .int k0)] → W p l e (headSpec wsX3_roomInRows ({ frames := 1, cells := 0, slots := 0, locals := 23 })).room s m #[Value.ref o, Value.int k0] below meth c H locs 0 0 (MQ below (va_Qi (fun r0 u => u = (G, ws) ∧ (True)) (cB D cy A) A) #[Value.ref o, Value.int k0] s 0 0 A) (F0 m 4 ls []) := by
    intro n
    induction n with
    | zero => intro i x2 j4_0 hn; exact absurd hn (Nat.not_lt_zero _)
    | succ n ih_4 =>
      intro i x2 j4_0 hn_4 H locs hP hS  ls hl
      have ik_i : (nI i).toInt = (i : Int) := nI_toInt (by omega)
      refine lv_iload_n hx hb dX3_roomInRows_4 rfl (lv_at hl 0 rfl) ?_
      refine lv_aload_n hx hb dX3_roomInRows_5 rfl (lv_at hl 2 rfl) ?_
      obtain ⟨_, hM_o, b_o, s_o, w_o, h_o, t_o, x_o, y_o, ms_o, rfl, hG_b_o, hG_s_o, hJ_o⟩ := hT _ _ hG_o
      refine t_getJ (v := .ref b_o) hx hb hts hinJ hown hK hP hJ_o.kc hM_o 0 (by decide) (hts (.fieldLink RX3 28 "ShadowBench$Job" "board" "LShadowBench$Board;") (by decide +kernel)) (fun _ h9 => h9) rfl dX3_roomInRows_6 ?_
      obtain ⟨_, hM_b_o, hb_b_o, l_b_o, f_b_o, r_b_o, rfl, hG_l_b_o, hG_f_b_o, hG_r_b_o⟩ := hT _ _ hG_b_o
      refine t_get (v := .int (nI h_o)) (C := RX0) (T := TX0) (N := 8) hx hb hts (by decide +kernel) hown hK hP hM_b_o rfl 1 (by decide) (hts (.fieldLink RX3 72 "ShadowBench$Board" "high" "I") (by decide +kernel)) (fun _ h9 => h9) rfl dX3_roomInRows_9 ?_
      have i_h_b_o : (nI h_o).toInt = _ := nI_toInt (by omega)
      refine lv_icmp_ge (tgt := 34) hx hb dX3_roomInRows_12 (by decide) (fun c12 => ?_) (fun c12 => ?_)
      · skip
        have d12 := c12
        rw [fa_le] at d12
        refine lv_iload_n hx hb dX3_roomInRows_34 rfl (lv_at hl 1 rfl) ?_
        exact W.iret (v := x2) hx hb hr (fun t ht hW => ⟨⟨_, (G, ws), rfl, ⟨rfl, trivial⟩, by show va_P D vwCl ws t.heap; rw [ht]; exact hP, hD, hT⟩, hS.F ht⟩) hS.2.2 dX3_roomInRows_35
      · skip
        have d12 := c12
        rw [fa_le] at d12
        refine lv_iload_n hx hb dX3_roomInRows_15 rfl (lv_at hl 1 rfl) ?_
        refine lv_iload_n hx hb dX3_roomInRows_16 rfl (lv_at hl 3 rfl) ?_
        refine lv_aload_n hx hb dX3_roomInRows_17 rfl (lv_at hl 2 rfl) ?_
        refine lv_iconst (v := 0) hx hb dX3_roomInRows_18 (by decide) ?_
        refine lv_iload_n hx hb dX3_roomInRows_19 rfl (lv_at hl 0 rfl) ?_
        refine t_calli (t_runJ (g := F0 m 20 ls ([.int (nI i), .int (0 : Int32), .ref o, .int k0, .int x2])) (As := [.int (0 : Int32), .int (nI i)]) (rest := [.int k0, .int x2]) ⟨hx, hb, hml, hown, hts⟩ (c_X3_sumOf l D cy A G ws o (0 : Int32) (nI i) hD hT hG_o ) (va_cwU 2 hts gX3_roomInRows_X3_sumOf_u57X1 rfl rfl rfl rfl (by decide +kernel) ⟨Nat.le_of_ble_eq_true rfl, Nat.le_of_ble_eq_true rfl⟩) (cwV 2 hts gX3_roomInRows_X3_sumOf rfl rfl rfl (by decide +kernel) ⟨Nat.le_of_ble_eq_true rfl, Nat.le_of_ble_eq_true rfl⟩) (va_cwU 2 hts gX3_roomInRows_X3_sumOf_u57X4 rfl rfl rfl rfl (by decide +kernel) ⟨Nat.le_of_ble_eq_true rfl, Nat.le_of_ble_eq_true rfl⟩) (va_cwU 2 hts gX3_roomInRows_X3_sumOf_u57X5 rfl rfl rfl rfl (by decide +kernel) ⟨Nat.le_of_ble_eq_true rfl, Nat.le_of_ble_eq_true rfl⟩) hJ_o.kc hM_o hP hK c_blind (c_preS hP hK hA hS hV).2 rfl rfl hl.1 rfl (lv_room (Nat.le_of_ble_eq_true rfl)) dX3_roomInRows_20 ⟨Nat.le_of_ble_eq_true rfl, Nat.le_of_ble_eq_true rfl⟩) hS (fun r20 u H locs q20 hP9 hD9 hT9 hS => ?_)
        obtain ⟨rfl, q20⟩ := q20
        have hP : va_P D vwCl ws H := hP9
        refine va_mmin hx hb (by rw [hml]; exact hl.1.symm) hown (hts (.methodLink RX3 75 Lib.Math.min.name) (by decide +kernel)) (hts (.static Lib.Math.min.name) (by decide +kernel)) (hts (.initialized "java/lang/Math") (by decide +kernel)) (hts (.code Lib.Math.min.name Lib.Math.min.code 2 (some .int)) (by decide +kernel)) (Nat.le_of_ble_eq_true rfl) (Nat.le_of_ble_eq_true rfl) (Nat.le_of_ble_eq_true rfl) (Nat.le_of_ble_eq_true rfl) dX3_roomInRows_23 ?_
        refine lv_topi (fun v23 e23 => ?_)
        refine lv_iadd hx hb dX3_roomInRows_26 ?_
        refine lv_topi (fun v26 e26 => ?_)
        refine lv_istore_n (lv' := [(2, .int v26), (3, .int (nI i)), (0, .ref o), (1, .int k0)]) hx hb dX3_roomInRows_27 rfl hl (by decide) rfl (fun ls hl => ?_)
        refine lv_iinc (v := (nI (i + 1))) (lv' := [(3, .int (nI (i + 1))), (2, .int v26), (0, .ref o), (1, .int k0)]) hx hb dX3_roomInRows_28 hl (k := 1) rfl (nI_1 _) (by decide) rfl (fun ls hl => ?_)
        refine lv_goto (tgt := 4) hx hb dX3_roomInRows_31 (by decide) ?_
        exact ih_4 (i + 1) v26 (by omega) (by omega) _ _ hP hS  ls (lv_sub hl [0, 1, 2, 3] rfl)
  exact loop_4 (6 + 1) 0 (0 : Int32) (by omega) (by omega) _ _ hP hS  ls (lv_sub hl [0, 1, 2, 3] rfl)
set_option maxHeartbeats 4000000 in
set_option maxRecDepth 100000 in
theorem c_X3_heft (l : Launch) (D : va_G) (cy : Nat → ClassId) (A : Nat → Prop) (G : cG) (ws : va_W) (o : Nat) {kq nq : Nat} (hD : va_D A ws) (hT : cT cy G ws) (hG_o : G o = some (3, kq, nq))  : Ci l D cy A yX3_heft wsX3_heft ({ frames := 0, cells := 0, slots := 0, locals := 0 }) 0 0 ws [.ref o] (fun r0 u => u = (G, ws) ∧ (True)) := by
  refine Met.ofW (cc := cX3_heft) (maxL := 1) (ret := (some .int)) (by decide) rfl ?_
  intro p e s m args below meth c s₁ B hml hv
  obtain ⟨rfl, hP, hK, hA, hV⟩ := hv
  have hx := B.exec
  have hb := B.bytes
  have hr := B.returns
  have hts := atoms_spec (ws := wsX3_heft) B.pre
  have hown : s.vm.findClass RX3 = some m.cls := findClass_of_methodNamed B.named
  have hlocks := B.notSynchronized
  have hS : va_S A s.heap s.heap [] := va_S.rf
  have hinJ : ∀ w ∈ wsX10 ++ wsX30 ++ wsX40 ++ wsX50, w ∈ wsX3_heft := by decide +kernel
  have hl := lv_entry ([.ref o]) (n := 1) (Nat.le_of_ble_eq_true rfl)
  rw [lg_entry_eq]
  generalize (lg_sl ([.ref o]) ++ List.replicate (1 - (lg_sl ([.ref o])).length) Slot.unset).toArray = ls at hl ⊢
  have hl : lv_has ls 1 [(0, .ref o)] := hl
  have k_0 : (0 : Int32).toInt = 0 := by decide
  have k_10 : (10 : Int32).toInt = 10 := by decide
  refine lv_bipush (v := 10) hx hb dX3_heft_0 (by decide) ?_
  refine lv_aload_n hx hb dX3_heft_2 rfl (lv_at hl 0 rfl) ?_
  obtain ⟨_, hM_o, b_o, s_o, w_o, h_o, t_o, x_o, y_o, ms_o, rfl, hG_b_o, hG_s_o, hJ_o⟩ := hT _ _ hG_o
  refine t_getJ (v := .ref b_o) hx hb hts hinJ hown hK hP hJ_o.kc hM_o 0 (by decide) (hts (.fieldLink RX3 28 "ShadowBench$Job" "board" "LShadowBench$Board;") (by decide +kernel)) (fun _ h9 => h9) rfl dX3_heft_3 ?_
  obtain ⟨_, hM_b_o, hb_b_o, l_b_o, f_b_o, r_b_o, rfl, hG_l_b_o, hG_f_b_o, hG_r_b_o⟩ := hT _ _ hG_b_o
  refine t_get (v := .int (nI (w_o * h_o))) (C := RX0) (T := TX0) (N := 8) hx hb hts (by decide +kernel) hown hK hP hM_b_o rfl 2 (by decide) (hts (.fieldLink RX3 80 "ShadowBench$Board" "squares" "I") (by decide +kernel)) (fun _ h9 => h9) rfl dX3_heft_6 ?_
  have m_wh_b_o := cb_mul hb_b_o
  have i_wh_b_o : (nI (w_o * h_o)).toInt = _ := nI_toInt (by omega)
  refine lv_iadd hx hb dX3_heft_9 ?_
  refine lv_topi (fun v9 e9 => ?_)
  exact W.iret (v := v9) hx hb hr (fun t ht hW => ⟨⟨_, (G, ws), rfl, ⟨rfl, trivial⟩, by show va_P D vwCl ws t.heap; rw [ht]; exact hP, hD, hT⟩, hS.F ht⟩) hS.2.2 dX3_heft_10
set_option maxHeartbeats 4000000 in
set_option maxRecDepth 100000 in
theorem c_X4_heft (l : Launch) (D : va_G) (cy : Nat → ClassId) (A : Nat → Prop) (G : cG) (ws : va_W) (o : Nat) {kq nq : Nat} (hD : va_D A ws) (hT : cT cy G ws) (hG_o : G o = some (3, kq, nq))  : Ci l D cy A yX4_heft wsX4_heft ({ frames := 1, cells := 0, slots := 0, locals := 20 }) 0 0 ws [.ref o] (fun r0 u => u = (G, ws) ∧ (True)) := by
  refine Met.ofW (cc := cX4_heft) (maxL := 1) (ret := (some .int)) (by decide) rfl ?_
  intro p e s m args below meth c s₁ B hml hv
  obtain ⟨rfl, hP, hK, hA, hV⟩ := hv
  have hx := B.exec
  have hb := B.bytes
  have hr := B.returns
  have hts := atoms_spec (ws := wsX4_heft) B.pre
  have hown : s.vm.findClass RX4 = some m.cls := findClass_of_methodNamed B.named
  have hlocks := B.notSynchronized
  have hS : va_S A s.heap s.heap [] := va_S.rf
  have hl := lv_entry ([.ref o]) (n := 1) (Nat.le_of_ble_eq_true rfl)
  rw [lg_entry_eq]
  generalize (lg_sl ([.ref o]) ++ List.replicate (1 - (lg_sl ([.ref o])).length) Slot.unset).toArray = ls at hl ⊢
  have hl : lv_has ls 1 [(0, .ref o)] := hl
  have k_0 : (0 : Int32).toInt = 0 := by decide
  have k_100 : (100 : Int32).toInt = 100 := by decide
  refine lv_aload_n hx hb dX4_heft_0 rfl (lv_at hl 0 rfl) ?_
  obtain ⟨_, hM_o, b_o, s_o, w_o, h_o, t_o, x_o, y_o, ms_o, rfl, hG_b_o, hG_s_o, hJ_o⟩ := hT _ _ hG_o
  have hJ9 := hJ_o
  obtain ⟨hn9, hJ9⟩ := hJ9
  rcases hJ9 with ⟨rfl, rfl⟩ | ⟨rfl, rfl⟩ | ⟨rfl, rfl⟩ | ⟨rfl, c9, rfl, hG_c9⟩
  · skip
    have hM_o : cIn ws o (.inr (1, [.ref b_o, .ref s_o, .int t_o, .long x_o, .long y_o])) := hM_o
    refine t_calli (va_runSU (g := F0 m 1 ls ([.ref o])) (As := []) (rest := []) (hK.1 1 _ rfl).2 ⟨hx, hb, hml, hown, hts⟩ (c_X3_heft l D cy A G ws o hD hT hG_o ) (va_cwSU 0 hts gX4_heft_X3_heft_s19 rfl rfl rfl (by decide +kernel) ⟨Nat.le_of_ble_eq_true rfl, Nat.le_of_ble_eq_true rfl⟩) (c_preV hM_o rfl hP hK hA hS hV) rfl rfl hl.1 rfl (lv_room (Nat.le_of_ble_eq_true rfl)) dX4_heft_1 ⟨Nat.le_of_ble_eq_true rfl, Nat.le_of_ble_eq_true rfl⟩) hS (fun r1 u H locs q1 hP9 hD9 hT9 hS => ?_)
    obtain ⟨rfl, q1⟩ := q1
    have hP : va_P D vwCl ws H := hP9
    refine lv_bipush (v := 100) hx hb dX4_heft_4 (by decide) ?_
    refine lv_iadd hx hb dX4_heft_6 ?_
    refine lv_topi (fun v6 e6 => ?_)
    exact W.iret (v := v6) hx hb hr (fun t ht hW => ⟨⟨_, (G, ws), rfl, ⟨rfl, trivial⟩, by show va_P D vwCl ws t.heap; rw [ht]; exact hP, hD, hT⟩, hS.F ht⟩) hS.2.2 dX4_heft_7
  · skip
    have hM_o : cIn ws o (.inr (2, [.ref b_o, .ref s_o, .int t_o, .long x_o, .long y_o])) := hM_o
    refine t_calli (va_runSU (g := F0 m 1 ls ([.ref o])) (As := []) (rest := []) (hK.1 2 _ rfl).2 ⟨hx, hb, hml, hown, hts⟩ (c_X3_heft l D cy A G ws o hD hT hG_o ) (va_cwSU 0 hts gX4_heft_X3_heft_s19 rfl rfl rfl (by decide +kernel) ⟨Nat.le_of_ble_eq_true rfl, Nat.le_of_ble_eq_true rfl⟩) (c_preV hM_o rfl hP hK hA hS hV) rfl rfl hl.1 rfl (lv_room (Nat.le_of_ble_eq_true rfl)) dX4_heft_1 ⟨Nat.le_of_ble_eq_true rfl, Nat.le_of_ble_eq_true rfl⟩) hS (fun r1 u H locs q1 hP9 hD9 hT9 hS => ?_)
    obtain ⟨rfl, q1⟩ := q1
    have hP : va_P D vwCl ws H := hP9
    refine lv_bipush (v := 100) hx hb dX4_heft_4 (by decide) ?_
    refine lv_iadd hx hb dX4_heft_6 ?_
    refine lv_topi (fun v6 e6 => ?_)
    exact W.iret (v := v6) hx hb hr (fun t ht hW => ⟨⟨_, (G, ws), rfl, ⟨rfl, trivial⟩, by show va_P D vwCl ws t.heap; rw [ht]; exact hP, hD, hT⟩, hS.F ht⟩) hS.2.2 dX4_heft_7
  · skip
    have hM_o : cIn ws o (.inr (3, [.ref b_o, .ref s_o, .int t_o, .long x_o, .long y_o])) := hM_o
    refine t_calli (va_runSU (g := F0 m 1 ls ([.ref o])) (As := []) (rest := []) (hK.1 3 _ rfl).2 ⟨hx, hb, hml, hown, hts⟩ (c_X3_heft l D cy A G ws o hD hT hG_o ) (va_cwSU 0 hts gX4_heft_X3_heft_s19 rfl rfl rfl (by decide +kernel) ⟨Nat.le_of_ble_eq_true rfl, Nat.le_of_ble_eq_true rfl⟩) (c_preV hM_o rfl hP hK hA hS hV) rfl rfl hl.1 rfl (lv_room (Nat.le_of_ble_eq_true rfl)) dX4_heft_1 ⟨Nat.le_of_ble_eq_true rfl, Nat.le_of_ble_eq_true rfl⟩) hS (fun r1 u H locs q1 hP9 hD9 hT9 hS => ?_)
    obtain ⟨rfl, q1⟩ := q1
    have hP : va_P D vwCl ws H := hP9
    refine lv_bipush (v := 100) hx hb dX4_heft_4 (by decide) ?_
    refine lv_iadd hx hb dX4_heft_6 ?_
    refine lv_topi (fun v6 e6 => ?_)
    exact W.iret (v := v6) hx hb hr (fun t ht hW => ⟨⟨_, (G, ws), rfl, ⟨rfl, trivial⟩, by show va_P D vwCl ws t.heap; rw [ht]; exact hP, hD, hT⟩, hS.F ht⟩) hS.2.2 dX4_heft_7
  · skip
    have hM_o : cIn ws o (.inr (4, [.ref b_o, .ref s_o, .int t_o, .long x_o, .long y_o, .ref c9])) := hM_o
    have hn36 := cb_mul (c_hb hT hG_b_o)
    refine t_calli (va_runSU (g := F0 m 1 ls ([.ref o])) (As := []) (rest := []) (hK.1 4 _ rfl).2 ⟨hx, hb, hml, hown, hts⟩ (c_X3_heft l D cy A G ws o hD hT hG_o ) (va_cwSU 0 hts gX4_heft_X3_heft_s19 rfl rfl rfl (by decide +kernel) ⟨Nat.le_of_ble_eq_true rfl, Nat.le_of_ble_eq_true rfl⟩) (c_preV hM_o rfl hP hK hA hS hV) rfl rfl hl.1 rfl (lv_room (Nat.le_of_ble_eq_true rfl)) dX4_heft_1 ⟨Nat.le_of_ble_eq_true rfl, Nat.le_of_ble_eq_true rfl⟩) hS (fun r1 u H locs q1 hP9 hD9 hT9 hS => ?_)
    obtain ⟨rfl, q1⟩ := q1
    have hP : va_P D vwCl ws H := hP9
    refine lv_bipush (v := 100) hx hb dX4_heft_4 (by decide) ?_
    refine lv_iadd hx hb dX4_heft_6 ?_
    refine lv_topi (fun v6 e6 => ?_)
    exact W.iret (v := v6) hx hb hr (fun t ht hW => ⟨⟨_, (G, ws), rfl, ⟨rfl, trivial⟩, by show va_P D vwCl ws t.heap; rw [ht]; exact hP, hD, hT⟩, hS.F ht⟩) hS.2.2 dX4_heft_7
set_option maxHeartbeats 4000000 in
set_option maxRecDepth 100000 in
theorem c_X1_heft (l : Launch) (D : va_G) (cy : Nat → ClassId) (A : Nat → Prop) (G : cG) (ws : va_W) (o : Nat) {nq : Nat} (hD : va_D A ws) (hT : cT cy G ws) (hG_o : G o = some (3, 1, nq))  : Ci l D cy A yX1_heft wsX1_heft ({ frames := 2, cells := 0, slots := 0, locals := 40 }) 0 0 ws [.ref o] (fun r0 u => u = (G, ws) ∧ (True)) := by
  refine Met.ofW (cc := cX1_heft) (maxL := 1) (ret := (some .int)) (by decide) rfl ?_
  intro p e s m args below meth c s₁ B hml hv
  obtain ⟨rfl, hP, hK, hA, hV⟩ := hv
  have hx := B.exec
  have hb := B.bytes
  have hr := B.returns
  have hts := atoms_spec (ws := wsX1_heft) B.pre
  have hown : s.vm.findClass RX1 = some m.cls := findClass_of_methodNamed B.named
  have hlocks := B.notSynchronized
  have hS : va_S A s.heap s.heap [] := va_S.rf
  have hl := lv_entry ([.ref o]) (n := 1) (Nat.le_of_ble_eq_true rfl)
  rw [lg_entry_eq]
  generalize (lg_sl ([.ref o]) ++ List.replicate (1 - (lg_sl ([.ref o])).length) Slot.unset).toArray = ls at hl ⊢
  have hl : lv_has ls 1 [(0, .ref o)] := hl
  have k_0 : (0 : Int32).toInt = 0 := by decide
  have k_2 : (2 : Int32).toInt = 2 := by decide
  refine lv_iconst (v := 2) hx hb dX1_heft_0 (by decide) ?_
  refine lv_aload_n hx hb dX1_heft_1 rfl (lv_at hl 0 rfl) ?_
  obtain ⟨_, hM_o, b_o, s_o, w_o, h_o, t_o, x_o, y_o, ms_o, rfl, hG_b_o, hG_s_o, hJ_o⟩ := hT _ _ hG_o
  refine t_calli (va_runSU (g := F0 m 2 ls ([.ref o, .int (2 : Int32)])) (As := []) (rest := [.int (2 : Int32)]) (hK.1 1 _ rfl).2 ⟨hx, hb, hml, hown, hts⟩ (c_X4_heft l D cy A G ws o hD hT hG_o ) (va_cwSU 0 hts gX1_heft_X4_heft_s25 rfl rfl rfl (by decide +kernel) ⟨Nat.le_of_ble_eq_true rfl, Nat.le_of_ble_eq_true rfl⟩) (c_preV hM_o rfl hP hK hA hS hV) rfl rfl hl.1 rfl (lv_room (Nat.le_of_ble_eq_true rfl)) dX1_heft_2 ⟨Nat.le_of_ble_eq_true rfl, Nat.le_of_ble_eq_true rfl⟩) hS (fun r2 u H locs q2 hP9 hD9 hT9 hS => ?_)
  obtain ⟨rfl, q2⟩ := q2
  have hP : va_P D vwCl ws H := hP9
  refine lv_imul hx hb dX1_heft_5 ?_
  refine lv_topi (fun v5 e5 => ?_)
  exact W.iret (v := v5) hx hb hr (fun t ht hW => ⟨⟨_, (G, ws), rfl, ⟨rfl, trivial⟩, by show va_P D vwCl ws t.heap; rw [ht]; exact hP, hD, hT⟩, hS.F ht⟩) hS.2.2 dX1_heft_6
set_option maxHeartbeats 4000000 in
set_option maxRecDepth 100000 in
theorem c_X5_setMark (l : Launch) (D : va_G) (cy : Nat → ClassId) (A : Nat → Prop) (G : cG) (ws : va_W) (o : Nat) (s0 : Int32) (v : Int32) {nq : Nat} (hD : va_D A ws) (hT : cT cy G ws) (hG_o : G o = some (3, 4, nq))  : Ci l D cy A yX5_setMark wsX5_setMark ({ frames := 0, cells := 0, slots := 0, locals := 0 }) 0 0 ws [.ref o, .int s0, .int v] (fun r0 u => cX none (chs [14]) G ws u.1 u.2 ∧ (isBo r0)) := by
  refine Met.ofW (cc := cX5_setMark) (maxL := 3) (ret := (some .boolean)) (by decide) rfl ?_
  intro p e s m args below meth c s₁ B hml hv
  obtain ⟨rfl, hP, hK, hA, hV⟩ := hv
  have hx := B.exec
  have hb := B.bytes
  have hr := B.returns
  have hts := atoms_spec (ws := wsX5_setMark) B.pre
  have hown : s.vm.findClass RX5 = some m.cls := findClass_of_methodNamed B.named
  have hlocks := B.notSynchronized
  have hS : va_S A s.heap s.heap [] := va_S.rf
  have hX : cX none (chs [14]) G ws G ws := cX.rf
  have hl := lv_entry ([.ref o, .int s0, .int v]) (n := 3) (Nat.le_of_ble_eq_true rfl)
  rw [lg_entry_eq]
  generalize (lg_sl ([.ref o, .int s0, .int v]) ++ List.replicate (3 - (lg_sl ([.ref o, .int s0, .int v])).length) Slot.unset).toArray = ls at hl ⊢
  have hl : lv_has ls 3 [(0, .ref o), (1, .int s0), (2, .int v)] := hl
  have k_0 : (0 : Int32).toInt = 0 := by decide
  have k_1 : (1 : Int32).toInt = 1 := by decide
  refine lv_iload_n hx hb dX5_setMark_0 rfl (lv_at hl 1 rfl) ?_
  refine lv_if_lt (tgt := 23) hx hb dX5_setMark_1 (by decide) (fun c1 => ?_) (fun c1 => ?_)
  · skip
    have d1 := c1
    rw [fa_lt] at d1
    refine lv_iconst (v := 0) hx hb dX5_setMark_23 (by decide) ?_
    exact W.zret (v := (0 : Int32)) hx hb hr (by decide) (fun t ht hW => ⟨⟨_, (G, ws), rfl, ⟨hX, Or.inl rfl⟩, by show va_P D vwCl ws t.heap; rw [ht]; exact hP, hD, hT⟩, hS.F ht⟩) hS.2.2 dX5_setMark_24
  · skip
    have d1 := c1
    rw [fa_lt] at d1
    refine lv_iload_n hx hb dX5_setMark_4 rfl (lv_at hl 1 rfl) ?_
    refine lv_aload_n hx hb dX5_setMark_5 rfl (lv_at hl 0 rfl) ?_
    obtain ⟨_, hM_o, b_o, s_o, w_o, h_o, t_o, x_o, y_o, ms_o, rfl, hG_b_o, hG_s_o, hJ_o⟩ := hT _ _ hG_o
    obtain ⟨hn_o, c_o, rfl, hG_c_o⟩ := cJ4 hJ_o
    have hn36_o := cb_mul (c_hb hT hG_b_o)
    refine t_get (v := .ref c_o) (C := RX5) (T := TX5) (N := 6) hx hb hts (by decide +kernel) hown hK hP hM_o rfl 5 (by decide) (hts (.fieldLink RX5 13 "ShadowBench$MarkedJob" "marks" "[I") (by decide +kernel)) (fun _ h9 => h9) rfl dX5_setMark_6 ?_
    refine t_alenI hx hb hK hP hT (Or.inr (Or.inl rfl)) hG_c_o dX5_setMark_9 ?_
    have i9 : (nI (w_o * h_o)).toInt = _ := nI_toInt (by omega)
    refine lv_icmp_ge (tgt := 23) hx hb dX5_setMark_10 (by decide) (fun c10 => ?_) (fun c10 => ?_)
    · skip
      have d10 := c10
      rw [fa_le] at d10
      refine lv_iconst (v := 0) hx hb dX5_setMark_23 (by decide) ?_
      exact W.zret (v := (0 : Int32)) hx hb hr (by decide) (fun t ht hW => ⟨⟨_, (G, ws), rfl, ⟨hX, Or.inl rfl⟩, by show va_P D vwCl ws t.heap; rw [ht]; exact hP, hD, hT⟩, hS.F ht⟩) hS.2.2 dX5_setMark_24
    · skip
      have d10 := c10
      rw [fa_le] at d10
      refine lv_aload_n hx hb dX5_setMark_13 rfl (lv_at hl 0 rfl) ?_
      refine t_get (v := .ref c_o) (C := RX5) (T := TX5) (N := 6) hx hb hts (by decide +kernel) hown hK hP hM_o rfl 5 (by decide) (hts (.fieldLink RX5 13 "ShadowBench$MarkedJob" "marks" "[I") (by decide +kernel)) (fun _ h9 => h9) rfl dX5_setMark_14 ?_
      refine lv_iload_n hx hb dX5_setMark_17 rfl (lv_at hl 1 rfl) ?_
      refine t_iald hx hb hK hP hT (Or.inr (Or.inl rfl)) hG_c_o (vp_in_iff.mpr ⟨by omega, by omega⟩) dX5_setMark_18 (fun v18 => ?_)
      refine lv_iload_n hx hb dX5_setMark_19 rfl (lv_at hl 2 rfl) ?_
      refine lv_icmp_ne (tgt := 25) hx hb dX5_setMark_20 (by decide) (fun c20 => ?_) (fun c20 => ?_)
      · skip
        have d20 := c20
        rw [fa_eq] at d20
        refine lv_aload_n hx hb dX5_setMark_25 rfl (lv_at hl 0 rfl) ?_
        refine t_get (v := .ref c_o) (C := RX5) (T := TX5) (N := 6) hx hb hts (by decide +kernel) hown hK hP hM_o rfl 5 (by decide) (hts (.fieldLink RX5 13 "ShadowBench$MarkedJob" "marks" "[I") (by decide +kernel)) (fun _ h9 => h9) rfl dX5_setMark_26 ?_
        refine lv_iload_n hx hb dX5_setMark_29 rfl (lv_at hl 1 rfl) ?_
        refine lv_iload_n hx hb dX5_setMark_30 rfl (lv_at hl 2 rfl) ?_
        refine t_iast hx hb hK hP hD hS hT (Or.inr (Or.inl rfl)) hG_c_o (vp_in_iff.mpr ⟨by omega, by omega⟩) dX5_setMark_31 (fun H locs w31 hU31 hP hD hT hS => ?_)
        have hM_o := hU31 _ _ (cne hG_o hG_c_o (show (3 : Nat) ≠ 14 by decide)) hM_o
        have hX := hX.tr (cX.uF hU31 (Or.inr ⟨_, hG_c_o, rfl⟩))
        refine lv_iconst (v := 1) hx hb dX5_setMark_32 (by decide) ?_
        exact W.zret (v := (1 : Int32)) hx hb hr (by decide) (fun t ht hW => ⟨⟨_, (G, w31), rfl, ⟨hX, Or.inr rfl⟩, by show va_P D vwCl w31 t.heap; rw [ht]; exact hP, hD, hT⟩, hS.F ht⟩) hS.2.2 dX5_setMark_33
      · skip
        have d20 := c20
        rw [fa_eq] at d20
        refine lv_iconst (v := 0) hx hb dX5_setMark_23 (by decide) ?_
        exact W.zret (v := (0 : Int32)) hx hb hr (by decide) (fun t ht hW => ⟨⟨_, (G, ws), rfl, ⟨hX, Or.inl rfl⟩, by show va_P D vwCl ws t.heap; rw [ht]; exact hP, hD, hT⟩, hS.F ht⟩) hS.2.2 dX5_setMark_24
set_option maxHeartbeats 4000000 in
set_option maxRecDepth 100000 in
theorem c_X5_worthOf (l : Launch) (D : va_G) (cy : Nat → ClassId) (A : Nat → Prop) (G : cG) (ws : va_W) (o : Nat) (p0 : Int64) {nq : Nat} (hD : va_D A ws) (hT : cT cy G ws) (hG_o : G o = some (3, 4, nq))  : Ci l D cy A yX5_worthOf wsX5_worthOf ({ frames := 0, cells := 0, slots := 0, locals := 0 }) 0 0 ws [.ref o, .long p0] (fun r0 u => u = (G, ws) ∧ (True)) := by
  refine Met.ofW (cc := cX5_worthOf) (maxL := 5) (ret := (some .int)) (by decide) rfl ?_
  intro p e s m args below meth c s₁ B hml hv
  obtain ⟨rfl, hP, hK, hA, hV⟩ := hv
  have hx := B.exec
  have hb := B.bytes
  have hr := B.returns
  have hts := atoms_spec (ws := wsX5_worthOf) B.pre
  have hown : s.vm.findClass RX5 = some m.cls := findClass_of_methodNamed B.named
  have hlocks := B.notSynchronized
  have hS : va_S A s.heap s.heap [] := va_S.rf
  have hl := lv_entry ([.ref o, .long p0]) (n := 5) (Nat.le_of_ble_eq_true rfl)
  rw [lg_entry_eq]
  generalize (lg_sl ([.ref o, .long p0]) ++ List.replicate (5 - (lg_sl ([.ref o, .long p0])).length) Slot.unset).toArray = ls at hl ⊢
  have hl : lv_has ls 5 [(0, .ref o), (1, .long p0)] := hl
  have k_0 : (0 : Int32).toInt = 0 := by decide
  have k_1L : (1 : Int64).toInt = 1 := by decide
  refine lv_iconst (v := 0) hx hb dX5_worthOf_0 (by decide) ?_
  refine lv_istore_n (lv' := [(3, .int (0 : Int32)), (0, .ref o), (1, .long p0)]) hx hb dX5_worthOf_1 rfl hl (by decide) rfl (fun ls hl => ?_)
  refine lv_iconst (v := 0) hx hb dX5_worthOf_2 (by decide) ?_
  refine lv_istore (lv' := [(4, .int (0 : Int32)), (3, .int (0 : Int32)), (0, .ref o), (1, .long p0)]) hx hb dX5_worthOf_3 hl (by decide) rfl (fun ls hl => ?_)
  have loop_5 : ∀ (n : Nat) (i : Nat) (x3 : Int32), (i ≤ 36) → 36 - i < n → ∀ (H : Heap) (locs : List Loc), va_P D vwCl ws H → va_S A s.heap H locs → ∀ (ls : Array Slot), lv_has ls 5 [(4, .int (nI i)), (3, .int x3), (0, .ref o), (1, .long p0)] → W p l e (headSpec wsX5_worthOf ({ frames := 0, cells := 0, slots := 0, locals := 0 })).room s m #[Value.ref o, Value.long p0] below meth c H locs 0 0 (MQ below (va_Qi (fun r0 u => u = (G, ws) ∧ (True)) (cB D cy A) A) #[Value.ref o, Value.long p0] s 0 0 A) (F0 m 5 ls []) := by
    intro n
    induction n with
    | zero => intro i x3 j5_0 hn; exact absurd hn (Nat.not_lt_zero _)
    | succ n ih_5 =>
      intro i x3 j5_0 hn_5 H locs hP hS  ls hl
      have ik_i : (nI i).toInt = (i : Int) := nI_toInt (by omega)
      refine lv_iload hx hb dX5_worthOf_5 (lv_at hl 0 rfl) ?_
      refine lv_aload_n hx hb dX5_worthOf_7 rfl (lv_at hl 2 rfl) ?_
      obtain ⟨_, hM_o, b_o, s_o, w_o, h_o, t_o, x_o, y_o, ms_o, rfl, hG_b_o, hG_s_o, hJ_o⟩ := hT _ _ hG_o
      obtain ⟨hn_o, c_o, rfl, hG_c_o⟩ := cJ4 hJ_o
      have hn36_o := cb_mul (c_hb hT hG_b_o)
      refine t_get (v := .ref c_o) (C := RX5) (T := TX5) (N := 6) hx hb hts (by decide +kernel) hown hK hP hM_o rfl 5 (by decide) (hts (.fieldLink RX5 13 "ShadowBench$MarkedJob" "marks" "[I") (by decide +kernel)) (fun _ h9 => h9) rfl dX5_worthOf_8 ?_
      refine t_alenI hx hb hK hP hT (Or.inr (Or.inl rfl)) hG_c_o dX5_worthOf_11 ?_
      have i11 : (nI (w_o * h_o)).toInt = _ := nI_toInt (by omega)
      refine lv_icmp_ge (tgt := 42) hx hb dX5_worthOf_12 (by decide) (fun c12 => ?_) (fun c12 => ?_)
      · skip
        have d12 := c12
        rw [fa_le] at d12
        refine lv_iload_n hx hb dX5_worthOf_42 rfl (lv_at hl 1 rfl) ?_
        exact W.iret (v := x3) hx hb hr (fun t ht hW => ⟨⟨_, (G, ws), rfl, ⟨rfl, trivial⟩, by show va_P D vwCl ws t.heap; rw [ht]; exact hP, hD, hT⟩, hS.F ht⟩) hS.2.2 dX5_worthOf_43
      · skip
        have d12 := c12
        rw [fa_le] at d12
        refine lv_lload_n hx hb dX5_worthOf_15 rfl (lv_at hl 3 rfl) ?_
        refine lv_iload hx hb dX5_worthOf_16 (lv_at hl 0 rfl) ?_
        refine lv_lushr (v := (p0.toUInt64 >>> ((nI i).toInt64.toUInt64 &&& Int64.toUInt64 63)).toInt64) hx hb dX5_worthOf_18 rfl ?_
        refine lv_lconst (v := 1) hx hb dX5_worthOf_19 (by decide) ?_
        refine lv_land hx hb dX5_worthOf_20 ?_
        refine lv_topl (fun v20 e20 => ?_)
        refine lv_lconst (v := 1) hx hb dX5_worthOf_21 (by decide) ?_
        refine W.lcmp hx hb dX5_worthOf_22 ?_
        refine lv_if_ne (tgt := 36) hx hb dX5_worthOf_23 (by decide) (fun c23 => ?_) (fun c23 => ?_)
        · skip
          have d23 := c23
          rw [lg_cmp_eq, fa_eq64] at d23
          refine lv_iinc (v := (nI (i + 1))) (lv' := [(4, .int (nI (i + 1))), (3, .int x3), (0, .ref o), (1, .long p0)]) hx hb dX5_worthOf_36 hl (k := 0) rfl (nI_1 _) (by decide) rfl (fun ls hl => ?_)
          refine lv_goto (tgt := 5) hx hb dX5_worthOf_39 (by decide) ?_
          exact ih_5 (i + 1) x3 (by omega) (by omega) _ _ hP hS  ls (lv_sub hl [0, 1, 2, 3] rfl)
        · skip
          have d23 := c23
          rw [lg_cmp_eq, fa_eq64] at d23
          refine lv_iload_n hx hb dX5_worthOf_26 rfl (lv_at hl 1 rfl) ?_
          refine lv_aload_n hx hb dX5_worthOf_27 rfl (lv_at hl 2 rfl) ?_
          refine t_get (v := .ref c_o) (C := RX5) (T := TX5) (N := 6) hx hb hts (by decide +kernel) hown hK hP hM_o rfl 5 (by decide) (hts (.fieldLink RX5 13 "ShadowBench$MarkedJob" "marks" "[I") (by decide +kernel)) (fun _ h9 => h9) rfl dX5_worthOf_28 ?_
          refine lv_iload hx hb dX5_worthOf_31 (lv_at hl 0 rfl) ?_
          refine t_iald hx hb hK hP hT (Or.inr (Or.inl rfl)) hG_c_o (vp_in_iff.mpr ⟨by omega, by omega⟩) dX5_worthOf_33 (fun v33 => ?_)
          refine lv_iadd hx hb dX5_worthOf_34 ?_
          refine lv_topi (fun v34 e34 => ?_)
          refine lv_istore_n (lv' := [(3, .int v34), (4, .int (nI i)), (0, .ref o), (1, .long p0)]) hx hb dX5_worthOf_35 rfl hl (by decide) rfl (fun ls hl => ?_)
          refine lv_iinc (v := (nI (i + 1))) (lv' := [(4, .int (nI (i + 1))), (3, .int v34), (0, .ref o), (1, .long p0)]) hx hb dX5_worthOf_36 hl (k := 1) rfl (nI_1 _) (by decide) rfl (fun ls hl => ?_)
          refine lv_goto (tgt := 5) hx hb dX5_worthOf_39 (by decide) ?_
          exact ih_5 (i + 1) v34 (by omega) (by omega) _ _ hP hS  ls (lv_sub hl [0, 1, 2, 3] rfl)
  exact loop_5 (36 + 1) 0 (0 : Int32) (by omega) (by omega) _ _ hP hS  ls (lv_sub hl [0, 1, 2, 3] rfl)
set_option maxHeartbeats 4000000 in
set_option maxRecDepth 100000 in
theorem c_X5_heft (l : Launch) (D : va_G) (cy : Nat → ClassId) (A : Nat → Prop) (G : cG) (ws : va_W) (o : Nat) {nq : Nat} (hD : va_D A ws) (hT : cT cy G ws) (hG_o : G o = some (3, 4, nq))  : Ci l D cy A yX5_heft wsX5_heft ({ frames := 1, cells := 0, slots := 0, locals := 24 }) 0 0 ws [.ref o] (fun r0 u => u = (G, ws) ∧ (True)) := by
  refine Met.ofW (cc := cX5_heft) (maxL := 1) (ret := (some .int)) (by decide) rfl ?_
  intro p e s m args below meth c s₁ B hml hv
  obtain ⟨rfl, hP, hK, hA, hV⟩ := hv
  have hx := B.exec
  have hb := B.bytes
  have hr := B.returns
  have hts := atoms_spec (ws := wsX5_heft) B.pre
  have hown : s.vm.findClass RX5 = some m.cls := findClass_of_methodNamed B.named
  have hlocks := B.notSynchronized
  have hS : va_S A s.heap s.heap [] := va_S.rf
  have hl := lv_entry ([.ref o]) (n := 1) (Nat.le_of_ble_eq_true rfl)
  rw [lg_entry_eq]
  generalize (lg_sl ([.ref o]) ++ List.replicate (1 - (lg_sl ([.ref o])).length) Slot.unset).toArray = ls at hl ⊢
  have hl : lv_has ls 1 [(0, .ref o)] := hl
  have k_0 : (0 : Int32).toInt = 0 := by decide
  have k_m1L : (-1 : Int64).toInt = -1 := by decide
  refine lv_aload_n hx hb dX5_heft_0 rfl (lv_at hl 0 rfl) ?_
  obtain ⟨_, hM_o, b_o, s_o, w_o, h_o, t_o, x_o, y_o, ms_o, rfl, hG_b_o, hG_s_o, hJ_o⟩ := hT _ _ hG_o
  obtain ⟨hn_o, c_o, rfl, hG_c_o⟩ := cJ4 hJ_o
  have hn36_o := cb_mul (c_hb hT hG_b_o)
  refine t_calli (va_runSU (g := F0 m 1 ls ([.ref o])) (As := []) (rest := []) (hK.1 4 _ rfl).2 ⟨hx, hb, hml, hown, hts⟩ (c_X3_heft l D cy A G ws o hD hT hG_o ) (va_cwSU 0 hts gX5_heft_X3_heft_s19 rfl rfl rfl (by decide +kernel) ⟨Nat.le_of_ble_eq_true rfl, Nat.le_of_ble_eq_true rfl⟩) (c_preV hM_o rfl hP hK hA hS hV) rfl rfl hl.1 rfl (lv_room (Nat.le_of_ble_eq_true rfl)) dX5_heft_1 ⟨Nat.le_of_ble_eq_true rfl, Nat.le_of_ble_eq_true rfl⟩) hS (fun r1 u H locs q1 hP9 hD9 hT9 hS => ?_)
  obtain ⟨rfl, q1⟩ := q1
  have hP : va_P D vwCl ws H := hP9
  refine lv_aload_n hx hb dX5_heft_4 rfl (lv_at hl 0 rfl) ?_
  refine lv_ldc2 hx hb hown (hts (.constantLong RX5 23 (-1)) (by decide +kernel)) dX5_heft_5 ?_
  refine t_calli (va_runV (g := F0 m 8 ls ([.long (-1 : Int64), .ref o, .int r1])) (As := [.long (-1 : Int64)]) (rest := [.int r1]) ⟨hx, hb, hml, hown, hts⟩ (c_X5_worthOf l D cy A G ws o (-1 : Int64) hD hT hG_o ) (cwV 1 hts gX5_heft_X5_worthOf rfl rfl rfl (by decide +kernel) ⟨Nat.le_of_ble_eq_true rfl, Nat.le_of_ble_eq_true rfl⟩) (c_preV hM_o rfl hP hK hA hS hV) rfl rfl hl.1 rfl (lv_room (Nat.le_of_ble_eq_true rfl)) dX5_heft_8 ⟨Nat.le_of_ble_eq_true rfl, Nat.le_of_ble_eq_true rfl⟩) hS (fun r8 u H locs q8 hP9 hD9 hT9 hS => ?_)
  obtain ⟨rfl, q8⟩ := q8
  have hP : va_P D vwCl ws H := hP9
  refine lv_iadd hx hb dX5_heft_11 ?_
  refine lv_topi (fun v11 e11 => ?_)
  exact W.iret (v := v11) hx hb hr (fun t ht hW => ⟨⟨_, (G, ws), rfl, ⟨rfl, trivial⟩, by show va_P D vwCl ws t.heap; rw [ht]; exact hP, hD, hT⟩, hS.F ht⟩) hS.2.2 dX5_heft_12
set_option maxHeartbeats 4000000 in
set_option maxRecDepth 100000 in
theorem c_X3_alike (l : Launch) (D : va_G) (cy : Nat → ClassId) (A : Nat → Prop) (G : cG) (ws : va_W) (o : Nat) (x1 : Nat) {kq nq k1 n1 : Nat} (hD : va_D A ws) (hT : cT cy G ws) (hG_o : G o = some (3, kq, nq)) (hG_x1 : G x1 = some (3, k1, n1))  : Ca l D cy A yX3_alike wsX3_alike ({ frames := 1, cells := 0, slots := 0, locals := 68 }) 0 0 ws [.ref o, .ref x1] (fun r0 u => cX none (chs [3, 14]) G ws u.1 u.2 ∧ (r0 = some x1)) := by
  refine Met.ofW (cc := cX3_alike) (maxL := 2) (ret := (some (.object "ShadowBench$Job"))) (by decide) rfl ?_
  intro p e s m args below meth c s₁ B hml hv
  obtain ⟨rfl, hP, hK, hA, hV⟩ := hv
  have hx := B.exec
  have hb := B.bytes
  have hr := B.returns
  have hts := atoms_spec (ws := wsX3_alike) B.pre
  have hown : s.vm.findClass RX3 = some m.cls := findClass_of_methodNamed B.named
  have hlocks := B.notSynchronized
  have hS : va_S A s.heap s.heap [] := va_S.rf
  have hinJ : ∀ w ∈ wsX10 ++ wsX30 ++ wsX40 ++ wsX50, w ∈ wsX3_alike := by decide +kernel
  have hX : cX none (chs [3, 14]) G ws G ws := cX.rf
  have hl := lv_entry ([.ref o, .ref x1]) (n := 2) (Nat.le_of_ble_eq_true rfl)
  rw [lg_entry_eq]
  generalize (lg_sl ([.ref o, .ref x1]) ++ List.replicate (2 - (lg_sl ([.ref o, .ref x1])).length) Slot.unset).toArray = ls at hl ⊢
  have hl : lv_has ls 2 [(0, .ref o), (1, .ref x1)] := hl
  have k_0 : (0 : Int32).toInt = 0 := by decide
  refine lv_aload_n hx hb dX3_alike_0 rfl (lv_at hl 0 rfl) ?_
  obtain ⟨_, hM_o, b_o, s_o, w_o, h_o, t_o, x_o, y_o, ms_o, rfl, hG_b_o, hG_s_o, hJ_o⟩ := hT _ _ hG_o
  refine t_getJ (v := .ref s_o) hx hb hts hinJ hown hK hP hJ_o.kc hM_o 1 (by decide) (hts (.fieldLink RX3 11 "ShadowBench$Job" "sums" "[I") (by decide +kernel)) (fun _ h9 => h9) rfl dX3_alike_1 ?_
  refine lv_iconst (v := 0) hx hb dX3_alike_4 (by decide) ?_
  refine lv_aload_n hx hb dX3_alike_5 rfl (lv_at hl 1 rfl) ?_
  obtain ⟨_, hM_x1, b_x1, s_x1, w_x1, h_x1, t_x1, x_x1, y_x1, ms_x1, rfl, hG_b_x1, hG_s_x1, hJ_x1⟩ := hT _ _ hG_x1
  refine t_getJ (v := .ref s_x1) hx hb hts hinJ hown hK hP hJ_x1.kc hM_x1 1 (by decide) (hts (.fieldLink RX3 11 "ShadowBench$Job" "sums" "[I") (by decide +kernel)) (fun _ h9 => h9) rfl dX3_alike_6 ?_
  refine lv_iconst (v := 0) hx hb dX3_alike_9 (by decide) ?_
  refine lv_aload_n hx hb dX3_alike_10 rfl (lv_at hl 0 rfl) ?_
  refine t_getJ (v := .ref s_o) hx hb hts hinJ hown hK hP hJ_o.kc hM_o 1 (by decide) (hts (.fieldLink RX3 11 "ShadowBench$Job" "sums" "[I") (by decide +kernel)) (fun _ h9 => h9) rfl dX3_alike_11 ?_
  refine t_alenI hx hb hK hP hT (Or.inr (Or.inl rfl)) hG_s_o dX3_alike_14 ?_
  have i14 : (nI 44).toInt = _ := nI_toInt (by omega)
  refine t_copyi hx hb (by rw [hml]; exact hl.1.symm) hown (hts (.methodLink RX3 90 arraycopyName) (by decide +kernel)) (hts (.native arraycopyName) (by decide +kernel)) (hts (.static arraycopyName) (by decide +kernel)) (hts (.initialized "java/lang/System") (by decide +kernel)) hK hP hD hS hT (Or.inr (Or.inl rfl)) (Or.inr (Or.inl rfl)) hG_s_o hG_s_x1 (by omega) (by omega) (by omega) (by omega) (by omega) (Nat.le_of_ble_eq_true rfl) (Nat.le_of_ble_eq_true rfl) dX3_alike_15 (fun H locs w15 hU15 hP hD hT hS => ?_)
  have hM_o := hU15 _ _ (cne hG_o hG_s_x1 (show (3 : Nat) ≠ 14 by decide)) hM_o
  have hM_x1 := hU15 _ _ (cne hG_x1 hG_s_x1 (show (3 : Nat) ≠ 14 by decide)) hM_x1
  have hX := hX.tr (cX.uF hU15 (Or.inr ⟨_, hG_s_x1, rfl⟩))
  refine lv_aload_n hx hb dX3_alike_18 rfl (lv_at hl 1 rfl) ?_
  refine lv_aload_n hx hb dX3_alike_19 rfl (lv_at hl 0 rfl) ?_
  refine t_getJ (v := .int t_o) hx hb hts hinJ hown hK hP hJ_o.kc hM_o 2 (by decide) (hts (.fieldLink RX3 17 "ShadowBench$Job" "toldWays" "I") (by decide +kernel)) (fun _ h9 => h9) rfl dX3_alike_20 ?_
  refine t_putJ (v := .int t_o) hx hb hts hinJ hown hK hP hD hS hJ_x1.kc hM_x1 2 (by decide) (hts (.fieldLink RX3 17 "ShadowBench$Job" "toldWays" "I") (by decide +kernel)) (fun _ h9 => h9) rfl rfl rfl (Nat.le_of_ble_eq_true rfl) dX3_alike_23 (fun H locs w23 hU23 hP hD hS => ?_)
  have hT := hT.up hU23 hG_x1 ⟨b_x1, s_x1, w_x1, h_x1, _, _, _, ms_x1, rfl, hG_b_x1, hG_s_x1, hJ_x1⟩
  have hM_x1 : cIn w23 x1 (.inr (k1, .ref b_x1 :: .ref s_x1 :: .int t_o :: .long x_x1 :: .long y_x1 :: ms_x1)) := hU23.1
  have hX := hX.tr (cX.up hU23 (Or.inr ⟨_, hG_x1, rfl⟩))
  refine lv_aload_n hx hb dX3_alike_26 rfl (lv_at hl 1 rfl) ?_
  refine lv_aload_n hx hb dX3_alike_27 rfl (lv_at hl 0 rfl) ?_
  obtain ⟨_, hM_o, bv1_o, sv1_o, wv1_o, hv1_o, tv1_o, xv1_o, yv1_o, msv1_o, rfl, hG_bv1_o, hG_sv1_o, hJ_o⟩ := hT _ _ hG_o
  refine t_getJ (v := .long xv1_o) hx hb hts hinJ hown hK hP hJ_o.kc hM_o 3 (by decide) (hts (.fieldLink RX3 21 "ShadowBench$Job" "heldOnes" "J") (by decide +kernel)) (fun _ h9 => h9) rfl dX3_alike_28 ?_
  refine t_putJ (v := .long xv1_o) hx hb hts hinJ hown hK hP hD hS hJ_x1.kc hM_x1 3 (by decide) (hts (.fieldLink RX3 21 "ShadowBench$Job" "heldOnes" "J") (by decide +kernel)) (fun _ h9 => h9) rfl rfl rfl (Nat.le_of_ble_eq_true rfl) dX3_alike_31 (fun H locs w31 hU31 hP hD hS => ?_)
  have hT := hT.up hU31 hG_x1 ⟨b_x1, s_x1, w_x1, h_x1, _, _, _, ms_x1, rfl, hG_b_x1, hG_s_x1, hJ_x1⟩
  have hM_x1 : cIn w31 x1 (.inr (k1, .ref b_x1 :: .ref s_x1 :: .int t_o :: .long xv1_o :: .long y_x1 :: ms_x1)) := hU31.1
  have hX := hX.tr (cX.up hU31 (Or.inr ⟨_, hG_x1, rfl⟩))
  refine lv_aload_n hx hb dX3_alike_34 rfl (lv_at hl 1 rfl) ?_
  refine lv_aload_n hx hb dX3_alike_35 rfl (lv_at hl 0 rfl) ?_
  obtain ⟨_, hM_o, bv2_o, sv2_o, wv2_o, hv2_o, tv2_o, xv2_o, yv2_o, msv2_o, rfl, hG_bv2_o, hG_sv2_o, hJ_o⟩ := hT _ _ hG_o
  refine t_getJ (v := .long yv2_o) hx hb hts hinJ hown hK hP hJ_o.kc hM_o 4 (by decide) (hts (.fieldLink RX3 25 "ShadowBench$Job" "heldNoughts" "J") (by decide +kernel)) (fun _ h9 => h9) rfl dX3_alike_36 ?_
  refine t_putJ (v := .long yv2_o) hx hb hts hinJ hown hK hP hD hS hJ_x1.kc hM_x1 4 (by decide) (hts (.fieldLink RX3 25 "ShadowBench$Job" "heldNoughts" "J") (by decide +kernel)) (fun _ h9 => h9) rfl rfl rfl (Nat.le_of_ble_eq_true rfl) dX3_alike_39 (fun H locs w39 hU39 hP hD hS => ?_)
  have hT := hT.up hU39 hG_x1 ⟨b_x1, s_x1, w_x1, h_x1, _, _, _, ms_x1, rfl, hG_b_x1, hG_s_x1, hJ_x1⟩
  have hM_x1 : cIn w39 x1 (.inr (k1, .ref b_x1 :: .ref s_x1 :: .int t_o :: .long xv1_o :: .long yv2_o :: ms_x1)) := hU39.1
  have hX := hX.tr (cX.up hU39 (Or.inr ⟨_, hG_x1, rfl⟩))
  refine lv_aload_n hx hb dX3_alike_42 rfl (lv_at hl 1 rfl) ?_
  exact W.aret (v := .ref x1) hx hb hr (Or.inl ⟨_, rfl⟩) (Or.inr ⟨_, rfl⟩) (fun t ht hW => ⟨⟨(some x1), (G, w39), rfl, ⟨hX, rfl⟩, by show va_P D vwCl w39 t.heap; rw [ht]; exact hP, hD, hT⟩, hS.F ht⟩) hS.2.2 dX3_alike_43
set_option maxHeartbeats 4000000 in
set_option maxRecDepth 100000 in
theorem c_X3_asItIs (l : Launch) (D : va_G) (cy : Nat → ClassId) (A : Nat → Prop) (G : cG) (ws : va_W) (o : Nat) {nq : Nat} (hD : va_D A ws) (hT : cT cy G ws) (hG_o : G o = some (3, 2, nq))  : Ca l D cy A yX3_asItIs wsX3_asItIs ({ frames := 3, cells := 2, slots := 49, locals := 89 }) 2 49 ws [.ref o] (fun r0 u => cX none (chs [3, 14]) G ws u.1 u.2 ∧ (∃ x k n, r0 = some x ∧ u.1 x = some (3, k, n))) := by
  refine Met.ofW (cc := cX3_asItIs) (maxL := 1) (ret := (some (.object "ShadowBench$Job"))) (by decide) rfl ?_
  intro p e s m args below meth c s₁ B hml hv
  obtain ⟨rfl, hP, hK, hA, hV⟩ := hv
  have hx := B.exec
  have hb := B.bytes
  have hr := B.returns
  have hts := atoms_spec (ws := wsX3_asItIs) B.pre
  have hown : s.vm.findClass RX3 = some m.cls := findClass_of_methodNamed B.named
  have hlocks := B.notSynchronized
  have hS : va_S A s.heap s.heap [] := va_S.rf
  have hX : cX none (chs [3, 14]) G ws G ws := cX.rf
  have hl := lv_entry ([.ref o]) (n := 1) (Nat.le_of_ble_eq_true rfl)
  rw [lg_entry_eq]
  generalize (lg_sl ([.ref o]) ++ List.replicate (1 - (lg_sl ([.ref o])).length) Slot.unset).toArray = ls at hl ⊢
  have hl : lv_has ls 1 [(0, .ref o)] := hl
  have k_0 : (0 : Int32).toInt = 0 := by decide
  refine lv_aload_n hx hb dX3_asItIs_0 rfl (lv_at hl 0 rfl) ?_
  refine t_new (C := RX3) (T := TX3) (N := 5) (ci := 2) (ty0 := tyX3) (fs := [.null, .null, .int 0, .long 0, .long 0]) hx hb hts (by decide +kernel) tyX3_ok hown (hts (.classLink RX3 12 RX3) (by decide +kernel)) (hts (.instantiable RX3 5) (by decide +kernel)) (hts (.initialized RX3) (by decide +kernel)) hK hP hD hS hA hT rfl (by decide +kernel) (Nat.le_of_ble_eq_true rfl) (Nat.le_of_ble_eq_true rfl) dX3_asItIs_1 (fun q1 H w1 hM_q1 hO_q1 hF1 hX1 hk1 hP hD hT hS => ?_)
  have hN_q1 := hX.new0 hO_q1 hF1
  have hX := hX.tr (hX1 _ _)
  refine lv_dup hx hb dX3_asItIs_4 rfl ?_
  refine lv_aload_n hx hb dX3_asItIs_5 rfl (lv_at hl 0 rfl) ?_
  obtain ⟨_, hM_o, b_o, s_o, w_o, h_o, t_o, x_o, y_o, ms_o, rfl, hG_b_o, hG_s_o, hJ_o⟩ := hT _ _ hG_o
  refine t_get (v := .ref b_o) (C := RX3) (T := TX3) (N := 5) hx hb hts (by decide +kernel) hown hK hP hM_o rfl 0 (by decide) (hts (.fieldLink RX3 28 "ShadowBench$Job" "board" "LShadowBench$Board;") (by decide +kernel)) (fun _ h9 => h9) rfl dX3_asItIs_6 ?_
  refine t_callv (va_runI (g := F0 m 9 ls ([.ref b_o, .ref q1, .ref q1, .ref o])) (As := [.ref b_o]) (rest := [.ref q1, .ref o]) (b := q1) ⟨hx, hb, hml, hown, hts⟩ (c_X3_init l D cy A G w1 q1 b_o hD hT hO_q1 hM_q1 hG_b_o (by unfold cKc; omega)) (cwI 1 hts gX3_asItIs_X3_init rfl rfl rfl (hts (.initialized RX3) (by decide +kernel)) (hts (.methodLink RX3 83 yX3_init) (by decide +kernel)) (hts (.instanceMethod yX3_init) (by decide +kernel)) rfl (by decide +kernel) ⟨Nat.le_of_ble_eq_true rfl, Nat.le_of_ble_eq_true rfl⟩) (c_preS hP hK hA hS hV) rfl rfl hl.1 rfl (lv_room (Nat.le_of_ble_eq_true rfl)) dX3_asItIs_9 ⟨Nat.le_of_ble_eq_true rfl, Nat.le_of_ble_eq_true rfl⟩) hS (fun u H locs q9 hP9 hD9 hT9 hS => ?_)
  obtain ⟨G9, w9⟩ := u
  obtain ⟨hX9, q9⟩ := q9
  have hX9 : cX (some q1) (chs []) G w1 G9 w9 := hX9
  have hP : va_P D vwCl w9 H := hP9
  have hD : va_D A w9 := hD9
  have hT : cT cy G9 w9 := hT9
  have hM_o := hX9.2.1 _ _ (cP.no1 (Ne.symm (cne0 hO_q1 hG_o)) hG_o rfl) hM_o
  have hG_o := hX9.1 _ _ hG_o
  have hG_b_o := hX9.1 _ _ hG_b_o
  have hG_s_o := hX9.1 _ _ hG_s_o
  obtain ⟨hO_q1, a9, hG_a9, hM_q1⟩ := q9
  have hM_q1 : cIn w9 q1 (.inr (2, [.ref b_o, .ref a9, .int 3, .long 0, .long 0])) := hM_q1
  have hX := hX.trN hN_q1 (hX9.wk (chs_sub (by decide)))
  obtain ⟨Gk9, hGk⟩ : ∃ z, z = va_up G9 q1 (some (3, 2, 8 * w_o + h_o)) := ⟨_, rfl⟩
  have hE9 : cE G9 Gk9 := by rw [hGk]; exact cE.add hO_q1
  have hG_q1 : Gk9 q1 = some (3, 2, 8 * w_o + h_o) := by rw [hGk]; simp [va_up]
  have hG_o := hE9 _ _ hG_o
  have hG_b_o := hE9 _ _ hG_b_o
  have hG_s_o := hE9 _ _ hG_s_o
  have hG_a9 := hE9 _ _ hG_a9
  have hT : cT cy Gk9 w9 := by rw [hGk]; exact hT.kind hO_q1 hM_q1 (by rw [← hGk]; exact ⟨_, _, _, _, _, _, _, _, rfl, hG_b_o, hG_a9, ⟨rfl, Or.inr (Or.inl ⟨rfl, rfl⟩)⟩⟩)
  have hX := hX.trN hN_q1 (show cX (some q1) (chs [3, 14]) G9 w9 Gk9 w9 by rw [hGk]; exact cX.kind hO_q1)
  refine t_calla (va_runV (g := F0 m 12 ls ([.ref q1, .ref o])) (As := [.ref q1]) (rest := []) ⟨hx, hb, hml, hown, hts⟩ (c_X3_alike l D cy A Gk9 w9 o q1 hD hT hG_o hG_q1 ) (cwV 1 hts gX3_asItIs_X3_alike rfl rfl rfl (by decide +kernel) ⟨Nat.le_of_ble_eq_true rfl, Nat.le_of_ble_eq_true rfl⟩) (c_preV hM_o rfl hP hK hA hS hV) rfl rfl hl.1 rfl (lv_room (Nat.le_of_ble_eq_true rfl)) dX3_asItIs_12 ⟨Nat.le_of_ble_eq_true rfl, Nat.le_of_ble_eq_true rfl⟩) hS (fun r12 u H locs q12 hP9 hD9 hT9 hS => ?_)
  obtain ⟨G12, w12⟩ := u
  obtain ⟨hX9, q12⟩ := q12
  have hX9 : cX none (chs [3, 14]) Gk9 w9 G12 w12 := hX9
  have hP : va_P D vwCl w12 H := hP9
  have hD : va_D A w12 := hD9
  have hT : cT cy G12 w12 := hT9
  have hG_o := hX9.1 _ _ hG_o
  have hG_b_o := hX9.1 _ _ hG_b_o
  have hG_s_o := hX9.1 _ _ hG_s_o
  have hG_a9 := hX9.1 _ _ hG_a9
  have hG_q1 := hX9.1 _ _ hG_q1
  have hX := hX.tr hX9
  subst q12
  refine W.widen (k := 2) (n := 49) (Nat.le_of_ble_eq_true rfl) (Nat.le_of_ble_eq_true rfl) ?_
  exact W.aret (v := .ref q1) hx hb hr (Or.inl ⟨_, rfl⟩) (Or.inr ⟨_, rfl⟩) (fun t ht hW => ⟨⟨(some q1), (G12, w12), rfl, ⟨hX, ⟨_, _, _, rfl, hG_q1⟩⟩, by show va_P D vwCl w12 t.heap; rw [ht]; exact hP, hD, hT⟩, hS.F ht⟩) hS.2.2 dX3_asItIs_15
set_option maxHeartbeats 4000000 in
set_option maxRecDepth 100000 in
theorem c_X4_asItIs (l : Launch) (D : va_G) (cy : Nat → ClassId) (A : Nat → Prop) (G : cG) (ws : va_W) (o : Nat) {nq : Nat} (hD : va_D A ws) (hT : cT cy G ws) (hG_o : G o = some (3, 3, nq))  : Ca l D cy A yX4_asItIs wsX4_asItIs ({ frames := 4, cells := 2, slots := 49, locals := 89 }) 2 49 ws [.ref o] (fun r0 u => cX none (chs [3, 14]) G ws u.1 u.2 ∧ (∃ x k n, r0 = some x ∧ u.1 x = some (3, k, n))) := by
  refine Met.ofW (cc := cX4_asItIs) (maxL := 1) (ret := (some (.object "ShadowBench$Job"))) (by decide) rfl ?_
  intro p e s m args below meth c s₁ B hml hv
  obtain ⟨rfl, hP, hK, hA, hV⟩ := hv
  have hx := B.exec
  have hb := B.bytes
  have hr := B.returns
  have hts := atoms_spec (ws := wsX4_asItIs) B.pre
  have hown : s.vm.findClass RX4 = some m.cls := findClass_of_methodNamed B.named
  have hlocks := B.notSynchronized
  have hS : va_S A s.heap s.heap [] := va_S.rf
  have hX : cX none (chs [3, 14]) G ws G ws := cX.rf
  have hl := lv_entry ([.ref o]) (n := 1) (Nat.le_of_ble_eq_true rfl)
  rw [lg_entry_eq]
  generalize (lg_sl ([.ref o]) ++ List.replicate (1 - (lg_sl ([.ref o])).length) Slot.unset).toArray = ls at hl ⊢
  have hl : lv_has ls 1 [(0, .ref o)] := hl
  have k_0 : (0 : Int32).toInt = 0 := by decide
  refine lv_aload_n hx hb dX4_asItIs_0 rfl (lv_at hl 0 rfl) ?_
  refine t_new (C := RX4) (T := TX4) (N := 5) (ci := 3) (ty0 := tyX4) (fs := [.null, .null, .int 0, .long 0, .long 0]) hx hb hts (by decide +kernel) tyX4_ok hown (hts (.classLink RX4 8 RX4) (by decide +kernel)) (hts (.instantiable RX4 5) (by decide +kernel)) (hts (.initialized RX4) (by decide +kernel)) hK hP hD hS hA hT rfl (by decide +kernel) (Nat.le_of_ble_eq_true rfl) (Nat.le_of_ble_eq_true rfl) dX4_asItIs_1 (fun q1 H w1 hM_q1 hO_q1 hF1 hX1 hk1 hP hD hT hS => ?_)
  have hN_q1 := hX.new0 hO_q1 hF1
  have hX := hX.tr (hX1 _ _)
  refine lv_dup hx hb dX4_asItIs_4 rfl ?_
  refine lv_aload_n hx hb dX4_asItIs_5 rfl (lv_at hl 0 rfl) ?_
  obtain ⟨_, hM_o, b_o, s_o, w_o, h_o, t_o, x_o, y_o, ms_o, rfl, hG_b_o, hG_s_o, hJ_o⟩ := hT _ _ hG_o
  refine t_get (v := .ref b_o) (C := RX4) (T := TX4) (N := 5) hx hb hts (by decide +kernel) hown hK hP hM_o rfl 0 (by decide) (hts (.fieldLink RX4 7 "ShadowBench$JoinedJob" "board" "LShadowBench$Board;") (by decide +kernel)) (fun _ h9 => u_same (hts (.sameField "ShadowBench$JoinedJob" "ShadowBench$Job" "board" "LShadowBench$Board;") (by decide +kernel)) _ h9) rfl dX4_asItIs_6 ?_
  refine t_callv (va_runI (g := F0 m 9 ls ([.ref b_o, .ref q1, .ref q1, .ref o])) (As := [.ref b_o]) (rest := [.ref q1, .ref o]) (b := q1) ⟨hx, hb, hml, hown, hts⟩ (c_X4_init l D cy A G w1 q1 b_o hD hT hO_q1 hM_q1 hG_b_o (by unfold cKc; omega)) (cwI 1 hts gX4_asItIs_X4_init rfl rfl rfl (hts (.initialized RX4) (by decide +kernel)) (hts (.methodLink RX4 30 yX4_init) (by decide +kernel)) (hts (.instanceMethod yX4_init) (by decide +kernel)) rfl (by decide +kernel) ⟨Nat.le_of_ble_eq_true rfl, Nat.le_of_ble_eq_true rfl⟩) (c_preS hP hK hA hS hV) rfl rfl hl.1 rfl (lv_room (Nat.le_of_ble_eq_true rfl)) dX4_asItIs_9 ⟨Nat.le_of_ble_eq_true rfl, Nat.le_of_ble_eq_true rfl⟩) hS (fun u H locs q9 hP9 hD9 hT9 hS => ?_)
  obtain ⟨G9, w9⟩ := u
  obtain ⟨hX9, q9⟩ := q9
  have hX9 : cX (some q1) (chs []) G w1 G9 w9 := hX9
  have hP : va_P D vwCl w9 H := hP9
  have hD : va_D A w9 := hD9
  have hT : cT cy G9 w9 := hT9
  have hM_o := hX9.2.1 _ _ (cP.no1 (Ne.symm (cne0 hO_q1 hG_o)) hG_o rfl) hM_o
  have hG_o := hX9.1 _ _ hG_o
  have hG_b_o := hX9.1 _ _ hG_b_o
  have hG_s_o := hX9.1 _ _ hG_s_o
  obtain ⟨hO_q1, a9, hG_a9, hM_q1⟩ := q9
  have hM_q1 : cIn w9 q1 (.inr (3, [.ref b_o, .ref a9, .int 3, .long 0, .long 0])) := hM_q1
  have hX := hX.trN hN_q1 (hX9.wk (chs_sub (by decide)))
  obtain ⟨Gk9, hGk⟩ : ∃ z, z = va_up G9 q1 (some (3, 3, 8 * w_o + h_o)) := ⟨_, rfl⟩
  have hE9 : cE G9 Gk9 := by rw [hGk]; exact cE.add hO_q1
  have hG_q1 : Gk9 q1 = some (3, 3, 8 * w_o + h_o) := by rw [hGk]; simp [va_up]
  have hG_o := hE9 _ _ hG_o
  have hG_b_o := hE9 _ _ hG_b_o
  have hG_s_o := hE9 _ _ hG_s_o
  have hG_a9 := hE9 _ _ hG_a9
  have hT : cT cy Gk9 w9 := by rw [hGk]; exact hT.kind hO_q1 hM_q1 (by rw [← hGk]; exact ⟨_, _, _, _, _, _, _, _, rfl, hG_b_o, hG_a9, ⟨rfl, Or.inr (Or.inr (Or.inl ⟨rfl, rfl⟩))⟩⟩)
  have hX := hX.trN hN_q1 (show cX (some q1) (chs [3, 14]) G9 w9 Gk9 w9 by rw [hGk]; exact cX.kind hO_q1)
  refine t_calla (va_runU (g := F0 m 12 ls ([.ref q1, .ref o])) (As := [.ref q1]) (rest := []) ⟨hx, hb, hml, hown, hts⟩ (c_X3_alike l D cy A Gk9 w9 o q1 hD hT hG_o hG_q1 ) (va_cwU 1 hts gX4_asItIs_X3_alike_u31X4 rfl rfl rfl rfl (by decide +kernel) ⟨Nat.le_of_ble_eq_true rfl, Nat.le_of_ble_eq_true rfl⟩) (c_preV hM_o rfl hP hK hA hS hV) rfl rfl hl.1 rfl (lv_room (Nat.le_of_ble_eq_true rfl)) dX4_asItIs_12 ⟨Nat.le_of_ble_eq_true rfl, Nat.le_of_ble_eq_true rfl⟩) hS (fun r12 u H locs q12 hP9 hD9 hT9 hS => ?_)
  obtain ⟨G12, w12⟩ := u
  obtain ⟨hX9, q12⟩ := q12
  have hX9 : cX none (chs [3, 14]) Gk9 w9 G12 w12 := hX9
  have hP : va_P D vwCl w12 H := hP9
  have hD : va_D A w12 := hD9
  have hT : cT cy G12 w12 := hT9
  have hG_o := hX9.1 _ _ hG_o
  have hG_b_o := hX9.1 _ _ hG_b_o
  have hG_s_o := hX9.1 _ _ hG_s_o
  have hG_a9 := hX9.1 _ _ hG_a9
  have hG_q1 := hX9.1 _ _ hG_q1
  have hX := hX.tr hX9
  subst q12
  refine W.widen (k := 2) (n := 49) (Nat.le_of_ble_eq_true rfl) (Nat.le_of_ble_eq_true rfl) ?_
  exact W.aret (v := .ref q1) hx hb hr (Or.inl ⟨_, rfl⟩) (Or.inr ⟨_, rfl⟩) (fun t ht hW => ⟨⟨(some q1), (G12, w12), rfl, ⟨hX, ⟨_, _, _, rfl, hG_q1⟩⟩, by show va_P D vwCl w12 t.heap; rw [ht]; exact hP, hD, hT⟩, hS.F ht⟩) hS.2.2 dX4_asItIs_15
set_option maxHeartbeats 4000000 in
set_option maxRecDepth 100000 in
theorem c_X1_asItIs (l : Launch) (D : va_G) (cy : Nat → ClassId) (A : Nat → Prop) (G : cG) (ws : va_W) (o : Nat) {nq : Nat} (hD : va_D A ws) (hT : cT cy G ws) (hG_o : G o = some (3, 1, nq))  : Ca l D cy A yX1_asItIs wsX1_asItIs ({ frames := 5, cells := 2, slots := 49, locals := 103 }) 2 49 ws [.ref o] (fun r0 u => cX none (chs [3, 14]) G ws u.1 u.2 ∧ (∃ x k n, r0 = some x ∧ u.1 x = some (3, k, n))) := by
  refine Met.ofW (cc := cX1_asItIs) (maxL := 1) (ret := (some (.object "ShadowBench$Job"))) (by decide) rfl ?_
  intro p e s m args below meth c s₁ B hml hv
  obtain ⟨rfl, hP, hK, hA, hV⟩ := hv
  have hx := B.exec
  have hb := B.bytes
  have hr := B.returns
  have hts := atoms_spec (ws := wsX1_asItIs) B.pre
  have hown : s.vm.findClass RX1 = some m.cls := findClass_of_methodNamed B.named
  have hlocks := B.notSynchronized
  have hS : va_S A s.heap s.heap [] := va_S.rf
  have hX : cX none (chs [3, 14]) G ws G ws := cX.rf
  have hl := lv_entry ([.ref o]) (n := 1) (Nat.le_of_ble_eq_true rfl)
  rw [lg_entry_eq]
  generalize (lg_sl ([.ref o]) ++ List.replicate (1 - (lg_sl ([.ref o])).length) Slot.unset).toArray = ls at hl ⊢
  have hl : lv_has ls 1 [(0, .ref o)] := hl
  have k_0 : (0 : Int32).toInt = 0 := by decide
  refine lv_aload_n hx hb dX1_asItIs_0 rfl (lv_at hl 0 rfl) ?_
  refine t_new (C := RX1) (T := TX1) (N := 5) (ci := 1) (ty0 := tyX1) (fs := [.null, .null, .int 0, .long 0, .long 0]) hx hb hts (by decide +kernel) tyX1_ok hown (hts (.classLink RX1 12 RX1) (by decide +kernel)) (hts (.instantiable RX1 5) (by decide +kernel)) (hts (.initialized RX1) (by decide +kernel)) hK hP hD hS hA hT rfl (by decide +kernel) (Nat.le_of_ble_eq_true rfl) (Nat.le_of_ble_eq_true rfl) dX1_asItIs_1 (fun q1 H w1 hM_q1 hO_q1 hF1 hX1 hk1 hP hD hT hS => ?_)
  have hN_q1 := hX.new0 hO_q1 hF1
  have hX := hX.tr (hX1 _ _)
  refine lv_dup hx hb dX1_asItIs_4 rfl ?_
  refine lv_aload_n hx hb dX1_asItIs_5 rfl (lv_at hl 0 rfl) ?_
  obtain ⟨_, hM_o, b_o, s_o, w_o, h_o, t_o, x_o, y_o, ms_o, rfl, hG_b_o, hG_s_o, hJ_o⟩ := hT _ _ hG_o
  refine t_get (v := .ref b_o) (C := RX1) (T := TX1) (N := 5) hx hb hts (by decide +kernel) hown hK hP hM_o rfl 0 (by decide) (hts (.fieldLink RX1 11 "ShadowBench$EvenJob" "board" "LShadowBench$Board;") (by decide +kernel)) (fun _ h9 => u_same (hts (.sameField "ShadowBench$EvenJob" "ShadowBench$Job" "board" "LShadowBench$Board;") (by decide +kernel)) _ h9) rfl dX1_asItIs_6 ?_
  refine t_callv (va_runI (g := F0 m 9 ls ([.ref b_o, .ref q1, .ref q1, .ref o])) (As := [.ref b_o]) (rest := [.ref q1, .ref o]) (b := q1) ⟨hx, hb, hml, hown, hts⟩ (c_X1_init l D cy A G w1 q1 b_o hD hT hO_q1 hM_q1 hG_b_o (by unfold cKc; omega)) (cwI 1 hts gX1_asItIs_X1_init rfl rfl rfl (hts (.initialized RX1) (by decide +kernel)) (hts (.methodLink RX1 36 yX1_init) (by decide +kernel)) (hts (.instanceMethod yX1_init) (by decide +kernel)) rfl (by decide +kernel) ⟨Nat.le_of_ble_eq_true rfl, Nat.le_of_ble_eq_true rfl⟩) (c_preS hP hK hA hS hV) rfl rfl hl.1 rfl (lv_room (Nat.le_of_ble_eq_true rfl)) dX1_asItIs_9 ⟨Nat.le_of_ble_eq_true rfl, Nat.le_of_ble_eq_true rfl⟩) hS (fun u H locs q9 hP9 hD9 hT9 hS => ?_)
  obtain ⟨G9, w9⟩ := u
  obtain ⟨hX9, q9⟩ := q9
  have hX9 : cX (some q1) (chs []) G w1 G9 w9 := hX9
  have hP : va_P D vwCl w9 H := hP9
  have hD : va_D A w9 := hD9
  have hT : cT cy G9 w9 := hT9
  have hM_o := hX9.2.1 _ _ (cP.no1 (Ne.symm (cne0 hO_q1 hG_o)) hG_o rfl) hM_o
  have hG_o := hX9.1 _ _ hG_o
  have hG_b_o := hX9.1 _ _ hG_b_o
  have hG_s_o := hX9.1 _ _ hG_s_o
  obtain ⟨hO_q1, a9, hG_a9, hM_q1⟩ := q9
  have hM_q1 : cIn w9 q1 (.inr (1, [.ref b_o, .ref a9, .int 3, .long 0, .long 0])) := hM_q1
  have hX := hX.trN hN_q1 (hX9.wk (chs_sub (by decide)))
  obtain ⟨Gk9, hGk⟩ : ∃ z, z = va_up G9 q1 (some (3, 1, 8 * w_o + h_o)) := ⟨_, rfl⟩
  have hE9 : cE G9 Gk9 := by rw [hGk]; exact cE.add hO_q1
  have hG_q1 : Gk9 q1 = some (3, 1, 8 * w_o + h_o) := by rw [hGk]; simp [va_up]
  have hG_o := hE9 _ _ hG_o
  have hG_b_o := hE9 _ _ hG_b_o
  have hG_s_o := hE9 _ _ hG_s_o
  have hG_a9 := hE9 _ _ hG_a9
  have hT : cT cy Gk9 w9 := by rw [hGk]; exact hT.kind hO_q1 hM_q1 (by rw [← hGk]; exact ⟨_, _, _, _, _, _, _, _, rfl, hG_b_o, hG_a9, ⟨rfl, Or.inl ⟨rfl, rfl⟩⟩⟩)
  have hX := hX.trN hN_q1 (show cX (some q1) (chs [3, 14]) G9 w9 Gk9 w9 by rw [hGk]; exact cX.kind hO_q1)
  refine t_calla (va_runU (g := F0 m 12 ls ([.ref q1, .ref o])) (As := [.ref q1]) (rest := []) ⟨hx, hb, hml, hown, hts⟩ (c_X3_alike l D cy A Gk9 w9 o q1 hD hT hG_o hG_q1 ) (va_cwU 1 hts gX1_asItIs_X3_alike_u37X1 rfl rfl rfl rfl (by decide +kernel) ⟨Nat.le_of_ble_eq_true rfl, Nat.le_of_ble_eq_true rfl⟩) (c_preV hM_o rfl hP hK hA hS hV) rfl rfl hl.1 rfl (lv_room (Nat.le_of_ble_eq_true rfl)) dX1_asItIs_12 ⟨Nat.le_of_ble_eq_true rfl, Nat.le_of_ble_eq_true rfl⟩) hS (fun r12 u H locs q12 hP9 hD9 hT9 hS => ?_)
  obtain ⟨G12, w12⟩ := u
  obtain ⟨hX9, q12⟩ := q12
  have hX9 : cX none (chs [3, 14]) Gk9 w9 G12 w12 := hX9
  have hP : va_P D vwCl w12 H := hP9
  have hD : va_D A w12 := hD9
  have hT : cT cy G12 w12 := hT9
  have hG_o := hX9.1 _ _ hG_o
  have hG_b_o := hX9.1 _ _ hG_b_o
  have hG_s_o := hX9.1 _ _ hG_s_o
  have hG_a9 := hX9.1 _ _ hG_a9
  have hG_q1 := hX9.1 _ _ hG_q1
  have hX := hX.tr hX9
  subst q12
  refine W.widen (k := 2) (n := 49) (Nat.le_of_ble_eq_true rfl) (Nat.le_of_ble_eq_true rfl) ?_
  exact W.aret (v := .ref q1) hx hb hr (Or.inl ⟨_, rfl⟩) (Or.inr ⟨_, rfl⟩) (fun t ht hW => ⟨⟨(some q1), (G12, w12), rfl, ⟨hX, ⟨_, _, _, rfl, hG_q1⟩⟩, by show va_P D vwCl w12 t.heap; rw [ht]; exact hP, hD, hT⟩, hS.F ht⟩) hS.2.2 dX1_asItIs_15
set_option maxHeartbeats 4000000 in
set_option maxRecDepth 100000 in
theorem c_X5_asItIs (l : Launch) (D : va_G) (cy : Nat → ClassId) (A : Nat → Prop) (G : cG) (ws : va_W) (o : Nat) {nq : Nat} (hD : va_D A ws) (hT : cT cy G ws) (hG_o : G o = some (3, 4, nq))  : Ca l D cy A yX5_asItIs wsX5_asItIs ({ frames := 4, cells := 3, slots := 86, locals := 89 }) 3 86 ws [.ref o] (fun r0 u => cX none (chs [3, 14]) G ws u.1 u.2 ∧ (∃ x k n, r0 = some x ∧ u.1 x = some (3, k, n))) := by
  refine Met.ofW (cc := cX5_asItIs) (maxL := 2) (ret := (some (.object "ShadowBench$Job"))) (by decide) rfl ?_
  intro p e s m args below meth c s₁ B hml hv
  obtain ⟨rfl, hP, hK, hA, hV⟩ := hv
  have hx := B.exec
  have hb := B.bytes
  have hr := B.returns
  have hts := atoms_spec (ws := wsX5_asItIs) B.pre
  have hown : s.vm.findClass RX5 = some m.cls := findClass_of_methodNamed B.named
  have hlocks := B.notSynchronized
  have hS : va_S A s.heap s.heap [] := va_S.rf
  have hX : cX none (chs [3, 14]) G ws G ws := cX.rf
  have hl := lv_entry ([.ref o]) (n := 2) (Nat.le_of_ble_eq_true rfl)
  rw [lg_entry_eq]
  generalize (lg_sl ([.ref o]) ++ List.replicate (2 - (lg_sl ([.ref o])).length) Slot.unset).toArray = ls at hl ⊢
  have hl : lv_has ls 2 [(0, .ref o)] := hl
  have k_0 : (0 : Int32).toInt = 0 := by decide
  refine t_new (C := RX5) (T := TX5) (N := 6) (ci := 4) (ty0 := tyX5) (fs := [.null, .null, .int 0, .long 0, .long 0, .null]) hx hb hts (by decide +kernel) tyX5_ok hown (hts (.classLink RX5 14 RX5) (by decide +kernel)) (hts (.instantiable RX5 6) (by decide +kernel)) (hts (.initialized RX5) (by decide +kernel)) hK hP hD hS hA hT rfl (by decide +kernel) (Nat.le_of_ble_eq_true rfl) (Nat.le_of_ble_eq_true rfl) dX5_asItIs_0 (fun q0 H w0 hM_q0 hO_q0 hF0 hX0 hk0 hP hD hT hS => ?_)
  have hN_q0 := hX.new0 hO_q0 hF0
  have hX := hX.tr (hX0 _ _)
  refine lv_dup hx hb dX5_asItIs_3 rfl ?_
  refine lv_aload_n hx hb dX5_asItIs_4 rfl (lv_at hl 0 rfl) ?_
  obtain ⟨_, hM_o, b_o, s_o, w_o, h_o, t_o, x_o, y_o, ms_o, rfl, hG_b_o, hG_s_o, hJ_o⟩ := hT _ _ hG_o
  obtain ⟨hn_o, c_o, rfl, hG_c_o⟩ := cJ4 hJ_o
  have hn36_o := cb_mul (c_hb hT hG_b_o)
  refine t_get (v := .ref b_o) (C := RX5) (T := TX5) (N := 6) hx hb hts (by decide +kernel) hown hK hP hM_o rfl 0 (by decide) (hts (.fieldLink RX5 36 "ShadowBench$MarkedJob" "board" "LShadowBench$Board;") (by decide +kernel)) (fun _ h9 => u_same (hts (.sameField "ShadowBench$MarkedJob" "ShadowBench$Job" "board" "LShadowBench$Board;") (by decide +kernel)) _ h9) rfl dX5_asItIs_5 ?_
  refine t_callv (va_runI (g := F0 m 8 ls ([.ref b_o, .ref q0, .ref q0])) (As := [.ref b_o]) (rest := [.ref q0]) (b := q0) ⟨hx, hb, hml, hown, hts⟩ (c_X5_init l D cy A G w0 q0 b_o hD hT hO_q0 hM_q0 hG_b_o ) (cwI 1 hts gX5_asItIs_X5_init rfl rfl rfl (hts (.initialized RX5) (by decide +kernel)) (hts (.methodLink RX5 40 yX5_init) (by decide +kernel)) (hts (.instanceMethod yX5_init) (by decide +kernel)) rfl (by decide +kernel) ⟨Nat.le_of_ble_eq_true rfl, Nat.le_of_ble_eq_true rfl⟩) (c_preS hP hK hA hS hV) rfl rfl hl.1 rfl (lv_room (Nat.le_of_ble_eq_true rfl)) dX5_asItIs_8 ⟨Nat.le_of_ble_eq_true rfl, Nat.le_of_ble_eq_true rfl⟩) hS (fun u H locs q8 hP9 hD9 hT9 hS => ?_)
  obtain ⟨G8, w8⟩ := u
  obtain ⟨hX9, q8⟩ := q8
  have hX9 : cX (some q0) (chs []) G w0 G8 w8 := hX9
  have hP : va_P D vwCl w8 H := hP9
  have hD : va_D A w8 := hD9
  have hT : cT cy G8 w8 := hT9
  have hM_o := hX9.2.1 _ _ (cP.no1 (Ne.symm (cne0 hO_q0 hG_o)) hG_o rfl) hM_o
  have hG_o := hX9.1 _ _ hG_o
  have hG_b_o := hX9.1 _ _ hG_b_o
  have hG_s_o := hX9.1 _ _ hG_s_o
  have hG_c_o := hX9.1 _ _ hG_c_o
  obtain ⟨hO_q0, a8, hG_a8, c8, hG_c8, hM_q0⟩ := q8
  have hM_q0 : cIn w8 q0 (.inr (4, [.ref b_o, .ref a8, .int 3, .long 0, .long 0, .ref c8])) := hM_q0
  have hX := hX.trN hN_q0 (hX9.wk (chs_sub (by decide)))
  have hb9 := cb_mul (c_hb hT hG_b_o)
  obtain ⟨Gk8, hGk⟩ : ∃ z, z = va_up G8 q0 (some (3, 4, 8 * w_o + h_o)) := ⟨_, rfl⟩
  have hE9 : cE G8 Gk8 := by rw [hGk]; exact cE.add hO_q0
  have hG_q0 : Gk8 q0 = some (3, 4, 8 * w_o + h_o) := by rw [hGk]; simp [va_up]
  have hG_o := hE9 _ _ hG_o
  have hG_b_o := hE9 _ _ hG_b_o
  have hG_s_o := hE9 _ _ hG_s_o
  have hG_c_o := hE9 _ _ hG_c_o
  have hG_a8 := hE9 _ _ hG_a8
  have hG_c8 := hE9 _ _ hG_c8
  have hT : cT cy Gk8 w8 := by rw [hGk]; exact hT.kind hO_q0 hM_q0 (by rw [← hGk]; exact ⟨_, _, _, _, _, _, _, _, rfl, hG_b_o, hG_a8, ⟨rfl, Or.inr (Or.inr (Or.inr ⟨rfl, _, rfl, hG_c8⟩))⟩⟩)
  have hX := hX.trN hN_q0 (show cX (some q0) (chs [3, 14]) G8 w8 Gk8 w8 by rw [hGk]; exact cX.kind hO_q0)
  refine lv_astore_n (lv' := [(1, .ref q0), (0, .ref o)]) hx hb dX5_asItIs_11 rfl hl (by decide) rfl (fun ls hl => ?_)
  refine lv_aload_n hx hb dX5_asItIs_12 rfl (lv_at hl 1 rfl) ?_
  refine t_get (v := .ref c_o) (C := RX5) (T := TX5) (N := 6) hx hb hts (by decide +kernel) hown hK hP hM_o rfl 5 (by decide) (hts (.fieldLink RX5 13 "ShadowBench$MarkedJob" "marks" "[I") (by decide +kernel)) (fun _ h9 => h9) rfl dX5_asItIs_13 ?_
  refine lv_iconst (v := 0) hx hb dX5_asItIs_16 (by decide) ?_
  refine lv_aload_n hx hb dX5_asItIs_17 rfl (lv_at hl 0 rfl) ?_
  obtain ⟨_, hM_q0, b_q0, s_q0, w_q0, h_q0, t_q0, x_q0, y_q0, ms_q0, rfl, hG_b_q0, hG_s_q0, hJ_q0⟩ := hT _ _ hG_q0
  obtain ⟨hn_q0, c_q0, rfl, hG_c_q0⟩ := cJ4 hJ_q0
  have hn36_q0 := cb_mul (c_hb hT hG_b_q0)
  refine t_get (v := .ref c_q0) (C := RX5) (T := TX5) (N := 6) hx hb hts (by decide +kernel) hown hK hP hM_q0 rfl 5 (by decide) (hts (.fieldLink RX5 13 "ShadowBench$MarkedJob" "marks" "[I") (by decide +kernel)) (fun _ h9 => h9) rfl dX5_asItIs_18 ?_
  refine lv_iconst (v := 0) hx hb dX5_asItIs_21 (by decide) ?_
  refine lv_aload_n hx hb dX5_asItIs_22 rfl (lv_at hl 1 rfl) ?_
  refine t_get (v := .ref c_o) (C := RX5) (T := TX5) (N := 6) hx hb hts (by decide +kernel) hown hK hP hM_o rfl 5 (by decide) (hts (.fieldLink RX5 13 "ShadowBench$MarkedJob" "marks" "[I") (by decide +kernel)) (fun _ h9 => h9) rfl dX5_asItIs_23 ?_
  refine t_alenI hx hb hK hP hT (Or.inr (Or.inl rfl)) hG_c_o dX5_asItIs_26 ?_
  have i26 : (nI (w_o * h_o)).toInt = _ := nI_toInt (by omega)
  have hb7 := c_hb hT hG_b_o
  have hb8 := c_hb hT hG_b_q0
  have ew8 : w_q0 = w_o := by omega
  have eh8 : h_q0 = h_o := by omega
  have ep8 : w_q0 * h_q0 = w_o * h_o := by rw [ew8, eh8]
  refine t_copyi hx hb (by rw [hml]; exact hl.1.symm) hown (hts (.methodLink RX5 41 arraycopyName) (by decide +kernel)) (hts (.native arraycopyName) (by decide +kernel)) (hts (.static arraycopyName) (by decide +kernel)) (hts (.initialized "java/lang/System") (by decide +kernel)) hK hP hD hS hT (Or.inr (Or.inl rfl)) (Or.inr (Or.inl rfl)) hG_c_o hG_c_q0 (by omega) (by omega) (by omega) (by omega) (by omega) (Nat.le_of_ble_eq_true rfl) (Nat.le_of_ble_eq_true rfl) dX5_asItIs_27 (fun H locs w27 hU27 hP hD hT hS => ?_)
  have hM_o := hU27 _ _ (cne hG_o hG_c_q0 (show (3 : Nat) ≠ 14 by decide)) hM_o
  have hM_q0 := hU27 _ _ (cne hG_q0 hG_c_q0 (show (3 : Nat) ≠ 14 by decide)) hM_q0
  have hX := hX.tr (cX.uF hU27 (Or.inr ⟨_, hG_c_q0, rfl⟩))
  refine lv_aload_n hx hb dX5_asItIs_30 rfl (lv_at hl 1 rfl) ?_
  refine lv_aload_n hx hb dX5_asItIs_31 rfl (lv_at hl 0 rfl) ?_
  refine t_calla (va_runU (g := F0 m 32 ls ([.ref q0, .ref o])) (As := [.ref q0]) (rest := []) ⟨hx, hb, hml, hown, hts⟩ (c_X3_alike l D cy A Gk8 w27 o q0 hD hT hG_o hG_q0 ) (va_cwU 1 hts gX5_asItIs_X3_alike_u47X5 rfl rfl rfl rfl (by decide +kernel) ⟨Nat.le_of_ble_eq_true rfl, Nat.le_of_ble_eq_true rfl⟩) (c_preV hM_o rfl hP hK hA hS hV) rfl rfl hl.1 rfl (lv_room (Nat.le_of_ble_eq_true rfl)) dX5_asItIs_32 ⟨Nat.le_of_ble_eq_true rfl, Nat.le_of_ble_eq_true rfl⟩) hS (fun r32 u H locs q32 hP9 hD9 hT9 hS => ?_)
  obtain ⟨G32, w32⟩ := u
  obtain ⟨hX9, q32⟩ := q32
  have hX9 : cX none (chs [3, 14]) Gk8 w27 G32 w32 := hX9
  have hP : va_P D vwCl w32 H := hP9
  have hD : va_D A w32 := hD9
  have hT : cT cy G32 w32 := hT9
  have hG_o := hX9.1 _ _ hG_o
  have hG_b_o := hX9.1 _ _ hG_b_o
  have hG_s_o := hX9.1 _ _ hG_s_o
  have hG_c_o := hX9.1 _ _ hG_c_o
  have hG_a8 := hX9.1 _ _ hG_a8
  have hG_c8 := hX9.1 _ _ hG_c8
  have hG_q0 := hX9.1 _ _ hG_q0
  have hG_b_q0 := hX9.1 _ _ hG_b_q0
  have hG_s_q0 := hX9.1 _ _ hG_s_q0
  have hG_c_q0 := hX9.1 _ _ hG_c_q0
  have hX := hX.tr hX9
  subst q32
  refine W.widen (k := 3) (n := 86) (Nat.le_of_ble_eq_true rfl) (Nat.le_of_ble_eq_true rfl) ?_
  exact W.aret (v := .ref q0) hx hb hr (Or.inl ⟨_, rfl⟩) (Or.inr ⟨_, rfl⟩) (fun t ht hW => ⟨⟨(some q0), (G32, w32), rfl, ⟨hX, ⟨_, _, _, rfl, hG_q0⟩⟩, by show va_P D vwCl w32 t.heap; rw [ht]; exact hP, hD, hT⟩, hS.F ht⟩) hS.2.2 dX5_asItIs_35
set_option maxHeartbeats 4000000 in
set_option maxRecDepth 100000 in
theorem c_X7_init (l : Launch) (D : va_G) (cy : Nat → ClassId) (A : Nat → Prop) (G : cG) (ws : va_W) (o : Nat) (z : Int32) (n : Nat)  (hD : va_D A ws) (hT : cT cy G ws) (hO_o : G o = none) (hM_o : cIn ws o (.inr (6, [.int 0, .null]))) (hz_z : isBo z) (hn1 : n ≤ 60) : Cv l D cy A yX7_init wsX7_init ({ frames := 2, cells := 1, slots := 60, locals := 40 }) 1 60 ws [.ref o, .int z, .int (nI n)] (fun u => cX (some o) (chs []) G ws u.1 u.2 ∧ u.1 o = some (4, n, 0) ∧ (True)) := by
  refine Met.ofW (cc := cX7_init) (maxL := 3) (ret := none) (by decide) rfl ?_
  intro p e s m args below meth c s₁ B hml hv
  obtain ⟨rfl, hP, hK, hA, hV⟩ := hv
  have hx := B.exec
  have hb := B.bytes
  have hr := B.returns
  have hts := atoms_spec (ws := wsX7_init) B.pre
  have hown : s.vm.findClass RX7 = some m.cls := findClass_of_methodNamed B.named
  have hlocks := B.notSynchronized
  have hS : va_S A s.heap s.heap [] := va_S.rf
  have hin2 : meth.name = "<init>" := (name_of_methodNamed B.named B.method).1
  have hX : cX (some o) (chs []) G ws G ws := cX.rf
  have hM0_o := hM_o
  have hl := lv_entry ([.ref o, .int z, .int (nI n)]) (n := 3) (Nat.le_of_ble_eq_true rfl)
  rw [lg_entry_eq]
  generalize (lg_sl ([.ref o, .int z, .int (nI n)]) ++ List.replicate (3 - (lg_sl ([.ref o, .int z, .int (nI n)])).length) Slot.unset).toArray = ls at hl ⊢
  have hl : lv_has ls 3 [(0, .ref o), (1, .int z), (2, .int (nI n))] := hl
  have k_0 : (0 : Int32).toInt = 0 := by decide
  have ik_n : (nI n).toInt = (n : Int) := nI_toInt (by omega)
  refine lv_aload_n hx hb dX7_init_0 rfl (lv_at hl 0 rfl) ?_
  refine t_callv (va_runIN (g := F0 m 1 ls ([.ref o])) (As := []) (rest := []) (b := o) ⟨hx, hb, hml, hown, hts⟩ (c_X2_init l D cy A G ws o hD hT ) ⟨va_cnB 0 hts gX7_init_X2_init_n1 rfl rfl rfl hV.1.2.2.2 (hts (.initialized RX2) (by decide +kernel)) (by decide +kernel) ⟨Nat.le_of_ble_eq_true rfl, Nat.le_of_ble_eq_true rfl⟩, rfl, hts (.instanceMethod yX2_init) (by decide +kernel)⟩ (c_preS hP hK hA hS hV) rfl rfl hl.1 rfl (lv_room (Nat.le_of_ble_eq_true rfl)) dX7_init_1 ⟨Nat.le_of_ble_eq_true rfl, Nat.le_of_ble_eq_true rfl⟩) hS (fun u H locs q1 hP9 hD9 hT9 hS => ?_)
  obtain ⟨rfl, q1⟩ := q1
  have hP : va_P D vwCl ws H := hP9
  refine lv_aload_n hx hb dX7_init_4 rfl (lv_at hl 0 rfl) ?_
  refine lv_iload_n hx hb dX7_init_5 rfl (lv_at hl 1 rfl) ?_
  refine t_putF (v := .int z) (C := RX7) (T := TX7) (N := 2) (ty0 := tyX7) hx hb hts (by decide +kernel) tyX7_ok nmX7 hown hK hP hD hS hM_o rfl 0 (by decide) (hts (.fieldLink RX7 7 "ShadowBench$Row" "ofBytes" "Z") (by decide +kernel)) (fun _ h9 => h9) rfl hin2 rfl (isBo_z hz_z) (isBo_f hz_z) (Nat.le_of_ble_eq_true rfl) dX7_init_6 (fun H locs w6 hU6 hP hD hS => ?_)
  have hT := hT.up0 hU6 hO_o
  have hM_o : cIn w6 o (.inr (6, [.int z, .null])) := hU6.1
  have hX := hX.tr (cX.up hU6 (Or.inl rfl))
  refine lv_aload_n hx hb dX7_init_9 rfl (lv_at hl 0 rfl) ?_
  refine lv_iload_n hx hb dX7_init_10 rfl (lv_at hl 2 rfl) ?_
  refine lv_if_le (tgt := 18) hx hb dX7_init_11 (by decide) (fun c11 => ?_) (fun c11 => ?_)
  · skip
    have d11 := c11
    rw [fa_le] at d11
    have hn0 : n = 0 := by omega
    refine lv_iconst (v := 0) hx hb dX7_init_18 (by decide) ?_
    refine t_newl hx hb (hts (.arrayClass .long) (by decide +kernel)) hK hP hD hS hA hT (kd9 := 16) (Or.inr (Or.inl rfl)) 0 (N := 0) (by decide) rfl (by omega) (by decide) (Nat.le_of_ble_eq_true rfl) (Nat.le_of_ble_eq_true rfl) dX7_init_19 (fun q19 H w19 G19 hG_q19 hz19 hF19 hX19 hk19 hg19 hP hD hT hS => ?_)
    have hN_q19 := hX.new1 hM_o hz19 hF19
    have hO_o := (hg19 o (fun z => hF19 _ (z ▸ hM_o))).trans hO_o
    have hM_o := hk19 _ _ hM_o
    have hX := hX.tr (hX19 _ _)
    refine t_putF (v := .ref q19) (C := RX7) (T := TX7) (N := 2) (ty0 := tyX7) hx hb hts (by decide +kernel) tyX7_ok nmX7 hown hK hP hD hS hM_o rfl 1 (by decide) (hts (.fieldLink RX7 13 "ShadowBench$Row" "numbers" "[J") (by decide +kernel)) (fun _ h9 => h9) rfl hin2 rfl rfl rfl (Nat.le_of_ble_eq_true rfl) dX7_init_21 (fun H locs w21 hU21 hP hD hS => ?_)
    have hT := hT.up0 hU21 hO_o
    have hM_o : cIn w21 o (.inr (6, [.int z, .ref q19])) := hU21.1
    have hX := hX.tr (cX.up hU21 (Or.inl rfl))
    obtain ⟨Gk24, hGk⟩ : ∃ z, z = va_up G19 o (some (4, n, 0)) := ⟨_, rfl⟩
    have hE9 : cE G19 Gk24 := by rw [hGk]; exact cE.add hO_o
    have hG_o : Gk24 o = some (4, n, 0) := by rw [hGk]; simp [va_up]
    have hG_q19 := hE9 _ _ hG_q19
    have hT : cT cy Gk24 w21 := by rw [hGk]; exact hT.kind hO_o hM_o (by rw [← hGk]; exact ⟨hn1, _, _, rfl, hz_z, (by first | exact hG_q19 | (rw [hn0]; exact hG_q19))⟩)
    have hX := hX.tr (show cX (some o) (chs []) G19 w21 Gk24 w21 by rw [hGk]; exact cX.kind hO_o)
    refine W.widen (k := 1) (n := 60) (Nat.le_of_ble_eq_true rfl) (Nat.le_of_ble_eq_true rfl) ?_
    exact W.vret hx hb hr (fun t ht hW => ⟨⟨(Gk24, w21), rfl, ⟨hX, hG_o, trivial⟩, by show va_P D vwCl w21 t.heap; rw [ht]; exact hP, hD, hT⟩, hS.F ht⟩) hS.2.2 dX7_init_24
  · skip
    have d11 := c11
    rw [fa_le] at d11
    refine lv_iload_n hx hb dX7_init_14 rfl (lv_at hl 2 rfl) ?_
    refine lv_goto (tgt := 19) hx hb dX7_init_15 (by decide) ?_
    refine t_newl hx hb (hts (.arrayClass .long) (by decide +kernel)) hK hP hD hS hA hT (kd9 := 16) (Or.inr (Or.inl rfl)) 60 (N := n) (by rw [fa_lt]; omega) (nI_clamp (by omega)) (by omega) (by decide) (Nat.le_of_ble_eq_true rfl) (Nat.le_of_ble_eq_true rfl) dX7_init_19 (fun q19 H w19 G19 hG_q19 hz19 hF19 hX19 hk19 hg19 hP hD hT hS => ?_)
    have hN_q19 := hX.new1 hM_o hz19 hF19
    have hO_o := (hg19 o (fun z => hF19 _ (z ▸ hM_o))).trans hO_o
    have hM_o := hk19 _ _ hM_o
    have hX := hX.tr (hX19 _ _)
    refine t_putF (v := .ref q19) (C := RX7) (T := TX7) (N := 2) (ty0 := tyX7) hx hb hts (by decide +kernel) tyX7_ok nmX7 hown hK hP hD hS hM_o rfl 1 (by decide) (hts (.fieldLink RX7 13 "ShadowBench$Row" "numbers" "[J") (by decide +kernel)) (fun _ h9 => h9) rfl hin2 rfl rfl rfl (Nat.le_of_ble_eq_true rfl) dX7_init_21 (fun H locs w21 hU21 hP hD hS => ?_)
    have hT := hT.up0 hU21 hO_o
    have hM_o : cIn w21 o (.inr (6, [.int z, .ref q19])) := hU21.1
    have hX := hX.tr (cX.up hU21 (Or.inl rfl))
    obtain ⟨Gk24, hGk⟩ : ∃ z, z = va_up G19 o (some (4, n, 0)) := ⟨_, rfl⟩
    have hE9 : cE G19 Gk24 := by rw [hGk]; exact cE.add hO_o
    have hG_o : Gk24 o = some (4, n, 0) := by rw [hGk]; simp [va_up]
    have hG_q19 := hE9 _ _ hG_q19
    have hT : cT cy Gk24 w21 := by rw [hGk]; exact hT.kind hO_o hM_o (by rw [← hGk]; exact ⟨hn1, _, _, rfl, hz_z, (by first | exact hG_q19 | (rw [hn0]; exact hG_q19))⟩)
    have hX := hX.tr (show cX (some o) (chs []) G19 w21 Gk24 w21 by rw [hGk]; exact cX.kind hO_o)
    refine W.widen (k := 1) (n := 60) (Nat.le_of_ble_eq_true rfl) (Nat.le_of_ble_eq_true rfl) ?_
    exact W.vret hx hb hr (fun t ht hW => ⟨⟨(Gk24, w21), rfl, ⟨hX, hG_o, trivial⟩, by show va_P D vwCl w21 t.heap; rw [ht]; exact hP, hD, hT⟩, hS.F ht⟩) hS.2.2 dX7_init_24
set_option maxHeartbeats 4000000 in
set_option maxRecDepth 100000 in
theorem c_X7_size (l : Launch) (D : va_G) (cy : Nat → ClassId) (A : Nat → Prop) (G : cG) (ws : va_W) (o : Nat) {n z : Nat} (hD : va_D A ws) (hT : cT cy G ws) (hG_o : G o = some (4, n, z))  : Ci l D cy A yX7_size wsX7_size ({ frames := 0, cells := 0, slots := 0, locals := 0 }) 0 0 ws [.ref o] (fun r0 u => u = (G, ws) ∧ (r0 = nI n)) := by
  refine Met.ofW (cc := cX7_size) (maxL := 1) (ret := (some .int)) (by decide) rfl ?_
  intro p e s m args below meth c s₁ B hml hv
  obtain ⟨rfl, hP, hK, hA, hV⟩ := hv
  have hx := B.exec
  have hb := B.bytes
  have hr := B.returns
  have hts := atoms_spec (ws := wsX7_size) B.pre
  have hown : s.vm.findClass RX7 = some m.cls := findClass_of_methodNamed B.named
  have hlocks := B.notSynchronized
  have hS : va_S A s.heap s.heap [] := va_S.rf
  have hl := lv_entry ([.ref o]) (n := 1) (Nat.le_of_ble_eq_true rfl)
  rw [lg_entry_eq]
  generalize (lg_sl ([.ref o]) ++ List.replicate (1 - (lg_sl ([.ref o])).length) Slot.unset).toArray = ls at hl ⊢
  have hl : lv_has ls 1 [(0, .ref o)] := hl
  have k_0 : (0 : Int32).toInt = 0 := by decide
  refine lv_aload_n hx hb dX7_size_0 rfl (lv_at hl 0 rfl) ?_
  obtain ⟨_, hM_o, hn_o, z_o, a_o, rfl, hz_o, hG_a_o⟩ := hT _ _ hG_o
  refine t_get (v := .ref a_o) (C := RX7) (T := TX7) (N := 2) hx hb hts (by decide +kernel) hown hK hP hM_o rfl 1 (by decide) (hts (.fieldLink RX7 13 "ShadowBench$Row" "numbers" "[J") (by decide +kernel)) (fun _ h9 => h9) rfl dX7_size_1 ?_
  refine t_alenL hx hb hK hP hT (Or.inr (Or.inl rfl)) hG_a_o dX7_size_4 ?_
  have i4 : (nI n).toInt = _ := nI_toInt (by omega)
  exact W.iret (v := (nI n)) hx hb hr (fun t ht hW => ⟨⟨_, (G, ws), rfl, ⟨rfl, rfl⟩, by show va_P D vwCl ws t.heap; rw [ht]; exact hP, hD, hT⟩, hS.F ht⟩) hS.2.2 dX7_size_5
set_option maxHeartbeats 4000000 in
set_option maxRecDepth 100000 in
theorem c_X7_has (l : Launch) (D : va_G) (cy : Nat → ClassId) (A : Nat → Prop) (G : cG) (ws : va_W) (o : Nat) (i : Int32) (m0 : Int32) {n z : Nat} (hD : va_D A ws) (hT : cT cy G ws) (hG_o : G o = some (4, n, z))  : Ci l D cy A yX7_has wsX7_has ({ frames := 0, cells := 0, slots := 0, locals := 0 }) 0 0 ws [.ref o, .int i, .int m0] (fun r0 u => u = (G, ws) ∧ (Bo r0 ((0 ≤ i.toInt ∧ 0 ≤ m0.toInt) ∧ i.toInt + m0.toInt ≤ (n : Int)))) := by
  refine Met.ofW (cc := cX7_has) (maxL := 3) (ret := (some .boolean)) (by decide) rfl ?_
  intro p e s m args below meth c s₁ B hml hv
  obtain ⟨rfl, hP, hK, hA, hV⟩ := hv
  have hx := B.exec
  have hb := B.bytes
  have hr := B.returns
  have hts := atoms_spec (ws := wsX7_has) B.pre
  have hown : s.vm.findClass RX7 = some m.cls := findClass_of_methodNamed B.named
  have hlocks := B.notSynchronized
  have hS : va_S A s.heap s.heap [] := va_S.rf
  have hl := lv_entry ([.ref o, .int i, .int m0]) (n := 3) (Nat.le_of_ble_eq_true rfl)
  rw [lg_entry_eq]
  generalize (lg_sl ([.ref o, .int i, .int m0]) ++ List.replicate (3 - (lg_sl ([.ref o, .int i, .int m0])).length) Slot.unset).toArray = ls at hl ⊢
  have hl : lv_has ls 3 [(0, .ref o), (1, .int i), (2, .int m0)] := hl
  have k_0 : (0 : Int32).toInt = 0 := by decide
  have k_1 : (1 : Int32).toInt = 1 := by decide
  refine lv_iload_n hx hb dX7_has_0 rfl (lv_at hl 1 rfl) ?_
  refine lv_if_lt (tgt := 32) hx hb dX7_has_1 (by decide) (fun c1 => ?_) (fun c1 => ?_)
  · skip
    have d1 := c1
    rw [fa_lt] at d1
    refine lv_iconst (v := 0) hx hb dX7_has_32 (by decide) ?_
    exact W.zret (v := (0 : Int32)) hx hb hr (by decide) (fun t ht hW => ⟨⟨_, (G, ws), rfl, ⟨rfl, Or.inr ⟨rfl, by omega⟩⟩, by show va_P D vwCl ws t.heap; rw [ht]; exact hP, hD, hT⟩, hS.F ht⟩) hS.2.2 dX7_has_33
  · skip
    have d1 := c1
    rw [fa_lt] at d1
    refine lv_iload_n hx hb dX7_has_4 rfl (lv_at hl 2 rfl) ?_
    refine lv_if_lt (tgt := 32) hx hb dX7_has_5 (by decide) (fun c5 => ?_) (fun c5 => ?_)
    · skip
      have d5 := c5
      rw [fa_lt] at d5
      refine lv_iconst (v := 0) hx hb dX7_has_32 (by decide) ?_
      exact W.zret (v := (0 : Int32)) hx hb hr (by decide) (fun t ht hW => ⟨⟨_, (G, ws), rfl, ⟨rfl, Or.inr ⟨rfl, by omega⟩⟩, by show va_P D vwCl ws t.heap; rw [ht]; exact hP, hD, hT⟩, hS.F ht⟩) hS.2.2 dX7_has_33
    · skip
      have d5 := c5
      rw [fa_lt] at d5
      refine lv_iload_n hx hb dX7_has_8 rfl (lv_at hl 1 rfl) ?_
      refine lv_aload_n hx hb dX7_has_9 rfl (lv_at hl 0 rfl) ?_
      obtain ⟨_, hM_o, hn_o, z_o, a_o, rfl, hz_o, hG_a_o⟩ := hT _ _ hG_o
      refine t_get (v := .ref a_o) (C := RX7) (T := TX7) (N := 2) hx hb hts (by decide +kernel) hown hK hP hM_o rfl 1 (by decide) (hts (.fieldLink RX7 13 "ShadowBench$Row" "numbers" "[J") (by decide +kernel)) (fun _ h9 => h9) rfl dX7_has_10 ?_
      refine t_alenL hx hb hK hP hT (Or.inr (Or.inl rfl)) hG_a_o dX7_has_13 ?_
      have i13 : (nI n).toInt = _ := nI_toInt (by omega)
      refine lv_icmp_gt (tgt := 32) hx hb dX7_has_14 (by decide) (fun c14 => ?_) (fun c14 => ?_)
      · skip
        have d14 := c14
        rw [fa_lt] at d14
        refine lv_iconst (v := 0) hx hb dX7_has_32 (by decide) ?_
        exact W.zret (v := (0 : Int32)) hx hb hr (by decide) (fun t ht hW => ⟨⟨_, (G, ws), rfl, ⟨rfl, Or.inr ⟨rfl, by omega⟩⟩, by show va_P D vwCl ws t.heap; rw [ht]; exact hP, hD, hT⟩, hS.F ht⟩) hS.2.2 dX7_has_33
      · skip
        have d14 := c14
        rw [fa_lt] at d14
        refine lv_iload_n hx hb dX7_has_17 rfl (lv_at hl 2 rfl) ?_
        refine lv_aload_n hx hb dX7_has_18 rfl (lv_at hl 0 rfl) ?_
        refine t_get (v := .ref a_o) (C := RX7) (T := TX7) (N := 2) hx hb hts (by decide +kernel) hown hK hP hM_o rfl 1 (by decide) (hts (.fieldLink RX7 13 "ShadowBench$Row" "numbers" "[J") (by decide +kernel)) (fun _ h9 => h9) rfl dX7_has_19 ?_
        refine t_alenL hx hb hK hP hT (Or.inr (Or.inl rfl)) hG_a_o dX7_has_22 ?_
        have i22 : (nI n).toInt = _ := nI_toInt (by omega)
        refine lv_iload_n hx hb dX7_has_23 rfl (lv_at hl 1 rfl) ?_
        refine lv_isub hx hb dX7_has_24 ?_
        refine lv_topi (fun v24 e24 => ?_)
        have i24 : v24.toInt = (nI n).toInt - i.toInt := by rw [e24]; exact fb_subI (by omega) (by omega)
        refine lv_icmp_gt (tgt := 32) hx hb dX7_has_25 (by decide) (fun c25 => ?_) (fun c25 => ?_)
        · skip
          have d25 := c25
          rw [fa_lt] at d25
          refine lv_iconst (v := 0) hx hb dX7_has_32 (by decide) ?_
          exact W.zret (v := (0 : Int32)) hx hb hr (by decide) (fun t ht hW => ⟨⟨_, (G, ws), rfl, ⟨rfl, Or.inr ⟨rfl, by omega⟩⟩, by show va_P D vwCl ws t.heap; rw [ht]; exact hP, hD, hT⟩, hS.F ht⟩) hS.2.2 dX7_has_33
        · skip
          have d25 := c25
          rw [fa_lt] at d25
          refine lv_iconst (v := 1) hx hb dX7_has_28 (by decide) ?_
          refine lv_goto (tgt := 33) hx hb dX7_has_29 (by decide) ?_
          exact W.zret (v := (1 : Int32)) hx hb hr (by decide) (fun t ht hW => ⟨⟨_, (G, ws), rfl, ⟨rfl, Or.inl ⟨rfl, by omega⟩⟩, by show va_P D vwCl ws t.heap; rw [ht]; exact hP, hD, hT⟩, hS.F ht⟩) hS.2.2 dX7_has_33
set_option maxHeartbeats 4000000 in
set_option maxRecDepth 100000 in
theorem c_X7_numberAt (l : Launch) (D : va_G) (cy : Nat → ClassId) (A : Nat → Prop) (G : cG) (ws : va_W) (o : Nat) (i : Int32) {n z : Nat} (hD : va_D A ws) (hT : cT cy G ws) (hG_o : G o = some (4, n, z))  : Cl l D cy A yX7_numberAt wsX7_numberAt ({ frames := 1, cells := 0, slots := 0, locals := 22 }) 0 0 ws [.ref o, .int i] (fun r0 u => u = (G, ws) ∧ (True)) := by
  refine Met.ofW (cc := cX7_numberAt) (maxL := 2) (ret := (some .long)) (by decide) rfl ?_
  intro p e s m args below meth c s₁ B hml hv
  obtain ⟨rfl, hP, hK, hA, hV⟩ := hv
  have hx := B.exec
  have hb := B.bytes
  have hr := B.returns
  have hts := atoms_spec (ws := wsX7_numberAt) B.pre
  have hown : s.vm.findClass RX7 = some m.cls := findClass_of_methodNamed B.named
  have hlocks := B.notSynchronized
  have hS : va_S A s.heap s.heap [] := va_S.rf
  have hl := lv_entry ([.ref o, .int i]) (n := 2) (Nat.le_of_ble_eq_true rfl)
  rw [lg_entry_eq]
  generalize (lg_sl ([.ref o, .int i]) ++ List.replicate (2 - (lg_sl ([.ref o, .int i])).length) Slot.unset).toArray = ls at hl ⊢
  have hl : lv_has ls 2 [(0, .ref o), (1, .int i)] := hl
  have k_0 : (0 : Int32).toInt = 0 := by decide
  have k_1 : (1 : Int32).toInt = 1 := by decide
  have k_0L : (0 : Int64).toInt = 0 := by decide
  refine lv_aload_n hx hb dX7_numberAt_0 rfl (lv_at hl 0 rfl) ?_
  refine lv_iload_n hx hb dX7_numberAt_1 rfl (lv_at hl 1 rfl) ?_
  refine lv_iconst (v := 1) hx hb dX7_numberAt_2 (by decide) ?_
  obtain ⟨_, hM_o, hn_o, z_o, a_o, rfl, hz_o, hG_a_o⟩ := hT _ _ hG_o
  refine t_calli (va_runV (g := F0 m 3 ls ([.int (1 : Int32), .int i, .ref o])) (As := [.int i, .int (1 : Int32)]) (rest := []) ⟨hx, hb, hml, hown, hts⟩ (c_X7_has l D cy A G ws o i (1 : Int32) hD hT hG_o ) (cwV 2 hts gX7_numberAt_X7_has rfl rfl rfl (by decide +kernel) ⟨Nat.le_of_ble_eq_true rfl, Nat.le_of_ble_eq_true rfl⟩) (c_preV hM_o rfl hP hK hA hS hV) rfl rfl hl.1 rfl (lv_room (Nat.le_of_ble_eq_true rfl)) dX7_numberAt_3 ⟨Nat.le_of_ble_eq_true rfl, Nat.le_of_ble_eq_true rfl⟩) hS (fun r3 u H locs q3 hP9 hD9 hT9 hS => ?_)
  obtain ⟨rfl, q3⟩ := q3
  have hP : va_P D vwCl ws H := hP9
  refine lv_if_eq (tgt := 18) hx hb dX7_numberAt_6 (by decide) (fun c6 => ?_) (fun c6 => ?_)
  · skip
    have b6 := bo_f q3 c6
    refine lv_lconst (v := 0) hx hb dX7_numberAt_18 (by decide) ?_
    exact W.lret (v := (0 : Int64)) hx hb hr (fun t ht hW => ⟨⟨_, (G, ws), rfl, ⟨rfl, trivial⟩, by show va_P D vwCl ws t.heap; rw [ht]; exact hP, hD, hT⟩, hS.F ht⟩) hS.2.2 dX7_numberAt_19
  · skip
    have b6 := bo_t q3 c6
    refine lv_aload_n hx hb dX7_numberAt_9 rfl (lv_at hl 0 rfl) ?_
    refine t_get (v := .ref a_o) (C := RX7) (T := TX7) (N := 2) hx hb hts (by decide +kernel) hown hK hP hM_o rfl 1 (by decide) (hts (.fieldLink RX7 13 "ShadowBench$Row" "numbers" "[J") (by decide +kernel)) (fun _ h9 => h9) rfl dX7_numberAt_10 ?_
    refine lv_iload_n hx hb dX7_numberAt_13 rfl (lv_at hl 1 rfl) ?_
    refine t_lald hx hb hK hP hT (Or.inr (Or.inl rfl)) hG_a_o (vp_in_iff.mpr ⟨by omega, by omega⟩) dX7_numberAt_14 (fun v14 => ?_)
    refine lv_goto (tgt := 19) hx hb dX7_numberAt_15 (by decide) ?_
    exact W.lret (v := v14) hx hb hr (fun t ht hW => ⟨⟨_, (G, ws), rfl, ⟨rfl, trivial⟩, by show va_P D vwCl ws t.heap; rw [ht]; exact hP, hD, hT⟩, hS.F ht⟩) hS.2.2 dX7_numberAt_19
set_option maxHeartbeats 4000000 in
set_option maxRecDepth 100000 in
theorem c_X7_put (l : Launch) (D : va_G) (cy : Nat → ClassId) (A : Nat → Prop) (G : cG) (ws : va_W) (o : Nat) (i : Int32) (v : Int64) {n z : Nat} (hD : va_D A ws) (hT : cT cy G ws) (hG_o : G o = some (4, n, z))  : Cv l D cy A yX7_put wsX7_put ({ frames := 1, cells := 0, slots := 0, locals := 22 }) 0 0 ws [.ref o, .int i, .long v] (fun u => cX none (chs [16]) G ws u.1 u.2 ∧ (True)) := by
  refine Met.ofW (cc := cX7_put) (maxL := 4) (ret := none) (by decide) rfl ?_
  intro p e s m args below meth c s₁ B hml hv
  obtain ⟨rfl, hP, hK, hA, hV⟩ := hv
  have hx := B.exec
  have hb := B.bytes
  have hr := B.returns
  have hts := atoms_spec (ws := wsX7_put) B.pre
  have hown : s.vm.findClass RX7 = some m.cls := findClass_of_methodNamed B.named
  have hlocks := B.notSynchronized
  have hS : va_S A s.heap s.heap [] := va_S.rf
  have hX : cX none (chs [16]) G ws G ws := cX.rf
  have hl := lv_entry ([.ref o, .int i, .long v]) (n := 4) (Nat.le_of_ble_eq_true rfl)
  rw [lg_entry_eq]
  generalize (lg_sl ([.ref o, .int i, .long v]) ++ List.replicate (4 - (lg_sl ([.ref o, .int i, .long v])).length) Slot.unset).toArray = ls at hl ⊢
  have hl : lv_has ls 4 [(0, .ref o), (1, .int i), (2, .long v)] := hl
  have k_0 : (0 : Int32).toInt = 0 := by decide
  have k_1 : (1 : Int32).toInt = 1 := by decide
  refine lv_aload_n hx hb dX7_put_0 rfl (lv_at hl 0 rfl) ?_
  refine lv_iload_n hx hb dX7_put_1 rfl (lv_at hl 1 rfl) ?_
  refine lv_iconst (v := 1) hx hb dX7_put_2 (by decide) ?_
  obtain ⟨_, hM_o, hn_o, z_o, a_o, rfl, hz_o, hG_a_o⟩ := hT _ _ hG_o
  refine t_calli (va_runV (g := F0 m 3 ls ([.int (1 : Int32), .int i, .ref o])) (As := [.int i, .int (1 : Int32)]) (rest := []) ⟨hx, hb, hml, hown, hts⟩ (c_X7_has l D cy A G ws o i (1 : Int32) hD hT hG_o ) (cwV 2 hts gX7_put_X7_has rfl rfl rfl (by decide +kernel) ⟨Nat.le_of_ble_eq_true rfl, Nat.le_of_ble_eq_true rfl⟩) (c_preV hM_o rfl hP hK hA hS hV) rfl rfl hl.1 rfl (lv_room (Nat.le_of_ble_eq_true rfl)) dX7_put_3 ⟨Nat.le_of_ble_eq_true rfl, Nat.le_of_ble_eq_true rfl⟩) hS (fun r3 u H locs q3 hP9 hD9 hT9 hS => ?_)
  obtain ⟨rfl, q3⟩ := q3
  have hP : va_P D vwCl ws H := hP9
  refine lv_if_eq (tgt := 16) hx hb dX7_put_6 (by decide) (fun c6 => ?_) (fun c6 => ?_)
  · skip
    have b6 := bo_f q3 c6
    exact W.vret hx hb hr (fun t ht hW => ⟨⟨(G, ws), rfl, ⟨hX, trivial⟩, by show va_P D vwCl ws t.heap; rw [ht]; exact hP, hD, hT⟩, hS.F ht⟩) hS.2.2 dX7_put_16
  · skip
    have b6 := bo_t q3 c6
    refine lv_aload_n hx hb dX7_put_9 rfl (lv_at hl 0 rfl) ?_
    refine t_get (v := .ref a_o) (C := RX7) (T := TX7) (N := 2) hx hb hts (by decide +kernel) hown hK hP hM_o rfl 1 (by decide) (hts (.fieldLink RX7 13 "ShadowBench$Row" "numbers" "[J") (by decide +kernel)) (fun _ h9 => h9) rfl dX7_put_10 ?_
    refine lv_iload_n hx hb dX7_put_13 rfl (lv_at hl 1 rfl) ?_
    refine lv_lload_n hx hb dX7_put_14 rfl (lv_at hl 2 rfl) ?_
    refine t_last hx hb hK hP hD hS hT (Or.inr (Or.inl rfl)) hG_a_o (vp_in_iff.mpr ⟨by omega, by omega⟩) dX7_put_15 (fun H locs w15 hU15 hP hD hT hS => ?_)
    have hM_o := hU15 _ _ (cne hG_o hG_a_o (show (4 : Nat) ≠ 16 by decide)) hM_o
    have hX := hX.tr (cX.uF hU15 (Or.inr ⟨_, hG_a_o, rfl⟩))
    exact W.vret hx hb hr (fun t ht hW => ⟨⟨(G, w15), rfl, ⟨hX, trivial⟩, by show va_P D vwCl w15 t.heap; rw [ht]; exact hP, hD, hT⟩, hS.F ht⟩) hS.2.2 dX7_put_16
set_option maxHeartbeats 4000000 in
set_option maxRecDepth 100000 in
theorem c_X7_takeFrom (l : Launch) (D : va_G) (cy : Nat → ClassId) (A : Nat → Prop) (G : cG) (ws : va_W) (o : Nat) (x1 : Nat) (i : Int32) (j : Int32) (m0 : Int32) {n z n1 z1 : Nat} (hD : va_D A ws) (hT : cT cy G ws) (hG_o : G o = some (4, n, z)) (hG_x1 : G x1 = some (4, n1, z1))  : Cv l D cy A yX7_takeFrom wsX7_takeFrom ({ frames := 1, cells := 0, slots := 0, locals := 68 }) 0 0 ws [.ref o, .ref x1, .int i, .int j, .int m0] (fun u => cX none (chs [16]) G ws u.1 u.2 ∧ (True)) := by
  refine Met.ofW (cc := cX7_takeFrom) (maxL := 5) (ret := none) (by decide) rfl ?_
  intro p e s m args below meth c s₁ B hml hv
  obtain ⟨rfl, hP, hK, hA, hV⟩ := hv
  have hx := B.exec
  have hb := B.bytes
  have hr := B.returns
  have hts := atoms_spec (ws := wsX7_takeFrom) B.pre
  have hown : s.vm.findClass RX7 = some m.cls := findClass_of_methodNamed B.named
  have hlocks := B.notSynchronized
  have hS : va_S A s.heap s.heap [] := va_S.rf
  have hX : cX none (chs [16]) G ws G ws := cX.rf
  have hl := lv_entry ([.ref o, .ref x1, .int i, .int j, .int m0]) (n := 5) (Nat.le_of_ble_eq_true rfl)
  rw [lg_entry_eq]
  generalize (lg_sl ([.ref o, .ref x1, .int i, .int j, .int m0]) ++ List.replicate (5 - (lg_sl ([.ref o, .ref x1, .int i, .int j, .int m0])).length) Slot.unset).toArray = ls at hl ⊢
  have hl : lv_has ls 5 [(0, .ref o), (1, .ref x1), (2, .int i), (3, .int j), (4, .int m0)] := hl
  have k_0 : (0 : Int32).toInt = 0 := by decide
  refine lv_aload_n hx hb dX7_takeFrom_0 rfl (lv_at hl 1 rfl) ?_
  refine lv_iload_n hx hb dX7_takeFrom_1 rfl (lv_at hl 2 rfl) ?_
  refine lv_iload hx hb dX7_takeFrom_2 (lv_at hl 4 rfl) ?_
  obtain ⟨_, hM_x1, hn_x1, z_x1, a_x1, rfl, hz_x1, hG_a_x1⟩ := hT _ _ hG_x1
  refine t_calli (va_runV (g := F0 m 4 ls ([.int m0, .int i, .ref x1])) (As := [.int i, .int m0]) (rest := []) ⟨hx, hb, hml, hown, hts⟩ (c_X7_has l D cy A G ws x1 i m0 hD hT hG_x1 ) (cwV 2 hts gX7_takeFrom_X7_has rfl rfl rfl (by decide +kernel) ⟨Nat.le_of_ble_eq_true rfl, Nat.le_of_ble_eq_true rfl⟩) (c_preV hM_x1 rfl hP hK hA hS hV) rfl rfl hl.1 rfl (lv_room (Nat.le_of_ble_eq_true rfl)) dX7_takeFrom_4 ⟨Nat.le_of_ble_eq_true rfl, Nat.le_of_ble_eq_true rfl⟩) hS (fun r4 u H locs q4 hP9 hD9 hT9 hS => ?_)
  obtain ⟨rfl, q4⟩ := q4
  have hP : va_P D vwCl ws H := hP9
  refine lv_if_eq (tgt := 35) hx hb dX7_takeFrom_7 (by decide) (fun c7 => ?_) (fun c7 => ?_)
  · skip
    have b7 := bo_f q4 c7
    exact W.vret hx hb hr (fun t ht hW => ⟨⟨(G, ws), rfl, ⟨hX, trivial⟩, by show va_P D vwCl ws t.heap; rw [ht]; exact hP, hD, hT⟩, hS.F ht⟩) hS.2.2 dX7_takeFrom_35
  · skip
    have b7 := bo_t q4 c7
    refine lv_aload_n hx hb dX7_takeFrom_10 rfl (lv_at hl 0 rfl) ?_
    refine lv_iload_n hx hb dX7_takeFrom_11 rfl (lv_at hl 3 rfl) ?_
    refine lv_iload hx hb dX7_takeFrom_12 (lv_at hl 4 rfl) ?_
    obtain ⟨_, hM_o, hn_o, z_o, a_o, rfl, hz_o, hG_a_o⟩ := hT _ _ hG_o
    refine t_calli (va_runV (g := F0 m 14 ls ([.int m0, .int j, .ref o])) (As := [.int j, .int m0]) (rest := []) ⟨hx, hb, hml, hown, hts⟩ (c_X7_has l D cy A G ws o j m0 hD hT hG_o ) (cwV 2 hts gX7_takeFrom_X7_has rfl rfl rfl (by decide +kernel) ⟨Nat.le_of_ble_eq_true rfl, Nat.le_of_ble_eq_true rfl⟩) (c_preV hM_o rfl hP hK hA hS hV) rfl rfl hl.1 rfl (lv_room (Nat.le_of_ble_eq_true rfl)) dX7_takeFrom_14 ⟨Nat.le_of_ble_eq_true rfl, Nat.le_of_ble_eq_true rfl⟩) hS (fun r14 u H locs q14 hP9 hD9 hT9 hS => ?_)
    obtain ⟨rfl, q14⟩ := q14
    have hP : va_P D vwCl ws H := hP9
    refine lv_if_eq (tgt := 35) hx hb dX7_takeFrom_17 (by decide) (fun c17 => ?_) (fun c17 => ?_)
    · skip
      have b17 := bo_f q14 c17
      exact W.vret hx hb hr (fun t ht hW => ⟨⟨(G, ws), rfl, ⟨hX, trivial⟩, by show va_P D vwCl ws t.heap; rw [ht]; exact hP, hD, hT⟩, hS.F ht⟩) hS.2.2 dX7_takeFrom_35
    · skip
      have b17 := bo_t q14 c17
      refine lv_aload_n hx hb dX7_takeFrom_20 rfl (lv_at hl 1 rfl) ?_
      refine t_get (v := .ref a_x1) (C := RX7) (T := TX7) (N := 2) hx hb hts (by decide +kernel) hown hK hP hM_x1 rfl 1 (by decide) (hts (.fieldLink RX7 13 "ShadowBench$Row" "numbers" "[J") (by decide +kernel)) (fun _ h9 => h9) rfl dX7_takeFrom_21 ?_
      refine lv_iload_n hx hb dX7_takeFrom_24 rfl (lv_at hl 2 rfl) ?_
      refine lv_aload_n hx hb dX7_takeFrom_25 rfl (lv_at hl 0 rfl) ?_
      refine t_get (v := .ref a_o) (C := RX7) (T := TX7) (N := 2) hx hb hts (by decide +kernel) hown hK hP hM_o rfl 1 (by decide) (hts (.fieldLink RX7 13 "ShadowBench$Row" "numbers" "[J") (by decide +kernel)) (fun _ h9 => h9) rfl dX7_takeFrom_26 ?_
      refine lv_iload_n hx hb dX7_takeFrom_29 rfl (lv_at hl 3 rfl) ?_
      refine lv_iload hx hb dX7_takeFrom_30 (lv_at hl 4 rfl) ?_
      refine t_copyl hx hb (by rw [hml]; exact hl.1.symm) hown (hts (.methodLink RX7 21 arraycopyName) (by decide +kernel)) (hts (.native arraycopyName) (by decide +kernel)) (hts (.static arraycopyName) (by decide +kernel)) (hts (.initialized "java/lang/System") (by decide +kernel)) hK hP hD hS hT (Or.inr (Or.inl rfl)) (Or.inr (Or.inl rfl)) hG_a_x1 hG_a_o (by omega) (by omega) (by omega) (by omega) (by omega) (Nat.le_of_ble_eq_true rfl) (Nat.le_of_ble_eq_true rfl) dX7_takeFrom_32 (fun H locs w32 hU32 hP hD hT hS => ?_)
      have hM_x1 := hU32 _ _ (cne hG_x1 hG_a_o (show (4 : Nat) ≠ 16 by decide)) hM_x1
      have hM_o := hU32 _ _ (cne hG_o hG_a_o (show (4 : Nat) ≠ 16 by decide)) hM_o
      have hX := hX.tr (cX.uF hU32 (Or.inr ⟨_, hG_a_o, rfl⟩))
      exact W.vret hx hb hr (fun t ht hW => ⟨⟨(G, w32), rfl, ⟨hX, trivial⟩, by show va_P D vwCl w32 t.heap; rw [ht]; exact hP, hD, hT⟩, hS.F ht⟩) hS.2.2 dX7_takeFrom_35
