set_option maxHeartbeats 4000000 in
set_option maxRecDepth 100000 in
theorem c_X9_count_j (l : Launch) (D : va_G) (cy : Nat → ClassId) (A : Nat → Prop) (G : cG) (ws : va_W) (o : Nat) (j : Int32) {bs_o js_o sh_o wk_o ll_o : Nat} {jc_o lc_o : Int32} {mo_o lb_o : Option Nat} {fa : Nat → Option Nat} {xj kj bj sj tj wj hj : Nat} {oj nj : Int64} {msj : List Value} {fsj : Nat → Int32} (hD : va_D A ws) (hT : cT cy G ws) (hG_o : G o = some (7, 0, 0)) (hM_o : cIn ws o (.inr (8, [.ref bs_o, .ref js_o, .int jc_o, .ref sh_o, .ref wk_o, va_rf mo_o, .ref ll_o, .int lc_o, va_rf lb_o]))) (hM_js_o : cIn ws js_o (.inl (cy 4, cqa 8 fa))) (hJ1 : ∀ i : Nat, (i : Int) < jc_o.toInt → ∃ x, fa i = some x) (hJ : okJob jc_o j → jobS cy G ws fa j.toNatClampNeg xj kj bj sj tj wj hj oj nj msj fsj) (hr9 : okJob jc_o j → ∀ y l, y < 4 → l < lnC wj hj y → 0 ≤ (fsj (y * 11 + l)).toInt ∧ (fsj (y * 11 + l)).toInt ≤ 6) (he9 : okJob jc_o j → ∀ s, s < wj * hj → ¬ (lb oj s = true ∧ lb nj s = true)) : Ci l D cy A yX9_count wsX9_count ({ frames := 6, cells := 0, slots := 0, locals := 144 }) 0 0 ws [.ref o, .int j] (fun r0 u => cX none (chs [1, 5, 20, 21, 22, 23]) G ws u.1 u.2 ∧ ((okJob jc_o j ∧ ∃ q k u, wEn (2 ^ wj) hj (cGo wj oj nj fsj) (cFi kj wj hj tj oj nj fsj) (fun _ _ => False) (fun _ _ => ()) ((0 : Int), (fun _ : Nat => (0 : Nat)), (0 : Nat)) () q k () u ∧ r0 = anC q k) ∨ (¬ okJob jc_o j ∧ r0 = -1))) := by
  refine Met.ofW (cc := cX9_count) (maxL := 4) (ret := (some .int)) (by decide) rfl ?_
  intro p e s m args below meth c s₁ B hml hv
  obtain ⟨rfl, hP, hK, hA, hV⟩ := hv
  have hx := B.exec
  have hb := B.bytes
  have hr := B.returns
  have hts := atoms_spec (ws := wsX9_count) B.pre
  have hown : s.vm.findClass RX9 = some m.cls := findClass_of_methodNamed B.named
  have hlocks := B.notSynchronized
  have hS : va_S A s.heap s.heap [] := va_S.rf
  have hX : cX none (chs [1, 5, 20, 21, 22, 23]) G ws G ws := cX.rf
  have hl := lv_entry ([.ref o, .int j]) (n := 4) (Nat.le_of_ble_eq_true rfl)
  rw [lg_entry_eq]
  generalize (lg_sl ([.ref o, .int j]) ++ List.replicate (4 - (lg_sl ([.ref o, .int j])).length) Slot.unset).toArray = ls at hl ⊢
  have hl : lv_has ls 4 [(0, .ref o), (1, .int j)] := hl
  have k_m5 : (-5 : Int32).toInt = -5 := by decide
  have k_m1 : (-1 : Int32).toInt = -1 := by decide
  have k_0 : (0 : Int32).toInt = 0 := by decide
  have k_1000000 : (1000000 : Int32).toInt = 1000000 := by decide
  obtain ⟨hjc_o, hlc_o, hG_bs_o, hG_js_o, hG_sh_o, hG_wk_o, hmo_o, hG_ll_o, hlb_o⟩ := w7sh hD hT hG_o hM_o
  have hf_js_o := w9sh hD hT hG_js_o hM_js_o
  refine lv_aload_n hx hb dX9_count_0 rfl (lv_at hl 0 rfl) ?_
  refine lv_iload_n hx hb dX9_count_1 rfl (lv_at hl 1 rfl) ?_
  refine t_calla (va_runV (g := F0 m 2 ls ([.int j, .ref o])) (As := [.int j]) (rest := []) ⟨hx, hb, hml, hown, hts⟩ (c_X9_jobOf_j l D cy A G ws o j hD hT hG_o hM_o hM_js_o hJ1) (cwV 1 hts gX9_count_X9_jobOf rfl rfl rfl (by decide +kernel) ⟨Nat.le_of_ble_eq_true rfl, Nat.le_of_ble_eq_true rfl⟩) (c_preV hM_o rfl hP hK hA hS hV) rfl rfl hl.1 rfl (lv_room (Nat.le_of_ble_eq_true rfl)) dX9_count_2 ⟨Nat.le_of_ble_eq_true rfl, Nat.le_of_ble_eq_true rfl⟩) hS (fun r2 u H locs q2 hP9 hD9 hT9 hS => ?_)
  obtain ⟨rfl, q2⟩ := q2
  have hP : va_P D vwCl ws H := hP9
  rcases r2 with _ | x2
  · skip
    have vn2 := q2.2 rfl
    refine lv_astore_nN (lv' := [(2, .null), (0, .ref o), (1, .int j)]) hx hb dX9_count_5 rfl hl (by decide) rfl (fun ls hl => ?_)
    refine lv_aload_nN hx hb dX9_count_6 rfl (lv_at hl 0 rfl) ?_
    refine lv_ifnonnullN hx hb dX9_count_7 ?_
    refine lv_iconst (v := (-1)) hx hb dX9_count_10 (by decide) ?_
    exact W.iret (v := ((-1) : Int32)) hx hb hr (fun t ht hW => ⟨⟨_, (G, ws), rfl, ⟨hX, (Or.inr ⟨vn2, rfl⟩)⟩, by show va_P D vwCl ws t.heap; rw [ht]; exact hP, hD, hT⟩, hS.F ht⟩) hS.2.2 dX9_count_11
  · skip
    obtain ⟨vj2, fj2⟩ := q2.1 x2 rfl
    obtain ⟨hfa9, hG_xj, hb9, ht9, hM_xj, hM_sj⟩ := hJ vj2
    obtain rfl : xj = x2 := Option.some.inj (hfa9.symm.trans fj2)
    obtain ⟨hG_bj, hG_sj, hJ_xj⟩ := w3sh hD hT hG_xj hb9 hM_xj
    refine lv_astore_n (lv' := [(2, .ref xj), (0, .ref o), (1, .int j)]) hx hb dX9_count_5 rfl hl (by decide) rfl (fun ls hl => ?_)
    refine lv_aload_n hx hb dX9_count_6 rfl (lv_at hl 0 rfl) ?_
    refine lv_ifnonnull (tgt := 12) hx hb dX9_count_7 (by decide) ?_
    refine lv_aload_n hx hb dX9_count_12 rfl (lv_at hl 1 rfl) ?_
    refine t_get (v := .ref wk_o) (C := RX9) (T := TX9) (N := 9) hx hb hts (by decide +kernel) hown hK hP hM_o rfl 4 (by decide) (hts (.fieldLink RX9 34 "ShadowBench" "walk" "LShadowBench$Walk;") (by decide +kernel)) (fun _ h9 => h9) rfl dX9_count_13 ?_
    obtain ⟨_, hM_wk_o, j_wk_o, y_wk_o, tr_wk_o, sp_wk_o, fd_wk_o, a1_wk_o, a2_wk_o, a3_wk_o, a4_wk_o, a5_wk_o, rfl, hsp_wk_o, hj_wk_o, hG_a1_wk_o, hG_a2_wk_o, hG_a3_wk_o, hG_a4_wk_o, hG_a5_wk_o⟩ := hT _ _ hG_wk_o
    obtain ⟨fw1, hM_a1_wk_o⟩ := cIa hT (Or.inr (Or.inr (Or.inl rfl))) hG_a1_wk_o
    obtain ⟨fw2, hM_a2_wk_o⟩ := cIa hT (Or.inr (Or.inr (Or.inr (Or.inl rfl)))) hG_a2_wk_o
    obtain ⟨fw3, hM_a3_wk_o⟩ := cIa hT (Or.inr (Or.inr (Or.inr (Or.inr (Or.inl rfl))))) hG_a3_wk_o
    obtain ⟨fw4, hM_a4_wk_o⟩ := cIa hT (Or.inr (Or.inr (Or.inr (Or.inr (Or.inr rfl))))) hG_a4_wk_o
    obtain ⟨fw5, hM_a5_wk_o⟩ := cLa hT (Or.inl rfl) hG_a5_wk_o
    have gd0 := rg_cs hb9 (hr9 vj2)
    refine lv_aload_n hx hb dX9_count_16 rfl (lv_at hl 0 rfl) ?_
    refine t_callv (va_runV (g := F0 m 17 ls ([.ref xj, .ref wk_o])) (As := [.ref xj]) (rest := []) ⟨hx, hb, hml, hown, hts⟩ (c_X8_start_x (j_o := j_wk_o) l D cy A G ws wk_o xj hD hT hG_wk_o hM_wk_o hG_xj hM_xj hM_sj hM_a1_wk_o hM_a2_wk_o hM_a3_wk_o hM_a4_wk_o hM_a5_wk_o hb9 ht9) (cwV 1 hts gX9_count_X8_start rfl rfl rfl (by decide +kernel) ⟨Nat.le_of_ble_eq_true rfl, Nat.le_of_ble_eq_true rfl⟩) (c_preV hM_wk_o rfl hP hK hA hS hV) rfl rfl hl.1 rfl (lv_room (Nat.le_of_ble_eq_true rfl)) dX9_count_17 ⟨Nat.le_of_ble_eq_true rfl, Nat.le_of_ble_eq_true rfl⟩) hS (fun u H locs q17 hP9 hD9 hT9 hS => ?_)
    obtain ⟨w17, rfl, hF17, q17⟩ := q17
    have hP : va_P D vwCl w17 H := hP9
    have hD : va_D A w17 := hD9
    have hT : cT cy G w17 := hT9
    have hM_o := hF17 _ _ (fun z9 => z9.elim (cne hG_o hG_wk_o (show (7 : Nat) ≠ 5 by decide)) (fun z9 => z9.elim (cne hG_o hG_a1_wk_o (show (7 : Nat) ≠ 20 by decide)) (fun z9 => z9.elim (cne hG_o hG_a2_wk_o (show (7 : Nat) ≠ 21 by decide)) (fun z9 => z9.elim (cne hG_o hG_a3_wk_o (show (7 : Nat) ≠ 22 by decide)) (fun z9 => z9.elim (cne hG_o hG_a4_wk_o (show (7 : Nat) ≠ 23 by decide)) (cne hG_o hG_a5_wk_o (show (7 : Nat) ≠ 1 by decide))))))) hM_o
    have hM_js_o := hF17 _ _ (fun z9 => z9.elim (cne hG_js_o hG_wk_o (show (9 : Nat) ≠ 5 by decide)) (fun z9 => z9.elim (cne hG_js_o hG_a1_wk_o (show (9 : Nat) ≠ 20 by decide)) (fun z9 => z9.elim (cne hG_js_o hG_a2_wk_o (show (9 : Nat) ≠ 21 by decide)) (fun z9 => z9.elim (cne hG_js_o hG_a3_wk_o (show (9 : Nat) ≠ 22 by decide)) (fun z9 => z9.elim (cne hG_js_o hG_a4_wk_o (show (9 : Nat) ≠ 23 by decide)) (cne hG_js_o hG_a5_wk_o (show (9 : Nat) ≠ 1 by decide))))))) hM_js_o
    have hM_xj := hF17 _ _ (fun z9 => z9.elim (cne hG_xj hG_wk_o (show (3 : Nat) ≠ 5 by decide)) (fun z9 => z9.elim (cne hG_xj hG_a1_wk_o (show (3 : Nat) ≠ 20 by decide)) (fun z9 => z9.elim (cne hG_xj hG_a2_wk_o (show (3 : Nat) ≠ 21 by decide)) (fun z9 => z9.elim (cne hG_xj hG_a3_wk_o (show (3 : Nat) ≠ 22 by decide)) (fun z9 => z9.elim (cne hG_xj hG_a4_wk_o (show (3 : Nat) ≠ 23 by decide)) (cne hG_xj hG_a5_wk_o (show (3 : Nat) ≠ 1 by decide))))))) hM_xj
    have hM_sj := hF17 _ _ (fun z9 => z9.elim (cne hG_sj hG_wk_o (show (14 : Nat) ≠ 5 by decide)) (fun z9 => z9.elim (cne hG_sj hG_a1_wk_o (show (14 : Nat) ≠ 20 by decide)) (fun z9 => z9.elim (cne hG_sj hG_a2_wk_o (show (14 : Nat) ≠ 21 by decide)) (fun z9 => z9.elim (cne hG_sj hG_a3_wk_o (show (14 : Nat) ≠ 22 by decide)) (fun z9 => z9.elim (cne hG_sj hG_a4_wk_o (show (14 : Nat) ≠ 23 by decide)) (cne hG_sj hG_a5_wk_o (show (14 : Nat) ≠ 1 by decide))))))) hM_sj
    have hX := hX.tr ⟨cE.rf, hF17.wk (fun b9 z9 => by rcases z9 with rfl | rfl | rfl | rfl | rfl | rfl; exact (Or.inr ⟨_, hG_wk_o, rfl⟩); exact (Or.inr ⟨_, hG_a1_wk_o, rfl⟩); exact (Or.inr ⟨_, hG_a2_wk_o, rfl⟩); exact (Or.inr ⟨_, hG_a3_wk_o, rfl⟩); exact (Or.inr ⟨_, hG_a4_wk_o, rfl⟩); exact (Or.inr ⟨_, hG_a5_wk_o, rfl⟩)), fun _ _ h9 => Or.inl h9⟩
    obtain ⟨g1_17, g2_17, g3_17, g4_17, g5_17, hc17, hW17⟩ := q17
    have hM_wk_o : cIn w17 wk_o (.inr (7, [.ref xj, .int (nI 0), .int (nI 0), .int 0, .long 0, .ref a1_wk_o, .ref a2_wk_o, .ref a3_wk_o, .ref a4_wk_o, .ref a5_wk_o])) := hW17.1
    have hM_a1_wk_o : cIn w17 a1_wk_o (.inl (cy 0, 6, .inl g1_17)) := hW17.2.1
    have hM_a2_wk_o : cIn w17 a2_wk_o (.inl (cy 0, 6, .inl g2_17)) := hW17.2.2.1
    have hM_a3_wk_o : cIn w17 a3_wk_o (.inl (cy 0, 6, .inl g3_17)) := hW17.2.2.2.1
    have hM_a4_wk_o : cIn w17 a4_wk_o (.inl (cy 0, 6, .inl g4_17)) := hW17.2.2.2.2.1
    have hM_a5_wk_o : cIn w17 a5_wk_o (.inl (cy 1, 6, .inr (.inl g5_17))) := hW17.2.2.2.2.2
    refine lv_iconst (v := 0) hx hb dX9_count_20 (by decide) ?_
    refine lv_istore_n (lv' := [(3, .int (0 : Int32)), (2, .ref xj), (0, .ref o), (1, .int j)]) hx hb dX9_count_21 rfl hl (by decide) rfl (fun ls hl => ?_)
    have loop_22 : ∀ (n : Nat) (k : Nat) (yl : Int32) (tl : Nat) (fdl : Int64) (gl1 : Nat → Int32) (gl2 : Nat → Int32) (gl3 : Nat → Int32) (gl4 : Nat → Int32) (gl5 : Nat → Int64), (k ≤ 200000) → (tl ≤ 200000) → (∃ s, wFo (2 ^ wj) hj (cGo wj oj nj fsj) (cFi kj wj hj tj oj nj fsj) (fun _ _ => False) (fun _ _ => ()) ((0 : Int), (fun _ : Nat => (0 : Nat)), (0 : Nat)) () k s () ∧ cRel wj oj nj fsj s yl (nI tl) gl1 gl2 gl3 gl4 gl5 ∧ s.2.2 = tl) → 200001 - k < n → ∀ (Gl22 : cG) (wl22 : va_W), cE G Gl22 → cX none (chs [1, 5, 20, 21, 22, 23]) G ws Gl22 wl22 → va_D A wl22 → cT cy Gl22 wl22 → ∀ (H : Heap) (locs : List Loc), va_P D vwCl wl22 H → va_S A s.heap H locs → cIn wl22 o (.inr (8, [.ref bs_o, .ref js_o, .int jc_o, .ref sh_o, .ref wk_o, va_rf mo_o, .ref ll_o, .int lc_o, va_rf lb_o])) → cIn wl22 xj (.inr (kj, .ref bj :: .ref sj :: .int (nI tj) :: .long oj :: .long nj :: msj)) → cIn wl22 wk_o (.inr (7, [.ref xj, .int yl, .int (nI tl), .int 0, .long fdl, .ref a1_wk_o, .ref a2_wk_o, .ref a3_wk_o, .ref a4_wk_o, .ref a5_wk_o])) → cIn wl22 sj (.inl (cy 0, 44, .inl fsj)) → cIn wl22 a1_wk_o (.inl (cy 0, 6, .inl gl1)) → cIn wl22 a2_wk_o (.inl (cy 0, 6, .inl gl2)) → cIn wl22 a3_wk_o (.inl (cy 0, 6, .inl gl3)) → cIn wl22 a4_wk_o (.inl (cy 0, 6, .inl gl4)) → cIn wl22 a5_wk_o (.inl (cy 1, 6, .inr (.inl gl5))) → ∀ (ls : Array Slot), lv_has ls 4 [(3, .int (nI k)), (2, .ref xj), (0, .ref o), (1, .int j)] → W p l e (headSpec wsX9_count ({ frames := 6, cells := 0, slots := 0, locals := 144 })).room s m #[Value.ref o, Value.int j] below meth c H locs 0 0 (MQ below (va_Qi (fun r0 u => cX none (chs [1, 5, 20, 21, 22, 23]) G ws u.1 u.2 ∧ ((okJob jc_o j ∧ ∃ q k u, wEn (2 ^ wj) hj (cGo wj oj nj fsj) (cFi kj wj hj tj oj nj fsj) (fun _ _ => False) (fun _ _ => ()) ((0 : Int), (fun _ : Nat => (0 : Nat)), (0 : Nat)) () q k () u ∧ r0 = anC q k) ∨ (¬ okJob jc_o j ∧ r0 = -1))) (cB D cy A) A) #[Value.ref o, Value.int j] s 0 0 A) (F0 m 22 ls []) := by
      intro n
      induction n with
      | zero => intro k yl tl fdl gl1 gl2 gl3 gl4 gl5 j22_0 j22_1 j22_2 hn; exact absurd hn (Nat.not_lt_zero _)
      | succ n ih_22 =>
        intro k yl tl fdl gl1 gl2 gl3 gl4 gl5 j22_0 j22_1 j22_2 hn_22 Gl22 wl22 hEl22 hX hD hT H locs hP hS hM_o hM_xj hM_wk_o hM_sj hM_a1_wk_o hM_a2_wk_o hM_a3_wk_o hM_a4_wk_o hM_a5_wk_o ls hl
        have hG_o := hEl22 _ _ hG_o
        have hG_bs_o := hEl22 _ _ hG_bs_o
        have hG_js_o := hEl22 _ _ hG_js_o
        have hG_sh_o := hEl22 _ _ hG_sh_o
        have hG_wk_o := hEl22 _ _ hG_wk_o
        have hG_ll_o := hEl22 _ _ hG_ll_o
        have hG_xj := hEl22 _ _ hG_xj
        have hG_bj := hEl22 _ _ hG_bj
        have hG_sj := hEl22 _ _ hG_sj
        have hG_a1_wk_o := hEl22 _ _ hG_a1_wk_o
        have hG_a2_wk_o := hEl22 _ _ hG_a2_wk_o
        have hG_a3_wk_o := hEl22 _ _ hG_a3_wk_o
        have hG_a4_wk_o := hEl22 _ _ hG_a4_wk_o
        have hG_a5_wk_o := hEl22 _ _ hG_a5_wk_o
        have ik : (nI k).toInt = (k : Int) := nI_toInt (by omega)
        obtain ⟨s9, fo9, rl9, st9⟩ := j22_2
        have gd9 := wFo_gd gd0 k fo9
        have kl9 : 0 + k ≤ s9.2.2 := gd9.2
        refine lv_iload_n hx hb dX9_count_22 rfl (lv_at hl 0 rfl) ?_
        refine lv_ldc hx hb hown (hts (.constant RX9 135 (1000000)) (by decide +kernel)) dX9_count_23 ?_
        refine lv_icmp_ge (tgt := 44) hx hb dX9_count_25 (by decide) (fun c25 => ?_) (fun c25 => ?_)
        · skip
          have d25 := c25
          rw [fa_le] at d25
          exfalso; omega
        · skip
          have d25 := c25
          rw [fa_le] at d25
          refine lv_aload_n hx hb dX9_count_28 rfl (lv_at hl 2 rfl) ?_
          refine t_get (v := .ref wk_o) (C := RX9) (T := TX9) (N := 9) hx hb hts (by decide +kernel) hown hK hP hM_o rfl 4 (by decide) (hts (.fieldLink RX9 34 "ShadowBench" "walk" "LShadowBench$Walk;") (by decide +kernel)) (fun _ h9 => h9) rfl dX9_count_29 ?_
          refine t_calli (va_runV (g := F0 m 32 ls ([.ref wk_o])) (As := []) (rest := []) ⟨hx, hb, hml, hown, hts⟩ (c_X8_advance_x l D cy A Gl22 wl22 wk_o hD hT hG_wk_o hM_wk_o hG_xj hM_xj hM_sj hM_a1_wk_o hM_a2_wk_o hM_a3_wk_o hM_a4_wk_o hM_a5_wk_o hb9 ht9 gd9.1 (he9 vj2) rl9 rfl (by omega)) (cwV 0 hts gX9_count_X8_advance rfl rfl rfl (by decide +kernel) ⟨Nat.le_of_ble_eq_true rfl, Nat.le_of_ble_eq_true rfl⟩) (c_preV hM_wk_o rfl hP hK hA hS hV) rfl rfl hl.1 rfl (lv_room (Nat.le_of_ble_eq_true rfl)) dX9_count_32 ⟨Nat.le_of_ble_eq_true rfl, Nat.le_of_ble_eq_true rfl⟩) hS (fun r32 u H locs q32 hP9 hD9 hT9 hS => ?_)
          obtain ⟨w32, rfl, hF32, q32⟩ := q32
          have hP : va_P D vwCl w32 H := hP9
          have hD : va_D A w32 := hD9
          have hT : cT cy Gl22 w32 := hT9
          have hM_o := hF32 _ _ (fun z9 => z9.elim (cne hG_o hG_wk_o (show (7 : Nat) ≠ 5 by decide)) (fun z9 => z9.elim (cne hG_o hG_a1_wk_o (show (7 : Nat) ≠ 20 by decide)) (fun z9 => z9.elim (cne hG_o hG_a2_wk_o (show (7 : Nat) ≠ 21 by decide)) (fun z9 => z9.elim (cne hG_o hG_a3_wk_o (show (7 : Nat) ≠ 22 by decide)) (fun z9 => z9.elim (cne hG_o hG_a4_wk_o (show (7 : Nat) ≠ 23 by decide)) (cne hG_o hG_a5_wk_o (show (7 : Nat) ≠ 1 by decide))))))) hM_o
          have hM_xj := hF32 _ _ (fun z9 => z9.elim (cne hG_xj hG_wk_o (show (3 : Nat) ≠ 5 by decide)) (fun z9 => z9.elim (cne hG_xj hG_a1_wk_o (show (3 : Nat) ≠ 20 by decide)) (fun z9 => z9.elim (cne hG_xj hG_a2_wk_o (show (3 : Nat) ≠ 21 by decide)) (fun z9 => z9.elim (cne hG_xj hG_a3_wk_o (show (3 : Nat) ≠ 22 by decide)) (fun z9 => z9.elim (cne hG_xj hG_a4_wk_o (show (3 : Nat) ≠ 23 by decide)) (cne hG_xj hG_a5_wk_o (show (3 : Nat) ≠ 1 by decide))))))) hM_xj
          have hM_sj := hF32 _ _ (fun z9 => z9.elim (cne hG_sj hG_wk_o (show (14 : Nat) ≠ 5 by decide)) (fun z9 => z9.elim (cne hG_sj hG_a1_wk_o (show (14 : Nat) ≠ 20 by decide)) (fun z9 => z9.elim (cne hG_sj hG_a2_wk_o (show (14 : Nat) ≠ 21 by decide)) (fun z9 => z9.elim (cne hG_sj hG_a3_wk_o (show (14 : Nat) ≠ 22 by decide)) (fun z9 => z9.elim (cne hG_sj hG_a4_wk_o (show (14 : Nat) ≠ 23 by decide)) (cne hG_sj hG_a5_wk_o (show (14 : Nat) ≠ 1 by decide))))))) hM_sj
          have hX := hX.tr ⟨cE.rf, hF32.wk (fun b9 z9 => by rcases z9 with rfl | rfl | rfl | rfl | rfl | rfl; exact (Or.inr ⟨_, hG_wk_o, rfl⟩); exact (Or.inr ⟨_, hG_a1_wk_o, rfl⟩); exact (Or.inr ⟨_, hG_a2_wk_o, rfl⟩); exact (Or.inr ⟨_, hG_a3_wk_o, rfl⟩); exact (Or.inr ⟨_, hG_a4_wk_o, rfl⟩); exact (Or.inr ⟨_, hG_a5_wk_o, rfl⟩)), fun _ _ h9 => Or.inl h9⟩
          rcases q32 with ⟨hr32, u9, yA32, gA1_32, gA2_32, gA3_32, gA4_32, gA5_32, ru9, rl8, hW32⟩ | ⟨hr32, q9, u9, yB32, trB32, spB32, fdB32, gB1_32, gB2_32, gB3_32, gB4_32, gB5_32, ru9, hq9, hW32⟩
          · skip
            have hM_wk_o : cIn w32 wk_o (.inr (7, [.ref xj, .int yA32, .int (nI u9.2.2), .int 0, .long (picL wj u9.2.1 hj), .ref a1_wk_o, .ref a2_wk_o, .ref a3_wk_o, .ref a4_wk_o, .ref a5_wk_o])) := hW32.1
            have hM_a1_wk_o : cIn w32 a1_wk_o (.inl (cy 0, 6, .inl gA1_32)) := hW32.2.1
            have hM_a2_wk_o : cIn w32 a2_wk_o (.inl (cy 0, 6, .inl gA2_32)) := hW32.2.2.1
            have hM_a3_wk_o : cIn w32 a3_wk_o (.inl (cy 0, 6, .inl gA3_32)) := hW32.2.2.2.1
            have hM_a4_wk_o : cIn w32 a4_wk_o (.inl (cy 0, 6, .inl gA4_32)) := hW32.2.2.2.2.1
            have hM_a5_wk_o : cIn w32 a5_wk_o (.inl (cy 1, 6, .inr (.inl gA5_32))) := hW32.2.2.2.2.2
            subst hr32
            have gd8 := wRun_2 gd9.1 ru9
            have kk9 : k + 1 ≤ 200000 := by have z1 : u9.2.2 ≤ 200000 := gd8.1.1.2.2; have z2 := gd8.2; omega
            have tt9 : u9.2.2 ≤ 200000 := gd8.1.1.2.2
            refine lv_if_eq (tgt := 44) hx hb dX9_count_35 (by decide) (fun c35 => ?_) (fun c35 => ?_)
            · first | exact absurd c35 (by decide) | exact absurd (by decide) c35
            · skip
              have d35 := c35
              rw [fa_eq] at d35
              refine lv_iinc (v := (nI (k + 1))) (lv' := [(3, .int (nI (k + 1))), (2, .ref xj), (0, .ref o), (1, .int j)]) hx hb dX9_count_38 hl (k := 0) rfl (nI_1 _) (by decide) rfl (fun ls hl => ?_)
              refine lv_goto (tgt := 22) hx hb dX9_count_41 (by decide) ?_
              exact ih_22 (k + 1) yA32 u9.2.2 (picL wj u9.2.1 hj) gA1_32 gA2_32 gA3_32 gA4_32 gA5_32 (kk9) (tt9) (⟨u9, ⟨s9, (), fo9, ru9, id, rfl⟩, rl8, rfl⟩) (by omega) Gl22 w32 hEl22 hX hD hT _ _ hP hS hM_o hM_xj hM_wk_o hM_sj hM_a1_wk_o hM_a2_wk_o hM_a3_wk_o hM_a4_wk_o hM_a5_wk_o ls (lv_sub hl [0, 1, 2, 3] rfl)
          · skip
            have hsb32 : isBo spB32 := hq9.elim (fun z9 => Or.inl z9.2) (fun z9 => Or.inr z9.2)
            have hM_wk_o : cIn w32 wk_o (.inr (7, [.ref xj, .int yB32, .int trB32, .int spB32, .long fdB32, .ref a1_wk_o, .ref a2_wk_o, .ref a3_wk_o, .ref a4_wk_o, .ref a5_wk_o])) := hW32.1
            have hM_a1_wk_o : cIn w32 a1_wk_o (.inl (cy 0, 6, .inl gB1_32)) := hW32.2.1
            have hM_a2_wk_o : cIn w32 a2_wk_o (.inl (cy 0, 6, .inl gB2_32)) := hW32.2.2.1
            have hM_a3_wk_o : cIn w32 a3_wk_o (.inl (cy 0, 6, .inl gB3_32)) := hW32.2.2.2.1
            have hM_a4_wk_o : cIn w32 a4_wk_o (.inl (cy 0, 6, .inl gB4_32)) := hW32.2.2.2.2.1
            have hM_a5_wk_o : cIn w32 a5_wk_o (.inl (cy 1, 6, .inr (.inl gB5_32))) := hW32.2.2.2.2.2
            subst hr32
            refine lv_if_eq (tgt := 44) hx hb dX9_count_35 (by decide) (fun c35 => ?_) (fun c35 => ?_)
            · skip
              have d35 := c35
              rw [fa_eq] at d35
              refine lv_aload_n hx hb dX9_count_44 rfl (lv_at hl 2 rfl) ?_
              refine t_get (v := .ref wk_o) (C := RX9) (T := TX9) (N := 9) hx hb hts (by decide +kernel) hown hK hP hM_o rfl 4 (by decide) (hts (.fieldLink RX9 34 "ShadowBench" "walk" "LShadowBench$Walk;") (by decide +kernel)) (fun _ h9 => h9) rfl dX9_count_45 ?_
              refine t_calli (va_runV (g := F0 m 48 ls ([.ref wk_o])) (As := []) (rest := []) ⟨hx, hb, hml, hown, hts⟩ (c_X8_isSpent_x l D cy A Gl22 w32 wk_o hD hT hG_wk_o hM_wk_o ) (cwV 0 hts gX9_count_X8_isSpent rfl rfl rfl (by decide +kernel) ⟨Nat.le_of_ble_eq_true rfl, Nat.le_of_ble_eq_true rfl⟩) (c_preV hM_wk_o rfl hP hK hA hS hV) rfl rfl hl.1 rfl (lv_room (Nat.le_of_ble_eq_true rfl)) dX9_count_48 ⟨Nat.le_of_ble_eq_true rfl, Nat.le_of_ble_eq_true rfl⟩) hS (fun r48 u H locs q48 hP9 hD9 hT9 hS => ?_)
              obtain ⟨rfl, q48⟩ := q48
              have hP : va_P D vwCl w32 H := hP9
              refine lv_if_eq (tgt := 59) hx hb dX9_count_51 (by decide) (fun c51 => ?_) (fun c51 => ?_)
              · skip
                have d51 := c51
                rw [fa_eq] at d51
                refine lv_iload_n hx hb dX9_count_59 rfl (lv_at hl 0 rfl) ?_
                exact W.iret (v := (nI k)) hx hb hr (fun t ht hW => ⟨⟨_, (Gl22, w32), rfl, ⟨hX, (Or.inl ⟨vj2, q9, k, u9, ⟨s9, fo9, ru9, (fun y9 => by omega)⟩, (by rcases hq9 with ⟨z1, z2⟩ | ⟨z1, z2⟩; (rw [z1]; rfl); exact absurd (z2.symm.trans (q48.symm.trans c51)) (by decide))⟩)⟩, by show va_P D vwCl w32 t.heap; rw [ht]; exact hP, hD, hT⟩, hS.F ht⟩) hS.2.2 dX9_count_60
              · skip
                have d51 := c51
                rw [fa_eq] at d51
                refine lv_bipush (v := (-5)) hx hb dX9_count_54 (by decide) ?_
                refine lv_goto (tgt := 60) hx hb dX9_count_56 (by decide) ?_
                exact W.iret (v := ((-5) : Int32)) hx hb hr (fun t ht hW => ⟨⟨_, (Gl22, w32), rfl, ⟨hX, (Or.inl ⟨vj2, q9, k, u9, ⟨s9, fo9, ru9, (fun y9 => by omega)⟩, (by rcases hq9 with ⟨z1, z2⟩ | ⟨z1, z2⟩; exact absurd (q48.trans z2) c51; (rw [z1]; rfl))⟩)⟩, by show va_P D vwCl w32 t.heap; rw [ht]; exact hP, hD, hT⟩, hS.F ht⟩) hS.2.2 dX9_count_60
            · first | exact absurd c35 (by decide) | exact absurd (by decide) c35
    exact loop_22 (200001 + 1) 0 (nI 0) 0 0 g1_17 g2_17 g3_17 g4_17 g5_17 (by omega) (by omega) (⟨((0 : Int), (fun _ : Nat => (0 : Nat)), (0 : Nat)), ⟨rfl, rfl⟩, hc17, rfl⟩) (by omega) G w17 cE.rf hX hD hT _ _ hP hS hM_o hM_xj hM_wk_o hM_sj hM_a1_wk_o hM_a2_wk_o hM_a3_wk_o hM_a4_wk_o hM_a5_wk_o ls (lv_sub hl [0, 1, 2, 3] rfl)
set_option maxHeartbeats 4000000 in
set_option maxRecDepth 100000 in
theorem c_X9_find_j (l : Launch) (D : va_G) (cy : Nat → ClassId) (A : Nat → Prop) (G : cG) (ws : va_W) (o : Nat) (j : Int32) (i0 : Int32) {bs_o js_o sh_o wk_o ll_o : Nat} {jc_o lc_o : Int32} {mo_o lb_o : Option Nat} {fa : Nat → Option Nat} {xj kj bj sj tj wj hj : Nat} {oj nj : Int64} {msj : List Value} {fsj : Nat → Int32} (hD : va_D A ws) (hT : cT cy G ws) (hG_o : G o = some (7, 0, 0)) (hM_o : cIn ws o (.inr (8, [.ref bs_o, .ref js_o, .int jc_o, .ref sh_o, .ref wk_o, va_rf mo_o, .ref ll_o, .int lc_o, va_rf lb_o]))) (hM_js_o : cIn ws js_o (.inl (cy 4, cqa 8 fa))) (hJ1 : ∀ i : Nat, (i : Int) < jc_o.toInt → ∃ x, fa i = some x) (hJ : okJob jc_o j → jobS cy G ws fa j.toNatClampNeg xj kj bj sj tj wj hj oj nj msj fsj) (hr9 : okJob jc_o j → ∀ y l, y < 4 → l < lnC wj hj y → 0 ≤ (fsj (y * 11 + l)).toInt ∧ (fsj (y * 11 + l)).toInt ≤ 6) (he9 : okJob jc_o j → ∀ s, s < wj * hj → ¬ (lb oj s = true ∧ lb nj s = true)) : Cl l D cy A yX9_find wsX9_find ({ frames := 6, cells := 0, slots := 0, locals := 144 }) 0 0 ws [.ref o, .int j, .int i0] (fun r0 u => cX none (chs [1, 5, 20, 21, 22, 23]) G ws u.1 u.2 ∧ (((okJob jc_o j ∧ 0 ≤ i0.toInt) ∧ ∃ q k a u, wEn (2 ^ wj) hj (cGo wj oj nj fsj) (cFi kj wj hj tj oj nj fsj) (fun a _ => (a : Int) = i0.toInt) (fun a _ => a + 1) ((0 : Int), (fun _ : Nat => (0 : Nat)), (0 : Nat)) 0 q k a u ∧ r0 = anF q (picL wj u.2.1 hj)) ∨ (¬ (okJob jc_o j ∧ 0 ≤ i0.toInt) ∧ r0 = -1))) := by
  refine Met.ofW (cc := cX9_find) (maxL := 5) (ret := (some .long)) (by decide) rfl ?_
  intro p e s m args below meth c s₁ B hml hv
  obtain ⟨rfl, hP, hK, hA, hV⟩ := hv
  have hx := B.exec
  have hb := B.bytes
  have hr := B.returns
  have hts := atoms_spec (ws := wsX9_find) B.pre
  have hown : s.vm.findClass RX9 = some m.cls := findClass_of_methodNamed B.named
  have hlocks := B.notSynchronized
  have hS : va_S A s.heap s.heap [] := va_S.rf
  have hX : cX none (chs [1, 5, 20, 21, 22, 23]) G ws G ws := cX.rf
  have hl := lv_entry ([.ref o, .int j, .int i0]) (n := 5) (Nat.le_of_ble_eq_true rfl)
  rw [lg_entry_eq]
  generalize (lg_sl ([.ref o, .int j, .int i0]) ++ List.replicate (5 - (lg_sl ([.ref o, .int j, .int i0])).length) Slot.unset).toArray = ls at hl ⊢
  have hl : lv_has ls 5 [(0, .ref o), (1, .int j), (2, .int i0)] := hl
  have k_0 : (0 : Int32).toInt = 0 := by decide
  have k_1000000 : (1000000 : Int32).toInt = 1000000 := by decide
  have k_m5L : (-5 : Int64).toInt = -5 := by decide
  have k_m2L : (-2 : Int64).toInt = -2 := by decide
  have k_m1L : (-1 : Int64).toInt = -1 := by decide
  obtain ⟨hjc_o, hlc_o, hG_bs_o, hG_js_o, hG_sh_o, hG_wk_o, hmo_o, hG_ll_o, hlb_o⟩ := w7sh hD hT hG_o hM_o
  have hf_js_o := w9sh hD hT hG_js_o hM_js_o
  refine lv_aload_n hx hb dX9_find_0 rfl (lv_at hl 0 rfl) ?_
  refine lv_iload_n hx hb dX9_find_1 rfl (lv_at hl 1 rfl) ?_
  refine t_calla (va_runV (g := F0 m 2 ls ([.int j, .ref o])) (As := [.int j]) (rest := []) ⟨hx, hb, hml, hown, hts⟩ (c_X9_jobOf_j l D cy A G ws o j hD hT hG_o hM_o hM_js_o hJ1) (cwV 1 hts gX9_find_X9_jobOf rfl rfl rfl (by decide +kernel) ⟨Nat.le_of_ble_eq_true rfl, Nat.le_of_ble_eq_true rfl⟩) (c_preV hM_o rfl hP hK hA hS hV) rfl rfl hl.1 rfl (lv_room (Nat.le_of_ble_eq_true rfl)) dX9_find_2 ⟨Nat.le_of_ble_eq_true rfl, Nat.le_of_ble_eq_true rfl⟩) hS (fun r2 u H locs q2 hP9 hD9 hT9 hS => ?_)
  obtain ⟨rfl, q2⟩ := q2
  have hP : va_P D vwCl ws H := hP9
  rcases r2 with _ | x2
  · skip
    have vn2 := q2.2 rfl
    refine lv_astore_nN (lv' := [(3, .null), (0, .ref o), (1, .int j), (2, .int i0)]) hx hb dX9_find_5 rfl hl (by decide) rfl (fun ls hl => ?_)
    refine lv_aload_nN hx hb dX9_find_6 rfl (lv_at hl 0 rfl) ?_
    refine lv_ifnullN (tgt := 14) hx hb dX9_find_7 (by decide) ?_
    refine lv_ldc2 hx hb hown (hts (.constantLong RX9 143 (-1)) (by decide +kernel)) dX9_find_14 ?_
    exact W.lret (v := (-1 : Int64)) hx hb hr (fun t ht hW => ⟨⟨_, (G, ws), rfl, ⟨hX, (Or.inr ⟨(fun z9 => by first | exact vn2 z9.1 | (have := z9.2; omega)), rfl⟩)⟩, by show va_P D vwCl ws t.heap; rw [ht]; exact hP, hD, hT⟩, hS.F ht⟩) hS.2.2 dX9_find_17
  · skip
    obtain ⟨vj2, fj2⟩ := q2.1 x2 rfl
    obtain ⟨hfa9, hG_xj, hb9, ht9, hM_xj, hM_sj⟩ := hJ vj2
    obtain rfl : xj = x2 := Option.some.inj (hfa9.symm.trans fj2)
    obtain ⟨hG_bj, hG_sj, hJ_xj⟩ := w3sh hD hT hG_xj hb9 hM_xj
    refine lv_astore_n (lv' := [(3, .ref xj), (0, .ref o), (1, .int j), (2, .int i0)]) hx hb dX9_find_5 rfl hl (by decide) rfl (fun ls hl => ?_)
    refine lv_aload_n hx hb dX9_find_6 rfl (lv_at hl 0 rfl) ?_
    refine lv_ifnull hx hb dX9_find_7 ?_
    refine lv_iload_n hx hb dX9_find_10 rfl (lv_at hl 3 rfl) ?_
    refine lv_if_ge (tgt := 18) hx hb dX9_find_11 (by decide) (fun c11 => ?_) (fun c11 => ?_)
    · skip
      have d11 := c11
      rw [fa_le] at d11
      refine lv_aload_n hx hb dX9_find_18 rfl (lv_at hl 1 rfl) ?_
      refine t_get (v := .ref wk_o) (C := RX9) (T := TX9) (N := 9) hx hb hts (by decide +kernel) hown hK hP hM_o rfl 4 (by decide) (hts (.fieldLink RX9 34 "ShadowBench" "walk" "LShadowBench$Walk;") (by decide +kernel)) (fun _ h9 => h9) rfl dX9_find_19 ?_
      obtain ⟨_, hM_wk_o, j_wk_o, y_wk_o, tr_wk_o, sp_wk_o, fd_wk_o, a1_wk_o, a2_wk_o, a3_wk_o, a4_wk_o, a5_wk_o, rfl, hsp_wk_o, hj_wk_o, hG_a1_wk_o, hG_a2_wk_o, hG_a3_wk_o, hG_a4_wk_o, hG_a5_wk_o⟩ := hT _ _ hG_wk_o
      obtain ⟨fw1, hM_a1_wk_o⟩ := cIa hT (Or.inr (Or.inr (Or.inl rfl))) hG_a1_wk_o
      obtain ⟨fw2, hM_a2_wk_o⟩ := cIa hT (Or.inr (Or.inr (Or.inr (Or.inl rfl)))) hG_a2_wk_o
      obtain ⟨fw3, hM_a3_wk_o⟩ := cIa hT (Or.inr (Or.inr (Or.inr (Or.inr (Or.inl rfl))))) hG_a3_wk_o
      obtain ⟨fw4, hM_a4_wk_o⟩ := cIa hT (Or.inr (Or.inr (Or.inr (Or.inr (Or.inr rfl))))) hG_a4_wk_o
      obtain ⟨fw5, hM_a5_wk_o⟩ := cLa hT (Or.inl rfl) hG_a5_wk_o
      have gd0 := rg_cs hb9 (hr9 vj2)
      refine lv_aload_n hx hb dX9_find_22 rfl (lv_at hl 0 rfl) ?_
      refine t_callv (va_runV (g := F0 m 23 ls ([.ref xj, .ref wk_o])) (As := [.ref xj]) (rest := []) ⟨hx, hb, hml, hown, hts⟩ (c_X8_start_x (j_o := j_wk_o) l D cy A G ws wk_o xj hD hT hG_wk_o hM_wk_o hG_xj hM_xj hM_sj hM_a1_wk_o hM_a2_wk_o hM_a3_wk_o hM_a4_wk_o hM_a5_wk_o hb9 ht9) (cwV 1 hts gX9_find_X8_start rfl rfl rfl (by decide +kernel) ⟨Nat.le_of_ble_eq_true rfl, Nat.le_of_ble_eq_true rfl⟩) (c_preV hM_wk_o rfl hP hK hA hS hV) rfl rfl hl.1 rfl (lv_room (Nat.le_of_ble_eq_true rfl)) dX9_find_23 ⟨Nat.le_of_ble_eq_true rfl, Nat.le_of_ble_eq_true rfl⟩) hS (fun u H locs q23 hP9 hD9 hT9 hS => ?_)
      obtain ⟨w23, rfl, hF23, q23⟩ := q23
      have hP : va_P D vwCl w23 H := hP9
      have hD : va_D A w23 := hD9
      have hT : cT cy G w23 := hT9
      have hM_o := hF23 _ _ (fun z9 => z9.elim (cne hG_o hG_wk_o (show (7 : Nat) ≠ 5 by decide)) (fun z9 => z9.elim (cne hG_o hG_a1_wk_o (show (7 : Nat) ≠ 20 by decide)) (fun z9 => z9.elim (cne hG_o hG_a2_wk_o (show (7 : Nat) ≠ 21 by decide)) (fun z9 => z9.elim (cne hG_o hG_a3_wk_o (show (7 : Nat) ≠ 22 by decide)) (fun z9 => z9.elim (cne hG_o hG_a4_wk_o (show (7 : Nat) ≠ 23 by decide)) (cne hG_o hG_a5_wk_o (show (7 : Nat) ≠ 1 by decide))))))) hM_o
      have hM_js_o := hF23 _ _ (fun z9 => z9.elim (cne hG_js_o hG_wk_o (show (9 : Nat) ≠ 5 by decide)) (fun z9 => z9.elim (cne hG_js_o hG_a1_wk_o (show (9 : Nat) ≠ 20 by decide)) (fun z9 => z9.elim (cne hG_js_o hG_a2_wk_o (show (9 : Nat) ≠ 21 by decide)) (fun z9 => z9.elim (cne hG_js_o hG_a3_wk_o (show (9 : Nat) ≠ 22 by decide)) (fun z9 => z9.elim (cne hG_js_o hG_a4_wk_o (show (9 : Nat) ≠ 23 by decide)) (cne hG_js_o hG_a5_wk_o (show (9 : Nat) ≠ 1 by decide))))))) hM_js_o
      have hM_xj := hF23 _ _ (fun z9 => z9.elim (cne hG_xj hG_wk_o (show (3 : Nat) ≠ 5 by decide)) (fun z9 => z9.elim (cne hG_xj hG_a1_wk_o (show (3 : Nat) ≠ 20 by decide)) (fun z9 => z9.elim (cne hG_xj hG_a2_wk_o (show (3 : Nat) ≠ 21 by decide)) (fun z9 => z9.elim (cne hG_xj hG_a3_wk_o (show (3 : Nat) ≠ 22 by decide)) (fun z9 => z9.elim (cne hG_xj hG_a4_wk_o (show (3 : Nat) ≠ 23 by decide)) (cne hG_xj hG_a5_wk_o (show (3 : Nat) ≠ 1 by decide))))))) hM_xj
      have hM_sj := hF23 _ _ (fun z9 => z9.elim (cne hG_sj hG_wk_o (show (14 : Nat) ≠ 5 by decide)) (fun z9 => z9.elim (cne hG_sj hG_a1_wk_o (show (14 : Nat) ≠ 20 by decide)) (fun z9 => z9.elim (cne hG_sj hG_a2_wk_o (show (14 : Nat) ≠ 21 by decide)) (fun z9 => z9.elim (cne hG_sj hG_a3_wk_o (show (14 : Nat) ≠ 22 by decide)) (fun z9 => z9.elim (cne hG_sj hG_a4_wk_o (show (14 : Nat) ≠ 23 by decide)) (cne hG_sj hG_a5_wk_o (show (14 : Nat) ≠ 1 by decide))))))) hM_sj
      have hX := hX.tr ⟨cE.rf, hF23.wk (fun b9 z9 => by rcases z9 with rfl | rfl | rfl | rfl | rfl | rfl; exact (Or.inr ⟨_, hG_wk_o, rfl⟩); exact (Or.inr ⟨_, hG_a1_wk_o, rfl⟩); exact (Or.inr ⟨_, hG_a2_wk_o, rfl⟩); exact (Or.inr ⟨_, hG_a3_wk_o, rfl⟩); exact (Or.inr ⟨_, hG_a4_wk_o, rfl⟩); exact (Or.inr ⟨_, hG_a5_wk_o, rfl⟩)), fun _ _ h9 => Or.inl h9⟩
      obtain ⟨g1_23, g2_23, g3_23, g4_23, g5_23, hc23, hW23⟩ := q23
      have hM_wk_o : cIn w23 wk_o (.inr (7, [.ref xj, .int (nI 0), .int (nI 0), .int 0, .long 0, .ref a1_wk_o, .ref a2_wk_o, .ref a3_wk_o, .ref a4_wk_o, .ref a5_wk_o])) := hW23.1
      have hM_a1_wk_o : cIn w23 a1_wk_o (.inl (cy 0, 6, .inl g1_23)) := hW23.2.1
      have hM_a2_wk_o : cIn w23 a2_wk_o (.inl (cy 0, 6, .inl g2_23)) := hW23.2.2.1
      have hM_a3_wk_o : cIn w23 a3_wk_o (.inl (cy 0, 6, .inl g3_23)) := hW23.2.2.2.1
      have hM_a4_wk_o : cIn w23 a4_wk_o (.inl (cy 0, 6, .inl g4_23)) := hW23.2.2.2.2.1
      have hM_a5_wk_o : cIn w23 a5_wk_o (.inl (cy 1, 6, .inr (.inl g5_23))) := hW23.2.2.2.2.2
      refine lv_iconst (v := 0) hx hb dX9_find_26 (by decide) ?_
      refine lv_istore (lv' := [(4, .int (0 : Int32)), (3, .ref xj), (0, .ref o), (1, .int j), (2, .int i0)]) hx hb dX9_find_27 hl (by decide) rfl (fun ls hl => ?_)
      have loop_29 : ∀ (n : Nat) (k : Nat) (yl : Int32) (tl : Nat) (fdl : Int64) (gl1 : Nat → Int32) (gl2 : Nat → Int32) (gl3 : Nat → Int32) (gl4 : Nat → Int32) (gl5 : Nat → Int64), (k ≤ 200000) → (tl ≤ 200000) → (∃ s, wFo (2 ^ wj) hj (cGo wj oj nj fsj) (cFi kj wj hj tj oj nj fsj) (fun a _ => (a : Int) = i0.toInt) (fun a _ => a + 1) ((0 : Int), (fun _ : Nat => (0 : Nat)), (0 : Nat)) 0 k s k ∧ cRel wj oj nj fsj s yl (nI tl) gl1 gl2 gl3 gl4 gl5 ∧ s.2.2 = tl) → 200001 - k < n → ∀ (Gl29 : cG) (wl29 : va_W), cE G Gl29 → cX none (chs [1, 5, 20, 21, 22, 23]) G ws Gl29 wl29 → va_D A wl29 → cT cy Gl29 wl29 → ∀ (H : Heap) (locs : List Loc), va_P D vwCl wl29 H → va_S A s.heap H locs → cIn wl29 o (.inr (8, [.ref bs_o, .ref js_o, .int jc_o, .ref sh_o, .ref wk_o, va_rf mo_o, .ref ll_o, .int lc_o, va_rf lb_o])) → cIn wl29 xj (.inr (kj, .ref bj :: .ref sj :: .int (nI tj) :: .long oj :: .long nj :: msj)) → cIn wl29 wk_o (.inr (7, [.ref xj, .int yl, .int (nI tl), .int 0, .long fdl, .ref a1_wk_o, .ref a2_wk_o, .ref a3_wk_o, .ref a4_wk_o, .ref a5_wk_o])) → cIn wl29 sj (.inl (cy 0, 44, .inl fsj)) → cIn wl29 a1_wk_o (.inl (cy 0, 6, .inl gl1)) → cIn wl29 a2_wk_o (.inl (cy 0, 6, .inl gl2)) → cIn wl29 a3_wk_o (.inl (cy 0, 6, .inl gl3)) → cIn wl29 a4_wk_o (.inl (cy 0, 6, .inl gl4)) → cIn wl29 a5_wk_o (.inl (cy 1, 6, .inr (.inl gl5))) → ∀ (ls : Array Slot), lv_has ls 5 [(4, .int (nI k)), (3, .ref xj), (0, .ref o), (1, .int j), (2, .int i0)] → W p l e (headSpec wsX9_find ({ frames := 6, cells := 0, slots := 0, locals := 144 })).room s m #[Value.ref o, Value.int j, Value.int i0] below meth c H locs 0 0 (MQ below (va_Ql (fun r0 u => cX none (chs [1, 5, 20, 21, 22, 23]) G ws u.1 u.2 ∧ (((okJob jc_o j ∧ 0 ≤ i0.toInt) ∧ ∃ q k a u, wEn (2 ^ wj) hj (cGo wj oj nj fsj) (cFi kj wj hj tj oj nj fsj) (fun a _ => (a : Int) = i0.toInt) (fun a _ => a + 1) ((0 : Int), (fun _ : Nat => (0 : Nat)), (0 : Nat)) 0 q k a u ∧ r0 = anF q (picL wj u.2.1 hj)) ∨ (¬ (okJob jc_o j ∧ 0 ≤ i0.toInt) ∧ r0 = -1))) (cB D cy A) A) #[Value.ref o, Value.int j, Value.int i0] s 0 0 A) (F0 m 29 ls []) := by
        intro n
        induction n with
        | zero => intro k yl tl fdl gl1 gl2 gl3 gl4 gl5 j29_0 j29_1 j29_2 hn; exact absurd hn (Nat.not_lt_zero _)
        | succ n ih_29 =>
          intro k yl tl fdl gl1 gl2 gl3 gl4 gl5 j29_0 j29_1 j29_2 hn_29 Gl29 wl29 hEl29 hX hD hT H locs hP hS hM_o hM_xj hM_wk_o hM_sj hM_a1_wk_o hM_a2_wk_o hM_a3_wk_o hM_a4_wk_o hM_a5_wk_o ls hl
          have hG_o := hEl29 _ _ hG_o
          have hG_bs_o := hEl29 _ _ hG_bs_o
          have hG_js_o := hEl29 _ _ hG_js_o
          have hG_sh_o := hEl29 _ _ hG_sh_o
          have hG_wk_o := hEl29 _ _ hG_wk_o
          have hG_ll_o := hEl29 _ _ hG_ll_o
          have hG_xj := hEl29 _ _ hG_xj
          have hG_bj := hEl29 _ _ hG_bj
          have hG_sj := hEl29 _ _ hG_sj
          have hG_a1_wk_o := hEl29 _ _ hG_a1_wk_o
          have hG_a2_wk_o := hEl29 _ _ hG_a2_wk_o
          have hG_a3_wk_o := hEl29 _ _ hG_a3_wk_o
          have hG_a4_wk_o := hEl29 _ _ hG_a4_wk_o
          have hG_a5_wk_o := hEl29 _ _ hG_a5_wk_o
          have ik : (nI k).toInt = (k : Int) := nI_toInt (by omega)
          obtain ⟨s9, fo9, rl9, st9⟩ := j29_2
          have gd9 := wFo_gd gd0 k fo9
          have kl9 : 0 + k ≤ s9.2.2 := gd9.2
          refine lv_iload hx hb dX9_find_29 (lv_at hl 0 rfl) ?_
          refine lv_ldc hx hb hown (hts (.constant RX9 135 (1000000)) (by decide +kernel)) dX9_find_31 ?_
          refine lv_icmp_ge (tgt := 66) hx hb dX9_find_33 (by decide) (fun c33 => ?_) (fun c33 => ?_)
          · skip
            have d33 := c33
            rw [fa_le] at d33
            exfalso; omega
          · skip
            have d33 := c33
            rw [fa_le] at d33
            refine lv_aload_n hx hb dX9_find_36 rfl (lv_at hl 2 rfl) ?_
            refine t_get (v := .ref wk_o) (C := RX9) (T := TX9) (N := 9) hx hb hts (by decide +kernel) hown hK hP hM_o rfl 4 (by decide) (hts (.fieldLink RX9 34 "ShadowBench" "walk" "LShadowBench$Walk;") (by decide +kernel)) (fun _ h9 => h9) rfl dX9_find_37 ?_
            refine t_calli (va_runV (g := F0 m 40 ls ([.ref wk_o])) (As := []) (rest := []) ⟨hx, hb, hml, hown, hts⟩ (c_X8_advance_x l D cy A Gl29 wl29 wk_o hD hT hG_wk_o hM_wk_o hG_xj hM_xj hM_sj hM_a1_wk_o hM_a2_wk_o hM_a3_wk_o hM_a4_wk_o hM_a5_wk_o hb9 ht9 gd9.1 (he9 vj2) rl9 rfl (by omega)) (cwV 0 hts gX9_find_X8_advance rfl rfl rfl (by decide +kernel) ⟨Nat.le_of_ble_eq_true rfl, Nat.le_of_ble_eq_true rfl⟩) (c_preV hM_wk_o rfl hP hK hA hS hV) rfl rfl hl.1 rfl (lv_room (Nat.le_of_ble_eq_true rfl)) dX9_find_40 ⟨Nat.le_of_ble_eq_true rfl, Nat.le_of_ble_eq_true rfl⟩) hS (fun r40 u H locs q40 hP9 hD9 hT9 hS => ?_)
            obtain ⟨w40, rfl, hF40, q40⟩ := q40
            have hP : va_P D vwCl w40 H := hP9
            have hD : va_D A w40 := hD9
            have hT : cT cy Gl29 w40 := hT9
            have hM_o := hF40 _ _ (fun z9 => z9.elim (cne hG_o hG_wk_o (show (7 : Nat) ≠ 5 by decide)) (fun z9 => z9.elim (cne hG_o hG_a1_wk_o (show (7 : Nat) ≠ 20 by decide)) (fun z9 => z9.elim (cne hG_o hG_a2_wk_o (show (7 : Nat) ≠ 21 by decide)) (fun z9 => z9.elim (cne hG_o hG_a3_wk_o (show (7 : Nat) ≠ 22 by decide)) (fun z9 => z9.elim (cne hG_o hG_a4_wk_o (show (7 : Nat) ≠ 23 by decide)) (cne hG_o hG_a5_wk_o (show (7 : Nat) ≠ 1 by decide))))))) hM_o
            have hM_xj := hF40 _ _ (fun z9 => z9.elim (cne hG_xj hG_wk_o (show (3 : Nat) ≠ 5 by decide)) (fun z9 => z9.elim (cne hG_xj hG_a1_wk_o (show (3 : Nat) ≠ 20 by decide)) (fun z9 => z9.elim (cne hG_xj hG_a2_wk_o (show (3 : Nat) ≠ 21 by decide)) (fun z9 => z9.elim (cne hG_xj hG_a3_wk_o (show (3 : Nat) ≠ 22 by decide)) (fun z9 => z9.elim (cne hG_xj hG_a4_wk_o (show (3 : Nat) ≠ 23 by decide)) (cne hG_xj hG_a5_wk_o (show (3 : Nat) ≠ 1 by decide))))))) hM_xj
            have hM_sj := hF40 _ _ (fun z9 => z9.elim (cne hG_sj hG_wk_o (show (14 : Nat) ≠ 5 by decide)) (fun z9 => z9.elim (cne hG_sj hG_a1_wk_o (show (14 : Nat) ≠ 20 by decide)) (fun z9 => z9.elim (cne hG_sj hG_a2_wk_o (show (14 : Nat) ≠ 21 by decide)) (fun z9 => z9.elim (cne hG_sj hG_a3_wk_o (show (14 : Nat) ≠ 22 by decide)) (fun z9 => z9.elim (cne hG_sj hG_a4_wk_o (show (14 : Nat) ≠ 23 by decide)) (cne hG_sj hG_a5_wk_o (show (14 : Nat) ≠ 1 by decide))))))) hM_sj
            have hX := hX.tr ⟨cE.rf, hF40.wk (fun b9 z9 => by rcases z9 with rfl | rfl | rfl | rfl | rfl | rfl; exact (Or.inr ⟨_, hG_wk_o, rfl⟩); exact (Or.inr ⟨_, hG_a1_wk_o, rfl⟩); exact (Or.inr ⟨_, hG_a2_wk_o, rfl⟩); exact (Or.inr ⟨_, hG_a3_wk_o, rfl⟩); exact (Or.inr ⟨_, hG_a4_wk_o, rfl⟩); exact (Or.inr ⟨_, hG_a5_wk_o, rfl⟩)), fun _ _ h9 => Or.inl h9⟩
            rcases q40 with ⟨hr40, u9, yA40, gA1_40, gA2_40, gA3_40, gA4_40, gA5_40, ru9, rl8, hW40⟩ | ⟨hr40, q9, u9, yB40, trB40, spB40, fdB40, gB1_40, gB2_40, gB3_40, gB4_40, gB5_40, ru9, hq9, hW40⟩
            · skip
              have hM_wk_o : cIn w40 wk_o (.inr (7, [.ref xj, .int yA40, .int (nI u9.2.2), .int 0, .long (picL wj u9.2.1 hj), .ref a1_wk_o, .ref a2_wk_o, .ref a3_wk_o, .ref a4_wk_o, .ref a5_wk_o])) := hW40.1
              have hM_a1_wk_o : cIn w40 a1_wk_o (.inl (cy 0, 6, .inl gA1_40)) := hW40.2.1
              have hM_a2_wk_o : cIn w40 a2_wk_o (.inl (cy 0, 6, .inl gA2_40)) := hW40.2.2.1
              have hM_a3_wk_o : cIn w40 a3_wk_o (.inl (cy 0, 6, .inl gA3_40)) := hW40.2.2.2.1
              have hM_a4_wk_o : cIn w40 a4_wk_o (.inl (cy 0, 6, .inl gA4_40)) := hW40.2.2.2.2.1
              have hM_a5_wk_o : cIn w40 a5_wk_o (.inl (cy 1, 6, .inr (.inl gA5_40))) := hW40.2.2.2.2.2
              subst hr40
              have gd8 := wRun_2 gd9.1 ru9
              have kk9 : k + 1 ≤ 200000 := by have z1 : u9.2.2 ≤ 200000 := gd8.1.1.2.2; have z2 := gd8.2; omega
              have tt9 : u9.2.2 ≤ 200000 := gd8.1.1.2.2
              refine lv_if_eq (tgt := 66) hx hb dX9_find_43 (by decide) (fun c43 => ?_) (fun c43 => ?_)
              · first | exact absurd c43 (by decide) | exact absurd (by decide) c43
              · skip
                have d43 := c43
                rw [fa_eq] at d43
                refine lv_iload hx hb dX9_find_46 (lv_at hl 0 rfl) ?_
                refine lv_iload_n hx hb dX9_find_48 rfl (lv_at hl 4 rfl) ?_
                refine lv_icmp_ne (tgt := 60) hx hb dX9_find_49 (by decide) (fun c49 => ?_) (fun c49 => ?_)
                · skip
                  have d49 := c49
                  rw [fa_eq] at d49
                  refine lv_iinc (v := (nI (k + 1))) (lv' := [(4, .int (nI (k + 1))), (3, .ref xj), (0, .ref o), (1, .int j), (2, .int i0)]) hx hb dX9_find_60 hl (k := 0) rfl (nI_1 _) (by decide) rfl (fun ls hl => ?_)
                  refine lv_goto (tgt := 29) hx hb dX9_find_63 (by decide) ?_
                  exact ih_29 (k + 1) yA40 u9.2.2 (picL wj u9.2.1 hj) gA1_40 gA2_40 gA3_40 gA4_40 gA5_40 (kk9) (tt9) (⟨u9, ⟨s9, k, fo9, ru9, (fun z9 => by have z8 : (k : Int) = i0.toInt := z9; exact c49 (Int32.toInt_inj.mp (by omega))), rfl⟩, rl8, rfl⟩) (by omega) Gl29 w40 hEl29 hX hD hT _ _ hP hS hM_o hM_xj hM_wk_o hM_sj hM_a1_wk_o hM_a2_wk_o hM_a3_wk_o hM_a4_wk_o hM_a5_wk_o ls (lv_sub hl [0, 1, 2, 3, 4] rfl)
                · skip
                  have d49 := c49
                  rw [fa_eq] at d49
                  have d52 := congrArg Int32.toInt c49
                  refine lv_aload_n hx hb dX9_find_52 rfl (lv_at hl 2 rfl) ?_
                  refine t_get (v := .ref wk_o) (C := RX9) (T := TX9) (N := 9) hx hb hts (by decide +kernel) hown hK hP hM_o rfl 4 (by decide) (hts (.fieldLink RX9 34 "ShadowBench" "walk" "LShadowBench$Walk;") (by decide +kernel)) (fun _ h9 => h9) rfl dX9_find_53 ?_
                  refine t_calll (va_runV (g := F0 m 56 ls ([.ref wk_o])) (As := []) (rest := []) ⟨hx, hb, hml, hown, hts⟩ (c_X8_found_x l D cy A Gl29 w40 wk_o hD hT hG_wk_o hM_wk_o ) (cwV 0 hts gX9_find_X8_found rfl rfl rfl (by decide +kernel) ⟨Nat.le_of_ble_eq_true rfl, Nat.le_of_ble_eq_true rfl⟩) (c_preV hM_wk_o rfl hP hK hA hS hV) rfl rfl hl.1 rfl (lv_room (Nat.le_of_ble_eq_true rfl)) dX9_find_56 ⟨Nat.le_of_ble_eq_true rfl, Nat.le_of_ble_eq_true rfl⟩) hS (fun r56 u H locs q56 hP9 hD9 hT9 hS => ?_)
                  obtain ⟨rfl, q56⟩ := q56
                  have hP : va_P D vwCl w40 H := hP9
                  exact W.lret (v := r56) hx hb hr (fun t ht hW => ⟨⟨_, (Gl29, w40), rfl, ⟨hX, (Or.inl ⟨⟨vj2, by omega⟩, 2, k, k, u9, ⟨s9, fo9, ru9, (fun _ => (by show (k : Int) = i0.toInt; omega))⟩, (by rw [q56]; rfl)⟩)⟩, by show va_P D vwCl w40 t.heap; rw [ht]; exact hP, hD, hT⟩, hS.F ht⟩) hS.2.2 dX9_find_59
            · skip
              have hsb40 : isBo spB40 := hq9.elim (fun z9 => Or.inl z9.2) (fun z9 => Or.inr z9.2)
              have hM_wk_o : cIn w40 wk_o (.inr (7, [.ref xj, .int yB40, .int trB40, .int spB40, .long fdB40, .ref a1_wk_o, .ref a2_wk_o, .ref a3_wk_o, .ref a4_wk_o, .ref a5_wk_o])) := hW40.1
              have hM_a1_wk_o : cIn w40 a1_wk_o (.inl (cy 0, 6, .inl gB1_40)) := hW40.2.1
              have hM_a2_wk_o : cIn w40 a2_wk_o (.inl (cy 0, 6, .inl gB2_40)) := hW40.2.2.1
              have hM_a3_wk_o : cIn w40 a3_wk_o (.inl (cy 0, 6, .inl gB3_40)) := hW40.2.2.2.1
              have hM_a4_wk_o : cIn w40 a4_wk_o (.inl (cy 0, 6, .inl gB4_40)) := hW40.2.2.2.2.1
              have hM_a5_wk_o : cIn w40 a5_wk_o (.inl (cy 1, 6, .inr (.inl gB5_40))) := hW40.2.2.2.2.2
              subst hr40
              refine lv_if_eq (tgt := 66) hx hb dX9_find_43 (by decide) (fun c43 => ?_) (fun c43 => ?_)
              · skip
                have d43 := c43
                rw [fa_eq] at d43
                refine lv_aload_n hx hb dX9_find_66 rfl (lv_at hl 2 rfl) ?_
                refine t_get (v := .ref wk_o) (C := RX9) (T := TX9) (N := 9) hx hb hts (by decide +kernel) hown hK hP hM_o rfl 4 (by decide) (hts (.fieldLink RX9 34 "ShadowBench" "walk" "LShadowBench$Walk;") (by decide +kernel)) (fun _ h9 => h9) rfl dX9_find_67 ?_
                refine t_calli (va_runV (g := F0 m 70 ls ([.ref wk_o])) (As := []) (rest := []) ⟨hx, hb, hml, hown, hts⟩ (c_X8_isSpent_x l D cy A Gl29 w40 wk_o hD hT hG_wk_o hM_wk_o ) (cwV 0 hts gX9_find_X8_isSpent rfl rfl rfl (by decide +kernel) ⟨Nat.le_of_ble_eq_true rfl, Nat.le_of_ble_eq_true rfl⟩) (c_preV hM_wk_o rfl hP hK hA hS hV) rfl rfl hl.1 rfl (lv_room (Nat.le_of_ble_eq_true rfl)) dX9_find_70 ⟨Nat.le_of_ble_eq_true rfl, Nat.le_of_ble_eq_true rfl⟩) hS (fun r70 u H locs q70 hP9 hD9 hT9 hS => ?_)
                obtain ⟨rfl, q70⟩ := q70
                have hP : va_P D vwCl w40 H := hP9
                refine lv_if_eq (tgt := 82) hx hb dX9_find_73 (by decide) (fun c73 => ?_) (fun c73 => ?_)
                · skip
                  have d73 := c73
                  rw [fa_eq] at d73
                  refine lv_ldc2 hx hb hown (hts (.constantLong RX9 151 (-2)) (by decide +kernel)) dX9_find_82 ?_
                  exact W.lret (v := (-2 : Int64)) hx hb hr (fun t ht hW => ⟨⟨_, (Gl29, w40), rfl, ⟨hX, (Or.inl ⟨⟨vj2, by omega⟩, q9, k, k, u9, ⟨s9, fo9, ru9, (fun y9 => by omega)⟩, (by rcases hq9 with ⟨z1, z2⟩ | ⟨z1, z2⟩; (first | exact absurd (q70.trans z2) c73 | (rw [z1]; rfl)); (first | exact absurd (z2.symm.trans (q70.symm.trans c73)) (by decide) | (rw [z1]; rfl)))⟩)⟩, by show va_P D vwCl w40 t.heap; rw [ht]; exact hP, hD, hT⟩, hS.F ht⟩) hS.2.2 dX9_find_85
                · skip
                  have d73 := c73
                  rw [fa_eq] at d73
                  refine lv_ldc2 hx hb hown (hts (.constantLong RX9 149 (-5)) (by decide +kernel)) dX9_find_76 ?_
                  refine lv_goto (tgt := 85) hx hb dX9_find_79 (by decide) ?_
                  exact W.lret (v := (-5 : Int64)) hx hb hr (fun t ht hW => ⟨⟨_, (Gl29, w40), rfl, ⟨hX, (Or.inl ⟨⟨vj2, by omega⟩, q9, k, k, u9, ⟨s9, fo9, ru9, (fun y9 => by omega)⟩, (by rcases hq9 with ⟨z1, z2⟩ | ⟨z1, z2⟩; (first | exact absurd (q70.trans z2) c73 | (rw [z1]; rfl)); (first | exact absurd (z2.symm.trans (q70.symm.trans c73)) (by decide) | (rw [z1]; rfl)))⟩)⟩, by show va_P D vwCl w40 t.heap; rw [ht]; exact hP, hD, hT⟩, hS.F ht⟩) hS.2.2 dX9_find_85
              · first | exact absurd c43 (by decide) | exact absurd (by decide) c43
      exact loop_29 (200001 + 1) 0 (nI 0) 0 0 g1_23 g2_23 g3_23 g4_23 g5_23 (by omega) (by omega) (⟨((0 : Int), (fun _ : Nat => (0 : Nat)), (0 : Nat)), ⟨rfl, rfl⟩, hc23, rfl⟩) (by omega) G w23 cE.rf hX hD hT _ _ hP hS hM_o hM_xj hM_wk_o hM_sj hM_a1_wk_o hM_a2_wk_o hM_a3_wk_o hM_a4_wk_o hM_a5_wk_o ls (lv_sub hl [0, 1, 2, 3, 4] rfl)
    · skip
      have d11 := c11
      rw [fa_le] at d11
      refine lv_ldc2 hx hb hown (hts (.constantLong RX9 143 (-1)) (by decide +kernel)) dX9_find_14 ?_
      exact W.lret (v := (-1 : Int64)) hx hb hr (fun t ht hW => ⟨⟨_, (G, ws), rfl, ⟨hX, (Or.inr ⟨(fun z9 => by first | exact vn2 z9.1 | (have := z9.2; omega)), rfl⟩)⟩, by show va_P D vwCl ws t.heap; rw [ht]; exact hP, hD, hT⟩, hS.F ht⟩) hS.2.2 dX9_find_17
set_option maxHeartbeats 4000000 in
set_option maxRecDepth 100000 in
theorem c_X9_rank_j (l : Launch) (D : va_G) (cy : Nat → ClassId) (A : Nat → Prop) (G : cG) (ws : va_W) (o : Nat) (j : Int32) (p0 : Int64) {bs_o js_o sh_o wk_o ll_o : Nat} {jc_o lc_o : Int32} {mo_o lb_o : Option Nat} {fa : Nat → Option Nat} {xj kj bj sj tj wj hj : Nat} {oj nj : Int64} {msj : List Value} {fsj : Nat → Int32} (hD : va_D A ws) (hT : cT cy G ws) (hG_o : G o = some (7, 0, 0)) (hM_o : cIn ws o (.inr (8, [.ref bs_o, .ref js_o, .int jc_o, .ref sh_o, .ref wk_o, va_rf mo_o, .ref ll_o, .int lc_o, va_rf lb_o]))) (hM_js_o : cIn ws js_o (.inl (cy 4, cqa 8 fa))) (hJ1 : ∀ i : Nat, (i : Int) < jc_o.toInt → ∃ x, fa i = some x) (hJ : okJob jc_o j → jobS cy G ws fa j.toNatClampNeg xj kj bj sj tj wj hj oj nj msj fsj) (hr9 : okJob jc_o j → ∀ y l, y < 4 → l < lnC wj hj y → 0 ≤ (fsj (y * 11 + l)).toInt ∧ (fsj (y * 11 + l)).toInt ≤ 6) (he9 : okJob jc_o j → ∀ s, s < wj * hj → ¬ (lb oj s = true ∧ lb nj s = true)) : Ci l D cy A yX9_rank wsX9_rank ({ frames := 6, cells := 0, slots := 0, locals := 144 }) 0 0 ws [.ref o, .int j, .long p0] (fun r0 u => cX none (chs [1, 5, 20, 21, 22, 23]) G ws u.1 u.2 ∧ (((okJob jc_o j ∧ isPic (wj * hj) p0) ∧ ((fitC kj wj hj tj oj nj fsj p0 ∧ ∃ q k u, wEn (2 ^ wj) hj (cGo wj oj nj fsj) (cFi kj wj hj tj oj nj fsj) (fun _ s => picL wj s.2.1 hj = p0) (fun _ _ => ()) ((0 : Int), (fun _ : Nat => (0 : Nat)), (0 : Nat)) () q k () u ∧ r0 = anR q k) ∨ (¬ fitC kj wj hj tj oj nj fsj p0 ∧ r0 = -2))) ∨ (¬ (okJob jc_o j ∧ isPic (wj * hj) p0) ∧ r0 = -1))) := by
  refine Met.ofW (cc := cX9_rank) (maxL := 6) (ret := (some .int)) (by decide) rfl ?_
  intro p e s m args below meth c s₁ B hml hv
  obtain ⟨rfl, hP, hK, hA, hV⟩ := hv
  have hx := B.exec
  have hb := B.bytes
  have hr := B.returns
  have hts := atoms_spec (ws := wsX9_rank) B.pre
  have hown : s.vm.findClass RX9 = some m.cls := findClass_of_methodNamed B.named
  have hlocks := B.notSynchronized
  have hS : va_S A s.heap s.heap [] := va_S.rf
  have hinJ : ∀ w ∈ wsX10 ++ wsX30 ++ wsX40 ++ wsX50, w ∈ wsX9_rank := by decide +kernel
  have hX : cX none (chs [1, 5, 20, 21, 22, 23]) G ws G ws := cX.rf
  have hl := lv_entry ([.ref o, .int j, .long p0]) (n := 6) (Nat.le_of_ble_eq_true rfl)
  rw [lg_entry_eq]
  generalize (lg_sl ([.ref o, .int j, .long p0]) ++ List.replicate (6 - (lg_sl ([.ref o, .int j, .long p0])).length) Slot.unset).toArray = ls at hl ⊢
  have hl : lv_has ls 6 [(0, .ref o), (1, .int j), (2, .long p0)] := hl
  have k_m5 : (-5 : Int32).toInt = -5 := by decide
  have k_m2 : (-2 : Int32).toInt = -2 := by decide
  have k_m1 : (-1 : Int32).toInt = -1 := by decide
  have k_0 : (0 : Int32).toInt = 0 := by decide
  have k_1000000 : (1000000 : Int32).toInt = 1000000 := by decide
  obtain ⟨hjc_o, hlc_o, hG_bs_o, hG_js_o, hG_sh_o, hG_wk_o, hmo_o, hG_ll_o, hlb_o⟩ := w7sh hD hT hG_o hM_o
  have hf_js_o := w9sh hD hT hG_js_o hM_js_o
  refine lv_aload_n hx hb dX9_rank_0 rfl (lv_at hl 0 rfl) ?_
  refine lv_iload_n hx hb dX9_rank_1 rfl (lv_at hl 1 rfl) ?_
  refine t_calla (va_runV (g := F0 m 2 ls ([.int j, .ref o])) (As := [.int j]) (rest := []) ⟨hx, hb, hml, hown, hts⟩ (c_X9_jobOf_j l D cy A G ws o j hD hT hG_o hM_o hM_js_o hJ1) (cwV 1 hts gX9_rank_X9_jobOf rfl rfl rfl (by decide +kernel) ⟨Nat.le_of_ble_eq_true rfl, Nat.le_of_ble_eq_true rfl⟩) (c_preV hM_o rfl hP hK hA hS hV) rfl rfl hl.1 rfl (lv_room (Nat.le_of_ble_eq_true rfl)) dX9_rank_2 ⟨Nat.le_of_ble_eq_true rfl, Nat.le_of_ble_eq_true rfl⟩) hS (fun r2 u H locs q2 hP9 hD9 hT9 hS => ?_)
  obtain ⟨rfl, q2⟩ := q2
  have hP : va_P D vwCl ws H := hP9
  rcases r2 with _ | x2
  · skip
    have vn2 := q2.2 rfl
    refine lv_astoreN (lv' := [(4, .null), (0, .ref o), (1, .int j), (2, .long p0)]) hx hb dX9_rank_5 hl (by decide) rfl (fun ls hl => ?_)
    refine lv_aloadN hx hb dX9_rank_7 (lv_at hl 0 rfl) ?_
    refine lv_ifnullN (tgt := 24) hx hb dX9_rank_9 (by decide) ?_
    refine lv_iconst (v := (-1)) hx hb dX9_rank_24 (by decide) ?_
    exact W.iret (v := ((-1) : Int32)) hx hb hr (fun t ht hW => ⟨⟨_, (G, ws), rfl, ⟨hX, (Or.inr ⟨(fun z9 => by first | exact vn2 z9.1 | exact b21 z9.2), rfl⟩)⟩, by show va_P D vwCl ws t.heap; rw [ht]; exact hP, hD, hT⟩, hS.F ht⟩) hS.2.2 dX9_rank_25
  · skip
    obtain ⟨vj2, fj2⟩ := q2.1 x2 rfl
    obtain ⟨hfa9, hG_xj, hb9, ht9, hM_xj, hM_sj⟩ := hJ vj2
    obtain rfl : xj = x2 := Option.some.inj (hfa9.symm.trans fj2)
    obtain ⟨hG_bj, hG_sj, hJ_xj⟩ := w3sh hD hT hG_xj hb9 hM_xj
    refine lv_astore (lv' := [(4, .ref xj), (0, .ref o), (1, .int j), (2, .long p0)]) hx hb dX9_rank_5 hl (by decide) rfl (fun ls hl => ?_)
    refine lv_aload hx hb dX9_rank_7 (lv_at hl 0 rfl) ?_
    refine lv_ifnull hx hb dX9_rank_9 ?_
    refine lv_aload hx hb dX9_rank_12 (lv_at hl 0 rfl) ?_
    refine t_getJ (v := .ref bj) hx hb hts hinJ hown hK hP hJ_xj.kc hM_xj 0 (by decide) (hts (.fieldLink RX9 65 "ShadowBench$Job" "board" "LShadowBench$Board;") (by decide +kernel)) (fun _ h9 => h9) rfl dX9_rank_14 ?_
    refine lv_lload_n hx hb dX9_rank_17 rfl (lv_at hl 3 rfl) ?_
    obtain ⟨_, hM_bj, hb_bj, l_bj, f_bj, r_bj, rfl, hG_l_bj, hG_f_bj, hG_r_bj⟩ := hT _ _ hG_bj
    refine t_calli (va_runV (g := F0 m 18 ls ([.long p0, .ref bj])) (As := [.long p0]) (rest := []) ⟨hx, hb, hml, hown, hts⟩ (c_X0_isPicture_x l D cy A G ws bj p0 hD hT hG_bj ) (cwV 1 hts gX9_rank_X0_isPicture rfl rfl rfl (by decide +kernel) ⟨Nat.le_of_ble_eq_true rfl, Nat.le_of_ble_eq_true rfl⟩) (c_preV hM_bj rfl hP hK hA hS hV) rfl rfl hl.1 rfl (lv_room (Nat.le_of_ble_eq_true rfl)) dX9_rank_18 ⟨Nat.le_of_ble_eq_true rfl, Nat.le_of_ble_eq_true rfl⟩) hS (fun r18 u H locs q18 hP9 hD9 hT9 hS => ?_)
    obtain ⟨rfl, q18⟩ := q18
    have hP : va_P D vwCl ws H := hP9
    refine lv_if_ne (tgt := 26) hx hb dX9_rank_21 (by decide) (fun c21 => ?_) (fun c21 => ?_)
    · skip
      have b21 := bo_t q18 c21
      refine lv_aload hx hb dX9_rank_26 (lv_at hl 0 rfl) ?_
      refine lv_lload_n hx hb dX9_rank_28 rfl (lv_at hl 3 rfl) ?_
      refine t_calli (t_runJ (g := F0 m 29 ls ([.long p0, .ref xj])) (As := [.long p0]) (rest := []) ⟨hx, hb, hml, hown, hts⟩ (c_X3_admits_x l D cy A G ws xj p0 hD hT hG_xj hM_xj hM_sj hb9 ht9 b21) (va_cwU 1 hts gX9_rank_X3_admits_u128X1 rfl rfl rfl rfl (by decide +kernel) ⟨Nat.le_of_ble_eq_true rfl, Nat.le_of_ble_eq_true rfl⟩) (cwV 1 hts gX9_rank_X3_admits rfl rfl rfl (by decide +kernel) ⟨Nat.le_of_ble_eq_true rfl, Nat.le_of_ble_eq_true rfl⟩) (va_cwU 1 hts gX9_rank_X3_admits_u128X4 rfl rfl rfl rfl (by decide +kernel) ⟨Nat.le_of_ble_eq_true rfl, Nat.le_of_ble_eq_true rfl⟩) (va_cwU 1 hts gX9_rank_X3_admits_u128X5 rfl rfl rfl rfl (by decide +kernel) ⟨Nat.le_of_ble_eq_true rfl, Nat.le_of_ble_eq_true rfl⟩) hJ_xj.kc hM_xj hP hK c_blind (c_preS hP hK hA hS hV).2 rfl rfl hl.1 rfl (lv_room (Nat.le_of_ble_eq_true rfl)) dX9_rank_29 ⟨Nat.le_of_ble_eq_true rfl, Nat.le_of_ble_eq_true rfl⟩) hS (fun r29 u H locs q29 hP9 hD9 hT9 hS => ?_)
      obtain ⟨rfl, q29⟩ := q29
      have hP : va_P D vwCl ws H := hP9
      refine lv_if_ne (tgt := 38) hx hb dX9_rank_32 (by decide) (fun c32 => ?_) (fun c32 => ?_)
      · skip
        have b32 := bo_t q29 c32
        refine lv_aload_n hx hb dX9_rank_38 rfl (lv_at hl 1 rfl) ?_
        refine t_get (v := .ref wk_o) (C := RX9) (T := TX9) (N := 9) hx hb hts (by decide +kernel) hown hK hP hM_o rfl 4 (by decide) (hts (.fieldLink RX9 34 "ShadowBench" "walk" "LShadowBench$Walk;") (by decide +kernel)) (fun _ h9 => h9) rfl dX9_rank_39 ?_
        obtain ⟨_, hM_wk_o, j_wk_o, y_wk_o, tr_wk_o, sp_wk_o, fd_wk_o, a1_wk_o, a2_wk_o, a3_wk_o, a4_wk_o, a5_wk_o, rfl, hsp_wk_o, hj_wk_o, hG_a1_wk_o, hG_a2_wk_o, hG_a3_wk_o, hG_a4_wk_o, hG_a5_wk_o⟩ := hT _ _ hG_wk_o
        obtain ⟨fw1, hM_a1_wk_o⟩ := cIa hT (Or.inr (Or.inr (Or.inl rfl))) hG_a1_wk_o
        obtain ⟨fw2, hM_a2_wk_o⟩ := cIa hT (Or.inr (Or.inr (Or.inr (Or.inl rfl)))) hG_a2_wk_o
        obtain ⟨fw3, hM_a3_wk_o⟩ := cIa hT (Or.inr (Or.inr (Or.inr (Or.inr (Or.inl rfl))))) hG_a3_wk_o
        obtain ⟨fw4, hM_a4_wk_o⟩ := cIa hT (Or.inr (Or.inr (Or.inr (Or.inr (Or.inr rfl))))) hG_a4_wk_o
        obtain ⟨fw5, hM_a5_wk_o⟩ := cLa hT (Or.inl rfl) hG_a5_wk_o
        have gd0 := rg_cs hb9 (hr9 vj2)
        refine lv_aload hx hb dX9_rank_42 (lv_at hl 0 rfl) ?_
        refine t_callv (va_runV (g := F0 m 44 ls ([.ref xj, .ref wk_o])) (As := [.ref xj]) (rest := []) ⟨hx, hb, hml, hown, hts⟩ (c_X8_start_x (j_o := j_wk_o) l D cy A G ws wk_o xj hD hT hG_wk_o hM_wk_o hG_xj hM_xj hM_sj hM_a1_wk_o hM_a2_wk_o hM_a3_wk_o hM_a4_wk_o hM_a5_wk_o hb9 ht9) (cwV 1 hts gX9_rank_X8_start rfl rfl rfl (by decide +kernel) ⟨Nat.le_of_ble_eq_true rfl, Nat.le_of_ble_eq_true rfl⟩) (c_preV hM_wk_o rfl hP hK hA hS hV) rfl rfl hl.1 rfl (lv_room (Nat.le_of_ble_eq_true rfl)) dX9_rank_44 ⟨Nat.le_of_ble_eq_true rfl, Nat.le_of_ble_eq_true rfl⟩) hS (fun u H locs q44 hP9 hD9 hT9 hS => ?_)
        obtain ⟨w44, rfl, hF44, q44⟩ := q44
        have hP : va_P D vwCl w44 H := hP9
        have hD : va_D A w44 := hD9
        have hT : cT cy G w44 := hT9
        have hM_o := hF44 _ _ (fun z9 => z9.elim (cne hG_o hG_wk_o (show (7 : Nat) ≠ 5 by decide)) (fun z9 => z9.elim (cne hG_o hG_a1_wk_o (show (7 : Nat) ≠ 20 by decide)) (fun z9 => z9.elim (cne hG_o hG_a2_wk_o (show (7 : Nat) ≠ 21 by decide)) (fun z9 => z9.elim (cne hG_o hG_a3_wk_o (show (7 : Nat) ≠ 22 by decide)) (fun z9 => z9.elim (cne hG_o hG_a4_wk_o (show (7 : Nat) ≠ 23 by decide)) (cne hG_o hG_a5_wk_o (show (7 : Nat) ≠ 1 by decide))))))) hM_o
        have hM_js_o := hF44 _ _ (fun z9 => z9.elim (cne hG_js_o hG_wk_o (show (9 : Nat) ≠ 5 by decide)) (fun z9 => z9.elim (cne hG_js_o hG_a1_wk_o (show (9 : Nat) ≠ 20 by decide)) (fun z9 => z9.elim (cne hG_js_o hG_a2_wk_o (show (9 : Nat) ≠ 21 by decide)) (fun z9 => z9.elim (cne hG_js_o hG_a3_wk_o (show (9 : Nat) ≠ 22 by decide)) (fun z9 => z9.elim (cne hG_js_o hG_a4_wk_o (show (9 : Nat) ≠ 23 by decide)) (cne hG_js_o hG_a5_wk_o (show (9 : Nat) ≠ 1 by decide))))))) hM_js_o
        have hM_xj := hF44 _ _ (fun z9 => z9.elim (cne hG_xj hG_wk_o (show (3 : Nat) ≠ 5 by decide)) (fun z9 => z9.elim (cne hG_xj hG_a1_wk_o (show (3 : Nat) ≠ 20 by decide)) (fun z9 => z9.elim (cne hG_xj hG_a2_wk_o (show (3 : Nat) ≠ 21 by decide)) (fun z9 => z9.elim (cne hG_xj hG_a3_wk_o (show (3 : Nat) ≠ 22 by decide)) (fun z9 => z9.elim (cne hG_xj hG_a4_wk_o (show (3 : Nat) ≠ 23 by decide)) (cne hG_xj hG_a5_wk_o (show (3 : Nat) ≠ 1 by decide))))))) hM_xj
        have hM_sj := hF44 _ _ (fun z9 => z9.elim (cne hG_sj hG_wk_o (show (14 : Nat) ≠ 5 by decide)) (fun z9 => z9.elim (cne hG_sj hG_a1_wk_o (show (14 : Nat) ≠ 20 by decide)) (fun z9 => z9.elim (cne hG_sj hG_a2_wk_o (show (14 : Nat) ≠ 21 by decide)) (fun z9 => z9.elim (cne hG_sj hG_a3_wk_o (show (14 : Nat) ≠ 22 by decide)) (fun z9 => z9.elim (cne hG_sj hG_a4_wk_o (show (14 : Nat) ≠ 23 by decide)) (cne hG_sj hG_a5_wk_o (show (14 : Nat) ≠ 1 by decide))))))) hM_sj
        have hM_bj := hF44 _ _ (fun z9 => z9.elim (cne hG_bj hG_wk_o (show (2 : Nat) ≠ 5 by decide)) (fun z9 => z9.elim (cne hG_bj hG_a1_wk_o (show (2 : Nat) ≠ 20 by decide)) (fun z9 => z9.elim (cne hG_bj hG_a2_wk_o (show (2 : Nat) ≠ 21 by decide)) (fun z9 => z9.elim (cne hG_bj hG_a3_wk_o (show (2 : Nat) ≠ 22 by decide)) (fun z9 => z9.elim (cne hG_bj hG_a4_wk_o (show (2 : Nat) ≠ 23 by decide)) (cne hG_bj hG_a5_wk_o (show (2 : Nat) ≠ 1 by decide))))))) hM_bj
        have hX := hX.tr ⟨cE.rf, hF44.wk (fun b9 z9 => by rcases z9 with rfl | rfl | rfl | rfl | rfl | rfl; exact (Or.inr ⟨_, hG_wk_o, rfl⟩); exact (Or.inr ⟨_, hG_a1_wk_o, rfl⟩); exact (Or.inr ⟨_, hG_a2_wk_o, rfl⟩); exact (Or.inr ⟨_, hG_a3_wk_o, rfl⟩); exact (Or.inr ⟨_, hG_a4_wk_o, rfl⟩); exact (Or.inr ⟨_, hG_a5_wk_o, rfl⟩)), fun _ _ h9 => Or.inl h9⟩
        obtain ⟨g1_44, g2_44, g3_44, g4_44, g5_44, hc44, hW44⟩ := q44
        have hM_wk_o : cIn w44 wk_o (.inr (7, [.ref xj, .int (nI 0), .int (nI 0), .int 0, .long 0, .ref a1_wk_o, .ref a2_wk_o, .ref a3_wk_o, .ref a4_wk_o, .ref a5_wk_o])) := hW44.1
        have hM_a1_wk_o : cIn w44 a1_wk_o (.inl (cy 0, 6, .inl g1_44)) := hW44.2.1
        have hM_a2_wk_o : cIn w44 a2_wk_o (.inl (cy 0, 6, .inl g2_44)) := hW44.2.2.1
        have hM_a3_wk_o : cIn w44 a3_wk_o (.inl (cy 0, 6, .inl g3_44)) := hW44.2.2.2.1
        have hM_a4_wk_o : cIn w44 a4_wk_o (.inl (cy 0, 6, .inl g4_44)) := hW44.2.2.2.2.1
        have hM_a5_wk_o : cIn w44 a5_wk_o (.inl (cy 1, 6, .inr (.inl g5_44))) := hW44.2.2.2.2.2
        refine lv_iconst (v := 0) hx hb dX9_rank_47 (by decide) ?_
        refine lv_istore (lv' := [(5, .int (0 : Int32)), (4, .ref xj), (0, .ref o), (1, .int j), (2, .long p0)]) hx hb dX9_rank_48 hl (by decide) rfl (fun ls hl => ?_)
        have loop_50 : ∀ (n : Nat) (k : Nat) (yl : Int32) (tl : Nat) (fdl : Int64) (gl1 : Nat → Int32) (gl2 : Nat → Int32) (gl3 : Nat → Int32) (gl4 : Nat → Int32) (gl5 : Nat → Int64), (k ≤ 200000) → (tl ≤ 200000) → (∃ s, wFo (2 ^ wj) hj (cGo wj oj nj fsj) (cFi kj wj hj tj oj nj fsj) (fun _ s => picL wj s.2.1 hj = p0) (fun _ _ => ()) ((0 : Int), (fun _ : Nat => (0 : Nat)), (0 : Nat)) () k s () ∧ cRel wj oj nj fsj s yl (nI tl) gl1 gl2 gl3 gl4 gl5 ∧ s.2.2 = tl) → 200001 - k < n → ∀ (Gl50 : cG) (wl50 : va_W), cE G Gl50 → cX none (chs [1, 5, 20, 21, 22, 23]) G ws Gl50 wl50 → va_D A wl50 → cT cy Gl50 wl50 → ∀ (H : Heap) (locs : List Loc), va_P D vwCl wl50 H → va_S A s.heap H locs → cIn wl50 o (.inr (8, [.ref bs_o, .ref js_o, .int jc_o, .ref sh_o, .ref wk_o, va_rf mo_o, .ref ll_o, .int lc_o, va_rf lb_o])) → cIn wl50 xj (.inr (kj, .ref bj :: .ref sj :: .int (nI tj) :: .long oj :: .long nj :: msj)) → cIn wl50 wk_o (.inr (7, [.ref xj, .int yl, .int (nI tl), .int 0, .long fdl, .ref a1_wk_o, .ref a2_wk_o, .ref a3_wk_o, .ref a4_wk_o, .ref a5_wk_o])) → cIn wl50 sj (.inl (cy 0, 44, .inl fsj)) → cIn wl50 a1_wk_o (.inl (cy 0, 6, .inl gl1)) → cIn wl50 a2_wk_o (.inl (cy 0, 6, .inl gl2)) → cIn wl50 a3_wk_o (.inl (cy 0, 6, .inl gl3)) → cIn wl50 a4_wk_o (.inl (cy 0, 6, .inl gl4)) → cIn wl50 a5_wk_o (.inl (cy 1, 6, .inr (.inl gl5))) → ∀ (ls : Array Slot), lv_has ls 6 [(5, .int (nI k)), (4, .ref xj), (0, .ref o), (1, .int j), (2, .long p0)] → W p l e (headSpec wsX9_rank ({ frames := 6, cells := 0, slots := 0, locals := 144 })).room s m #[Value.ref o, Value.int j, Value.long p0] below meth c H locs 0 0 (MQ below (va_Qi (fun r0 u => cX none (chs [1, 5, 20, 21, 22, 23]) G ws u.1 u.2 ∧ (((okJob jc_o j ∧ isPic (wj * hj) p0) ∧ ((fitC kj wj hj tj oj nj fsj p0 ∧ ∃ q k u, wEn (2 ^ wj) hj (cGo wj oj nj fsj) (cFi kj wj hj tj oj nj fsj) (fun _ s => picL wj s.2.1 hj = p0) (fun _ _ => ()) ((0 : Int), (fun _ : Nat => (0 : Nat)), (0 : Nat)) () q k () u ∧ r0 = anR q k) ∨ (¬ fitC kj wj hj tj oj nj fsj p0 ∧ r0 = -2))) ∨ (¬ (okJob jc_o j ∧ isPic (wj * hj) p0) ∧ r0 = -1))) (cB D cy A) A) #[Value.ref o, Value.int j, Value.long p0] s 0 0 A) (F0 m 50 ls []) := by
          intro n
          induction n with
          | zero => intro k yl tl fdl gl1 gl2 gl3 gl4 gl5 j50_0 j50_1 j50_2 hn; exact absurd hn (Nat.not_lt_zero _)
          | succ n ih_50 =>
            intro k yl tl fdl gl1 gl2 gl3 gl4 gl5 j50_0 j50_1 j50_2 hn_50 Gl50 wl50 hEl50 hX hD hT H locs hP hS hM_o hM_xj hM_wk_o hM_sj hM_a1_wk_o hM_a2_wk_o hM_a3_wk_o hM_a4_wk_o hM_a5_wk_o ls hl
            have hG_o := hEl50 _ _ hG_o
            have hG_bs_o := hEl50 _ _ hG_bs_o
            have hG_js_o := hEl50 _ _ hG_js_o
            have hG_sh_o := hEl50 _ _ hG_sh_o
            have hG_wk_o := hEl50 _ _ hG_wk_o
            have hG_ll_o := hEl50 _ _ hG_ll_o
            have hG_xj := hEl50 _ _ hG_xj
            have hG_bj := hEl50 _ _ hG_bj
            have hG_sj := hEl50 _ _ hG_sj
            have hG_l_bj := hEl50 _ _ hG_l_bj
            have hG_f_bj := hEl50 _ _ hG_f_bj
            have hG_r_bj := hEl50 _ _ hG_r_bj
            have hG_a1_wk_o := hEl50 _ _ hG_a1_wk_o
            have hG_a2_wk_o := hEl50 _ _ hG_a2_wk_o
            have hG_a3_wk_o := hEl50 _ _ hG_a3_wk_o
            have hG_a4_wk_o := hEl50 _ _ hG_a4_wk_o
            have hG_a5_wk_o := hEl50 _ _ hG_a5_wk_o
            have ik : (nI k).toInt = (k : Int) := nI_toInt (by omega)
            obtain ⟨s9, fo9, rl9, st9⟩ := j50_2
            have gd9 := wFo_gd gd0 k fo9
            have kl9 : 0 + k ≤ s9.2.2 := gd9.2
            refine lv_iload hx hb dX9_rank_50 (lv_at hl 0 rfl) ?_
            refine lv_ldc hx hb hown (hts (.constant RX9 135 (1000000)) (by decide +kernel)) dX9_rank_52 ?_
            refine lv_icmp_ge (tgt := 88) hx hb dX9_rank_54 (by decide) (fun c54 => ?_) (fun c54 => ?_)
            · skip
              have d54 := c54
              rw [fa_le] at d54
              exfalso; omega
            · skip
              have d54 := c54
              rw [fa_le] at d54
              refine lv_aload_n hx hb dX9_rank_57 rfl (lv_at hl 2 rfl) ?_
              refine t_get (v := .ref wk_o) (C := RX9) (T := TX9) (N := 9) hx hb hts (by decide +kernel) hown hK hP hM_o rfl 4 (by decide) (hts (.fieldLink RX9 34 "ShadowBench" "walk" "LShadowBench$Walk;") (by decide +kernel)) (fun _ h9 => h9) rfl dX9_rank_58 ?_
              refine t_calli (va_runV (g := F0 m 61 ls ([.ref wk_o])) (As := []) (rest := []) ⟨hx, hb, hml, hown, hts⟩ (c_X8_advance_x l D cy A Gl50 wl50 wk_o hD hT hG_wk_o hM_wk_o hG_xj hM_xj hM_sj hM_a1_wk_o hM_a2_wk_o hM_a3_wk_o hM_a4_wk_o hM_a5_wk_o hb9 ht9 gd9.1 (he9 vj2) rl9 rfl (by omega)) (cwV 0 hts gX9_rank_X8_advance rfl rfl rfl (by decide +kernel) ⟨Nat.le_of_ble_eq_true rfl, Nat.le_of_ble_eq_true rfl⟩) (c_preV hM_wk_o rfl hP hK hA hS hV) rfl rfl hl.1 rfl (lv_room (Nat.le_of_ble_eq_true rfl)) dX9_rank_61 ⟨Nat.le_of_ble_eq_true rfl, Nat.le_of_ble_eq_true rfl⟩) hS (fun r61 u H locs q61 hP9 hD9 hT9 hS => ?_)
              obtain ⟨w61, rfl, hF61, q61⟩ := q61
              have hP : va_P D vwCl w61 H := hP9
              have hD : va_D A w61 := hD9
              have hT : cT cy Gl50 w61 := hT9
              have hM_o := hF61 _ _ (fun z9 => z9.elim (cne hG_o hG_wk_o (show (7 : Nat) ≠ 5 by decide)) (fun z9 => z9.elim (cne hG_o hG_a1_wk_o (show (7 : Nat) ≠ 20 by decide)) (fun z9 => z9.elim (cne hG_o hG_a2_wk_o (show (7 : Nat) ≠ 21 by decide)) (fun z9 => z9.elim (cne hG_o hG_a3_wk_o (show (7 : Nat) ≠ 22 by decide)) (fun z9 => z9.elim (cne hG_o hG_a4_wk_o (show (7 : Nat) ≠ 23 by decide)) (cne hG_o hG_a5_wk_o (show (7 : Nat) ≠ 1 by decide))))))) hM_o
              have hM_xj := hF61 _ _ (fun z9 => z9.elim (cne hG_xj hG_wk_o (show (3 : Nat) ≠ 5 by decide)) (fun z9 => z9.elim (cne hG_xj hG_a1_wk_o (show (3 : Nat) ≠ 20 by decide)) (fun z9 => z9.elim (cne hG_xj hG_a2_wk_o (show (3 : Nat) ≠ 21 by decide)) (fun z9 => z9.elim (cne hG_xj hG_a3_wk_o (show (3 : Nat) ≠ 22 by decide)) (fun z9 => z9.elim (cne hG_xj hG_a4_wk_o (show (3 : Nat) ≠ 23 by decide)) (cne hG_xj hG_a5_wk_o (show (3 : Nat) ≠ 1 by decide))))))) hM_xj
              have hM_sj := hF61 _ _ (fun z9 => z9.elim (cne hG_sj hG_wk_o (show (14 : Nat) ≠ 5 by decide)) (fun z9 => z9.elim (cne hG_sj hG_a1_wk_o (show (14 : Nat) ≠ 20 by decide)) (fun z9 => z9.elim (cne hG_sj hG_a2_wk_o (show (14 : Nat) ≠ 21 by decide)) (fun z9 => z9.elim (cne hG_sj hG_a3_wk_o (show (14 : Nat) ≠ 22 by decide)) (fun z9 => z9.elim (cne hG_sj hG_a4_wk_o (show (14 : Nat) ≠ 23 by decide)) (cne hG_sj hG_a5_wk_o (show (14 : Nat) ≠ 1 by decide))))))) hM_sj
              have hX := hX.tr ⟨cE.rf, hF61.wk (fun b9 z9 => by rcases z9 with rfl | rfl | rfl | rfl | rfl | rfl; exact (Or.inr ⟨_, hG_wk_o, rfl⟩); exact (Or.inr ⟨_, hG_a1_wk_o, rfl⟩); exact (Or.inr ⟨_, hG_a2_wk_o, rfl⟩); exact (Or.inr ⟨_, hG_a3_wk_o, rfl⟩); exact (Or.inr ⟨_, hG_a4_wk_o, rfl⟩); exact (Or.inr ⟨_, hG_a5_wk_o, rfl⟩)), fun _ _ h9 => Or.inl h9⟩
              rcases q61 with ⟨hr61, u9, yA61, gA1_61, gA2_61, gA3_61, gA4_61, gA5_61, ru9, rl8, hW61⟩ | ⟨hr61, q9, u9, yB61, trB61, spB61, fdB61, gB1_61, gB2_61, gB3_61, gB4_61, gB5_61, ru9, hq9, hW61⟩
              · skip
                have hM_wk_o : cIn w61 wk_o (.inr (7, [.ref xj, .int yA61, .int (nI u9.2.2), .int 0, .long (picL wj u9.2.1 hj), .ref a1_wk_o, .ref a2_wk_o, .ref a3_wk_o, .ref a4_wk_o, .ref a5_wk_o])) := hW61.1
                have hM_a1_wk_o : cIn w61 a1_wk_o (.inl (cy 0, 6, .inl gA1_61)) := hW61.2.1
                have hM_a2_wk_o : cIn w61 a2_wk_o (.inl (cy 0, 6, .inl gA2_61)) := hW61.2.2.1
                have hM_a3_wk_o : cIn w61 a3_wk_o (.inl (cy 0, 6, .inl gA3_61)) := hW61.2.2.2.1
                have hM_a4_wk_o : cIn w61 a4_wk_o (.inl (cy 0, 6, .inl gA4_61)) := hW61.2.2.2.2.1
                have hM_a5_wk_o : cIn w61 a5_wk_o (.inl (cy 1, 6, .inr (.inl gA5_61))) := hW61.2.2.2.2.2
                subst hr61
                have gd8 := wRun_2 gd9.1 ru9
                have kk9 : k + 1 ≤ 200000 := by have z1 : u9.2.2 ≤ 200000 := gd8.1.1.2.2; have z2 := gd8.2; omega
                have tt9 : u9.2.2 ≤ 200000 := gd8.1.1.2.2
                refine lv_if_eq (tgt := 88) hx hb dX9_rank_64 (by decide) (fun c64 => ?_) (fun c64 => ?_)
                · first | exact absurd c64 (by decide) | exact absurd (by decide) c64
                · skip
                  have d64 := c64
                  rw [fa_eq] at d64
                  refine lv_aload_n hx hb dX9_rank_67 rfl (lv_at hl 2 rfl) ?_
                  refine t_get (v := .ref wk_o) (C := RX9) (T := TX9) (N := 9) hx hb hts (by decide +kernel) hown hK hP hM_o rfl 4 (by decide) (hts (.fieldLink RX9 34 "ShadowBench" "walk" "LShadowBench$Walk;") (by decide +kernel)) (fun _ h9 => h9) rfl dX9_rank_68 ?_
                  refine t_calll (va_runV (g := F0 m 71 ls ([.ref wk_o])) (As := []) (rest := []) ⟨hx, hb, hml, hown, hts⟩ (c_X8_found_x l D cy A Gl50 w61 wk_o hD hT hG_wk_o hM_wk_o ) (cwV 0 hts gX9_rank_X8_found rfl rfl rfl (by decide +kernel) ⟨Nat.le_of_ble_eq_true rfl, Nat.le_of_ble_eq_true rfl⟩) (c_preV hM_wk_o rfl hP hK hA hS hV) rfl rfl hl.1 rfl (lv_room (Nat.le_of_ble_eq_true rfl)) dX9_rank_71 ⟨Nat.le_of_ble_eq_true rfl, Nat.le_of_ble_eq_true rfl⟩) hS (fun r71 u H locs q71 hP9 hD9 hT9 hS => ?_)
                  obtain ⟨rfl, q71⟩ := q71
                  have hP : va_P D vwCl w61 H := hP9
                  refine lv_lload_n hx hb dX9_rank_74 rfl (lv_at hl 4 rfl) ?_
                  refine W.lcmp hx hb dX9_rank_75 ?_
                  refine lv_if_ne (tgt := 82) hx hb dX9_rank_76 (by decide) (fun c76 => ?_) (fun c76 => ?_)
                  · skip
                    have d76 := c76
                    rw [lg_cmp_eq, fa_eq64] at d76
                    refine lv_iinc (v := (nI (k + 1))) (lv' := [(5, .int (nI (k + 1))), (4, .ref xj), (0, .ref o), (1, .int j), (2, .long p0)]) hx hb dX9_rank_82 hl (k := 0) rfl (nI_1 _) (by decide) rfl (fun ls hl => ?_)
                    refine lv_goto (tgt := 50) hx hb dX9_rank_85 (by decide) ?_
                    exact ih_50 (k + 1) yA61 u9.2.2 (picL wj u9.2.1 hj) gA1_61 gA2_61 gA3_61 gA4_61 gA5_61 (kk9) (tt9) (⟨u9, ⟨s9, (), fo9, ru9, (fun z9 => c76 ((lg_cmp_eq _ _).mpr (q71.trans z9))), rfl⟩, rl8, rfl⟩) (by omega) Gl50 w61 hEl50 hX hD hT _ _ hP hS hM_o hM_xj hM_wk_o hM_sj hM_a1_wk_o hM_a2_wk_o hM_a3_wk_o hM_a4_wk_o hM_a5_wk_o ls (lv_sub hl [0, 1, 2, 3, 4] rfl)
                  · skip
                    have d76 := c76
                    rw [lg_cmp_eq, fa_eq64] at d76
                    refine lv_iload hx hb dX9_rank_79 (lv_at hl 0 rfl) ?_
                    exact W.iret (v := (nI k)) hx hb hr (fun t ht hW => ⟨⟨_, (Gl50, w61), rfl, ⟨hX, (Or.inl ⟨⟨vj2, b21⟩, Or.inl ⟨b32, 2, k, u9, ⟨s9, fo9, ru9, (fun _ => q71.symm.trans ((lg_cmp_eq _ _).mp c76))⟩, rfl⟩⟩)⟩, by show va_P D vwCl w61 t.heap; rw [ht]; exact hP, hD, hT⟩, hS.F ht⟩) hS.2.2 dX9_rank_81
              · skip
                have hsb61 : isBo spB61 := hq9.elim (fun z9 => Or.inl z9.2) (fun z9 => Or.inr z9.2)
                have hM_wk_o : cIn w61 wk_o (.inr (7, [.ref xj, .int yB61, .int trB61, .int spB61, .long fdB61, .ref a1_wk_o, .ref a2_wk_o, .ref a3_wk_o, .ref a4_wk_o, .ref a5_wk_o])) := hW61.1
                have hM_a1_wk_o : cIn w61 a1_wk_o (.inl (cy 0, 6, .inl gB1_61)) := hW61.2.1
                have hM_a2_wk_o : cIn w61 a2_wk_o (.inl (cy 0, 6, .inl gB2_61)) := hW61.2.2.1
                have hM_a3_wk_o : cIn w61 a3_wk_o (.inl (cy 0, 6, .inl gB3_61)) := hW61.2.2.2.1
                have hM_a4_wk_o : cIn w61 a4_wk_o (.inl (cy 0, 6, .inl gB4_61)) := hW61.2.2.2.2.1
                have hM_a5_wk_o : cIn w61 a5_wk_o (.inl (cy 1, 6, .inr (.inl gB5_61))) := hW61.2.2.2.2.2
                subst hr61
                refine lv_if_eq (tgt := 88) hx hb dX9_rank_64 (by decide) (fun c64 => ?_) (fun c64 => ?_)
                · skip
                  have d64 := c64
                  rw [fa_eq] at d64
                  refine lv_bipush (v := (-5)) hx hb dX9_rank_88 (by decide) ?_
                  exact W.iret (v := ((-5) : Int32)) hx hb hr (fun t ht hW => ⟨⟨_, (Gl50, w61), rfl, ⟨hX, (Or.inl ⟨⟨vj2, b21⟩, Or.inl ⟨b32, q9, k, u9, ⟨s9, fo9, ru9, (fun y9 => by omega)⟩, (by rcases hq9 with ⟨z1, z2⟩ | ⟨z1, z2⟩; (rw [z1]; rfl); (rw [z1]; rfl))⟩⟩)⟩, by show va_P D vwCl w61 t.heap; rw [ht]; exact hP, hD, hT⟩, hS.F ht⟩) hS.2.2 dX9_rank_90
                · first | exact absurd c64 (by decide) | exact absurd (by decide) c64
        exact loop_50 (200001 + 1) 0 (nI 0) 0 0 g1_44 g2_44 g3_44 g4_44 g5_44 (by omega) (by omega) (⟨((0 : Int), (fun _ : Nat => (0 : Nat)), (0 : Nat)), ⟨rfl, rfl⟩, hc44, rfl⟩) (by omega) G w44 cE.rf hX hD hT _ _ hP hS hM_o hM_xj hM_wk_o hM_sj hM_a1_wk_o hM_a2_wk_o hM_a3_wk_o hM_a4_wk_o hM_a5_wk_o ls (lv_sub hl [0, 1, 2, 3, 4] rfl)
      · skip
        have b32 := bo_f q29 c32
        refine lv_bipush (v := (-2)) hx hb dX9_rank_35 (by decide) ?_
        exact W.iret (v := ((-2) : Int32)) hx hb hr (fun t ht hW => ⟨⟨_, (G, ws), rfl, ⟨hX, (Or.inl ⟨⟨vj2, b21⟩, Or.inr ⟨b32, rfl⟩⟩)⟩, by show va_P D vwCl ws t.heap; rw [ht]; exact hP, hD, hT⟩, hS.F ht⟩) hS.2.2 dX9_rank_37
    · skip
      have b21 := bo_f q18 c21
      refine lv_iconst (v := (-1)) hx hb dX9_rank_24 (by decide) ?_
      exact W.iret (v := ((-1) : Int32)) hx hb hr (fun t ht hW => ⟨⟨_, (G, ws), rfl, ⟨hX, (Or.inr ⟨(fun z9 => by first | exact vn2 z9.1 | exact b21 z9.2), rfl⟩)⟩, by show va_P D vwCl ws t.heap; rw [ht]; exact hP, hD, hT⟩, hS.F ht⟩) hS.2.2 dX9_rank_25
set_option maxHeartbeats 4000000 in
set_option maxRecDepth 100000 in
theorem c_X9_sure_j (l : Launch) (D : va_G) (cy : Nat → ClassId) (A : Nat → Prop) (G : cG) (ws : va_W) (o : Nat) (j : Int32) (s0 : Int32) {bs_o js_o sh_o wk_o ll_o : Nat} {jc_o lc_o : Int32} {mo_o lb_o : Option Nat} {fa : Nat → Option Nat} {xj kj bj sj tj wj hj : Nat} {oj nj : Int64} {msj : List Value} {fsj : Nat → Int32} (hD : va_D A ws) (hT : cT cy G ws) (hG_o : G o = some (7, 0, 0)) (hM_o : cIn ws o (.inr (8, [.ref bs_o, .ref js_o, .int jc_o, .ref sh_o, .ref wk_o, va_rf mo_o, .ref ll_o, .int lc_o, va_rf lb_o]))) (hM_js_o : cIn ws js_o (.inl (cy 4, cqa 8 fa))) (hJ1 : ∀ i : Nat, (i : Int) < jc_o.toInt → ∃ x, fa i = some x) (hJ : okJob jc_o j → jobS cy G ws fa j.toNatClampNeg xj kj bj sj tj wj hj oj nj msj fsj) (hr9 : okJob jc_o j → ∀ y l, y < 4 → l < lnC wj hj y → 0 ≤ (fsj (y * 11 + l)).toInt ∧ (fsj (y * 11 + l)).toInt ≤ 6) (he9 : okJob jc_o j → ∀ s, s < wj * hj → ¬ (lb oj s = true ∧ lb nj s = true)) : Ci l D cy A yX9_sure wsX9_sure ({ frames := 6, cells := 0, slots := 0, locals := 144 }) 0 0 ws [.ref o, .int j, .int s0] (fun r0 u => cX none (chs [1, 5, 20, 21, 22, 23]) G ws u.1 u.2 ∧ (((okJob jc_o j ∧ 0 ≤ s0.toInt ∧ s0.toInt < ((wj * hj : Nat) : Int)) ∧ ∃ q k a u, wEn (2 ^ wj) hj (cGo wj oj nj fsj) (cFi kj wj hj tj oj nj fsj) (fun _ _ => False) (fun a s => a + (lb (picL wj s.2.1 hj) s0.toNatClampNeg).toNat) ((0 : Int), (fun _ : Nat => (0 : Nat)), (0 : Nat)) 0 q k a u ∧ r0 = anS q k a) ∨ (¬ (okJob jc_o j ∧ 0 ≤ s0.toInt ∧ s0.toInt < ((wj * hj : Nat) : Int)) ∧ r0 = -1))) := by
  refine Met.ofW (cc := cX9_sure) (maxL := 6) (ret := (some .int)) (by decide) rfl ?_
  intro p e s m args below meth c s₁ B hml hv
  obtain ⟨rfl, hP, hK, hA, hV⟩ := hv
  have hx := B.exec
  have hb := B.bytes
  have hr := B.returns
  have hts := atoms_spec (ws := wsX9_sure) B.pre
  have hown : s.vm.findClass RX9 = some m.cls := findClass_of_methodNamed B.named
  have hlocks := B.notSynchronized
  have hS : va_S A s.heap s.heap [] := va_S.rf
  have hinJ : ∀ w ∈ wsX10 ++ wsX30 ++ wsX40 ++ wsX50, w ∈ wsX9_sure := by decide +kernel
  have hX : cX none (chs [1, 5, 20, 21, 22, 23]) G ws G ws := cX.rf
  have hl := lv_entry ([.ref o, .int j, .int s0]) (n := 6) (Nat.le_of_ble_eq_true rfl)
  rw [lg_entry_eq]
  generalize (lg_sl ([.ref o, .int j, .int s0]) ++ List.replicate (6 - (lg_sl ([.ref o, .int j, .int s0])).length) Slot.unset).toArray = ls at hl ⊢
  have hl : lv_has ls 6 [(0, .ref o), (1, .int j), (2, .int s0)] := hl
  have k_m5 : (-5 : Int32).toInt = -5 := by decide
  have k_m2 : (-2 : Int32).toInt = -2 := by decide
  have k_m1 : (-1 : Int32).toInt = -1 := by decide
  have k_0 : (0 : Int32).toInt = 0 := by decide
  have k_1 : (1 : Int32).toInt = 1 := by decide
  have k_2 : (2 : Int32).toInt = 2 := by decide
  have k_1000000 : (1000000 : Int32).toInt = 1000000 := by decide
  have k_1L : (1 : Int64).toInt = 1 := by decide
  obtain ⟨hjc_o, hlc_o, hG_bs_o, hG_js_o, hG_sh_o, hG_wk_o, hmo_o, hG_ll_o, hlb_o⟩ := w7sh hD hT hG_o hM_o
  have hf_js_o := w9sh hD hT hG_js_o hM_js_o
  refine lv_aload_n hx hb dX9_sure_0 rfl (lv_at hl 0 rfl) ?_
  refine lv_iload_n hx hb dX9_sure_1 rfl (lv_at hl 1 rfl) ?_
  refine t_calla (va_runV (g := F0 m 2 ls ([.int j, .ref o])) (As := [.int j]) (rest := []) ⟨hx, hb, hml, hown, hts⟩ (c_X9_jobOf_j l D cy A G ws o j hD hT hG_o hM_o hM_js_o hJ1) (cwV 1 hts gX9_sure_X9_jobOf rfl rfl rfl (by decide +kernel) ⟨Nat.le_of_ble_eq_true rfl, Nat.le_of_ble_eq_true rfl⟩) (c_preV hM_o rfl hP hK hA hS hV) rfl rfl hl.1 rfl (lv_room (Nat.le_of_ble_eq_true rfl)) dX9_sure_2 ⟨Nat.le_of_ble_eq_true rfl, Nat.le_of_ble_eq_true rfl⟩) hS (fun r2 u H locs q2 hP9 hD9 hT9 hS => ?_)
  obtain ⟨rfl, q2⟩ := q2
  have hP : va_P D vwCl ws H := hP9
  rcases r2 with _ | x2
  · skip
    have vn2 := q2.2 rfl
    refine lv_astore_nN (lv' := [(3, .null), (0, .ref o), (1, .int j), (2, .int s0)]) hx hb dX9_sure_5 rfl hl (by decide) rfl (fun ls hl => ?_)
    refine lv_aload_nN hx hb dX9_sure_6 rfl (lv_at hl 0 rfl) ?_
    refine lv_ifnullN (tgt := 21) hx hb dX9_sure_7 (by decide) ?_
    refine lv_iconst (v := (-1)) hx hb dX9_sure_21 (by decide) ?_
    exact W.iret (v := ((-1) : Int32)) hx hb hr (fun t ht hW => ⟨⟨_, (G, ws), rfl, ⟨hX, (Or.inr ⟨(fun z9 => by first | exact vn2 z9.1 | exact b18 z9.2), rfl⟩)⟩, by show va_P D vwCl ws t.heap; rw [ht]; exact hP, hD, hT⟩, hS.F ht⟩) hS.2.2 dX9_sure_22
  · skip
    obtain ⟨vj2, fj2⟩ := q2.1 x2 rfl
    obtain ⟨hfa9, hG_xj, hb9, ht9, hM_xj, hM_sj⟩ := hJ vj2
    obtain rfl : xj = x2 := Option.some.inj (hfa9.symm.trans fj2)
    obtain ⟨hG_bj, hG_sj, hJ_xj⟩ := w3sh hD hT hG_xj hb9 hM_xj
    refine lv_astore_n (lv' := [(3, .ref xj), (0, .ref o), (1, .int j), (2, .int s0)]) hx hb dX9_sure_5 rfl hl (by decide) rfl (fun ls hl => ?_)
    refine lv_aload_n hx hb dX9_sure_6 rfl (lv_at hl 0 rfl) ?_
    refine lv_ifnull hx hb dX9_sure_7 ?_
    refine lv_aload_n hx hb dX9_sure_10 rfl (lv_at hl 0 rfl) ?_
    refine t_getJ (v := .ref bj) hx hb hts hinJ hown hK hP hJ_xj.kc hM_xj 0 (by decide) (hts (.fieldLink RX9 65 "ShadowBench$Job" "board" "LShadowBench$Board;") (by decide +kernel)) (fun _ h9 => h9) rfl dX9_sure_11 ?_
    refine lv_iload_n hx hb dX9_sure_14 rfl (lv_at hl 3 rfl) ?_
    obtain ⟨_, hM_bj, hb_bj, l_bj, f_bj, r_bj, rfl, hG_l_bj, hG_f_bj, hG_r_bj⟩ := hT _ _ hG_bj
    refine t_calli (va_runV (g := F0 m 15 ls ([.int s0, .ref bj])) (As := [.int s0]) (rest := []) ⟨hx, hb, hml, hown, hts⟩ (c_X0_isSquare l D cy A G ws bj s0 hD hT hG_bj ) (cwV 1 hts gX9_sure_X0_isSquare rfl rfl rfl (by decide +kernel) ⟨Nat.le_of_ble_eq_true rfl, Nat.le_of_ble_eq_true rfl⟩) (c_preV hM_bj rfl hP hK hA hS hV) rfl rfl hl.1 rfl (lv_room (Nat.le_of_ble_eq_true rfl)) dX9_sure_15 ⟨Nat.le_of_ble_eq_true rfl, Nat.le_of_ble_eq_true rfl⟩) hS (fun r15 u H locs q15 hP9 hD9 hT9 hS => ?_)
    obtain ⟨rfl, q15⟩ := q15
    have hP : va_P D vwCl ws H := hP9
    refine lv_if_ne (tgt := 23) hx hb dX9_sure_18 (by decide) (fun c18 => ?_) (fun c18 => ?_)
    · skip
      have b18 := bo_t q15 c18
      have m36 := cb_mul hb9
      have cs9 := m_cl (x := s0) (by omega)
      refine lv_aload_n hx hb dX9_sure_23 rfl (lv_at hl 1 rfl) ?_
      refine t_get (v := .ref wk_o) (C := RX9) (T := TX9) (N := 9) hx hb hts (by decide +kernel) hown hK hP hM_o rfl 4 (by decide) (hts (.fieldLink RX9 34 "ShadowBench" "walk" "LShadowBench$Walk;") (by decide +kernel)) (fun _ h9 => h9) rfl dX9_sure_24 ?_
      obtain ⟨_, hM_wk_o, j_wk_o, y_wk_o, tr_wk_o, sp_wk_o, fd_wk_o, a1_wk_o, a2_wk_o, a3_wk_o, a4_wk_o, a5_wk_o, rfl, hsp_wk_o, hj_wk_o, hG_a1_wk_o, hG_a2_wk_o, hG_a3_wk_o, hG_a4_wk_o, hG_a5_wk_o⟩ := hT _ _ hG_wk_o
      obtain ⟨fw1, hM_a1_wk_o⟩ := cIa hT (Or.inr (Or.inr (Or.inl rfl))) hG_a1_wk_o
      obtain ⟨fw2, hM_a2_wk_o⟩ := cIa hT (Or.inr (Or.inr (Or.inr (Or.inl rfl)))) hG_a2_wk_o
      obtain ⟨fw3, hM_a3_wk_o⟩ := cIa hT (Or.inr (Or.inr (Or.inr (Or.inr (Or.inl rfl))))) hG_a3_wk_o
      obtain ⟨fw4, hM_a4_wk_o⟩ := cIa hT (Or.inr (Or.inr (Or.inr (Or.inr (Or.inr rfl))))) hG_a4_wk_o
      obtain ⟨fw5, hM_a5_wk_o⟩ := cLa hT (Or.inl rfl) hG_a5_wk_o
      have gd0 := rg_cs hb9 (hr9 vj2)
      refine lv_aload_n hx hb dX9_sure_27 rfl (lv_at hl 0 rfl) ?_
      refine t_callv (va_runV (g := F0 m 28 ls ([.ref xj, .ref wk_o])) (As := [.ref xj]) (rest := []) ⟨hx, hb, hml, hown, hts⟩ (c_X8_start_x (j_o := j_wk_o) l D cy A G ws wk_o xj hD hT hG_wk_o hM_wk_o hG_xj hM_xj hM_sj hM_a1_wk_o hM_a2_wk_o hM_a3_wk_o hM_a4_wk_o hM_a5_wk_o hb9 ht9) (cwV 1 hts gX9_sure_X8_start rfl rfl rfl (by decide +kernel) ⟨Nat.le_of_ble_eq_true rfl, Nat.le_of_ble_eq_true rfl⟩) (c_preV hM_wk_o rfl hP hK hA hS hV) rfl rfl hl.1 rfl (lv_room (Nat.le_of_ble_eq_true rfl)) dX9_sure_28 ⟨Nat.le_of_ble_eq_true rfl, Nat.le_of_ble_eq_true rfl⟩) hS (fun u H locs q28 hP9 hD9 hT9 hS => ?_)
      obtain ⟨w28, rfl, hF28, q28⟩ := q28
      have hP : va_P D vwCl w28 H := hP9
      have hD : va_D A w28 := hD9
      have hT : cT cy G w28 := hT9
      have hM_o := hF28 _ _ (fun z9 => z9.elim (cne hG_o hG_wk_o (show (7 : Nat) ≠ 5 by decide)) (fun z9 => z9.elim (cne hG_o hG_a1_wk_o (show (7 : Nat) ≠ 20 by decide)) (fun z9 => z9.elim (cne hG_o hG_a2_wk_o (show (7 : Nat) ≠ 21 by decide)) (fun z9 => z9.elim (cne hG_o hG_a3_wk_o (show (7 : Nat) ≠ 22 by decide)) (fun z9 => z9.elim (cne hG_o hG_a4_wk_o (show (7 : Nat) ≠ 23 by decide)) (cne hG_o hG_a5_wk_o (show (7 : Nat) ≠ 1 by decide))))))) hM_o
      have hM_js_o := hF28 _ _ (fun z9 => z9.elim (cne hG_js_o hG_wk_o (show (9 : Nat) ≠ 5 by decide)) (fun z9 => z9.elim (cne hG_js_o hG_a1_wk_o (show (9 : Nat) ≠ 20 by decide)) (fun z9 => z9.elim (cne hG_js_o hG_a2_wk_o (show (9 : Nat) ≠ 21 by decide)) (fun z9 => z9.elim (cne hG_js_o hG_a3_wk_o (show (9 : Nat) ≠ 22 by decide)) (fun z9 => z9.elim (cne hG_js_o hG_a4_wk_o (show (9 : Nat) ≠ 23 by decide)) (cne hG_js_o hG_a5_wk_o (show (9 : Nat) ≠ 1 by decide))))))) hM_js_o
      have hM_xj := hF28 _ _ (fun z9 => z9.elim (cne hG_xj hG_wk_o (show (3 : Nat) ≠ 5 by decide)) (fun z9 => z9.elim (cne hG_xj hG_a1_wk_o (show (3 : Nat) ≠ 20 by decide)) (fun z9 => z9.elim (cne hG_xj hG_a2_wk_o (show (3 : Nat) ≠ 21 by decide)) (fun z9 => z9.elim (cne hG_xj hG_a3_wk_o (show (3 : Nat) ≠ 22 by decide)) (fun z9 => z9.elim (cne hG_xj hG_a4_wk_o (show (3 : Nat) ≠ 23 by decide)) (cne hG_xj hG_a5_wk_o (show (3 : Nat) ≠ 1 by decide))))))) hM_xj
      have hM_sj := hF28 _ _ (fun z9 => z9.elim (cne hG_sj hG_wk_o (show (14 : Nat) ≠ 5 by decide)) (fun z9 => z9.elim (cne hG_sj hG_a1_wk_o (show (14 : Nat) ≠ 20 by decide)) (fun z9 => z9.elim (cne hG_sj hG_a2_wk_o (show (14 : Nat) ≠ 21 by decide)) (fun z9 => z9.elim (cne hG_sj hG_a3_wk_o (show (14 : Nat) ≠ 22 by decide)) (fun z9 => z9.elim (cne hG_sj hG_a4_wk_o (show (14 : Nat) ≠ 23 by decide)) (cne hG_sj hG_a5_wk_o (show (14 : Nat) ≠ 1 by decide))))))) hM_sj
      have hM_bj := hF28 _ _ (fun z9 => z9.elim (cne hG_bj hG_wk_o (show (2 : Nat) ≠ 5 by decide)) (fun z9 => z9.elim (cne hG_bj hG_a1_wk_o (show (2 : Nat) ≠ 20 by decide)) (fun z9 => z9.elim (cne hG_bj hG_a2_wk_o (show (2 : Nat) ≠ 21 by decide)) (fun z9 => z9.elim (cne hG_bj hG_a3_wk_o (show (2 : Nat) ≠ 22 by decide)) (fun z9 => z9.elim (cne hG_bj hG_a4_wk_o (show (2 : Nat) ≠ 23 by decide)) (cne hG_bj hG_a5_wk_o (show (2 : Nat) ≠ 1 by decide))))))) hM_bj
      have hX := hX.tr ⟨cE.rf, hF28.wk (fun b9 z9 => by rcases z9 with rfl | rfl | rfl | rfl | rfl | rfl; exact (Or.inr ⟨_, hG_wk_o, rfl⟩); exact (Or.inr ⟨_, hG_a1_wk_o, rfl⟩); exact (Or.inr ⟨_, hG_a2_wk_o, rfl⟩); exact (Or.inr ⟨_, hG_a3_wk_o, rfl⟩); exact (Or.inr ⟨_, hG_a4_wk_o, rfl⟩); exact (Or.inr ⟨_, hG_a5_wk_o, rfl⟩)), fun _ _ h9 => Or.inl h9⟩
      obtain ⟨g1_28, g2_28, g3_28, g4_28, g5_28, hc28, hW28⟩ := q28
      have hM_wk_o : cIn w28 wk_o (.inr (7, [.ref xj, .int (nI 0), .int (nI 0), .int 0, .long 0, .ref a1_wk_o, .ref a2_wk_o, .ref a3_wk_o, .ref a4_wk_o, .ref a5_wk_o])) := hW28.1
      have hM_a1_wk_o : cIn w28 a1_wk_o (.inl (cy 0, 6, .inl g1_28)) := hW28.2.1
      have hM_a2_wk_o : cIn w28 a2_wk_o (.inl (cy 0, 6, .inl g2_28)) := hW28.2.2.1
      have hM_a3_wk_o : cIn w28 a3_wk_o (.inl (cy 0, 6, .inl g3_28)) := hW28.2.2.2.1
      have hM_a4_wk_o : cIn w28 a4_wk_o (.inl (cy 0, 6, .inl g4_28)) := hW28.2.2.2.2.1
      have hM_a5_wk_o : cIn w28 a5_wk_o (.inl (cy 1, 6, .inr (.inl g5_28))) := hW28.2.2.2.2.2
      refine lv_iconst (v := 0) hx hb dX9_sure_31 (by decide) ?_
      refine lv_istore (lv' := [(4, .int (0 : Int32)), (3, .ref xj), (0, .ref o), (1, .int j), (2, .int s0)]) hx hb dX9_sure_32 hl (by decide) rfl (fun ls hl => ?_)
      refine lv_iconst (v := 0) hx hb dX9_sure_34 (by decide) ?_
      refine lv_istore (lv' := [(5, .int (0 : Int32)), (4, .int (0 : Int32)), (3, .ref xj), (0, .ref o), (1, .int j), (2, .int s0)]) hx hb dX9_sure_35 hl (by decide) rfl (fun ls hl => ?_)
      have loop_37 : ∀ (n : Nat) (x5 : Int32) (k : Nat) (yl : Int32) (tl : Nat) (fdl : Int64) (gl1 : Nat → Int32) (gl2 : Nat → Int32) (gl3 : Nat → Int32) (gl4 : Nat → Int32) (gl5 : Nat → Int64) (a5 : Nat), (k ≤ 200000) → (tl ≤ 200000) → (∃ s, wFo (2 ^ wj) hj (cGo wj oj nj fsj) (cFi kj wj hj tj oj nj fsj) (fun _ _ => False) (fun a s => a + (lb (picL wj s.2.1 hj) s0.toNatClampNeg).toNat) ((0 : Int), (fun _ : Nat => (0 : Nat)), (0 : Nat)) 0 k s a5 ∧ cRel wj oj nj fsj s yl (nI tl) gl1 gl2 gl3 gl4 gl5 ∧ s.2.2 = tl) → (x5 = nI a5 ∧ a5 ≤ k) → 200001 - k < n → ∀ (Gl37 : cG) (wl37 : va_W), cE G Gl37 → cX none (chs [1, 5, 20, 21, 22, 23]) G ws Gl37 wl37 → va_D A wl37 → cT cy Gl37 wl37 → ∀ (H : Heap) (locs : List Loc), va_P D vwCl wl37 H → va_S A s.heap H locs → cIn wl37 o (.inr (8, [.ref bs_o, .ref js_o, .int jc_o, .ref sh_o, .ref wk_o, va_rf mo_o, .ref ll_o, .int lc_o, va_rf lb_o])) → cIn wl37 xj (.inr (kj, .ref bj :: .ref sj :: .int (nI tj) :: .long oj :: .long nj :: msj)) → cIn wl37 wk_o (.inr (7, [.ref xj, .int yl, .int (nI tl), .int 0, .long fdl, .ref a1_wk_o, .ref a2_wk_o, .ref a3_wk_o, .ref a4_wk_o, .ref a5_wk_o])) → cIn wl37 sj (.inl (cy 0, 44, .inl fsj)) → cIn wl37 a1_wk_o (.inl (cy 0, 6, .inl gl1)) → cIn wl37 a2_wk_o (.inl (cy 0, 6, .inl gl2)) → cIn wl37 a3_wk_o (.inl (cy 0, 6, .inl gl3)) → cIn wl37 a4_wk_o (.inl (cy 0, 6, .inl gl4)) → cIn wl37 a5_wk_o (.inl (cy 1, 6, .inr (.inl gl5))) → ∀ (ls : Array Slot), lv_has ls 6 [(5, .int x5), (4, .int (nI k)), (3, .ref xj), (0, .ref o), (1, .int j), (2, .int s0)] → W p l e (headSpec wsX9_sure ({ frames := 6, cells := 0, slots := 0, locals := 144 })).room s m #[Value.ref o, Value.int j, Value.int s0] below meth c H locs 0 0 (MQ below (va_Qi (fun r0 u => cX none (chs [1, 5, 20, 21, 22, 23]) G ws u.1 u.2 ∧ (((okJob jc_o j ∧ 0 ≤ s0.toInt ∧ s0.toInt < ((wj * hj : Nat) : Int)) ∧ ∃ q k a u, wEn (2 ^ wj) hj (cGo wj oj nj fsj) (cFi kj wj hj tj oj nj fsj) (fun _ _ => False) (fun a s => a + (lb (picL wj s.2.1 hj) s0.toNatClampNeg).toNat) ((0 : Int), (fun _ : Nat => (0 : Nat)), (0 : Nat)) 0 q k a u ∧ r0 = anS q k a) ∨ (¬ (okJob jc_o j ∧ 0 ≤ s0.toInt ∧ s0.toInt < ((wj * hj : Nat) : Int)) ∧ r0 = -1))) (cB D cy A) A) #[Value.ref o, Value.int j, Value.int s0] s 0 0 A) (F0 m 37 ls []) := by
        intro n
        induction n with
        | zero => intro x5 k yl tl fdl gl1 gl2 gl3 gl4 gl5 a5 j37_0 j37_1 j37_2 j37_3 hn; exact absurd hn (Nat.not_lt_zero _)
        | succ n ih_37 =>
          intro x5 k yl tl fdl gl1 gl2 gl3 gl4 gl5 a5 j37_0 j37_1 j37_2 j37_3 hn_37 Gl37 wl37 hEl37 hX hD hT H locs hP hS hM_o hM_xj hM_wk_o hM_sj hM_a1_wk_o hM_a2_wk_o hM_a3_wk_o hM_a4_wk_o hM_a5_wk_o ls hl
          have hG_o := hEl37 _ _ hG_o
          have hG_bs_o := hEl37 _ _ hG_bs_o
          have hG_js_o := hEl37 _ _ hG_js_o
          have hG_sh_o := hEl37 _ _ hG_sh_o
          have hG_wk_o := hEl37 _ _ hG_wk_o
          have hG_ll_o := hEl37 _ _ hG_ll_o
          have hG_xj := hEl37 _ _ hG_xj
          have hG_bj := hEl37 _ _ hG_bj
          have hG_sj := hEl37 _ _ hG_sj
          have hG_l_bj := hEl37 _ _ hG_l_bj
          have hG_f_bj := hEl37 _ _ hG_f_bj
          have hG_r_bj := hEl37 _ _ hG_r_bj
          have hG_a1_wk_o := hEl37 _ _ hG_a1_wk_o
          have hG_a2_wk_o := hEl37 _ _ hG_a2_wk_o
          have hG_a3_wk_o := hEl37 _ _ hG_a3_wk_o
          have hG_a4_wk_o := hEl37 _ _ hG_a4_wk_o
          have hG_a5_wk_o := hEl37 _ _ hG_a5_wk_o
          have ik : (nI k).toInt = (k : Int) := nI_toInt (by omega)
          obtain ⟨s9, fo9, rl9, st9⟩ := j37_2
          have gd9 := wFo_gd gd0 k fo9
          have kl9 : 0 + k ≤ s9.2.2 := gd9.2
          refine lv_iload hx hb dX9_sure_37 (lv_at hl 1 rfl) ?_
          refine lv_ldc hx hb hown (hts (.constant RX9 135 (1000000)) (by decide +kernel)) dX9_sure_39 ?_
          refine lv_icmp_ge (tgt := 77) hx hb dX9_sure_41 (by decide) (fun c41 => ?_) (fun c41 => ?_)
          · skip
            have d41 := c41
            rw [fa_le] at d41
            exfalso; omega
          · skip
            have d41 := c41
            rw [fa_le] at d41
            refine lv_aload_n hx hb dX9_sure_44 rfl (lv_at hl 3 rfl) ?_
            refine t_get (v := .ref wk_o) (C := RX9) (T := TX9) (N := 9) hx hb hts (by decide +kernel) hown hK hP hM_o rfl 4 (by decide) (hts (.fieldLink RX9 34 "ShadowBench" "walk" "LShadowBench$Walk;") (by decide +kernel)) (fun _ h9 => h9) rfl dX9_sure_45 ?_
            refine t_calli (va_runV (g := F0 m 48 ls ([.ref wk_o])) (As := []) (rest := []) ⟨hx, hb, hml, hown, hts⟩ (c_X8_advance_x l D cy A Gl37 wl37 wk_o hD hT hG_wk_o hM_wk_o hG_xj hM_xj hM_sj hM_a1_wk_o hM_a2_wk_o hM_a3_wk_o hM_a4_wk_o hM_a5_wk_o hb9 ht9 gd9.1 (he9 vj2) rl9 rfl (by omega)) (cwV 0 hts gX9_sure_X8_advance rfl rfl rfl (by decide +kernel) ⟨Nat.le_of_ble_eq_true rfl, Nat.le_of_ble_eq_true rfl⟩) (c_preV hM_wk_o rfl hP hK hA hS hV) rfl rfl hl.1 rfl (lv_room (Nat.le_of_ble_eq_true rfl)) dX9_sure_48 ⟨Nat.le_of_ble_eq_true rfl, Nat.le_of_ble_eq_true rfl⟩) hS (fun r48 u H locs q48 hP9 hD9 hT9 hS => ?_)
            obtain ⟨w48, rfl, hF48, q48⟩ := q48
            have hP : va_P D vwCl w48 H := hP9
            have hD : va_D A w48 := hD9
            have hT : cT cy Gl37 w48 := hT9
            have hM_o := hF48 _ _ (fun z9 => z9.elim (cne hG_o hG_wk_o (show (7 : Nat) ≠ 5 by decide)) (fun z9 => z9.elim (cne hG_o hG_a1_wk_o (show (7 : Nat) ≠ 20 by decide)) (fun z9 => z9.elim (cne hG_o hG_a2_wk_o (show (7 : Nat) ≠ 21 by decide)) (fun z9 => z9.elim (cne hG_o hG_a3_wk_o (show (7 : Nat) ≠ 22 by decide)) (fun z9 => z9.elim (cne hG_o hG_a4_wk_o (show (7 : Nat) ≠ 23 by decide)) (cne hG_o hG_a5_wk_o (show (7 : Nat) ≠ 1 by decide))))))) hM_o
            have hM_xj := hF48 _ _ (fun z9 => z9.elim (cne hG_xj hG_wk_o (show (3 : Nat) ≠ 5 by decide)) (fun z9 => z9.elim (cne hG_xj hG_a1_wk_o (show (3 : Nat) ≠ 20 by decide)) (fun z9 => z9.elim (cne hG_xj hG_a2_wk_o (show (3 : Nat) ≠ 21 by decide)) (fun z9 => z9.elim (cne hG_xj hG_a3_wk_o (show (3 : Nat) ≠ 22 by decide)) (fun z9 => z9.elim (cne hG_xj hG_a4_wk_o (show (3 : Nat) ≠ 23 by decide)) (cne hG_xj hG_a5_wk_o (show (3 : Nat) ≠ 1 by decide))))))) hM_xj
            have hM_sj := hF48 _ _ (fun z9 => z9.elim (cne hG_sj hG_wk_o (show (14 : Nat) ≠ 5 by decide)) (fun z9 => z9.elim (cne hG_sj hG_a1_wk_o (show (14 : Nat) ≠ 20 by decide)) (fun z9 => z9.elim (cne hG_sj hG_a2_wk_o (show (14 : Nat) ≠ 21 by decide)) (fun z9 => z9.elim (cne hG_sj hG_a3_wk_o (show (14 : Nat) ≠ 22 by decide)) (fun z9 => z9.elim (cne hG_sj hG_a4_wk_o (show (14 : Nat) ≠ 23 by decide)) (cne hG_sj hG_a5_wk_o (show (14 : Nat) ≠ 1 by decide))))))) hM_sj
            have hX := hX.tr ⟨cE.rf, hF48.wk (fun b9 z9 => by rcases z9 with rfl | rfl | rfl | rfl | rfl | rfl; exact (Or.inr ⟨_, hG_wk_o, rfl⟩); exact (Or.inr ⟨_, hG_a1_wk_o, rfl⟩); exact (Or.inr ⟨_, hG_a2_wk_o, rfl⟩); exact (Or.inr ⟨_, hG_a3_wk_o, rfl⟩); exact (Or.inr ⟨_, hG_a4_wk_o, rfl⟩); exact (Or.inr ⟨_, hG_a5_wk_o, rfl⟩)), fun _ _ h9 => Or.inl h9⟩
            rcases q48 with ⟨hr48, u9, yA48, gA1_48, gA2_48, gA3_48, gA4_48, gA5_48, ru9, rl8, hW48⟩ | ⟨hr48, q9, u9, yB48, trB48, spB48, fdB48, gB1_48, gB2_48, gB3_48, gB4_48, gB5_48, ru9, hq9, hW48⟩
            · skip
              have hM_wk_o : cIn w48 wk_o (.inr (7, [.ref xj, .int yA48, .int (nI u9.2.2), .int 0, .long (picL wj u9.2.1 hj), .ref a1_wk_o, .ref a2_wk_o, .ref a3_wk_o, .ref a4_wk_o, .ref a5_wk_o])) := hW48.1
              have hM_a1_wk_o : cIn w48 a1_wk_o (.inl (cy 0, 6, .inl gA1_48)) := hW48.2.1
              have hM_a2_wk_o : cIn w48 a2_wk_o (.inl (cy 0, 6, .inl gA2_48)) := hW48.2.2.1
              have hM_a3_wk_o : cIn w48 a3_wk_o (.inl (cy 0, 6, .inl gA3_48)) := hW48.2.2.2.1
              have hM_a4_wk_o : cIn w48 a4_wk_o (.inl (cy 0, 6, .inl gA4_48)) := hW48.2.2.2.2.1
              have hM_a5_wk_o : cIn w48 a5_wk_o (.inl (cy 1, 6, .inr (.inl gA5_48))) := hW48.2.2.2.2.2
              subst hr48
              have gd8 := wRun_2 gd9.1 ru9
              have kk9 : k + 1 ≤ 200000 := by have z1 : u9.2.2 ≤ 200000 := gd8.1.1.2.2; have z2 := gd8.2; omega
              have tt9 : u9.2.2 ≤ 200000 := gd8.1.1.2.2
              refine lv_if_eq (tgt := 77) hx hb dX9_sure_51 (by decide) (fun c51 => ?_) (fun c51 => ?_)
              · first | exact absurd c51 (by decide) | exact absurd (by decide) c51
              · skip
                have d51 := c51
                rw [fa_eq] at d51
                refine lv_iinc (v := (nI (k + 1))) (lv' := [(4, .int (nI (k + 1))), (5, .int x5), (3, .ref xj), (0, .ref o), (1, .int j), (2, .int s0)]) hx hb dX9_sure_54 hl (k := 1) rfl (nI_1 _) (by decide) rfl (fun ls hl => ?_)
                refine lv_iload hx hb dX9_sure_57 (lv_at hl 1 rfl) ?_
                refine lv_aload_n hx hb dX9_sure_59 rfl (lv_at hl 3 rfl) ?_
                refine t_get (v := .ref wk_o) (C := RX9) (T := TX9) (N := 9) hx hb hts (by decide +kernel) hown hK hP hM_o rfl 4 (by decide) (hts (.fieldLink RX9 34 "ShadowBench" "walk" "LShadowBench$Walk;") (by decide +kernel)) (fun _ h9 => h9) rfl dX9_sure_60 ?_
                refine t_calll (va_runV (g := F0 m 63 ls ([.ref wk_o, .int x5])) (As := []) (rest := [.int x5]) ⟨hx, hb, hml, hown, hts⟩ (c_X8_found_x l D cy A Gl37 w48 wk_o hD hT hG_wk_o hM_wk_o ) (cwV 0 hts gX9_sure_X8_found rfl rfl rfl (by decide +kernel) ⟨Nat.le_of_ble_eq_true rfl, Nat.le_of_ble_eq_true rfl⟩) (c_preV hM_wk_o rfl hP hK hA hS hV) rfl rfl hl.1 rfl (lv_room (Nat.le_of_ble_eq_true rfl)) dX9_sure_63 ⟨Nat.le_of_ble_eq_true rfl, Nat.le_of_ble_eq_true rfl⟩) hS (fun r63 u H locs q63 hP9 hD9 hT9 hS => ?_)
                obtain ⟨rfl, q63⟩ := q63
                have hP : va_P D vwCl w48 H := hP9
                refine lv_iload_n hx hb dX9_sure_66 rfl (lv_at hl 5 rfl) ?_
                refine lv_lushr (v := (r63.toUInt64 >>> (s0.toInt64.toUInt64 &&& Int64.toUInt64 63)).toInt64) hx hb dX9_sure_67 rfl ?_
                refine lv_lconst (v := 1) hx hb dX9_sure_68 (by decide) ?_
                refine lv_land hx hb dX9_sure_69 ?_
                refine lv_topl (fun v69 e69 => ?_)
                refine lv_l2i (v := v69.toInt32) hx hb dX9_sure_70 rfl ?_
                refine lv_iadd hx hb dX9_sure_71 ?_
                refine lv_topi (fun v71 e71 => ?_)
                have f71 : v71 = nI (a5 + (lb (picL wj u9.2.1 hj) s0.toNatClampNeg).toNat) := nI_if e71 j37_3.1 (tb_bit (by omega) (by rw [e69, q63, cl_nI (by omega)]))
                refine lv_istore (lv' := [(5, .int v71), (4, .int (nI (k + 1))), (3, .ref xj), (0, .ref o), (1, .int j), (2, .int s0)]) hx hb dX9_sure_72 hl (by decide) rfl (fun ls hl => ?_)
                refine lv_goto (tgt := 37) hx hb dX9_sure_74 (by decide) ?_
                exact ih_37 v71 (k + 1) yA48 u9.2.2 (picL wj u9.2.1 hj) gA1_48 gA2_48 gA3_48 gA4_48 gA5_48 ((a5 + (lb (picL wj u9.2.1 hj) s0.toNatClampNeg).toNat)) (kk9) (tt9) (⟨u9, ⟨s9, a5, fo9, ru9, id, rfl⟩, rl8, rfl⟩) (⟨f71, by have := j37_3.2; cases lb (picL wj u9.2.1 hj) s0.toNatClampNeg <;> simp only [Bool.toNat_false, Bool.toNat_true] <;> omega⟩) (by omega) Gl37 w48 hEl37 hX hD hT _ _ hP hS hM_o hM_xj hM_wk_o hM_sj hM_a1_wk_o hM_a2_wk_o hM_a3_wk_o hM_a4_wk_o hM_a5_wk_o ls (lv_sub hl [0, 1, 2, 3, 4, 5] rfl)
            · skip
              have hsb48 : isBo spB48 := hq9.elim (fun z9 => Or.inl z9.2) (fun z9 => Or.inr z9.2)
              have hM_wk_o : cIn w48 wk_o (.inr (7, [.ref xj, .int yB48, .int trB48, .int spB48, .long fdB48, .ref a1_wk_o, .ref a2_wk_o, .ref a3_wk_o, .ref a4_wk_o, .ref a5_wk_o])) := hW48.1
              have hM_a1_wk_o : cIn w48 a1_wk_o (.inl (cy 0, 6, .inl gB1_48)) := hW48.2.1
              have hM_a2_wk_o : cIn w48 a2_wk_o (.inl (cy 0, 6, .inl gB2_48)) := hW48.2.2.1
              have hM_a3_wk_o : cIn w48 a3_wk_o (.inl (cy 0, 6, .inl gB3_48)) := hW48.2.2.2.1
              have hM_a4_wk_o : cIn w48 a4_wk_o (.inl (cy 0, 6, .inl gB4_48)) := hW48.2.2.2.2.1
              have hM_a5_wk_o : cIn w48 a5_wk_o (.inl (cy 1, 6, .inr (.inl gB5_48))) := hW48.2.2.2.2.2
              subst hr48
              refine lv_if_eq (tgt := 77) hx hb dX9_sure_51 (by decide) (fun c51 => ?_) (fun c51 => ?_)
              · skip
                have d51 := c51
                rw [fa_eq] at d51
                refine lv_aload_n hx hb dX9_sure_77 rfl (lv_at hl 3 rfl) ?_
                refine t_get (v := .ref wk_o) (C := RX9) (T := TX9) (N := 9) hx hb hts (by decide +kernel) hown hK hP hM_o rfl 4 (by decide) (hts (.fieldLink RX9 34 "ShadowBench" "walk" "LShadowBench$Walk;") (by decide +kernel)) (fun _ h9 => h9) rfl dX9_sure_78 ?_
                refine t_calli (va_runV (g := F0 m 81 ls ([.ref wk_o])) (As := []) (rest := []) ⟨hx, hb, hml, hown, hts⟩ (c_X8_isSpent_x l D cy A Gl37 w48 wk_o hD hT hG_wk_o hM_wk_o ) (cwV 0 hts gX9_sure_X8_isSpent rfl rfl rfl (by decide +kernel) ⟨Nat.le_of_ble_eq_true rfl, Nat.le_of_ble_eq_true rfl⟩) (c_preV hM_wk_o rfl hP hK hA hS hV) rfl rfl hl.1 rfl (lv_room (Nat.le_of_ble_eq_true rfl)) dX9_sure_81 ⟨Nat.le_of_ble_eq_true rfl, Nat.le_of_ble_eq_true rfl⟩) hS (fun r81 u H locs q81 hP9 hD9 hT9 hS => ?_)
                obtain ⟨rfl, q81⟩ := q81
                have hP : va_P D vwCl w48 H := hP9
                refine lv_if_eq (tgt := 90) hx hb dX9_sure_84 (by decide) (fun c84 => ?_) (fun c84 => ?_)
                · skip
                  have d84 := c84
                  rw [fa_eq] at d84
                  refine lv_iload hx hb dX9_sure_90 (lv_at hl 1 rfl) ?_
                  refine lv_if_ne (tgt := 98) hx hb dX9_sure_92 (by decide) (fun c92 => ?_) (fun c92 => ?_)
                  · skip
                    have d92 := c92
                    rw [fa_eq] at d92
                    refine lv_iload hx hb dX9_sure_98 (lv_at hl 0 rfl) ?_
                    refine lv_if_ne (tgt := 107) hx hb dX9_sure_100 (by decide) (fun c100 => ?_) (fun c100 => ?_)
                    · skip
                      have d100 := c100
                      rw [fa_eq] at d100
                      refine lv_iload hx hb dX9_sure_107 (lv_at hl 0 rfl) ?_
                      refine lv_iload hx hb dX9_sure_109 (lv_at hl 1 rfl) ?_
                      refine lv_icmp_ne (tgt := 118) hx hb dX9_sure_111 (by decide) (fun c111 => ?_) (fun c111 => ?_)
                      · skip
                        have d111 := c111
                        rw [fa_eq] at d111
                        refine lv_iconst (v := 2) hx hb dX9_sure_118 (by decide) ?_
                        exact W.iret (v := (2 : Int32)) hx hb hr (fun t ht hW => ⟨⟨_, (Gl37, w48), rfl, ⟨hX, (Or.inl ⟨⟨vj2, b18⟩, q9, k, a5, u9, ⟨s9, fo9, ru9, (fun y9 => by omega)⟩, (by rcases hq9 with ⟨z1, z2⟩ | ⟨z1, z2⟩; (rw [z1]; exact su_ans j37_0 j37_3.1 j37_3.2 (by first | exact Or.inl ⟨c92, rfl⟩ | exact Or.inr (Or.inl ⟨c92, c100, rfl⟩) | exact Or.inr (Or.inr (Or.inl ⟨c92, c100, c111, rfl⟩)) | exact Or.inr (Or.inr (Or.inr ⟨c92, c100, c111, rfl⟩)))); exact absurd (z2.symm.trans (q81.symm.trans c84)) (by decide))⟩)⟩, by show va_P D vwCl w48 t.heap; rw [ht]; exact hP, hD, hT⟩, hS.F ht⟩) hS.2.2 dX9_sure_119
                      · skip
                        have d111 := c111
                        rw [fa_eq] at d111
                        refine lv_iconst (v := 1) hx hb dX9_sure_114 (by decide) ?_
                        refine lv_goto (tgt := 119) hx hb dX9_sure_115 (by decide) ?_
                        exact W.iret (v := (1 : Int32)) hx hb hr (fun t ht hW => ⟨⟨_, (Gl37, w48), rfl, ⟨hX, (Or.inl ⟨⟨vj2, b18⟩, q9, k, a5, u9, ⟨s9, fo9, ru9, (fun y9 => by omega)⟩, (by rcases hq9 with ⟨z1, z2⟩ | ⟨z1, z2⟩; (rw [z1]; exact su_ans j37_0 j37_3.1 j37_3.2 (by first | exact Or.inl ⟨c92, rfl⟩ | exact Or.inr (Or.inl ⟨c92, c100, rfl⟩) | exact Or.inr (Or.inr (Or.inl ⟨c92, c100, c111, rfl⟩)) | exact Or.inr (Or.inr (Or.inr ⟨c92, c100, c111, rfl⟩)))); exact absurd (z2.symm.trans (q81.symm.trans c84)) (by decide))⟩)⟩, by show va_P D vwCl w48 t.heap; rw [ht]; exact hP, hD, hT⟩, hS.F ht⟩) hS.2.2 dX9_sure_119
                    · skip
                      have d100 := c100
                      rw [fa_eq] at d100
                      refine lv_iconst (v := 0) hx hb dX9_sure_103 (by decide) ?_
                      refine lv_goto (tgt := 119) hx hb dX9_sure_104 (by decide) ?_
                      exact W.iret (v := (0 : Int32)) hx hb hr (fun t ht hW => ⟨⟨_, (Gl37, w48), rfl, ⟨hX, (Or.inl ⟨⟨vj2, b18⟩, q9, k, a5, u9, ⟨s9, fo9, ru9, (fun y9 => by omega)⟩, (by rcases hq9 with ⟨z1, z2⟩ | ⟨z1, z2⟩; (rw [z1]; exact su_ans j37_0 j37_3.1 j37_3.2 (by first | exact Or.inl ⟨c92, rfl⟩ | exact Or.inr (Or.inl ⟨c92, c100, rfl⟩) | exact Or.inr (Or.inr (Or.inl ⟨c92, c100, c111, rfl⟩)) | exact Or.inr (Or.inr (Or.inr ⟨c92, c100, c111, rfl⟩)))); exact absurd (z2.symm.trans (q81.symm.trans c84)) (by decide))⟩)⟩, by show va_P D vwCl w48 t.heap; rw [ht]; exact hP, hD, hT⟩, hS.F ht⟩) hS.2.2 dX9_sure_119
                  · skip
                    have d92 := c92
                    rw [fa_eq] at d92
                    refine lv_bipush (v := (-2)) hx hb dX9_sure_95 (by decide) ?_
                    exact W.iret (v := ((-2) : Int32)) hx hb hr (fun t ht hW => ⟨⟨_, (Gl37, w48), rfl, ⟨hX, (Or.inl ⟨⟨vj2, b18⟩, q9, k, a5, u9, ⟨s9, fo9, ru9, (fun y9 => by omega)⟩, (by rcases hq9 with ⟨z1, z2⟩ | ⟨z1, z2⟩; (rw [z1]; exact su_ans j37_0 j37_3.1 j37_3.2 (by first | exact Or.inl ⟨c92, rfl⟩ | exact Or.inr (Or.inl ⟨c92, c100, rfl⟩) | exact Or.inr (Or.inr (Or.inl ⟨c92, c100, c111, rfl⟩)) | exact Or.inr (Or.inr (Or.inr ⟨c92, c100, c111, rfl⟩)))); exact absurd (z2.symm.trans (q81.symm.trans c84)) (by decide))⟩)⟩, by show va_P D vwCl w48 t.heap; rw [ht]; exact hP, hD, hT⟩, hS.F ht⟩) hS.2.2 dX9_sure_97
                · skip
                  have d84 := c84
                  rw [fa_eq] at d84
                  refine lv_bipush (v := (-5)) hx hb dX9_sure_87 (by decide) ?_
                  exact W.iret (v := ((-5) : Int32)) hx hb hr (fun t ht hW => ⟨⟨_, (Gl37, w48), rfl, ⟨hX, (Or.inl ⟨⟨vj2, b18⟩, q9, k, a5, u9, ⟨s9, fo9, ru9, (fun y9 => by omega)⟩, (by rcases hq9 with ⟨z1, z2⟩ | ⟨z1, z2⟩; exact absurd (q81.trans z2) c84; (rw [z1]; rfl))⟩)⟩, by show va_P D vwCl w48 t.heap; rw [ht]; exact hP, hD, hT⟩, hS.F ht⟩) hS.2.2 dX9_sure_89
              · first | exact absurd c51 (by decide) | exact absurd (by decide) c51
      exact loop_37 (200001 + 1) (0 : Int32) 0 (nI 0) 0 0 g1_28 g2_28 g3_28 g4_28 g5_28 0 (by omega) (by omega) (⟨((0 : Int), (fun _ : Nat => (0 : Nat)), (0 : Nat)), ⟨rfl, rfl⟩, hc28, rfl⟩) (⟨rfl, Nat.le_refl _⟩) (by omega) G w28 cE.rf hX hD hT _ _ hP hS hM_o hM_xj hM_wk_o hM_sj hM_a1_wk_o hM_a2_wk_o hM_a3_wk_o hM_a4_wk_o hM_a5_wk_o ls (lv_sub hl [0, 1, 2, 3, 4, 5] rfl)
    · skip
      have b18 := bo_f q15 c18
      refine lv_iconst (v := (-1)) hx hb dX9_sure_21 (by decide) ?_
      exact W.iret (v := ((-1) : Int32)) hx hb hr (fun t ht hW => ⟨⟨_, (G, ws), rfl, ⟨hX, (Or.inr ⟨(fun z9 => by first | exact vn2 z9.1 | exact b18 z9.2), rfl⟩)⟩, by show va_P D vwCl ws t.heap; rw [ht]; exact hP, hD, hT⟩, hS.F ht⟩) hS.2.2 dX9_sure_22
theorem RJ.rgc {cy : Nat → ClassId} {G : cG} {W : va_W} {fa : Nat → Option Nat} {jc : Int32} {J : Nat → JT} {r : Nat → Nat → Int32} (h : RJ cy G W fa jc J r) {j : Int32} : okJob jc j → ∀ y l, y < 4 → l < lnC (jW (J j.toNatClampNeg)) (jH (J j.toNatClampNeg)) y → 0 ≤ (jF (J j.toNatClampNeg) (y * 11 + l)).toInt ∧ (jF (J j.toNatClampNeg) (y * 11 + l)).toInt ≤ 6 := fun ok => by
  obtain ⟨-, -, -, -, -, -, -, -, -, -, a11⟩ := (h.at ok).2.2
  exact a11
theorem RJ.r59 {cy : Nat → ClassId} {G : cG} {W : va_W} {fa : Nat → Option Nat} {jc : Int32} {J : Nat → JT} {r : Nat → Nat → Int32} (h : RJ cy G W fa jc J r) {j : Int32} : okJob jc j → ∀ y l, y < 2 → l < lnC (r 3 j.toNatClampNeg).toNatClampNeg (r 4 j.toNatClampNeg).toNatClampNeg y → 0 ≤ (r 5 (44 * j.toNatClampNeg + 11 * y + l)).toInt ∧ (r 5 (44 * j.toNatClampNeg + 11 * y + l)).toInt ≤ 6 := fun ok y l hy hl => by
  obtain ⟨-, a2, a3, -, a5, -, -, -, -, ⟨t0, t1⟩, a11⟩ := (h.at ok).2.2
  rw [← a2, ← a3] at hl
  have e := a5 y l (by omega) hl
  have g := a11 y l (by omega) hl
  have tt : tB (jL (J j.toNatClampNeg)) y = true := by
    rcases (show y = 0 ∨ y = 1 by omega) with rfl | rfl
    · exact t0
    · exact t1
  rw [tt, if_pos rfl] at e
  rw [e] at g
  exact g

theorem RJ.exc {cy : Nat → ClassId} {G : cG} {W : va_W} {fa : Nat → Option Nat} {jc : Int32} {J : Nat → JT} {r : Nat → Nat → Int32} (h : RJ cy G W fa jc J r) {j : Int32} : okJob jc j → ∀ s, s < jW (J j.toNatClampNeg) * jH (J j.toNatClampNeg) → ¬ (lb (jO (J j.toNatClampNeg)) s = true ∧ lb (jNn (J j.toNatClampNeg)) s = true) := fun ok s hs => by
  obtain ⟨-, -, -, -, -, a6, -⟩ := (h.at ok).2.2
  exact (a6 s hs).2
section WCG
variable {w h : Nat} {hd cs rs hd' cs' rs' : Nat → Int32} {Fi Fi' : (Nat → Nat) → Prop}
theorem rows_ok {s : wS} (g : wGd (2 ^ w) h w cs s) (h0 : 0 ≤ s.1) (hE : ¬ s.2.1 s.1.toNat = 2 ^ w) (ht : s.2.2 < 200000) (hl : ¬ s.1.toNat + 1 < h) : ∀ j, j < h → wNx s j - 1 < 2 ^ w := fun j hj => by
  have gt := wGd_try g h0 hE ht
  have z : wNx s j ≤ 2 ^ w := (gt.2.1 j (by show (j : Int) ≤ s.1; omega)).1
  have p := Nat.two_pow_pos w
  omega
theorem wStp_cg (hG : ∀ nx d, d < h → (goP w hd cs rs nx d ↔ goP w hd' cs' rs' nx d)) (hF : ∀ nx : Nat → Nat, (∀ j, j < h → nx j - 1 < 2 ^ w) → (Fi nx ↔ Fi' nx)) {s t : wS} (g : wGd (2 ^ w) h w cs s) (a : wStp (2 ^ w) h (goP w hd cs rs) Fi s t) : wStp (2 ^ w) h (goP w hd' cs' rs') Fi' s t := by
  obtain ⟨h0, a⟩ := a
  have hs : s.1.toNat < h := by have := g.1; omega
  refine ⟨h0, ?_⟩
  rcases a with a | ⟨a1, a2, a⟩
  · exact Or.inl a
  · refine Or.inr ⟨a1, a2, ?_⟩
    rcases a with ⟨b1, b2⟩ | ⟨b1, b2, b3⟩ | ⟨b1, b2, b3, b4⟩
    · exact Or.inl ⟨fun z => b1 ((hG _ _ hs).mpr z), b2⟩
    · exact Or.inr (Or.inl ⟨(hG _ _ hs).mp b1, b2, b3⟩)
    · exact Or.inr (Or.inr ⟨(hG _ _ hs).mp b1, b2, fun z => b3 ((hF _ (rows_ok g h0 a1 a2 b2)).mpr z), b4⟩)
theorem wFin_cg (hG : ∀ nx d, d < h → (goP w hd cs rs nx d ↔ goP w hd' cs' rs' nx d)) (hF : ∀ nx : Nat → Nat, (∀ j, j < h → nx j - 1 < 2 ^ w) → (Fi nx ↔ Fi' nx)) {s t : wS} {o : Nat} (g : wGd (2 ^ w) h w cs s) (a : wFin (2 ^ w) h (goP w hd cs rs) Fi s o t) : wFin (2 ^ w) h (goP w hd' cs' rs') Fi' s o t := by
  rcases a with a | a | ⟨h0, a1, a2, a3, a4, a5, a6⟩
  · exact Or.inl a
  · exact Or.inr (Or.inl a)
  · have hs : s.1.toNat < h := by have := g.1; omega
    exact Or.inr (Or.inr ⟨h0, a1, a2, (hG _ _ hs).mp a3, a4, (hF _ (rows_ok g h0 a1 a2 a4)).mp a5, a6⟩)
theorem wTo_cg (hG : ∀ nx d, d < h → (goP w hd cs rs nx d ↔ goP w hd' cs' rs' nx d)) (hF : ∀ nx : Nat → Nat, (∀ j, j < h → nx j - 1 < 2 ^ w) → (Fi nx ↔ Fi' nx)) {s : wS} (g : wGd (2 ^ w) h w cs s) : ∀ n {t : wS}, wTo (2 ^ w) h (goP w hd cs rs) Fi n s t → wTo (2 ^ w) h (goP w hd' cs' rs') Fi' n s t := by
  intro n
  induction n with
  | zero => intro t a; exact a
  | succ n ih => intro t a; obtain ⟨m, a1, a2⟩ := a; exact ⟨m, ih a1, wStp_cg hG hF (wGd_to n g a1) a2⟩
theorem wRun_cg (hG : ∀ nx d, d < h → (goP w hd cs rs nx d ↔ goP w hd' cs' rs' nx d)) (hF : ∀ nx : Nat → Nat, (∀ j, j < h → nx j - 1 < 2 ^ w) → (Fi nx ↔ Fi' nx)) {s t : wS} {o : Nat} (g : wGd (2 ^ w) h w cs s) (a : wRun (2 ^ w) h (goP w hd cs rs) Fi s o t) : wRun (2 ^ w) h (goP w hd' cs' rs') Fi' s o t := by
  obtain ⟨n, m, a1, a2⟩ := a
  exact ⟨n, m, wTo_cg hG hF g n a1, wFin_cg hG hF (wGd_to n g a1) a2⟩
theorem wFo_cg {α : Type} {st : α → wS → Prop} {nx : α → wS → α} {s0 : wS} {a0 : α} (hG : ∀ nx d, d < h → (goP w hd cs rs nx d ↔ goP w hd' cs' rs' nx d)) (hF : ∀ nx : Nat → Nat, (∀ j, j < h → nx j - 1 < 2 ^ w) → (Fi nx ↔ Fi' nx)) (g : wGd (2 ^ w) h w cs s0) : ∀ k {s : wS} {a : α}, wFo (2 ^ w) h (goP w hd cs rs) Fi st nx s0 a0 k s a → wFo (2 ^ w) h (goP w hd' cs' rs') Fi' st nx s0 a0 k s a := by
  intro k
  induction k with
  | zero => intro s a f; exact f
  | succ k ih => intro s a f; obtain ⟨m, b, f1, f2, f3, f4⟩ := f; exact ⟨m, b, ih f1, wRun_cg hG hF (wFo_gd g k f1).1 f2, f3, f4⟩
theorem wEn_cg {α : Type} {st : α → wS → Prop} {nx : α → wS → α} {s0 : wS} {a0 : α} (hG : ∀ nx d, d < h → (goP w hd cs rs nx d ↔ goP w hd' cs' rs' nx d)) (hF : ∀ nx : Nat → Nat, (∀ j, j < h → nx j - 1 < 2 ^ w) → (Fi nx ↔ Fi' nx)) (g : wGd (2 ^ w) h w cs s0) {o k : Nat} {a : α} {t : wS} (e : wEn (2 ^ w) h (goP w hd cs rs) Fi st nx s0 a0 o k a t) : wEn (2 ^ w) h (goP w hd' cs' rs') Fi' st nx s0 a0 o k a t := by
  obtain ⟨m, e1, e2, e3⟩ := e
  exact ⟨m, wFo_cg hG hF g k e1, wRun_cg hG hF (wFo_gd g k e1).1 e2, e3⟩
end WCG
theorem go_cg {j : Nat} {T : JT} {r : Nat → Nat → Int32} {w hh : Nat} (p : jP j T r) (ew : jW T = w) (eh : jH T = hh) : ∀ nx d, d < hh → (goP w (hH (jO T) (jNn T)) (fun x => jF T (11 + x)) (jF T) nx d ↔ goP w (fun s => r 7 (36 * j + s)) (fun x => r 5 (44 * j + 11 + x)) (fun y => r 5 (44 * j + y)) nx d) := fun nx d hd => by
  obtain ⟨-, -, -, -, a5, a6, -, -, -, ⟨t0, t1⟩, -⟩ := p
  subst ew
  subst eh
  have m5 : d * jW T + jW T ≤ jW T * jH T := by
    have := Nat.mul_le_mul_right (jW T) (show d + 1 ≤ jH T from hd)
    rw [Nat.succ_mul, Nat.mul_comm (jH T) (jW T)] at this
    exact this
  have e7 : ∀ x, x < jW T → r 7 (36 * j + (d * jW T + x)) = hH (jO T) (jNn T) (d * jW T + x) := fun x hx => (a6 (d * jW T + x) (by omega)).1
  have e5 : ∀ x, x < jW T → jF T (11 + x) = r 5 (44 * j + 11 + x) := fun x hx => by
    have z := a5 1 x (by decide) hx
    rw [t1, if_pos rfl] at z
    exact z
  have e0 : jF T d = r 5 (44 * j + d) := by
    have z := a5 0 d (by decide) hd
    rw [t0, if_pos rfl] at z
    rw [show 0 * 11 + d = d by omega, show 44 * j + 11 * 0 + d = 44 * j + d by omega] at z
    exact z
  unfold goP
  constructor
  · rintro ⟨p1, p2⟩
    refine ⟨fun x hx => ?_, by show _ = (r 5 (44 * j + d)).toInt; rw [← e0]; exact p2⟩
    have z := p1 x hx
    show (r 7 (36 * j + (d * jW T + x)) = 2 ∨ r 7 (36 * j + (d * jW T + x)) = _) ∧ _ ≤ (r 5 (44 * j + 11 + x)).toInt
    rw [e7 x hx, ← e5 x hx]
    exact z
  · rintro ⟨p1, p2⟩
    refine ⟨fun x hx => ?_, by rw [e0]; exact p2⟩
    have z := p1 x hx
    have z' : (r 7 (36 * j + (d * jW T + x)) = 2 ∨ r 7 (36 * j + (d * jW T + x)) = if (nx d - 1).testBit x then 1 else 0) ∧ (colN nx x (d + 1) : Int) ≤ (r 5 (44 * j + 11 + x)).toInt := z
    rw [e7 x hx, ← e5 x hx] at z'
    exact z'
theorem se_en {cy : Nat → ClassId} {G : cG} {W : va_W} {fa : Nat → Option Nat} {jc : Int32} {J : Nat → JT} {r : Nat → Nat → Int32} {f : Nat → Int32} (h : RJ cy G W fa jc J r) (hI : MI f r) (ej : jc = f 1) {j : Int32} (ok : okJob jc j) {w hh : Nat} (ew : jW (J j.toNatClampNeg) = w) (eh : jH (J j.toNatClampNeg) = hh) {kk : Nat} (ek : jK (J j.toNatClampNeg) = kk) {α : Type} {st : α → wS → Prop} {nx : α → wS → α} {a0 a : α} {q k : Nat} {u : wS} (e : wEn (2 ^ w) hh (cGo w (jO (J j.toNatClampNeg)) (jNn (J j.toNatClampNeg)) (jF (J j.toNatClampNeg))) (cFi kk w hh (jL (J j.toNatClampNeg)) (jO (J j.toNatClampNeg)) (jNn (J j.toNatClampNeg)) (jF (J j.toNatClampNeg))) st nx ((0 : Int), (fun _ : Nat => (0 : Nat)), (0 : Nat)) a0 q k a u) : wEn (2 ^ w) hh (goP w (fun s => r 7 (36 * j.toNatClampNeg + s)) (fun x => r 5 (44 * j.toNatClampNeg + 11 + x)) (fun y => r 5 (44 * j.toNatClampNeg + y))) (fun nx => fitR j.toNatClampNeg r (picL w nx hh)) st nx ((0 : Int), (fun _ : Nat => (0 : Nat)), (0 : Nat)) a0 q k a u := by
  have T := h.at ok
  have hb := T.1.2.2.1
  have m36 := cb_mul hb
  have hk := (hI.2.1 j ok.1 (by rw [← ej]; exact ok.2)).2.2
  have gd := rg_cs hb (h.rgc ok)
  rw [ew, eh] at gd
  refine wEn_cg (go_cg T.2.2 ew eh) (fun nx hn => ?_) gd e
  have hb' := hb
  rw [ew, eh] at hb'
  have hp := picL_is hb' hn
  have z := fit_eq T.2.2 m36.2 hk (p := picL w nx hh) (by rw [ew, eh]; exact hp)
  rw [ew, eh, ek] at z
  exact z
theorem ct_eq {cy : Nat → ClassId} {G : cG} {W : va_W} {fa : Nat → Option Nat} {jc : Int32} {J : Nat → JT} {r : Nat → Nat → Int32} {f : Nat → Int32} (h : RJ cy G W fa jc J r) (hI : MI f r) (ej : jc = f 1) {j : Int32}  {x y : Int32} (hx : ((okJob jc j) ∧ ∃ q k u, wEn (2 ^ (jW (J j.toNatClampNeg))) (jH (J j.toNatClampNeg)) (cGo (jW (J j.toNatClampNeg)) (jO (J j.toNatClampNeg)) (jNn (J j.toNatClampNeg)) (jF (J j.toNatClampNeg))) (cFi (jK (J j.toNatClampNeg)) (jW (J j.toNatClampNeg)) (jH (J j.toNatClampNeg)) (jL (J j.toNatClampNeg)) (jO (J j.toNatClampNeg)) (jNn (J j.toNatClampNeg)) (jF (J j.toNatClampNeg))) (fun _ _ => False) (fun _ _ => ()) ((0 : Int), (fun _ : Nat => (0 : Nat)), (0 : Nat)) () q k () u ∧ x = anC q k) ∨ (¬ (okJob jc j) ∧ x = -1)) (hy : ((okJob jc j) ∧ ∃ q k u, wEn (2 ^ (r 3 j.toNatClampNeg).toNatClampNeg) (r 4 j.toNatClampNeg).toNatClampNeg (rGo j.toNatClampNeg r) (rFi j.toNatClampNeg r) (fun _ _ => False) (fun _ _ => ()) ((0 : Int), (fun _ : Nat => (0 : Nat)), (0 : Nat)) () q k () u ∧ y = anC q k) ∨ (¬ (okJob jc j) ∧ y = -1)) : x = y := by
  by_cases ok : okJob jc j
  · have sz := h.sz ok
    rw [sz.1, sz.2] at hx
    rcases hx with ⟨a, b⟩ | ⟨a, b⟩ <;> rcases hy with ⟨c, d⟩ | ⟨c, d⟩
    · obtain ⟨q, k, u, b1, b2⟩ := b
      obtain ⟨q', k', u', d1, d2⟩ := d
      obtain ⟨e1, e2, e3, e4⟩ := wEn_det (se_en h hI ej ok sz.1 sz.2 rfl b1) d1
      rw [b2, d2, e1, e2]
    · exact absurd a c
    · exact absurd c a
    · rw [b, d]
  · rcases hx with ⟨a, b⟩ | ⟨a, b⟩
    · exact absurd a ok
    · rcases hy with ⟨c, d⟩ | ⟨c, d⟩
      · exact absurd c ok
      · rw [b, d]
theorem fd_eq {cy : Nat → ClassId} {G : cG} {W : va_W} {fa : Nat → Option Nat} {jc : Int32} {J : Nat → JT} {r : Nat → Nat → Int32} {f : Nat → Int32} (h : RJ cy G W fa jc J r) (hI : MI f r) (ej : jc = f 1) {j : Int32} {i0 : Int32} {x y : Int64} (hx : ((okJob jc j ∧ 0 ≤ i0.toInt) ∧ ∃ q k a u, wEn (2 ^ (jW (J j.toNatClampNeg))) (jH (J j.toNatClampNeg)) (cGo (jW (J j.toNatClampNeg)) (jO (J j.toNatClampNeg)) (jNn (J j.toNatClampNeg)) (jF (J j.toNatClampNeg))) (cFi (jK (J j.toNatClampNeg)) (jW (J j.toNatClampNeg)) (jH (J j.toNatClampNeg)) (jL (J j.toNatClampNeg)) (jO (J j.toNatClampNeg)) (jNn (J j.toNatClampNeg)) (jF (J j.toNatClampNeg))) (fun a _ => (a : Int) = i0.toInt) (fun a _ => a + 1) ((0 : Int), (fun _ : Nat => (0 : Nat)), (0 : Nat)) 0 q k a u ∧ x = anF q (picL (jW (J j.toNatClampNeg)) u.2.1 (jH (J j.toNatClampNeg)))) ∨ (¬ (okJob jc j ∧ 0 ≤ i0.toInt) ∧ x = -1)) (hy : ((okJob jc j ∧ 0 ≤ i0.toInt) ∧ ∃ q k a u, wEn (2 ^ (r 3 j.toNatClampNeg).toNatClampNeg) (r 4 j.toNatClampNeg).toNatClampNeg (rGo j.toNatClampNeg r) (rFi j.toNatClampNeg r) (fun a _ => (a : Int) = i0.toInt) (fun a _ => a + 1) ((0 : Int), (fun _ : Nat => (0 : Nat)), (0 : Nat)) 0 q k a u ∧ y = anF q (picL (r 3 j.toNatClampNeg).toNatClampNeg u.2.1 (r 4 j.toNatClampNeg).toNatClampNeg)) ∨ (¬ (okJob jc j ∧ 0 ≤ i0.toInt) ∧ y = -1)) : x = y := by
  by_cases ok : okJob jc j
  · have sz := h.sz ok
    rw [sz.1, sz.2] at hx
    rcases hx with ⟨a, b⟩ | ⟨a, b⟩ <;> rcases hy with ⟨c, d⟩ | ⟨c, d⟩
    · obtain ⟨q, k, v, u, b1, b2⟩ := b
      obtain ⟨q', k', v', u', d1, d2⟩ := d
      obtain ⟨e1, e2, e3, e4⟩ := wEn_det (se_en h hI ej ok sz.1 sz.2 rfl b1) d1
      rw [b2, d2, e1, e4]
    · exact absurd a c
    · exact absurd c a
    · rw [b, d]
  · rcases hx with ⟨a, b⟩ | ⟨a, b⟩
    · exact absurd a.1 ok
    · rcases hy with ⟨c, d⟩ | ⟨c, d⟩
      · exact absurd c.1 ok
      · rw [b, d]
theorem su_eq9 {cy : Nat → ClassId} {G : cG} {W : va_W} {fa : Nat → Option Nat} {jc : Int32} {J : Nat → JT} {r : Nat → Nat → Int32} {f : Nat → Int32} (h : RJ cy G W fa jc J r) (hI : MI f r) (ej : jc = f 1) {j : Int32} {s0 : Int32} {x y : Int32} (hx : ((okJob jc j ∧ 0 ≤ s0.toInt ∧ s0.toInt < (((jW (J j.toNatClampNeg)) * (jH (J j.toNatClampNeg)) : Nat) : Int)) ∧ ∃ q k a u, wEn (2 ^ (jW (J j.toNatClampNeg))) (jH (J j.toNatClampNeg)) (cGo (jW (J j.toNatClampNeg)) (jO (J j.toNatClampNeg)) (jNn (J j.toNatClampNeg)) (jF (J j.toNatClampNeg))) (cFi (jK (J j.toNatClampNeg)) (jW (J j.toNatClampNeg)) (jH (J j.toNatClampNeg)) (jL (J j.toNatClampNeg)) (jO (J j.toNatClampNeg)) (jNn (J j.toNatClampNeg)) (jF (J j.toNatClampNeg))) (fun _ _ => False) (fun a s => a + (lb (picL (jW (J j.toNatClampNeg)) s.2.1 (jH (J j.toNatClampNeg))) s0.toNatClampNeg).toNat) ((0 : Int), (fun _ : Nat => (0 : Nat)), (0 : Nat)) 0 q k a u ∧ x = anS q k a) ∨ (¬ (okJob jc j ∧ 0 ≤ s0.toInt ∧ s0.toInt < (((jW (J j.toNatClampNeg)) * (jH (J j.toNatClampNeg)) : Nat) : Int)) ∧ x = -1)) (hy : ((okJob jc j ∧ 0 ≤ s0.toInt ∧ s0.toInt < (((r 3 j.toNatClampNeg).toNatClampNeg * (r 4 j.toNatClampNeg).toNatClampNeg : Nat) : Int)) ∧ ∃ q k a u, wEn (2 ^ (r 3 j.toNatClampNeg).toNatClampNeg) (r 4 j.toNatClampNeg).toNatClampNeg (rGo j.toNatClampNeg r) (rFi j.toNatClampNeg r) (fun _ _ => False) (fun a s => a + (lb (picL (r 3 j.toNatClampNeg).toNatClampNeg s.2.1 (r 4 j.toNatClampNeg).toNatClampNeg) s0.toNatClampNeg).toNat) ((0 : Int), (fun _ : Nat => (0 : Nat)), (0 : Nat)) 0 q k a u ∧ y = anS q k a) ∨ (¬ (okJob jc j ∧ 0 ≤ s0.toInt ∧ s0.toInt < (((r 3 j.toNatClampNeg).toNatClampNeg * (r 4 j.toNatClampNeg).toNatClampNeg : Nat) : Int)) ∧ y = -1)) : x = y := by
  by_cases ok : okJob jc j
  · have sz := h.sz ok
    rw [sz.1, sz.2] at hx
    rcases hx with ⟨a, b⟩ | ⟨a, b⟩ <;> rcases hy with ⟨c, d⟩ | ⟨c, d⟩
    · obtain ⟨q, k, v, u, b1, b2⟩ := b
      obtain ⟨q', k', v', u', d1, d2⟩ := d
      obtain ⟨e1, e2, e3, e4⟩ := wEn_det (se_en h hI ej ok sz.1 sz.2 rfl b1) d1
      rw [b2, d2, e1, e2, e3]
    · exact absurd a c
    · exact absurd c a
    · rw [b, d]
  · rcases hx with ⟨a, b⟩ | ⟨a, b⟩
    · exact absurd a.1 ok
    · rcases hy with ⟨c, d⟩ | ⟨c, d⟩
      · exact absurd c.1 ok
      · rw [b, d]
theorem rk_eq {cy : Nat → ClassId} {G : cG} {W : va_W} {fa : Nat → Option Nat} {jc : Int32} {J : Nat → JT} {r : Nat → Nat → Int32} {f : Nat → Int32} (h : RJ cy G W fa jc J r) (hI : MI f r) (ej : jc = f 1) {j : Int32} {p0 : Int64} {x y : Int32} (hx : ((okJob jc j ∧ isPic ((jW (J j.toNatClampNeg)) * (jH (J j.toNatClampNeg))) p0) ∧ ((fitC (jK (J j.toNatClampNeg)) (jW (J j.toNatClampNeg)) (jH (J j.toNatClampNeg)) (jL (J j.toNatClampNeg)) (jO (J j.toNatClampNeg)) (jNn (J j.toNatClampNeg)) (jF (J j.toNatClampNeg)) p0 ∧ ∃ q k u, wEn (2 ^ (jW (J j.toNatClampNeg))) (jH (J j.toNatClampNeg)) (cGo (jW (J j.toNatClampNeg)) (jO (J j.toNatClampNeg)) (jNn (J j.toNatClampNeg)) (jF (J j.toNatClampNeg))) (cFi (jK (J j.toNatClampNeg)) (jW (J j.toNatClampNeg)) (jH (J j.toNatClampNeg)) (jL (J j.toNatClampNeg)) (jO (J j.toNatClampNeg)) (jNn (J j.toNatClampNeg)) (jF (J j.toNatClampNeg))) (fun _ s => picL (jW (J j.toNatClampNeg)) s.2.1 (jH (J j.toNatClampNeg)) = p0) (fun _ _ => ()) ((0 : Int), (fun _ : Nat => (0 : Nat)), (0 : Nat)) () q k () u ∧ x = anR q k) ∨ (¬ fitC (jK (J j.toNatClampNeg)) (jW (J j.toNatClampNeg)) (jH (J j.toNatClampNeg)) (jL (J j.toNatClampNeg)) (jO (J j.toNatClampNeg)) (jNn (J j.toNatClampNeg)) (jF (J j.toNatClampNeg)) p0 ∧ x = -2))) ∨ (¬ (okJob jc j ∧ isPic ((jW (J j.toNatClampNeg)) * (jH (J j.toNatClampNeg))) p0) ∧ x = -1)) (hy : ((okJob jc j ∧ isPic ((r 3 j.toNatClampNeg).toNatClampNeg * (r 4 j.toNatClampNeg).toNatClampNeg) p0) ∧ ((fitR j.toNatClampNeg r p0 ∧ ∃ q k u, wEn (2 ^ (r 3 j.toNatClampNeg).toNatClampNeg) (r 4 j.toNatClampNeg).toNatClampNeg (rGo j.toNatClampNeg r) (rFi j.toNatClampNeg r) (fun _ s => picL (r 3 j.toNatClampNeg).toNatClampNeg s.2.1 (r 4 j.toNatClampNeg).toNatClampNeg = p0) (fun _ _ => ()) ((0 : Int), (fun _ : Nat => (0 : Nat)), (0 : Nat)) () q k () u ∧ y = anR q k) ∨ (¬ fitR j.toNatClampNeg r p0 ∧ y = -2))) ∨ (¬ (okJob jc j ∧ isPic ((r 3 j.toNatClampNeg).toNatClampNeg * (r 4 j.toNatClampNeg).toNatClampNeg) p0) ∧ y = -1)) : x = y := by
  by_cases ok : okJob jc j
  · have sz := h.sz ok
    rw [sz.1, sz.2] at hx
    rcases hx with ⟨a, b⟩ | ⟨a, b⟩ <;> rcases hy with ⟨c, d⟩ | ⟨c, d⟩
    · have T := h.at ok
      have m36 := cb_mul T.1.2.2.1
      have hk := (hI.2.1 j ok.1 (by rw [← ej]; exact ok.2)).2.2
      have fe := fit_eq T.2.2 m36.2 hk (p := p0) (by rw [sz.1, sz.2]; exact c.2)
      rw [sz.1, sz.2] at fe
      rcases b with ⟨b0, q, k, u, b1, b2⟩ | ⟨b0, b2⟩ <;> rcases d with ⟨d0, q', k', u', d1, d2⟩ | ⟨d0, d2⟩
      · obtain ⟨e1, e2, e3, e4⟩ := wEn_det (se_en h hI ej ok sz.1 sz.2 rfl b1) d1
        rw [b2, d2, e1, e2]
      · exact absurd (fe.mp b0) d0
      · exact absurd (fe.mpr d0) b0
      · rw [b2, d2]
    · exact absurd a c
    · exact absurd c a
    · rw [b, d]
  · rcases hx with ⟨a, b⟩ | ⟨a, b⟩
    · exact absurd a.1 ok
    · rcases hy with ⟨c, d⟩ | ⟨c, d⟩
      · exact absurd c.1 ok
      · rw [b, d]

/-- the class's jobs are the reference's jobs, content and all -/
def RlJ (cy : Nat → ClassId) (xo : Nat) (G : cG) (W : va_W) (f : Nat → Int32) (r : Nat → Nat → Int32) : Prop := ∃ (bs js sh wk ll : Nat) (lc : Int32) (mo lb : Option Nat) (fa : Nat → Option Nat) (J : Nat → JT), cIn W xo (.inr (8, [.ref bs, .ref js, .int (f 1), .ref sh, .ref wk, va_rf mo, .ref ll, .int lc, va_rf lb])) ∧ cIn W js (.inl (cy 4, cqa 8 fa)) ∧ RJ cy G W fa (f 1) J r
section RLJ
variable {cy : Nat → ClassId} {A : Nat → Prop} {xo z1 z2 : Nat} {G G1 : cG} {W W1 : va_W} {f f1 : Nat → Int32} {r r1 : Nat → Nat → Int32} {fa : Nat → Option Nat} {J : Nat → JT} {jc : Int32}
theorem RlJ.at (h : RlJ cy xo G W f r) (hD : va_D A W) {bs js sh wk ll : Nat} {jc lc : Int32} {mo lb : Option Nat} (hM : cIn W xo (.inr (8, [.ref bs, .ref js, .int jc, .ref sh, .ref wk, va_rf mo, .ref ll, .int lc, va_rf lb]))) : jc = f 1 ∧ ∃ fa J, cIn W js (.inl (cy 4, cqa 8 fa)) ∧ RJ cy G W fa jc J r := by
  obtain ⟨bs', js', sh', wk', ll', lc', mo', lb', fa, J, h1, h2, h3⟩ := h
  have z := cIn.eq hD hM h1
  simp only [Sum.inr.injEq, Prod.mk.injEq, List.cons.injEq, Value.int.injEq, Value.ref.injEq, and_true, true_and] at z
  obtain ⟨-, e2, e3, -⟩ := z
  subst e2
  subst e3
  exact ⟨rfl, fa, J, h2, h3⟩
theorem RlJ.shp (h : RlJ cy xo G W f r) (hD : va_D A W) (hT : cT cy G W) (hG : G xo = some (7, z1, z2)) {ch : List Nat} (hX : cX none (chs ch) G W G1 W1) (h9 : chs ch 9 = false) (h3 : chs ch 3 = false) (h14 : chs ch 14 = false) {bs js sh wk ll bs1 sh1 wk1 ll1 : Nat} {jc lc lc1 : Int32} {mo lb mo1 lb1 : Option Nat} (hM : cIn W xo (.inr (8, [.ref bs, .ref js, .int jc, .ref sh, .ref wk, va_rf mo, .ref ll, .int lc, va_rf lb]))) (hM1 : cIn W1 xo (.inr (8, [.ref bs1, .ref js, .int jc, .ref sh1, .ref wk1, va_rf mo1, .ref ll1, .int lc1, va_rf lb1]))) (ef : f1 1 = f 1) (e2 : r1 2 = r 2) (e3 : r1 3 = r 3) (e4 : r1 4 = r 4) (e5 : r1 5 = r 5) (e6 : r1 6 = r 6) (e7 : r1 7 = r 7) (e8 : r1 8 = r 8) : RlJ cy xo G1 W1 f1 r1 := by
  obtain ⟨e, fa, J, a1, a2⟩ := h.at hD hM
  obtain ⟨-, -, -, hGj, -⟩ := w7sh hD hT hG hM
  refine ⟨bs1, js, sh1, wk1, ll1, lc1, mo1, lb1, fa, J, (by rw [ef, ← e]; exact hM1), hX.2.1 _ _ (cP.no hGj h9) a1, ?_⟩
  rw [ef, ← e]
  exact a2.keep hD hT hX h3 h14 e2 e3 e4 e5 e6 e7 e8
theorem RlJ.keep (h : RlJ cy xo G W f r) (hD : va_D A W) (hT : cT cy G W) (hG : G xo = some (7, z1, z2)) {ch : List Nat} (hX : cX none (chs ch) G W G1 W1) (h7 : chs ch 7 = false) (h9 : chs ch 9 = false) (h3 : chs ch 3 = false) (h14 : chs ch 14 = false) (ef : f1 1 = f 1) (e2 : r1 2 = r 2) (e3 : r1 3 = r 3) (e4 : r1 4 = r 4) (e5 : r1 5 = r 5) (e6 : r1 6 = r 6) (e7 : r1 7 = r 7) (e8 : r1 8 = r 8) : RlJ cy xo G1 W1 f1 r1 := by
  obtain ⟨bs, js, sh, wk, ll, lc, mo, lb, fa, J, a1, -⟩ := id h
  exact h.shp hD hT hG hX h9 h3 h14 a1 (hX.2.1 _ _ (cP.no hG h7) a1) ef e2 e3 e4 e5 e6 e7 e8
/-- cells of other kinds stay where one job changes -/
theorem RJ.fr (h : RJ cy G W fa jc J r) (hD : va_D A W) (hT : cT cy G W) {j : Int32} {P : Nat → Prop} (hF : cF P W W1) (hq : (okJob jc j ∧ ∀ z, P z → z = jX (J j.toNatClampNeg) ∨ z = jS (J j.toNatClampNeg) ∨ (jK (J j.toNatClampNeg) = 4 ∧ z = jC (J j.toNatClampNeg))) ∨ W1 = W) {z : Nat} {t : Nat × Nat × Nat} (hg : G z = some t) (h3 : t.1 ≠ 3) (h14 : t.1 ≠ 14) {e : va_E} (he : cIn W z e) : cIn W1 z e := by
  rcases hq with ⟨ok, hP⟩ | rfl
  · obtain ⟨k1, k2, k3⟩ := (h.at ok).kinds hD hT
    refine hF _ _ (fun y => ?_) he
    rcases hP _ y with y | y | ⟨y4, y⟩
    · exact cne hg k1 h3 y
    · exact cne hg k2 h14 y
    · exact cne hg (k3 y4) h14 y
  · exact he
end RLJ
section LW6
variable {p : Program} {l : Launch} {e : Env} {R : Room} {s : State} {m : MethodId} {args : Array Value} {below : List Frame} {meth : Method} {c : Code} {H : Heap} {locs : List Loc} {cells slots : Nat} {Q : State → Prop}
variable {y : MethodName} {bytes cc : ByteArray} {maxL nL n index mc ms : Nat} {ret : Option FieldType} {wc Ts : List Cond} {rm : Room} {own C : String} {As rest st0 av : List Value} {pc : Nat} {ls : Array Slot} {D : va_G} {cy : Nat → ClassId} {xo mo ou : Nat} {a : Nat → Nat} {M : Option Nat} {G : cG} {W' : va_W} {f : Nat → Int32} {g : Nat → Int64} {r : Nat → Nat → Int32} {q : Nat → Nat → Int64} {a9 : Array Value}
theorem lk6 {post : Int32 → va_W → Prop} {P : Nat → Prop} (I : LI D cy s xo mo ou a M G W' f g r q H locs) (hr : va_Run p l e R s m args below meth c H locs cells slots mc ms (F0 m pc ls st0) rest (va_Qi (fun r0 u => ∃ w1, u = (G, w1) ∧ cF P W' w1 ∧ post r0 w1) (cB D cy (AC s mo a)) (AC s mo a) a9) (AC s mo a))
    (hsh : ∀ r0 w1, cF P W' w1 → post r0 w1 → ∀ e, cIn W' xo e → cIn w1 xo e)
    (kk : ∀ (r0 : Int32) (w1 : va_W) (H1 : Heap) (locs1 : List Loc), cF P W' w1 → post r0 w1 → LI D cy s xo mo ou a M G w1 f g r q H1 locs1 → W p l e R s m args below meth c H1 locs1 (cells + mc) (slots + ms) Q (F0 m (pc + 3) ls (.int r0 :: rest))) : W p l e R s m args below meth c H locs cells slots Q (F0 m pc ls st0) :=
  va_calli hr I.2.2.2.2.2.2.2.2.1 (fun _ _ h => h.1) (fun _ h => h.1) (fun r0 u t H1 locs1 ht hvm hp hB hz hk hS => by
    obtain ⟨h1, h2, h3⟩ := hB
    obtain ⟨w1, rfl, hF, hp⟩ := hp
    rw [ht] at h1
    obtain ⟨bs, js, sh, wk, ll, jc, lc, lb, hM⟩ := I.2.2.2.2.2.2.2.1
    exact kk r0 w1 H1 locs1 hF hp (I.cla h1 h2 h3 cE.rf ⟨bs, js, sh, wk, ll, jc, lc, lb, hsh r0 w1 hF hp _ hM⟩ hz hk hS))
end LW6
section LWR
variable {p : Program} {l : Launch} {e : Env} {R : Room} {s : State} {m : MethodId} {args : Array Value} {below : List Frame} {meth : Method} {c : Code} {H : Heap} {locs : List Loc} {cells slots : Nat} {Q : State → Prop}
variable {y : MethodName} {bytes cc : ByteArray} {maxL nL n index mc ms : Nat} {ret : Option FieldType} {wc Ts : List Cond} {rm : Room} {own C : String} {As rest st0 av : List Value} {pc : Nat} {ls : Array Slot} {D : va_G} {cy : Nat → ClassId} {xo mo ou : Nat} {a : Nat → Nat} {M : Option Nat} {G : cG} {W' : va_W} {f : Nat → Int32} {g : Nat → Int64} {r : Nat → Nat → Int32} {q : Nat → Nat → Int64} {a9 : Array Value}
theorem lk3_i {ch : List Nat} {post : Int32 → cS → Prop} (I : LI D cy s xo mo ou a M G W' f g r q H locs) (hr : va_Run p l e R s m args below meth c H locs cells slots mc ms (F0 m pc ls st0) rest (va_Qi (fun r0 u => cX none (chs ch) G W' u.1 u.2 ∧ post r0 u) (cB D cy (AC s mo a)) (AC s mo a) a9) (AC s mo a)) (h7 : chs ch 7 = false)
    (kk : ∀ (r0 : Int32) (u : cS) (H1 : Heap) (locs1 : List Loc), post r0 u → cX none (chs ch) G W' u.1 u.2 → LI D cy s xo mo ou a M u.1 u.2 f g r q H1 locs1 → W p l e R s m args below meth c H1 locs1 (cells + mc) (slots + ms) Q (F0 m (pc + 3) ls (.int r0 :: rest))) : W p l e R s m args below meth c H locs cells slots Q (F0 m pc ls st0) :=
  va_calli hr I.2.2.2.2.2.2.2.2.1 (fun _ _ h => h.1) (fun _ h => h.1) (fun r0 u t H1 locs1 ht hvm hp hB hz hk hS => by
    obtain ⟨h1, h2, h3⟩ := hB
    rw [ht] at h1
    obtain ⟨bs, js, sh, wk, ll, jc, lc, lb, hM⟩ := I.2.2.2.2.2.2.2.1
    exact kk r0 u H1 locs1 hp.2 hp.1 (I.cla h1 h2 h3 hp.1.1 ⟨bs, js, sh, wk, ll, jc, lc, lb, hp.1.2.1 _ _ (cP.no I.2.2.2.2.1 h7) hM⟩ hz hk hS))
theorem lk3_l {ch : List Nat} {post : Int64 → cS → Prop} (I : LI D cy s xo mo ou a M G W' f g r q H locs) (hr : va_Run p l e R s m args below meth c H locs cells slots mc ms (F0 m pc ls st0) rest (va_Ql (fun r0 u => cX none (chs ch) G W' u.1 u.2 ∧ post r0 u) (cB D cy (AC s mo a)) (AC s mo a) a9) (AC s mo a)) (h7 : chs ch 7 = false)
    (kk : ∀ (r0 : Int64) (u : cS) (H1 : Heap) (locs1 : List Loc), post r0 u → cX none (chs ch) G W' u.1 u.2 → LI D cy s xo mo ou a M u.1 u.2 f g r q H1 locs1 → W p l e R s m args below meth c H1 locs1 (cells + mc) (slots + ms) Q (F0 m (pc + 3) ls (.long r0 :: rest))) : W p l e R s m args below meth c H locs cells slots Q (F0 m pc ls st0) :=
  va_calll hr I.2.2.2.2.2.2.2.2.1 (fun _ _ h => h.1) (fun _ h => h.1) (fun r0 u t H1 locs1 ht hvm hp hB hz hk hS => by
    obtain ⟨h1, h2, h3⟩ := hB
    rw [ht] at h1
    obtain ⟨bs, js, sh, wk, ll, jc, lc, lb, hM⟩ := I.2.2.2.2.2.2.2.1
    exact kk r0 u H1 locs1 hp.2 hp.1 (I.cla h1 h2 h3 hp.1.1 ⟨bs, js, sh, wk, ll, jc, lc, lb, hp.1.2.1 _ _ (cP.no I.2.2.2.2.1 h7) hM⟩ hz hk hS))
theorem lk3_ri {post : Int32 → cS → Prop} (I : LI D cy s xo mo ou a M G W' f g r q H locs) (hr : va_Run p l e R s m args below meth c H locs cells slots mc ms (F0 m pc ls st0) rest (va_Qi (fun r0 u => u = (G, W') ∧ post r0 u) (cB D cy (AC s mo a)) (AC s mo a) a9) (AC s mo a))
    (kk : ∀ (r0 : Int32) (u : cS) (H1 : Heap) (locs1 : List Loc), post r0 u → cX none (chs []) G W' u.1 u.2 → LI D cy s xo mo ou a M u.1 u.2 f g r q H1 locs1 → W p l e R s m args below meth c H1 locs1 (cells + mc) (slots + ms) Q (F0 m (pc + 3) ls (.int r0 :: rest))) : W p l e R s m args below meth c H locs cells slots Q (F0 m pc ls st0) :=
  va_calli hr I.2.2.2.2.2.2.2.2.1 (fun _ _ h => h.1) (fun _ h => h.1) (fun r0 u t H1 locs1 ht hvm hp hB hz hk hS => by
    obtain ⟨h1, h2, h3⟩ := hB
    obtain ⟨rfl, hp⟩ := hp
    rw [ht] at h1
    exact kk r0 _ H1 locs1 hp cX.rf (I.cla h1 h2 h3 cE.rf I.2.2.2.2.2.2.2.1 hz hk hS))
theorem lk3_rl {post : Int64 → cS → Prop} (I : LI D cy s xo mo ou a M G W' f g r q H locs) (hr : va_Run p l e R s m args below meth c H locs cells slots mc ms (F0 m pc ls st0) rest (va_Ql (fun r0 u => u = (G, W') ∧ post r0 u) (cB D cy (AC s mo a)) (AC s mo a) a9) (AC s mo a))
    (kk : ∀ (r0 : Int64) (u : cS) (H1 : Heap) (locs1 : List Loc), post r0 u → cX none (chs []) G W' u.1 u.2 → LI D cy s xo mo ou a M u.1 u.2 f g r q H1 locs1 → W p l e R s m args below meth c H1 locs1 (cells + mc) (slots + ms) Q (F0 m (pc + 3) ls (.long r0 :: rest))) : W p l e R s m args below meth c H locs cells slots Q (F0 m pc ls st0) :=
  va_calll hr I.2.2.2.2.2.2.2.2.1 (fun _ _ h => h.1) (fun _ h => h.1) (fun r0 u t H1 locs1 ht hvm hp hB hz hk hS => by
    obtain ⟨h1, h2, h3⟩ := hB
    obtain ⟨rfl, hp⟩ := hp
    rw [ht] at h1
    exact kk r0 _ H1 locs1 hp cX.rf (I.cla h1 h2 h3 cE.rf I.2.2.2.2.2.2.2.1 hz hk hS))
theorem lk3_s {ch : List Nat} {post : Int32 → cS → Prop} (I : LI D cy s xo mo ou a M G W' f g r q H locs) (hr : va_Run p l e R s m args below meth c H locs cells slots mc ms (F0 m pc ls st0) rest (va_Qi (fun r0 u => cX none (chs ch) G W' u.1 u.2 ∧ post r0 u) (cB D cy (AC s mo a)) (AC s mo a) a9) (AC s mo a))
    (hsh : ∀ r0 u, post r0 u → ∃ (bs js sh wk ll : Nat) (jc lc : Int32) (lb : Option Nat), cIn u.2 xo (.inr (8, [.ref bs, .ref js, .int jc, .ref sh, .ref wk, va_rf M, .ref ll, .int lc, va_rf lb])))
    (kk : ∀ (r0 : Int32) (u : cS) (H1 : Heap) (locs1 : List Loc), post r0 u → cX none (chs ch) G W' u.1 u.2 → LI D cy s xo mo ou a M u.1 u.2 f g r q H1 locs1 → W p l e R s m args below meth c H1 locs1 (cells + mc) (slots + ms) Q (F0 m (pc + 3) ls (.int r0 :: rest))) : W p l e R s m args below meth c H locs cells slots Q (F0 m pc ls st0) :=
  va_calli hr I.2.2.2.2.2.2.2.2.1 (fun _ _ h => h.1) (fun _ h => h.1) (fun r0 u t H1 locs1 ht hvm hp hB hz hk hS => by
    obtain ⟨h1, h2, h3⟩ := hB
    obtain ⟨hX, hp⟩ := hp
    rw [ht] at h1
    exact kk r0 _ H1 locs1 hp hX (I.cla h1 h2 h3 hX.1 (hsh r0 u hp) hz hk hS))
end LWR

section ANS6
variable {cy : Nat → ClassId} {G : cG} {W : va_W} {fa : Nat → Option Nat} {jc : Int32} {J : Nat → JT} {r : Nat → Nat → Int32} {j x y : Int32}
theorem un_eq (h : RJ cy G W fa jc J r) {way : Int32} (hx : (okUn9 jc j way ∧ x = (if tB (jL (J j.toNatClampNeg)) way.toNatClampNeg then 1 else 0)) ∨ (¬ okUn9 jc j way ∧ x = -1)) (hy : (okUn9 jc j way ∧ y = (if r 6 (4 * j.toNatClampNeg + way.toNatClampNeg) = 0 then 0 else 1)) ∨ (¬ okUn9 jc j way ∧ y = -1)) : x = y := by
  rcases hx with ⟨a, b⟩ | ⟨a, b⟩ <;> rcases hy with ⟨c, d⟩ | ⟨c, d⟩
  · have w0 := a.2
    have cw := m_cl (x := way) (by omega)
    have e := (h.at a.1).2.2.2.2.2.1 way.toNatClampNeg (by omega)
    rw [b, d]
    cases hb : tB (jL (J j.toNatClampNeg)) way.toNatClampNeg
    · rw [if_pos (e.mpr hb)]; rfl
    · rw [if_neg (show ¬ r 6 (4 * j.toNatClampNeg + way.toNatClampNeg) = 0 from fun z => by rw [e.mp z] at hb; cases hb)]; rfl
  · exact absurd a c
  · exact absurd c a
  · rw [b, d]
theorem ho_eq (h : RJ cy G W fa jc J r) {s how : Int32} (hx : (okHold9 jc (jW (J j.toNatClampNeg)) (jH (J j.toNatClampNeg)) j s how ∧ x = hH (jO (J j.toNatClampNeg)) (jNn (J j.toNatClampNeg)) s.toNatClampNeg) ∨ (¬ okHold9 jc (jW (J j.toNatClampNeg)) (jH (J j.toNatClampNeg)) j s how ∧ x = -1)) (hy : (okHold9 jc (r 3 j.toNatClampNeg).toNatClampNeg (r 4 j.toNatClampNeg).toNatClampNeg j s how ∧ y = r 7 (36 * j.toNatClampNeg + s.toNatClampNeg)) ∨ (¬ okHold9 jc (r 3 j.toNatClampNeg).toNatClampNeg (r 4 j.toNatClampNeg).toNatClampNeg j s how ∧ y = -1)) : x = y := by
  rcases hx with ⟨a, b⟩ | ⟨a, b⟩ <;> rcases hy with ⟨c, d⟩ | ⟨c, d⟩
  · have w0 := a.2.1
    have cw := m_cl (x := s) w0.1
    rw [b, d]
    exact ((h.at a.1).2.2.2.2.2.2.2.1 s.toNatClampNeg (by omega)).1.symm
  · have sz := h.sz a.1; exact absurd ⟨a.1, by rw [← sz.1, ← sz.2]; exact a.2.1, a.2.2⟩ c
  · have sz := h.sz c.1; exact absurd ⟨c.1, by rw [sz.1, sz.2]; exact c.2.1, c.2.2⟩ a
  · rw [b, d]
theorem ma_eq (h : RJ cy G W fa jc J r) {s v : Int32} (hx : (okMark9 jc (jW (J j.toNatClampNeg)) (jH (J j.toNatClampNeg)) j s v ∧ ((jK (J j.toNatClampNeg) = 4 ∧ Bo x (¬ jG (J j.toNatClampNeg) s.toNatClampNeg = v)) ∨ (¬ jK (J j.toNatClampNeg) = 4 ∧ x = -4))) ∨ (¬ okMark9 jc (jW (J j.toNatClampNeg)) (jH (J j.toNatClampNeg)) j s v ∧ x = -1)) (hy : (okMark9 jc (r 3 j.toNatClampNeg).toNatClampNeg (r 4 j.toNatClampNeg).toNatClampNeg j s v ∧ ((r 2 j.toNatClampNeg = 3 ∧ y = (if r 8 (36 * j.toNatClampNeg + s.toNatClampNeg) = v then 0 else 1)) ∨ (¬ r 2 j.toNatClampNeg = 3 ∧ y = -4))) ∨ (¬ okMark9 jc (r 3 j.toNatClampNeg).toNatClampNeg (r 4 j.toNatClampNeg).toNatClampNeg j s v ∧ y = -1)) : x = y := by
  rcases hx with ⟨a, b⟩ | ⟨a, b⟩ <;> rcases hy with ⟨c, d⟩ | ⟨c, d⟩
  · have w0 := a.2.1
    have cw := m_cl (x := s) w0.1
    have kk := (h.at a.1).2.2.1
    rcases b with ⟨k4, b⟩ | ⟨k4, b⟩ <;> rcases d with ⟨r3, d⟩ | ⟨r3, d⟩
    · have e := (h.at a.1).2.2.2.2.2.2.2.2.2.1 k4 s.toNatClampNeg (by omega)
      rw [d, ← e]
      rcases b with ⟨b1, b2⟩ | ⟨b1, b2⟩
      · rw [b1, if_neg b2]
      · rw [b1, if_pos (Classical.not_not.mp b2)]
    · exact absurd (kcl_4.mp (kk.symm.trans k4)) r3
    · exact absurd (kk.trans (kcl_4.mpr r3)) k4
    · rw [b, d]
  · have sz := h.sz a.1; exact absurd ⟨a.1, by rw [← sz.1, ← sz.2]; exact a.2.1, a.2.2⟩ c
  · have sz := h.sz c.1; exact absurd ⟨c.1, by rw [sz.1, sz.2]; exact c.2.1, c.2.2⟩ a
  · rw [b, d]
theorem su_eq (h : RJ cy G W fa jc J r) {way line v : Int32} (hx : (okSum9 jc (jW (J j.toNatClampNeg)) (jH (J j.toNatClampNeg)) j way line v ∧ x = 0) ∨ (¬ okSum9 jc (jW (J j.toNatClampNeg)) (jH (J j.toNatClampNeg)) j way line v ∧ x = -1)) (hy : (okSum9 jc (r 3 j.toNatClampNeg).toNatClampNeg (r 4 j.toNatClampNeg).toNatClampNeg j way line v ∧ y = 0) ∨ (¬ okSum9 jc (r 3 j.toNatClampNeg).toNatClampNeg (r 4 j.toNatClampNeg).toNatClampNeg j way line v ∧ y = -1)) : x = y := by
  rcases hx with ⟨a, b⟩ | ⟨a, b⟩ <;> rcases hy with ⟨c, d⟩ | ⟨c, d⟩
  · rw [b, d]
  · have sz := h.sz a.1; exact absurd ⟨a.1, by rw [← sz.1, ← sz.2]; exact a.2.1, a.2.2⟩ c
  · have sz := h.sz c.1; exact absurd ⟨c.1, by rw [sz.1, sz.2]; exact c.2.1, c.2.2⟩ a
  · rw [b, d]
theorem ca_eq (h : RJ cy G W fa jc J r) {way b0 : Int32} {p : Int64} (hx : (okCast9 jc (jW (J j.toNatClampNeg)) (jH (J j.toNatClampNeg)) j way p ∧ x = b0) ∨ (¬ okCast9 jc (jW (J j.toNatClampNeg)) (jH (J j.toNatClampNeg)) j way p ∧ x = -1)) (hy : (okCast9 jc (r 3 j.toNatClampNeg).toNatClampNeg (r 4 j.toNatClampNeg).toNatClampNeg j way p ∧ y = b0) ∨ (¬ okCast9 jc (r 3 j.toNatClampNeg).toNatClampNeg (r 4 j.toNatClampNeg).toNatClampNeg j way p ∧ y = -1)) : x = y := by
  rcases hx with ⟨a, b⟩ | ⟨a, b⟩ <;> rcases hy with ⟨c, d⟩ | ⟨c, d⟩
  · rw [b, d]
  · have sz := h.sz a.1; exact absurd ⟨a.1, a.2.1, by rw [← sz.1, ← sz.2]; exact a.2.2⟩ c
  · have sz := h.sz c.1; exact absurd ⟨c.1, c.2.1, by rw [sz.1, sz.2]; exact c.2.2⟩ a
  · rw [b, d]
theorem to_eq (h : RJ cy G W fa jc J r) {way line : Int32} (hx : toA jc (jW (J j.toNatClampNeg)) (jH (J j.toNatClampNeg)) (fun l => if tB (jL (J j.toNatClampNeg)) way.toNatClampNeg then jF (J j.toNatClampNeg) (way.toNatClampNeg * 11 + l) else -2) j way line x) (hy : toA jc (r 3 j.toNatClampNeg).toNatClampNeg (r 4 j.toNatClampNeg).toNatClampNeg (fun l => if r 6 (4 * j.toNatClampNeg + way.toNatClampNeg) = 0 then -2 else r 5 (44 * j.toNatClampNeg + 11 * way.toNatClampNeg + l)) j way line y) : x = y := by
  rcases hx with ⟨a, b⟩ | ⟨a, b⟩ <;> rcases hy with ⟨c, d⟩ | ⟨c, d⟩
  · have sz := h.sz a.1.1
    by_cases z : line.toInt = -1
    · rw [if_pos z] at b d
      apply Int32.toInt_inj.mp
      rw [b, d, sz.1, sz.2]
    · rw [if_neg z] at b d
      have w0 := a.1.2
      have cw := m_cl (x := way) (by omega)
      rcases a.2 with z2 | z2
      · exact absurd z2 z
      · have e := (h.at a.1.1).2.2.2.2.2.1 way.toNatClampNeg (by omega)
        have cl := m_cl (x := line) z2.2.1
        have l2 := z2.2.2
        have e5 := (h.at a.1.1).2.2.2.2.2.2.1 way.toNatClampNeg line.toNatClampNeg (by omega) (by omega)
        rw [b, d]
        show (if _ then _ else _) = (if _ then _ else _)
        cases hb : tB (jL (J j.toNatClampNeg)) way.toNatClampNeg
        · rw [if_pos (e.mpr hb)]; rfl
        · rw [hb] at e5
          rw [if_neg (show ¬ r 6 (4 * j.toNatClampNeg + way.toNatClampNeg) = 0 from fun z => by rw [e.mp z] at hb; cases hb)]
          exact e5
  · have sz := h.sz a.1.1
    rw [sz.1, sz.2] at a
    exact absurd a c
  · have sz := h.sz c.1.1
    rw [← sz.1, ← sz.2] at c
    exact absurd c a
  · rw [b, d]
end ANS6

