set_option maxHeartbeats 4000000 in
set_option maxRecDepth 100000 in
theorem c_X9_count_j (l : Launch) (D : va_G) (cy : Nat → ClassId) (A : Nat → Prop) (G : cG) (ws : va_W) (o : Nat) (j : Int32) {bs_o js_o sh_o wk_o ll_o : Nat} {jc_o lc_o : Int32} {mo_o lb_o : Option Nat} {fa : Nat → Option Nat} {xj kj bj sj tj wj hj : Nat} {oj nj : Int64} {msj : List Value} {fsj : Nat → Int32} (hD : va_D A ws) (hT : cT cy G ws) (hG_o : G o = some (7, 0, 0)) (hM_o : cIn ws o (.inr (8, [.ref bs_o, .ref js_o, .int jc_o, .ref sh_o, .ref wk_o, va_rf mo_o, .ref ll_o, .int lc_o, va_rf lb_o]))) (hM_js_o : cIn ws js_o (.inl (cy 4, cqa 8 fa))) (hJ1 : ∀ i : Nat, (i : Int) < jc_o.toInt → ∃ x, fa i = some x) (hJ : okJob jc_o j → jobS cy G ws fa j.toNatClampNeg xj kj bj sj tj wj hj oj nj msj fsj) (hr9 : okJob jc_o j → ∀ y l, y < 4 → l < lnC wj hj y → 0 ≤ (fsj (y * 11 + l)).toInt ∧ (fsj (y * 11 + l)).toInt ≤ 6) (he9 : okJob jc_o j → ∀ s, s < wj * hj → ¬ (lb oj s = true ∧ lb nj s = true)) : Ci l D cy A yX9_count wsX9_count ({ frames := 6, cells := 0, slots := 0, locals := 144 }) 0 0 ws [.ref o, .int j] (fun r0 u => cX none (chs [1, 5, 20, 21, 22, 23]) G ws u.1 u.2 ∧ ((okJob jc_o j ∧ ∃ q k u, wEn (2 ^ wj) hj (cGo wj oj nj fsj) (cFi kj wj hj tj oj nj fsj) (fun _ _ => False) (fun _ _ => ()) ((0 : Int), (fun _ : Nat => (0 : Nat)), (0 : Nat)) () q k () u ∧ r0 = anC q k) ∨ (¬ okJob jc_o j ∧ r0 = -1))) := by
  refine Met.ofW (cc := cX9_count) (maxL := 4) (ret := (some .int)) (by decide) rfl ?_
  intro p e s m args below meth c s₁ B hml hv
  obtain ⟨rfl, hP, hK, hA, hV⟩ := hv
  have hx := B.exec
  have hb := B.bytes
  have hr := B.returns
  have hts := atoms_spec (ws := wsX9_count) B.pre
  have hown : s.vm.findClass RX9 = some m.cls := findClass_of_methodNamed B.named
  have hlocks := B.notSynchronized
  have hS : va_S A s.heap s.heap [] := va_S.rf
  have hX : cX none (chs [1, 5, 20, 21, 22, 23]) G ws G ws := cX.rf
  have hl := lv_entry ([.ref o, .int j]) (n := 4) (Nat.le_of_ble_eq_true rfl)
  rw [lg_entry_eq]
  generalize (lg_sl ([.ref o, .int j]) ++ List.replicate (4 - (lg_sl ([.ref o, .int j])).length) Slot.unset).toArray = ls at hl ⊢
  have hl : lv_has ls 4 [(0, .ref o), (1, .int j)] := hl
  have k_m5 : (-5 : Int32).toInt = -5 := by decide
  have k_m1 : (-1 : Int32).toInt = -1 := by decide
  have k_0 : (0 : Int32).toInt = 0 := by decide
  have k_1000000 : (1000000 : Int32).toInt = 1000000 := by decide
  obtain ⟨hjc_o, hlc_o, hG_bs_o, hG_js_o, hG_sh_o, hG_wk_o, hmo_o, hG_ll_o, hlb_o⟩ := w7sh hD hT hG_o hM_o
  have hf_js_o := w9sh hD hT hG_js_o hM_js_o
  refine lv_aload_n hx hb dX9_count_0 rfl (lv_at hl 0 rfl) ?_
  refine lv_iload_n hx hb dX9_count_1 rfl (lv_at hl 1 rfl) ?_
  refine t_calla (va_runV (g := F0 m 2 ls ([.int j, .ref o])) (As := [.int j]) (rest := []) ⟨hx, hb, hml, hown, hts⟩ (c_X9_jobOf_j l D cy A G ws o j hD hT hG_o hM_o hM_js_o hJ1) (cwV 1 hts gX9_count_X9_jobOf rfl rfl rfl (by decide +kernel) ⟨Nat.le_of_ble_eq_true rfl, Nat.le_of_ble_eq_true rfl⟩) (c_preV hM_o rfl hP hK hA hS hV) rfl rfl hl.1 rfl (lv_room (Nat.le_of_ble_eq_true rfl)) dX9_count_2 ⟨Nat.le_of_ble_eq_true rfl, Nat.le_of_ble_eq_true rfl⟩) hS (fun r2 u H locs q2 hP9 hD9 hT9 hS => ?_)
  obtain ⟨rfl, q2⟩ := q2
  have hP : va_P D vwCl ws H := hP9
  rcases r2 with _ | x2
  · skip
    have vn2 := q2.2 rfl
    refine lv_astore_nN (lv' := [(2, .null), (0, .ref o), (1, .int j)]) hx hb dX9_count_5 rfl hl (by decide) rfl (fun ls hl => ?_)
    refine lv_aload_nN hx hb dX9_count_6 rfl (lv_at hl 0 rfl) ?_
    refine lv_ifnonnullN hx hb dX9_count_7 ?_
    refine lv_iconst (v := (-1)) hx hb dX9_count_10 (by decide) ?_
    exact W.iret (v := ((-1) : Int32)) hx hb hr (fun t ht hW => ⟨⟨_, (G, ws), rfl, ⟨hX, (Or.inr ⟨vn2, rfl⟩)⟩, by show va_P D vwCl ws t.heap; rw [ht]; exact hP, hD, hT⟩, hS.F ht⟩) hS.2.2 dX9_count_11
  · skip
    obtain ⟨vj2, fj2⟩ := q2.1 x2 rfl
    obtain ⟨hfa9, hG_xj, hb9, ht9, hM_xj, hM_sj⟩ := hJ vj2
    obtain rfl : xj = x2 := Option.some.inj (hfa9.symm.trans fj2)
    obtain ⟨hG_bj, hG_sj, hJ_xj⟩ := w3sh hD hT hG_xj hb9 hM_xj
    refine lv_astore_n (lv' := [(2, .ref xj), (0, .ref o), (1, .int j)]) hx hb dX9_count_5 rfl hl (by decide) rfl (fun ls hl => ?_)
    refine lv_aload_n hx hb dX9_count_6 rfl (lv_at hl 0 rfl) ?_
    refine lv_ifnonnull (tgt := 12) hx hb dX9_count_7 (by decide) ?_
    refine lv_aload_n hx hb dX9_count_12 rfl (lv_at hl 1 rfl) ?_
    refine t_get (v := .ref wk_o) (C := RX9) (T := TX9) (N := 9) hx hb hts (by decide +kernel) hown hK hP hM_o rfl 4 (by decide) (hts (.fieldLink RX9 34 "ShadowBench" "walk" "LShadowBench$Walk;") (by decide +kernel)) (fun _ h9 => h9) rfl dX9_count_13 ?_
    obtain ⟨_, hM_wk_o, j_wk_o, y_wk_o, tr_wk_o, sp_wk_o, fd_wk_o, a1_wk_o, a2_wk_o, a3_wk_o, a4_wk_o, a5_wk_o, rfl, hsp_wk_o, hj_wk_o, hG_a1_wk_o, hG_a2_wk_o, hG_a3_wk_o, hG_a4_wk_o, hG_a5_wk_o⟩ := hT _ _ hG_wk_o
    obtain ⟨fw1, hM_a1_wk_o⟩ := cIa hT (Or.inr (Or.inr (Or.inl rfl))) hG_a1_wk_o
    obtain ⟨fw2, hM_a2_wk_o⟩ := cIa hT (Or.inr (Or.inr (Or.inr (Or.inl rfl)))) hG_a2_wk_o
    obtain ⟨fw3, hM_a3_wk_o⟩ := cIa hT (Or.inr (Or.inr (Or.inr (Or.inr (Or.inl rfl))))) hG_a3_wk_o
    obtain ⟨fw4, hM_a4_wk_o⟩ := cIa hT (Or.inr (Or.inr (Or.inr (Or.inr (Or.inr rfl))))) hG_a4_wk_o
    obtain ⟨fw5, hM_a5_wk_o⟩ := cLa hT (Or.inl rfl) hG_a5_wk_o
    have gd0 := rg_cs hb9 (hr9 vj2)
    refine lv_aload_n hx hb dX9_count_16 rfl (lv_at hl 0 rfl) ?_
    refine t_callv (va_runV (g := F0 m 17 ls ([.ref xj, .ref wk_o])) (As := [.ref xj]) (rest := []) ⟨hx, hb, hml, hown, hts⟩ (c_X8_start_x (j_o := j_wk_o) l D cy A G ws wk_o xj hD hT hG_wk_o hM_wk_o hG_xj hM_xj hM_sj hM_a1_wk_o hM_a2_wk_o hM_a3_wk_o hM_a4_wk_o hM_a5_wk_o hb9 ht9) (cwV 1 hts gX9_count_X8_start rfl rfl rfl (by decide +kernel) ⟨Nat.le_of_ble_eq_true rfl, Nat.le_of_ble_eq_true rfl⟩) (c_preV hM_wk_o rfl hP hK hA hS hV) rfl rfl hl.1 rfl (lv_room (Nat.le_of_ble_eq_true rfl)) dX9_count_17 ⟨Nat.le_of_ble_eq_true rfl, Nat.le_of_ble_eq_true rfl⟩) hS (fun u H locs q17 hP9 hD9 hT9 hS => ?_)
    obtain ⟨w17, rfl, hF17, q17⟩ := q17
    have hP : va_P D vwCl w17 H := hP9
    have hD : va_D A w17 := hD9
    have hT : cT cy G w17 := hT9
    have hM_o := hF17 _ _ (fun z9 => z9.elim (cne hG_o hG_wk_o (show (7 : Nat) ≠ 5 by decide)) (fun z9 => z9.elim (cne hG_o hG_a1_wk_o (show (7 : Nat) ≠ 20 by decide)) (fun z9 => z9.elim (cne hG_o hG_a2_wk_o (show (7 : Nat) ≠ 21 by decide)) (fun z9 => z9.elim (cne hG_o hG_a3_wk_o (show (7 : Nat) ≠ 22 by decide)) (fun z9 => z9.elim (cne hG_o hG_a4_wk_o (show (7 : Nat) ≠ 23 by decide)) (cne hG_o hG_a5_wk_o (show (7 : Nat) ≠ 1 by decide))))))) hM_o
    have hM_js_o := hF17 _ _ (fun z9 => z9.elim (cne hG_js_o hG_wk_o (show (9 : Nat) ≠ 5 by decide)) (fun z9 => z9.elim (cne hG_js_o hG_a1_wk_o (show (9 : Nat) ≠ 20 by decide)) (fun z9 => z9.elim (cne hG_js_o hG_a2_wk_o (show (9 : Nat) ≠ 21 by decide)) (fun z9 => z9.elim (cne hG_js_o hG_a3_wk_o (show (9 : Nat) ≠ 22 by decide)) (fun z9 => z9.elim (cne hG_js_o hG_a4_wk_o (show (9 : Nat) ≠ 23 by decide)) (cne hG_js_o hG_a5_wk_o (show (9 : Nat) ≠ 1 by decide))))))) hM_js_o
    have hM_xj := hF17 _ _ (fun z9 => z9.elim (cne hG_xj hG_wk_o (show (3 : Nat) ≠ 5 by decide)) (fun z9 => z9.elim (cne hG_xj hG_a1_wk_o (show (3 : Nat) ≠ 20 by decide)) (fun z9 => z9.elim (cne hG_xj hG_a2_wk_o (show (3 : Nat) ≠ 21 by decide)) (fun z9 => z9.elim (cne hG_xj hG_a3_wk_o (show (3 : Nat) ≠ 22 by decide)) (fun z9 => z9.elim (cne hG_xj hG_a4_wk_o (show (3 : Nat) ≠ 23 by decide)) (cne hG_xj hG_a5_wk_o (show (3 : Nat) ≠ 1 by decide))))))) hM_xj
    have hM_sj := hF17 _ _ (fun z9 => z9.elim (cne hG_sj hG_wk_o (show (14 : Nat) ≠ 5 by decide)) (fun z9 => z9.elim (cne hG_sj hG_a1_wk_o (show (14 : Nat) ≠ 20 by decide)) (fun z9 => z9.elim (cne hG_sj hG_a2_wk_o (show (14 : Nat) ≠ 21 by decide)) (fun z9 => z9.elim (cne hG_sj hG_a3_wk_o (show (14 : Nat) ≠ 22 by decide)) (fun z9 => z9.elim (cne hG_sj hG_a4_wk_o (show (14 : Nat) ≠ 23 by decide)) (cne hG_sj hG_a5_wk_o (show (14 : Nat) ≠ 1 by decide))))))) hM_sj
    have hX := hX.tr ⟨cE.rf, hF17.wk (fun b9 z9 => by rcases z9 with rfl | rfl | rfl | rfl | rfl | rfl; exact (Or.inr ⟨_, hG_wk_o, rfl⟩); exact (Or.inr ⟨_, hG_a1_wk_o, rfl⟩); exact (Or.inr ⟨_, hG_a2_wk_o, rfl⟩); exact (Or.inr ⟨_, hG_a3_wk_o, rfl⟩); exact (Or.inr ⟨_, hG_a4_wk_o, rfl⟩); exact (Or.inr ⟨_, hG_a5_wk_o, rfl⟩)), fun _ _ h9 => Or.inl h9⟩
    obtain ⟨g1_17, g2_17, g3_17, g4_17, g5_17, hc17, hW17⟩ := q17
    have hM_wk_o : cIn w17 wk_o (.inr (7, [.ref xj, .int (nI 0), .int (nI 0), .int 0, .long 0, .ref a1_wk_o, .ref a2_wk_o, .ref a3_wk_o, .ref a4_wk_o, .ref a5_wk_o])) := hW17.1
    have hM_a1_wk_o : cIn w17 a1_wk_o (.inl (cy 0, 6, .inl g1_17)) := hW17.2.1
    have hM_a2_wk_o : cIn w17 a2_wk_o (.inl (cy 0, 6, .inl g2_17)) := hW17.2.2.1
    have hM_a3_wk_o : cIn w17 a3_wk_o (.inl (cy 0, 6, .inl g3_17)) := hW17.2.2.2.1
    have hM_a4_wk_o : cIn w17 a4_wk_o (.inl (cy 0, 6, .inl g4_17)) := hW17.2.2.2.2.1
    have hM_a5_wk_o : cIn w17 a5_wk_o (.inl (cy 1, 6, .inr (.inl g5_17))) := hW17.2.2.2.2.2
    refine lv_iconst (v := 0) hx hb dX9_count_20 (by decide) ?_
    refine lv_istore_n (lv' := [(3, .int (0 : Int32)), (2, .ref xj), (0, .ref o), (1, .int j)]) hx hb dX9_count_21 rfl hl (by decide) rfl (fun ls hl => ?_)
    have loop_22 : ∀ (n : Nat) (k : Nat) (yl : Int32) (tl : Nat) (fdl : Int64) (gl1 : Nat → Int32) (gl2 : Nat → Int32) (gl3 : Nat → Int32) (gl4 : Nat → Int32) (gl5 : Nat → Int64), (k ≤ 200000) → (tl ≤ 200000) → (∃ s, wFo (2 ^ wj) hj (cGo wj oj nj fsj) (cFi kj wj hj tj oj nj fsj) (fun _ _ => False) (fun _ _ => ()) ((0 : Int), (fun _ : Nat => (0 : Nat)), (0 : Nat)) () k s () ∧ cRel wj oj nj fsj s yl (nI tl) gl1 gl2 gl3 gl4 gl5 ∧ s.2.2 = tl) → 200001 - k < n → ∀ (Gl22 : cG) (wl22 : va_W), cE G Gl22 → cX none (chs [1, 5, 20, 21, 22, 23]) G ws Gl22 wl22 → va_D A wl22 → cT cy Gl22 wl22 → ∀ (H : Heap) (locs : List Loc), va_P D vwCl wl22 H → va_S A s.heap H locs → cIn wl22 o (.inr (8, [.ref bs_o, .ref js_o, .int jc_o, .ref sh_o, .ref wk_o, va_rf mo_o, .ref ll_o, .int lc_o, va_rf lb_o])) → cIn wl22 xj (.inr (kj, .ref bj :: .ref sj :: .int (nI tj) :: .long oj :: .long nj :: msj)) → cIn wl22 wk_o (.inr (7, [.ref xj, .int yl, .int (nI tl), .int 0, .long fdl, .ref a1_wk_o, .ref a2_wk_o, .ref a3_wk_o, .ref a4_wk_o, .ref a5_wk_o])) → cIn wl22 sj (.inl (cy 0, 44, .inl fsj)) → cIn wl22 a1_wk_o (.inl (cy 0, 6, .inl gl1)) → cIn wl22 a2_wk_o (.inl (cy 0, 6, .inl gl2)) → cIn wl22 a3_wk_o (.inl (cy 0, 6, .inl gl3)) → cIn wl22 a4_wk_o (.inl (cy 0, 6, .inl gl4)) → cIn wl22 a5_wk_o (.inl (cy 1, 6, .inr (.inl gl5))) → ∀ (ls : Array Slot), lv_has ls 4 [(3, .int (nI k)), (2, .ref xj), (0, .ref o), (1, .int j)] → W p l e (headSpec wsX9_count ({ frames := 6, cells := 0, slots := 0, locals := 144 })).room s m #[Value.ref o, Value.int j] below meth c H locs 0 0 (MQ below (va_Qi (fun r0 u => cX none (chs [1, 5, 20, 21, 22, 23]) G ws u.1 u.2 ∧ ((okJob jc_o j ∧ ∃ q k u, wEn (2 ^ wj) hj (cGo wj oj nj fsj) (cFi kj wj hj tj oj nj fsj) (fun _ _ => False) (fun _ _ => ()) ((0 : Int), (fun _ : Nat => (0 : Nat)), (0 : Nat)) () q k () u ∧ r0 = anC q k) ∨ (¬ okJob jc_o j ∧ r0 = -1))) (cB D cy A) A) #[Value.ref o, Value.int j] s 0 0 A) (F0 m 22 ls []) := by
      intro n
      induction n with
      | zero => intro k yl tl fdl gl1 gl2 gl3 gl4 gl5 j22_0 j22_1 j22_2 hn; exact absurd hn (Nat.not_lt_zero _)
      | succ n ih_22 =>
        intro k yl tl fdl gl1 gl2 gl3 gl4 gl5 j22_0 j22_1 j22_2 hn_22 Gl22 wl22 hEl22 hX hD hT H locs hP hS hM_o hM_xj hM_wk_o hM_sj hM_a1_wk_o hM_a2_wk_o hM_a3_wk_o hM_a4_wk_o hM_a5_wk_o ls hl
        have hG_o := hEl22 _ _ hG_o
        have hG_bs_o := hEl22 _ _ hG_bs_o
        have hG_js_o := hEl22 _ _ hG_js_o
        have hG_sh_o := hEl22 _ _ hG_sh_o
        have hG_wk_o := hEl22 _ _ hG_wk_o
        have hG_ll_o := hEl22 _ _ hG_ll_o
        have hG_xj := hEl22 _ _ hG_xj
        have hG_bj := hEl22 _ _ hG_bj
        have hG_sj := hEl22 _ _ hG_sj
        have hG_a1_wk_o := hEl22 _ _ hG_a1_wk_o
        have hG_a2_wk_o := hEl22 _ _ hG_a2_wk_o
        have hG_a3_wk_o := hEl22 _ _ hG_a3_wk_o
        have hG_a4_wk_o := hEl22 _ _ hG_a4_wk_o
        have hG_a5_wk_o := hEl22 _ _ hG_a5_wk_o
        have ik : (nI k).toInt = (k : Int) := nI_toInt (by omega)
        obtain ⟨s9, fo9, rl9, st9⟩ := j22_2
        have gd9 := wFo_gd gd0 k fo9
        have kl9 : 0 + k ≤ s9.2.2 := gd9.2
        refine lv_iload_n hx hb dX9_count_22 rfl (lv_at hl 0 rfl) ?_
        refine lv_ldc hx hb hown (hts (.constant RX9 135 (1000000)) (by decide +kernel)) dX9_count_23 ?_
        refine lv_icmp_ge (tgt := 44) hx hb dX9_count_25 (by decide) (fun c25 => ?_) (fun c25 => ?_)
        · skip
          have d25 := c25
          rw [fa_le] at d25
          exfalso; omega
        · skip
          have d25 := c25
          rw [fa_le] at d25
          refine lv_aload_n hx hb dX9_count_28 rfl (lv_at hl 2 rfl) ?_
          refine t_get (v := .ref wk_o) (C := RX9) (T := TX9) (N := 9) hx hb hts (by decide +kernel) hown hK hP hM_o rfl 4 (by decide) (hts (.fieldLink RX9 34 "ShadowBench" "walk" "LShadowBench$Walk;") (by decide +kernel)) (fun _ h9 => h9) rfl dX9_count_29 ?_
          refine t_calli (va_runV (g := F0 m 32 ls ([.ref wk_o])) (As := []) (rest := []) ⟨hx, hb, hml, hown, hts⟩ (c_X8_advance_x l D cy A Gl22 wl22 wk_o hD hT hG_wk_o hM_wk_o hG_xj hM_xj hM_sj hM_a1_wk_o hM_a2_wk_o hM_a3_wk_o hM_a4_wk_o hM_a5_wk_o hb9 ht9 gd9.1 (he9 vj2) rl9 rfl (by omega)) (cwV 0 hts gX9_count_X8_advance rfl rfl rfl (by decide +kernel) ⟨Nat.le_of_ble_eq_true rfl, Nat.le_of_ble_eq_true rfl⟩) (c_preV hM_wk_o rfl hP hK hA hS hV) rfl rfl hl.1 rfl (lv_room (Nat.le_of_ble_eq_true rfl)) dX9_count_32 ⟨Nat.le_of_ble_eq_true rfl, Nat.le_of_ble_eq_true rfl⟩) hS (fun r32 u H locs q32 hP9 hD9 hT9 hS => ?_)
          obtain ⟨w32, rfl, hF32, q32⟩ := q32
          have hP : va_P D vwCl w32 H := hP9
          have hD : va_D A w32 := hD9
          have hT : cT cy Gl22 w32 := hT9
          have hM_o := hF32 _ _ (fun z9 => z9.elim (cne hG_o hG_wk_o (show (7 : Nat) ≠ 5 by decide)) (fun z9 => z9.elim (cne hG_o hG_a1_wk_o (show (7 : Nat) ≠ 20 by decide)) (fun z9 => z9.elim (cne hG_o hG_a2_wk_o (show (7 : Nat) ≠ 21 by decide)) (fun z9 => z9.elim (cne hG_o hG_a3_wk_o (show (7 : Nat) ≠ 22 by decide)) (fun z9 => z9.elim (cne hG_o hG_a4_wk_o (show (7 : Nat) ≠ 23 by decide)) (cne hG_o hG_a5_wk_o (show (7 : Nat) ≠ 1 by decide))))))) hM_o
          have hM_xj := hF32 _ _ (fun z9 => z9.elim (cne hG_xj hG_wk_o (show (3 : Nat) ≠ 5 by decide)) (fun z9 => z9.elim (cne hG_xj hG_a1_wk_o (show (3 : Nat) ≠ 20 by decide)) (fun z9 => z9.elim (cne hG_xj hG_a2_wk_o (show (3 : Nat) ≠ 21 by decide)) (fun z9 => z9.elim (cne hG_xj hG_a3_wk_o (show (3 : Nat) ≠ 22 by decide)) (fun z9 => z9.elim (cne hG_xj hG_a4_wk_o (show (3 : Nat) ≠ 23 by decide)) (cne hG_xj hG_a5_wk_o (show (3 : Nat) ≠ 1 by decide))))))) hM_xj
          have hM_sj := hF32 _ _ (fun z9 => z9.elim (cne hG_sj hG_wk_o (show (14 : Nat) ≠ 5 by decide)) (fun z9 => z9.elim (cne hG_sj hG_a1_wk_o (show (14 : Nat) ≠ 20 by decide)) (fun z9 => z9.elim (cne hG_sj hG_a2_wk_o (show (14 : Nat) ≠ 21 by decide)) (fun z9 => z9.elim (cne hG_sj hG_a3_wk_o (show (14 : Nat) ≠ 22 by decide)) (fun z9 => z9.elim (cne hG_sj hG_a4_wk_o (show (14 : Nat) ≠ 23 by decide)) (cne hG_sj hG_a5_wk_o (show (14 : Nat) ≠ 1 by decide))))))) hM_sj
          have hX := hX.tr ⟨cE.rf, hF32.wk (fun b9 z9 => by rcases z9 with rfl | rfl | rfl | rfl | rfl | rfl; exact (Or.inr ⟨_, hG_wk_o, rfl⟩); exact (Or.inr ⟨_, hG_a1_wk_o, rfl⟩); exact (Or.inr ⟨_, hG_a2_wk_o, rfl⟩); exact (Or.inr ⟨_, hG_a3_wk_o, rfl⟩); exact (Or.inr ⟨_, hG_a4_wk_o, rfl⟩); exact (Or.inr ⟨_, hG_a5_wk_o, rfl⟩)), fun _ _ h9 => Or.inl h9⟩
          rcases q32 with ⟨hr32, u9, yA32, gA1_32, gA2_32, gA3_32, gA4_32, gA5_32, ru9, rl8, hW32⟩ | ⟨hr32, q9, u9, yB32, trB32, spB32, fdB32, gB1_32, gB2_32, gB3_32, gB4_32, gB5_32, ru9, hq9, hW32⟩
          · skip
            have hM_wk_o : cIn w32 wk_o (.inr (7, [.ref xj, .int yA32, .int (nI u9.2.2), .int 0, .long (picL wj u9.2.1 hj), .ref a1_wk_o, .ref a2_wk_o, .ref a3_wk_o, .ref a4_wk_o, .ref a5_wk_o])) := hW32.1
            have hM_a1_wk_o : cIn w32 a1_wk_o (.inl (cy 0, 6, .inl gA1_32)) := hW32.2.1
            have hM_a2_wk_o : cIn w32 a2_wk_o (.inl (cy 0, 6, .inl gA2_32)) := hW32.2.2.1
            have hM_a3_wk_o : cIn w32 a3_wk_o (.inl (cy 0, 6, .inl gA3_32)) := hW32.2.2.2.1
            have hM_a4_wk_o : cIn w32 a4_wk_o (.inl (cy 0, 6, .inl gA4_32)) := hW32.2.2.2.2.1
            have hM_a5_wk_o : cIn w32 a5_wk_o (.inl (cy 1, 6, .inr (.inl gA5_32))) := hW32.2.2.2.2.2
            subst hr32
            have gd8 := wRun_2 gd9.1 ru9
            have kk9 : k + 1 ≤ 200000 := by have z1 : u9.2.2 ≤ 200000 := gd8.1.1.2.2; have z2 := gd8.2; omega
            have tt9 : u9.2.2 ≤ 200000 := gd8.1.1.2.2
            refine lv_if_eq (tgt := 44) hx hb dX9_count_35 (by decide) (fun c35 => ?_) (fun c35 => ?_)
            · first | exact absurd c35 (by decide) | exact absurd (by decide) c35
            · skip
              have d35 := c35
              rw [fa_eq] at d35
              refine lv_iinc (v := (nI (k + 1))) (lv' := [(3, .int (nI (k + 1))), (2, .ref xj), (0, .ref o), (1, .int j)]) hx hb dX9_count_38 hl (k := 0) rfl (nI_1 _) (by decide) rfl (fun ls hl => ?_)
              refine lv_goto (tgt := 22) hx hb dX9_count_41 (by decide) ?_
              exact ih_22 (k + 1) yA32 u9.2.2 (picL wj u9.2.1 hj) gA1_32 gA2_32 gA3_32 gA4_32 gA5_32 (kk9) (tt9) (⟨u9, ⟨s9, (), fo9, ru9, id, rfl⟩, rl8, rfl⟩) (by omega) Gl22 w32 hEl22 hX hD hT _ _ hP hS hM_o hM_xj hM_wk_o hM_sj hM_a1_wk_o hM_a2_wk_o hM_a3_wk_o hM_a4_wk_o hM_a5_wk_o ls (lv_sub hl [0, 1, 2, 3] rfl)
          · skip
            have hsb32 : isBo spB32 := hq9.elim (fun z9 => Or.inl z9.2) (fun z9 => Or.inr z9.2)
            have hM_wk_o : cIn w32 wk_o (.inr (7, [.ref xj, .int yB32, .int trB32, .int spB32, .long fdB32, .ref a1_wk_o, .ref a2_wk_o, .ref a3_wk_o, .ref a4_wk_o, .ref a5_wk_o])) := hW32.1
            have hM_a1_wk_o : cIn w32 a1_wk_o (.inl (cy 0, 6, .inl gB1_32)) := hW32.2.1
            have hM_a2_wk_o : cIn w32 a2_wk_o (.inl (cy 0, 6, .inl gB2_32)) := hW32.2.2.1
            have hM_a3_wk_o : cIn w32 a3_wk_o (.inl (cy 0, 6, .inl gB3_32)) := hW32.2.2.2.1
            have hM_a4_wk_o : cIn w32 a4_wk_o (.inl (cy 0, 6, .inl gB4_32)) := hW32.2.2.2.2.1
            have hM_a5_wk_o : cIn w32 a5_wk_o (.inl (cy 1, 6, .inr (.inl gB5_32))) := hW32.2.2.2.2.2
            subst hr32
            refine lv_if_eq (tgt := 44) hx hb dX9_count_35 (by decide) (fun c35 => ?_) (fun c35 => ?_)
            · skip
              have d35 := c35
              rw [fa_eq] at d35
              refine lv_aload_n hx hb dX9_count_44 rfl (lv_at hl 2 rfl) ?_
              refine t_get (v := .ref wk_o) (C := RX9) (T := TX9) (N := 9) hx hb hts (by decide +kernel) hown hK hP hM_o rfl 4 (by decide) (hts (.fieldLink RX9 34 "ShadowBench" "walk" "LShadowBench$Walk;") (by decide +kernel)) (fun _ h9 => h9) rfl dX9_count_45 ?_
              refine t_calli (va_runV (g := F0 m 48 ls ([.ref wk_o])) (As := []) (rest := []) ⟨hx, hb, hml, hown, hts⟩ (c_X8_isSpent_x l D cy A Gl22 w32 wk_o hD hT hG_wk_o hM_wk_o ) (cwV 0 hts gX9_count_X8_isSpent rfl rfl rfl (by decide +kernel) ⟨Nat.le_of_ble_eq_true rfl, Nat.le_of_ble_eq_true rfl⟩) (c_preV hM_wk_o rfl hP hK hA hS hV) rfl rfl hl.1 rfl (lv_room (Nat.le_of_ble_eq_true rfl)) dX9_count_48 ⟨Nat.le_of_ble_eq_true rfl, Nat.le_of_ble_eq_true rfl⟩) hS (fun r48 u H locs q48 hP9 hD9 hT9 hS => ?_)
              obtain ⟨rfl, q48⟩ := q48
              have hP : va_P D vwCl w32 H := hP9
              refine lv_if_eq (tgt := 59) hx hb dX9_count_51 (by decide) (fun c51 => ?_) (fun c51 => ?_)
              · skip
                have d51 := c51
                rw [fa_eq] at d51
                refine lv_iload_n hx hb dX9_count_59 rfl (lv_at hl 0 rfl) ?_
                exact W.iret (v := (nI k)) hx hb hr (fun t ht hW => ⟨⟨_, (Gl22, w32), rfl, ⟨hX, (Or.inl ⟨vj2, q9, k, u9, ⟨s9, fo9, ru9, (fun y9 => by omega)⟩, (by rcases hq9 with ⟨z1, z2⟩ | ⟨z1, z2⟩; (rw [z1]; rfl); exact absurd (z2.symm.trans (q48.symm.trans c51)) (by decide))⟩)⟩, by show va_P D vwCl w32 t.heap; rw [ht]; exact hP, hD, hT⟩, hS.F ht⟩) hS.2.2 dX9_count_60
              · skip
                have d51 := c51
                rw [fa_eq] at d51
                refine lv_bipush (v := (-5)) hx hb dX9_count_54 (by decide) ?_
                refine lv_goto (tgt := 60) hx hb dX9_count_56 (by decide) ?_
                exact W.iret (v := ((-5) : Int32)) hx hb hr (fun t ht hW => ⟨⟨_, (Gl22, w32), rfl, ⟨hX, (Or.inl ⟨vj2, q9, k, u9, ⟨s9, fo9, ru9, (fun y9 => by omega)⟩, (by rcases hq9 with ⟨z1, z2⟩ | ⟨z1, z2⟩; exact absurd (q48.trans z2) c51; (rw [z1]; rfl))⟩)⟩, by show va_P D vwCl w32 t.heap; rw [ht]; exact hP, hD, hT⟩, hS.F ht⟩) hS.2.2 dX9_count_60
            · first | exact absurd c35 (by decide) | exact absurd (by decide) c35
    exact loop_22 (200001 + 1) 0 (nI 0) 0 0 g1_17 g2_17 g3_17 g4_17 g5_17 (by omega) (by omega) (⟨((0 : Int), (fun _ : Nat => (0 : Nat)), (0 : Nat)), ⟨rfl, rfl⟩, hc17, rfl⟩) (by omega) G w17 cE.rf hX hD hT _ _ hP hS hM_o hM_xj hM_wk_o hM_sj hM_a1_wk_o hM_a2_wk_o hM_a3_wk_o hM_a4_wk_o hM_a5_wk_o ls (lv_sub hl [0, 1, 2, 3] rfl)
set_option maxHeartbeats 4000000 in
set_option maxRecDepth 100000 in
theorem c_X9_find_j (l : Launch) (D : va_G) (cy : Nat → ClassId) (A : Nat → Prop) (G : cG) (ws : va_W) (o : Nat) (j : Int32) (i0 : Int32) {bs_o js_o sh_o wk_o ll_o : Nat} {jc_o lc_o : Int32} {mo_o lb_o : Option Nat} {fa : Nat → Option Nat} {xj kj bj sj tj wj hj : Nat} {oj nj : Int64} {msj : List Value} {fsj : Nat → Int32} (hD : va_D A ws) (hT : cT cy G ws) (hG_o : G o = some (7, 0, 0)) (hM_o : cIn ws o (.inr (8, [.ref bs_o, .ref js_o, .int jc_o, .ref sh_o, .ref wk_o, va_rf mo_o, .ref ll_o, .int lc_o, va_rf lb_o]))) (hM_js_o : cIn ws js_o (.inl (cy 4, cqa 8 fa))) (hJ1 : ∀ i : Nat, (i : Int) < jc_o.toInt → ∃ x, fa i = some x) (hJ : okJob jc_o j → jobS cy G ws fa j.toNatClampNeg xj kj bj sj tj wj hj oj nj msj fsj) (hr9 : okJob jc_o j → ∀ y l, y < 4 → l < lnC wj hj y → 0 ≤ (fsj (y * 11 + l)).toInt ∧ (fsj (y * 11 + l)).toInt ≤ 6) (he9 : okJob jc_o j → ∀ s, s < wj * hj → ¬ (lb oj s = true ∧ lb nj s = true)) : Cl l D cy A yX9_find wsX9_find ({ frames := 6, cells := 0, slots := 0, locals := 144 }) 0 0 ws [.ref o, .int j, .int i0] (fun r0 u => cX none (chs [1, 5, 20, 21, 22, 23]) G ws u.1 u.2 ∧ (((okJob jc_o j ∧ 0 ≤ i0.toInt) ∧ ∃ q k a u, wEn (2 ^ wj) hj (cGo wj oj nj fsj) (cFi kj wj hj tj oj nj fsj) (fun a _ => (a : Int) = i0.toInt) (fun a _ => a + 1) ((0 : Int), (fun _ : Nat => (0 : Nat)), (0 : Nat)) 0 q k a u ∧ r0 = anF q (picL wj u.2.1 hj)) ∨ (¬ (okJob jc_o j ∧ 0 ≤ i0.toInt) ∧ r0 = -1))) := by
  refine Met.ofW (cc := cX9_find) (maxL := 5) (ret := (some .long)) (by decide) rfl ?_
  intro p e s m args below meth c s₁ B hml hv
  obtain ⟨rfl, hP, hK, hA, hV⟩ := hv
  have hx := B.exec
  have hb := B.bytes
  have hr := B.returns
  have hts := atoms_spec (ws := wsX9_find) B.pre
  have hown : s.vm.findClass RX9 = some m.cls := findClass_of_methodNamed B.named
  have hlocks := B.notSynchronized
  have hS : va_S A s.heap s.heap [] := va_S.rf
  have hX : cX none (chs [1, 5, 20, 21, 22, 23]) G ws G ws := cX.rf
  have hl := lv_entry ([.ref o, .int j, .int i0]) (n := 5) (Nat.le_of_ble_eq_true rfl)
  rw [lg_entry_eq]
  generalize (lg_sl ([.ref o, .int j, .int i0]) ++ List.replicate (5 - (lg_sl ([.ref o, .int j, .int i0])).length) Slot.unset).toArray = ls at hl ⊢
  have hl : lv_has ls 5 [(0, .ref o), (1, .int j), (2, .int i0)] := hl
  have k_0 : (0 : Int32).toInt = 0 := by decide
  have k_1000000 : (1000000 : Int32).toInt = 1000000 := by decide
  have k_m5L : (-5 : Int64).toInt = -5 := by decide
  have k_m2L : (-2 : Int64).toInt = -2 := by decide
  have k_m1L : (-1 : Int64).toInt = -1 := by decide
  obtain ⟨hjc_o, hlc_o, hG_bs_o, hG_js_o, hG_sh_o, hG_wk_o, hmo_o, hG_ll_o, hlb_o⟩ := w7sh hD hT hG_o hM_o
  have hf_js_o := w9sh hD hT hG_js_o hM_js_o
  refine lv_aload_n hx hb dX9_find_0 rfl (lv_at hl 0 rfl) ?_
  refine lv_iload_n hx hb dX9_find_1 rfl (lv_at hl 1 rfl) ?_
  refine t_calla (va_runV (g := F0 m 2 ls ([.int j, .ref o])) (As := [.int j]) (rest := []) ⟨hx, hb, hml, hown, hts⟩ (c_X9_jobOf_j l D cy A G ws o j hD hT hG_o hM_o hM_js_o hJ1) (cwV 1 hts gX9_find_X9_jobOf rfl rfl rfl (by decide +kernel) ⟨Nat.le_of_ble_eq_true rfl, Nat.le_of_ble_eq_true rfl⟩) (c_preV hM_o rfl hP hK hA hS hV) rfl rfl hl.1 rfl (lv_room (Nat.le_of_ble_eq_true rfl)) dX9_find_2 ⟨Nat.le_of_ble_eq_true rfl, Nat.le_of_ble_eq_true rfl⟩) hS (fun r2 u H locs q2 hP9 hD9 hT9 hS => ?_)
  obtain ⟨rfl, q2⟩ := q2
  have hP : va_P D vwCl ws H := hP9
  rcases r2 with _ | x2
  · skip
    have vn2 := q2.2 rfl
    refine lv_astore_nN (lv' := [(3, .null), (0, .ref o), (1, .int j), (2, .int i0)]) hx hb dX9_find_5 rfl hl (by decide) rfl (fun ls hl => ?_)
    refine lv_aload_nN hx hb dX9_find_6 rfl (lv_at hl 0 rfl) ?_
    refine lv_ifnullN (tgt := 14) hx hb dX9_find_7 (by decide) ?_
    refine lv_ldc2 hx hb hown (hts (.constantLong RX9 143 (-1)) (by decide +kernel)) dX9_find_14 ?_
    exact W.lret (v := (-1 : Int64)) hx hb hr (fun t ht hW => ⟨⟨_, (G, ws), rfl, ⟨hX, (Or.inr ⟨(fun z9 => by first | exact vn2 z9.1 | (have := z9.2; omega)), rfl⟩)⟩, by show va_P D vwCl ws t.heap; rw [ht]; exact hP, hD, hT⟩, hS.F ht⟩) hS.2.2 dX9_find_17
  · skip
    obtain ⟨vj2, fj2⟩ := q2.1 x2 rfl
    obtain ⟨hfa9, hG_xj, hb9, ht9, hM_xj, hM_sj⟩ := hJ vj2
    obtain rfl : xj = x2 := Option.some.inj (hfa9.symm.trans fj2)
    obtain ⟨hG_bj, hG_sj, hJ_xj⟩ := w3sh hD hT hG_xj hb9 hM_xj
    refine lv_astore_n (lv' := [(3, .ref xj), (0, .ref o), (1, .int j), (2, .int i0)]) hx hb dX9_find_5 rfl hl (by decide) rfl (fun ls hl => ?_)
    refine lv_aload_n hx hb dX9_find_6 rfl (lv_at hl 0 rfl) ?_
    refine lv_ifnull hx hb dX9_find_7 ?_
    refine lv_iload_n hx hb dX9_find_10 rfl (lv_at hl 3 rfl) ?_
    refine lv_if_ge (tgt := 18) hx hb dX9_find_11 (by decide) (fun c11 => ?_) (fun c11 => ?_)
    · skip
      have d11 := c11
      rw [fa_le] at d11
      refine lv_aload_n hx hb dX9_find_18 rfl (lv_at hl 1 rfl) ?_
      refine t_get (v := .ref wk_o) (C := RX9) (T := TX9) (N := 9) hx hb hts (by decide +kernel) hown hK hP hM_o rfl 4 (by decide) (hts (.fieldLink RX9 34 "ShadowBench" "walk" "LShadowBench$Walk;") (by decide +kernel)) (fun _ h9 => h9) rfl dX9_find_19 ?_
      obtain ⟨_, hM_wk_o, j_wk_o, y_wk_o, tr_wk_o, sp_wk_o, fd_wk_o, a1_wk_o, a2_wk_o, a3_wk_o, a4_wk_o, a5_wk_o, rfl, hsp_wk_o, hj_wk_o, hG_a1_wk_o, hG_a2_wk_o, hG_a3_wk_o, hG_a4_wk_o, hG_a5_wk_o⟩ := hT _ _ hG_wk_o
      obtain ⟨fw1, hM_a1_wk_o⟩ := cIa hT (Or.inr (Or.inr (Or.inl rfl))) hG_a1_wk_o
      obtain ⟨fw2, hM_a2_wk_o⟩ := cIa hT (Or.inr (Or.inr (Or.inr (Or.inl rfl)))) hG_a2_wk_o
      obtain ⟨fw3, hM_a3_wk_o⟩ := cIa hT (Or.inr (Or.inr (Or.inr (Or.inr (Or.inl rfl))))) hG_a3_wk_o
      obtain ⟨fw4, hM_a4_wk_o⟩ := cIa hT (Or.inr (Or.inr (Or.inr (Or.inr (Or.inr rfl))))) hG_a4_wk_o
      obtain ⟨fw5, hM_a5_wk_o⟩ := cLa hT (Or.inl rfl) hG_a5_wk_o
      have gd0 := rg_cs hb9 (hr9 vj2)
      refine lv_aload_n hx hb dX9_find_22 rfl (lv_at hl 0 rfl) ?_
      refine t_callv (va_runV (g := F0 m 23 ls ([.ref xj, .ref wk_o])) (As := [.ref xj]) (rest := []) ⟨hx, hb, hml, hown, hts⟩ (c_X8_start_x (j_o := j_wk_o) l D cy A G ws wk_o xj hD hT hG_wk_o hM_wk_o hG_xj hM_xj hM_sj hM_a1_wk_o hM_a2_wk_o hM_a3_wk_o hM_a4_wk_o hM_a5_wk_o hb9 ht9) (cwV 1 hts gX9_find_X8_start rfl rfl rfl (by decide +kernel) ⟨Nat.le_of_ble_eq_true rfl, Nat.le_of_ble_eq_true rfl⟩) (c_preV hM_wk_o rfl hP hK hA hS hV) rfl rfl hl.1 rfl (lv_room (Nat.le_of_ble_eq_true rfl)) dX9_find_23 ⟨Nat.le_of_ble_eq_true rfl, Nat.le_of_ble_eq_true rfl⟩) hS (fun u H locs q23 hP9 hD9 hT9 hS => ?_)
      obtain ⟨w23, rfl, hF23, q23⟩ := q23
      have hP : va_P D vwCl w23 H := hP9
      have hD : va_D A w23 := hD9
      have hT : cT cy G w23 := hT9
      have hM_o := hF23 _ _ (fun z9 => z9.elim (cne hG_o hG_wk_o (show (7 : Nat) ≠ 5 by decide)) (fun z9 => z9.elim (cne hG_o hG_a1_wk_o (show (7 : Nat) ≠ 20 by decide)) (fun z9 => z9.elim (cne hG_o hG_a2_wk_o (show (7 : Nat) ≠ 21 by decide)) (fun z9 => z9.elim (cne hG_o hG_a3_wk_o (show (7 : Nat) ≠ 22 by decide)) (fun z9 => z9.elim (cne hG_o hG_a4_wk_o (show (7 : Nat) ≠ 23 by decide)) (cne hG_o hG_a5_wk_o (show (7 : Nat) ≠ 1 by decide))))))) hM_o
      have hM_js_o := hF23 _ _ (fun z9 => z9.elim (cne hG_js_o hG_wk_o (show (9 : Nat) ≠ 5 by decide)) (fun z9 => z9.elim (cne hG_js_o hG_a1_wk_o (show (9 : Nat) ≠ 20 by decide)) (fun z9 => z9.elim (cne hG_js_o hG_a2_wk_o (show (9 : Nat) ≠ 21 by decide)) (fun z9 => z9.elim (cne hG_js_o hG_a3_wk_o (show (9 : Nat) ≠ 22 by decide)) (fun z9 => z9.elim (cne hG_js_o hG_a4_wk_o (show (9 : Nat) ≠ 23 by decide)) (cne hG_js_o hG_a5_wk_o (show (9 : Nat) ≠ 1 by decide))))))) hM_js_o
      have hM_xj := hF23 _ _ (fun z9 => z9.elim (cne hG_xj hG_wk_o (show (3 : Nat) ≠ 5 by decide)) (fun z9 => z9.elim (cne hG_xj hG_a1_wk_o (show (3 : Nat) ≠ 20 by decide)) (fun z9 => z9.elim (cne hG_xj hG_a2_wk_o (show (3 : Nat) ≠ 21 by decide)) (fun z9 => z9.elim (cne hG_xj hG_a3_wk_o (show (3 : Nat) ≠ 22 by decide)) (fun z9 => z9.elim (cne hG_xj hG_a4_wk_o (show (3 : Nat) ≠ 23 by decide)) (cne hG_xj hG_a5_wk_o (show (3 : Nat) ≠ 1 by decide))))))) hM_xj
      have hM_sj := hF23 _ _ (fun z9 => z9.elim (cne hG_sj hG_wk_o (show (14 : Nat) ≠ 5 by decide)) (fun z9 => z9.elim (cne hG_sj hG_a1_wk_o (show (14 : Nat) ≠ 20 by decide)) (fun z9 => z9.elim (cne hG_sj hG_a2_wk_o (show (14 : Nat) ≠ 21 by decide)) (fun z9 => z9.elim (cne hG_sj hG_a3_wk_o (show (14 : Nat) ≠ 22 by decide)) (fun z9 => z9.elim (cne hG_sj hG_a4_wk_o (show (14 : Nat) ≠ 23 by decide)) (cne hG_sj hG_a5_wk_o (show (14 : Nat) ≠ 1 by decide))))))) hM_sj
      have hX := hX.tr ⟨cE.rf, hF23.wk (fun b9 z9 => by rcases z9 with rfl | rfl | rfl | rfl | rfl | rfl; exact (Or.inr ⟨_, hG_wk_o, rfl⟩); exact (Or.inr ⟨_, hG_a1_wk_o, rfl⟩); exact (Or.inr ⟨_, hG_a2_wk_o, rfl⟩); exact (Or.inr ⟨_, hG_a3_wk_o, rfl⟩); exact (Or.inr ⟨_, hG_a4_wk_o, rfl⟩); exact (Or.inr ⟨_, hG_a5_wk_o, rfl⟩)), fun _ _ h9 => Or.inl h9⟩
      obtain ⟨g1_23, g2_23, g3_23, g4_23, g5_23, hc23, hW23⟩ := q23
      have hM_wk_o : cIn w23 wk_o (.inr (7, [.ref xj, .int (nI 0), .int (nI 0), .int 0, .long 0, .ref a1_wk_o, .ref a2_wk_o, .ref a3_wk_o, .ref a4_wk_o, .ref a5_wk_o])) := hW23.1
      have hM_a1_wk_o : cIn w23 a1_wk_o (.inl (cy 0, 6, .inl g1_23)) := hW23.2.1
      have hM_a2_wk_o : cIn w23 a2_wk_o (.inl (cy 0, 6, .inl g2_23)) := hW23.2.2.1
      have hM_a3_wk_o : cIn w23 a3_wk_o (.inl (cy 0, 6, .inl g3_23)) := hW23.2.2.2.1
      have hM_a4_wk_o : cIn w23 a4_wk_o (.inl (cy 0, 6, .inl g4_23)) := hW23.2.2.2.2.1
      have hM_a5_wk_o : cIn w23 a5_wk_o (.inl (cy 1, 6, .inr (.inl g5_23))) := hW23.2.2.2.2.2
      refine lv_iconst (v := 0) hx hb dX9_find_26 (by decide) ?_
      refine lv_istore (lv' := [(4, .int (0 : Int32)), (3, .ref xj), (0, .ref o), (1, .int j), (2, .int i0)]) hx hb dX9_find_27 hl (by decide) rfl (fun ls hl => ?_)
      have loop_29 : ∀ (n : Nat) (k : Nat) (yl : Int32) (tl : Nat) (fdl : Int64) (gl1 : Nat → Int32) (gl2 : Nat → Int32) (gl3 : Nat → Int32) (gl4 : Nat → Int32) (gl5 : Nat → Int64), (k ≤ 200000) → (tl ≤ 200000) → (∃ s, wFo (2 ^ wj) hj (cGo wj oj nj fsj) (cFi kj wj hj tj oj nj fsj) (fun a _ => (a : Int) = i0.toInt) (fun a _ => a + 1) ((0 : Int), (fun _ : Nat => (0 : Nat)), (0 : Nat)) 0 k s k ∧ cRel wj oj nj fsj s yl (nI tl) gl1 gl2 gl3 gl4 gl5 ∧ s.2.2 = tl) → 200001 - k < n → ∀ (Gl29 : cG) (wl29 : va_W), cE G Gl29 → cX none (chs [1, 5, 20, 21, 22, 23]) G ws Gl29 wl29 → va_D A wl29 → cT cy Gl29 wl29 → ∀ (H : Heap) (locs : List Loc), va_P D vwCl wl29 H → va_S A s.heap H locs → cIn wl29 o (.inr (8, [.ref bs_o, .ref js_o, .int jc_o, .ref sh_o, .ref wk_o, va_rf mo_o, .ref ll_o, .int lc_o, va_rf lb_o])) → cIn wl29 xj (.inr (kj, .ref bj :: .ref sj :: .int (nI tj) :: .long oj :: .long nj :: msj)) → cIn wl29 wk_o (.inr (7, [.ref xj, .int yl, .int (nI tl), .int 0, .long fdl, .ref a1_wk_o, .ref a2_wk_o, .ref a3_wk_o, .ref a4_wk_o, .ref a5_wk_o])) → cIn wl29 sj (.inl (cy 0, 44, .inl fsj)) → cIn wl29 a1_wk_o (.inl (cy 0, 6, .inl gl1)) → cIn wl29 a2_wk_o (.inl (cy 0, 6, .inl gl2)) → cIn wl29 a3_wk_o (.inl (cy 0, 6, .inl gl3)) → cIn wl29 a4_wk_o (.inl (cy 0, 6, .inl gl4)) → cIn wl29 a5_wk_o (.inl (cy 1, 6, .inr (.inl gl5))) → ∀ (ls : Array Slot), lv_has ls 5 [(4, .int (nI k)), (3, .ref xj), (0, .ref o), (1, .int j), (2, .int i0)] → W p l e (headSpec wsX9_find ({ frames := 6, cells := 0, slots := 0, locals := 144 })).room s m #[Value.ref o, Value.int j, Value.int i0] below meth c H locs 0 0 (MQ below (va_Ql (fun r0 u => cX none (chs [1, 5, 20, 21, 22, 23]) G ws u.1 u.2 ∧ (((okJob jc_o j ∧ 0 ≤ i0.toInt) ∧ ∃ q k a u, wEn (2 ^ wj) hj (cGo wj oj nj fsj) (cFi kj wj hj tj oj nj fsj) (fun a _ => (a : Int) = i0.toInt) (fun a _ => a + 1) ((0 : Int), (fun _ : Nat => (0 : Nat)), (0 : Nat)) 0 q k a u ∧ r0 = anF q (picL wj u.2.1 hj)) ∨ (¬ (okJob jc_o j ∧ 0 ≤ i0.toInt) ∧ r0 = -1))) (cB D cy A) A) #[Value.ref o, Value.int j, Value.int i0] s 0 0 A) (F0 m 29 ls []) := by
        intro n
        induction n with
        | zero => intro k yl tl fdl gl1 gl2 gl3 gl4 gl5 j29_0 j29_1 j29_2 hn; exact absurd hn (Nat.not_lt_zero _)
        | succ n ih_29 =>
          intro k yl tl fdl gl1 gl2 gl3 gl4 gl5 j29_0 j29_1 j29_2 hn_29 Gl29 wl29 hEl29 hX hD hT H locs hP hS hM_o hM_xj hM_wk_o hM_sj hM_a1_wk_o hM_a2_wk_o hM_a3_wk_o hM_a4_wk_o hM_a5_wk_o ls hl
          have hG_o := hEl29 _ _ hG_o
          have hG_bs_o := hEl29 _ _ hG_bs_o
          have hG_js_o := hEl29 _ _ hG_js_o
          have hG_sh_o := hEl29 _ _ hG_sh_o
          have hG_wk_o := hEl29 _ _ hG_wk_o
          have hG_ll_o := hEl29 _ _ hG_ll_o
          have hG_xj := hEl29 _ _ hG_xj
          have hG_bj := hEl29 _ _ hG_bj
          have hG_sj := hEl29 _ _ hG_sj
          have hG_a1_wk_o := hEl29 _ _ hG_a1_wk_o
          have hG_a2_wk_o := hEl29 _ _ hG_a2_wk_o
          have hG_a3_wk_o := hEl29 _ _ hG_a3_wk_o
          have hG_a4_wk_o := hEl29 _ _ hG_a4_wk_o
          have hG_a5_wk_o := hEl29 _ _ hG_a5_wk_o
          have ik : (nI k).toInt = (k : Int) := nI_toInt (by omega)
          obtain ⟨s9, fo9, rl9, st9⟩ := j29_2
          have gd9 := wFo_gd gd0 k fo9
          have kl9 : 0 + k ≤ s9.2.2 := gd9.2
          refine lv_iload hx hb dX9_find_29 (lv_at hl 0 rfl) ?_
          refine lv_ldc hx hb hown (hts (.constant RX9 135 (1000000)) (by decide +kernel)) dX9_find_31 ?_
          refine lv_icmp_ge (tgt := 66) hx hb dX9_find_33 (by decide) (fun c33 => ?_) (fun c33 => ?_)
          · skip
            have d33 := c33
            rw [fa_le] at d33
            exfalso; omega
          · skip
            have d33 := c33
            rw [fa_le] at d33
            refine lv_aload_n hx hb dX9_find_36 rfl (lv_at hl 2 rfl) ?_
            refine t_get (v := .ref wk_o) (C := RX9) (T := TX9) (N := 9) hx hb hts (by decide +kernel) hown hK hP hM_o rfl 4 (by decide) (hts (.fieldLink RX9 34 "ShadowBench" "walk" "LShadowBench$Walk;") (by decide +kernel)) (fun _ h9 => h9) rfl dX9_find_37 ?_
            refine t_calli (va_runV (g := F0 m 40 ls ([.ref wk_o])) (As := []) (rest := []) ⟨hx, hb, hml, hown, hts⟩ (c_X8_advance_x l D cy A Gl29 wl29 wk_o hD hT hG_wk_o hM_wk_o hG_xj hM_xj hM_sj hM_a1_wk_o hM_a2_wk_o hM_a3_wk_o hM_a4_wk_o hM_a5_wk_o hb9 ht9 gd9.1 (he9 vj2) rl9 rfl (by omega)) (cwV 0 hts gX9_find_X8_advance rfl rfl rfl (by decide +kernel) ⟨Nat.le_of_ble_eq_true rfl, Nat.le_of_ble_eq_true rfl⟩) (c_preV hM_wk_o rfl hP hK hA hS hV) rfl rfl hl.1 rfl (lv_room (Nat.le_of_ble_eq_true rfl)) dX9_find_40 ⟨Nat.le_of_ble_eq_true rfl, Nat.le_of_ble_eq_true rfl⟩) hS (fun r40 u H locs q40 hP9 hD9 hT9 hS => ?_)
            obtain ⟨w40, rfl, hF40, q40⟩ := q40
            have hP : va_P D vwCl w40 H := hP9
            have hD : va_D A w40 := hD9
            have hT : cT cy Gl29 w40 := hT9
            have hM_o := hF40 _ _ (fun z9 => z9.elim (cne hG_o hG_wk_o (show (7 : Nat) ≠ 5 by decide)) (fun z9 => z9.elim (cne hG_o hG_a1_wk_o (show (7 : Nat) ≠ 20 by decide)) (fun z9 => z9.elim (cne hG_o hG_a2_wk_o (show (7 : Nat) ≠ 21 by decide)) (fun z9 => z9.elim (cne hG_o hG_a3_wk_o (show (7 : Nat) ≠ 22 by decide)) (fun z9 => z9.elim (cne hG_o hG_a4_wk_o (show (7 : Nat) ≠ 23 by decide)) (cne hG_o hG_a5_wk_o (show (7 : Nat) ≠ 1 by decide))))))) hM_o
            have hM_xj := hF40 _ _ (fun z9 => z9.elim (cne hG_xj hG_wk_o (show (3 : Nat) ≠ 5 by decide)) (fun z9 => z9.elim (cne hG_xj hG_a1_wk_o (show (3 : Nat) ≠ 20 by decide)) (fun z9 => z9.elim (cne hG_xj hG_a2_wk_o (show (3 : Nat) ≠ 21 by decide)) (fun z9 => z9.elim (cne hG_xj hG_a3_wk_o (show (3 : Nat) ≠ 22 by decide)) (fun z9 => z9.elim (cne hG_xj hG_a4_wk_o (show (3 : Nat) ≠ 23 by decide)) (cne hG_xj hG_a5_wk_o (show (3 : Nat) ≠ 1 by decide))))))) hM_xj
            have hM_sj := hF40 _ _ (fun z9 => z9.elim (cne hG_sj hG_wk_o (show (14 : Nat) ≠ 5 by decide)) (fun z9 => z9.elim (cne hG_sj hG_a1_wk_o (show (14 : Nat) ≠ 20 by decide)) (fun z9 => z9.elim (cne hG_sj hG_a2_wk_o (show (14 : Nat) ≠ 21 by decide)) (fun z9 => z9.elim (cne hG_sj hG_a3_wk_o (show (14 : Nat) ≠ 22 by decide)) (fun z9 => z9.elim (cne hG_sj hG_a4_wk_o (show (14 : Nat) ≠ 23 by decide)) (cne hG_sj hG_a5_wk_o (show (14 : Nat) ≠ 1 by decide))))))) hM_sj
            have hX := hX.tr ⟨cE.rf, hF40.wk (fun b9 z9 => by rcases z9 with rfl | rfl | rfl | rfl | rfl | rfl; exact (Or.inr ⟨_, hG_wk_o, rfl⟩); exact (Or.inr ⟨_, hG_a1_wk_o, rfl⟩); exact (Or.inr ⟨_, hG_a2_wk_o, rfl⟩); exact (Or.inr ⟨_, hG_a3_wk_o, rfl⟩); exact (Or.inr ⟨_, hG_a4_wk_o, rfl⟩); exact (Or.inr ⟨_, hG_a5_wk_o, rfl⟩)), fun _ _ h9 => Or.inl h9⟩
            rcases q40 with ⟨hr40, u9, yA40, gA1_40, gA2_40, gA3_40, gA4_40, gA5_40, ru9, rl8, hW40⟩ | ⟨hr40, q9, u9, yB40, trB40, spB40, fdB40, gB1_40, gB2_40, gB3_40, gB4_40, gB5_40, ru9, hq9, hW40⟩
            · skip
              have hM_wk_o : cIn w40 wk_o (.inr (7, [.ref xj, .int yA40, .int (nI u9.2.2), .int 0, .long (picL wj u9.2.1 hj), .ref a1_wk_o, .ref a2_wk_o, .ref a3_wk_o, .ref a4_wk_o, .ref a5_wk_o])) := hW40.1
              have hM_a1_wk_o : cIn w40 a1_wk_o (.inl (cy 0, 6, .inl gA1_40)) := hW40.2.1
              have hM_a2_wk_o : cIn w40 a2_wk_o (.inl (cy 0, 6, .inl gA2_40)) := hW40.2.2.1
              have hM_a3_wk_o : cIn w40 a3_wk_o (.inl (cy 0, 6, .inl gA3_40)) := hW40.2.2.2.1
              have hM_a4_wk_o : cIn w40 a4_wk_o (.inl (cy 0, 6, .inl gA4_40)) := hW40.2.2.2.2.1
              have hM_a5_wk_o : cIn w40 a5_wk_o (.inl (cy 1, 6, .inr (.inl gA5_40))) := hW40.2.2.2.2.2
              subst hr40
              have gd8 := wRun_2 gd9.1 ru9
              have kk9 : k + 1 ≤ 200000 := by have z1 : u9.2.2 ≤ 200000 := gd8.1.1.2.2; have z2 := gd8.2; omega
              have tt9 : u9.2.2 ≤ 200000 := gd8.1.1.2.2
              refine lv_if_eq (tgt := 66) hx hb dX9_find_43 (by decide) (fun c43 => ?_) (fun c43 => ?_)
              · first | exact absurd c43 (by decide) | exact absurd (by decide) c43
              · skip
                have d43 := c43
                rw [fa_eq] at d43
                refine lv_iload hx hb dX9_find_46 (lv_at hl 0 rfl) ?_
                refine lv_iload_n hx hb dX9_find_48 rfl (lv_at hl 4 rfl) ?_
                refine lv_icmp_ne (tgt := 60) hx hb dX9_find_49 (by decide) (fun c49 => ?_) (fun c49 => ?_)
                · skip
                  have d49 := c49
                  rw [fa_eq] at d49
                  refine lv_iinc (v := (nI (k + 1))) (lv' := [(4, .int (nI (k + 1))), (3, .ref xj), (0, .ref o), (1, .int j), (2, .int i0)]) hx hb dX9_find_60 hl (k := 0) rfl (nI_1 _) (by decide) rfl (fun ls hl => ?_)
                  refine lv_goto (tgt := 29) hx hb dX9_find_63 (by decide) ?_
                  exact ih_29 (k + 1) yA40 u9.2.2 (picL wj u9.2.1 hj) gA1_40 gA2_40 gA3_40 gA4_40 gA5_40 (kk9) (tt9) (⟨u9, ⟨s9, k, fo9, ru9, (fun z9 => by have z8 : (k : Int) = i0.toInt := z9; exact c49 (Int32.toInt_inj.mp (by omega))), rfl⟩, rl8, rfl⟩) (by omega) Gl29 w40 hEl29 hX hD hT _ _ hP hS hM_o hM_xj hM_wk_o hM_sj hM_a1_wk_o hM_a2_wk_o hM_a3_wk_o hM_a4_wk_o hM_a5_wk_o ls (lv_sub hl [0, 1, 2, 3, 4] rfl)
                · skip
                  have d49 := c49
                  rw [fa_eq] at d49
                  have d52 := congrArg Int32.toInt c49
                  refine lv_aload_n hx hb dX9_find_52 rfl (lv_at hl 2 rfl) ?_
                  refine t_get (v := .ref wk_o) (C := RX9) (T := TX9) (N := 9) hx hb hts (by decide +kernel) hown hK hP hM_o rfl 4 (by decide) (hts (.fieldLink RX9 34 "ShadowBench" "walk" "LShadowBench$Walk;") (by decide +kernel)) (fun _ h9 => h9) rfl dX9_find_53 ?_
                  refine t_calll (va_runV (g := F0 m 56 ls ([.ref wk_o])) (As := []) (rest := []) ⟨hx, hb, hml, hown, hts⟩ (c_X8_found_x l D cy A Gl29 w40 wk_o hD hT hG_wk_o hM_wk_o ) (cwV 0 hts gX9_find_X8_found rfl rfl rfl (by decide +kernel) ⟨Nat.le_of_ble_eq_true rfl, Nat.le_of_ble_eq_true rfl⟩) (c_preV hM_wk_o rfl hP hK hA hS hV) rfl rfl hl.1 rfl (lv_room (Nat.le_of_ble_eq_true rfl)) dX9_find_56 ⟨Nat.le_of_ble_eq_true rfl, Nat.le_of_ble_eq_true rfl⟩) hS (fun r56 u H locs q56 hP9 hD9 hT9 hS => ?_)
                  obtain ⟨rfl, q56⟩ := q56
                  have hP : va_P D vwCl w40 H := hP9
                  exact W.lret (v := r56) hx hb hr (fun t ht hW => ⟨⟨_, (Gl29, w40), rfl, ⟨hX, (Or.inl ⟨⟨vj2, by omega⟩, 2, k, k, u9, ⟨s9, fo9, ru9, (fun _ => (by show (k : Int) = i0.toInt; omega))⟩, (by rw [q56]; rfl)⟩)⟩, by show va_P D vwCl w40 t.heap; rw [ht]; exact hP, hD, hT⟩, hS.F ht⟩) hS.2.2 dX9_find_59
            · skip
              have hsb40 : isBo spB40 := hq9.elim (fun z9 => Or.inl z9.2) (fun z9 => Or.inr z9.2)
              have hM_wk_o : cIn w40 wk_o (.inr (7, [.ref xj, .int yB40, .int trB40, .int spB40, .long fdB40, .ref a1_wk_o, .ref a2_wk_o, .ref a3_wk_o, .ref a4_wk_o, .ref a5_wk_o])) := hW40.1
              have hM_a1_wk_o : cIn w40 a1_wk_o (.inl (cy 0, 6, .inl gB1_40)) := hW40.2.1
              have hM_a2_wk_o : cIn w40 a2_wk_o (.inl (cy 0, 6, .inl gB2_40)) := hW40.2.2.1
              have hM_a3_wk_o : cIn w40 a3_wk_o (.inl (cy 0, 6, .inl gB3_40)) := hW40.2.2.2.1
              have hM_a4_wk_o : cIn w40 a4_wk_o (.inl (cy 0, 6, .inl gB4_40)) := hW40.2.2.2.2.1
              have hM_a5_wk_o : cIn w40 a5_wk_o (.inl (cy 1, 6, .inr (.inl gB5_40))) := hW40.2.2.2.2.2
              subst hr40
              refine lv_if_eq (tgt := 66) hx hb dX9_find_43 (by decide) (fun c43 => ?_) (fun c43 => ?_)
              · skip
                have d43 := c43
                rw [fa_eq] at d43
                refine lv_aload_n hx hb dX9_find_66 rfl (lv_at hl 2 rfl) ?_
                refine t_get (v := .ref wk_o) (C := RX9) (T := TX9) (N := 9) hx hb hts (by decide +kernel) hown hK hP hM_o rfl 4 (by decide) (hts (.fieldLink RX9 34 "ShadowBench" "walk" "LShadowBench$Walk;") (by decide +kernel)) (fun _ h9 => h9) rfl dX9_find_67 ?_
                refine t_calli (va_runV (g := F0 m 70 ls ([.ref wk_o])) (As := []) (rest := []) ⟨hx, hb, hml, hown, hts⟩ (c_X8_isSpent_x l D cy A Gl29 w40 wk_o hD hT hG_wk_o hM_wk_o ) (cwV 0 hts gX9_find_X8_isSpent rfl rfl rfl (by decide +kernel) ⟨Nat.le_of_ble_eq_true rfl, Nat.le_of_ble_eq_true rfl⟩) (c_preV hM_wk_o rfl hP hK hA hS hV) rfl rfl hl.1 rfl (lv_room (Nat.le_of_ble_eq_true rfl)) dX9_find_70 ⟨Nat.le_of_ble_eq_true rfl, Nat.le_of_ble_eq_true rfl⟩) hS (fun r70 u H locs q70 hP9 hD9 hT9 hS => ?_)
                obtain ⟨rfl, q70⟩ := q70
                have hP : va_P D vwCl w40 H := hP9
                refine lv_if_eq (tgt := 82) hx hb dX9_find_73 (by decide) (fun c73 => ?_) (fun c73 => ?_)
                · skip
                  have d73 := c73
                  rw [fa_eq] at d73
                  refine lv_ldc2 hx hb hown (hts (.constantLong RX9 151 (-2)) (by decide +kernel)) dX9_find_82 ?_
                  exact W.lret (v := (-2 : Int64)) hx hb hr (fun t ht hW => ⟨⟨_, (Gl29, w40), rfl, ⟨hX, (Or.inl ⟨⟨vj2, by omega⟩, q9, k, k, u9, ⟨s9, fo9, ru9, (fun y9 => by omega)⟩, (by rcases hq9 with ⟨z1, z2⟩ | ⟨z1, z2⟩; (first | exact absurd (q70.trans z2) c73 | (rw [z1]; rfl)); (first | exact absurd (z2.symm.trans (q70.symm.trans c73)) (by decide) | (rw [z1]; rfl)))⟩)⟩, by show va_P D vwCl w40 t.heap; rw [ht]; exact hP, hD, hT⟩, hS.F ht⟩) hS.2.2 dX9_find_85
                · skip
                  have d73 := c73
                  rw [fa_eq] at d73
                  refine lv_ldc2 hx hb hown (hts (.constantLong RX9 149 (-5)) (by decide +kernel)) dX9_find_76 ?_
                  refine lv_goto (tgt := 85) hx hb dX9_find_79 (by decide) ?_
                  exact W.lret (v := (-5 : Int64)) hx hb hr (fun t ht hW => ⟨⟨_, (Gl29, w40), rfl, ⟨hX, (Or.inl ⟨⟨vj2, by omega⟩, q9, k, k, u9, ⟨s9, fo9, ru9, (fun y9 => by omega)⟩, (by rcases hq9 with ⟨z1, z2⟩ | ⟨z1, z2⟩; (first | exact absurd (q70.trans z2) c73 | (rw [z1]; rfl)); (first | exact absurd (z2.symm.trans (q70.symm.trans c73)) (by decide) | (rw [z1]; rfl)))⟩)⟩, by show va_P D vwCl w40 t.heap; rw [ht]; exact hP, hD, hT⟩, hS.F ht⟩) hS.2.2 dX9_find_85
              · first | exact absurd c43 (by decide) | exact absurd (by decide) c43
      exact loop_29 (200001 + 1) 0 (nI 0) 0 0 g1_23 g2_23 g3_23 g4_23 g5_23 (by omega) (by omega) (⟨((0 : Int), (fun _ : Nat => (0 : Nat)), (0 : Nat)), ⟨rfl, rfl⟩, hc23, rfl⟩) (by omega) G w23 cE.rf hX hD hT _ _ hP hS hM_o hM_xj hM_wk_o hM_sj hM_a1_wk_o hM_a2_wk_o hM_a3_wk_o hM_a4_wk_o hM_a5_wk_o ls (lv_sub hl [0, 1, 2, 3, 4] rfl)
    · skip
      have d11 := c11
      rw [fa_le] at d11
      refine lv_ldc2 hx hb hown (hts (.constantLong RX9 143 (-1)) (by decide +kernel)) dX9_find_14 ?_
      exact W.lret (v := (-1 : Int64)) hx hb hr (fun t ht hW => ⟨⟨_, (G, ws), rfl, ⟨hX, (Or.inr ⟨(fun z9 => by first | exact vn2 z9.1 | (have := z9.2; omega)), rfl⟩)⟩, by show va_P D vwCl ws t.heap; rw [ht]; exact hP, hD, hT⟩, hS.F ht⟩) hS.2.2 dX9_find_17
set_option maxHeartbeats 4000000 in
set_option maxRecDepth 100000 in
theorem c_X9_rank_j (l : Launch) (D : va_G) (cy : Nat → ClassId) (A : Nat → Prop) (G : cG) (ws : va_W) (o : Nat) (j : Int32) (p0 : Int64) {bs_o js_o sh_o wk_o ll_o : Nat} {jc_o lc_o : Int32} {mo_o lb_o : Option Nat} {fa : Nat → Option Nat} {xj kj bj sj tj wj hj : Nat} {oj nj : Int64} {msj : List Value} {fsj : Nat → Int32} (hD : va_D A ws) (hT : cT cy G ws) (hG_o : G o = some (7, 0, 0)) (hM_o : cIn ws o (.inr (8, [.ref bs_o, .ref js_o, .int jc_o, .ref sh_o, .ref wk_o, va_rf mo_o, .ref ll_o, .int lc_o, va_rf lb_o]))) (hM_js_o : cIn ws js_o (.inl (cy 4, cqa 8 fa))) (hJ1 : ∀ i : Nat, (i : Int) < jc_o.toInt → ∃ x, fa i = some x) (hJ : okJob jc_o j → jobS cy G ws fa j.toNatClampNeg xj kj bj sj tj wj hj oj nj msj fsj) (hr9 : okJob jc_o j → ∀ y l, y < 4 → l < lnC wj hj y → 0 ≤ (fsj (y * 11 + l)).toInt ∧ (fsj (y * 11 + l)).toInt ≤ 6) (he9 : okJob jc_o j → ∀ s, s < wj * hj → ¬ (lb oj s = true ∧ lb nj s = true)) : Ci l D cy A yX9_rank wsX9_rank ({ frames := 6, cells := 0, slots := 0, locals := 144 }) 0 0 ws [.ref o, .int j, .long p0] (fun r0 u => cX none (chs [1, 5, 20, 21, 22, 23]) G ws u.1 u.2 ∧ (((okJob jc_o j ∧ isPic (wj * hj) p0) ∧ ((fitC kj wj hj tj oj nj fsj p0 ∧ ∃ q k u, wEn (2 ^ wj) hj (cGo wj oj nj fsj) (cFi kj wj hj tj oj nj fsj) (fun _ s => picL wj s.2.1 hj = p0) (fun _ _ => ()) ((0 : Int), (fun _ : Nat => (0 : Nat)), (0 : Nat)) () q k () u ∧ r0 = anR q k) ∨ (¬ fitC kj wj hj tj oj nj fsj p0 ∧ r0 = -2))) ∨ (¬ (okJob jc_o j ∧ isPic (wj * hj) p0) ∧ r0 = -1))) := by
  refine Met.ofW (cc := cX9_rank) (maxL := 6) (ret := (some .int)) (by decide) rfl ?_
  intro p e s m args below meth c s₁ B hml hv
  obtain ⟨rfl, hP, hK, hA, hV⟩ := hv
  have hx := B.exec
  have hb := B.bytes
  have hr := B.returns
  have hts := atoms_spec (ws := wsX9_rank) B.pre
  have hown : s.vm.findClass RX9 = some m.cls := findClass_of_methodNamed B.named
  have hlocks := B.notSynchronized
  have hS : va_S A s.heap s.heap [] := va_S.rf
  have hinJ : ∀ w ∈ wsX10 ++ wsX30 ++ wsX40 ++ wsX50, w ∈ wsX9_rank := by decide +kernel
  have hX : cX none (chs [1, 5, 20, 21, 22, 23]) G ws G ws := cX.rf
  have hl := lv_entry ([.ref o, .int j, .long p0]) (n := 6) (Nat.le_of_ble_eq_true rfl)
  rw [lg_entry_eq]
  generalize (lg_sl ([.ref o, .int j, .long p0]) ++ List.replicate (6 - (lg_sl ([.ref o, .int j, .long p0])).length) Slot.unset).toArray = ls at hl ⊢
  have hl : lv_has ls 6 [(0, .ref o), (1, .int j), (2, .long p0)] := hl
  have k_m5 : (-5 : Int32).toInt = -5 := by decide
  have k_m2 : (-2 : Int32).toInt = -2 := by decide
  have k_m1 : (-1 : Int32).toInt = -1 := by decide
  have k_0 : (0 : Int32).toInt = 0 := by decide
  have k_1000000 : (1000000 : Int32).toInt = 1000000 := by decide
  obtain ⟨hjc_o, hlc_o, hG_bs_o, hG_js_o, hG_sh_o, hG_wk_o, hmo_o, hG_ll_o, hlb_o⟩ := w7sh hD hT hG_o hM_o
  have hf_js_o := w9sh hD hT hG_js_o hM_js_o
  refine lv_aload_n hx hb dX9_rank_0 rfl (lv_at hl 0 rfl) ?_
  refine lv_iload_n hx hb dX9_rank_1 rfl (lv_at hl 1 rfl) ?_
  refine t_calla (va_runV (g := F0 m 2 ls ([.int j, .ref o])) (As := [.int j]) (rest := []) ⟨hx, hb, hml, hown, hts⟩ (c_X9_jobOf_j l D cy A G ws o j hD hT hG_o hM_o hM_js_o hJ1) (cwV 1 hts gX9_rank_X9_jobOf rfl rfl rfl (by decide +kernel) ⟨Nat.le_of_ble_eq_true rfl, Nat.le_of_ble_eq_true rfl⟩) (c_preV hM_o rfl hP hK hA hS hV) rfl rfl hl.1 rfl (lv_room (Nat.le_of_ble_eq_true rfl)) dX9_rank_2 ⟨Nat.le_of_ble_eq_true rfl, Nat.le_of_ble_eq_true rfl⟩) hS (fun r2 u H locs q2 hP9 hD9 hT9 hS => ?_)
  obtain ⟨rfl, q2⟩ := q2
  have hP : va_P D vwCl ws H := hP9
  rcases r2 with _ | x2
  · skip
    have vn2 := q2.2 rfl
    refine lv_astoreN (lv' := [(4, .null), (0, .ref o), (1, .int j), (2, .long p0)]) hx hb dX9_rank_5 hl (by decide) rfl (fun ls hl => ?_)
    refine lv_aloadN hx hb dX9_rank_7 (lv_at hl 0 rfl) ?_
    refine lv_ifnullN (tgt := 24) hx hb dX9_rank_9 (by decide) ?_
    refine lv_iconst (v := (-1)) hx hb dX9_rank_24 (by decide) ?_
    exact W.iret (v := ((-1) : Int32)) hx hb hr (fun t ht hW => ⟨⟨_, (G, ws), rfl, ⟨hX, (Or.inr ⟨(fun z9 => by first | exact vn2 z9.1 | exact b21 z9.2), rfl⟩)⟩, by show va_P D vwCl ws t.heap; rw [ht]; exact hP, hD, hT⟩, hS.F ht⟩) hS.2.2 dX9_rank_25
  · skip
    obtain ⟨vj2, fj2⟩ := q2.1 x2 rfl
    obtain ⟨hfa9, hG_xj, hb9, ht9, hM_xj, hM_sj⟩ := hJ vj2
    obtain rfl : xj = x2 := Option.some.inj (hfa9.symm.trans fj2)
    obtain ⟨hG_bj, hG_sj, hJ_xj⟩ := w3sh hD hT hG_xj hb9 hM_xj
    refine lv_astore (lv' := [(4, .ref xj), (0, .ref o), (1, .int j), (2, .long p0)]) hx hb dX9_rank_5 hl (by decide) rfl (fun ls hl => ?_)
    refine lv_aload hx hb dX9_rank_7 (lv_at hl 0 rfl) ?_
    refine lv_ifnull hx hb dX9_rank_9 ?_
    refine lv_aload hx hb dX9_rank_12 (lv_at hl 0 rfl) ?_
    refine t_getJ (v := .ref bj) hx hb hts hinJ hown hK hP hJ_xj.kc hM_xj 0 (by decide) (hts (.fieldLink RX9 65 "ShadowBench$Job" "board" "LShadowBench$Board;") (by decide +kernel)) (fun _ h9 => h9) rfl dX9_rank_14 ?_
    refine lv_lload_n hx hb dX9_rank_17 rfl (lv_at hl 3 rfl) ?_
    obtain ⟨_, hM_bj, hb_bj, l_bj, f_bj, r_bj, rfl, hG_l_bj, hG_f_bj, hG_r_bj⟩ := hT _ _ hG_bj
    refine t_calli (va_runV (g := F0 m 18 ls ([.long p0, .ref bj])) (As := [.long p0]) (rest := []) ⟨hx, hb, hml, hown, hts⟩ (c_X0_isPicture_x l D cy A G ws bj p0 hD hT hG_bj ) (cwV 1 hts gX9_rank_X0_isPicture rfl rfl rfl (by decide +kernel) ⟨Nat.le_of_ble_eq_true rfl, Nat.le_of_ble_eq_true rfl⟩) (c_preV hM_bj rfl hP hK hA hS hV) rfl rfl hl.1 rfl (lv_room (Nat.le_of_ble_eq_true rfl)) dX9_rank_18 ⟨Nat.le_of_ble_eq_true rfl, Nat.le_of_ble_eq_true rfl⟩) hS (fun r18 u H locs q18 hP9 hD9 hT9 hS => ?_)
    obtain ⟨rfl, q18⟩ := q18
    have hP : va_P D vwCl ws H := hP9
    refine lv_if_ne (tgt := 26) hx hb dX9_rank_21 (by decide) (fun c21 => ?_) (fun c21 => ?_)
    · skip
      have b21 := bo_t q18 c21
      refine lv_aload hx hb dX9_rank_26 (lv_at hl 0 rfl) ?_
      refine lv_lload_n hx hb dX9_rank_28 rfl (lv_at hl 3 rfl) ?_
      refine t_calli (t_runJ (g := F0 m 29 ls ([.long p0, .ref xj])) (As := [.long p0]) (rest := []) ⟨hx, hb, hml, hown, hts⟩ (c_X3_admits_x l D cy A G ws xj p0 hD hT hG_xj hM_xj hM_sj hb9 ht9 b21) (va_cwU 1 hts gX9_rank_X3_admits_u128X1 rfl rfl rfl rfl (by decide +kernel) ⟨Nat.le_of_ble_eq_true rfl, Nat.le_of_ble_eq_true rfl⟩) (cwV 1 hts gX9_rank_X3_admits rfl rfl rfl (by decide +kernel) ⟨Nat.le_of_ble_eq_true rfl, Nat.le_of_ble_eq_true rfl⟩) (va_cwU 1 hts gX9_rank_X3_admits_u128X4 rfl rfl rfl rfl (by decide +kernel) ⟨Nat.le_of_ble_eq_true rfl, Nat.le_of_ble_eq_true rfl⟩) (va_cwU 1 hts gX9_rank_X3_admits_u128X5 rfl rfl rfl rfl (by decide +kernel) ⟨Nat.le_of_ble_eq_true rfl, Nat.le_of_ble_eq_true rfl⟩) hJ_xj.kc hM_xj hP hK c_blind (c_preS hP hK hA hS hV).2 rfl rfl hl.1 rfl (lv_room (Nat.le_of_ble_eq_true rfl)) dX9_rank_29 ⟨Nat.le_of_ble_eq_true rfl, Nat.le_of_ble_eq_true rfl⟩) hS (fun r29 u H locs q29 hP9 hD9 hT9 hS => ?_)
      obtain ⟨rfl, q29⟩ := q29
      have hP : va_P D vwCl ws H := hP9
      refine lv_if_ne (tgt := 38) hx hb dX9_rank_32 (by decide) (fun c32 => ?_) (fun c32 => ?_)
      · skip
        have b32 := bo_t q29 c32
        refine lv_aload_n hx hb dX9_rank_38 rfl (lv_at hl 1 rfl) ?_
        refine t_get (v := .ref wk_o) (C := RX9) (T := TX9) (N := 9) hx hb hts (by decide +kernel) hown hK hP hM_o rfl 4 (by decide) (hts (.fieldLink RX9 34 "ShadowBench" "walk" "LShadowBench$Walk;") (by decide +kernel)) (fun _ h9 => h9) rfl dX9_rank_39 ?_
        obtain ⟨_, hM_wk_o, j_wk_o, y_wk_o, tr_wk_o, sp_wk_o, fd_wk_o, a1_wk_o, a2_wk_o, a3_wk_o, a4_wk_o, a5_wk_o, rfl, hsp_wk_o, hj_wk_o, hG_a1_wk_o, hG_a2_wk_o, hG_a3_wk_o, hG_a4_wk_o, hG_a5_wk_o⟩ := hT _ _ hG_wk_o
        obtain ⟨fw1, hM_a1_wk_o⟩ := cIa hT (Or.inr (Or.inr (Or.inl rfl))) hG_a1_wk_o
        obtain ⟨fw2, hM_a2_wk_o⟩ := cIa hT (Or.inr (Or.inr (Or.inr (Or.inl rfl)))) hG_a2_wk_o
        obtain ⟨fw3, hM_a3_wk_o⟩ := cIa hT (Or.inr (Or.inr (Or.inr (Or.inr (Or.inl rfl))))) hG_a3_wk_o
        obtain ⟨fw4, hM_a4_wk_o⟩ := cIa hT (Or.inr (Or.inr (Or.inr (Or.inr (Or.inr rfl))))) hG_a4_wk_o
        obtain ⟨fw5, hM_a5_wk_o⟩ := cLa hT (Or.inl rfl) hG_a5_wk_o
        have gd0 := rg_cs hb9 (hr9 vj2)
        refine lv_aload hx hb dX9_rank_42 (lv_at hl 0 rfl) ?_
        refine t_callv (va_runV (g := F0 m 44 ls ([.ref xj, .ref wk_o])) (As := [.ref xj]) (rest := []) ⟨hx, hb, hml, hown, hts⟩ (c_X8_start_x (j_o := j_wk_o) l D cy A G ws wk_o xj hD hT hG_wk_o hM_wk_o hG_xj hM_xj hM_sj hM_a1_wk_o hM_a2_wk_o hM_a3_wk_o hM_a4_wk_o hM_a5_wk_o hb9 ht9) (cwV 1 hts gX9_rank_X8_start rfl rfl rfl (by decide +kernel) ⟨Nat.le_of_ble_eq_true rfl, Nat.le_of_ble_eq_true rfl⟩) (c_preV hM_wk_o rfl hP hK hA hS hV) rfl rfl hl.1 rfl (lv_room (Nat.le_of_ble_eq_true rfl)) dX9_rank_44 ⟨Nat.le_of_ble_eq_true rfl, Nat.le_of_ble_eq_true rfl⟩) hS (fun u H locs q44 hP9 hD9 hT9 hS => ?_)
        obtain ⟨w44, rfl, hF44, q44⟩ := q44
        have hP : va_P D vwCl w44 H := hP9
        have hD : va_D A w44 := hD9
        have hT : cT cy G w44 := hT9
        have hM_o := hF44 _ _ (fun z9 => z9.elim (cne hG_o hG_wk_o (show (7 : Nat) ≠ 5 by decide)) (fun z9 => z9.elim (cne hG_o hG_a1_wk_o (show (7 : Nat) ≠ 20 by decide)) (fun z9 => z9.elim (cne hG_o hG_a2_wk_o (show (7 : Nat) ≠ 21 by decide)) (fun z9 => z9.elim (cne hG_o hG_a3_wk_o (show (7 : Nat) ≠ 22 by decide)) (fun z9 => z9.elim (cne hG_o hG_a4_wk_o (show (7 : Nat) ≠ 23 by decide)) (cne hG_o hG_a5_wk_o (show (7 : Nat) ≠ 1 by decide))))))) hM_o
        have hM_js_o := hF44 _ _ (fun z9 => z9.elim (cne hG_js_o hG_wk_o (show (9 : Nat) ≠ 5 by decide)) (fun z9 => z9.elim (cne hG_js_o hG_a1_wk_o (show (9 : Nat) ≠ 20 by decide)) (fun z9 => z9.elim (cne hG_js_o hG_a2_wk_o (show (9 : Nat) ≠ 21 by decide)) (fun z9 => z9.elim (cne hG_js_o hG_a3_wk_o (show (9 : Nat) ≠ 22 by decide)) (fun z9 => z9.elim (cne hG_js_o hG_a4_wk_o (show (9 : Nat) ≠ 23 by decide)) (cne hG_js_o hG_a5_wk_o (show (9 : Nat) ≠ 1 by decide))))))) hM_js_o
        have hM_xj := hF44 _ _ (fun z9 => z9.elim (cne hG_xj hG_wk_o (show (3 : Nat) ≠ 5 by decide)) (fun z9 => z9.elim (cne hG_xj hG_a1_wk_o (show (3 : Nat) ≠ 20 by decide)) (fun z9 => z9.elim (cne hG_xj hG_a2_wk_o (show (3 : Nat) ≠ 21 by decide)) (fun z9 => z9.elim (cne hG_xj hG_a3_wk_o (show (3 : Nat) ≠ 22 by decide)) (fun z9 => z9.elim (cne hG_xj hG_a4_wk_o (show (3 : Nat) ≠ 23 by decide)) (cne hG_xj hG_a5_wk_o (show (3 : Nat) ≠ 1 by decide))))))) hM_xj
        have hM_sj := hF44 _ _ (fun z9 => z9.elim (cne hG_sj hG_wk_o (show (14 : Nat) ≠ 5 by decide)) (fun z9 => z9.elim (cne hG_sj hG_a1_wk_o (show (14 : Nat) ≠ 20 by decide)) (fun z9 => z9.elim (cne hG_sj hG_a2_wk_o (show (14 : Nat) ≠ 21 by decide)) (fun z9 => z9.elim (cne hG_sj hG_a3_wk_o (show (14 : Nat) ≠ 22 by decide)) (fun z9 => z9.elim (cne hG_sj hG_a4_wk_o (show (14 : Nat) ≠ 23 by decide)) (cne hG_sj hG_a5_wk_o (show (14 : Nat) ≠ 1 by decide))))))) hM_sj
        have hM_bj := hF44 _ _ (fun z9 => z9.elim (cne hG_bj hG_wk_o (show (2 : Nat) ≠ 5 by decide)) (fun z9 => z9.elim (cne hG_bj hG_a1_wk_o (show (2 : Nat) ≠ 20 by decide)) (fun z9 => z9.elim (cne hG_bj hG_a2_wk_o (show (2 : Nat) ≠ 21 by decide)) (fun z9 => z9.elim (cne hG_bj hG_a3_wk_o (show (2 : Nat) ≠ 22 by decide)) (fun z9 => z9.elim (cne hG_bj hG_a4_wk_o (show (2 : Nat) ≠ 23 by decide)) (cne hG_bj hG_a5_wk_o (show (2 : Nat) ≠ 1 by decide))))))) hM_bj
        have hX := hX.tr ⟨cE.rf, hF44.wk (fun b9 z9 => by rcases z9 with rfl | rfl | rfl | rfl | rfl | rfl; exact (Or.inr ⟨_, hG_wk_o, rfl⟩); exact (Or.inr ⟨_, hG_a1_wk_o, rfl⟩); exact (Or.inr ⟨_, hG_a2_wk_o, rfl⟩); exact (Or.inr ⟨_, hG_a3_wk_o, rfl⟩); exact (Or.inr ⟨_, hG_a4_wk_o, rfl⟩); exact (Or.inr ⟨_, hG_a5_wk_o, rfl⟩)), fun _ _ h9 => Or.inl h9⟩
        obtain ⟨g1_44, g2_44, g3_44, g4_44, g5_44, hc44, hW44⟩ := q44
        have hM_wk_o : cIn w44 wk_o (.inr (7, [.ref xj, .int (nI 0), .int (nI 0), .int 0, .long 0, .ref a1_wk_o, .ref a2_wk_o, .ref a3_wk_o, .ref a4_wk_o, .ref a5_wk_o])) := hW44.1
        have hM_a1_wk_o : cIn w44 a1_wk_o (.inl (cy 0, 6, .inl g1_44)) := hW44.2.1
        have hM_a2_wk_o : cIn w44 a2_wk_o (.inl (cy 0, 6, .inl g2_44)) := hW44.2.2.1
        have hM_a3_wk_o : cIn w44 a3_wk_o (.inl (cy 0, 6, .inl g3_44)) := hW44.2.2.2.1
        have hM_a4_wk_o : cIn w44 a4_wk_o (.inl (cy 0, 6, .inl g4_44)) := hW44.2.2.2.2.1
        have hM_a5_wk_o : cIn w44 a5_wk_o (.inl (cy 1, 6, .inr (.inl g5_44))) := hW44.2.2.2.2.2
        refine lv_iconst (v := 0) hx hb dX9_rank_47 (by decide) ?_
        refine lv_istore (lv' := [(5, .int (0 : Int32)), (4, .ref xj), (0, .ref o), (1, .int j), (2, .long p0)]) hx hb dX9_rank_48 hl (by decide) rfl (fun ls hl => ?_)
        have loop_50 : ∀ (n : Nat) (k : Nat) (yl : Int32) (tl : Nat) (fdl : Int64) (gl1 : Nat → Int32) (gl2 : Nat → Int32) (gl3 : Nat → Int32) (gl4 : Nat → Int32) (gl5 : Nat → Int64), (k ≤ 200000) → (tl ≤ 200000) → (∃ s, wFo (2 ^ wj) hj (cGo wj oj nj fsj) (cFi kj wj hj tj oj nj fsj) (fun _ s => picL wj s.2.1 hj = p0) (fun _ _ => ()) ((0 : Int), (fun _ : Nat => (0 : Nat)), (0 : Nat)) () k s () ∧ cRel wj oj nj fsj s yl (nI tl) gl1 gl2 gl3 gl4 gl5 ∧ s.2.2 = tl) → 200001 - k < n → ∀ (Gl50 : cG) (wl50 : va_W), cE G Gl50 → cX none (chs [1, 5, 20, 21, 22, 23]) G ws Gl50 wl50 → va_D A wl50 → cT cy Gl50 wl50 → ∀ (H : Heap) (locs : List Loc), va_P D vwCl wl50 H → va_S A s.heap H locs → cIn wl50 o (.inr (8, [.ref bs_o, .ref js_o, .int jc_o, .ref sh_o, .ref wk_o, va_rf mo_o, .ref ll_o, .int lc_o, va_rf lb_o])) → cIn wl50 xj (.inr (kj, .ref bj :: .ref sj :: .int (nI tj) :: .long oj :: .long nj :: msj)) → cIn wl50 wk_o (.inr (7, [.ref xj, .int yl, .int (nI tl), .int 0, .long fdl, .ref a1_wk_o, .ref a2_wk_o, .ref a3_wk_o, .ref a4_wk_o, .ref a5_wk_o])) → cIn wl50 sj (.inl (cy 0, 44, .inl fsj)) → cIn wl50 a1_wk_o (.inl (cy 0, 6, .inl gl1)) → cIn wl50 a2_wk_o (.inl (cy 0, 6, .inl gl2)) → cIn wl50 a3_wk_o (.inl (cy 0, 6, .inl gl3)) → cIn wl50 a4_wk_o (.inl (cy 0, 6, .inl gl4)) → cIn wl50 a5_wk_o (.inl (cy 1, 6, .inr (.inl gl5))) → ∀ (ls : Array Slot), lv_has ls 6 [(5, .int (nI k)), (4, .ref xj), (0, .ref o), (1, .int j), (2, .long p0)] → W p l e (headSpec wsX9_rank ({ frames := 6, cells := 0, slots := 0, locals := 144 })).room s m #[Value.ref o, Value.int j, Value.long p0] below meth c H locs 0 0 (MQ below (va_Qi (fun r0 u => cX none (chs [1, 5, 20, 21, 22, 23]) G ws u.1 u.2 ∧ (((okJob jc_o j ∧ isPic (wj * hj) p0) ∧ ((fitC kj wj hj tj oj nj fsj p0 ∧ ∃ q k u, wEn (2 ^ wj) hj (cGo wj oj nj fsj) (cFi kj wj hj tj oj nj fsj) (fun _ s => picL wj s.2.1 hj = p0) (fun _ _ => ()) ((0 : Int), (fun _ : Nat => (0 : Nat)), (0 : Nat)) () q k () u ∧ r0 = anR q k) ∨ (¬ fitC kj wj hj tj oj nj fsj p0 ∧ r0 = -2))) ∨ (¬ (okJob jc_o j ∧ isPic (wj * hj) p0) ∧ r0 = -1))) (cB D cy A) A) #[Value.ref o, Value.int j, Value.long p0] s 0 0 A) (F0 m 50 ls []) := by
          intro n
          induction n with
          | zero => intro k yl tl fdl gl1 gl2 gl3 gl4 gl5 j50_0 j50_1 j50_2 hn; exact absurd hn (Nat.not_lt_zero _)
          | succ n ih_50 =>
            intro k yl tl fdl gl1 gl2 gl3 gl4 gl5 j50_0 j50_1 j50_2 hn_50 Gl50 wl50 hEl50 hX hD hT H locs hP hS hM_o hM_xj hM_wk_o hM_sj hM_a1_wk_o hM_a2_wk_o hM_a3_wk_o hM_a4_wk_o hM_a5_wk_o ls hl
            have hG_o := hEl50 _ _ hG_o
            have hG_bs_o := hEl50 _ _ hG_bs_o
            have hG_js_o := hEl50 _ _ hG_js_o
            have hG_sh_o := hEl50 _ _ hG_sh_o
            have hG_wk_o := hEl50 _ _ hG_wk_o
            have hG_ll_o := hEl50 _ _ hG_ll_o
            have hG_xj := hEl50 _ _ hG_xj
            have hG_bj := hEl50 _ _ hG_bj
            have hG_sj := hEl50 _ _ hG_sj
            have hG_l_bj := hEl50 _ _ hG_l_bj
            have hG_f_bj := hEl50 _ _ hG_f_bj
            have hG_r_bj := hEl50 _ _ hG_r_bj
            have hG_a1_wk_o := hEl50 _ _ hG_a1_wk_o
            have hG_a2_wk_o := hEl50 _ _ hG_a2_wk_o
            have hG_a3_wk_o := hEl50 _ _ hG_a3_wk_o
            have hG_a4_wk_o := hEl50 _ _ hG_a4_wk_o
            have hG_a5_wk_o := hEl50 _ _ hG_a5_wk_o
            have ik : (nI k).toInt = (k : Int) := nI_toInt (by omega)
            obtain ⟨s9, fo9, rl9, st9⟩ := j50_2
            have gd9 := wFo_gd gd0 k fo9
            have kl9 : 0 + k ≤ s9.2.2 := gd9.2
            refine lv_iload hx hb dX9_rank_50 (lv_at hl 0 rfl) ?_
            refine lv_ldc hx hb hown (hts (.constant RX9 135 (1000000)) (by decide +kernel)) dX9_rank_52 ?_
            refine lv_icmp_ge (tgt := 88) hx hb dX9_rank_54 (by decide) (fun c54 => ?_) (fun c54 => ?_)
            · skip
              have d54 := c54
              rw [fa_le] at d54
              exfalso; omega
            · skip
              have d54 := c54
              rw [fa_le] at d54
              refine lv_aload_n hx hb dX9_rank_57 rfl (lv_at hl 2 rfl) ?_
              refine t_get (v := .ref wk_o) (C := RX9) (T := TX9) (N := 9) hx hb hts (by decide +kernel) hown hK hP hM_o rfl 4 (by decide) (hts (.fieldLink RX9 34 "ShadowBench" "walk" "LShadowBench$Walk;") (by decide +kernel)) (fun _ h9 => h9) rfl dX9_rank_58 ?_
              refine t_calli (va_runV (g := F0 m 61 ls ([.ref wk_o])) (As := []) (rest := []) ⟨hx, hb, hml, hown, hts⟩ (c_X8_advance_x l D cy A Gl50 wl50 wk_o hD hT hG_wk_o hM_wk_o hG_xj hM_xj hM_sj hM_a1_wk_o hM_a2_wk_o hM_a3_wk_o hM_a4_wk_o hM_a5_wk_o hb9 ht9 gd9.1 (he9 vj2) rl9 rfl (by omega)) (cwV 0 hts gX9_rank_X8_advance rfl rfl rfl (by decide +kernel) ⟨Nat.le_of_ble_eq_true rfl, Nat.le_of_ble_eq_true rfl⟩) (c_preV hM_wk_o rfl hP hK hA hS hV) rfl rfl hl.1 rfl (lv_room (Nat.le_of_ble_eq_true rfl)) dX9_rank_61 ⟨Nat.le_of_ble_eq_true rfl, Nat.le_of_ble_eq_true rfl⟩) hS (fun r61 u H locs q61 hP9 hD9 hT9 hS => ?_)
              obtain ⟨w61, rfl, hF61, q61⟩ := q61
              have hP : va_P D vwCl w61 H := hP9
              have hD : va_D A w61 := hD9
              have hT : cT cy Gl50 w61 := hT9
              have hM_o := hF61 _ _ (fun z9 => z9.elim (cne hG_o hG_wk_o (show (7 : Nat) ≠ 5 by decide)) (fun z9 => z9.elim (cne hG_o hG_a1_wk_o (show (7 : Nat) ≠ 20 by decide)) (fun z9 => z9.elim (cne hG_o hG_a2_wk_o (show (7 : Nat) ≠ 21 by decide)) (fun z9 => z9.elim (cne hG_o hG_a3_wk_o (show (7 : Nat) ≠ 22 by decide)) (fun z9 => z9.elim (cne hG_o hG_a4_wk_o (show (7 : Nat) ≠ 23 by decide)) (cne hG_o hG_a5_wk_o (show (7 : Nat) ≠ 1 by decide))))))) hM_o
              have hM_xj := hF61 _ _ (fun z9 => z9.elim (cne hG_xj hG_wk_o (show (3 : Nat) ≠ 5 by decide)) (fun z9 => z9.elim (cne hG_xj hG_a1_wk_o (show (3 : Nat) ≠ 20 by decide)) (fun z9 => z9.elim (cne hG_xj hG_a2_wk_o (show (3 : Nat) ≠ 21 by decide)) (fun z9 => z9.elim (cne hG_xj hG_a3_wk_o (show (3 : Nat) ≠ 22 by decide)) (fun z9 => z9.elim (cne hG_xj hG_a4_wk_o (show (3 : Nat) ≠ 23 by decide)) (cne hG_xj hG_a5_wk_o (show (3 : Nat) ≠ 1 by decide))))))) hM_xj
              have hM_sj := hF61 _ _ (fun z9 => z9.elim (cne hG_sj hG_wk_o (show (14 : Nat) ≠ 5 by decide)) (fun z9 => z9.elim (cne hG_sj hG_a1_wk_o (show (14 : Nat) ≠ 20 by decide)) (fun z9 => z9.elim (cne hG_sj hG_a2_wk_o (show (14 : Nat) ≠ 21 by decide)) (fun z9 => z9.elim (cne hG_sj hG_a3_wk_o (show (14 : Nat) ≠ 22 by decide)) (fun z9 => z9.elim (cne hG_sj hG_a4_wk_o (show (14 : Nat) ≠ 23 by decide)) (cne hG_sj hG_a5_wk_o (show (14 : Nat) ≠ 1 by decide))))))) hM_sj
              have hX := hX.tr ⟨cE.rf, hF61.wk (fun b9 z9 => by rcases z9 with rfl | rfl | rfl | rfl | rfl | rfl; exact (Or.inr ⟨_, hG_wk_o, rfl⟩); exact (Or.inr ⟨_, hG_a1_wk_o, rfl⟩); exact (Or.inr ⟨_, hG_a2_wk_o, rfl⟩); exact (Or.inr ⟨_, hG_a3_wk_o, rfl⟩); exact (Or.inr ⟨_, hG_a4_wk_o, rfl⟩); exact (Or.inr ⟨_, hG_a5_wk_o, rfl⟩)), fun _ _ h9 => Or.inl h9⟩
              rcases q61 with ⟨hr61, u9, yA61, gA1_61, gA2_61, gA3_61, gA4_61, gA5_61, ru9, rl8, hW61⟩ | ⟨hr61, q9, u9, yB61, trB61, spB61, fdB61, gB1_61, gB2_61, gB3_61, gB4_61, gB5_61, ru9, hq9, hW61⟩
              · skip
                have hM_wk_o : cIn w61 wk_o (.inr (7, [.ref xj, .int yA61, .int (nI u9.2.2), .int 0, .long (picL wj u9.2.1 hj), .ref a1_wk_o, .ref a2_wk_o, .ref a3_wk_o, .ref a4_wk_o, .ref a5_wk_o])) := hW61.1
                have hM_a1_wk_o : cIn w61 a1_wk_o (.inl (cy 0, 6, .inl gA1_61)) := hW61.2.1
                have hM_a2_wk_o : cIn w61 a2_wk_o (.inl (cy 0, 6, .inl gA2_61)) := hW61.2.2.1
                have hM_a3_wk_o : cIn w61 a3_wk_o (.inl (cy 0, 6, .inl gA3_61)) := hW61.2.2.2.1
                have hM_a4_wk_o : cIn w61 a4_wk_o (.inl (cy 0, 6, .inl gA4_61)) := hW61.2.2.2.2.1
                have hM_a5_wk_o : cIn w61 a5_wk_o (.inl (cy 1, 6, .inr (.inl gA5_61))) := hW61.2.2.2.2.2
                subst hr61
                have gd8 := wRun_2 gd9.1 ru9
                have kk9 : k + 1 ≤ 200000 := by have z1 : u9.2.2 ≤ 200000 := gd8.1.1.2.2; have z2 := gd8.2; omega
                have tt9 : u9.2.2 ≤ 200000 := gd8.1.1.2.2
                refine lv_if_eq (tgt := 88) hx hb dX9_rank_64 (by decide) (fun c64 => ?_) (fun c64 => ?_)
                · first | exact absurd c64 (by decide) | exact absurd (by decide) c64
                · skip
                  have d64 := c64
                  rw [fa_eq] at d64
                  refine lv_aload_n hx hb dX9_rank_67 rfl (lv_at hl 2 rfl) ?_
                  refine t_get (v := .ref wk_o) (C := RX9) (T := TX9) (N := 9) hx hb hts (by decide +kernel) hown hK hP hM_o rfl 4 (by decide) (hts (.fieldLink RX9 34 "ShadowBench" "walk" "LShadowBench$Walk;") (by decide +kernel)) (fun _ h9 => h9) rfl dX9_rank_68 ?_
                  refine t_calll (va_runV (g := F0 m 71 ls ([.ref wk_o])) (As := []) (rest := []) ⟨hx, hb, hml, hown, hts⟩ (c_X8_found_x l D cy A Gl50 w61 wk_o hD hT hG_wk_o hM_wk_o ) (cwV 0 hts gX9_rank_X8_found rfl rfl rfl (by decide +kernel) ⟨Nat.le_of_ble_eq_true rfl, Nat.le_of_ble_eq_true rfl⟩) (c_preV hM_wk_o rfl hP hK hA hS hV) rfl rfl hl.1 rfl (lv_room (Nat.le_of_ble_eq_true rfl)) dX9_rank_71 ⟨Nat.le_of_ble_eq_true rfl, Nat.le_of_ble_eq_true rfl⟩) hS (fun r71 u H locs q71 hP9 hD9 hT9 hS => ?_)
                  obtain ⟨rfl, q71⟩ := q71
                  have hP : va_P D vwCl w61 H := hP9
                  refine lv_lload_n hx hb dX9_rank_74 rfl (lv_at hl 4 rfl) ?_
                  refine W.lcmp hx hb dX9_rank_75 ?_
                  refine lv_if_ne (tgt := 82) hx hb dX9_rank_76 (by decide) (fun c76 => ?_) (fun c76 => ?_)
                  · skip
                    have d76 := c76
                    rw [lg_cmp_eq, fa_eq64] at d76
                    refine lv_iinc (v := (nI (k + 1))) (lv' := [(5, .int (nI (k + 1))), (4, .ref xj), (0, .ref o), (1, .int j), (2, .long p0)]) hx hb dX9_rank_82 hl (k := 0) rfl (nI_1 _) (by decide) rfl (fun ls hl => ?_)
                    refine lv_goto (tgt := 50) hx hb dX9_rank_85 (by decide) ?_
                    exact ih_50 (k + 1) yA61 u9.2.2 (picL wj u9.2.1 hj) gA1_61 gA2_61 gA3_61 gA4_61 gA5_61 (kk9) (tt9) (⟨u9, ⟨s9, (), fo9, ru9, (fun z9 => c76 ((lg_cmp_eq _ _).mpr (q71.trans z9))), rfl⟩, rl8, rfl⟩) (by omega) Gl50 w61 hEl50 hX hD hT _ _ hP hS hM_o hM_xj hM_wk_o hM_sj hM_a1_wk_o hM_a2_wk_o hM_a3_wk_o hM_a4_wk_o hM_a5_wk_o ls (lv_sub hl [0, 1, 2, 3, 4] rfl)
                  · skip
                    have d76 := c76
                    rw [lg_cmp_eq, fa_eq64] at d76
                    refine lv_iload hx hb dX9_rank_79 (lv_at hl 0 rfl) ?_
                    exact W.iret (v := (nI k)) hx hb hr (fun t ht hW => ⟨⟨_, (Gl50, w61), rfl, ⟨hX, (Or.inl ⟨⟨vj2, b21⟩, Or.inl ⟨b32, 2, k, u9, ⟨s9, fo9, ru9, (fun _ => q71.symm.trans ((lg_cmp_eq _ _).mp c76))⟩, rfl⟩⟩)⟩, by show va_P D vwCl w61 t.heap; rw [ht]; exact hP, hD, hT⟩, hS.F ht⟩) hS.2.2 dX9_rank_81
              · skip
                have hsb61 : isBo spB61 := hq9.elim (fun z9 => Or.inl z9.2) (fun z9 => Or.inr z9.2)
                have hM_wk_o : cIn w61 wk_o (.inr (7, [.ref xj, .int yB61, .int trB61, .int spB61, .long fdB61, .ref a1_wk_o, .ref a2_wk_o, .ref a3_wk_o, .ref a4_wk_o, .ref a5_wk_o])) := hW61.1
                have hM_a1_wk_o : cIn w61 a1_wk_o (.inl (cy 0, 6, .inl gB1_61)) := hW61.2.1
                have hM_a2_wk_o : cIn w61 a2_wk_o (.inl (cy 0, 6, .inl gB2_61)) := hW61.2.2.1
                have hM_a3_wk_o : cIn w61 a3_wk_o (.inl (cy 0, 6, .inl gB3_61)) := hW61.2.2.2.1
                have hM_a4_wk_o : cIn w61 a4_wk_o (.inl (cy 0, 6, .inl gB4_61)) := hW61.2.2.2.2.1
                have hM_a5_wk_o : cIn w61 a5_wk_o (.inl (cy 1, 6, .inr (.inl gB5_61))) := hW61.2.2.2.2.2
                subst hr61
                refine lv_if_eq (tgt := 88) hx hb dX9_rank_64 (by decide) (fun c64 => ?_) (fun c64 => ?_)
                · skip
                  have d64 := c64
                  rw [fa_eq] at d64
                  refine lv_bipush (v := (-5)) hx hb dX9_rank_88 (by decide) ?_
                  exact W.iret (v := ((-5) : Int32)) hx hb hr (fun t ht hW => ⟨⟨_, (Gl50, w61), rfl, ⟨hX, (Or.inl ⟨⟨vj2, b21⟩, Or.inl ⟨b32, q9, k, u9, ⟨s9, fo9, ru9, (fun y9 => by omega)⟩, (by rcases hq9 with ⟨z1, z2⟩ | ⟨z1, z2⟩; (rw [z1]; rfl); (rw [z1]; rfl))⟩⟩)⟩, by show va_P D vwCl w61 t.heap; rw [ht]; exact hP, hD, hT⟩, hS.F ht⟩) hS.2.2 dX9_rank_90
                · first | exact absurd c64 (by decide) | exact absurd (by decide) c64
        exact loop_50 (200001 + 1) 0 (nI 0) 0 0 g1_44 g2_44 g3_44 g4_44 g5_44 (by omega) (by omega) (⟨((0 : Int), (fun _ : Nat => (0 : Nat)), (0 : Nat)), ⟨rfl, rfl⟩, hc44, rfl⟩) (by omega) G w44 cE.rf hX hD hT _ _ hP hS hM_o hM_xj hM_wk_o hM_sj hM_a1_wk_o hM_a2_wk_o hM_a3_wk_o hM_a4_wk_o hM_a5_wk_o ls (lv_sub hl [0, 1, 2, 3, 4] rfl)
      · skip
        have b32 := bo_f q29 c32
        refine lv_bipush (v := (-2)) hx hb dX9_rank_35 (by decide) ?_
        exact W.iret (v := ((-2) : Int32)) hx hb hr (fun t ht hW => ⟨⟨_, (G, ws), rfl, ⟨hX, (Or.inl ⟨⟨vj2, b21⟩, Or.inr ⟨b32, rfl⟩⟩)⟩, by show va_P D vwCl ws t.heap; rw [ht]; exact hP, hD, hT⟩, hS.F ht⟩) hS.2.2 dX9_rank_37
    · skip
      have b21 := bo_f q18 c21
      refine lv_iconst (v := (-1)) hx hb dX9_rank_24 (by decide) ?_
      exact W.iret (v := ((-1) : Int32)) hx hb hr (fun t ht hW => ⟨⟨_, (G, ws), rfl, ⟨hX, (Or.inr ⟨(fun z9 => by first | exact vn2 z9.1 | exact b21 z9.2), rfl⟩)⟩, by show va_P D vwCl ws t.heap; rw [ht]; exact hP, hD, hT⟩, hS.F ht⟩) hS.2.2 dX9_rank_25
set_option maxHeartbeats 4000000 in
set_option maxRecDepth 100000 in
theorem c_X9_sure_j (l : Launch) (D : va_G) (cy : Nat → ClassId) (A : Nat → Prop) (G : cG) (ws : va_W) (o : Nat) (j : Int32) (s0 : Int32) {bs_o js_o sh_o wk_o ll_o : Nat} {jc_o lc_o : Int32} {mo_o lb_o : Option Nat} {fa : Nat → Option Nat} {xj kj bj sj tj wj hj : Nat} {oj nj : Int64} {msj : List Value} {fsj : Nat → Int32} (hD : va_D A ws) (hT : cT cy G ws) (hG_o : G o = some (7, 0, 0)) (hM_o : cIn ws o (.inr (8, [.ref bs_o, .ref js_o, .int jc_o, .ref sh_o, .ref wk_o, va_rf mo_o, .ref ll_o, .int lc_o, va_rf lb_o]))) (hM_js_o : cIn ws js_o (.inl (cy 4, cqa 8 fa))) (hJ1 : ∀ i : Nat, (i : Int) < jc_o.toInt → ∃ x, fa i = some x) (hJ : okJob jc_o j → jobS cy G ws fa j.toNatClampNeg xj kj bj sj tj wj hj oj nj msj fsj) (hr9 : okJob jc_o j → ∀ y l, y < 4 → l < lnC wj hj y → 0 ≤ (fsj (y * 11 + l)).toInt ∧ (fsj (y * 11 + l)).toInt ≤ 6) (he9 : okJob jc_o j → ∀ s, s < wj * hj → ¬ (lb oj s = true ∧ lb nj s = true)) : Ci l D cy A yX9_sure wsX9_sure ({ frames := 6, cells := 0, slots := 0, locals := 144 }) 0 0 ws [.ref o, .int j, .int s0] (fun r0 u => cX none (chs [1, 5, 20, 21, 22, 23]) G ws u.1 u.2 ∧ (((okJob jc_o j ∧ 0 ≤ s0.toInt ∧ s0.toInt < ((wj * hj : Nat) : Int)) ∧ ∃ q k a u, wEn (2 ^ wj) hj (cGo wj oj nj fsj) (cFi kj wj hj tj oj nj fsj) (fun _ _ => False) (fun a s => a + (lb (picL wj s.2.1 hj) s0.toNatClampNeg).toNat) ((0 : Int), (fun _ : Nat => (0 : Nat)), (0 : Nat)) 0 q k a u ∧ r0 = anS q k a) ∨ (¬ (okJob jc_o j ∧ 0 ≤ s0.toInt ∧ s0.toInt < ((wj * hj : Nat) : Int)) ∧ r0 = -1))) := by
  refine Met.ofW (cc := cX9_sure) (maxL := 6) (ret := (some .int)) (by decide) rfl ?_
  intro p e s m args below meth c s₁ B hml hv
  obtain ⟨rfl, hP, hK, hA, hV⟩ := hv
  have hx := B.exec
  have hb := B.bytes
  have hr := B.returns
  have hts := atoms_spec (ws := wsX9_sure) B.pre
  have hown : s.vm.findClass RX9 = some m.cls := findClass_of_methodNamed B.named
  have hlocks := B.notSynchronized
  have hS : va_S A s.heap s.heap [] := va_S.rf
  have hinJ : ∀ w ∈ wsX10 ++ wsX30 ++ wsX40 ++ wsX50, w ∈ wsX9_sure := by decide +kernel
  have hX : cX none (chs [1, 5, 20, 21, 22, 23]) G ws G ws := cX.rf
  have hl := lv_entry ([.ref o, .int j, .int s0]) (n := 6) (Nat.le_of_ble_eq_true rfl)
  rw [lg_entry_eq]
  generalize (lg_sl ([.ref o, .int j, .int s0]) ++ List.replicate (6 - (lg_sl ([.ref o, .int j, .int s0])).length) Slot.unset).toArray = ls at hl ⊢
  have hl : lv_has ls 6 [(0, .ref o), (1, .int j), (2, .int s0)] := hl
  have k_m5 : (-5 : Int32).toInt = -5 := by decide
  have k_m2 : (-2 : Int32).toInt = -2 := by decide
  have k_m1 : (-1 : Int32).toInt = -1 := by decide
  have k_0 : (0 : Int32).toInt = 0 := by decide
  have k_1 : (1 : Int32).toInt = 1 := by decide
  have k_2 : (2 : Int32).toInt = 2 := by decide
  have k_1000000 : (1000000 : Int32).toInt = 1000000 := by decide
  have k_1L : (1 : Int64).toInt = 1 := by decide
  obtain ⟨hjc_o, hlc_o, hG_bs_o, hG_js_o, hG_sh_o, hG_wk_o, hmo_o, hG_ll_o, hlb_o⟩ := w7sh hD hT hG_o hM_o
  have hf_js_o := w9sh hD hT hG_js_o hM_js_o
  refine lv_aload_n hx hb dX9_sure_0 rfl (lv_at hl 0 rfl) ?_
  refine lv_iload_n hx hb dX9_sure_1 rfl (lv_at hl 1 rfl) ?_
  refine t_calla (va_runV (g := F0 m 2 ls ([.int j, .ref o])) (As := [.int j]) (rest := []) ⟨hx, hb, hml, hown, hts⟩ (c_X9_jobOf_j l D cy A G ws o j hD hT hG_o hM_o hM_js_o hJ1) (cwV 1 hts gX9_sure_X9_jobOf rfl rfl rfl (by decide +kernel) ⟨Nat.le_of_ble_eq_true rfl, Nat.le_of_ble_eq_true rfl⟩) (c_preV hM_o rfl hP hK hA hS hV) rfl rfl hl.1 rfl (lv_room (Nat.le_of_ble_eq_true rfl)) dX9_sure_2 ⟨Nat.le_of_ble_eq_true rfl, Nat.le_of_ble_eq_true rfl⟩) hS (fun r2 u H locs q2 hP9 hD9 hT9 hS => ?_)
  obtain ⟨rfl, q2⟩ := q2
  have hP : va_P D vwCl ws H := hP9
  rcases r2 with _ | x2
  · skip
    have vn2 := q2.2 rfl
    refine lv_astore_nN (lv' := [(3, .null), (0, .ref o), (1, .int j), (2, .int s0)]) hx hb dX9_sure_5 rfl hl (by decide) rfl (fun ls hl => ?_)
    refine lv_aload_nN hx hb dX9_sure_6 rfl (lv_at hl 0 rfl) ?_
    refine lv_ifnullN (tgt := 21) hx hb dX9_sure_7 (by decide) ?_
    refine lv_iconst (v := (-1)) hx hb dX9_sure_21 (by decide) ?_
    exact W.iret (v := ((-1) : Int32)) hx hb hr (fun t ht hW => ⟨⟨_, (G, ws), rfl, ⟨hX, (Or.inr ⟨(fun z9 => by first | exact vn2 z9.1 | exact b18 z9.2), rfl⟩)⟩, by show va_P D vwCl ws t.heap; rw [ht]; exact hP, hD, hT⟩, hS.F ht⟩) hS.2.2 dX9_sure_22
  · skip
    obtain ⟨vj2, fj2⟩ := q2.1 x2 rfl
    obtain ⟨hfa9, hG_xj, hb9, ht9, hM_xj, hM_sj⟩ := hJ vj2
    obtain rfl : xj = x2 := Option.some.inj (hfa9.symm.trans fj2)
    obtain ⟨hG_bj, hG_sj, hJ_xj⟩ := w3sh hD hT hG_xj hb9 hM_xj
    refine lv_astore_n (lv' := [(3, .ref xj), (0, .ref o), (1, .int j), (2, .int s0)]) hx hb dX9_sure_5 rfl hl (by decide) rfl (fun ls hl => ?_)
    refine lv_aload_n hx hb dX9_sure_6 rfl (lv_at hl 0 rfl) ?_
    refine lv_ifnull hx hb dX9_sure_7 ?_
    refine lv_aload_n hx hb dX9_sure_10 rfl (lv_at hl 0 rfl) ?_
    refine t_getJ (v := .ref bj) hx hb hts hinJ hown hK hP hJ_xj.kc hM_xj 0 (by decide) (hts (.fieldLink RX9 65 "ShadowBench$Job" "board" "LShadowBench$Board;") (by decide +kernel)) (fun _ h9 => h9) rfl dX9_sure_11 ?_
    refine lv_iload_n hx hb dX9_sure_14 rfl (lv_at hl 3 rfl) ?_
    obtain ⟨_, hM_bj, hb_bj, l_bj, f_bj, r_bj, rfl, hG_l_bj, hG_f_bj, hG_r_bj⟩ := hT _ _ hG_bj
    refine t_calli (va_runV (g := F0 m 15 ls ([.int s0, .ref bj])) (As := [.int s0]) (rest := []) ⟨hx, hb, hml, hown, hts⟩ (c_X0_isSquare l D cy A G ws bj s0 hD hT hG_bj ) (cwV 1 hts gX9_sure_X0_isSquare rfl rfl rfl (by decide +kernel) ⟨Nat.le_of_ble_eq_true rfl, Nat.le_of_ble_eq_true rfl⟩) (c_preV hM_bj rfl hP hK hA hS hV) rfl rfl hl.1 rfl (lv_room (Nat.le_of_ble_eq_true rfl)) dX9_sure_15 ⟨Nat.le_of_ble_eq_true rfl, Nat.le_of_ble_eq_true rfl⟩) hS (fun r15 u H locs q15 hP9 hD9 hT9 hS => ?_)
    obtain ⟨rfl, q15⟩ := q15
    have hP : va_P D vwCl ws H := hP9
    refine lv_if_ne (tgt := 23) hx hb dX9_sure_18 (by decide) (fun c18 => ?_) (fun c18 => ?_)
    · skip
      have b18 := bo_t q15 c18
      have m36 := cb_mul hb9
      have cs9 := m_cl (x := s0) (by omega)
      refine lv_aload_n hx hb dX9_sure_23 rfl (lv_at hl 1 rfl) ?_
      refine t_get (v := .ref wk_o) (C := RX9) (T := TX9) (N := 9) hx hb hts (by decide +kernel) hown hK hP hM_o rfl 4 (by decide) (hts (.fieldLink RX9 34 "ShadowBench" "walk" "LShadowBench$Walk;") (by decide +kernel)) (fun _ h9 => h9) rfl dX9_sure_24 ?_
      obtain ⟨_, hM_wk_o, j_wk_o, y_wk_o, tr_wk_o, sp_wk_o, fd_wk_o, a1_wk_o, a2_wk_o, a3_wk_o, a4_wk_o, a5_wk_o, rfl, hsp_wk_o, hj_wk_o, hG_a1_wk_o, hG_a2_wk_o, hG_a3_wk_o, hG_a4_wk_o, hG_a5_wk_o⟩ := hT _ _ hG_wk_o
      obtain ⟨fw1, hM_a1_wk_o⟩ := cIa hT (Or.inr (Or.inr (Or.inl rfl))) hG_a1_wk_o
      obtain ⟨fw2, hM_a2_wk_o⟩ := cIa hT (Or.inr (Or.inr (Or.inr (Or.inl rfl)))) hG_a2_wk_o
      obtain ⟨fw3, hM_a3_wk_o⟩ := cIa hT (Or.inr (Or.inr (Or.inr (Or.inr (Or.inl rfl))))) hG_a3_wk_o
      obtain ⟨fw4, hM_a4_wk_o⟩ := cIa hT (Or.inr (Or.inr (Or.inr (Or.inr (Or.inr rfl))))) hG_a4_wk_o
      obtain ⟨fw5, hM_a5_wk_o⟩ := cLa hT (Or.inl rfl) hG_a5_wk_o
      have gd0 := rg_cs hb9 (hr9 vj2)
      refine lv_aload_n hx hb dX9_sure_27 rfl (lv_at hl 0 rfl) ?_
      refine t_callv (va_runV (g := F0 m 28 ls ([.ref xj, .ref wk_o])) (As := [.ref xj]) (rest := []) ⟨hx, hb, hml, hown, hts⟩ (c_X8_start_x (j_o := j_wk_o) l D cy A G ws wk_o xj hD hT hG_wk_o hM_wk_o hG_xj hM_xj hM_sj hM_a1_wk_o hM_a2_wk_o hM_a3_wk_o hM_a4_wk_o hM_a5_wk_o hb9 ht9) (cwV 1 hts gX9_sure_X8_start rfl rfl rfl (by decide +kernel) ⟨Nat.le_of_ble_eq_true rfl, Nat.le_of_ble_eq_true rfl⟩) (c_preV hM_wk_o rfl hP hK hA hS hV) rfl rfl hl.1 rfl (lv_room (Nat.le_of_ble_eq_true rfl)) dX9_sure_28 ⟨Nat.le_of_ble_eq_true rfl, Nat.le_of_ble_eq_true rfl⟩) hS (fun u H locs q28 hP9 hD9 hT9 hS => ?_)
      obtain ⟨w28, rfl, hF28, q28⟩ := q28
      have hP : va_P D vwCl w28 H := hP9
      have hD : va_D A w28 := hD9
      have hT : cT cy G w28 := hT9
      have hM_o := hF28 _ _ (fun z9 => z9.elim (cne hG_o hG_wk_o (show (7 : Nat) ≠ 5 by decide)) (fun z9 => z9.elim (cne hG_o hG_a1_wk_o (show (7 : Nat) ≠ 20 by decide)) (fun z9 => z9.elim (cne hG_o hG_a2_wk_o (show (7 : Nat) ≠ 21 by decide)) (fun z9 => z9.elim (cne hG_o hG_a3_wk_o (show (7 : Nat) ≠ 22 by decide)) (fun z9 => z9.elim (cne hG_o hG_a4_wk_o (show (7 : Nat) ≠ 23 by decide)) (cne hG_o hG_a5_wk_o (show (7 : Nat) ≠ 1 by decide))))))) hM_o
      have hM_js_o := hF28 _ _ (fun z9 => z9.elim (cne hG_js_o hG_wk_o (show (9 : Nat) ≠ 5 by decide)) (fun z9 => z9.elim (cne hG_js_o hG_a1_wk_o (show (9 : Nat) ≠ 20 by decide)) (fun z9 => z9.elim (cne hG_js_o hG_a2_wk_o (show (9 : Nat) ≠ 21 by decide)) (fun z9 => z9.elim (cne hG_js_o hG_a3_wk_o (show (9 : Nat) ≠ 22 by decide)) (fun z9 => z9.elim (cne hG_js_o hG_a4_wk_o (show (9 : Nat) ≠ 23 by decide)) (cne hG_js_o hG_a5_wk_o (show (9 : Nat) ≠ 1 by decide))))))) hM_js_o
      have hM_xj := hF28 _ _ (fun z9 => z9.elim (cne hG_xj hG_wk_o (show (3 : Nat) ≠ 5 by decide)) (fun z9 => z9.elim (cne hG_xj hG_a1_wk_o (show (3 : Nat) ≠ 20 by decide)) (fun z9 => z9.elim (cne hG_xj hG_a2_wk_o (show (3 : Nat) ≠ 21 by decide)) (fun z9 => z9.elim (cne hG_xj hG_a3_wk_o (show (3 : Nat) ≠ 22 by decide)) (fun z9 => z9.elim (cne hG_xj hG_a4_wk_o (show (3 : Nat) ≠ 23 by decide)) (cne hG_xj hG_a5_wk_o (show (3 : Nat) ≠ 1 by decide))))))) hM_xj
      have hM_sj := hF28 _ _ (fun z9 => z9.elim (cne hG_sj hG_wk_o (show (14 : Nat) ≠ 5 by decide)) (fun z9 => z9.elim (cne hG_sj hG_a1_wk_o (show (14 : Nat) ≠ 20 by decide)) (fun z9 => z9.elim (cne hG_sj hG_a2_wk_o (show (14 : Nat) ≠ 21 by decide)) (fun z9 => z9.elim (cne hG_sj hG_a3_wk_o (show (14 : Nat) ≠ 22 by decide)) (fun z9 => z9.elim (cne hG_sj hG_a4_wk_o (show (14 : Nat) ≠ 23 by decide)) (cne hG_sj hG_a5_wk_o (show (14 : Nat) ≠ 1 by decide))))))) hM_sj
      have hM_bj := hF28 _ _ (fun z9 => z9.elim (cne hG_bj hG_wk_o (show (2 : Nat) ≠ 5 by decide)) (fun z9 => z9.elim (cne hG_bj hG_a1_wk_o (show (2 : Nat) ≠ 20 by decide)) (fun z9 => z9.elim (cne hG_bj hG_a2_wk_o (show (2 : Nat) ≠ 21 by decide)) (fun z9 => z9.elim (cne hG_bj hG_a3_wk_o (show (2 : Nat) ≠ 22 by decide)) (fun z9 => z9.elim (cne hG_bj hG_a4_wk_o (show (2 : Nat) ≠ 23 by decide)) (cne hG_bj hG_a5_wk_o (show (2 : Nat) ≠ 1 by decide))))))) hM_bj
      have hX := hX.tr ⟨cE.rf, hF28.wk (fun b9 z9 => by rcases z9 with rfl | rfl | rfl | rfl | rfl | rfl; exact (Or.inr ⟨_, hG_wk_o, rfl⟩); exact (Or.inr ⟨_, hG_a1_wk_o, rfl⟩); exact (Or.inr ⟨_, hG_a2_wk_o, rfl⟩); exact (Or.inr ⟨_, hG_a3_wk_o, rfl⟩); exact (Or.inr ⟨_, hG_a4_wk_o, rfl⟩); exact (Or.inr ⟨_, hG_a5_wk_o, rfl⟩)), fun _ _ h9 => Or.inl h9⟩
      obtain ⟨g1_28, g2_28, g3_28, g4_28, g5_28, hc28, hW28⟩ := q28
      have hM_wk_o : cIn w28 wk_o (.inr (7, [.ref xj, .int (nI 0), .int (nI 0), .int 0, .long 0, .ref a1_wk_o, .ref a2_wk_o, .ref a3_wk_o, .ref a4_wk_o, .ref a5_wk_o])) := hW28.1
      have hM_a1_wk_o : cIn w28 a1_wk_o (.inl (cy 0, 6, .inl g1_28)) := hW28.2.1
      have hM_a2_wk_o : cIn w28 a2_wk_o (.inl (cy 0, 6, .inl g2_28)) := hW28.2.2.1
      have hM_a3_wk_o : cIn w28 a3_wk_o (.inl (cy 0, 6, .inl g3_28)) := hW28.2.2.2.1
      have hM_a4_wk_o : cIn w28 a4_wk_o (.inl (cy 0, 6, .inl g4_28)) := hW28.2.2.2.2.1
      have hM_a5_wk_o : cIn w28 a5_wk_o (.inl (cy 1, 6, .inr (.inl g5_28))) := hW28.2.2.2.2.2
      refine lv_iconst (v := 0) hx hb dX9_sure_31 (by decide) ?_
      refine lv_istore (lv' := [(4, .int (0 : Int32)), (3, .ref xj), (0, .ref o), (1, .int j), (2, .int s0)]) hx hb dX9_sure_32 hl (by decide) rfl (fun ls hl => ?_)
      refine lv_iconst (v := 0) hx hb dX9_sure_34 (by decide) ?_
      refine lv_istore (lv' := [(5, .int (0 : Int32)), (4, .int (0 : Int32)), (3, .ref xj), (0, .ref o), (1, .int j), (2, .int s0)]) hx hb dX9_sure_35 hl (by decide) rfl (fun ls hl => ?_)
      have loop_37 : ∀ (n : Nat) (x5 : Int32) (k : Nat) (yl : Int32) (tl : Nat) (fdl : Int64) (gl1 : Nat → Int32) (gl2 : Nat → Int32) (gl3 : Nat → Int32) (gl4 : Nat → Int32) (gl5 : Nat → Int64) (a5 : Nat), (k ≤ 200000) → (tl ≤ 200000) → (∃ s, wFo (2 ^ wj) hj (cGo wj oj nj fsj) (cFi kj wj hj tj oj nj fsj) (fun _ _ => False) (fun a s => a + (lb (picL wj s.2.1 hj) s0.toNatClampNeg).toNat) ((0 : Int), (fun _ : Nat => (0 : Nat)), (0 : Nat)) 0 k s a5 ∧ cRel wj oj nj fsj s yl (nI tl) gl1 gl2 gl3 gl4 gl5 ∧ s.2.2 = tl) → (x5 = nI a5 ∧ a5 ≤ k) → 200001 - k < n → ∀ (Gl37 : cG) (wl37 : va_W), cE G Gl37 → cX none (chs [1, 5, 20, 21, 22, 23]) G ws Gl37 wl37 → va_D A wl37 → cT cy Gl37 wl37 → ∀ (H : Heap) (locs : List Loc), va_P D vwCl wl37 H → va_S A s.heap H locs → cIn wl37 o (.inr (8, [.ref bs_o, .ref js_o, .int jc_o, .ref sh_o, .ref wk_o, va_rf mo_o, .ref ll_o, .int lc_o, va_rf lb_o])) → cIn wl37 xj (.inr (kj, .ref bj :: .ref sj :: .int (nI tj) :: .long oj :: .long nj :: msj)) → cIn wl37 wk_o (.inr (7, [.ref xj, .int yl, .int (nI tl), .int 0, .long fdl, .ref a1_wk_o, .ref a2_wk_o, .ref a3_wk_o, .ref a4_wk_o, .ref a5_wk_o])) → cIn wl37 sj (.inl (cy 0, 44, .inl fsj)) → cIn wl37 a1_wk_o (.inl (cy 0, 6, .inl gl1)) → cIn wl37 a2_wk_o (.inl (cy 0, 6, .inl gl2)) → cIn wl37 a3_wk_o (.inl (cy 0, 6, .inl gl3)) → cIn wl37 a4_wk_o (.inl (cy 0, 6, .inl gl4)) → cIn wl37 a5_wk_o (.inl (cy 1, 6, .inr (.inl gl5))) → ∀ (ls : Array Slot), lv_has ls 6 [(5, .int x5), (4, .int (nI k)), (3, .ref xj), (0, .ref o), (1, .int j), (2, .int s0)] → W p l e (headSpec wsX9_sure ({ frames := 6, cells := 0, slots := 0, locals := 144 })).room s m #[Value.ref o, Value.int j, Value.int s0] below meth c H locs 0 0 (MQ below (va_Qi (fun r0 u => cX none (chs [1, 5, 20, 21, 22, 23]) G ws u.1 u.2 ∧ (((okJob jc_o j ∧ 0 ≤ s0.toInt ∧ s0.toInt < ((wj * hj : Nat) : Int)) ∧ ∃ q k a u, wEn (2 ^ wj) hj (cGo wj oj nj fsj) (cFi kj wj hj tj oj nj fsj) (fun _ _ => False) (fun a s => a + (lb (picL wj s.2.1 hj) s0.toNatClampNeg).toNat) ((0 : Int), (fun _ : Nat => (0 : Nat)), (0 : Nat)) 0 q k a u ∧ r0 = anS q k a) ∨ (¬ (okJob jc_o j ∧ 0 ≤ s0.toInt ∧ s0.toInt < ((wj * hj : Nat) : Int)) ∧ r0 = -1))) (cB D cy A) A) #[Value.ref o, Value.int j, Value.int s0] s 0 0 A) (F0 m 37 ls []) := by
        intro n
        induction n with
        | zero => intro x5 k yl tl fdl gl1 gl2 gl3 gl4 gl5 a5 j37_0 j37_1 j37_2 j37_3 hn; exact absurd hn (Nat.not_lt_zero _)
        | succ n ih_37 =>
          intro x5 k yl tl fdl gl1 gl2 gl3 gl4 gl5 a5 j37_0 j37_1 j37_2 j37_3 hn_37 Gl37 wl37 hEl37 hX hD hT H locs hP hS hM_o hM_xj hM_wk_o hM_sj hM_a1_wk_o hM_a2_wk_o hM_a3_wk_o hM_a4_wk_o hM_a5_wk_o ls hl
          have hG_o := hEl37 _ _ hG_o
          have hG_bs_o := hEl37 _ _ hG_bs_o
          have hG_js_o := hEl37 _ _ hG_js_o
          have hG_sh_o := hEl37 _ _ hG_sh_o
          have hG_wk_o := hEl37 _ _ hG_wk_o
          have hG_ll_o := hEl37 _ _ hG_ll_o
          have hG_xj := hEl37 _ _ hG_xj
          have hG_bj := hEl37 _ _ hG_bj
          have hG_sj := hEl37 _ _ hG_sj
          have hG_l_bj := hEl37 _ _ hG_l_bj
          have hG_f_bj := hEl37 _ _ hG_f_bj
          have hG_r_bj := hEl37 _ _ hG_r_bj
          have hG_a1_wk_o := hEl37 _ _ hG_a1_wk_o
          have hG_a2_wk_o := hEl37 _ _ hG_a2_wk_o
          have hG_a3_wk_o := hEl37 _ _ hG_a3_wk_o
          have hG_a4_wk_o := hEl37 _ _ hG_a4_wk_o
          have hG_a5_wk_o := hEl37 _ _ hG_a5_wk_o
          have ik : (nI k).toInt = (k : Int) := nI_toInt (by omega)
          obtain ⟨s9, fo9, rl9, st9⟩ := j37_2
          have gd9 := wFo_gd gd0 k fo9
          have kl9 : 0 + k ≤ s9.2.2 := gd9.2
          refine lv_iload hx hb dX9_sure_37 (lv_at hl 1 rfl) ?_
          refine lv_ldc hx hb hown (hts (.constant RX9 135 (1000000)) (by decide +kernel)) dX9_sure_39 ?_
          refine lv_icmp_ge (tgt := 77) hx hb dX9_sure_41 (by decide) (fun c41 => ?_) (fun c41 => ?_)
          · skip
            have d41 := c41
            rw [fa_le] at d41
            exfalso; omega
          · skip
            have d41 := c41
            rw [fa_le] at d41
            refine lv_aload_n hx hb dX9_sure_44 rfl (lv_at hl 3 rfl) ?_
            refine t_get (v := .ref wk_o) (C := RX9) (T := TX9) (N := 9) hx hb hts (by decide +kernel) hown hK hP hM_o rfl 4 (by decide) (hts (.fieldLink RX9 34 "ShadowBench" "walk" "LShadowBench$Walk;") (by decide +kernel)) (fun _ h9 => h9) rfl dX9_sure_45 ?_
            refine t_calli (va_runV (g := F0 m 48 ls ([.ref wk_o])) (As := []) (rest := []) ⟨hx, hb, hml, hown, hts⟩ (c_X8_advance_x l D cy A Gl37 wl37 wk_o hD hT hG_wk_o hM_wk_o hG_xj hM_xj hM_sj hM_a1_wk_o hM_a2_wk_o hM_a3_wk_o hM_a4_wk_o hM_a5_wk_o hb9 ht9 gd9.1 (he9 vj2) rl9 rfl (by omega)) (cwV 0 hts gX9_sure_X8_advance rfl rfl rfl (by decide +kernel) ⟨Nat.le_of_ble_eq_true rfl, Nat.le_of_ble_eq_true rfl⟩) (c_preV hM_wk_o rfl hP hK hA hS hV) rfl rfl hl.1 rfl (lv_room (Nat.le_of_ble_eq_true rfl)) dX9_sure_48 ⟨Nat.le_of_ble_eq_true rfl, Nat.le_of_ble_eq_true rfl⟩) hS (fun r48 u H locs q48 hP9 hD9 hT9 hS => ?_)
            obtain ⟨w48, rfl, hF48, q48⟩ := q48
            have hP : va_P D vwCl w48 H := hP9
            have hD : va_D A w48 := hD9
            have hT : cT cy Gl37 w48 := hT9
            have hM_o := hF48 _ _ (fun z9 => z9.elim (cne hG_o hG_wk_o (show (7 : Nat) ≠ 5 by decide)) (fun z9 => z9.elim (cne hG_o hG_a1_wk_o (show (7 : Nat) ≠ 20 by decide)) (fun z9 => z9.elim (cne hG_o hG_a2_wk_o (show (7 : Nat) ≠ 21 by decide)) (fun z9 => z9.elim (cne hG_o hG_a3_wk_o (show (7 : Nat) ≠ 22 by decide)) (fun z9 => z9.elim (cne hG_o hG_a4_wk_o (show (7 : Nat) ≠ 23 by decide)) (cne hG_o hG_a5_wk_o (show (7 : Nat) ≠ 1 by decide))))))) hM_o
            have hM_xj := hF48 _ _ (fun z9 => z9.elim (cne hG_xj hG_wk_o (show (3 : Nat) ≠ 5 by decide)) (fun z9 => z9.elim (cne hG_xj hG_a1_wk_o (show (3 : Nat) ≠ 20 by decide)) (fun z9 => z9.elim (cne hG_xj hG_a2_wk_o (show (3 : Nat) ≠ 21 by decide)) (fun z9 => z9.elim (cne hG_xj hG_a3_wk_o (show (3 : Nat) ≠ 22 by decide)) (fun z9 => z9.elim (cne hG_xj hG_a4_wk_o (show (3 : Nat) ≠ 23 by decide)) (cne hG_xj hG_a5_wk_o (show (3 : Nat) ≠ 1 by decide))))))) hM_xj
            have hM_sj := hF48 _ _ (fun z9 => z9.elim (cne hG_sj hG_wk_o (show (14 : Nat) ≠ 5 by decide)) (fun z9 => z9.elim (cne hG_sj hG_a1_wk_o (show (14 : Nat) ≠ 20 by decide)) (fun z9 => z9.elim (cne hG_sj hG_a2_wk_o (show (14 : Nat) ≠ 21 by decide)) (fun z9 => z9.elim (cne hG_sj hG_a3_wk_o (show (14 : Nat) ≠ 22 by decide)) (fun z9 => z9.elim (cne hG_sj hG_a4_wk_o (show (14 : Nat) ≠ 23 by decide)) (cne hG_sj hG_a5_wk_o (show (14 : Nat) ≠ 1 by decide))))))) hM_sj
            have hX := hX.tr ⟨cE.rf, hF48.wk (fun b9 z9 => by rcases z9 with rfl | rfl | rfl | rfl | rfl | rfl; exact (Or.inr ⟨_, hG_wk_o, rfl⟩); exact (Or.inr ⟨_, hG_a1_wk_o, rfl⟩); exact (Or.inr ⟨_, hG_a2_wk_o, rfl⟩); exact (Or.inr ⟨_, hG_a3_wk_o, rfl⟩); exact (Or.inr ⟨_, hG_a4_wk_o, rfl⟩); exact (Or.inr ⟨_, hG_a5_wk_o, rfl⟩)), fun _ _ h9 => Or.inl h9⟩
            rcases q48 with ⟨hr48, u9, yA48, gA1_48, gA2_48, gA3_48, gA4_48, gA5_48, ru9, rl8, hW48⟩ | ⟨hr48, q9, u9, yB48, trB48, spB48, fdB48, gB1_48, gB2_48, gB3_48, gB4_48, gB5_48, ru9, hq9, hW48⟩
            · skip
              have hM_wk_o : cIn w48 wk_o (.inr (7, [.ref xj, .int yA48, .int (nI u9.2.2), .int 0, .long (picL wj u9.2.1 hj), .ref a1_wk_o, .ref a2_wk_o, .ref a3_wk_o, .ref a4_wk_o, .ref a5_wk_o])) := hW48.1
              have hM_a1_wk_o : cIn w48 a1_wk_o (.inl (cy 0, 6, .inl gA1_48)) := hW48.2.1
              have hM_a2_wk_o : cIn w48 a2_wk_o (.inl (cy 0, 6, .inl gA2_48)) := hW48.2.2.1
              have hM_a3_wk_o : cIn w48 a3_wk_o (.inl (cy 0, 6, .inl gA3_48)) := hW48.2.2.2.1
              have hM_a4_wk_o : cIn w48 a4_wk_o (.inl (cy 0, 6, .inl gA4_48)) := hW48.2.2.2.2.1
              have hM_a5_wk_o : cIn w48 a5_wk_o (.inl (cy 1, 6, .inr (.inl gA5_48))) := hW48.2.2.2.2.2
              subst hr48
              have gd8 := wRun_2 gd9.1 ru9
              have kk9 : k + 1 ≤ 200000 := by have z1 : u9.2.2 ≤ 200000 := gd8.1.1.2.2; have z2 := gd8.2; omega
              have tt9 : u9.2.2 ≤ 200000 := gd8.1.1.2.2
              refine lv_if_eq (tgt := 77) hx hb dX9_sure_51 (by decide) (fun c51 => ?_) (fun c51 => ?_)
              · first | exact absurd c51 (by decide) | exact absurd (by decide) c51
              · skip
                have d51 := c51
                rw [fa_eq] at d51
                refine lv_iinc (v := (nI (k + 1))) (lv' := [(4, .int (nI (k + 1))), (5, .int x5), (3, .ref xj), (0, .ref o), (1, .int j), (2, .int s0)]) hx hb dX9_sure_54 hl (k := 1) rfl (nI_1 _) (by decide) rfl (fun ls hl => ?_)
                refine lv_iload hx hb dX9_sure_57 (lv_at hl 1 rfl) ?_
                refine lv_aload_n hx hb dX9_sure_59 rfl (lv_at hl 3 rfl) ?_
                refine t_get (v := .ref wk_o) (C := RX9) (T := TX9) (N := 9) hx hb hts (by decide +kernel) hown hK hP hM_o rfl 4 (by decide) (hts (.fieldLink RX9 34 "ShadowBench" "walk" "LShadowBench$Walk;") (by decide +kernel)) (fun _ h9 => h9) rfl dX9_sure_60 ?_
                refine t_calll (va_runV (g := F0 m 63 ls ([.ref wk_o, .int x5])) (As := []) (rest := [.int x5]) ⟨hx, hb, hml, hown, hts⟩ (c_X8_found_x l D cy A Gl37 w48 wk_o hD hT hG_wk_o hM_wk_o ) (cwV 0 hts gX9_sure_X8_found rfl rfl rfl (by decide +kernel) ⟨Nat.le_of_ble_eq_true rfl, Nat.le_of_ble_eq_true rfl⟩) (c_preV hM_wk_o rfl hP hK hA hS hV) rfl rfl hl.1 rfl (lv_room (Nat.le_of_ble_eq_true rfl)) dX9_sure_63 ⟨Nat.le_of_ble_eq_true rfl, Nat.le_of_ble_eq_true rfl⟩) hS (fun r63 u H locs q63 hP9 hD9 hT9 hS => ?_)
                obtain ⟨rfl, q63⟩ := q63
                have hP : va_P D vwCl w48 H := hP9
                refine lv_iload_n hx hb dX9_sure_66 rfl (lv_at hl 5 rfl) ?_
                refine lv_lushr (v := (r63.toUInt64 >>> (s0.toInt64.toUInt64 &&& Int64.toUInt64 63)).toInt64) hx hb dX9_sure_67 rfl ?_
                refine lv_lconst (v := 1) hx hb dX9_sure_68 (by decide) ?_
                refine lv_land hx hb dX9_sure_69 ?_
                refine lv_topl (fun v69 e69 => ?_)
                refine lv_l2i (v := v69.toInt32) hx hb dX9_sure_70 rfl ?_
                refine lv_iadd hx hb dX9_sure_71 ?_
                refine lv_topi (fun v71 e71 => ?_)
                have f71 : v71 = nI (a5 + (lb (picL wj u9.2.1 hj) s0.toNatClampNeg).toNat) := nI_if e71 j37_3.1 (tb_bit (by omega) (by rw [e69, q63, cl_nI (by omega)]))
                refine lv_istore (lv' := [(5, .int v71), (4, .int (nI (k + 1))), (3, .ref xj), (0, .ref o), (1, .int j), (2, .int s0)]) hx hb dX9_sure_72 hl (by decide) rfl (fun ls hl => ?_)
                refine lv_goto (tgt := 37) hx hb dX9_sure_74 (by decide) ?_
                exact ih_37 v71 (k + 1) yA48 u9.2.2 (picL wj u9.2.1 hj) gA1_48 gA2_48 gA3_48 gA4_48 gA5_48 ((a5 + (lb (picL wj u9.2.1 hj) s0.toNatClampNeg).toNat)) (kk9) (tt9) (⟨u9, ⟨s9, a5, fo9, ru9, id, rfl⟩, rl8, rfl⟩) (⟨f71, by have := j37_3.2; cases lb (picL wj u9.2.1 hj) s0.toNatClampNeg <;> simp only [Bool.toNat_false, Bool.toNat_true] <;> omega⟩) (by omega) Gl37 w48 hEl37 hX hD hT _ _ hP hS hM_o hM_xj hM_wk_o hM_sj hM_a1_wk_o hM_a2_wk_o hM_a3_wk_o hM_a4_wk_o hM_a5_wk_o ls (lv_sub hl [0, 1, 2, 3, 4, 5] rfl)
            · skip
              have hsb48 : isBo spB48 := hq9.elim (fun z9 => Or.inl z9.2) (fun z9 => Or.inr z9.2)
              have hM_wk_o : cIn w48 wk_o (.inr (7, [.ref xj, .int yB48, .int trB48, .int spB48, .long fdB48, .ref a1_wk_o, .ref a2_wk_o, .ref a3_wk_o, .ref a4_wk_o, .ref a5_wk_o])) := hW48.1
              have hM_a1_wk_o : cIn w48 a1_wk_o (.inl (cy 0, 6, .inl gB1_48)) := hW48.2.1
              have hM_a2_wk_o : cIn w48 a2_wk_o (.inl (cy 0, 6, .inl gB2_48)) := hW48.2.2.1
              have hM_a3_wk_o : cIn w48 a3_wk_o (.inl (cy 0, 6, .inl gB3_48)) := hW48.2.2.2.1
              have hM_a4_wk_o : cIn w48 a4_wk_o (.inl (cy 0, 6, .inl gB4_48)) := hW48.2.2.2.2.1
              have hM_a5_wk_o : cIn w48 a5_wk_o (.inl (cy 1, 6, .inr (.inl gB5_48))) := hW48.2.2.2.2.2
              subst hr48
              refine lv_if_eq (tgt := 77) hx hb dX9_sure_51 (by decide) (fun c51 => ?_) (fun c51 => ?_)
              · skip
                have d51 := c51
                rw [fa_eq] at d51
                refine lv_aload_n hx hb dX9_sure_77 rfl (lv_at hl 3 rfl) ?_
                refine t_get (v := .ref wk_o) (C := RX9) (T := TX9) (N := 9) hx hb hts (by decide +kernel) hown hK hP hM_o rfl 4 (by decide) (hts (.fieldLink RX9 34 "ShadowBench" "walk" "LShadowBench$Walk;") (by decide +kernel)) (fun _ h9 => h9) rfl dX9_sure_78 ?_
                refine t_calli (va_runV (g := F0 m 81 ls ([.ref wk_o])) (As := []) (rest := []) ⟨hx, hb, hml, hown, hts⟩ (c_X8_isSpent_x l D cy A Gl37 w48 wk_o hD hT hG_wk_o hM_wk_o ) (cwV 0 hts gX9_sure_X8_isSpent rfl rfl rfl (by decide +kernel) ⟨Nat.le_of_ble_eq_true rfl, Nat.le_of_ble_eq_true rfl⟩) (c_preV hM_wk_o rfl hP hK hA hS hV) rfl rfl hl.1 rfl (lv_room (Nat.le_of_ble_eq_true rfl)) dX9_sure_81 ⟨Nat.le_of_ble_eq_true rfl, Nat.le_of_ble_eq_true rfl⟩) hS (fun r81 u H locs q81 hP9 hD9 hT9 hS => ?_)
                obtain ⟨rfl, q81⟩ := q81
                have hP : va_P D vwCl w48 H := hP9
                refine lv_if_eq (tgt := 90) hx hb dX9_sure_84 (by decide) (fun c84 => ?_) (fun c84 => ?_)
                · skip
                  have d84 := c84
                  rw [fa_eq] at d84
                  refine lv_iload hx hb dX9_sure_90 (lv_at hl 1 rfl) ?_
                  refine lv_if_ne (tgt := 98) hx hb dX9_sure_92 (by decide) (fun c92 => ?_) (fun c92 => ?_)
                  · skip
                    have d92 := c92
                    rw [fa_eq] at d92
                    refine lv_iload hx hb dX9_sure_98 (lv_at hl 0 rfl) ?_
                    refine lv_if_ne (tgt := 107) hx hb dX9_sure_100 (by decide) (fun c100 => ?_) (fun c100 => ?_)
                    · skip
                      have d100 := c100
                      rw [fa_eq] at d100
                      refine lv_iload hx hb dX9_sure_107 (lv_at hl 0 rfl) ?_
                      refine lv_iload hx hb dX9_sure_109 (lv_at hl 1 rfl) ?_
                      refine lv_icmp_ne (tgt := 118) hx hb dX9_sure_111 (by decide) (fun c111 => ?_) (fun c111 => ?_)
                      · skip
                        have d111 := c111
                        rw [fa_eq] at d111
                        refine lv_iconst (v := 2) hx hb dX9_sure_118 (by decide) ?_
                        exact W.iret (v := (2 : Int32)) hx hb hr (fun t ht hW => ⟨⟨_, (Gl37, w48), rfl, ⟨hX, (Or.inl ⟨⟨vj2, b18⟩, q9, k, a5, u9, ⟨s9, fo9, ru9, (fun y9 => by omega)⟩, (by rcases hq9 with ⟨z1, z2⟩ | ⟨z1, z2⟩; (rw [z1]; exact su_ans j37_0 j37_3.1 j37_3.2 (by first | exact Or.inl ⟨c92, rfl⟩ | exact Or.inr (Or.inl ⟨c92, c100, rfl⟩) | exact Or.inr (Or.inr (Or.inl ⟨c92, c100, c111, rfl⟩)) | exact Or.inr (Or.inr (Or.inr ⟨c92, c100, c111, rfl⟩)))); exact absurd (z2.symm.trans (q81.symm.trans c84)) (by decide))⟩)⟩, by show va_P D vwCl w48 t.heap; rw [ht]; exact hP, hD, hT⟩, hS.F ht⟩) hS.2.2 dX9_sure_119
                      · skip
                        have d111 := c111
                        rw [fa_eq] at d111
                        refine lv_iconst (v := 1) hx hb dX9_sure_114 (by decide) ?_
                        refine lv_goto (tgt := 119) hx hb dX9_sure_115 (by decide) ?_
                        exact W.iret (v := (1 : Int32)) hx hb hr (fun t ht hW => ⟨⟨_, (Gl37, w48), rfl, ⟨hX, (Or.inl ⟨⟨vj2, b18⟩, q9, k, a5, u9, ⟨s9, fo9, ru9, (fun y9 => by omega)⟩, (by rcases hq9 with ⟨z1, z2⟩ | ⟨z1, z2⟩; (rw [z1]; exact su_ans j37_0 j37_3.1 j37_3.2 (by first | exact Or.inl ⟨c92, rfl⟩ | exact Or.inr (Or.inl ⟨c92, c100, rfl⟩) | exact Or.inr (Or.inr (Or.inl ⟨c92, c100, c111, rfl⟩)) | exact Or.inr (Or.inr (Or.inr ⟨c92, c100, c111, rfl⟩)))); exact absurd (z2.symm.trans (q81.symm.trans c84)) (by decide))⟩)⟩, by show va_P D vwCl w48 t.heap; rw [ht]; exact hP, hD, hT⟩, hS.F ht⟩) hS.2.2 dX9_sure_119
                    · skip
                      have d100 := c100
                      rw [fa_eq] at d100
                      refine lv_iconst (v := 0) hx hb dX9_sure_103 (by decide) ?_
                      refine lv_goto (tgt := 119) hx hb dX9_sure_104 (by decide) ?_
                      exact W.iret (v := (0 : Int32)) hx hb hr (fun t ht hW => ⟨⟨_, (Gl37, w48), rfl, ⟨hX, (Or.inl ⟨⟨vj2, b18⟩, q9, k, a5, u9, ⟨s9, fo9, ru9, (fun y9 => by omega)⟩, (by rcases hq9 with ⟨z1, z2⟩ | ⟨z1, z2⟩; (rw [z1]; exact su_ans j37_0 j37_3.1 j37_3.2 (by first | exact Or.inl ⟨c92, rfl⟩ | exact Or.inr (Or.inl ⟨c92, c100, rfl⟩) | exact Or.inr (Or.inr (Or.inl ⟨c92, c100, c111, rfl⟩)) | exact Or.inr (Or.inr (Or.inr ⟨c92, c100, c111, rfl⟩)))); exact absurd (z2.symm.trans (q81.symm.trans c84)) (by decide))⟩)⟩, by show va_P D vwCl w48 t.heap; rw [ht]; exact hP, hD, hT⟩, hS.F ht⟩) hS.2.2 dX9_sure_119
                  · skip
                    have d92 := c92
                    rw [fa_eq] at d92
                    refine lv_bipush (v := (-2)) hx hb dX9_sure_95 (by decide) ?_
                    exact W.iret (v := ((-2) : Int32)) hx hb hr (fun t ht hW => ⟨⟨_, (Gl37, w48), rfl, ⟨hX, (Or.inl ⟨⟨vj2, b18⟩, q9, k, a5, u9, ⟨s9, fo9, ru9, (fun y9 => by omega)⟩, (by rcases hq9 with ⟨z1, z2⟩ | ⟨z1, z2⟩; (rw [z1]; exact su_ans j37_0 j37_3.1 j37_3.2 (by first | exact Or.inl ⟨c92, rfl⟩ | exact Or.inr (Or.inl ⟨c92, c100, rfl⟩) | exact Or.inr (Or.inr (Or.inl ⟨c92, c100, c111, rfl⟩)) | exact Or.inr (Or.inr (Or.inr ⟨c92, c100, c111, rfl⟩)))); exact absurd (z2.symm.trans (q81.symm.trans c84)) (by decide))⟩)⟩, by show va_P D vwCl w48 t.heap; rw [ht]; exact hP, hD, hT⟩, hS.F ht⟩) hS.2.2 dX9_sure_97
                · skip
                  have d84 := c84
                  rw [fa_eq] at d84
                  refine lv_bipush (v := (-5)) hx hb dX9_sure_87 (by decide) ?_
                  exact W.iret (v := ((-5) : Int32)) hx hb hr (fun t ht hW => ⟨⟨_, (Gl37, w48), rfl, ⟨hX, (Or.inl ⟨⟨vj2, b18⟩, q9, k, a5, u9, ⟨s9, fo9, ru9, (fun y9 => by omega)⟩, (by rcases hq9 with ⟨z1, z2⟩ | ⟨z1, z2⟩; exact absurd (q81.trans z2) c84; (rw [z1]; rfl))⟩)⟩, by show va_P D vwCl w48 t.heap; rw [ht]; exact hP, hD, hT⟩, hS.F ht⟩) hS.2.2 dX9_sure_89
              · first | exact absurd c51 (by decide) | exact absurd (by decide) c51
      exact loop_37 (200001 + 1) (0 : Int32) 0 (nI 0) 0 0 g1_28 g2_28 g3_28 g4_28 g5_28 0 (by omega) (by omega) (⟨((0 : Int), (fun _ : Nat => (0 : Nat)), (0 : Nat)), ⟨rfl, rfl⟩, hc28, rfl⟩) (⟨rfl, Nat.le_refl _⟩) (by omega) G w28 cE.rf hX hD hT _ _ hP hS hM_o hM_xj hM_wk_o hM_sj hM_a1_wk_o hM_a2_wk_o hM_a3_wk_o hM_a4_wk_o hM_a5_wk_o ls (lv_sub hl [0, 1, 2, 3, 4, 5] rfl)
    · skip
      have b18 := bo_f q15 c18
      refine lv_iconst (v := (-1)) hx hb dX9_sure_21 (by decide) ?_
      exact W.iret (v := ((-1) : Int32)) hx hb hr (fun t ht hW => ⟨⟨_, (G, ws), rfl, ⟨hX, (Or.inr ⟨(fun z9 => by first | exact vn2 z9.1 | exact b18 z9.2), rfl⟩)⟩, by show va_P D vwCl ws t.heap; rw [ht]; exact hP, hD, hT⟩, hS.F ht⟩) hS.2.2 dX9_sure_22
theorem RJ.rgc {cy : Nat → ClassId} {G : cG} {W : va_W} {fa : Nat → Option Nat} {jc : Int32} {J : Nat → JT} {r : Nat → Nat → Int32} (h : RJ cy G W fa jc J r) {j : Int32} : okJob jc j → ∀ y l, y < 4 → l < lnC (jW (J j.toNatClampNeg)) (jH (J j.toNatClampNeg)) y → 0 ≤ (jF (J j.toNatClampNeg) (y * 11 + l)).toInt ∧ (jF (J j.toNatClampNeg) (y * 11 + l)).toInt ≤ 6 := fun ok => by
  obtain ⟨-, -, -, -, -, -, -, -, -, -, a11⟩ := (h.at ok).2.2
  exact a11
theorem RJ.r59 {cy : Nat → ClassId} {G : cG} {W : va_W} {fa : Nat → Option Nat} {jc : Int32} {J : Nat → JT} {r : Nat → Nat → Int32} (h : RJ cy G W fa jc J r) {j : Int32} : okJob jc j → ∀ y l, y < 2 → l < lnC (r 3 j.toNatClampNeg).toNatClampNeg (r 4 j.toNatClampNeg).toNatClampNeg y → 0 ≤ (r 5 (44 * j.toNatClampNeg + 11 * y + l)).toInt ∧ (r 5 (44 * j.toNatClampNeg + 11 * y + l)).toInt ≤ 6 := fun ok y l hy hl => by
  obtain ⟨-, a2, a3, -, a5, -, -, -, -, ⟨t0, t1⟩, a11⟩ := (h.at ok).2.2
  rw [← a2, ← a3] at hl
  have e := a5 y l (by omega) hl
  have g := a11 y l (by omega) hl
  have tt : tB (jL (J j.toNatClampNeg)) y = true := by
    rcases (show y = 0 ∨ y = 1 by omega) with rfl | rfl
    · exact t0
    · exact t1
  rw [tt, if_pos rfl] at e
  rw [e] at g
  exact g

theorem RJ.exc {cy : Nat → ClassId} {G : cG} {W : va_W} {fa : Nat → Option Nat} {jc : Int32} {J : Nat → JT} {r : Nat → Nat → Int32} (h : RJ cy G W fa jc J r) {j : Int32} : okJob jc j → ∀ s, s < jW (J j.toNatClampNeg) * jH (J j.toNatClampNeg) → ¬ (lb (jO (J j.toNatClampNeg)) s = true ∧ lb (jNn (J j.toNatClampNeg)) s = true) := fun ok s hs => by
  obtain ⟨-, -, -, -, -, a6, -⟩ := (h.at ok).2.2
  exact (a6 s hs).2
section WCG
variable {w h : Nat} {hd cs rs hd' cs' rs' : Nat → Int32} {Fi Fi' : (Nat → Nat) → Prop}
theorem rows_ok {s : wS} (g : wGd (2 ^ w) h w cs s) (h0 : 0 ≤ s.1) (hE : ¬ s.2.1 s.1.toNat = 2 ^ w) (ht : s.2.2 < 200000) (hl : ¬ s.1.toNat + 1 < h) : ∀ j, j < h → wNx s j - 1 < 2 ^ w := fun j hj => by
  have gt := wGd_try g h0 hE ht
  have z : wNx s j ≤ 2 ^ w := (gt.2.1 j (by show (j : Int) ≤ s.1; omega)).1
  have p := Nat.two_pow_pos w
  omega
theorem wStp_cg (hG : ∀ nx d, d < h → (goP w hd cs rs nx d ↔ goP w hd' cs' rs' nx d)) (hF : ∀ nx : Nat → Nat, (∀ j, j < h → nx j - 1 < 2 ^ w) → (Fi nx ↔ Fi' nx)) {s t : wS} (g : wGd (2 ^ w) h w cs s) (a : wStp (2 ^ w) h (goP w hd cs rs) Fi s t) : wStp (2 ^ w) h (goP w hd' cs' rs') Fi' s t := by
  obtain ⟨h0, a⟩ := a
  have hs : s.1.toNat < h := by have := g.1; omega
  refine ⟨h0, ?_⟩
  rcases a with a | ⟨a1, a2, a⟩
  · exact Or.inl a
  · refine Or.inr ⟨a1, a2, ?_⟩
    rcases a with ⟨b1, b2⟩ | ⟨b1, b2, b3⟩ | ⟨b1, b2, b3, b4⟩
    · exact Or.inl ⟨fun z => b1 ((hG _ _ hs).mpr z), b2⟩
    · exact Or.inr (Or.inl ⟨(hG _ _ hs).mp b1, b2, b3⟩)
    · exact Or.inr (Or.inr ⟨(hG _ _ hs).mp b1, b2, fun z => b3 ((hF _ (rows_ok g h0 a1 a2 b2)).mpr z), b4⟩)
theorem wFin_cg (hG : ∀ nx d, d < h → (goP w hd cs rs nx d ↔ goP w hd' cs' rs' nx d)) (hF : ∀ nx : Nat → Nat, (∀ j, j < h → nx j - 1 < 2 ^ w) → (Fi nx ↔ Fi' nx)) {s t : wS} {o : Nat} (g : wGd (2 ^ w) h w cs s) (a : wFin (2 ^ w) h (goP w hd cs rs) Fi s o t) : wFin (2 ^ w) h (goP w hd' cs' rs') Fi' s o t := by
  rcases a with a | a | ⟨h0, a1, a2, a3, a4, a5, a6⟩
  · exact Or.inl a
  · exact Or.inr (Or.inl a)
  · have hs : s.1.toNat < h := by have := g.1; omega
    exact Or.inr (Or.inr ⟨h0, a1, a2, (hG _ _ hs).mp a3, a4, (hF _ (rows_ok g h0 a1 a2 a4)).mp a5, a6⟩)
theorem wTo_cg (hG : ∀ nx d, d < h → (goP w hd cs rs nx d ↔ goP w hd' cs' rs' nx d)) (hF : ∀ nx : Nat → Nat, (∀ j, j < h → nx j - 1 < 2 ^ w) → (Fi nx ↔ Fi' nx)) {s : wS} (g : wGd (2 ^ w) h w cs s) : ∀ n {t : wS}, wTo (2 ^ w) h (goP w hd cs rs) Fi n s t → wTo (2 ^ w) h (goP w hd' cs' rs') Fi' n s t := by
  intro n
  induction n with
  | zero => intro t a; exact a
  | succ n ih => intro t a; obtain ⟨m, a1, a2⟩ := a; exact ⟨m, ih a1, wStp_cg hG hF (wGd_to n g a1) a2⟩
theorem wRun_cg (hG : ∀ nx d, d < h → (goP w hd cs rs nx d ↔ goP w hd' cs' rs' nx d)) (hF : ∀ nx : Nat → Nat, (∀ j, j < h → nx j - 1 < 2 ^ w) → (Fi nx ↔ Fi' nx)) {s t : wS} {o : Nat} (g : wGd (2 ^ w) h w cs s) (a : wRun (2 ^ w) h (goP w hd cs rs) Fi s o t) : wRun (2 ^ w) h (goP w hd' cs' rs') Fi' s o t := by
  obtain ⟨n, m, a1, a2⟩ := a
  exact ⟨n, m, wTo_cg hG hF g n a1, wFin_cg hG hF (wGd_to n g a1) a2⟩
theorem wFo_cg {α : Type} {st : α → wS → Prop} {nx : α → wS → α} {s0 : wS} {a0 : α} (hG : ∀ nx d, d < h → (goP w hd cs rs nx d ↔ goP w hd' cs' rs' nx d)) (hF : ∀ nx : Nat → Nat, (∀ j, j < h → nx j - 1 < 2 ^ w) → (Fi nx ↔ Fi' nx)) (g : wGd (2 ^ w) h w cs s0) : ∀ k {s : wS} {a : α}, wFo (2 ^ w) h (goP w hd cs rs) Fi st nx s0 a0 k s a → wFo (2 ^ w) h (goP w hd' cs' rs') Fi' st nx s0 a0 k s a := by
  intro k
  induction k with
  | zero => intro s a f; exact f
  | succ k ih => intro s a f; obtain ⟨m, b, f1, f2, f3, f4⟩ := f; exact ⟨m, b, ih f1, wRun_cg hG hF (wFo_gd g k f1).1 f2, f3, f4⟩
theorem wEn_cg {α : Type} {st : α → wS → Prop} {nx : α → wS → α} {s0 : wS} {a0 : α} (hG : ∀ nx d, d < h → (goP w hd cs rs nx d ↔ goP w hd' cs' rs' nx d)) (hF : ∀ nx : Nat → Nat, (∀ j, j < h → nx j - 1 < 2 ^ w) → (Fi nx ↔ Fi' nx)) (g : wGd (2 ^ w) h w cs s0) {o k : Nat} {a : α} {t : wS} (e : wEn (2 ^ w) h (goP w hd cs rs) Fi st nx s0 a0 o k a t) : wEn (2 ^ w) h (goP w hd' cs' rs') Fi' st nx s0 a0 o k a t := by
  obtain ⟨m, e1, e2, e3⟩ := e
  exact ⟨m, wFo_cg hG hF g k e1, wRun_cg hG hF (wFo_gd g k e1).1 e2, e3⟩
end WCG
theorem go_cg {j : Nat} {T : JT} {r : Nat → Nat → Int32} {w hh : Nat} (p : jP j T r) (ew : jW T = w) (eh : jH T = hh) : ∀ nx d, d < hh → (goP w (hH (jO T) (jNn T)) (fun x => jF T (11 + x)) (jF T) nx d ↔ goP w (fun s => r 7 (36 * j + s)) (fun x => r 5 (44 * j + 11 + x)) (fun y => r 5 (44 * j + y)) nx d) := fun nx d hd => by
  obtain ⟨-, -, -, -, a5, a6, -, -, -, ⟨t0, t1⟩, -⟩ := p
  subst ew
  subst eh
  have m5 : d * jW T + jW T ≤ jW T * jH T := by
    have := Nat.mul_le_mul_right (jW T) (show d + 1 ≤ jH T from hd)
    rw [Nat.succ_mul, Nat.mul_comm (jH T) (jW T)] at this
    exact this
  have e7 : ∀ x, x < jW T → r 7 (36 * j + (d * jW T + x)) = hH (jO T) (jNn T) (d * jW T + x) := fun x hx => (a6 (d * jW T + x) (by omega)).1
  have e5 : ∀ x, x < jW T → jF T (11 + x) = r 5 (44 * j + 11 + x) := fun x hx => by
    have z := a5 1 x (by decide) hx
    rw [t1, if_pos rfl] at z
    exact z
  have e0 : jF T d = r 5 (44 * j + d) := by
    have z := a5 0 d (by decide) hd
    rw [t0, if_pos rfl] at z
    rw [show 0 * 11 + d = d by omega, show 44 * j + 11 * 0 + d = 44 * j + d by omega] at z
    exact z
  unfold goP
  constructor
  · rintro ⟨p1, p2⟩
    refine ⟨fun x hx => ?_, by show _ = (r 5 (44 * j + d)).toInt; rw [← e0]; exact p2⟩
    have z := p1 x hx
    show (r 7 (36 * j + (d * jW T + x)) = 2 ∨ r 7 (36 * j + (d * jW T + x)) = _) ∧ _ ≤ (r 5 (44 * j + 11 + x)).toInt
    rw [e7 x hx, ← e5 x hx]
    exact z
  · rintro ⟨p1, p2⟩
    refine ⟨fun x hx => ?_, by rw [e0]; exact p2⟩
    have z := p1 x hx
    have z' : (r 7 (36 * j + (d * jW T + x)) = 2 ∨ r 7 (36 * j + (d * jW T + x)) = if (nx d - 1).testBit x then 1 else 0) ∧ (colN nx x (d + 1) : Int) ≤ (r 5 (44 * j + 11 + x)).toInt := z
    rw [e7 x hx, ← e5 x hx] at z'
    exact z'
theorem se_en {cy : Nat → ClassId} {G : cG} {W : va_W} {fa : Nat → Option Nat} {jc : Int32} {J : Nat → JT} {r : Nat → Nat → Int32} {f : Nat → Int32} (h : RJ cy G W fa jc J r) (hI : MI f r) (ej : jc = f 1) {j : Int32} (ok : okJob jc j) {w hh : Nat} (ew : jW (J j.toNatClampNeg) = w) (eh : jH (J j.toNatClampNeg) = hh) {kk : Nat} (ek : jK (J j.toNatClampNeg) = kk) {α : Type} {st : α → wS → Prop} {nx : α → wS → α} {a0 a : α} {q k : Nat} {u : wS} (e : wEn (2 ^ w) hh (cGo w (jO (J j.toNatClampNeg)) (jNn (J j.toNatClampNeg)) (jF (J j.toNatClampNeg))) (cFi kk w hh (jL (J j.toNatClampNeg)) (jO (J j.toNatClampNeg)) (jNn (J j.toNatClampNeg)) (jF (J j.toNatClampNeg))) st nx ((0 : Int), (fun _ : Nat => (0 : Nat)), (0 : Nat)) a0 q k a u) : wEn (2 ^ w) hh (goP w (fun s => r 7 (36 * j.toNatClampNeg + s)) (fun x => r 5 (44 * j.toNatClampNeg + 11 + x)) (fun y => r 5 (44 * j.toNatClampNeg + y))) (fun nx => fitR j.toNatClampNeg r (picL w nx hh)) st nx ((0 : Int), (fun _ : Nat => (0 : Nat)), (0 : Nat)) a0 q k a u := by
  have T := h.at ok
  have hb := T.1.2.2.1
  have m36 := cb_mul hb
  have hk := (hI.2.1 j ok.1 (by rw [← ej]; exact ok.2)).2.2
  have gd := rg_cs hb (h.rgc ok)
  rw [ew, eh] at gd
  refine wEn_cg (go_cg T.2.2 ew eh) (fun nx hn => ?_) gd e
  have hb' := hb
  rw [ew, eh] at hb'
  have hp := picL_is hb' hn
  have z := fit_eq T.2.2 m36.2 hk (p := picL w nx hh) (by rw [ew, eh]; exact hp)
  rw [ew, eh, ek] at z
  exact z
theorem ct_eq {cy : Nat → ClassId} {G : cG} {W : va_W} {fa : Nat → Option Nat} {jc : Int32} {J : Nat → JT} {r : Nat → Nat → Int32} {f : Nat → Int32} (h : RJ cy G W fa jc J r) (hI : MI f r) (ej : jc = f 1) {j : Int32}  {x y : Int32} (hx : ((okJob jc j) ∧ ∃ q k u, wEn (2 ^ (jW (J j.toNatClampNeg))) (jH (J j.toNatClampNeg)) (cGo (jW (J j.toNatClampNeg)) (jO (J j.toNatClampNeg)) (jNn (J j.toNatClampNeg)) (jF (J j.toNatClampNeg))) (cFi (jK (J j.toNatClampNeg)) (jW (J j.toNatClampNeg)) (jH (J j.toNatClampNeg)) (jL (J j.toNatClampNeg)) (jO (J j.toNatClampNeg)) (jNn (J j.toNatClampNeg)) (jF (J j.toNatClampNeg))) (fun _ _ => False) (fun _ _ => ()) ((0 : Int), (fun _ : Nat => (0 : Nat)), (0 : Nat)) () q k () u ∧ x = anC q k) ∨ (¬ (okJob jc j) ∧ x = -1)) (hy : ((okJob jc j) ∧ ∃ q k u, wEn (2 ^ (r 3 j.toNatClampNeg).toNatClampNeg) (r 4 j.toNatClampNeg).toNatClampNeg (rGo j.toNatClampNeg r) (rFi j.toNatClampNeg r) (fun _ _ => False) (fun _ _ => ()) ((0 : Int), (fun _ : Nat => (0 : Nat)), (0 : Nat)) () q k () u ∧ y = anC q k) ∨ (¬ (okJob jc j) ∧ y = -1)) : x = y := by
  by_cases ok : okJob jc j
  · have sz := h.sz ok
    rw [sz.1, sz.2] at hx
    rcases hx with ⟨a, b⟩ | ⟨a, b⟩ <;> rcases hy with ⟨c, d⟩ | ⟨c, d⟩
    · obtain ⟨q, k, u, b1, b2⟩ := b
      obtain ⟨q', k', u', d1, d2⟩ := d
      obtain ⟨e1, e2, e3, e4⟩ := wEn_det (se_en h hI ej ok sz.1 sz.2 rfl b1) d1
      rw [b2, d2, e1, e2]
    · exact absurd a c
    · exact absurd c a
    · rw [b, d]
  · rcases hx with ⟨a, b⟩ | ⟨a, b⟩
    · exact absurd a ok
    · rcases hy with ⟨c, d⟩ | ⟨c, d⟩
      · exact absurd c ok
      · rw [b, d]
theorem fd_eq {cy : Nat → ClassId} {G : cG} {W : va_W} {fa : Nat → Option Nat} {jc : Int32} {J : Nat → JT} {r : Nat → Nat → Int32} {f : Nat → Int32} (h : RJ cy G W fa jc J r) (hI : MI f r) (ej : jc = f 1) {j : Int32} {i0 : Int32} {x y : Int64} (hx : ((okJob jc j ∧ 0 ≤ i0.toInt) ∧ ∃ q k a u, wEn (2 ^ (jW (J j.toNatClampNeg))) (jH (J j.toNatClampNeg)) (cGo (jW (J j.toNatClampNeg)) (jO (J j.toNatClampNeg)) (jNn (J j.toNatClampNeg)) (jF (J j.toNatClampNeg))) (cFi (jK (J j.toNatClampNeg)) (jW (J j.toNatClampNeg)) (jH (J j.toNatClampNeg)) (jL (J j.toNatClampNeg)) (jO (J j.toNatClampNeg)) (jNn (J j.toNatClampNeg)) (jF (J j.toNatClampNeg))) (fun a _ => (a : Int) = i0.toInt) (fun a _ => a + 1) ((0 : Int), (fun _ : Nat => (0 : Nat)), (0 : Nat)) 0 q k a u ∧ x = anF q (picL (jW (J j.toNatClampNeg)) u.2.1 (jH (J j.toNatClampNeg)))) ∨ (¬ (okJob jc j ∧ 0 ≤ i0.toInt) ∧ x = -1)) (hy : ((okJob jc j ∧ 0 ≤ i0.toInt) ∧ ∃ q k a u, wEn (2 ^ (r 3 j.toNatClampNeg).toNatClampNeg) (r 4 j.toNatClampNeg).toNatClampNeg (rGo j.toNatClampNeg r) (rFi j.toNatClampNeg r) (fun a _ => (a : Int) = i0.toInt) (fun a _ => a + 1) ((0 : Int), (fun _ : Nat => (0 : Nat)), (0 : Nat)) 0 q k a u ∧ y = anF q (picL (r 3 j.toNatClampNeg).toNatClampNeg u.2.1 (r 4 j.toNatClampNeg).toNatClampNeg)) ∨ (¬ (okJob jc j ∧ 0 ≤ i0.toInt) ∧ y = -1)) : x = y := by
  by_cases ok : okJob jc j
  · have sz := h.sz ok
    rw [sz.1, sz.2] at hx
    rcases hx with ⟨a, b⟩ | ⟨a, b⟩ <;> rcases hy with ⟨c, d⟩ | ⟨c, d⟩
    · obtain ⟨q, k, v, u, b1, b2⟩ := b
      obtain ⟨q', k', v', u', d1, d2⟩ := d
      obtain ⟨e1, e2, e3, e4⟩ := wEn_det (se_en h hI ej ok sz.1 sz.2 rfl b1) d1
      rw [b2, d2, e1, e4]
    · exact absurd a c
    · exact absurd c a
    · rw [b, d]
  · rcases hx with ⟨a, b⟩ | ⟨a, b⟩
    · exact absurd a.1 ok
    · rcases hy with ⟨c, d⟩ | ⟨c, d⟩
      · exact absurd c.1 ok
      · rw [b, d]
theorem su_eq9 {cy : Nat → ClassId} {G : cG} {W : va_W} {fa : Nat → Option Nat} {jc : Int32} {J : Nat → JT} {r : Nat → Nat → Int32} {f : Nat → Int32} (h : RJ cy G W fa jc J r) (hI : MI f r) (ej : jc = f 1) {j : Int32} {s0 : Int32} {x y : Int32} (hx : ((okJob jc j ∧ 0 ≤ s0.toInt ∧ s0.toInt < (((jW (J j.toNatClampNeg)) * (jH (J j.toNatClampNeg)) : Nat) : Int)) ∧ ∃ q k a u, wEn (2 ^ (jW (J j.toNatClampNeg))) (jH (J j.toNatClampNeg)) (cGo (jW (J j.toNatClampNeg)) (jO (J j.toNatClampNeg)) (jNn (J j.toNatClampNeg)) (jF (J j.toNatClampNeg))) (cFi (jK (J j.toNatClampNeg)) (jW (J j.toNatClampNeg)) (jH (J j.toNatClampNeg)) (jL (J j.toNatClampNeg)) (jO (J j.toNatClampNeg)) (jNn (J j.toNatClampNeg)) (jF (J j.toNatClampNeg))) (fun _ _ => False) (fun a s => a + (lb (picL (jW (J j.toNatClampNeg)) s.2.1 (jH (J j.toNatClampNeg))) s0.toNatClampNeg).toNat) ((0 : Int), (fun _ : Nat => (0 : Nat)), (0 : Nat)) 0 q k a u ∧ x = anS q k a) ∨ (¬ (okJob jc j ∧ 0 ≤ s0.toInt ∧ s0.toInt < (((jW (J j.toNatClampNeg)) * (jH (J j.toNatClampNeg)) : Nat) : Int)) ∧ x = -1)) (hy : ((okJob jc j ∧ 0 ≤ s0.toInt ∧ s0.toInt < (((r 3 j.toNatClampNeg).toNatClampNeg * (r 4 j.toNatClampNeg).toNatClampNeg : Nat) : Int)) ∧ ∃ q k a u, wEn (2 ^ (r 3 j.toNatClampNeg).toNatClampNeg) (r 4 j.toNatClampNeg).toNatClampNeg (rGo j.toNatClampNeg r) (rFi j.toNatClampNeg r) (fun _ _ => False) (fun a s => a + (lb (picL (r 3 j.toNatClampNeg).toNatClampNeg s.2.1 (r 4 j.toNatClampNeg).toNatClampNeg) s0.toNatClampNeg).toNat) ((0 : Int), (fun _ : Nat => (0 : Nat)), (0 : Nat)) 0 q k a u ∧ y = anS q k a) ∨ (¬ (okJob jc j ∧ 0 ≤ s0.toInt ∧ s0.toInt < (((r 3 j.toNatClampNeg).toNatClampNeg * (r 4 j.toNatClampNeg).toNatClampNeg : Nat) : Int)) ∧ y = -1)) : x = y := by
  by_cases ok : okJob jc j
  · have sz := h.sz ok
    rw [sz.1, sz.2] at hx
    rcases hx with ⟨a, b⟩ | ⟨a, b⟩ <;> rcases hy with ⟨c, d⟩ | ⟨c, d⟩
    · obtain ⟨q, k, v, u, b1, b2⟩ := b
      obtain ⟨q', k', v', u', d1, d2⟩ := d
      obtain ⟨e1, e2, e3, e4⟩ := wEn_det (se_en h hI ej ok sz.1 sz.2 rfl b1) d1
      rw [b2, d2, e1, e2, e3]
    · exact absurd a c
    · exact absurd c a
    · rw [b, d]
  · rcases hx with ⟨a, b⟩ | ⟨a, b⟩
    · exact absurd a.1 ok
    · rcases hy with ⟨c, d⟩ | ⟨c, d⟩
      · exact absurd c.1 ok
      · rw [b, d]
theorem rk_eq {cy : Nat → ClassId} {G : cG} {W : va_W} {fa : Nat → Option Nat} {jc : Int32} {J : Nat → JT} {r : Nat → Nat → Int32} {f : Nat → Int32} (h : RJ cy G W fa jc J r) (hI : MI f r) (ej : jc = f 1) {j : Int32} {p0 : Int64} {x y : Int32} (hx : ((okJob jc j ∧ isPic ((jW (J j.toNatClampNeg)) * (jH (J j.toNatClampNeg))) p0) ∧ ((fitC (jK (J j.toNatClampNeg)) (jW (J j.toNatClampNeg)) (jH (J j.toNatClampNeg)) (jL (J j.toNatClampNeg)) (jO (J j.toNatClampNeg)) (jNn (J j.toNatClampNeg)) (jF (J j.toNatClampNeg)) p0 ∧ ∃ q k u, wEn (2 ^ (jW (J j.toNatClampNeg))) (jH (J j.toNatClampNeg)) (cGo (jW (J j.toNatClampNeg)) (jO (J j.toNatClampNeg)) (jNn (J j.toNatClampNeg)) (jF (J j.toNatClampNeg))) (cFi (jK (J j.toNatClampNeg)) (jW (J j.toNatClampNeg)) (jH (J j.toNatClampNeg)) (jL (J j.toNatClampNeg)) (jO (J j.toNatClampNeg)) (jNn (J j.toNatClampNeg)) (jF (J j.toNatClampNeg))) (fun _ s => picL (jW (J j.toNatClampNeg)) s.2.1 (jH (J j.toNatClampNeg)) = p0) (fun _ _ => ()) ((0 : Int), (fun _ : Nat => (0 : Nat)), (0 : Nat)) () q k () u ∧ x = anR q k) ∨ (¬ fitC (jK (J j.toNatClampNeg)) (jW (J j.toNatClampNeg)) (jH (J j.toNatClampNeg)) (jL (J j.toNatClampNeg)) (jO (J j.toNatClampNeg)) (jNn (J j.toNatClampNeg)) (jF (J j.toNatClampNeg)) p0 ∧ x = -2))) ∨ (¬ (okJob jc j ∧ isPic ((jW (J j.toNatClampNeg)) * (jH (J j.toNatClampNeg))) p0) ∧ x = -1)) (hy : ((okJob jc j ∧ isPic ((r 3 j.toNatClampNeg).toNatClampNeg * (r 4 j.toNatClampNeg).toNatClampNeg) p0) ∧ ((fitR j.toNatClampNeg r p0 ∧ ∃ q k u, wEn (2 ^ (r 3 j.toNatClampNeg).toNatClampNeg) (r 4 j.toNatClampNeg).toNatClampNeg (rGo j.toNatClampNeg r) (rFi j.toNatClampNeg r) (fun _ s => picL (r 3 j.toNatClampNeg).toNatClampNeg s.2.1 (r 4 j.toNatClampNeg).toNatClampNeg = p0) (fun _ _ => ()) ((0 : Int), (fun _ : Nat => (0 : Nat)), (0 : Nat)) () q k () u ∧ y = anR q k) ∨ (¬ fitR j.toNatClampNeg r p0 ∧ y = -2))) ∨ (¬ (okJob jc j ∧ isPic ((r 3 j.toNatClampNeg).toNatClampNeg * (r 4 j.toNatClampNeg).toNatClampNeg) p0) ∧ y = -1)) : x = y := by
  by_cases ok : okJob jc j
  · have sz := h.sz ok
    rw [sz.1, sz.2] at hx
    rcases hx with ⟨a, b⟩ | ⟨a, b⟩ <;> rcases hy with ⟨c, d⟩ | ⟨c, d⟩
    · have T := h.at ok
      have m36 := cb_mul T.1.2.2.1
      have hk := (hI.2.1 j ok.1 (by rw [← ej]; exact ok.2)).2.2
      have fe := fit_eq T.2.2 m36.2 hk (p := p0) (by rw [sz.1, sz.2]; exact c.2)
      rw [sz.1, sz.2] at fe
      rcases b with ⟨b0, q, k, u, b1, b2⟩ | ⟨b0, b2⟩ <;> rcases d with ⟨d0, q', k', u', d1, d2⟩ | ⟨d0, d2⟩
      · obtain ⟨e1, e2, e3, e4⟩ := wEn_det (se_en h hI ej ok sz.1 sz.2 rfl b1) d1
        rw [b2, d2, e1, e2]
      · exact absurd (fe.mp b0) d0
      · exact absurd (fe.mpr d0) b0
      · rw [b2, d2]
    · exact absurd a c
    · exact absurd c a
    · rw [b, d]
  · rcases hx with ⟨a, b⟩ | ⟨a, b⟩
    · exact absurd a.1 ok
    · rcases hy with ⟨c, d⟩ | ⟨c, d⟩
      · exact absurd c.1 ok
      · rw [b, d]


theorem i_a0 (x : Int32) : x + 0 = x := by
  apply Int32.toInt_inj.mp
  rw [Int32.toInt_add]
  have z : (0 : Int32).toInt = 0 := rfl
  rw [z, Int.add_zero]
  have h1 := Int32.le_toInt x
  have h2 := Int32.toInt_lt x
  exact Int.bmod_eq_of_le (by omega) (by omega)
/-- the worth of a picture -/
def woN (G : Nat → Int32) (p : Int64) : Nat → Int32
  | 0 => 0
  | n + 1 => woN G p n + (if lb p n then G n else 0)
theorem woN_cg {G K : Nat → Int32} {p : Int64} : ∀ n, (∀ i, i < n → G i = K i) → woN G p n = woN K p n := by
  intro n
  induction n with
  | zero => intro _; rfl
  | succ n ih => intro h; simp only [woN]; rw [ih (fun i hi => h i (by omega)), h n (by omega)]
/-- the worthiest so far: how many, its worth, itself -/
def beN (G : Nat → Int32) (w h : Nat) (a : Nat × Int32 × Int64) (s : wS) : Nat × Int32 × Int64 := if a.1 = 0 ∨ a.2.1.toInt < (woN G (picL w s.2.1 h) (w * h)).toInt then (a.1 + 1, woN G (picL w s.2.1 h) (w * h), picL w s.2.1 h) else (a.1 + 1, a.2.1, a.2.2)
theorem beN_y {G : Nat → Int32} {w h k : Nat} {m v : Int32} {p q : Int64} {s : wS} (eq : q = picL w s.2.1 h) (ev : v = woN G q (w * h)) (c : k = 0 ∨ m.toInt < v.toInt) : (k + 1, v, q) = beN G w h (k, m, p) s := by
  unfold beN
  rw [← eq, ← ev, if_pos c]
theorem beN_n {G : Nat → Int32} {w h k : Nat} {m v : Int32} {p q : Int64} {s : wS} (eq : q = picL w s.2.1 h) (ev : v = woN G q (w * h)) (c : ¬ (k = 0 ∨ m.toInt < v.toInt)) : (k + 1, m, p) = beN G w h (k, m, p) s := by
  unfold beN
  rw [← eq, ← ev, if_neg c]
/-- what is held is worth what is told -/
theorem beN_w {E h0 : Nat} {Go : (Nat → Nat) → Nat → Prop} {Fi : (Nat → Nat) → Prop} {G : Nat → Int32} {w h : Nat} {s0 : wS} : ∀ k {s : wS} {a : Nat × Int32 × Int64}, wFo E h0 Go Fi (fun _ _ => False) (beN G w h) s0 (0, 0, 0) k s a → a.1 = k ∧ (0 < k → a.2.1 = woN G a.2.2 (w * h)) := by
  intro k
  induction k with
  | zero => intro s a f; rw [f.2]; exact ⟨rfl, fun z => absurd z (Nat.lt_irrefl _)⟩
  | succ k ih =>
    intro s a f
    obtain ⟨m, b, f1, -, -, f2⟩ := f
    obtain ⟨e1, e2⟩ := ih f1
    subst f2
    unfold beN
    by_cases c : b.1 = 0 ∨ b.2.1.toInt < (woN G (picL w s.2.1 h) (w * h)).toInt
    · rw [if_pos c]; exact ⟨by show b.1 + 1 = _; omega, fun _ => rfl⟩
    · rw [if_neg c]; exact ⟨by show b.1 + 1 = _; omega, fun _ => e2 (by omega)⟩
theorem beN_cg {E h0 : Nat} {Go : (Nat → Nat) → Nat → Prop} {Fi : (Nat → Nat) → Prop} {G K : Nat → Int32} {w h : Nat} {s0 : wS} (e : ∀ i, i < w * h → G i = K i) : beN G w h = beN K w h := by
  funext a s
  unfold beN
  rw [woN_cg (w * h) e]

theorem m_b {b : Bool} {g x y : Int32} (e : x = y * g) (ey : y = if b then 1 else 0) : x = if b then g else 0 := by
  rw [e, ey]
  cases b
  · show 0 * g = 0
    exact Int32.zero_mul
  · show 1 * g = g
    exact Int32.one_mul _
theorem be_step {E h0 : Nat} {Go : (Nat → Nat) → Nat → Prop} {Fi : (Nat → Nat) → Prop} {G : Nat → Int32} {w h k : Nat} {s0 s t : wS} {a : Nat × Int32 × Int64} {b v : Int32} {p q : Int64} (f : wFo E h0 Go Fi (fun _ _ => False) (beN G w h) s0 (0, 0, 0) k s a) (hk : 0 < k → b = a.2.1 ∧ p = a.2.2) (eq : q = picL w t.2.1 h) (ev : v = woN G q (w * h)) : ((k = 0 ∨ b.toInt < v.toInt) → (beN G w h a t).2 = (v, q)) ∧ (¬ (k = 0 ∨ b.toInt < v.toInt) → (beN G w h a t).2 = (b, p)) := by
  obtain ⟨e1, -⟩ := beN_w k f
  by_cases z : k = 0
  · refine ⟨fun _ => ?_, fun c => absurd (Or.inl z) c⟩
    unfold beN
    rw [← eq, ← ev, if_pos (Or.inl (by omega))]
  · obtain ⟨e2, e3⟩ := hk (by omega)
    constructor
    · intro c
      unfold beN
      rw [← eq, ← ev, if_pos (Or.inr (by rw [← e2]; exact c.resolve_left z))]
    · intro c
      unfold beN
      rw [← eq, ← ev, if_neg (fun y => c (y.elim (fun x => Or.inl (by omega)) (fun x => Or.inr (by rw [e2]; exact x)))), e2, e3]

theorem k0_ {k : Nat} (c : nI k = 0) (h : k ≤ 200000) : k = 0 := by
  have y := congrArg Int32.toInt c
  rw [nI_toInt (by omega)] at y
  have : (0 : Int32).toInt = 0 := rfl
  omega

set_option maxHeartbeats 4000000 in
set_option maxRecDepth 100000 in
theorem c_X10_seek_x (l : Launch) (D : va_G) (cy : Nat → ClassId) (mo : Nat) (a : Nat → Nat) (f : Nat → Int32) (g : Nat → Int64) (r : Nat → Nat → Int32) (q : Nat → Nat → Int64) (j : Int32) (hD : DM cy mo a) (hI : MI f r) (hr9 : okJob (f 1) j → ∀ y l, y < 2 → l < lnC (r 3 j.toNatClampNeg).toNatClampNeg (r 4 j.toNatClampNeg).toNatClampNeg y → 0 ≤ (r 5 (44 * j.toNatClampNeg + 11 * y + l)).toInt ∧ (r 5 (44 * j.toNatClampNeg + 11 * y + l)).toInt ≤ 6) : Mi l D cy mo a yX10_seek wsX10_seek ({ frames := 5, cells := 0, slots := 0, locals := 126 }) f g r q [.int j] (fun r0 u => ∃ (dp : Int32), ∃ (tr : Int32), ∃ (sp : Int32), ∃ (fd : Int64), ∃ (rw : Nat → Int32), ∃ (mt : Nat → Int32), ∃ (bs : Int32), ∃ (bp : Int64), u = ((upd (upd (upd (upd f 11 dp) 12 tr) 13 sp) 17 bs), (vp_updL (vp_updL g 14 fd) 16 bp), (va_up (va_up r 10 rw) 9 mt), q) ∧ ((r0 = 1 ∧ ¬ (okJob (f 1) j ∧ r 2 j.toNatClampNeg = 3)) ∨ (r0 = 2 ∧ (okJob (f 1) j ∧ r 2 j.toNatClampNeg = 3) ∧ ∃ q k a u, wEn (2 ^ (r 3 j.toNatClampNeg).toNatClampNeg) (r 4 j.toNatClampNeg).toNatClampNeg (rGo j.toNatClampNeg r) (rFi j.toNatClampNeg r) (fun _ _ => False) (beN (fun s => r 8 (36 * j.toNatClampNeg + s)) (r 3 j.toNatClampNeg).toNatClampNeg (r 4 j.toNatClampNeg).toNatClampNeg) ((0 : Int), (fun _ : Nat => (0 : Nat)), (0 : Nat)) (0, 0, 0) q k a u ∧ (q = 1 ∨ k = 0)) ∨ (r0 = 0 ∧ (okJob (f 1) j ∧ r 2 j.toNatClampNeg = 3) ∧ ∃ q k a u, wEn (2 ^ (r 3 j.toNatClampNeg).toNatClampNeg) (r 4 j.toNatClampNeg).toNatClampNeg (rGo j.toNatClampNeg r) (rFi j.toNatClampNeg r) (fun _ _ => False) (beN (fun s => r 8 (36 * j.toNatClampNeg + s)) (r 3 j.toNatClampNeg).toNatClampNeg (r 4 j.toNatClampNeg).toNatClampNeg) ((0 : Int), (fun _ : Nat => (0 : Nat)), (0 : Nat)) (0, 0, 0) q k a u ∧ ¬ (q = 1 ∨ k = 0) ∧ bs = a.2.1 ∧ bp = a.2.2))) := by
  refine Met.ofW (cc := cX10_seek) (maxL := 5) (ret := (some .int)) (by decide) rfl ?_
  intro p e s m args below meth c s₁ B hml hv
  obtain ⟨rfl, hP, hK⟩ := hv
  have hx := B.exec
  have hb := B.bytes
  have hr := B.returns
  have hts := atoms_spec (ws := wsX10_seek) B.pre
  have hin : ∀ w ∈ u_ws RX10 TX10 35, w ∈ wsX10_seek := by decide +kernel
  have hown : s.vm.findClass RX10 = some m.cls := findClass_of_methodNamed B.named
  have hlocks := B.notSynchronized
  have hS : va_S (AM mo a) s.heap s.heap [] := va_S.rf
  have hl := lv_entry ([.ref mo, .int j]) (n := 5) (Nat.le_of_ble_eq_true rfl)
  rw [lg_entry_eq]
  generalize (lg_sl ([.ref mo, .int j]) ++ List.replicate (5 - (lg_sl ([.ref mo, .int j])).length) Slot.unset).toArray = ls at hl ⊢
  have hl : lv_has ls 5 [(0, .ref mo), (1, .int j)] := hl
  have k_0 : (0 : Int32).toInt = 0 := by decide
  have k_1 : (1 : Int32).toInt = 1 := by decide
  have k_2 : (2 : Int32).toInt = 2 := by decide
  have k_3 : (3 : Int32).toInt = 3 := by decide
  have k_36 : (36 : Int32).toInt = 36 := by decide
  have hI1 := hI.1
  refine lv_aload_n hx hb dX10_seek_0 rfl (lv_at hl 0 rfl) ?_
  refine lv_iload_n hx hb dX10_seek_1 rfl (lv_at hl 1 rfl) ?_
  refine m_calli (As := [.int j]) (rest := []) ⟨hx, hb, hml, hown, hts⟩ (c_X10_isJob l D cy mo a f g r q j hD) (cwV 1 hts gX10_seek_X10_isJob rfl rfl rfl (by decide +kernel) ⟨Nat.le_of_ble_eq_true rfl, Nat.le_of_ble_eq_true rfl⟩) hK hP rfl hl.1 rfl (Nat.le_of_ble_eq_true rfl) dX10_seek_2 ⟨Nat.le_of_ble_eq_true rfl, Nat.le_of_ble_eq_true rfl⟩ hS (fun r2 u H locs q2 hP hS => ?_)
  obtain ⟨rfl, q2⟩ := q2
  have hP : va_P D vwCl (WM cy mo a f g r q) H := hP
  have q2 : Bo r2 (0 ≤ j.toInt ∧ j.toInt < ((f 1)).toInt) := q2
  refine lv_if_eq (tgt := 18) hx hb dX10_seek_5 (by decide) (fun c5 => ?_) (fun c5 => ?_)
  · skip
    have b5 := bo_f q2 c5
    refine lv_iconst (v := 1) hx hb dX10_seek_18 (by decide) ?_
    have hP := wm_eq (ec_f___11_12_13_17 f ) (ec_g___14_16 g ) (ec_r___10_9 r ) rfl hP
    exact W.iret (v := (1 : Int32)) hx hb hr (fun t ht hW => ⟨⟨_, ((upd (upd (upd (upd f 11 (f 11)) 12 (f 12)) 13 (f 13)) 17 (f 17)), (vp_updL (vp_updL g 14 (g 14)) 16 (g 16)), (va_up (va_up r 10 (r 10)) 9 (r 9)), q), rfl, ⟨(f 11), (f 12), (f 13), (g 14), (r 10), (r 9), (f 17), (g 16), rfl, (Or.inl ⟨rfl, (fun z9 => by first | exact b5 z9.1 | exact c15 (e13.trans z9.2))⟩)⟩, by unfold mB; rw [ht]; exact hP⟩, hS.F ht⟩) hS.2.2 dX10_seek_19
  · skip
    have b5 := bo_t q2 c5
    refine lv_aload_n hx hb dX10_seek_8 rfl (lv_at hl 0 rfl) ?_
    refine m_get (v := .ref (a 2)) hx hb hts hin hown hK hP 2 (by decide) rfl (hts (.fieldLink RX10 7 "ShadowBenchModel" "kind" "[I") (by decide +kernel)) rfl dX10_seek_9 ?_
    refine lv_iload_n hx hb dX10_seek_12 rfl (lv_at hl 1 rfl) ?_
    refine m_iald (w := (r 2)) hx hb hK hP 1 rfl (vp_in_iff.mpr ⟨by omega, by omega⟩) dX10_seek_13 ?_
    refine lv_topi (fun v13 e13 => ?_)
    have i13 : v13.toInt = ((r 2) j.toNatClampNeg).toInt := congrArg Int32.toInt e13
    refine lv_iconst (v := 3) hx hb dX10_seek_14 (by decide) ?_
    refine lv_icmp_eq (tgt := 20) hx hb dX10_seek_15 (by decide) (fun c15 => ?_) (fun c15 => ?_)
    · skip
      have d15 := c15
      rw [fa_eq] at d15
      have hh := mi_h hI (x := j) (by omega) (by omega) rfl
      have szw := mi_w hI (x := j) (by omega) (by omega) rfl
      have cw9 := m_cl (x := r 3 j.toNatClampNeg) (by omega)
      have ch9 := m_cl (x := r 4 j.toNatClampNeg) (by omega)
      have gd0 := rg_r (w := 0) (h := 0) (j := j.toNatClampNeg) (r := r) (by omega) (hr9 b5)
      have cj9 := m_cl (x := j) (by omega)
      refine lv_aload_n hx hb dX10_seek_20 rfl (lv_at hl 0 rfl) ?_
      refine m_callv (As := []) (rest := []) ⟨hx, hb, hml, hown, hts⟩ (c_X10_begin_x l D cy mo a f g r q hD) (cwV 0 hts gX10_seek_X10_begin rfl rfl rfl (by decide +kernel) ⟨Nat.le_of_ble_eq_true rfl, Nat.le_of_ble_eq_true rfl⟩) hK hP rfl hl.1 rfl (Nat.le_of_ble_eq_true rfl) dX10_seek_21 ⟨Nat.le_of_ble_eq_true rfl, Nat.le_of_ble_eq_true rfl⟩ hS (fun u H locs q21 hP hS => ?_)
      obtain ⟨rw_21, rfl, q21⟩ := q21
      have hP : va_P D vwCl (WM cy mo a (upd (upd (upd f 11 (0 : Int32)) 12 (0 : Int32)) 13 (0 : Int32)) g (va_up r 10 rw_21) q) H := hP
      have q21 : rw_21 = upd ((r 10)) 0 (-1) := q21
      refine lv_iconst (v := 0) hx hb dX10_seek_24 (by decide) ?_
      refine lv_istore_n (lv' := [(2, .int (0 : Int32)), (0, .ref mo), (1, .int j)]) hx hb dX10_seek_25 rfl hl (by decide) rfl (fun ls hl => ?_)
      have loop_26 : ∀ (n : Nat) (x2 : Int32) (dpa : Int32) (tra : Int32) (spa : Int32) (fda : Int64) (rwa : Nat → Int32) (mta : Nat → Int32) (bsa : Int32) (bpa : Int64) (k : Nat), (-1 ≤ dpa.toInt ∧ dpa.toInt < (r 4 j.toNatClampNeg).toInt) → (0 ≤ tra.toInt ∧ tra.toInt ≤ 200000) → (spa = 0) → (k ≤ 200000) → (∃ s a, wFo (2 ^ (r 3 j.toNatClampNeg).toNatClampNeg) (r 4 j.toNatClampNeg).toNatClampNeg (rGo j.toNatClampNeg r) (rFi j.toNatClampNeg r) (fun _ _ => False) (beN (fun s => r 8 (36 * j.toNatClampNeg + s)) (r 3 j.toNatClampNeg).toNatClampNeg (r 4 j.toNatClampNeg).toNatClampNeg) ((0 : Int), (fun _ : Nat => (0 : Nat)), (0 : Nat)) (0, 0, 0) k s a ∧ rRel s dpa tra rwa ∧ (0 < k → bsa = a.2.1 ∧ bpa = a.2.2)) → ((x2 = 0 ∧ k = 0) ∨ (x2 = 1 ∧ 0 < k)) → (200000 - tra.toInt).toNat < n → ∀ (H : Heap) (locs : List Loc), va_P D vwCl (WM cy mo a (upd (upd (upd (upd f 11 dpa) 12 tra) 13 spa) 17 bsa) (vp_updL (vp_updL g 14 fda) 16 bpa) (va_up (va_up r 10 rwa) 9 mta) q) H → va_S (AM mo a) s.heap H locs → ∀ (ls : Array Slot), lv_has ls 5 [(2, .int x2), (0, .ref mo), (1, .int j)] → W p l e (headSpec wsX10_seek ({ frames := 5, cells := 0, slots := 0, locals := 126 })).room s m #[Value.ref mo, Value.int j] below meth c H locs 0 0 (MQ below (va_Qi (fun r0 u => ∃ (dp : Int32), ∃ (tr : Int32), ∃ (sp : Int32), ∃ (fd : Int64), ∃ (rw : Nat → Int32), ∃ (mt : Nat → Int32), ∃ (bs : Int32), ∃ (bp : Int64), u = ((upd (upd (upd (upd f 11 dp) 12 tr) 13 sp) 17 bs), (vp_updL (vp_updL g 14 fd) 16 bp), (va_up (va_up r 10 rw) 9 mt), q) ∧ ((r0 = 1 ∧ ¬ (okJob (f 1) j ∧ r 2 j.toNatClampNeg = 3)) ∨ (r0 = 2 ∧ (okJob (f 1) j ∧ r 2 j.toNatClampNeg = 3) ∧ ∃ q k a u, wEn (2 ^ (r 3 j.toNatClampNeg).toNatClampNeg) (r 4 j.toNatClampNeg).toNatClampNeg (rGo j.toNatClampNeg r) (rFi j.toNatClampNeg r) (fun _ _ => False) (beN (fun s => r 8 (36 * j.toNatClampNeg + s)) (r 3 j.toNatClampNeg).toNatClampNeg (r 4 j.toNatClampNeg).toNatClampNeg) ((0 : Int), (fun _ : Nat => (0 : Nat)), (0 : Nat)) (0, 0, 0) q k a u ∧ (q = 1 ∨ k = 0)) ∨ (r0 = 0 ∧ (okJob (f 1) j ∧ r 2 j.toNatClampNeg = 3) ∧ ∃ q k a u, wEn (2 ^ (r 3 j.toNatClampNeg).toNatClampNeg) (r 4 j.toNatClampNeg).toNatClampNeg (rGo j.toNatClampNeg r) (rFi j.toNatClampNeg r) (fun _ _ => False) (beN (fun s => r 8 (36 * j.toNatClampNeg + s)) (r 3 j.toNatClampNeg).toNatClampNeg (r 4 j.toNatClampNeg).toNatClampNeg) ((0 : Int), (fun _ : Nat => (0 : Nat)), (0 : Nat)) (0, 0, 0) q k a u ∧ ¬ (q = 1 ∨ k = 0) ∧ bs = a.2.1 ∧ bp = a.2.2))) (mB D cy mo a) (AM mo a)) #[Value.ref mo, Value.int j] s 0 0 (AM mo a)) (F0 m 26 ls []) := by
        intro n
        induction n with
        | zero => intro x2 dpa tra spa fda rwa mta bsa bpa k j26_0 j26_1 j26_2 j26_3 j26_4 j26_5 hn; exact absurd hn (Nat.not_lt_zero _)
        | succ n ih_26 =>
          intro x2 dpa tra spa fda rwa mta bsa bpa k j26_0 j26_1 j26_2 j26_3 j26_4 j26_5 hn_26 H locs hP hS ls hl
          obtain ⟨s9, a9, fo9, rl9, hb8⟩ := j26_4
          have gd9 := wFo_gd gd0 k fo9
          have kl9 : 0 + k ≤ s9.2.2 := gd9.2
          refine lv_aload_n hx hb dX10_seek_26 rfl (lv_at hl 1 rfl) ?_
          refine lv_iload_n hx hb dX10_seek_27 rfl (lv_at hl 2 rfl) ?_
          refine m_calli (As := [.int j]) (rest := []) ⟨hx, hb, hml, hown, hts⟩ (c_X10_isNext_x l D cy mo a (upd (upd (upd (upd f 11 dpa) 12 tra) 13 spa) 17 bsa) (vp_updL (vp_updL g 14 fda) 16 bpa) (va_up (va_up r 10 rwa) 9 mta) q j hD hI b5 (show -1 ≤ dpa.toInt ∧ dpa.toInt < (r 4 j.toNatClampNeg).toInt by omega) (show 0 ≤ tra.toInt ∧ tra.toInt ≤ 200000 by omega) rl9 gd9.1) (cwV 1 hts gX10_seek_X10_isNext rfl rfl rfl (by decide +kernel) ⟨Nat.le_of_ble_eq_true rfl, Nat.le_of_ble_eq_true rfl⟩) hK hP rfl hl.1 rfl (Nat.le_of_ble_eq_true rfl) dX10_seek_28 ⟨Nat.le_of_ble_eq_true rfl, Nat.le_of_ble_eq_true rfl⟩ hS (fun r28 u H locs q28 hP hS => ?_)
          obtain ⟨dp_28, tr_28, sp_28, fd_28, rw_28, mt_28, rfl, q28⟩ := q28
          have hP : va_P D vwCl (WM cy mo a (upd (upd (upd (upd f 17 bsa) 11 dp_28) 12 tr_28) 13 sp_28) (vp_updL (vp_updL g 16 bpa) 14 fd_28) (va_up (va_up r 10 rw_28) 9 mt_28) q) H := hP
          have q28 : ((r28 = 0 ∨ r28 = 1) ∧ (-1 ≤ dp_28.toInt ∧ dp_28.toInt < ((r 4) j.toNatClampNeg).toInt) ∧ ((tra).toInt ≤ tr_28.toInt ∧ tr_28.toInt ≤ 200000) ∧ (r28 = 1 → (tra).toInt < tr_28.toInt)) ∧ ((r28 = 1 ∧ sp_28 = (spa) ∧ ∃ t, rRun j.toNatClampNeg (va_up (va_up r 10 rwa) 9 mta) s9 2 t ∧ rRel t dp_28 tr_28 rw_28 ∧ fd_28 = picL ((r 3) j.toNatClampNeg).toNatClampNeg t.2.1 ((r 4) j.toNatClampNeg).toNatClampNeg) ∨ (r28 = 0 ∧ ((sp_28 = (spa) ∧ ∃ t, rRun j.toNatClampNeg (va_up (va_up r 10 rwa) 9 mta) s9 0 t) ∨ (sp_28 = 1 ∧ ∃ t, rRun j.toNatClampNeg (va_up (va_up r 10 rwa) 9 mta) s9 1 t)))) := q28
          have b28 := q28.1.2.1
          have t28 := q28.1.2.2.1
          refine lv_if_eq (tgt := 118) hx hb dX10_seek_31 (by decide) (fun c31 => ?_) (fun c31 => ?_)
          · skip
            have d31 := c31
            rw [fa_eq] at d31
            have n9 := q28.2.resolve_left (fun z9 => absurd (z9.1.symm.trans c31) (by decide))
            refine lv_aload_n hx hb dX10_seek_118 rfl (lv_at hl 1 rfl) ?_
            refine m_get (v := .int sp_28) hx hb hts hin hown hK hP 13 (by decide) rfl (hts (.fieldLink RX10 163 "ShadowBenchModel" "spent" "Z") (by decide +kernel)) rfl dX10_seek_119 ?_
            refine lv_if_ne (tgt := 129) hx hb dX10_seek_122 (by decide) (fun c122 => ?_) (fun c122 => ?_)
            · skip
              have d122 := c122
              rw [fa_eq] at d122
              refine lv_iconst (v := 2) hx hb dX10_seek_129 (by decide) ?_
              refine lv_goto (tgt := 134) hx hb dX10_seek_130 (by decide) ?_
              have hP := wm_eq (ec_f_17_11_12_13__11_12_13_17 f bsa dp_28 tr_28 sp_28) (ec_g_16_14__14_16 g bpa fd_28) rfl rfl hP
              exact W.iret (v := (2 : Int32)) hx hb hr (fun t ht hW => ⟨⟨_, ((upd (upd (upd (upd f 11 dp_28) 12 tr_28) 13 sp_28) 17 bsa), (vp_updL (vp_updL g 14 fd_28) 16 bpa), (va_up (va_up r 10 rw_28) 9 mt_28), q), rfl, ⟨dp_28, tr_28, sp_28, fd_28, rw_28, mt_28, bsa, bpa, rfl, (Or.inr (Or.inl ⟨rfl, ⟨b5, (e13.symm.trans c15)⟩, (by rcases n9.2 with ⟨z1, u9, z2⟩ | ⟨z1, u9, z2⟩; (first | exact absurd (z1.trans j26_2) c122 | exact ⟨0, k, a9, u9, ⟨s9, fo9, z2, (fun y9 => by cases y9)⟩, Or.inr (by rcases j26_5 with ⟨y1, y2⟩ | ⟨y1, y2⟩; exact y2; exact absurd (y1.symm.trans c126) (by decide))⟩); exact ⟨1, k, a9, u9, ⟨s9, fo9, z2, (fun y9 => by cases y9)⟩, Or.inl rfl⟩)⟩))⟩, by unfold mB; rw [ht]; exact hP⟩, hS.F ht⟩) hS.2.2 dX10_seek_134
            · skip
              have d122 := c122
              rw [fa_eq] at d122
              refine lv_iload_n hx hb dX10_seek_125 rfl (lv_at hl 0 rfl) ?_
              refine lv_if_ne (tgt := 133) hx hb dX10_seek_126 (by decide) (fun c126 => ?_) (fun c126 => ?_)
              · skip
                have d126 := c126
                rw [fa_eq] at d126
                refine lv_iconst (v := 0) hx hb dX10_seek_133 (by decide) ?_
                have hP := wm_eq (ec_f_17_11_12_13__11_12_13_17 f bsa dp_28 tr_28 sp_28) (ec_g_16_14__14_16 g bpa fd_28) rfl rfl hP
                exact W.iret (v := (0 : Int32)) hx hb hr (fun t ht hW => ⟨⟨_, ((upd (upd (upd (upd f 11 dp_28) 12 tr_28) 13 sp_28) 17 bsa), (vp_updL (vp_updL g 14 fd_28) 16 bpa), (va_up (va_up r 10 rw_28) 9 mt_28), q), rfl, ⟨dp_28, tr_28, sp_28, fd_28, rw_28, mt_28, bsa, bpa, rfl, (Or.inr (Or.inr ⟨rfl, ⟨b5, (e13.symm.trans c15)⟩, (by rcases n9.2 with ⟨z1, u9, z2⟩ | ⟨z1, u9, z2⟩; exact ⟨0, k, a9, u9, ⟨s9, fo9, z2, (fun y9 => by cases y9)⟩, (by rcases j26_5 with ⟨y1, y2⟩ | ⟨y1, y2⟩; exact absurd y1 c126; (intro y; rcases y with y | y; cases y; omega)), hb8 (by rcases j26_5 with ⟨y1, y2⟩ | ⟨y1, y2⟩; exact absurd y1 c126; exact y2)⟩; exact absurd (z1.symm.trans c122) (by decide))⟩))⟩, by unfold mB; rw [ht]; exact hP⟩, hS.F ht⟩) hS.2.2 dX10_seek_134
              · skip
                have d126 := c126
                rw [fa_eq] at d126
                refine lv_iconst (v := 2) hx hb dX10_seek_129 (by decide) ?_
                refine lv_goto (tgt := 134) hx hb dX10_seek_130 (by decide) ?_
                have hP := wm_eq (ec_f_17_11_12_13__11_12_13_17 f bsa dp_28 tr_28 sp_28) (ec_g_16_14__14_16 g bpa fd_28) rfl rfl hP
                exact W.iret (v := (2 : Int32)) hx hb hr (fun t ht hW => ⟨⟨_, ((upd (upd (upd (upd f 11 dp_28) 12 tr_28) 13 sp_28) 17 bsa), (vp_updL (vp_updL g 14 fd_28) 16 bpa), (va_up (va_up r 10 rw_28) 9 mt_28), q), rfl, ⟨dp_28, tr_28, sp_28, fd_28, rw_28, mt_28, bsa, bpa, rfl, (Or.inr (Or.inl ⟨rfl, ⟨b5, (e13.symm.trans c15)⟩, (by rcases n9.2 with ⟨z1, u9, z2⟩ | ⟨z1, u9, z2⟩; (first | exact absurd (z1.trans j26_2) c122 | exact ⟨0, k, a9, u9, ⟨s9, fo9, z2, (fun y9 => by cases y9)⟩, Or.inr (by rcases j26_5 with ⟨y1, y2⟩ | ⟨y1, y2⟩; exact y2; exact absurd (y1.symm.trans c126) (by decide))⟩); exact ⟨1, k, a9, u9, ⟨s9, fo9, z2, (fun y9 => by cases y9)⟩, Or.inl rfl⟩)⟩))⟩, by unfold mB; rw [ht]; exact hP⟩, hS.F ht⟩) hS.2.2 dX10_seek_134
          · skip
            have d31 := c31
            rw [fa_eq] at d31
            obtain ⟨-, sp9, t9, ru9, rl8, fd9⟩ := q28.2.resolve_right (fun z9 => c31 z9.1)
            have ru9 : rRun j.toNatClampNeg r s9 2 t9 := ru9
            have gd8 := wRun_2 gd9.1 ru9
            have kk9 : k + 1 ≤ 200000 := by have z1 : t9.2.2 ≤ 200000 := gd8.1.1.2.2; have z2 := gd8.2; omega
            refine lv_iconst (v := 0) hx hb dX10_seek_34 (by decide) ?_
            refine lv_istore_n (lv' := [(3, .int (0 : Int32)), (2, .int x2), (0, .ref mo), (1, .int j)]) hx hb dX10_seek_35 rfl hl (by decide) rfl (fun ls hl => ?_)
            refine lv_iconst (v := 0) hx hb dX10_seek_36 (by decide) ?_
            refine lv_istore (lv' := [(4, .int (0 : Int32)), (3, .int (0 : Int32)), (2, .int x2), (0, .ref mo), (1, .int j)]) hx hb dX10_seek_37 hl (by decide) rfl (fun ls hl => ?_)
            have loop_39 : ∀ (n : Nat) (s1 : Nat) (x3 : Int32), (s1 ≤ 36 ∧ s1 ≤ (r 3 j.toNatClampNeg).toNatClampNeg * (r 4 j.toNatClampNeg).toNatClampNeg) → (x3 = woN (fun s => r 8 (36 * j.toNatClampNeg + s)) fd_28 s1) → 36 - s1 < n → ∀ (H : Heap) (locs : List Loc), va_P D vwCl (WM cy mo a (upd (upd (upd (upd f 17 bsa) 11 dp_28) 12 tr_28) 13 sp_28) (vp_updL (vp_updL g 16 bpa) 14 fd_28) (va_up (va_up r 10 rw_28) 9 mt_28) q) H → va_S (AM mo a) s.heap H locs → ∀ (ls : Array Slot), lv_has ls 5 [(4, .int (nI s1)), (3, .int x3), (2, .int x2), (0, .ref mo), (1, .int j)] → W p l e (headSpec wsX10_seek ({ frames := 5, cells := 0, slots := 0, locals := 126 })).room s m #[Value.ref mo, Value.int j] below meth c H locs 0 0 (MQ below (va_Qi (fun r0 u => ∃ (dp : Int32), ∃ (tr : Int32), ∃ (sp : Int32), ∃ (fd : Int64), ∃ (rw : Nat → Int32), ∃ (mt : Nat → Int32), ∃ (bs : Int32), ∃ (bp : Int64), u = ((upd (upd (upd (upd f 11 dp) 12 tr) 13 sp) 17 bs), (vp_updL (vp_updL g 14 fd) 16 bp), (va_up (va_up r 10 rw) 9 mt), q) ∧ ((r0 = 1 ∧ ¬ (okJob (f 1) j ∧ r 2 j.toNatClampNeg = 3)) ∨ (r0 = 2 ∧ (okJob (f 1) j ∧ r 2 j.toNatClampNeg = 3) ∧ ∃ q k a u, wEn (2 ^ (r 3 j.toNatClampNeg).toNatClampNeg) (r 4 j.toNatClampNeg).toNatClampNeg (rGo j.toNatClampNeg r) (rFi j.toNatClampNeg r) (fun _ _ => False) (beN (fun s => r 8 (36 * j.toNatClampNeg + s)) (r 3 j.toNatClampNeg).toNatClampNeg (r 4 j.toNatClampNeg).toNatClampNeg) ((0 : Int), (fun _ : Nat => (0 : Nat)), (0 : Nat)) (0, 0, 0) q k a u ∧ (q = 1 ∨ k = 0)) ∨ (r0 = 0 ∧ (okJob (f 1) j ∧ r 2 j.toNatClampNeg = 3) ∧ ∃ q k a u, wEn (2 ^ (r 3 j.toNatClampNeg).toNatClampNeg) (r 4 j.toNatClampNeg).toNatClampNeg (rGo j.toNatClampNeg r) (rFi j.toNatClampNeg r) (fun _ _ => False) (beN (fun s => r 8 (36 * j.toNatClampNeg + s)) (r 3 j.toNatClampNeg).toNatClampNeg (r 4 j.toNatClampNeg).toNatClampNeg) ((0 : Int), (fun _ : Nat => (0 : Nat)), (0 : Nat)) (0, 0, 0) q k a u ∧ ¬ (q = 1 ∨ k = 0) ∧ bs = a.2.1 ∧ bp = a.2.2))) (mB D cy mo a) (AM mo a)) #[Value.ref mo, Value.int j] s 0 0 (AM mo a)) (F0 m 39 ls []) := by
              intro n
              induction n with
              | zero => intro s1 x3  j39_0 j39_1 hn; exact absurd hn (Nat.not_lt_zero _)
              | succ n ih_39 =>
                intro s1 x3  j39_0 j39_1 hn_39 H locs hP hS ls hl
                have is1 : (nI s1).toInt = (s1 : Int) := nI_toInt (by omega)
                refine lv_iload hx hb dX10_seek_39 (lv_at hl 0 rfl) ?_
                refine lv_aload_n hx hb dX10_seek_41 rfl (lv_at hl 3 rfl) ?_
                refine m_get (v := .ref (a 3)) hx hb hts hin hown hK hP 3 (by decide) rfl (hts (.fieldLink RX10 13 "ShadowBenchModel" "wide" "[I") (by decide +kernel)) rfl dX10_seek_42 ?_
                refine lv_iload_n hx hb dX10_seek_45 rfl (lv_at hl 4 rfl) ?_
                refine m_iald (w := (r 3)) hx hb hK hP 2 rfl (vp_in_iff.mpr ⟨by omega, by omega⟩) dX10_seek_46 ?_
                refine lv_topi (fun v46 e46 => ?_)
                have i46 : v46.toInt = ((r 3) j.toNatClampNeg).toInt := congrArg Int32.toInt e46
                have w46 := mi_w hI (x := j) (by omega) (by omega) e46
                refine lv_aload_n hx hb dX10_seek_47 rfl (lv_at hl 3 rfl) ?_
                refine m_get (v := .ref (a 4)) hx hb hts hin hown hK hP 4 (by decide) rfl (hts (.fieldLink RX10 16 "ShadowBenchModel" "high" "[I") (by decide +kernel)) rfl dX10_seek_48 ?_
                refine lv_iload_n hx hb dX10_seek_51 rfl (lv_at hl 4 rfl) ?_
                refine m_iald (w := (r 4)) hx hb hK hP 3 rfl (vp_in_iff.mpr ⟨by omega, by omega⟩) dX10_seek_52 ?_
                refine lv_topi (fun v52 e52 => ?_)
                have i52 : v52.toInt = ((r 4) j.toNatClampNeg).toInt := congrArg Int32.toInt e52
                have w52 := mi_h hI (x := j) (by omega) (by omega) e52
                have m53 := mul66 w46 w52
                have sq9 := sq_eq hI b5.1 b5.2
                refine lv_imul hx hb dX10_seek_53 ?_
                refine lv_topi (fun v53 e53 => ?_)
                have i53 : v53.toInt = v46.toInt * v52.toInt := by rw [e53]; exact fb_mulI (by omega) (by omega)
                have y53 : v53.toInt = (((r 3 j.toNatClampNeg).toNatClampNeg * (r 4 j.toNatClampNeg).toNatClampNeg : Nat) : Int) := by rw [sq9, i53, e46, e52]
                refine lv_icmp_ge (tgt := 88) hx hb dX10_seek_54 (by decide) (fun c54 => ?_) (fun c54 => ?_)
                · skip
                  have d54 := c54
                  rw [fa_le] at d54
                  have v9 : x3 = woN (fun s => r 8 (36 * j.toNatClampNeg + s)) fd_28 ((r 3 j.toNatClampNeg).toNatClampNeg * (r 4 j.toNatClampNeg).toNatClampNeg) := by rw [j39_1, show s1 = (r 3 j.toNatClampNeg).toNatClampNeg * (r 4 j.toNatClampNeg).toNatClampNeg by omega]
                  have bs9 := be_step (t := t9) fo9 hb8 fd9 v9
                  refine lv_iload_n hx hb dX10_seek_88 rfl (lv_at hl 2 rfl) ?_
                  refine lv_if_eq (tgt := 100) hx hb dX10_seek_89 (by decide) (fun c89 => ?_) (fun c89 => ?_)
                  · skip
                    have d89 := c89
                    rw [fa_eq] at d89
                    refine lv_aload_n hx hb dX10_seek_100 rfl (lv_at hl 3 rfl) ?_
                    refine lv_iload_n hx hb dX10_seek_101 rfl (lv_at hl 1 rfl) ?_
                    refine m_put (v := .int x3) (ty := .int) hx hb hts hin hown hK hP hD hS 17 (by decide) rfl (hts (.fieldLink RX10 191 "ShadowBenchModel" "bestSum" "I") (by decide +kernel)) rfl (by decide +kernel) rfl rfl (upd (upd (upd (upd f 11 dp_28) 12 tr_28) 13 sp_28) 17 x3) (vp_updL (vp_updL g 16 bpa) 14 fd_28) rfl dX10_seek_102 (fun H locs hP hS => ?_)
                    refine lv_aload_n hx hb dX10_seek_105 rfl (lv_at hl 3 rfl) ?_
                    refine lv_aload_n hx hb dX10_seek_106 rfl (lv_at hl 3 rfl) ?_
                    refine m_get (v := .long fd_28) hx hb hts hin hown hK hP 14 (by decide) rfl (hts (.fieldLink RX10 175 "ShadowBenchModel" "found" "J") (by decide +kernel)) rfl dX10_seek_107 ?_
                    refine m_put (v := .long fd_28) (ty := .long) hx hb hts hin hown hK hP hD hS 16 (by decide) rfl (hts (.fieldLink RX10 194 "ShadowBenchModel" "bestPicture" "J") (by decide +kernel)) rfl (by decide +kernel) rfl rfl (upd (upd (upd (upd f 11 dp_28) 12 tr_28) 13 sp_28) 17 x3) (vp_updL (vp_updL g 14 fd_28) 16 fd_28) rfl dX10_seek_110 (fun H locs hP hS => ?_)
                    refine lv_iconst (v := 1) hx hb dX10_seek_113 (by decide) ?_
                    refine lv_istore_n (lv' := [(2, .int (1 : Int32)), (4, .int (nI s1)), (3, .int x3), (0, .ref mo), (1, .int j)]) hx hb dX10_seek_114 rfl hl (by decide) rfl (fun ls hl => ?_)
                    refine lv_goto (tgt := 26) hx hb dX10_seek_115 (by decide) ?_
                    exact ih_26 (1 : Int32) dp_28 tr_28 sp_28 fd_28 rw_28 mt_28 x3 fd_28 (k + 1) (by omega) (by omega) (by rw [sp9]; exact j26_2) (kk9) (⟨t9, _, ⟨s9, a9, fo9, ru9, id, rfl⟩, rl8, (fun _ => by first | (rw [bs9.1 (by rcases j26_5 with ⟨y1, y2⟩ | ⟨y1, y2⟩; exact Or.inl y2; first | (exact absurd (y1.symm.trans c89) (by decide)) | exact Or.inr (by omega))]; exact ⟨rfl, rfl⟩) | (rw [bs9.2 (by rcases j26_5 with ⟨y1, y2⟩ | ⟨y1, y2⟩; exact absurd y1 c89; (intro y; omega))]; exact ⟨rfl, rfl⟩))⟩) (Or.inr ⟨rfl, by omega⟩) (by have z9 := q28.1.2.2.2 (q28.1.1.resolve_left c31); omega) _ _ hP hS ls (lv_sub hl [0, 3, 4] rfl)
                  · skip
                    have d89 := c89
                    rw [fa_eq] at d89
                    refine lv_iload_n hx hb dX10_seek_92 rfl (lv_at hl 1 rfl) ?_
                    refine lv_aload_n hx hb dX10_seek_93 rfl (lv_at hl 3 rfl) ?_
                    refine m_get (v := .int bsa) hx hb hts hin hown hK hP 17 (by decide) rfl (hts (.fieldLink RX10 191 "ShadowBenchModel" "bestSum" "I") (by decide +kernel)) rfl dX10_seek_94 ?_
                    refine lv_icmp_le (tgt := 113) hx hb dX10_seek_97 (by decide) (fun c97 => ?_) (fun c97 => ?_)
                    · skip
                      have d97 := c97
                      rw [fa_le] at d97
                      refine lv_iconst (v := 1) hx hb dX10_seek_113 (by decide) ?_
                      refine lv_istore_n (lv' := [(2, .int (1 : Int32)), (4, .int (nI s1)), (3, .int x3), (0, .ref mo), (1, .int j)]) hx hb dX10_seek_114 rfl hl (by decide) rfl (fun ls hl => ?_)
                      refine lv_goto (tgt := 26) hx hb dX10_seek_115 (by decide) ?_
                      have hP := wm_eq (ec_f_17_11_12_13__11_12_13_17 f bsa dp_28 tr_28 sp_28) (ec_g_16_14__14_16 g bpa fd_28) rfl rfl hP
                      exact ih_26 (1 : Int32) dp_28 tr_28 sp_28 fd_28 rw_28 mt_28 bsa bpa (k + 1) (by omega) (by omega) (by rw [sp9]; exact j26_2) (kk9) (⟨t9, _, ⟨s9, a9, fo9, ru9, id, rfl⟩, rl8, (fun _ => by first | (rw [bs9.1 (by rcases j26_5 with ⟨y1, y2⟩ | ⟨y1, y2⟩; exact Or.inl y2; first | (exact absurd (y1.symm.trans c89) (by decide)) | exact Or.inr (by omega))]; exact ⟨rfl, rfl⟩) | (rw [bs9.2 (by rcases j26_5 with ⟨y1, y2⟩ | ⟨y1, y2⟩; exact absurd y1 c89; (intro y; omega))]; exact ⟨rfl, rfl⟩))⟩) (Or.inr ⟨rfl, by omega⟩) (by have z9 := q28.1.2.2.2 (q28.1.1.resolve_left c31); omega) _ _ hP hS ls (lv_sub hl [0, 3, 4] rfl)
                    · skip
                      have d97 := c97
                      rw [fa_le] at d97
                      refine lv_aload_n hx hb dX10_seek_100 rfl (lv_at hl 3 rfl) ?_
                      refine lv_iload_n hx hb dX10_seek_101 rfl (lv_at hl 1 rfl) ?_
                      refine m_put (v := .int x3) (ty := .int) hx hb hts hin hown hK hP hD hS 17 (by decide) rfl (hts (.fieldLink RX10 191 "ShadowBenchModel" "bestSum" "I") (by decide +kernel)) rfl (by decide +kernel) rfl rfl (upd (upd (upd (upd f 11 dp_28) 12 tr_28) 13 sp_28) 17 x3) (vp_updL (vp_updL g 16 bpa) 14 fd_28) rfl dX10_seek_102 (fun H locs hP hS => ?_)
                      refine lv_aload_n hx hb dX10_seek_105 rfl (lv_at hl 3 rfl) ?_
                      refine lv_aload_n hx hb dX10_seek_106 rfl (lv_at hl 3 rfl) ?_
                      refine m_get (v := .long fd_28) hx hb hts hin hown hK hP 14 (by decide) rfl (hts (.fieldLink RX10 175 "ShadowBenchModel" "found" "J") (by decide +kernel)) rfl dX10_seek_107 ?_
                      refine m_put (v := .long fd_28) (ty := .long) hx hb hts hin hown hK hP hD hS 16 (by decide) rfl (hts (.fieldLink RX10 194 "ShadowBenchModel" "bestPicture" "J") (by decide +kernel)) rfl (by decide +kernel) rfl rfl (upd (upd (upd (upd f 11 dp_28) 12 tr_28) 13 sp_28) 17 x3) (vp_updL (vp_updL g 14 fd_28) 16 fd_28) rfl dX10_seek_110 (fun H locs hP hS => ?_)
                      refine lv_iconst (v := 1) hx hb dX10_seek_113 (by decide) ?_
                      refine lv_istore_n (lv' := [(2, .int (1 : Int32)), (4, .int (nI s1)), (3, .int x3), (0, .ref mo), (1, .int j)]) hx hb dX10_seek_114 rfl hl (by decide) rfl (fun ls hl => ?_)
                      refine lv_goto (tgt := 26) hx hb dX10_seek_115 (by decide) ?_
                      exact ih_26 (1 : Int32) dp_28 tr_28 sp_28 fd_28 rw_28 mt_28 x3 fd_28 (k + 1) (by omega) (by omega) (by rw [sp9]; exact j26_2) (kk9) (⟨t9, _, ⟨s9, a9, fo9, ru9, id, rfl⟩, rl8, (fun _ => by first | (rw [bs9.1 (by rcases j26_5 with ⟨y1, y2⟩ | ⟨y1, y2⟩; exact Or.inl y2; first | (exact absurd (y1.symm.trans c89) (by decide)) | exact Or.inr (by omega))]; exact ⟨rfl, rfl⟩) | (rw [bs9.2 (by rcases j26_5 with ⟨y1, y2⟩ | ⟨y1, y2⟩; exact absurd y1 c89; (intro y; omega))]; exact ⟨rfl, rfl⟩))⟩) (Or.inr ⟨rfl, by omega⟩) (by have z9 := q28.1.2.2.2 (q28.1.1.resolve_left c31); omega) _ _ hP hS ls (lv_sub hl [0, 3, 4] rfl)
                · skip
                  have d54 := c54
                  rw [fa_le] at d54
                  refine lv_iload_n hx hb dX10_seek_57 rfl (lv_at hl 1 rfl) ?_
                  refine lv_aload_n hx hb dX10_seek_58 rfl (lv_at hl 3 rfl) ?_
                  refine m_get (v := .long fd_28) hx hb hts hin hown hK hP 14 (by decide) rfl (hts (.fieldLink RX10 175 "ShadowBenchModel" "found" "J") (by decide +kernel)) rfl dX10_seek_59 ?_
                  refine lv_iload hx hb dX10_seek_62 (lv_at hl 0 rfl) ?_
                  refine m_pu (As := [.long fd_28, .int (nI s1)]) (rest := [.int x3]) ⟨hx, hb, hml, hown, hts⟩ (c_X10_one l fd_28 (nI s1) ) (va_cwS 2 hts gX10_seek_X10_one rfl rfl rfl (by decide +kernel) ⟨Nat.le_of_ble_eq_true rfl, Nat.le_of_ble_eq_true rfl⟩) hP rfl hl.1 rfl (Nat.le_of_ble_eq_true rfl) dX10_seek_64 ⟨Nat.le_of_ble_eq_true rfl, Nat.le_of_ble_eq_true rfl⟩ hS (fun r64 H locs q64 hP hS => ?_)
                  have i64 : r64.toInt = (r_one fd_28 (nI s1)).toInt := congrArg Int32.toInt q64
                  refine lv_aload_n hx hb dX10_seek_67 rfl (lv_at hl 3 rfl) ?_
                  refine m_get (v := .ref (a 8)) hx hb hts hin hown hK hP 8 (by decide) rfl (hts (.fieldLink RX10 29 "ShadowBenchModel" "weight" "[I") (by decide +kernel)) rfl dX10_seek_68 ?_
                  refine lv_bipush (v := 36) hx hb dX10_seek_71 (by decide) ?_
                  refine lv_iload_n hx hb dX10_seek_73 rfl (lv_at hl 4 rfl) ?_
                  refine lv_imul hx hb dX10_seek_74 ?_
                  refine lv_topi (fun v74 e74 => ?_)
                  have i74 : v74.toInt = 36 * j.toInt := by rw [e74]; exact mulcL rfl (by omega) (by omega)
                  refine lv_iload hx hb dX10_seek_75 (lv_at hl 0 rfl) ?_
                  refine lv_iadd hx hb dX10_seek_77 ?_
                  refine lv_topi (fun v77 e77 => ?_)
                  have i77 : v77.toInt = v74.toInt + (nI s1).toInt := by rw [e77]; exact fb_addI (by omega) (by omega)
                  refine m_iald (w := (r 8)) hx hb hK hP 7 rfl (vp_in_iff.mpr ⟨by omega, by omega⟩) dX10_seek_78 ?_
                  refine lv_topi (fun v78 e78 => ?_)
                  have i78 : v78.toInt = ((r 8) v77.toNatClampNeg).toInt := congrArg Int32.toInt e78
                  have cv9 := m_cl (x := v77) (by omega)
                  have f78 : v78 = r 8 (36 * j.toNatClampNeg + s1) := by rw [e78, show v77.toNatClampNeg = 36 * j.toNatClampNeg + s1 by omega]
                  have f64 : r64 = if lb fd_28 s1 then 1 else 0 := by rw [q64]; exact one_lb fd_28 (by omega)
                  refine lv_imul hx hb dX10_seek_79 ?_
                  refine lv_topi (fun v79 e79 => ?_)
                  refine lv_iadd hx hb dX10_seek_80 ?_
                  refine lv_topi (fun v80 e80 => ?_)
                  have f79 := m_b (g := v78) e79 f64
                  have f80 : v80 = woN (fun s => r 8 (36 * j.toNatClampNeg + s)) fd_28 (s1 + 1) := by simp only [woN]; rw [e80, f79, j39_1, f78]
                  refine lv_istore_n (lv' := [(3, .int v80), (4, .int (nI s1)), (2, .int x2), (0, .ref mo), (1, .int j)]) hx hb dX10_seek_81 rfl hl (by decide) rfl (fun ls hl => ?_)
                  refine lv_iinc (v := (nI (s1 + 1))) (lv' := [(4, .int (nI (s1 + 1))), (3, .int v80), (2, .int x2), (0, .ref mo), (1, .int j)]) hx hb dX10_seek_82 hl (k := 1) rfl (nI_1 _) (by decide) rfl (fun ls hl => ?_)
                  refine lv_goto (tgt := 39) hx hb dX10_seek_85 (by decide) ?_
                  exact ih_39 (s1 + 1) v80 (by omega) (f80) (by omega) _ _ hP hS ls (lv_sub hl [0, 1, 2, 3, 4] rfl)
            exact loop_39 (36 + 1) 0 (0 : Int32) (by omega) (rfl) (by omega) _ _ hP hS ls (lv_sub hl [0, 1, 2, 3, 4] rfl)
      have hP := wm_eq (ec_f_11_12_13__11_12_13_17 f (0 : Int32) (0 : Int32) (0 : Int32)) (ec_g___14_16 g ) (ec_r_10__10_9 r rw_21) rfl hP
      exact loop_26 (200000 + 1) (0 : Int32) (0 : Int32) (0 : Int32) (0 : Int32) (g 14) rw_21 (r 9) (f 17) (g 16) 0 (by omega) (by omega) (rfl) (by omega) (⟨((0 : Int), (fun _ : Nat => (0 : Nat)), (0 : Nat)), (0, 0, 0), ⟨rfl, rfl⟩, rRel_0 (by rw [q21]; rfl), fun z9 => absurd z9 (Nat.lt_irrefl _)⟩) (Or.inl ⟨rfl, rfl⟩) (by omega) _ _ hP hS ls (lv_sub hl [0, 1, 2] rfl)
    · skip
      have d15 := c15
      rw [fa_eq] at d15
      refine lv_iconst (v := 1) hx hb dX10_seek_18 (by decide) ?_
      have hP := wm_eq (ec_f___11_12_13_17 f ) (ec_g___14_16 g ) (ec_r___10_9 r ) rfl hP
      exact W.iret (v := (1 : Int32)) hx hb hr (fun t ht hW => ⟨⟨_, ((upd (upd (upd (upd f 11 (f 11)) 12 (f 12)) 13 (f 13)) 17 (f 17)), (vp_updL (vp_updL g 14 (g 14)) 16 (g 16)), (va_up (va_up r 10 (r 10)) 9 (r 9)), q), rfl, ⟨(f 11), (f 12), (f 13), (g 14), (r 10), (r 9), (f 17), (g 16), rfl, (Or.inl ⟨rfl, (fun z9 => by first | exact b5 z9.1 | exact c15 (e13.trans z9.2))⟩)⟩, by unfold mB; rw [ht]; exact hP⟩, hS.F ht⟩) hS.2.2 dX10_seek_19
set_option maxHeartbeats 4000000 in
set_option maxRecDepth 100000 in
theorem c_X10_best_x (l : Launch) (D : va_G) (cy : Nat → ClassId) (mo : Nat) (a : Nat → Nat) (f : Nat → Int32) (g : Nat → Int64) (r : Nat → Nat → Int32) (q : Nat → Nat → Int64) (j : Int32) (hD : DM cy mo a) (hI : MI f r) (hr9 : okJob (f 1) j → ∀ y l, y < 2 → l < lnC (r 3 j.toNatClampNeg).toNatClampNeg (r 4 j.toNatClampNeg).toNatClampNeg y → 0 ≤ (r 5 (44 * j.toNatClampNeg + 11 * y + l)).toInt ∧ (r 5 (44 * j.toNatClampNeg + 11 * y + l)).toInt ≤ 6) : Mi l D cy mo a yX10_best wsX10_best ({ frames := 6, cells := 0, slots := 0, locals := 150 }) f g r q [.int j] (fun r0 u => ∃ (th : Int32), ∃ (dp : Int32), ∃ (tr : Int32), ∃ (sp : Int32), ∃ (fd : Int64), ∃ (rw : Nat → Int32), ∃ (mt : Nat → Int32), ∃ (bs : Int32), ∃ (bp : Int64), u = ((upd (upd (upd (upd (upd f 0 th) 11 dp) 12 tr) 13 sp) 17 bs), (vp_updL (vp_updL g 14 fd) 16 bp), (va_up (va_up r 10 rw) 9 mt), q) ∧ ((th = 1 ∧ ¬ (okJob (f 1) j ∧ r 2 j.toNatClampNeg = 3)) ∨ (th = 2 ∧ (okJob (f 1) j ∧ r 2 j.toNatClampNeg = 3) ∧ ∃ q k a u, wEn (2 ^ (r 3 j.toNatClampNeg).toNatClampNeg) (r 4 j.toNatClampNeg).toNatClampNeg (rGo j.toNatClampNeg r) (rFi j.toNatClampNeg r) (fun _ _ => False) (beN (fun s => r 8 (36 * j.toNatClampNeg + s)) (r 3 j.toNatClampNeg).toNatClampNeg (r 4 j.toNatClampNeg).toNatClampNeg) ((0 : Int), (fun _ : Nat => (0 : Nat)), (0 : Nat)) (0, 0, 0) q k a u ∧ (q = 1 ∨ k = 0)) ∨ (th = 0 ∧ (okJob (f 1) j ∧ r 2 j.toNatClampNeg = 3) ∧ ∃ q k a u, wEn (2 ^ (r 3 j.toNatClampNeg).toNatClampNeg) (r 4 j.toNatClampNeg).toNatClampNeg (rGo j.toNatClampNeg r) (rFi j.toNatClampNeg r) (fun _ _ => False) (beN (fun s => r 8 (36 * j.toNatClampNeg + s)) (r 3 j.toNatClampNeg).toNatClampNeg (r 4 j.toNatClampNeg).toNatClampNeg) ((0 : Int), (fun _ : Nat => (0 : Nat)), (0 : Nat)) (0, 0, 0) q k a u ∧ ¬ (q = 1 ∨ k = 0) ∧ r0 = a.2.1))) := by
  refine Met.ofW (cc := cX10_best) (maxL := 2) (ret := (some .int)) (by decide) rfl ?_
  intro p e s m args below meth c s₁ B hml hv
  obtain ⟨rfl, hP, hK⟩ := hv
  have hx := B.exec
  have hb := B.bytes
  have hr := B.returns
  have hts := atoms_spec (ws := wsX10_best) B.pre
  have hin : ∀ w ∈ u_ws RX10 TX10 35, w ∈ wsX10_best := by decide +kernel
  have hown : s.vm.findClass RX10 = some m.cls := findClass_of_methodNamed B.named
  have hlocks := B.notSynchronized
  have hS : va_S (AM mo a) s.heap s.heap [] := va_S.rf
  have hl := lv_entry ([.ref mo, .int j]) (n := 2) (Nat.le_of_ble_eq_true rfl)
  rw [lg_entry_eq]
  generalize (lg_sl ([.ref mo, .int j]) ++ List.replicate (2 - (lg_sl ([.ref mo, .int j])).length) Slot.unset).toArray = ls at hl ⊢
  have hl : lv_has ls 2 [(0, .ref mo), (1, .int j)] := hl
  have k_0 : (0 : Int32).toInt = 0 := by decide
  have hI1 := hI.1
  refine lv_aload_n hx hb dX10_best_0 rfl (lv_at hl 0 rfl) ?_
  refine lv_aload_n hx hb dX10_best_1 rfl (lv_at hl 0 rfl) ?_
  refine lv_iload_n hx hb dX10_best_2 rfl (lv_at hl 1 rfl) ?_
  refine m_calli (As := [.int j]) (rest := [.ref mo]) ⟨hx, hb, hml, hown, hts⟩ (c_X10_seek_x l D cy mo a f g r q j hD hI hr9) (cwV 1 hts gX10_best_X10_seek rfl rfl rfl (by decide +kernel) ⟨Nat.le_of_ble_eq_true rfl, Nat.le_of_ble_eq_true rfl⟩) hK hP rfl hl.1 rfl (Nat.le_of_ble_eq_true rfl) dX10_best_3 ⟨Nat.le_of_ble_eq_true rfl, Nat.le_of_ble_eq_true rfl⟩ hS (fun r3 u H locs q3 hP hS => ?_)
  obtain ⟨dp_3, tr_3, sp_3, fd_3, rw_3, mt_3, bs_3, bp_3, rfl, q3⟩ := q3
  have hP : va_P D vwCl (WM cy mo a (upd (upd (upd (upd f 11 dp_3) 12 tr_3) 13 sp_3) 17 bs_3) (vp_updL (vp_updL g 14 fd_3) 16 bp_3) (va_up (va_up r 10 rw_3) 9 mt_3) q) H := hP
  have q3 : (r3 = 1 ∧ ¬ (okJob ((f 1)) j ∧ r 2 j.toNatClampNeg = 3)) ∨ (r3 = 2 ∧ (okJob ((f 1)) j ∧ r 2 j.toNatClampNeg = 3) ∧ ∃ q k a u, wEn (2 ^ ((r 3) j.toNatClampNeg).toNatClampNeg) ((r 4) j.toNatClampNeg).toNatClampNeg (rGo j.toNatClampNeg r) (rFi j.toNatClampNeg r) (fun _ _ => False) (beN (fun s => r 8 (36 * j.toNatClampNeg + s)) ((r 3) j.toNatClampNeg).toNatClampNeg ((r 4) j.toNatClampNeg).toNatClampNeg) ((0 : Int), (fun _ : Nat => (0 : Nat)), (0 : Nat)) (0, 0, 0) q k a u ∧ (q = 1 ∨ k = 0)) ∨ (r3 = 0 ∧ (okJob ((f 1)) j ∧ r 2 j.toNatClampNeg = 3) ∧ ∃ q k a u, wEn (2 ^ ((r 3) j.toNatClampNeg).toNatClampNeg) ((r 4) j.toNatClampNeg).toNatClampNeg (rGo j.toNatClampNeg r) (rFi j.toNatClampNeg r) (fun _ _ => False) (beN (fun s => r 8 (36 * j.toNatClampNeg + s)) ((r 3) j.toNatClampNeg).toNatClampNeg ((r 4) j.toNatClampNeg).toNatClampNeg) ((0 : Int), (fun _ : Nat => (0 : Nat)), (0 : Nat)) (0, 0, 0) q k a u ∧ ¬ (q = 1 ∨ k = 0) ∧ bs_3 = a.2.1 ∧ bp_3 = a.2.2) := q3
  refine m_put (v := .int r3) (ty := .int) hx hb hts hin hown hK hP hD hS 0 (by decide) rfl (hts (.fieldLink RX10 79 "ShadowBenchModel" "thrown" "I") (by decide +kernel)) rfl (by decide +kernel) rfl rfl (upd (upd (upd (upd (upd f 11 dp_3) 12 tr_3) 13 sp_3) 17 bs_3) 0 r3) (vp_updL (vp_updL g 14 fd_3) 16 bp_3) rfl dX10_best_6 (fun H locs hP hS => ?_)
  refine lv_aload_n hx hb dX10_best_9 rfl (lv_at hl 0 rfl) ?_
  refine m_get (v := .int r3) hx hb hts hin hown hK hP 0 (by decide) rfl (hts (.fieldLink RX10 79 "ShadowBenchModel" "thrown" "I") (by decide +kernel)) rfl dX10_best_10 ?_
  refine lv_if_le (tgt := 20) hx hb dX10_best_13 (by decide) (fun c13 => ?_) (fun c13 => ?_)
  · skip
    have d13 := c13
    rw [fa_le] at d13
    refine lv_aload_n hx hb dX10_best_20 rfl (lv_at hl 0 rfl) ?_
    refine m_get (v := .int bs_3) hx hb hts hin hown hK hP 17 (by decide) rfl (hts (.fieldLink RX10 191 "ShadowBenchModel" "bestSum" "I") (by decide +kernel)) rfl dX10_best_21 ?_
    have hP := wm_eq (ec_f_11_12_13_17_0__0_11_12_13_17 f dp_3 tr_3 sp_3 bs_3 r3) rfl rfl rfl hP
    exact W.iret (v := bs_3) hx hb hr (fun t ht hW => ⟨⟨_, ((upd (upd (upd (upd (upd f 0 r3) 11 dp_3) 12 tr_3) 13 sp_3) 17 bs_3), (vp_updL (vp_updL g 14 fd_3) 16 bp_3), (va_up (va_up r 10 rw_3) 9 mt_3), q), rfl, ⟨r3, dp_3, tr_3, sp_3, fd_3, rw_3, mt_3, bs_3, bp_3, rfl, (by rcases q3 with ⟨z1, z2⟩ | ⟨z1, z2, z3⟩ | ⟨z1, z2, z3⟩; (rw [z1] at c13; exact absurd c13 (by decide)); (rw [z1] at c13; exact absurd c13 (by decide)); (obtain ⟨q9, k9, a9, u9, y1, y2, y3⟩ := z3; exact Or.inr (Or.inr ⟨z1, z2, q9, k9, a9, u9, y1, y2, y3.1⟩)))⟩, by unfold mB; rw [ht]; exact hP⟩, hS.F ht⟩) hS.2.2 dX10_best_24
  · skip
    have d13 := c13
    rw [fa_le] at d13
    refine lv_iconst (v := 0) hx hb dX10_best_16 (by decide) ?_
    refine lv_goto (tgt := 24) hx hb dX10_best_17 (by decide) ?_
    have hP := wm_eq (ec_f_11_12_13_17_0__0_11_12_13_17 f dp_3 tr_3 sp_3 bs_3 r3) rfl rfl rfl hP
    exact W.iret (v := (0 : Int32)) hx hb hr (fun t ht hW => ⟨⟨_, ((upd (upd (upd (upd (upd f 0 r3) 11 dp_3) 12 tr_3) 13 sp_3) 17 bs_3), (vp_updL (vp_updL g 14 fd_3) 16 bp_3), (va_up (va_up r 10 rw_3) 9 mt_3), q), rfl, ⟨r3, dp_3, tr_3, sp_3, fd_3, rw_3, mt_3, bs_3, bp_3, rfl, (by rcases q3 with ⟨z1, z2⟩ | ⟨z1, z2, z3⟩ | ⟨z1, z2, z3⟩; exact Or.inl ⟨z1, z2⟩; exact Or.inr (Or.inl ⟨z1, z2, z3⟩); (rw [z1] at c13; exact absurd (by decide) c13))⟩, by unfold mB; rw [ht]; exact hP⟩, hS.F ht⟩) hS.2.2 dX10_best_24
set_option maxHeartbeats 4000000 in
set_option maxRecDepth 100000 in
theorem c_X10_bestOne_x (l : Launch) (D : va_G) (cy : Nat → ClassId) (mo : Nat) (a : Nat → Nat) (f : Nat → Int32) (g : Nat → Int64) (r : Nat → Nat → Int32) (q : Nat → Nat → Int64) (j : Int32) (hD : DM cy mo a) (hI : MI f r) (hr9 : okJob (f 1) j → ∀ y l, y < 2 → l < lnC (r 3 j.toNatClampNeg).toNatClampNeg (r 4 j.toNatClampNeg).toNatClampNeg y → 0 ≤ (r 5 (44 * j.toNatClampNeg + 11 * y + l)).toInt ∧ (r 5 (44 * j.toNatClampNeg + 11 * y + l)).toInt ≤ 6) : Ml l D cy mo a yX10_bestOne wsX10_bestOne ({ frames := 6, cells := 0, slots := 0, locals := 150 }) f g r q [.int j] (fun r0 u => ∃ (th : Int32), ∃ (dp : Int32), ∃ (tr : Int32), ∃ (sp : Int32), ∃ (fd : Int64), ∃ (rw : Nat → Int32), ∃ (mt : Nat → Int32), ∃ (bs : Int32), ∃ (bp : Int64), u = ((upd (upd (upd (upd (upd f 0 th) 11 dp) 12 tr) 13 sp) 17 bs), (vp_updL (vp_updL g 14 fd) 16 bp), (va_up (va_up r 10 rw) 9 mt), q) ∧ ((th = 1 ∧ ¬ (okJob (f 1) j ∧ r 2 j.toNatClampNeg = 3)) ∨ (th = 2 ∧ (okJob (f 1) j ∧ r 2 j.toNatClampNeg = 3) ∧ ∃ q k a u, wEn (2 ^ (r 3 j.toNatClampNeg).toNatClampNeg) (r 4 j.toNatClampNeg).toNatClampNeg (rGo j.toNatClampNeg r) (rFi j.toNatClampNeg r) (fun _ _ => False) (beN (fun s => r 8 (36 * j.toNatClampNeg + s)) (r 3 j.toNatClampNeg).toNatClampNeg (r 4 j.toNatClampNeg).toNatClampNeg) ((0 : Int), (fun _ : Nat => (0 : Nat)), (0 : Nat)) (0, 0, 0) q k a u ∧ (q = 1 ∨ k = 0)) ∨ (th = 0 ∧ (okJob (f 1) j ∧ r 2 j.toNatClampNeg = 3) ∧ ∃ q k a u, wEn (2 ^ (r 3 j.toNatClampNeg).toNatClampNeg) (r 4 j.toNatClampNeg).toNatClampNeg (rGo j.toNatClampNeg r) (rFi j.toNatClampNeg r) (fun _ _ => False) (beN (fun s => r 8 (36 * j.toNatClampNeg + s)) (r 3 j.toNatClampNeg).toNatClampNeg (r 4 j.toNatClampNeg).toNatClampNeg) ((0 : Int), (fun _ : Nat => (0 : Nat)), (0 : Nat)) (0, 0, 0) q k a u ∧ ¬ (q = 1 ∨ k = 0) ∧ r0 = a.2.2))) := by
  refine Met.ofW (cc := cX10_bestOne) (maxL := 2) (ret := (some .long)) (by decide) rfl ?_
  intro p e s m args below meth c s₁ B hml hv
  obtain ⟨rfl, hP, hK⟩ := hv
  have hx := B.exec
  have hb := B.bytes
  have hr := B.returns
  have hts := atoms_spec (ws := wsX10_bestOne) B.pre
  have hin : ∀ w ∈ u_ws RX10 TX10 35, w ∈ wsX10_bestOne := by decide +kernel
  have hown : s.vm.findClass RX10 = some m.cls := findClass_of_methodNamed B.named
  have hlocks := B.notSynchronized
  have hS : va_S (AM mo a) s.heap s.heap [] := va_S.rf
  have hl := lv_entry ([.ref mo, .int j]) (n := 2) (Nat.le_of_ble_eq_true rfl)
  rw [lg_entry_eq]
  generalize (lg_sl ([.ref mo, .int j]) ++ List.replicate (2 - (lg_sl ([.ref mo, .int j])).length) Slot.unset).toArray = ls at hl ⊢
  have hl : lv_has ls 2 [(0, .ref mo), (1, .int j)] := hl
  have k_0 : (0 : Int32).toInt = 0 := by decide
  have k_0L : (0 : Int64).toInt = 0 := by decide
  have hI1 := hI.1
  refine lv_aload_n hx hb dX10_bestOne_0 rfl (lv_at hl 0 rfl) ?_
  refine lv_aload_n hx hb dX10_bestOne_1 rfl (lv_at hl 0 rfl) ?_
  refine lv_iload_n hx hb dX10_bestOne_2 rfl (lv_at hl 1 rfl) ?_
  refine m_calli (As := [.int j]) (rest := [.ref mo]) ⟨hx, hb, hml, hown, hts⟩ (c_X10_seek_x l D cy mo a f g r q j hD hI hr9) (cwV 1 hts gX10_bestOne_X10_seek rfl rfl rfl (by decide +kernel) ⟨Nat.le_of_ble_eq_true rfl, Nat.le_of_ble_eq_true rfl⟩) hK hP rfl hl.1 rfl (Nat.le_of_ble_eq_true rfl) dX10_bestOne_3 ⟨Nat.le_of_ble_eq_true rfl, Nat.le_of_ble_eq_true rfl⟩ hS (fun r3 u H locs q3 hP hS => ?_)
  obtain ⟨dp_3, tr_3, sp_3, fd_3, rw_3, mt_3, bs_3, bp_3, rfl, q3⟩ := q3
  have hP : va_P D vwCl (WM cy mo a (upd (upd (upd (upd f 11 dp_3) 12 tr_3) 13 sp_3) 17 bs_3) (vp_updL (vp_updL g 14 fd_3) 16 bp_3) (va_up (va_up r 10 rw_3) 9 mt_3) q) H := hP
  have q3 : (r3 = 1 ∧ ¬ (okJob ((f 1)) j ∧ r 2 j.toNatClampNeg = 3)) ∨ (r3 = 2 ∧ (okJob ((f 1)) j ∧ r 2 j.toNatClampNeg = 3) ∧ ∃ q k a u, wEn (2 ^ ((r 3) j.toNatClampNeg).toNatClampNeg) ((r 4) j.toNatClampNeg).toNatClampNeg (rGo j.toNatClampNeg r) (rFi j.toNatClampNeg r) (fun _ _ => False) (beN (fun s => r 8 (36 * j.toNatClampNeg + s)) ((r 3) j.toNatClampNeg).toNatClampNeg ((r 4) j.toNatClampNeg).toNatClampNeg) ((0 : Int), (fun _ : Nat => (0 : Nat)), (0 : Nat)) (0, 0, 0) q k a u ∧ (q = 1 ∨ k = 0)) ∨ (r3 = 0 ∧ (okJob ((f 1)) j ∧ r 2 j.toNatClampNeg = 3) ∧ ∃ q k a u, wEn (2 ^ ((r 3) j.toNatClampNeg).toNatClampNeg) ((r 4) j.toNatClampNeg).toNatClampNeg (rGo j.toNatClampNeg r) (rFi j.toNatClampNeg r) (fun _ _ => False) (beN (fun s => r 8 (36 * j.toNatClampNeg + s)) ((r 3) j.toNatClampNeg).toNatClampNeg ((r 4) j.toNatClampNeg).toNatClampNeg) ((0 : Int), (fun _ : Nat => (0 : Nat)), (0 : Nat)) (0, 0, 0) q k a u ∧ ¬ (q = 1 ∨ k = 0) ∧ bs_3 = a.2.1 ∧ bp_3 = a.2.2) := q3
  refine m_put (v := .int r3) (ty := .int) hx hb hts hin hown hK hP hD hS 0 (by decide) rfl (hts (.fieldLink RX10 79 "ShadowBenchModel" "thrown" "I") (by decide +kernel)) rfl (by decide +kernel) rfl rfl (upd (upd (upd (upd (upd f 11 dp_3) 12 tr_3) 13 sp_3) 17 bs_3) 0 r3) (vp_updL (vp_updL g 14 fd_3) 16 bp_3) rfl dX10_bestOne_6 (fun H locs hP hS => ?_)
  refine lv_aload_n hx hb dX10_bestOne_9 rfl (lv_at hl 0 rfl) ?_
  refine m_get (v := .int r3) hx hb hts hin hown hK hP 0 (by decide) rfl (hts (.fieldLink RX10 79 "ShadowBenchModel" "thrown" "I") (by decide +kernel)) rfl dX10_bestOne_10 ?_
  refine lv_if_le (tgt := 20) hx hb dX10_bestOne_13 (by decide) (fun c13 => ?_) (fun c13 => ?_)
  · skip
    have d13 := c13
    rw [fa_le] at d13
    refine lv_aload_n hx hb dX10_bestOne_20 rfl (lv_at hl 0 rfl) ?_
    refine m_get (v := .long bp_3) hx hb hts hin hown hK hP 16 (by decide) rfl (hts (.fieldLink RX10 194 "ShadowBenchModel" "bestPicture" "J") (by decide +kernel)) rfl dX10_bestOne_21 ?_
    have hP := wm_eq (ec_f_11_12_13_17_0__0_11_12_13_17 f dp_3 tr_3 sp_3 bs_3 r3) rfl rfl rfl hP
    exact W.lret (v := bp_3) hx hb hr (fun t ht hW => ⟨⟨_, ((upd (upd (upd (upd (upd f 0 r3) 11 dp_3) 12 tr_3) 13 sp_3) 17 bs_3), (vp_updL (vp_updL g 14 fd_3) 16 bp_3), (va_up (va_up r 10 rw_3) 9 mt_3), q), rfl, ⟨r3, dp_3, tr_3, sp_3, fd_3, rw_3, mt_3, bs_3, bp_3, rfl, (by rcases q3 with ⟨z1, z2⟩ | ⟨z1, z2, z3⟩ | ⟨z1, z2, z3⟩; (rw [z1] at c13; exact absurd c13 (by decide)); (rw [z1] at c13; exact absurd c13 (by decide)); (obtain ⟨q9, k9, a9, u9, y1, y2, y3⟩ := z3; exact Or.inr (Or.inr ⟨z1, z2, q9, k9, a9, u9, y1, y2, y3.2⟩)))⟩, by unfold mB; rw [ht]; exact hP⟩, hS.F ht⟩) hS.2.2 dX10_bestOne_24
  · skip
    have d13 := c13
    rw [fa_le] at d13
    refine lv_lconst (v := 0) hx hb dX10_bestOne_16 (by decide) ?_
    refine lv_goto (tgt := 24) hx hb dX10_bestOne_17 (by decide) ?_
    have hP := wm_eq (ec_f_11_12_13_17_0__0_11_12_13_17 f dp_3 tr_3 sp_3 bs_3 r3) rfl rfl rfl hP
    exact W.lret (v := (0 : Int64)) hx hb hr (fun t ht hW => ⟨⟨_, ((upd (upd (upd (upd (upd f 0 r3) 11 dp_3) 12 tr_3) 13 sp_3) 17 bs_3), (vp_updL (vp_updL g 14 fd_3) 16 bp_3), (va_up (va_up r 10 rw_3) 9 mt_3), q), rfl, ⟨r3, dp_3, tr_3, sp_3, fd_3, rw_3, mt_3, bs_3, bp_3, rfl, (by rcases q3 with ⟨z1, z2⟩ | ⟨z1, z2, z3⟩ | ⟨z1, z2, z3⟩; exact Or.inl ⟨z1, z2⟩; exact Or.inr (Or.inl ⟨z1, z2, z3⟩); (rw [z1] at c13; exact absurd (by decide) c13))⟩, by unfold mB; rw [ht]; exact hP⟩, hS.F ht⟩) hS.2.2 dX10_bestOne_24
set_option maxHeartbeats 4000000 in
set_option maxRecDepth 100000 in
theorem c_X10_thrown_x (l : Launch) (D : va_G) (cy : Nat → ClassId) (mo : Nat) (a : Nat → Nat) (f : Nat → Int32) (g : Nat → Int64) (r : Nat → Nat → Int32) (q : Nat → Nat → Int64)  (hD : DM cy mo a)  : Mi l D cy mo a yX10_thrown wsX10_thrown ({ frames := 0, cells := 0, slots := 0, locals := 0 }) f g r q [] (fun r0 u => u = (f, g, r, q) ∧ (r0 = f 0)) := by
  refine Met.ofW (cc := cX10_thrown) (maxL := 1) (ret := (some .int)) (by decide) rfl ?_
  intro p e s m args below meth c s₁ B hml hv
  obtain ⟨rfl, hP, hK⟩ := hv
  have hx := B.exec
  have hb := B.bytes
  have hr := B.returns
  have hts := atoms_spec (ws := wsX10_thrown) B.pre
  have hin : ∀ w ∈ u_ws RX10 TX10 35, w ∈ wsX10_thrown := by decide +kernel
  have hown : s.vm.findClass RX10 = some m.cls := findClass_of_methodNamed B.named
  have hlocks := B.notSynchronized
  have hS : va_S (AM mo a) s.heap s.heap [] := va_S.rf
  have hl := lv_entry ([.ref mo]) (n := 1) (Nat.le_of_ble_eq_true rfl)
  rw [lg_entry_eq]
  generalize (lg_sl ([.ref mo]) ++ List.replicate (1 - (lg_sl ([.ref mo])).length) Slot.unset).toArray = ls at hl ⊢
  have hl : lv_has ls 1 [(0, .ref mo)] := hl
  have k_0 : (0 : Int32).toInt = 0 := by decide
  refine lv_aload_n hx hb dX10_thrown_0 rfl (lv_at hl 0 rfl) ?_
  refine m_get (v := .int (f 0)) hx hb hts hin hown hK hP 0 (by decide) rfl (hts (.fieldLink RX10 79 "ShadowBenchModel" "thrown" "I") (by decide +kernel)) rfl dX10_thrown_1 ?_
  exact W.iret (v := (f 0)) hx hb hr (fun t ht hW => ⟨⟨_, (f, g, r, q), rfl, ⟨rfl, rfl⟩, by unfold mB; rw [ht]; exact hP⟩, hS.F ht⟩) hS.2.2 dX10_thrown_4

theorem t_lastf {p : Program} {l : Launch} {e : Env} {R : Room} {s : State} {m : MethodId} {args : Array Value} {below : List Frame} {meth : Method} {c : Code} {H : Heap} {locs : List Loc} {cells slots : Nat} {Q : State → Prop} {cc : ByteArray} {pc : Nat} {ls : Array Slot} {rest : List Value} {D : va_G} {cy : Nat → ClassId} {A : Nat → Prop} {ws : va_W} {G : cG} {H0 : Heap} (hx : p.tables.exec = Jvm.exec) (hb : c.code = cc) (hK : va_K D vwCl (cTy cy) s) (hP : va_P D vwCl ws H) (hD : va_D A ws) (hS : va_S A H0 H locs) (hT : cT cy G ws) {a n z : Nat} (hg : G a = some (1, n, z)) {i : Int32} {x : Int64} (hin : vp_in i n) (hdg : decode cc pc = .ok (.lastore, 1))
    (kk : ∀ (H1 : Heap) (locs1 : List Loc) (ws1 : va_W), cF (fun b => b = a) ws ws1 → (∃ w : Nat → Int64, cIn ws1 a (.inl (cy 1, n, .inr (.inl w))) ∧ w i.toNatClampNeg = x) → va_P D vwCl ws1 H1 → va_D A ws1 → cT cy G ws1 → va_S A H0 H1 locs1 → W p l e R s m args below meth c H1 locs1 cells slots Q (F0 m (pc + 1) ls rest)) : W p l e R s m args below meth c H locs cells slots Q (F0 m pc ls (.long x :: .int i :: .ref a :: rest)) := by
  obtain ⟨_, ⟨q0, hq⟩, w, rfl⟩ := hT _ _ hg
  exact va_last hx hb hK hP hD hS q0 1 hq rfl hin hdg (fun H1 locs1 h1 h2 h3 => kk H1 locs1 _ (cF.up (cUp.set hq) rfl) ⟨_, (cUp.set hq).1, by simp [vp_updL]⟩ h1 h2 (hT.up (cUp.set hq) hg ⟨_, rfl⟩) h3)
set_option maxHeartbeats 4000000 in
set_option maxRecDepth 100000 in
theorem c_X5_worthOf_x (l : Launch) (D : va_G) (cy : Nat → ClassId) (A : Nat → Prop) (G : cG) (ws : va_W) (o : Nat) (p0 : Int64) {w h b_o s_o c_o : Nat} {t_o : Int32} {x_o y_o : Int64} {fm : Nat → Int32} (hD : va_D A ws) (hT : cT cy G ws) (hG_o : G o = some (3, 4, 8 * w + h)) (hM_o : cIn ws o (.inr (4, [.ref b_o, .ref s_o, .int t_o, .long x_o, .long y_o, .ref c_o]))) (hM_c_o : cIn ws c_o (.inl (cy 0, (w * h), .inl fm))) (hb9 : 1 ≤ w ∧ w ≤ 6 ∧ 1 ≤ h ∧ h ≤ 6) : Ci l D cy A yX5_worthOf wsX5_worthOf ({ frames := 0, cells := 0, slots := 0, locals := 0 }) 0 0 ws [.ref o, .long p0] (fun r0 u => u = (G, ws) ∧ (r0 = woN fm p0 (w * h))) := by
  refine Met.ofW (cc := cX5_worthOf) (maxL := 5) (ret := (some .int)) (by decide) rfl ?_
  intro p e s m args below meth c s₁ B hml hv
  obtain ⟨rfl, hP, hK, hA, hV⟩ := hv
  have hx := B.exec
  have hb := B.bytes
  have hr := B.returns
  have hts := atoms_spec (ws := wsX5_worthOf) B.pre
  have hown : s.vm.findClass RX5 = some m.cls := findClass_of_methodNamed B.named
  have hlocks := B.notSynchronized
  have hS : va_S A s.heap s.heap [] := va_S.rf
  have hl := lv_entry ([.ref o, .long p0]) (n := 5) (Nat.le_of_ble_eq_true rfl)
  rw [lg_entry_eq]
  generalize (lg_sl ([.ref o, .long p0]) ++ List.replicate (5 - (lg_sl ([.ref o, .long p0])).length) Slot.unset).toArray = ls at hl ⊢
  have hl : lv_has ls 5 [(0, .ref o), (1, .long p0)] := hl
  have k_0 : (0 : Int32).toInt = 0 := by decide
  have k_1L : (1 : Int64).toInt = 1 := by decide
  obtain ⟨hG_b_o, hG_s_o, hJ_o⟩ := w3sh hD hT hG_o hb9 hM_o
  have hG_c_o := cJ4c hJ_o
  have m36 := cb_mul hb9
  refine lv_iconst (v := 0) hx hb dX5_worthOf_0 (by decide) ?_
  refine lv_istore_n (lv' := [(3, .int (0 : Int32)), (0, .ref o), (1, .long p0)]) hx hb dX5_worthOf_1 rfl hl (by decide) rfl (fun ls hl => ?_)
  refine lv_iconst (v := 0) hx hb dX5_worthOf_2 (by decide) ?_
  refine lv_istore (lv' := [(4, .int (0 : Int32)), (3, .int (0 : Int32)), (0, .ref o), (1, .long p0)]) hx hb dX5_worthOf_3 hl (by decide) rfl (fun ls hl => ?_)
  have loop_5 : ∀ (n : Nat) (i : Nat) (x3 : Int32), (i ≤ w * h) → (x3 = woN fm p0 i) → 36 - i < n → ∀ (H : Heap) (locs : List Loc), va_P D vwCl ws H → va_S A s.heap H locs → ∀ (ls : Array Slot), lv_has ls 5 [(4, .int (nI i)), (3, .int x3), (0, .ref o), (1, .long p0)] → W p l e (headSpec wsX5_worthOf ({ frames := 0, cells := 0, slots := 0, locals := 0 })).room s m #[Value.ref o, Value.long p0] below meth c H locs 0 0 (MQ below (va_Qi (fun r0 u => u = (G, ws) ∧ (r0 = woN fm p0 (w * h))) (cB D cy A) A) #[Value.ref o, Value.long p0] s 0 0 A) (F0 m 5 ls []) := by
    intro n
    induction n with
    | zero => intro i x3 j5_0 j5_1 hn; exact absurd hn (Nat.not_lt_zero _)
    | succ n ih_5 =>
      intro i x3 j5_0 j5_1 hn_5 H locs hP hS  ls hl
      have ii : (nI i).toInt = (i : Int) := nI_toInt (by omega)
      refine lv_iload hx hb dX5_worthOf_5 (lv_at hl 0 rfl) ?_
      refine lv_aload_n hx hb dX5_worthOf_7 rfl (lv_at hl 2 rfl) ?_
      refine t_get (v := .ref c_o) (C := RX5) (T := TX5) (N := 6) hx hb hts (by decide +kernel) hown hK hP hM_o rfl 5 (by decide) (hts (.fieldLink RX5 13 "ShadowBench$MarkedJob" "marks" "[I") (by decide +kernel)) (fun _ h9 => h9) rfl dX5_worthOf_8 ?_
      refine t_alenI hx hb hK hP hT (Or.inr (Or.inl rfl)) hG_c_o dX5_worthOf_11 ?_
      have i11 : (nI (w * h)).toInt = _ := nI_toInt (by omega)
      refine lv_icmp_ge (tgt := 42) hx hb dX5_worthOf_12 (by decide) (fun c12 => ?_) (fun c12 => ?_)
      · skip
        have d12 := c12
        rw [fa_le] at d12
        refine lv_iload_n hx hb dX5_worthOf_42 rfl (lv_at hl 1 rfl) ?_
        exact W.iret (v := x3) hx hb hr (fun t ht hW => ⟨⟨_, (G, ws), rfl, ⟨rfl, (by rw [j5_1, show i = w * h by omega])⟩, by show va_P D vwCl ws t.heap; rw [ht]; exact hP, hD, hT⟩, hS.F ht⟩) hS.2.2 dX5_worthOf_43
      · skip
        have d12 := c12
        rw [fa_le] at d12
        refine lv_lload_n hx hb dX5_worthOf_15 rfl (lv_at hl 3 rfl) ?_
        refine lv_iload hx hb dX5_worthOf_16 (lv_at hl 0 rfl) ?_
        refine lv_lushr (v := (p0.toUInt64 >>> ((nI i).toInt64.toUInt64 &&& Int64.toUInt64 63)).toInt64) hx hb dX5_worthOf_18 rfl ?_
        refine lv_lconst (v := 1) hx hb dX5_worthOf_19 (by decide) ?_
        refine lv_land hx hb dX5_worthOf_20 ?_
        refine lv_topl (fun v20 e20 => ?_)
        refine lv_lconst (v := 1) hx hb dX5_worthOf_21 (by decide) ?_
        refine W.lcmp hx hb dX5_worthOf_22 ?_
        have u9 := ub_lb p0 (k := i) (by omega)
        rw [← e20] at u9
        refine lv_if_ne (tgt := 36) hx hb dX5_worthOf_23 (by decide) (fun c23 => ?_) (fun c23 => ?_)
        · skip
          have d23 := c23
          rw [lg_cmp_eq, fa_eq64] at d23
          first | have ck9 : (nI i).toNatClampNeg = i := nI_clamp (by omega) | skip
          refine lv_iinc (v := (nI (i + 1))) (lv' := [(4, .int (nI (i + 1))), (3, .int x3), (0, .ref o), (1, .long p0)]) hx hb dX5_worthOf_36 hl (k := 0) rfl (nI_1 _) (by decide) rfl (fun ls hl => ?_)
          refine lv_goto (tgt := 5) hx hb dX5_worthOf_39 (by decide) ?_
          exact ih_5 (i + 1) x3 (by omega) (by simp only [woN]; cases hb : lb p0 i; (rw [hb] at u9; first | (rw [i_a0 (woN fm p0 i) |>.symm] at j5_1; exact j5_1) | exact absurd (((lg_cmp_eq _ _).mp c23).symm.trans u9) (by decide)); (rw [hb] at u9; first | (rw [e34, e33, ck9, j5_1]; rfl) | exact absurd ((lg_cmp_eq _ _).mpr u9) c23)) (by omega) _ _ hP hS  ls (lv_sub hl [0, 1, 2, 3] rfl)
        · skip
          have d23 := c23
          rw [lg_cmp_eq, fa_eq64] at d23
          refine lv_iload_n hx hb dX5_worthOf_26 rfl (lv_at hl 1 rfl) ?_
          refine lv_aload_n hx hb dX5_worthOf_27 rfl (lv_at hl 2 rfl) ?_
          refine t_get (v := .ref c_o) (C := RX5) (T := TX5) (N := 6) hx hb hts (by decide +kernel) hown hK hP hM_o rfl 5 (by decide) (hts (.fieldLink RX5 13 "ShadowBench$MarkedJob" "marks" "[I") (by decide +kernel)) (fun _ h9 => h9) rfl dX5_worthOf_28 ?_
          refine lv_iload hx hb dX5_worthOf_31 (lv_at hl 0 rfl) ?_
          refine t_ialdM hx hb hK hP hM_c_o (vp_in_iff.mpr ⟨by omega, by omega⟩) dX5_worthOf_33 ?_
          refine lv_topi (fun v33 e33 => ?_)
          refine lv_iadd hx hb dX5_worthOf_34 ?_
          refine lv_topi (fun v34 e34 => ?_)
          refine lv_istore_n (lv' := [(3, .int v34), (4, .int (nI i)), (0, .ref o), (1, .long p0)]) hx hb dX5_worthOf_35 rfl hl (by decide) rfl (fun ls hl => ?_)
          first | have ck9 : (nI i).toNatClampNeg = i := nI_clamp (by omega) | skip
          refine lv_iinc (v := (nI (i + 1))) (lv' := [(4, .int (nI (i + 1))), (3, .int v34), (0, .ref o), (1, .long p0)]) hx hb dX5_worthOf_36 hl (k := 1) rfl (nI_1 _) (by decide) rfl (fun ls hl => ?_)
          refine lv_goto (tgt := 5) hx hb dX5_worthOf_39 (by decide) ?_
          exact ih_5 (i + 1) v34 (by omega) (by simp only [woN]; cases hb : lb p0 i; (rw [hb] at u9; first | (rw [i_a0 (woN fm p0 i) |>.symm] at j5_1; exact j5_1) | exact absurd (((lg_cmp_eq _ _).mp c23).symm.trans u9) (by decide)); (rw [hb] at u9; first | (rw [e34, e33, ck9, j5_1]; rfl) | exact absurd ((lg_cmp_eq _ _).mpr u9) c23)) (by omega) _ _ hP hS  ls (lv_sub hl [0, 1, 2, 3] rfl)
  exact loop_5 (36 + 1) 0 (0 : Int32) (by omega) (rfl) (by omega) _ _ hP hS  ls (lv_sub hl [0, 1, 2, 3] rfl)
set_option maxHeartbeats 4000000 in
set_option maxRecDepth 100000 in
theorem c_X9_markedJobOf_j (l : Launch) (hst : l.stackTraces = false) (D : va_G) (cy : Nat → ClassId) (A : Nat → Prop) (G : cG) (ws : va_W) (o : Nat) (j : Int32) {bs_o js_o sh_o wk_o ll_o : Nat} {jc_o lc_o : Int32} {mo_o lb_o : Option Nat} {fa : Nat → Option Nat} {xj kj bj sj tj wj hj : Nat} {oj nj : Int64} {msj : List Value} {fsj : Nat → Int32} {cj : Nat} {fmj : Nat → Int32} (hD : va_D A ws) (hT : cT cy G ws) (hG_o : G o = some (7, 0, 0)) (hM_o : cIn ws o (.inr (8, [.ref bs_o, .ref js_o, .int jc_o, .ref sh_o, .ref wk_o, va_rf mo_o, .ref ll_o, .int lc_o, va_rf lb_o]))) (hM_js_o : cIn ws js_o (.inl (cy 4, cqa 8 fa))) (hJ1 : ∀ i : Nat, (i : Int) < jc_o.toInt → ∃ x, fa i = some x) (hJ : okJob jc_o j → jobS cy G ws fa j.toNatClampNeg xj kj bj sj tj wj hj oj nj msj fsj) (hr9 : okJob jc_o j → ∀ y l, y < 4 → l < lnC wj hj y → 0 ≤ (fsj (y * 11 + l)).toInt ∧ (fsj (y * 11 + l)).toInt ≤ 6) (he9 : okJob jc_o j → ∀ s, s < wj * hj → ¬ (lb oj s = true ∧ lb nj s = true)) (hJ4 : okJob jc_o j → kj = 4 → msj = [.ref cj] ∧ cIn ws cj (.inl (cy 0, wj * hj, .inl fmj))) : Xa l D cy A yX9_markedJobOf wsX9_markedJobOf ({ frames := 6, cells := 1, slots := 6, locals := 90 }) 1 6 ws [.ref o, .int j] (fun r0 u => u = (G, ws) ∧ ((okJob jc_o j ∧ kj = 4) ∧ r0 = some xj)) (fun u => u = (G, ws)) (fun E => (E = xIA ∧ ¬ (okJob jc_o j ∧ kj = 4)) ∨ (E = xIS ∧ (okJob jc_o j ∧ kj = 4) ∧ ∃ q k a u, wEn (2 ^ wj) hj (cGo wj oj nj fsj) (cFi 4 wj hj tj oj nj fsj) (fun _ _ => False) (beN fmj wj hj) ((0 : Int), (fun _ : Nat => (0 : Nat)), (0 : Nat)) (0, 0, 0) q k a u ∧ (q = 1 ∨ k = 0))) := by
  refine vx_ofW (cc := cX9_markedJobOf) (maxL := 4) (ret := (some (.object "ShadowBench$MarkedJob"))) (by decide) rfl ?_
  intro p e s m args below meth c s₁ B hml hno hv
  obtain ⟨rfl, ⟨hP, hK, hA, hV⟩, hZ, hXT⟩ := hv
  have hx := B.exec
  have hb := B.bytes
  have hr := B.returns
  have hts := atoms_spec (ws := wsX9_markedJobOf) B.pre
  have hown : s.vm.findClass RX9 = some m.cls := findClass_of_methodNamed B.named
  have hlocks := B.notSynchronized
  have hS : va_S A s.heap s.heap [] := va_S.rf
  have hl := lv_entry ([.ref o, .int j]) (n := 4) (Nat.le_of_ble_eq_true rfl)
  rw [lg_entry_eq]
  generalize (lg_sl ([.ref o, .int j]) ++ List.replicate (4 - (lg_sl ([.ref o, .int j])).length) Slot.unset).toArray = ls at hl ⊢
  have hl : lv_has ls 4 [(0, .ref o), (1, .int j)] := hl
  have k_0 : (0 : Int32).toInt = 0 := by decide
  obtain ⟨hjc_o, hlc_o, hG_bs_o, hG_js_o, hG_sh_o, hG_wk_o, hmo_o, hG_ll_o, hlb_o⟩ := w7sh hD hT hG_o hM_o
  have hf_js_o := w9sh hD hT hG_js_o hM_js_o
  refine lv_aload_n hx hb dX9_markedJobOf_0 rfl (lv_at hl 0 rfl) ?_
  refine lv_iload_n hx hb dX9_markedJobOf_1 rfl (lv_at hl 1 rfl) ?_
  refine t_calla (va_runV (g := F0 m 2 ls ([.int j, .ref o])) (As := [.int j]) (rest := []) ⟨hx, hb, hml, hown, hts⟩ (c_X9_jobOf_j l D cy A G ws o j hD hT hG_o hM_o hM_js_o hJ1) (cwV 1 hts gX9_markedJobOf_X9_jobOf rfl rfl rfl (by decide +kernel) ⟨Nat.le_of_ble_eq_true rfl, Nat.le_of_ble_eq_true rfl⟩) (c_preV hM_o rfl hP hK hA hS hV) rfl rfl hl.1 rfl (lv_room (Nat.le_of_ble_eq_true rfl)) dX9_markedJobOf_2 ⟨Nat.le_of_ble_eq_true rfl, Nat.le_of_ble_eq_true rfl⟩) hS (fun r2 u H locs q2 hP9 hD9 hT9 hS => ?_)
  obtain ⟨rfl, q2⟩ := q2
  have hP : va_P D vwCl ws H := hP9
  rcases r2 with _ | x2
  · skip
    have vn2 := q2.2 rfl
    refine lv_astore_nN (lv' := [(3, .null), (0, .ref o), (1, .int j)]) hx hb dX9_markedJobOf_5 rfl hl (by decide) rfl (fun ls hl => ?_)
    refine lv_aload_nN hx hb dX9_markedJobOf_6 rfl (lv_at hl 0 rfl) ?_
    refine lv_instN hx hb dX9_markedJobOf_7 ?_
    refine lv_if_eq (tgt := 20) hx hb dX9_markedJobOf_10 (by decide) (fun c10 => ?_) (fun c10 => ?_)
    · skip
      have d10 := c10
      rw [fa_eq] at d10
      obtain ⟨sa20, hsa20⟩ := hXT.2.2.1 (RX9, 302, "no such job, or it is not marked") (by decide)
      exact vx_throwSW (own := RX9) (cls := xIA) (names := [xRT, xEX]) (A := A) (ik := 223) (ic := 227) hx hb hst hown (by decide) (by decide) (hts (.classLink RX9 223 xIA) (by decide +kernel)) (hts (.initialized xIA) (by decide +kernel)) hsa20 (x_hat hts hXT (Or.inl rfl) (by decide +kernel) (by decide +kernel)) (by decide +kernel) hXT.2.2.2.1 hXT.2.2.2.2 hS (by rw [hml]; exact hl.1) dX9_markedJobOf_20 dX9_markedJobOf_23 dX9_markedJobOf_24 dX9_markedJobOf_27 dX9_markedJobOf_30 (fun x9 h9 => (hno x9 h9).elim) (Nat.le_of_ble_eq_true rfl) (Nat.le_of_ble_eq_true rfl) (Nat.le_of_ble_eq_true rfl) (Nat.le_of_ble_eq_true rfl) hlocks (x_thr (G' := G) (ws' := ws) rfl (Or.inl ⟨rfl, (fun z9 => by first | exact vn2 z9.1 | exact absurd z9.2 (by decide))⟩) hP hD hT hS) hS.2.2 (Nat.le_of_ble_eq_true rfl) (Nat.le_of_ble_eq_true rfl)
    · first | exact absurd c10 (by decide) | exact absurd (by decide) c10
  · skip
    obtain ⟨vj2, fj2⟩ := q2.1 x2 rfl
    obtain ⟨hfa9, hG_xj, hb9, ht9, hM_xj, hM_sj⟩ := hJ vj2
    obtain rfl : xj = x2 := Option.some.inj (hfa9.symm.trans fj2)
    obtain ⟨hG_bj, hG_sj, hJ_xj⟩ := w3sh hD hT hG_xj hb9 hM_xj
    refine lv_astore_n (lv' := [(3, .ref xj), (0, .ref o), (1, .int j)]) hx hb dX9_markedJobOf_5 rfl hl (by decide) rfl (fun ls hl => ?_)
    refine lv_aload_n hx hb dX9_markedJobOf_6 rfl (lv_at hl 0 rfl) ?_
    have hJ9 := hJ_xj
    obtain ⟨hn9, hJ9⟩ := hJ9
    rcases hJ9 with ⟨rfl, rfl⟩ | ⟨rfl, rfl⟩ | ⟨rfl, rfl⟩ | ⟨rfl, c9, rfl, hG_c9⟩
    · skip
      have hM_xj : cIn ws xj (.inr (1, [.ref bj, .ref sj, .int (nI tj), .long oj, .long nj])) := hM_xj
      refine va_instNo hx hb hown (hts (.classLink RX9 112 RX5) (by decide +kernel)) hV.2.2.2.1.1 (t_recJ hK hP hM_xj rfl) dX9_markedJobOf_7 ?_
      refine lv_if_eq (tgt := 20) hx hb dX9_markedJobOf_10 (by decide) (fun c10 => ?_) (fun c10 => ?_)
      · skip
        have d10 := c10
        rw [fa_eq] at d10
        obtain ⟨sa20, hsa20⟩ := hXT.2.2.1 (RX9, 302, "no such job, or it is not marked") (by decide)
        exact vx_throwSW (own := RX9) (cls := xIA) (names := [xRT, xEX]) (A := A) (ik := 223) (ic := 227) hx hb hst hown (by decide) (by decide) (hts (.classLink RX9 223 xIA) (by decide +kernel)) (hts (.initialized xIA) (by decide +kernel)) hsa20 (x_hat hts hXT (Or.inl rfl) (by decide +kernel) (by decide +kernel)) (by decide +kernel) hXT.2.2.2.1 hXT.2.2.2.2 hS (by rw [hml]; exact hl.1) dX9_markedJobOf_20 dX9_markedJobOf_23 dX9_markedJobOf_24 dX9_markedJobOf_27 dX9_markedJobOf_30 (fun x9 h9 => (hno x9 h9).elim) (Nat.le_of_ble_eq_true rfl) (Nat.le_of_ble_eq_true rfl) (Nat.le_of_ble_eq_true rfl) (Nat.le_of_ble_eq_true rfl) hlocks (x_thr (G' := G) (ws' := ws) rfl (Or.inl ⟨rfl, (fun z9 => by first | exact vn2 z9.1 | exact absurd z9.2 (by decide))⟩) hP hD hT hS) hS.2.2 (Nat.le_of_ble_eq_true rfl) (Nat.le_of_ble_eq_true rfl)
      · first | exact absurd c10 (by decide) | exact absurd (by decide) c10
    · skip
      have hM_xj : cIn ws xj (.inr (2, [.ref bj, .ref sj, .int (nI tj), .long oj, .long nj])) := hM_xj
      refine va_instNo hx hb hown (hts (.classLink RX9 112 RX5) (by decide +kernel)) hV.2.2.2.1.2.1 (t_recJ hK hP hM_xj rfl) dX9_markedJobOf_7 ?_
      refine lv_if_eq (tgt := 20) hx hb dX9_markedJobOf_10 (by decide) (fun c10 => ?_) (fun c10 => ?_)
      · skip
        have d10 := c10
        rw [fa_eq] at d10
        obtain ⟨sa20, hsa20⟩ := hXT.2.2.1 (RX9, 302, "no such job, or it is not marked") (by decide)
        exact vx_throwSW (own := RX9) (cls := xIA) (names := [xRT, xEX]) (A := A) (ik := 223) (ic := 227) hx hb hst hown (by decide) (by decide) (hts (.classLink RX9 223 xIA) (by decide +kernel)) (hts (.initialized xIA) (by decide +kernel)) hsa20 (x_hat hts hXT (Or.inl rfl) (by decide +kernel) (by decide +kernel)) (by decide +kernel) hXT.2.2.2.1 hXT.2.2.2.2 hS (by rw [hml]; exact hl.1) dX9_markedJobOf_20 dX9_markedJobOf_23 dX9_markedJobOf_24 dX9_markedJobOf_27 dX9_markedJobOf_30 (fun x9 h9 => (hno x9 h9).elim) (Nat.le_of_ble_eq_true rfl) (Nat.le_of_ble_eq_true rfl) (Nat.le_of_ble_eq_true rfl) (Nat.le_of_ble_eq_true rfl) hlocks (x_thr (G' := G) (ws' := ws) rfl (Or.inl ⟨rfl, (fun z9 => by first | exact vn2 z9.1 | exact absurd z9.2 (by decide))⟩) hP hD hT hS) hS.2.2 (Nat.le_of_ble_eq_true rfl) (Nat.le_of_ble_eq_true rfl)
      · first | exact absurd c10 (by decide) | exact absurd (by decide) c10
    · skip
      have hM_xj : cIn ws xj (.inr (3, [.ref bj, .ref sj, .int (nI tj), .long oj, .long nj])) := hM_xj
      refine va_instNo hx hb hown (hts (.classLink RX9 112 RX5) (by decide +kernel)) hV.2.2.2.1.2.2 (t_recJ hK hP hM_xj rfl) dX9_markedJobOf_7 ?_
      refine lv_if_eq (tgt := 20) hx hb dX9_markedJobOf_10 (by decide) (fun c10 => ?_) (fun c10 => ?_)
      · skip
        have d10 := c10
        rw [fa_eq] at d10
        obtain ⟨sa20, hsa20⟩ := hXT.2.2.1 (RX9, 302, "no such job, or it is not marked") (by decide)
        exact vx_throwSW (own := RX9) (cls := xIA) (names := [xRT, xEX]) (A := A) (ik := 223) (ic := 227) hx hb hst hown (by decide) (by decide) (hts (.classLink RX9 223 xIA) (by decide +kernel)) (hts (.initialized xIA) (by decide +kernel)) hsa20 (x_hat hts hXT (Or.inl rfl) (by decide +kernel) (by decide +kernel)) (by decide +kernel) hXT.2.2.2.1 hXT.2.2.2.2 hS (by rw [hml]; exact hl.1) dX9_markedJobOf_20 dX9_markedJobOf_23 dX9_markedJobOf_24 dX9_markedJobOf_27 dX9_markedJobOf_30 (fun x9 h9 => (hno x9 h9).elim) (Nat.le_of_ble_eq_true rfl) (Nat.le_of_ble_eq_true rfl) (Nat.le_of_ble_eq_true rfl) (Nat.le_of_ble_eq_true rfl) hlocks (x_thr (G' := G) (ws' := ws) rfl (Or.inl ⟨rfl, (fun z9 => by first | exact vn2 z9.1 | exact absurd z9.2 (by decide))⟩) hP hD hT hS) hS.2.2 (Nat.le_of_ble_eq_true rfl) (Nat.le_of_ble_eq_true rfl)
      · first | exact absurd c10 (by decide) | exact absurd (by decide) c10
    · skip
      have hM_xj : cIn ws xj (.inr (4, [.ref bj, .ref sj, .int (nI tj), .long oj, .long nj, .ref c9])) := hM_xj
      have hn36 := cb_mul (c_hb hT hG_bj)
      refine va_instS hx hb hown (hts (.classLink RX9 112 RX5) (by decide +kernel)) (hK.1 4 _ rfl).2 (t_recJ hK hP hM_xj rfl) dX9_markedJobOf_7 ?_
      refine lv_if_eq (tgt := 20) hx hb dX9_markedJobOf_10 (by decide) (fun c10 => ?_) (fun c10 => ?_)
      · first | exact absurd c10 (by decide) | exact absurd (by decide) c10
      · skip
        have d10 := c10
        rw [fa_eq] at d10
        refine lv_aload_n hx hb dX9_markedJobOf_13 rfl (lv_at hl 0 rfl) ?_
        refine va_castS hx hb hown (hts (.classLink RX9 112 RX5) (by decide +kernel)) (hK.1 4 _ rfl).2 (t_recJ hK hP hM_xj rfl) dX9_markedJobOf_14 ?_
        refine lv_astore_n (lv' := [(2, .ref xj), (3, .ref xj), (0, .ref o), (1, .int j)]) hx hb dX9_markedJobOf_17 rfl hl (by decide) rfl (fun ls hl => ?_)
        refine lv_aload_n hx hb dX9_markedJobOf_18 rfl (lv_at hl 0 rfl) ?_
        refine vx_ret ?_
        refine W.widen (k := 1) (n := 6) (Nat.le_of_ble_eq_true rfl) (Nat.le_of_ble_eq_true rfl) ?_
        exact W.aret (v := .ref xj) hx hb hr (Or.inl ⟨_, rfl⟩) (Or.inr ⟨_, rfl⟩) (fun t ht hW => ⟨⟨(some xj), (G, ws), rfl, ⟨rfl, ⟨⟨vj2, rfl⟩, rfl⟩⟩, by show va_P D vwCl ws t.heap; rw [ht]; exact hP, hD, hT⟩, hS.F ht⟩) hS.2.2 dX9_markedJobOf_19
set_option maxHeartbeats 4000000 in
set_option maxRecDepth 100000 in
theorem c_X9_worthiest_j (l : Launch) (hst : l.stackTraces = false) (D : va_G) (cy : Nat → ClassId) (A : Nat → Prop) (G : cG) (ws : va_W) (o : Nat) (x1 : Nat) {bs_o js_o sh_o wk_o ll_o : Nat} {jc_o lc_o : Int32} {mo_o lb_o : Option Nat} {b1 s1 cj tj wj hj : Nat} {oj nj : Int64} {fsj fmj : Nat → Int32} (hD : va_D A ws) (hT : cT cy G ws) (hG_o : G o = some (7, 0, 0)) (hM_o : cIn ws o (.inr (8, [.ref bs_o, .ref js_o, .int jc_o, .ref sh_o, .ref wk_o, va_rf mo_o, .ref ll_o, .int lc_o, va_rf lb_o]))) (hG_x1 : G x1 = some (3, 4, 8 * wj + hj)) (hM_x1 : cIn ws x1 (.inr (4, [.ref b1, .ref s1, .int (nI tj), .long oj, .long nj, .ref cj]))) (hM_s1 : cIn ws s1 (.inl (cy 0, 44, .inl fsj))) (hM_cj : cIn ws cj (.inl (cy 0, (wj * hj), .inl fmj))) (hb9 : 1 ≤ wj ∧ wj ≤ 6 ∧ 1 ≤ hj ∧ hj ≤ 6) (ht9 : tj < 16) (hr9 : ∀ y l, y < 4 → l < lnC wj hj y → 0 ≤ (fsj (y * 11 + l)).toInt ∧ (fsj (y * 11 + l)).toInt ≤ 6) (he9 : ∀ s, s < wj * hj → ¬ (lb oj s = true ∧ lb nj s = true)) : Xl l D cy A yX9_worthiest wsX9_worthiest ({ frames := 6, cells := 1, slots := 6, locals := 144 }) 1 6 ws [.ref o, .ref x1] (fun r0 u => cX none (chs [1, 5, 20, 21, 22, 23]) G ws u.1 u.2 ∧ (∃ q k a u, wEn (2 ^ wj) hj (cGo wj oj nj fsj) (cFi 4 wj hj tj oj nj fsj) (fun _ _ => False) (beN fmj wj hj) ((0 : Int), (fun _ : Nat => (0 : Nat)), (0 : Nat)) (0, 0, 0) q k a u ∧ ¬ (q = 1 ∨ k = 0) ∧ r0 = a.2.2)) (fun u => cX none (chs [1, 5, 20, 21, 22, 23]) G ws u.1 u.2) (fun E => E = xIS ∧ ∃ q k a u, wEn (2 ^ wj) hj (cGo wj oj nj fsj) (cFi 4 wj hj tj oj nj fsj) (fun _ _ => False) (beN fmj wj hj) ((0 : Int), (fun _ : Nat => (0 : Nat)), (0 : Nat)) (0, 0, 0) q k a u ∧ (q = 1 ∨ k = 0)) := by
  refine vx_ofW (cc := cX9_worthiest) (maxL := 7) (ret := (some .long)) (by decide) rfl ?_
  intro p e s m args below meth c s₁ B hml hno hv
  obtain ⟨rfl, ⟨hP, hK, hA, hV⟩, hZ, hXT⟩ := hv
  have hx := B.exec
  have hb := B.bytes
  have hr := B.returns
  have hts := atoms_spec (ws := wsX9_worthiest) B.pre
  have hown : s.vm.findClass RX9 = some m.cls := findClass_of_methodNamed B.named
  have hlocks := B.notSynchronized
  have hS : va_S A s.heap s.heap [] := va_S.rf
  have hX : cX none (chs [1, 5, 20, 21, 22, 23]) G ws G ws := cX.rf
  have hl := lv_entry ([.ref o, .ref x1]) (n := 7) (Nat.le_of_ble_eq_true rfl)
  rw [lg_entry_eq]
  generalize (lg_sl ([.ref o, .ref x1]) ++ List.replicate (7 - (lg_sl ([.ref o, .ref x1])).length) Slot.unset).toArray = ls at hl ⊢
  have hl : lv_has ls 7 [(0, .ref o), (1, .ref x1)] := hl
  have k_0 : (0 : Int32).toInt = 0 := by decide
  have k_1000000 : (1000000 : Int32).toInt = 1000000 := by decide
  have k_0L : (0 : Int64).toInt = 0 := by decide
  obtain ⟨hjc_o, hlc_o, hG_bs_o, hG_js_o, hG_sh_o, hG_wk_o, hmo_o, hG_ll_o, hlb_o⟩ := w7sh hD hT hG_o hM_o
  obtain ⟨hG_b1, hG_s1, hJ_x1⟩ := w3sh hD hT hG_x1 hb9 hM_x1
  have hG_cj := cJ4c hJ_x1
  refine lv_aload_n hx hb dX9_worthiest_0 rfl (lv_at hl 0 rfl) ?_
  refine t_get (v := .ref wk_o) (C := RX9) (T := TX9) (N := 9) hx hb hts (by decide +kernel) hown hK hP hM_o rfl 4 (by decide) (hts (.fieldLink RX9 34 "ShadowBench" "walk" "LShadowBench$Walk;") (by decide +kernel)) (fun _ h9 => h9) rfl dX9_worthiest_1 ?_
  obtain ⟨_, hM_wk_o, j_wk_o, y_wk_o, tr_wk_o, sp_wk_o, fd_wk_o, a1_wk_o, a2_wk_o, a3_wk_o, a4_wk_o, a5_wk_o, rfl, hsp_wk_o, hj_wk_o, hG_a1_wk_o, hG_a2_wk_o, hG_a3_wk_o, hG_a4_wk_o, hG_a5_wk_o⟩ := hT _ _ hG_wk_o
  obtain ⟨fw1, hM_a1_wk_o⟩ := cIa hT (Or.inr (Or.inr (Or.inl rfl))) hG_a1_wk_o
  obtain ⟨fw2, hM_a2_wk_o⟩ := cIa hT (Or.inr (Or.inr (Or.inr (Or.inl rfl)))) hG_a2_wk_o
  obtain ⟨fw3, hM_a3_wk_o⟩ := cIa hT (Or.inr (Or.inr (Or.inr (Or.inr (Or.inl rfl))))) hG_a3_wk_o
  obtain ⟨fw4, hM_a4_wk_o⟩ := cIa hT (Or.inr (Or.inr (Or.inr (Or.inr (Or.inr rfl))))) hG_a4_wk_o
  obtain ⟨fw5, hM_a5_wk_o⟩ := cLa hT (Or.inl rfl) hG_a5_wk_o
  have gd0 := rg_cs hb9 hr9
  refine lv_aload_n hx hb dX9_worthiest_4 rfl (lv_at hl 1 rfl) ?_
  refine t_callv (va_runV (g := F0 m 5 ls ([.ref x1, .ref wk_o])) (As := [.ref x1]) (rest := []) ⟨hx, hb, hml, hown, hts⟩ (c_X8_start_x (j_o := j_wk_o) l D cy A G ws wk_o x1 hD hT hG_wk_o hM_wk_o hG_x1 hM_x1 hM_s1 hM_a1_wk_o hM_a2_wk_o hM_a3_wk_o hM_a4_wk_o hM_a5_wk_o hb9 ht9) (cwV 1 hts gX9_worthiest_X8_start rfl rfl rfl (by decide +kernel) ⟨Nat.le_of_ble_eq_true rfl, Nat.le_of_ble_eq_true rfl⟩) (c_preV hM_wk_o rfl hP hK hA hS hV) rfl rfl hl.1 rfl (lv_room (Nat.le_of_ble_eq_true rfl)) dX9_worthiest_5 ⟨Nat.le_of_ble_eq_true rfl, Nat.le_of_ble_eq_true rfl⟩) hS (fun u H locs q5 hP9 hD9 hT9 hS => ?_)
  obtain ⟨w5, rfl, hF5, q5⟩ := q5
  have hP : va_P D vwCl w5 H := hP9
  have hD : va_D A w5 := hD9
  have hT : cT cy G w5 := hT9
  have hM_o := hF5 _ _ (fun z9 => z9.elim (cne hG_o hG_wk_o (show (7 : Nat) ≠ 5 by decide)) (fun z9 => z9.elim (cne hG_o hG_a1_wk_o (show (7 : Nat) ≠ 20 by decide)) (fun z9 => z9.elim (cne hG_o hG_a2_wk_o (show (7 : Nat) ≠ 21 by decide)) (fun z9 => z9.elim (cne hG_o hG_a3_wk_o (show (7 : Nat) ≠ 22 by decide)) (fun z9 => z9.elim (cne hG_o hG_a4_wk_o (show (7 : Nat) ≠ 23 by decide)) (cne hG_o hG_a5_wk_o (show (7 : Nat) ≠ 1 by decide))))))) hM_o
  have hM_x1 := hF5 _ _ (fun z9 => z9.elim (cne hG_x1 hG_wk_o (show (3 : Nat) ≠ 5 by decide)) (fun z9 => z9.elim (cne hG_x1 hG_a1_wk_o (show (3 : Nat) ≠ 20 by decide)) (fun z9 => z9.elim (cne hG_x1 hG_a2_wk_o (show (3 : Nat) ≠ 21 by decide)) (fun z9 => z9.elim (cne hG_x1 hG_a3_wk_o (show (3 : Nat) ≠ 22 by decide)) (fun z9 => z9.elim (cne hG_x1 hG_a4_wk_o (show (3 : Nat) ≠ 23 by decide)) (cne hG_x1 hG_a5_wk_o (show (3 : Nat) ≠ 1 by decide))))))) hM_x1
  have hM_s1 := hF5 _ _ (fun z9 => z9.elim (cne hG_s1 hG_wk_o (show (14 : Nat) ≠ 5 by decide)) (fun z9 => z9.elim (cne hG_s1 hG_a1_wk_o (show (14 : Nat) ≠ 20 by decide)) (fun z9 => z9.elim (cne hG_s1 hG_a2_wk_o (show (14 : Nat) ≠ 21 by decide)) (fun z9 => z9.elim (cne hG_s1 hG_a3_wk_o (show (14 : Nat) ≠ 22 by decide)) (fun z9 => z9.elim (cne hG_s1 hG_a4_wk_o (show (14 : Nat) ≠ 23 by decide)) (cne hG_s1 hG_a5_wk_o (show (14 : Nat) ≠ 1 by decide))))))) hM_s1
  have hM_cj := hF5 _ _ (fun z9 => z9.elim (cne hG_cj hG_wk_o (show (14 : Nat) ≠ 5 by decide)) (fun z9 => z9.elim (cne hG_cj hG_a1_wk_o (show (14 : Nat) ≠ 20 by decide)) (fun z9 => z9.elim (cne hG_cj hG_a2_wk_o (show (14 : Nat) ≠ 21 by decide)) (fun z9 => z9.elim (cne hG_cj hG_a3_wk_o (show (14 : Nat) ≠ 22 by decide)) (fun z9 => z9.elim (cne hG_cj hG_a4_wk_o (show (14 : Nat) ≠ 23 by decide)) (cne hG_cj hG_a5_wk_o (show (14 : Nat) ≠ 1 by decide))))))) hM_cj
  have hX := hX.tr ⟨cE.rf, hF5.wk (fun b9 z9 => by rcases z9 with rfl | rfl | rfl | rfl | rfl | rfl; exact (Or.inr ⟨_, hG_wk_o, rfl⟩); exact (Or.inr ⟨_, hG_a1_wk_o, rfl⟩); exact (Or.inr ⟨_, hG_a2_wk_o, rfl⟩); exact (Or.inr ⟨_, hG_a3_wk_o, rfl⟩); exact (Or.inr ⟨_, hG_a4_wk_o, rfl⟩); exact (Or.inr ⟨_, hG_a5_wk_o, rfl⟩)), fun _ _ h9 => Or.inl h9⟩
  obtain ⟨g1_5, g2_5, g3_5, g4_5, g5_5, hc5, hW5⟩ := q5
  have hM_wk_o : cIn w5 wk_o (.inr (7, [.ref x1, .int (nI 0), .int (nI 0), .int 0, .long 0, .ref a1_wk_o, .ref a2_wk_o, .ref a3_wk_o, .ref a4_wk_o, .ref a5_wk_o])) := hW5.1
  have hM_a1_wk_o : cIn w5 a1_wk_o (.inl (cy 0, 6, .inl g1_5)) := hW5.2.1
  have hM_a2_wk_o : cIn w5 a2_wk_o (.inl (cy 0, 6, .inl g2_5)) := hW5.2.2.1
  have hM_a3_wk_o : cIn w5 a3_wk_o (.inl (cy 0, 6, .inl g3_5)) := hW5.2.2.2.1
  have hM_a4_wk_o : cIn w5 a4_wk_o (.inl (cy 0, 6, .inl g4_5)) := hW5.2.2.2.2.1
  have hM_a5_wk_o : cIn w5 a5_wk_o (.inl (cy 1, 6, .inr (.inl g5_5))) := hW5.2.2.2.2.2
  refine lv_iconst (v := 0) hx hb dX9_worthiest_8 (by decide) ?_
  refine lv_istore_n (lv' := [(2, .int (0 : Int32)), (0, .ref o), (1, .ref x1)]) hx hb dX9_worthiest_9 rfl hl (by decide) rfl (fun ls hl => ?_)
  refine lv_iconst (v := 0) hx hb dX9_worthiest_10 (by decide) ?_
  refine lv_istore_n (lv' := [(3, .int (0 : Int32)), (2, .int (0 : Int32)), (0, .ref o), (1, .ref x1)]) hx hb dX9_worthiest_11 rfl hl (by decide) rfl (fun ls hl => ?_)
  refine lv_lconst (v := 0) hx hb dX9_worthiest_12 (by decide) ?_
  refine lv_lstore (lv' := [(4, .long (0 : Int64)), (3, .int (0 : Int32)), (2, .int (0 : Int32)), (0, .ref o), (1, .ref x1)]) hx hb dX9_worthiest_13 hl (by decide) rfl (fun ls hl => ?_)
  have loop_15 : ∀ (n : Nat) (x4 : Int64) (x3 : Int32) (k : Nat) (yl : Int32) (tl : Nat) (fdl : Int64) (gl1 : Nat → Int32) (gl2 : Nat → Int32) (gl3 : Nat → Int32) (gl4 : Nat → Int32) (gl5 : Nat → Int64), (k ≤ 200000) → (tl ≤ 200000) → (∃ s, wFo (2 ^ wj) hj (cGo wj oj nj fsj) (cFi 4 wj hj tj oj nj fsj) (fun _ _ => False) (beN fmj wj hj) ((0 : Int), (fun _ : Nat => (0 : Nat)), (0 : Nat)) (0, 0, 0) k s (k, x3, x4) ∧ cRel wj oj nj fsj s yl (nI tl) gl1 gl2 gl3 gl4 gl5 ∧ s.2.2 = tl) → 200001 - k < n → ∀ (Gl15 : cG) (wl15 : va_W), cE G Gl15 → cX none (chs [1, 5, 20, 21, 22, 23]) G ws Gl15 wl15 → va_D A wl15 → cT cy Gl15 wl15 → ∀ (H : Heap) (locs : List Loc), va_P D vwCl wl15 H → va_S A s.heap H locs → cIn wl15 o (.inr (8, [.ref bs_o, .ref js_o, .int jc_o, .ref sh_o, .ref wk_o, va_rf mo_o, .ref ll_o, .int lc_o, va_rf lb_o])) → cIn wl15 x1 (.inr (4, [.ref b1, .ref s1, .int (nI tj), .long oj, .long nj, .ref cj])) → cIn wl15 wk_o (.inr (7, [.ref x1, .int yl, .int (nI tl), .int 0, .long fdl, .ref a1_wk_o, .ref a2_wk_o, .ref a3_wk_o, .ref a4_wk_o, .ref a5_wk_o])) → cIn wl15 s1 (.inl (cy 0, 44, .inl fsj)) → cIn wl15 cj (.inl (cy 0, (wj * hj), .inl fmj)) → cIn wl15 a1_wk_o (.inl (cy 0, 6, .inl gl1)) → cIn wl15 a2_wk_o (.inl (cy 0, 6, .inl gl2)) → cIn wl15 a3_wk_o (.inl (cy 0, 6, .inl gl3)) → cIn wl15 a4_wk_o (.inl (cy 0, 6, .inl gl4)) → cIn wl15 a5_wk_o (.inl (cy 1, 6, .inr (.inl gl5))) → ∀ (ls : Array Slot), lv_has ls 7 [(4, .long x4), (3, .int x3), (2, .int (nI k)), (0, .ref o), (1, .ref x1)] → W p l e (headSpec wsX9_worthiest ({ frames := 6, cells := 1, slots := 6, locals := 144 })).room s m #[Value.ref o, Value.ref x1] below meth c H locs 0 0 (vx_MQ below (va_Ql (fun r0 u => cX none (chs [1, 5, 20, 21, 22, 23]) G ws u.1 u.2 ∧ (∃ q k a u, wEn (2 ^ wj) hj (cGo wj oj nj fsj) (cFi 4 wj hj tj oj nj fsj) (fun _ _ => False) (beN fmj wj hj) ((0 : Int), (fun _ : Nat => (0 : Nat)), (0 : Nat)) (0, 0, 0) q k a u ∧ ¬ (q = 1 ∨ k = 0) ∧ r0 = a.2.2)) (cB D cy A) A) (xX D cy A (fun u => cX none (chs [1, 5, 20, 21, 22, 23]) G ws u.1 u.2) (fun E => E = xIS ∧ ∃ q k a u, wEn (2 ^ wj) hj (cGo wj oj nj fsj) (cFi 4 wj hj tj oj nj fsj) (fun _ _ => False) (beN fmj wj hj) ((0 : Int), (fun _ : Nat => (0 : Nat)), (0 : Nat)) (0, 0, 0) q k a u ∧ (q = 1 ∨ k = 0))) #[Value.ref o, Value.ref x1] s 1 6 A) (F0 m 15 ls []) := by
    intro n
    induction n with
    | zero => intro x4 x3 k yl tl fdl gl1 gl2 gl3 gl4 gl5 j15_0 j15_1 j15_2 hn; exact absurd hn (Nat.not_lt_zero _)
    | succ n ih_15 =>
      intro x4 x3 k yl tl fdl gl1 gl2 gl3 gl4 gl5 j15_0 j15_1 j15_2 hn_15 Gl15 wl15 hEl15 hX hD hT H locs hP hS hM_o hM_x1 hM_wk_o hM_s1 hM_cj hM_a1_wk_o hM_a2_wk_o hM_a3_wk_o hM_a4_wk_o hM_a5_wk_o ls hl
      have hG_o := hEl15 _ _ hG_o
      have hG_x1 := hEl15 _ _ hG_x1
      have hG_bs_o := hEl15 _ _ hG_bs_o
      have hG_js_o := hEl15 _ _ hG_js_o
      have hG_sh_o := hEl15 _ _ hG_sh_o
      have hG_wk_o := hEl15 _ _ hG_wk_o
      have hG_ll_o := hEl15 _ _ hG_ll_o
      have hG_b1 := hEl15 _ _ hG_b1
      have hG_s1 := hEl15 _ _ hG_s1
      have hG_cj := hEl15 _ _ hG_cj
      have hG_a1_wk_o := hEl15 _ _ hG_a1_wk_o
      have hG_a2_wk_o := hEl15 _ _ hG_a2_wk_o
      have hG_a3_wk_o := hEl15 _ _ hG_a3_wk_o
      have hG_a4_wk_o := hEl15 _ _ hG_a4_wk_o
      have hG_a5_wk_o := hEl15 _ _ hG_a5_wk_o
      have ik : (nI k).toInt = (k : Int) := nI_toInt (by omega)
      obtain ⟨s9, fo9, rl9, st9⟩ := j15_2
      have gd9 := wFo_gd gd0 k fo9
      have kl9 : 0 + k ≤ s9.2.2 := gd9.2
      refine lv_iload_n hx hb dX9_worthiest_15 rfl (lv_at hl 2 rfl) ?_
      refine lv_ldc hx hb hown (hts (.constant RX9 135 (1000000)) (by decide +kernel)) dX9_worthiest_16 ?_
      refine lv_icmp_ge (tgt := 72) hx hb dX9_worthiest_18 (by decide) (fun c18 => ?_) (fun c18 => ?_)
      · skip
        have d18 := c18
        rw [fa_le] at d18
        exfalso; omega
      · skip
        have d18 := c18
        rw [fa_le] at d18
        refine lv_aload_n hx hb dX9_worthiest_21 rfl (lv_at hl 3 rfl) ?_
        refine t_get (v := .ref wk_o) (C := RX9) (T := TX9) (N := 9) hx hb hts (by decide +kernel) hown hK hP hM_o rfl 4 (by decide) (hts (.fieldLink RX9 34 "ShadowBench" "walk" "LShadowBench$Walk;") (by decide +kernel)) (fun _ h9 => h9) rfl dX9_worthiest_22 ?_
        refine t_calli (va_runV (g := F0 m 25 ls ([.ref wk_o])) (As := []) (rest := []) ⟨hx, hb, hml, hown, hts⟩ (c_X8_advance_x l D cy A Gl15 wl15 wk_o hD hT hG_wk_o hM_wk_o hG_x1 hM_x1 hM_s1 hM_a1_wk_o hM_a2_wk_o hM_a3_wk_o hM_a4_wk_o hM_a5_wk_o hb9 ht9 gd9.1 he9 rl9 rfl (by omega)) (cwV 0 hts gX9_worthiest_X8_advance rfl rfl rfl (by decide +kernel) ⟨Nat.le_of_ble_eq_true rfl, Nat.le_of_ble_eq_true rfl⟩) (c_preV hM_wk_o rfl hP hK hA hS hV) rfl rfl hl.1 rfl (lv_room (Nat.le_of_ble_eq_true rfl)) dX9_worthiest_25 ⟨Nat.le_of_ble_eq_true rfl, Nat.le_of_ble_eq_true rfl⟩) hS (fun r25 u H locs q25 hP9 hD9 hT9 hS => ?_)
        obtain ⟨w25, rfl, hF25, q25⟩ := q25
        have hP : va_P D vwCl w25 H := hP9
        have hD : va_D A w25 := hD9
        have hT : cT cy Gl15 w25 := hT9
        have hM_o := hF25 _ _ (fun z9 => z9.elim (cne hG_o hG_wk_o (show (7 : Nat) ≠ 5 by decide)) (fun z9 => z9.elim (cne hG_o hG_a1_wk_o (show (7 : Nat) ≠ 20 by decide)) (fun z9 => z9.elim (cne hG_o hG_a2_wk_o (show (7 : Nat) ≠ 21 by decide)) (fun z9 => z9.elim (cne hG_o hG_a3_wk_o (show (7 : Nat) ≠ 22 by decide)) (fun z9 => z9.elim (cne hG_o hG_a4_wk_o (show (7 : Nat) ≠ 23 by decide)) (cne hG_o hG_a5_wk_o (show (7 : Nat) ≠ 1 by decide))))))) hM_o
        have hM_x1 := hF25 _ _ (fun z9 => z9.elim (cne hG_x1 hG_wk_o (show (3 : Nat) ≠ 5 by decide)) (fun z9 => z9.elim (cne hG_x1 hG_a1_wk_o (show (3 : Nat) ≠ 20 by decide)) (fun z9 => z9.elim (cne hG_x1 hG_a2_wk_o (show (3 : Nat) ≠ 21 by decide)) (fun z9 => z9.elim (cne hG_x1 hG_a3_wk_o (show (3 : Nat) ≠ 22 by decide)) (fun z9 => z9.elim (cne hG_x1 hG_a4_wk_o (show (3 : Nat) ≠ 23 by decide)) (cne hG_x1 hG_a5_wk_o (show (3 : Nat) ≠ 1 by decide))))))) hM_x1
        have hM_s1 := hF25 _ _ (fun z9 => z9.elim (cne hG_s1 hG_wk_o (show (14 : Nat) ≠ 5 by decide)) (fun z9 => z9.elim (cne hG_s1 hG_a1_wk_o (show (14 : Nat) ≠ 20 by decide)) (fun z9 => z9.elim (cne hG_s1 hG_a2_wk_o (show (14 : Nat) ≠ 21 by decide)) (fun z9 => z9.elim (cne hG_s1 hG_a3_wk_o (show (14 : Nat) ≠ 22 by decide)) (fun z9 => z9.elim (cne hG_s1 hG_a4_wk_o (show (14 : Nat) ≠ 23 by decide)) (cne hG_s1 hG_a5_wk_o (show (14 : Nat) ≠ 1 by decide))))))) hM_s1
        have hM_cj := hF25 _ _ (fun z9 => z9.elim (cne hG_cj hG_wk_o (show (14 : Nat) ≠ 5 by decide)) (fun z9 => z9.elim (cne hG_cj hG_a1_wk_o (show (14 : Nat) ≠ 20 by decide)) (fun z9 => z9.elim (cne hG_cj hG_a2_wk_o (show (14 : Nat) ≠ 21 by decide)) (fun z9 => z9.elim (cne hG_cj hG_a3_wk_o (show (14 : Nat) ≠ 22 by decide)) (fun z9 => z9.elim (cne hG_cj hG_a4_wk_o (show (14 : Nat) ≠ 23 by decide)) (cne hG_cj hG_a5_wk_o (show (14 : Nat) ≠ 1 by decide))))))) hM_cj
        have hX := hX.tr ⟨cE.rf, hF25.wk (fun b9 z9 => by rcases z9 with rfl | rfl | rfl | rfl | rfl | rfl; exact (Or.inr ⟨_, hG_wk_o, rfl⟩); exact (Or.inr ⟨_, hG_a1_wk_o, rfl⟩); exact (Or.inr ⟨_, hG_a2_wk_o, rfl⟩); exact (Or.inr ⟨_, hG_a3_wk_o, rfl⟩); exact (Or.inr ⟨_, hG_a4_wk_o, rfl⟩); exact (Or.inr ⟨_, hG_a5_wk_o, rfl⟩)), fun _ _ h9 => Or.inl h9⟩
        rcases q25 with ⟨hr25, u9, yA25, gA1_25, gA2_25, gA3_25, gA4_25, gA5_25, ru9, rl8, hW25⟩ | ⟨hr25, q9, u9, yB25, trB25, spB25, fdB25, gB1_25, gB2_25, gB3_25, gB4_25, gB5_25, ru9, hq9, hW25⟩
        · skip
          have hM_wk_o : cIn w25 wk_o (.inr (7, [.ref x1, .int yA25, .int (nI u9.2.2), .int 0, .long (picL wj u9.2.1 hj), .ref a1_wk_o, .ref a2_wk_o, .ref a3_wk_o, .ref a4_wk_o, .ref a5_wk_o])) := hW25.1
          have hM_a1_wk_o : cIn w25 a1_wk_o (.inl (cy 0, 6, .inl gA1_25)) := hW25.2.1
          have hM_a2_wk_o : cIn w25 a2_wk_o (.inl (cy 0, 6, .inl gA2_25)) := hW25.2.2.1
          have hM_a3_wk_o : cIn w25 a3_wk_o (.inl (cy 0, 6, .inl gA3_25)) := hW25.2.2.2.1
          have hM_a4_wk_o : cIn w25 a4_wk_o (.inl (cy 0, 6, .inl gA4_25)) := hW25.2.2.2.2.1
          have hM_a5_wk_o : cIn w25 a5_wk_o (.inl (cy 1, 6, .inr (.inl gA5_25))) := hW25.2.2.2.2.2
          subst hr25
          have gd8 := wRun_2 gd9.1 ru9
          have kk9 : k + 1 ≤ 200000 := by have z1 : u9.2.2 ≤ 200000 := gd8.1.1.2.2; have z2 := gd8.2; omega
          have tt9 : u9.2.2 ≤ 200000 := gd8.1.1.2.2
          refine lv_if_eq (tgt := 72) hx hb dX9_worthiest_28 (by decide) (fun c28 => ?_) (fun c28 => ?_)
          · first | exact absurd c28 (by decide) | exact absurd (by decide) c28
          · skip
            have d28 := c28
            rw [fa_eq] at d28
            refine lv_aload_n hx hb dX9_worthiest_31 rfl (lv_at hl 4 rfl) ?_
            refine lv_aload_n hx hb dX9_worthiest_32 rfl (lv_at hl 3 rfl) ?_
            refine t_get (v := .ref wk_o) (C := RX9) (T := TX9) (N := 9) hx hb hts (by decide +kernel) hown hK hP hM_o rfl 4 (by decide) (hts (.fieldLink RX9 34 "ShadowBench" "walk" "LShadowBench$Walk;") (by decide +kernel)) (fun _ h9 => h9) rfl dX9_worthiest_33 ?_
            refine t_calll (va_runV (g := F0 m 36 ls ([.ref wk_o, .ref x1])) (As := []) (rest := [.ref x1]) ⟨hx, hb, hml, hown, hts⟩ (c_X8_found_x l D cy A Gl15 w25 wk_o hD hT hG_wk_o hM_wk_o ) (cwV 0 hts gX9_worthiest_X8_found rfl rfl rfl (by decide +kernel) ⟨Nat.le_of_ble_eq_true rfl, Nat.le_of_ble_eq_true rfl⟩) (c_preV hM_wk_o rfl hP hK hA hS hV) rfl rfl hl.1 rfl (lv_room (Nat.le_of_ble_eq_true rfl)) dX9_worthiest_36 ⟨Nat.le_of_ble_eq_true rfl, Nat.le_of_ble_eq_true rfl⟩) hS (fun r36 u H locs q36 hP9 hD9 hT9 hS => ?_)
            obtain ⟨rfl, q36⟩ := q36
            have hP : va_P D vwCl w25 H := hP9
            refine t_calli (va_runV (g := F0 m 39 ls ([.long r36, .ref x1])) (As := [.long r36]) (rest := []) ⟨hx, hb, hml, hown, hts⟩ (c_X5_worthOf_x l D cy A Gl15 w25 x1 r36 hD hT hG_x1 hM_x1 hM_cj hb9) (cwV 1 hts gX9_worthiest_X5_worthOf rfl rfl rfl (by decide +kernel) ⟨Nat.le_of_ble_eq_true rfl, Nat.le_of_ble_eq_true rfl⟩) (c_preV hM_x1 rfl hP hK hA hS hV) rfl rfl hl.1 rfl (lv_room (Nat.le_of_ble_eq_true rfl)) dX9_worthiest_39 ⟨Nat.le_of_ble_eq_true rfl, Nat.le_of_ble_eq_true rfl⟩) hS (fun r39 u H locs q39 hP9 hD9 hT9 hS => ?_)
            obtain ⟨rfl, q39⟩ := q39
            have hP : va_P D vwCl w25 H := hP9
            refine lv_istore (lv' := [(6, .int r39), (4, .long x4), (3, .int x3), (2, .int (nI k)), (0, .ref o), (1, .ref x1)]) hx hb dX9_worthiest_42 hl (by decide) rfl (fun ls hl => ?_)
            refine lv_iload_n hx hb dX9_worthiest_44 rfl (lv_at hl 3 rfl) ?_
            refine lv_if_eq (tgt := 54) hx hb dX9_worthiest_45 (by decide) (fun c45 => ?_) (fun c45 => ?_)
            · skip
              have d45 := c45
              rw [fa_eq] at d45
              skip
              refine lv_iload hx hb dX9_worthiest_54 (lv_at hl 0 rfl) ?_
              refine lv_istore_n (lv' := [(3, .int r39), (6, .int r39), (4, .long x4), (2, .int (nI k)), (0, .ref o), (1, .ref x1)]) hx hb dX9_worthiest_56 rfl hl (by decide) rfl (fun ls hl => ?_)
              refine lv_aload_n hx hb dX9_worthiest_57 rfl (lv_at hl 4 rfl) ?_
              refine t_get (v := .ref wk_o) (C := RX9) (T := TX9) (N := 9) hx hb hts (by decide +kernel) hown hK hP hM_o rfl 4 (by decide) (hts (.fieldLink RX9 34 "ShadowBench" "walk" "LShadowBench$Walk;") (by decide +kernel)) (fun _ h9 => h9) rfl dX9_worthiest_58 ?_
              refine t_calll (va_runV (g := F0 m 61 ls ([.ref wk_o])) (As := []) (rest := []) ⟨hx, hb, hml, hown, hts⟩ (c_X8_found_x l D cy A Gl15 w25 wk_o hD hT hG_wk_o hM_wk_o ) (cwV 0 hts gX9_worthiest_X8_found rfl rfl rfl (by decide +kernel) ⟨Nat.le_of_ble_eq_true rfl, Nat.le_of_ble_eq_true rfl⟩) (c_preV hM_wk_o rfl hP hK hA hS hV) rfl rfl hl.1 rfl (lv_room (Nat.le_of_ble_eq_true rfl)) dX9_worthiest_61 ⟨Nat.le_of_ble_eq_true rfl, Nat.le_of_ble_eq_true rfl⟩) hS (fun r61 u H locs q61 hP9 hD9 hT9 hS => ?_)
              obtain ⟨rfl, q61⟩ := q61
              have hP : va_P D vwCl w25 H := hP9
              refine lv_lstore (lv' := [(4, .long r61), (3, .int r39), (6, .int r39), (2, .int (nI k)), (0, .ref o), (1, .ref x1)]) hx hb dX9_worthiest_64 hl (by decide) rfl (fun ls hl => ?_)
              refine lv_iinc (v := (nI (k + 1))) (lv' := [(2, .int (nI (k + 1))), (4, .long r61), (3, .int r39), (6, .int r39), (0, .ref o), (1, .ref x1)]) hx hb dX9_worthiest_66 hl (k := 3) rfl (nI_1 _) (by decide) rfl (fun ls hl => ?_)
              refine lv_goto (tgt := 15) hx hb dX9_worthiest_69 (by decide) ?_
              exact ih_15 r61 r39 (k + 1) yA25 u9.2.2 (picL wj u9.2.1 hj) gA1_25 gA2_25 gA3_25 gA4_25 gA5_25 (kk9) (tt9) (⟨u9, ⟨s9, (k, x3, x4), fo9, ru9, id, (by first | exact beN_y (q61.trans rfl) (by rw [q61, ← q36]; exact q39) (by first | exact Or.inl (k0_ c45 j15_0) | exact Or.inr (by omega)) | exact beN_n q36 q39 (by intro y; rcases y with y | y; exact c45 (by rw [y]; rfl); omega))⟩, rl8, rfl⟩) (by omega) Gl15 w25 hEl15 hX hD hT _ _ hP hS hM_o hM_x1 hM_wk_o hM_s1 hM_cj hM_a1_wk_o hM_a2_wk_o hM_a3_wk_o hM_a4_wk_o hM_a5_wk_o ls (lv_sub hl [1, 2, 0, 4, 5] rfl)
            · skip
              have d45 := c45
              rw [fa_eq] at d45
              refine lv_iload hx hb dX9_worthiest_48 (lv_at hl 0 rfl) ?_
              refine lv_iload_n hx hb dX9_worthiest_50 rfl (lv_at hl 2 rfl) ?_
              refine lv_icmp_le (tgt := 66) hx hb dX9_worthiest_51 (by decide) (fun c51 => ?_) (fun c51 => ?_)
              · skip
                have d51 := c51
                rw [fa_le] at d51
                refine lv_iinc (v := (nI (k + 1))) (lv' := [(2, .int (nI (k + 1))), (6, .int r39), (4, .long x4), (3, .int x3), (0, .ref o), (1, .ref x1)]) hx hb dX9_worthiest_66 hl (k := 3) rfl (nI_1 _) (by decide) rfl (fun ls hl => ?_)
                refine lv_goto (tgt := 15) hx hb dX9_worthiest_69 (by decide) ?_
                exact ih_15 x4 x3 (k + 1) yA25 u9.2.2 (picL wj u9.2.1 hj) gA1_25 gA2_25 gA3_25 gA4_25 gA5_25 (kk9) (tt9) (⟨u9, ⟨s9, (k, x3, x4), fo9, ru9, id, (by first | exact beN_y (q61.trans rfl) (by rw [q61, ← q36]; exact q39) (by first | exact Or.inl (k0_ c45 j15_0) | exact Or.inr (by omega)) | exact beN_n q36 q39 (by intro y; rcases y with y | y; exact c45 (by rw [y]; rfl); omega))⟩, rl8, rfl⟩) (by omega) Gl15 w25 hEl15 hX hD hT _ _ hP hS hM_o hM_x1 hM_wk_o hM_s1 hM_cj hM_a1_wk_o hM_a2_wk_o hM_a3_wk_o hM_a4_wk_o hM_a5_wk_o ls (lv_sub hl [2, 3, 0, 4, 5] rfl)
              · skip
                have d51 := c51
                rw [fa_le] at d51
                skip
                refine lv_iload hx hb dX9_worthiest_54 (lv_at hl 0 rfl) ?_
                refine lv_istore_n (lv' := [(3, .int r39), (6, .int r39), (4, .long x4), (2, .int (nI k)), (0, .ref o), (1, .ref x1)]) hx hb dX9_worthiest_56 rfl hl (by decide) rfl (fun ls hl => ?_)
                refine lv_aload_n hx hb dX9_worthiest_57 rfl (lv_at hl 4 rfl) ?_
                refine t_get (v := .ref wk_o) (C := RX9) (T := TX9) (N := 9) hx hb hts (by decide +kernel) hown hK hP hM_o rfl 4 (by decide) (hts (.fieldLink RX9 34 "ShadowBench" "walk" "LShadowBench$Walk;") (by decide +kernel)) (fun _ h9 => h9) rfl dX9_worthiest_58 ?_
                refine t_calll (va_runV (g := F0 m 61 ls ([.ref wk_o])) (As := []) (rest := []) ⟨hx, hb, hml, hown, hts⟩ (c_X8_found_x l D cy A Gl15 w25 wk_o hD hT hG_wk_o hM_wk_o ) (cwV 0 hts gX9_worthiest_X8_found rfl rfl rfl (by decide +kernel) ⟨Nat.le_of_ble_eq_true rfl, Nat.le_of_ble_eq_true rfl⟩) (c_preV hM_wk_o rfl hP hK hA hS hV) rfl rfl hl.1 rfl (lv_room (Nat.le_of_ble_eq_true rfl)) dX9_worthiest_61 ⟨Nat.le_of_ble_eq_true rfl, Nat.le_of_ble_eq_true rfl⟩) hS (fun r61 u H locs q61 hP9 hD9 hT9 hS => ?_)
                obtain ⟨rfl, q61⟩ := q61
                have hP : va_P D vwCl w25 H := hP9
                refine lv_lstore (lv' := [(4, .long r61), (3, .int r39), (6, .int r39), (2, .int (nI k)), (0, .ref o), (1, .ref x1)]) hx hb dX9_worthiest_64 hl (by decide) rfl (fun ls hl => ?_)
                refine lv_iinc (v := (nI (k + 1))) (lv' := [(2, .int (nI (k + 1))), (4, .long r61), (3, .int r39), (6, .int r39), (0, .ref o), (1, .ref x1)]) hx hb dX9_worthiest_66 hl (k := 3) rfl (nI_1 _) (by decide) rfl (fun ls hl => ?_)
                refine lv_goto (tgt := 15) hx hb dX9_worthiest_69 (by decide) ?_
                exact ih_15 r61 r39 (k + 1) yA25 u9.2.2 (picL wj u9.2.1 hj) gA1_25 gA2_25 gA3_25 gA4_25 gA5_25 (kk9) (tt9) (⟨u9, ⟨s9, (k, x3, x4), fo9, ru9, id, (by first | exact beN_y (q61.trans rfl) (by rw [q61, ← q36]; exact q39) (by first | exact Or.inl (k0_ c45 j15_0) | exact Or.inr (by omega)) | exact beN_n q36 q39 (by intro y; rcases y with y | y; exact c45 (by rw [y]; rfl); omega))⟩, rl8, rfl⟩) (by omega) Gl15 w25 hEl15 hX hD hT _ _ hP hS hM_o hM_x1 hM_wk_o hM_s1 hM_cj hM_a1_wk_o hM_a2_wk_o hM_a3_wk_o hM_a4_wk_o hM_a5_wk_o ls (lv_sub hl [1, 2, 0, 4, 5] rfl)
        · skip
          have hsb25 : isBo spB25 := hq9.elim (fun z9 => Or.inl z9.2) (fun z9 => Or.inr z9.2)
          have hM_wk_o : cIn w25 wk_o (.inr (7, [.ref x1, .int yB25, .int trB25, .int spB25, .long fdB25, .ref a1_wk_o, .ref a2_wk_o, .ref a3_wk_o, .ref a4_wk_o, .ref a5_wk_o])) := hW25.1
          have hM_a1_wk_o : cIn w25 a1_wk_o (.inl (cy 0, 6, .inl gB1_25)) := hW25.2.1
          have hM_a2_wk_o : cIn w25 a2_wk_o (.inl (cy 0, 6, .inl gB2_25)) := hW25.2.2.1
          have hM_a3_wk_o : cIn w25 a3_wk_o (.inl (cy 0, 6, .inl gB3_25)) := hW25.2.2.2.1
          have hM_a4_wk_o : cIn w25 a4_wk_o (.inl (cy 0, 6, .inl gB4_25)) := hW25.2.2.2.2.1
          have hM_a5_wk_o : cIn w25 a5_wk_o (.inl (cy 1, 6, .inr (.inl gB5_25))) := hW25.2.2.2.2.2
          subst hr25
          refine lv_if_eq (tgt := 72) hx hb dX9_worthiest_28 (by decide) (fun c28 => ?_) (fun c28 => ?_)
          · skip
            have d28 := c28
            rw [fa_eq] at d28
            refine lv_iload_n hx hb dX9_worthiest_72 rfl (lv_at hl 2 rfl) ?_
            refine lv_if_eq (tgt := 86) hx hb dX9_worthiest_73 (by decide) (fun c73 => ?_) (fun c73 => ?_)
            · skip
              have d73 := c73
              rw [fa_eq] at d73
              obtain ⟨sa86, hsa86⟩ := hXT.2.2.1 (RX9, 304, "none fits, or the walk is spent") (by decide)
              exact vx_throwSW (own := RX9) (cls := xIS) (names := [xRT, xEX]) (A := A) (ik := 259) (ic := 263) hx hb hst hown (by decide) (by decide) (hts (.classLink RX9 259 xIS) (by decide +kernel)) (hts (.initialized xIS) (by decide +kernel)) hsa86 (x_hat hts hXT (Or.inr (Or.inl rfl)) (by decide +kernel) (by decide +kernel)) (by decide +kernel) hXT.2.2.2.1 hXT.2.2.2.2 hS (by rw [hml]; exact hl.1) dX9_worthiest_86 dX9_worthiest_89 dX9_worthiest_90 dX9_worthiest_93 dX9_worthiest_96 (fun x9 h9 => (hno x9 h9).elim) (Nat.le_of_ble_eq_true rfl) (Nat.le_of_ble_eq_true rfl) (Nat.le_of_ble_eq_true rfl) (Nat.le_of_ble_eq_true rfl) hlocks (x_thr (G' := Gl15) (ws' := w25) hX ⟨rfl, q9, k, _, u9, ⟨s9, fo9, ru9, (fun y9 => by omega)⟩, (by first | exact Or.inr (k0_ c73 j15_0) | exact Or.inl (by rcases hq9 with ⟨z1, z2⟩ | ⟨z1, z2⟩; exact absurd (q80.trans z2) c83; exact z1))⟩ hP hD hT hS) hS.2.2 (Nat.le_of_ble_eq_true rfl) (Nat.le_of_ble_eq_true rfl)
            · skip
              have d73 := c73
              rw [fa_eq] at d73
              refine lv_aload_n hx hb dX9_worthiest_76 rfl (lv_at hl 3 rfl) ?_
              refine t_get (v := .ref wk_o) (C := RX9) (T := TX9) (N := 9) hx hb hts (by decide +kernel) hown hK hP hM_o rfl 4 (by decide) (hts (.fieldLink RX9 34 "ShadowBench" "walk" "LShadowBench$Walk;") (by decide +kernel)) (fun _ h9 => h9) rfl dX9_worthiest_77 ?_
              refine t_calli (va_runV (g := F0 m 80 ls ([.ref wk_o])) (As := []) (rest := []) ⟨hx, hb, hml, hown, hts⟩ (c_X8_isSpent_x l D cy A Gl15 w25 wk_o hD hT hG_wk_o hM_wk_o ) (cwV 0 hts gX9_worthiest_X8_isSpent rfl rfl rfl (by decide +kernel) ⟨Nat.le_of_ble_eq_true rfl, Nat.le_of_ble_eq_true rfl⟩) (c_preV hM_wk_o rfl hP hK hA hS hV) rfl rfl hl.1 rfl (lv_room (Nat.le_of_ble_eq_true rfl)) dX9_worthiest_80 ⟨Nat.le_of_ble_eq_true rfl, Nat.le_of_ble_eq_true rfl⟩) hS (fun r80 u H locs q80 hP9 hD9 hT9 hS => ?_)
              obtain ⟨rfl, q80⟩ := q80
              have hP : va_P D vwCl w25 H := hP9
              refine lv_if_eq (tgt := 97) hx hb dX9_worthiest_83 (by decide) (fun c83 => ?_) (fun c83 => ?_)
              · skip
                have d83 := c83
                rw [fa_eq] at d83
                refine lv_lload hx hb dX9_worthiest_97 (lv_at hl 0 rfl) ?_
                refine vx_ret ?_
                refine W.widen (k := 1) (n := 6) (Nat.le_of_ble_eq_true rfl) (Nat.le_of_ble_eq_true rfl) ?_
                exact W.lret (v := x4) hx hb hr (fun t ht hW => ⟨⟨_, (Gl15, w25), rfl, ⟨hX, ⟨q9, k, _, u9, ⟨s9, fo9, ru9, (fun y9 => by omega)⟩, (by rcases hq9 with ⟨z1, z2⟩ | ⟨z1, z2⟩; (intro y; rcases y with y | y; omega; exact c73 (by rw [y]; rfl)); exact absurd (z2.symm.trans (q80.symm.trans c83)) (by decide)), rfl⟩⟩, by show va_P D vwCl w25 t.heap; rw [ht]; exact hP, hD, hT⟩, hS.F ht⟩) hS.2.2 dX9_worthiest_99
              · skip
                have d83 := c83
                rw [fa_eq] at d83
                obtain ⟨sa86, hsa86⟩ := hXT.2.2.1 (RX9, 304, "none fits, or the walk is spent") (by decide)
                exact vx_throwSW (own := RX9) (cls := xIS) (names := [xRT, xEX]) (A := A) (ik := 259) (ic := 263) hx hb hst hown (by decide) (by decide) (hts (.classLink RX9 259 xIS) (by decide +kernel)) (hts (.initialized xIS) (by decide +kernel)) hsa86 (x_hat hts hXT (Or.inr (Or.inl rfl)) (by decide +kernel) (by decide +kernel)) (by decide +kernel) hXT.2.2.2.1 hXT.2.2.2.2 hS (by rw [hml]; exact hl.1) dX9_worthiest_86 dX9_worthiest_89 dX9_worthiest_90 dX9_worthiest_93 dX9_worthiest_96 (fun x9 h9 => (hno x9 h9).elim) (Nat.le_of_ble_eq_true rfl) (Nat.le_of_ble_eq_true rfl) (Nat.le_of_ble_eq_true rfl) (Nat.le_of_ble_eq_true rfl) hlocks (x_thr (G' := Gl15) (ws' := w25) hX ⟨rfl, q9, k, _, u9, ⟨s9, fo9, ru9, (fun y9 => by omega)⟩, (by first | exact Or.inr (k0_ c73 j15_0) | exact Or.inl (by rcases hq9 with ⟨z1, z2⟩ | ⟨z1, z2⟩; exact absurd (q80.trans z2) c83; exact z1))⟩ hP hD hT hS) hS.2.2 (Nat.le_of_ble_eq_true rfl) (Nat.le_of_ble_eq_true rfl)
          · first | exact absurd c28 (by decide) | exact absurd (by decide) c28
  exact loop_15 (200001 + 1) (0 : Int64) (0 : Int32) 0 (nI 0) 0 0 g1_5 g2_5 g3_5 g4_5 g5_5 (by omega) (by omega) (⟨((0 : Int), (fun _ : Nat => (0 : Nat)), (0 : Nat)), ⟨rfl, rfl⟩, hc5, rfl⟩) (by omega) G w5 cE.rf hX hD hT _ _ hP hS hM_o hM_x1 hM_wk_o hM_s1 hM_cj hM_a1_wk_o hM_a2_wk_o hM_a3_wk_o hM_a4_wk_o hM_a5_wk_o ls (lv_sub hl [0, 1, 2, 3, 4] rfl)
set_option maxHeartbeats 4000000 in
set_option maxRecDepth 100000 in
theorem c_X9_best_j (l : Launch) (hst : l.stackTraces = false) (D : va_G) (cy : Nat → ClassId) (A : Nat → Prop) (G : cG) (ws : va_W) (o : Nat) (j : Int32) {bs_o js_o sh_o wk_o ll_o : Nat} {jc_o lc_o : Int32} {mo_o lb_o : Option Nat} {fa : Nat → Option Nat} {xj kj bj sj tj wj hj : Nat} {oj nj : Int64} {msj : List Value} {fsj : Nat → Int32} {cj : Nat} {fmj : Nat → Int32} (hD : va_D A ws) (hT : cT cy G ws) (hG_o : G o = some (7, 0, 0)) (hM_o : cIn ws o (.inr (8, [.ref bs_o, .ref js_o, .int jc_o, .ref sh_o, .ref wk_o, va_rf mo_o, .ref ll_o, .int lc_o, va_rf lb_o]))) (hM_js_o : cIn ws js_o (.inl (cy 4, cqa 8 fa))) (hJ1 : ∀ i : Nat, (i : Int) < jc_o.toInt → ∃ x, fa i = some x) (hJ : okJob jc_o j → jobS cy G ws fa j.toNatClampNeg xj kj bj sj tj wj hj oj nj msj fsj) (hr9 : okJob jc_o j → ∀ y l, y < 4 → l < lnC wj hj y → 0 ≤ (fsj (y * 11 + l)).toInt ∧ (fsj (y * 11 + l)).toInt ≤ 6) (he9 : okJob jc_o j → ∀ s, s < wj * hj → ¬ (lb oj s = true ∧ lb nj s = true)) (hJ4 : okJob jc_o j → kj = 4 → msj = [.ref cj] ∧ cIn ws cj (.inl (cy 0, wj * hj, .inl fmj))) : Xi l D cy A yX9_best wsX9_best ({ frames := 7, cells := 2, slots := 12, locals := 170 }) 2 12 ws [.ref o, .int j] (fun r0 u => cX none (chs [1, 5, 20, 21, 22, 23]) G ws u.1 u.2 ∧ ((okJob jc_o j ∧ kj = 4) ∧ ∃ q k a u, wEn (2 ^ wj) hj (cGo wj oj nj fsj) (cFi 4 wj hj tj oj nj fsj) (fun _ _ => False) (beN fmj wj hj) ((0 : Int), (fun _ : Nat => (0 : Nat)), (0 : Nat)) (0, 0, 0) q k a u ∧ ¬ (q = 1 ∨ k = 0) ∧ r0 = a.2.1)) (fun u => cX none (chs [1, 5, 20, 21, 22, 23]) G ws u.1 u.2) (fun E => (E = xIA ∧ ¬ (okJob jc_o j ∧ kj = 4)) ∨ (E = xIS ∧ (okJob jc_o j ∧ kj = 4) ∧ ∃ q k a u, wEn (2 ^ wj) hj (cGo wj oj nj fsj) (cFi 4 wj hj tj oj nj fsj) (fun _ _ => False) (beN fmj wj hj) ((0 : Int), (fun _ : Nat => (0 : Nat)), (0 : Nat)) (0, 0, 0) q k a u ∧ (q = 1 ∨ k = 0))) := by
  refine vx_ofW (cc := cX9_best) (maxL := 3) (ret := (some .int)) (by decide) rfl ?_
  intro p e s m args below meth c s₁ B hml hno hv
  obtain ⟨rfl, ⟨hP, hK, hA, hV⟩, hZ, hXT⟩ := hv
  have hx := B.exec
  have hb := B.bytes
  have hr := B.returns
  have hts := atoms_spec (ws := wsX9_best) B.pre
  have hown : s.vm.findClass RX9 = some m.cls := findClass_of_methodNamed B.named
  have hlocks := B.notSynchronized
  have hS : va_S A s.heap s.heap [] := va_S.rf
  have hX : cX none (chs [1, 5, 20, 21, 22, 23]) G ws G ws := cX.rf
  have hl := lv_entry ([.ref o, .int j]) (n := 3) (Nat.le_of_ble_eq_true rfl)
  rw [lg_entry_eq]
  generalize (lg_sl ([.ref o, .int j]) ++ List.replicate (3 - (lg_sl ([.ref o, .int j])).length) Slot.unset).toArray = ls at hl ⊢
  have hl : lv_has ls 3 [(0, .ref o), (1, .int j)] := hl
  have k_0 : (0 : Int32).toInt = 0 := by decide
  obtain ⟨hjc_o, hlc_o, hG_bs_o, hG_js_o, hG_sh_o, hG_wk_o, hmo_o, hG_ll_o, hlb_o⟩ := w7sh hD hT hG_o hM_o
  have hf_js_o := w9sh hD hT hG_js_o hM_js_o
  refine lv_aload_n hx hb dX9_best_0 rfl (lv_at hl 0 rfl) ?_
  refine lv_iload_n hx hb dX9_best_1 rfl (lv_at hl 1 rfl) ?_
  refine x_calla (vx_runV (g := F0 m 2 ls ([.int j, .ref o])) (As := [.int j]) (rest := []) ⟨hx, hb, hml, hown, hts⟩ (c_X9_markedJobOf_j l hst D cy A G ws o j hD hT hG_o hM_o hM_js_o hJ1 hJ hr9 he9 hJ4) (cwV 1 hts gX9_best_X9_markedJobOf rfl rfl rfl (by decide +kernel) ⟨Nat.le_of_ble_eq_true rfl, Nat.le_of_ble_eq_true rfl⟩) (x_preV hM_o rfl hP hK hA hS hV hZ hXT) rfl rfl hl.1 rfl (lv_room (Nat.le_of_ble_eq_true rfl)) dX9_best_2 ⟨Nat.le_of_ble_eq_true rfl, Nat.le_of_ble_eq_true rfl⟩) hS (fun E9 ce9 q9 u H locs px9 pe9 hP9 hD9 hT9 hS hc9 hv9 hcl9 => ?_) (fun r2 u H locs q2 hP9 hD9 hT9 hS => ?_)
  · skip
    obtain rfl := px9
    have hP : va_P D vwCl ws H := hP9
    exact x_out (G' := G) (ws' := ws) hno hlocks hc9 hv9 hcl9 hX pe9 hP hD hT hS (Nat.le_of_ble_eq_true rfl) (Nat.le_of_ble_eq_true rfl)
  obtain ⟨rfl, q2⟩ := q2
  have hP : va_P D vwCl ws H := hP9
  obtain ⟨⟨vj2, hk4⟩, hr9x⟩ := q2
  subst hr9x
  subst hk4
  obtain ⟨hfa9, hG_xj, hb9, ht9, hM_xj, hM_sj⟩ := hJ vj2
  obtain ⟨hms9, hM_cj⟩ := hJ4 vj2 rfl
  subst hms9
  obtain ⟨hG_bj, hG_sj, hJ_xj⟩ := w3sh hD hT hG_xj hb9 hM_xj
  have hG_cj := cJ4c hJ_xj
  refine lv_astore_n (lv' := [(2, .ref xj), (0, .ref o), (1, .int j)]) hx hb dX9_best_5 rfl hl (by decide) rfl (fun ls hl => ?_)
  refine lv_aload_n hx hb dX9_best_6 rfl (lv_at hl 0 rfl) ?_
  refine lv_aload_n hx hb dX9_best_7 rfl (lv_at hl 1 rfl) ?_
  refine lv_aload_n hx hb dX9_best_8 rfl (lv_at hl 0 rfl) ?_
  refine x_calll (vx_runV (g := F0 m 9 ls ([.ref xj, .ref o, .ref xj])) (As := [.ref xj]) (rest := [.ref xj]) ⟨hx, hb, hml, hown, hts⟩ (c_X9_worthiest_j l hst D cy A G ws o xj hD hT hG_o hM_o hG_xj hM_xj hM_sj hM_cj hb9 ht9 (hr9 vj2) (he9 vj2)) (cwV 1 hts gX9_best_X9_worthiest rfl rfl rfl (by decide +kernel) ⟨Nat.le_of_ble_eq_true rfl, Nat.le_of_ble_eq_true rfl⟩) (x_preV hM_o rfl hP hK hA hS hV hZ hXT) rfl rfl hl.1 rfl (lv_room (Nat.le_of_ble_eq_true rfl)) dX9_best_9 ⟨Nat.le_of_ble_eq_true rfl, Nat.le_of_ble_eq_true rfl⟩) hS (fun E9 ce9 q9 u H locs px9 pe9 hP9 hD9 hT9 hS hc9 hv9 hcl9 => ?_) (fun r9 u H locs q9 hP9 hD9 hT9 hS => ?_)
  · skip
    obtain ⟨Gx9, wx9⟩ := u
    have hX9 : cX none (chs [1, 5, 20, 21, 22, 23]) G ws Gx9 wx9 := px9
    have hP : va_P D vwCl wx9 H := hP9
    have hD : va_D A wx9 := hD9
    have hT : cT cy Gx9 wx9 := hT9
    have hX := hX.tr hX9
    exact x_out (G' := Gx9) (ws' := wx9) hno hlocks hc9 hv9 hcl9 hX (Or.inr ⟨pe9.1, ⟨vj2, rfl⟩, pe9.2⟩) hP hD hT hS (Nat.le_of_ble_eq_true rfl) (Nat.le_of_ble_eq_true rfl)
  obtain ⟨G9, w9⟩ := u
  obtain ⟨hX9, q9⟩ := q9
  have hX9 : cX none (chs [1, 5, 20, 21, 22, 23]) G ws G9 w9 := hX9
  have hP : va_P D vwCl w9 H := hP9
  have hD : va_D A w9 := hD9
  have hT : cT cy G9 w9 := hT9
  have hM_o := hX9.2.1 _ _ (cP.no hG_o rfl) hM_o
  have hM_js_o := hX9.2.1 _ _ (cP.no hG_js_o rfl) hM_js_o
  have hM_xj := hX9.2.1 _ _ (cP.no hG_xj rfl) hM_xj
  have hM_sj := hX9.2.1 _ _ (cP.no hG_sj rfl) hM_sj
  have hM_cj := hX9.2.1 _ _ (cP.no hG_cj rfl) hM_cj
  have hG_o := hX9.1 _ _ hG_o
  have hG_bs_o := hX9.1 _ _ hG_bs_o
  have hG_js_o := hX9.1 _ _ hG_js_o
  have hG_sh_o := hX9.1 _ _ hG_sh_o
  have hG_wk_o := hX9.1 _ _ hG_wk_o
  have hG_ll_o := hX9.1 _ _ hG_ll_o
  have hG_xj := hX9.1 _ _ hG_xj
  have hG_bj := hX9.1 _ _ hG_bj
  have hG_sj := hX9.1 _ _ hG_sj
  have hG_cj := hX9.1 _ _ hG_cj
  have hf_js_o := fun i9 x9 (h9 : i9 < 8) z9 => (hf_js_o i9 x9 h9 z9).elim fun k9 z8 => z8.elim fun n9 z7 => (⟨k9, n9, hX9.1 _ _ z7⟩ : ∃ k n, G9 x9 = some (3, k, n))
  have hmo_o := fun x9 z9 => hX9.1 _ _ (hmo_o x9 z9)
  have hlb_o : ∀ x9, lb_o = some x9 → ∃ w9 h9, _ = some (2, w9, h9) := fun x9 z9 => (hlb_o x9 z9).elim fun w9 z9 => z9.elim fun h9 z9 => ⟨w9, h9, hX9.1 _ _ z9⟩
  have hX := hX.tr hX9
  have q9q := q9
  refine t_calli (va_runV (g := F0 m 12 ls ([.long r9, .ref xj])) (As := [.long r9]) (rest := []) ⟨hx, hb, hml, hown, hts⟩ (c_X5_worthOf_x l D cy A G9 w9 xj r9 hD hT hG_xj hM_xj hM_cj hb9) (cwV 1 hts gX9_best_X5_worthOf rfl rfl rfl (by decide +kernel) ⟨Nat.le_of_ble_eq_true rfl, Nat.le_of_ble_eq_true rfl⟩) (c_preV hM_xj rfl hP hK hA hS hV) rfl rfl hl.1 rfl (lv_room (Nat.le_of_ble_eq_true rfl)) dX9_best_12 ⟨Nat.le_of_ble_eq_true rfl, Nat.le_of_ble_eq_true rfl⟩) hS (fun r12 u H locs q12 hP9 hD9 hT9 hS => ?_)
  obtain ⟨rfl, q12⟩ := q12
  have hP : va_P D vwCl w9 H := hP9
  refine vx_ret ?_
  refine W.widen (k := 2) (n := 12) (Nat.le_of_ble_eq_true rfl) (Nat.le_of_ble_eq_true rfl) ?_
  exact W.iret (v := r12) hx hb hr (fun t ht hW => ⟨⟨_, (G9, w9), rfl, ⟨hX, ⟨⟨vj2, rfl⟩, (by obtain ⟨q9, k9, a9, u9, y1, y2, y3⟩ := q9q; exact ⟨q9, k9, a9, u9, y1, y2, (by obtain ⟨m9, f9, -⟩ := y1; have w9 := (beN_w k9 f9).2 (by omega); rw [q12, y3, ← w9])⟩)⟩⟩, by show va_P D vwCl w9 t.heap; rw [ht]; exact hP, hD, hT⟩, hS.F ht⟩) hS.2.2 dX9_best_15
set_option maxHeartbeats 4000000 in
set_option maxRecDepth 100000 in
theorem c_X9_bestOne_j (l : Launch) (hst : l.stackTraces = false) (D : va_G) (cy : Nat → ClassId) (A : Nat → Prop) (G : cG) (ws : va_W) (o : Nat) (j : Int32) {bs_o js_o sh_o wk_o ll_o : Nat} {jc_o lc_o : Int32} {mo_o lb_o : Option Nat} {fa : Nat → Option Nat} {xj kj bj sj tj wj hj : Nat} {oj nj : Int64} {msj : List Value} {fsj : Nat → Int32} {cj : Nat} {fmj : Nat → Int32} (hD : va_D A ws) (hT : cT cy G ws) (hG_o : G o = some (7, 0, 0)) (hM_o : cIn ws o (.inr (8, [.ref bs_o, .ref js_o, .int jc_o, .ref sh_o, .ref wk_o, va_rf mo_o, .ref ll_o, .int lc_o, va_rf lb_o]))) (hM_js_o : cIn ws js_o (.inl (cy 4, cqa 8 fa))) (hJ1 : ∀ i : Nat, (i : Int) < jc_o.toInt → ∃ x, fa i = some x) (hJ : okJob jc_o j → jobS cy G ws fa j.toNatClampNeg xj kj bj sj tj wj hj oj nj msj fsj) (hr9 : okJob jc_o j → ∀ y l, y < 4 → l < lnC wj hj y → 0 ≤ (fsj (y * 11 + l)).toInt ∧ (fsj (y * 11 + l)).toInt ≤ 6) (he9 : okJob jc_o j → ∀ s, s < wj * hj → ¬ (lb oj s = true ∧ lb nj s = true)) (hJ4 : okJob jc_o j → kj = 4 → msj = [.ref cj] ∧ cIn ws cj (.inl (cy 0, wj * hj, .inl fmj))) : Xl l D cy A yX9_bestOne wsX9_bestOne ({ frames := 7, cells := 2, slots := 12, locals := 170 }) 2 12 ws [.ref o, .int j] (fun r0 u => cX none (chs [1, 5, 20, 21, 22, 23]) G ws u.1 u.2 ∧ ((okJob jc_o j ∧ kj = 4) ∧ ∃ q k a u, wEn (2 ^ wj) hj (cGo wj oj nj fsj) (cFi 4 wj hj tj oj nj fsj) (fun _ _ => False) (beN fmj wj hj) ((0 : Int), (fun _ : Nat => (0 : Nat)), (0 : Nat)) (0, 0, 0) q k a u ∧ ¬ (q = 1 ∨ k = 0) ∧ r0 = a.2.2)) (fun u => cX none (chs [1, 5, 20, 21, 22, 23]) G ws u.1 u.2) (fun E => (E = xIA ∧ ¬ (okJob jc_o j ∧ kj = 4)) ∨ (E = xIS ∧ (okJob jc_o j ∧ kj = 4) ∧ ∃ q k a u, wEn (2 ^ wj) hj (cGo wj oj nj fsj) (cFi 4 wj hj tj oj nj fsj) (fun _ _ => False) (beN fmj wj hj) ((0 : Int), (fun _ : Nat => (0 : Nat)), (0 : Nat)) (0, 0, 0) q k a u ∧ (q = 1 ∨ k = 0))) := by
  refine vx_ofW (cc := cX9_bestOne) (maxL := 2) (ret := (some .long)) (by decide) rfl ?_
  intro p e s m args below meth c s₁ B hml hno hv
  obtain ⟨rfl, ⟨hP, hK, hA, hV⟩, hZ, hXT⟩ := hv
  have hx := B.exec
  have hb := B.bytes
  have hr := B.returns
  have hts := atoms_spec (ws := wsX9_bestOne) B.pre
  have hown : s.vm.findClass RX9 = some m.cls := findClass_of_methodNamed B.named
  have hlocks := B.notSynchronized
  have hS : va_S A s.heap s.heap [] := va_S.rf
  have hX : cX none (chs [1, 5, 20, 21, 22, 23]) G ws G ws := cX.rf
  have hl := lv_entry ([.ref o, .int j]) (n := 2) (Nat.le_of_ble_eq_true rfl)
  rw [lg_entry_eq]
  generalize (lg_sl ([.ref o, .int j]) ++ List.replicate (2 - (lg_sl ([.ref o, .int j])).length) Slot.unset).toArray = ls at hl ⊢
  have hl : lv_has ls 2 [(0, .ref o), (1, .int j)] := hl
  have k_0 : (0 : Int32).toInt = 0 := by decide
  obtain ⟨hjc_o, hlc_o, hG_bs_o, hG_js_o, hG_sh_o, hG_wk_o, hmo_o, hG_ll_o, hlb_o⟩ := w7sh hD hT hG_o hM_o
  have hf_js_o := w9sh hD hT hG_js_o hM_js_o
  refine lv_aload_n hx hb dX9_bestOne_0 rfl (lv_at hl 0 rfl) ?_
  refine lv_aload_n hx hb dX9_bestOne_1 rfl (lv_at hl 0 rfl) ?_
  refine lv_iload_n hx hb dX9_bestOne_2 rfl (lv_at hl 1 rfl) ?_
  refine x_calla (vx_runV (g := F0 m 3 ls ([.int j, .ref o, .ref o])) (As := [.int j]) (rest := [.ref o]) ⟨hx, hb, hml, hown, hts⟩ (c_X9_markedJobOf_j l hst D cy A G ws o j hD hT hG_o hM_o hM_js_o hJ1 hJ hr9 he9 hJ4) (cwV 1 hts gX9_bestOne_X9_markedJobOf rfl rfl rfl (by decide +kernel) ⟨Nat.le_of_ble_eq_true rfl, Nat.le_of_ble_eq_true rfl⟩) (x_preV hM_o rfl hP hK hA hS hV hZ hXT) rfl rfl hl.1 rfl (lv_room (Nat.le_of_ble_eq_true rfl)) dX9_bestOne_3 ⟨Nat.le_of_ble_eq_true rfl, Nat.le_of_ble_eq_true rfl⟩) hS (fun E9 ce9 q9 u H locs px9 pe9 hP9 hD9 hT9 hS hc9 hv9 hcl9 => ?_) (fun r3 u H locs q3 hP9 hD9 hT9 hS => ?_)
  · skip
    obtain rfl := px9
    have hP : va_P D vwCl ws H := hP9
    exact x_out (G' := G) (ws' := ws) hno hlocks hc9 hv9 hcl9 hX pe9 hP hD hT hS (Nat.le_of_ble_eq_true rfl) (Nat.le_of_ble_eq_true rfl)
  obtain ⟨rfl, q3⟩ := q3
  have hP : va_P D vwCl ws H := hP9
  obtain ⟨⟨vj2, hk4⟩, hr9x⟩ := q3
  subst hr9x
  subst hk4
  obtain ⟨hfa9, hG_xj, hb9, ht9, hM_xj, hM_sj⟩ := hJ vj2
  obtain ⟨hms9, hM_cj⟩ := hJ4 vj2 rfl
  subst hms9
  obtain ⟨hG_bj, hG_sj, hJ_xj⟩ := w3sh hD hT hG_xj hb9 hM_xj
  have hG_cj := cJ4c hJ_xj
  refine x_calll (vx_runV (g := F0 m 6 ls ([.ref xj, .ref o])) (As := [.ref xj]) (rest := []) ⟨hx, hb, hml, hown, hts⟩ (c_X9_worthiest_j l hst D cy A G ws o xj hD hT hG_o hM_o hG_xj hM_xj hM_sj hM_cj hb9 ht9 (hr9 vj2) (he9 vj2)) (cwV 1 hts gX9_bestOne_X9_worthiest rfl rfl rfl (by decide +kernel) ⟨Nat.le_of_ble_eq_true rfl, Nat.le_of_ble_eq_true rfl⟩) (x_preV hM_o rfl hP hK hA hS hV hZ hXT) rfl rfl hl.1 rfl (lv_room (Nat.le_of_ble_eq_true rfl)) dX9_bestOne_6 ⟨Nat.le_of_ble_eq_true rfl, Nat.le_of_ble_eq_true rfl⟩) hS (fun E9 ce9 q9 u H locs px9 pe9 hP9 hD9 hT9 hS hc9 hv9 hcl9 => ?_) (fun r6 u H locs q6 hP9 hD9 hT9 hS => ?_)
  · skip
    obtain ⟨Gx6, wx6⟩ := u
    have hX9 : cX none (chs [1, 5, 20, 21, 22, 23]) G ws Gx6 wx6 := px9
    have hP : va_P D vwCl wx6 H := hP9
    have hD : va_D A wx6 := hD9
    have hT : cT cy Gx6 wx6 := hT9
    have hX := hX.tr hX9
    exact x_out (G' := Gx6) (ws' := wx6) hno hlocks hc9 hv9 hcl9 hX (Or.inr ⟨pe9.1, ⟨vj2, rfl⟩, pe9.2⟩) hP hD hT hS (Nat.le_of_ble_eq_true rfl) (Nat.le_of_ble_eq_true rfl)
  obtain ⟨G6, w6⟩ := u
  obtain ⟨hX9, q6⟩ := q6
  have hX9 : cX none (chs [1, 5, 20, 21, 22, 23]) G ws G6 w6 := hX9
  have hP : va_P D vwCl w6 H := hP9
  have hD : va_D A w6 := hD9
  have hT : cT cy G6 w6 := hT9
  have hM_o := hX9.2.1 _ _ (cP.no hG_o rfl) hM_o
  have hM_js_o := hX9.2.1 _ _ (cP.no hG_js_o rfl) hM_js_o
  have hM_xj := hX9.2.1 _ _ (cP.no hG_xj rfl) hM_xj
  have hM_sj := hX9.2.1 _ _ (cP.no hG_sj rfl) hM_sj
  have hM_cj := hX9.2.1 _ _ (cP.no hG_cj rfl) hM_cj
  have hG_o := hX9.1 _ _ hG_o
  have hG_bs_o := hX9.1 _ _ hG_bs_o
  have hG_js_o := hX9.1 _ _ hG_js_o
  have hG_sh_o := hX9.1 _ _ hG_sh_o
  have hG_wk_o := hX9.1 _ _ hG_wk_o
  have hG_ll_o := hX9.1 _ _ hG_ll_o
  have hG_xj := hX9.1 _ _ hG_xj
  have hG_bj := hX9.1 _ _ hG_bj
  have hG_sj := hX9.1 _ _ hG_sj
  have hG_cj := hX9.1 _ _ hG_cj
  have hf_js_o := fun i9 x9 (h9 : i9 < 8) z9 => (hf_js_o i9 x9 h9 z9).elim fun k9 z8 => z8.elim fun n9 z7 => (⟨k9, n9, hX9.1 _ _ z7⟩ : ∃ k n, G6 x9 = some (3, k, n))
  have hmo_o := fun x9 z9 => hX9.1 _ _ (hmo_o x9 z9)
  have hlb_o : ∀ x9, lb_o = some x9 → ∃ w9 h9, _ = some (2, w9, h9) := fun x9 z9 => (hlb_o x9 z9).elim fun w9 z9 => z9.elim fun h9 z9 => ⟨w9, h9, hX9.1 _ _ z9⟩
  have hX := hX.tr hX9
  refine vx_ret ?_
  refine W.widen (k := 2) (n := 12) (Nat.le_of_ble_eq_true rfl) (Nat.le_of_ble_eq_true rfl) ?_
  exact W.lret (v := r6) hx hb hr (fun t ht hW => ⟨⟨_, (G6, w6), rfl, ⟨hX, ⟨⟨vj2, rfl⟩, q6⟩⟩, by show va_P D vwCl w6 t.heap; rw [ht]; exact hP, hD, hT⟩, hS.F ht⟩) hS.2.2 dX9_bestOne_9
set_option maxHeartbeats 4000000 in
set_option maxRecDepth 100000 in
theorem c_L_best_j (l : Launch) (hst : l.stackTraces = false) (D : va_G) (cy : Nat → ClassId) (A : Nat → Prop) (G : cG) (ws : va_W) (xb : Nat) (p0 : Int32) (ou : Nat) {bs_o js_o sh_o wk_o ll_o : Nat} {jc_o lc_o : Int32} {mo_o lb_o : Option Nat} {fa : Nat → Option Nat} {xj kj bj sj tj wj hj : Nat} {oj nj : Int64} {msj : List Value} {fsj : Nat → Int32} {cj : Nat} {fmj : Nat → Int32} (hD : va_D A ws) (hT : cT cy G ws) (hG_xb : G xb = some (7, 0, 0)) (hM_xb : cIn ws xb (.inr (8, [.ref bs_o, .ref js_o, .int jc_o, .ref sh_o, .ref wk_o, va_rf mo_o, .ref ll_o, .int lc_o, va_rf lb_o]))) (hG_ou : G ou = some (1, 1, 0)) (hM_js_o : cIn ws js_o (.inl (cy 4, cqa 8 fa))) (hJ1 : ∀ i : Nat, (i : Int) < jc_o.toInt → ∃ x, fa i = some x) (hJ : okJob jc_o p0 → jobS cy G ws fa p0.toNatClampNeg xj kj bj sj tj wj hj oj nj msj fsj) (hr9 : okJob jc_o p0 → ∀ y l, y < 4 → l < lnC wj hj y → 0 ≤ (fsj (y * 11 + l)).toInt ∧ (fsj (y * 11 + l)).toInt ≤ 6) (he9 : okJob jc_o p0 → ∀ s, s < wj * hj → ¬ (lb oj s = true ∧ lb nj s = true)) (hJ4 : okJob jc_o p0 → kj = 4 → msj = [.ref cj] ∧ cIn ws cj (.inl (cy 0, wj * hj, .inl fmj))) : Yi l D cy A yL_best wsL_best ({ frames := 8, cells := 2, slots := 12, locals := 192 }) 2 12 ws [.ref xb, .int p0, .ref ou] (fun r0 u => cX none (chs [1, 5, 20, 21, 22, 23]) G ws u.1 u.2 ∧ ((r0 = 1 ∧ ¬ (okJob jc_o p0 ∧ kj = 4)) ∨ (r0 = 2 ∧ (okJob jc_o p0 ∧ kj = 4) ∧ ∃ q k a u, wEn (2 ^ wj) hj (cGo wj oj nj fsj) (cFi 4 wj hj tj oj nj fsj) (fun _ _ => False) (beN fmj wj hj) ((0 : Int), (fun _ : Nat => (0 : Nat)), (0 : Nat)) (0, 0, 0) q k a u ∧ (q = 1 ∨ k = 0)) ∨ (r0 = 0 ∧ (okJob jc_o p0 ∧ kj = 4) ∧ ∃ q k a u9, wEn (2 ^ wj) hj (cGo wj oj nj fsj) (cFi 4 wj hj tj oj nj fsj) (fun _ _ => False) (beN fmj wj hj) ((0 : Int), (fun _ : Nat => (0 : Nat)), (0 : Nat)) (0, 0, 0) q k a u9 ∧ ¬ (q = 1 ∨ k = 0) ∧ ∃ w : Nat → Int64, cIn u.2 ou (.inl (cy 1, 1, .inr (.inl w))) ∧ w 0 = (a.2.1).toInt64))) := by
  refine va_MetW (cc := cL_best) (maxL := 4) (ret := (some .int)) (by decide) rfl ?_
  intro p e s m args below meth c s₁ B hml hv
  obtain ⟨rfl, ⟨hP, hK, hA, hV⟩, hZ, hXT⟩ := hv
  have hx := B.exec
  have hb := B.bytes
  have hr := B.returns
  have hts := atoms_spec (ws := wsL_best) B.pre
  have hown : s.vm.findClass RL = some m.cls := findClass_of_methodNamed B.named
  have hlocks := B.notSynchronized
  have htab := vx_table (x := yL_best) B (hts (.codeWith yL_best cL_best 4 (some .int) [(0, 9, 12, 13), (0, 9, 15, 15)]) (by decide +kernel))
  have hS : va_S A s.heap s.heap [] := va_S.rf
  have hX : cX none (chs [1, 5, 20, 21, 22, 23]) G ws G ws := cX.rf
  have hl := lv_entry ([.ref xb, .int p0, .ref ou]) (n := 4) (Nat.le_of_ble_eq_true rfl)
  rw [lg_entry_eq]
  generalize (lg_sl ([.ref xb, .int p0, .ref ou]) ++ List.replicate (4 - (lg_sl ([.ref xb, .int p0, .ref ou])).length) Slot.unset).toArray = ls at hl ⊢
  have hl : lv_has ls 4 [(0, .ref xb), (1, .int p0), (2, .ref ou)] := hl
  have k_0 : (0 : Int32).toInt = 0 := by decide
  have k_1 : (1 : Int32).toInt = 1 := by decide
  have k_2 : (2 : Int32).toInt = 2 := by decide
  obtain ⟨hjc_o, hlc_o, hG_bs_o, hG_js_o, hG_sh_o, hG_wk_o, hmo_o, hG_ll_o, hlb_o⟩ := w7sh hD hT hG_xb hM_xb
  have hf_js_o := w9sh hD hT hG_js_o hM_js_o
  refine lv_aload_n hx hb dL_best_0 rfl (lv_at hl 2 rfl) ?_
  refine lv_iconst (v := 0) hx hb dL_best_1 (by decide) ?_
  refine lv_aload_n hx hb dL_best_2 rfl (lv_at hl 0 rfl) ?_
  refine lv_iload_n hx hb dL_best_3 rfl (lv_at hl 1 rfl) ?_
  refine x_calli (vx_runV (g := F0 m 4 ls ([.int p0, .ref xb, .int (0 : Int32), .ref ou])) (As := [.int p0]) (rest := [.int (0 : Int32), .ref ou]) ⟨hx, hb, hml, hown, hts⟩ (c_X9_best_j l hst D cy A G ws xb p0 hD hT hG_xb hM_xb hM_js_o hJ1 hJ hr9 he9 hJ4) (cwV 1 hts gL_best_X9_best rfl rfl rfl (by decide +kernel) ⟨Nat.le_of_ble_eq_true rfl, Nat.le_of_ble_eq_true rfl⟩) (x_preV hM_xb rfl hP hK hA hS hV hZ hXT) rfl rfl hl.1 rfl (lv_room (Nat.le_of_ble_eq_true rfl)) dL_best_4 ⟨Nat.le_of_ble_eq_true rfl, Nat.le_of_ble_eq_true rfl⟩) hS (fun E9 ce9 q9 u H locs px9 pe9 hP9 hD9 hT9 hS hc9 hv9 hcl9 => ?_) (fun r4 u H locs q4 hP9 hD9 hT9 hS => ?_)
  · skip
    obtain ⟨Gx4, wx4⟩ := u
    have hX9 : cX none (chs [1, 5, 20, 21, 22, 23]) G ws Gx4 wx4 := px9
    have hP : va_P D vwCl wx4 H := hP9
    have hD : va_D A wx4 := hD9
    have hT : cT cy Gx4 wx4 := hT9
    have hX := hX.tr hX9
    rcases pe9 with ⟨rfl, np9⟩ | ⟨rfl, np9⟩
    · skip
      refine vx_catch (own := RL) (name := xIA) (E := xIA) hown [] ⟨0, 9, 12, 13⟩ [⟨0, 9, 15, 15⟩] htab (fun z9 h9 => by simp at h9) (by decide) (by decide) (hts (.classLink RL 13 xIA) (by decide +kernel)) (hXT.1.2.1.use rfl) hc9 hv9 hcl9 ?_
      refine lv_astore_n (lv' := [(3, .ref q9), (0, .ref xb), (1, .int p0), (2, .ref ou)]) hx hb dL_best_12 rfl hl (by decide) rfl (fun ls hl => ?_)
      refine lv_iconst (v := 1) hx hb dL_best_13 (by decide) ?_
      refine W.widen (k := 2) (n := 12) (Nat.le_of_ble_eq_true rfl) (Nat.le_of_ble_eq_true rfl) ?_
      exact W.iret (v := (1 : Int32)) hx hb hr (fun t ht hW => ⟨⟨_, (Gx4, wx4), rfl, ⟨hX, Or.inl ⟨rfl, np9⟩⟩, by show va_P D vwCl wx4 t.heap; rw [ht]; exact hP, hD, hT⟩, hS.F ht⟩) hS.2.2 dL_best_14
    · skip
      refine vx_catch (own := RL) (name := xIS) (E := xIS) hown [⟨0, 9, 12, 13⟩] ⟨0, 9, 15, 15⟩ [] htab (fun z9 h9 => by rcases List.mem_cons.mp h9 with rfl | h9; exact Or.inr ⟨by decide, xIA, hts (.classLink RL 13 xIA) (by decide +kernel), hXT.2.1.2.2.2⟩; simp at h9) (by decide) (by decide) (hts (.classLink RL 15 xIS) (by decide +kernel)) (hXT.1.2.2.1.use rfl) hc9 hv9 hcl9 ?_
      refine lv_astore_n (lv' := [(3, .ref q9), (0, .ref xb), (1, .int p0), (2, .ref ou)]) hx hb dL_best_15 rfl hl (by decide) rfl (fun ls hl => ?_)
      refine lv_iconst (v := 2) hx hb dL_best_16 (by decide) ?_
      refine W.widen (k := 2) (n := 12) (Nat.le_of_ble_eq_true rfl) (Nat.le_of_ble_eq_true rfl) ?_
      exact W.iret (v := (2 : Int32)) hx hb hr (fun t ht hW => ⟨⟨_, (Gx4, wx4), rfl, ⟨hX, Or.inr (Or.inl ⟨rfl, np9⟩)⟩, by show va_P D vwCl wx4 t.heap; rw [ht]; exact hP, hD, hT⟩, hS.F ht⟩) hS.2.2 dL_best_17
  obtain ⟨G4, w4⟩ := u
  obtain ⟨hX9, q4⟩ := q4
  have hX9 : cX none (chs [1, 5, 20, 21, 22, 23]) G ws G4 w4 := hX9
  have hP : va_P D vwCl w4 H := hP9
  have hD : va_D A w4 := hD9
  have hT : cT cy G4 w4 := hT9
  have hM_xb := hX9.2.1 _ _ (cP.no hG_xb rfl) hM_xb
  have hM_js_o := hX9.2.1 _ _ (cP.no hG_js_o rfl) hM_js_o
  have hG_xb := hX9.1 _ _ hG_xb
  have hG_ou := hX9.1 _ _ hG_ou
  have hG_bs_o := hX9.1 _ _ hG_bs_o
  have hG_js_o := hX9.1 _ _ hG_js_o
  have hG_sh_o := hX9.1 _ _ hG_sh_o
  have hG_wk_o := hX9.1 _ _ hG_wk_o
  have hG_ll_o := hX9.1 _ _ hG_ll_o
  have hf_js_o := fun i9 x9 (h9 : i9 < 8) z9 => (hf_js_o i9 x9 h9 z9).elim fun k9 z8 => z8.elim fun n9 z7 => (⟨k9, n9, hX9.1 _ _ z7⟩ : ∃ k n, G4 x9 = some (3, k, n))
  have hX := hX.tr hX9
  refine lv_i2l (v := r4.toInt64) hx hb dL_best_7 rfl ?_
  refine t_lastf hx hb hK hP hD hS hT hG_ou (vp_in_iff.mpr ⟨by omega, by omega⟩) dL_best_8 (fun H locs w8 hU8 hc8 hP hD hT hS => ?_)
  have hM_xb := hU8 _ _ (cne hG_xb hG_ou (show (7 : Nat) ≠ 1 by decide)) hM_xb
  have hM_js_o := hU8 _ _ (cne hG_js_o hG_ou (show (9 : Nat) ≠ 1 by decide)) hM_js_o
  have hX := hX.tr (cX.uF hU8 (Or.inr ⟨_, hG_ou, rfl⟩))
  refine lv_goto (tgt := 18) hx hb dL_best_9 (by decide) ?_
  refine lv_iconst (v := 0) hx hb dL_best_18 (by decide) ?_
  refine W.widen (k := 2) (n := 12) (Nat.le_of_ble_eq_true rfl) (Nat.le_of_ble_eq_true rfl) ?_
  exact W.iret (v := (0 : Int32)) hx hb hr (fun t ht hW => ⟨⟨_, (G4, w8), rfl, ⟨hX, Or.inr (Or.inr ⟨rfl, q4.1, (by obtain ⟨q9, k9, a9, u9, y1, y2, y3⟩ := q4.2; obtain ⟨w, h1, h2⟩ := hc8; exact ⟨q9, k9, a9, u9, y1, y2, w, h1, (by have h3 : w 0 = _ := h2; rw [h3, y3])⟩)⟩)⟩, by show va_P D vwCl w8 t.heap; rw [ht]; exact hP, hD, hT⟩, hS.F ht⟩) hS.2.2 dL_best_19
set_option maxHeartbeats 4000000 in
set_option maxRecDepth 100000 in
theorem c_L_bestOne_j (l : Launch) (hst : l.stackTraces = false) (D : va_G) (cy : Nat → ClassId) (A : Nat → Prop) (G : cG) (ws : va_W) (xb : Nat) (p0 : Int32) (ou : Nat) {bs_o js_o sh_o wk_o ll_o : Nat} {jc_o lc_o : Int32} {mo_o lb_o : Option Nat} {fa : Nat → Option Nat} {xj kj bj sj tj wj hj : Nat} {oj nj : Int64} {msj : List Value} {fsj : Nat → Int32} {cj : Nat} {fmj : Nat → Int32} (hD : va_D A ws) (hT : cT cy G ws) (hG_xb : G xb = some (7, 0, 0)) (hM_xb : cIn ws xb (.inr (8, [.ref bs_o, .ref js_o, .int jc_o, .ref sh_o, .ref wk_o, va_rf mo_o, .ref ll_o, .int lc_o, va_rf lb_o]))) (hG_ou : G ou = some (1, 1, 0)) (hM_js_o : cIn ws js_o (.inl (cy 4, cqa 8 fa))) (hJ1 : ∀ i : Nat, (i : Int) < jc_o.toInt → ∃ x, fa i = some x) (hJ : okJob jc_o p0 → jobS cy G ws fa p0.toNatClampNeg xj kj bj sj tj wj hj oj nj msj fsj) (hr9 : okJob jc_o p0 → ∀ y l, y < 4 → l < lnC wj hj y → 0 ≤ (fsj (y * 11 + l)).toInt ∧ (fsj (y * 11 + l)).toInt ≤ 6) (he9 : okJob jc_o p0 → ∀ s, s < wj * hj → ¬ (lb oj s = true ∧ lb nj s = true)) (hJ4 : okJob jc_o p0 → kj = 4 → msj = [.ref cj] ∧ cIn ws cj (.inl (cy 0, wj * hj, .inl fmj))) : Yi l D cy A yL_bestOne wsL_bestOne ({ frames := 8, cells := 2, slots := 12, locals := 191 }) 2 12 ws [.ref xb, .int p0, .ref ou] (fun r0 u => cX none (chs [1, 5, 20, 21, 22, 23]) G ws u.1 u.2 ∧ ((r0 = 1 ∧ ¬ (okJob jc_o p0 ∧ kj = 4)) ∨ (r0 = 2 ∧ (okJob jc_o p0 ∧ kj = 4) ∧ ∃ q k a u, wEn (2 ^ wj) hj (cGo wj oj nj fsj) (cFi 4 wj hj tj oj nj fsj) (fun _ _ => False) (beN fmj wj hj) ((0 : Int), (fun _ : Nat => (0 : Nat)), (0 : Nat)) (0, 0, 0) q k a u ∧ (q = 1 ∨ k = 0)) ∨ (r0 = 0 ∧ (okJob jc_o p0 ∧ kj = 4) ∧ ∃ q k a u9, wEn (2 ^ wj) hj (cGo wj oj nj fsj) (cFi 4 wj hj tj oj nj fsj) (fun _ _ => False) (beN fmj wj hj) ((0 : Int), (fun _ : Nat => (0 : Nat)), (0 : Nat)) (0, 0, 0) q k a u9 ∧ ¬ (q = 1 ∨ k = 0) ∧ ∃ w : Nat → Int64, cIn u.2 ou (.inl (cy 1, 1, .inr (.inl w))) ∧ w 0 = a.2.2))) := by
  refine va_MetW (cc := cL_bestOne) (maxL := 4) (ret := (some .int)) (by decide) rfl ?_
  intro p e s m args below meth c s₁ B hml hv
  obtain ⟨rfl, ⟨hP, hK, hA, hV⟩, hZ, hXT⟩ := hv
  have hx := B.exec
  have hb := B.bytes
  have hr := B.returns
  have hts := atoms_spec (ws := wsL_bestOne) B.pre
  have hown : s.vm.findClass RL = some m.cls := findClass_of_methodNamed B.named
  have hlocks := B.notSynchronized
  have htab := vx_table (x := yL_bestOne) B (hts (.codeWith yL_bestOne cL_bestOne 4 (some .int) [(0, 8, 11, 13), (0, 8, 14, 15)]) (by decide +kernel))
  have hS : va_S A s.heap s.heap [] := va_S.rf
  have hX : cX none (chs [1, 5, 20, 21, 22, 23]) G ws G ws := cX.rf
  have hl := lv_entry ([.ref xb, .int p0, .ref ou]) (n := 4) (Nat.le_of_ble_eq_true rfl)
  rw [lg_entry_eq]
  generalize (lg_sl ([.ref xb, .int p0, .ref ou]) ++ List.replicate (4 - (lg_sl ([.ref xb, .int p0, .ref ou])).length) Slot.unset).toArray = ls at hl ⊢
  have hl : lv_has ls 4 [(0, .ref xb), (1, .int p0), (2, .ref ou)] := hl
  have k_0 : (0 : Int32).toInt = 0 := by decide
  have k_1 : (1 : Int32).toInt = 1 := by decide
  have k_2 : (2 : Int32).toInt = 2 := by decide
  obtain ⟨hjc_o, hlc_o, hG_bs_o, hG_js_o, hG_sh_o, hG_wk_o, hmo_o, hG_ll_o, hlb_o⟩ := w7sh hD hT hG_xb hM_xb
  have hf_js_o := w9sh hD hT hG_js_o hM_js_o
  refine lv_aload_n hx hb dL_bestOne_0 rfl (lv_at hl 2 rfl) ?_
  refine lv_iconst (v := 0) hx hb dL_bestOne_1 (by decide) ?_
  refine lv_aload_n hx hb dL_bestOne_2 rfl (lv_at hl 0 rfl) ?_
  refine lv_iload_n hx hb dL_bestOne_3 rfl (lv_at hl 1 rfl) ?_
  refine x_calll (vx_runV (g := F0 m 4 ls ([.int p0, .ref xb, .int (0 : Int32), .ref ou])) (As := [.int p0]) (rest := [.int (0 : Int32), .ref ou]) ⟨hx, hb, hml, hown, hts⟩ (c_X9_bestOne_j l hst D cy A G ws xb p0 hD hT hG_xb hM_xb hM_js_o hJ1 hJ hr9 he9 hJ4) (cwV 1 hts gL_bestOne_X9_bestOne rfl rfl rfl (by decide +kernel) ⟨Nat.le_of_ble_eq_true rfl, Nat.le_of_ble_eq_true rfl⟩) (x_preV hM_xb rfl hP hK hA hS hV hZ hXT) rfl rfl hl.1 rfl (lv_room (Nat.le_of_ble_eq_true rfl)) dL_bestOne_4 ⟨Nat.le_of_ble_eq_true rfl, Nat.le_of_ble_eq_true rfl⟩) hS (fun E9 ce9 q9 u H locs px9 pe9 hP9 hD9 hT9 hS hc9 hv9 hcl9 => ?_) (fun r4 u H locs q4 hP9 hD9 hT9 hS => ?_)
  · skip
    obtain ⟨Gx4, wx4⟩ := u
    have hX9 : cX none (chs [1, 5, 20, 21, 22, 23]) G ws Gx4 wx4 := px9
    have hP : va_P D vwCl wx4 H := hP9
    have hD : va_D A wx4 := hD9
    have hT : cT cy Gx4 wx4 := hT9
    have hX := hX.tr hX9
    rcases pe9 with ⟨rfl, np9⟩ | ⟨rfl, np9⟩
    · skip
      refine vx_catch (own := RL) (name := xIA) (E := xIA) hown [] ⟨0, 8, 11, 13⟩ [⟨0, 8, 14, 15⟩] htab (fun z9 h9 => by simp at h9) (by decide) (by decide) (hts (.classLink RL 13 xIA) (by decide +kernel)) (hXT.1.2.1.use rfl) hc9 hv9 hcl9 ?_
      refine lv_astore_n (lv' := [(3, .ref q9), (0, .ref xb), (1, .int p0), (2, .ref ou)]) hx hb dL_bestOne_11 rfl hl (by decide) rfl (fun ls hl => ?_)
      refine lv_iconst (v := 1) hx hb dL_bestOne_12 (by decide) ?_
      refine W.widen (k := 2) (n := 12) (Nat.le_of_ble_eq_true rfl) (Nat.le_of_ble_eq_true rfl) ?_
      exact W.iret (v := (1 : Int32)) hx hb hr (fun t ht hW => ⟨⟨_, (Gx4, wx4), rfl, ⟨hX, Or.inl ⟨rfl, np9⟩⟩, by show va_P D vwCl wx4 t.heap; rw [ht]; exact hP, hD, hT⟩, hS.F ht⟩) hS.2.2 dL_bestOne_13
    · skip
      refine vx_catch (own := RL) (name := xIS) (E := xIS) hown [⟨0, 8, 11, 13⟩] ⟨0, 8, 14, 15⟩ [] htab (fun z9 h9 => by rcases List.mem_cons.mp h9 with rfl | h9; exact Or.inr ⟨by decide, xIA, hts (.classLink RL 13 xIA) (by decide +kernel), hXT.2.1.2.2.2⟩; simp at h9) (by decide) (by decide) (hts (.classLink RL 15 xIS) (by decide +kernel)) (hXT.1.2.2.1.use rfl) hc9 hv9 hcl9 ?_
      refine lv_astore_n (lv' := [(3, .ref q9), (0, .ref xb), (1, .int p0), (2, .ref ou)]) hx hb dL_bestOne_14 rfl hl (by decide) rfl (fun ls hl => ?_)
      refine lv_iconst (v := 2) hx hb dL_bestOne_15 (by decide) ?_
      refine W.widen (k := 2) (n := 12) (Nat.le_of_ble_eq_true rfl) (Nat.le_of_ble_eq_true rfl) ?_
      exact W.iret (v := (2 : Int32)) hx hb hr (fun t ht hW => ⟨⟨_, (Gx4, wx4), rfl, ⟨hX, Or.inr (Or.inl ⟨rfl, np9⟩)⟩, by show va_P D vwCl wx4 t.heap; rw [ht]; exact hP, hD, hT⟩, hS.F ht⟩) hS.2.2 dL_bestOne_16
  obtain ⟨G4, w4⟩ := u
  obtain ⟨hX9, q4⟩ := q4
  have hX9 : cX none (chs [1, 5, 20, 21, 22, 23]) G ws G4 w4 := hX9
  have hP : va_P D vwCl w4 H := hP9
  have hD : va_D A w4 := hD9
  have hT : cT cy G4 w4 := hT9
  have hM_xb := hX9.2.1 _ _ (cP.no hG_xb rfl) hM_xb
  have hM_js_o := hX9.2.1 _ _ (cP.no hG_js_o rfl) hM_js_o
  have hG_xb := hX9.1 _ _ hG_xb
  have hG_ou := hX9.1 _ _ hG_ou
  have hG_bs_o := hX9.1 _ _ hG_bs_o
  have hG_js_o := hX9.1 _ _ hG_js_o
  have hG_sh_o := hX9.1 _ _ hG_sh_o
  have hG_wk_o := hX9.1 _ _ hG_wk_o
  have hG_ll_o := hX9.1 _ _ hG_ll_o
  have hf_js_o := fun i9 x9 (h9 : i9 < 8) z9 => (hf_js_o i9 x9 h9 z9).elim fun k9 z8 => z8.elim fun n9 z7 => (⟨k9, n9, hX9.1 _ _ z7⟩ : ∃ k n, G4 x9 = some (3, k, n))
  have hX := hX.tr hX9
  refine t_lastf hx hb hK hP hD hS hT hG_ou (vp_in_iff.mpr ⟨by omega, by omega⟩) dL_bestOne_7 (fun H locs w7 hU7 hc7 hP hD hT hS => ?_)
  have hM_xb := hU7 _ _ (cne hG_xb hG_ou (show (7 : Nat) ≠ 1 by decide)) hM_xb
  have hM_js_o := hU7 _ _ (cne hG_js_o hG_ou (show (9 : Nat) ≠ 1 by decide)) hM_js_o
  have hX := hX.tr (cX.uF hU7 (Or.inr ⟨_, hG_ou, rfl⟩))
  refine lv_goto (tgt := 17) hx hb dL_bestOne_8 (by decide) ?_
  refine lv_iconst (v := 0) hx hb dL_bestOne_17 (by decide) ?_
  refine W.widen (k := 2) (n := 12) (Nat.le_of_ble_eq_true rfl) (Nat.le_of_ble_eq_true rfl) ?_
  exact W.iret (v := (0 : Int32)) hx hb hr (fun t ht hW => ⟨⟨_, (G4, w7), rfl, ⟨hX, Or.inr (Or.inr ⟨rfl, q4.1, (by obtain ⟨q9, k9, a9, u9, y1, y2, y3⟩ := q4.2; obtain ⟨w, h1, h2⟩ := hc7; exact ⟨q9, k9, a9, u9, y1, y2, w, h1, (by have h3 : w 0 = _ := h2; rw [h3, y3])⟩)⟩)⟩, by show va_P D vwCl w7 t.heap; rw [ht]; exact hP, hD, hT⟩, hS.F ht⟩) hS.2.2 dL_bestOne_18

theorem be_law {cy : Nat → ClassId} {G : cG} {W : va_W} {fa : Nat → Option Nat} {jc : Int32} {J : Nat → JT} {r : Nat → Nat → Int32} {f : Nat → Int32} (h : RJ cy G W fa jc J r) (hI : MI f r) (ej : jc = f 1) {j k th : Int32} {P Q : Nat × Int32 × Int64 → Prop} (hx : (k = 1 ∧ ¬ (okJob jc j ∧ jK (J j.toNatClampNeg) = 4)) ∨ (k = 2 ∧ (okJob jc j ∧ jK (J j.toNatClampNeg) = 4) ∧ ∃ q k a u, wEn (2 ^ (jW (J j.toNatClampNeg))) (jH (J j.toNatClampNeg)) (cGo (jW (J j.toNatClampNeg)) (jO (J j.toNatClampNeg)) (jNn (J j.toNatClampNeg)) (jF (J j.toNatClampNeg))) (cFi 4 (jW (J j.toNatClampNeg)) (jH (J j.toNatClampNeg)) (jL (J j.toNatClampNeg)) (jO (J j.toNatClampNeg)) (jNn (J j.toNatClampNeg)) (jF (J j.toNatClampNeg))) (fun _ _ => False) (beN (jG (J j.toNatClampNeg)) (jW (J j.toNatClampNeg)) (jH (J j.toNatClampNeg))) ((0 : Int), (fun _ : Nat => (0 : Nat)), (0 : Nat)) (0, 0, 0) q k a u ∧ (q = 1 ∨ k = 0)) ∨ (k = 0 ∧ (okJob jc j ∧ jK (J j.toNatClampNeg) = 4) ∧ ∃ q k a u, wEn (2 ^ (jW (J j.toNatClampNeg))) (jH (J j.toNatClampNeg)) (cGo (jW (J j.toNatClampNeg)) (jO (J j.toNatClampNeg)) (jNn (J j.toNatClampNeg)) (jF (J j.toNatClampNeg))) (cFi 4 (jW (J j.toNatClampNeg)) (jH (J j.toNatClampNeg)) (jL (J j.toNatClampNeg)) (jO (J j.toNatClampNeg)) (jNn (J j.toNatClampNeg)) (jF (J j.toNatClampNeg))) (fun _ _ => False) (beN (jG (J j.toNatClampNeg)) (jW (J j.toNatClampNeg)) (jH (J j.toNatClampNeg))) ((0 : Int), (fun _ : Nat => (0 : Nat)), (0 : Nat)) (0, 0, 0) q k a u ∧ ¬ (q = 1 ∨ k = 0) ∧ P a)) (hy : (th = 1 ∧ ¬ (okJob jc j ∧ r 2 j.toNatClampNeg = 3)) ∨ (th = 2 ∧ (okJob jc j ∧ r 2 j.toNatClampNeg = 3) ∧ ∃ q k a u, wEn (2 ^ (r 3 j.toNatClampNeg).toNatClampNeg) (r 4 j.toNatClampNeg).toNatClampNeg (rGo j.toNatClampNeg r) (rFi j.toNatClampNeg r) (fun _ _ => False) (beN (fun s => r 8 (36 * j.toNatClampNeg + s)) (r 3 j.toNatClampNeg).toNatClampNeg (r 4 j.toNatClampNeg).toNatClampNeg) ((0 : Int), (fun _ : Nat => (0 : Nat)), (0 : Nat)) (0, 0, 0) q k a u ∧ (q = 1 ∨ k = 0)) ∨ (th = 0 ∧ (okJob jc j ∧ r 2 j.toNatClampNeg = 3) ∧ ∃ q k a u, wEn (2 ^ (r 3 j.toNatClampNeg).toNatClampNeg) (r 4 j.toNatClampNeg).toNatClampNeg (rGo j.toNatClampNeg r) (rFi j.toNatClampNeg r) (fun _ _ => False) (beN (fun s => r 8 (36 * j.toNatClampNeg + s)) (r 3 j.toNatClampNeg).toNatClampNeg (r 4 j.toNatClampNeg).toNatClampNeg) ((0 : Int), (fun _ : Nat => (0 : Nat)), (0 : Nat)) (0, 0, 0) q k a u ∧ ¬ (q = 1 ∨ k = 0) ∧ Q a)) : th = k ∧ (k = 0 → ∃ a, P a ∧ Q a) := by
  have om : (okJob jc j ∧ jK (J j.toNatClampNeg) = 4) ↔ (okJob jc j ∧ r 2 j.toNatClampNeg = 3) := by
    constructor
    · rintro ⟨a, b⟩; exact ⟨a, kcl_4.mp ((h.at a).2.2.1.symm.trans b)⟩
    · rintro ⟨a, b⟩; exact ⟨a, (h.at a).2.2.1.trans (kcl_4.mpr b)⟩
  have cv : okJob jc j ∧ jK (J j.toNatClampNeg) = 4 → ∀ {q k : Nat} {a : Nat × Int32 × Int64} {u : wS}, wEn (2 ^ (jW (J j.toNatClampNeg))) (jH (J j.toNatClampNeg)) (cGo (jW (J j.toNatClampNeg)) (jO (J j.toNatClampNeg)) (jNn (J j.toNatClampNeg)) (jF (J j.toNatClampNeg))) (cFi 4 (jW (J j.toNatClampNeg)) (jH (J j.toNatClampNeg)) (jL (J j.toNatClampNeg)) (jO (J j.toNatClampNeg)) (jNn (J j.toNatClampNeg)) (jF (J j.toNatClampNeg))) (fun _ _ => False) (beN (jG (J j.toNatClampNeg)) (jW (J j.toNatClampNeg)) (jH (J j.toNatClampNeg))) ((0 : Int), (fun _ : Nat => (0 : Nat)), (0 : Nat)) (0, 0, 0) q k a u → wEn (2 ^ (r 3 j.toNatClampNeg).toNatClampNeg) (r 4 j.toNatClampNeg).toNatClampNeg (rGo j.toNatClampNeg r) (rFi j.toNatClampNeg r) (fun _ _ => False) (beN (fun s => r 8 (36 * j.toNatClampNeg + s)) (r 3 j.toNatClampNeg).toNatClampNeg (r 4 j.toNatClampNeg).toNatClampNeg) ((0 : Int), (fun _ : Nat => (0 : Nat)), (0 : Nat)) (0, 0, 0) q k a u := fun ok {q k a u} e => by
    have sz := h.sz ok.1
    have T := (h.at ok.1).2.2
    obtain ⟨-, -, -, -, -, -, -, a8, -⟩ := T
    have eb := beN_cg (E := 0) (h0 := 0) (Go := fun _ _ => True) (Fi := fun _ => True) (s0 := (0, fun _ => 0, 0)) (a8 ok.2)
    rw [eb, sz.1, sz.2] at e
    exact se_en h hI ej ok.1 sz.1 sz.2 ok.2 e
  rcases hx with ⟨a1, a2⟩ | ⟨a1, a2, q, k', a, u, a3, a4⟩ | ⟨a1, a2, q, k', a, u, a3, a4, a5⟩
  · rcases hy with ⟨b1, b2⟩ | ⟨b1, b2, -⟩ | ⟨b1, b2, -⟩
    · exact ⟨b1.trans a1.symm, fun z => absurd (a1.symm.trans z) (by decide)⟩
    · exact absurd (om.mpr b2) a2
    · exact absurd (om.mpr b2) a2
  · rcases hy with ⟨b1, b2⟩ | ⟨b1, b2, -⟩ | ⟨b1, b2, q', k'', a', u', b3, b4, b5⟩
    · exact absurd (om.mp a2) b2
    · exact ⟨b1.trans a1.symm, fun z => absurd (a1.symm.trans z) (by decide)⟩
    · obtain ⟨e1, e2, -, -⟩ := wEn_det (cv a2 a3) b3
      rw [e1, e2] at a4
      exact absurd a4 b4
  · rcases hy with ⟨b1, b2⟩ | ⟨b1, b2, q', k'', a', u', b3, b4⟩ | ⟨b1, b2, q', k'', a', u', b3, b4, b5⟩
    · exact absurd (om.mp a2) b2
    · obtain ⟨e1, e2, -, -⟩ := wEn_det (cv a2 a3) b3
      rw [← e1, ← e2] at b4
      exact absurd b4 a4
    · obtain ⟨-, -, e3, -⟩ := wEn_det (cv a2 a3) b3
      subst e3
      exact ⟨b1.trans a1.symm, fun _ => ⟨a, a5, b5⟩⟩

/-- the class's jobs are the reference's jobs, content and all -/
def RlJ (cy : Nat → ClassId) (xo : Nat) (G : cG) (W : va_W) (f : Nat → Int32) (r : Nat → Nat → Int32) : Prop := ∃ (bs js sh wk ll : Nat) (lc : Int32) (mo lb : Option Nat) (fa : Nat → Option Nat) (J : Nat → JT), cIn W xo (.inr (8, [.ref bs, .ref js, .int (f 1), .ref sh, .ref wk, va_rf mo, .ref ll, .int lc, va_rf lb])) ∧ cIn W js (.inl (cy 4, cqa 8 fa)) ∧ RJ cy G W fa (f 1) J r
section RLJ
variable {cy : Nat → ClassId} {A : Nat → Prop} {xo z1 z2 : Nat} {G G1 : cG} {W W1 : va_W} {f f1 : Nat → Int32} {r r1 : Nat → Nat → Int32} {fa : Nat → Option Nat} {J : Nat → JT} {jc : Int32}
theorem RlJ.at (h : RlJ cy xo G W f r) (hD : va_D A W) {bs js sh wk ll : Nat} {jc lc : Int32} {mo lb : Option Nat} (hM : cIn W xo (.inr (8, [.ref bs, .ref js, .int jc, .ref sh, .ref wk, va_rf mo, .ref ll, .int lc, va_rf lb]))) : jc = f 1 ∧ ∃ fa J, cIn W js (.inl (cy 4, cqa 8 fa)) ∧ RJ cy G W fa jc J r := by
  obtain ⟨bs', js', sh', wk', ll', lc', mo', lb', fa, J, h1, h2, h3⟩ := h
  have z := cIn.eq hD hM h1
  simp only [Sum.inr.injEq, Prod.mk.injEq, List.cons.injEq, Value.int.injEq, Value.ref.injEq, and_true, true_and] at z
  obtain ⟨-, e2, e3, -⟩ := z
  subst e2
  subst e3
  exact ⟨rfl, fa, J, h2, h3⟩
theorem RlJ.shp (h : RlJ cy xo G W f r) (hD : va_D A W) (hT : cT cy G W) (hG : G xo = some (7, z1, z2)) {ch : List Nat} (hX : cX none (chs ch) G W G1 W1) (h9 : chs ch 9 = false) (h3 : chs ch 3 = false) (h14 : chs ch 14 = false) {bs js sh wk ll bs1 sh1 wk1 ll1 : Nat} {jc lc lc1 : Int32} {mo lb mo1 lb1 : Option Nat} (hM : cIn W xo (.inr (8, [.ref bs, .ref js, .int jc, .ref sh, .ref wk, va_rf mo, .ref ll, .int lc, va_rf lb]))) (hM1 : cIn W1 xo (.inr (8, [.ref bs1, .ref js, .int jc, .ref sh1, .ref wk1, va_rf mo1, .ref ll1, .int lc1, va_rf lb1]))) (ef : f1 1 = f 1) (e2 : r1 2 = r 2) (e3 : r1 3 = r 3) (e4 : r1 4 = r 4) (e5 : r1 5 = r 5) (e6 : r1 6 = r 6) (e7 : r1 7 = r 7) (e8 : r1 8 = r 8) : RlJ cy xo G1 W1 f1 r1 := by
  obtain ⟨e, fa, J, a1, a2⟩ := h.at hD hM
  obtain ⟨-, -, -, hGj, -⟩ := w7sh hD hT hG hM
  refine ⟨bs1, js, sh1, wk1, ll1, lc1, mo1, lb1, fa, J, (by rw [ef, ← e]; exact hM1), hX.2.1 _ _ (cP.no hGj h9) a1, ?_⟩
  rw [ef, ← e]
  exact a2.keep hD hT hX h3 h14 e2 e3 e4 e5 e6 e7 e8
theorem RlJ.keep (h : RlJ cy xo G W f r) (hD : va_D A W) (hT : cT cy G W) (hG : G xo = some (7, z1, z2)) {ch : List Nat} (hX : cX none (chs ch) G W G1 W1) (h7 : chs ch 7 = false) (h9 : chs ch 9 = false) (h3 : chs ch 3 = false) (h14 : chs ch 14 = false) (ef : f1 1 = f 1) (e2 : r1 2 = r 2) (e3 : r1 3 = r 3) (e4 : r1 4 = r 4) (e5 : r1 5 = r 5) (e6 : r1 6 = r 6) (e7 : r1 7 = r 7) (e8 : r1 8 = r 8) : RlJ cy xo G1 W1 f1 r1 := by
  obtain ⟨bs, js, sh, wk, ll, lc, mo, lb, fa, J, a1, -⟩ := id h
  exact h.shp hD hT hG hX h9 h3 h14 a1 (hX.2.1 _ _ (cP.no hG h7) a1) ef e2 e3 e4 e5 e6 e7 e8
/-- cells of other kinds stay where one job changes -/
theorem RJ.fr (h : RJ cy G W fa jc J r) (hD : va_D A W) (hT : cT cy G W) {j : Int32} {P : Nat → Prop} (hF : cF P W W1) (hq : (okJob jc j ∧ ∀ z, P z → z = jX (J j.toNatClampNeg) ∨ z = jS (J j.toNatClampNeg) ∨ (jK (J j.toNatClampNeg) = 4 ∧ z = jC (J j.toNatClampNeg))) ∨ W1 = W) {z : Nat} {t : Nat × Nat × Nat} (hg : G z = some t) (h3 : t.1 ≠ 3) (h14 : t.1 ≠ 14) {e : va_E} (he : cIn W z e) : cIn W1 z e := by
  rcases hq with ⟨ok, hP⟩ | rfl
  · obtain ⟨k1, k2, k3⟩ := (h.at ok).kinds hD hT
    refine hF _ _ (fun y => ?_) he
    rcases hP _ y with y | y | ⟨y4, y⟩
    · exact cne hg k1 h3 y
    · exact cne hg k2 h14 y
    · exact cne hg (k3 y4) h14 y
  · exact he
end RLJ
section LW6
variable {p : Program} {l : Launch} {e : Env} {R : Room} {s : State} {m : MethodId} {args : Array Value} {below : List Frame} {meth : Method} {c : Code} {H : Heap} {locs : List Loc} {cells slots : Nat} {Q : State → Prop}
variable {y : MethodName} {bytes cc : ByteArray} {maxL nL n index mc ms : Nat} {ret : Option FieldType} {wc Ts : List Cond} {rm : Room} {own C : String} {As rest st0 av : List Value} {pc : Nat} {ls : Array Slot} {D : va_G} {cy : Nat → ClassId} {xo mo ou : Nat} {a : Nat → Nat} {M : Option Nat} {G : cG} {W' : va_W} {f : Nat → Int32} {g : Nat → Int64} {r : Nat → Nat → Int32} {q : Nat → Nat → Int64} {a9 : Array Value}
theorem lk6 {post : Int32 → va_W → Prop} {P : Nat → Prop} (I : LI D cy s xo mo ou a M G W' f g r q H locs) (hr : va_Run p l e R s m args below meth c H locs cells slots mc ms (F0 m pc ls st0) rest (va_Qi (fun r0 u => ∃ w1, u = (G, w1) ∧ cF P W' w1 ∧ post r0 w1) (cB D cy (AC s mo a)) (AC s mo a) a9) (AC s mo a))
    (hsh : ∀ r0 w1, cF P W' w1 → post r0 w1 → ∀ e, cIn W' xo e → cIn w1 xo e)
    (kk : ∀ (r0 : Int32) (w1 : va_W) (H1 : Heap) (locs1 : List Loc), cF P W' w1 → post r0 w1 → LI D cy s xo mo ou a M G w1 f g r q H1 locs1 → W p l e R s m args below meth c H1 locs1 (cells + mc) (slots + ms) Q (F0 m (pc + 3) ls (.int r0 :: rest))) : W p l e R s m args below meth c H locs cells slots Q (F0 m pc ls st0) :=
  va_calli hr I.2.2.2.2.2.2.2.2.1 (fun _ _ h => h.1) (fun _ h => h.1) (fun r0 u t H1 locs1 ht hvm hp hB hz hk hS => by
    obtain ⟨h1, h2, h3⟩ := hB
    obtain ⟨w1, rfl, hF, hp⟩ := hp
    rw [ht] at h1
    obtain ⟨bs, js, sh, wk, ll, jc, lc, lb, hM⟩ := I.2.2.2.2.2.2.2.1
    exact kk r0 w1 H1 locs1 hF hp (I.cla h1 h2 h3 cE.rf ⟨bs, js, sh, wk, ll, jc, lc, lb, hsh r0 w1 hF hp _ hM⟩ hz hk hS))
end LW6
section LWR
variable {p : Program} {l : Launch} {e : Env} {R : Room} {s : State} {m : MethodId} {args : Array Value} {below : List Frame} {meth : Method} {c : Code} {H : Heap} {locs : List Loc} {cells slots : Nat} {Q : State → Prop}
variable {y : MethodName} {bytes cc : ByteArray} {maxL nL n index mc ms : Nat} {ret : Option FieldType} {wc Ts : List Cond} {rm : Room} {own C : String} {As rest st0 av : List Value} {pc : Nat} {ls : Array Slot} {D : va_G} {cy : Nat → ClassId} {xo mo ou : Nat} {a : Nat → Nat} {M : Option Nat} {G : cG} {W' : va_W} {f : Nat → Int32} {g : Nat → Int64} {r : Nat → Nat → Int32} {q : Nat → Nat → Int64} {a9 : Array Value}
theorem lk3_i {ch : List Nat} {post : Int32 → cS → Prop} (I : LI D cy s xo mo ou a M G W' f g r q H locs) (hr : va_Run p l e R s m args below meth c H locs cells slots mc ms (F0 m pc ls st0) rest (va_Qi (fun r0 u => cX none (chs ch) G W' u.1 u.2 ∧ post r0 u) (cB D cy (AC s mo a)) (AC s mo a) a9) (AC s mo a)) (h7 : chs ch 7 = false)
    (kk : ∀ (r0 : Int32) (u : cS) (H1 : Heap) (locs1 : List Loc), post r0 u → cX none (chs ch) G W' u.1 u.2 → LI D cy s xo mo ou a M u.1 u.2 f g r q H1 locs1 → W p l e R s m args below meth c H1 locs1 (cells + mc) (slots + ms) Q (F0 m (pc + 3) ls (.int r0 :: rest))) : W p l e R s m args below meth c H locs cells slots Q (F0 m pc ls st0) :=
  va_calli hr I.2.2.2.2.2.2.2.2.1 (fun _ _ h => h.1) (fun _ h => h.1) (fun r0 u t H1 locs1 ht hvm hp hB hz hk hS => by
    obtain ⟨h1, h2, h3⟩ := hB
    rw [ht] at h1
    obtain ⟨bs, js, sh, wk, ll, jc, lc, lb, hM⟩ := I.2.2.2.2.2.2.2.1
    exact kk r0 u H1 locs1 hp.2 hp.1 (I.cla h1 h2 h3 hp.1.1 ⟨bs, js, sh, wk, ll, jc, lc, lb, hp.1.2.1 _ _ (cP.no I.2.2.2.2.1 h7) hM⟩ hz hk hS))
theorem lk3_l {ch : List Nat} {post : Int64 → cS → Prop} (I : LI D cy s xo mo ou a M G W' f g r q H locs) (hr : va_Run p l e R s m args below meth c H locs cells slots mc ms (F0 m pc ls st0) rest (va_Ql (fun r0 u => cX none (chs ch) G W' u.1 u.2 ∧ post r0 u) (cB D cy (AC s mo a)) (AC s mo a) a9) (AC s mo a)) (h7 : chs ch 7 = false)
    (kk : ∀ (r0 : Int64) (u : cS) (H1 : Heap) (locs1 : List Loc), post r0 u → cX none (chs ch) G W' u.1 u.2 → LI D cy s xo mo ou a M u.1 u.2 f g r q H1 locs1 → W p l e R s m args below meth c H1 locs1 (cells + mc) (slots + ms) Q (F0 m (pc + 3) ls (.long r0 :: rest))) : W p l e R s m args below meth c H locs cells slots Q (F0 m pc ls st0) :=
  va_calll hr I.2.2.2.2.2.2.2.2.1 (fun _ _ h => h.1) (fun _ h => h.1) (fun r0 u t H1 locs1 ht hvm hp hB hz hk hS => by
    obtain ⟨h1, h2, h3⟩ := hB
    rw [ht] at h1
    obtain ⟨bs, js, sh, wk, ll, jc, lc, lb, hM⟩ := I.2.2.2.2.2.2.2.1
    exact kk r0 u H1 locs1 hp.2 hp.1 (I.cla h1 h2 h3 hp.1.1 ⟨bs, js, sh, wk, ll, jc, lc, lb, hp.1.2.1 _ _ (cP.no I.2.2.2.2.1 h7) hM⟩ hz hk hS))
theorem lk3_ri {post : Int32 → cS → Prop} (I : LI D cy s xo mo ou a M G W' f g r q H locs) (hr : va_Run p l e R s m args below meth c H locs cells slots mc ms (F0 m pc ls st0) rest (va_Qi (fun r0 u => u = (G, W') ∧ post r0 u) (cB D cy (AC s mo a)) (AC s mo a) a9) (AC s mo a))
    (kk : ∀ (r0 : Int32) (u : cS) (H1 : Heap) (locs1 : List Loc), post r0 u → cX none (chs []) G W' u.1 u.2 → LI D cy s xo mo ou a M u.1 u.2 f g r q H1 locs1 → W p l e R s m args below meth c H1 locs1 (cells + mc) (slots + ms) Q (F0 m (pc + 3) ls (.int r0 :: rest))) : W p l e R s m args below meth c H locs cells slots Q (F0 m pc ls st0) :=
  va_calli hr I.2.2.2.2.2.2.2.2.1 (fun _ _ h => h.1) (fun _ h => h.1) (fun r0 u t H1 locs1 ht hvm hp hB hz hk hS => by
    obtain ⟨h1, h2, h3⟩ := hB
    obtain ⟨rfl, hp⟩ := hp
    rw [ht] at h1
    exact kk r0 _ H1 locs1 hp cX.rf (I.cla h1 h2 h3 cE.rf I.2.2.2.2.2.2.2.1 hz hk hS))
theorem lk3_rl {post : Int64 → cS → Prop} (I : LI D cy s xo mo ou a M G W' f g r q H locs) (hr : va_Run p l e R s m args below meth c H locs cells slots mc ms (F0 m pc ls st0) rest (va_Ql (fun r0 u => u = (G, W') ∧ post r0 u) (cB D cy (AC s mo a)) (AC s mo a) a9) (AC s mo a))
    (kk : ∀ (r0 : Int64) (u : cS) (H1 : Heap) (locs1 : List Loc), post r0 u → cX none (chs []) G W' u.1 u.2 → LI D cy s xo mo ou a M u.1 u.2 f g r q H1 locs1 → W p l e R s m args below meth c H1 locs1 (cells + mc) (slots + ms) Q (F0 m (pc + 3) ls (.long r0 :: rest))) : W p l e R s m args below meth c H locs cells slots Q (F0 m pc ls st0) :=
  va_calll hr I.2.2.2.2.2.2.2.2.1 (fun _ _ h => h.1) (fun _ h => h.1) (fun r0 u t H1 locs1 ht hvm hp hB hz hk hS => by
    obtain ⟨h1, h2, h3⟩ := hB
    obtain ⟨rfl, hp⟩ := hp
    rw [ht] at h1
    exact kk r0 _ H1 locs1 hp cX.rf (I.cla h1 h2 h3 cE.rf I.2.2.2.2.2.2.2.1 hz hk hS))
theorem lk3_s {ch : List Nat} {post : Int32 → cS → Prop} (I : LI D cy s xo mo ou a M G W' f g r q H locs) (hr : va_Run p l e R s m args below meth c H locs cells slots mc ms (F0 m pc ls st0) rest (va_Qi (fun r0 u => cX none (chs ch) G W' u.1 u.2 ∧ post r0 u) (cB D cy (AC s mo a)) (AC s mo a) a9) (AC s mo a))
    (hsh : ∀ r0 u, post r0 u → ∃ (bs js sh wk ll : Nat) (jc lc : Int32) (lb : Option Nat), cIn u.2 xo (.inr (8, [.ref bs, .ref js, .int jc, .ref sh, .ref wk, va_rf M, .ref ll, .int lc, va_rf lb])))
    (kk : ∀ (r0 : Int32) (u : cS) (H1 : Heap) (locs1 : List Loc), post r0 u → cX none (chs ch) G W' u.1 u.2 → LI D cy s xo mo ou a M u.1 u.2 f g r q H1 locs1 → W p l e R s m args below meth c H1 locs1 (cells + mc) (slots + ms) Q (F0 m (pc + 3) ls (.int r0 :: rest))) : W p l e R s m args below meth c H locs cells slots Q (F0 m pc ls st0) :=
  va_calli hr I.2.2.2.2.2.2.2.2.1 (fun _ _ h => h.1) (fun _ h => h.1) (fun r0 u t H1 locs1 ht hvm hp hB hz hk hS => by
    obtain ⟨h1, h2, h3⟩ := hB
    obtain ⟨hX, hp⟩ := hp
    rw [ht] at h1
    exact kk r0 _ H1 locs1 hp hX (I.cla h1 h2 h3 hX.1 (hsh r0 u hp) hz hk hS))
end LWR

section ANS6
variable {cy : Nat → ClassId} {G : cG} {W : va_W} {fa : Nat → Option Nat} {jc : Int32} {J : Nat → JT} {r : Nat → Nat → Int32} {j x y : Int32}
theorem un_eq (h : RJ cy G W fa jc J r) {way : Int32} (hx : (okUn9 jc j way ∧ x = (if tB (jL (J j.toNatClampNeg)) way.toNatClampNeg then 1 else 0)) ∨ (¬ okUn9 jc j way ∧ x = -1)) (hy : (okUn9 jc j way ∧ y = (if r 6 (4 * j.toNatClampNeg + way.toNatClampNeg) = 0 then 0 else 1)) ∨ (¬ okUn9 jc j way ∧ y = -1)) : x = y := by
  rcases hx with ⟨a, b⟩ | ⟨a, b⟩ <;> rcases hy with ⟨c, d⟩ | ⟨c, d⟩
  · have w0 := a.2
    have cw := m_cl (x := way) (by omega)
    have e := (h.at a.1).2.2.2.2.2.1 way.toNatClampNeg (by omega)
    rw [b, d]
    cases hb : tB (jL (J j.toNatClampNeg)) way.toNatClampNeg
    · rw [if_pos (e.mpr hb)]; rfl
    · rw [if_neg (show ¬ r 6 (4 * j.toNatClampNeg + way.toNatClampNeg) = 0 from fun z => by rw [e.mp z] at hb; cases hb)]; rfl
  · exact absurd a c
  · exact absurd c a
  · rw [b, d]
theorem ho_eq (h : RJ cy G W fa jc J r) {s how : Int32} (hx : (okHold9 jc (jW (J j.toNatClampNeg)) (jH (J j.toNatClampNeg)) j s how ∧ x = hH (jO (J j.toNatClampNeg)) (jNn (J j.toNatClampNeg)) s.toNatClampNeg) ∨ (¬ okHold9 jc (jW (J j.toNatClampNeg)) (jH (J j.toNatClampNeg)) j s how ∧ x = -1)) (hy : (okHold9 jc (r 3 j.toNatClampNeg).toNatClampNeg (r 4 j.toNatClampNeg).toNatClampNeg j s how ∧ y = r 7 (36 * j.toNatClampNeg + s.toNatClampNeg)) ∨ (¬ okHold9 jc (r 3 j.toNatClampNeg).toNatClampNeg (r 4 j.toNatClampNeg).toNatClampNeg j s how ∧ y = -1)) : x = y := by
  rcases hx with ⟨a, b⟩ | ⟨a, b⟩ <;> rcases hy with ⟨c, d⟩ | ⟨c, d⟩
  · have w0 := a.2.1
    have cw := m_cl (x := s) w0.1
    rw [b, d]
    exact ((h.at a.1).2.2.2.2.2.2.2.1 s.toNatClampNeg (by omega)).1.symm
  · have sz := h.sz a.1; exact absurd ⟨a.1, by rw [← sz.1, ← sz.2]; exact a.2.1, a.2.2⟩ c
  · have sz := h.sz c.1; exact absurd ⟨c.1, by rw [sz.1, sz.2]; exact c.2.1, c.2.2⟩ a
  · rw [b, d]
theorem ma_eq (h : RJ cy G W fa jc J r) {s v : Int32} (hx : (okMark9 jc (jW (J j.toNatClampNeg)) (jH (J j.toNatClampNeg)) j s v ∧ ((jK (J j.toNatClampNeg) = 4 ∧ Bo x (¬ jG (J j.toNatClampNeg) s.toNatClampNeg = v)) ∨ (¬ jK (J j.toNatClampNeg) = 4 ∧ x = -4))) ∨ (¬ okMark9 jc (jW (J j.toNatClampNeg)) (jH (J j.toNatClampNeg)) j s v ∧ x = -1)) (hy : (okMark9 jc (r 3 j.toNatClampNeg).toNatClampNeg (r 4 j.toNatClampNeg).toNatClampNeg j s v ∧ ((r 2 j.toNatClampNeg = 3 ∧ y = (if r 8 (36 * j.toNatClampNeg + s.toNatClampNeg) = v then 0 else 1)) ∨ (¬ r 2 j.toNatClampNeg = 3 ∧ y = -4))) ∨ (¬ okMark9 jc (r 3 j.toNatClampNeg).toNatClampNeg (r 4 j.toNatClampNeg).toNatClampNeg j s v ∧ y = -1)) : x = y := by
  rcases hx with ⟨a, b⟩ | ⟨a, b⟩ <;> rcases hy with ⟨c, d⟩ | ⟨c, d⟩
  · have w0 := a.2.1
    have cw := m_cl (x := s) w0.1
    have kk := (h.at a.1).2.2.1
    rcases b with ⟨k4, b⟩ | ⟨k4, b⟩ <;> rcases d with ⟨r3, d⟩ | ⟨r3, d⟩
    · have e := (h.at a.1).2.2.2.2.2.2.2.2.2.1 k4 s.toNatClampNeg (by omega)
      rw [d, ← e]
      rcases b with ⟨b1, b2⟩ | ⟨b1, b2⟩
      · rw [b1, if_neg b2]
      · rw [b1, if_pos (Classical.not_not.mp b2)]
    · exact absurd (kcl_4.mp (kk.symm.trans k4)) r3
    · exact absurd (kk.trans (kcl_4.mpr r3)) k4
    · rw [b, d]
  · have sz := h.sz a.1; exact absurd ⟨a.1, by rw [← sz.1, ← sz.2]; exact a.2.1, a.2.2⟩ c
  · have sz := h.sz c.1; exact absurd ⟨c.1, by rw [sz.1, sz.2]; exact c.2.1, c.2.2⟩ a
  · rw [b, d]
theorem su_eq (h : RJ cy G W fa jc J r) {way line v : Int32} (hx : (okSum9 jc (jW (J j.toNatClampNeg)) (jH (J j.toNatClampNeg)) j way line v ∧ x = 0) ∨ (¬ okSum9 jc (jW (J j.toNatClampNeg)) (jH (J j.toNatClampNeg)) j way line v ∧ x = -1)) (hy : (okSum9 jc (r 3 j.toNatClampNeg).toNatClampNeg (r 4 j.toNatClampNeg).toNatClampNeg j way line v ∧ y = 0) ∨ (¬ okSum9 jc (r 3 j.toNatClampNeg).toNatClampNeg (r 4 j.toNatClampNeg).toNatClampNeg j way line v ∧ y = -1)) : x = y := by
  rcases hx with ⟨a, b⟩ | ⟨a, b⟩ <;> rcases hy with ⟨c, d⟩ | ⟨c, d⟩
  · rw [b, d]
  · have sz := h.sz a.1; exact absurd ⟨a.1, by rw [← sz.1, ← sz.2]; exact a.2.1, a.2.2⟩ c
  · have sz := h.sz c.1; exact absurd ⟨c.1, by rw [sz.1, sz.2]; exact c.2.1, c.2.2⟩ a
  · rw [b, d]
theorem ca_eq (h : RJ cy G W fa jc J r) {way b0 : Int32} {p : Int64} (hx : (okCast9 jc (jW (J j.toNatClampNeg)) (jH (J j.toNatClampNeg)) j way p ∧ x = b0) ∨ (¬ okCast9 jc (jW (J j.toNatClampNeg)) (jH (J j.toNatClampNeg)) j way p ∧ x = -1)) (hy : (okCast9 jc (r 3 j.toNatClampNeg).toNatClampNeg (r 4 j.toNatClampNeg).toNatClampNeg j way p ∧ y = b0) ∨ (¬ okCast9 jc (r 3 j.toNatClampNeg).toNatClampNeg (r 4 j.toNatClampNeg).toNatClampNeg j way p ∧ y = -1)) : x = y := by
  rcases hx with ⟨a, b⟩ | ⟨a, b⟩ <;> rcases hy with ⟨c, d⟩ | ⟨c, d⟩
  · rw [b, d]
  · have sz := h.sz a.1; exact absurd ⟨a.1, a.2.1, by rw [← sz.1, ← sz.2]; exact a.2.2⟩ c
  · have sz := h.sz c.1; exact absurd ⟨c.1, c.2.1, by rw [sz.1, sz.2]; exact c.2.2⟩ a
  · rw [b, d]
theorem to_eq (h : RJ cy G W fa jc J r) {way line : Int32} (hx : toA jc (jW (J j.toNatClampNeg)) (jH (J j.toNatClampNeg)) (fun l => if tB (jL (J j.toNatClampNeg)) way.toNatClampNeg then jF (J j.toNatClampNeg) (way.toNatClampNeg * 11 + l) else -2) j way line x) (hy : toA jc (r 3 j.toNatClampNeg).toNatClampNeg (r 4 j.toNatClampNeg).toNatClampNeg (fun l => if r 6 (4 * j.toNatClampNeg + way.toNatClampNeg) = 0 then -2 else r 5 (44 * j.toNatClampNeg + 11 * way.toNatClampNeg + l)) j way line y) : x = y := by
  rcases hx with ⟨a, b⟩ | ⟨a, b⟩ <;> rcases hy with ⟨c, d⟩ | ⟨c, d⟩
  · have sz := h.sz a.1.1
    by_cases z : line.toInt = -1
    · rw [if_pos z] at b d
      apply Int32.toInt_inj.mp
      rw [b, d, sz.1, sz.2]
    · rw [if_neg z] at b d
      have w0 := a.1.2
      have cw := m_cl (x := way) (by omega)
      rcases a.2 with z2 | z2
      · exact absurd z2 z
      · have e := (h.at a.1.1).2.2.2.2.2.1 way.toNatClampNeg (by omega)
        have cl := m_cl (x := line) z2.2.1
        have l2 := z2.2.2
        have e5 := (h.at a.1.1).2.2.2.2.2.2.1 way.toNatClampNeg line.toNatClampNeg (by omega) (by omega)
        rw [b, d]
        show (if _ then _ else _) = (if _ then _ else _)
        cases hb : tB (jL (J j.toNatClampNeg)) way.toNatClampNeg
        · rw [if_pos (e.mpr hb)]; rfl
        · rw [hb] at e5
          rw [if_neg (show ¬ r 6 (4 * j.toNatClampNeg + way.toNatClampNeg) = 0 from fun z => by rw [e.mp z] at hb; cases hb)]
          exact e5
  · have sz := h.sz a.1.1
    rw [sz.1, sz.2] at a
    exact absurd a c
  · have sz := h.sz c.1.1
    rw [← sz.1, ← sz.2] at c
    exact absurd c a
  · rw [b, d]
end ANS6

