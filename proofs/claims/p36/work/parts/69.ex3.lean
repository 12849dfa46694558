set_option maxHeartbeats 4000000 in
set_option maxRecDepth 100000 in
theorem c_X9_thingToKeep_xn (l : Launch) (D : va_G) (cy : Nat → ClassId) (A : Nat → Prop) (G : cG) (ws : va_W) (what : Int32) (p0 : Int64)  (hD : va_D A ws) (hT : cT cy G ws)   : Ca l D cy A yX9_thingToKeep wsX9_thingToKeep ({ frames := 0, cells := 0, slots := 0, locals := 0 }) 0 0 ws [.int what, .null, .long p0] (fun r0 u => cX none (chs []) G ws u.1 u.2 ∧ (r0 = none)) := by
  refine Met.ofW (cc := cX9_thingToKeep) (maxL := 4) (ret := (some (.object "ShadowBench$Held"))) (by decide) rfl ?_
  intro p e s m args below meth c s₁ B hml hv
  obtain ⟨rfl, hP, hK, hA, hV⟩ := hv
  have hx := B.exec
  have hb := B.bytes
  have hr := B.returns
  have hts := atoms_spec (ws := wsX9_thingToKeep) B.pre
  have hown : s.vm.findClass RX9 = some m.cls := findClass_of_methodNamed B.named
  have hlocks := B.notSynchronized
  have hS : va_S A s.heap s.heap [] := va_S.rf
  have hX : cX none (chs []) G ws G ws := cX.rf
  have hl := lv_entry ([.int what, .null, .long p0]) (n := 4) (Nat.le_of_ble_eq_true rfl)
  rw [lg_entry_eq]
  generalize (lg_sl ([.int what, .null, .long p0]) ++ List.replicate (4 - (lg_sl ([.int what, .null, .long p0])).length) Slot.unset).toArray = ls at hl ⊢
  have hl : lv_has ls 4 [(0, .int what), (1, .null), (2, .long p0)] := hl
  have k_0 : (0 : Int32).toInt = 0 := by decide
  refine lv_aload_nN hx hb dX9_thingToKeep_0 rfl (lv_at hl 1 rfl) ?_
  refine lv_ifnonnullN hx hb dX9_thingToKeep_1 ?_
  refine lv_null hx hb dX9_thingToKeep_4 ?_
  exact W.aret (v := .null) hx hb hr (Or.inl ⟨_, rfl⟩) (Or.inl rfl) (fun t ht hW => ⟨⟨none, (G, ws), rfl, ⟨hX, rfl⟩, by show va_P D vwCl ws t.heap; rw [ht]; exact hP, hD, hT⟩, hS.F ht⟩) hS.2.2 dX9_thingToKeep_5
set_option maxHeartbeats 4000000 in
set_option maxRecDepth 100000 in
theorem c_X9_make_c (l : Launch) (D : va_G) (cy : Nat → ClassId) (A : Nat → Prop) (G : cG) (ws : va_W) (o : Nat) (d : Int32) (what : Int32) (n1 : Int32) {bs_o js_o sh_o wk_o ll_o : Nat} {jc_o lc_o : Int32} {mo_o lb_o : Option Nat} {fb : Nat → Option Nat} (hD : va_D A ws) (hT : cT cy G ws) (hG_o : G o = some (7, 0, 0)) (hM_o : cIn ws o (.inr (8, [.ref bs_o, .ref js_o, .int jc_o, .ref sh_o, .ref wk_o, va_rf mo_o, .ref ll_o, .int lc_o, va_rf lb_o]))) (hM_sh_o : cIn ws sh_o (.inl (cy 5, cqa 8 fb)))  : Ci l D cy A yX9_make wsX9_make ({ frames := 3, cells := 2, slots := 62, locals := 62 }) 2 62 ws [.ref o, .int d, .int what, .int n1] (fun r0 u => cX none (chs [10]) G ws u.1 u.2 ∧ (r0 = mkAns d what n1 ∧ ((mkOk d what n1 ∧ ∃ x a z, cIn u.2 sh_o (.inl (cy 5, cqa 8 (va_up fb d.toNatClampNeg (some x)))) ∧ u.1 x = some (4, n1.toNatClampNeg, 0) ∧ u.1 a = some (16, n1.toNatClampNeg, 0) ∧ (∀ e, ¬ cIn ws a e) ∧ cIn u.2 x (.inr (6, [.int z, .ref a])) ∧ cIn u.2 a (.inl (cy 1, n1.toNatClampNeg, .inr (.inl (fun _ => 0)))) ∧ ((z = 1 ∧ what.toInt = 3) ∨ (z = 0 ∧ what.toInt = 4))) ∨ (¬ mkOk d what n1 ∧ cIn u.2 sh_o (.inl (cy 5, cqa 8 fb)))))) := by
  refine Met.ofW (cc := cX9_make) (maxL := 4) (ret := (some .int)) (by decide) rfl ?_
  intro p e s m args below meth c s₁ B hml hv
  obtain ⟨rfl, hP, hK, hA, hV⟩ := hv
  have hx := B.exec
  have hb := B.bytes
  have hr := B.returns
  have hts := atoms_spec (ws := wsX9_make) B.pre
  have hown : s.vm.findClass RX9 = some m.cls := findClass_of_methodNamed B.named
  have hlocks := B.notSynchronized
  have hS : va_S A s.heap s.heap [] := va_S.rf
  have hX : cX none (chs [10]) G ws G ws := cX.rf
  have hl := lv_entry ([.ref o, .int d, .int what, .int n1]) (n := 4) (Nat.le_of_ble_eq_true rfl)
  rw [lg_entry_eq]
  generalize (lg_sl ([.ref o, .int d, .int what, .int n1]) ++ List.replicate (4 - (lg_sl ([.ref o, .int d, .int what, .int n1])).length) Slot.unset).toArray = ls at hl ⊢
  have hl : lv_has ls 4 [(0, .ref o), (1, .int d), (2, .int what), (3, .int n1)] := hl
  have k_m14 : (-14 : Int32).toInt = -14 := by decide
  have k_m1 : (-1 : Int32).toInt = -1 := by decide
  have k_0 : (0 : Int32).toInt = 0 := by decide
  have k_1 : (1 : Int32).toInt = 1 := by decide
  have k_3 : (3 : Int32).toInt = 3 := by decide
  have k_4 : (4 : Int32).toInt = 4 := by decide
  have k_60 : (60 : Int32).toInt = 60 := by decide
  obtain ⟨hjc_o, hlc_o, hG_bs_o, hG_js_o, hG_sh_o, hG_wk_o, hmo_o, hG_ll_o, hlb_o⟩ := w7sh hD hT hG_o hM_o
  have hf_sh_o := w10sh hD hT hG_sh_o hM_sh_o
  refine lv_iload_n hx hb dX9_make_0 rfl (lv_at hl 1 rfl) ?_
  refine t_pu (As := [.int d]) (rest := []) ⟨hx, hb, hml, hown, hts⟩ (c_X9_isShelf l d ) (va_cwS 1 hts gX9_make_X9_isShelf rfl rfl rfl (by decide +kernel) ⟨Nat.le_of_ble_eq_true rfl, Nat.le_of_ble_eq_true rfl⟩) hP rfl hl.1 rfl (Nat.le_of_ble_eq_true rfl) dX9_make_1 ⟨Nat.le_of_ble_eq_true rfl, Nat.le_of_ble_eq_true rfl⟩ hS (fun r1 H locs q1 hP hS => ?_)
  refine lv_if_eq (tgt := 23) hx hb dX9_make_4 (by decide) (fun c4 => ?_) (fun c4 => ?_)
  · skip
    have b4 := bo_f q1 c4
    refine lv_iconst (v := (-1)) hx hb dX9_make_23 (by decide) ?_
    refine W.widen (k := 2) (n := 62) (Nat.le_of_ble_eq_true rfl) (Nat.le_of_ble_eq_true rfl) ?_
    exact W.iret (v := ((-1) : Int32)) hx hb hr (fun t ht hW => ⟨⟨_, (G, ws), rfl, ⟨hX, ⟨(by unfold mkAns; split <;> (try split) <;> first | rfl | (exfalso; omega)), Or.inr ⟨(by unfold mkOk; omega), hM_sh_o⟩⟩⟩, by show va_P D vwCl ws t.heap; rw [ht]; exact hP, hD, hT⟩, hS.F ht⟩) hS.2.2 dX9_make_24
  · skip
    have b4 := bo_t q1 c4
    refine lv_iload_n hx hb dX9_make_7 rfl (lv_at hl 2 rfl) ?_
    refine lv_iconst (v := 3) hx hb dX9_make_8 (by decide) ?_
    refine lv_icmp_eq (tgt := 17) hx hb dX9_make_9 (by decide) (fun c9 => ?_) (fun c9 => ?_)
    · skip
      have d9 := c9
      rw [fa_eq] at d9
      refine lv_iload_n hx hb dX9_make_17 rfl (lv_at hl 3 rfl) ?_
      refine lv_bipush (v := 60) hx hb dX9_make_18 (by decide) ?_
      refine lv_icmp_le (tgt := 25) hx hb dX9_make_20 (by decide) (fun c20 => ?_) (fun c20 => ?_)
      · skip
        have d20 := c20
        rw [fa_le] at d20
        refine lv_iload_n hx hb dX9_make_25 rfl (lv_at hl 3 rfl) ?_
        refine lv_if_ge (tgt := 32) hx hb dX9_make_26 (by decide) (fun c26 => ?_) (fun c26 => ?_)
        · skip
          have d26 := c26
          rw [fa_le] at d26
          refine lv_aload_n hx hb dX9_make_32 rfl (lv_at hl 0 rfl) ?_
          refine t_get (v := .ref sh_o) (C := RX9) (T := TX9) (N := 9) hx hb hts (by decide +kernel) hown hK hP hM_o rfl 3 (by decide) (hts (.fieldLink RX9 27 "ShadowBench" "shelves" "[LShadowBench$Held;") (by decide +kernel)) (fun _ h9 => h9) rfl dX9_make_33 ?_
          refine lv_iload_n hx hb dX9_make_36 rfl (lv_at hl 1 rfl) ?_
          refine t_new (C := RX7) (T := TX7) (N := 2) (ci := 6) (ty0 := tyX7) (fs := [.int 0, .null]) hx hb hts (by decide +kernel) tyX7_ok hown (hts (.classLink RX9 245 RX7) (by decide +kernel)) (hts (.instantiable RX7 2) (by decide +kernel)) (hts (.initialized RX7) (by decide +kernel)) hK hP hD hS hA hT rfl (by decide +kernel) (Nat.le_of_ble_eq_true rfl) (Nat.le_of_ble_eq_true rfl) dX9_make_37 (fun q37 H w37 hM_q37 hO_q37 hF37 hX37 hk37 hP hD hT hS => ?_)
          have hN_q37 := hX.new0 hO_q37 hF37
          have hM_o := hk37 _ _ hM_o
          have hM_sh_o := hk37 _ _ hM_sh_o
          have hX := hX.tr (hX37 _ _)
          refine lv_dup hx hb dX9_make_40 rfl ?_
          refine lv_iload_n hx hb dX9_make_41 rfl (lv_at hl 2 rfl) ?_
          refine lv_iconst (v := 3) hx hb dX9_make_42 (by decide) ?_
          refine lv_icmp_ne (tgt := 50) hx hb dX9_make_43 (by decide) (fun c43 => ?_) (fun c43 => ?_)
          · skip
            have d43 := c43
            rw [fa_eq] at d43
            refine lv_iconst (v := 0) hx hb dX9_make_50 (by decide) ?_
            refine lv_iload_n hx hb dX9_make_51 rfl (lv_at hl 3 rfl) ?_
            refine t_callv (va_runI (g := F0 m 52 ls ([.int n1, .int (0 : Int32), .ref q37, .ref q37, .int d, .ref sh_o])) (As := [.int (0 : Int32), .int n1]) (rest := [.ref q37, .int d, .ref sh_o]) (b := q37) ⟨hx, hb, hml, hown, hts⟩ (c_X7_init_zi l D cy A G w37 q37 (0 : Int32) n1 hD hT hO_q37 hM_q37 (Or.inl rfl) (by omega)) (cwI 2 hts gX9_make_X7_init rfl rfl rfl (hts (.initialized RX7) (by decide +kernel)) (hts (.methodLink RX9 247 yX7_init) (by decide +kernel)) (hts (.instanceMethod yX7_init) (by decide +kernel)) rfl (by decide +kernel) ⟨Nat.le_of_ble_eq_true rfl, Nat.le_of_ble_eq_true rfl⟩) (c_preS hP hK hA hS hV) rfl rfl hl.1 rfl (lv_room (Nat.le_of_ble_eq_true rfl)) dX9_make_52 ⟨Nat.le_of_ble_eq_true rfl, Nat.le_of_ble_eq_true rfl⟩) hS (fun u H locs q52 hP9 hD9 hT9 hS => ?_)
            obtain ⟨G52, w52⟩ := u
            obtain ⟨hX9, q52⟩ := q52
            have hX9 : cX (some q37) (chs []) G w37 G52 w52 := hX9
            obtain ⟨hqo52, a52, hG9_a52, hN9_a52, hMx52, hMa52⟩ := q52
            have q52 := And.intro hqo52 True.intro
            have hN_a52 := hX.new0 (hT.no hN9_a52) hN9_a52
            have hP : va_P D vwCl w52 H := hP9
            have hD : va_D A w52 := hD9
            have hT : cT cy G52 w52 := hT9
            have hM_o := hX9.2.1 _ _ (cP.no1 (Ne.symm (cne0 hO_q37 hG_o)) hG_o rfl) hM_o
            have hM_sh_o := hX9.2.1 _ _ (cP.no1 (Ne.symm (cne0 hO_q37 hG_sh_o)) hG_sh_o rfl) hM_sh_o
            have hG_o := hX9.1 _ _ hG_o
            have hG_bs_o := hX9.1 _ _ hG_bs_o
            have hG_js_o := hX9.1 _ _ hG_js_o
            have hG_sh_o := hX9.1 _ _ hG_sh_o
            have hG_wk_o := hX9.1 _ _ hG_wk_o
            have hG_ll_o := hX9.1 _ _ hG_ll_o
            have hf_sh_o := fun i9 x9 (h9 : i9 < 8) z9 => hf10_up hX9.1 (hf_sh_o i9 x9 h9 z9)
            have hmo_o := fun x9 z9 => hX9.1 _ _ (hmo_o x9 z9)
            have hlb_o : ∀ x9, lb_o = some x9 → ∃ w9 h9, _ = some (2, w9, h9) := fun x9 z9 => (hlb_o x9 z9).elim fun w9 z9 => z9.elim fun h9 z9 => ⟨w9, h9, hX9.1 _ _ z9⟩
            have hG_q37 : G52 q37 = some (4, n1.toNatClampNeg, 0) := q52.1
            have q52 := q52.2
            have hX := hX.trN hN_q37 (hX9.wk (chs_sub (by decide)))
            have hG_a52 : G52 a52 = some (16, n1.toNatClampNeg, 0) := hG9_a52
            have hM_q37 : cIn w52 q37 (.inr (6, [.int (0 : Int32), .ref a52])) := hMx52
            have hM_a52 : cIn w52 a52 (.inl (cy 1, n1.toNatClampNeg, .inr (.inl (fun _ => 0)))) := hMa52
            refine t_aast10f hx hb hV hK hP hD hS hT hG_sh_o hM_sh_o hf_sh_o (Or.inr ⟨_, hG_q37⟩) (vp_in_iff.mpr ⟨by omega, by omega⟩) dX9_make_55 (fun H locs w55 hU55 hM9_sh_o hf9_sh_o hP hD hT hS => ?_)
            have hM_o := hU55 _ _ (cne hG_o hG_sh_o (show (7 : Nat) ≠ 10 by decide)) hM_o
            have hM_q37 := hU55 _ _ (cne hG_q37 hG_sh_o (show (4 : Nat) ≠ 10 by decide)) hM_q37
            have hM_a52 := hU55 _ _ (cne hG_a52 hG_sh_o (show (16 : Nat) ≠ 10 by decide)) hM_a52
            have hM_sh_o := hM9_sh_o
            have hf_sh_o := hf9_sh_o
            have hX := hX.tr (cX.uF hU55 (Or.inr ⟨_, hG_sh_o, rfl⟩))
            refine lv_iconst (v := 0) hx hb dX9_make_56 (by decide) ?_
            refine W.widen (k := 2) (n := 62) (Nat.le_of_ble_eq_true rfl) (Nat.le_of_ble_eq_true rfl) ?_
            exact W.iret (v := (0 : Int32)) hx hb hr (fun t ht hW => ⟨⟨_, (G52, w55), rfl, ⟨hX, ⟨(by unfold mkAns; split <;> (try split) <;> first | rfl | (exfalso; omega)), Or.inl ⟨(by unfold mkOk; omega), _, _, _, hM_sh_o, hG_q37, hG_a52, hN_a52, hM_q37, hM_a52, (by first | exact Or.inl ⟨rfl, by omega⟩ | exact Or.inr ⟨rfl, by omega⟩)⟩⟩⟩, by show va_P D vwCl w55 t.heap; rw [ht]; exact hP, hD, hT⟩, hS.F ht⟩) hS.2.2 dX9_make_57
          · skip
            have d43 := c43
            rw [fa_eq] at d43
            refine lv_iconst (v := 1) hx hb dX9_make_46 (by decide) ?_
            refine lv_goto (tgt := 51) hx hb dX9_make_47 (by decide) ?_
            refine lv_iload_n hx hb dX9_make_51 rfl (lv_at hl 3 rfl) ?_
            refine t_callv (va_runI (g := F0 m 52 ls ([.int n1, .int (1 : Int32), .ref q37, .ref q37, .int d, .ref sh_o])) (As := [.int (1 : Int32), .int n1]) (rest := [.ref q37, .int d, .ref sh_o]) (b := q37) ⟨hx, hb, hml, hown, hts⟩ (c_X7_init_zi l D cy A G w37 q37 (1 : Int32) n1 hD hT hO_q37 hM_q37 (Or.inr rfl) (by omega)) (cwI 2 hts gX9_make_X7_init rfl rfl rfl (hts (.initialized RX7) (by decide +kernel)) (hts (.methodLink RX9 247 yX7_init) (by decide +kernel)) (hts (.instanceMethod yX7_init) (by decide +kernel)) rfl (by decide +kernel) ⟨Nat.le_of_ble_eq_true rfl, Nat.le_of_ble_eq_true rfl⟩) (c_preS hP hK hA hS hV) rfl rfl hl.1 rfl (lv_room (Nat.le_of_ble_eq_true rfl)) dX9_make_52 ⟨Nat.le_of_ble_eq_true rfl, Nat.le_of_ble_eq_true rfl⟩) hS (fun u H locs q52 hP9 hD9 hT9 hS => ?_)
            obtain ⟨G52, w52⟩ := u
            obtain ⟨hX9, q52⟩ := q52
            have hX9 : cX (some q37) (chs []) G w37 G52 w52 := hX9
            obtain ⟨hqo52, a52, hG9_a52, hN9_a52, hMx52, hMa52⟩ := q52
            have q52 := And.intro hqo52 True.intro
            have hN_a52 := hX.new0 (hT.no hN9_a52) hN9_a52
            have hP : va_P D vwCl w52 H := hP9
            have hD : va_D A w52 := hD9
            have hT : cT cy G52 w52 := hT9
            have hM_o := hX9.2.1 _ _ (cP.no1 (Ne.symm (cne0 hO_q37 hG_o)) hG_o rfl) hM_o
            have hM_sh_o := hX9.2.1 _ _ (cP.no1 (Ne.symm (cne0 hO_q37 hG_sh_o)) hG_sh_o rfl) hM_sh_o
            have hG_o := hX9.1 _ _ hG_o
            have hG_bs_o := hX9.1 _ _ hG_bs_o
            have hG_js_o := hX9.1 _ _ hG_js_o
            have hG_sh_o := hX9.1 _ _ hG_sh_o
            have hG_wk_o := hX9.1 _ _ hG_wk_o
            have hG_ll_o := hX9.1 _ _ hG_ll_o
            have hf_sh_o := fun i9 x9 (h9 : i9 < 8) z9 => hf10_up hX9.1 (hf_sh_o i9 x9 h9 z9)
            have hmo_o := fun x9 z9 => hX9.1 _ _ (hmo_o x9 z9)
            have hlb_o : ∀ x9, lb_o = some x9 → ∃ w9 h9, _ = some (2, w9, h9) := fun x9 z9 => (hlb_o x9 z9).elim fun w9 z9 => z9.elim fun h9 z9 => ⟨w9, h9, hX9.1 _ _ z9⟩
            have hG_q37 : G52 q37 = some (4, n1.toNatClampNeg, 0) := q52.1
            have q52 := q52.2
            have hX := hX.trN hN_q37 (hX9.wk (chs_sub (by decide)))
            have hG_a52 : G52 a52 = some (16, n1.toNatClampNeg, 0) := hG9_a52
            have hM_q37 : cIn w52 q37 (.inr (6, [.int (1 : Int32), .ref a52])) := hMx52
            have hM_a52 : cIn w52 a52 (.inl (cy 1, n1.toNatClampNeg, .inr (.inl (fun _ => 0)))) := hMa52
            refine t_aast10f hx hb hV hK hP hD hS hT hG_sh_o hM_sh_o hf_sh_o (Or.inr ⟨_, hG_q37⟩) (vp_in_iff.mpr ⟨by omega, by omega⟩) dX9_make_55 (fun H locs w55 hU55 hM9_sh_o hf9_sh_o hP hD hT hS => ?_)
            have hM_o := hU55 _ _ (cne hG_o hG_sh_o (show (7 : Nat) ≠ 10 by decide)) hM_o
            have hM_q37 := hU55 _ _ (cne hG_q37 hG_sh_o (show (4 : Nat) ≠ 10 by decide)) hM_q37
            have hM_a52 := hU55 _ _ (cne hG_a52 hG_sh_o (show (16 : Nat) ≠ 10 by decide)) hM_a52
            have hM_sh_o := hM9_sh_o
            have hf_sh_o := hf9_sh_o
            have hX := hX.tr (cX.uF hU55 (Or.inr ⟨_, hG_sh_o, rfl⟩))
            refine lv_iconst (v := 0) hx hb dX9_make_56 (by decide) ?_
            refine W.widen (k := 2) (n := 62) (Nat.le_of_ble_eq_true rfl) (Nat.le_of_ble_eq_true rfl) ?_
            exact W.iret (v := (0 : Int32)) hx hb hr (fun t ht hW => ⟨⟨_, (G52, w55), rfl, ⟨hX, ⟨(by unfold mkAns; split <;> (try split) <;> first | rfl | (exfalso; omega)), Or.inl ⟨(by unfold mkOk; omega), _, _, _, hM_sh_o, hG_q37, hG_a52, hN_a52, hM_q37, hM_a52, (by first | exact Or.inl ⟨rfl, by omega⟩ | exact Or.inr ⟨rfl, by omega⟩)⟩⟩⟩, by show va_P D vwCl w55 t.heap; rw [ht]; exact hP, hD, hT⟩, hS.F ht⟩) hS.2.2 dX9_make_57
        · skip
          have d26 := c26
          rw [fa_le] at d26
          refine lv_bipush (v := (-14)) hx hb dX9_make_29 (by decide) ?_
          refine W.widen (k := 2) (n := 62) (Nat.le_of_ble_eq_true rfl) (Nat.le_of_ble_eq_true rfl) ?_
          exact W.iret (v := ((-14) : Int32)) hx hb hr (fun t ht hW => ⟨⟨_, (G, ws), rfl, ⟨hX, ⟨(by unfold mkAns; split <;> (try split) <;> first | rfl | (exfalso; omega)), Or.inr ⟨(by unfold mkOk; omega), hM_sh_o⟩⟩⟩, by show va_P D vwCl ws t.heap; rw [ht]; exact hP, hD, hT⟩, hS.F ht⟩) hS.2.2 dX9_make_31
      · skip
        have d20 := c20
        rw [fa_le] at d20
        refine lv_iconst (v := (-1)) hx hb dX9_make_23 (by decide) ?_
        refine W.widen (k := 2) (n := 62) (Nat.le_of_ble_eq_true rfl) (Nat.le_of_ble_eq_true rfl) ?_
        exact W.iret (v := ((-1) : Int32)) hx hb hr (fun t ht hW => ⟨⟨_, (G, ws), rfl, ⟨hX, ⟨(by unfold mkAns; split <;> (try split) <;> first | rfl | (exfalso; omega)), Or.inr ⟨(by unfold mkOk; omega), hM_sh_o⟩⟩⟩, by show va_P D vwCl ws t.heap; rw [ht]; exact hP, hD, hT⟩, hS.F ht⟩) hS.2.2 dX9_make_24
    · skip
      have d9 := c9
      rw [fa_eq] at d9
      refine lv_iload_n hx hb dX9_make_12 rfl (lv_at hl 2 rfl) ?_
      refine lv_iconst (v := 4) hx hb dX9_make_13 (by decide) ?_
      refine lv_icmp_ne (tgt := 23) hx hb dX9_make_14 (by decide) (fun c14 => ?_) (fun c14 => ?_)
      · skip
        have d14 := c14
        rw [fa_eq] at d14
        refine lv_iconst (v := (-1)) hx hb dX9_make_23 (by decide) ?_
        refine W.widen (k := 2) (n := 62) (Nat.le_of_ble_eq_true rfl) (Nat.le_of_ble_eq_true rfl) ?_
        exact W.iret (v := ((-1) : Int32)) hx hb hr (fun t ht hW => ⟨⟨_, (G, ws), rfl, ⟨hX, ⟨(by unfold mkAns; split <;> (try split) <;> first | rfl | (exfalso; omega)), Or.inr ⟨(by unfold mkOk; omega), hM_sh_o⟩⟩⟩, by show va_P D vwCl ws t.heap; rw [ht]; exact hP, hD, hT⟩, hS.F ht⟩) hS.2.2 dX9_make_24
      · skip
        have d14 := c14
        rw [fa_eq] at d14
        refine lv_iload_n hx hb dX9_make_17 rfl (lv_at hl 3 rfl) ?_
        refine lv_bipush (v := 60) hx hb dX9_make_18 (by decide) ?_
        refine lv_icmp_le (tgt := 25) hx hb dX9_make_20 (by decide) (fun c20 => ?_) (fun c20 => ?_)
        · skip
          have d20 := c20
          rw [fa_le] at d20
          refine lv_iload_n hx hb dX9_make_25 rfl (lv_at hl 3 rfl) ?_
          refine lv_if_ge (tgt := 32) hx hb dX9_make_26 (by decide) (fun c26 => ?_) (fun c26 => ?_)
          · skip
            have d26 := c26
            rw [fa_le] at d26
            refine lv_aload_n hx hb dX9_make_32 rfl (lv_at hl 0 rfl) ?_
            refine t_get (v := .ref sh_o) (C := RX9) (T := TX9) (N := 9) hx hb hts (by decide +kernel) hown hK hP hM_o rfl 3 (by decide) (hts (.fieldLink RX9 27 "ShadowBench" "shelves" "[LShadowBench$Held;") (by decide +kernel)) (fun _ h9 => h9) rfl dX9_make_33 ?_
            refine lv_iload_n hx hb dX9_make_36 rfl (lv_at hl 1 rfl) ?_
            refine t_new (C := RX7) (T := TX7) (N := 2) (ci := 6) (ty0 := tyX7) (fs := [.int 0, .null]) hx hb hts (by decide +kernel) tyX7_ok hown (hts (.classLink RX9 245 RX7) (by decide +kernel)) (hts (.instantiable RX7 2) (by decide +kernel)) (hts (.initialized RX7) (by decide +kernel)) hK hP hD hS hA hT rfl (by decide +kernel) (Nat.le_of_ble_eq_true rfl) (Nat.le_of_ble_eq_true rfl) dX9_make_37 (fun q37 H w37 hM_q37 hO_q37 hF37 hX37 hk37 hP hD hT hS => ?_)
            have hN_q37 := hX.new0 hO_q37 hF37
            have hM_o := hk37 _ _ hM_o
            have hM_sh_o := hk37 _ _ hM_sh_o
            have hX := hX.tr (hX37 _ _)
            refine lv_dup hx hb dX9_make_40 rfl ?_
            refine lv_iload_n hx hb dX9_make_41 rfl (lv_at hl 2 rfl) ?_
            refine lv_iconst (v := 3) hx hb dX9_make_42 (by decide) ?_
            refine lv_icmp_ne (tgt := 50) hx hb dX9_make_43 (by decide) (fun c43 => ?_) (fun c43 => ?_)
            · skip
              have d43 := c43
              rw [fa_eq] at d43
              refine lv_iconst (v := 0) hx hb dX9_make_50 (by decide) ?_
              refine lv_iload_n hx hb dX9_make_51 rfl (lv_at hl 3 rfl) ?_
              refine t_callv (va_runI (g := F0 m 52 ls ([.int n1, .int (0 : Int32), .ref q37, .ref q37, .int d, .ref sh_o])) (As := [.int (0 : Int32), .int n1]) (rest := [.ref q37, .int d, .ref sh_o]) (b := q37) ⟨hx, hb, hml, hown, hts⟩ (c_X7_init_zi l D cy A G w37 q37 (0 : Int32) n1 hD hT hO_q37 hM_q37 (Or.inl rfl) (by omega)) (cwI 2 hts gX9_make_X7_init rfl rfl rfl (hts (.initialized RX7) (by decide +kernel)) (hts (.methodLink RX9 247 yX7_init) (by decide +kernel)) (hts (.instanceMethod yX7_init) (by decide +kernel)) rfl (by decide +kernel) ⟨Nat.le_of_ble_eq_true rfl, Nat.le_of_ble_eq_true rfl⟩) (c_preS hP hK hA hS hV) rfl rfl hl.1 rfl (lv_room (Nat.le_of_ble_eq_true rfl)) dX9_make_52 ⟨Nat.le_of_ble_eq_true rfl, Nat.le_of_ble_eq_true rfl⟩) hS (fun u H locs q52 hP9 hD9 hT9 hS => ?_)
              obtain ⟨G52, w52⟩ := u
              obtain ⟨hX9, q52⟩ := q52
              have hX9 : cX (some q37) (chs []) G w37 G52 w52 := hX9
              obtain ⟨hqo52, a52, hG9_a52, hN9_a52, hMx52, hMa52⟩ := q52
              have q52 := And.intro hqo52 True.intro
              have hN_a52 := hX.new0 (hT.no hN9_a52) hN9_a52
              have hP : va_P D vwCl w52 H := hP9
              have hD : va_D A w52 := hD9
              have hT : cT cy G52 w52 := hT9
              have hM_o := hX9.2.1 _ _ (cP.no1 (Ne.symm (cne0 hO_q37 hG_o)) hG_o rfl) hM_o
              have hM_sh_o := hX9.2.1 _ _ (cP.no1 (Ne.symm (cne0 hO_q37 hG_sh_o)) hG_sh_o rfl) hM_sh_o
              have hG_o := hX9.1 _ _ hG_o
              have hG_bs_o := hX9.1 _ _ hG_bs_o
              have hG_js_o := hX9.1 _ _ hG_js_o
              have hG_sh_o := hX9.1 _ _ hG_sh_o
              have hG_wk_o := hX9.1 _ _ hG_wk_o
              have hG_ll_o := hX9.1 _ _ hG_ll_o
              have hf_sh_o := fun i9 x9 (h9 : i9 < 8) z9 => hf10_up hX9.1 (hf_sh_o i9 x9 h9 z9)
              have hmo_o := fun x9 z9 => hX9.1 _ _ (hmo_o x9 z9)
              have hlb_o : ∀ x9, lb_o = some x9 → ∃ w9 h9, _ = some (2, w9, h9) := fun x9 z9 => (hlb_o x9 z9).elim fun w9 z9 => z9.elim fun h9 z9 => ⟨w9, h9, hX9.1 _ _ z9⟩
              have hG_q37 : G52 q37 = some (4, n1.toNatClampNeg, 0) := q52.1
              have q52 := q52.2
              have hX := hX.trN hN_q37 (hX9.wk (chs_sub (by decide)))
              have hG_a52 : G52 a52 = some (16, n1.toNatClampNeg, 0) := hG9_a52
              have hM_q37 : cIn w52 q37 (.inr (6, [.int (0 : Int32), .ref a52])) := hMx52
              have hM_a52 : cIn w52 a52 (.inl (cy 1, n1.toNatClampNeg, .inr (.inl (fun _ => 0)))) := hMa52
              refine t_aast10f hx hb hV hK hP hD hS hT hG_sh_o hM_sh_o hf_sh_o (Or.inr ⟨_, hG_q37⟩) (vp_in_iff.mpr ⟨by omega, by omega⟩) dX9_make_55 (fun H locs w55 hU55 hM9_sh_o hf9_sh_o hP hD hT hS => ?_)
              have hM_o := hU55 _ _ (cne hG_o hG_sh_o (show (7 : Nat) ≠ 10 by decide)) hM_o
              have hM_q37 := hU55 _ _ (cne hG_q37 hG_sh_o (show (4 : Nat) ≠ 10 by decide)) hM_q37
              have hM_a52 := hU55 _ _ (cne hG_a52 hG_sh_o (show (16 : Nat) ≠ 10 by decide)) hM_a52
              have hM_sh_o := hM9_sh_o
              have hf_sh_o := hf9_sh_o
              have hX := hX.tr (cX.uF hU55 (Or.inr ⟨_, hG_sh_o, rfl⟩))
              refine lv_iconst (v := 0) hx hb dX9_make_56 (by decide) ?_
              refine W.widen (k := 2) (n := 62) (Nat.le_of_ble_eq_true rfl) (Nat.le_of_ble_eq_true rfl) ?_
              exact W.iret (v := (0 : Int32)) hx hb hr (fun t ht hW => ⟨⟨_, (G52, w55), rfl, ⟨hX, ⟨(by unfold mkAns; split <;> (try split) <;> first | rfl | (exfalso; omega)), Or.inl ⟨(by unfold mkOk; omega), _, _, _, hM_sh_o, hG_q37, hG_a52, hN_a52, hM_q37, hM_a52, (by first | exact Or.inl ⟨rfl, by omega⟩ | exact Or.inr ⟨rfl, by omega⟩)⟩⟩⟩, by show va_P D vwCl w55 t.heap; rw [ht]; exact hP, hD, hT⟩, hS.F ht⟩) hS.2.2 dX9_make_57
            · skip
              have d43 := c43
              rw [fa_eq] at d43
              refine lv_iconst (v := 1) hx hb dX9_make_46 (by decide) ?_
              refine lv_goto (tgt := 51) hx hb dX9_make_47 (by decide) ?_
              refine lv_iload_n hx hb dX9_make_51 rfl (lv_at hl 3 rfl) ?_
              refine t_callv (va_runI (g := F0 m 52 ls ([.int n1, .int (1 : Int32), .ref q37, .ref q37, .int d, .ref sh_o])) (As := [.int (1 : Int32), .int n1]) (rest := [.ref q37, .int d, .ref sh_o]) (b := q37) ⟨hx, hb, hml, hown, hts⟩ (c_X7_init_zi l D cy A G w37 q37 (1 : Int32) n1 hD hT hO_q37 hM_q37 (Or.inr rfl) (by omega)) (cwI 2 hts gX9_make_X7_init rfl rfl rfl (hts (.initialized RX7) (by decide +kernel)) (hts (.methodLink RX9 247 yX7_init) (by decide +kernel)) (hts (.instanceMethod yX7_init) (by decide +kernel)) rfl (by decide +kernel) ⟨Nat.le_of_ble_eq_true rfl, Nat.le_of_ble_eq_true rfl⟩) (c_preS hP hK hA hS hV) rfl rfl hl.1 rfl (lv_room (Nat.le_of_ble_eq_true rfl)) dX9_make_52 ⟨Nat.le_of_ble_eq_true rfl, Nat.le_of_ble_eq_true rfl⟩) hS (fun u H locs q52 hP9 hD9 hT9 hS => ?_)
              obtain ⟨G52, w52⟩ := u
              obtain ⟨hX9, q52⟩ := q52
              have hX9 : cX (some q37) (chs []) G w37 G52 w52 := hX9
              obtain ⟨hqo52, a52, hG9_a52, hN9_a52, hMx52, hMa52⟩ := q52
              have q52 := And.intro hqo52 True.intro
              have hN_a52 := hX.new0 (hT.no hN9_a52) hN9_a52
              have hP : va_P D vwCl w52 H := hP9
              have hD : va_D A w52 := hD9
              have hT : cT cy G52 w52 := hT9
              have hM_o := hX9.2.1 _ _ (cP.no1 (Ne.symm (cne0 hO_q37 hG_o)) hG_o rfl) hM_o
              have hM_sh_o := hX9.2.1 _ _ (cP.no1 (Ne.symm (cne0 hO_q37 hG_sh_o)) hG_sh_o rfl) hM_sh_o
              have hG_o := hX9.1 _ _ hG_o
              have hG_bs_o := hX9.1 _ _ hG_bs_o
              have hG_js_o := hX9.1 _ _ hG_js_o
              have hG_sh_o := hX9.1 _ _ hG_sh_o
              have hG_wk_o := hX9.1 _ _ hG_wk_o
              have hG_ll_o := hX9.1 _ _ hG_ll_o
              have hf_sh_o := fun i9 x9 (h9 : i9 < 8) z9 => hf10_up hX9.1 (hf_sh_o i9 x9 h9 z9)
              have hmo_o := fun x9 z9 => hX9.1 _ _ (hmo_o x9 z9)
              have hlb_o : ∀ x9, lb_o = some x9 → ∃ w9 h9, _ = some (2, w9, h9) := fun x9 z9 => (hlb_o x9 z9).elim fun w9 z9 => z9.elim fun h9 z9 => ⟨w9, h9, hX9.1 _ _ z9⟩
              have hG_q37 : G52 q37 = some (4, n1.toNatClampNeg, 0) := q52.1
              have q52 := q52.2
              have hX := hX.trN hN_q37 (hX9.wk (chs_sub (by decide)))
              have hG_a52 : G52 a52 = some (16, n1.toNatClampNeg, 0) := hG9_a52
              have hM_q37 : cIn w52 q37 (.inr (6, [.int (1 : Int32), .ref a52])) := hMx52
              have hM_a52 : cIn w52 a52 (.inl (cy 1, n1.toNatClampNeg, .inr (.inl (fun _ => 0)))) := hMa52
              refine t_aast10f hx hb hV hK hP hD hS hT hG_sh_o hM_sh_o hf_sh_o (Or.inr ⟨_, hG_q37⟩) (vp_in_iff.mpr ⟨by omega, by omega⟩) dX9_make_55 (fun H locs w55 hU55 hM9_sh_o hf9_sh_o hP hD hT hS => ?_)
              have hM_o := hU55 _ _ (cne hG_o hG_sh_o (show (7 : Nat) ≠ 10 by decide)) hM_o
              have hM_q37 := hU55 _ _ (cne hG_q37 hG_sh_o (show (4 : Nat) ≠ 10 by decide)) hM_q37
              have hM_a52 := hU55 _ _ (cne hG_a52 hG_sh_o (show (16 : Nat) ≠ 10 by decide)) hM_a52
              have hM_sh_o := hM9_sh_o
              have hf_sh_o := hf9_sh_o
              have hX := hX.tr (cX.uF hU55 (Or.inr ⟨_, hG_sh_o, rfl⟩))
              refine lv_iconst (v := 0) hx hb dX9_make_56 (by decide) ?_
              refine W.widen (k := 2) (n := 62) (Nat.le_of_ble_eq_true rfl) (Nat.le_of_ble_eq_true rfl) ?_
              exact W.iret (v := (0 : Int32)) hx hb hr (fun t ht hW => ⟨⟨_, (G52, w55), rfl, ⟨hX, ⟨(by unfold mkAns; split <;> (try split) <;> first | rfl | (exfalso; omega)), Or.inl ⟨(by unfold mkOk; omega), _, _, _, hM_sh_o, hG_q37, hG_a52, hN_a52, hM_q37, hM_a52, (by first | exact Or.inl ⟨rfl, by omega⟩ | exact Or.inr ⟨rfl, by omega⟩)⟩⟩⟩, by show va_P D vwCl w55 t.heap; rw [ht]; exact hP, hD, hT⟩, hS.F ht⟩) hS.2.2 dX9_make_57
          · skip
            have d26 := c26
            rw [fa_le] at d26
            refine lv_bipush (v := (-14)) hx hb dX9_make_29 (by decide) ?_
            refine W.widen (k := 2) (n := 62) (Nat.le_of_ble_eq_true rfl) (Nat.le_of_ble_eq_true rfl) ?_
            exact W.iret (v := ((-14) : Int32)) hx hb hr (fun t ht hW => ⟨⟨_, (G, ws), rfl, ⟨hX, ⟨(by unfold mkAns; split <;> (try split) <;> first | rfl | (exfalso; omega)), Or.inr ⟨(by unfold mkOk; omega), hM_sh_o⟩⟩⟩, by show va_P D vwCl ws t.heap; rw [ht]; exact hP, hD, hT⟩, hS.F ht⟩) hS.2.2 dX9_make_31
        · skip
          have d20 := c20
          rw [fa_le] at d20
          refine lv_iconst (v := (-1)) hx hb dX9_make_23 (by decide) ?_
          refine W.widen (k := 2) (n := 62) (Nat.le_of_ble_eq_true rfl) (Nat.le_of_ble_eq_true rfl) ?_
          exact W.iret (v := ((-1) : Int32)) hx hb hr (fun t ht hW => ⟨⟨_, (G, ws), rfl, ⟨hX, ⟨(by unfold mkAns; split <;> (try split) <;> first | rfl | (exfalso; omega)), Or.inr ⟨(by unfold mkOk; omega), hM_sh_o⟩⟩⟩, by show va_P D vwCl ws t.heap; rw [ht]; exact hP, hD, hT⟩, hS.F ht⟩) hS.2.2 dX9_make_24
theorem i_a0 (x : Int32) : x + 0 = x := by
  apply Int32.toInt_inj.mp
  rw [Int32.toInt_add]
  have z : (0 : Int32).toInt = 0 := rfl
  rw [z, Int.add_zero]
  have h1 := Int32.le_toInt x
  have h2 := Int32.toInt_lt x
  exact Int.bmod_eq_of_le (by omega) (by omega)
def woN (G : Nat → Int32) (p : Int64) : Nat → Int32
  | 0 => 0
  | n + 1 => woN G p n + (if lb p n then G n else 0)

section CAR50
variable {p : Program} {l : Launch} {e : Env} {R : Room} {s : State} {m : MethodId} {args : Array Value} {below : List Frame} {meth : Method} {c : Code} {H : Heap} {locs : List Loc} {cells slots : Nat} {Q : State → Prop}
variable {cc : ByteArray} {pc : Nat} {ls : Array Slot} {rest : List Value} {D : va_G} {cy : Nat → ClassId} {A : Nat → Prop} {ws : va_W} {G : cG} {H0 : Heap} {own : String} {index : Nat}
theorem t_copyiK (hx : p.tables.exec = Jvm.exec) (hb : c.code = cc) (hml : c.maxLocals = ls.size) (hown : s.vm.findClass own = some m.cls) (hlink : (Cond.methodLink own index arraycopyName).before args s = true) (hnat : (Cond.native arraycopyName).before args s = true) (hstat : (Cond.static arraycopyName).before args s = true) (hini : (Cond.initialized "java/lang/System").before args s = true) (hK : va_K D vwCl (cTy cy) s) (hP : va_P D vwCl ws H) (hD : va_D A ws) (hS : va_S A H0 H locs) (hT : cT cy G ws) {k9 a0 a1 n0 n1 z1 : Nat} (hk9 : k9 = 0 ∨ k9 = 14 ∨ k9 = 20 ∨ k9 = 21 ∨ k9 = 22 ∨ k9 = 23) (hg1 : G a1 = some (k9, n1, z1)) {f g : Nat → Int32} (hM0 : cIn ws a0 (.inl (cy 0, n0, .inl f))) (hM1 : cIn ws a1 (.inl (cy 0, n1, .inl g))) {sp dp n : Int32} (h1 : 0 ≤ sp.toInt) (h2 : 0 ≤ dp.toInt) (h3 : 0 ≤ n.toInt) (h4 : sp.toInt + n.toInt ≤ (n0 : Int)) (h5 : dp.toInt + n.toInt ≤ (n1 : Int)) (hframes : 1 ≤ R.frames) (hlocals : (rest.map fun v => v.category).sum + (nativeFrameWords "java/lang/System" "arraycopy" 5 + 11) ≤ R.locals) (hdg : decode cc pc = .ok (.invokestatic index, 3))
    (kk : ∀ (H1 : Heap) (locs1 : List Loc) (ws1 : va_W), cUp ws a1 (.inl (cy 0, n1, .inl (va_cpy f g sp.toNatClampNeg dp.toNatClampNeg n.toNatClampNeg))) ws1 → va_P D vwCl ws1 H1 → va_D A ws1 → cT cy G ws1 → va_S A H0 H1 locs1 → W p l e R s m args below meth c H1 locs1 cells slots Q (F0 m (pc + 3) ls rest)) : W p l e R s m args below meth c H locs cells slots Q (F0 m pc ls (.int n :: .int dp :: .ref a1 :: .int sp :: .ref a0 :: rest)) := by
  obtain ⟨q0, hq0⟩ := hM0
  obtain ⟨q1, hq1⟩ := hM1
  have e1 := m_cl h1
  have e2 := m_cl h2
  have e3 := m_cl h3
  have lz : ∀ x : Int32, 0 ≤ x.toInt → ¬ x < 0 := fun x h z => by rw [fa_lt] at z; have : (0 : Int32).toInt = 0 := rfl; omega
  exact va_copyi hx hb hml hown hlink hnat hstat hini hK hP hD hS q0 q1 0 0 (ty := .int) hq0 hq1 rfl rfl rfl (lz _ h1) (lz _ h2) (lz _ h3) (by omega) (by omega) (fun i _ => rfl) hframes hlocals hdg (fun H1 locs1 k1 k2 k3 => kk H1 locs1 _ (cUp.set hq1) k1 k2 (hT.up (cUp.set hq1) hg1 (cIo hk9)) k3)
end CAR50

/-- marks added up -/
def smN (f : Nat → Int32) : Nat → Int32
  | 0 => 0
  | n + 1 => smN f n + f n
theorem smN_cg {f g : Nat → Int32} : ∀ n, (∀ e, e < n → f e = g e) → smN f n = smN g n := by
  intro n
  induction n with
  | zero => intro _; rfl
  | succ n ih => intro h; simp only [smN]; rw [ih (fun e he => h e (by omega)), h n (by omega)]
theorem smN_z {f : Nat → Int32} {m : Nat} : ∀ n, m ≤ n → (∀ e, m ≤ e → e < n → f e = 0) → smN f n = smN f m := by
  intro n
  induction n with
  | zero => intro h _; rw [show m = 0 by omega]
  | succ n ih =>
    intro h hz
    by_cases c : m = n + 1
    · rw [c]
    · simp only [smN]
      rw [hz n (by omega) (by omega), ih (by omega) (fun e h1 h2 => hz e h1 (by omega))]
      exact i_a0 _
theorem woN_1 {f : Nat → Int32} : ∀ n, n ≤ 64 → woN f (-1) n = smN f n := by
  intro n
  induction n with
  | zero => intro _; rfl
  | succ n ih =>
    intro h
    simp only [woN, smN]
    rw [lb_m1 n (by omega), ih (by omega)]
    rfl
/-- a job's heft by its class, size and marks added up -/
def heV (K w h : Nat) (s : Int32) : Int32 := if K = 2 then nI (10 + w * h) else if K = 3 then nI (10 + w * h) + 100 else if K = 1 then 2 * (nI (10 + w * h) + 100) else nI (10 + w * h) + s
def shW (cy : Nat → ClassId) (G : cG) (W : va_W) (o : Option Nat) (x a : Nat) (k t : Int32) : Prop :=
  (o = none ∧ k = 0) ∨
  (o = some x ∧ k = 1 ∧ ∃ K w h : Nat, G x = some (3, K, 8 * w + h) ∧ (1 ≤ w ∧ w ≤ 6 ∧ 1 ≤ h ∧ h ≤ 6) ∧ ((K ≠ 4 ∧ t = heV K w h 0) ∨ (K = 4 ∧ ∃ (b s : Nat) (tw : Int32) (y z : Int64) (fm : Nat → Int32), cIn W x (.inr (4, [.ref b, .ref s, .int tw, .long y, .long z, .ref a])) ∧ cIn W a (.inl (cy 0, w * h, .inl fm)) ∧ t = heV 4 w h (smN fm (w * h))))) ∨
  (o = some x ∧ 3 ≤ k.toInt ∧ ∃ m : Nat, G x = some (4, m, 0))
set_option maxHeartbeats 4000000 in
set_option maxRecDepth 100000 in
theorem c_X5_worthOf_x (l : Launch) (D : va_G) (cy : Nat → ClassId) (A : Nat → Prop) (G : cG) (ws : va_W) (o : Nat) (p0 : Int64) {w h b_o s_o c_o : Nat} {t_o : Int32} {x_o y_o : Int64} {fm : Nat → Int32} (hD : va_D A ws) (hT : cT cy G ws) (hG_o : G o = some (3, 4, 8 * w + h)) (hM_o : cIn ws o (.inr (4, [.ref b_o, .ref s_o, .int t_o, .long x_o, .long y_o, .ref c_o]))) (hM_c_o : cIn ws c_o (.inl (cy 0, (w * h), .inl fm))) (hb9 : 1 ≤ w ∧ w ≤ 6 ∧ 1 ≤ h ∧ h ≤ 6) : Ci l D cy A yX5_worthOf wsX5_worthOf ({ frames := 0, cells := 0, slots := 0, locals := 0 }) 0 0 ws [.ref o, .long p0] (fun r0 u => u = (G, ws) ∧ (r0 = woN fm p0 (w * h))) := by
  refine Met.ofW (cc := cX5_worthOf) (maxL := 5) (ret := (some .int)) (by decide) rfl ?_
  intro p e s m args below meth c s₁ B hml hv
  obtain ⟨rfl, hP, hK, hA, hV⟩ := hv
  have hx := B.exec
  have hb := B.bytes
  have hr := B.returns
  have hts := atoms_spec (ws := wsX5_worthOf) B.pre
  have hown : s.vm.findClass RX5 = some m.cls := findClass_of_methodNamed B.named
  have hlocks := B.notSynchronized
  have hS : va_S A s.heap s.heap [] := va_S.rf
  have hl := lv_entry ([.ref o, .long p0]) (n := 5) (Nat.le_of_ble_eq_true rfl)
  rw [lg_entry_eq]
  generalize (lg_sl ([.ref o, .long p0]) ++ List.replicate (5 - (lg_sl ([.ref o, .long p0])).length) Slot.unset).toArray = ls at hl ⊢
  have hl : lv_has ls 5 [(0, .ref o), (1, .long p0)] := hl
  have k_0 : (0 : Int32).toInt = 0 := by decide
  have k_1L : (1 : Int64).toInt = 1 := by decide
  obtain ⟨hG_b_o, hG_s_o, hJ_o⟩ := w3sh hD hT hG_o hb9 hM_o
  have hG_c_o := cJ4c hJ_o
  have m36 := cb_mul hb9
  refine lv_iconst (v := 0) hx hb dX5_worthOf_0 (by decide) ?_
  refine lv_istore_n (lv' := [(3, .int (0 : Int32)), (0, .ref o), (1, .long p0)]) hx hb dX5_worthOf_1 rfl hl (by decide) rfl (fun ls hl => ?_)
  refine lv_iconst (v := 0) hx hb dX5_worthOf_2 (by decide) ?_
  refine lv_istore (lv' := [(4, .int (0 : Int32)), (3, .int (0 : Int32)), (0, .ref o), (1, .long p0)]) hx hb dX5_worthOf_3 hl (by decide) rfl (fun ls hl => ?_)
  have loop_5 : ∀ (n : Nat) (i : Nat) (x3 : Int32), (i ≤ w * h) → (x3 = woN fm p0 i) → 36 - i < n → ∀ (H : Heap) (locs : List Loc), va_P D vwCl ws H → va_S A s.heap H locs → ∀ (ls : Array Slot), lv_has ls 5 [(4, .int (nI i)), (3, .int x3), (0, .ref o), (1, .long p0)] → W p l e (headSpec wsX5_worthOf ({ frames := 0, cells := 0, slots := 0, locals := 0 })).room s m #[Value.ref o, Value.long p0] below meth c H locs 0 0 (MQ below (va_Qi (fun r0 u => u = (G, ws) ∧ (r0 = woN fm p0 (w * h))) (cB D cy A) A) #[Value.ref o, Value.long p0] s 0 0 A) (F0 m 5 ls []) := by
    intro n
    induction n with
    | zero => intro i x3 j5_0 j5_1 hn; exact absurd hn (Nat.not_lt_zero _)
    | succ n ih_5 =>
      intro i x3 j5_0 j5_1 hn_5 H locs hP hS  ls hl
      have ii : (nI i).toInt = (i : Int) := nI_toInt (by omega)
      refine lv_iload hx hb dX5_worthOf_5 (lv_at hl 0 rfl) ?_
      refine lv_aload_n hx hb dX5_worthOf_7 rfl (lv_at hl 2 rfl) ?_
      refine t_get (v := .ref c_o) (C := RX5) (T := TX5) (N := 6) hx hb hts (by decide +kernel) hown hK hP hM_o rfl 5 (by decide) (hts (.fieldLink RX5 13 "ShadowBench$MarkedJob" "marks" "[I") (by decide +kernel)) (fun _ h9 => h9) rfl dX5_worthOf_8 ?_
      refine t_alenI hx hb hK hP hT (Or.inr (Or.inl rfl)) hG_c_o dX5_worthOf_11 ?_
      have i11 : (nI (w * h)).toInt = _ := nI_toInt (by omega)
      refine lv_icmp_ge (tgt := 42) hx hb dX5_worthOf_12 (by decide) (fun c12 => ?_) (fun c12 => ?_)
      · skip
        have d12 := c12
        rw [fa_le] at d12
        refine lv_iload_n hx hb dX5_worthOf_42 rfl (lv_at hl 1 rfl) ?_
        exact W.iret (v := x3) hx hb hr (fun t ht hW => ⟨⟨_, (G, ws), rfl, ⟨rfl, (by rw [j5_1, show i = w * h by omega])⟩, by show va_P D vwCl ws t.heap; rw [ht]; exact hP, hD, hT⟩, hS.F ht⟩) hS.2.2 dX5_worthOf_43
      · skip
        have d12 := c12
        rw [fa_le] at d12
        refine lv_lload_n hx hb dX5_worthOf_15 rfl (lv_at hl 3 rfl) ?_
        refine lv_iload hx hb dX5_worthOf_16 (lv_at hl 0 rfl) ?_
        refine lv_lushr (v := (p0.toUInt64 >>> ((nI i).toInt64.toUInt64 &&& Int64.toUInt64 63)).toInt64) hx hb dX5_worthOf_18 rfl ?_
        refine lv_lconst (v := 1) hx hb dX5_worthOf_19 (by decide) ?_
        refine lv_land hx hb dX5_worthOf_20 ?_
        refine lv_topl (fun v20 e20 => ?_)
        refine lv_lconst (v := 1) hx hb dX5_worthOf_21 (by decide) ?_
        refine W.lcmp hx hb dX5_worthOf_22 ?_
        have u9 := ub_lb p0 (k := i) (by omega)
        rw [← e20] at u9
        refine lv_if_ne (tgt := 36) hx hb dX5_worthOf_23 (by decide) (fun c23 => ?_) (fun c23 => ?_)
        · skip
          have d23 := c23
          rw [lg_cmp_eq, fa_eq64] at d23
          first | have ck9 : (nI i).toNatClampNeg = i := nI_clamp (by omega) | skip
          refine lv_iinc (v := (nI (i + 1))) (lv' := [(4, .int (nI (i + 1))), (3, .int x3), (0, .ref o), (1, .long p0)]) hx hb dX5_worthOf_36 hl (k := 0) rfl (nI_1 _) (by decide) rfl (fun ls hl => ?_)
          refine lv_goto (tgt := 5) hx hb dX5_worthOf_39 (by decide) ?_
          exact ih_5 (i + 1) x3 (by omega) (by simp only [woN]; cases hb : lb p0 i; (rw [hb] at u9; first | (rw [i_a0 (woN fm p0 i) |>.symm] at j5_1; exact j5_1) | exact absurd (((lg_cmp_eq _ _).mp c23).symm.trans u9) (by decide)); (rw [hb] at u9; first | (rw [e34, e33, ck9, j5_1]; rfl) | exact absurd ((lg_cmp_eq _ _).mpr u9) c23)) (by omega) _ _ hP hS  ls (lv_sub hl [0, 1, 2, 3] rfl)
        · skip
          have d23 := c23
          rw [lg_cmp_eq, fa_eq64] at d23
          refine lv_iload_n hx hb dX5_worthOf_26 rfl (lv_at hl 1 rfl) ?_
          refine lv_aload_n hx hb dX5_worthOf_27 rfl (lv_at hl 2 rfl) ?_
          refine t_get (v := .ref c_o) (C := RX5) (T := TX5) (N := 6) hx hb hts (by decide +kernel) hown hK hP hM_o rfl 5 (by decide) (hts (.fieldLink RX5 13 "ShadowBench$MarkedJob" "marks" "[I") (by decide +kernel)) (fun _ h9 => h9) rfl dX5_worthOf_28 ?_
          refine lv_iload hx hb dX5_worthOf_31 (lv_at hl 0 rfl) ?_
          refine t_ialdM hx hb hK hP hM_c_o (vp_in_iff.mpr ⟨by omega, by omega⟩) dX5_worthOf_33 ?_
          refine lv_topi (fun v33 e33 => ?_)
          refine lv_iadd hx hb dX5_worthOf_34 ?_
          refine lv_topi (fun v34 e34 => ?_)
          refine lv_istore_n (lv' := [(3, .int v34), (4, .int (nI i)), (0, .ref o), (1, .long p0)]) hx hb dX5_worthOf_35 rfl hl (by decide) rfl (fun ls hl => ?_)
          first | have ck9 : (nI i).toNatClampNeg = i := nI_clamp (by omega) | skip
          refine lv_iinc (v := (nI (i + 1))) (lv' := [(4, .int (nI (i + 1))), (3, .int v34), (0, .ref o), (1, .long p0)]) hx hb dX5_worthOf_36 hl (k := 1) rfl (nI_1 _) (by decide) rfl (fun ls hl => ?_)
          refine lv_goto (tgt := 5) hx hb dX5_worthOf_39 (by decide) ?_
          exact ih_5 (i + 1) v34 (by omega) (by simp only [woN]; cases hb : lb p0 i; (rw [hb] at u9; first | (rw [i_a0 (woN fm p0 i) |>.symm] at j5_1; exact j5_1) | exact absurd (((lg_cmp_eq _ _).mp c23).symm.trans u9) (by decide)); (rw [hb] at u9; first | (rw [e34, e33, ck9, j5_1]; rfl) | exact absurd ((lg_cmp_eq _ _).mpr u9) c23)) (by omega) _ _ hP hS  ls (lv_sub hl [0, 1, 2, 3] rfl)
  exact loop_5 (36 + 1) 0 (0 : Int32) (by omega) (rfl) (by omega) _ _ hP hS  ls (lv_sub hl [0, 1, 2, 3] rfl)
set_option maxHeartbeats 4000000 in
set_option maxRecDepth 100000 in
theorem c_X3_alike_q (l : Launch) (D : va_G) (cy : Nat → ClassId) (A : Nat → Prop) (G : cG) (ws : va_W) (o : Nat) (x1 : Nat) {kq nq k1 n1 b1 s1 : Nat} {t1 : Int32} {o1 y1 : Int64} {ms1 : List Value} (hD : va_D A ws) (hT : cT cy G ws) (hG_o : G o = some (3, kq, nq)) (hG_x1 : G x1 = some (3, k1, n1)) (hM_x1 : cIn ws x1 (.inr (k1, .ref b1 :: .ref s1 :: .int t1 :: .long o1 :: .long y1 :: ms1)))  : Ca l D cy A yX3_alike wsX3_alike ({ frames := 1, cells := 0, slots := 0, locals := 68 }) 0 0 ws [.ref o, .ref x1] (fun r0 u => ∃ w1, u = (G, w1) ∧ cF (fun b9 => b9 = x1 ∨ b9 = s1) ws w1 ∧ (r0 = some x1 ∧ ∃ t y z, cIn w1 x1 (.inr (k1, .ref b1 :: .ref s1 :: .int t :: .long y :: .long z :: ms1)))) := by
  refine Met.ofW (cc := cX3_alike) (maxL := 2) (ret := (some (.object "ShadowBench$Job"))) (by decide) rfl ?_
  intro p e s m args below meth c s₁ B hml hv
  obtain ⟨rfl, hP, hK, hA, hV⟩ := hv
  have hx := B.exec
  have hb := B.bytes
  have hr := B.returns
  have hts := atoms_spec (ws := wsX3_alike) B.pre
  have hown : s.vm.findClass RX3 = some m.cls := findClass_of_methodNamed B.named
  have hlocks := B.notSynchronized
  have hS : va_S A s.heap s.heap [] := va_S.rf
  have hinJ : ∀ w ∈ wsX10 ++ wsX30 ++ wsX40 ++ wsX50, w ∈ wsX3_alike := by decide +kernel
  have hF : cF (fun b9 => b9 = x1 ∨ b9 = s1) ws ws := cF.rf
  have hl := lv_entry ([.ref o, .ref x1]) (n := 2) (Nat.le_of_ble_eq_true rfl)
  rw [lg_entry_eq]
  generalize (lg_sl ([.ref o, .ref x1]) ++ List.replicate (2 - (lg_sl ([.ref o, .ref x1])).length) Slot.unset).toArray = ls at hl ⊢
  have hl : lv_has ls 2 [(0, .ref o), (1, .ref x1)] := hl
  have k_0 : (0 : Int32).toInt = 0 := by decide
  obtain ⟨w1_, h1_, hG_b1, hG_s1, hJ_x1⟩ := w3sh0 hD hT hG_x1 hM_x1
  refine lv_aload_n hx hb dX3_alike_0 rfl (lv_at hl 0 rfl) ?_
  obtain ⟨_, hM_o, b_o, s_o, w_o, h_o, t_o, x_o, y_o, ms_o, rfl, hG_b_o, hG_s_o, hJ_o⟩ := hT _ _ hG_o
  refine t_getJ (v := .ref s_o) hx hb hts hinJ hown hK hP hJ_o.kc hM_o 1 (by decide) (hts (.fieldLink RX3 11 "ShadowBench$Job" "sums" "[I") (by decide +kernel)) (fun _ h9 => h9) rfl dX3_alike_1 ?_
  refine lv_iconst (v := 0) hx hb dX3_alike_4 (by decide) ?_
  refine lv_aload_n hx hb dX3_alike_5 rfl (lv_at hl 1 rfl) ?_
  refine t_getJ (v := .ref s1) hx hb hts hinJ hown hK hP hJ_x1.kc hM_x1 1 (by decide) (hts (.fieldLink RX3 11 "ShadowBench$Job" "sums" "[I") (by decide +kernel)) (fun _ h9 => h9) rfl dX3_alike_6 ?_
  refine lv_iconst (v := 0) hx hb dX3_alike_9 (by decide) ?_
  refine lv_aload_n hx hb dX3_alike_10 rfl (lv_at hl 0 rfl) ?_
  refine t_getJ (v := .ref s_o) hx hb hts hinJ hown hK hP hJ_o.kc hM_o 1 (by decide) (hts (.fieldLink RX3 11 "ShadowBench$Job" "sums" "[I") (by decide +kernel)) (fun _ h9 => h9) rfl dX3_alike_11 ?_
  refine t_alenI hx hb hK hP hT (Or.inr (Or.inl rfl)) hG_s_o dX3_alike_14 ?_
  have i14 : (nI 44).toInt = _ := nI_toInt (by omega)
  refine t_copyi hx hb (by rw [hml]; exact hl.1.symm) hown (hts (.methodLink RX3 90 arraycopyName) (by decide +kernel)) (hts (.native arraycopyName) (by decide +kernel)) (hts (.static arraycopyName) (by decide +kernel)) (hts (.initialized "java/lang/System") (by decide +kernel)) hK hP hD hS hT (Or.inr (Or.inl rfl)) (Or.inr (Or.inl rfl)) hG_s_o hG_s1 (by omega) (by omega) (by omega) (by omega) (by omega) (Nat.le_of_ble_eq_true rfl) (Nat.le_of_ble_eq_true rfl) dX3_alike_15 (fun H locs w15 hU15 hP hD hT hS => ?_)
  have hM_x1 := hU15 _ _ (cne hG_x1 hG_s1 (show (3 : Nat) ≠ 14 by decide)) hM_x1
  have hM_o := hU15 _ _ (cne hG_o hG_s1 (show (3 : Nat) ≠ 14 by decide)) hM_o
  have hF := hF.tr (hU15.wk (fun b9 z9 => (Or.inr (z9))))
  refine lv_aload_n hx hb dX3_alike_18 rfl (lv_at hl 1 rfl) ?_
  refine lv_aload_n hx hb dX3_alike_19 rfl (lv_at hl 0 rfl) ?_
  refine t_getJ (v := .int t_o) hx hb hts hinJ hown hK hP hJ_o.kc hM_o 2 (by decide) (hts (.fieldLink RX3 17 "ShadowBench$Job" "toldWays" "I") (by decide +kernel)) (fun _ h9 => h9) rfl dX3_alike_20 ?_
  refine t_putJ (v := .int t_o) hx hb hts hinJ hown hK hP hD hS hJ_x1.kc hM_x1 2 (by decide) (hts (.fieldLink RX3 17 "ShadowBench$Job" "toldWays" "I") (by decide +kernel)) (fun _ h9 => h9) rfl rfl rfl (Nat.le_of_ble_eq_true rfl) dX3_alike_23 (fun H locs w23 hU23 hP hD hS => ?_)
  have hT := hT.up hU23 hG_x1 ⟨_, _, _, _, _, _, _, _, rfl, hG_b1, hG_s1, hJ_x1⟩
  have hM_x1 : cIn w23 x1 (.inr (k1, .ref b1 :: .ref s1 :: .int t_o :: .long o1 :: .long y1 :: ms1)) := hU23.1
  have hF := hF.tr (cF.up hU23 (Or.inl rfl))
  refine lv_aload_n hx hb dX3_alike_26 rfl (lv_at hl 1 rfl) ?_
  refine lv_aload_n hx hb dX3_alike_27 rfl (lv_at hl 0 rfl) ?_
  obtain ⟨_, hM_o, bv1_o, sv1_o, wv1_o, hv1_o, tv1_o, xv1_o, yv1_o, msv1_o, rfl, hG_bv1_o, hG_sv1_o, hJ_o⟩ := hT _ _ hG_o
  refine t_getJ (v := .long xv1_o) hx hb hts hinJ hown hK hP hJ_o.kc hM_o 3 (by decide) (hts (.fieldLink RX3 21 "ShadowBench$Job" "heldOnes" "J") (by decide +kernel)) (fun _ h9 => h9) rfl dX3_alike_28 ?_
  refine t_putJ (v := .long xv1_o) hx hb hts hinJ hown hK hP hD hS hJ_x1.kc hM_x1 3 (by decide) (hts (.fieldLink RX3 21 "ShadowBench$Job" "heldOnes" "J") (by decide +kernel)) (fun _ h9 => h9) rfl rfl rfl (Nat.le_of_ble_eq_true rfl) dX3_alike_31 (fun H locs w31 hU31 hP hD hS => ?_)
  have hT := hT.up hU31 hG_x1 ⟨_, _, _, _, _, _, _, _, rfl, hG_b1, hG_s1, hJ_x1⟩
  have hM_x1 : cIn w31 x1 (.inr (k1, .ref b1 :: .ref s1 :: .int t_o :: .long xv1_o :: .long y1 :: ms1)) := hU31.1
  have hF := hF.tr (cF.up hU31 (Or.inl rfl))
  refine lv_aload_n hx hb dX3_alike_34 rfl (lv_at hl 1 rfl) ?_
  refine lv_aload_n hx hb dX3_alike_35 rfl (lv_at hl 0 rfl) ?_
  obtain ⟨_, hM_o, bv2_o, sv2_o, wv2_o, hv2_o, tv2_o, xv2_o, yv2_o, msv2_o, rfl, hG_bv2_o, hG_sv2_o, hJ_o⟩ := hT _ _ hG_o
  refine t_getJ (v := .long yv2_o) hx hb hts hinJ hown hK hP hJ_o.kc hM_o 4 (by decide) (hts (.fieldLink RX3 25 "ShadowBench$Job" "heldNoughts" "J") (by decide +kernel)) (fun _ h9 => h9) rfl dX3_alike_36 ?_
  refine t_putJ (v := .long yv2_o) hx hb hts hinJ hown hK hP hD hS hJ_x1.kc hM_x1 4 (by decide) (hts (.fieldLink RX3 25 "ShadowBench$Job" "heldNoughts" "J") (by decide +kernel)) (fun _ h9 => h9) rfl rfl rfl (Nat.le_of_ble_eq_true rfl) dX3_alike_39 (fun H locs w39 hU39 hP hD hS => ?_)
  have hT := hT.up hU39 hG_x1 ⟨_, _, _, _, _, _, _, _, rfl, hG_b1, hG_s1, hJ_x1⟩
  have hM_x1 : cIn w39 x1 (.inr (k1, .ref b1 :: .ref s1 :: .int t_o :: .long xv1_o :: .long yv2_o :: ms1)) := hU39.1
  have hF := hF.tr (cF.up hU39 (Or.inl rfl))
  refine lv_aload_n hx hb dX3_alike_42 rfl (lv_at hl 1 rfl) ?_
  exact W.aret (v := .ref x1) hx hb hr (Or.inl ⟨_, rfl⟩) (Or.inr ⟨_, rfl⟩) (fun t ht hW => ⟨⟨(some x1), (G, w39), rfl, ⟨w39, rfl, hF, ⟨rfl, _, _, _, hM_x1⟩⟩, by show va_P D vwCl w39 t.heap; rw [ht]; exact hP, hD, hT⟩, hS.F ht⟩) hS.2.2 dX3_alike_43
set_option maxHeartbeats 4000000 in
set_option maxRecDepth 100000 in
theorem c_X3_asItIs_q (l : Launch) (D : va_G) (cy : Nat → ClassId) (A : Nat → Prop) (G : cG) (ws : va_W) (o : Nat) {w h : Nat} (hD : va_D A ws) (hT : cT cy G ws) (hG_o : G o = some (3, 2, 8 * w + h)) (hb9 : 1 ≤ w ∧ w ≤ 6 ∧ 1 ≤ h ∧ h ≤ 6) : Ca l D cy A yX3_asItIs wsX3_asItIs ({ frames := 3, cells := 2, slots := 49, locals := 89 }) 2 49 ws [.ref o] (fun r0 u => cX none (chs []) G ws u.1 u.2 ∧ (∃ x, r0 = some x ∧ u.1 x = some (3, 2, 8 * w + h) ∧ (∀ e, ¬ cIn ws x e))) := by
  refine Met.ofW (cc := cX3_asItIs) (maxL := 1) (ret := (some (.object "ShadowBench$Job"))) (by decide) rfl ?_
  intro p e s m args below meth c s₁ B hml hv
  obtain ⟨rfl, hP, hK, hA, hV⟩ := hv
  have hx := B.exec
  have hb := B.bytes
  have hr := B.returns
  have hts := atoms_spec (ws := wsX3_asItIs) B.pre
  have hown : s.vm.findClass RX3 = some m.cls := findClass_of_methodNamed B.named
  have hlocks := B.notSynchronized
  have hS : va_S A s.heap s.heap [] := va_S.rf
  have hX : cX none (chs []) G ws G ws := cX.rf
  have hl := lv_entry ([.ref o]) (n := 1) (Nat.le_of_ble_eq_true rfl)
  rw [lg_entry_eq]
  generalize (lg_sl ([.ref o]) ++ List.replicate (1 - (lg_sl ([.ref o])).length) Slot.unset).toArray = ls at hl ⊢
  have hl : lv_has ls 1 [(0, .ref o)] := hl
  have k_0 : (0 : Int32).toInt = 0 := by decide
  refine lv_aload_n hx hb dX3_asItIs_0 rfl (lv_at hl 0 rfl) ?_
  refine t_new (C := RX3) (T := TX3) (N := 5) (ci := 2) (ty0 := tyX3) (fs := [.null, .null, .int 0, .long 0, .long 0]) hx hb hts (by decide +kernel) tyX3_ok hown (hts (.classLink RX3 12 RX3) (by decide +kernel)) (hts (.instantiable RX3 5) (by decide +kernel)) (hts (.initialized RX3) (by decide +kernel)) hK hP hD hS hA hT rfl (by decide +kernel) (Nat.le_of_ble_eq_true rfl) (Nat.le_of_ble_eq_true rfl) dX3_asItIs_1 (fun q1 H w1 hM_q1 hO_q1 hF1 hX1 hk1 hP hD hT hS => ?_)
  have hN_q1 := hX.new0 hO_q1 hF1
  have hX := hX.tr (hX1 _ _)
  refine lv_dup hx hb dX3_asItIs_4 rfl ?_
  refine lv_aload_n hx hb dX3_asItIs_5 rfl (lv_at hl 0 rfl) ?_
  obtain ⟨_, hM_o, b_o, s_o, w_o, h_o, t_o, x_o, y_o, ms_o, rfl, hG_b_o, hG_s_o, hJ_o⟩ := hT _ _ hG_o
  refine t_get (v := .ref b_o) (C := RX3) (T := TX3) (N := 5) hx hb hts (by decide +kernel) hown hK hP hM_o rfl 0 (by decide) (hts (.fieldLink RX3 28 "ShadowBench$Job" "board" "LShadowBench$Board;") (by decide +kernel)) (fun _ h9 => h9) rfl dX3_asItIs_6 ?_
  have ee9 : w_o = w ∧ h_o = h := by have z8 := c_hb hT hG_b_o; have z9 := hJ_o.1; omega
  refine t_callv (va_runI (g := F0 m 9 ls ([.ref b_o, .ref q1, .ref q1, .ref o])) (As := [.ref b_o]) (rest := [.ref q1, .ref o]) (b := q1) ⟨hx, hb, hml, hown, hts⟩ (c_X3_init_w l D cy A G w1 q1 b_o hD hT hO_q1 hM_q1 hG_b_o (by unfold cKc; omega)) (cwI 1 hts gX3_asItIs_X3_init rfl rfl rfl (hts (.initialized RX3) (by decide +kernel)) (hts (.methodLink RX3 83 yX3_init) (by decide +kernel)) (hts (.instanceMethod yX3_init) (by decide +kernel)) rfl (by decide +kernel) ⟨Nat.le_of_ble_eq_true rfl, Nat.le_of_ble_eq_true rfl⟩) (c_preS hP hK hA hS hV) rfl rfl hl.1 rfl (lv_room (Nat.le_of_ble_eq_true rfl)) dX3_asItIs_9 ⟨Nat.le_of_ble_eq_true rfl, Nat.le_of_ble_eq_true rfl⟩) hS (fun u H locs q9 hP9 hD9 hT9 hS => ?_)
  obtain ⟨G9, w9⟩ := u
  obtain ⟨hX9, q9⟩ := q9
  have hX9 : cX (some q1) (chs []) G w1 G9 w9 := hX9
  obtain ⟨hOx9, a9, hG_a9, hN9_a9, hMx_a9, hMx9⟩ := q9
  have hN_a9 := hX.new0 (hT.no hN9_a9) hN9_a9
  have hP : va_P D vwCl w9 H := hP9
  have hD : va_D A w9 := hD9
  have hT : cT cy G9 w9 := hT9
  have hM_o := hX9.2.1 _ _ (cP.no1 (Ne.symm (cne0 hO_q1 hG_o)) hG_o rfl) hM_o
  have hG_o := hX9.1 _ _ hG_o
  have hG_b_o := hX9.1 _ _ hG_b_o
  have hG_s_o := hX9.1 _ _ hG_s_o
  have hO_q1 := hOx9
  have hM_a9 := hMx_a9
  have hM_q1 : cIn w9 q1 (.inr (2, [.ref b_o, .ref a9, .int 3, .long 0, .long 0])) := hMx9
  have hX := hX.trN hN_q1 hX9
  obtain ⟨Gk9, hGk⟩ : ∃ z, z = va_up G9 q1 (some (3, 2, 8 * w_o + h_o)) := ⟨_, rfl⟩
  have hE9 : cE G9 Gk9 := by rw [hGk]; exact cE.add hO_q1
  have hG_q1 : Gk9 q1 = some (3, 2, 8 * w_o + h_o) := by rw [hGk]; simp [va_up]
  have hG_o := hE9 _ _ hG_o
  have hG_b_o := hE9 _ _ hG_b_o
  have hG_s_o := hE9 _ _ hG_s_o
  have hG_a9 := hE9 _ _ hG_a9
  have hT : cT cy Gk9 w9 := by rw [hGk]; exact hT.kind hO_q1 hM_q1 (by rw [← hGk]; exact ⟨_, _, _, _, _, _, _, _, rfl, hG_b_o, hG_a9, ⟨rfl, Or.inr (Or.inl ⟨rfl, rfl⟩)⟩⟩)
  have hX := hX.trN hN_q1 (show cX (some q1) (chs []) G9 w9 Gk9 w9 by rw [hGk]; exact cX.kind hO_q1)
  have hJ_q1 : cJk Gk9 2 (8 * w_o + h_o) w_o h_o [] := ⟨rfl, Or.inr (Or.inl ⟨rfl, rfl⟩)⟩
  refine t_calla (va_runV (g := F0 m 12 ls ([.ref q1, .ref o])) (As := [.ref q1]) (rest := []) ⟨hx, hb, hml, hown, hts⟩ (c_X3_alike_w l D cy A Gk9 w9 o q1 hD hT hG_o hG_q1 hM_q1 ) (cwV 1 hts gX3_asItIs_X3_alike rfl rfl rfl (by decide +kernel) ⟨Nat.le_of_ble_eq_true rfl, Nat.le_of_ble_eq_true rfl⟩) (c_preV hM_o rfl hP hK hA hS hV) rfl rfl hl.1 rfl (lv_room (Nat.le_of_ble_eq_true rfl)) dX3_asItIs_12 ⟨Nat.le_of_ble_eq_true rfl, Nat.le_of_ble_eq_true rfl⟩) hS (fun r12 u H locs q12 hP9 hD9 hT9 hS => ?_)
  obtain ⟨w12, rfl, hF12, q12⟩ := q12
  have hP : va_P D vwCl w12 H := hP9
  have hD : va_D A w12 := hD9
  have hT : cT cy Gk9 w12 := hT9
  have hX := hX.trF (fun b9 z9 => by rcases z9 with rfl | rfl; exact hN_q1; exact hN_a9) hF12
  subst q12
  refine W.widen (k := 2) (n := 49) (Nat.le_of_ble_eq_true rfl) (Nat.le_of_ble_eq_true rfl) ?_
  exact W.aret (v := .ref q1) hx hb hr (Or.inl ⟨_, rfl⟩) (Or.inr ⟨_, rfl⟩) (fun t ht hW => ⟨⟨(some q1), (Gk9, w12), rfl, ⟨hX, ⟨_, rfl, (by rw [← ee9.1, ← ee9.2]; exact hG_q1), hN_q1⟩⟩, by show va_P D vwCl w12 t.heap; rw [ht]; exact hP, hD, hT⟩, hS.F ht⟩) hS.2.2 dX3_asItIs_15
set_option maxHeartbeats 4000000 in
set_option maxRecDepth 100000 in
theorem c_X4_asItIs_q (l : Launch) (D : va_G) (cy : Nat → ClassId) (A : Nat → Prop) (G : cG) (ws : va_W) (o : Nat) {w h : Nat} (hD : va_D A ws) (hT : cT cy G ws) (hG_o : G o = some (3, 3, 8 * w + h)) (hb9 : 1 ≤ w ∧ w ≤ 6 ∧ 1 ≤ h ∧ h ≤ 6) : Ca l D cy A yX4_asItIs wsX4_asItIs ({ frames := 4, cells := 2, slots := 49, locals := 89 }) 2 49 ws [.ref o] (fun r0 u => cX none (chs []) G ws u.1 u.2 ∧ (∃ x, r0 = some x ∧ u.1 x = some (3, 3, 8 * w + h) ∧ (∀ e, ¬ cIn ws x e))) := by
  refine Met.ofW (cc := cX4_asItIs) (maxL := 1) (ret := (some (.object "ShadowBench$Job"))) (by decide) rfl ?_
  intro p e s m args below meth c s₁ B hml hv
  obtain ⟨rfl, hP, hK, hA, hV⟩ := hv
  have hx := B.exec
  have hb := B.bytes
  have hr := B.returns
  have hts := atoms_spec (ws := wsX4_asItIs) B.pre
  have hown : s.vm.findClass RX4 = some m.cls := findClass_of_methodNamed B.named
  have hlocks := B.notSynchronized
  have hS : va_S A s.heap s.heap [] := va_S.rf
  have hX : cX none (chs []) G ws G ws := cX.rf
  have hl := lv_entry ([.ref o]) (n := 1) (Nat.le_of_ble_eq_true rfl)
  rw [lg_entry_eq]
  generalize (lg_sl ([.ref o]) ++ List.replicate (1 - (lg_sl ([.ref o])).length) Slot.unset).toArray = ls at hl ⊢
  have hl : lv_has ls 1 [(0, .ref o)] := hl
  have k_0 : (0 : Int32).toInt = 0 := by decide
  refine lv_aload_n hx hb dX4_asItIs_0 rfl (lv_at hl 0 rfl) ?_
  refine t_new (C := RX4) (T := TX4) (N := 5) (ci := 3) (ty0 := tyX4) (fs := [.null, .null, .int 0, .long 0, .long 0]) hx hb hts (by decide +kernel) tyX4_ok hown (hts (.classLink RX4 8 RX4) (by decide +kernel)) (hts (.instantiable RX4 5) (by decide +kernel)) (hts (.initialized RX4) (by decide +kernel)) hK hP hD hS hA hT rfl (by decide +kernel) (Nat.le_of_ble_eq_true rfl) (Nat.le_of_ble_eq_true rfl) dX4_asItIs_1 (fun q1 H w1 hM_q1 hO_q1 hF1 hX1 hk1 hP hD hT hS => ?_)
  have hN_q1 := hX.new0 hO_q1 hF1
  have hX := hX.tr (hX1 _ _)
  refine lv_dup hx hb dX4_asItIs_4 rfl ?_
  refine lv_aload_n hx hb dX4_asItIs_5 rfl (lv_at hl 0 rfl) ?_
  obtain ⟨_, hM_o, b_o, s_o, w_o, h_o, t_o, x_o, y_o, ms_o, rfl, hG_b_o, hG_s_o, hJ_o⟩ := hT _ _ hG_o
  refine t_get (v := .ref b_o) (C := RX4) (T := TX4) (N := 5) hx hb hts (by decide +kernel) hown hK hP hM_o rfl 0 (by decide) (hts (.fieldLink RX4 7 "ShadowBench$JoinedJob" "board" "LShadowBench$Board;") (by decide +kernel)) (fun _ h9 => u_same (hts (.sameField "ShadowBench$JoinedJob" "ShadowBench$Job" "board" "LShadowBench$Board;") (by decide +kernel)) _ h9) rfl dX4_asItIs_6 ?_
  have ee9 : w_o = w ∧ h_o = h := by have z8 := c_hb hT hG_b_o; have z9 := hJ_o.1; omega
  refine t_callv (va_runI (g := F0 m 9 ls ([.ref b_o, .ref q1, .ref q1, .ref o])) (As := [.ref b_o]) (rest := [.ref q1, .ref o]) (b := q1) ⟨hx, hb, hml, hown, hts⟩ (c_X4_init_w l D cy A G w1 q1 b_o hD hT hO_q1 hM_q1 hG_b_o (by unfold cKc; omega)) (cwI 1 hts gX4_asItIs_X4_init rfl rfl rfl (hts (.initialized RX4) (by decide +kernel)) (hts (.methodLink RX4 30 yX4_init) (by decide +kernel)) (hts (.instanceMethod yX4_init) (by decide +kernel)) rfl (by decide +kernel) ⟨Nat.le_of_ble_eq_true rfl, Nat.le_of_ble_eq_true rfl⟩) (c_preS hP hK hA hS hV) rfl rfl hl.1 rfl (lv_room (Nat.le_of_ble_eq_true rfl)) dX4_asItIs_9 ⟨Nat.le_of_ble_eq_true rfl, Nat.le_of_ble_eq_true rfl⟩) hS (fun u H locs q9 hP9 hD9 hT9 hS => ?_)
  obtain ⟨G9, w9⟩ := u
  obtain ⟨hX9, q9⟩ := q9
  have hX9 : cX (some q1) (chs []) G w1 G9 w9 := hX9
  obtain ⟨hOx9, a9, hG_a9, hN9_a9, hMx_a9, hMx9⟩ := q9
  have hN_a9 := hX.new0 (hT.no hN9_a9) hN9_a9
  have hP : va_P D vwCl w9 H := hP9
  have hD : va_D A w9 := hD9
  have hT : cT cy G9 w9 := hT9
  have hM_o := hX9.2.1 _ _ (cP.no1 (Ne.symm (cne0 hO_q1 hG_o)) hG_o rfl) hM_o
  have hG_o := hX9.1 _ _ hG_o
  have hG_b_o := hX9.1 _ _ hG_b_o
  have hG_s_o := hX9.1 _ _ hG_s_o
  have hO_q1 := hOx9
  have hM_a9 := hMx_a9
  have hM_q1 : cIn w9 q1 (.inr (3, [.ref b_o, .ref a9, .int 3, .long 0, .long 0])) := hMx9
  have hX := hX.trN hN_q1 hX9
  obtain ⟨Gk9, hGk⟩ : ∃ z, z = va_up G9 q1 (some (3, 3, 8 * w_o + h_o)) := ⟨_, rfl⟩
  have hE9 : cE G9 Gk9 := by rw [hGk]; exact cE.add hO_q1
  have hG_q1 : Gk9 q1 = some (3, 3, 8 * w_o + h_o) := by rw [hGk]; simp [va_up]
  have hG_o := hE9 _ _ hG_o
  have hG_b_o := hE9 _ _ hG_b_o
  have hG_s_o := hE9 _ _ hG_s_o
  have hG_a9 := hE9 _ _ hG_a9
  have hT : cT cy Gk9 w9 := by rw [hGk]; exact hT.kind hO_q1 hM_q1 (by rw [← hGk]; exact ⟨_, _, _, _, _, _, _, _, rfl, hG_b_o, hG_a9, ⟨rfl, Or.inr (Or.inr (Or.inl ⟨rfl, rfl⟩))⟩⟩)
  have hX := hX.trN hN_q1 (show cX (some q1) (chs []) G9 w9 Gk9 w9 by rw [hGk]; exact cX.kind hO_q1)
  have hJ_q1 : cJk Gk9 3 (8 * w_o + h_o) w_o h_o [] := ⟨rfl, Or.inr (Or.inr (Or.inl ⟨rfl, rfl⟩))⟩
  refine t_calla (va_runU (g := F0 m 12 ls ([.ref q1, .ref o])) (As := [.ref q1]) (rest := []) ⟨hx, hb, hml, hown, hts⟩ (c_X3_alike_w l D cy A Gk9 w9 o q1 hD hT hG_o hG_q1 hM_q1 ) (va_cwU 1 hts gX4_asItIs_X3_alike_u31X4 rfl rfl rfl rfl (by decide +kernel) ⟨Nat.le_of_ble_eq_true rfl, Nat.le_of_ble_eq_true rfl⟩) (c_preV hM_o rfl hP hK hA hS hV) rfl rfl hl.1 rfl (lv_room (Nat.le_of_ble_eq_true rfl)) dX4_asItIs_12 ⟨Nat.le_of_ble_eq_true rfl, Nat.le_of_ble_eq_true rfl⟩) hS (fun r12 u H locs q12 hP9 hD9 hT9 hS => ?_)
  obtain ⟨w12, rfl, hF12, q12⟩ := q12
  have hP : va_P D vwCl w12 H := hP9
  have hD : va_D A w12 := hD9
  have hT : cT cy Gk9 w12 := hT9
  have hX := hX.trF (fun b9 z9 => by rcases z9 with rfl | rfl; exact hN_q1; exact hN_a9) hF12
  subst q12
  refine W.widen (k := 2) (n := 49) (Nat.le_of_ble_eq_true rfl) (Nat.le_of_ble_eq_true rfl) ?_
  exact W.aret (v := .ref q1) hx hb hr (Or.inl ⟨_, rfl⟩) (Or.inr ⟨_, rfl⟩) (fun t ht hW => ⟨⟨(some q1), (Gk9, w12), rfl, ⟨hX, ⟨_, rfl, (by rw [← ee9.1, ← ee9.2]; exact hG_q1), hN_q1⟩⟩, by show va_P D vwCl w12 t.heap; rw [ht]; exact hP, hD, hT⟩, hS.F ht⟩) hS.2.2 dX4_asItIs_15
set_option maxHeartbeats 4000000 in
set_option maxRecDepth 100000 in
theorem c_X1_asItIs_q (l : Launch) (D : va_G) (cy : Nat → ClassId) (A : Nat → Prop) (G : cG) (ws : va_W) (o : Nat) {w h : Nat} (hD : va_D A ws) (hT : cT cy G ws) (hG_o : G o = some (3, 1, 8 * w + h)) (hb9 : 1 ≤ w ∧ w ≤ 6 ∧ 1 ≤ h ∧ h ≤ 6) : Ca l D cy A yX1_asItIs wsX1_asItIs ({ frames := 5, cells := 2, slots := 49, locals := 103 }) 2 49 ws [.ref o] (fun r0 u => cX none (chs []) G ws u.1 u.2 ∧ (∃ x, r0 = some x ∧ u.1 x = some (3, 1, 8 * w + h) ∧ (∀ e, ¬ cIn ws x e))) := by
  refine Met.ofW (cc := cX1_asItIs) (maxL := 1) (ret := (some (.object "ShadowBench$Job"))) (by decide) rfl ?_
  intro p e s m args below meth c s₁ B hml hv
  obtain ⟨rfl, hP, hK, hA, hV⟩ := hv
  have hx := B.exec
  have hb := B.bytes
  have hr := B.returns
  have hts := atoms_spec (ws := wsX1_asItIs) B.pre
  have hown : s.vm.findClass RX1 = some m.cls := findClass_of_methodNamed B.named
  have hlocks := B.notSynchronized
  have hS : va_S A s.heap s.heap [] := va_S.rf
  have hX : cX none (chs []) G ws G ws := cX.rf
  have hl := lv_entry ([.ref o]) (n := 1) (Nat.le_of_ble_eq_true rfl)
  rw [lg_entry_eq]
  generalize (lg_sl ([.ref o]) ++ List.replicate (1 - (lg_sl ([.ref o])).length) Slot.unset).toArray = ls at hl ⊢
  have hl : lv_has ls 1 [(0, .ref o)] := hl
  have k_0 : (0 : Int32).toInt = 0 := by decide
  refine lv_aload_n hx hb dX1_asItIs_0 rfl (lv_at hl 0 rfl) ?_
  refine t_new (C := RX1) (T := TX1) (N := 5) (ci := 1) (ty0 := tyX1) (fs := [.null, .null, .int 0, .long 0, .long 0]) hx hb hts (by decide +kernel) tyX1_ok hown (hts (.classLink RX1 12 RX1) (by decide +kernel)) (hts (.instantiable RX1 5) (by decide +kernel)) (hts (.initialized RX1) (by decide +kernel)) hK hP hD hS hA hT rfl (by decide +kernel) (Nat.le_of_ble_eq_true rfl) (Nat.le_of_ble_eq_true rfl) dX1_asItIs_1 (fun q1 H w1 hM_q1 hO_q1 hF1 hX1 hk1 hP hD hT hS => ?_)
  have hN_q1 := hX.new0 hO_q1 hF1
  have hX := hX.tr (hX1 _ _)
  refine lv_dup hx hb dX1_asItIs_4 rfl ?_
  refine lv_aload_n hx hb dX1_asItIs_5 rfl (lv_at hl 0 rfl) ?_
  obtain ⟨_, hM_o, b_o, s_o, w_o, h_o, t_o, x_o, y_o, ms_o, rfl, hG_b_o, hG_s_o, hJ_o⟩ := hT _ _ hG_o
  refine t_get (v := .ref b_o) (C := RX1) (T := TX1) (N := 5) hx hb hts (by decide +kernel) hown hK hP hM_o rfl 0 (by decide) (hts (.fieldLink RX1 11 "ShadowBench$EvenJob" "board" "LShadowBench$Board;") (by decide +kernel)) (fun _ h9 => u_same (hts (.sameField "ShadowBench$EvenJob" "ShadowBench$Job" "board" "LShadowBench$Board;") (by decide +kernel)) _ h9) rfl dX1_asItIs_6 ?_
  have ee9 : w_o = w ∧ h_o = h := by have z8 := c_hb hT hG_b_o; have z9 := hJ_o.1; omega
  refine t_callv (va_runI (g := F0 m 9 ls ([.ref b_o, .ref q1, .ref q1, .ref o])) (As := [.ref b_o]) (rest := [.ref q1, .ref o]) (b := q1) ⟨hx, hb, hml, hown, hts⟩ (c_X1_init_w l D cy A G w1 q1 b_o hD hT hO_q1 hM_q1 hG_b_o (by unfold cKc; omega)) (cwI 1 hts gX1_asItIs_X1_init rfl rfl rfl (hts (.initialized RX1) (by decide +kernel)) (hts (.methodLink RX1 36 yX1_init) (by decide +kernel)) (hts (.instanceMethod yX1_init) (by decide +kernel)) rfl (by decide +kernel) ⟨Nat.le_of_ble_eq_true rfl, Nat.le_of_ble_eq_true rfl⟩) (c_preS hP hK hA hS hV) rfl rfl hl.1 rfl (lv_room (Nat.le_of_ble_eq_true rfl)) dX1_asItIs_9 ⟨Nat.le_of_ble_eq_true rfl, Nat.le_of_ble_eq_true rfl⟩) hS (fun u H locs q9 hP9 hD9 hT9 hS => ?_)
  obtain ⟨G9, w9⟩ := u
  obtain ⟨hX9, q9⟩ := q9
  have hX9 : cX (some q1) (chs []) G w1 G9 w9 := hX9
  obtain ⟨hOx9, a9, hG_a9, hN9_a9, hMx_a9, hMx9⟩ := q9
  have hN_a9 := hX.new0 (hT.no hN9_a9) hN9_a9
  have hP : va_P D vwCl w9 H := hP9
  have hD : va_D A w9 := hD9
  have hT : cT cy G9 w9 := hT9
  have hM_o := hX9.2.1 _ _ (cP.no1 (Ne.symm (cne0 hO_q1 hG_o)) hG_o rfl) hM_o
  have hG_o := hX9.1 _ _ hG_o
  have hG_b_o := hX9.1 _ _ hG_b_o
  have hG_s_o := hX9.1 _ _ hG_s_o
  have hO_q1 := hOx9
  have hM_a9 := hMx_a9
  have hM_q1 : cIn w9 q1 (.inr (1, [.ref b_o, .ref a9, .int 3, .long 0, .long 0])) := hMx9
  have hX := hX.trN hN_q1 hX9
  obtain ⟨Gk9, hGk⟩ : ∃ z, z = va_up G9 q1 (some (3, 1, 8 * w_o + h_o)) := ⟨_, rfl⟩
  have hE9 : cE G9 Gk9 := by rw [hGk]; exact cE.add hO_q1
  have hG_q1 : Gk9 q1 = some (3, 1, 8 * w_o + h_o) := by rw [hGk]; simp [va_up]
  have hG_o := hE9 _ _ hG_o
  have hG_b_o := hE9 _ _ hG_b_o
  have hG_s_o := hE9 _ _ hG_s_o
  have hG_a9 := hE9 _ _ hG_a9
  have hT : cT cy Gk9 w9 := by rw [hGk]; exact hT.kind hO_q1 hM_q1 (by rw [← hGk]; exact ⟨_, _, _, _, _, _, _, _, rfl, hG_b_o, hG_a9, ⟨rfl, Or.inl ⟨rfl, rfl⟩⟩⟩)
  have hX := hX.trN hN_q1 (show cX (some q1) (chs []) G9 w9 Gk9 w9 by rw [hGk]; exact cX.kind hO_q1)
  have hJ_q1 : cJk Gk9 1 (8 * w_o + h_o) w_o h_o [] := ⟨rfl, Or.inl ⟨rfl, rfl⟩⟩
  refine t_calla (va_runU (g := F0 m 12 ls ([.ref q1, .ref o])) (As := [.ref q1]) (rest := []) ⟨hx, hb, hml, hown, hts⟩ (c_X3_alike_w l D cy A Gk9 w9 o q1 hD hT hG_o hG_q1 hM_q1 ) (va_cwU 1 hts gX1_asItIs_X3_alike_u37X1 rfl rfl rfl rfl (by decide +kernel) ⟨Nat.le_of_ble_eq_true rfl, Nat.le_of_ble_eq_true rfl⟩) (c_preV hM_o rfl hP hK hA hS hV) rfl rfl hl.1 rfl (lv_room (Nat.le_of_ble_eq_true rfl)) dX1_asItIs_12 ⟨Nat.le_of_ble_eq_true rfl, Nat.le_of_ble_eq_true rfl⟩) hS (fun r12 u H locs q12 hP9 hD9 hT9 hS => ?_)
  obtain ⟨w12, rfl, hF12, q12⟩ := q12
  have hP : va_P D vwCl w12 H := hP9
  have hD : va_D A w12 := hD9
  have hT : cT cy Gk9 w12 := hT9
  have hX := hX.trF (fun b9 z9 => by rcases z9 with rfl | rfl; exact hN_q1; exact hN_a9) hF12
  subst q12
  refine W.widen (k := 2) (n := 49) (Nat.le_of_ble_eq_true rfl) (Nat.le_of_ble_eq_true rfl) ?_
  exact W.aret (v := .ref q1) hx hb hr (Or.inl ⟨_, rfl⟩) (Or.inr ⟨_, rfl⟩) (fun t ht hW => ⟨⟨(some q1), (Gk9, w12), rfl, ⟨hX, ⟨_, rfl, (by rw [← ee9.1, ← ee9.2]; exact hG_q1), hN_q1⟩⟩, by show va_P D vwCl w12 t.heap; rw [ht]; exact hP, hD, hT⟩, hS.F ht⟩) hS.2.2 dX1_asItIs_15
set_option maxHeartbeats 4000000 in
set_option maxRecDepth 100000 in
theorem c_X5_asItIs_q (l : Launch) (D : va_G) (cy : Nat → ClassId) (A : Nat → Prop) (G : cG) (ws : va_W) (o : Nat) {w h b_o s_o c_o : Nat} {t_o : Int32} {x_o y_o : Int64} {fm : Nat → Int32} (hD : va_D A ws) (hT : cT cy G ws) (hG_o : G o = some (3, 4, 8 * w + h)) (hM_o : cIn ws o (.inr (4, [.ref b_o, .ref s_o, .int t_o, .long x_o, .long y_o, .ref c_o]))) (hM_c_o : cIn ws c_o (.inl (cy 0, (w * h), .inl fm))) (hb9 : 1 ≤ w ∧ w ≤ 6 ∧ 1 ≤ h ∧ h ≤ 6) : Ca l D cy A yX5_asItIs wsX5_asItIs ({ frames := 4, cells := 3, slots := 86, locals := 89 }) 3 86 ws [.ref o] (fun r0 u => cX none (chs []) G ws u.1 u.2 ∧ (∃ x c F, r0 = some x ∧ u.1 x = some (3, 4, 8 * w + h) ∧ (∀ e, ¬ cIn ws x e) ∧ (∀ e, ¬ cIn ws c e) ∧ (∃ b s t y z, cIn u.2 x (.inr (4, [.ref b, .ref s, .int t, .long y, .long z, .ref c]))) ∧ cIn u.2 c (.inl (cy 0, w * h, .inl F)) ∧ ∀ e, e < w * h → F e = fm e)) := by
  refine Met.ofW (cc := cX5_asItIs) (maxL := 2) (ret := (some (.object "ShadowBench$Job"))) (by decide) rfl ?_
  intro p e s m args below meth c s₁ B hml hv
  obtain ⟨rfl, hP, hK, hA, hV⟩ := hv
  have hx := B.exec
  have hb := B.bytes
  have hr := B.returns
  have hts := atoms_spec (ws := wsX5_asItIs) B.pre
  have hown : s.vm.findClass RX5 = some m.cls := findClass_of_methodNamed B.named
  have hlocks := B.notSynchronized
  have hS : va_S A s.heap s.heap [] := va_S.rf
  have hX : cX none (chs []) G ws G ws := cX.rf
  have hl := lv_entry ([.ref o]) (n := 2) (Nat.le_of_ble_eq_true rfl)
  rw [lg_entry_eq]
  generalize (lg_sl ([.ref o]) ++ List.replicate (2 - (lg_sl ([.ref o])).length) Slot.unset).toArray = ls at hl ⊢
  have hl : lv_has ls 2 [(0, .ref o)] := hl
  have k_0 : (0 : Int32).toInt = 0 := by decide
  obtain ⟨hG_b_o, hG_s_o, hJ_o⟩ := w3sh hD hT hG_o hb9 hM_o
  have hG_c_o := cJ4c hJ_o
  have m36 := cb_mul hb9
  refine t_new (C := RX5) (T := TX5) (N := 6) (ci := 4) (ty0 := tyX5) (fs := [.null, .null, .int 0, .long 0, .long 0, .null]) hx hb hts (by decide +kernel) tyX5_ok hown (hts (.classLink RX5 14 RX5) (by decide +kernel)) (hts (.instantiable RX5 6) (by decide +kernel)) (hts (.initialized RX5) (by decide +kernel)) hK hP hD hS hA hT rfl (by decide +kernel) (Nat.le_of_ble_eq_true rfl) (Nat.le_of_ble_eq_true rfl) dX5_asItIs_0 (fun q0 H w0 hM_q0 hO_q0 hF0 hX0 hk0 hP hD hT hS => ?_)
  have hN_q0 := hX.new0 hO_q0 hF0
  have hM_o := hk0 _ _ hM_o
  have hM_c_o := hk0 _ _ hM_c_o
  have hX := hX.tr (hX0 _ _)
  refine lv_dup hx hb dX5_asItIs_3 rfl ?_
  refine lv_aload_n hx hb dX5_asItIs_4 rfl (lv_at hl 0 rfl) ?_
  refine t_get (v := .ref b_o) (C := RX5) (T := TX5) (N := 6) hx hb hts (by decide +kernel) hown hK hP hM_o rfl 0 (by decide) (hts (.fieldLink RX5 36 "ShadowBench$MarkedJob" "board" "LShadowBench$Board;") (by decide +kernel)) (fun _ h9 => u_same (hts (.sameField "ShadowBench$MarkedJob" "ShadowBench$Job" "board" "LShadowBench$Board;") (by decide +kernel)) _ h9) rfl dX5_asItIs_5 ?_
  refine t_callv (va_runI (g := F0 m 8 ls ([.ref b_o, .ref q0, .ref q0])) (As := [.ref b_o]) (rest := [.ref q0]) (b := q0) ⟨hx, hb, hml, hown, hts⟩ (c_X5_init_w l D cy A G w0 q0 b_o hD hT hO_q0 hM_q0 hG_b_o ) (cwI 1 hts gX5_asItIs_X5_init rfl rfl rfl (hts (.initialized RX5) (by decide +kernel)) (hts (.methodLink RX5 40 yX5_init) (by decide +kernel)) (hts (.instanceMethod yX5_init) (by decide +kernel)) rfl (by decide +kernel) ⟨Nat.le_of_ble_eq_true rfl, Nat.le_of_ble_eq_true rfl⟩) (c_preS hP hK hA hS hV) rfl rfl hl.1 rfl (lv_room (Nat.le_of_ble_eq_true rfl)) dX5_asItIs_8 ⟨Nat.le_of_ble_eq_true rfl, Nat.le_of_ble_eq_true rfl⟩) hS (fun u H locs q8 hP9 hD9 hT9 hS => ?_)
  obtain ⟨G8, w8⟩ := u
  obtain ⟨hX9, q8⟩ := q8
  have hX9 : cX (some q0) (chs []) G w0 G8 w8 := hX9
  obtain ⟨hOx8, a8, hG_a8, hN9_a8, hMx_a8, c8, hG_c8, hN9_c8, hne_c8, hMx_c8, hMx8⟩ := q8
  have hN_a8 := hX.new0 (hT.no hN9_a8) hN9_a8
  have hN_c8 := hX.new0 (hT.no hN9_c8) hN9_c8
  have hP : va_P D vwCl w8 H := hP9
  have hD : va_D A w8 := hD9
  have hT : cT cy G8 w8 := hT9
  have hM_o := hX9.2.1 _ _ (cP.no1 (Ne.symm (cne0 hO_q0 hG_o)) hG_o rfl) hM_o
  have hM_c_o := hX9.2.1 _ _ (cP.no1 (Ne.symm (cne0 hO_q0 hG_c_o)) hG_c_o rfl) hM_c_o
  have hG_o := hX9.1 _ _ hG_o
  have hG_b_o := hX9.1 _ _ hG_b_o
  have hG_s_o := hX9.1 _ _ hG_s_o
  have hG_c_o := hX9.1 _ _ hG_c_o
  have hO_q0 := hOx8
  have hM_a8 := hMx_a8
  have hM_c8 := hMx_c8
  have hM_q0 : cIn w8 q0 (.inr (4, [.ref b_o, .ref a8, .int 3, .long 0, .long 0, .ref c8])) := hMx8
  have hX := hX.trN hN_q0 hX9
  have hb9 := cb_mul (c_hb hT hG_b_o)
  obtain ⟨Gk8, hGk⟩ : ∃ z, z = va_up G8 q0 (some (3, 4, 8 * w + h)) := ⟨_, rfl⟩
  have hE9 : cE G8 Gk8 := by rw [hGk]; exact cE.add hO_q0
  have hG_q0 : Gk8 q0 = some (3, 4, 8 * w + h) := by rw [hGk]; simp [va_up]
  have hG_o := hE9 _ _ hG_o
  have hG_b_o := hE9 _ _ hG_b_o
  have hG_s_o := hE9 _ _ hG_s_o
  have hG_c_o := hE9 _ _ hG_c_o
  have hG_a8 := hE9 _ _ hG_a8
  have hG_c8 := hE9 _ _ hG_c8
  have hT : cT cy Gk8 w8 := by rw [hGk]; exact hT.kind hO_q0 hM_q0 (by rw [← hGk]; exact ⟨_, _, _, _, _, _, _, _, rfl, hG_b_o, hG_a8, ⟨rfl, Or.inr (Or.inr (Or.inr ⟨rfl, _, rfl, hG_c8⟩))⟩⟩)
  have hX := hX.trN hN_q0 (show cX (some q0) (chs []) G8 w8 Gk8 w8 by rw [hGk]; exact cX.kind hO_q0)
  have hJ_q0 : cJk Gk8 4 (8 * w + h) w h [.ref c8] := ⟨rfl, Or.inr (Or.inr (Or.inr ⟨rfl, _, rfl, hG_c8⟩))⟩
  refine lv_astore_n (lv' := [(1, .ref q0), (0, .ref o)]) hx hb dX5_asItIs_11 rfl hl (by decide) rfl (fun ls hl => ?_)
  refine lv_aload_n hx hb dX5_asItIs_12 rfl (lv_at hl 1 rfl) ?_
  refine t_get (v := .ref c_o) (C := RX5) (T := TX5) (N := 6) hx hb hts (by decide +kernel) hown hK hP hM_o rfl 5 (by decide) (hts (.fieldLink RX5 13 "ShadowBench$MarkedJob" "marks" "[I") (by decide +kernel)) (fun _ h9 => h9) rfl dX5_asItIs_13 ?_
  refine lv_iconst (v := 0) hx hb dX5_asItIs_16 (by decide) ?_
  refine lv_aload_n hx hb dX5_asItIs_17 rfl (lv_at hl 0 rfl) ?_
  refine t_get (v := .ref c8) (C := RX5) (T := TX5) (N := 6) hx hb hts (by decide +kernel) hown hK hP hM_q0 rfl 5 (by decide) (hts (.fieldLink RX5 13 "ShadowBench$MarkedJob" "marks" "[I") (by decide +kernel)) (fun _ h9 => h9) rfl dX5_asItIs_18 ?_
  refine lv_iconst (v := 0) hx hb dX5_asItIs_21 (by decide) ?_
  refine lv_aload_n hx hb dX5_asItIs_22 rfl (lv_at hl 1 rfl) ?_
  refine t_get (v := .ref c_o) (C := RX5) (T := TX5) (N := 6) hx hb hts (by decide +kernel) hown hK hP hM_o rfl 5 (by decide) (hts (.fieldLink RX5 13 "ShadowBench$MarkedJob" "marks" "[I") (by decide +kernel)) (fun _ h9 => h9) rfl dX5_asItIs_23 ?_
  refine t_alenI hx hb hK hP hT (Or.inr (Or.inl rfl)) hG_c_o dX5_asItIs_26 ?_
  have i26 : (nI (w * h)).toInt = _ := nI_toInt (by omega)
  refine t_copyiK hx hb (by rw [hml]; exact hl.1.symm) hown (hts (.methodLink RX5 41 arraycopyName) (by decide +kernel)) (hts (.native arraycopyName) (by decide +kernel)) (hts (.static arraycopyName) (by decide +kernel)) (hts (.initialized "java/lang/System") (by decide +kernel)) hK hP hD hS hT (Or.inr (Or.inl rfl)) hG_c8 hM_c_o hM_c8 (by omega) (by omega) (by omega) (by omega) (by omega) (Nat.le_of_ble_eq_true rfl) (Nat.le_of_ble_eq_true rfl) dX5_asItIs_27 (fun H locs w27 hU27 hP hD hT hS => ?_)
  have hM_o := hU27.2 _ _ (cne hG_o hG_c8 (show (3 : Nat) ≠ 14 by decide)) hM_o
  have hM_q0 := hU27.2 _ _ (cne hG_q0 hG_c8 (show (3 : Nat) ≠ 14 by decide)) hM_q0
  have hM_c8 := hU27.1
  have hX := hX.upN hN_c8 hU27
  have hne_c8_a8 := hne_c8
  refine lv_aload_n hx hb dX5_asItIs_30 rfl (lv_at hl 1 rfl) ?_
  refine lv_aload_n hx hb dX5_asItIs_31 rfl (lv_at hl 0 rfl) ?_
  refine t_calla (va_runU (g := F0 m 32 ls ([.ref q0, .ref o])) (As := [.ref q0]) (rest := []) ⟨hx, hb, hml, hown, hts⟩ (c_X3_alike_q l D cy A Gk8 w27 o q0 hD hT hG_o hG_q0 hM_q0 ) (va_cwU 1 hts gX5_asItIs_X3_alike_u47X5 rfl rfl rfl rfl (by decide +kernel) ⟨Nat.le_of_ble_eq_true rfl, Nat.le_of_ble_eq_true rfl⟩) (c_preV hM_o rfl hP hK hA hS hV) rfl rfl hl.1 rfl (lv_room (Nat.le_of_ble_eq_true rfl)) dX5_asItIs_32 ⟨Nat.le_of_ble_eq_true rfl, Nat.le_of_ble_eq_true rfl⟩) hS (fun r32 u H locs q32 hP9 hD9 hT9 hS => ?_)
  obtain ⟨w32, rfl, hF32, q32⟩ := q32
  have hP : va_P D vwCl w32 H := hP9
  have hD : va_D A w32 := hD9
  have hT : cT cy Gk8 w32 := hT9
  have hM_c8 := hF32 _ _ (fun z9 => z9.elim (cne hG_c8 hG_q0 (show (14 : Nat) ≠ 3 by decide)) (hne_c8_a8)) hM_c8
  have hX := hX.trF (fun b9 z9 => by rcases z9 with rfl | rfl; exact hN_q0; exact hN_a8) hF32
  obtain ⟨qr32, t32, y32, z32, hMx32⟩ := q32
  have hM_q0 : cIn w32 q0 (.inr (4, [.ref b_o, .ref a8, .int t32, .long y32, .long z32, .ref c8])) := hMx32
  have q32 := qr32
  subst q32
  refine W.widen (k := 3) (n := 86) (Nat.le_of_ble_eq_true rfl) (Nat.le_of_ble_eq_true rfl) ?_
  exact W.aret (v := .ref q0) hx hb hr (Or.inl ⟨_, rfl⟩) (Or.inr ⟨_, rfl⟩) (fun t ht hW => ⟨⟨(some q0), (Gk8, w32), rfl, ⟨hX, ⟨_, _, _, rfl, hG_q0, hN_q0, hN_c8, ⟨_, _, _, _, _, hM_q0⟩, hM_c8, (fun e9 h9 => by unfold va_cpy; rw [show (0 : Int32).toNatClampNeg = 0 from rfl, nI_clamp (by omega), if_pos ⟨Nat.zero_le _, by omega⟩, Nat.zero_add, Nat.sub_zero])⟩⟩, by show va_P D vwCl w32 t.heap; rw [ht]; exact hP, hD, hT⟩, hS.F ht⟩) hS.2.2 dX5_asItIs_35
set_option maxHeartbeats 4000000 in
set_option maxRecDepth 100000 in
theorem c_X3_heft_q (l : Launch) (D : va_G) (cy : Nat → ClassId) (A : Nat → Prop) (G : cG) (ws : va_W) (o : Nat) {kq w h : Nat} (hD : va_D A ws) (hT : cT cy G ws) (hG_o : G o = some (3, kq, 8 * w + h)) (hb9 : 1 ≤ w ∧ w ≤ 6 ∧ 1 ≤ h ∧ h ≤ 6) : Ci l D cy A yX3_heft wsX3_heft ({ frames := 0, cells := 0, slots := 0, locals := 0 }) 0 0 ws [.ref o] (fun r0 u => u = (G, ws) ∧ (r0 = nI (10 + w * h))) := by
  refine Met.ofW (cc := cX3_heft) (maxL := 1) (ret := (some .int)) (by decide) rfl ?_
  intro p e s m args below meth c s₁ B hml hv
  obtain ⟨rfl, hP, hK, hA, hV⟩ := hv
  have hx := B.exec
  have hb := B.bytes
  have hr := B.returns
  have hts := atoms_spec (ws := wsX3_heft) B.pre
  have hown : s.vm.findClass RX3 = some m.cls := findClass_of_methodNamed B.named
  have hlocks := B.notSynchronized
  have hS : va_S A s.heap s.heap [] := va_S.rf
  have hinJ : ∀ w ∈ wsX10 ++ wsX30 ++ wsX40 ++ wsX50, w ∈ wsX3_heft := by decide +kernel
  have hl := lv_entry ([.ref o]) (n := 1) (Nat.le_of_ble_eq_true rfl)
  rw [lg_entry_eq]
  generalize (lg_sl ([.ref o]) ++ List.replicate (1 - (lg_sl ([.ref o])).length) Slot.unset).toArray = ls at hl ⊢
  have hl : lv_has ls 1 [(0, .ref o)] := hl
  have k_0 : (0 : Int32).toInt = 0 := by decide
  have k_10 : (10 : Int32).toInt = 10 := by decide
  refine lv_bipush (v := 10) hx hb dX3_heft_0 (by decide) ?_
  refine lv_aload_n hx hb dX3_heft_2 rfl (lv_at hl 0 rfl) ?_
  obtain ⟨_, hM_o, b_o, s_o, w_o, h_o, t_o, x_o, y_o, ms_o, rfl, hG_b_o, hG_s_o, hJ_o⟩ := hT _ _ hG_o
  refine t_getJ (v := .ref b_o) hx hb hts hinJ hown hK hP hJ_o.kc hM_o 0 (by decide) (hts (.fieldLink RX3 28 "ShadowBench$Job" "board" "LShadowBench$Board;") (by decide +kernel)) (fun _ h9 => h9) rfl dX3_heft_3 ?_
  obtain ⟨_, hM_b_o, hb_b_o, l_b_o, f_b_o, r_b_o, rfl, hG_l_b_o, hG_f_b_o, hG_r_b_o⟩ := hT _ _ hG_b_o
  refine t_get (v := .int (nI (w_o * h_o))) (C := RX0) (T := TX0) (N := 8) hx hb hts (by decide +kernel) hown hK hP hM_b_o rfl 2 (by decide) (hts (.fieldLink RX3 80 "ShadowBench$Board" "squares" "I") (by decide +kernel)) (fun _ h9 => h9) rfl dX3_heft_6 ?_
  have m_wh_b_o := cb_mul hb_b_o
  have i_wh_b_o : (nI (w_o * h_o)).toInt = _ := nI_toInt (by omega)
  have ee9 : w_o = w ∧ h_o = h := by have z8 := c_hb hT hG_b_o; have z9 := hJ_o.1; omega
  refine lv_iadd hx hb dX3_heft_9 ?_
  refine lv_topi (fun v9 e9 => ?_)
  have i9 : v9.toInt = (10 : Int32).toInt + ((nI (w_o * h_o))).toInt := by rw [e9]; exact fb_addI (by omega) (by omega)
  exact W.iret (v := v9) hx hb hr (fun t ht hW => ⟨⟨_, (G, ws), rfl, ⟨rfl, (by rw [← ee9.1, ← ee9.2]; exact Int32.toInt_inj.mp (by rw [nI_toInt (by omega)]; omega))⟩, by show va_P D vwCl ws t.heap; rw [ht]; exact hP, hD, hT⟩, hS.F ht⟩) hS.2.2 dX3_heft_10
set_option maxHeartbeats 4000000 in
set_option maxRecDepth 100000 in
theorem c_X4_heft_q (l : Launch) (D : va_G) (cy : Nat → ClassId) (A : Nat → Prop) (G : cG) (ws : va_W) (o : Nat) {w h : Nat} (hD : va_D A ws) (hT : cT cy G ws) (hG_o : G o = some (3, 3, 8 * w + h)) (hb9 : 1 ≤ w ∧ w ≤ 6 ∧ 1 ≤ h ∧ h ≤ 6) : Ci l D cy A yX4_heft wsX4_heft ({ frames := 1, cells := 0, slots := 0, locals := 20 }) 0 0 ws [.ref o] (fun r0 u => u = (G, ws) ∧ (r0 = nI (10 + w * h) + 100)) := by
  refine Met.ofW (cc := cX4_heft) (maxL := 1) (ret := (some .int)) (by decide) rfl ?_
  intro p e s m args below meth c s₁ B hml hv
  obtain ⟨rfl, hP, hK, hA, hV⟩ := hv
  have hx := B.exec
  have hb := B.bytes
  have hr := B.returns
  have hts := atoms_spec (ws := wsX4_heft) B.pre
  have hown : s.vm.findClass RX4 = some m.cls := findClass_of_methodNamed B.named
  have hlocks := B.notSynchronized
  have hS : va_S A s.heap s.heap [] := va_S.rf
  have hl := lv_entry ([.ref o]) (n := 1) (Nat.le_of_ble_eq_true rfl)
  rw [lg_entry_eq]
  generalize (lg_sl ([.ref o]) ++ List.replicate (1 - (lg_sl ([.ref o])).length) Slot.unset).toArray = ls at hl ⊢
  have hl : lv_has ls 1 [(0, .ref o)] := hl
  have k_0 : (0 : Int32).toInt = 0 := by decide
  have k_100 : (100 : Int32).toInt = 100 := by decide
  refine lv_aload_n hx hb dX4_heft_0 rfl (lv_at hl 0 rfl) ?_
  obtain ⟨_, hM_o, b_o, s_o, w_o, h_o, t_o, x_o, y_o, ms_o, rfl, hG_b_o, hG_s_o, hJ_o⟩ := hT _ _ hG_o
  refine t_calli (va_runSU (g := F0 m 1 ls ([.ref o])) (As := []) (rest := []) (hK.1 3 _ rfl).2 ⟨hx, hb, hml, hown, hts⟩ (c_X3_heft_q l D cy A G ws o hD hT hG_o hb9) (va_cwSU 0 hts gX4_heft_X3_heft_s19 rfl rfl rfl (by decide +kernel) ⟨Nat.le_of_ble_eq_true rfl, Nat.le_of_ble_eq_true rfl⟩) (c_preV hM_o rfl hP hK hA hS hV) rfl rfl hl.1 rfl (lv_room (Nat.le_of_ble_eq_true rfl)) dX4_heft_1 ⟨Nat.le_of_ble_eq_true rfl, Nat.le_of_ble_eq_true rfl⟩) hS (fun r1 u H locs q1 hP9 hD9 hT9 hS => ?_)
  obtain ⟨rfl, q1⟩ := q1
  have hP : va_P D vwCl ws H := hP9
  refine lv_bipush (v := 100) hx hb dX4_heft_4 (by decide) ?_
  refine lv_iadd hx hb dX4_heft_6 ?_
  refine lv_topi (fun v6 e6 => ?_)
  exact W.iret (v := v6) hx hb hr (fun t ht hW => ⟨⟨_, (G, ws), rfl, ⟨rfl, (by rw [e6, q1])⟩, by show va_P D vwCl ws t.heap; rw [ht]; exact hP, hD, hT⟩, hS.F ht⟩) hS.2.2 dX4_heft_7
set_option maxHeartbeats 4000000 in
set_option maxRecDepth 100000 in
theorem c_X4_heft_q1 (l : Launch) (D : va_G) (cy : Nat → ClassId) (A : Nat → Prop) (G : cG) (ws : va_W) (o : Nat) {w h : Nat} (hD : va_D A ws) (hT : cT cy G ws) (hG_o : G o = some (3, 1, 8 * w + h)) (hb9 : 1 ≤ w ∧ w ≤ 6 ∧ 1 ≤ h ∧ h ≤ 6) : Ci l D cy A yX4_heft wsX4_heft ({ frames := 1, cells := 0, slots := 0, locals := 20 }) 0 0 ws [.ref o] (fun r0 u => u = (G, ws) ∧ (r0 = nI (10 + w * h) + 100)) := by
  refine Met.ofW (cc := cX4_heft) (maxL := 1) (ret := (some .int)) (by decide) rfl ?_
  intro p e s m args below meth c s₁ B hml hv
  obtain ⟨rfl, hP, hK, hA, hV⟩ := hv
  have hx := B.exec
  have hb := B.bytes
  have hr := B.returns
  have hts := atoms_spec (ws := wsX4_heft) B.pre
  have hown : s.vm.findClass RX4 = some m.cls := findClass_of_methodNamed B.named
  have hlocks := B.notSynchronized
  have hS : va_S A s.heap s.heap [] := va_S.rf
  have hl := lv_entry ([.ref o]) (n := 1) (Nat.le_of_ble_eq_true rfl)
  rw [lg_entry_eq]
  generalize (lg_sl ([.ref o]) ++ List.replicate (1 - (lg_sl ([.ref o])).length) Slot.unset).toArray = ls at hl ⊢
  have hl : lv_has ls 1 [(0, .ref o)] := hl
  have k_0 : (0 : Int32).toInt = 0 := by decide
  have k_100 : (100 : Int32).toInt = 100 := by decide
  refine lv_aload_n hx hb dX4_heft_0 rfl (lv_at hl 0 rfl) ?_
  obtain ⟨_, hM_o, b_o, s_o, w_o, h_o, t_o, x_o, y_o, ms_o, rfl, hG_b_o, hG_s_o, hJ_o⟩ := hT _ _ hG_o
  refine t_calli (va_runSU (g := F0 m 1 ls ([.ref o])) (As := []) (rest := []) (hK.1 1 _ rfl).2 ⟨hx, hb, hml, hown, hts⟩ (c_X3_heft_q l D cy A G ws o hD hT hG_o hb9) (va_cwSU 0 hts gX4_heft_X3_heft_s19 rfl rfl rfl (by decide +kernel) ⟨Nat.le_of_ble_eq_true rfl, Nat.le_of_ble_eq_true rfl⟩) (c_preV hM_o rfl hP hK hA hS hV) rfl rfl hl.1 rfl (lv_room (Nat.le_of_ble_eq_true rfl)) dX4_heft_1 ⟨Nat.le_of_ble_eq_true rfl, Nat.le_of_ble_eq_true rfl⟩) hS (fun r1 u H locs q1 hP9 hD9 hT9 hS => ?_)
  obtain ⟨rfl, q1⟩ := q1
  have hP : va_P D vwCl ws H := hP9
  refine lv_bipush (v := 100) hx hb dX4_heft_4 (by decide) ?_
  refine lv_iadd hx hb dX4_heft_6 ?_
  refine lv_topi (fun v6 e6 => ?_)
  exact W.iret (v := v6) hx hb hr (fun t ht hW => ⟨⟨_, (G, ws), rfl, ⟨rfl, (by rw [e6, q1])⟩, by show va_P D vwCl ws t.heap; rw [ht]; exact hP, hD, hT⟩, hS.F ht⟩) hS.2.2 dX4_heft_7
set_option maxHeartbeats 4000000 in
set_option maxRecDepth 100000 in
theorem c_X1_heft_q (l : Launch) (D : va_G) (cy : Nat → ClassId) (A : Nat → Prop) (G : cG) (ws : va_W) (o : Nat) {w h : Nat} (hD : va_D A ws) (hT : cT cy G ws) (hG_o : G o = some (3, 1, 8 * w + h)) (hb9 : 1 ≤ w ∧ w ≤ 6 ∧ 1 ≤ h ∧ h ≤ 6) : Ci l D cy A yX1_heft wsX1_heft ({ frames := 2, cells := 0, slots := 0, locals := 40 }) 0 0 ws [.ref o] (fun r0 u => u = (G, ws) ∧ (r0 = 2 * (nI (10 + w * h) + 100))) := by
  refine Met.ofW (cc := cX1_heft) (maxL := 1) (ret := (some .int)) (by decide) rfl ?_
  intro p e s m args below meth c s₁ B hml hv
  obtain ⟨rfl, hP, hK, hA, hV⟩ := hv
  have hx := B.exec
  have hb := B.bytes
  have hr := B.returns
  have hts := atoms_spec (ws := wsX1_heft) B.pre
  have hown : s.vm.findClass RX1 = some m.cls := findClass_of_methodNamed B.named
  have hlocks := B.notSynchronized
  have hS : va_S A s.heap s.heap [] := va_S.rf
  have hl := lv_entry ([.ref o]) (n := 1) (Nat.le_of_ble_eq_true rfl)
  rw [lg_entry_eq]
  generalize (lg_sl ([.ref o]) ++ List.replicate (1 - (lg_sl ([.ref o])).length) Slot.unset).toArray = ls at hl ⊢
  have hl : lv_has ls 1 [(0, .ref o)] := hl
  have k_0 : (0 : Int32).toInt = 0 := by decide
  have k_2 : (2 : Int32).toInt = 2 := by decide
  refine lv_iconst (v := 2) hx hb dX1_heft_0 (by decide) ?_
  refine lv_aload_n hx hb dX1_heft_1 rfl (lv_at hl 0 rfl) ?_
  obtain ⟨_, hM_o, b_o, s_o, w_o, h_o, t_o, x_o, y_o, ms_o, rfl, hG_b_o, hG_s_o, hJ_o⟩ := hT _ _ hG_o
  refine t_calli (va_runSU (g := F0 m 2 ls ([.ref o, .int (2 : Int32)])) (As := []) (rest := [.int (2 : Int32)]) (hK.1 1 _ rfl).2 ⟨hx, hb, hml, hown, hts⟩ (c_X4_heft_q1 l D cy A G ws o hD hT hG_o hb9) (va_cwSU 0 hts gX1_heft_X4_heft_s25 rfl rfl rfl (by decide +kernel) ⟨Nat.le_of_ble_eq_true rfl, Nat.le_of_ble_eq_true rfl⟩) (c_preV hM_o rfl hP hK hA hS hV) rfl rfl hl.1 rfl (lv_room (Nat.le_of_ble_eq_true rfl)) dX1_heft_2 ⟨Nat.le_of_ble_eq_true rfl, Nat.le_of_ble_eq_true rfl⟩) hS (fun r2 u H locs q2 hP9 hD9 hT9 hS => ?_)
  obtain ⟨rfl, q2⟩ := q2
  have hP : va_P D vwCl ws H := hP9
  refine lv_imul hx hb dX1_heft_5 ?_
  refine lv_topi (fun v5 e5 => ?_)
  exact W.iret (v := v5) hx hb hr (fun t ht hW => ⟨⟨_, (G, ws), rfl, ⟨rfl, (by rw [e5, q2])⟩, by show va_P D vwCl ws t.heap; rw [ht]; exact hP, hD, hT⟩, hS.F ht⟩) hS.2.2 dX1_heft_6
set_option maxHeartbeats 4000000 in
set_option maxRecDepth 100000 in
theorem c_X5_heft_q (l : Launch) (D : va_G) (cy : Nat → ClassId) (A : Nat → Prop) (G : cG) (ws : va_W) (o : Nat) {w h b_o s_o c_o : Nat} {t_o : Int32} {x_o y_o : Int64} {fm : Nat → Int32} (hD : va_D A ws) (hT : cT cy G ws) (hG_o : G o = some (3, 4, 8 * w + h)) (hM_o : cIn ws o (.inr (4, [.ref b_o, .ref s_o, .int t_o, .long x_o, .long y_o, .ref c_o]))) (hM_c_o : cIn ws c_o (.inl (cy 0, (w * h), .inl fm))) (hb9 : 1 ≤ w ∧ w ≤ 6 ∧ 1 ≤ h ∧ h ≤ 6) : Ci l D cy A yX5_heft wsX5_heft ({ frames := 1, cells := 0, slots := 0, locals := 24 }) 0 0 ws [.ref o] (fun r0 u => u = (G, ws) ∧ (r0 = nI (10 + w * h) + smN fm (w * h))) := by
  refine Met.ofW (cc := cX5_heft) (maxL := 1) (ret := (some .int)) (by decide) rfl ?_
  intro p e s m args below meth c s₁ B hml hv
  obtain ⟨rfl, hP, hK, hA, hV⟩ := hv
  have hx := B.exec
  have hb := B.bytes
  have hr := B.returns
  have hts := atoms_spec (ws := wsX5_heft) B.pre
  have hown : s.vm.findClass RX5 = some m.cls := findClass_of_methodNamed B.named
  have hlocks := B.notSynchronized
  have hS : va_S A s.heap s.heap [] := va_S.rf
  have hl := lv_entry ([.ref o]) (n := 1) (Nat.le_of_ble_eq_true rfl)
  rw [lg_entry_eq]
  generalize (lg_sl ([.ref o]) ++ List.replicate (1 - (lg_sl ([.ref o])).length) Slot.unset).toArray = ls at hl ⊢
  have hl : lv_has ls 1 [(0, .ref o)] := hl
  have k_0 : (0 : Int32).toInt = 0 := by decide
  have k_m1L : (-1 : Int64).toInt = -1 := by decide
  obtain ⟨hG_b_o, hG_s_o, hJ_o⟩ := w3sh hD hT hG_o hb9 hM_o
  have hG_c_o := cJ4c hJ_o
  have m36 := cb_mul hb9
  refine lv_aload_n hx hb dX5_heft_0 rfl (lv_at hl 0 rfl) ?_
  refine t_calli (va_runSU (g := F0 m 1 ls ([.ref o])) (As := []) (rest := []) (hK.1 4 _ rfl).2 ⟨hx, hb, hml, hown, hts⟩ (c_X3_heft_q l D cy A G ws o hD hT hG_o hb9) (va_cwSU 0 hts gX5_heft_X3_heft_s19 rfl rfl rfl (by decide +kernel) ⟨Nat.le_of_ble_eq_true rfl, Nat.le_of_ble_eq_true rfl⟩) (c_preV hM_o rfl hP hK hA hS hV) rfl rfl hl.1 rfl (lv_room (Nat.le_of_ble_eq_true rfl)) dX5_heft_1 ⟨Nat.le_of_ble_eq_true rfl, Nat.le_of_ble_eq_true rfl⟩) hS (fun r1 u H locs q1 hP9 hD9 hT9 hS => ?_)
  obtain ⟨rfl, q1⟩ := q1
  have hP : va_P D vwCl ws H := hP9
  refine lv_aload_n hx hb dX5_heft_4 rfl (lv_at hl 0 rfl) ?_
  refine lv_ldc2 hx hb hown (hts (.constantLong RX5 23 (-1)) (by decide +kernel)) dX5_heft_5 ?_
  refine t_calli (va_runV (g := F0 m 8 ls ([.long (-1 : Int64), .ref o, .int r1])) (As := [.long (-1 : Int64)]) (rest := [.int r1]) ⟨hx, hb, hml, hown, hts⟩ (c_X5_worthOf_x l D cy A G ws o (-1 : Int64) hD hT hG_o hM_o hM_c_o hb9) (cwV 1 hts gX5_heft_X5_worthOf rfl rfl rfl (by decide +kernel) ⟨Nat.le_of_ble_eq_true rfl, Nat.le_of_ble_eq_true rfl⟩) (c_preV hM_o rfl hP hK hA hS hV) rfl rfl hl.1 rfl (lv_room (Nat.le_of_ble_eq_true rfl)) dX5_heft_8 ⟨Nat.le_of_ble_eq_true rfl, Nat.le_of_ble_eq_true rfl⟩) hS (fun r8 u H locs q8 hP9 hD9 hT9 hS => ?_)
  obtain ⟨rfl, q8⟩ := q8
  have hP : va_P D vwCl ws H := hP9
  refine lv_iadd hx hb dX5_heft_11 ?_
  refine lv_topi (fun v11 e11 => ?_)
  exact W.iret (v := v11) hx hb hr (fun t ht hW => ⟨⟨_, (G, ws), rfl, ⟨rfl, (by rw [e11, q1, q8, woN_1 _ (by omega)])⟩, by show va_P D vwCl ws t.heap; rw [ht]; exact hP, hD, hT⟩, hS.F ht⟩) hS.2.2 dX5_heft_12

/-- a copy of a job, as weight needs it; W0: the cells before -/
def jqW (cy : Nat → ClassId) (W0 : va_W) (G : cG) (W : va_W) (x a K w h : Nat) (fm : Nat → Int32) : Prop := G x = some (3, K, 8 * w + h) ∧ (∀ e, ¬ cIn W0 x e) ∧ (K = 4 → (∀ e, ¬ cIn W0 a e) ∧ G a = some (14, w * h, 0) ∧ ∃ (b s : Nat) (t : Int32) (y z : Int64) (F : Nat → Int32), cIn W x (.inr (4, [.ref b, .ref s, .int t, .long y, .long z, .ref a])) ∧ cIn W a (.inl (cy 0, w * h, .inl F)) ∧ ∀ e, e < w * h → F e = fm e)
theorem jqW.mv {cy : Nat → ClassId} {W0 W W1 : va_W} {G : cG} {x a K w h : Nat} {fm : Nat → Int32} (H : jqW cy W0 G W x a K w h fm) (hm : ∀ (z : Nat) (t : Nat × Nat × Nat) (e : va_E), G z = some t → t.1 ≠ 10 → cIn W z e → cIn W1 z e) : jqW cy W0 G W1 x a K w h fm := by
  obtain ⟨h1, h2, h3⟩ := H
  refine ⟨h1, h2, fun z => ?_⟩
  obtain ⟨k1, k2, b, s, t, y, v, F, k3, k4, k5⟩ := h3 z
  exact ⟨k1, k2, b, s, t, y, v, F, hm _ _ _ h1 (show (3 : Nat) ≠ 10 by decide) k3, hm _ _ _ k2 (show (14 : Nat) ≠ 10 by decide) k4, k5⟩
def kpW (cy : Nat → ClassId) (W0 : va_W) (G : cG) (W : va_W) (o : Option Nat) (x a : Nat) (what : Int32) (K w h : Nat) (fm : Nat → Int32) : Prop := (what.toInt = 0 ∧ o = none) ∨ (what.toInt = 1 ∧ o = some x ∧ jqW cy W0 G W x a K w h fm) ∨ (3 ≤ what.toInt ∧ o = some x ∧ ∃ m : Nat, G x = some (4, m, 0))
section SHWs
variable {cy : Nat → ClassId} {G : cG} {W : va_W} {x y a : Nat} {k t : Int32}
theorem shW_n (h : shW cy G W none x a k t) : k = 0 := by
  rcases h with ⟨-, h⟩ | ⟨h, -⟩ | ⟨h, -⟩
  · exact h
  · cases h
  · cases h
theorem shW_row (h : shW cy G W (some y) x a k t) {m : Nat} (hg : G y = some (4, m, 0)) : 3 ≤ k.toInt := by
  rcases h with ⟨h, -⟩ | ⟨h, -, K, w, hh, h1, -⟩ | ⟨-, h, -⟩
  · cases h
  · cases h; rw [hg] at h1; cases h1
  · exact h
theorem shW_job (h : shW cy G W (some y) x a k t) {K n : Nat} (hg : G y = some (3, K, n)) : k = 1 ∧ ∃ w h : Nat, n = 8 * w + h ∧ (1 ≤ w ∧ w ≤ 6 ∧ 1 ≤ h ∧ h ≤ 6) ∧ ((K ≠ 4 ∧ t = heV K w h 0) ∨ (K = 4 ∧ ∃ (b s : Nat) (tw : Int32) (y' z : Int64) (fm : Nat → Int32), cIn W y (.inr (4, [.ref b, .ref s, .int tw, .long y', .long z, .ref a])) ∧ cIn W a (.inl (cy 0, w * h, .inl fm)) ∧ t = heV 4 w h (smN fm (w * h)))) := by
  rcases h with ⟨h, -⟩ | ⟨h, hk, K', w, hh, h1, h2, h3⟩ | ⟨h, -, m, h1⟩
  · cases h
  · cases h
    rw [hg] at h1
    simp only [Option.some.injEq, Prod.mk.injEq, true_and] at h1
    obtain ⟨rfl, rfl⟩ := h1
    exact ⟨hk, w, hh, rfl, h2, h3⟩
  · cases h
    rw [hg] at h1
    cases h1
end SHWs
set_option maxHeartbeats 4000000 in
set_option maxRecDepth 100000 in
theorem c_X9_thingToKeep_q (l : Launch) (D : va_G) (cy : Nat → ClassId) (A : Nat → Prop) (G : cG) (ws : va_W) (what : Int32) (x1 : Nat) (p0 : Int64) {k1 wq hq b1 s1 t1 : Nat} {o1 y1 : Int64} {ms1 : List Value} {fs : Nat → Int32} {c1 : Nat} {fm : Nat → Int32} (hD : va_D A ws) (hT : cT cy G ws) (hG_x1 : G x1 = some (3, k1, 8 * wq + hq)) (hM_x1 : cIn ws x1 (.inr (k1, .ref b1 :: .ref s1 :: .int (nI t1) :: .long o1 :: .long y1 :: ms1))) (hM_s1 : cIn ws s1 (.inl (cy 0, 44, .inl fs))) (hb9 : 1 ≤ wq ∧ wq ≤ 6 ∧ 1 ≤ hq ∧ hq ≤ 6) (ht9 : t1 < 16) (hJ4 : k1 = 4 → ms1 = [.ref c1] ∧ cIn ws c1 (.inl (cy 0, wq * hq, .inl fm))) : Ca l D cy A yX9_thingToKeep wsX9_thingToKeep ({ frames := 6, cells := 3, slots := 86, locals := 123 }) 3 86 ws [.int what, .ref x1, .long p0] (fun r0 u => cX none (chs []) G ws u.1 u.2 ∧ ((r0 = none ∧ ¬ (what.toInt = 1 ∨ what.toInt = 4 ∨ (what.toInt = 3 ∧ isPic (wq * hq) p0))) ∨ (what.toInt = 1 ∧ ∃ x a, r0 = some x ∧ jqW cy ws u.1 u.2 x a k1 wq hq fm) ∨ (∃ x m, r0 = some x ∧ u.1 x = some (4, m, 0) ∧ ((what.toInt = 3 ∧ isPic (wq * hq) p0) ∨ what.toInt = 4)))) := by
  refine Met.ofW (cc := cX9_thingToKeep) (maxL := 4) (ret := (some (.object "ShadowBench$Held"))) (by decide) rfl ?_
  intro p e s m args below meth c s₁ B hml hv
  obtain ⟨rfl, hP, hK, hA, hV⟩ := hv
  have hx := B.exec
  have hb := B.bytes
  have hr := B.returns
  have hts := atoms_spec (ws := wsX9_thingToKeep) B.pre
  have hown : s.vm.findClass RX9 = some m.cls := findClass_of_methodNamed B.named
  have hlocks := B.notSynchronized
  have hS : va_S A s.heap s.heap [] := va_S.rf
  have hinJ : ∀ w ∈ wsX10 ++ wsX30 ++ wsX40 ++ wsX50, w ∈ wsX9_thingToKeep := by decide +kernel
  have hX : cX none (chs []) G ws G ws := cX.rf
  have hl := lv_entry ([.int what, .ref x1, .long p0]) (n := 4) (Nat.le_of_ble_eq_true rfl)
  rw [lg_entry_eq]
  generalize (lg_sl ([.int what, .ref x1, .long p0]) ++ List.replicate (4 - (lg_sl ([.int what, .ref x1, .long p0])).length) Slot.unset).toArray = ls at hl ⊢
  have hl : lv_has ls 4 [(0, .int what), (1, .ref x1), (2, .long p0)] := hl
  have k_0 : (0 : Int32).toInt = 0 := by decide
  have k_1 : (1 : Int32).toInt = 1 := by decide
  have k_3 : (3 : Int32).toInt = 3 := by decide
  have k_4 : (4 : Int32).toInt = 4 := by decide
  obtain ⟨hG_b1, hG_s1, hJ_x1⟩ := w3sh hD hT hG_x1 hb9 hM_x1
  refine lv_aload_n hx hb dX9_thingToKeep_0 rfl (lv_at hl 1 rfl) ?_
  refine lv_ifnonnull (tgt := 6) hx hb dX9_thingToKeep_1 (by decide) ?_
  refine lv_iload_n hx hb dX9_thingToKeep_6 rfl (lv_at hl 0 rfl) ?_
  refine lv_iconst (v := 1) hx hb dX9_thingToKeep_7 (by decide) ?_
  refine lv_icmp_ne (tgt := 16) hx hb dX9_thingToKeep_8 (by decide) (fun c8 => ?_) (fun c8 => ?_)
  · skip
    have d8 := c8
    rw [fa_eq] at d8
    refine lv_iload_n hx hb dX9_thingToKeep_16 rfl (lv_at hl 0 rfl) ?_
    refine lv_iconst (v := 3) hx hb dX9_thingToKeep_17 (by decide) ?_
    refine lv_icmp_ne (tgt := 41) hx hb dX9_thingToKeep_18 (by decide) (fun c18 => ?_) (fun c18 => ?_)
    · skip
      have d18 := c18
      rw [fa_eq] at d18
      refine lv_iload_n hx hb dX9_thingToKeep_41 rfl (lv_at hl 0 rfl) ?_
      refine lv_iconst (v := 4) hx hb dX9_thingToKeep_42 (by decide) ?_
      refine lv_icmp_ne (tgt := 53) hx hb dX9_thingToKeep_43 (by decide) (fun c43 => ?_) (fun c43 => ?_)
      · skip
        have d43 := c43
        rw [fa_eq] at d43
        refine lv_null hx hb dX9_thingToKeep_53 ?_
        refine W.widen (k := 3) (n := 86) (Nat.le_of_ble_eq_true rfl) (Nat.le_of_ble_eq_true rfl) ?_
        exact W.aret (v := .null) hx hb hr (Or.inl ⟨_, rfl⟩) (Or.inl rfl) (fun t ht hW => ⟨⟨none, (G, ws), rfl, ⟨hX, Or.inl ⟨rfl, (by rintro (z9 | z9 | ⟨z9, z8⟩) <;> first | omega | exact b29 z8)⟩⟩, by show va_P D vwCl ws t.heap; rw [ht]; exact hP, hD, hT⟩, hS.F ht⟩) hS.2.2 dX9_thingToKeep_54
      · skip
        have d43 := c43
        rw [fa_eq] at d43
        refine lv_aload_n hx hb dX9_thingToKeep_46 rfl (lv_at hl 1 rfl) ?_
        refine t_calla (va_runS (g := F0 m 47 ls ([.ref x1])) (As := [.ref x1]) (rest := []) ⟨hx, hb, hml, hown, hts⟩ (c_X9_sumsOf_x l D cy A G ws x1 hD hT hG_x1 hM_x1 hM_s1 hb9 ht9) (va_cwS 1 hts gX9_thingToKeep_X9_sumsOf rfl rfl rfl (by decide +kernel) ⟨Nat.le_of_ble_eq_true rfl, Nat.le_of_ble_eq_true rfl⟩) (c_preS hP hK hA hS hV) rfl rfl hl.1 rfl (lv_room (Nat.le_of_ble_eq_true rfl)) dX9_thingToKeep_47 ⟨Nat.le_of_ble_eq_true rfl, Nat.le_of_ble_eq_true rfl⟩) hS (fun r47 u H locs q47 hP9 hD9 hT9 hS => ?_)
        obtain ⟨G47, w47⟩ := u
        obtain ⟨hX9, q47⟩ := q47
        have hX9 : cX none (chs []) G ws G47 w47 := hX9
        have hP : va_P D vwCl w47 H := hP9
        have hD : va_D A w47 := hD9
        have hT : cT cy G47 w47 := hT9
        have hM_x1 := hX9.2.1 _ _ (cP.no hG_x1 rfl) hM_x1
        have hM_s1 := hX9.2.1 _ _ (cP.no hG_s1 rfl) hM_s1
        have hG_x1 := hX9.1 _ _ hG_x1
        have hG_b1 := hX9.1 _ _ hG_b1
        have hG_s1 := hX9.1 _ _ hG_s1
        have hX := hX.tr hX9
        obtain ⟨x47, a47, m47, F47, rfl, hG_x47, hG_a47, hN9_a47, hM_x47, hM_a47, hm9_a47, hF9_a47⟩ := q47
        refine lv_goto (tgt := 54) hx hb dX9_thingToKeep_50 (by decide) ?_
        refine W.widen (k := 3) (n := 86) (Nat.le_of_ble_eq_true rfl) (Nat.le_of_ble_eq_true rfl) ?_
        exact W.aret (v := .ref x47) hx hb hr (Or.inl ⟨_, rfl⟩) (Or.inr ⟨_, rfl⟩) (fun t ht hW => ⟨⟨(some x47), (G47, w47), rfl, ⟨hX, Or.inr (Or.inr ⟨_, _, rfl, hG_x47, Or.inr (by omega)⟩)⟩, by show va_P D vwCl w47 t.heap; rw [ht]; exact hP, hD, hT⟩, hS.F ht⟩) hS.2.2 dX9_thingToKeep_54
    · skip
      have d18 := c18
      rw [fa_eq] at d18
      refine lv_aload_n hx hb dX9_thingToKeep_21 rfl (lv_at hl 1 rfl) ?_
      refine t_getJ (v := .ref b1) hx hb hts hinJ hown hK hP hJ_x1.kc hM_x1 0 (by decide) (hts (.fieldLink RX9 65 "ShadowBench$Job" "board" "LShadowBench$Board;") (by decide +kernel)) (fun _ h9 => h9) rfl dX9_thingToKeep_22 ?_
      refine lv_lload_n hx hb dX9_thingToKeep_25 rfl (lv_at hl 2 rfl) ?_
      obtain ⟨_, hM_b1, hb_b1, l_b1, f_b1, r_b1, rfl, hG_l_b1, hG_f_b1, hG_r_b1⟩ := hT _ _ hG_b1
      refine t_calli (va_runV (g := F0 m 26 ls ([.long p0, .ref b1])) (As := [.long p0]) (rest := []) ⟨hx, hb, hml, hown, hts⟩ (c_X0_isPicture_x l D cy A G ws b1 p0 hD hT hG_b1 ) (cwV 1 hts gX9_thingToKeep_X0_isPicture rfl rfl rfl (by decide +kernel) ⟨Nat.le_of_ble_eq_true rfl, Nat.le_of_ble_eq_true rfl⟩) (c_preV hM_b1 rfl hP hK hA hS hV) rfl rfl hl.1 rfl (lv_room (Nat.le_of_ble_eq_true rfl)) dX9_thingToKeep_26 ⟨Nat.le_of_ble_eq_true rfl, Nat.le_of_ble_eq_true rfl⟩) hS (fun r26 u H locs q26 hP9 hD9 hT9 hS => ?_)
      obtain ⟨rfl, q26⟩ := q26
      have hP : va_P D vwCl ws H := hP9
      refine lv_if_eq (tgt := 41) hx hb dX9_thingToKeep_29 (by decide) (fun c29 => ?_) (fun c29 => ?_)
      · skip
        have b29 := bo_f q26 c29
        refine lv_iload_n hx hb dX9_thingToKeep_41 rfl (lv_at hl 0 rfl) ?_
        refine lv_iconst (v := 4) hx hb dX9_thingToKeep_42 (by decide) ?_
        refine lv_icmp_ne (tgt := 53) hx hb dX9_thingToKeep_43 (by decide) (fun c43 => ?_) (fun c43 => ?_)
        · skip
          have d43 := c43
          rw [fa_eq] at d43
          refine lv_null hx hb dX9_thingToKeep_53 ?_
          refine W.widen (k := 3) (n := 86) (Nat.le_of_ble_eq_true rfl) (Nat.le_of_ble_eq_true rfl) ?_
          exact W.aret (v := .null) hx hb hr (Or.inl ⟨_, rfl⟩) (Or.inl rfl) (fun t ht hW => ⟨⟨none, (G, ws), rfl, ⟨hX, Or.inl ⟨rfl, (by rintro (z9 | z9 | ⟨z9, z8⟩) <;> first | omega | exact b29 z8)⟩⟩, by show va_P D vwCl ws t.heap; rw [ht]; exact hP, hD, hT⟩, hS.F ht⟩) hS.2.2 dX9_thingToKeep_54
        · skip
          have d43 := c43
          rw [fa_eq] at d43
          refine lv_aload_n hx hb dX9_thingToKeep_46 rfl (lv_at hl 1 rfl) ?_
          refine t_calla (va_runS (g := F0 m 47 ls ([.ref x1])) (As := [.ref x1]) (rest := []) ⟨hx, hb, hml, hown, hts⟩ (c_X9_sumsOf_x l D cy A G ws x1 hD hT hG_x1 hM_x1 hM_s1 hb9 ht9) (va_cwS 1 hts gX9_thingToKeep_X9_sumsOf rfl rfl rfl (by decide +kernel) ⟨Nat.le_of_ble_eq_true rfl, Nat.le_of_ble_eq_true rfl⟩) (c_preS hP hK hA hS hV) rfl rfl hl.1 rfl (lv_room (Nat.le_of_ble_eq_true rfl)) dX9_thingToKeep_47 ⟨Nat.le_of_ble_eq_true rfl, Nat.le_of_ble_eq_true rfl⟩) hS (fun r47 u H locs q47 hP9 hD9 hT9 hS => ?_)
          obtain ⟨G47, w47⟩ := u
          obtain ⟨hX9, q47⟩ := q47
          have hX9 : cX none (chs []) G ws G47 w47 := hX9
          have hP : va_P D vwCl w47 H := hP9
          have hD : va_D A w47 := hD9
          have hT : cT cy G47 w47 := hT9
          have hM_x1 := hX9.2.1 _ _ (cP.no hG_x1 rfl) hM_x1
          have hM_s1 := hX9.2.1 _ _ (cP.no hG_s1 rfl) hM_s1
          have hM_b1 := hX9.2.1 _ _ (cP.no hG_b1 rfl) hM_b1
          have hG_x1 := hX9.1 _ _ hG_x1
          have hG_b1 := hX9.1 _ _ hG_b1
          have hG_s1 := hX9.1 _ _ hG_s1
          have hG_l_b1 := hX9.1 _ _ hG_l_b1
          have hG_f_b1 := hX9.1 _ _ hG_f_b1
          have hG_r_b1 := hX9.1 _ _ hG_r_b1
          have hX := hX.tr hX9
          obtain ⟨x47, a47, m47, F47, rfl, hG_x47, hG_a47, hN9_a47, hM_x47, hM_a47, hm9_a47, hF9_a47⟩ := q47
          refine lv_goto (tgt := 54) hx hb dX9_thingToKeep_50 (by decide) ?_
          refine W.widen (k := 3) (n := 86) (Nat.le_of_ble_eq_true rfl) (Nat.le_of_ble_eq_true rfl) ?_
          exact W.aret (v := .ref x47) hx hb hr (Or.inl ⟨_, rfl⟩) (Or.inr ⟨_, rfl⟩) (fun t ht hW => ⟨⟨(some x47), (G47, w47), rfl, ⟨hX, Or.inr (Or.inr ⟨_, _, rfl, hG_x47, Or.inr (by omega)⟩)⟩, by show va_P D vwCl w47 t.heap; rw [ht]; exact hP, hD, hT⟩, hS.F ht⟩) hS.2.2 dX9_thingToKeep_54
      · skip
        have b29 := bo_t q26 c29
        refine lv_aload_n hx hb dX9_thingToKeep_32 rfl (lv_at hl 1 rfl) ?_
        refine t_getJ (v := .ref b1) hx hb hts hinJ hown hK hP hJ_x1.kc hM_x1 0 (by decide) (hts (.fieldLink RX9 65 "ShadowBench$Job" "board" "LShadowBench$Board;") (by decide +kernel)) (fun _ h9 => h9) rfl dX9_thingToKeep_33 ?_
        refine lv_lload_n hx hb dX9_thingToKeep_36 rfl (lv_at hl 2 rfl) ?_
        refine t_calla (va_runS (g := F0 m 37 ls ([.long p0, .ref b1])) (As := [.ref b1, .long p0]) (rest := []) ⟨hx, hb, hml, hown, hts⟩ (c_X9_squaresOf_x l D cy A G ws b1 p0 hD hT hG_b1 ) (va_cwS 2 hts gX9_thingToKeep_X9_squaresOf rfl rfl rfl (by decide +kernel) ⟨Nat.le_of_ble_eq_true rfl, Nat.le_of_ble_eq_true rfl⟩) (c_preS hP hK hA hS hV) rfl rfl hl.1 rfl (lv_room (Nat.le_of_ble_eq_true rfl)) dX9_thingToKeep_37 ⟨Nat.le_of_ble_eq_true rfl, Nat.le_of_ble_eq_true rfl⟩) hS (fun r37 u H locs q37 hP9 hD9 hT9 hS => ?_)
        obtain ⟨G37, w37⟩ := u
        obtain ⟨hX9, q37⟩ := q37
        have hX9 : cX none (chs []) G ws G37 w37 := hX9
        have hP : va_P D vwCl w37 H := hP9
        have hD : va_D A w37 := hD9
        have hT : cT cy G37 w37 := hT9
        have hM_x1 := hX9.2.1 _ _ (cP.no hG_x1 rfl) hM_x1
        have hM_s1 := hX9.2.1 _ _ (cP.no hG_s1 rfl) hM_s1
        have hM_b1 := hX9.2.1 _ _ (cP.no hG_b1 rfl) hM_b1
        have hG_x1 := hX9.1 _ _ hG_x1
        have hG_b1 := hX9.1 _ _ hG_b1
        have hG_s1 := hX9.1 _ _ hG_s1
        have hG_l_b1 := hX9.1 _ _ hG_l_b1
        have hG_f_b1 := hX9.1 _ _ hG_f_b1
        have hG_r_b1 := hX9.1 _ _ hG_r_b1
        have hX := hX.tr hX9
        obtain ⟨x37, a37, F37, rfl, hG_x37, hG_a37, hN9_a37, hM_x37, hM_a37, hF9_a37⟩ := q37
        refine W.widen (k := 3) (n := 86) (Nat.le_of_ble_eq_true rfl) (Nat.le_of_ble_eq_true rfl) ?_
        exact W.aret (v := .ref x37) hx hb hr (Or.inl ⟨_, rfl⟩) (Or.inr ⟨_, rfl⟩) (fun t ht hW => ⟨⟨(some x37), (G37, w37), rfl, ⟨hX, Or.inr (Or.inr ⟨_, _, rfl, hG_x37, Or.inl ⟨by omega, b29⟩⟩)⟩, by show va_P D vwCl w37 t.heap; rw [ht]; exact hP, hD, hT⟩, hS.F ht⟩) hS.2.2 dX9_thingToKeep_40
  · skip
    have d8 := c8
    rw [fa_eq] at d8
    refine lv_aload_n hx hb dX9_thingToKeep_11 rfl (lv_at hl 1 rfl) ?_
    have hJ9 := hJ_x1
    obtain ⟨hn9, hJ9⟩ := hJ9
    rcases hJ9 with ⟨rfl, rfl⟩ | ⟨rfl, rfl⟩ | ⟨rfl, rfl⟩ | ⟨rfl, c9, rfl, hG_c9⟩
    · skip
      have hM_x1 : cIn ws x1 (.inr (1, [.ref b1, .ref s1, .int (nI t1), .long o1, .long y1])) := hM_x1
      refine t_calla (va_runU (g := F0 m 12 ls ([.ref x1])) (As := []) (rest := []) ⟨hx, hb, hml, hown, hts⟩ (c_X1_asItIs_q l D cy A G ws x1 hD hT hG_x1 hb9) (va_cwO 0 hts gX9_thingToKeep_X1_asItIs_u321X1 rfl rfl rfl (b0 := cX3_asItIs) (m0 := 1) (r0 := (some (.object "ShadowBench$Job"))) (by decide +kernel) (by decide +kernel) ⟨Nat.le_of_ble_eq_true rfl, Nat.le_of_ble_eq_true rfl⟩) (c_preV hM_x1 rfl hP hK hA hS hV) rfl rfl hl.1 rfl (lv_room (Nat.le_of_ble_eq_true rfl)) dX9_thingToKeep_12 ⟨Nat.le_of_ble_eq_true rfl, Nat.le_of_ble_eq_true rfl⟩) hS (fun r12 u H locs q12 hP9 hD9 hT9 hS => ?_)
      obtain ⟨G12, w12⟩ := u
      obtain ⟨hX9, q12⟩ := q12
      have hX9 : cX none (chs []) G ws G12 w12 := hX9
      have hP : va_P D vwCl w12 H := hP9
      have hD : va_D A w12 := hD9
      have hT : cT cy G12 w12 := hT9
      have hM_x1 := hX9.2.1 _ _ (cP.no hG_x1 rfl) hM_x1
      have hM_s1 := hX9.2.1 _ _ (cP.no hG_s1 rfl) hM_s1
      have hG_x1 := hX9.1 _ _ hG_x1
      have hG_b1 := hX9.1 _ _ hG_b1
      have hG_s1 := hX9.1 _ _ hG_s1
      have hX := hX.tr hX9
      obtain ⟨x12, rfl, hG_x12, hNx12⟩ := q12
      refine W.widen (k := 3) (n := 86) (Nat.le_of_ble_eq_true rfl) (Nat.le_of_ble_eq_true rfl) ?_
      exact W.aret (v := .ref x12) hx hb hr (Or.inl ⟨_, rfl⟩) (Or.inr ⟨_, rfl⟩) (fun t ht hW => ⟨⟨(some x12), (G12, w12), rfl, ⟨hX, Or.inr (Or.inl ⟨by omega, _, 0, rfl, hG_x12, hNx12, fun z9 => absurd z9 (by decide)⟩)⟩, by show va_P D vwCl w12 t.heap; rw [ht]; exact hP, hD, hT⟩, hS.F ht⟩) hS.2.2 dX9_thingToKeep_15
    · skip
      have hM_x1 : cIn ws x1 (.inr (2, [.ref b1, .ref s1, .int (nI t1), .long o1, .long y1])) := hM_x1
      refine t_calla (va_runV (g := F0 m 12 ls ([.ref x1])) (As := []) (rest := []) ⟨hx, hb, hml, hown, hts⟩ (c_X3_asItIs_q l D cy A G ws x1 hD hT hG_x1 hb9) (cwV 0 hts gX9_thingToKeep_X3_asItIs rfl rfl rfl (by decide +kernel) ⟨Nat.le_of_ble_eq_true rfl, Nat.le_of_ble_eq_true rfl⟩) (c_preV hM_x1 rfl hP hK hA hS hV) rfl rfl hl.1 rfl (lv_room (Nat.le_of_ble_eq_true rfl)) dX9_thingToKeep_12 ⟨Nat.le_of_ble_eq_true rfl, Nat.le_of_ble_eq_true rfl⟩) hS (fun r12 u H locs q12 hP9 hD9 hT9 hS => ?_)
      obtain ⟨G12, w12⟩ := u
      obtain ⟨hX9, q12⟩ := q12
      have hX9 : cX none (chs []) G ws G12 w12 := hX9
      have hP : va_P D vwCl w12 H := hP9
      have hD : va_D A w12 := hD9
      have hT : cT cy G12 w12 := hT9
      have hM_x1 := hX9.2.1 _ _ (cP.no hG_x1 rfl) hM_x1
      have hM_s1 := hX9.2.1 _ _ (cP.no hG_s1 rfl) hM_s1
      have hG_x1 := hX9.1 _ _ hG_x1
      have hG_b1 := hX9.1 _ _ hG_b1
      have hG_s1 := hX9.1 _ _ hG_s1
      have hX := hX.tr hX9
      obtain ⟨x12, rfl, hG_x12, hNx12⟩ := q12
      refine W.widen (k := 3) (n := 86) (Nat.le_of_ble_eq_true rfl) (Nat.le_of_ble_eq_true rfl) ?_
      exact W.aret (v := .ref x12) hx hb hr (Or.inl ⟨_, rfl⟩) (Or.inr ⟨_, rfl⟩) (fun t ht hW => ⟨⟨(some x12), (G12, w12), rfl, ⟨hX, Or.inr (Or.inl ⟨by omega, _, 0, rfl, hG_x12, hNx12, fun z9 => absurd z9 (by decide)⟩)⟩, by show va_P D vwCl w12 t.heap; rw [ht]; exact hP, hD, hT⟩, hS.F ht⟩) hS.2.2 dX9_thingToKeep_15
    · skip
      have hM_x1 : cIn ws x1 (.inr (3, [.ref b1, .ref s1, .int (nI t1), .long o1, .long y1])) := hM_x1
      refine t_calla (va_runU (g := F0 m 12 ls ([.ref x1])) (As := []) (rest := []) ⟨hx, hb, hml, hown, hts⟩ (c_X4_asItIs_q l D cy A G ws x1 hD hT hG_x1 hb9) (va_cwO 0 hts gX9_thingToKeep_X4_asItIs_u321X4 rfl rfl rfl (b0 := cX3_asItIs) (m0 := 1) (r0 := (some (.object "ShadowBench$Job"))) (by decide +kernel) (by decide +kernel) ⟨Nat.le_of_ble_eq_true rfl, Nat.le_of_ble_eq_true rfl⟩) (c_preV hM_x1 rfl hP hK hA hS hV) rfl rfl hl.1 rfl (lv_room (Nat.le_of_ble_eq_true rfl)) dX9_thingToKeep_12 ⟨Nat.le_of_ble_eq_true rfl, Nat.le_of_ble_eq_true rfl⟩) hS (fun r12 u H locs q12 hP9 hD9 hT9 hS => ?_)
      obtain ⟨G12, w12⟩ := u
      obtain ⟨hX9, q12⟩ := q12
      have hX9 : cX none (chs []) G ws G12 w12 := hX9
      have hP : va_P D vwCl w12 H := hP9
      have hD : va_D A w12 := hD9
      have hT : cT cy G12 w12 := hT9
      have hM_x1 := hX9.2.1 _ _ (cP.no hG_x1 rfl) hM_x1
      have hM_s1 := hX9.2.1 _ _ (cP.no hG_s1 rfl) hM_s1
      have hG_x1 := hX9.1 _ _ hG_x1
      have hG_b1 := hX9.1 _ _ hG_b1
      have hG_s1 := hX9.1 _ _ hG_s1
      have hX := hX.tr hX9
      obtain ⟨x12, rfl, hG_x12, hNx12⟩ := q12
      refine W.widen (k := 3) (n := 86) (Nat.le_of_ble_eq_true rfl) (Nat.le_of_ble_eq_true rfl) ?_
      exact W.aret (v := .ref x12) hx hb hr (Or.inl ⟨_, rfl⟩) (Or.inr ⟨_, rfl⟩) (fun t ht hW => ⟨⟨(some x12), (G12, w12), rfl, ⟨hX, Or.inr (Or.inl ⟨by omega, _, 0, rfl, hG_x12, hNx12, fun z9 => absurd z9 (by decide)⟩)⟩, by show va_P D vwCl w12 t.heap; rw [ht]; exact hP, hD, hT⟩, hS.F ht⟩) hS.2.2 dX9_thingToKeep_15
    · skip
      have hM_x1 : cIn ws x1 (.inr (4, [.ref b1, .ref s1, .int (nI t1), .long o1, .long y1, .ref c9])) := hM_x1
      have hn36 := cb_mul (c_hb hT hG_b1)
      obtain ⟨e49, hM_c1⟩ := hJ4 rfl
      simp only [List.cons.injEq, Value.ref.injEq, and_true] at e49
      obtain rfl : c1 = c9 := e49.symm
      have hG_c1 := hG_c9
      have hM_x1 : cIn ws x1 (.inr (4, [.ref b1, .ref s1, .int (nI t1), .long o1, .long y1, .ref c1])) := hM_x1
      refine t_calla (va_runU (g := F0 m 12 ls ([.ref x1])) (As := []) (rest := []) ⟨hx, hb, hml, hown, hts⟩ (c_X5_asItIs_q l D cy A G ws x1 hD hT hG_x1 hM_x1 hM_c1 hb9) (va_cwO 0 hts gX9_thingToKeep_X5_asItIs_u321X5 rfl rfl rfl (b0 := cX3_asItIs) (m0 := 1) (r0 := (some (.object "ShadowBench$Job"))) (by decide +kernel) (by decide +kernel) ⟨Nat.le_of_ble_eq_true rfl, Nat.le_of_ble_eq_true rfl⟩) (c_preV hM_x1 rfl hP hK hA hS hV) rfl rfl hl.1 rfl (lv_room (Nat.le_of_ble_eq_true rfl)) dX9_thingToKeep_12 ⟨Nat.le_of_ble_eq_true rfl, Nat.le_of_ble_eq_true rfl⟩) hS (fun r12 u H locs q12 hP9 hD9 hT9 hS => ?_)
      obtain ⟨G12, w12⟩ := u
      obtain ⟨hX9, q12⟩ := q12
      have hX9 : cX none (chs []) G ws G12 w12 := hX9
      have hP : va_P D vwCl w12 H := hP9
      have hD : va_D A w12 := hD9
      have hT : cT cy G12 w12 := hT9
      have hM_x1 := hX9.2.1 _ _ (cP.no hG_x1 rfl) hM_x1
      have hM_s1 := hX9.2.1 _ _ (cP.no hG_s1 rfl) hM_s1
      have hM_c1 := hX9.2.1 _ _ (cP.no hG_c1 rfl) hM_c1
      have hG_x1 := hX9.1 _ _ hG_x1
      have hG_b1 := hX9.1 _ _ hG_b1
      have hG_s1 := hX9.1 _ _ hG_s1
      have hG_c1 := hX9.1 _ _ hG_c1
      have hX := hX.tr hX9
      obtain ⟨x12, c12, F12, rfl, hG_x12, hNx12, hNc12, hMx12, hMc12, hFe12⟩ := q12
      refine W.widen (k := 3) (n := 86) (Nat.le_of_ble_eq_true rfl) (Nat.le_of_ble_eq_true rfl) ?_
      exact W.aret (v := .ref x12) hx hb hr (Or.inl ⟨_, rfl⟩) (Or.inr ⟨_, rfl⟩) (fun t ht hW => ⟨⟨(some x12), (G12, w12), rfl, ⟨hX, Or.inr (Or.inl ⟨by omega, _, c12, rfl, hG_x12, hNx12, fun _ => ⟨hNc12, (by obtain ⟨b9, s9, t9, y9, z9, m9⟩ := hMx12; obtain ⟨-, -, j9⟩ := w3sh hD hT hG_x12 hb9 m9; exact cJ4c j9), (by obtain ⟨b9, s9, t9, y9, z9, m9⟩ := hMx12; exact ⟨b9, s9, t9, y9, z9, _, m9, hMc12, hFe12⟩)⟩⟩)⟩, by show va_P D vwCl w12 t.heap; rw [ht]; exact hP, hD, hT⟩, hS.F ht⟩) hS.2.2 dX9_thingToKeep_15
set_option maxHeartbeats 4000000 in
set_option maxRecDepth 100000 in
theorem c_X9_keep_q (l : Launch) (D : va_G) (cy : Nat → ClassId) (A : Nat → Prop) (G : cG) (ws : va_W) (o : Nat) (d : Int32) (what : Int32) (k0 : Int32) (p0 : Int64) {bs_o js_o sh_o wk_o ll_o : Nat} {jc_o lc_o : Int32} {mo_o lb_o : Option Nat} {fa : Nat → Option Nat} {xj kj bj sj tj wj hj : Nat} {oj nj : Int64} {msj : List Value} {fsj : Nat → Int32} {fb : Nat → Option Nat} {cj : Nat} {fmj : Nat → Int32} (hD : va_D A ws) (hT : cT cy G ws) (hG_o : G o = some (7, 0, 0)) (hM_o : cIn ws o (.inr (8, [.ref bs_o, .ref js_o, .int jc_o, .ref sh_o, .ref wk_o, va_rf mo_o, .ref ll_o, .int lc_o, va_rf lb_o]))) (hM_js_o : cIn ws js_o (.inl (cy 4, cqa 8 fa))) (hM_sh_o : cIn ws sh_o (.inl (cy 5, cqa 8 fb))) (hJ1 : ∀ i : Nat, (i : Int) < jc_o.toInt → ∃ x, fa i = some x) (hJ : okJob jc_o k0 → jobS cy G ws fa k0.toNatClampNeg xj kj bj sj tj wj hj oj nj msj fsj) (hJ4 : okJob jc_o k0 → kj = 4 → msj = [.ref cj] ∧ cIn ws cj (.inl (cy 0, wj * hj, .inl fmj))) : Ci l D cy A yX9_keep wsX9_keep ({ frames := 7, cells := 3, slots := 86, locals := 146 }) 3 86 ws [.ref o, .int d, .int what, .int k0, .long p0] (fun r0 u => cX none (chs [10]) G ws u.1 u.2 ∧ (yesNo (okKeep jc_o (fun _ => wj) (fun _ => hj) d what k0 p0) 0 (-1) r0 ∧ ((okKeep jc_o (fun _ => wj) (fun _ => hj) d what k0 p0 ∧ ∃ o9 x9 a9, cIn u.2 sh_o (.inl (cy 5, cqa 8 (va_up fb d.toNatClampNeg o9))) ∧ kpW cy ws u.1 u.2 o9 x9 a9 what kj wj hj fmj) ∨ (¬ okKeep jc_o (fun _ => wj) (fun _ => hj) d what k0 p0 ∧ cIn u.2 sh_o (.inl (cy 5, cqa 8 fb)))))) := by
  refine Met.ofW (cc := cX9_keep) (maxL := 7) (ret := (some .int)) (by decide) rfl ?_
  intro p e s m args below meth c s₁ B hml hv
  obtain ⟨rfl, hP, hK, hA, hV⟩ := hv
  have hx := B.exec
  have hb := B.bytes
  have hr := B.returns
  have hts := atoms_spec (ws := wsX9_keep) B.pre
  have hown : s.vm.findClass RX9 = some m.cls := findClass_of_methodNamed B.named
  have hlocks := B.notSynchronized
  have hS : va_S A s.heap s.heap [] := va_S.rf
  have hX : cX none (chs [10]) G ws G ws := cX.rf
  have hl := lv_entry ([.ref o, .int d, .int what, .int k0, .long p0]) (n := 7) (Nat.le_of_ble_eq_true rfl)
  rw [lg_entry_eq]
  generalize (lg_sl ([.ref o, .int d, .int what, .int k0, .long p0]) ++ List.replicate (7 - (lg_sl ([.ref o, .int d, .int what, .int k0, .long p0])).length) Slot.unset).toArray = ls at hl ⊢
  have hl : lv_has ls 7 [(0, .ref o), (1, .int d), (2, .int what), (3, .int k0), (4, .long p0)] := hl
  have k_m1 : (-1 : Int32).toInt = -1 := by decide
  have k_0 : (0 : Int32).toInt = 0 := by decide
  obtain ⟨hjc_o, hlc_o, hG_bs_o, hG_js_o, hG_sh_o, hG_wk_o, hmo_o, hG_ll_o, hlb_o⟩ := w7sh hD hT hG_o hM_o
  have hf_js_o := w9sh hD hT hG_js_o hM_js_o
  have hf_sh_o := w10sh hD hT hG_sh_o hM_sh_o
  refine lv_iload_n hx hb dX9_keep_0 rfl (lv_at hl 1 rfl) ?_
  refine t_pu (As := [.int d]) (rest := []) ⟨hx, hb, hml, hown, hts⟩ (c_X9_isShelf l d ) (va_cwS 1 hts gX9_keep_X9_isShelf rfl rfl rfl (by decide +kernel) ⟨Nat.le_of_ble_eq_true rfl, Nat.le_of_ble_eq_true rfl⟩) hP rfl hl.1 rfl (Nat.le_of_ble_eq_true rfl) dX9_keep_1 ⟨Nat.le_of_ble_eq_true rfl, Nat.le_of_ble_eq_true rfl⟩ hS (fun r1 H locs q1 hP hS => ?_)
  refine lv_if_ne (tgt := 9) hx hb dX9_keep_4 (by decide) (fun c4 => ?_) (fun c4 => ?_)
  · skip
    have b4 := bo_t q1 c4
    refine lv_iload_n hx hb dX9_keep_9 rfl (lv_at hl 2 rfl) ?_
    refine lv_if_ne (tgt := 22) hx hb dX9_keep_10 (by decide) (fun c10 => ?_) (fun c10 => ?_)
    · skip
      have d10 := c10
      rw [fa_eq] at d10
      refine lv_iload_n hx hb dX9_keep_22 rfl (lv_at hl 2 rfl) ?_
      refine lv_aload_n hx hb dX9_keep_23 rfl (lv_at hl 0 rfl) ?_
      refine lv_iload_n hx hb dX9_keep_24 rfl (lv_at hl 3 rfl) ?_
      refine t_calla (va_runV (g := F0 m 25 ls ([.int k0, .ref o, .int what])) (As := [.int k0]) (rest := [.int what]) ⟨hx, hb, hml, hown, hts⟩ (c_X9_jobOf_j l D cy A G ws o k0 hD hT hG_o hM_o hM_js_o hJ1) (cwV 1 hts gX9_keep_X9_jobOf rfl rfl rfl (by decide +kernel) ⟨Nat.le_of_ble_eq_true rfl, Nat.le_of_ble_eq_true rfl⟩) (c_preV hM_o rfl hP hK hA hS hV) rfl rfl hl.1 rfl (lv_room (Nat.le_of_ble_eq_true rfl)) dX9_keep_25 ⟨Nat.le_of_ble_eq_true rfl, Nat.le_of_ble_eq_true rfl⟩) hS (fun r25 u H locs q25 hP9 hD9 hT9 hS => ?_)
      obtain ⟨rfl, q25⟩ := q25
      have hP : va_P D vwCl ws H := hP9
      rcases r25 with _ | x25
      · skip
        have vn25 := q25.2 rfl
        refine lv_lload hx hb dX9_keep_28 (lv_at hl 4 rfl) ?_
        refine t_calla (va_runS (g := F0 m 30 ls ([.long p0, .null, .int what])) (As := [.int what, .null, .long p0]) (rest := []) ⟨hx, hb, hml, hown, hts⟩ (c_X9_thingToKeep_xn l D cy A G ws what p0 hD hT ) (va_cwS 3 hts gX9_keep_X9_thingToKeep rfl rfl rfl (by decide +kernel) ⟨Nat.le_of_ble_eq_true rfl, Nat.le_of_ble_eq_true rfl⟩) (c_preS hP hK hA hS hV) rfl rfl hl.1 rfl (lv_room (Nat.le_of_ble_eq_true rfl)) dX9_keep_30 ⟨Nat.le_of_ble_eq_true rfl, Nat.le_of_ble_eq_true rfl⟩) hS (fun r30 u H locs q30 hP9 hD9 hT9 hS => ?_)
        obtain ⟨G30, w30⟩ := u
        obtain ⟨hX9, q30⟩ := q30
        have hX9 : cX none (chs []) G ws G30 w30 := hX9
        have hP : va_P D vwCl w30 H := hP9
        have hD : va_D A w30 := hD9
        have hT : cT cy G30 w30 := hT9
        have hM_o := hX9.2.1 _ _ (cP.no hG_o rfl) hM_o
        have hM_js_o := hX9.2.1 _ _ (cP.no hG_js_o rfl) hM_js_o
        have hM_sh_o := hX9.2.1 _ _ (cP.no hG_sh_o rfl) hM_sh_o
        have hG_o := hX9.1 _ _ hG_o
        have hG_bs_o := hX9.1 _ _ hG_bs_o
        have hG_js_o := hX9.1 _ _ hG_js_o
        have hG_sh_o := hX9.1 _ _ hG_sh_o
        have hG_wk_o := hX9.1 _ _ hG_wk_o
        have hG_ll_o := hX9.1 _ _ hG_ll_o
        have hf_js_o := fun i9 x9 (h9 : i9 < 8) z9 => (hf_js_o i9 x9 h9 z9).elim fun k9 z8 => z8.elim fun n9 z7 => (⟨k9, n9, hX9.1 _ _ z7⟩ : ∃ k n, G30 x9 = some (3, k, n))
        have hf_sh_o := fun i9 x9 (h9 : i9 < 8) z9 => hf10_up hX9.1 (hf_sh_o i9 x9 h9 z9)
        have hmo_o := fun x9 z9 => hX9.1 _ _ (hmo_o x9 z9)
        have hlb_o : ∀ x9, lb_o = some x9 → ∃ w9 h9, _ = some (2, w9, h9) := fun x9 z9 => (hlb_o x9 z9).elim fun w9 z9 => z9.elim fun h9 z9 => ⟨w9, h9, hX9.1 _ _ z9⟩
        have hX := hX.tr (hX9.wk (chs_sub (by decide)))
        subst q30
        refine lv_astoreN (lv' := [(6, .null), (0, .ref o), (1, .int d), (2, .int what), (3, .int k0), (4, .long p0)]) hx hb dX9_keep_33 hl (by decide) rfl (fun ls hl => ?_)
        refine lv_aloadN hx hb dX9_keep_35 (lv_at hl 0 rfl) ?_
        refine lv_ifnonnullN hx hb dX9_keep_37 ?_
        refine lv_iconst (v := (-1)) hx hb dX9_keep_40 (by decide) ?_
        refine W.widen (k := 3) (n := 86) (Nat.le_of_ble_eq_true rfl) (Nat.le_of_ble_eq_true rfl) ?_
        exact W.iret (v := ((-1) : Int32)) hx hb hr (fun t ht hW => ⟨⟨_, (G30, w30), rfl, ⟨hX, ⟨(Or.inr ⟨(fun z9 => by rcases z9.2 with z8 | ⟨z8, z7⟩ | ⟨z8, z7, z6⟩; (omega); (first | exact vn25 z7 | exact qn30 (z8.elim Or.inl (fun z5 => Or.inr (Or.inl z5)))); (first | exact vn25 z7 | exact qn30 (Or.inr (Or.inr ⟨z8, z6⟩)))), rfl⟩), Or.inr ⟨(fun z9 => by rcases z9.2 with z8 | ⟨z8, z7⟩ | ⟨z8, z7, z6⟩; (omega); (first | exact vn25 z7 | exact qn30 (z8.elim Or.inl (fun z5 => Or.inr (Or.inl z5)))); (first | exact vn25 z7 | exact qn30 (Or.inr (Or.inr ⟨z8, z6⟩)))), hM_sh_o⟩⟩⟩, by show va_P D vwCl w30 t.heap; rw [ht]; exact hP, hD, hT⟩, hS.F ht⟩) hS.2.2 dX9_keep_41
      · skip
        obtain ⟨vj25, fj25⟩ := q25.1 x25 rfl
        obtain ⟨hfa9, hG_xj, hb9, ht9, hM_xj, hM_sj⟩ := hJ vj25
        obtain rfl : xj = x25 := Option.some.inj (hfa9.symm.trans fj25)
        obtain ⟨hG_bj, hG_sj, hJ_xj⟩ := w3sh hD hT hG_xj hb9 hM_xj
        refine lv_lload hx hb dX9_keep_28 (lv_at hl 4 rfl) ?_
        refine t_calla (va_runS (g := F0 m 30 ls ([.long p0, .ref xj, .int what])) (As := [.int what, .ref xj, .long p0]) (rest := []) ⟨hx, hb, hml, hown, hts⟩ (c_X9_thingToKeep_q l D cy A G ws what xj p0 hD hT hG_xj hM_xj hM_sj hb9 ht9 (hJ4 vj25)) (va_cwS 3 hts gX9_keep_X9_thingToKeep rfl rfl rfl (by decide +kernel) ⟨Nat.le_of_ble_eq_true rfl, Nat.le_of_ble_eq_true rfl⟩) (c_preS hP hK hA hS hV) rfl rfl hl.1 rfl (lv_room (Nat.le_of_ble_eq_true rfl)) dX9_keep_30 ⟨Nat.le_of_ble_eq_true rfl, Nat.le_of_ble_eq_true rfl⟩) hS (fun r30 u H locs q30 hP9 hD9 hT9 hS => ?_)
        obtain ⟨G30, w30⟩ := u
        obtain ⟨hX9, q30⟩ := q30
        have hX9 : cX none (chs []) G ws G30 w30 := hX9
        have hP : va_P D vwCl w30 H := hP9
        have hD : va_D A w30 := hD9
        have hT : cT cy G30 w30 := hT9
        have hM_o := hX9.2.1 _ _ (cP.no hG_o rfl) hM_o
        have hM_js_o := hX9.2.1 _ _ (cP.no hG_js_o rfl) hM_js_o
        have hM_sh_o := hX9.2.1 _ _ (cP.no hG_sh_o rfl) hM_sh_o
        have hM_xj := hX9.2.1 _ _ (cP.no hG_xj rfl) hM_xj
        have hM_sj := hX9.2.1 _ _ (cP.no hG_sj rfl) hM_sj
        have hG_o := hX9.1 _ _ hG_o
        have hG_bs_o := hX9.1 _ _ hG_bs_o
        have hG_js_o := hX9.1 _ _ hG_js_o
        have hG_sh_o := hX9.1 _ _ hG_sh_o
        have hG_wk_o := hX9.1 _ _ hG_wk_o
        have hG_ll_o := hX9.1 _ _ hG_ll_o
        have hG_xj := hX9.1 _ _ hG_xj
        have hG_bj := hX9.1 _ _ hG_bj
        have hG_sj := hX9.1 _ _ hG_sj
        have hf_js_o := fun i9 x9 (h9 : i9 < 8) z9 => (hf_js_o i9 x9 h9 z9).elim fun k9 z8 => z8.elim fun n9 z7 => (⟨k9, n9, hX9.1 _ _ z7⟩ : ∃ k n, G30 x9 = some (3, k, n))
        have hf_sh_o := fun i9 x9 (h9 : i9 < 8) z9 => hf10_up hX9.1 (hf_sh_o i9 x9 h9 z9)
        have hmo_o := fun x9 z9 => hX9.1 _ _ (hmo_o x9 z9)
        have hlb_o : ∀ x9, lb_o = some x9 → ∃ w9 h9, _ = some (2, w9, h9) := fun x9 z9 => (hlb_o x9 z9).elim fun w9 z9 => z9.elim fun h9 z9 => ⟨w9, h9, hX9.1 _ _ z9⟩
        have hX := hX.tr (hX9.wk (chs_sub (by decide)))
        rcases q30 with ⟨rfl, qn30⟩ | ⟨qn30, x30, ax30, rfl, hG_x30, qj30⟩ | ⟨x30, m30, rfl, hG_x30, qn30⟩
        · skip
          refine lv_astoreN (lv' := [(6, .null), (0, .ref o), (1, .int d), (2, .int what), (3, .int k0), (4, .long p0)]) hx hb dX9_keep_33 hl (by decide) rfl (fun ls hl => ?_)
          refine lv_aloadN hx hb dX9_keep_35 (lv_at hl 0 rfl) ?_
          refine lv_ifnonnullN hx hb dX9_keep_37 ?_
          refine lv_iconst (v := (-1)) hx hb dX9_keep_40 (by decide) ?_
          refine W.widen (k := 3) (n := 86) (Nat.le_of_ble_eq_true rfl) (Nat.le_of_ble_eq_true rfl) ?_
          exact W.iret (v := ((-1) : Int32)) hx hb hr (fun t ht hW => ⟨⟨_, (G30, w30), rfl, ⟨hX, ⟨(Or.inr ⟨(fun z9 => by rcases z9.2 with z8 | ⟨z8, z7⟩ | ⟨z8, z7, z6⟩; (omega); (first | exact vn25 z7 | exact qn30 (z8.elim Or.inl (fun z5 => Or.inr (Or.inl z5)))); (first | exact vn25 z7 | exact qn30 (Or.inr (Or.inr ⟨z8, z6⟩)))), rfl⟩), Or.inr ⟨(fun z9 => by rcases z9.2 with z8 | ⟨z8, z7⟩ | ⟨z8, z7, z6⟩; (omega); (first | exact vn25 z7 | exact qn30 (z8.elim Or.inl (fun z5 => Or.inr (Or.inl z5)))); (first | exact vn25 z7 | exact qn30 (Or.inr (Or.inr ⟨z8, z6⟩)))), hM_sh_o⟩⟩⟩, by show va_P D vwCl w30 t.heap; rw [ht]; exact hP, hD, hT⟩, hS.F ht⟩) hS.2.2 dX9_keep_41
        · skip
          refine lv_astore (lv' := [(6, .ref x30), (0, .ref o), (1, .int d), (2, .int what), (3, .int k0), (4, .long p0)]) hx hb dX9_keep_33 hl (by decide) rfl (fun ls hl => ?_)
          refine lv_aload hx hb dX9_keep_35 (lv_at hl 0 rfl) ?_
          refine lv_ifnonnull (tgt := 42) hx hb dX9_keep_37 (by decide) ?_
          refine lv_aload_n hx hb dX9_keep_42 rfl (lv_at hl 1 rfl) ?_
          refine t_get (v := .ref sh_o) (C := RX9) (T := TX9) (N := 9) hx hb hts (by decide +kernel) hown hK hP hM_o rfl 3 (by decide) (hts (.fieldLink RX9 27 "ShadowBench" "shelves" "[LShadowBench$Held;") (by decide +kernel)) (fun _ h9 => h9) rfl dX9_keep_43 ?_
          refine lv_iload_n hx hb dX9_keep_46 rfl (lv_at hl 2 rfl) ?_
          refine lv_aload hx hb dX9_keep_47 (lv_at hl 0 rfl) ?_
          refine t_aast10f hx hb hV hK hP hD hS hT hG_sh_o hM_sh_o hf_sh_o (Or.inl ⟨_, _, hG_x30⟩) (vp_in_iff.mpr ⟨by omega, by omega⟩) dX9_keep_49 (fun H locs w49 hU49 hM9_sh_o hf9_sh_o hP hD hT hS => ?_)
          have hM_o := hU49 _ _ (cne hG_o hG_sh_o (show (7 : Nat) ≠ 10 by decide)) hM_o
          have hM_js_o := hU49 _ _ (cne hG_js_o hG_sh_o (show (9 : Nat) ≠ 10 by decide)) hM_js_o
          have hM_xj := hU49 _ _ (cne hG_xj hG_sh_o (show (3 : Nat) ≠ 10 by decide)) hM_xj
          have hM_sj := hU49 _ _ (cne hG_sj hG_sh_o (show (14 : Nat) ≠ 10 by decide)) hM_sj
          have hM_sh_o := hM9_sh_o
          have hf_sh_o := hf9_sh_o
          have hX := hX.tr (cX.uF hU49 (Or.inr ⟨_, hG_sh_o, rfl⟩))
          refine lv_iconst (v := 0) hx hb dX9_keep_50 (by decide) ?_
          refine W.widen (k := 3) (n := 86) (Nat.le_of_ble_eq_true rfl) (Nat.le_of_ble_eq_true rfl) ?_
          exact W.iret (v := (0 : Int32)) hx hb hr (fun t ht hW => ⟨⟨_, (G30, w49), rfl, ⟨hX, ⟨(Or.inl ⟨⟨(by omega), Or.inr (Or.inl ⟨Or.inl qn30, vj25⟩)⟩, rfl⟩), Or.inl ⟨⟨(by omega), Or.inr (Or.inl ⟨Or.inl qn30, vj25⟩)⟩, _, _, _, hM_sh_o, (Or.inr (Or.inl ⟨qn30, rfl, jqW.mv ⟨hG_x30, qj30⟩ (fun z t e hg ht hi => hU49 _ _ (cne hg hG_sh_o ht) hi)⟩))⟩⟩⟩, by show va_P D vwCl w49 t.heap; rw [ht]; exact hP, hD, hT⟩, hS.F ht⟩) hS.2.2 dX9_keep_51
        · skip
          refine lv_astore (lv' := [(6, .ref x30), (0, .ref o), (1, .int d), (2, .int what), (3, .int k0), (4, .long p0)]) hx hb dX9_keep_33 hl (by decide) rfl (fun ls hl => ?_)
          refine lv_aload hx hb dX9_keep_35 (lv_at hl 0 rfl) ?_
          refine lv_ifnonnull (tgt := 42) hx hb dX9_keep_37 (by decide) ?_
          refine lv_aload_n hx hb dX9_keep_42 rfl (lv_at hl 1 rfl) ?_
          refine t_get (v := .ref sh_o) (C := RX9) (T := TX9) (N := 9) hx hb hts (by decide +kernel) hown hK hP hM_o rfl 3 (by decide) (hts (.fieldLink RX9 27 "ShadowBench" "shelves" "[LShadowBench$Held;") (by decide +kernel)) (fun _ h9 => h9) rfl dX9_keep_43 ?_
          refine lv_iload_n hx hb dX9_keep_46 rfl (lv_at hl 2 rfl) ?_
          refine lv_aload hx hb dX9_keep_47 (lv_at hl 0 rfl) ?_
          refine t_aast10f hx hb hV hK hP hD hS hT hG_sh_o hM_sh_o hf_sh_o (Or.inr ⟨_, hG_x30⟩) (vp_in_iff.mpr ⟨by omega, by omega⟩) dX9_keep_49 (fun H locs w49 hU49 hM9_sh_o hf9_sh_o hP hD hT hS => ?_)
          have hM_o := hU49 _ _ (cne hG_o hG_sh_o (show (7 : Nat) ≠ 10 by decide)) hM_o
          have hM_js_o := hU49 _ _ (cne hG_js_o hG_sh_o (show (9 : Nat) ≠ 10 by decide)) hM_js_o
          have hM_xj := hU49 _ _ (cne hG_xj hG_sh_o (show (3 : Nat) ≠ 10 by decide)) hM_xj
          have hM_sj := hU49 _ _ (cne hG_sj hG_sh_o (show (14 : Nat) ≠ 10 by decide)) hM_sj
          have hM_sh_o := hM9_sh_o
          have hf_sh_o := hf9_sh_o
          have hX := hX.tr (cX.uF hU49 (Or.inr ⟨_, hG_sh_o, rfl⟩))
          refine lv_iconst (v := 0) hx hb dX9_keep_50 (by decide) ?_
          refine W.widen (k := 3) (n := 86) (Nat.le_of_ble_eq_true rfl) (Nat.le_of_ble_eq_true rfl) ?_
          exact W.iret (v := (0 : Int32)) hx hb hr (fun t ht hW => ⟨⟨_, (G30, w49), rfl, ⟨hX, ⟨(Or.inl ⟨⟨(by omega), (by rcases qn30 with ⟨z9, z8⟩ | z9; exact Or.inr (Or.inr ⟨z9, vj25, z8⟩); exact Or.inr (Or.inl ⟨Or.inr z9, vj25⟩))⟩, rfl⟩), Or.inl ⟨⟨(by omega), (by rcases qn30 with ⟨z9, z8⟩ | z9; exact Or.inr (Or.inr ⟨z9, vj25, z8⟩); exact Or.inr (Or.inl ⟨Or.inr z9, vj25⟩))⟩, _, _, 0, hM_sh_o, (Or.inr (Or.inr ⟨(by rcases qn30 with ⟨z9, z8⟩ | z9 <;> omega), rfl, _, hG_x30⟩))⟩⟩⟩, by show va_P D vwCl w49 t.heap; rw [ht]; exact hP, hD, hT⟩, hS.F ht⟩) hS.2.2 dX9_keep_51
    · skip
      have d10 := c10
      rw [fa_eq] at d10
      refine lv_aload_n hx hb dX9_keep_13 rfl (lv_at hl 0 rfl) ?_
      refine t_get (v := .ref sh_o) (C := RX9) (T := TX9) (N := 9) hx hb hts (by decide +kernel) hown hK hP hM_o rfl 3 (by decide) (hts (.fieldLink RX9 27 "ShadowBench" "shelves" "[LShadowBench$Held;") (by decide +kernel)) (fun _ h9 => h9) rfl dX9_keep_14 ?_
      refine lv_iload_n hx hb dX9_keep_17 rfl (lv_at hl 1 rfl) ?_
      refine lv_null hx hb dX9_keep_18 ?_
      refine t_aastNf hx hb hK hP hD hS hT hG_sh_o hM_sh_o hf_sh_o (vp_in_iff.mpr ⟨by omega, by omega⟩) dX9_keep_19 (fun H locs w19 hU19 hM9_sh_o hf9_sh_o hP hD hT hS => ?_)
      have hM_o := hU19 _ _ (cne hG_o hG_sh_o (show (7 : Nat) ≠ 10 by decide)) hM_o
      have hM_js_o := hU19 _ _ (cne hG_js_o hG_sh_o (show (9 : Nat) ≠ 10 by decide)) hM_js_o
      have hM_sh_o := hM9_sh_o
      have hf_sh_o := hf9_sh_o
      have hX := hX.tr (cX.uF hU19 (Or.inr ⟨_, hG_sh_o, rfl⟩))
      refine lv_iconst (v := 0) hx hb dX9_keep_20 (by decide) ?_
      refine W.widen (k := 3) (n := 86) (Nat.le_of_ble_eq_true rfl) (Nat.le_of_ble_eq_true rfl) ?_
      exact W.iret (v := (0 : Int32)) hx hb hr (fun t ht hW => ⟨⟨_, (G, w19), rfl, ⟨hX, ⟨(Or.inl ⟨⟨(by omega), Or.inl (by omega)⟩, rfl⟩), Or.inl ⟨⟨(by omega), Or.inl (by omega)⟩, none, 0, 0, hM_sh_o, Or.inl ⟨by omega, rfl⟩⟩⟩⟩, by show va_P D vwCl w19 t.heap; rw [ht]; exact hP, hD, hT⟩, hS.F ht⟩) hS.2.2 dX9_keep_21
  · skip
    have b4 := bo_f q1 c4
    refine lv_iconst (v := (-1)) hx hb dX9_keep_7 (by decide) ?_
    refine W.widen (k := 3) (n := 86) (Nat.le_of_ble_eq_true rfl) (Nat.le_of_ble_eq_true rfl) ?_
    exact W.iret (v := ((-1) : Int32)) hx hb hr (fun t ht hW => ⟨⟨_, (G, ws), rfl, ⟨hX, ⟨(Or.inr ⟨(fun z9 => b4 z9.1), rfl⟩), Or.inr ⟨(fun z9 => b4 z9.1), hM_sh_o⟩⟩⟩, by show va_P D vwCl ws t.heap; rw [ht]; exact hP, hD, hT⟩, hS.F ht⟩) hS.2.2 dX9_keep_8

theorem t_lastf {p : Program} {l : Launch} {e : Env} {R : Room} {s : State} {m : MethodId} {args : Array Value} {below : List Frame} {meth : Method} {c : Code} {H : Heap} {locs : List Loc} {cells slots : Nat} {Q : State → Prop} {cc : ByteArray} {pc : Nat} {ls : Array Slot} {rest : List Value} {D : va_G} {cy : Nat → ClassId} {A : Nat → Prop} {ws : va_W} {G : cG} {H0 : Heap} (hx : p.tables.exec = Jvm.exec) (hb : c.code = cc) (hK : va_K D vwCl (cTy cy) s) (hP : va_P D vwCl ws H) (hD : va_D A ws) (hS : va_S A H0 H locs) (hT : cT cy G ws) {a n z : Nat} (hg : G a = some (1, n, z)) {i : Int32} {x : Int64} (hin : vp_in i n) (hdg : decode cc pc = .ok (.lastore, 1))
    (kk : ∀ (H1 : Heap) (locs1 : List Loc) (ws1 : va_W), cF (fun b => b = a) ws ws1 → (∃ w : Nat → Int64, cIn ws1 a (.inl (cy 1, n, .inr (.inl w))) ∧ w i.toNatClampNeg = x) → va_P D vwCl ws1 H1 → va_D A ws1 → cT cy G ws1 → va_S A H0 H1 locs1 → W p l e R s m args below meth c H1 locs1 cells slots Q (F0 m (pc + 1) ls rest)) : W p l e R s m args below meth c H locs cells slots Q (F0 m pc ls (.long x :: .int i :: .ref a :: rest)) := by
  obtain ⟨_, ⟨q0, hq⟩, w, rfl⟩ := hT _ _ hg
  exact va_last hx hb hK hP hD hS q0 1 hq rfl hin hdg (fun H1 locs1 h1 h2 h3 => kk H1 locs1 _ (cF.up (cUp.set hq) rfl) ⟨_, (cUp.set hq).1, by simp [vp_updL]⟩ h1 h2 (hT.up (cUp.set hq) hg ⟨_, rfl⟩) h3)

set_option maxHeartbeats 4000000 in
set_option maxRecDepth 100000 in
theorem c_X9_weight_q (l : Launch) (hst : l.stackTraces = false) (D : va_G) (cy : Nat → ClassId) (A : Nat → Prop) (G : cG) (ws : va_W) (o : Nat) (d : Int32) {bs_o js_o sh_o wk_o ll_o : Nat} {jc_o lc_o : Int32} {mo_o lb_o : Option Nat} {fb : Nat → Option Nat} {sx sa : Nat → Nat} {kS9 tS9 : Nat → Int32} (hD : va_D A ws) (hT : cT cy G ws) (hG_o : G o = some (7, 0, 0)) (hM_o : cIn ws o (.inr (8, [.ref bs_o, .ref js_o, .int jc_o, .ref sh_o, .ref wk_o, va_rf mo_o, .ref ll_o, .int lc_o, va_rf lb_o]))) (hM_sh_o : cIn ws sh_o (.inl (cy 5, cqa 8 fb))) (hS9 : ∀ i9, i9 < 8 → shW cy G ws (fb i9) (sx i9) (sa i9) (kS9 i9) (tS9 i9)) : Xi l D cy A yX9_weight wsX9_weight ({ frames := 6, cells := 1, slots := 6, locals := 90 }) 1 6 ws [.ref o, .int d] (fun r0 u => u = (G, ws) ∧ (okSh d ∧ kS9 d.toNatClampNeg = 1 ∧ r0 = tS9 d.toNatClampNeg)) (fun u => u = (G, ws)) (fun E => (E = xIA ∧ ¬ okSh d) ∨ (E = xIS ∧ okSh d ∧ ¬ kS9 d.toNatClampNeg = 1)) := by
  refine vx_ofW (cc := cX9_weight) (maxL := 4) (ret := (some .int)) (by decide) rfl ?_
  intro p e s m args below meth c s₁ B hml hno hv
  obtain ⟨rfl, ⟨hP, hK, hA, hV⟩, hZ, hXT⟩ := hv
  have hx := B.exec
  have hb := B.bytes
  have hr := B.returns
  have hts := atoms_spec (ws := wsX9_weight) B.pre
  have hown : s.vm.findClass RX9 = some m.cls := findClass_of_methodNamed B.named
  have hlocks := B.notSynchronized
  have hS : va_S A s.heap s.heap [] := va_S.rf
  have hl := lv_entry ([.ref o, .int d]) (n := 4) (Nat.le_of_ble_eq_true rfl)
  rw [lg_entry_eq]
  generalize (lg_sl ([.ref o, .int d]) ++ List.replicate (4 - (lg_sl ([.ref o, .int d])).length) Slot.unset).toArray = ls at hl ⊢
  have hl : lv_has ls 4 [(0, .ref o), (1, .int d)] := hl
  have k_0 : (0 : Int32).toInt = 0 := by decide
  obtain ⟨hjc_o, hlc_o, hG_bs_o, hG_js_o, hG_sh_o, hG_wk_o, hmo_o, hG_ll_o, hlb_o⟩ := w7sh hD hT hG_o hM_o
  have hf_sh_o := w10sh hD hT hG_sh_o hM_sh_o
  refine lv_iload_n hx hb dX9_weight_0 rfl (lv_at hl 1 rfl) ?_
  refine t_pu (As := [.int d]) (rest := []) ⟨hx, hb, hml, hown, hts⟩ (c_X9_isShelf l d ) (va_cwS 1 hts gX9_weight_X9_isShelf rfl rfl rfl (by decide +kernel) ⟨Nat.le_of_ble_eq_true rfl, Nat.le_of_ble_eq_true rfl⟩) hP rfl hl.1 rfl (Nat.le_of_ble_eq_true rfl) dX9_weight_1 ⟨Nat.le_of_ble_eq_true rfl, Nat.le_of_ble_eq_true rfl⟩ hS (fun r1 H locs q1 hP hS => ?_)
  refine lv_if_ne (tgt := 17) hx hb dX9_weight_4 (by decide) (fun c4 => ?_) (fun c4 => ?_)
  · skip
    have b4 := bo_t q1 c4
    refine lv_aload_n hx hb dX9_weight_17 rfl (lv_at hl 0 rfl) ?_
    refine t_get (v := .ref sh_o) (C := RX9) (T := TX9) (N := 9) hx hb hts (by decide +kernel) hown hK hP hM_o rfl 3 (by decide) (hts (.fieldLink RX9 27 "ShadowBench" "shelves" "[LShadowBench$Held;") (by decide +kernel)) (fun _ h9 => h9) rfl dX9_weight_18 ?_
    refine lv_iload_n hx hb dX9_weight_21 rfl (lv_at hl 1 rfl) ?_
    refine t_aald10f hx hb hK hP hM_sh_o hf_sh_o (vp_in_iff.mpr ⟨by omega, by omega⟩) dX9_weight_22 (fun nf22 => ?_) (fun x22 kx22 nx22 hG_x22 nf22 => ?_) (fun x22 nx22 hG_x22 nf22 => ?_)
    · skip
      have s22 := hS9 d.toNatClampNeg (by have := m_cl (x := d) (by omega); omega)
      rw [nf22] at s22
      refine lv_astore_nN (lv' := [(3, .null), (0, .ref o), (1, .int d)]) hx hb dX9_weight_23 rfl hl (by decide) rfl (fun ls hl => ?_)
      refine lv_aload_nN hx hb dX9_weight_24 rfl (lv_at hl 0 rfl) ?_
      refine lv_instN hx hb dX9_weight_25 ?_
      refine lv_if_eq (tgt := 41) hx hb dX9_weight_28 (by decide) (fun c28 => ?_) (fun c28 => ?_)
      · skip
        have d28 := c28
        rw [fa_eq] at d28
        obtain ⟨sa41, hsa41⟩ := hXT.2.2.1 (RX9, 284, "no job is held there") (by decide)
        exact vx_throwSW (own := RX9) (cls := xIS) (names := [xRT, xEX]) (A := A) (ik := 259) (ic := 263) hx hb hst hown (by decide) (by decide) (hts (.classLink RX9 259 xIS) (by decide +kernel)) (hts (.initialized xIS) (by decide +kernel)) hsa41 (x_hat hts hXT (Or.inr (Or.inl rfl)) (by decide +kernel) (by decide +kernel)) (by decide +kernel) hXT.2.2.2.1 hXT.2.2.2.2 hS (by rw [hml]; exact hl.1) dX9_weight_41 dX9_weight_44 dX9_weight_45 dX9_weight_48 dX9_weight_51 (fun x9 h9 => (hno x9 h9).elim) (Nat.le_of_ble_eq_true rfl) (Nat.le_of_ble_eq_true rfl) (Nat.le_of_ble_eq_true rfl) (Nat.le_of_ble_eq_true rfl) hlocks (x_thr (G' := G) (ws' := ws) rfl (Or.inr ⟨rfl, b4, (fun z9 => by first | (have y9 := shW_n s22; rw [y9] at z9; exact absurd z9 (by decide)) | (have y9 := shW_row s22 hG_x22; rw [z9] at y9; exact absurd y9 (by decide)))⟩) hP hD hT hS) hS.2.2 (Nat.le_of_ble_eq_true rfl) (Nat.le_of_ble_eq_true rfl)
      · first | exact absurd c28 (by decide) | exact absurd (by decide) c28
    · skip
      have s22 := hS9 d.toNatClampNeg (by have := m_cl (x := d) (by omega); omega)
      rw [nf22] at s22
      refine lv_astore_n (lv' := [(3, .ref x22), (0, .ref o), (1, .int d)]) hx hb dX9_weight_23 rfl hl (by decide) rfl (fun ls hl => ?_)
      refine lv_aload_n hx hb dX9_weight_24 rfl (lv_at hl 0 rfl) ?_
      obtain ⟨_, hM_x22, b_x22, s_x22, w_x22, h_x22, t_x22, x_x22, y_x22, ms_x22, rfl, hG_b_x22, hG_s_x22, hJ_x22⟩ := hT _ _ hG_x22
      refine t_instJ hx hb hV hown (hts (.classLink RX9 15 RX3) (by decide +kernel)) hK hP hJ_x22.kc hM_x22 dX9_weight_25 ?_
      refine lv_if_eq (tgt := 41) hx hb dX9_weight_28 (by decide) (fun c28 => ?_) (fun c28 => ?_)
      · first | exact absurd c28 (by decide) | exact absurd (by decide) c28
      · skip
        have d28 := c28
        rw [fa_eq] at d28
        refine lv_aload_n hx hb dX9_weight_31 rfl (lv_at hl 0 rfl) ?_
        refine t_castJ hx hb hV hown (hts (.classLink RX9 15 RX3) (by decide +kernel)) hK hP hJ_x22.kc hM_x22 dX9_weight_32 ?_
        refine lv_astore_n (lv' := [(2, .ref x22), (3, .ref x22), (0, .ref o), (1, .int d)]) hx hb dX9_weight_35 rfl hl (by decide) rfl (fun ls hl => ?_)
        obtain ⟨hk22, w22, h22, hw22, hb22, ht22⟩ := shW_job s22 hG_x22
        rw [hw22] at hG_x22
        obtain ⟨ar22, har22⟩ : ∃ z, z = sa d.toNatClampNeg := ⟨_, rfl⟩
        rw [← har22] at ht22
        refine lv_aload_n hx hb dX9_weight_36 rfl (lv_at hl 0 rfl) ?_
        obtain ⟨_, hM_x22, bv1_x22, sv1_x22, wv1_x22, hv1_x22, tv1_x22, xv1_x22, yv1_x22, msv1_x22, rfl, hG_bv1_x22, hG_sv1_x22, hJ_x22⟩ := hT _ _ hG_x22
        have hJ9 := hJ_x22
        obtain ⟨hn9, hJ9⟩ := hJ9
        rcases hJ9 with ⟨rfl, rfl⟩ | ⟨rfl, rfl⟩ | ⟨rfl, rfl⟩ | ⟨rfl, c9, rfl, hG_c9⟩
        · skip
          have hM_x22 : cIn ws x22 (.inr (1, [.ref bv1_x22, .ref sv1_x22, .int tv1_x22, .long xv1_x22, .long yv1_x22])) := hM_x22
          refine t_calli (va_runU (g := F0 m 37 ls ([.ref x22])) (As := []) (rest := []) ⟨hx, hb, hml, hown, hts⟩ (c_X1_heft_q l D cy A G ws x22 hD hT hG_x22 hb22) (va_cwO 0 hts gX9_weight_X1_heft_u280X1 rfl rfl rfl (b0 := cX3_heft) (m0 := 1) (r0 := (some .int)) (by decide +kernel) (by decide +kernel) ⟨Nat.le_of_ble_eq_true rfl, Nat.le_of_ble_eq_true rfl⟩) (c_preV hM_x22 rfl hP hK hA hS hV) rfl rfl hl.1 rfl (lv_room (Nat.le_of_ble_eq_true rfl)) dX9_weight_37 ⟨Nat.le_of_ble_eq_true rfl, Nat.le_of_ble_eq_true rfl⟩) hS (fun r37 u H locs q37 hP9 hD9 hT9 hS => ?_)
          obtain ⟨rfl, q37⟩ := q37
          have hP : va_P D vwCl ws H := hP9
          refine vx_ret ?_
          refine W.widen (k := 1) (n := 6) (Nat.le_of_ble_eq_true rfl) (Nat.le_of_ble_eq_true rfl) ?_
          exact W.iret (v := r37) hx hb hr (fun t ht hW => ⟨⟨_, (G, ws), rfl, ⟨rfl, ⟨b4, hk22, (by rcases ht22 with ⟨y1, y2⟩ | ⟨y1, y2⟩; (rw [q37, y2]; first | rfl | exact absurd rfl y1); first | exact absurd y1 (by decide) | (rw [q37, ht49]; rfl))⟩⟩, by show va_P D vwCl ws t.heap; rw [ht]; exact hP, hD, hT⟩, hS.F ht⟩) hS.2.2 dX9_weight_40
        · skip
          have hM_x22 : cIn ws x22 (.inr (2, [.ref bv1_x22, .ref sv1_x22, .int tv1_x22, .long xv1_x22, .long yv1_x22])) := hM_x22
          refine t_calli (va_runV (g := F0 m 37 ls ([.ref x22])) (As := []) (rest := []) ⟨hx, hb, hml, hown, hts⟩ (c_X3_heft_q l D cy A G ws x22 hD hT hG_x22 hb22) (cwV 0 hts gX9_weight_X3_heft rfl rfl rfl (by decide +kernel) ⟨Nat.le_of_ble_eq_true rfl, Nat.le_of_ble_eq_true rfl⟩) (c_preV hM_x22 rfl hP hK hA hS hV) rfl rfl hl.1 rfl (lv_room (Nat.le_of_ble_eq_true rfl)) dX9_weight_37 ⟨Nat.le_of_ble_eq_true rfl, Nat.le_of_ble_eq_true rfl⟩) hS (fun r37 u H locs q37 hP9 hD9 hT9 hS => ?_)
          obtain ⟨rfl, q37⟩ := q37
          have hP : va_P D vwCl ws H := hP9
          refine vx_ret ?_
          refine W.widen (k := 1) (n := 6) (Nat.le_of_ble_eq_true rfl) (Nat.le_of_ble_eq_true rfl) ?_
          exact W.iret (v := r37) hx hb hr (fun t ht hW => ⟨⟨_, (G, ws), rfl, ⟨rfl, ⟨b4, hk22, (by rcases ht22 with ⟨y1, y2⟩ | ⟨y1, y2⟩; (rw [q37, y2]; first | rfl | exact absurd rfl y1); first | exact absurd y1 (by decide) | (rw [q37, ht49]; rfl))⟩⟩, by show va_P D vwCl ws t.heap; rw [ht]; exact hP, hD, hT⟩, hS.F ht⟩) hS.2.2 dX9_weight_40
        · skip
          have hM_x22 : cIn ws x22 (.inr (3, [.ref bv1_x22, .ref sv1_x22, .int tv1_x22, .long xv1_x22, .long yv1_x22])) := hM_x22
          refine t_calli (va_runU (g := F0 m 37 ls ([.ref x22])) (As := []) (rest := []) ⟨hx, hb, hml, hown, hts⟩ (c_X4_heft_q l D cy A G ws x22 hD hT hG_x22 hb22) (va_cwO 0 hts gX9_weight_X4_heft_u280X4 rfl rfl rfl (b0 := cX3_heft) (m0 := 1) (r0 := (some .int)) (by decide +kernel) (by decide +kernel) ⟨Nat.le_of_ble_eq_true rfl, Nat.le_of_ble_eq_true rfl⟩) (c_preV hM_x22 rfl hP hK hA hS hV) rfl rfl hl.1 rfl (lv_room (Nat.le_of_ble_eq_true rfl)) dX9_weight_37 ⟨Nat.le_of_ble_eq_true rfl, Nat.le_of_ble_eq_true rfl⟩) hS (fun r37 u H locs q37 hP9 hD9 hT9 hS => ?_)
          obtain ⟨rfl, q37⟩ := q37
          have hP : va_P D vwCl ws H := hP9
          refine vx_ret ?_
          refine W.widen (k := 1) (n := 6) (Nat.le_of_ble_eq_true rfl) (Nat.le_of_ble_eq_true rfl) ?_
          exact W.iret (v := r37) hx hb hr (fun t ht hW => ⟨⟨_, (G, ws), rfl, ⟨rfl, ⟨b4, hk22, (by rcases ht22 with ⟨y1, y2⟩ | ⟨y1, y2⟩; (rw [q37, y2]; first | rfl | exact absurd rfl y1); first | exact absurd y1 (by decide) | (rw [q37, ht49]; rfl))⟩⟩, by show va_P D vwCl ws t.heap; rw [ht]; exact hP, hD, hT⟩, hS.F ht⟩) hS.2.2 dX9_weight_40
        · skip
          have hM_x22 : cIn ws x22 (.inr (4, [.ref bv1_x22, .ref sv1_x22, .int tv1_x22, .long xv1_x22, .long yv1_x22, .ref c9])) := hM_x22
          have hn36 := cb_mul (c_hb hT hG_bv1_x22)
          obtain ⟨b49, s49, tw49, y49, z49, fm49, hMq49, hM_ar22, ht49⟩ := (ht22.resolve_left (fun z9 => z9.1 rfl)).2
          obtain ⟨hG_b49, hG_s49, hJ_x22⟩ := w3sh hD hT hG_x22 hb22 hMq49
          have hG_ar22 := cJ4c hJ_x22
          have hM_x22 := hMq49
          refine t_calli (va_runU (g := F0 m 37 ls ([.ref x22])) (As := []) (rest := []) ⟨hx, hb, hml, hown, hts⟩ (c_X5_heft_q l D cy A G ws x22 hD hT hG_x22 hM_x22 hM_ar22 hb22) (va_cwO 0 hts gX9_weight_X5_heft_u280X5 rfl rfl rfl (b0 := cX3_heft) (m0 := 1) (r0 := (some .int)) (by decide +kernel) (by decide +kernel) ⟨Nat.le_of_ble_eq_true rfl, Nat.le_of_ble_eq_true rfl⟩) (c_preV hM_x22 rfl hP hK hA hS hV) rfl rfl hl.1 rfl (lv_room (Nat.le_of_ble_eq_true rfl)) dX9_weight_37 ⟨Nat.le_of_ble_eq_true rfl, Nat.le_of_ble_eq_true rfl⟩) hS (fun r37 u H locs q37 hP9 hD9 hT9 hS => ?_)
          obtain ⟨rfl, q37⟩ := q37
          have hP : va_P D vwCl ws H := hP9
          refine vx_ret ?_
          refine W.widen (k := 1) (n := 6) (Nat.le_of_ble_eq_true rfl) (Nat.le_of_ble_eq_true rfl) ?_
          exact W.iret (v := r37) hx hb hr (fun t ht hW => ⟨⟨_, (G, ws), rfl, ⟨rfl, ⟨b4, hk22, (by rw [q37, ht49]; rfl)⟩⟩, by show va_P D vwCl ws t.heap; rw [ht]; exact hP, hD, hT⟩, hS.F ht⟩) hS.2.2 dX9_weight_40
    · skip
      have s22 := hS9 d.toNatClampNeg (by have := m_cl (x := d) (by omega); omega)
      rw [nf22] at s22
      refine lv_astore_n (lv' := [(3, .ref x22), (0, .ref o), (1, .int d)]) hx hb dX9_weight_23 rfl hl (by decide) rfl (fun ls hl => ?_)
      refine lv_aload_n hx hb dX9_weight_24 rfl (lv_at hl 0 rfl) ?_
      obtain ⟨_, hM_x22, hn_x22, z_x22, a_x22, rfl, hz_x22, hG_a_x22⟩ := hT _ _ hG_x22
      refine va_instNo hx hb hown (hts (.classLink RX9 15 RX3) (by decide +kernel)) hV.2.2.2.2.2 (t_recJ hK hP hM_x22 rfl) dX9_weight_25 ?_
      refine lv_if_eq (tgt := 41) hx hb dX9_weight_28 (by decide) (fun c28 => ?_) (fun c28 => ?_)
      · skip
        have d28 := c28
        rw [fa_eq] at d28
        obtain ⟨sa41, hsa41⟩ := hXT.2.2.1 (RX9, 284, "no job is held there") (by decide)
        exact vx_throwSW (own := RX9) (cls := xIS) (names := [xRT, xEX]) (A := A) (ik := 259) (ic := 263) hx hb hst hown (by decide) (by decide) (hts (.classLink RX9 259 xIS) (by decide +kernel)) (hts (.initialized xIS) (by decide +kernel)) hsa41 (x_hat hts hXT (Or.inr (Or.inl rfl)) (by decide +kernel) (by decide +kernel)) (by decide +kernel) hXT.2.2.2.1 hXT.2.2.2.2 hS (by rw [hml]; exact hl.1) dX9_weight_41 dX9_weight_44 dX9_weight_45 dX9_weight_48 dX9_weight_51 (fun x9 h9 => (hno x9 h9).elim) (Nat.le_of_ble_eq_true rfl) (Nat.le_of_ble_eq_true rfl) (Nat.le_of_ble_eq_true rfl) (Nat.le_of_ble_eq_true rfl) hlocks (x_thr (G' := G) (ws' := ws) rfl (Or.inr ⟨rfl, b4, (fun z9 => by first | (have y9 := shW_n s22; rw [y9] at z9; exact absurd z9 (by decide)) | (have y9 := shW_row s22 hG_x22; rw [z9] at y9; exact absurd y9 (by decide)))⟩) hP hD hT hS) hS.2.2 (Nat.le_of_ble_eq_true rfl) (Nat.le_of_ble_eq_true rfl)
      · first | exact absurd c28 (by decide) | exact absurd (by decide) c28
  · skip
    have b4 := bo_f q1 c4
    obtain ⟨sa7, hsa7⟩ := hXT.2.2.1 (RX9, 250, "no such shelf") (by decide)
    exact vx_throwS (own := RX9) (cls := xIA) (names := [xRT, xEX]) (A := A) (ik := 223) (ic := 227) hx hb hst hown (by decide) (by decide) (hts (.classLink RX9 223 xIA) (by decide +kernel)) (hts (.initialized xIA) (by decide +kernel)) hsa7 (x_hat hts hXT (Or.inl rfl) (by decide +kernel) (by decide +kernel)) (by decide +kernel) hXT.2.2.2.1 hXT.2.2.2.2 hS (by rw [hml]; exact hl.1) dX9_weight_7 dX9_weight_10 dX9_weight_11 dX9_weight_13 dX9_weight_16 (fun x9 h9 => (hno x9 h9).elim) (Nat.le_of_ble_eq_true rfl) (Nat.le_of_ble_eq_true rfl) (Nat.le_of_ble_eq_true rfl) (Nat.le_of_ble_eq_true rfl) hlocks (x_thr (G' := G) (ws' := ws) rfl (Or.inl ⟨rfl, b4⟩) hP hD hT hS) hS.2.2 (Nat.le_of_ble_eq_true rfl) (Nat.le_of_ble_eq_true rfl)
set_option maxHeartbeats 4000000 in
set_option maxRecDepth 100000 in
theorem c_L_weight_q (l : Launch) (hst : l.stackTraces = false) (D : va_G) (cy : Nat → ClassId) (A : Nat → Prop) (G : cG) (ws : va_W) (xb : Nat) (p0 : Int32) (ou : Nat) {bs_o js_o sh_o wk_o ll_o : Nat} {jc_o lc_o : Int32} {mo_o lb_o : Option Nat} {fb : Nat → Option Nat} {sx sa : Nat → Nat} {kS9 tS9 : Nat → Int32} (hD : va_D A ws) (hT : cT cy G ws) (hG_xb : G xb = some (7, 0, 0)) (hM_xb : cIn ws xb (.inr (8, [.ref bs_o, .ref js_o, .int jc_o, .ref sh_o, .ref wk_o, va_rf mo_o, .ref ll_o, .int lc_o, va_rf lb_o]))) (hG_ou : G ou = some (1, 1, 0)) (hM_sh_o : cIn ws sh_o (.inl (cy 5, cqa 8 fb))) (hS9 : ∀ i9, i9 < 8 → shW cy G ws (fb i9) (sx i9) (sa i9) (kS9 i9) (tS9 i9)) : Yi l D cy A yL_weight wsL_weight ({ frames := 7, cells := 1, slots := 6, locals := 113 }) 1 6 ws [.ref xb, .int p0, .ref ou] (fun r0 u => cX none (chs [1]) G ws u.1 u.2 ∧ ((r0 = 1 ∧ ¬ okSh p0) ∨ (r0 = 2 ∧ okSh p0 ∧ ¬ kS9 p0.toNatClampNeg = 1) ∨ (r0 = 0 ∧ okSh p0 ∧ kS9 p0.toNatClampNeg = 1 ∧ ∃ w : Nat → Int64, cIn u.2 ou (.inl (cy 1, 1, .inr (.inl w))) ∧ w 0 = (tS9 p0.toNatClampNeg).toInt64))) := by
  refine va_MetW (cc := cL_weight) (maxL := 4) (ret := (some .int)) (by decide) rfl ?_
  intro p e s m args below meth c s₁ B hml hv
  obtain ⟨rfl, ⟨hP, hK, hA, hV⟩, hZ, hXT⟩ := hv
  have hx := B.exec
  have hb := B.bytes
  have hr := B.returns
  have hts := atoms_spec (ws := wsL_weight) B.pre
  have hown : s.vm.findClass RL = some m.cls := findClass_of_methodNamed B.named
  have hlocks := B.notSynchronized
  have htab := vx_table (x := yL_weight) B (hts (.codeWith yL_weight cL_weight 4 (some .int) [(0, 9, 12, 13), (0, 9, 15, 15)]) (by decide +kernel))
  have hS : va_S A s.heap s.heap [] := va_S.rf
  have hX : cX none (chs [1]) G ws G ws := cX.rf
  have hl := lv_entry ([.ref xb, .int p0, .ref ou]) (n := 4) (Nat.le_of_ble_eq_true rfl)
  rw [lg_entry_eq]
  generalize (lg_sl ([.ref xb, .int p0, .ref ou]) ++ List.replicate (4 - (lg_sl ([.ref xb, .int p0, .ref ou])).length) Slot.unset).toArray = ls at hl ⊢
  have hl : lv_has ls 4 [(0, .ref xb), (1, .int p0), (2, .ref ou)] := hl
  have k_0 : (0 : Int32).toInt = 0 := by decide
  have k_1 : (1 : Int32).toInt = 1 := by decide
  have k_2 : (2 : Int32).toInt = 2 := by decide
  obtain ⟨hjc_o, hlc_o, hG_bs_o, hG_js_o, hG_sh_o, hG_wk_o, hmo_o, hG_ll_o, hlb_o⟩ := w7sh hD hT hG_xb hM_xb
  have hf_sh_o := w10sh hD hT hG_sh_o hM_sh_o
  refine lv_aload_n hx hb dL_weight_0 rfl (lv_at hl 2 rfl) ?_
  refine lv_iconst (v := 0) hx hb dL_weight_1 (by decide) ?_
  refine lv_aload_n hx hb dL_weight_2 rfl (lv_at hl 0 rfl) ?_
  refine lv_iload_n hx hb dL_weight_3 rfl (lv_at hl 1 rfl) ?_
  refine x_calli (vx_runV (g := F0 m 4 ls ([.int p0, .ref xb, .int (0 : Int32), .ref ou])) (As := [.int p0]) (rest := [.int (0 : Int32), .ref ou]) ⟨hx, hb, hml, hown, hts⟩ (c_X9_weight_q l hst D cy A G ws xb p0 hD hT hG_xb hM_xb hM_sh_o hS9) (cwV 1 hts gL_weight_X9_weight rfl rfl rfl (by decide +kernel) ⟨Nat.le_of_ble_eq_true rfl, Nat.le_of_ble_eq_true rfl⟩) (x_preV hM_xb rfl hP hK hA hS hV hZ hXT) rfl rfl hl.1 rfl (lv_room (Nat.le_of_ble_eq_true rfl)) dL_weight_4 ⟨Nat.le_of_ble_eq_true rfl, Nat.le_of_ble_eq_true rfl⟩) hS (fun E9 ce9 q9 u H locs px9 pe9 hP9 hD9 hT9 hS hc9 hv9 hcl9 => ?_) (fun r4 u H locs q4 hP9 hD9 hT9 hS => ?_)
  · skip
    obtain rfl := px9
    have hP : va_P D vwCl ws H := hP9
    rcases pe9 with ⟨rfl, np9⟩ | ⟨rfl, np9⟩
    · skip
      refine vx_catch (own := RL) (name := xIA) (E := xIA) hown [] ⟨0, 9, 12, 13⟩ [⟨0, 9, 15, 15⟩] htab (fun z9 h9 => by simp at h9) (by decide) (by decide) (hts (.classLink RL 13 xIA) (by decide +kernel)) (hXT.1.2.1.use rfl) hc9 hv9 hcl9 ?_
      refine lv_astore_n (lv' := [(3, .ref q9), (0, .ref xb), (1, .int p0), (2, .ref ou)]) hx hb dL_weight_12 rfl hl (by decide) rfl (fun ls hl => ?_)
      refine lv_iconst (v := 1) hx hb dL_weight_13 (by decide) ?_
      refine W.widen (k := 1) (n := 6) (Nat.le_of_ble_eq_true rfl) (Nat.le_of_ble_eq_true rfl) ?_
      exact W.iret (v := (1 : Int32)) hx hb hr (fun t ht hW => ⟨⟨_, (G, ws), rfl, ⟨hX, Or.inl ⟨rfl, np9⟩⟩, by show va_P D vwCl ws t.heap; rw [ht]; exact hP, hD, hT⟩, hS.F ht⟩) hS.2.2 dL_weight_14
    · skip
      refine vx_catch (own := RL) (name := xIS) (E := xIS) hown [⟨0, 9, 12, 13⟩] ⟨0, 9, 15, 15⟩ [] htab (fun z9 h9 => by rcases List.mem_cons.mp h9 with rfl | h9; exact Or.inr ⟨by decide, xIA, hts (.classLink RL 13 xIA) (by decide +kernel), hXT.2.1.2.2.2⟩; simp at h9) (by decide) (by decide) (hts (.classLink RL 15 xIS) (by decide +kernel)) (hXT.1.2.2.1.use rfl) hc9 hv9 hcl9 ?_
      refine lv_astore_n (lv' := [(3, .ref q9), (0, .ref xb), (1, .int p0), (2, .ref ou)]) hx hb dL_weight_15 rfl hl (by decide) rfl (fun ls hl => ?_)
      refine lv_iconst (v := 2) hx hb dL_weight_16 (by decide) ?_
      refine W.widen (k := 1) (n := 6) (Nat.le_of_ble_eq_true rfl) (Nat.le_of_ble_eq_true rfl) ?_
      exact W.iret (v := (2 : Int32)) hx hb hr (fun t ht hW => ⟨⟨_, (G, ws), rfl, ⟨hX, Or.inr (Or.inl ⟨rfl, np9⟩)⟩, by show va_P D vwCl ws t.heap; rw [ht]; exact hP, hD, hT⟩, hS.F ht⟩) hS.2.2 dL_weight_17
  obtain ⟨rfl, q4⟩ := q4
  have hP : va_P D vwCl ws H := hP9
  refine lv_i2l (v := r4.toInt64) hx hb dL_weight_7 rfl ?_
  refine t_lastf hx hb hK hP hD hS hT hG_ou (vp_in_iff.mpr ⟨by omega, by omega⟩) dL_weight_8 (fun H locs w8 hU8 hc8 hP hD hT hS => ?_)
  have hM_xb := hU8 _ _ (cne hG_xb hG_ou (show (7 : Nat) ≠ 1 by decide)) hM_xb
  have hM_sh_o := hU8 _ _ (cne hG_sh_o hG_ou (show (10 : Nat) ≠ 1 by decide)) hM_sh_o
  have hX := hX.tr (cX.uF hU8 (Or.inr ⟨_, hG_ou, rfl⟩))
  refine lv_goto (tgt := 18) hx hb dL_weight_9 (by decide) ?_
  refine lv_iconst (v := 0) hx hb dL_weight_18 (by decide) ?_
  refine W.widen (k := 1) (n := 6) (Nat.le_of_ble_eq_true rfl) (Nat.le_of_ble_eq_true rfl) ?_
  exact W.iret (v := (0 : Int32)) hx hb hr (fun t ht hW => ⟨⟨_, (G, w8), rfl, ⟨hX, Or.inr (Or.inr ⟨rfl, q4.1, q4.2.1, (by obtain ⟨w, h1, h2⟩ := hc8; exact ⟨w, h1, (by have h3 : w 0 = _ := h2; rw [h3, q4.2.2])⟩)⟩)⟩, by show va_P D vwCl w8 t.heap; rw [ht]; exact hP, hD, hT⟩, hS.F ht⟩) hS.2.2 dL_weight_19
/-- longs of a row from a place on, set one after the other -/
def setQ (fs : Nat → Int64) (b : Nat) (g : Nat → Int64) (n : Nat) : Nat → Int64 := fun e => if b ≤ e ∧ e < b + n then g (e - b) else fs e
theorem setQ_0 (fs : Nat → Int64) (b : Nat) (g : Nat → Int64) : setQ fs b g 0 = fs := by
  funext e
  unfold setQ
  rw [if_neg (by omega)]
theorem setQ_s (fs : Nat → Int64) (b : Nat) (g : Nat → Int64) (n : Nat) : vp_updL (setQ fs b g n) (b + n) (g n) = setQ fs b g (n + 1) := by
  funext e
  unfold vp_updL setQ
  by_cases h : e = b + n
  · rw [if_pos h, if_pos (by omega), show e - b = n by omega]
  · rw [if_neg h]
    by_cases h2 : b ≤ e ∧ e < b + n
    · rw [if_pos h2, if_pos (by omega)]
    · rw [if_neg h2, if_neg (by omega)]
theorem setQ_v {fs : Nat → Int64} {b : Nat} {g : Nat → Int64} {n : Nat} {v : Int64} (h : v = g n) : vp_updL (setQ fs b g n) (b + n) v = setQ fs b g (n + 1) := by
  rw [h]
  exact setQ_s _ _ _ _
theorem setQ_in {fs : Nat → Int64} {b : Nat} {g : Nat → Int64} {n e : Nat} (h : e < n) : setQ fs b g n (b + e) = g e := by
  unfold setQ
  rw [if_pos (by omega), show b + e - b = e by omega]
theorem setQ_out {fs : Nat → Int64} {b : Nat} {g : Nat → Int64} {n e : Nat} (h : e < b ∨ b + n ≤ e) : setQ fs b g n e = fs e := by
  unfold setQ
  rw [if_neg (by omega)]


set_option maxHeartbeats 4000000 in
set_option maxRecDepth 100000 in
theorem c_X10_make_w (l : Launch) (D : va_G) (cy : Nat → ClassId) (mo : Nat) (a : Nat → Nat) (f : Nat → Int32) (g : Nat → Int64) (r : Nat → Nat → Int32) (q : Nat → Nat → Int64) (d : Int32) (what : Int32) (n1 : Int32) (hD : DM cy mo a) (hI : MI f r) : Mi l D cy mo a yX10_make wsX10_make ({ frames := 1, cells := 0, slots := 0, locals := 25 }) f g r q [.int d, .int what, .int n1] (fun r0 u => ∃ (sh : Nat → Int32), ∃ (sz : Nat → Int32), ∃ (sr : Nat → Int64), u = ((upd f 0 (0 : Int32)), g, (va_up (va_up r 29 sh) 30 sz), (va_up q 33 sr)) ∧ (r0 = mkAns d what n1 ∧ ((mkOk d what n1 ∧ sh = upd (r 29) d.toNatClampNeg what ∧ sz = upd (r 30) d.toNatClampNeg n1 ∧ sr = setQ (q 33) (60 * d.toNatClampNeg) (fun _ => 0) n1.toNatClampNeg) ∨ (¬ mkOk d what n1 ∧ sh = r 29 ∧ sz = r 30 ∧ sr = q 33)) ∧ MI (upd f 0 (0 : Int32)) (va_up (va_up r 29 sh) 30 sz))) := by
  refine Met.ofW (cc := cX10_make) (maxL := 5) (ret := (some .int)) (by decide) rfl ?_
  intro p e s m args below meth c s₁ B hml hv
  obtain ⟨rfl, hP, hK⟩ := hv
  have hx := B.exec
  have hb := B.bytes
  have hr := B.returns
  have hts := atoms_spec (ws := wsX10_make) B.pre
  have hin : ∀ w ∈ u_ws RX10 TX10 35, w ∈ wsX10_make := by decide +kernel
  have hown : s.vm.findClass RX10 = some m.cls := findClass_of_methodNamed B.named
  have hlocks := B.notSynchronized
  have hS : va_S (AM mo a) s.heap s.heap [] := va_S.rf
  have hl := lv_entry ([.ref mo, .int d, .int what, .int n1]) (n := 5) (Nat.le_of_ble_eq_true rfl)
  rw [lg_entry_eq]
  generalize (lg_sl ([.ref mo, .int d, .int what, .int n1]) ++ List.replicate (5 - (lg_sl ([.ref mo, .int d, .int what, .int n1])).length) Slot.unset).toArray = ls at hl ⊢
  have hl : lv_has ls 5 [(0, .ref mo), (1, .int d), (2, .int what), (3, .int n1)] := hl
  have k_m14 : (-14 : Int32).toInt = -14 := by decide
  have k_m1 : (-1 : Int32).toInt = -1 := by decide
  have k_0 : (0 : Int32).toInt = 0 := by decide
  have k_60 : (60 : Int32).toInt = 60 := by decide
  have k_0L : (0 : Int64).toInt = 0 := by decide
  have k_3L : (3 : Int64).toInt = 3 := by decide
  have k_4L : (4 : Int64).toInt = 4 := by decide
  refine lv_aload_n hx hb dX10_make_0 rfl (lv_at hl 0 rfl) ?_
  refine lv_iconst (v := 0) hx hb dX10_make_1 (by decide) ?_
  refine m_put (v := .int (0 : Int32)) (ty := .int) hx hb hts hin hown hK hP hD hS 0 (by decide) rfl (hts (.fieldLink RX10 79 "ShadowBenchModel" "thrown" "I") (by decide +kernel)) rfl (by decide +kernel) rfl rfl (upd f 0 (0 : Int32)) g rfl dX10_make_2 (fun H locs hP hS => ?_)
  refine lv_iload_n hx hb dX10_make_5 rfl (lv_at hl 1 rfl) ?_
  refine m_pu (As := [.int d]) (rest := []) ⟨hx, hb, hml, hown, hts⟩ (c_X10_isShelf l d ) (va_cwS 1 hts gX10_make_X10_isShelf rfl rfl rfl (by decide +kernel) ⟨Nat.le_of_ble_eq_true rfl, Nat.le_of_ble_eq_true rfl⟩) hP rfl hl.1 rfl (Nat.le_of_ble_eq_true rfl) dX10_make_6 ⟨Nat.le_of_ble_eq_true rfl, Nat.le_of_ble_eq_true rfl⟩ hS (fun r6 H locs q6 hP hS => ?_)
  refine lv_if_eq (tgt := 32) hx hb dX10_make_9 (by decide) (fun c9 => ?_) (fun c9 => ?_)
  · skip
    have b9 := bo_f q6 c9
    refine lv_iconst (v := (-1)) hx hb dX10_make_32 (by decide) ?_
    have hP := wm_eq rfl rfl (ec_r___29_30 r ) (ec_q___33 q ) hP
    exact W.iret (v := ((-1) : Int32)) hx hb hr (fun t ht hW => ⟨⟨_, ((upd f 0 (0 : Int32)), g, (va_up (va_up r 29 (r 29)) 30 (r 30)), (va_up q 33 (q 33))), rfl, ⟨(r 29), (r 30), (q 33), rfl, ⟨by unfold mkAns; split <;> (try split) <;> first | rfl | (exfalso; omega), (Or.inr ⟨(by unfold mkOk; omega), rfl, rfl, rfl⟩), by first | exact hI | exact mi_sz (d := d) hI (v := n1) (by omega) rfl rfl rfl rfl rfl rfl rfl rfl⟩⟩, by unfold mB; rw [ht]; exact hP⟩, hS.F ht⟩) hS.2.2 dX10_make_33
  · skip
    have b9 := bo_t q6 c9
    refine lv_iload_n hx hb dX10_make_12 rfl (lv_at hl 2 rfl) ?_
    refine lv_i2l (v := what.toInt64) hx hb dX10_make_13 rfl ?_
    refine lv_ldc2 hx hb hown (hts (.constantLong RX10 116 (3)) (by decide +kernel)) dX10_make_14 ?_
    refine lv_ldc2 hx hb hown (hts (.constantLong RX10 265 (4)) (by decide +kernel)) dX10_make_17 ?_
    refine m_pu (As := [.long (what.toInt64), .long (3 : Int64), .long (4 : Int64)]) (rest := []) ⟨hx, hb, hml, hown, hts⟩ (c_X10_isIn l what.toInt64 (3 : Int64) (4 : Int64) ) (va_cwS 3 hts gX10_make_X10_isIn rfl rfl rfl (by decide +kernel) ⟨Nat.le_of_ble_eq_true rfl, Nat.le_of_ble_eq_true rfl⟩) hP rfl hl.1 rfl (Nat.le_of_ble_eq_true rfl) dX10_make_20 ⟨Nat.le_of_ble_eq_true rfl, Nat.le_of_ble_eq_true rfl⟩ hS (fun r20 H locs q20 hP hS => ?_)
    have q20 := q20
    simp only [k64, show (0 : Int64).toInt = 0 from rfl, show (1 : Int64).toInt = 1 from rfl, show (2 : Int64).toInt = 2 from rfl, show (3 : Int64).toInt = 3 from rfl, show (6 : Int64).toInt = 6 from rfl] at q20
    refine lv_if_eq (tgt := 32) hx hb dX10_make_23 (by decide) (fun c23 => ?_) (fun c23 => ?_)
    · skip
      have b23 := bo_f q20 c23
      refine lv_iconst (v := (-1)) hx hb dX10_make_32 (by decide) ?_
      have hP := wm_eq rfl rfl (ec_r___29_30 r ) (ec_q___33 q ) hP
      exact W.iret (v := ((-1) : Int32)) hx hb hr (fun t ht hW => ⟨⟨_, ((upd f 0 (0 : Int32)), g, (va_up (va_up r 29 (r 29)) 30 (r 30)), (va_up q 33 (q 33))), rfl, ⟨(r 29), (r 30), (q 33), rfl, ⟨by unfold mkAns; split <;> (try split) <;> first | rfl | (exfalso; omega), (Or.inr ⟨(by unfold mkOk; omega), rfl, rfl, rfl⟩), by first | exact hI | exact mi_sz (d := d) hI (v := n1) (by omega) rfl rfl rfl rfl rfl rfl rfl rfl⟩⟩, by unfold mB; rw [ht]; exact hP⟩, hS.F ht⟩) hS.2.2 dX10_make_33
    · skip
      have b23 := bo_t q20 c23
      refine lv_iload_n hx hb dX10_make_26 rfl (lv_at hl 3 rfl) ?_
      refine lv_bipush (v := 60) hx hb dX10_make_27 (by decide) ?_
      refine lv_icmp_le (tgt := 34) hx hb dX10_make_29 (by decide) (fun c29 => ?_) (fun c29 => ?_)
      · skip
        have d29 := c29
        rw [fa_le] at d29
        refine lv_iload_n hx hb dX10_make_34 rfl (lv_at hl 3 rfl) ?_
        refine lv_if_ge (tgt := 41) hx hb dX10_make_35 (by decide) (fun c35 => ?_) (fun c35 => ?_)
        · skip
          have d35 := c35
          rw [fa_le] at d35
          refine lv_aload_n hx hb dX10_make_41 rfl (lv_at hl 0 rfl) ?_
          refine m_get (v := .ref (a 29)) hx hb hts hin hown hK hP 29 (by decide) rfl (hts (.fieldLink RX10 61 "ShadowBenchModel" "shelf" "[I") (by decide +kernel)) rfl dX10_make_42 ?_
          refine lv_iload_n hx hb dX10_make_45 rfl (lv_at hl 1 rfl) ?_
          refine lv_iload_n hx hb dX10_make_46 rfl (lv_at hl 2 rfl) ?_
          refine m_iast (w := (r 29)) hx hb hK hP hD hS 17 rfl (vp_in_iff.mpr ⟨by omega, by omega⟩) (va_up r 29 (upd (r 29) d.toNatClampNeg what)) (ms_29 cy mo a _ _ _ _ _) dX10_make_47 (fun H locs hP hS => ?_)
          refine lv_aload_n hx hb dX10_make_48 rfl (lv_at hl 0 rfl) ?_
          refine m_get (v := .ref (a 30)) hx hb hts hin hown hK hP 30 (by decide) rfl (hts (.fieldLink RX10 64 "ShadowBenchModel" "shelfSize" "[I") (by decide +kernel)) rfl dX10_make_49 ?_
          refine lv_iload_n hx hb dX10_make_52 rfl (lv_at hl 1 rfl) ?_
          refine lv_iload_n hx hb dX10_make_53 rfl (lv_at hl 3 rfl) ?_
          refine m_iast (w := (r 30)) hx hb hK hP hD hS 18 rfl (vp_in_iff.mpr ⟨by omega, by omega⟩) (va_up (va_up r 29 ((upd (r 29) d.toNatClampNeg what))) 30 (upd (r 30) d.toNatClampNeg n1)) (ms_30 cy mo a _ _ _ _ _) dX10_make_54 (fun H locs hP hS => ?_)
          refine lv_iconst (v := 0) hx hb dX10_make_55 (by decide) ?_
          refine lv_istore (lv' := [(4, .int (0 : Int32)), (0, .ref mo), (1, .int d), (2, .int what), (3, .int n1)]) hx hb dX10_make_56 hl (by decide) rfl (fun ls hl => ?_)
          have loop_58 : ∀ (n : Nat) (i : Nat) (s3 : Nat → Int64), (i ≤ 60 ∧ (i : Int) ≤ n1.toInt) → (s3 = setQ (q 33) (60 * d.toNatClampNeg) (fun _ => 0) i) → 60 - i < n → ∀ (H : Heap) (locs : List Loc), va_P D vwCl (WM cy mo a (upd f 0 (0 : Int32)) g (va_up (va_up r 29 ((upd (r 29) d.toNatClampNeg what))) 30 ((upd (r 30) d.toNatClampNeg n1))) (va_up q 33 s3)) H → va_S (AM mo a) s.heap H locs → ∀ (ls : Array Slot), lv_has ls 5 [(4, .int (nI i)), (0, .ref mo), (1, .int d), (2, .int what), (3, .int n1)] → W p l e (headSpec wsX10_make ({ frames := 1, cells := 0, slots := 0, locals := 25 })).room s m #[Value.ref mo, Value.int d, Value.int what, Value.int n1] below meth c H locs 0 0 (MQ below (va_Qi (fun r0 u => ∃ (sh : Nat → Int32), ∃ (sz : Nat → Int32), ∃ (sr : Nat → Int64), u = ((upd f 0 (0 : Int32)), g, (va_up (va_up r 29 sh) 30 sz), (va_up q 33 sr)) ∧ (r0 = mkAns d what n1 ∧ ((mkOk d what n1 ∧ sh = upd (r 29) d.toNatClampNeg what ∧ sz = upd (r 30) d.toNatClampNeg n1 ∧ sr = setQ (q 33) (60 * d.toNatClampNeg) (fun _ => 0) n1.toNatClampNeg) ∨ (¬ mkOk d what n1 ∧ sh = r 29 ∧ sz = r 30 ∧ sr = q 33)) ∧ MI (upd f 0 (0 : Int32)) (va_up (va_up r 29 sh) 30 sz))) (mB D cy mo a) (AM mo a)) #[Value.ref mo, Value.int d, Value.int what, Value.int n1] s 0 0 (AM mo a)) (F0 m 58 ls []) := by
            intro n
            induction n with
            | zero => intro i s3 j58_0 j58_1 hn; exact absurd hn (Nat.not_lt_zero _)
            | succ n ih_58 =>
              intro i s3 j58_0 j58_1 hn_58 H locs hP hS ls hl
              have ii : (nI i).toInt = (i : Int) := nI_toInt (by omega)
              refine lv_iload hx hb dX10_make_58 (lv_at hl 0 rfl) ?_
              refine lv_iload_n hx hb dX10_make_60 rfl (lv_at hl 4 rfl) ?_
              refine lv_icmp_ge (tgt := 83) hx hb dX10_make_61 (by decide) (fun c61 => ?_) (fun c61 => ?_)
              · skip
                have d61 := c61
                rw [fa_le] at d61
                refine lv_iconst (v := 0) hx hb dX10_make_83 (by decide) ?_
                have hP := wm_eq rfl rfl (ec_r_29_30__29_30 r ((upd (r 29) d.toNatClampNeg what)) ((upd (r 30) d.toNatClampNeg n1))) rfl hP
                exact W.iret (v := (0 : Int32)) hx hb hr (fun t ht hW => ⟨⟨_, ((upd f 0 (0 : Int32)), g, (va_up (va_up r 29 (((upd (r 29) d.toNatClampNeg what)))) 30 (((upd (r 30) d.toNatClampNeg n1)))), (va_up q 33 s3)), rfl, ⟨((upd (r 29) d.toNatClampNeg what)), ((upd (r 30) d.toNatClampNeg n1)), s3, rfl, ⟨by unfold mkAns; split <;> (try split) <;> first | rfl | (exfalso; omega), (Or.inl ⟨(by unfold mkOk; omega), rfl, rfl, (by have c9 := m_cl (x := n1) (by omega); rw [j58_1, show i = n1.toNatClampNeg by omega])⟩), by first | exact hI | exact mi_sz (d := d) hI (v := n1) (by omega) rfl rfl rfl rfl rfl rfl rfl rfl⟩⟩, by unfold mB; rw [ht]; exact hP⟩, hS.F ht⟩) hS.2.2 dX10_make_84
              · skip
                have d61 := c61
                rw [fa_le] at d61
                refine lv_aload_n hx hb dX10_make_64 rfl (lv_at hl 1 rfl) ?_
                refine m_get (v := .ref (a 33)) hx hb hts hin hown hK hP 33 (by decide) rfl (hts (.fieldLink RX10 73 "ShadowBenchModel" "shelfRow" "[J") (by decide +kernel)) rfl dX10_make_65 ?_
                refine lv_bipush (v := 60) hx hb dX10_make_68 (by decide) ?_
                refine lv_iload_n hx hb dX10_make_70 rfl (lv_at hl 2 rfl) ?_
                refine lv_imul hx hb dX10_make_71 ?_
                refine lv_topi (fun v71 e71 => ?_)
                have i71 : v71.toInt = 60 * d.toInt := by rw [e71]; exact mulcL rfl (by omega) (by omega)
                refine lv_iload hx hb dX10_make_72 (lv_at hl 0 rfl) ?_
                refine lv_iadd hx hb dX10_make_74 ?_
                refine lv_topi (fun v74 e74 => ?_)
                have i74 : v74.toInt = v71.toInt + (nI i).toInt := by rw [e74]; exact fb_addI (by omega) (by omega)
                refine lv_lconst (v := 0) hx hb dX10_make_75 (by decide) ?_
                have cd9 := m_cl (x := d) (by omega)
                have cv9 := m_cl (x := v74) (by omega)
                have f74 : v74.toNatClampNeg = 60 * d.toNatClampNeg + i := by omega
                refine m_last (w := s3) hx hb hK hP hD hS 21 rfl (vp_in_iff.mpr ⟨by omega, by omega⟩) (va_up (va_up q 33 s3) 33 (vp_updL s3 v74.toNatClampNeg (0 : Int64))) (ms_33 cy mo a _ _ _ _ _) dX10_make_76 (fun H locs hP hS => ?_)
                have hP := wm_eq rfl rfl rfl (es_q_33__33 q s3 (vp_updL s3 v74.toNatClampNeg (0 : Int64))) hP
                refine lv_iinc (v := (nI (i + 1))) (lv' := [(4, .int (nI (i + 1))), (0, .ref mo), (1, .int d), (2, .int what), (3, .int n1)]) hx hb dX10_make_77 hl (k := 0) rfl (nI_1 _) (by decide) rfl (fun ls hl => ?_)
                refine lv_goto (tgt := 58) hx hb dX10_make_80 (by decide) ?_
                have hP := wm_eq rfl rfl (ec_r_29_30__29_30 r ((upd (r 29) d.toNatClampNeg what)) ((upd (r 30) d.toNatClampNeg n1))) (ec_q_33__33 q ((vp_updL s3 v74.toNatClampNeg (0 : Int64)))) hP
                exact ih_58 (i + 1) (((vp_updL s3 v74.toNatClampNeg (0 : Int64)))) (by omega) (by rw [j58_1, f74]; exact setQ_s _ _ _ _) (by omega) _ _ hP hS ls (lv_sub hl [0, 1, 2, 3, 4] rfl)
          have hP := wm_eq rfl rfl (ec_r_29_30__29_30 r ((upd (r 29) d.toNatClampNeg what)) ((upd (r 30) d.toNatClampNeg n1))) (ec_q___33 q ) hP
          exact loop_58 (60 + 1) 0 (q 33) (by omega) ((setQ_0 _ _ _).symm) (by omega) _ _ hP hS ls (lv_sub hl [0, 1, 2, 3, 4] rfl)
        · skip
          have d35 := c35
          rw [fa_le] at d35
          refine lv_bipush (v := (-14)) hx hb dX10_make_38 (by decide) ?_
          have hP := wm_eq rfl rfl (ec_r___29_30 r ) (ec_q___33 q ) hP
          exact W.iret (v := ((-14) : Int32)) hx hb hr (fun t ht hW => ⟨⟨_, ((upd f 0 (0 : Int32)), g, (va_up (va_up r 29 (r 29)) 30 (r 30)), (va_up q 33 (q 33))), rfl, ⟨(r 29), (r 30), (q 33), rfl, ⟨by unfold mkAns; split <;> (try split) <;> first | rfl | (exfalso; omega), (Or.inr ⟨(by unfold mkOk; omega), rfl, rfl, rfl⟩), by first | exact hI | exact mi_sz (d := d) hI (v := n1) (by omega) rfl rfl rfl rfl rfl rfl rfl rfl⟩⟩, by unfold mB; rw [ht]; exact hP⟩, hS.F ht⟩) hS.2.2 dX10_make_40
      · skip
        have d29 := c29
        rw [fa_le] at d29
        refine lv_iconst (v := (-1)) hx hb dX10_make_32 (by decide) ?_
        have hP := wm_eq rfl rfl (ec_r___29_30 r ) (ec_q___33 q ) hP
        exact W.iret (v := ((-1) : Int32)) hx hb hr (fun t ht hW => ⟨⟨_, ((upd f 0 (0 : Int32)), g, (va_up (va_up r 29 (r 29)) 30 (r 30)), (va_up q 33 (q 33))), rfl, ⟨(r 29), (r 30), (q 33), rfl, ⟨by unfold mkAns; split <;> (try split) <;> first | rfl | (exfalso; omega), (Or.inr ⟨(by unfold mkOk; omega), rfl, rfl, rfl⟩), by first | exact hI | exact mi_sz (d := d) hI (v := n1) (by omega) rfl rfl rfl rfl rfl rfl rfl rfl⟩⟩, by unfold mB; rw [ht]; exact hP⟩, hS.F ht⟩) hS.2.2 dX10_make_33
