
/-- what far answers -/
def faA (w h : Int32) (p q : Int64) (x : Int32) : Prop := (¬ (goodP w h p ∧ goodP w h q) ∧ x = -1) ∨ ((goodP w h p ∧ goodP w h q) ∧ ((¬ (alike w.toNatClampNeg h.toNatClampNeg p q 0 ∧ alike w.toNatClampNeg h.toNatClampNeg p q 1) ∧ x = -2) ∨ ((alike w.toNatClampNeg h.toNatClampNeg p q 0 ∧ alike w.toNatClampNeg h.toNatClampNeg p q 1) ∧ ((p = q ∧ x = 0) ∨ (¬ p = q ∧ farR w.toNatClampNeg h.toNatClampNeg p q x.toInt)))))
theorem faA_eq {w h : Int32} {p q : Int64} {x y : Int32} (hx : faA w h p q x) (hy : faA w h p q y) : x = y := by
  rcases hx with ⟨a, b⟩ | ⟨a, b⟩ <;> rcases hy with ⟨c, d⟩ | ⟨c, d⟩
  · rw [b, d]
  · exact absurd c a
  · exact absurd a c
  · rcases b with ⟨b1, b2⟩ | ⟨b1, b2⟩ <;> rcases d with ⟨d1, d2⟩ | ⟨d1, d2⟩
    · rw [b2, d2]
    · exact absurd d1 b1
    · exact absurd b1 d1
    · rcases b2 with ⟨b3, b4⟩ | ⟨b3, b4⟩ <;> rcases d2 with ⟨d3, d4⟩ | ⟨d3, d4⟩
      · rw [b4, d4]
      · exact absurd b3 d3
      · exact absurd d3 b3
      · exact Int32.toInt_inj.mp (farR_eq b4 d4)
theorem k01 : ∀ k, k < 4 → gB 3 k = 1 → k = 0 ∨ k = 1 := by decide
theorem hiZ_p {w h : Nat} {p : Int64} (hb : w * h ≤ 36) (hp : isPic (w * h) p) : hiZ w h p := fun i h1 _ => pic_hi hb hp h1
set_option maxHeartbeats 4000000 in
set_option maxRecDepth 100000 in
theorem c_X9_far_x (l : Launch) (D : va_G) (cy : Nat → ClassId) (A : Nat → Prop) (G : cG) (ws : va_W) (o : Nat) (wide : Int32) (high : Int32) (p0 : Int64) (p1 : Int64) {bs_o js_o sh_o wk_o ll_o : Nat} {jc_o lc_o : Int32} {mo_o lb_o : Option Nat} (hD : va_D A ws) (hT : cT cy G ws) (hG_o : G o = some (7, 0, 0)) (hM_o : cIn ws o (.inr (8, [.ref bs_o, .ref js_o, .int jc_o, .ref sh_o, .ref wk_o, va_rf mo_o, .ref ll_o, .int lc_o, va_rf lb_o])))  : MetV l yX9_far wsX9_far ({ frames := 5, cells := 7, slots := 53273, locals := 126 }) (cPc D cy A ws [.ref o, .int wide, .int high, .long p0, .long p1]) (fun k n => va_Qi (fun r0 u => cX none (chs [0, 1, 6, 7, 8]) G ws u.1 u.2 ∧ (((k = 4 ∧ n = 502 ∧ cIn u.2 o (.inr (8, [.ref bs_o, .ref js_o, .int jc_o, .ref sh_o, .ref wk_o, va_rf mo_o, .ref ll_o, .int lc_o, va_rf lb_o]))) ∨ (k = 7 ∧ n = 53273 ∧ mo_o = none ∧ ∃ x, cIn u.2 o (.inr (8, [.ref bs_o, .ref js_o, .int jc_o, .ref sh_o, .ref wk_o, .ref x, .ref ll_o, .int lc_o, va_rf lb_o])))) ∧ faA wide high p0 p1 r0)) (cB D cy A) A) A := by
  refine MetV.ofW (cc := cX9_far) (maxL := 8) (ret := (some .int)) (by decide) rfl ?_
  intro p e s m args below meth c s₁ B hml hv
  obtain ⟨rfl, hP, hK, hA, hV⟩ := hv
  have hx := B.exec
  have hb := B.bytes
  have hr := B.returns
  have hts := atoms_spec (ws := wsX9_far) B.pre
  have hown : s.vm.findClass RX9 = some m.cls := findClass_of_methodNamed B.named
  have hlocks := B.notSynchronized
  have hS : va_S A s.heap s.heap [] := va_S.rf
  have hX : cX none (chs [0, 1, 6, 7, 8]) G ws G ws := cX.rf
  have hl := lv_entry ([.ref o, .int wide, .int high, .long p0, .long p1]) (n := 8) (Nat.le_of_ble_eq_true rfl)
  rw [lg_entry_eq]
  generalize (lg_sl ([.ref o, .int wide, .int high, .long p0, .long p1]) ++ List.replicate (8 - (lg_sl ([.ref o, .int wide, .int high, .long p0, .long p1])).length) Slot.unset).toArray = ls at hl ⊢
  have hl : lv_has ls 8 [(0, .ref o), (1, .int wide), (2, .int high), (3, .long p0), (5, .long p1)] := hl
  have k_m2 : (-2 : Int32).toInt = -2 := by decide
  have k_m1 : (-1 : Int32).toInt = -1 := by decide
  have k_0 : (0 : Int32).toInt = 0 := by decide
  have k_3 : (3 : Int32).toInt = 3 := by decide
  obtain ⟨hjc_o, hlc_o, hG_bs_o, hG_js_o, hG_sh_o, hG_wk_o, hmo_o, hG_ll_o, hlb_o⟩ := w7sh hD hT hG_o hM_o
  refine lv_aload_n hx hb dX9_far_0 rfl (lv_at hl 0 rfl) ?_
  refine lv_iload_n hx hb dX9_far_1 rfl (lv_at hl 1 rfl) ?_
  refine lv_iload_n hx hb dX9_far_2 rfl (lv_at hl 2 rfl) ?_
  refine t_calla (va_runV (g := F0 m 3 ls ([.int high, .int wide, .ref o])) (As := [.int wide, .int high]) (rest := []) ⟨hx, hb, hml, hown, hts⟩ (c_X9_boardOf_x l D cy A G ws o wide high hD hT hG_o ) (cwV 2 hts gX9_far_X9_boardOf rfl rfl rfl (by decide +kernel) ⟨Nat.le_of_ble_eq_true rfl, Nat.le_of_ble_eq_true rfl⟩) (c_preV hM_o rfl hP hK hA hS hV) rfl rfl hl.1 rfl (lv_room (Nat.le_of_ble_eq_true rfl)) dX9_far_3 ⟨Nat.le_of_ble_eq_true rfl, Nat.le_of_ble_eq_true rfl⟩) hS (fun r3 u H locs q3 hP9 hD9 hT9 hS => ?_)
  obtain ⟨G3, w3⟩ := u
  obtain ⟨hX9, q3⟩ := q3
  have hX9 : cX none (chs [1, 8]) G ws G3 w3 := hX9
  have hP : va_P D vwCl w3 H := hP9
  have hD : va_D A w3 := hD9
  have hT : cT cy G3 w3 := hT9
  have hM_o := hX9.2.1 _ _ (cP.no hG_o rfl) hM_o
  have hG_o := hX9.1 _ _ hG_o
  have hG_bs_o := hX9.1 _ _ hG_bs_o
  have hG_js_o := hX9.1 _ _ hG_js_o
  have hG_sh_o := hX9.1 _ _ hG_sh_o
  have hG_wk_o := hX9.1 _ _ hG_wk_o
  have hG_ll_o := hX9.1 _ _ hG_ll_o
  have hmo_o := fun x9 z9 => hX9.1 _ _ (hmo_o x9 z9)
  have hlb_o : ∀ x9, lb_o = some x9 → ∃ w9 h9, _ = some (2, w9, h9) := fun x9 z9 => (hlb_o x9 z9).elim fun w9 z9 => z9.elim fun h9 z9 => ⟨w9, h9, hX9.1 _ _ z9⟩
  have hX := hX.tr (hX9.wk (chs_sub (by decide)))
  rcases r3 with _ | x3
  · skip
    have vn3 := q3.2.1 rfl
    refine lv_astoreN (lv' := [(7, .null), (0, .ref o), (1, .int wide), (2, .int high), (3, .long p0), (5, .long p1)]) hx hb dX9_far_6 hl (by decide) rfl (fun ls hl => ?_)
    refine lv_aloadN hx hb dX9_far_8 (lv_at hl 0 rfl) ?_
    refine lv_ifnullN (tgt := 32) hx hb dX9_far_10 (by decide) ?_
    refine lv_iconst (v := (-1)) hx hb dX9_far_32 (by decide) ?_
    refine W.toV (k := 4) (n := 502) ?_
    refine W.widen (k := 4) (n := 502) (Nat.le_of_ble_eq_true rfl) (Nat.le_of_ble_eq_true rfl) ?_
    exact W.iret (v := ((-1) : Int32)) hx hb hr (fun t ht hW => ⟨⟨_, (G3, w3), rfl, ⟨hX, ⟨(Or.inl ⟨rfl, rfl, (by first | exact hM_o | (rw [hopt]; exact hM_o))⟩), (Or.inl ⟨(fun z9 => by first | exact vn3 z9.1.1 | exact b19 z9.1.2 | exact b29 z9.2.2), rfl⟩)⟩⟩, by show va_P D vwCl w3 t.heap; rw [ht]; exact hP, hD, hT⟩, hS.F ht⟩) hS.2.2 dX9_far_33
  · skip
    have hG_x3 := q3.1 x3 rfl
    have vb3 := q3.2.2 x3 rfl
    refine lv_astore (lv' := [(7, .ref x3), (0, .ref o), (1, .int wide), (2, .int high), (3, .long p0), (5, .long p1)]) hx hb dX9_far_6 hl (by decide) rfl (fun ls hl => ?_)
    refine lv_aload hx hb dX9_far_8 (lv_at hl 0 rfl) ?_
    refine lv_ifnull hx hb dX9_far_10 ?_
    refine lv_aload hx hb dX9_far_13 (lv_at hl 0 rfl) ?_
    refine lv_lload_n hx hb dX9_far_15 rfl (lv_at hl 4 rfl) ?_
    obtain ⟨_, hM_x3, hb_x3, l_x3, f_x3, r_x3, rfl, hG_l_x3, hG_f_x3, hG_r_x3⟩ := hT _ _ hG_x3
    refine t_calli (va_runV (g := F0 m 16 ls ([.long p0, .ref x3])) (As := [.long p0]) (rest := []) ⟨hx, hb, hml, hown, hts⟩ (c_X0_isPicture_x l D cy A G3 w3 x3 p0 hD hT hG_x3 ) (cwV 1 hts gX9_far_X0_isPicture rfl rfl rfl (by decide +kernel) ⟨Nat.le_of_ble_eq_true rfl, Nat.le_of_ble_eq_true rfl⟩) (c_preV hM_x3 rfl hP hK hA hS hV) rfl rfl hl.1 rfl (lv_room (Nat.le_of_ble_eq_true rfl)) dX9_far_16 ⟨Nat.le_of_ble_eq_true rfl, Nat.le_of_ble_eq_true rfl⟩) hS (fun r16 u H locs q16 hP9 hD9 hT9 hS => ?_)
    obtain ⟨rfl, q16⟩ := q16
    have hP : va_P D vwCl w3 H := hP9
    refine lv_if_eq (tgt := 32) hx hb dX9_far_19 (by decide) (fun c19 => ?_) (fun c19 => ?_)
    · skip
      have b19 := bo_f q16 c19
      refine lv_iconst (v := (-1)) hx hb dX9_far_32 (by decide) ?_
      refine W.toV (k := 4) (n := 502) ?_
      refine W.widen (k := 4) (n := 502) (Nat.le_of_ble_eq_true rfl) (Nat.le_of_ble_eq_true rfl) ?_
      exact W.iret (v := ((-1) : Int32)) hx hb hr (fun t ht hW => ⟨⟨_, (G3, w3), rfl, ⟨hX, ⟨(Or.inl ⟨rfl, rfl, (by first | exact hM_o | (rw [hopt]; exact hM_o))⟩), (Or.inl ⟨(fun z9 => by first | exact vn3 z9.1.1 | exact b19 z9.1.2 | exact b29 z9.2.2), rfl⟩)⟩⟩, by show va_P D vwCl w3 t.heap; rw [ht]; exact hP, hD, hT⟩, hS.F ht⟩) hS.2.2 dX9_far_33
    · skip
      have b19 := bo_t q16 c19
      refine lv_aload hx hb dX9_far_22 (lv_at hl 0 rfl) ?_
      refine lv_lload hx hb dX9_far_24 (lv_at hl 5 rfl) ?_
      refine t_calli (va_runV (g := F0 m 26 ls ([.long p1, .ref x3])) (As := [.long p1]) (rest := []) ⟨hx, hb, hml, hown, hts⟩ (c_X0_isPicture_x l D cy A G3 w3 x3 p1 hD hT hG_x3 ) (cwV 1 hts gX9_far_X0_isPicture rfl rfl rfl (by decide +kernel) ⟨Nat.le_of_ble_eq_true rfl, Nat.le_of_ble_eq_true rfl⟩) (c_preV hM_x3 rfl hP hK hA hS hV) rfl rfl hl.1 rfl (lv_room (Nat.le_of_ble_eq_true rfl)) dX9_far_26 ⟨Nat.le_of_ble_eq_true rfl, Nat.le_of_ble_eq_true rfl⟩) hS (fun r26 u H locs q26 hP9 hD9 hT9 hS => ?_)
      obtain ⟨rfl, q26⟩ := q26
      have hP : va_P D vwCl w3 H := hP9
      refine lv_if_ne (tgt := 34) hx hb dX9_far_29 (by decide) (fun c29 => ?_) (fun c29 => ?_)
      · skip
        have b29 := bo_t q26 c29
        refine lv_aload hx hb dX9_far_34 (lv_at hl 0 rfl) ?_
        refine lv_lload_n hx hb dX9_far_36 rfl (lv_at hl 4 rfl) ?_
        refine lv_lload hx hb dX9_far_37 (lv_at hl 5 rfl) ?_
        refine lv_iconst (v := 3) hx hb dX9_far_39 (by decide) ?_
        refine t_calli (va_runV (g := F0 m 40 ls ([.int (3 : Int32), .long p1, .long p0, .ref x3])) (As := [.long p0, .long p1, .int (3 : Int32)]) (rest := []) ⟨hx, hb, hml, hown, hts⟩ (c_X0_firstUnlikeWay_x l D cy A G3 w3 x3 p0 p1 (3 : Int32) hD hT hG_x3 ) (cwV 3 hts gX9_far_X0_firstUnlikeWay rfl rfl rfl (by decide +kernel) ⟨Nat.le_of_ble_eq_true rfl, Nat.le_of_ble_eq_true rfl⟩) (c_preV hM_x3 rfl hP hK hA hS hV) rfl rfl hl.1 rfl (lv_room (Nat.le_of_ble_eq_true rfl)) dX9_far_40 ⟨Nat.le_of_ble_eq_true rfl, Nat.le_of_ble_eq_true rfl⟩) hS (fun r40 u H locs q40 hP9 hD9 hT9 hS => ?_)
        obtain ⟨rfl, q40⟩ := q40
        have hP : va_P D vwCl w3 H := hP9
        refine lv_if_lt (tgt := 49) hx hb dX9_far_43 (by decide) (fun c43 => ?_) (fun c43 => ?_)
        · skip
          have d43 := c43
          rw [fa_lt] at d43
          have al9 : alike wide.toNatClampNeg high.toNatClampNeg p0 p1 0 ∧ alike wide.toNatClampNeg high.toNatClampNeg p0 p1 1 := by rcases q40 with ⟨k9, h9, e9, z9⟩ | ⟨e9, z9⟩; (exfalso; have z8 : (nI k9).toInt = (k9 : Int) := nI_toInt (by omega); rw [e9] at d43; omega); exact ⟨Classical.byContradiction fun y9 => z9 0 (by omega) ⟨by decide, y9⟩, Classical.byContradiction fun y9 => z9 1 (by omega) ⟨by decide, y9⟩⟩
          have m36_9 := (wh36 vb3.1 vb3.2).2.2.1
          refine lv_lload_n hx hb dX9_far_49 rfl (lv_at hl 4 rfl) ?_
          refine lv_lload hx hb dX9_far_50 (lv_at hl 5 rfl) ?_
          refine W.lcmp hx hb dX9_far_52 ?_
          refine lv_if_ne (tgt := 58) hx hb dX9_far_53 (by decide) (fun c53 => ?_) (fun c53 => ?_)
          · skip
            have d53 := c53
            rw [lg_cmp_eq, fa_eq64] at d53
            refine lv_aload_n hx hb dX9_far_58 rfl (lv_at hl 1 rfl) ?_
            have hoq : mo_o = none ∨ ∃ x, mo_o = some x := by cases mo_o; exact Or.inl rfl; exact Or.inr ⟨_, rfl⟩
            rcases hoq with hopt | ⟨x59, hopt⟩
            · skip
              rw [hopt] at hM_o
              have hM_o : cIn w3 o (.inr (8, [.ref bs_o, .ref js_o, .int jc_o, .ref sh_o, .ref wk_o, .null, .ref ll_o, .int lc_o, va_rf lb_o])) := hM_o
              refine t_get (v := .null) (C := RX9) (T := TX9) (N := 9) hx hb hts (by decide +kernel) hown hK hP hM_o rfl 5 (by decide) (hts (.fieldLink RX9 38 "ShadowBench" "meetings" "LShadowBench$Meetings;") (by decide +kernel)) (fun _ h9 => h9) rfl dX9_far_59 ?_
              refine lv_ifnonnullN hx hb dX9_far_62 ?_
              refine lv_aload_n hx hb dX9_far_65 rfl (lv_at hl 1 rfl) ?_
              refine t_new (C := RX6) (T := TX6) (N := 3) (ci := 5) (ty0 := tyX6) (fs := [.null, .int 0, .null]) hx hb hts (by decide +kernel) tyX6_ok hown (hts (.classLink RX9 187 RX6) (by decide +kernel)) (hts (.instantiable RX6 3) (by decide +kernel)) (hts (.initialized RX6) (by decide +kernel)) hK hP hD hS hA hT rfl (by decide +kernel) (Nat.le_of_ble_eq_true rfl) (Nat.le_of_ble_eq_true rfl) dX9_far_66 (fun q66 H w66 hM_q66 hO_q66 hF66 hX66 hk66 hP hD hT hS => ?_)
              have hN_q66 := hX.new0 hO_q66 hF66
              have hM_o := hk66 _ _ hM_o
              have hM_x3 := hk66 _ _ hM_x3
              have hX := hX.tr (hX66 _ _)
              refine lv_dup hx hb dX9_far_69 rfl ?_
              refine t_callv (va_runIN (g := F0 m 70 ls ([.ref q66, .ref q66, .ref o])) (As := []) (rest := [.ref q66, .ref o]) (b := q66) ⟨hx, hb, hml, hown, hts⟩ (c_X6_init l D cy A G3 w66 q66 hD hT hO_q66 hM_q66 ) ⟨va_cnB 0 hts gX9_far_X6_init_n189 rfl rfl rfl hV.1.2.2.1 (hts (.initialized RX6) (by decide +kernel)) (by decide +kernel) ⟨Nat.le_of_ble_eq_true rfl, Nat.le_of_ble_eq_true rfl⟩, rfl, hts (.instanceMethod yX6_init) (by decide +kernel)⟩ (c_preS hP hK hA hS hV) rfl rfl hl.1 rfl (lv_room (Nat.le_of_ble_eq_true rfl)) dX9_far_70 ⟨Nat.le_of_ble_eq_true rfl, Nat.le_of_ble_eq_true rfl⟩) hS (fun u H locs q70 hP9 hD9 hT9 hS => ?_)
              obtain ⟨G70, w70⟩ := u
              obtain ⟨hX9, q70⟩ := q70
              have hX9 : cX (some q66) (chs []) G3 w66 G70 w70 := hX9
              have hP : va_P D vwCl w70 H := hP9
              have hD : va_D A w70 := hD9
              have hT : cT cy G70 w70 := hT9
              have hM_o := hX9.2.1 _ _ (cP.no1 (Ne.symm (cne0 hO_q66 hG_o)) hG_o rfl) hM_o
              have hM_x3 := hX9.2.1 _ _ (cP.no1 (Ne.symm (cne0 hO_q66 hG_x3)) hG_x3 rfl) hM_x3
              have hG_o := hX9.1 _ _ hG_o
              have hG_bs_o := hX9.1 _ _ hG_bs_o
              have hG_js_o := hX9.1 _ _ hG_js_o
              have hG_sh_o := hX9.1 _ _ hG_sh_o
              have hG_wk_o := hX9.1 _ _ hG_wk_o
              have hG_ll_o := hX9.1 _ _ hG_ll_o
              have hG_x3 := hX9.1 _ _ hG_x3
              have hG_l_x3 := hX9.1 _ _ hG_l_x3
              have hG_f_x3 := hX9.1 _ _ hG_f_x3
              have hG_r_x3 := hX9.1 _ _ hG_r_x3
              have hlb_o : ∀ x9, lb_o = some x9 → ∃ w9 h9, _ = some (2, w9, h9) := fun x9 z9 => (hlb_o x9 z9).elim fun w9 z9 => z9.elim fun h9 z9 => ⟨w9, h9, hX9.1 _ _ z9⟩
              have hG_q66 : G70 q66 = some (6, 0, 0) := q70.1
              have q70 := q70.2
              have hX := hX.trN hN_q66 (hX9.wk (chs_sub (by decide)))
              refine t_put (v := .ref q66) (C := RX9) (T := TX9) (N := 9) (ty0 := tyX9) hx hb hts (by decide +kernel) tyX9_ok nmX9 hown hK hP hD hS hM_o rfl 5 (by decide) (hts (.fieldLink RX9 38 "ShadowBench" "meetings" "LShadowBench$Meetings;") (by decide +kernel)) (fun _ h9 => h9) rfl rfl rfl (Nat.le_of_ble_eq_true rfl) dX9_far_73 (fun H locs w73 hU73 hP hD hS => ?_)
              have hM_x3 := hU73.2 _ _ (cne hG_x3 hG_o (show (2 : Nat) ≠ 7 by decide)) hM_x3
              have hT := hT.up hU73 hG_o ⟨_, _, _, _, _, _, _, (some q66), lb_o, rfl, ⟨by omega, by omega⟩, ⟨by omega, by omega⟩, hG_bs_o, hG_js_o, hG_sh_o, hG_wk_o, (fun _ z => Option.some.inj z ▸ hG_q66), hG_ll_o, hlb_o⟩
              have hM_o : cIn w73 o (.inr (8, [.ref bs_o, .ref js_o, .int jc_o, .ref sh_o, .ref wk_o, .ref q66, .ref ll_o, .int lc_o, va_rf lb_o])) := hU73.1
              have hX := hX.tr (cX.up hU73 (Or.inr ⟨_, hG_o, rfl⟩))
              refine lv_aload_n hx hb dX9_far_76 rfl (lv_at hl 1 rfl) ?_
              refine t_get (v := .ref q66) (C := RX9) (T := TX9) (N := 9) hx hb hts (by decide +kernel) hown hK hP hM_o rfl 5 (by decide) (hts (.fieldLink RX9 38 "ShadowBench" "meetings" "LShadowBench$Meetings;") (by decide +kernel)) (fun _ h9 => h9) rfl dX9_far_77 ?_
              obtain ⟨_, hM_q66, a_q66, b_q66, z_q66, rfl, hz_q66, hG_a_q66, hG_b_q66⟩ := hT _ _ hG_q66
              obtain ⟨zn9, hzn9⟩ : ∃ z9 : Nat, z_q66 = nI z9 := ⟨z_q66.toNatClampNeg, (cl_nI hz_q66.1).symm⟩
              rw [hzn9] at hM_q66
              obtain ⟨fm9, hM_a_q66⟩ := cLa hT (Or.inl rfl) hG_a_q66
              obtain ⟨fs9, hM_b_q66⟩ := cIa hT (Or.inl rfl) hG_b_q66
              refine lv_aload hx hb dX9_far_80 (lv_at hl 0 rfl) ?_
              refine lv_lload_n hx hb dX9_far_82 rfl (lv_at hl 4 rfl) ?_
              refine lv_lload hx hb dX9_far_83 (lv_at hl 5 rfl) ?_
              refine t_calli (va_runV (g := F0 m 85 ls ([.long p1, .long p0, .ref x3, .ref q66])) (As := [.ref x3, .long p0, .long p1]) (rest := []) ⟨hx, hb, hml, hown, hts⟩ (c_X6_fewestSwitches_x l D cy A G70 w73 q66 x3 p0 p1 hD hT hG_q66 hM_q66 hG_x3 hM_a_q66 hM_b_q66 (hiZ_p m36_9 b19) (hiZ_p m36_9 b29) al9.1 al9.2 (fun z9 => c53 ((lg_cmp_eq _ _).mpr z9))) (cwV 3 hts gX9_far_X6_fewestSwitches rfl rfl rfl (by decide +kernel) ⟨Nat.le_of_ble_eq_true rfl, Nat.le_of_ble_eq_true rfl⟩) (c_preV hM_q66 rfl hP hK hA hS hV) rfl rfl hl.1 rfl (lv_room (Nat.le_of_ble_eq_true rfl)) dX9_far_85 ⟨Nat.le_of_ble_eq_true rfl, Nat.le_of_ble_eq_true rfl⟩) hS (fun r85 u H locs q85 hP9 hD9 hT9 hS => ?_)
              obtain ⟨w85, rfl, hF85, q85⟩ := q85
              have hP : va_P D vwCl w85 H := hP9
              have hD : va_D A w85 := hD9
              have hT : cT cy G70 w85 := hT9
              have hM_o := hF85 _ _ (fun z9 => z9.elim (cne hG_o hG_q66 (show (7 : Nat) ≠ 6 by decide)) (fun z9 => z9.elim (cne hG_o hG_a_q66 (show (7 : Nat) ≠ 1 by decide)) (cne hG_o hG_b_q66 (show (7 : Nat) ≠ 0 by decide)))) hM_o
              have hM_x3 := hF85 _ _ (fun z9 => z9.elim (cne hG_x3 hG_q66 (show (2 : Nat) ≠ 6 by decide)) (fun z9 => z9.elim (cne hG_x3 hG_a_q66 (show (2 : Nat) ≠ 1 by decide)) (cne hG_x3 hG_b_q66 (show (2 : Nat) ≠ 0 by decide)))) hM_x3
              have hX := hX.tr ⟨cE.rf, hF85.wk (fun b9 z9 => by rcases z9 with rfl | rfl | rfl; exact (Or.inr ⟨_, hG_q66, rfl⟩); exact (Or.inr ⟨_, hG_a_q66, rfl⟩); exact (Or.inr ⟨_, hG_b_q66, rfl⟩)), fun _ _ h9 => Or.inl h9⟩
              refine W.toV (k := 7) (n := 53273) ?_
              refine W.widen (k := 7) (n := 53273) (Nat.le_of_ble_eq_true rfl) (Nat.le_of_ble_eq_true rfl) ?_
              exact W.iret (v := r85) hx hb hr (fun t ht hW => ⟨⟨_, (G70, w85), rfl, ⟨hX, ⟨(Or.inr ⟨rfl, rfl, (by first | exact hopt | assumption), _, hM_o⟩), (Or.inr ⟨⟨⟨vb3, b19⟩, vb3, b29⟩, Or.inr ⟨al9, Or.inr ⟨(fun z9 => c53 ((lg_cmp_eq _ _).mpr z9)), q85⟩⟩⟩)⟩⟩, by show va_P D vwCl w85 t.heap; rw [ht]; exact hP, hD, hT⟩, hS.F ht⟩) hS.2.2 dX9_far_88
            · skip
              have hG_x59 := hmo_o x59 hopt
              rw [hopt] at hM_o
              have hM_o : cIn w3 o (.inr (8, [.ref bs_o, .ref js_o, .int jc_o, .ref sh_o, .ref wk_o, .ref x59, .ref ll_o, .int lc_o, va_rf lb_o])) := hM_o
              refine t_get (v := .ref x59) (C := RX9) (T := TX9) (N := 9) hx hb hts (by decide +kernel) hown hK hP hM_o rfl 5 (by decide) (hts (.fieldLink RX9 38 "ShadowBench" "meetings" "LShadowBench$Meetings;") (by decide +kernel)) (fun _ h9 => h9) rfl dX9_far_59 ?_
              refine lv_ifnonnull (tgt := 76) hx hb dX9_far_62 (by decide) ?_
              refine lv_aload_n hx hb dX9_far_76 rfl (lv_at hl 1 rfl) ?_
              refine t_get (v := .ref x59) (C := RX9) (T := TX9) (N := 9) hx hb hts (by decide +kernel) hown hK hP hM_o rfl 5 (by decide) (hts (.fieldLink RX9 38 "ShadowBench" "meetings" "LShadowBench$Meetings;") (by decide +kernel)) (fun _ h9 => h9) rfl dX9_far_77 ?_
              obtain ⟨_, hM_x59, a_x59, b_x59, z_x59, rfl, hz_x59, hG_a_x59, hG_b_x59⟩ := hT _ _ hG_x59
              obtain ⟨zn9, hzn9⟩ : ∃ z9 : Nat, z_x59 = nI z9 := ⟨z_x59.toNatClampNeg, (cl_nI hz_x59.1).symm⟩
              rw [hzn9] at hM_x59
              obtain ⟨fm9, hM_a_x59⟩ := cLa hT (Or.inl rfl) hG_a_x59
              obtain ⟨fs9, hM_b_x59⟩ := cIa hT (Or.inl rfl) hG_b_x59
              refine lv_aload hx hb dX9_far_80 (lv_at hl 0 rfl) ?_
              refine lv_lload_n hx hb dX9_far_82 rfl (lv_at hl 4 rfl) ?_
              refine lv_lload hx hb dX9_far_83 (lv_at hl 5 rfl) ?_
              refine t_calli (va_runV (g := F0 m 85 ls ([.long p1, .long p0, .ref x3, .ref x59])) (As := [.ref x3, .long p0, .long p1]) (rest := []) ⟨hx, hb, hml, hown, hts⟩ (c_X6_fewestSwitches_x l D cy A G3 w3 x59 x3 p0 p1 hD hT hG_x59 hM_x59 hG_x3 hM_a_x59 hM_b_x59 (hiZ_p m36_9 b19) (hiZ_p m36_9 b29) al9.1 al9.2 (fun z9 => c53 ((lg_cmp_eq _ _).mpr z9))) (cwV 3 hts gX9_far_X6_fewestSwitches rfl rfl rfl (by decide +kernel) ⟨Nat.le_of_ble_eq_true rfl, Nat.le_of_ble_eq_true rfl⟩) (c_preV hM_x59 rfl hP hK hA hS hV) rfl rfl hl.1 rfl (lv_room (Nat.le_of_ble_eq_true rfl)) dX9_far_85 ⟨Nat.le_of_ble_eq_true rfl, Nat.le_of_ble_eq_true rfl⟩) hS (fun r85 u H locs q85 hP9 hD9 hT9 hS => ?_)
              obtain ⟨w85, rfl, hF85, q85⟩ := q85
              have hP : va_P D vwCl w85 H := hP9
              have hD : va_D A w85 := hD9
              have hT : cT cy G3 w85 := hT9
              have hM_o := hF85 _ _ (fun z9 => z9.elim (cne hG_o hG_x59 (show (7 : Nat) ≠ 6 by decide)) (fun z9 => z9.elim (cne hG_o hG_a_x59 (show (7 : Nat) ≠ 1 by decide)) (cne hG_o hG_b_x59 (show (7 : Nat) ≠ 0 by decide)))) hM_o
              have hM_x3 := hF85 _ _ (fun z9 => z9.elim (cne hG_x3 hG_x59 (show (2 : Nat) ≠ 6 by decide)) (fun z9 => z9.elim (cne hG_x3 hG_a_x59 (show (2 : Nat) ≠ 1 by decide)) (cne hG_x3 hG_b_x59 (show (2 : Nat) ≠ 0 by decide)))) hM_x3
              have hX := hX.tr ⟨cE.rf, hF85.wk (fun b9 z9 => by rcases z9 with rfl | rfl | rfl; exact (Or.inr ⟨_, hG_x59, rfl⟩); exact (Or.inr ⟨_, hG_a_x59, rfl⟩); exact (Or.inr ⟨_, hG_b_x59, rfl⟩)), fun _ _ h9 => Or.inl h9⟩
              refine W.toV (k := 4) (n := 502) ?_
              refine W.widen (k := 4) (n := 502) (Nat.le_of_ble_eq_true rfl) (Nat.le_of_ble_eq_true rfl) ?_
              exact W.iret (v := r85) hx hb hr (fun t ht hW => ⟨⟨_, (G3, w85), rfl, ⟨hX, ⟨(Or.inl ⟨rfl, rfl, (by first | exact hM_o | (rw [hopt]; exact hM_o))⟩), (Or.inr ⟨⟨⟨vb3, b19⟩, vb3, b29⟩, Or.inr ⟨al9, Or.inr ⟨(fun z9 => c53 ((lg_cmp_eq _ _).mpr z9)), q85⟩⟩⟩)⟩⟩, by show va_P D vwCl w85 t.heap; rw [ht]; exact hP, hD, hT⟩, hS.F ht⟩) hS.2.2 dX9_far_88
          · skip
            have d53 := c53
            rw [lg_cmp_eq, fa_eq64] at d53
            refine lv_iconst (v := 0) hx hb dX9_far_56 (by decide) ?_
            refine W.toV (k := 4) (n := 502) ?_
            refine W.widen (k := 4) (n := 502) (Nat.le_of_ble_eq_true rfl) (Nat.le_of_ble_eq_true rfl) ?_
            exact W.iret (v := (0 : Int32)) hx hb hr (fun t ht hW => ⟨⟨_, (G3, w3), rfl, ⟨hX, ⟨(Or.inl ⟨rfl, rfl, (by first | exact hM_o | (rw [hopt]; exact hM_o))⟩), (Or.inr ⟨⟨⟨vb3, b19⟩, vb3, b29⟩, Or.inr ⟨al9, Or.inl ⟨(lg_cmp_eq _ _).mp c53, rfl⟩⟩⟩)⟩⟩, by show va_P D vwCl w3 t.heap; rw [ht]; exact hP, hD, hT⟩, hS.F ht⟩) hS.2.2 dX9_far_57
        · skip
          have d43 := c43
          rw [fa_lt] at d43
          refine lv_bipush (v := (-2)) hx hb dX9_far_46 (by decide) ?_
          refine W.toV (k := 4) (n := 502) ?_
          refine W.widen (k := 4) (n := 502) (Nat.le_of_ble_eq_true rfl) (Nat.le_of_ble_eq_true rfl) ?_
          exact W.iret (v := ((-2) : Int32)) hx hb hr (fun t ht hW => ⟨⟨_, (G3, w3), rfl, ⟨hX, ⟨(Or.inl ⟨rfl, rfl, (by first | exact hM_o | (rw [hopt]; exact hM_o))⟩), (Or.inr ⟨⟨⟨vb3, b19⟩, vb3, b29⟩, Or.inl ⟨(fun y9 => by rcases q40 with ⟨k9, h9, e9, z9, -⟩ | ⟨e9, z9⟩; (rcases k01 k9 h9 z9.1 with y8 | y8; (rw [y8] at z9; exact z9.2 y9.1); (rw [y8] at z9; exact z9.2 y9.2)); (exfalso; rw [e9] at d43; have z8 : (-1 : Int32).toInt = -1 := rfl; omega)), rfl⟩⟩)⟩⟩, by show va_P D vwCl w3 t.heap; rw [ht]; exact hP, hD, hT⟩, hS.F ht⟩) hS.2.2 dX9_far_48
      · skip
        have b29 := bo_f q26 c29
        refine lv_iconst (v := (-1)) hx hb dX9_far_32 (by decide) ?_
        refine W.toV (k := 4) (n := 502) ?_
        refine W.widen (k := 4) (n := 502) (Nat.le_of_ble_eq_true rfl) (Nat.le_of_ble_eq_true rfl) ?_
        exact W.iret (v := ((-1) : Int32)) hx hb hr (fun t ht hW => ⟨⟨_, (G3, w3), rfl, ⟨hX, ⟨(Or.inl ⟨rfl, rfl, (by first | exact hM_o | (rw [hopt]; exact hM_o))⟩), (Or.inl ⟨(fun z9 => by first | exact vn3 z9.1.1 | exact b19 z9.1.2 | exact b29 z9.2.2), rfl⟩)⟩⟩, by show va_P D vwCl w3 t.heap; rw [ht]; exact hP, hD, hT⟩, hS.F ht⟩) hS.2.2 dX9_far_33

/-- the reference's places as a table: below 0 is free -/
def ocR (pl : Nat → Int32) (k : Nat) : Option Nat := if (pl k).toInt < 0 then none else some (pl k).toNatClampNeg
def hR (p : Int64) : Nat := (((((p * (-7046029254386353131 : Int64)).toUInt64 >>> ((48 : Int32).toInt64.toUInt64 &&& Int64.toUInt64 63)).toInt64)).toInt32).toNatClampNeg
theorem hR_lt (p : Int64) : hR p < 65536 := by
  have b := ush48 (p * (-7046029254386353131 : Int64))
  have e := m_cl b.1
  unfold hR
  omega
theorem ocR_n {pl : Nat → Int32} {k : Nat} (h : (pl k).toInt < 0) : ocR pl k = none := by unfold ocR; rw [if_pos h]
theorem ocR_s {pl : Nat → Int32} {k : Nat} (h : ¬ (pl k).toInt < 0) : ocR pl k = some (pl k).toNatClampNeg := by unfold ocR; rw [if_neg h]
theorem tbR_add {pl : Nat → Int32} {rr : Nat → Int64} {n k : Nat} {p : Int64} {v : Int32} (h : tabOk 65536 hR (ocR pl) rr n) (hv : v.toInt = (n : Int)) (ho : ocR pl k = none) (hno : ∀ i, i < n → rr i ≠ p) (hp : ∃ t, t < 65536 ∧ k = (hR p + t) % 65536 ∧ ∀ t', t' < t → ocR pl ((hR p + t') % 65536) ≠ none) : tabOk 65536 hR (ocR (upd pl k v)) (vp_updL rr n p) (n + 1) := by
  have cv := m_cl (x := v) (by omega)
  refine tab_add h ho hno hp (fun i hi => by unfold vp_updL; rw [if_neg (by omega)]) (by unfold vp_updL; rw [if_pos rfl]) ?_ (fun e he hne => ?_)
  · have e2 : upd pl k v k = v := by unfold upd; rw [if_pos rfl]
    rw [ocR_s (by rw [e2]; omega), e2]
    congr 1
    omega
  · unfold ocR upd
    rw [if_neg hne]

set_option maxHeartbeats 4000000 in
set_option maxRecDepth 100000 in
theorem c_X10_placeOf_x (l : Launch) (D : va_G) (cy : Nat → ClassId) (mo : Nat) (a : Nat → Nat) (f : Nat → Int32) (g : Nat → Int64) (r : Nat → Nat → Int32) (q : Nat → Nat → Int64) (p0 : Int64) (hD : DM cy mo a) (hp1 : PB (r 21)) (hp2 : ∃ e, e < 65536 ∧ (r 21 e).toInt < 0) : Mi l D cy mo a yX10_placeOf wsX10_placeOf ({ frames := 0, cells := 0, slots := 0, locals := 0 }) f g r q [.long p0] (fun r0 u => u = (f, g, r, q) ∧ ((0 ≤ r0.toInt ∧ r0.toInt < 65536) ∧ ∀ n9, n9 ≤ 20000 → tabOk 65536 hR (ocR (r 21)) (q 19) n9 → tabF 65536 hR (ocR (r 21)) (q 19) n9 p0 r0.toNatClampNeg)) := by
  refine Met.ofW (cc := cX10_placeOf) (maxL := 4) (ret := (some .int)) (by decide) rfl ?_
  intro p e s m args below meth c s₁ B hml hv
  obtain ⟨rfl, hP, hK⟩ := hv
  have hx := B.exec
  have hb := B.bytes
  have hr := B.returns
  have hts := atoms_spec (ws := wsX10_placeOf) B.pre
  have hin : ∀ w ∈ u_ws RX10 TX10 35, w ∈ wsX10_placeOf := by decide +kernel
  have hown : s.vm.findClass RX10 = some m.cls := findClass_of_methodNamed B.named
  have hlocks := B.notSynchronized
  have hS : va_S (AM mo a) s.heap s.heap [] := va_S.rf
  have hl := lv_entry ([.ref mo, .long p0]) (n := 4) (Nat.le_of_ble_eq_true rfl)
  rw [lg_entry_eq]
  generalize (lg_sl ([.ref mo, .long p0]) ++ List.replicate (4 - (lg_sl ([.ref mo, .long p0])).length) Slot.unset).toArray = ls at hl ⊢
  have hl : lv_has ls 4 [(0, .ref mo), (1, .long p0)] := hl
  have k_0 : (0 : Int32).toInt = 0 := by decide
  have k_1 : (1 : Int32).toInt = 1 := by decide
  have k_48 : (48 : Int32).toInt = 48 := by decide
  have k_65536 : (65536 : Int32).toInt = 65536 := by decide
  have k_m7046029254386353131L : (-7046029254386353131 : Int64).toInt = -7046029254386353131 := by decide
  obtain ⟨e0, he0, he1⟩ := hp2
  refine lv_lload_n hx hb dX10_placeOf_0 rfl (lv_at hl 1 rfl) ?_
  refine lv_ldc2 hx hb hown (hts (.constantLong RX10 208 (-7046029254386353131)) (by decide +kernel)) dX10_placeOf_1 ?_
  refine lv_lmul hx hb dX10_placeOf_4 ?_
  refine lv_topl (fun v4 e4 => ?_)
  refine lv_bipush (v := 48) hx hb dX10_placeOf_5 (by decide) ?_
  refine lv_lushr (v := (v4.toUInt64 >>> ((48 : Int32).toInt64.toUInt64 &&& Int64.toUInt64 63)).toInt64) hx hb dX10_placeOf_7 rfl ?_
  refine lv_l2i (v := (((v4.toUInt64 >>> ((48 : Int32).toInt64.toUInt64 &&& Int64.toUInt64 63)).toInt64)).toInt32) hx hb dX10_placeOf_8 rfl ?_
  have u9 := ush48 v4
  refine lv_istore_n (lv' := [(3, .int ((((v4.toUInt64 >>> ((48 : Int32).toInt64.toUInt64 &&& Int64.toUInt64 63)).toInt64)).toInt32)), (0, .ref mo), (1, .long p0)]) hx hb dX10_placeOf_9 rfl hl (by decide) rfl (fun ls hl => ?_)
  have loop_10 : ∀ (n : Nat) (x3 : Int32), (0 ≤ x3.toInt ∧ x3.toInt < 65536) → (∃ t9, t9 < 65536 ∧ x3.toNatClampNeg = (hR p0 + t9) % 65536 ∧ ∀ t8, t8 < t9 → ∃ j9, ocR (r 21) ((hR p0 + t8) % 65536) = some j9 ∧ ¬ q 19 j9 = p0) → (((e0 : Int) - x3.toInt) % 65536).toNat < n → ∀ (H : Heap) (locs : List Loc), va_P D vwCl (WM cy mo a f g r q) H → va_S (AM mo a) s.heap H locs → ∀ (ls : Array Slot), lv_has ls 4 [(3, .int x3), (0, .ref mo), (1, .long p0)] → W p l e (headSpec wsX10_placeOf ({ frames := 0, cells := 0, slots := 0, locals := 0 })).room s m #[Value.ref mo, Value.long p0] below meth c H locs 0 0 (MQ below (va_Qi (fun r0 u => u = (f, g, r, q) ∧ ((0 ≤ r0.toInt ∧ r0.toInt < 65536) ∧ ∀ n9, n9 ≤ 20000 → tabOk 65536 hR (ocR (r 21)) (q 19) n9 → tabF 65536 hR (ocR (r 21)) (q 19) n9 p0 r0.toNatClampNeg)) (mB D cy mo a) (AM mo a)) #[Value.ref mo, Value.long p0] s 0 0 (AM mo a)) (F0 m 10 ls []) := by
    intro n
    induction n with
    | zero => intro x3  j10_0 j10_1 hn; exact absurd hn (Nat.not_lt_zero _)
    | succ n ih_10 =>
      intro x3  j10_0 j10_1 hn_10 H locs hP hS ls hl
      refine lv_aload_n hx hb dX10_placeOf_10 rfl (lv_at hl 1 rfl) ?_
      refine m_get (v := .ref (a 21)) hx hb hts hin hown hK hP 21 (by decide) rfl (hts (.fieldLink RX10 49 "ShadowBenchModel" "place" "[I") (by decide +kernel)) rfl dX10_placeOf_11 ?_
      refine lv_iload_n hx hb dX10_placeOf_14 rfl (lv_at hl 0 rfl) ?_
      refine m_iald (w := (r 21)) hx hb hK hP 13 rfl (vp_in_iff.mpr ⟨by omega, by omega⟩) dX10_placeOf_15 ?_
      refine lv_topi (fun v15 e15 => ?_)
      have i15 : v15.toInt = ((r 21) x3.toNatClampNeg).toInt := congrArg Int32.toInt e15
      have t15 := pb_at hp1 (x := x3) (by omega) (by omega) e15
      refine lv_if_lt (tgt := 45) hx hb dX10_placeOf_16 (by decide) (fun c16 => ?_) (fun c16 => ?_)
      · skip
        have d16 := c16
        rw [fa_lt] at d16
        refine lv_iload_n hx hb dX10_placeOf_45 rfl (lv_at hl 0 rfl) ?_
        exact W.iret (v := x3) hx hb hr (fun t ht hW => ⟨⟨_, (f, g, r, q), rfl, ⟨rfl, (by refine ⟨by omega, fun n9 hn9 ht9 => ?_⟩; obtain ⟨t9, h1, h2, h3⟩ := j10_1; exact tab_srch ht9 h1 h2 h3 (by first | exact Or.inr ⟨v28.toNatClampNeg, (by rw [ocR_s (by rw [← e15]; omega), ← e15]), (e29.symm.trans ((lg_cmp_eq _ _).mp c32))⟩ | exact Or.inl (ocR_n (by rw [← e15]; omega))))⟩, by unfold mB; rw [ht]; exact hP⟩, hS.F ht⟩) hS.2.2 dX10_placeOf_46
      · skip
        have d16 := c16
        rw [fa_lt] at d16
        have z16 : x3.toInt ≠ (e0 : Int) := by
          intro z
          have z1 := m_cl (x := x3) (by omega)
          have z2 : x3.toNatClampNeg = e0 := by omega
          rw [z2] at i15
          omega
        refine lv_aload_n hx hb dX10_placeOf_19 rfl (lv_at hl 1 rfl) ?_
        refine m_get (v := .ref (a 19)) hx hb hts hin hown hK hP 19 (by decide) rfl (hts (.fieldLink RX10 41 "ShadowBenchModel" "row" "[J") (by decide +kernel)) rfl dX10_placeOf_20 ?_
        refine lv_aload_n hx hb dX10_placeOf_23 rfl (lv_at hl 1 rfl) ?_
        refine m_get (v := .ref (a 21)) hx hb hts hin hown hK hP 21 (by decide) rfl (hts (.fieldLink RX10 49 "ShadowBenchModel" "place" "[I") (by decide +kernel)) rfl dX10_placeOf_24 ?_
        refine lv_iload_n hx hb dX10_placeOf_27 rfl (lv_at hl 0 rfl) ?_
        refine m_iald (w := (r 21)) hx hb hK hP 13 rfl (vp_in_iff.mpr ⟨by omega, by omega⟩) dX10_placeOf_28 ?_
        refine lv_topi (fun v28 e28 => ?_)
        have i28 : v28.toInt = ((r 21) x3.toNatClampNeg).toInt := congrArg Int32.toInt e28
        have t28 := pb_at hp1 (x := x3) (by omega) (by omega) e28
        have y28 : v28 = v15 := e28.trans e15.symm
        subst y28
        refine m_lald (w := (q 19)) hx hb hK hP 11 rfl (vp_in_iff.mpr ⟨by omega, by omega⟩) dX10_placeOf_29 ?_
        refine lv_topl (fun v29 e29 => ?_)
        refine lv_lload_n hx hb dX10_placeOf_30 rfl (lv_at hl 2 rfl) ?_
        refine W.lcmp hx hb dX10_placeOf_31 ?_
        refine lv_if_eq (tgt := 45) hx hb dX10_placeOf_32 (by decide) (fun c32 => ?_) (fun c32 => ?_)
        · skip
          have d32 := c32
          rw [lg_cmp_eq, fa_eq64] at d32
          refine lv_iload_n hx hb dX10_placeOf_45 rfl (lv_at hl 0 rfl) ?_
          exact W.iret (v := x3) hx hb hr (fun t ht hW => ⟨⟨_, (f, g, r, q), rfl, ⟨rfl, (by refine ⟨by omega, fun n9 hn9 ht9 => ?_⟩; obtain ⟨t9, h1, h2, h3⟩ := j10_1; exact tab_srch ht9 h1 h2 h3 (by first | exact Or.inr ⟨v28.toNatClampNeg, (by rw [ocR_s (by rw [← e15]; omega), ← e15]), (e29.symm.trans ((lg_cmp_eq _ _).mp c32))⟩ | exact Or.inl (ocR_n (by rw [← e15]; omega))))⟩, by unfold mB; rw [ht]; exact hP⟩, hS.F ht⟩) hS.2.2 dX10_placeOf_46
        · skip
          have d32 := c32
          rw [lg_cmp_eq, fa_eq64] at d32
          refine lv_iload_n hx hb dX10_placeOf_35 rfl (lv_at hl 0 rfl) ?_
          refine lv_iconst (v := 1) hx hb dX10_placeOf_36 (by decide) ?_
          refine lv_iadd hx hb dX10_placeOf_37 ?_
          refine lv_topi (fun v37 e37 => ?_)
          have i37 : v37.toInt = x3.toInt + (1 : Int32).toInt := by rw [e37]; exact fb_addI (by omega) (by omega)
          refine lv_ldc hx hb hown (hts (.constant RX10 48 (65536)) (by decide +kernel)) dX10_placeOf_38 ?_
          refine lv_irem hx hb dX10_placeOf_40 (fun z => by rw [fa_eq] at z; omega) ?_
          refine lv_topi (fun v40 e40 => ?_)
          have i40 : v40.toInt = v37.toInt % (65536 : Int32).toInt := by rw [e40]; exact my_irem (by omega) (by omega)
          have j40 : 0 ≤ v40.toInt ∧ v40.toInt < (65536 : Int32).toInt ∧ v40.toInt ≤ v37.toInt := by rw [e40]; exact my_remb (by omega) (by omega)
          rw [show (65536 : Int32).toInt = 65536 from by decide] at i40 j40
          have f40 : v40.toNatClampNeg = (x3.toNatClampNeg + 1) % 65536 := by
            have y1 := m_cl (x := v40) (by omega)
            have y2 := m_cl (x := x3) (by omega)
            omega
          refine lv_istore_n (lv' := [(3, .int v40), (0, .ref mo), (1, .long p0)]) hx hb dX10_placeOf_41 rfl hl (by decide) rfl (fun ls hl => ?_)
          refine lv_goto (tgt := 10) hx hb dX10_placeOf_42 (by decide) ?_
          exact ih_10 v40 (by omega) (by obtain ⟨t9, h1, h2, h3⟩ := j10_1; have oc9 : ocR (r 21) x3.toNatClampNeg = some v28.toNatClampNeg := (by rw [ocR_s (by rw [← e15]; omega), ← e15]); have ne9 : ¬ q 19 v28.toNatClampNeg = p0 := (fun z9 => c32 ((lg_cmp_eq _ _).mpr (e29.trans z9))); have all9 : ∀ t8, t8 < t9 + 1 → ∃ j9, ocR (r 21) ((hR p0 + t8) % 65536) = some j9 ∧ ¬ q 19 j9 = p0 := (fun t8 h8 => by by_cases z9 : t8 = t9; (rw [z9, ← h2]; exact ⟨_, oc9, ne9⟩); exact h3 t8 (by omega)); refine ⟨t9 + 1, ?_, ?_, all9⟩; (refine Classical.byContradiction fun z9 => ?_; obtain ⟨t7, h5, h6⟩ := rnd_ex (hR_lt p0) he0; obtain ⟨j9, h7, -⟩ := all9 t7 (by omega); rw [h6, ocR_n he1] at h7; cases h7); (rw [f40, h2, Nat.mod_add_mod, Nat.add_assoc])) (by omega) _ _ hP hS ls (lv_sub hl [0, 1, 2] rfl)
  exact loop_10 (65536 + 1) ((((v4.toUInt64 >>> ((48 : Int32).toInt64.toUInt64 &&& Int64.toUInt64 63)).toInt64)).toInt32) (by omega) (⟨0, by decide, (by rw [Nat.add_zero, Nat.mod_eq_of_lt (hR_lt p0)]; unfold hR; rw [e4]), fun t8 h8 => absurd h8 (Nat.not_lt_zero _)⟩) (by omega) _ _ hP hS ls (lv_sub hl [0, 1, 2] rfl)
set_option maxHeartbeats 4000000 in
set_option maxRecDepth 100000 in
theorem c_X10_meet_x (l : Launch) (D : va_G) (cy : Nat → ClassId) (mo : Nat) (a : Nat → Nat) (f : Nat → Int32) (g : Nat → Int64) (r : Nat → Nat → Int32) (q : Nat → Nat → Int64) (q0 : Int64) (far0 : Int32) (to0 : Int64) (hD : DM cy mo a) (hp1 : PB (r 21)) (hm : 1 ≤ (f 22).toInt ∧ (f 22).toInt ≤ 20000) (hc : (ct21 (r 21) : Int) ≤ (f 22).toInt) (ht9 : tabOk 65536 hR (ocR (r 21)) (q 19) (f 22).toNatClampNeg) : Mi l D cy mo a yX10_meet wsX10_meet ({ frames := 1, cells := 0, slots := 0, locals := 23 }) f g r q [.long q0, .int far0, .long to0] (fun r0 u => ∃ (pl : Nat → Int32), ∃ (rr : Nat → Int64), ∃ (st : Nat → Int32), ∃ (mn : Int32), u = ((upd f 22 mn), g, (va_up (va_up r 21 pl) 20 st), (va_up q 19 rr)) ∧ ((PB pl ∧ ((f 22).toInt ≤ mn.toInt ∧ mn.toInt ≤ 20000) ∧ (ct21 pl : Int) ≤ mn.toInt) ∧ (((∃ i, i < (f 22).toNatClampNeg ∧ q 19 i = q0) ∧ r0 = 0 ∧ pl = r 21 ∧ rr = q 19 ∧ st = r 20 ∧ mn = f 22) ∨ (¬ (∃ i, i < (f 22).toNatClampNeg ∧ q 19 i = q0) ∧ (f 22).toInt = 20000 ∧ r0 = -5 ∧ pl = r 21 ∧ rr = q 19 ∧ st = r 20 ∧ mn = f 22) ∨ (¬ (∃ i, i < (f 22).toNatClampNeg ∧ q 19 i = q0) ∧ (f 22).toInt < 20000 ∧ mn.toInt = (f 22).toInt + 1 ∧ tabOk 65536 hR (ocR pl) rr mn.toNatClampNeg ∧ (∀ i, i < (f 22).toNatClampNeg → rr i = q 19 i ∧ st i = r 20 i) ∧ rr (f 22).toNatClampNeg = q0 ∧ st (f 22).toNatClampNeg = far0 ∧ ((q0 = to0 ∧ r0 = far0) ∨ (¬ q0 = to0 ∧ r0 = 0)))))) := by
  refine Met.ofW (cc := cX10_meet) (maxL := 7) (ret := (some .int)) (by decide) rfl ?_
  intro p e s m args below meth c s₁ B hml hv
  obtain ⟨rfl, hP, hK⟩ := hv
  have hx := B.exec
  have hb := B.bytes
  have hr := B.returns
  have hts := atoms_spec (ws := wsX10_meet) B.pre
  have hin : ∀ w ∈ u_ws RX10 TX10 35, w ∈ wsX10_meet := by decide +kernel
  have hown : s.vm.findClass RX10 = some m.cls := findClass_of_methodNamed B.named
  have hlocks := B.notSynchronized
  have hS : va_S (AM mo a) s.heap s.heap [] := va_S.rf
  have hl := lv_entry ([.ref mo, .long q0, .int far0, .long to0]) (n := 7) (Nat.le_of_ble_eq_true rfl)
  rw [lg_entry_eq]
  generalize (lg_sl ([.ref mo, .long q0, .int far0, .long to0]) ++ List.replicate (7 - (lg_sl ([.ref mo, .long q0, .int far0, .long to0])).length) Slot.unset).toArray = ls at hl ⊢
  have hl : lv_has ls 7 [(0, .ref mo), (1, .long q0), (3, .int far0), (4, .long to0)] := hl
  have k_m5 : (-5 : Int32).toInt = -5 := by decide
  have k_0 : (0 : Int32).toInt = 0 := by decide
  have k_1 : (1 : Int32).toInt = 1 := by decide
  have k_20000 : (20000 : Int32).toInt = 20000 := by decide
  have cf9 := m_cl (x := f 22) (by omega)
  refine lv_aload_n hx hb dX10_meet_0 rfl (lv_at hl 0 rfl) ?_
  refine lv_lload_n hx hb dX10_meet_1 rfl (lv_at hl 1 rfl) ?_
  refine m_calli (As := [.long q0]) (rest := []) ⟨hx, hb, hml, hown, hts⟩ (c_X10_placeOf_x l D cy mo a f g r q q0 hD hp1 (ct21_free (by omega))) (cwV 1 hts gX10_meet_X10_placeOf rfl rfl rfl (by decide +kernel) ⟨Nat.le_of_ble_eq_true rfl, Nat.le_of_ble_eq_true rfl⟩) hK hP rfl hl.1 rfl (Nat.le_of_ble_eq_true rfl) dX10_meet_2 ⟨Nat.le_of_ble_eq_true rfl, Nat.le_of_ble_eq_true rfl⟩ hS (fun r2 u H locs q2 hP hS => ?_)
  obtain ⟨rfl, q2⟩ := q2
  have hP : va_P D vwCl (WM cy mo a f g r q) H := hP
  have q2 : (0 ≤ r2.toInt ∧ r2.toInt < 65536) ∧ ∀ n9, n9 ≤ 20000 → tabOk 65536 hR (ocR ((r 21))) ((q 19)) n9 → tabF 65536 hR (ocR ((r 21))) ((q 19)) n9 q0 r2.toNatClampNeg := q2
  refine lv_istore (lv' := [(6, .int r2), (0, .ref mo), (1, .long q0), (3, .int far0), (4, .long to0)]) hx hb dX10_meet_5 hl (by decide) rfl (fun ls hl => ?_)
  refine lv_aload_n hx hb dX10_meet_7 rfl (lv_at hl 1 rfl) ?_
  refine m_get (v := .ref (a 21)) hx hb hts hin hown hK hP 21 (by decide) rfl (hts (.fieldLink RX10 49 "ShadowBenchModel" "place" "[I") (by decide +kernel)) rfl dX10_meet_8 ?_
  refine lv_iload hx hb dX10_meet_11 (lv_at hl 0 rfl) ?_
  refine m_iald (w := (r 21)) hx hb hK hP 13 rfl (vp_in_iff.mpr ⟨by omega, by omega⟩) dX10_meet_13 ?_
  refine lv_topi (fun v13 e13 => ?_)
  have i13 : v13.toInt = ((r 21) r2.toNatClampNeg).toInt := congrArg Int32.toInt e13
  refine lv_if_lt (tgt := 19) hx hb dX10_meet_14 (by decide) (fun c14 => ?_) (fun c14 => ?_)
  · skip
    have d14 := c14
    rw [fa_lt] at d14
    refine lv_aload_n hx hb dX10_meet_19 rfl (lv_at hl 1 rfl) ?_
    refine m_get (v := .int (f 22)) hx hb hts hin hown hK hP 22 (by decide) rfl (hts (.fieldLink RX10 217 "ShadowBenchModel" "many" "I") (by decide +kernel)) rfl dX10_meet_20 ?_
    refine lv_sipush (v := 20000) hx hb dX10_meet_23 (by decide) ?_
    refine lv_icmp_ne (tgt := 32) hx hb dX10_meet_26 (by decide) (fun c26 => ?_) (fun c26 => ?_)
    · skip
      have d26 := c26
      rw [fa_eq] at d26
      have hfr : (r 21 r2.toNatClampNeg).toInt < 0 := by omega
      have hcl := m_cl (x := r2) (by omega)
      have hput := ct21_put (p := r 21) (i := r2.toNatClampNeg) (v := f 22) (by omega) hfr
      refine lv_aload_n hx hb dX10_meet_32 rfl (lv_at hl 1 rfl) ?_
      refine m_get (v := .ref (a 21)) hx hb hts hin hown hK hP 21 (by decide) rfl (hts (.fieldLink RX10 49 "ShadowBenchModel" "place" "[I") (by decide +kernel)) rfl dX10_meet_33 ?_
      refine lv_iload hx hb dX10_meet_36 (lv_at hl 0 rfl) ?_
      refine lv_aload_n hx hb dX10_meet_38 rfl (lv_at hl 1 rfl) ?_
      refine m_get (v := .int (f 22)) hx hb hts hin hown hK hP 22 (by decide) rfl (hts (.fieldLink RX10 217 "ShadowBenchModel" "many" "I") (by decide +kernel)) rfl dX10_meet_39 ?_
      refine m_iast (w := (r 21)) hx hb hK hP hD hS 13 rfl (vp_in_iff.mpr ⟨by omega, by omega⟩) (va_up r 21 (upd (r 21) r2.toNatClampNeg (f 22))) (ms_21 cy mo a _ _ _ _ _) dX10_meet_42 (fun H locs hP hS => ?_)
      refine lv_aload_n hx hb dX10_meet_43 rfl (lv_at hl 1 rfl) ?_
      refine m_get (v := .ref (a 19)) hx hb hts hin hown hK hP 19 (by decide) rfl (hts (.fieldLink RX10 41 "ShadowBenchModel" "row" "[J") (by decide +kernel)) rfl dX10_meet_44 ?_
      refine lv_aload_n hx hb dX10_meet_47 rfl (lv_at hl 1 rfl) ?_
      refine m_get (v := .int (f 22)) hx hb hts hin hown hK hP 22 (by decide) rfl (hts (.fieldLink RX10 217 "ShadowBenchModel" "many" "I") (by decide +kernel)) rfl dX10_meet_48 ?_
      refine lv_lload_n hx hb dX10_meet_51 rfl (lv_at hl 2 rfl) ?_
      refine m_last (w := (q 19)) hx hb hK hP hD hS 11 rfl (vp_in_iff.mpr ⟨by omega, by omega⟩) (va_up q 19 (vp_updL (q 19) (f 22).toNatClampNeg q0)) (ms_19 cy mo a _ _ _ _ _) dX10_meet_52 (fun H locs hP hS => ?_)
      refine lv_aload_n hx hb dX10_meet_53 rfl (lv_at hl 1 rfl) ?_
      refine m_get (v := .ref (a 20)) hx hb hts hin hown hK hP 20 (by decide) rfl (hts (.fieldLink RX10 45 "ShadowBenchModel" "steps" "[I") (by decide +kernel)) rfl dX10_meet_54 ?_
      refine lv_aload_n hx hb dX10_meet_57 rfl (lv_at hl 1 rfl) ?_
      refine m_get (v := .int (f 22)) hx hb hts hin hown hK hP 22 (by decide) rfl (hts (.fieldLink RX10 217 "ShadowBenchModel" "many" "I") (by decide +kernel)) rfl dX10_meet_58 ?_
      refine lv_iload_n hx hb dX10_meet_61 rfl (lv_at hl 3 rfl) ?_
      refine m_iast (w := (r 20)) hx hb hK hP hD hS 12 rfl (vp_in_iff.mpr ⟨by omega, by omega⟩) (va_up (va_up r 21 ((upd (r 21) r2.toNatClampNeg (f 22)))) 20 (upd (r 20) (f 22).toNatClampNeg far0)) (ms_20 cy mo a _ _ _ _ _) dX10_meet_62 (fun H locs hP hS => ?_)
      refine lv_aload_n hx hb dX10_meet_63 rfl (lv_at hl 1 rfl) ?_
      refine lv_dup hx hb dX10_meet_64 rfl ?_
      refine m_get (v := .int (f 22)) hx hb hts hin hown hK hP 22 (by decide) rfl (hts (.fieldLink RX10 217 "ShadowBenchModel" "many" "I") (by decide +kernel)) rfl dX10_meet_65 ?_
      refine lv_iconst (v := 1) hx hb dX10_meet_68 (by decide) ?_
      refine lv_iadd hx hb dX10_meet_69 ?_
      refine lv_topi (fun v69 e69 => ?_)
      have i69 : v69.toInt = (f 22).toInt + (1 : Int32).toInt := by rw [e69]; exact fb_addI (by omega) (by omega)
      have cm0 := m_cl (x := v69) (by omega)
      have cm1 : v69.toNatClampNeg = (f 22).toNatClampNeg + 1 := by omega
      refine m_put (v := .int v69) (ty := .int) hx hb hts hin hown hK hP hD hS 22 (by decide) rfl (hts (.fieldLink RX10 217 "ShadowBenchModel" "many" "I") (by decide +kernel)) rfl (by decide +kernel) rfl rfl (upd f 22 v69) g rfl dX10_meet_70 (fun H locs hP hS => ?_)
      refine lv_lload_n hx hb dX10_meet_73 rfl (lv_at hl 2 rfl) ?_
      refine lv_lload hx hb dX10_meet_74 (lv_at hl 4 rfl) ?_
      refine W.lcmp hx hb dX10_meet_76 ?_
      refine lv_if_ne (tgt := 84) hx hb dX10_meet_77 (by decide) (fun c77 => ?_) (fun c77 => ?_)
      · skip
        have d77 := c77
        rw [lg_cmp_eq, fa_eq64] at d77
        refine lv_iconst (v := 0) hx hb dX10_meet_84 (by decide) ?_
        have hP := wm_eq rfl rfl (ec_r_21_20__21_20 r ((upd (r 21) r2.toNatClampNeg (f 22))) ((upd (r 20) (f 22).toNatClampNeg far0))) (ec_q_19__19 q ((vp_updL (q 19) (f 22).toNatClampNeg q0))) hP
        exact W.iret (v := (0 : Int32)) hx hb hr (fun t ht hW => ⟨⟨_, ((upd f 22 v69), g, (va_up (va_up r 21 (((upd (r 21) r2.toNatClampNeg (f 22))))) 20 (((upd (r 20) (f 22).toNatClampNeg far0)))), (va_up q 19 (((vp_updL (q 19) (f 22).toNatClampNeg q0))))), rfl, ⟨((upd (r 21) r2.toNatClampNeg (f 22))), ((vp_updL (q 19) (f 22).toNatClampNeg q0)), ((upd (r 20) (f 22).toNatClampNeg far0)), v69, rfl, ⟨⟨by first | exact hp1 | exact pb_put hp1 (by omega), by omega, by omega⟩, (Or.inr (Or.inr ⟨(by rcases q2.2 (f 22).toNatClampNeg (by omega) ht9 with ⟨i9, y1, y2, y3⟩ | ⟨y1, y2, y4⟩; (exfalso; rw [ocR_n (by rw [← e13]; omega)] at y3; cases y3); exact fun ⟨i9, h1, h2⟩ => y2 i9 h1 h2), by omega, by omega, (by rcases q2.2 (f 22).toNatClampNeg (by omega) ht9 with ⟨i9, y1, y2, y3⟩ | ⟨y1, y2, y4⟩; (exfalso; rw [ocR_n (by rw [← e13]; omega)] at y3; cases y3); (rw [cm1]; exact tbR_add ht9 (by omega) y1 y2 y4)), (fun i9 h9 => ⟨(by unfold vp_updL; rw [if_neg (by omega)]), (by unfold upd; rw [if_neg (by omega)])⟩), (by unfold vp_updL; rw [if_pos rfl]), (by unfold upd; rw [if_pos rfl]), (by first | exact Or.inl ⟨(lg_cmp_eq _ _).mp c77, rfl⟩ | exact Or.inr ⟨(fun z9 => c77 ((lg_cmp_eq _ _).mpr z9)), rfl⟩)⟩))⟩⟩, by unfold mB; rw [ht]; exact hP⟩, hS.F ht⟩) hS.2.2 dX10_meet_85
      · skip
        have d77 := c77
        rw [lg_cmp_eq, fa_eq64] at d77
        refine lv_iload_n hx hb dX10_meet_80 rfl (lv_at hl 3 rfl) ?_
        refine lv_goto (tgt := 85) hx hb dX10_meet_81 (by decide) ?_
        have hP := wm_eq rfl rfl (ec_r_21_20__21_20 r ((upd (r 21) r2.toNatClampNeg (f 22))) ((upd (r 20) (f 22).toNatClampNeg far0))) (ec_q_19__19 q ((vp_updL (q 19) (f 22).toNatClampNeg q0))) hP
        exact W.iret (v := far0) hx hb hr (fun t ht hW => ⟨⟨_, ((upd f 22 v69), g, (va_up (va_up r 21 (((upd (r 21) r2.toNatClampNeg (f 22))))) 20 (((upd (r 20) (f 22).toNatClampNeg far0)))), (va_up q 19 (((vp_updL (q 19) (f 22).toNatClampNeg q0))))), rfl, ⟨((upd (r 21) r2.toNatClampNeg (f 22))), ((vp_updL (q 19) (f 22).toNatClampNeg q0)), ((upd (r 20) (f 22).toNatClampNeg far0)), v69, rfl, ⟨⟨by first | exact hp1 | exact pb_put hp1 (by omega), by omega, by omega⟩, (Or.inr (Or.inr ⟨(by rcases q2.2 (f 22).toNatClampNeg (by omega) ht9 with ⟨i9, y1, y2, y3⟩ | ⟨y1, y2, y4⟩; (exfalso; rw [ocR_n (by rw [← e13]; omega)] at y3; cases y3); exact fun ⟨i9, h1, h2⟩ => y2 i9 h1 h2), by omega, by omega, (by rcases q2.2 (f 22).toNatClampNeg (by omega) ht9 with ⟨i9, y1, y2, y3⟩ | ⟨y1, y2, y4⟩; (exfalso; rw [ocR_n (by rw [← e13]; omega)] at y3; cases y3); (rw [cm1]; exact tbR_add ht9 (by omega) y1 y2 y4)), (fun i9 h9 => ⟨(by unfold vp_updL; rw [if_neg (by omega)]), (by unfold upd; rw [if_neg (by omega)])⟩), (by unfold vp_updL; rw [if_pos rfl]), (by unfold upd; rw [if_pos rfl]), (by first | exact Or.inl ⟨(lg_cmp_eq _ _).mp c77, rfl⟩ | exact Or.inr ⟨(fun z9 => c77 ((lg_cmp_eq _ _).mpr z9)), rfl⟩)⟩))⟩⟩, by unfold mB; rw [ht]; exact hP⟩, hS.F ht⟩) hS.2.2 dX10_meet_85
    · skip
      have d26 := c26
      rw [fa_eq] at d26
      refine lv_bipush (v := (-5)) hx hb dX10_meet_29 (by decide) ?_
      have hP := wm_eq (ec_f___22 f ) rfl (ec_r___21_20 r ) (ec_q___19 q ) hP
      exact W.iret (v := ((-5) : Int32)) hx hb hr (fun t ht hW => ⟨⟨_, ((upd f 22 (f 22)), g, (va_up (va_up r 21 (r 21)) 20 (r 20)), (va_up q 19 (q 19))), rfl, ⟨(r 21), (q 19), (r 20), (f 22), rfl, ⟨⟨by first | exact hp1 | exact pb_put hp1 (by omega), by omega, by omega⟩, (Or.inr (Or.inl ⟨(by rcases q2.2 (f 22).toNatClampNeg (by omega) ht9 with ⟨i9, y1, y2, y3⟩ | ⟨y1, y2, y4⟩; (exfalso; rw [ocR_n (by rw [← e13]; omega)] at y3; cases y3); exact fun ⟨i9, h1, h2⟩ => y2 i9 h1 h2), by omega, rfl, rfl, rfl, rfl, rfl⟩))⟩⟩, by unfold mB; rw [ht]; exact hP⟩, hS.F ht⟩) hS.2.2 dX10_meet_31
  · skip
    have d14 := c14
    rw [fa_lt] at d14
    refine lv_iconst (v := 0) hx hb dX10_meet_17 (by decide) ?_
    have hP := wm_eq (ec_f___22 f ) rfl (ec_r___21_20 r ) (ec_q___19 q ) hP
    exact W.iret (v := (0 : Int32)) hx hb hr (fun t ht hW => ⟨⟨_, ((upd f 22 (f 22)), g, (va_up (va_up r 21 (r 21)) 20 (r 20)), (va_up q 19 (q 19))), rfl, ⟨(r 21), (q 19), (r 20), (f 22), rfl, ⟨⟨by first | exact hp1 | exact pb_put hp1 (by omega), by omega, by omega⟩, (Or.inl ⟨(by rcases q2.2 (f 22).toNatClampNeg (by omega) ht9 with ⟨i9, y1, y2, y3⟩ | ⟨y1, y2, -⟩; exact ⟨i9, y1, y2⟩; (exfalso; rw [ocR_s (by rw [← e13]; omega)] at y1; cases y1)), rfl, rfl, rfl, rfl, rfl⟩)⟩⟩, by unfold mB; rw [ht]; exact hP⟩, hS.F ht⟩) hS.2.2 dX10_meet_18
theorem plc9 {a w x : Int32} (h1 : nI a.toNatClampNeg = a) (h2 : nI w.toNatClampNeg = w) (h3 : nI x.toNatClampNeg = x) : a * w + x = nI (a.toNatClampNeg * w.toNatClampNeg + x.toNatClampNeg) := by
  rw [← nI_add, ← pk_mul, h1, h2, h3]
theorem one_iff {A B : Bool} : ((if A = true then (1 : Int32) else 0) = if B = true then (1 : Int32) else 0) ↔ A = B := by
  cases A <;> cases B <;> decide
theorem sx9 {w h v27 v29 v30 v37 v38 v40 v46 v48 v54 : Int32} {s : Nat} (hw : 1 ≤ w.toInt ∧ w.toInt ≤ 6) (hh : 1 ≤ h.toInt ∧ h.toInt ≤ 6) (is1 : (nI s).toInt = (s : Int)) (i27 : v27.toInt = w.toInt * w.toInt) (i29 : v29.toInt = v27.toInt * h.toInt) (i30 : v30.toInt = (nI s).toInt / v29.toInt) (i37 : v37.toInt = w.toInt * w.toInt) (i38 : v38.toInt = (nI s).toInt / v37.toInt) (i40 : v40.toInt = v38.toInt % h.toInt) (i46 : v46.toInt = (nI s).toInt / w.toInt) (i48 : v48.toInt = v46.toInt % w.toInt) (i54 : v54.toInt = (nI s).toInt % w.toInt) : v30.toNatClampNeg = s / (w.toNatClampNeg * w.toNatClampNeg) / h.toNatClampNeg ∧ v40.toNatClampNeg = s / (w.toNatClampNeg * w.toNatClampNeg) % h.toNatClampNeg ∧ v48.toNatClampNeg = s % (w.toNatClampNeg * w.toNatClampNeg) / w.toNatClampNeg ∧ v54.toNatClampNeg = s % (w.toNatClampNeg * w.toNatClampNeg) % w.toNatClampNeg := by
  have cw := m_cl (x := w) (by omega)
  have ch := m_cl (x := h) (by omega)
  have e30 : v30.toInt = ((s / (w.toNatClampNeg * w.toNatClampNeg * h.toNatClampNeg) : Nat) : Int) := by rw [i30, is1, i29, i27, ← cw, ← ch, Int.natCast_ediv, Int.natCast_mul, Int.natCast_mul]
  have e38 : v38.toInt = ((s / (w.toNatClampNeg * w.toNatClampNeg) : Nat) : Int) := by rw [i38, is1, i37, ← cw, Int.natCast_ediv, Int.natCast_mul]
  have e40 : v40.toInt = ((s / (w.toNatClampNeg * w.toNatClampNeg) % h.toNatClampNeg : Nat) : Int) := by rw [i40, e38, ← ch, Int.natCast_emod]
  have e46 : v46.toInt = ((s / w.toNatClampNeg : Nat) : Int) := by rw [i46, is1, ← cw, Int.natCast_ediv]
  have e48 : v48.toInt = ((s / w.toNatClampNeg % w.toNatClampNeg : Nat) : Int) := by rw [i48, e46, ← cw, Int.natCast_emod]
  have e54 : v54.toInt = ((s % w.toNatClampNeg : Nat) : Int) := by rw [i54, is1, ← cw, Int.natCast_emod]
  have cl : ∀ {v : Int32} {k : Nat}, v.toInt = (k : Int) → v.toNatClampNeg = k := fun {v k} e => by
    have := m_cl (x := v) (by omega)
    omega
  refine ⟨?_, cl e40, ?_, ?_⟩
  · rw [cl e30, Nat.div_div_eq_div_mul]
  · rw [cl e48, Nat.mod_mul_right_div_self]
  · rw [cl e54, Nat.mod_mod_of_dvd s (Nat.dvd_mul_right _ _)]
/-- what the reference has met is what is met -/
def rlR (S : mtS) (rr : Nat → Int64) (st : Nat → Int32) (n : Nat) : Prop := S.2.2.1 = n ∧ ∀ i, i < n → S.1 i = rr i ∧ (st i).toInt = (S.2.1 i : Int)
theorem rlR.m {S : mtS} {rr : Nat → Int64} {st : Nat → Int32} {n : Nat} (h : rlR S rr st n) : rlM S rr n := ⟨h.1, fun i hi => (h.2 i hi).1⟩
section RR9
variable {w h d k : Nat} {p : Int64} {S : mtS}
theorem rr_n {rr rr1 : Nat → Int64} {st st1 : Nat → Int32} {n : Nat} {v : Int32} (hr : rlR (nbA w h p d S k) rr st n) (ho : (nbA w h p d S k).2.2.2 = false) (hs : swq w h p k = true) (hk : ¬ ∃ i, i < n ∧ rr i = swx w h p k) (hn : n < 20000) (h1 : ∀ i, i < n → rr1 i = rr i ∧ st1 i = st i) (h2 : rr1 n = swx w h p k) (h3 : st1 n = v) (hv : v.toInt = (d : Int)) : rlR (nbA w h p d S (k + 1)) rr1 st1 (n + 1) ∧ (nbA w h p d S (k + 1)).2.2.2 = false := by
  have a := rl_n hr.m ho hs hk hn (fun i hi => (h1 i hi).1) h2
  refine ⟨⟨a.1.1, fun i hi => ⟨a.1.2 i hi, ?_⟩⟩, a.2⟩
  have hk' : ¬ ∃ i, i < (nbA w h p d S k).2.2.1 ∧ (nbA w h p d S k).1 i = swx w h p k := fun z => hk ((hr.m.isIn _).mp z)
  have hn' : ¬ (nbA w h p d S k).2.2.1 = 20000 := by rw [hr.1]; omega
  rw [nb_t hs, mtA_n (by rw [ho]; decide) hk' hn']
  show (st1 i).toInt = ((if i = (nbA w h p d S k).2.2.1 then d else (nbA w h p d S k).2.1 i : Nat) : Int)
  rw [hr.1]
  by_cases z : i = n
  · rw [if_pos z, z, h3, hv]
  · rw [if_neg z, (h1 i (by omega)).2]
    exact (hr.2 i (by omega)).2
/-- a picture that is newly met stays met -/
theorem rr_in {rr rr1 : Nat → Int64} {n c : Nat} (hr : rlM (nbA w h p d S k) rr n) (ho : (nbA w h p d S k).2.2.2 = false) (hs : swq w h p k = true) (hk : ¬ ∃ i, i < n ∧ rr i = swx w h p k) (hn : n < 20000) (h1 : ∀ i, i < n → rr1 i = rr i) (h2 : rr1 n = swx w h p k) (hc : k < c) : isIn9 (nbA w h p d S c) (swx w h p k) := by
  have a := rl_n hr ho hs hk hn h1 h2
  have b : isIn9 (nbA w h p d S (k + 1)) (swx w h p k) := (a.1.isIn _).mpr ⟨n, Nat.lt_succ_self _, h2⟩
  have le : ∀ e, mtLe (nbA w h p d S (k + 1)) (nbA w h p d S (k + 1 + e)) := by
    intro e
    induction e with
    | zero => exact mtLe.rf
    | succ e ih =>
      refine ih.tr ?_
      show mtLe (nbA w h p d S (k + 1 + e)) (nbA w h p d S (k + 1 + e + 1))
      simp only [nbA]
      by_cases q : swq w h p (k + 1 + e) = true
      · rw [if_pos q]; exact mtA_le
      · rw [if_neg q]; exact mtLe.rf
  have z := b.le (le (c - (k + 1)))
  rw [show k + 1 + (c - (k + 1)) = c by omega] at z
  exact z
end RR9


set_option maxHeartbeats 4000000 in
set_option maxRecDepth 100000 in
theorem c_X10_meetAll_x (l : Launch) (D : va_G) (cy : Nat → ClassId) (mo : Nat) (a : Nat → Nat) (f : Nat → Int32) (g : Nat → Int64) (r : Nat → Nat → Int32) (q : Nat → Nat → Int64) (w : Int32) (h : Int32) (k0 : Int32) (to0 : Int64) (hD : DM cy mo a) (hw : 1 ≤ w.toInt ∧ w.toInt ≤ 6) (hh : 1 ≤ h.toInt ∧ h.toInt ≤ 6) (hp1 : PB (r 21)) (hm : 1 ≤ (f 22).toInt ∧ (f 22).toInt ≤ 20000) (hc : (ct21 (r 21) : Int) ≤ (f 22).toInt) (hk : 0 ≤ k0.toInt ∧ k0.toInt < 20000) (ht9 : tabOk 65536 hR (ocR (r 21)) (q 19) (f 22).toNatClampNeg) (hS1 : rlR (bfA w.toNatClampNeg h.toNatClampNeg (st0 (q 19 0)) k0.toNatClampNeg) (q 19) (r 20) (f 22).toNatClampNeg) (hS2 : (bfA w.toNatClampNeg h.toNatClampNeg (st0 (q 19 0)) k0.toNatClampNeg).2.2.2 = false) (hk9 : k0.toNatClampNeg < (f 22).toNatClampNeg) (hno9 : ¬ isIn9 (bfA w.toNatClampNeg h.toNatClampNeg (st0 (q 19 0)) k0.toNatClampNeg) to0) (hd9 : (bfA w.toNatClampNeg h.toNatClampNeg (st0 (q 19 0)) k0.toNatClampNeg).2.1 k0.toNatClampNeg ≤ k0.toNatClampNeg) : Mi l D cy mo a yX10_meetAll wsX10_meetAll ({ frames := 2, cells := 0, slots := 0, locals := 49 }) f g r q [.int w, .int h, .int k0, .long to0] (fun r0 u => ∃ (pl : Nat → Int32), ∃ (rr : Nat → Int64), ∃ (st : Nat → Int32), ∃ (mn : Int32), u = ((upd f 22 mn), g, (va_up (va_up r 21 pl) 20 st), (va_up q 19 rr)) ∧ ((PB pl ∧ ((f 22).toInt ≤ mn.toInt ∧ mn.toInt ≤ 20000) ∧ (ct21 pl : Int) ≤ mn.toInt) ∧ rr 0 = q 19 0 ∧ ((r0.toInt = (((bfA w.toNatClampNeg h.toNatClampNeg (st0 (q 19 0)) k0.toNatClampNeg).2.1 k0.toNatClampNeg + 1 : Nat) : Int) ∧ isIn9 (bfA w.toNatClampNeg h.toNatClampNeg (st0 (q 19 0)) (k0.toNatClampNeg + 1)) to0) ∨ (¬ isIn9 (bfA w.toNatClampNeg h.toNatClampNeg (st0 (q 19 0)) (k0.toNatClampNeg + 1)) to0 ∧ (bfA w.toNatClampNeg h.toNatClampNeg (st0 (q 19 0)) (k0.toNatClampNeg + 1)).2.2.2 = true ∧ r0 = -5) ∨ (r0 = 0 ∧ ¬ isIn9 (bfA w.toNatClampNeg h.toNatClampNeg (st0 (q 19 0)) (k0.toNatClampNeg + 1)) to0 ∧ (bfA w.toNatClampNeg h.toNatClampNeg (st0 (q 19 0)) (k0.toNatClampNeg + 1)).2.2.2 = false ∧ rlR (bfA w.toNatClampNeg h.toNatClampNeg (st0 (q 19 0)) (k0.toNatClampNeg + 1)) rr st mn.toNatClampNeg ∧ tabOk 65536 hR (ocR pl) rr mn.toNatClampNeg)))) := by
  refine Met.ofW (cc := cX10_meetAll) (maxL := 17) (ret := (some .int)) (by decide) rfl ?_
  intro p e s m args below meth c s₁ B hml hv
  obtain ⟨rfl, hP, hK⟩ := hv
  have hx := B.exec
  have hb := B.bytes
  have hr := B.returns
  have hts := atoms_spec (ws := wsX10_meetAll) B.pre
  have hin : ∀ w ∈ u_ws RX10 TX10 35, w ∈ wsX10_meetAll := by decide +kernel
  have hown : s.vm.findClass RX10 = some m.cls := findClass_of_methodNamed B.named
  have hlocks := B.notSynchronized
  have hS : va_S (AM mo a) s.heap s.heap [] := va_S.rf
  have hl := lv_entry ([.ref mo, .int w, .int h, .int k0, .long to0]) (n := 17) (Nat.le_of_ble_eq_true rfl)
  rw [lg_entry_eq]
  generalize (lg_sl ([.ref mo, .int w, .int h, .int k0, .long to0]) ++ List.replicate (17 - (lg_sl ([.ref mo, .int w, .int h, .int k0, .long to0])).length) Slot.unset).toArray = ls at hl ⊢
  have hl : lv_has ls 17 [(0, .ref mo), (1, .int w), (2, .int h), (3, .int k0), (4, .long to0)] := hl
  have k_0 : (0 : Int32).toInt = 0 := by decide
  have k_1 : (1 : Int32).toInt = 1 := by decide
  have k_1L : (1 : Int64).toInt = 1 := by decide
  have m4 := mul4 hw hh
  have cf9 := m_cl (x := f 22) (by omega)
  have ck9 := m_cl (x := k0) (by omega)
  have cw8 := m_cl (x := w) (by omega)
  have ch8 := m_cl (x := h) (by omega)
  have hb8 : 1 ≤ w.toNatClampNeg ∧ w.toNatClampNeg ≤ 6 ∧ 1 ≤ h.toNatClampNeg ∧ h.toNatClampNeg ≤ 6 := by omega
  refine lv_aload_n hx hb dX10_meetAll_0 rfl (lv_at hl 0 rfl) ?_
  refine m_get (v := .ref (a 19)) hx hb hts hin hown hK hP 19 (by decide) rfl (hts (.fieldLink RX10 41 "ShadowBenchModel" "row" "[J") (by decide +kernel)) rfl dX10_meetAll_1 ?_
  refine lv_iload_n hx hb dX10_meetAll_4 rfl (lv_at hl 3 rfl) ?_
  refine m_lald (w := (q 19)) hx hb hK hP 11 rfl (vp_in_iff.mpr ⟨by omega, by omega⟩) dX10_meetAll_5 ?_
  refine lv_topl (fun v5 e5 => ?_)
  have x5 : v5 = (bfA w.toNatClampNeg h.toNatClampNeg (st0 (q 19 0)) k0.toNatClampNeg).1 k0.toNatClampNeg := by rw [e5]; exact (hS1.2 _ hk9).1.symm
  refine lv_lstore (lv' := [(6, .long v5), (0, .ref mo), (1, .int w), (2, .int h), (3, .int k0), (4, .long to0)]) hx hb dX10_meetAll_6 hl (by decide) rfl (fun ls hl => ?_)
  refine lv_iconst (v := 0) hx hb dX10_meetAll_8 (by decide) ?_
  refine lv_istore (lv' := [(8, .int (0 : Int32)), (6, .long v5), (0, .ref mo), (1, .int w), (2, .int h), (3, .int k0), (4, .long to0)]) hx hb dX10_meetAll_9 hl (by decide) rfl (fun ls hl => ?_)
  have loop_11 : ∀ (n : Nat) (s1 : Nat) (pl1 : Nat → Int32) (rr1 : Nat → Int64) (st1 : Nat → Int32) (mn1 : Int32), (s1 ≤ 1296) → (PB pl1) → ((f 22).toInt ≤ mn1.toInt ∧ mn1.toInt ≤ 20000) → ((ct21 pl1 : Int) ≤ mn1.toInt) → (s1 ≤ (h.toNatClampNeg * h.toNatClampNeg * (w.toNatClampNeg * w.toNatClampNeg))) → (rlR (nbA w.toNatClampNeg h.toNatClampNeg v5 ((bfA w.toNatClampNeg h.toNatClampNeg (st0 (q 19 0)) k0.toNatClampNeg).2.1 k0.toNatClampNeg + 1) (bfA w.toNatClampNeg h.toNatClampNeg (st0 (q 19 0)) k0.toNatClampNeg) (bs (okS w.toNatClampNeg h.toNatClampNeg) s1)) rr1 st1 mn1.toNatClampNeg) → ((nbA w.toNatClampNeg h.toNatClampNeg v5 ((bfA w.toNatClampNeg h.toNatClampNeg (st0 (q 19 0)) k0.toNatClampNeg).2.1 k0.toNatClampNeg + 1) (bfA w.toNatClampNeg h.toNatClampNeg (st0 (q 19 0)) k0.toNatClampNeg) (bs (okS w.toNatClampNeg h.toNatClampNeg) s1)).2.2.2 = false) → (¬ isIn9 (nbA w.toNatClampNeg h.toNatClampNeg v5 ((bfA w.toNatClampNeg h.toNatClampNeg (st0 (q 19 0)) k0.toNatClampNeg).2.1 k0.toNatClampNeg + 1) (bfA w.toNatClampNeg h.toNatClampNeg (st0 (q 19 0)) k0.toNatClampNeg) (bs (okS w.toNatClampNeg h.toNatClampNeg) s1)) to0) → (tabOk 65536 hR (ocR pl1) rr1 mn1.toNatClampNeg) → (rr1 0 = q 19 0) → (st1 k0.toNatClampNeg = r 20 k0.toNatClampNeg) → 1296 - s1 < n → ∀ (H : Heap) (locs : List Loc), va_P D vwCl (WM cy mo a (upd f 22 mn1) g (va_up (va_up r 21 pl1) 20 st1) (va_up q 19 rr1)) H → va_S (AM mo a) s.heap H locs → ∀ (ls : Array Slot), lv_has ls 17 [(8, .int (nI s1)), (6, .long v5), (0, .ref mo), (1, .int w), (2, .int h), (3, .int k0), (4, .long to0)] → W p l e (headSpec wsX10_meetAll ({ frames := 2, cells := 0, slots := 0, locals := 49 })).room s m #[Value.ref mo, Value.int w, Value.int h, Value.int k0, Value.long to0] below meth c H locs 0 0 (MQ below (va_Qi (fun r0 u => ∃ (pl : Nat → Int32), ∃ (rr : Nat → Int64), ∃ (st : Nat → Int32), ∃ (mn : Int32), u = ((upd f 22 mn), g, (va_up (va_up r 21 pl) 20 st), (va_up q 19 rr)) ∧ ((PB pl ∧ ((f 22).toInt ≤ mn.toInt ∧ mn.toInt ≤ 20000) ∧ (ct21 pl : Int) ≤ mn.toInt) ∧ rr 0 = q 19 0 ∧ ((r0.toInt = (((bfA w.toNatClampNeg h.toNatClampNeg (st0 (q 19 0)) k0.toNatClampNeg).2.1 k0.toNatClampNeg + 1 : Nat) : Int) ∧ isIn9 (bfA w.toNatClampNeg h.toNatClampNeg (st0 (q 19 0)) (k0.toNatClampNeg + 1)) to0) ∨ (¬ isIn9 (bfA w.toNatClampNeg h.toNatClampNeg (st0 (q 19 0)) (k0.toNatClampNeg + 1)) to0 ∧ (bfA w.toNatClampNeg h.toNatClampNeg (st0 (q 19 0)) (k0.toNatClampNeg + 1)).2.2.2 = true ∧ r0 = -5) ∨ (r0 = 0 ∧ ¬ isIn9 (bfA w.toNatClampNeg h.toNatClampNeg (st0 (q 19 0)) (k0.toNatClampNeg + 1)) to0 ∧ (bfA w.toNatClampNeg h.toNatClampNeg (st0 (q 19 0)) (k0.toNatClampNeg + 1)).2.2.2 = false ∧ rlR (bfA w.toNatClampNeg h.toNatClampNeg (st0 (q 19 0)) (k0.toNatClampNeg + 1)) rr st mn.toNatClampNeg ∧ tabOk 65536 hR (ocR pl) rr mn.toNatClampNeg)))) (mB D cy mo a) (AM mo a)) #[Value.ref mo, Value.int w, Value.int h, Value.int k0, Value.long to0] s 0 0 (AM mo a)) (F0 m 11 ls []) := by
    intro n
    induction n with
    | zero => intro s1 pl1 rr1 st1 mn1 j11_0 j11_1 j11_2 j11_3 j11_4 j11_5 j11_6 j11_7 j11_8 j11_9 j11_10 hn; exact absurd hn (Nat.not_lt_zero _)
    | succ n ih_11 =>
      intro s1 pl1 rr1 st1 mn1 j11_0 j11_1 j11_2 j11_3 j11_4 j11_5 j11_6 j11_7 j11_8 j11_9 j11_10 hn_11 H locs hP hS ls hl
      have is1 : (nI s1).toInt = (s1 : Int) := nI_toInt (by omega)
      have cm1 := m_cl (x := mn1) (by omega)
      have km9 : k0.toNatClampNeg < mn1.toNatClampNeg := by omega
      refine lv_iload hx hb dX10_meetAll_11 (lv_at hl 0 rfl) ?_
      refine lv_iload_n hx hb dX10_meetAll_13 rfl (lv_at hl 3 rfl) ?_
      refine lv_iload_n hx hb dX10_meetAll_14 rfl (lv_at hl 4 rfl) ?_
      refine lv_imul hx hb dX10_meetAll_15 ?_
      refine lv_topi (fun v15 e15 => ?_)
      have i15 : v15.toInt = w.toInt * h.toInt := by rw [e15]; exact fb_mulI (by omega) (by omega)
      refine lv_iload_n hx hb dX10_meetAll_16 rfl (lv_at hl 3 rfl) ?_
      have t17 : v15.toInt * w.toInt = w.toInt * h.toInt * w.toInt := by rw [i15]
      refine lv_imul hx hb dX10_meetAll_17 ?_
      refine lv_topi (fun v17 e17 => ?_)
      have i17 : v17.toInt = v15.toInt * w.toInt := by rw [e17]; exact fb_mulI (by omega) (by omega)
      refine lv_iload_n hx hb dX10_meetAll_18 rfl (lv_at hl 4 rfl) ?_
      have t19 : v17.toInt * h.toInt = w.toInt * h.toInt * w.toInt * h.toInt := by rw [i17, t17]
      refine lv_imul hx hb dX10_meetAll_19 ?_
      refine lv_topi (fun v19 e19 => ?_)
      have i19 : v19.toInt = v17.toInt * h.toInt := by rw [e19]; exact fb_mulI (by omega) (by omega)
      have t20 : v19.toInt = (((h.toNatClampNeg * h.toNatClampNeg * (w.toNatClampNeg * w.toNatClampNeg)) : Nat) : Int) := by rw [i19, t19, ← cw8, ← ch8, ← Int.natCast_mul, ← Int.natCast_mul, ← Int.natCast_mul]; congr 1; ac_rfl
      refine lv_icmp_ge (tgt := 240) hx hb dX10_meetAll_20 (by decide) (fun c20 => ?_) (fun c20 => ?_)
      · skip
        have d20 := c20
        rw [fa_le] at d20
        refine lv_iconst (v := 0) hx hb dX10_meetAll_240 (by decide) ?_
        exact W.iret (v := (0 : Int32)) hx hb hr (fun t ht hW => ⟨⟨_, ((upd f 22 mn1), g, (va_up (va_up r 21 pl1) 20 st1), (va_up q 19 rr1)), rfl, ⟨pl1, rr1, st1, mn1, rfl, (by have eb : (bfA w.toNatClampNeg h.toNatClampNeg (st0 (q 19 0)) (k0.toNatClampNeg + 1)) = (nbA w.toNatClampNeg h.toNatClampNeg v5 ((bfA w.toNatClampNeg h.toNatClampNeg (st0 (q 19 0)) k0.toNatClampNeg).2.1 k0.toNatClampNeg + 1) (bfA w.toNatClampNeg h.toNatClampNeg (st0 (q 19 0)) k0.toNatClampNeg) (cfo w.toNatClampNeg h.toNatClampNeg)) := (by rw [x5]; rfl); have ec : (bs (okS w.toNatClampNeg h.toNatClampNeg) s1) = cfo w.toNatClampNeg h.toNatClampNeg := (by rw [show s1 = (h.toNatClampNeg * h.toNatClampNeg * (w.toNatClampNeg * w.toNatClampNeg)) by omega]; exact okS_all hb8); exact ⟨⟨j11_1, by omega, j11_3⟩, j11_9, Or.inr (Or.inr ⟨rfl, (by rw [eb, ← ec]; exact j11_7), (by rw [eb, ← ec]; exact j11_6), (by rw [eb, ← ec]; exact j11_5), j11_8⟩)⟩)⟩, by unfold mB; rw [ht]; exact hP⟩, hS.F ht⟩) hS.2.2 dX10_meetAll_241
      · skip
        have d20 := c20
        rw [fa_le] at d20
        have hs9 : s1 < (h.toNatClampNeg * h.toNatClampNeg * (w.toNatClampNeg * w.toNatClampNeg)) := by omega
        refine lv_iload hx hb dX10_meetAll_23 (lv_at hl 0 rfl) ?_
        refine lv_iload_n hx hb dX10_meetAll_25 rfl (lv_at hl 3 rfl) ?_
        refine lv_iload_n hx hb dX10_meetAll_26 rfl (lv_at hl 3 rfl) ?_
        refine lv_imul hx hb dX10_meetAll_27 ?_
        refine lv_topi (fun v27 e27 => ?_)
        have i27 : v27.toInt = w.toInt * w.toInt := by rw [e27]; exact fb_mulI (by omega) (by omega)
        refine lv_iload_n hx hb dX10_meetAll_28 rfl (lv_at hl 4 rfl) ?_
        have t29 : v27.toInt * h.toInt = w.toInt * w.toInt * h.toInt := by rw [i27]
        refine lv_imul hx hb dX10_meetAll_29 ?_
        refine lv_topi (fun v29 e29 => ?_)
        have i29 : v29.toInt = v27.toInt * h.toInt := by rw [e29]; exact fb_mulI (by omega) (by omega)
        refine lv_idiv hx hb dX10_meetAll_30 (fun z => by rw [fa_eq] at z; omega) ?_
        refine lv_topi (fun v30 e30 => ?_)
        have i30 : v30.toInt = (nI s1).toInt / v29.toInt := by rw [e30]; exact my_idiv (by omega) (by omega)
        have j30 : 0 ≤ v30.toInt ∧ v30.toInt ≤ (nI s1).toInt := by rw [e30]; exact my_divb (by omega) (by omega)
        refine lv_istore (lv' := [(9, .int v30), (8, .int (nI s1)), (6, .long v5), (0, .ref mo), (1, .int w), (2, .int h), (3, .int k0), (4, .long to0)]) hx hb dX10_meetAll_31 hl (by decide) rfl (fun ls hl => ?_)
        refine lv_iload hx hb dX10_meetAll_33 (lv_at hl 1 rfl) ?_
        refine lv_iload_n hx hb dX10_meetAll_35 rfl (lv_at hl 4 rfl) ?_
        refine lv_iload_n hx hb dX10_meetAll_36 rfl (lv_at hl 4 rfl) ?_
        refine lv_imul hx hb dX10_meetAll_37 ?_
        refine lv_topi (fun v37 e37 => ?_)
        have i37 : v37.toInt = w.toInt * w.toInt := by rw [e37]; exact fb_mulI (by omega) (by omega)
        refine lv_idiv hx hb dX10_meetAll_38 (fun z => by rw [fa_eq] at z; omega) ?_
        refine lv_topi (fun v38 e38 => ?_)
        have i38 : v38.toInt = (nI s1).toInt / v37.toInt := by rw [e38]; exact my_idiv (by omega) (by omega)
        have j38 : 0 ≤ v38.toInt ∧ v38.toInt ≤ (nI s1).toInt := by rw [e38]; exact my_divb (by omega) (by omega)
        refine lv_iload_n hx hb dX10_meetAll_39 rfl (lv_at hl 5 rfl) ?_
        refine lv_irem hx hb dX10_meetAll_40 (fun z => by rw [fa_eq] at z; omega) ?_
        refine lv_topi (fun v40 e40 => ?_)
        have i40 : v40.toInt = v38.toInt % h.toInt := by rw [e40]; exact my_irem (by omega) (by omega)
        have j40 : 0 ≤ v40.toInt ∧ v40.toInt < h.toInt ∧ v40.toInt ≤ v38.toInt := by rw [e40]; exact my_remb (by omega) (by omega)
        refine lv_istore (lv' := [(10, .int v40), (9, .int v30), (8, .int (nI s1)), (6, .long v5), (0, .ref mo), (1, .int w), (2, .int h), (3, .int k0), (4, .long to0)]) hx hb dX10_meetAll_41 hl (by decide) rfl (fun ls hl => ?_)
        refine lv_iload hx hb dX10_meetAll_43 (lv_at hl 2 rfl) ?_
        refine lv_iload_n hx hb dX10_meetAll_45 rfl (lv_at hl 5 rfl) ?_
        refine lv_idiv hx hb dX10_meetAll_46 (fun z => by rw [fa_eq] at z; omega) ?_
        refine lv_topi (fun v46 e46 => ?_)
        have i46 : v46.toInt = (nI s1).toInt / w.toInt := by rw [e46]; exact my_idiv (by omega) (by omega)
        have j46 : 0 ≤ v46.toInt ∧ v46.toInt ≤ (nI s1).toInt := by rw [e46]; exact my_divb (by omega) (by omega)
        refine lv_iload_n hx hb dX10_meetAll_47 rfl (lv_at hl 5 rfl) ?_
        refine lv_irem hx hb dX10_meetAll_48 (fun z => by rw [fa_eq] at z; omega) ?_
        refine lv_topi (fun v48 e48 => ?_)
        have i48 : v48.toInt = v46.toInt % w.toInt := by rw [e48]; exact my_irem (by omega) (by omega)
        have j48 : 0 ≤ v48.toInt ∧ v48.toInt < w.toInt ∧ v48.toInt ≤ v46.toInt := by rw [e48]; exact my_remb (by omega) (by omega)
        refine lv_istore (lv' := [(11, .int v48), (10, .int v40), (9, .int v30), (8, .int (nI s1)), (6, .long v5), (0, .ref mo), (1, .int w), (2, .int h), (3, .int k0), (4, .long to0)]) hx hb dX10_meetAll_49 hl (by decide) rfl (fun ls hl => ?_)
        refine lv_iload hx hb dX10_meetAll_51 (lv_at hl 3 rfl) ?_
        refine lv_iload_n hx hb dX10_meetAll_53 rfl (lv_at hl 6 rfl) ?_
        refine lv_irem hx hb dX10_meetAll_54 (fun z => by rw [fa_eq] at z; omega) ?_
        refine lv_topi (fun v54 e54 => ?_)
        have i54 : v54.toInt = (nI s1).toInt % w.toInt := by rw [e54]; exact my_irem (by omega) (by omega)
        have j54 : 0 ≤ v54.toInt ∧ v54.toInt < w.toInt ∧ v54.toInt ≤ (nI s1).toInt := by rw [e54]; exact my_remb (by omega) (by omega)
        refine lv_istore (lv' := [(12, .int v54), (11, .int v48), (10, .int v40), (9, .int v30), (8, .int (nI s1)), (6, .long v5), (0, .ref mo), (1, .int w), (2, .int h), (3, .int k0), (4, .long to0)]) hx hb dX10_meetAll_55 hl (by decide) rfl (fun ls hl => ?_)
        have sx := sx9 hw hh is1 i27 i29 i30 i37 i38 i40 i46 i48 i54
        have c30 := m_cl (x := v30) (by omega)
        have c40 := m_cl (x := v40) (by omega)
        have c48 := m_cl (x := v48) (by omega)
        have c54 := m_cl (x := v54) (by omega)
        have y30 : nI v30.toNatClampNeg = v30 := cl_nI (by omega)
        have y40 : nI v40.toNatClampNeg = v40 := cl_nI (by omega)
        have y48 : nI v48.toNatClampNeg = v48 := cl_nI (by omega)
        have y54 : nI v54.toNatClampNeg = v54 := cl_nI (by omega)
        have yw : nI w.toNatClampNeg = w := cl_nI (by omega)
        have hb9 : 1 ≤ w.toNatClampNeg ∧ w.toNatClampNeg ≤ 6 ∧ 1 ≤ h.toNatClampNeg ∧ h.toNatClampNeg ≤ 6 := by omega
        refine lv_iload hx hb dX10_meetAll_57 (lv_at hl 3 rfl) ?_
        refine lv_iload hx hb dX10_meetAll_59 (lv_at hl 2 rfl) ?_
        refine lv_icmp_ge (tgt := 156) hx hb dX10_meetAll_61 (by decide) (fun c61 => ?_) (fun c61 => ?_)
        · skip
          have d61 := c61
          rw [fa_le] at d61
          have ms9 : (okS w.toNatClampNeg h.toNatClampNeg s1 = false) ∨ (okS w.toNatClampNeg h.toNatClampNeg s1 = true ∧ swq w.toNatClampNeg h.toNatClampNeg v5 (bs (okS w.toNatClampNeg h.toNatClampNeg) s1) = false) := by first | exact Or.inr ⟨ok1, (by rw [at9.1]; unfold swB; rw [Bool.and_eq_false_iff, Bool.and_eq_false_iff]; first | exact Or.inr (by rw [bne_eq_false_iff_eq]; exact one_iff.mp (by rw [← o134, ← o146]; exact c149)) | exact Or.inl (Or.inr (by rw [beq_eq_false_iff_ne]; exact fun z9 => c122 (by rw [o107, o119, z9]))) | exact Or.inl (Or.inl (by rw [beq_eq_false_iff_ne]; exact fun z9 => c95 (by rw [o80, o92, z9]))))⟩ | exact Or.inl (by unfold okS okP; rw [Bool.and_eq_false_iff]; first | exact Or.inl (decide_eq_false (by rw [← sx.1, ← sx.2.1]; omega)) | exact Or.inr (decide_eq_false (by rw [← sx.2.2.1, ← sx.2.2.2]; omega)))
          refine lv_iconst (v := 0) hx hb dX10_meetAll_156 (by decide) ?_
          refine lv_istore (lv' := [(13, .int (0 : Int32)), (12, .int v54), (11, .int v48), (10, .int v40), (9, .int v30), (8, .int (nI s1)), (6, .long v5), (0, .ref mo), (1, .int w), (2, .int h), (3, .int k0), (4, .long to0)]) hx hb dX10_meetAll_157 hl (by decide) rfl (fun ls hl => ?_)
          refine lv_iload hx hb dX10_meetAll_159 (lv_at hl 0 rfl) ?_
          refine lv_if_eq (tgt := 234) hx hb dX10_meetAll_161 (by decide) (fun c161 => ?_) (fun c161 => ?_)
          · skip
            have d161 := c161
            rw [fa_eq] at d161
            refine lv_iinc (v := (nI (s1 + 1))) (lv' := [(8, .int (nI (s1 + 1))), (13, .int (0 : Int32)), (12, .int v54), (11, .int v48), (10, .int v40), (9, .int v30), (6, .long v5), (0, .ref mo), (1, .int w), (2, .int h), (3, .int k0), (4, .long to0)]) hx hb dX10_meetAll_234 hl (k := 5) rfl (nI_1 _) (by decide) rfl (fun ls hl => ?_)
            refine lv_goto (tgt := 11) hx hb dX10_meetAll_237 (by decide) ?_
            exact ih_11 (s1 + 1) pl1 rr1 st1 mn1 (by omega) (by first | exact q221.1.1 | assumption) (by first | (have z9 := q221.1.2.1; omega) | omega) (by first | exact q221.1.2.2 | assumption) (by omega) (by first | (rcases ms9 with z9 | ⟨z8, z9⟩; (rw [bs_f z9]; exact j11_5); (rw [bs_t z8, nb_f z9]; exact j11_5)) | (obtain ⟨p1, p2⟩ := q221; rcases p2 with ⟨z1, z2, z3⟩ | ⟨z1, z2, z3, z4⟩ | ⟨z1, z2, z3, z4, z5, z6, z7, z8⟩; (rw [bs_t ok1, nb_o sq1 j11_6 (by rw [← x205]; exact (j11_5.m.isIn _).mpr z1), z3.2.1, z3.2.2.1, z3.2.2.2]; exact j11_5); exact absurd (z3.symm.trans c228) (by decide); (rw [bs_t ok1, show mn_221.toNatClampNeg = mn1.toNatClampNeg + 1 by have y9 := m_cl (x := mn_221) (by omega); have y8 := m_cl (x := mn1) (by omega); omega]; exact (rr_n j11_5 j11_6 sq1 (by rw [← x205]; exact z1) (by omega) z5 (by rw [← x205]; exact z6) z7 d218).1))) (by first | (rcases ms9 with z9 | ⟨z8, z9⟩; (rw [bs_f z9]; exact j11_6); (rw [bs_t z8, nb_f z9]; exact j11_6)) | (obtain ⟨p1, p2⟩ := q221; rcases p2 with ⟨z1, z2, z3⟩ | ⟨z1, z2, z3, z4⟩ | ⟨z1, z2, z3, z4, z5, z6, z7, z8⟩; (rw [bs_t ok1, nb_o sq1 j11_6 (by rw [← x205]; exact (j11_5.m.isIn _).mpr z1)]; exact j11_6); exact absurd (z3.symm.trans c228) (by decide); (rw [bs_t ok1]; exact (rr_n j11_5 j11_6 sq1 (by rw [← x205]; exact z1) (by omega) z5 (by rw [← x205]; exact z6) z7 d218).2))) (by first | (rcases ms9 with z9 | ⟨z8, z9⟩; (rw [bs_f z9]; exact j11_7); (rw [bs_t z8, nb_f z9]; exact j11_7)) | (obtain ⟨p1, p2⟩ := q221; rcases p2 with ⟨z1, z2, z3⟩ | ⟨z1, z2, z3, z4⟩ | ⟨z1, z2, z3, z4, z5, z6, z7, z8⟩; (rw [bs_t ok1, nb_o sq1 j11_6 (by rw [← x205]; exact (j11_5.m.isIn _).mpr z1)]; exact j11_7); exact absurd (z3.symm.trans c228) (by decide); (rw [bs_t ok1]; intro y9; obtain ⟨i9, h1, h2⟩ := ((rr_n j11_5 j11_6 sq1 (by rw [← x205]; exact z1) (by omega) z5 (by rw [← x205]; exact z6) z7 d218).1.m.isIn _).mp y9; by_cases y8 : i9 = mn1.toNatClampNeg; (rw [y8, z6] at h2; rcases z8 with ⟨y7, y6⟩ | ⟨y7, y6⟩; exact absurd (y6.symm.trans c228) (fun y5 => by have y4 := congrArg Int32.toInt y5; rw [d218] at y4; have : (0 : Int32).toInt = 0 := rfl; omega); exact y7 h2); exact j11_7 ((j11_5.m.isIn _).mpr ⟨i9, by omega, ((z5 i9 (by omega)).1).symm.trans h2⟩)))) (by first | (rcases ms9 with z9 | ⟨z8, z9⟩; (exact j11_8); (exact j11_8)) | (obtain ⟨p1, p2⟩ := q221; rcases p2 with ⟨z1, z2, z3⟩ | ⟨z1, z2, z3, z4⟩ | ⟨z1, z2, z3, z4, z5, z6, z7, z8⟩; (rw [z3.1, z3.2.1, z3.2.2.2]; exact j11_8); exact absurd (z3.symm.trans c228) (by decide); (exact z4))) (by first | (rcases ms9 with z9 | ⟨z8, z9⟩; (exact j11_9); (exact j11_9)) | (obtain ⟨p1, p2⟩ := q221; rcases p2 with ⟨z1, z2, z3⟩ | ⟨z1, z2, z3, z4⟩ | ⟨z1, z2, z3, z4, z5, z6, z7, z8⟩; (rw [z3.2.1]; exact j11_9); exact absurd (z3.symm.trans c228) (by decide); (rw [(z5 0 (by omega)).1]; exact j11_9))) (by first | (rcases ms9 with z9 | ⟨z8, z9⟩; (exact j11_10); (exact j11_10)) | (obtain ⟨p1, p2⟩ := q221; rcases p2 with ⟨z1, z2, z3⟩ | ⟨z1, z2, z3, z4⟩ | ⟨z1, z2, z3, z4, z5, z6, z7, z8⟩; (rw [z3.2.2.1]; exact j11_10); exact absurd (z3.symm.trans c228) (by decide); (exact ((z5 k0.toNatClampNeg km9).2).trans j11_10))) (by first | (clear q221; omega) | omega) _ _ hP hS ls (lv_sub hl [0, 6, 7, 8, 9, 10, 11] rfl)
          · first | exact absurd c161 (by decide) | exact absurd (by decide) c161
        · skip
          have d61 := c61
          rw [fa_le] at d61
          refine lv_iload hx hb dX10_meetAll_64 (lv_at hl 1 rfl) ?_
          refine lv_iload hx hb dX10_meetAll_66 (lv_at hl 0 rfl) ?_
          refine lv_icmp_ge (tgt := 156) hx hb dX10_meetAll_68 (by decide) (fun c68 => ?_) (fun c68 => ?_)
          · skip
            have d68 := c68
            rw [fa_le] at d68
            have ms9 : (okS w.toNatClampNeg h.toNatClampNeg s1 = false) ∨ (okS w.toNatClampNeg h.toNatClampNeg s1 = true ∧ swq w.toNatClampNeg h.toNatClampNeg v5 (bs (okS w.toNatClampNeg h.toNatClampNeg) s1) = false) := by first | exact Or.inr ⟨ok1, (by rw [at9.1]; unfold swB; rw [Bool.and_eq_false_iff, Bool.and_eq_false_iff]; first | exact Or.inr (by rw [bne_eq_false_iff_eq]; exact one_iff.mp (by rw [← o134, ← o146]; exact c149)) | exact Or.inl (Or.inr (by rw [beq_eq_false_iff_ne]; exact fun z9 => c122 (by rw [o107, o119, z9]))) | exact Or.inl (Or.inl (by rw [beq_eq_false_iff_ne]; exact fun z9 => c95 (by rw [o80, o92, z9]))))⟩ | exact Or.inl (by unfold okS okP; rw [Bool.and_eq_false_iff]; first | exact Or.inl (decide_eq_false (by rw [← sx.1, ← sx.2.1]; omega)) | exact Or.inr (decide_eq_false (by rw [← sx.2.2.1, ← sx.2.2.2]; omega)))
            refine lv_iconst (v := 0) hx hb dX10_meetAll_156 (by decide) ?_
            refine lv_istore (lv' := [(13, .int (0 : Int32)), (12, .int v54), (11, .int v48), (10, .int v40), (9, .int v30), (8, .int (nI s1)), (6, .long v5), (0, .ref mo), (1, .int w), (2, .int h), (3, .int k0), (4, .long to0)]) hx hb dX10_meetAll_157 hl (by decide) rfl (fun ls hl => ?_)
            refine lv_iload hx hb dX10_meetAll_159 (lv_at hl 0 rfl) ?_
            refine lv_if_eq (tgt := 234) hx hb dX10_meetAll_161 (by decide) (fun c161 => ?_) (fun c161 => ?_)
            · skip
              have d161 := c161
              rw [fa_eq] at d161
              refine lv_iinc (v := (nI (s1 + 1))) (lv' := [(8, .int (nI (s1 + 1))), (13, .int (0 : Int32)), (12, .int v54), (11, .int v48), (10, .int v40), (9, .int v30), (6, .long v5), (0, .ref mo), (1, .int w), (2, .int h), (3, .int k0), (4, .long to0)]) hx hb dX10_meetAll_234 hl (k := 5) rfl (nI_1 _) (by decide) rfl (fun ls hl => ?_)
              refine lv_goto (tgt := 11) hx hb dX10_meetAll_237 (by decide) ?_
              exact ih_11 (s1 + 1) pl1 rr1 st1 mn1 (by omega) (by first | exact q221.1.1 | assumption) (by first | (have z9 := q221.1.2.1; omega) | omega) (by first | exact q221.1.2.2 | assumption) (by omega) (by first | (rcases ms9 with z9 | ⟨z8, z9⟩; (rw [bs_f z9]; exact j11_5); (rw [bs_t z8, nb_f z9]; exact j11_5)) | (obtain ⟨p1, p2⟩ := q221; rcases p2 with ⟨z1, z2, z3⟩ | ⟨z1, z2, z3, z4⟩ | ⟨z1, z2, z3, z4, z5, z6, z7, z8⟩; (rw [bs_t ok1, nb_o sq1 j11_6 (by rw [← x205]; exact (j11_5.m.isIn _).mpr z1), z3.2.1, z3.2.2.1, z3.2.2.2]; exact j11_5); exact absurd (z3.symm.trans c228) (by decide); (rw [bs_t ok1, show mn_221.toNatClampNeg = mn1.toNatClampNeg + 1 by have y9 := m_cl (x := mn_221) (by omega); have y8 := m_cl (x := mn1) (by omega); omega]; exact (rr_n j11_5 j11_6 sq1 (by rw [← x205]; exact z1) (by omega) z5 (by rw [← x205]; exact z6) z7 d218).1))) (by first | (rcases ms9 with z9 | ⟨z8, z9⟩; (rw [bs_f z9]; exact j11_6); (rw [bs_t z8, nb_f z9]; exact j11_6)) | (obtain ⟨p1, p2⟩ := q221; rcases p2 with ⟨z1, z2, z3⟩ | ⟨z1, z2, z3, z4⟩ | ⟨z1, z2, z3, z4, z5, z6, z7, z8⟩; (rw [bs_t ok1, nb_o sq1 j11_6 (by rw [← x205]; exact (j11_5.m.isIn _).mpr z1)]; exact j11_6); exact absurd (z3.symm.trans c228) (by decide); (rw [bs_t ok1]; exact (rr_n j11_5 j11_6 sq1 (by rw [← x205]; exact z1) (by omega) z5 (by rw [← x205]; exact z6) z7 d218).2))) (by first | (rcases ms9 with z9 | ⟨z8, z9⟩; (rw [bs_f z9]; exact j11_7); (rw [bs_t z8, nb_f z9]; exact j11_7)) | (obtain ⟨p1, p2⟩ := q221; rcases p2 with ⟨z1, z2, z3⟩ | ⟨z1, z2, z3, z4⟩ | ⟨z1, z2, z3, z4, z5, z6, z7, z8⟩; (rw [bs_t ok1, nb_o sq1 j11_6 (by rw [← x205]; exact (j11_5.m.isIn _).mpr z1)]; exact j11_7); exact absurd (z3.symm.trans c228) (by decide); (rw [bs_t ok1]; intro y9; obtain ⟨i9, h1, h2⟩ := ((rr_n j11_5 j11_6 sq1 (by rw [← x205]; exact z1) (by omega) z5 (by rw [← x205]; exact z6) z7 d218).1.m.isIn _).mp y9; by_cases y8 : i9 = mn1.toNatClampNeg; (rw [y8, z6] at h2; rcases z8 with ⟨y7, y6⟩ | ⟨y7, y6⟩; exact absurd (y6.symm.trans c228) (fun y5 => by have y4 := congrArg Int32.toInt y5; rw [d218] at y4; have : (0 : Int32).toInt = 0 := rfl; omega); exact y7 h2); exact j11_7 ((j11_5.m.isIn _).mpr ⟨i9, by omega, ((z5 i9 (by omega)).1).symm.trans h2⟩)))) (by first | (rcases ms9 with z9 | ⟨z8, z9⟩; (exact j11_8); (exact j11_8)) | (obtain ⟨p1, p2⟩ := q221; rcases p2 with ⟨z1, z2, z3⟩ | ⟨z1, z2, z3, z4⟩ | ⟨z1, z2, z3, z4, z5, z6, z7, z8⟩; (rw [z3.1, z3.2.1, z3.2.2.2]; exact j11_8); exact absurd (z3.symm.trans c228) (by decide); (exact z4))) (by first | (rcases ms9 with z9 | ⟨z8, z9⟩; (exact j11_9); (exact j11_9)) | (obtain ⟨p1, p2⟩ := q221; rcases p2 with ⟨z1, z2, z3⟩ | ⟨z1, z2, z3, z4⟩ | ⟨z1, z2, z3, z4, z5, z6, z7, z8⟩; (rw [z3.2.1]; exact j11_9); exact absurd (z3.symm.trans c228) (by decide); (rw [(z5 0 (by omega)).1]; exact j11_9))) (by first | (rcases ms9 with z9 | ⟨z8, z9⟩; (exact j11_10); (exact j11_10)) | (obtain ⟨p1, p2⟩ := q221; rcases p2 with ⟨z1, z2, z3⟩ | ⟨z1, z2, z3, z4⟩ | ⟨z1, z2, z3, z4, z5, z6, z7, z8⟩; (rw [z3.2.2.1]; exact j11_10); exact absurd (z3.symm.trans c228) (by decide); (exact ((z5 k0.toNatClampNeg km9).2).trans j11_10))) (by first | (clear q221; omega) | omega) _ _ hP hS ls (lv_sub hl [0, 6, 7, 8, 9, 10, 11] rfl)
            · first | exact absurd c161 (by decide) | exact absurd (by decide) c161
          · skip
            have d68 := c68
            rw [fa_le] at d68
            have ok1 : okS w.toNatClampNeg h.toNatClampNeg s1 = true := by unfold okS okP; rw [Bool.and_eq_true]; exact ⟨decide_eq_true (by rw [← sx.1, ← sx.2.1]; omega), decide_eq_true (by rw [← sx.2.2.1, ← sx.2.2.2]; omega)⟩
            have fi9 := okS_at hb9 ok1 hs9
            rw [← sx.1, ← sx.2.1, ← sx.2.2.1, ← sx.2.2.2] at fi9
            have lt9 := fo_lt (w := w.toNatClampNeg) (h := h.toNatClampNeg) (y := v30.toNatClampNeg) (v := v40.toNatClampNeg) (x := v48.toNatClampNeg) (u := v54.toNatClampNeg) (by omega) (by omega) (by omega) (by omega) (by omega) (by omega)
            have at9 := swq_at (w := w.toNatClampNeg) (h := h.toNatClampNeg) (p := v5) (y := v30.toNatClampNeg) (v := v40.toNatClampNeg) (x := v48.toNatClampNeg) (u := v54.toNatClampNeg) (by omega) (by omega) (by omega) (by omega) (by omega) (by omega)
            rw [← fi9] at at9 lt9
            have pl9 := sw_pl (w := w.toNatClampNeg) (h := h.toNatClampNeg) (y := v30.toNatClampNeg) (v := v40.toNatClampNeg) (x := v48.toNatClampNeg) (u := v54.toNatClampNeg) (by omega) (by omega) (by omega) (by omega) (by omega) (by omega)
            refine lv_lload hx hb dX10_meetAll_71 (lv_at hl 5 rfl) ?_
            refine lv_iload hx hb dX10_meetAll_73 (lv_at hl 3 rfl) ?_
            refine lv_iload_n hx hb dX10_meetAll_75 rfl (lv_at hl 7 rfl) ?_
            refine lv_imul hx hb dX10_meetAll_76 ?_
            refine lv_topi (fun v76 e76 => ?_)
            refine lv_iload hx hb dX10_meetAll_77 (lv_at hl 1 rfl) ?_
            refine lv_iadd hx hb dX10_meetAll_79 ?_
            refine lv_topi (fun v79 e79 => ?_)
            refine m_pu (As := [.long v5, .int v79]) (rest := []) ⟨hx, hb, hml, hown, hts⟩ (c_X10_one l v5 v79 ) (va_cwS 2 hts gX10_meetAll_X10_one rfl rfl rfl (by decide +kernel) ⟨Nat.le_of_ble_eq_true rfl, Nat.le_of_ble_eq_true rfl⟩) hP rfl hl.1 rfl (Nat.le_of_ble_eq_true rfl) dX10_meetAll_80 ⟨Nat.le_of_ble_eq_true rfl, Nat.le_of_ble_eq_true rfl⟩ hS (fun r80 H locs q80 hP hS => ?_)
            have i80 : r80.toInt = (r_one v5 v79).toInt := congrArg Int32.toInt q80
            have a79 : v79 = nI (v30.toNatClampNeg * w.toNatClampNeg + v48.toNatClampNeg) := by rw [e79, e76]; exact plc9 y30 yw y48
            have o80 : r80 = if lb v5 (v30.toNatClampNeg * w.toNatClampNeg + v48.toNatClampNeg) = true then (1 : Int32) else 0 := by rw [q80, a79, one_lb v5 (by omega)]
            refine lv_lload hx hb dX10_meetAll_83 (lv_at hl 5 rfl) ?_
            refine lv_iload hx hb dX10_meetAll_85 (lv_at hl 2 rfl) ?_
            refine lv_iload_n hx hb dX10_meetAll_87 rfl (lv_at hl 7 rfl) ?_
            refine lv_imul hx hb dX10_meetAll_88 ?_
            refine lv_topi (fun v88 e88 => ?_)
            refine lv_iload hx hb dX10_meetAll_89 (lv_at hl 0 rfl) ?_
            refine lv_iadd hx hb dX10_meetAll_91 ?_
            refine lv_topi (fun v91 e91 => ?_)
            refine m_pu (As := [.long v5, .int v91]) (rest := [.int r80]) ⟨hx, hb, hml, hown, hts⟩ (c_X10_one l v5 v91 ) (va_cwS 2 hts gX10_meetAll_X10_one rfl rfl rfl (by decide +kernel) ⟨Nat.le_of_ble_eq_true rfl, Nat.le_of_ble_eq_true rfl⟩) hP rfl hl.1 rfl (Nat.le_of_ble_eq_true rfl) dX10_meetAll_92 ⟨Nat.le_of_ble_eq_true rfl, Nat.le_of_ble_eq_true rfl⟩ hS (fun r92 H locs q92 hP hS => ?_)
            have i92 : r92.toInt = (r_one v5 v91).toInt := congrArg Int32.toInt q92
            have a91 : v91 = nI (v40.toNatClampNeg * w.toNatClampNeg + v54.toNatClampNeg) := by rw [e91, e88]; exact plc9 y40 yw y54
            have o92 : r92 = if lb v5 (v40.toNatClampNeg * w.toNatClampNeg + v54.toNatClampNeg) = true then (1 : Int32) else 0 := by rw [q92, a91, one_lb v5 (by omega)]
            refine lv_icmp_ne (tgt := 156) hx hb dX10_meetAll_95 (by decide) (fun c95 => ?_) (fun c95 => ?_)
            · skip
              have d95 := c95
              rw [fa_eq] at d95
              have ms9 : (okS w.toNatClampNeg h.toNatClampNeg s1 = false) ∨ (okS w.toNatClampNeg h.toNatClampNeg s1 = true ∧ swq w.toNatClampNeg h.toNatClampNeg v5 (bs (okS w.toNatClampNeg h.toNatClampNeg) s1) = false) := by first | exact Or.inr ⟨ok1, (by rw [at9.1]; unfold swB; rw [Bool.and_eq_false_iff, Bool.and_eq_false_iff]; first | exact Or.inr (by rw [bne_eq_false_iff_eq]; exact one_iff.mp (by rw [← o134, ← o146]; exact c149)) | exact Or.inl (Or.inr (by rw [beq_eq_false_iff_ne]; exact fun z9 => c122 (by rw [o107, o119, z9]))) | exact Or.inl (Or.inl (by rw [beq_eq_false_iff_ne]; exact fun z9 => c95 (by rw [o80, o92, z9]))))⟩ | exact Or.inl (by unfold okS okP; rw [Bool.and_eq_false_iff]; first | exact Or.inl (decide_eq_false (by rw [← sx.1, ← sx.2.1]; omega)) | exact Or.inr (decide_eq_false (by rw [← sx.2.2.1, ← sx.2.2.2]; omega)))
              refine lv_iconst (v := 0) hx hb dX10_meetAll_156 (by decide) ?_
              refine lv_istore (lv' := [(13, .int (0 : Int32)), (12, .int v54), (11, .int v48), (10, .int v40), (9, .int v30), (8, .int (nI s1)), (6, .long v5), (0, .ref mo), (1, .int w), (2, .int h), (3, .int k0), (4, .long to0)]) hx hb dX10_meetAll_157 hl (by decide) rfl (fun ls hl => ?_)
              refine lv_iload hx hb dX10_meetAll_159 (lv_at hl 0 rfl) ?_
              refine lv_if_eq (tgt := 234) hx hb dX10_meetAll_161 (by decide) (fun c161 => ?_) (fun c161 => ?_)
              · skip
                have d161 := c161
                rw [fa_eq] at d161
                refine lv_iinc (v := (nI (s1 + 1))) (lv' := [(8, .int (nI (s1 + 1))), (13, .int (0 : Int32)), (12, .int v54), (11, .int v48), (10, .int v40), (9, .int v30), (6, .long v5), (0, .ref mo), (1, .int w), (2, .int h), (3, .int k0), (4, .long to0)]) hx hb dX10_meetAll_234 hl (k := 5) rfl (nI_1 _) (by decide) rfl (fun ls hl => ?_)
                refine lv_goto (tgt := 11) hx hb dX10_meetAll_237 (by decide) ?_
                exact ih_11 (s1 + 1) pl1 rr1 st1 mn1 (by omega) (by first | exact q221.1.1 | assumption) (by first | (have z9 := q221.1.2.1; omega) | omega) (by first | exact q221.1.2.2 | assumption) (by omega) (by first | (rcases ms9 with z9 | ⟨z8, z9⟩; (rw [bs_f z9]; exact j11_5); (rw [bs_t z8, nb_f z9]; exact j11_5)) | (obtain ⟨p1, p2⟩ := q221; rcases p2 with ⟨z1, z2, z3⟩ | ⟨z1, z2, z3, z4⟩ | ⟨z1, z2, z3, z4, z5, z6, z7, z8⟩; (rw [bs_t ok1, nb_o sq1 j11_6 (by rw [← x205]; exact (j11_5.m.isIn _).mpr z1), z3.2.1, z3.2.2.1, z3.2.2.2]; exact j11_5); exact absurd (z3.symm.trans c228) (by decide); (rw [bs_t ok1, show mn_221.toNatClampNeg = mn1.toNatClampNeg + 1 by have y9 := m_cl (x := mn_221) (by omega); have y8 := m_cl (x := mn1) (by omega); omega]; exact (rr_n j11_5 j11_6 sq1 (by rw [← x205]; exact z1) (by omega) z5 (by rw [← x205]; exact z6) z7 d218).1))) (by first | (rcases ms9 with z9 | ⟨z8, z9⟩; (rw [bs_f z9]; exact j11_6); (rw [bs_t z8, nb_f z9]; exact j11_6)) | (obtain ⟨p1, p2⟩ := q221; rcases p2 with ⟨z1, z2, z3⟩ | ⟨z1, z2, z3, z4⟩ | ⟨z1, z2, z3, z4, z5, z6, z7, z8⟩; (rw [bs_t ok1, nb_o sq1 j11_6 (by rw [← x205]; exact (j11_5.m.isIn _).mpr z1)]; exact j11_6); exact absurd (z3.symm.trans c228) (by decide); (rw [bs_t ok1]; exact (rr_n j11_5 j11_6 sq1 (by rw [← x205]; exact z1) (by omega) z5 (by rw [← x205]; exact z6) z7 d218).2))) (by first | (rcases ms9 with z9 | ⟨z8, z9⟩; (rw [bs_f z9]; exact j11_7); (rw [bs_t z8, nb_f z9]; exact j11_7)) | (obtain ⟨p1, p2⟩ := q221; rcases p2 with ⟨z1, z2, z3⟩ | ⟨z1, z2, z3, z4⟩ | ⟨z1, z2, z3, z4, z5, z6, z7, z8⟩; (rw [bs_t ok1, nb_o sq1 j11_6 (by rw [← x205]; exact (j11_5.m.isIn _).mpr z1)]; exact j11_7); exact absurd (z3.symm.trans c228) (by decide); (rw [bs_t ok1]; intro y9; obtain ⟨i9, h1, h2⟩ := ((rr_n j11_5 j11_6 sq1 (by rw [← x205]; exact z1) (by omega) z5 (by rw [← x205]; exact z6) z7 d218).1.m.isIn _).mp y9; by_cases y8 : i9 = mn1.toNatClampNeg; (rw [y8, z6] at h2; rcases z8 with ⟨y7, y6⟩ | ⟨y7, y6⟩; exact absurd (y6.symm.trans c228) (fun y5 => by have y4 := congrArg Int32.toInt y5; rw [d218] at y4; have : (0 : Int32).toInt = 0 := rfl; omega); exact y7 h2); exact j11_7 ((j11_5.m.isIn _).mpr ⟨i9, by omega, ((z5 i9 (by omega)).1).symm.trans h2⟩)))) (by first | (rcases ms9 with z9 | ⟨z8, z9⟩; (exact j11_8); (exact j11_8)) | (obtain ⟨p1, p2⟩ := q221; rcases p2 with ⟨z1, z2, z3⟩ | ⟨z1, z2, z3, z4⟩ | ⟨z1, z2, z3, z4, z5, z6, z7, z8⟩; (rw [z3.1, z3.2.1, z3.2.2.2]; exact j11_8); exact absurd (z3.symm.trans c228) (by decide); (exact z4))) (by first | (rcases ms9 with z9 | ⟨z8, z9⟩; (exact j11_9); (exact j11_9)) | (obtain ⟨p1, p2⟩ := q221; rcases p2 with ⟨z1, z2, z3⟩ | ⟨z1, z2, z3, z4⟩ | ⟨z1, z2, z3, z4, z5, z6, z7, z8⟩; (rw [z3.2.1]; exact j11_9); exact absurd (z3.symm.trans c228) (by decide); (rw [(z5 0 (by omega)).1]; exact j11_9))) (by first | (rcases ms9 with z9 | ⟨z8, z9⟩; (exact j11_10); (exact j11_10)) | (obtain ⟨p1, p2⟩ := q221; rcases p2 with ⟨z1, z2, z3⟩ | ⟨z1, z2, z3, z4⟩ | ⟨z1, z2, z3, z4, z5, z6, z7, z8⟩; (rw [z3.2.2.1]; exact j11_10); exact absurd (z3.symm.trans c228) (by decide); (exact ((z5 k0.toNatClampNeg km9).2).trans j11_10))) (by first | (clear q221; omega) | omega) _ _ hP hS ls (lv_sub hl [0, 6, 7, 8, 9, 10, 11] rfl)
              · first | exact absurd c161 (by decide) | exact absurd (by decide) c161
            · skip
              have d95 := c95
              rw [fa_eq] at d95
              refine lv_lload hx hb dX10_meetAll_98 (lv_at hl 5 rfl) ?_
              refine lv_iload hx hb dX10_meetAll_100 (lv_at hl 3 rfl) ?_
              refine lv_iload_n hx hb dX10_meetAll_102 rfl (lv_at hl 7 rfl) ?_
              refine lv_imul hx hb dX10_meetAll_103 ?_
              refine lv_topi (fun v103 e103 => ?_)
              refine lv_iload hx hb dX10_meetAll_104 (lv_at hl 0 rfl) ?_
              refine lv_iadd hx hb dX10_meetAll_106 ?_
              refine lv_topi (fun v106 e106 => ?_)
              refine m_pu (As := [.long v5, .int v106]) (rest := []) ⟨hx, hb, hml, hown, hts⟩ (c_X10_one l v5 v106 ) (va_cwS 2 hts gX10_meetAll_X10_one rfl rfl rfl (by decide +kernel) ⟨Nat.le_of_ble_eq_true rfl, Nat.le_of_ble_eq_true rfl⟩) hP rfl hl.1 rfl (Nat.le_of_ble_eq_true rfl) dX10_meetAll_107 ⟨Nat.le_of_ble_eq_true rfl, Nat.le_of_ble_eq_true rfl⟩ hS (fun r107 H locs q107 hP hS => ?_)
              have i107 : r107.toInt = (r_one v5 v106).toInt := congrArg Int32.toInt q107
              have a106 : v106 = nI (v30.toNatClampNeg * w.toNatClampNeg + v54.toNatClampNeg) := by rw [e106, e103]; exact plc9 y30 yw y54
              have o107 : r107 = if lb v5 (v30.toNatClampNeg * w.toNatClampNeg + v54.toNatClampNeg) = true then (1 : Int32) else 0 := by rw [q107, a106, one_lb v5 (by omega)]
              refine lv_lload hx hb dX10_meetAll_110 (lv_at hl 5 rfl) ?_
              refine lv_iload hx hb dX10_meetAll_112 (lv_at hl 2 rfl) ?_
              refine lv_iload_n hx hb dX10_meetAll_114 rfl (lv_at hl 7 rfl) ?_
              refine lv_imul hx hb dX10_meetAll_115 ?_
              refine lv_topi (fun v115 e115 => ?_)
              refine lv_iload hx hb dX10_meetAll_116 (lv_at hl 1 rfl) ?_
              refine lv_iadd hx hb dX10_meetAll_118 ?_
              refine lv_topi (fun v118 e118 => ?_)
              refine m_pu (As := [.long v5, .int v118]) (rest := [.int r107]) ⟨hx, hb, hml, hown, hts⟩ (c_X10_one l v5 v118 ) (va_cwS 2 hts gX10_meetAll_X10_one rfl rfl rfl (by decide +kernel) ⟨Nat.le_of_ble_eq_true rfl, Nat.le_of_ble_eq_true rfl⟩) hP rfl hl.1 rfl (Nat.le_of_ble_eq_true rfl) dX10_meetAll_119 ⟨Nat.le_of_ble_eq_true rfl, Nat.le_of_ble_eq_true rfl⟩ hS (fun r119 H locs q119 hP hS => ?_)
              have i119 : r119.toInt = (r_one v5 v118).toInt := congrArg Int32.toInt q119
              have a118 : v118 = nI (v40.toNatClampNeg * w.toNatClampNeg + v48.toNatClampNeg) := by rw [e118, e115]; exact plc9 y40 yw y48
              have o119 : r119 = if lb v5 (v40.toNatClampNeg * w.toNatClampNeg + v48.toNatClampNeg) = true then (1 : Int32) else 0 := by rw [q119, a118, one_lb v5 (by omega)]
              refine lv_icmp_ne (tgt := 156) hx hb dX10_meetAll_122 (by decide) (fun c122 => ?_) (fun c122 => ?_)
              · skip
                have d122 := c122
                rw [fa_eq] at d122
                have ms9 : (okS w.toNatClampNeg h.toNatClampNeg s1 = false) ∨ (okS w.toNatClampNeg h.toNatClampNeg s1 = true ∧ swq w.toNatClampNeg h.toNatClampNeg v5 (bs (okS w.toNatClampNeg h.toNatClampNeg) s1) = false) := by first | exact Or.inr ⟨ok1, (by rw [at9.1]; unfold swB; rw [Bool.and_eq_false_iff, Bool.and_eq_false_iff]; first | exact Or.inr (by rw [bne_eq_false_iff_eq]; exact one_iff.mp (by rw [← o134, ← o146]; exact c149)) | exact Or.inl (Or.inr (by rw [beq_eq_false_iff_ne]; exact fun z9 => c122 (by rw [o107, o119, z9]))) | exact Or.inl (Or.inl (by rw [beq_eq_false_iff_ne]; exact fun z9 => c95 (by rw [o80, o92, z9]))))⟩ | exact Or.inl (by unfold okS okP; rw [Bool.and_eq_false_iff]; first | exact Or.inl (decide_eq_false (by rw [← sx.1, ← sx.2.1]; omega)) | exact Or.inr (decide_eq_false (by rw [← sx.2.2.1, ← sx.2.2.2]; omega)))
                refine lv_iconst (v := 0) hx hb dX10_meetAll_156 (by decide) ?_
                refine lv_istore (lv' := [(13, .int (0 : Int32)), (12, .int v54), (11, .int v48), (10, .int v40), (9, .int v30), (8, .int (nI s1)), (6, .long v5), (0, .ref mo), (1, .int w), (2, .int h), (3, .int k0), (4, .long to0)]) hx hb dX10_meetAll_157 hl (by decide) rfl (fun ls hl => ?_)
                refine lv_iload hx hb dX10_meetAll_159 (lv_at hl 0 rfl) ?_
                refine lv_if_eq (tgt := 234) hx hb dX10_meetAll_161 (by decide) (fun c161 => ?_) (fun c161 => ?_)
                · skip
                  have d161 := c161
                  rw [fa_eq] at d161
                  refine lv_iinc (v := (nI (s1 + 1))) (lv' := [(8, .int (nI (s1 + 1))), (13, .int (0 : Int32)), (12, .int v54), (11, .int v48), (10, .int v40), (9, .int v30), (6, .long v5), (0, .ref mo), (1, .int w), (2, .int h), (3, .int k0), (4, .long to0)]) hx hb dX10_meetAll_234 hl (k := 5) rfl (nI_1 _) (by decide) rfl (fun ls hl => ?_)
                  refine lv_goto (tgt := 11) hx hb dX10_meetAll_237 (by decide) ?_
                  exact ih_11 (s1 + 1) pl1 rr1 st1 mn1 (by omega) (by first | exact q221.1.1 | assumption) (by first | (have z9 := q221.1.2.1; omega) | omega) (by first | exact q221.1.2.2 | assumption) (by omega) (by first | (rcases ms9 with z9 | ⟨z8, z9⟩; (rw [bs_f z9]; exact j11_5); (rw [bs_t z8, nb_f z9]; exact j11_5)) | (obtain ⟨p1, p2⟩ := q221; rcases p2 with ⟨z1, z2, z3⟩ | ⟨z1, z2, z3, z4⟩ | ⟨z1, z2, z3, z4, z5, z6, z7, z8⟩; (rw [bs_t ok1, nb_o sq1 j11_6 (by rw [← x205]; exact (j11_5.m.isIn _).mpr z1), z3.2.1, z3.2.2.1, z3.2.2.2]; exact j11_5); exact absurd (z3.symm.trans c228) (by decide); (rw [bs_t ok1, show mn_221.toNatClampNeg = mn1.toNatClampNeg + 1 by have y9 := m_cl (x := mn_221) (by omega); have y8 := m_cl (x := mn1) (by omega); omega]; exact (rr_n j11_5 j11_6 sq1 (by rw [← x205]; exact z1) (by omega) z5 (by rw [← x205]; exact z6) z7 d218).1))) (by first | (rcases ms9 with z9 | ⟨z8, z9⟩; (rw [bs_f z9]; exact j11_6); (rw [bs_t z8, nb_f z9]; exact j11_6)) | (obtain ⟨p1, p2⟩ := q221; rcases p2 with ⟨z1, z2, z3⟩ | ⟨z1, z2, z3, z4⟩ | ⟨z1, z2, z3, z4, z5, z6, z7, z8⟩; (rw [bs_t ok1, nb_o sq1 j11_6 (by rw [← x205]; exact (j11_5.m.isIn _).mpr z1)]; exact j11_6); exact absurd (z3.symm.trans c228) (by decide); (rw [bs_t ok1]; exact (rr_n j11_5 j11_6 sq1 (by rw [← x205]; exact z1) (by omega) z5 (by rw [← x205]; exact z6) z7 d218).2))) (by first | (rcases ms9 with z9 | ⟨z8, z9⟩; (rw [bs_f z9]; exact j11_7); (rw [bs_t z8, nb_f z9]; exact j11_7)) | (obtain ⟨p1, p2⟩ := q221; rcases p2 with ⟨z1, z2, z3⟩ | ⟨z1, z2, z3, z4⟩ | ⟨z1, z2, z3, z4, z5, z6, z7, z8⟩; (rw [bs_t ok1, nb_o sq1 j11_6 (by rw [← x205]; exact (j11_5.m.isIn _).mpr z1)]; exact j11_7); exact absurd (z3.symm.trans c228) (by decide); (rw [bs_t ok1]; intro y9; obtain ⟨i9, h1, h2⟩ := ((rr_n j11_5 j11_6 sq1 (by rw [← x205]; exact z1) (by omega) z5 (by rw [← x205]; exact z6) z7 d218).1.m.isIn _).mp y9; by_cases y8 : i9 = mn1.toNatClampNeg; (rw [y8, z6] at h2; rcases z8 with ⟨y7, y6⟩ | ⟨y7, y6⟩; exact absurd (y6.symm.trans c228) (fun y5 => by have y4 := congrArg Int32.toInt y5; rw [d218] at y4; have : (0 : Int32).toInt = 0 := rfl; omega); exact y7 h2); exact j11_7 ((j11_5.m.isIn _).mpr ⟨i9, by omega, ((z5 i9 (by omega)).1).symm.trans h2⟩)))) (by first | (rcases ms9 with z9 | ⟨z8, z9⟩; (exact j11_8); (exact j11_8)) | (obtain ⟨p1, p2⟩ := q221; rcases p2 with ⟨z1, z2, z3⟩ | ⟨z1, z2, z3, z4⟩ | ⟨z1, z2, z3, z4, z5, z6, z7, z8⟩; (rw [z3.1, z3.2.1, z3.2.2.2]; exact j11_8); exact absurd (z3.symm.trans c228) (by decide); (exact z4))) (by first | (rcases ms9 with z9 | ⟨z8, z9⟩; (exact j11_9); (exact j11_9)) | (obtain ⟨p1, p2⟩ := q221; rcases p2 with ⟨z1, z2, z3⟩ | ⟨z1, z2, z3, z4⟩ | ⟨z1, z2, z3, z4, z5, z6, z7, z8⟩; (rw [z3.2.1]; exact j11_9); exact absurd (z3.symm.trans c228) (by decide); (rw [(z5 0 (by omega)).1]; exact j11_9))) (by first | (rcases ms9 with z9 | ⟨z8, z9⟩; (exact j11_10); (exact j11_10)) | (obtain ⟨p1, p2⟩ := q221; rcases p2 with ⟨z1, z2, z3⟩ | ⟨z1, z2, z3, z4⟩ | ⟨z1, z2, z3, z4, z5, z6, z7, z8⟩; (rw [z3.2.2.1]; exact j11_10); exact absurd (z3.symm.trans c228) (by decide); (exact ((z5 k0.toNatClampNeg km9).2).trans j11_10))) (by first | (clear q221; omega) | omega) _ _ hP hS ls (lv_sub hl [0, 6, 7, 8, 9, 10, 11] rfl)
                · first | exact absurd c161 (by decide) | exact absurd (by decide) c161
              · skip
                have d122 := c122
                rw [fa_eq] at d122
                refine lv_lload hx hb dX10_meetAll_125 (lv_at hl 5 rfl) ?_
                refine lv_iload hx hb dX10_meetAll_127 (lv_at hl 3 rfl) ?_
                refine lv_iload_n hx hb dX10_meetAll_129 rfl (lv_at hl 7 rfl) ?_
                refine lv_imul hx hb dX10_meetAll_130 ?_
                refine lv_topi (fun v130 e130 => ?_)
                refine lv_iload hx hb dX10_meetAll_131 (lv_at hl 1 rfl) ?_
                refine lv_iadd hx hb dX10_meetAll_133 ?_
                refine lv_topi (fun v133 e133 => ?_)
                refine m_pu (As := [.long v5, .int v133]) (rest := []) ⟨hx, hb, hml, hown, hts⟩ (c_X10_one l v5 v133 ) (va_cwS 2 hts gX10_meetAll_X10_one rfl rfl rfl (by decide +kernel) ⟨Nat.le_of_ble_eq_true rfl, Nat.le_of_ble_eq_true rfl⟩) hP rfl hl.1 rfl (Nat.le_of_ble_eq_true rfl) dX10_meetAll_134 ⟨Nat.le_of_ble_eq_true rfl, Nat.le_of_ble_eq_true rfl⟩ hS (fun r134 H locs q134 hP hS => ?_)
                have i134 : r134.toInt = (r_one v5 v133).toInt := congrArg Int32.toInt q134
                have a133 : v133 = nI (v30.toNatClampNeg * w.toNatClampNeg + v48.toNatClampNeg) := by rw [e133, e130]; exact plc9 y30 yw y48
                have o134 : r134 = if lb v5 (v30.toNatClampNeg * w.toNatClampNeg + v48.toNatClampNeg) = true then (1 : Int32) else 0 := by rw [q134, a133, one_lb v5 (by omega)]
                refine lv_lload hx hb dX10_meetAll_137 (lv_at hl 5 rfl) ?_
                refine lv_iload hx hb dX10_meetAll_139 (lv_at hl 3 rfl) ?_
                refine lv_iload_n hx hb dX10_meetAll_141 rfl (lv_at hl 7 rfl) ?_
                refine lv_imul hx hb dX10_meetAll_142 ?_
                refine lv_topi (fun v142 e142 => ?_)
                refine lv_iload hx hb dX10_meetAll_143 (lv_at hl 0 rfl) ?_
                refine lv_iadd hx hb dX10_meetAll_145 ?_
                refine lv_topi (fun v145 e145 => ?_)
                refine m_pu (As := [.long v5, .int v145]) (rest := [.int r134]) ⟨hx, hb, hml, hown, hts⟩ (c_X10_one l v5 v145 ) (va_cwS 2 hts gX10_meetAll_X10_one rfl rfl rfl (by decide +kernel) ⟨Nat.le_of_ble_eq_true rfl, Nat.le_of_ble_eq_true rfl⟩) hP rfl hl.1 rfl (Nat.le_of_ble_eq_true rfl) dX10_meetAll_146 ⟨Nat.le_of_ble_eq_true rfl, Nat.le_of_ble_eq_true rfl⟩ hS (fun r146 H locs q146 hP hS => ?_)
                have i146 : r146.toInt = (r_one v5 v145).toInt := congrArg Int32.toInt q146
                have a145 : v145 = nI (v30.toNatClampNeg * w.toNatClampNeg + v54.toNatClampNeg) := by rw [e145, e142]; exact plc9 y30 yw y54
                have o146 : r146 = if lb v5 (v30.toNatClampNeg * w.toNatClampNeg + v54.toNatClampNeg) = true then (1 : Int32) else 0 := by rw [q146, a145, one_lb v5 (by omega)]
                refine lv_icmp_eq (tgt := 156) hx hb dX10_meetAll_149 (by decide) (fun c149 => ?_) (fun c149 => ?_)
                · skip
                  have d149 := c149
                  rw [fa_eq] at d149
                  have ms9 : (okS w.toNatClampNeg h.toNatClampNeg s1 = false) ∨ (okS w.toNatClampNeg h.toNatClampNeg s1 = true ∧ swq w.toNatClampNeg h.toNatClampNeg v5 (bs (okS w.toNatClampNeg h.toNatClampNeg) s1) = false) := by first | exact Or.inr ⟨ok1, (by rw [at9.1]; unfold swB; rw [Bool.and_eq_false_iff, Bool.and_eq_false_iff]; first | exact Or.inr (by rw [bne_eq_false_iff_eq]; exact one_iff.mp (by rw [← o134, ← o146]; exact c149)) | exact Or.inl (Or.inr (by rw [beq_eq_false_iff_ne]; exact fun z9 => c122 (by rw [o107, o119, z9]))) | exact Or.inl (Or.inl (by rw [beq_eq_false_iff_ne]; exact fun z9 => c95 (by rw [o80, o92, z9]))))⟩ | exact Or.inl (by unfold okS okP; rw [Bool.and_eq_false_iff]; first | exact Or.inl (decide_eq_false (by rw [← sx.1, ← sx.2.1]; omega)) | exact Or.inr (decide_eq_false (by rw [← sx.2.2.1, ← sx.2.2.2]; omega)))
                  refine lv_iconst (v := 0) hx hb dX10_meetAll_156 (by decide) ?_
                  refine lv_istore (lv' := [(13, .int (0 : Int32)), (12, .int v54), (11, .int v48), (10, .int v40), (9, .int v30), (8, .int (nI s1)), (6, .long v5), (0, .ref mo), (1, .int w), (2, .int h), (3, .int k0), (4, .long to0)]) hx hb dX10_meetAll_157 hl (by decide) rfl (fun ls hl => ?_)
                  refine lv_iload hx hb dX10_meetAll_159 (lv_at hl 0 rfl) ?_
                  refine lv_if_eq (tgt := 234) hx hb dX10_meetAll_161 (by decide) (fun c161 => ?_) (fun c161 => ?_)
                  · skip
                    have d161 := c161
                    rw [fa_eq] at d161
                    refine lv_iinc (v := (nI (s1 + 1))) (lv' := [(8, .int (nI (s1 + 1))), (13, .int (0 : Int32)), (12, .int v54), (11, .int v48), (10, .int v40), (9, .int v30), (6, .long v5), (0, .ref mo), (1, .int w), (2, .int h), (3, .int k0), (4, .long to0)]) hx hb dX10_meetAll_234 hl (k := 5) rfl (nI_1 _) (by decide) rfl (fun ls hl => ?_)
                    refine lv_goto (tgt := 11) hx hb dX10_meetAll_237 (by decide) ?_
                    exact ih_11 (s1 + 1) pl1 rr1 st1 mn1 (by omega) (by first | exact q221.1.1 | assumption) (by first | (have z9 := q221.1.2.1; omega) | omega) (by first | exact q221.1.2.2 | assumption) (by omega) (by first | (rcases ms9 with z9 | ⟨z8, z9⟩; (rw [bs_f z9]; exact j11_5); (rw [bs_t z8, nb_f z9]; exact j11_5)) | (obtain ⟨p1, p2⟩ := q221; rcases p2 with ⟨z1, z2, z3⟩ | ⟨z1, z2, z3, z4⟩ | ⟨z1, z2, z3, z4, z5, z6, z7, z8⟩; (rw [bs_t ok1, nb_o sq1 j11_6 (by rw [← x205]; exact (j11_5.m.isIn _).mpr z1), z3.2.1, z3.2.2.1, z3.2.2.2]; exact j11_5); exact absurd (z3.symm.trans c228) (by decide); (rw [bs_t ok1, show mn_221.toNatClampNeg = mn1.toNatClampNeg + 1 by have y9 := m_cl (x := mn_221) (by omega); have y8 := m_cl (x := mn1) (by omega); omega]; exact (rr_n j11_5 j11_6 sq1 (by rw [← x205]; exact z1) (by omega) z5 (by rw [← x205]; exact z6) z7 d218).1))) (by first | (rcases ms9 with z9 | ⟨z8, z9⟩; (rw [bs_f z9]; exact j11_6); (rw [bs_t z8, nb_f z9]; exact j11_6)) | (obtain ⟨p1, p2⟩ := q221; rcases p2 with ⟨z1, z2, z3⟩ | ⟨z1, z2, z3, z4⟩ | ⟨z1, z2, z3, z4, z5, z6, z7, z8⟩; (rw [bs_t ok1, nb_o sq1 j11_6 (by rw [← x205]; exact (j11_5.m.isIn _).mpr z1)]; exact j11_6); exact absurd (z3.symm.trans c228) (by decide); (rw [bs_t ok1]; exact (rr_n j11_5 j11_6 sq1 (by rw [← x205]; exact z1) (by omega) z5 (by rw [← x205]; exact z6) z7 d218).2))) (by first | (rcases ms9 with z9 | ⟨z8, z9⟩; (rw [bs_f z9]; exact j11_7); (rw [bs_t z8, nb_f z9]; exact j11_7)) | (obtain ⟨p1, p2⟩ := q221; rcases p2 with ⟨z1, z2, z3⟩ | ⟨z1, z2, z3, z4⟩ | ⟨z1, z2, z3, z4, z5, z6, z7, z8⟩; (rw [bs_t ok1, nb_o sq1 j11_6 (by rw [← x205]; exact (j11_5.m.isIn _).mpr z1)]; exact j11_7); exact absurd (z3.symm.trans c228) (by decide); (rw [bs_t ok1]; intro y9; obtain ⟨i9, h1, h2⟩ := ((rr_n j11_5 j11_6 sq1 (by rw [← x205]; exact z1) (by omega) z5 (by rw [← x205]; exact z6) z7 d218).1.m.isIn _).mp y9; by_cases y8 : i9 = mn1.toNatClampNeg; (rw [y8, z6] at h2; rcases z8 with ⟨y7, y6⟩ | ⟨y7, y6⟩; exact absurd (y6.symm.trans c228) (fun y5 => by have y4 := congrArg Int32.toInt y5; rw [d218] at y4; have : (0 : Int32).toInt = 0 := rfl; omega); exact y7 h2); exact j11_7 ((j11_5.m.isIn _).mpr ⟨i9, by omega, ((z5 i9 (by omega)).1).symm.trans h2⟩)))) (by first | (rcases ms9 with z9 | ⟨z8, z9⟩; (exact j11_8); (exact j11_8)) | (obtain ⟨p1, p2⟩ := q221; rcases p2 with ⟨z1, z2, z3⟩ | ⟨z1, z2, z3, z4⟩ | ⟨z1, z2, z3, z4, z5, z6, z7, z8⟩; (rw [z3.1, z3.2.1, z3.2.2.2]; exact j11_8); exact absurd (z3.symm.trans c228) (by decide); (exact z4))) (by first | (rcases ms9 with z9 | ⟨z8, z9⟩; (exact j11_9); (exact j11_9)) | (obtain ⟨p1, p2⟩ := q221; rcases p2 with ⟨z1, z2, z3⟩ | ⟨z1, z2, z3, z4⟩ | ⟨z1, z2, z3, z4, z5, z6, z7, z8⟩; (rw [z3.2.1]; exact j11_9); exact absurd (z3.symm.trans c228) (by decide); (rw [(z5 0 (by omega)).1]; exact j11_9))) (by first | (rcases ms9 with z9 | ⟨z8, z9⟩; (exact j11_10); (exact j11_10)) | (obtain ⟨p1, p2⟩ := q221; rcases p2 with ⟨z1, z2, z3⟩ | ⟨z1, z2, z3, z4⟩ | ⟨z1, z2, z3, z4, z5, z6, z7, z8⟩; (rw [z3.2.2.1]; exact j11_10); exact absurd (z3.symm.trans c228) (by decide); (exact ((z5 k0.toNatClampNeg km9).2).trans j11_10))) (by first | (clear q221; omega) | omega) _ _ hP hS ls (lv_sub hl [0, 6, 7, 8, 9, 10, 11] rfl)
                  · first | exact absurd c161 (by decide) | exact absurd (by decide) c161
                · skip
                  have d149 := c149
                  rw [fa_eq] at d149
                  refine lv_iconst (v := 1) hx hb dX10_meetAll_152 (by decide) ?_
                  refine lv_goto (tgt := 157) hx hb dX10_meetAll_153 (by decide) ?_
                  refine lv_istore (lv' := [(13, .int (1 : Int32)), (12, .int v54), (11, .int v48), (10, .int v40), (9, .int v30), (8, .int (nI s1)), (6, .long v5), (0, .ref mo), (1, .int w), (2, .int h), (3, .int k0), (4, .long to0)]) hx hb dX10_meetAll_157 hl (by decide) rfl (fun ls hl => ?_)
                  refine lv_iload hx hb dX10_meetAll_159 (lv_at hl 0 rfl) ?_
                  refine lv_if_eq (tgt := 234) hx hb dX10_meetAll_161 (by decide) (fun c161 => ?_) (fun c161 => ?_)
                  · first | exact absurd c161 (by decide) | exact absurd (by decide) c161
                  · skip
                    have d161 := c161
                    rw [fa_eq] at d161
                    have sq1 : swq w.toNatClampNeg h.toNatClampNeg v5 (bs (okS w.toNatClampNeg h.toNatClampNeg) s1) = true := by rw [at9.1]; unfold swB; rw [Bool.and_eq_true, Bool.and_eq_true]; exact ⟨⟨beq_iff_eq.mpr (one_iff.mp (by rw [← o80, ← o92]; exact c95)), beq_iff_eq.mpr (one_iff.mp (by rw [← o107, ← o119]; exact c122))⟩, bne_iff_ne.mpr (fun z9 => c149 (by rw [o134, o146, z9]))⟩
                    refine lv_lload hx hb dX10_meetAll_164 (lv_at hl 6 rfl) ?_
                    refine lv_lconst (v := 1) hx hb dX10_meetAll_166 (by decide) ?_
                    refine lv_iload hx hb dX10_meetAll_167 (lv_at hl 4 rfl) ?_
                    refine lv_iload_n hx hb dX10_meetAll_169 rfl (lv_at hl 8 rfl) ?_
                    refine lv_imul hx hb dX10_meetAll_170 ?_
                    refine lv_topi (fun v170 e170 => ?_)
                    refine lv_iload hx hb dX10_meetAll_171 (lv_at hl 2 rfl) ?_
                    refine lv_iadd hx hb dX10_meetAll_173 ?_
                    refine lv_topi (fun v173 e173 => ?_)
                    refine lv_lshl (v := (1 : Int64) <<< (v173.toInt64 &&& 63)) hx hb dX10_meetAll_174 rfl ?_
                    refine lv_lxor hx hb dX10_meetAll_175 ?_
                    refine lv_topl (fun v175 e175 => ?_)
                    refine lv_lconst (v := 1) hx hb dX10_meetAll_176 (by decide) ?_
                    refine lv_iload hx hb dX10_meetAll_177 (lv_at hl 3 rfl) ?_
                    refine lv_iload_n hx hb dX10_meetAll_179 rfl (lv_at hl 8 rfl) ?_
                    refine lv_imul hx hb dX10_meetAll_180 ?_
                    refine lv_topi (fun v180 e180 => ?_)
                    refine lv_iload hx hb dX10_meetAll_181 (lv_at hl 1 rfl) ?_
                    refine lv_iadd hx hb dX10_meetAll_183 ?_
                    refine lv_topi (fun v183 e183 => ?_)
                    refine lv_lshl (v := (1 : Int64) <<< (v183.toInt64 &&& 63)) hx hb dX10_meetAll_184 rfl ?_
                    refine lv_lxor hx hb dX10_meetAll_185 ?_
                    refine lv_topl (fun v185 e185 => ?_)
                    refine lv_lconst (v := 1) hx hb dX10_meetAll_186 (by decide) ?_
                    refine lv_iload hx hb dX10_meetAll_187 (lv_at hl 4 rfl) ?_
                    refine lv_iload_n hx hb dX10_meetAll_189 rfl (lv_at hl 8 rfl) ?_
                    refine lv_imul hx hb dX10_meetAll_190 ?_
                    refine lv_topi (fun v190 e190 => ?_)
                    refine lv_iload hx hb dX10_meetAll_191 (lv_at hl 1 rfl) ?_
                    refine lv_iadd hx hb dX10_meetAll_193 ?_
                    refine lv_topi (fun v193 e193 => ?_)
                    refine lv_lshl (v := (1 : Int64) <<< (v193.toInt64 &&& 63)) hx hb dX10_meetAll_194 rfl ?_
                    refine lv_lxor hx hb dX10_meetAll_195 ?_
                    refine lv_topl (fun v195 e195 => ?_)
                    refine lv_lconst (v := 1) hx hb dX10_meetAll_196 (by decide) ?_
                    refine lv_iload hx hb dX10_meetAll_197 (lv_at hl 3 rfl) ?_
                    refine lv_iload_n hx hb dX10_meetAll_199 rfl (lv_at hl 8 rfl) ?_
                    refine lv_imul hx hb dX10_meetAll_200 ?_
                    refine lv_topi (fun v200 e200 => ?_)
                    refine lv_iload hx hb dX10_meetAll_201 (lv_at hl 2 rfl) ?_
                    refine lv_iadd hx hb dX10_meetAll_203 ?_
                    refine lv_topi (fun v203 e203 => ?_)
                    refine lv_lshl (v := (1 : Int64) <<< (v203.toInt64 &&& 63)) hx hb dX10_meetAll_204 rfl ?_
                    refine lv_lxor hx hb dX10_meetAll_205 ?_
                    refine lv_topl (fun v205 e205 => ?_)
                    have x205 : v205 = swx w.toNatClampNeg h.toNatClampNeg v5 (bs (okS w.toNatClampNeg h.toNatClampNeg) s1) := by
                      rw [at9.2, e205, e195, e185, e175, show v173 = nI (v30.toNatClampNeg * w.toNatClampNeg + v48.toNatClampNeg) from (by rw [e173, e170]; exact plc9 y30 yw y48), show v183 = nI (v40.toNatClampNeg * w.toNatClampNeg + v54.toNatClampNeg) from (by rw [e183, e180]; exact plc9 y40 yw y54), show v193 = nI (v30.toNatClampNeg * w.toNatClampNeg + v54.toNatClampNeg) from (by rw [e193, e190]; exact plc9 y30 yw y54), show v203 = nI (v40.toNatClampNeg * w.toNatClampNeg + v48.toNatClampNeg) from (by rw [e203, e200]; exact plc9 y40 yw y48)]
                      rfl
                    refine lv_lstore (lv' := [(14, .long v205), (13, .int (1 : Int32)), (12, .int v54), (11, .int v48), (10, .int v40), (9, .int v30), (8, .int (nI s1)), (6, .long v5), (0, .ref mo), (1, .int w), (2, .int h), (3, .int k0), (4, .long to0)]) hx hb dX10_meetAll_206 hl (by decide) rfl (fun ls hl => ?_)
                    refine lv_aload_n hx hb dX10_meetAll_208 rfl (lv_at hl 8 rfl) ?_
                    refine lv_lload hx hb dX10_meetAll_209 (lv_at hl 0 rfl) ?_
                    refine lv_aload_n hx hb dX10_meetAll_211 rfl (lv_at hl 8 rfl) ?_
                    refine m_get (v := .ref (a 20)) hx hb hts hin hown hK hP 20 (by decide) rfl (hts (.fieldLink RX10 45 "ShadowBenchModel" "steps" "[I") (by decide +kernel)) rfl dX10_meetAll_212 ?_
                    refine lv_iload_n hx hb dX10_meetAll_215 rfl (lv_at hl 11 rfl) ?_
                    refine m_iald (w := st1) hx hb hK hP 12 rfl (vp_in_iff.mpr ⟨by omega, by omega⟩) dX10_meetAll_216 ?_
                    refine lv_topi (fun v216 e216 => ?_)
                    have i216 : v216.toInt = (st1 k0.toNatClampNeg).toInt := congrArg Int32.toInt e216
                    have d216 : v216.toInt = (((bfA w.toNatClampNeg h.toNatClampNeg (st0 (q 19 0)) k0.toNatClampNeg).2.1 k0.toNatClampNeg : Nat) : Int) := by have z9 := (hS1.2 _ hk9).2; rw [← j11_10, ← e216] at z9; exact z9
                    refine lv_iconst (v := 1) hx hb dX10_meetAll_217 (by decide) ?_
                    refine lv_iadd hx hb dX10_meetAll_218 ?_
                    refine lv_topi (fun v218 e218 => ?_)
                    have i218 : v218.toInt = v216.toInt + (1 : Int32).toInt := by rw [e218]; exact fb_addI (by omega) (by omega)
                    have d218 : v218.toInt = (((bfA w.toNatClampNeg h.toNatClampNeg (st0 (q 19 0)) k0.toNatClampNeg).2.1 k0.toNatClampNeg + 1 : Nat) : Int) := by omega
                    refine lv_lload hx hb dX10_meetAll_219 (lv_at hl 12 rfl) ?_
                    refine m_calli (As := [.long v205, .int v218, .long to0]) (rest := []) ⟨hx, hb, hml, hown, hts⟩ (c_X10_meet_x l D cy mo a (upd f 22 mn1) g (va_up (va_up r 21 pl1) 20 st1) (va_up q 19 rr1) v205 v218 to0 hD j11_1 (show 1 ≤ mn1.toInt ∧ mn1.toInt ≤ 20000 by omega) j11_3 j11_8) (cwV 3 hts gX10_meetAll_X10_meet rfl rfl rfl (by decide +kernel) ⟨Nat.le_of_ble_eq_true rfl, Nat.le_of_ble_eq_true rfl⟩) hK hP rfl hl.1 rfl (Nat.le_of_ble_eq_true rfl) dX10_meetAll_221 ⟨Nat.le_of_ble_eq_true rfl, Nat.le_of_ble_eq_true rfl⟩ hS (fun r221 u H locs q221 hP hS => ?_)
                    obtain ⟨pl_221, rr_221, st_221, mn_221, rfl, q221⟩ := q221
                    have hP : va_P D vwCl (WM cy mo a (upd f 22 mn_221) g (va_up (va_up r 21 pl_221) 20 st_221) (va_up q 19 rr_221)) H := hP
                    have q221 : (PB pl_221 ∧ ((mn1).toInt ≤ mn_221.toInt ∧ mn_221.toInt ≤ 20000) ∧ (ct21 pl_221 : Int) ≤ mn_221.toInt) ∧ (((∃ i, i < (mn1).toNatClampNeg ∧ (va_up q 19 rr1) 19 i = v205) ∧ r221 = 0 ∧ pl_221 = (va_up (va_up r 21 pl1) 20 st1) 21 ∧ rr_221 = (va_up q 19 rr1) 19 ∧ st_221 = (va_up (va_up r 21 pl1) 20 st1) 20 ∧ mn_221 = (upd f 22 mn1) 22) ∨ (¬ (∃ i, i < (mn1).toNatClampNeg ∧ (va_up q 19 rr1) 19 i = v205) ∧ (mn1).toInt = 20000 ∧ r221 = -5 ∧ pl_221 = (va_up (va_up r 21 pl1) 20 st1) 21 ∧ rr_221 = (va_up q 19 rr1) 19 ∧ st_221 = (va_up (va_up r 21 pl1) 20 st1) 20 ∧ mn_221 = (upd f 22 mn1) 22) ∨ (¬ (∃ i, i < (mn1).toNatClampNeg ∧ (va_up q 19 rr1) 19 i = v205) ∧ (mn1).toInt < 20000 ∧ mn_221.toInt = (mn1).toInt + 1 ∧ tabOk 65536 hR (ocR pl_221) rr_221 mn_221.toNatClampNeg ∧ (∀ i, i < (mn1).toNatClampNeg → rr_221 i = (va_up q 19 rr1) 19 i ∧ st_221 i = (va_up (va_up r 21 pl1) 20 st1) 20 i) ∧ rr_221 (mn1).toNatClampNeg = v205 ∧ st_221 (mn1).toNatClampNeg = v218 ∧ ((v205 = to0 ∧ r221 = v218) ∨ (¬ v205 = to0 ∧ r221 = 0)))) := q221
                    refine lv_istore (lv' := [(16, .int r221), (14, .long v205), (13, .int (1 : Int32)), (12, .int v54), (11, .int v48), (10, .int v40), (9, .int v30), (8, .int (nI s1)), (6, .long v5), (0, .ref mo), (1, .int w), (2, .int h), (3, .int k0), (4, .long to0)]) hx hb dX10_meetAll_224 hl (by decide) rfl (fun ls hl => ?_)
                    refine lv_iload hx hb dX10_meetAll_226 (lv_at hl 0 rfl) ?_
                    refine lv_if_eq (tgt := 234) hx hb dX10_meetAll_228 (by decide) (fun c228 => ?_) (fun c228 => ?_)
                    · skip
                      have d228 := c228
                      rw [fa_eq] at d228
                      refine lv_iinc (v := (nI (s1 + 1))) (lv' := [(8, .int (nI (s1 + 1))), (16, .int r221), (14, .long v205), (13, .int (1 : Int32)), (12, .int v54), (11, .int v48), (10, .int v40), (9, .int v30), (6, .long v5), (0, .ref mo), (1, .int w), (2, .int h), (3, .int k0), (4, .long to0)]) hx hb dX10_meetAll_234 hl (k := 7) rfl (nI_1 _) (by decide) rfl (fun ls hl => ?_)
                      refine lv_goto (tgt := 11) hx hb dX10_meetAll_237 (by decide) ?_
                      exact ih_11 (s1 + 1) pl_221 rr_221 st_221 mn_221 (by omega) (by first | exact q221.1.1 | assumption) (by first | (have z9 := q221.1.2.1; omega) | omega) (by first | exact q221.1.2.2 | assumption) (by omega) (by first | (rcases ms9 with z9 | ⟨z8, z9⟩; (rw [bs_f z9]; exact j11_5); (rw [bs_t z8, nb_f z9]; exact j11_5)) | (obtain ⟨p1, p2⟩ := q221; rcases p2 with ⟨z1, z2, z3⟩ | ⟨z1, z2, z3, z4⟩ | ⟨z1, z2, z3, z4, z5, z6, z7, z8⟩; (rw [bs_t ok1, nb_o sq1 j11_6 (by rw [← x205]; exact (j11_5.m.isIn _).mpr z1), z3.2.1, z3.2.2.1, z3.2.2.2]; exact j11_5); exact absurd (z3.symm.trans c228) (by decide); (rw [bs_t ok1, show mn_221.toNatClampNeg = mn1.toNatClampNeg + 1 by have y9 := m_cl (x := mn_221) (by omega); have y8 := m_cl (x := mn1) (by omega); omega]; exact (rr_n j11_5 j11_6 sq1 (by rw [← x205]; exact z1) (by omega) z5 (by rw [← x205]; exact z6) z7 d218).1))) (by first | (rcases ms9 with z9 | ⟨z8, z9⟩; (rw [bs_f z9]; exact j11_6); (rw [bs_t z8, nb_f z9]; exact j11_6)) | (obtain ⟨p1, p2⟩ := q221; rcases p2 with ⟨z1, z2, z3⟩ | ⟨z1, z2, z3, z4⟩ | ⟨z1, z2, z3, z4, z5, z6, z7, z8⟩; (rw [bs_t ok1, nb_o sq1 j11_6 (by rw [← x205]; exact (j11_5.m.isIn _).mpr z1)]; exact j11_6); exact absurd (z3.symm.trans c228) (by decide); (rw [bs_t ok1]; exact (rr_n j11_5 j11_6 sq1 (by rw [← x205]; exact z1) (by omega) z5 (by rw [← x205]; exact z6) z7 d218).2))) (by first | (rcases ms9 with z9 | ⟨z8, z9⟩; (rw [bs_f z9]; exact j11_7); (rw [bs_t z8, nb_f z9]; exact j11_7)) | (obtain ⟨p1, p2⟩ := q221; rcases p2 with ⟨z1, z2, z3⟩ | ⟨z1, z2, z3, z4⟩ | ⟨z1, z2, z3, z4, z5, z6, z7, z8⟩; (rw [bs_t ok1, nb_o sq1 j11_6 (by rw [← x205]; exact (j11_5.m.isIn _).mpr z1)]; exact j11_7); exact absurd (z3.symm.trans c228) (by decide); (rw [bs_t ok1]; intro y9; obtain ⟨i9, h1, h2⟩ := ((rr_n j11_5 j11_6 sq1 (by rw [← x205]; exact z1) (by omega) z5 (by rw [← x205]; exact z6) z7 d218).1.m.isIn _).mp y9; by_cases y8 : i9 = mn1.toNatClampNeg; (rw [y8, z6] at h2; rcases z8 with ⟨y7, y6⟩ | ⟨y7, y6⟩; exact absurd (y6.symm.trans c228) (fun y5 => by have y4 := congrArg Int32.toInt y5; rw [d218] at y4; have : (0 : Int32).toInt = 0 := rfl; omega); exact y7 h2); exact j11_7 ((j11_5.m.isIn _).mpr ⟨i9, by omega, ((z5 i9 (by omega)).1).symm.trans h2⟩)))) (by first | (rcases ms9 with z9 | ⟨z8, z9⟩; (exact j11_8); (exact j11_8)) | (obtain ⟨p1, p2⟩ := q221; rcases p2 with ⟨z1, z2, z3⟩ | ⟨z1, z2, z3, z4⟩ | ⟨z1, z2, z3, z4, z5, z6, z7, z8⟩; (rw [z3.1, z3.2.1, z3.2.2.2]; exact j11_8); exact absurd (z3.symm.trans c228) (by decide); (exact z4))) (by first | (rcases ms9 with z9 | ⟨z8, z9⟩; (exact j11_9); (exact j11_9)) | (obtain ⟨p1, p2⟩ := q221; rcases p2 with ⟨z1, z2, z3⟩ | ⟨z1, z2, z3, z4⟩ | ⟨z1, z2, z3, z4, z5, z6, z7, z8⟩; (rw [z3.2.1]; exact j11_9); exact absurd (z3.symm.trans c228) (by decide); (rw [(z5 0 (by omega)).1]; exact j11_9))) (by first | (rcases ms9 with z9 | ⟨z8, z9⟩; (exact j11_10); (exact j11_10)) | (obtain ⟨p1, p2⟩ := q221; rcases p2 with ⟨z1, z2, z3⟩ | ⟨z1, z2, z3, z4⟩ | ⟨z1, z2, z3, z4, z5, z6, z7, z8⟩; (rw [z3.2.2.1]; exact j11_10); exact absurd (z3.symm.trans c228) (by decide); (exact ((z5 k0.toNatClampNeg km9).2).trans j11_10))) (by first | (clear q221; omega) | omega) _ _ hP hS ls (lv_sub hl [0, 8, 9, 10, 11, 12, 13] rfl)
                    · skip
                      have d228 := c228
                      rw [fa_eq] at d228
                      refine lv_iload hx hb dX10_meetAll_231 (lv_at hl 0 rfl) ?_
                      exact W.iret (v := r221) hx hb hr (fun t ht hW => ⟨⟨_, ((upd f 22 mn_221), g, (va_up (va_up r 21 pl_221) 20 st_221), (va_up q 19 rr_221)), rfl, ⟨pl_221, rr_221, st_221, mn_221, rfl, (by have eb : (bfA w.toNatClampNeg h.toNatClampNeg (st0 (q 19 0)) (k0.toNatClampNeg + 1)) = (nbA w.toNatClampNeg h.toNatClampNeg v5 ((bfA w.toNatClampNeg h.toNatClampNeg (st0 (q 19 0)) k0.toNatClampNeg).2.1 k0.toNatClampNeg + 1) (bfA w.toNatClampNeg h.toNatClampNeg (st0 (q 19 0)) k0.toNatClampNeg) (cfo w.toNatClampNeg h.toNatClampNeg)) := (by rw [x5]; rfl); obtain ⟨p1, p2⟩ := q221; refine ⟨⟨p1.1, by omega, p1.2.2⟩, ?_, ?_⟩; (rcases p2 with ⟨z1, z2, z3⟩ | ⟨z1, z2, z3, z4⟩ | ⟨z1, z2, z3, z4, z5, z6, z7, z8⟩; exact absurd z2 c228; (rw [z4.2.1]; exact j11_9); (rw [(z5 0 (by omega)).1]; exact j11_9)); (rcases p2 with ⟨z1, z2, z3⟩ | ⟨z1, z2, z3, z4⟩ | ⟨z1, z2, z3, z4, z5, z6, z7, z8⟩; exact absurd z2 c228; (have z0 := rl_f j11_5.m j11_6 sq1 (by rw [← x205]; exact z1) (by omega) lt9; exact Or.inr (Or.inl ⟨(by rw [eb]; exact fun y9 => j11_7 ((j11_5.m.isIn _).mpr ((z0.1.isIn _).mp y9))), (by rw [eb]; exact z0.2), z3⟩)); (rcases z8 with ⟨y1, y2⟩ | ⟨y1, y2⟩; exact Or.inl ⟨(by rw [y2]; exact d218), (by rw [eb, ← y1, x205]; exact rr_in j11_5.m j11_6 sq1 (by rw [← x205]; exact z1) (by omega) (fun i9 h9 => (z5 i9 h9).1) (by rw [← x205]; exact z6) lt9)⟩; exact absurd y2 c228)))⟩, by unfold mB; rw [ht]; exact hP⟩, hS.F ht⟩) hS.2.2 dX10_meetAll_233
  have hP := wm_eq (ec_f___22 f ) rfl (ec_r___21_20 r ) (ec_q___19 q ) hP
  exact loop_11 (1296 + 1) 0 (r 21) (q 19) (r 20) (f 22) (by omega) (hp1) (by omega) (hc) (Nat.zero_le _) (hS1) (hS2) (hno9) (ht9) (rfl) (rfl) (by omega) _ _ hP hS ls (lv_sub hl [0, 1, 2, 3, 4, 5, 6] rfl)

set_option maxHeartbeats 4000000 in
set_option maxRecDepth 100000 in
theorem c_X10_far_x (l : Launch) (D : va_G) (cy : Nat → ClassId) (mo : Nat) (a : Nat → Nat) (f : Nat → Int32) (g : Nat → Int64) (r : Nat → Nat → Int32) (q : Nat → Nat → Int64) (w : Int32) (h : Int32) (p0 : Int64) (p1 : Int64) (hD : DM cy mo a)  : Mi l D cy mo a yX10_far wsX10_far ({ frames := 3, cells := 0, slots := 0, locals := 85 }) f g r q [.int w, .int h, .long p0, .long p1] (fun r0 u => ∃ (pl : Nat → Int32), ∃ (rr : Nat → Int64), ∃ (st : Nat → Int32), ∃ (mn : Int32), u = ((upd (upd f 0 (0 : Int32)) 22 mn), g, (va_up (va_up r 21 pl) 20 st), (va_up q 19 rr)) ∧ (faA w h p0 p1 r0)) := by
  refine Met.ofW (cc := cX10_far) (maxL := 9) (ret := (some .int)) (by decide) rfl ?_
  intro p e s m args below meth c s₁ B hml hv
  obtain ⟨rfl, hP, hK⟩ := hv
  have hx := B.exec
  have hb := B.bytes
  have hr := B.returns
  have hts := atoms_spec (ws := wsX10_far) B.pre
  have hin : ∀ w ∈ u_ws RX10 TX10 35, w ∈ wsX10_far := by decide +kernel
  have hown : s.vm.findClass RX10 = some m.cls := findClass_of_methodNamed B.named
  have hlocks := B.notSynchronized
  have hS : va_S (AM mo a) s.heap s.heap [] := va_S.rf
  have hl := lv_entry ([.ref mo, .int w, .int h, .long p0, .long p1]) (n := 9) (Nat.le_of_ble_eq_true rfl)
  rw [lg_entry_eq]
  generalize (lg_sl ([.ref mo, .int w, .int h, .long p0, .long p1]) ++ List.replicate (9 - (lg_sl ([.ref mo, .int w, .int h, .long p0, .long p1])).length) Slot.unset).toArray = ls at hl ⊢
  have hl : lv_has ls 9 [(0, .ref mo), (1, .int w), (2, .int h), (3, .long p0), (5, .long p1)] := hl
  have k_m5 : (-5 : Int32).toInt = -5 := by decide
  have k_m2 : (-2 : Int32).toInt = -2 := by decide
  have k_m1 : (-1 : Int32).toInt = -1 := by decide
  have k_0 : (0 : Int32).toInt = 0 := by decide
  have k_1 : (1 : Int32).toInt = 1 := by decide
  have k_65536 : (65536 : Int32).toInt = 65536 := by decide
  refine lv_aload_n hx hb dX10_far_0 rfl (lv_at hl 0 rfl) ?_
  refine lv_iconst (v := 0) hx hb dX10_far_1 (by decide) ?_
  refine m_put (v := .int (0 : Int32)) (ty := .int) hx hb hts hin hown hK hP hD hS 0 (by decide) rfl (hts (.fieldLink RX10 79 "ShadowBenchModel" "thrown" "I") (by decide +kernel)) rfl (by decide +kernel) rfl rfl (upd f 0 (0 : Int32)) g rfl dX10_far_2 (fun H locs hP hS => ?_)
  refine lv_iload_n hx hb dX10_far_5 rfl (lv_at hl 1 rfl) ?_
  refine lv_iload_n hx hb dX10_far_6 rfl (lv_at hl 2 rfl) ?_
  refine lv_lload_n hx hb dX10_far_7 rfl (lv_at hl 3 rfl) ?_
  refine m_pu (As := [.int w, .int h, .long p0]) (rest := []) ⟨hx, hb, hml, hown, hts⟩ (c_X10_isPicture l w h p0 ) (va_cwS 3 hts gX10_far_X10_isPicture rfl rfl rfl (by decide +kernel) ⟨Nat.le_of_ble_eq_true rfl, Nat.le_of_ble_eq_true rfl⟩) hP rfl hl.1 rfl (Nat.le_of_ble_eq_true rfl) dX10_far_8 ⟨Nat.le_of_ble_eq_true rfl, Nat.le_of_ble_eq_true rfl⟩ hS (fun r8 H locs q8 hP hS => ?_)
  refine lv_if_eq (tgt := 24) hx hb dX10_far_11 (by decide) (fun c11 => ?_) (fun c11 => ?_)
  · skip
    have b11 := bo_f q8 c11
    refine lv_iconst (v := (-1)) hx hb dX10_far_24 (by decide) ?_
    have hP := wm_eq (ec_f_0__0_22 f (0 : Int32)) rfl (ec_r___21_20 r ) (ec_q___19 q ) hP
    exact W.iret (v := ((-1) : Int32)) hx hb hr (fun t ht hW => ⟨⟨_, ((upd (upd f 0 (0 : Int32)) 22 (f 22)), g, (va_up (va_up r 21 (r 21)) 20 (r 20)), (va_up q 19 (q 19))), rfl, ⟨(r 21), (q 19), (r 20), (f 22), rfl, (Or.inl ⟨(fun z9 => by first | exact goodP_no b11 z9.1 | exact goodP_no b21 z9.2), rfl⟩)⟩, by unfold mB; rw [ht]; exact hP⟩, hS.F ht⟩) hS.2.2 dX10_far_25
  · skip
    have b11 := bo_t q8 c11
    refine lv_iload_n hx hb dX10_far_14 rfl (lv_at hl 1 rfl) ?_
    refine lv_iload_n hx hb dX10_far_15 rfl (lv_at hl 2 rfl) ?_
    refine lv_lload hx hb dX10_far_16 (lv_at hl 4 rfl) ?_
    refine m_pu (As := [.int w, .int h, .long p1]) (rest := []) ⟨hx, hb, hml, hown, hts⟩ (c_X10_isPicture l w h p1 ) (va_cwS 3 hts gX10_far_X10_isPicture rfl rfl rfl (by decide +kernel) ⟨Nat.le_of_ble_eq_true rfl, Nat.le_of_ble_eq_true rfl⟩) hP rfl hl.1 rfl (Nat.le_of_ble_eq_true rfl) dX10_far_18 ⟨Nat.le_of_ble_eq_true rfl, Nat.le_of_ble_eq_true rfl⟩ hS (fun r18 H locs q18 hP hS => ?_)
    refine lv_if_ne (tgt := 26) hx hb dX10_far_21 (by decide) (fun c21 => ?_) (fun c21 => ?_)
    · skip
      have b21 := bo_t q18 c21
      refine lv_iload_n hx hb dX10_far_26 rfl (lv_at hl 1 rfl) ?_
      refine lv_iload_n hx hb dX10_far_27 rfl (lv_at hl 2 rfl) ?_
      refine lv_lload_n hx hb dX10_far_28 rfl (lv_at hl 3 rfl) ?_
      refine lv_lload hx hb dX10_far_29 (lv_at hl 4 rfl) ?_
      refine lv_iconst (v := 0) hx hb dX10_far_31 (by decide) ?_
      refine m_pu (As := [.int w, .int h, .long p0, .long p1, .int (0 : Int32)]) (rest := []) ⟨hx, hb, hml, hown, hts⟩ (c_X10_areAlike_x l w h p0 p1 (0 : Int32) b11.1.1 b11.1.2 (by decide)) (va_cwS 5 hts gX10_far_X10_areAlike rfl rfl rfl (by decide +kernel) ⟨Nat.le_of_ble_eq_true rfl, Nat.le_of_ble_eq_true rfl⟩) hP rfl hl.1 rfl (Nat.le_of_ble_eq_true rfl) dX10_far_32 ⟨Nat.le_of_ble_eq_true rfl, Nat.le_of_ble_eq_true rfl⟩ hS (fun r32 H locs q32 hP hS => ?_)
      refine lv_if_eq (tgt := 50) hx hb dX10_far_35 (by decide) (fun c35 => ?_) (fun c35 => ?_)
      · skip
        have b35 := bo_f q32 c35
        refine lv_bipush (v := (-2)) hx hb dX10_far_50 (by decide) ?_
        have hP := wm_eq (ec_f_0__0_22 f (0 : Int32)) rfl (ec_r___21_20 r ) (ec_q___19 q ) hP
        exact W.iret (v := ((-2) : Int32)) hx hb hr (fun t ht hW => ⟨⟨_, ((upd (upd f 0 (0 : Int32)) 22 (f 22)), g, (va_up (va_up r 21 (r 21)) 20 (r 20)), (va_up q 19 (q 19))), rfl, ⟨(r 21), (q 19), (r 20), (f 22), rfl, (Or.inr ⟨⟨goodP_of b11, goodP_of b21⟩, Or.inl ⟨(fun z9 => by first | exact b35 z9.1 | exact b47 z9.2), rfl⟩⟩)⟩, by unfold mB; rw [ht]; exact hP⟩, hS.F ht⟩) hS.2.2 dX10_far_52
      · skip
        have b35 := bo_t q32 c35
        refine lv_iload_n hx hb dX10_far_38 rfl (lv_at hl 1 rfl) ?_
        refine lv_iload_n hx hb dX10_far_39 rfl (lv_at hl 2 rfl) ?_
        refine lv_lload_n hx hb dX10_far_40 rfl (lv_at hl 3 rfl) ?_
        refine lv_lload hx hb dX10_far_41 (lv_at hl 4 rfl) ?_
        refine lv_iconst (v := 1) hx hb dX10_far_43 (by decide) ?_
        refine m_pu (As := [.int w, .int h, .long p0, .long p1, .int (1 : Int32)]) (rest := []) ⟨hx, hb, hml, hown, hts⟩ (c_X10_areAlike_x l w h p0 p1 (1 : Int32) b11.1.1 b11.1.2 (by decide)) (va_cwS 5 hts gX10_far_X10_areAlike rfl rfl rfl (by decide +kernel) ⟨Nat.le_of_ble_eq_true rfl, Nat.le_of_ble_eq_true rfl⟩) hP rfl hl.1 rfl (Nat.le_of_ble_eq_true rfl) dX10_far_44 ⟨Nat.le_of_ble_eq_true rfl, Nat.le_of_ble_eq_true rfl⟩ hS (fun r44 H locs q44 hP hS => ?_)
        refine lv_if_ne (tgt := 53) hx hb dX10_far_47 (by decide) (fun c47 => ?_) (fun c47 => ?_)
        · skip
          have b47 := bo_t q44 c47
          refine lv_lload_n hx hb dX10_far_53 rfl (lv_at hl 3 rfl) ?_
          refine lv_lload hx hb dX10_far_54 (lv_at hl 4 rfl) ?_
          refine W.lcmp hx hb dX10_far_56 ?_
          refine lv_if_ne (tgt := 62) hx hb dX10_far_57 (by decide) (fun c57 => ?_) (fun c57 => ?_)
          · skip
            have d57 := c57
            rw [lg_cmp_eq, fa_eq64] at d57
            have cw8 := m_cl (x := w) (by omega)
            have ch8 := m_cl (x := h) (by omega)
            have hb8 : 1 ≤ w.toNatClampNeg ∧ w.toNatClampNeg ≤ 6 ∧ 1 ≤ h.toNatClampNeg ∧ h.toNatClampNeg ≤ 6 := by omega
            have m36_9 := (wh36 b11.1.1 b11.1.2).2.2.1
            refine lv_iconst (v := 0) hx hb dX10_far_62 (by decide) ?_
            refine lv_istore (lv' := [(7, .int (0 : Int32)), (0, .ref mo), (1, .int w), (2, .int h), (3, .long p0), (5, .long p1)]) hx hb dX10_far_63 hl (by decide) rfl (fun ls hl => ?_)
            have loop_65 : ∀ (n : Nat) (k : Nat) (pz : Nat → Int32), (k ≤ 65536) → (∀ e, e < k → (pz e).toInt < 0) → 65536 - k < n → ∀ (H : Heap) (locs : List Loc), va_P D vwCl (WM cy mo a (upd f 0 (0 : Int32)) g (va_up r 21 pz) q) H → va_S (AM mo a) s.heap H locs → ∀ (ls : Array Slot), lv_has ls 9 [(7, .int (nI k)), (0, .ref mo), (1, .int w), (2, .int h), (3, .long p0), (5, .long p1)] → W p l e (headSpec wsX10_far ({ frames := 3, cells := 0, slots := 0, locals := 85 })).room s m #[Value.ref mo, Value.int w, Value.int h, Value.long p0, Value.long p1] below meth c H locs 0 0 (MQ below (va_Qi (fun r0 u => ∃ (pl : Nat → Int32), ∃ (rr : Nat → Int64), ∃ (st : Nat → Int32), ∃ (mn : Int32), u = ((upd (upd f 0 (0 : Int32)) 22 mn), g, (va_up (va_up r 21 pl) 20 st), (va_up q 19 rr)) ∧ (faA w h p0 p1 r0)) (mB D cy mo a) (AM mo a)) #[Value.ref mo, Value.int w, Value.int h, Value.long p0, Value.long p1] s 0 0 (AM mo a)) (F0 m 65 ls []) := by
              intro n
              induction n with
              | zero => intro k pz j65_0 j65_1 hn; exact absurd hn (Nat.not_lt_zero _)
              | succ n ih_65 =>
                intro k pz j65_0 j65_1 hn_65 H locs hP hS ls hl
                have ik : (nI k).toInt = (k : Int) := nI_toInt (by omega)
                refine lv_iload hx hb dX10_far_65 (lv_at hl 0 rfl) ?_
                refine lv_ldc hx hb hown (hts (.constant RX10 48 (65536)) (by decide +kernel)) dX10_far_67 ?_
                refine lv_icmp_ge (tgt := 86) hx hb dX10_far_69 (by decide) (fun c69 => ?_) (fun c69 => ?_)
                · skip
                  have d69 := c69
                  rw [fa_le] at d69
                  refine lv_aload_n hx hb dX10_far_86 rfl (lv_at hl 1 rfl) ?_
                  refine m_get (v := .ref (a 19)) hx hb hts hin hown hK hP 19 (by decide) rfl (hts (.fieldLink RX10 41 "ShadowBenchModel" "row" "[J") (by decide +kernel)) rfl dX10_far_87 ?_
                  refine lv_iconst (v := 0) hx hb dX10_far_90 (by decide) ?_
                  refine lv_lload_n hx hb dX10_far_91 rfl (lv_at hl 4 rfl) ?_
                  refine m_last (w := (q 19)) hx hb hK hP hD hS 11 rfl (vp_in_iff.mpr ⟨by omega, by omega⟩) (va_up q 19 (vp_updL (q 19) (0 : Int32).toNatClampNeg p0)) (ms_19 cy mo a _ _ _ _ _) dX10_far_92 (fun H locs hP hS => ?_)
                  refine lv_aload_n hx hb dX10_far_93 rfl (lv_at hl 1 rfl) ?_
                  refine m_get (v := .ref (a 20)) hx hb hts hin hown hK hP 20 (by decide) rfl (hts (.fieldLink RX10 45 "ShadowBenchModel" "steps" "[I") (by decide +kernel)) rfl dX10_far_94 ?_
                  refine lv_iconst (v := 0) hx hb dX10_far_97 (by decide) ?_
                  refine lv_iconst (v := 0) hx hb dX10_far_98 (by decide) ?_
                  refine m_iast (w := (r 20)) hx hb hK hP hD hS 12 rfl (vp_in_iff.mpr ⟨by omega, by omega⟩) (va_up (va_up r 21 pz) 20 (upd (r 20) (0 : Int32).toNatClampNeg (0 : Int32))) (ms_20 cy mo a _ _ _ _ _) dX10_far_99 (fun H locs hP hS => ?_)
                  refine lv_aload_n hx hb dX10_far_100 rfl (lv_at hl 1 rfl) ?_
                  refine m_get (v := .ref (a 21)) hx hb hts hin hown hK hP 21 (by decide) rfl (hts (.fieldLink RX10 49 "ShadowBenchModel" "place" "[I") (by decide +kernel)) rfl dX10_far_101 ?_
                  refine lv_aload_n hx hb dX10_far_104 rfl (lv_at hl 1 rfl) ?_
                  refine lv_lload_n hx hb dX10_far_105 rfl (lv_at hl 4 rfl) ?_
                  refine m_calli (As := [.long p0]) (rest := [.ref (a 21)]) ⟨hx, hb, hml, hown, hts⟩ (c_X10_placeOf_x l D cy mo a (upd f 0 (0 : Int32)) g (va_up (va_up r 21 pz) 20 ((upd (r 20) (0 : Int32).toNatClampNeg (0 : Int32)))) (va_up q 19 ((vp_updL (q 19) (0 : Int32).toNatClampNeg p0))) p0 hD (show PB pz from fun e he => by have := j65_1 e (by omega); omega) (show ∃ e, e < 65536 ∧ (pz e).toInt < 0 from ⟨0, by decide, j65_1 0 (by omega)⟩)) (cwV 1 hts gX10_far_X10_placeOf rfl rfl rfl (by decide +kernel) ⟨Nat.le_of_ble_eq_true rfl, Nat.le_of_ble_eq_true rfl⟩) hK hP rfl hl.1 rfl (Nat.le_of_ble_eq_true rfl) dX10_far_106 ⟨Nat.le_of_ble_eq_true rfl, Nat.le_of_ble_eq_true rfl⟩ hS (fun r106 u H locs q106 hP hS => ?_)
                  obtain ⟨rfl, q106⟩ := q106
                  have hP : va_P D vwCl (WM cy mo a (upd f 0 (0 : Int32)) g (va_up (va_up r 21 pz) 20 ((upd (r 20) (0 : Int32).toNatClampNeg (0 : Int32)))) (va_up q 19 ((vp_updL (q 19) (0 : Int32).toNatClampNeg p0)))) H := hP
                  have q106 : (0 ≤ r106.toInt ∧ r106.toInt < 65536) ∧ ∀ n9, n9 ≤ 20000 → tabOk 65536 hR (ocR (pz)) (((vp_updL (q 19) (0 : Int32).toNatClampNeg p0))) n9 → tabF 65536 hR (ocR (pz)) (((vp_updL (q 19) (0 : Int32).toNatClampNeg p0))) n9 p0 r106.toNatClampNeg := q106
                  refine lv_iconst (v := 0) hx hb dX10_far_109 (by decide) ?_
                  refine m_iast (w := pz) hx hb hK hP hD hS 13 rfl (vp_in_iff.mpr ⟨by omega, by omega⟩) (va_up (va_up (va_up r 21 pz) 20 ((upd (r 20) (0 : Int32).toNatClampNeg (0 : Int32)))) 21 (upd pz r106.toNatClampNeg (0 : Int32))) (ms_21 cy mo a _ _ _ _ _) dX10_far_110 (fun H locs hP hS => ?_)
                  have hP := wm_eq rfl rfl (es_r_21_20__21 r pz ((upd (r 20) (0 : Int32).toNatClampNeg (0 : Int32))) (upd pz r106.toNatClampNeg (0 : Int32))) rfl hP
                  have hcl := m_cl (x := r106) (by omega)
                  have hput := ct21_put (p := pz) (i := r106.toNatClampNeg) (v := (0 : Int32)) (by omega) (j65_1 _ (by omega))
                  have hnn := ct21_none (p := pz) (fun e he => j65_1 e (by omega))
                  have hpb : PB pz := fun e he => (by have := j65_1 e (by omega); omega)
                  refine lv_aload_n hx hb dX10_far_111 rfl (lv_at hl 1 rfl) ?_
                  refine lv_iconst (v := 1) hx hb dX10_far_112 (by decide) ?_
                  refine m_put (v := .int (1 : Int32)) (ty := .int) hx hb hts hin hown hK hP hD hS 22 (by decide) rfl (hts (.fieldLink RX10 217 "ShadowBenchModel" "many" "I") (by decide +kernel)) rfl (by decide +kernel) rfl rfl (upd (upd f 0 (0 : Int32)) 22 (1 : Int32)) g rfl dX10_far_113 (fun H locs hP hS => ?_)
                  refine lv_iconst (v := 0) hx hb dX10_far_116 (by decide) ?_
                  refine lv_istore (lv' := [(7, .int (0 : Int32)), (0, .ref mo), (1, .int w), (2, .int h), (3, .long p0), (5, .long p1)]) hx hb dX10_far_117 hl (by decide) rfl (fun ls hl => ?_)
                  refine lv_iconst (v := 0) hx hb dX10_far_119 (by decide) ?_
                  refine lv_istore (lv' := [(8, .int (0 : Int32)), (7, .int (0 : Int32)), (0, .ref mo), (1, .int w), (2, .int h), (3, .long p0), (5, .long p1)]) hx hb dX10_far_120 hl (by decide) rfl (fun ls hl => ?_)
                  have loop_122 : ∀ (n : Nat) (k2 : Nat) (x7 : Int32) (pl2 : Nat → Int32) (rr2 : Nat → Int64) (st2 : Nat → Int32) (mn2 : Int32), (k2 ≤ 20000) → (PB pl2) → (1 ≤ mn2.toInt ∧ mn2.toInt ≤ 20000) → ((ct21 pl2 : Int) ≤ mn2.toInt) → ((x7 = 0 ∧ rlR (bfA w.toNatClampNeg h.toNatClampNeg (st0 p0) k2) rr2 st2 mn2.toNatClampNeg ∧ tabOk 65536 hR (ocR pl2) rr2 mn2.toNatClampNeg ∧ rr2 0 = p0 ∧ (∀ j9, j9 ≤ k2 → (bfA w.toNatClampNeg h.toNatClampNeg (st0 p0) j9).2.2.2 = false ∧ ¬ isIn9 (bfA w.toNatClampNeg h.toNatClampNeg (st0 p0) j9) p1) ∧ ∀ j9, j9 < k2 → j9 < (bfA w.toNatClampNeg h.toNatClampNeg (st0 p0) j9).2.2.1) ∨ (0 < x7.toInt ∧ farR w.toNatClampNeg h.toNatClampNeg p0 p1 x7.toInt) ∨ (x7 = -5 ∧ farR w.toNatClampNeg h.toNatClampNeg p0 p1 (-5))) → 20000 - k2 < n → ∀ (H : Heap) (locs : List Loc), va_P D vwCl (WM cy mo a (upd (upd f 0 (0 : Int32)) 22 mn2) g (va_up (va_up r 21 pl2) 20 st2) (va_up q 19 rr2)) H → va_S (AM mo a) s.heap H locs → ∀ (ls : Array Slot), lv_has ls 9 [(8, .int (nI k2)), (7, .int x7), (0, .ref mo), (1, .int w), (2, .int h), (3, .long p0), (5, .long p1)] → W p l e (headSpec wsX10_far ({ frames := 3, cells := 0, slots := 0, locals := 85 })).room s m #[Value.ref mo, Value.int w, Value.int h, Value.long p0, Value.long p1] below meth c H locs 0 0 (MQ below (va_Qi (fun r0 u => ∃ (pl : Nat → Int32), ∃ (rr : Nat → Int64), ∃ (st : Nat → Int32), ∃ (mn : Int32), u = ((upd (upd f 0 (0 : Int32)) 22 mn), g, (va_up (va_up r 21 pl) 20 st), (va_up q 19 rr)) ∧ (faA w h p0 p1 r0)) (mB D cy mo a) (AM mo a)) #[Value.ref mo, Value.int w, Value.int h, Value.long p0, Value.long p1] s 0 0 (AM mo a)) (F0 m 122 ls []) := by
                    intro n
                    induction n with
                    | zero => intro k2 x7 pl2 rr2 st2 mn2 j122_0 j122_1 j122_2 j122_3 j122_4 hn; exact absurd hn (Nat.not_lt_zero _)
                    | succ n ih_122 =>
                      intro k2 x7 pl2 rr2 st2 mn2 j122_0 j122_1 j122_2 j122_3 j122_4 hn_122 H locs hP hS ls hl
                      have ik2 : (nI k2).toInt = (k2 : Int) := nI_toInt (by omega)
                      refine lv_iload hx hb dX10_far_122 (lv_at hl 0 rfl) ?_
                      refine lv_aload_n hx hb dX10_far_124 rfl (lv_at hl 2 rfl) ?_
                      refine m_get (v := .int mn2) hx hb hts hin hown hK hP 22 (by decide) rfl (hts (.fieldLink RX10 217 "ShadowBenchModel" "many" "I") (by decide +kernel)) rfl dX10_far_125 ?_
                      refine lv_icmp_ge (tgt := 154) hx hb dX10_far_128 (by decide) (fun c128 => ?_) (fun c128 => ?_)
                      · skip
                        have d128 := c128
                        rw [fa_le] at d128
                        refine lv_iload hx hb dX10_far_154 (lv_at hl 1 rfl) ?_
                        refine lv_if_le (tgt := 164) hx hb dX10_far_156 (by decide) (fun c156 => ?_) (fun c156 => ?_)
                        · skip
                          have d156 := c156
                          rw [fa_le] at d156
                          refine lv_iload hx hb dX10_far_164 (lv_at hl 1 rfl) ?_
                          refine lv_if_ge (tgt := 174) hx hb dX10_far_166 (by decide) (fun c166 => ?_) (fun c166 => ?_)
                          · skip
                            have d166 := c166
                            rw [fa_le] at d166
                            refine lv_bipush (v := (-2)) hx hb dX10_far_174 (by decide) ?_
                            exact W.iret (v := ((-2) : Int32)) hx hb hr (fun t ht hW => ⟨⟨_, ((upd (upd f 0 (0 : Int32)) 22 mn2), g, (va_up (va_up r 21 pl2) 20 st2), (va_up q 19 rr2)), rfl, ⟨pl2, rr2, st2, mn2, rfl, (Or.inr ⟨⟨goodP_of b11, goodP_of b21⟩, Or.inr ⟨⟨b35, b47⟩, Or.inr ⟨(fun z9 => c57 ((lg_cmp_eq _ _).mpr z9)), (by rcases j122_4 with ⟨z1, z2⟩ | ⟨z1, z2⟩ | ⟨z1, z2⟩; (exfalso; have y1 : x7.toInt = 0 := (by rw [z1]; rfl); first | omega | exact absurd z1 c133 | exact (z2.2.2.2.1 k2 (Nat.le_refl _)).2 (far_end hb8 (hiZ_p m36_9 (goodP_of b11).2) (hiZ_p m36_9 (goodP_of b21).2) b35 b47 (fun j9 h9 => (z2.2.2.2.1 j9 h9).1) z2.2.2.2.2 (by rw [z2.1.1]; have := m_cl (x := mn2) (by omega); omega))); (first | exact z2 | (exfalso; omega)); (first | (exfalso; have y1 : x7.toInt = -5 := (by rw [z1]; rfl); omega) | exact z2))⟩⟩⟩)⟩, by unfold mB; rw [ht]; exact hP⟩, hS.F ht⟩) hS.2.2 dX10_far_176
                          · skip
                            have d166 := c166
                            rw [fa_le] at d166
                            refine lv_bipush (v := (-5)) hx hb dX10_far_169 (by decide) ?_
                            refine lv_goto (tgt := 176) hx hb dX10_far_171 (by decide) ?_
                            exact W.iret (v := ((-5) : Int32)) hx hb hr (fun t ht hW => ⟨⟨_, ((upd (upd f 0 (0 : Int32)) 22 mn2), g, (va_up (va_up r 21 pl2) 20 st2), (va_up q 19 rr2)), rfl, ⟨pl2, rr2, st2, mn2, rfl, (Or.inr ⟨⟨goodP_of b11, goodP_of b21⟩, Or.inr ⟨⟨b35, b47⟩, Or.inr ⟨(fun z9 => c57 ((lg_cmp_eq _ _).mpr z9)), (by rcases j122_4 with ⟨z1, z2⟩ | ⟨z1, z2⟩ | ⟨z1, z2⟩; (exfalso; have y1 : x7.toInt = 0 := (by rw [z1]; rfl); first | omega | exact absurd z1 c133 | exact (z2.2.2.2.1 k2 (Nat.le_refl _)).2 (far_end hb8 (hiZ_p m36_9 (goodP_of b11).2) (hiZ_p m36_9 (goodP_of b21).2) b35 b47 (fun j9 h9 => (z2.2.2.2.1 j9 h9).1) z2.2.2.2.2 (by rw [z2.1.1]; have := m_cl (x := mn2) (by omega); omega))); (first | exact z2 | (exfalso; omega)); (first | (exfalso; have y1 : x7.toInt = -5 := (by rw [z1]; rfl); omega) | exact z2))⟩⟩⟩)⟩, by unfold mB; rw [ht]; exact hP⟩, hS.F ht⟩) hS.2.2 dX10_far_176
                        · skip
                          have d156 := c156
                          rw [fa_le] at d156
                          refine lv_iload hx hb dX10_far_159 (lv_at hl 1 rfl) ?_
                          refine lv_goto (tgt := 176) hx hb dX10_far_161 (by decide) ?_
                          exact W.iret (v := x7) hx hb hr (fun t ht hW => ⟨⟨_, ((upd (upd f 0 (0 : Int32)) 22 mn2), g, (va_up (va_up r 21 pl2) 20 st2), (va_up q 19 rr2)), rfl, ⟨pl2, rr2, st2, mn2, rfl, (Or.inr ⟨⟨goodP_of b11, goodP_of b21⟩, Or.inr ⟨⟨b35, b47⟩, Or.inr ⟨(fun z9 => c57 ((lg_cmp_eq _ _).mpr z9)), (by rcases j122_4 with ⟨z1, z2⟩ | ⟨z1, z2⟩ | ⟨z1, z2⟩; (exfalso; have y1 : x7.toInt = 0 := (by rw [z1]; rfl); first | omega | exact absurd z1 c133 | exact (z2.2.2.2.1 k2 (Nat.le_refl _)).2 (far_end hb8 (hiZ_p m36_9 (goodP_of b11).2) (hiZ_p m36_9 (goodP_of b21).2) b35 b47 (fun j9 h9 => (z2.2.2.2.1 j9 h9).1) z2.2.2.2.2 (by rw [z2.1.1]; have := m_cl (x := mn2) (by omega); omega))); (first | exact z2 | (exfalso; omega)); (first | (exfalso; have y1 : x7.toInt = -5 := (by rw [z1]; rfl); omega) | exact z2))⟩⟩⟩)⟩, by unfold mB; rw [ht]; exact hP⟩, hS.F ht⟩) hS.2.2 dX10_far_176
                      · skip
                        have d128 := c128
                        rw [fa_le] at d128
                        refine lv_iload hx hb dX10_far_131 (lv_at hl 1 rfl) ?_
                        refine lv_if_ne (tgt := 154) hx hb dX10_far_133 (by decide) (fun c133 => ?_) (fun c133 => ?_)
                        · skip
                          have d133 := c133
                          rw [fa_eq] at d133
                          refine lv_iload hx hb dX10_far_154 (lv_at hl 1 rfl) ?_
                          refine lv_if_le (tgt := 164) hx hb dX10_far_156 (by decide) (fun c156 => ?_) (fun c156 => ?_)
                          · skip
                            have d156 := c156
                            rw [fa_le] at d156
                            refine lv_iload hx hb dX10_far_164 (lv_at hl 1 rfl) ?_
                            refine lv_if_ge (tgt := 174) hx hb dX10_far_166 (by decide) (fun c166 => ?_) (fun c166 => ?_)
                            · skip
                              have d166 := c166
                              rw [fa_le] at d166
                              refine lv_bipush (v := (-2)) hx hb dX10_far_174 (by decide) ?_
                              exact W.iret (v := ((-2) : Int32)) hx hb hr (fun t ht hW => ⟨⟨_, ((upd (upd f 0 (0 : Int32)) 22 mn2), g, (va_up (va_up r 21 pl2) 20 st2), (va_up q 19 rr2)), rfl, ⟨pl2, rr2, st2, mn2, rfl, (Or.inr ⟨⟨goodP_of b11, goodP_of b21⟩, Or.inr ⟨⟨b35, b47⟩, Or.inr ⟨(fun z9 => c57 ((lg_cmp_eq _ _).mpr z9)), (by rcases j122_4 with ⟨z1, z2⟩ | ⟨z1, z2⟩ | ⟨z1, z2⟩; (exfalso; have y1 : x7.toInt = 0 := (by rw [z1]; rfl); first | omega | exact absurd z1 c133 | exact (z2.2.2.2.1 k2 (Nat.le_refl _)).2 (far_end hb8 (hiZ_p m36_9 (goodP_of b11).2) (hiZ_p m36_9 (goodP_of b21).2) b35 b47 (fun j9 h9 => (z2.2.2.2.1 j9 h9).1) z2.2.2.2.2 (by rw [z2.1.1]; have := m_cl (x := mn2) (by omega); omega))); (first | exact z2 | (exfalso; omega)); (first | (exfalso; have y1 : x7.toInt = -5 := (by rw [z1]; rfl); omega) | exact z2))⟩⟩⟩)⟩, by unfold mB; rw [ht]; exact hP⟩, hS.F ht⟩) hS.2.2 dX10_far_176
                            · skip
                              have d166 := c166
                              rw [fa_le] at d166
                              refine lv_bipush (v := (-5)) hx hb dX10_far_169 (by decide) ?_
                              refine lv_goto (tgt := 176) hx hb dX10_far_171 (by decide) ?_
                              exact W.iret (v := ((-5) : Int32)) hx hb hr (fun t ht hW => ⟨⟨_, ((upd (upd f 0 (0 : Int32)) 22 mn2), g, (va_up (va_up r 21 pl2) 20 st2), (va_up q 19 rr2)), rfl, ⟨pl2, rr2, st2, mn2, rfl, (Or.inr ⟨⟨goodP_of b11, goodP_of b21⟩, Or.inr ⟨⟨b35, b47⟩, Or.inr ⟨(fun z9 => c57 ((lg_cmp_eq _ _).mpr z9)), (by rcases j122_4 with ⟨z1, z2⟩ | ⟨z1, z2⟩ | ⟨z1, z2⟩; (exfalso; have y1 : x7.toInt = 0 := (by rw [z1]; rfl); first | omega | exact absurd z1 c133 | exact (z2.2.2.2.1 k2 (Nat.le_refl _)).2 (far_end hb8 (hiZ_p m36_9 (goodP_of b11).2) (hiZ_p m36_9 (goodP_of b21).2) b35 b47 (fun j9 h9 => (z2.2.2.2.1 j9 h9).1) z2.2.2.2.2 (by rw [z2.1.1]; have := m_cl (x := mn2) (by omega); omega))); (first | exact z2 | (exfalso; omega)); (first | (exfalso; have y1 : x7.toInt = -5 := (by rw [z1]; rfl); omega) | exact z2))⟩⟩⟩)⟩, by unfold mB; rw [ht]; exact hP⟩, hS.F ht⟩) hS.2.2 dX10_far_176
                          · skip
                            have d156 := c156
                            rw [fa_le] at d156
                            refine lv_iload hx hb dX10_far_159 (lv_at hl 1 rfl) ?_
                            refine lv_goto (tgt := 176) hx hb dX10_far_161 (by decide) ?_
                            exact W.iret (v := x7) hx hb hr (fun t ht hW => ⟨⟨_, ((upd (upd f 0 (0 : Int32)) 22 mn2), g, (va_up (va_up r 21 pl2) 20 st2), (va_up q 19 rr2)), rfl, ⟨pl2, rr2, st2, mn2, rfl, (Or.inr ⟨⟨goodP_of b11, goodP_of b21⟩, Or.inr ⟨⟨b35, b47⟩, Or.inr ⟨(fun z9 => c57 ((lg_cmp_eq _ _).mpr z9)), (by rcases j122_4 with ⟨z1, z2⟩ | ⟨z1, z2⟩ | ⟨z1, z2⟩; (exfalso; have y1 : x7.toInt = 0 := (by rw [z1]; rfl); first | omega | exact absurd z1 c133 | exact (z2.2.2.2.1 k2 (Nat.le_refl _)).2 (far_end hb8 (hiZ_p m36_9 (goodP_of b11).2) (hiZ_p m36_9 (goodP_of b21).2) b35 b47 (fun j9 h9 => (z2.2.2.2.1 j9 h9).1) z2.2.2.2.2 (by rw [z2.1.1]; have := m_cl (x := mn2) (by omega); omega))); (first | exact z2 | (exfalso; omega)); (first | (exfalso; have y1 : x7.toInt = -5 := (by rw [z1]; rfl); omega) | exact z2))⟩⟩⟩)⟩, by unfold mB; rw [ht]; exact hP⟩, hS.F ht⟩) hS.2.2 dX10_far_176
                        · skip
                          have d133 := c133
                          rw [fa_eq] at d133
                          have ck2 : (nI k2).toNatClampNeg = k2 := nI_clamp (by omega)
                          obtain ⟨l1, l2, l3, l4, l5⟩ : rlR (bfA w.toNatClampNeg h.toNatClampNeg (st0 p0) k2) rr2 st2 mn2.toNatClampNeg ∧ tabOk 65536 hR (ocR pl2) rr2 mn2.toNatClampNeg ∧ rr2 0 = p0 ∧ (∀ j9, j9 ≤ k2 → (bfA w.toNatClampNeg h.toNatClampNeg (st0 p0) j9).2.2.2 = false ∧ ¬ isIn9 (bfA w.toNatClampNeg h.toNatClampNeg (st0 p0) j9) p1) ∧ ∀ j9, j9 < k2 → j9 < (bfA w.toNatClampNeg h.toNatClampNeg (st0 p0) j9).2.2.1 := by rcases j122_4 with ⟨z1, z2⟩ | ⟨z1, z2⟩ | ⟨z1, z2⟩; exact z2; (exfalso; rw [c133] at z1; exact absurd z1 (by decide)); exact absurd (z1.symm.trans c133) (by decide)
                          have cm2 := m_cl (x := mn2) (by omega)
                          have hs8 : rlR (bfA w.toNatClampNeg h.toNatClampNeg (st0 (rr2 0)) (nI k2).toNatClampNeg) rr2 st2 mn2.toNatClampNeg := by rw [ck2, l3]; exact l1
                          have ho8 : (bfA w.toNatClampNeg h.toNatClampNeg (st0 (rr2 0)) (nI k2).toNatClampNeg).2.2.2 = false := by rw [ck2, l3]; exact (l4 k2 (Nat.le_refl _)).1
                          have hn8 : ¬ isIn9 (bfA w.toNatClampNeg h.toNatClampNeg (st0 (rr2 0)) (nI k2).toNatClampNeg) p1 := by rw [ck2, l3]; exact (l4 k2 (Nat.le_refl _)).2
                          have hk8 : (nI k2).toNatClampNeg < mn2.toNatClampNeg := by omega
                          have hd8 : (bfA w.toNatClampNeg h.toNatClampNeg (st0 (rr2 0)) (nI k2).toNatClampNeg).2.1 (nI k2).toNatClampNeg ≤ (nI k2).toNatClampNeg := by rw [ck2, l3]; exact bfA_Dl k2 l5 k2 (by rw [l1.1]; omega)
                          refine lv_aload_n hx hb dX10_far_136 rfl (lv_at hl 2 rfl) ?_
                          refine lv_iload_n hx hb dX10_far_137 rfl (lv_at hl 3 rfl) ?_
                          refine lv_iload_n hx hb dX10_far_138 rfl (lv_at hl 4 rfl) ?_
                          refine lv_iload hx hb dX10_far_139 (lv_at hl 0 rfl) ?_
                          refine lv_lload hx hb dX10_far_141 (lv_at hl 6 rfl) ?_
                          refine m_calli (As := [.int w, .int h, .int (nI k2), .long p1]) (rest := []) ⟨hx, hb, hml, hown, hts⟩ (c_X10_meetAll_x l D cy mo a (upd (upd f 0 (0 : Int32)) 22 mn2) g (va_up (va_up r 21 pl2) 20 st2) (va_up q 19 rr2) w h (nI k2) p1 hD b11.1.1 b11.1.2 j122_1 (show 1 ≤ mn2.toInt ∧ mn2.toInt ≤ 20000 by omega) j122_3 (by omega) l2 hs8 ho8 hk8 hn8 hd8) (cwV 4 hts gX10_far_X10_meetAll rfl rfl rfl (by decide +kernel) ⟨Nat.le_of_ble_eq_true rfl, Nat.le_of_ble_eq_true rfl⟩) hK hP rfl hl.1 rfl (Nat.le_of_ble_eq_true rfl) dX10_far_143 ⟨Nat.le_of_ble_eq_true rfl, Nat.le_of_ble_eq_true rfl⟩ hS (fun r143 u H locs q143 hP hS => ?_)
                          obtain ⟨pl_143, rr_143, st_143, mn_143, rfl, q143⟩ := q143
                          have hP : va_P D vwCl (WM cy mo a (upd (upd f 0 (0 : Int32)) 22 mn_143) g (va_up (va_up r 21 pl_143) 20 st_143) (va_up q 19 rr_143)) H := hP
                          have q143 : (PB pl_143 ∧ ((mn2).toInt ≤ mn_143.toInt ∧ mn_143.toInt ≤ 20000) ∧ (ct21 pl_143 : Int) ≤ mn_143.toInt) ∧ rr_143 0 = (va_up q 19 rr2) 19 0 ∧ ((r143.toInt = (((bfA w.toNatClampNeg h.toNatClampNeg (st0 (rr2 0)) (nI k2).toNatClampNeg).2.1 (nI k2).toNatClampNeg + 1 : Nat) : Int) ∧ isIn9 (bfA w.toNatClampNeg h.toNatClampNeg (st0 (rr2 0)) ((nI k2).toNatClampNeg + 1)) p1) ∨ (¬ isIn9 (bfA w.toNatClampNeg h.toNatClampNeg (st0 (rr2 0)) ((nI k2).toNatClampNeg + 1)) p1 ∧ (bfA w.toNatClampNeg h.toNatClampNeg (st0 (rr2 0)) ((nI k2).toNatClampNeg + 1)).2.2.2 = true ∧ r143 = -5) ∨ (r143 = 0 ∧ ¬ isIn9 (bfA w.toNatClampNeg h.toNatClampNeg (st0 (rr2 0)) ((nI k2).toNatClampNeg + 1)) p1 ∧ (bfA w.toNatClampNeg h.toNatClampNeg (st0 (rr2 0)) ((nI k2).toNatClampNeg + 1)).2.2.2 = false ∧ rlR (bfA w.toNatClampNeg h.toNatClampNeg (st0 (rr2 0)) ((nI k2).toNatClampNeg + 1)) rr_143 st_143 mn_143.toNatClampNeg ∧ tabOk 65536 hR (ocR pl_143) rr_143 mn_143.toNatClampNeg)) := q143
                          obtain ⟨p1_, p2_, p3_⟩ := q143
                          rw [ck2, l3] at p3_
                          have p2_ : rr_143 0 = p0 := p2_.trans l3
                          have all8 : ∀ j9, j9 ≤ k2 → (bfA w.toNatClampNeg h.toNatClampNeg (st0 p0) j9).2.2.2 = false ∧ ¬ isIn9 (bfA w.toNatClampNeg h.toNatClampNeg (st0 p0) j9) p1 ∧ j9 < (bfA w.toNatClampNeg h.toNatClampNeg (st0 p0) j9).2.2.1 := fun j9 h9 => ⟨(l4 j9 h9).1, (l4 j9 h9).2, (by rcases Nat.lt_or_ge j9 k2 with z9 | z9; exact l5 j9 z9; (rw [show j9 = k2 by omega, l1.1]; omega))⟩
                          refine lv_istore (lv' := [(7, .int r143), (8, .int (nI k2)), (0, .ref mo), (1, .int w), (2, .int h), (3, .long p0), (5, .long p1)]) hx hb dX10_far_146 hl (by decide) rfl (fun ls hl => ?_)
                          refine lv_iinc (v := (nI (k2 + 1))) (lv' := [(8, .int (nI (k2 + 1))), (7, .int r143), (0, .ref mo), (1, .int w), (2, .int h), (3, .long p0), (5, .long p1)]) hx hb dX10_far_148 hl (k := 1) rfl (nI_1 _) (by decide) rfl (fun ls hl => ?_)
                          refine lv_goto (tgt := 122) hx hb dX10_far_151 (by decide) ?_
                          exact ih_122 (k2 + 1) r143 pl_143 rr_143 st_143 mn_143 (by omega) (p1_.1) (by have z9 := p1_.2.1; omega) (p1_.2.2) (by rcases p3_ with ⟨z1, z2⟩ | ⟨z1, z2, z3⟩ | ⟨z1, z2, z3, z4, z5⟩; exact Or.inr (Or.inl ⟨by rw [z1]; omega, k2, all8, Or.inl ⟨z2, by rw [z1]; omega⟩⟩); exact Or.inr (Or.inr ⟨z3, k2, all8, Or.inr ⟨z1, z2, rfl⟩⟩); exact Or.inl ⟨z1, z4, z5, p2_, (fun j9 h9 => by by_cases z9 : j9 = k2 + 1; (rw [z9]; exact ⟨z3, z2⟩); exact l4 j9 (by omega)), (fun j9 h9 => by by_cases z9 : j9 = k2; (rw [z9, l1.1]; omega); exact l5 j9 (by omega))⟩) (by omega) _ _ hP hS ls (lv_sub hl [0, 1, 2, 3, 4, 5, 6] rfl)
                  have hP := wm_eq rfl rfl (ec_r_20_21__21_20 r ((upd (r 20) (0 : Int32).toNatClampNeg (0 : Int32))) ((upd pz r106.toNatClampNeg (0 : Int32)))) (ec_q_19__19 q ((vp_updL (q 19) (0 : Int32).toNatClampNeg p0))) hP
                  exact loop_122 (20000 + 1) 0 (0 : Int32) (((upd pz r106.toNatClampNeg (0 : Int32)))) (((vp_updL (q 19) (0 : Int32).toNatClampNeg p0))) (((upd (r 20) (0 : Int32).toNatClampNeg (0 : Int32)))) (1 : Int32) (by omega) (pb_put hpb (by decide)) (by decide) (by have : (1 : Int32).toInt = 1 := rfl; omega) (by have tb1 : tabOk 65536 hR (ocR (upd pz r106.toNatClampNeg 0)) (vp_updL (q 19) 0 p0) 1 := (by rcases q106.2 0 (by omega) (tab_0 (fun e9 h9 => ocR_n (j65_1 e9 (by omega)))) with ⟨i9, y1, -⟩ | ⟨y1, -, y3⟩; exact absurd y1 (Nat.not_lt_zero _); exact tab_add (tab_0 (m := q 19) (fun e9 h9 => ocR_n (j65_1 e9 (by omega)))) y1 (fun i9 h9 => absurd h9 (Nat.not_lt_zero _)) y3 (fun i9 h9 => absurd h9 (Nat.not_lt_zero _)) (by unfold vp_updL; rw [if_pos rfl]) (by unfold ocR upd; rw [if_pos rfl]; rfl) (fun e9 h9 h8 => by unfold ocR upd; rw [if_neg h8])); exact Or.inl ⟨rfl, ⟨rfl, fun i9 h9 => by rw [show i9 = 0 by have : (1 : Int32).toNatClampNeg = 1 := rfl; omega]; exact ⟨(by unfold vp_updL; rw [if_pos (show (0 : Nat) = (0 : Int32).toNatClampNeg from rfl)]; rfl), (by unfold upd; rw [if_pos (show (0 : Nat) = (0 : Int32).toNatClampNeg from rfl)]; rfl)⟩⟩, tb1, (by unfold vp_updL; rw [if_pos (show (0 : Nat) = (0 : Int32).toNatClampNeg from rfl)]), (fun j9 h9 => by rw [show j9 = 0 by omega]; exact ⟨rfl, fun ⟨i9, h1, h2⟩ => c57 ((lg_cmp_eq _ _).mpr h2)⟩), fun j9 h9 => absurd h9 (Nat.not_lt_zero _)⟩) (by omega) _ _ hP hS ls (lv_sub hl [0, 1, 2, 3, 4, 5, 6] rfl)
                · skip
                  have d69 := c69
                  rw [fa_le] at d69
                  refine lv_aload_n hx hb dX10_far_72 rfl (lv_at hl 1 rfl) ?_
                  refine m_get (v := .ref (a 21)) hx hb hts hin hown hK hP 21 (by decide) rfl (hts (.fieldLink RX10 49 "ShadowBenchModel" "place" "[I") (by decide +kernel)) rfl dX10_far_73 ?_
                  refine lv_iload hx hb dX10_far_76 (lv_at hl 0 rfl) ?_
                  refine lv_iconst (v := (-1)) hx hb dX10_far_78 (by decide) ?_
                  refine m_iast (w := pz) hx hb hK hP hD hS 13 rfl (vp_in_iff.mpr ⟨by omega, by omega⟩) (va_up (va_up r 21 pz) 21 (upd pz (nI k).toNatClampNeg (((-1) : Int32)))) (ms_21 cy mo a _ _ _ _ _) dX10_far_79 (fun H locs hP hS => ?_)
                  have hP := wm_eq rfl rfl (es_r_21__21 r pz (upd pz (nI k).toNatClampNeg (((-1) : Int32)))) rfl hP
                  refine lv_iinc (v := (nI (k + 1))) (lv' := [(7, .int (nI (k + 1))), (0, .ref mo), (1, .int w), (2, .int h), (3, .long p0), (5, .long p1)]) hx hb dX10_far_80 hl (k := 0) rfl (nI_1 _) (by decide) rfl (fun ls hl => ?_)
                  refine lv_goto (tgt := 65) hx hb dX10_far_83 (by decide) ?_
                  have hP := wm_eq rfl rfl (ec_r_21__21 r ((upd pz (nI k).toNatClampNeg (((-1) : Int32))))) rfl hP
                  exact ih_65 (k + 1) (((upd pz (nI k).toNatClampNeg (((-1) : Int32))))) (by omega) (fun e he => by have hck := nI_clamp (n := k) (by omega); unfold upd; split; decide; exact j65_1 e (by omega)) (by omega) _ _ hP hS ls (lv_sub hl [0, 1, 2, 3, 4, 5] rfl)
            have hP := wm_eq rfl rfl (ec_r___21 r ) rfl hP
            exact loop_65 (65536 + 1) 0 (r 21) (by omega) (fun e he => absurd he (Nat.not_lt_zero _)) (by omega) _ _ hP hS ls (lv_sub hl [0, 1, 2, 3, 4, 5] rfl)
          · skip
            have d57 := c57
            rw [lg_cmp_eq, fa_eq64] at d57
            refine lv_iconst (v := 0) hx hb dX10_far_60 (by decide) ?_
            have hP := wm_eq (ec_f_0__0_22 f (0 : Int32)) rfl (ec_r___21_20 r ) (ec_q___19 q ) hP
            exact W.iret (v := (0 : Int32)) hx hb hr (fun t ht hW => ⟨⟨_, ((upd (upd f 0 (0 : Int32)) 22 (f 22)), g, (va_up (va_up r 21 (r 21)) 20 (r 20)), (va_up q 19 (q 19))), rfl, ⟨(r 21), (q 19), (r 20), (f 22), rfl, (Or.inr ⟨⟨goodP_of b11, goodP_of b21⟩, Or.inr ⟨⟨b35, b47⟩, Or.inl ⟨(lg_cmp_eq _ _).mp c57, rfl⟩⟩⟩)⟩, by unfold mB; rw [ht]; exact hP⟩, hS.F ht⟩) hS.2.2 dX10_far_61
        · skip
          have b47 := bo_f q44 c47
          refine lv_bipush (v := (-2)) hx hb dX10_far_50 (by decide) ?_
          have hP := wm_eq (ec_f_0__0_22 f (0 : Int32)) rfl (ec_r___21_20 r ) (ec_q___19 q ) hP
          exact W.iret (v := ((-2) : Int32)) hx hb hr (fun t ht hW => ⟨⟨_, ((upd (upd f 0 (0 : Int32)) 22 (f 22)), g, (va_up (va_up r 21 (r 21)) 20 (r 20)), (va_up q 19 (q 19))), rfl, ⟨(r 21), (q 19), (r 20), (f 22), rfl, (Or.inr ⟨⟨goodP_of b11, goodP_of b21⟩, Or.inl ⟨(fun z9 => by first | exact b35 z9.1 | exact b47 z9.2), rfl⟩⟩)⟩, by unfold mB; rw [ht]; exact hP⟩, hS.F ht⟩) hS.2.2 dX10_far_52
    · skip
      have b21 := bo_f q18 c21
      refine lv_iconst (v := (-1)) hx hb dX10_far_24 (by decide) ?_
      have hP := wm_eq (ec_f_0__0_22 f (0 : Int32)) rfl (ec_r___21_20 r ) (ec_q___19 q ) hP
      exact W.iret (v := ((-1) : Int32)) hx hb hr (fun t ht hW => ⟨⟨_, ((upd (upd f 0 (0 : Int32)) 22 (f 22)), g, (va_up (va_up r 21 (r 21)) 20 (r 20)), (va_up q 19 (q 19))), rfl, ⟨(r 21), (q 19), (r 20), (f 22), rfl, (Or.inl ⟨(fun z9 => by first | exact goodP_no b11 z9.1 | exact goodP_no b21 z9.2), rfl⟩)⟩, by unfold mB; rw [ht]; exact hP⟩, hS.F ht⟩) hS.2.2 dX10_far_25
