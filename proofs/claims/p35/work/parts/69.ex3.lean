
/-- what keep puts on a shelf, by what the job holds; W0: the cells before -/
def kpX (cy : Nat → ClassId) (W0 : va_W) (G : cG) (W : va_W) (o : Option Nat) (x a : Nat) (what : Int32) (w h : Nat) (p : Int64) (fs : Nat → Int32) : Prop :=
  (what.toInt = 0 ∧ o = none) ∨ (what.toInt = 1 ∧ o = some x ∧ ∃ K m, G x = some (3, K, m)) ∨
  (o = some x ∧ ∃ (m : Nat) (z : Int32) (F : Nat → Int64), G x = some (4, m, 0) ∧ G a = some (16, m, 0) ∧ (∀ e, ¬ cIn W0 a e) ∧ cIn W x (.inr (6, [.int z, .ref a])) ∧ cIn W a (.inl (cy 1, m, .inr (.inl F))) ∧ ((z = 1 ∧ what.toInt = 3 ∧ m = w * h ∧ ∀ e, e < m → F e = bI p e) ∨ (z = 0 ∧ what.toInt = 4 ∧ m = h + w ∧ suR fs w h F)))
/-- copy is asked for rightly -/
def cpOk (k z : Nat → Int32) (d i e j n : Int32) : Prop := (okSh d ∧ okSh e) ∧ ¬ (k d.toNatClampNeg = 0 ∨ k e.toNatClampNeg = 0) ∧ (3 ≤ (k d.toNatClampNeg).toInt ∧ k d.toNatClampNeg = k e.toNatClampNeg) ∧ hasP (z d.toNatClampNeg) i n ∧ hasP (z e.toNatClampNeg) j n
set_option maxHeartbeats 4000000 in
set_option maxRecDepth 100000 in
theorem c_X9_thingToKeep_xn (l : Launch) (D : va_G) (cy : Nat → ClassId) (A : Nat → Prop) (G : cG) (ws : va_W) (what : Int32) (p0 : Int64)  (hD : va_D A ws) (hT : cT cy G ws)   : Ca l D cy A yX9_thingToKeep wsX9_thingToKeep ({ frames := 0, cells := 0, slots := 0, locals := 0 }) 0 0 ws [.int what, .null, .long p0] (fun r0 u => cX none (chs []) G ws u.1 u.2 ∧ (r0 = none)) := by
  refine Met.ofW (cc := cX9_thingToKeep) (maxL := 4) (ret := (some (.object "ShadowBench$Held"))) (by decide) rfl ?_
  intro p e s m args below meth c s₁ B hml hv
  obtain ⟨rfl, hP, hK, hA, hV⟩ := hv
  have hx := B.exec
  have hb := B.bytes
  have hr := B.returns
  have hts := atoms_spec (ws := wsX9_thingToKeep) B.pre
  have hown : s.vm.findClass RX9 = some m.cls := findClass_of_methodNamed B.named
  have hlocks := B.notSynchronized
  have hS : va_S A s.heap s.heap [] := va_S.rf
  have hX : cX none (chs []) G ws G ws := cX.rf
  have hl := lv_entry ([.int what, .null, .long p0]) (n := 4) (Nat.le_of_ble_eq_true rfl)
  rw [lg_entry_eq]
  generalize (lg_sl ([.int what, .null, .long p0]) ++ List.replicate (4 - (lg_sl ([.int what, .null, .long p0])).length) Slot.unset).toArray = ls at hl ⊢
  have hl : lv_has ls 4 [(0, .int what), (1, .null), (2, .long p0)] := hl
  have k_0 : (0 : Int32).toInt = 0 := by decide
  refine lv_aload_nN hx hb dX9_thingToKeep_0 rfl (lv_at hl 1 rfl) ?_
  refine lv_ifnonnullN hx hb dX9_thingToKeep_1 ?_
  refine lv_null hx hb dX9_thingToKeep_4 ?_
  exact W.aret (v := .null) hx hb hr (Or.inl ⟨_, rfl⟩) (Or.inl rfl) (fun t ht hW => ⟨⟨none, (G, ws), rfl, ⟨hX, rfl⟩, by show va_P D vwCl ws t.heap; rw [ht]; exact hP, hD, hT⟩, hS.F ht⟩) hS.2.2 dX9_thingToKeep_5
set_option maxHeartbeats 4000000 in
set_option maxRecDepth 100000 in
theorem c_X9_thingToKeep_x (l : Launch) (D : va_G) (cy : Nat → ClassId) (A : Nat → Prop) (G : cG) (ws : va_W) (what : Int32) (x1 : Nat) (p0 : Int64) {k1 wq hq b1 s1 t1 : Nat} {o1 y1 : Int64} {ms1 : List Value} {fs : Nat → Int32} (hD : va_D A ws) (hT : cT cy G ws) (hG_x1 : G x1 = some (3, k1, 8 * wq + hq)) (hM_x1 : cIn ws x1 (.inr (k1, .ref b1 :: .ref s1 :: .int (nI t1) :: .long o1 :: .long y1 :: ms1))) (hM_s1 : cIn ws s1 (.inl (cy 0, 44, .inl fs))) (hb9 : 1 ≤ wq ∧ wq ≤ 6 ∧ 1 ≤ hq ∧ hq ≤ 6) (ht9 : t1 < 16) : Ca l D cy A yX9_thingToKeep wsX9_thingToKeep ({ frames := 6, cells := 3, slots := 86, locals := 123 }) 3 86 ws [.int what, .ref x1, .long p0] (fun r0 u => cX none (chs []) G ws u.1 u.2 ∧ ((r0 = none ∧ ¬ (what.toInt = 1 ∨ what.toInt = 4 ∨ (what.toInt = 3 ∧ isPic (wq * hq) p0))) ∨ ((∃ x k n, r0 = some x ∧ u.1 x = some (3, k, n)) ∧ what.toInt = 1) ∨ (∃ x a m z F, r0 = some x ∧ u.1 x = some (4, m, 0) ∧ u.1 a = some (16, m, 0) ∧ (∀ e, ¬ cIn ws a e) ∧ cIn u.2 x (.inr (6, [.int z, .ref a])) ∧ cIn u.2 a (.inl (cy 1, m, .inr (.inl F))) ∧ ((z = 1 ∧ what.toInt = 3 ∧ isPic (wq * hq) p0 ∧ m = wq * hq ∧ ∀ e, e < m → F e = bI p0 e) ∨ (z = 0 ∧ what.toInt = 4 ∧ m = hq + wq ∧ suR fs wq hq F))))) := by
  refine Met.ofW (cc := cX9_thingToKeep) (maxL := 4) (ret := (some (.object "ShadowBench$Held"))) (by decide) rfl ?_
  intro p e s m args below meth c s₁ B hml hv
  obtain ⟨rfl, hP, hK, hA, hV⟩ := hv
  have hx := B.exec
  have hb := B.bytes
  have hr := B.returns
  have hts := atoms_spec (ws := wsX9_thingToKeep) B.pre
  have hown : s.vm.findClass RX9 = some m.cls := findClass_of_methodNamed B.named
  have hlocks := B.notSynchronized
  have hS : va_S A s.heap s.heap [] := va_S.rf
  have hinJ : ∀ w ∈ wsX10 ++ wsX30 ++ wsX40 ++ wsX50, w ∈ wsX9_thingToKeep := by decide +kernel
  have hX : cX none (chs []) G ws G ws := cX.rf
  have hl := lv_entry ([.int what, .ref x1, .long p0]) (n := 4) (Nat.le_of_ble_eq_true rfl)
  rw [lg_entry_eq]
  generalize (lg_sl ([.int what, .ref x1, .long p0]) ++ List.replicate (4 - (lg_sl ([.int what, .ref x1, .long p0])).length) Slot.unset).toArray = ls at hl ⊢
  have hl : lv_has ls 4 [(0, .int what), (1, .ref x1), (2, .long p0)] := hl
  have k_0 : (0 : Int32).toInt = 0 := by decide
  have k_1 : (1 : Int32).toInt = 1 := by decide
  have k_3 : (3 : Int32).toInt = 3 := by decide
  have k_4 : (4 : Int32).toInt = 4 := by decide
  obtain ⟨hG_b1, hG_s1, hJ_x1⟩ := w3sh hD hT hG_x1 hb9 hM_x1
  refine lv_aload_n hx hb dX9_thingToKeep_0 rfl (lv_at hl 1 rfl) ?_
  refine lv_ifnonnull (tgt := 6) hx hb dX9_thingToKeep_1 (by decide) ?_
  refine lv_iload_n hx hb dX9_thingToKeep_6 rfl (lv_at hl 0 rfl) ?_
  refine lv_iconst (v := 1) hx hb dX9_thingToKeep_7 (by decide) ?_
  refine lv_icmp_ne (tgt := 16) hx hb dX9_thingToKeep_8 (by decide) (fun c8 => ?_) (fun c8 => ?_)
  · skip
    have d8 := c8
    rw [fa_eq] at d8
    refine lv_iload_n hx hb dX9_thingToKeep_16 rfl (lv_at hl 0 rfl) ?_
    refine lv_iconst (v := 3) hx hb dX9_thingToKeep_17 (by decide) ?_
    refine lv_icmp_ne (tgt := 41) hx hb dX9_thingToKeep_18 (by decide) (fun c18 => ?_) (fun c18 => ?_)
    · skip
      have d18 := c18
      rw [fa_eq] at d18
      refine lv_iload_n hx hb dX9_thingToKeep_41 rfl (lv_at hl 0 rfl) ?_
      refine lv_iconst (v := 4) hx hb dX9_thingToKeep_42 (by decide) ?_
      refine lv_icmp_ne (tgt := 53) hx hb dX9_thingToKeep_43 (by decide) (fun c43 => ?_) (fun c43 => ?_)
      · skip
        have d43 := c43
        rw [fa_eq] at d43
        refine lv_null hx hb dX9_thingToKeep_53 ?_
        refine W.widen (k := 3) (n := 86) (Nat.le_of_ble_eq_true rfl) (Nat.le_of_ble_eq_true rfl) ?_
        exact W.aret (v := .null) hx hb hr (Or.inl ⟨_, rfl⟩) (Or.inl rfl) (fun t ht hW => ⟨⟨none, (G, ws), rfl, ⟨hX, Or.inl ⟨rfl, (by rintro (z9 | z9 | ⟨z9, z8⟩) <;> first | omega | exact b29 z8)⟩⟩, by show va_P D vwCl ws t.heap; rw [ht]; exact hP, hD, hT⟩, hS.F ht⟩) hS.2.2 dX9_thingToKeep_54
      · skip
        have d43 := c43
        rw [fa_eq] at d43
        refine lv_aload_n hx hb dX9_thingToKeep_46 rfl (lv_at hl 1 rfl) ?_
        refine t_calla (va_runS (g := F0 m 47 ls ([.ref x1])) (As := [.ref x1]) (rest := []) ⟨hx, hb, hml, hown, hts⟩ (c_X9_sumsOf_x l D cy A G ws x1 hD hT hG_x1 hM_x1 hM_s1 hb9 ht9) (va_cwS 1 hts gX9_thingToKeep_X9_sumsOf rfl rfl rfl (by decide +kernel) ⟨Nat.le_of_ble_eq_true rfl, Nat.le_of_ble_eq_true rfl⟩) (c_preS hP hK hA hS hV) rfl rfl hl.1 rfl (lv_room (Nat.le_of_ble_eq_true rfl)) dX9_thingToKeep_47 ⟨Nat.le_of_ble_eq_true rfl, Nat.le_of_ble_eq_true rfl⟩) hS (fun r47 u H locs q47 hP9 hD9 hT9 hS => ?_)
        obtain ⟨G47, w47⟩ := u
        obtain ⟨hX9, q47⟩ := q47
        have hX9 : cX none (chs []) G ws G47 w47 := hX9
        have hP : va_P D vwCl w47 H := hP9
        have hD : va_D A w47 := hD9
        have hT : cT cy G47 w47 := hT9
        have hM_x1 := hX9.2.1 _ _ (cP.no hG_x1 rfl) hM_x1
        have hM_s1 := hX9.2.1 _ _ (cP.no hG_s1 rfl) hM_s1
        have hG_x1 := hX9.1 _ _ hG_x1
        have hG_b1 := hX9.1 _ _ hG_b1
        have hG_s1 := hX9.1 _ _ hG_s1
        have hX := hX.tr hX9
        obtain ⟨x47, a47, m47, F47, rfl, hG_x47, hG_a47, hN9_a47, hM_x47, hM_a47, hm9_a47, hF9_a47⟩ := q47
        refine lv_goto (tgt := 54) hx hb dX9_thingToKeep_50 (by decide) ?_
        refine W.widen (k := 3) (n := 86) (Nat.le_of_ble_eq_true rfl) (Nat.le_of_ble_eq_true rfl) ?_
        exact W.aret (v := .ref x47) hx hb hr (Or.inl ⟨_, rfl⟩) (Or.inr ⟨_, rfl⟩) (fun t ht hW => ⟨⟨(some x47), (G47, w47), rfl, ⟨hX, Or.inr (Or.inr ⟨_, _, _, _, _, rfl, hG_x47, hG_a47, hN9_a47, hM_x47, hM_a47, Or.inr ⟨rfl, by omega, hm9_a47, hF9_a47⟩⟩)⟩, by show va_P D vwCl w47 t.heap; rw [ht]; exact hP, hD, hT⟩, hS.F ht⟩) hS.2.2 dX9_thingToKeep_54
    · skip
      have d18 := c18
      rw [fa_eq] at d18
      refine lv_aload_n hx hb dX9_thingToKeep_21 rfl (lv_at hl 1 rfl) ?_
      refine t_getJ (v := .ref b1) hx hb hts hinJ hown hK hP hJ_x1.kc hM_x1 0 (by decide) (hts (.fieldLink RX9 65 "ShadowBench$Job" "board" "LShadowBench$Board;") (by decide +kernel)) (fun _ h9 => h9) rfl dX9_thingToKeep_22 ?_
      refine lv_lload_n hx hb dX9_thingToKeep_25 rfl (lv_at hl 2 rfl) ?_
      obtain ⟨_, hM_b1, hb_b1, l_b1, f_b1, r_b1, rfl, hG_l_b1, hG_f_b1, hG_r_b1⟩ := hT _ _ hG_b1
      refine t_calli (va_runV (g := F0 m 26 ls ([.long p0, .ref b1])) (As := [.long p0]) (rest := []) ⟨hx, hb, hml, hown, hts⟩ (c_X0_isPicture_x l D cy A G ws b1 p0 hD hT hG_b1 ) (cwV 1 hts gX9_thingToKeep_X0_isPicture rfl rfl rfl (by decide +kernel) ⟨Nat.le_of_ble_eq_true rfl, Nat.le_of_ble_eq_true rfl⟩) (c_preV hM_b1 rfl hP hK hA hS hV) rfl rfl hl.1 rfl (lv_room (Nat.le_of_ble_eq_true rfl)) dX9_thingToKeep_26 ⟨Nat.le_of_ble_eq_true rfl, Nat.le_of_ble_eq_true rfl⟩) hS (fun r26 u H locs q26 hP9 hD9 hT9 hS => ?_)
      obtain ⟨rfl, q26⟩ := q26
      have hP : va_P D vwCl ws H := hP9
      refine lv_if_eq (tgt := 41) hx hb dX9_thingToKeep_29 (by decide) (fun c29 => ?_) (fun c29 => ?_)
      · skip
        have b29 := bo_f q26 c29
        refine lv_iload_n hx hb dX9_thingToKeep_41 rfl (lv_at hl 0 rfl) ?_
        refine lv_iconst (v := 4) hx hb dX9_thingToKeep_42 (by decide) ?_
        refine lv_icmp_ne (tgt := 53) hx hb dX9_thingToKeep_43 (by decide) (fun c43 => ?_) (fun c43 => ?_)
        · skip
          have d43 := c43
          rw [fa_eq] at d43
          refine lv_null hx hb dX9_thingToKeep_53 ?_
          refine W.widen (k := 3) (n := 86) (Nat.le_of_ble_eq_true rfl) (Nat.le_of_ble_eq_true rfl) ?_
          exact W.aret (v := .null) hx hb hr (Or.inl ⟨_, rfl⟩) (Or.inl rfl) (fun t ht hW => ⟨⟨none, (G, ws), rfl, ⟨hX, Or.inl ⟨rfl, (by rintro (z9 | z9 | ⟨z9, z8⟩) <;> first | omega | exact b29 z8)⟩⟩, by show va_P D vwCl ws t.heap; rw [ht]; exact hP, hD, hT⟩, hS.F ht⟩) hS.2.2 dX9_thingToKeep_54
        · skip
          have d43 := c43
          rw [fa_eq] at d43
          refine lv_aload_n hx hb dX9_thingToKeep_46 rfl (lv_at hl 1 rfl) ?_
          refine t_calla (va_runS (g := F0 m 47 ls ([.ref x1])) (As := [.ref x1]) (rest := []) ⟨hx, hb, hml, hown, hts⟩ (c_X9_sumsOf_x l D cy A G ws x1 hD hT hG_x1 hM_x1 hM_s1 hb9 ht9) (va_cwS 1 hts gX9_thingToKeep_X9_sumsOf rfl rfl rfl (by decide +kernel) ⟨Nat.le_of_ble_eq_true rfl, Nat.le_of_ble_eq_true rfl⟩) (c_preS hP hK hA hS hV) rfl rfl hl.1 rfl (lv_room (Nat.le_of_ble_eq_true rfl)) dX9_thingToKeep_47 ⟨Nat.le_of_ble_eq_true rfl, Nat.le_of_ble_eq_true rfl⟩) hS (fun r47 u H locs q47 hP9 hD9 hT9 hS => ?_)
          obtain ⟨G47, w47⟩ := u
          obtain ⟨hX9, q47⟩ := q47
          have hX9 : cX none (chs []) G ws G47 w47 := hX9
          have hP : va_P D vwCl w47 H := hP9
          have hD : va_D A w47 := hD9
          have hT : cT cy G47 w47 := hT9
          have hM_x1 := hX9.2.1 _ _ (cP.no hG_x1 rfl) hM_x1
          have hM_s1 := hX9.2.1 _ _ (cP.no hG_s1 rfl) hM_s1
          have hM_b1 := hX9.2.1 _ _ (cP.no hG_b1 rfl) hM_b1
          have hG_x1 := hX9.1 _ _ hG_x1
          have hG_b1 := hX9.1 _ _ hG_b1
          have hG_s1 := hX9.1 _ _ hG_s1
          have hG_l_b1 := hX9.1 _ _ hG_l_b1
          have hG_f_b1 := hX9.1 _ _ hG_f_b1
          have hG_r_b1 := hX9.1 _ _ hG_r_b1
          have hX := hX.tr hX9
          obtain ⟨x47, a47, m47, F47, rfl, hG_x47, hG_a47, hN9_a47, hM_x47, hM_a47, hm9_a47, hF9_a47⟩ := q47
          refine lv_goto (tgt := 54) hx hb dX9_thingToKeep_50 (by decide) ?_
          refine W.widen (k := 3) (n := 86) (Nat.le_of_ble_eq_true rfl) (Nat.le_of_ble_eq_true rfl) ?_
          exact W.aret (v := .ref x47) hx hb hr (Or.inl ⟨_, rfl⟩) (Or.inr ⟨_, rfl⟩) (fun t ht hW => ⟨⟨(some x47), (G47, w47), rfl, ⟨hX, Or.inr (Or.inr ⟨_, _, _, _, _, rfl, hG_x47, hG_a47, hN9_a47, hM_x47, hM_a47, Or.inr ⟨rfl, by omega, hm9_a47, hF9_a47⟩⟩)⟩, by show va_P D vwCl w47 t.heap; rw [ht]; exact hP, hD, hT⟩, hS.F ht⟩) hS.2.2 dX9_thingToKeep_54
      · skip
        have b29 := bo_t q26 c29
        refine lv_aload_n hx hb dX9_thingToKeep_32 rfl (lv_at hl 1 rfl) ?_
        refine t_getJ (v := .ref b1) hx hb hts hinJ hown hK hP hJ_x1.kc hM_x1 0 (by decide) (hts (.fieldLink RX9 65 "ShadowBench$Job" "board" "LShadowBench$Board;") (by decide +kernel)) (fun _ h9 => h9) rfl dX9_thingToKeep_33 ?_
        refine lv_lload_n hx hb dX9_thingToKeep_36 rfl (lv_at hl 2 rfl) ?_
        refine t_calla (va_runS (g := F0 m 37 ls ([.long p0, .ref b1])) (As := [.ref b1, .long p0]) (rest := []) ⟨hx, hb, hml, hown, hts⟩ (c_X9_squaresOf_x l D cy A G ws b1 p0 hD hT hG_b1 ) (va_cwS 2 hts gX9_thingToKeep_X9_squaresOf rfl rfl rfl (by decide +kernel) ⟨Nat.le_of_ble_eq_true rfl, Nat.le_of_ble_eq_true rfl⟩) (c_preS hP hK hA hS hV) rfl rfl hl.1 rfl (lv_room (Nat.le_of_ble_eq_true rfl)) dX9_thingToKeep_37 ⟨Nat.le_of_ble_eq_true rfl, Nat.le_of_ble_eq_true rfl⟩) hS (fun r37 u H locs q37 hP9 hD9 hT9 hS => ?_)
        obtain ⟨G37, w37⟩ := u
        obtain ⟨hX9, q37⟩ := q37
        have hX9 : cX none (chs []) G ws G37 w37 := hX9
        have hP : va_P D vwCl w37 H := hP9
        have hD : va_D A w37 := hD9
        have hT : cT cy G37 w37 := hT9
        have hM_x1 := hX9.2.1 _ _ (cP.no hG_x1 rfl) hM_x1
        have hM_s1 := hX9.2.1 _ _ (cP.no hG_s1 rfl) hM_s1
        have hM_b1 := hX9.2.1 _ _ (cP.no hG_b1 rfl) hM_b1
        have hG_x1 := hX9.1 _ _ hG_x1
        have hG_b1 := hX9.1 _ _ hG_b1
        have hG_s1 := hX9.1 _ _ hG_s1
        have hG_l_b1 := hX9.1 _ _ hG_l_b1
        have hG_f_b1 := hX9.1 _ _ hG_f_b1
        have hG_r_b1 := hX9.1 _ _ hG_r_b1
        have hX := hX.tr hX9
        obtain ⟨x37, a37, F37, rfl, hG_x37, hG_a37, hN9_a37, hM_x37, hM_a37, hF9_a37⟩ := q37
        refine W.widen (k := 3) (n := 86) (Nat.le_of_ble_eq_true rfl) (Nat.le_of_ble_eq_true rfl) ?_
        exact W.aret (v := .ref x37) hx hb hr (Or.inl ⟨_, rfl⟩) (Or.inr ⟨_, rfl⟩) (fun t ht hW => ⟨⟨(some x37), (G37, w37), rfl, ⟨hX, Or.inr (Or.inr ⟨_, _, _, _, _, rfl, hG_x37, hG_a37, hN9_a37, hM_x37, hM_a37, Or.inl ⟨rfl, by omega, b29, rfl, hF9_a37⟩⟩)⟩, by show va_P D vwCl w37 t.heap; rw [ht]; exact hP, hD, hT⟩, hS.F ht⟩) hS.2.2 dX9_thingToKeep_40
  · skip
    have d8 := c8
    rw [fa_eq] at d8
    refine lv_aload_n hx hb dX9_thingToKeep_11 rfl (lv_at hl 1 rfl) ?_
    have hJ9 := hJ_x1
    obtain ⟨hn9, hJ9⟩ := hJ9
    rcases hJ9 with ⟨rfl, rfl⟩ | ⟨rfl, rfl⟩ | ⟨rfl, rfl⟩ | ⟨rfl, c9, rfl, hG_c9⟩
    · skip
      have hM_x1 : cIn ws x1 (.inr (1, [.ref b1, .ref s1, .int (nI t1), .long o1, .long y1])) := hM_x1
      refine t_calla (va_runU (g := F0 m 12 ls ([.ref x1])) (As := []) (rest := []) ⟨hx, hb, hml, hown, hts⟩ (c_X1_asItIs_w l D cy A G ws x1 hD hT hG_x1 ) (va_cwO 0 hts gX9_thingToKeep_X1_asItIs_u321X1 rfl rfl rfl (b0 := cX3_asItIs) (m0 := 1) (r0 := (some (.object "ShadowBench$Job"))) (by decide +kernel) (by decide +kernel) ⟨Nat.le_of_ble_eq_true rfl, Nat.le_of_ble_eq_true rfl⟩) (c_preV hM_x1 rfl hP hK hA hS hV) rfl rfl hl.1 rfl (lv_room (Nat.le_of_ble_eq_true rfl)) dX9_thingToKeep_12 ⟨Nat.le_of_ble_eq_true rfl, Nat.le_of_ble_eq_true rfl⟩) hS (fun r12 u H locs q12 hP9 hD9 hT9 hS => ?_)
      obtain ⟨G12, w12⟩ := u
      obtain ⟨hX9, q12⟩ := q12
      have hX9 : cX none (chs []) G ws G12 w12 := hX9
      have hP : va_P D vwCl w12 H := hP9
      have hD : va_D A w12 := hD9
      have hT : cT cy G12 w12 := hT9
      have hM_x1 := hX9.2.1 _ _ (cP.no hG_x1 rfl) hM_x1
      have hM_s1 := hX9.2.1 _ _ (cP.no hG_s1 rfl) hM_s1
      have hG_x1 := hX9.1 _ _ hG_x1
      have hG_b1 := hX9.1 _ _ hG_b1
      have hG_s1 := hX9.1 _ _ hG_s1
      have hX := hX.tr hX9
      obtain ⟨x12, k12, n12, rfl, hG_x12⟩ := q12
      refine W.widen (k := 3) (n := 86) (Nat.le_of_ble_eq_true rfl) (Nat.le_of_ble_eq_true rfl) ?_
      exact W.aret (v := .ref x12) hx hb hr (Or.inl ⟨_, rfl⟩) (Or.inr ⟨_, rfl⟩) (fun t ht hW => ⟨⟨(some x12), (G12, w12), rfl, ⟨hX, Or.inr (Or.inl ⟨⟨_, _, _, rfl, hG_x12⟩, by omega⟩)⟩, by show va_P D vwCl w12 t.heap; rw [ht]; exact hP, hD, hT⟩, hS.F ht⟩) hS.2.2 dX9_thingToKeep_15
    · skip
      have hM_x1 : cIn ws x1 (.inr (2, [.ref b1, .ref s1, .int (nI t1), .long o1, .long y1])) := hM_x1
      refine t_calla (va_runV (g := F0 m 12 ls ([.ref x1])) (As := []) (rest := []) ⟨hx, hb, hml, hown, hts⟩ (c_X3_asItIs_w l D cy A G ws x1 hD hT hG_x1 ) (cwV 0 hts gX9_thingToKeep_X3_asItIs rfl rfl rfl (by decide +kernel) ⟨Nat.le_of_ble_eq_true rfl, Nat.le_of_ble_eq_true rfl⟩) (c_preV hM_x1 rfl hP hK hA hS hV) rfl rfl hl.1 rfl (lv_room (Nat.le_of_ble_eq_true rfl)) dX9_thingToKeep_12 ⟨Nat.le_of_ble_eq_true rfl, Nat.le_of_ble_eq_true rfl⟩) hS (fun r12 u H locs q12 hP9 hD9 hT9 hS => ?_)
      obtain ⟨G12, w12⟩ := u
      obtain ⟨hX9, q12⟩ := q12
      have hX9 : cX none (chs []) G ws G12 w12 := hX9
      have hP : va_P D vwCl w12 H := hP9
      have hD : va_D A w12 := hD9
      have hT : cT cy G12 w12 := hT9
      have hM_x1 := hX9.2.1 _ _ (cP.no hG_x1 rfl) hM_x1
      have hM_s1 := hX9.2.1 _ _ (cP.no hG_s1 rfl) hM_s1
      have hG_x1 := hX9.1 _ _ hG_x1
      have hG_b1 := hX9.1 _ _ hG_b1
      have hG_s1 := hX9.1 _ _ hG_s1
      have hX := hX.tr hX9
      obtain ⟨x12, k12, n12, rfl, hG_x12⟩ := q12
      refine W.widen (k := 3) (n := 86) (Nat.le_of_ble_eq_true rfl) (Nat.le_of_ble_eq_true rfl) ?_
      exact W.aret (v := .ref x12) hx hb hr (Or.inl ⟨_, rfl⟩) (Or.inr ⟨_, rfl⟩) (fun t ht hW => ⟨⟨(some x12), (G12, w12), rfl, ⟨hX, Or.inr (Or.inl ⟨⟨_, _, _, rfl, hG_x12⟩, by omega⟩)⟩, by show va_P D vwCl w12 t.heap; rw [ht]; exact hP, hD, hT⟩, hS.F ht⟩) hS.2.2 dX9_thingToKeep_15
    · skip
      have hM_x1 : cIn ws x1 (.inr (3, [.ref b1, .ref s1, .int (nI t1), .long o1, .long y1])) := hM_x1
      refine t_calla (va_runU (g := F0 m 12 ls ([.ref x1])) (As := []) (rest := []) ⟨hx, hb, hml, hown, hts⟩ (c_X4_asItIs_w l D cy A G ws x1 hD hT hG_x1 ) (va_cwO 0 hts gX9_thingToKeep_X4_asItIs_u321X4 rfl rfl rfl (b0 := cX3_asItIs) (m0 := 1) (r0 := (some (.object "ShadowBench$Job"))) (by decide +kernel) (by decide +kernel) ⟨Nat.le_of_ble_eq_true rfl, Nat.le_of_ble_eq_true rfl⟩) (c_preV hM_x1 rfl hP hK hA hS hV) rfl rfl hl.1 rfl (lv_room (Nat.le_of_ble_eq_true rfl)) dX9_thingToKeep_12 ⟨Nat.le_of_ble_eq_true rfl, Nat.le_of_ble_eq_true rfl⟩) hS (fun r12 u H locs q12 hP9 hD9 hT9 hS => ?_)
      obtain ⟨G12, w12⟩ := u
      obtain ⟨hX9, q12⟩ := q12
      have hX9 : cX none (chs []) G ws G12 w12 := hX9
      have hP : va_P D vwCl w12 H := hP9
      have hD : va_D A w12 := hD9
      have hT : cT cy G12 w12 := hT9
      have hM_x1 := hX9.2.1 _ _ (cP.no hG_x1 rfl) hM_x1
      have hM_s1 := hX9.2.1 _ _ (cP.no hG_s1 rfl) hM_s1
      have hG_x1 := hX9.1 _ _ hG_x1
      have hG_b1 := hX9.1 _ _ hG_b1
      have hG_s1 := hX9.1 _ _ hG_s1
      have hX := hX.tr hX9
      obtain ⟨x12, k12, n12, rfl, hG_x12⟩ := q12
      refine W.widen (k := 3) (n := 86) (Nat.le_of_ble_eq_true rfl) (Nat.le_of_ble_eq_true rfl) ?_
      exact W.aret (v := .ref x12) hx hb hr (Or.inl ⟨_, rfl⟩) (Or.inr ⟨_, rfl⟩) (fun t ht hW => ⟨⟨(some x12), (G12, w12), rfl, ⟨hX, Or.inr (Or.inl ⟨⟨_, _, _, rfl, hG_x12⟩, by omega⟩)⟩, by show va_P D vwCl w12 t.heap; rw [ht]; exact hP, hD, hT⟩, hS.F ht⟩) hS.2.2 dX9_thingToKeep_15
    · skip
      have hM_x1 : cIn ws x1 (.inr (4, [.ref b1, .ref s1, .int (nI t1), .long o1, .long y1, .ref c9])) := hM_x1
      have hn36 := cb_mul (c_hb hT hG_b1)
      refine t_calla (va_runU (g := F0 m 12 ls ([.ref x1])) (As := []) (rest := []) ⟨hx, hb, hml, hown, hts⟩ (c_X5_asItIs_w l D cy A G ws x1 hD hT hG_x1 ) (va_cwO 0 hts gX9_thingToKeep_X5_asItIs_u321X5 rfl rfl rfl (b0 := cX3_asItIs) (m0 := 1) (r0 := (some (.object "ShadowBench$Job"))) (by decide +kernel) (by decide +kernel) ⟨Nat.le_of_ble_eq_true rfl, Nat.le_of_ble_eq_true rfl⟩) (c_preV hM_x1 rfl hP hK hA hS hV) rfl rfl hl.1 rfl (lv_room (Nat.le_of_ble_eq_true rfl)) dX9_thingToKeep_12 ⟨Nat.le_of_ble_eq_true rfl, Nat.le_of_ble_eq_true rfl⟩) hS (fun r12 u H locs q12 hP9 hD9 hT9 hS => ?_)
      obtain ⟨G12, w12⟩ := u
      obtain ⟨hX9, q12⟩ := q12
      have hX9 : cX none (chs []) G ws G12 w12 := hX9
      have hP : va_P D vwCl w12 H := hP9
      have hD : va_D A w12 := hD9
      have hT : cT cy G12 w12 := hT9
      have hM_x1 := hX9.2.1 _ _ (cP.no hG_x1 rfl) hM_x1
      have hM_s1 := hX9.2.1 _ _ (cP.no hG_s1 rfl) hM_s1
      have hG_x1 := hX9.1 _ _ hG_x1
      have hG_b1 := hX9.1 _ _ hG_b1
      have hG_s1 := hX9.1 _ _ hG_s1
      have hG_c9 := hX9.1 _ _ hG_c9
      have hX := hX.tr hX9
      obtain ⟨x12, k12, n12, rfl, hG_x12⟩ := q12
      refine W.widen (k := 3) (n := 86) (Nat.le_of_ble_eq_true rfl) (Nat.le_of_ble_eq_true rfl) ?_
      exact W.aret (v := .ref x12) hx hb hr (Or.inl ⟨_, rfl⟩) (Or.inr ⟨_, rfl⟩) (fun t ht hW => ⟨⟨(some x12), (G12, w12), rfl, ⟨hX, Or.inr (Or.inl ⟨⟨_, _, _, rfl, hG_x12⟩, by omega⟩)⟩, by show va_P D vwCl w12 t.heap; rw [ht]; exact hP, hD, hT⟩, hS.F ht⟩) hS.2.2 dX9_thingToKeep_15
set_option maxHeartbeats 4000000 in
set_option maxRecDepth 100000 in
theorem c_X9_keep_x (l : Launch) (D : va_G) (cy : Nat → ClassId) (A : Nat → Prop) (G : cG) (ws : va_W) (o : Nat) (d : Int32) (what : Int32) (k0 : Int32) (p0 : Int64) {bs_o js_o sh_o wk_o ll_o : Nat} {jc_o lc_o : Int32} {mo_o lb_o : Option Nat} {fa : Nat → Option Nat} {xj kj bj sj tj wj hj : Nat} {oj nj : Int64} {msj : List Value} {fsj : Nat → Int32} {fb : Nat → Option Nat} (hD : va_D A ws) (hT : cT cy G ws) (hG_o : G o = some (7, 0, 0)) (hM_o : cIn ws o (.inr (8, [.ref bs_o, .ref js_o, .int jc_o, .ref sh_o, .ref wk_o, va_rf mo_o, .ref ll_o, .int lc_o, va_rf lb_o]))) (hM_js_o : cIn ws js_o (.inl (cy 4, cqa 8 fa))) (hM_sh_o : cIn ws sh_o (.inl (cy 5, cqa 8 fb))) (hJ1 : ∀ i : Nat, (i : Int) < jc_o.toInt → ∃ x, fa i = some x) (hJ : okJob jc_o k0 → jobS cy G ws fa k0.toNatClampNeg xj kj bj sj tj wj hj oj nj msj fsj) : Ci l D cy A yX9_keep wsX9_keep ({ frames := 7, cells := 3, slots := 86, locals := 146 }) 3 86 ws [.ref o, .int d, .int what, .int k0, .long p0] (fun r0 u => cX none (chs [10]) G ws u.1 u.2 ∧ (yesNo (okKeep jc_o (fun _ => wj) (fun _ => hj) d what k0 p0) 0 (-1) r0 ∧ ((okKeep jc_o (fun _ => wj) (fun _ => hj) d what k0 p0 ∧ ∃ o9 x9 a9, cIn u.2 sh_o (.inl (cy 5, cqa 8 (va_up fb d.toNatClampNeg o9))) ∧ kpX cy ws u.1 u.2 o9 x9 a9 what wj hj p0 fsj) ∨ (¬ okKeep jc_o (fun _ => wj) (fun _ => hj) d what k0 p0 ∧ cIn u.2 sh_o (.inl (cy 5, cqa 8 fb)))))) := by
  refine Met.ofW (cc := cX9_keep) (maxL := 7) (ret := (some .int)) (by decide) rfl ?_
  intro p e s m args below meth c s₁ B hml hv
  obtain ⟨rfl, hP, hK, hA, hV⟩ := hv
  have hx := B.exec
  have hb := B.bytes
  have hr := B.returns
  have hts := atoms_spec (ws := wsX9_keep) B.pre
  have hown : s.vm.findClass RX9 = some m.cls := findClass_of_methodNamed B.named
  have hlocks := B.notSynchronized
  have hS : va_S A s.heap s.heap [] := va_S.rf
  have hX : cX none (chs [10]) G ws G ws := cX.rf
  have hl := lv_entry ([.ref o, .int d, .int what, .int k0, .long p0]) (n := 7) (Nat.le_of_ble_eq_true rfl)
  rw [lg_entry_eq]
  generalize (lg_sl ([.ref o, .int d, .int what, .int k0, .long p0]) ++ List.replicate (7 - (lg_sl ([.ref o, .int d, .int what, .int k0, .long p0])).length) Slot.unset).toArray = ls at hl ⊢
  have hl : lv_has ls 7 [(0, .ref o), (1, .int d), (2, .int what), (3, .int k0), (4, .long p0)] := hl
  have k_m1 : (-1 : Int32).toInt = -1 := by decide
  have k_0 : (0 : Int32).toInt = 0 := by decide
  obtain ⟨hjc_o, hlc_o, hG_bs_o, hG_js_o, hG_sh_o, hG_wk_o, hmo_o, hG_ll_o, hlb_o⟩ := w7sh hD hT hG_o hM_o
  have hf_js_o := w9sh hD hT hG_js_o hM_js_o
  have hf_sh_o := w10sh hD hT hG_sh_o hM_sh_o
  refine lv_iload_n hx hb dX9_keep_0 rfl (lv_at hl 1 rfl) ?_
  refine t_pu (As := [.int d]) (rest := []) ⟨hx, hb, hml, hown, hts⟩ (c_X9_isShelf l d ) (va_cwS 1 hts gX9_keep_X9_isShelf rfl rfl rfl (by decide +kernel) ⟨Nat.le_of_ble_eq_true rfl, Nat.le_of_ble_eq_true rfl⟩) hP rfl hl.1 rfl (Nat.le_of_ble_eq_true rfl) dX9_keep_1 ⟨Nat.le_of_ble_eq_true rfl, Nat.le_of_ble_eq_true rfl⟩ hS (fun r1 H locs q1 hP hS => ?_)
  refine lv_if_ne (tgt := 9) hx hb dX9_keep_4 (by decide) (fun c4 => ?_) (fun c4 => ?_)
  · skip
    have b4 := bo_t q1 c4
    refine lv_iload_n hx hb dX9_keep_9 rfl (lv_at hl 2 rfl) ?_
    refine lv_if_ne (tgt := 22) hx hb dX9_keep_10 (by decide) (fun c10 => ?_) (fun c10 => ?_)
    · skip
      have d10 := c10
      rw [fa_eq] at d10
      refine lv_iload_n hx hb dX9_keep_22 rfl (lv_at hl 2 rfl) ?_
      refine lv_aload_n hx hb dX9_keep_23 rfl (lv_at hl 0 rfl) ?_
      refine lv_iload_n hx hb dX9_keep_24 rfl (lv_at hl 3 rfl) ?_
      refine t_calla (va_runV (g := F0 m 25 ls ([.int k0, .ref o, .int what])) (As := [.int k0]) (rest := [.int what]) ⟨hx, hb, hml, hown, hts⟩ (c_X9_jobOf_j l D cy A G ws o k0 hD hT hG_o hM_o hM_js_o hJ1) (cwV 1 hts gX9_keep_X9_jobOf rfl rfl rfl (by decide +kernel) ⟨Nat.le_of_ble_eq_true rfl, Nat.le_of_ble_eq_true rfl⟩) (c_preV hM_o rfl hP hK hA hS hV) rfl rfl hl.1 rfl (lv_room (Nat.le_of_ble_eq_true rfl)) dX9_keep_25 ⟨Nat.le_of_ble_eq_true rfl, Nat.le_of_ble_eq_true rfl⟩) hS (fun r25 u H locs q25 hP9 hD9 hT9 hS => ?_)
      obtain ⟨rfl, q25⟩ := q25
      have hP : va_P D vwCl ws H := hP9
      rcases r25 with _ | x25
      · skip
        have vn25 := q25.2 rfl
        refine lv_lload hx hb dX9_keep_28 (lv_at hl 4 rfl) ?_
        refine t_calla (va_runS (g := F0 m 30 ls ([.long p0, .null, .int what])) (As := [.int what, .null, .long p0]) (rest := []) ⟨hx, hb, hml, hown, hts⟩ (c_X9_thingToKeep_xn l D cy A G ws what p0 hD hT ) (va_cwS 3 hts gX9_keep_X9_thingToKeep rfl rfl rfl (by decide +kernel) ⟨Nat.le_of_ble_eq_true rfl, Nat.le_of_ble_eq_true rfl⟩) (c_preS hP hK hA hS hV) rfl rfl hl.1 rfl (lv_room (Nat.le_of_ble_eq_true rfl)) dX9_keep_30 ⟨Nat.le_of_ble_eq_true rfl, Nat.le_of_ble_eq_true rfl⟩) hS (fun r30 u H locs q30 hP9 hD9 hT9 hS => ?_)
        obtain ⟨G30, w30⟩ := u
        obtain ⟨hX9, q30⟩ := q30
        have hX9 : cX none (chs []) G ws G30 w30 := hX9
        have hP : va_P D vwCl w30 H := hP9
        have hD : va_D A w30 := hD9
        have hT : cT cy G30 w30 := hT9
        have hM_o := hX9.2.1 _ _ (cP.no hG_o rfl) hM_o
        have hM_js_o := hX9.2.1 _ _ (cP.no hG_js_o rfl) hM_js_o
        have hM_sh_o := hX9.2.1 _ _ (cP.no hG_sh_o rfl) hM_sh_o
        have hG_o := hX9.1 _ _ hG_o
        have hG_bs_o := hX9.1 _ _ hG_bs_o
        have hG_js_o := hX9.1 _ _ hG_js_o
        have hG_sh_o := hX9.1 _ _ hG_sh_o
        have hG_wk_o := hX9.1 _ _ hG_wk_o
        have hG_ll_o := hX9.1 _ _ hG_ll_o
        have hf_js_o := fun i9 x9 (h9 : i9 < 8) z9 => (hf_js_o i9 x9 h9 z9).elim fun k9 z8 => z8.elim fun n9 z7 => (⟨k9, n9, hX9.1 _ _ z7⟩ : ∃ k n, G30 x9 = some (3, k, n))
        have hf_sh_o := fun i9 x9 (h9 : i9 < 8) z9 => hf10_up hX9.1 (hf_sh_o i9 x9 h9 z9)
        have hmo_o := fun x9 z9 => hX9.1 _ _ (hmo_o x9 z9)
        have hlb_o : ∀ x9, lb_o = some x9 → ∃ w9 h9, _ = some (2, w9, h9) := fun x9 z9 => (hlb_o x9 z9).elim fun w9 z9 => z9.elim fun h9 z9 => ⟨w9, h9, hX9.1 _ _ z9⟩
        have hX := hX.tr (hX9.wk (chs_sub (by decide)))
        subst q30
        refine lv_astoreN (lv' := [(6, .null), (0, .ref o), (1, .int d), (2, .int what), (3, .int k0), (4, .long p0)]) hx hb dX9_keep_33 hl (by decide) rfl (fun ls hl => ?_)
        refine lv_aloadN hx hb dX9_keep_35 (lv_at hl 0 rfl) ?_
        refine lv_ifnonnullN hx hb dX9_keep_37 ?_
        refine lv_iconst (v := (-1)) hx hb dX9_keep_40 (by decide) ?_
        refine W.widen (k := 3) (n := 86) (Nat.le_of_ble_eq_true rfl) (Nat.le_of_ble_eq_true rfl) ?_
        exact W.iret (v := ((-1) : Int32)) hx hb hr (fun t ht hW => ⟨⟨_, (G30, w30), rfl, ⟨hX, ⟨(Or.inr ⟨(fun z9 => by rcases z9.2 with z8 | ⟨z8, z7⟩ | ⟨z8, z7, z6⟩; (omega); (first | exact vn25 z7 | exact qn30 (z8.elim Or.inl (fun z5 => Or.inr (Or.inl z5)))); (first | exact vn25 z7 | exact qn30 (Or.inr (Or.inr ⟨z8, z6⟩)))), rfl⟩), Or.inr ⟨(fun z9 => by rcases z9.2 with z8 | ⟨z8, z7⟩ | ⟨z8, z7, z6⟩; (omega); (first | exact vn25 z7 | exact qn30 (z8.elim Or.inl (fun z5 => Or.inr (Or.inl z5)))); (first | exact vn25 z7 | exact qn30 (Or.inr (Or.inr ⟨z8, z6⟩)))), hM_sh_o⟩⟩⟩, by show va_P D vwCl w30 t.heap; rw [ht]; exact hP, hD, hT⟩, hS.F ht⟩) hS.2.2 dX9_keep_41
      · skip
        obtain ⟨vj25, fj25⟩ := q25.1 x25 rfl
        obtain ⟨hfa9, hG_xj, hb9, ht9, hM_xj, hM_sj⟩ := hJ vj25
        obtain rfl : xj = x25 := Option.some.inj (hfa9.symm.trans fj25)
        obtain ⟨hG_bj, hG_sj, hJ_xj⟩ := w3sh hD hT hG_xj hb9 hM_xj
        refine lv_lload hx hb dX9_keep_28 (lv_at hl 4 rfl) ?_
        refine t_calla (va_runS (g := F0 m 30 ls ([.long p0, .ref xj, .int what])) (As := [.int what, .ref xj, .long p0]) (rest := []) ⟨hx, hb, hml, hown, hts⟩ (c_X9_thingToKeep_x l D cy A G ws what xj p0 hD hT hG_xj hM_xj hM_sj hb9 ht9) (va_cwS 3 hts gX9_keep_X9_thingToKeep rfl rfl rfl (by decide +kernel) ⟨Nat.le_of_ble_eq_true rfl, Nat.le_of_ble_eq_true rfl⟩) (c_preS hP hK hA hS hV) rfl rfl hl.1 rfl (lv_room (Nat.le_of_ble_eq_true rfl)) dX9_keep_30 ⟨Nat.le_of_ble_eq_true rfl, Nat.le_of_ble_eq_true rfl⟩) hS (fun r30 u H locs q30 hP9 hD9 hT9 hS => ?_)
        obtain ⟨G30, w30⟩ := u
        obtain ⟨hX9, q30⟩ := q30
        have hX9 : cX none (chs []) G ws G30 w30 := hX9
        have hP : va_P D vwCl w30 H := hP9
        have hD : va_D A w30 := hD9
        have hT : cT cy G30 w30 := hT9
        have hM_o := hX9.2.1 _ _ (cP.no hG_o rfl) hM_o
        have hM_js_o := hX9.2.1 _ _ (cP.no hG_js_o rfl) hM_js_o
        have hM_sh_o := hX9.2.1 _ _ (cP.no hG_sh_o rfl) hM_sh_o
        have hM_xj := hX9.2.1 _ _ (cP.no hG_xj rfl) hM_xj
        have hM_sj := hX9.2.1 _ _ (cP.no hG_sj rfl) hM_sj
        have hG_o := hX9.1 _ _ hG_o
        have hG_bs_o := hX9.1 _ _ hG_bs_o
        have hG_js_o := hX9.1 _ _ hG_js_o
        have hG_sh_o := hX9.1 _ _ hG_sh_o
        have hG_wk_o := hX9.1 _ _ hG_wk_o
        have hG_ll_o := hX9.1 _ _ hG_ll_o
        have hG_xj := hX9.1 _ _ hG_xj
        have hG_bj := hX9.1 _ _ hG_bj
        have hG_sj := hX9.1 _ _ hG_sj
        have hf_js_o := fun i9 x9 (h9 : i9 < 8) z9 => (hf_js_o i9 x9 h9 z9).elim fun k9 z8 => z8.elim fun n9 z7 => (⟨k9, n9, hX9.1 _ _ z7⟩ : ∃ k n, G30 x9 = some (3, k, n))
        have hf_sh_o := fun i9 x9 (h9 : i9 < 8) z9 => hf10_up hX9.1 (hf_sh_o i9 x9 h9 z9)
        have hmo_o := fun x9 z9 => hX9.1 _ _ (hmo_o x9 z9)
        have hlb_o : ∀ x9, lb_o = some x9 → ∃ w9 h9, _ = some (2, w9, h9) := fun x9 z9 => (hlb_o x9 z9).elim fun w9 z9 => z9.elim fun h9 z9 => ⟨w9, h9, hX9.1 _ _ z9⟩
        have hX := hX.tr (hX9.wk (chs_sub (by decide)))
        rcases q30 with ⟨rfl, qn30⟩ | ⟨⟨x30, k30, n30, rfl, hG_x30⟩, qn30⟩ | ⟨x30, a30, m30, z30, F30, rfl, hG_x30, hG_a30, hN9_a30, hM_x30, hM_a30, qn30⟩
        · skip
          refine lv_astoreN (lv' := [(6, .null), (0, .ref o), (1, .int d), (2, .int what), (3, .int k0), (4, .long p0)]) hx hb dX9_keep_33 hl (by decide) rfl (fun ls hl => ?_)
          refine lv_aloadN hx hb dX9_keep_35 (lv_at hl 0 rfl) ?_
          refine lv_ifnonnullN hx hb dX9_keep_37 ?_
          refine lv_iconst (v := (-1)) hx hb dX9_keep_40 (by decide) ?_
          refine W.widen (k := 3) (n := 86) (Nat.le_of_ble_eq_true rfl) (Nat.le_of_ble_eq_true rfl) ?_
          exact W.iret (v := ((-1) : Int32)) hx hb hr (fun t ht hW => ⟨⟨_, (G30, w30), rfl, ⟨hX, ⟨(Or.inr ⟨(fun z9 => by rcases z9.2 with z8 | ⟨z8, z7⟩ | ⟨z8, z7, z6⟩; (omega); (first | exact vn25 z7 | exact qn30 (z8.elim Or.inl (fun z5 => Or.inr (Or.inl z5)))); (first | exact vn25 z7 | exact qn30 (Or.inr (Or.inr ⟨z8, z6⟩)))), rfl⟩), Or.inr ⟨(fun z9 => by rcases z9.2 with z8 | ⟨z8, z7⟩ | ⟨z8, z7, z6⟩; (omega); (first | exact vn25 z7 | exact qn30 (z8.elim Or.inl (fun z5 => Or.inr (Or.inl z5)))); (first | exact vn25 z7 | exact qn30 (Or.inr (Or.inr ⟨z8, z6⟩)))), hM_sh_o⟩⟩⟩, by show va_P D vwCl w30 t.heap; rw [ht]; exact hP, hD, hT⟩, hS.F ht⟩) hS.2.2 dX9_keep_41
        · skip
          refine lv_astore (lv' := [(6, .ref x30), (0, .ref o), (1, .int d), (2, .int what), (3, .int k0), (4, .long p0)]) hx hb dX9_keep_33 hl (by decide) rfl (fun ls hl => ?_)
          refine lv_aload hx hb dX9_keep_35 (lv_at hl 0 rfl) ?_
          refine lv_ifnonnull (tgt := 42) hx hb dX9_keep_37 (by decide) ?_
          refine lv_aload_n hx hb dX9_keep_42 rfl (lv_at hl 1 rfl) ?_
          refine t_get (v := .ref sh_o) (C := RX9) (T := TX9) (N := 9) hx hb hts (by decide +kernel) hown hK hP hM_o rfl 3 (by decide) (hts (.fieldLink RX9 27 "ShadowBench" "shelves" "[LShadowBench$Held;") (by decide +kernel)) (fun _ h9 => h9) rfl dX9_keep_43 ?_
          refine lv_iload_n hx hb dX9_keep_46 rfl (lv_at hl 2 rfl) ?_
          refine lv_aload hx hb dX9_keep_47 (lv_at hl 0 rfl) ?_
          refine t_aast10f hx hb hV hK hP hD hS hT hG_sh_o hM_sh_o hf_sh_o (Or.inl ⟨_, _, hG_x30⟩) (vp_in_iff.mpr ⟨by omega, by omega⟩) dX9_keep_49 (fun H locs w49 hU49 hM9_sh_o hf9_sh_o hP hD hT hS => ?_)
          have hM_o := hU49 _ _ (cne hG_o hG_sh_o (show (7 : Nat) ≠ 10 by decide)) hM_o
          have hM_js_o := hU49 _ _ (cne hG_js_o hG_sh_o (show (9 : Nat) ≠ 10 by decide)) hM_js_o
          have hM_xj := hU49 _ _ (cne hG_xj hG_sh_o (show (3 : Nat) ≠ 10 by decide)) hM_xj
          have hM_sj := hU49 _ _ (cne hG_sj hG_sh_o (show (14 : Nat) ≠ 10 by decide)) hM_sj
          have hM_sh_o := hM9_sh_o
          have hf_sh_o := hf9_sh_o
          have hX := hX.tr (cX.uF hU49 (Or.inr ⟨_, hG_sh_o, rfl⟩))
          refine lv_iconst (v := 0) hx hb dX9_keep_50 (by decide) ?_
          refine W.widen (k := 3) (n := 86) (Nat.le_of_ble_eq_true rfl) (Nat.le_of_ble_eq_true rfl) ?_
          exact W.iret (v := (0 : Int32)) hx hb hr (fun t ht hW => ⟨⟨_, (G30, w49), rfl, ⟨hX, ⟨(Or.inl ⟨⟨(by omega), Or.inr (Or.inl ⟨Or.inl qn30, vj25⟩)⟩, rfl⟩), Or.inl ⟨⟨(by omega), Or.inr (Or.inl ⟨Or.inl qn30, vj25⟩)⟩, _, _, 0, hM_sh_o, (Or.inr (Or.inl ⟨qn30, rfl, _, _, hG_x30⟩))⟩⟩⟩, by show va_P D vwCl w49 t.heap; rw [ht]; exact hP, hD, hT⟩, hS.F ht⟩) hS.2.2 dX9_keep_51
        · skip
          refine lv_astore (lv' := [(6, .ref x30), (0, .ref o), (1, .int d), (2, .int what), (3, .int k0), (4, .long p0)]) hx hb dX9_keep_33 hl (by decide) rfl (fun ls hl => ?_)
          refine lv_aload hx hb dX9_keep_35 (lv_at hl 0 rfl) ?_
          refine lv_ifnonnull (tgt := 42) hx hb dX9_keep_37 (by decide) ?_
          refine lv_aload_n hx hb dX9_keep_42 rfl (lv_at hl 1 rfl) ?_
          refine t_get (v := .ref sh_o) (C := RX9) (T := TX9) (N := 9) hx hb hts (by decide +kernel) hown hK hP hM_o rfl 3 (by decide) (hts (.fieldLink RX9 27 "ShadowBench" "shelves" "[LShadowBench$Held;") (by decide +kernel)) (fun _ h9 => h9) rfl dX9_keep_43 ?_
          refine lv_iload_n hx hb dX9_keep_46 rfl (lv_at hl 2 rfl) ?_
          refine lv_aload hx hb dX9_keep_47 (lv_at hl 0 rfl) ?_
          refine t_aast10f hx hb hV hK hP hD hS hT hG_sh_o hM_sh_o hf_sh_o (Or.inr ⟨_, hG_x30⟩) (vp_in_iff.mpr ⟨by omega, by omega⟩) dX9_keep_49 (fun H locs w49 hU49 hM9_sh_o hf9_sh_o hP hD hT hS => ?_)
          have hM_o := hU49 _ _ (cne hG_o hG_sh_o (show (7 : Nat) ≠ 10 by decide)) hM_o
          have hM_js_o := hU49 _ _ (cne hG_js_o hG_sh_o (show (9 : Nat) ≠ 10 by decide)) hM_js_o
          have hM_xj := hU49 _ _ (cne hG_xj hG_sh_o (show (3 : Nat) ≠ 10 by decide)) hM_xj
          have hM_sj := hU49 _ _ (cne hG_sj hG_sh_o (show (14 : Nat) ≠ 10 by decide)) hM_sj
          have hM_x30 := hU49 _ _ (cne hG_x30 hG_sh_o (show (4 : Nat) ≠ 10 by decide)) hM_x30
          have hM_a30 := hU49 _ _ (cne hG_a30 hG_sh_o (show (16 : Nat) ≠ 10 by decide)) hM_a30
          have hM_sh_o := hM9_sh_o
          have hf_sh_o := hf9_sh_o
          have hX := hX.tr (cX.uF hU49 (Or.inr ⟨_, hG_sh_o, rfl⟩))
          refine lv_iconst (v := 0) hx hb dX9_keep_50 (by decide) ?_
          refine W.widen (k := 3) (n := 86) (Nat.le_of_ble_eq_true rfl) (Nat.le_of_ble_eq_true rfl) ?_
          exact W.iret (v := (0 : Int32)) hx hb hr (fun t ht hW => ⟨⟨_, (G30, w49), rfl, ⟨hX, ⟨(Or.inl ⟨⟨(by omega), (by rcases qn30 with ⟨-, z9, z8, -⟩ | ⟨-, z9, -⟩; exact Or.inr (Or.inr ⟨z9, vj25, z8⟩); exact Or.inr (Or.inl ⟨Or.inr z9, vj25⟩))⟩, rfl⟩), Or.inl ⟨⟨(by omega), (by rcases qn30 with ⟨-, z9, z8, -⟩ | ⟨-, z9, -⟩; exact Or.inr (Or.inr ⟨z9, vj25, z8⟩); exact Or.inr (Or.inl ⟨Or.inr z9, vj25⟩))⟩, _, _, _, hM_sh_o, (Or.inr (Or.inr ⟨rfl, _, _, _, hG_x30, hG_a30, hN9_a30, hM_x30, hM_a30, (by rcases qn30 with ⟨z9, z8, -, z7, z6⟩ | ⟨z9, z8, z7, z6⟩; exact Or.inl ⟨z9, z8, z7, z6⟩; exact Or.inr ⟨z9, z8, z7, z6⟩)⟩))⟩⟩⟩, by show va_P D vwCl w49 t.heap; rw [ht]; exact hP, hD, hT⟩, hS.F ht⟩) hS.2.2 dX9_keep_51
    · skip
      have d10 := c10
      rw [fa_eq] at d10
      refine lv_aload_n hx hb dX9_keep_13 rfl (lv_at hl 0 rfl) ?_
      refine t_get (v := .ref sh_o) (C := RX9) (T := TX9) (N := 9) hx hb hts (by decide +kernel) hown hK hP hM_o rfl 3 (by decide) (hts (.fieldLink RX9 27 "ShadowBench" "shelves" "[LShadowBench$Held;") (by decide +kernel)) (fun _ h9 => h9) rfl dX9_keep_14 ?_
      refine lv_iload_n hx hb dX9_keep_17 rfl (lv_at hl 1 rfl) ?_
      refine lv_null hx hb dX9_keep_18 ?_
      refine t_aastNf hx hb hK hP hD hS hT hG_sh_o hM_sh_o hf_sh_o (vp_in_iff.mpr ⟨by omega, by omega⟩) dX9_keep_19 (fun H locs w19 hU19 hM9_sh_o hf9_sh_o hP hD hT hS => ?_)
      have hM_o := hU19 _ _ (cne hG_o hG_sh_o (show (7 : Nat) ≠ 10 by decide)) hM_o
      have hM_js_o := hU19 _ _ (cne hG_js_o hG_sh_o (show (9 : Nat) ≠ 10 by decide)) hM_js_o
      have hM_sh_o := hM9_sh_o
      have hf_sh_o := hf9_sh_o
      have hX := hX.tr (cX.uF hU19 (Or.inr ⟨_, hG_sh_o, rfl⟩))
      refine lv_iconst (v := 0) hx hb dX9_keep_20 (by decide) ?_
      refine W.widen (k := 3) (n := 86) (Nat.le_of_ble_eq_true rfl) (Nat.le_of_ble_eq_true rfl) ?_
      exact W.iret (v := (0 : Int32)) hx hb hr (fun t ht hW => ⟨⟨_, (G, w19), rfl, ⟨hX, ⟨(Or.inl ⟨⟨(by omega), Or.inl (by omega)⟩, rfl⟩), Or.inl ⟨⟨(by omega), Or.inl (by omega)⟩, none, 0, 0, hM_sh_o, Or.inl ⟨by omega, rfl⟩⟩⟩⟩, by show va_P D vwCl w19 t.heap; rw [ht]; exact hP, hD, hT⟩, hS.F ht⟩) hS.2.2 dX9_keep_21
  · skip
    have b4 := bo_f q1 c4
    refine lv_iconst (v := (-1)) hx hb dX9_keep_7 (by decide) ?_
    refine W.widen (k := 3) (n := 86) (Nat.le_of_ble_eq_true rfl) (Nat.le_of_ble_eq_true rfl) ?_
    exact W.iret (v := ((-1) : Int32)) hx hb hr (fun t ht hW => ⟨⟨_, (G, ws), rfl, ⟨hX, ⟨(Or.inr ⟨(fun z9 => b4 z9.1), rfl⟩), Or.inr ⟨(fun z9 => b4 z9.1), hM_sh_o⟩⟩⟩, by show va_P D vwCl ws t.heap; rw [ht]; exact hP, hD, hT⟩, hS.F ht⟩) hS.2.2 dX9_keep_8
set_option maxHeartbeats 4000000 in
set_option maxRecDepth 100000 in
theorem c_X9_make_c (l : Launch) (D : va_G) (cy : Nat → ClassId) (A : Nat → Prop) (G : cG) (ws : va_W) (o : Nat) (d : Int32) (what : Int32) (n1 : Int32) {bs_o js_o sh_o wk_o ll_o : Nat} {jc_o lc_o : Int32} {mo_o lb_o : Option Nat} {fb : Nat → Option Nat} (hD : va_D A ws) (hT : cT cy G ws) (hG_o : G o = some (7, 0, 0)) (hM_o : cIn ws o (.inr (8, [.ref bs_o, .ref js_o, .int jc_o, .ref sh_o, .ref wk_o, va_rf mo_o, .ref ll_o, .int lc_o, va_rf lb_o]))) (hM_sh_o : cIn ws sh_o (.inl (cy 5, cqa 8 fb)))  : Ci l D cy A yX9_make wsX9_make ({ frames := 3, cells := 2, slots := 62, locals := 62 }) 2 62 ws [.ref o, .int d, .int what, .int n1] (fun r0 u => cX none (chs [10]) G ws u.1 u.2 ∧ (r0 = mkAns d what n1 ∧ ((mkOk d what n1 ∧ ∃ x a z, cIn u.2 sh_o (.inl (cy 5, cqa 8 (va_up fb d.toNatClampNeg (some x)))) ∧ u.1 x = some (4, n1.toNatClampNeg, 0) ∧ u.1 a = some (16, n1.toNatClampNeg, 0) ∧ (∀ e, ¬ cIn ws a e) ∧ cIn u.2 x (.inr (6, [.int z, .ref a])) ∧ cIn u.2 a (.inl (cy 1, n1.toNatClampNeg, .inr (.inl (fun _ => 0)))) ∧ ((z = 1 ∧ what.toInt = 3) ∨ (z = 0 ∧ what.toInt = 4))) ∨ (¬ mkOk d what n1 ∧ cIn u.2 sh_o (.inl (cy 5, cqa 8 fb)))))) := by
  refine Met.ofW (cc := cX9_make) (maxL := 4) (ret := (some .int)) (by decide) rfl ?_
  intro p e s m args below meth c s₁ B hml hv
  obtain ⟨rfl, hP, hK, hA, hV⟩ := hv
  have hx := B.exec
  have hb := B.bytes
  have hr := B.returns
  have hts := atoms_spec (ws := wsX9_make) B.pre
  have hown : s.vm.findClass RX9 = some m.cls := findClass_of_methodNamed B.named
  have hlocks := B.notSynchronized
  have hS : va_S A s.heap s.heap [] := va_S.rf
  have hX : cX none (chs [10]) G ws G ws := cX.rf
  have hl := lv_entry ([.ref o, .int d, .int what, .int n1]) (n := 4) (Nat.le_of_ble_eq_true rfl)
  rw [lg_entry_eq]
  generalize (lg_sl ([.ref o, .int d, .int what, .int n1]) ++ List.replicate (4 - (lg_sl ([.ref o, .int d, .int what, .int n1])).length) Slot.unset).toArray = ls at hl ⊢
  have hl : lv_has ls 4 [(0, .ref o), (1, .int d), (2, .int what), (3, .int n1)] := hl
  have k_m14 : (-14 : Int32).toInt = -14 := by decide
  have k_m1 : (-1 : Int32).toInt = -1 := by decide
  have k_0 : (0 : Int32).toInt = 0 := by decide
  have k_1 : (1 : Int32).toInt = 1 := by decide
  have k_3 : (3 : Int32).toInt = 3 := by decide
  have k_4 : (4 : Int32).toInt = 4 := by decide
  have k_60 : (60 : Int32).toInt = 60 := by decide
  obtain ⟨hjc_o, hlc_o, hG_bs_o, hG_js_o, hG_sh_o, hG_wk_o, hmo_o, hG_ll_o, hlb_o⟩ := w7sh hD hT hG_o hM_o
  have hf_sh_o := w10sh hD hT hG_sh_o hM_sh_o
  refine lv_iload_n hx hb dX9_make_0 rfl (lv_at hl 1 rfl) ?_
  refine t_pu (As := [.int d]) (rest := []) ⟨hx, hb, hml, hown, hts⟩ (c_X9_isShelf l d ) (va_cwS 1 hts gX9_make_X9_isShelf rfl rfl rfl (by decide +kernel) ⟨Nat.le_of_ble_eq_true rfl, Nat.le_of_ble_eq_true rfl⟩) hP rfl hl.1 rfl (Nat.le_of_ble_eq_true rfl) dX9_make_1 ⟨Nat.le_of_ble_eq_true rfl, Nat.le_of_ble_eq_true rfl⟩ hS (fun r1 H locs q1 hP hS => ?_)
  refine lv_if_eq (tgt := 23) hx hb dX9_make_4 (by decide) (fun c4 => ?_) (fun c4 => ?_)
  · skip
    have b4 := bo_f q1 c4
    refine lv_iconst (v := (-1)) hx hb dX9_make_23 (by decide) ?_
    refine W.widen (k := 2) (n := 62) (Nat.le_of_ble_eq_true rfl) (Nat.le_of_ble_eq_true rfl) ?_
    exact W.iret (v := ((-1) : Int32)) hx hb hr (fun t ht hW => ⟨⟨_, (G, ws), rfl, ⟨hX, ⟨(by unfold mkAns; split <;> (try split) <;> first | rfl | (exfalso; omega)), Or.inr ⟨(by unfold mkOk; omega), hM_sh_o⟩⟩⟩, by show va_P D vwCl ws t.heap; rw [ht]; exact hP, hD, hT⟩, hS.F ht⟩) hS.2.2 dX9_make_24
  · skip
    have b4 := bo_t q1 c4
    refine lv_iload_n hx hb dX9_make_7 rfl (lv_at hl 2 rfl) ?_
    refine lv_iconst (v := 3) hx hb dX9_make_8 (by decide) ?_
    refine lv_icmp_eq (tgt := 17) hx hb dX9_make_9 (by decide) (fun c9 => ?_) (fun c9 => ?_)
    · skip
      have d9 := c9
      rw [fa_eq] at d9
      refine lv_iload_n hx hb dX9_make_17 rfl (lv_at hl 3 rfl) ?_
      refine lv_bipush (v := 60) hx hb dX9_make_18 (by decide) ?_
      refine lv_icmp_le (tgt := 25) hx hb dX9_make_20 (by decide) (fun c20 => ?_) (fun c20 => ?_)
      · skip
        have d20 := c20
        rw [fa_le] at d20
        refine lv_iload_n hx hb dX9_make_25 rfl (lv_at hl 3 rfl) ?_
        refine lv_if_ge (tgt := 32) hx hb dX9_make_26 (by decide) (fun c26 => ?_) (fun c26 => ?_)
        · skip
          have d26 := c26
          rw [fa_le] at d26
          refine lv_aload_n hx hb dX9_make_32 rfl (lv_at hl 0 rfl) ?_
          refine t_get (v := .ref sh_o) (C := RX9) (T := TX9) (N := 9) hx hb hts (by decide +kernel) hown hK hP hM_o rfl 3 (by decide) (hts (.fieldLink RX9 27 "ShadowBench" "shelves" "[LShadowBench$Held;") (by decide +kernel)) (fun _ h9 => h9) rfl dX9_make_33 ?_
          refine lv_iload_n hx hb dX9_make_36 rfl (lv_at hl 1 rfl) ?_
          refine t_new (C := RX7) (T := TX7) (N := 2) (ci := 6) (ty0 := tyX7) (fs := [.int 0, .null]) hx hb hts (by decide +kernel) tyX7_ok hown (hts (.classLink RX9 245 RX7) (by decide +kernel)) (hts (.instantiable RX7 2) (by decide +kernel)) (hts (.initialized RX7) (by decide +kernel)) hK hP hD hS hA hT rfl (by decide +kernel) (Nat.le_of_ble_eq_true rfl) (Nat.le_of_ble_eq_true rfl) dX9_make_37 (fun q37 H w37 hM_q37 hO_q37 hF37 hX37 hk37 hP hD hT hS => ?_)
          have hN_q37 := hX.new0 hO_q37 hF37
          have hM_o := hk37 _ _ hM_o
          have hM_sh_o := hk37 _ _ hM_sh_o
          have hX := hX.tr (hX37 _ _)
          refine lv_dup hx hb dX9_make_40 rfl ?_
          refine lv_iload_n hx hb dX9_make_41 rfl (lv_at hl 2 rfl) ?_
          refine lv_iconst (v := 3) hx hb dX9_make_42 (by decide) ?_
          refine lv_icmp_ne (tgt := 50) hx hb dX9_make_43 (by decide) (fun c43 => ?_) (fun c43 => ?_)
          · skip
            have d43 := c43
            rw [fa_eq] at d43
            refine lv_iconst (v := 0) hx hb dX9_make_50 (by decide) ?_
            refine lv_iload_n hx hb dX9_make_51 rfl (lv_at hl 3 rfl) ?_
            refine t_callv (va_runI (g := F0 m 52 ls ([.int n1, .int (0 : Int32), .ref q37, .ref q37, .int d, .ref sh_o])) (As := [.int (0 : Int32), .int n1]) (rest := [.ref q37, .int d, .ref sh_o]) (b := q37) ⟨hx, hb, hml, hown, hts⟩ (c_X7_init_zi l D cy A G w37 q37 (0 : Int32) n1 hD hT hO_q37 hM_q37 (Or.inl rfl) (by omega)) (cwI 2 hts gX9_make_X7_init rfl rfl rfl (hts (.initialized RX7) (by decide +kernel)) (hts (.methodLink RX9 247 yX7_init) (by decide +kernel)) (hts (.instanceMethod yX7_init) (by decide +kernel)) rfl (by decide +kernel) ⟨Nat.le_of_ble_eq_true rfl, Nat.le_of_ble_eq_true rfl⟩) (c_preS hP hK hA hS hV) rfl rfl hl.1 rfl (lv_room (Nat.le_of_ble_eq_true rfl)) dX9_make_52 ⟨Nat.le_of_ble_eq_true rfl, Nat.le_of_ble_eq_true rfl⟩) hS (fun u H locs q52 hP9 hD9 hT9 hS => ?_)
            obtain ⟨G52, w52⟩ := u
            obtain ⟨hX9, q52⟩ := q52
            have hX9 : cX (some q37) (chs []) G w37 G52 w52 := hX9
            obtain ⟨hqo52, a52, hG9_a52, hN9_a52, hMx52, hMa52⟩ := q52
            have q52 := And.intro hqo52 True.intro
            have hN_a52 := hX.new0 (hT.no hN9_a52) hN9_a52
            have hP : va_P D vwCl w52 H := hP9
            have hD : va_D A w52 := hD9
            have hT : cT cy G52 w52 := hT9
            have hM_o := hX9.2.1 _ _ (cP.no1 (Ne.symm (cne0 hO_q37 hG_o)) hG_o rfl) hM_o
            have hM_sh_o := hX9.2.1 _ _ (cP.no1 (Ne.symm (cne0 hO_q37 hG_sh_o)) hG_sh_o rfl) hM_sh_o
            have hG_o := hX9.1 _ _ hG_o
            have hG_bs_o := hX9.1 _ _ hG_bs_o
            have hG_js_o := hX9.1 _ _ hG_js_o
            have hG_sh_o := hX9.1 _ _ hG_sh_o
            have hG_wk_o := hX9.1 _ _ hG_wk_o
            have hG_ll_o := hX9.1 _ _ hG_ll_o
            have hf_sh_o := fun i9 x9 (h9 : i9 < 8) z9 => hf10_up hX9.1 (hf_sh_o i9 x9 h9 z9)
            have hmo_o := fun x9 z9 => hX9.1 _ _ (hmo_o x9 z9)
            have hlb_o : ∀ x9, lb_o = some x9 → ∃ w9 h9, _ = some (2, w9, h9) := fun x9 z9 => (hlb_o x9 z9).elim fun w9 z9 => z9.elim fun h9 z9 => ⟨w9, h9, hX9.1 _ _ z9⟩
            have hG_q37 : G52 q37 = some (4, n1.toNatClampNeg, 0) := q52.1
            have q52 := q52.2
            have hX := hX.trN hN_q37 (hX9.wk (chs_sub (by decide)))
            have hG_a52 : G52 a52 = some (16, n1.toNatClampNeg, 0) := hG9_a52
            have hM_q37 : cIn w52 q37 (.inr (6, [.int (0 : Int32), .ref a52])) := hMx52
            have hM_a52 : cIn w52 a52 (.inl (cy 1, n1.toNatClampNeg, .inr (.inl (fun _ => 0)))) := hMa52
            refine t_aast10f hx hb hV hK hP hD hS hT hG_sh_o hM_sh_o hf_sh_o (Or.inr ⟨_, hG_q37⟩) (vp_in_iff.mpr ⟨by omega, by omega⟩) dX9_make_55 (fun H locs w55 hU55 hM9_sh_o hf9_sh_o hP hD hT hS => ?_)
            have hM_o := hU55 _ _ (cne hG_o hG_sh_o (show (7 : Nat) ≠ 10 by decide)) hM_o
            have hM_q37 := hU55 _ _ (cne hG_q37 hG_sh_o (show (4 : Nat) ≠ 10 by decide)) hM_q37
            have hM_a52 := hU55 _ _ (cne hG_a52 hG_sh_o (show (16 : Nat) ≠ 10 by decide)) hM_a52
            have hM_sh_o := hM9_sh_o
            have hf_sh_o := hf9_sh_o
            have hX := hX.tr (cX.uF hU55 (Or.inr ⟨_, hG_sh_o, rfl⟩))
            refine lv_iconst (v := 0) hx hb dX9_make_56 (by decide) ?_
            refine W.widen (k := 2) (n := 62) (Nat.le_of_ble_eq_true rfl) (Nat.le_of_ble_eq_true rfl) ?_
            exact W.iret (v := (0 : Int32)) hx hb hr (fun t ht hW => ⟨⟨_, (G52, w55), rfl, ⟨hX, ⟨(by unfold mkAns; split <;> (try split) <;> first | rfl | (exfalso; omega)), Or.inl ⟨(by unfold mkOk; omega), _, _, _, hM_sh_o, hG_q37, hG_a52, hN_a52, hM_q37, hM_a52, (by first | exact Or.inl ⟨rfl, by omega⟩ | exact Or.inr ⟨rfl, by omega⟩)⟩⟩⟩, by show va_P D vwCl w55 t.heap; rw [ht]; exact hP, hD, hT⟩, hS.F ht⟩) hS.2.2 dX9_make_57
          · skip
            have d43 := c43
            rw [fa_eq] at d43
            refine lv_iconst (v := 1) hx hb dX9_make_46 (by decide) ?_
            refine lv_goto (tgt := 51) hx hb dX9_make_47 (by decide) ?_
            refine lv_iload_n hx hb dX9_make_51 rfl (lv_at hl 3 rfl) ?_
            refine t_callv (va_runI (g := F0 m 52 ls ([.int n1, .int (1 : Int32), .ref q37, .ref q37, .int d, .ref sh_o])) (As := [.int (1 : Int32), .int n1]) (rest := [.ref q37, .int d, .ref sh_o]) (b := q37) ⟨hx, hb, hml, hown, hts⟩ (c_X7_init_zi l D cy A G w37 q37 (1 : Int32) n1 hD hT hO_q37 hM_q37 (Or.inr rfl) (by omega)) (cwI 2 hts gX9_make_X7_init rfl rfl rfl (hts (.initialized RX7) (by decide +kernel)) (hts (.methodLink RX9 247 yX7_init) (by decide +kernel)) (hts (.instanceMethod yX7_init) (by decide +kernel)) rfl (by decide +kernel) ⟨Nat.le_of_ble_eq_true rfl, Nat.le_of_ble_eq_true rfl⟩) (c_preS hP hK hA hS hV) rfl rfl hl.1 rfl (lv_room (Nat.le_of_ble_eq_true rfl)) dX9_make_52 ⟨Nat.le_of_ble_eq_true rfl, Nat.le_of_ble_eq_true rfl⟩) hS (fun u H locs q52 hP9 hD9 hT9 hS => ?_)
            obtain ⟨G52, w52⟩ := u
            obtain ⟨hX9, q52⟩ := q52
            have hX9 : cX (some q37) (chs []) G w37 G52 w52 := hX9
            obtain ⟨hqo52, a52, hG9_a52, hN9_a52, hMx52, hMa52⟩ := q52
            have q52 := And.intro hqo52 True.intro
            have hN_a52 := hX.new0 (hT.no hN9_a52) hN9_a52
            have hP : va_P D vwCl w52 H := hP9
            have hD : va_D A w52 := hD9
            have hT : cT cy G52 w52 := hT9
            have hM_o := hX9.2.1 _ _ (cP.no1 (Ne.symm (cne0 hO_q37 hG_o)) hG_o rfl) hM_o
            have hM_sh_o := hX9.2.1 _ _ (cP.no1 (Ne.symm (cne0 hO_q37 hG_sh_o)) hG_sh_o rfl) hM_sh_o
            have hG_o := hX9.1 _ _ hG_o
            have hG_bs_o := hX9.1 _ _ hG_bs_o
            have hG_js_o := hX9.1 _ _ hG_js_o
            have hG_sh_o := hX9.1 _ _ hG_sh_o
            have hG_wk_o := hX9.1 _ _ hG_wk_o
            have hG_ll_o := hX9.1 _ _ hG_ll_o
            have hf_sh_o := fun i9 x9 (h9 : i9 < 8) z9 => hf10_up hX9.1 (hf_sh_o i9 x9 h9 z9)
            have hmo_o := fun x9 z9 => hX9.1 _ _ (hmo_o x9 z9)
            have hlb_o : ∀ x9, lb_o = some x9 → ∃ w9 h9, _ = some (2, w9, h9) := fun x9 z9 => (hlb_o x9 z9).elim fun w9 z9 => z9.elim fun h9 z9 => ⟨w9, h9, hX9.1 _ _ z9⟩
            have hG_q37 : G52 q37 = some (4, n1.toNatClampNeg, 0) := q52.1
            have q52 := q52.2
            have hX := hX.trN hN_q37 (hX9.wk (chs_sub (by decide)))
            have hG_a52 : G52 a52 = some (16, n1.toNatClampNeg, 0) := hG9_a52
            have hM_q37 : cIn w52 q37 (.inr (6, [.int (1 : Int32), .ref a52])) := hMx52
            have hM_a52 : cIn w52 a52 (.inl (cy 1, n1.toNatClampNeg, .inr (.inl (fun _ => 0)))) := hMa52
            refine t_aast10f hx hb hV hK hP hD hS hT hG_sh_o hM_sh_o hf_sh_o (Or.inr ⟨_, hG_q37⟩) (vp_in_iff.mpr ⟨by omega, by omega⟩) dX9_make_55 (fun H locs w55 hU55 hM9_sh_o hf9_sh_o hP hD hT hS => ?_)
            have hM_o := hU55 _ _ (cne hG_o hG_sh_o (show (7 : Nat) ≠ 10 by decide)) hM_o
            have hM_q37 := hU55 _ _ (cne hG_q37 hG_sh_o (show (4 : Nat) ≠ 10 by decide)) hM_q37
            have hM_a52 := hU55 _ _ (cne hG_a52 hG_sh_o (show (16 : Nat) ≠ 10 by decide)) hM_a52
            have hM_sh_o := hM9_sh_o
            have hf_sh_o := hf9_sh_o
            have hX := hX.tr (cX.uF hU55 (Or.inr ⟨_, hG_sh_o, rfl⟩))
            refine lv_iconst (v := 0) hx hb dX9_make_56 (by decide) ?_
            refine W.widen (k := 2) (n := 62) (Nat.le_of_ble_eq_true rfl) (Nat.le_of_ble_eq_true rfl) ?_
            exact W.iret (v := (0 : Int32)) hx hb hr (fun t ht hW => ⟨⟨_, (G52, w55), rfl, ⟨hX, ⟨(by unfold mkAns; split <;> (try split) <;> first | rfl | (exfalso; omega)), Or.inl ⟨(by unfold mkOk; omega), _, _, _, hM_sh_o, hG_q37, hG_a52, hN_a52, hM_q37, hM_a52, (by first | exact Or.inl ⟨rfl, by omega⟩ | exact Or.inr ⟨rfl, by omega⟩)⟩⟩⟩, by show va_P D vwCl w55 t.heap; rw [ht]; exact hP, hD, hT⟩, hS.F ht⟩) hS.2.2 dX9_make_57
        · skip
          have d26 := c26
          rw [fa_le] at d26
          refine lv_bipush (v := (-14)) hx hb dX9_make_29 (by decide) ?_
          refine W.widen (k := 2) (n := 62) (Nat.le_of_ble_eq_true rfl) (Nat.le_of_ble_eq_true rfl) ?_
          exact W.iret (v := ((-14) : Int32)) hx hb hr (fun t ht hW => ⟨⟨_, (G, ws), rfl, ⟨hX, ⟨(by unfold mkAns; split <;> (try split) <;> first | rfl | (exfalso; omega)), Or.inr ⟨(by unfold mkOk; omega), hM_sh_o⟩⟩⟩, by show va_P D vwCl ws t.heap; rw [ht]; exact hP, hD, hT⟩, hS.F ht⟩) hS.2.2 dX9_make_31
      · skip
        have d20 := c20
        rw [fa_le] at d20
        refine lv_iconst (v := (-1)) hx hb dX9_make_23 (by decide) ?_
        refine W.widen (k := 2) (n := 62) (Nat.le_of_ble_eq_true rfl) (Nat.le_of_ble_eq_true rfl) ?_
        exact W.iret (v := ((-1) : Int32)) hx hb hr (fun t ht hW => ⟨⟨_, (G, ws), rfl, ⟨hX, ⟨(by unfold mkAns; split <;> (try split) <;> first | rfl | (exfalso; omega)), Or.inr ⟨(by unfold mkOk; omega), hM_sh_o⟩⟩⟩, by show va_P D vwCl ws t.heap; rw [ht]; exact hP, hD, hT⟩, hS.F ht⟩) hS.2.2 dX9_make_24
    · skip
      have d9 := c9
      rw [fa_eq] at d9
      refine lv_iload_n hx hb dX9_make_12 rfl (lv_at hl 2 rfl) ?_
      refine lv_iconst (v := 4) hx hb dX9_make_13 (by decide) ?_
      refine lv_icmp_ne (tgt := 23) hx hb dX9_make_14 (by decide) (fun c14 => ?_) (fun c14 => ?_)
      · skip
        have d14 := c14
        rw [fa_eq] at d14
        refine lv_iconst (v := (-1)) hx hb dX9_make_23 (by decide) ?_
        refine W.widen (k := 2) (n := 62) (Nat.le_of_ble_eq_true rfl) (Nat.le_of_ble_eq_true rfl) ?_
        exact W.iret (v := ((-1) : Int32)) hx hb hr (fun t ht hW => ⟨⟨_, (G, ws), rfl, ⟨hX, ⟨(by unfold mkAns; split <;> (try split) <;> first | rfl | (exfalso; omega)), Or.inr ⟨(by unfold mkOk; omega), hM_sh_o⟩⟩⟩, by show va_P D vwCl ws t.heap; rw [ht]; exact hP, hD, hT⟩, hS.F ht⟩) hS.2.2 dX9_make_24
      · skip
        have d14 := c14
        rw [fa_eq] at d14
        refine lv_iload_n hx hb dX9_make_17 rfl (lv_at hl 3 rfl) ?_
        refine lv_bipush (v := 60) hx hb dX9_make_18 (by decide) ?_
        refine lv_icmp_le (tgt := 25) hx hb dX9_make_20 (by decide) (fun c20 => ?_) (fun c20 => ?_)
        · skip
          have d20 := c20
          rw [fa_le] at d20
          refine lv_iload_n hx hb dX9_make_25 rfl (lv_at hl 3 rfl) ?_
          refine lv_if_ge (tgt := 32) hx hb dX9_make_26 (by decide) (fun c26 => ?_) (fun c26 => ?_)
          · skip
            have d26 := c26
            rw [fa_le] at d26
            refine lv_aload_n hx hb dX9_make_32 rfl (lv_at hl 0 rfl) ?_
            refine t_get (v := .ref sh_o) (C := RX9) (T := TX9) (N := 9) hx hb hts (by decide +kernel) hown hK hP hM_o rfl 3 (by decide) (hts (.fieldLink RX9 27 "ShadowBench" "shelves" "[LShadowBench$Held;") (by decide +kernel)) (fun _ h9 => h9) rfl dX9_make_33 ?_
            refine lv_iload_n hx hb dX9_make_36 rfl (lv_at hl 1 rfl) ?_
            refine t_new (C := RX7) (T := TX7) (N := 2) (ci := 6) (ty0 := tyX7) (fs := [.int 0, .null]) hx hb hts (by decide +kernel) tyX7_ok hown (hts (.classLink RX9 245 RX7) (by decide +kernel)) (hts (.instantiable RX7 2) (by decide +kernel)) (hts (.initialized RX7) (by decide +kernel)) hK hP hD hS hA hT rfl (by decide +kernel) (Nat.le_of_ble_eq_true rfl) (Nat.le_of_ble_eq_true rfl) dX9_make_37 (fun q37 H w37 hM_q37 hO_q37 hF37 hX37 hk37 hP hD hT hS => ?_)
            have hN_q37 := hX.new0 hO_q37 hF37
            have hM_o := hk37 _ _ hM_o
            have hM_sh_o := hk37 _ _ hM_sh_o
            have hX := hX.tr (hX37 _ _)
            refine lv_dup hx hb dX9_make_40 rfl ?_
            refine lv_iload_n hx hb dX9_make_41 rfl (lv_at hl 2 rfl) ?_
            refine lv_iconst (v := 3) hx hb dX9_make_42 (by decide) ?_
            refine lv_icmp_ne (tgt := 50) hx hb dX9_make_43 (by decide) (fun c43 => ?_) (fun c43 => ?_)
            · skip
              have d43 := c43
              rw [fa_eq] at d43
              refine lv_iconst (v := 0) hx hb dX9_make_50 (by decide) ?_
              refine lv_iload_n hx hb dX9_make_51 rfl (lv_at hl 3 rfl) ?_
              refine t_callv (va_runI (g := F0 m 52 ls ([.int n1, .int (0 : Int32), .ref q37, .ref q37, .int d, .ref sh_o])) (As := [.int (0 : Int32), .int n1]) (rest := [.ref q37, .int d, .ref sh_o]) (b := q37) ⟨hx, hb, hml, hown, hts⟩ (c_X7_init_zi l D cy A G w37 q37 (0 : Int32) n1 hD hT hO_q37 hM_q37 (Or.inl rfl) (by omega)) (cwI 2 hts gX9_make_X7_init rfl rfl rfl (hts (.initialized RX7) (by decide +kernel)) (hts (.methodLink RX9 247 yX7_init) (by decide +kernel)) (hts (.instanceMethod yX7_init) (by decide +kernel)) rfl (by decide +kernel) ⟨Nat.le_of_ble_eq_true rfl, Nat.le_of_ble_eq_true rfl⟩) (c_preS hP hK hA hS hV) rfl rfl hl.1 rfl (lv_room (Nat.le_of_ble_eq_true rfl)) dX9_make_52 ⟨Nat.le_of_ble_eq_true rfl, Nat.le_of_ble_eq_true rfl⟩) hS (fun u H locs q52 hP9 hD9 hT9 hS => ?_)
              obtain ⟨G52, w52⟩ := u
              obtain ⟨hX9, q52⟩ := q52
              have hX9 : cX (some q37) (chs []) G w37 G52 w52 := hX9
              obtain ⟨hqo52, a52, hG9_a52, hN9_a52, hMx52, hMa52⟩ := q52
              have q52 := And.intro hqo52 True.intro
              have hN_a52 := hX.new0 (hT.no hN9_a52) hN9_a52
              have hP : va_P D vwCl w52 H := hP9
              have hD : va_D A w52 := hD9
              have hT : cT cy G52 w52 := hT9
              have hM_o := hX9.2.1 _ _ (cP.no1 (Ne.symm (cne0 hO_q37 hG_o)) hG_o rfl) hM_o
              have hM_sh_o := hX9.2.1 _ _ (cP.no1 (Ne.symm (cne0 hO_q37 hG_sh_o)) hG_sh_o rfl) hM_sh_o
              have hG_o := hX9.1 _ _ hG_o
              have hG_bs_o := hX9.1 _ _ hG_bs_o
              have hG_js_o := hX9.1 _ _ hG_js_o
              have hG_sh_o := hX9.1 _ _ hG_sh_o
              have hG_wk_o := hX9.1 _ _ hG_wk_o
              have hG_ll_o := hX9.1 _ _ hG_ll_o
              have hf_sh_o := fun i9 x9 (h9 : i9 < 8) z9 => hf10_up hX9.1 (hf_sh_o i9 x9 h9 z9)
              have hmo_o := fun x9 z9 => hX9.1 _ _ (hmo_o x9 z9)
              have hlb_o : ∀ x9, lb_o = some x9 → ∃ w9 h9, _ = some (2, w9, h9) := fun x9 z9 => (hlb_o x9 z9).elim fun w9 z9 => z9.elim fun h9 z9 => ⟨w9, h9, hX9.1 _ _ z9⟩
              have hG_q37 : G52 q37 = some (4, n1.toNatClampNeg, 0) := q52.1
              have q52 := q52.2
              have hX := hX.trN hN_q37 (hX9.wk (chs_sub (by decide)))
              have hG_a52 : G52 a52 = some (16, n1.toNatClampNeg, 0) := hG9_a52
              have hM_q37 : cIn w52 q37 (.inr (6, [.int (0 : Int32), .ref a52])) := hMx52
              have hM_a52 : cIn w52 a52 (.inl (cy 1, n1.toNatClampNeg, .inr (.inl (fun _ => 0)))) := hMa52
              refine t_aast10f hx hb hV hK hP hD hS hT hG_sh_o hM_sh_o hf_sh_o (Or.inr ⟨_, hG_q37⟩) (vp_in_iff.mpr ⟨by omega, by omega⟩) dX9_make_55 (fun H locs w55 hU55 hM9_sh_o hf9_sh_o hP hD hT hS => ?_)
              have hM_o := hU55 _ _ (cne hG_o hG_sh_o (show (7 : Nat) ≠ 10 by decide)) hM_o
              have hM_q37 := hU55 _ _ (cne hG_q37 hG_sh_o (show (4 : Nat) ≠ 10 by decide)) hM_q37
              have hM_a52 := hU55 _ _ (cne hG_a52 hG_sh_o (show (16 : Nat) ≠ 10 by decide)) hM_a52
              have hM_sh_o := hM9_sh_o
              have hf_sh_o := hf9_sh_o
              have hX := hX.tr (cX.uF hU55 (Or.inr ⟨_, hG_sh_o, rfl⟩))
              refine lv_iconst (v := 0) hx hb dX9_make_56 (by decide) ?_
              refine W.widen (k := 2) (n := 62) (Nat.le_of_ble_eq_true rfl) (Nat.le_of_ble_eq_true rfl) ?_
              exact W.iret (v := (0 : Int32)) hx hb hr (fun t ht hW => ⟨⟨_, (G52, w55), rfl, ⟨hX, ⟨(by unfold mkAns; split <;> (try split) <;> first | rfl | (exfalso; omega)), Or.inl ⟨(by unfold mkOk; omega), _, _, _, hM_sh_o, hG_q37, hG_a52, hN_a52, hM_q37, hM_a52, (by first | exact Or.inl ⟨rfl, by omega⟩ | exact Or.inr ⟨rfl, by omega⟩)⟩⟩⟩, by show va_P D vwCl w55 t.heap; rw [ht]; exact hP, hD, hT⟩, hS.F ht⟩) hS.2.2 dX9_make_57
            · skip
              have d43 := c43
              rw [fa_eq] at d43
              refine lv_iconst (v := 1) hx hb dX9_make_46 (by decide) ?_
              refine lv_goto (tgt := 51) hx hb dX9_make_47 (by decide) ?_
              refine lv_iload_n hx hb dX9_make_51 rfl (lv_at hl 3 rfl) ?_
              refine t_callv (va_runI (g := F0 m 52 ls ([.int n1, .int (1 : Int32), .ref q37, .ref q37, .int d, .ref sh_o])) (As := [.int (1 : Int32), .int n1]) (rest := [.ref q37, .int d, .ref sh_o]) (b := q37) ⟨hx, hb, hml, hown, hts⟩ (c_X7_init_zi l D cy A G w37 q37 (1 : Int32) n1 hD hT hO_q37 hM_q37 (Or.inr rfl) (by omega)) (cwI 2 hts gX9_make_X7_init rfl rfl rfl (hts (.initialized RX7) (by decide +kernel)) (hts (.methodLink RX9 247 yX7_init) (by decide +kernel)) (hts (.instanceMethod yX7_init) (by decide +kernel)) rfl (by decide +kernel) ⟨Nat.le_of_ble_eq_true rfl, Nat.le_of_ble_eq_true rfl⟩) (c_preS hP hK hA hS hV) rfl rfl hl.1 rfl (lv_room (Nat.le_of_ble_eq_true rfl)) dX9_make_52 ⟨Nat.le_of_ble_eq_true rfl, Nat.le_of_ble_eq_true rfl⟩) hS (fun u H locs q52 hP9 hD9 hT9 hS => ?_)
              obtain ⟨G52, w52⟩ := u
              obtain ⟨hX9, q52⟩ := q52
              have hX9 : cX (some q37) (chs []) G w37 G52 w52 := hX9
              obtain ⟨hqo52, a52, hG9_a52, hN9_a52, hMx52, hMa52⟩ := q52
              have q52 := And.intro hqo52 True.intro
              have hN_a52 := hX.new0 (hT.no hN9_a52) hN9_a52
              have hP : va_P D vwCl w52 H := hP9
              have hD : va_D A w52 := hD9
              have hT : cT cy G52 w52 := hT9
              have hM_o := hX9.2.1 _ _ (cP.no1 (Ne.symm (cne0 hO_q37 hG_o)) hG_o rfl) hM_o
              have hM_sh_o := hX9.2.1 _ _ (cP.no1 (Ne.symm (cne0 hO_q37 hG_sh_o)) hG_sh_o rfl) hM_sh_o
              have hG_o := hX9.1 _ _ hG_o
              have hG_bs_o := hX9.1 _ _ hG_bs_o
              have hG_js_o := hX9.1 _ _ hG_js_o
              have hG_sh_o := hX9.1 _ _ hG_sh_o
              have hG_wk_o := hX9.1 _ _ hG_wk_o
              have hG_ll_o := hX9.1 _ _ hG_ll_o
              have hf_sh_o := fun i9 x9 (h9 : i9 < 8) z9 => hf10_up hX9.1 (hf_sh_o i9 x9 h9 z9)
              have hmo_o := fun x9 z9 => hX9.1 _ _ (hmo_o x9 z9)
              have hlb_o : ∀ x9, lb_o = some x9 → ∃ w9 h9, _ = some (2, w9, h9) := fun x9 z9 => (hlb_o x9 z9).elim fun w9 z9 => z9.elim fun h9 z9 => ⟨w9, h9, hX9.1 _ _ z9⟩
              have hG_q37 : G52 q37 = some (4, n1.toNatClampNeg, 0) := q52.1
              have q52 := q52.2
              have hX := hX.trN hN_q37 (hX9.wk (chs_sub (by decide)))
              have hG_a52 : G52 a52 = some (16, n1.toNatClampNeg, 0) := hG9_a52
              have hM_q37 : cIn w52 q37 (.inr (6, [.int (1 : Int32), .ref a52])) := hMx52
              have hM_a52 : cIn w52 a52 (.inl (cy 1, n1.toNatClampNeg, .inr (.inl (fun _ => 0)))) := hMa52
              refine t_aast10f hx hb hV hK hP hD hS hT hG_sh_o hM_sh_o hf_sh_o (Or.inr ⟨_, hG_q37⟩) (vp_in_iff.mpr ⟨by omega, by omega⟩) dX9_make_55 (fun H locs w55 hU55 hM9_sh_o hf9_sh_o hP hD hT hS => ?_)
              have hM_o := hU55 _ _ (cne hG_o hG_sh_o (show (7 : Nat) ≠ 10 by decide)) hM_o
              have hM_q37 := hU55 _ _ (cne hG_q37 hG_sh_o (show (4 : Nat) ≠ 10 by decide)) hM_q37
              have hM_a52 := hU55 _ _ (cne hG_a52 hG_sh_o (show (16 : Nat) ≠ 10 by decide)) hM_a52
              have hM_sh_o := hM9_sh_o
              have hf_sh_o := hf9_sh_o
              have hX := hX.tr (cX.uF hU55 (Or.inr ⟨_, hG_sh_o, rfl⟩))
              refine lv_iconst (v := 0) hx hb dX9_make_56 (by decide) ?_
              refine W.widen (k := 2) (n := 62) (Nat.le_of_ble_eq_true rfl) (Nat.le_of_ble_eq_true rfl) ?_
              exact W.iret (v := (0 : Int32)) hx hb hr (fun t ht hW => ⟨⟨_, (G52, w55), rfl, ⟨hX, ⟨(by unfold mkAns; split <;> (try split) <;> first | rfl | (exfalso; omega)), Or.inl ⟨(by unfold mkOk; omega), _, _, _, hM_sh_o, hG_q37, hG_a52, hN_a52, hM_q37, hM_a52, (by first | exact Or.inl ⟨rfl, by omega⟩ | exact Or.inr ⟨rfl, by omega⟩)⟩⟩⟩, by show va_P D vwCl w55 t.heap; rw [ht]; exact hP, hD, hT⟩, hS.F ht⟩) hS.2.2 dX9_make_57
          · skip
            have d26 := c26
            rw [fa_le] at d26
            refine lv_bipush (v := (-14)) hx hb dX9_make_29 (by decide) ?_
            refine W.widen (k := 2) (n := 62) (Nat.le_of_ble_eq_true rfl) (Nat.le_of_ble_eq_true rfl) ?_
            exact W.iret (v := ((-14) : Int32)) hx hb hr (fun t ht hW => ⟨⟨_, (G, ws), rfl, ⟨hX, ⟨(by unfold mkAns; split <;> (try split) <;> first | rfl | (exfalso; omega)), Or.inr ⟨(by unfold mkOk; omega), hM_sh_o⟩⟩⟩, by show va_P D vwCl ws t.heap; rw [ht]; exact hP, hD, hT⟩, hS.F ht⟩) hS.2.2 dX9_make_31
        · skip
          have d20 := c20
          rw [fa_le] at d20
          refine lv_iconst (v := (-1)) hx hb dX9_make_23 (by decide) ?_
          refine W.widen (k := 2) (n := 62) (Nat.le_of_ble_eq_true rfl) (Nat.le_of_ble_eq_true rfl) ?_
          exact W.iret (v := ((-1) : Int32)) hx hb hr (fun t ht hW => ⟨⟨_, (G, ws), rfl, ⟨hX, ⟨(by unfold mkAns; split <;> (try split) <;> first | rfl | (exfalso; omega)), Or.inr ⟨(by unfold mkOk; omega), hM_sh_o⟩⟩⟩, by show va_P D vwCl ws t.heap; rw [ht]; exact hP, hD, hT⟩, hS.F ht⟩) hS.2.2 dX9_make_24
set_option maxHeartbeats 4000000 in
set_option maxRecDepth 100000 in
theorem c_X9_copy_x (l : Launch) (D : va_G) (cy : Nat → ClassId) (A : Nat → Prop) (G : cG) (ws : va_W) (o : Nat) (d : Int32) (i : Int32) (e0 : Int32) (j : Int32) (m0 : Int32) {bs_o js_o sh_o wk_o ll_o : Nat} {jc_o lc_o : Int32} {mo_o lb_o : Option Nat} {fb : Nat → Option Nat} {sx sa : Nat → Nat} {kS9 zS9 : Nat → Int32} {rS9 : Nat → Nat → Int64} (hD : va_D A ws) (hT : cT cy G ws) (hG_o : G o = some (7, 0, 0)) (hM_o : cIn ws o (.inr (8, [.ref bs_o, .ref js_o, .int jc_o, .ref sh_o, .ref wk_o, va_rf mo_o, .ref ll_o, .int lc_o, va_rf lb_o]))) (hM_sh_o : cIn ws sh_o (.inl (cy 5, cqa 8 fb))) (hS9 : ∀ i9, i9 < 8 → shX cy G ws (fb i9) (sx i9) (sa i9) (kS9 i9) (zS9 i9) (rS9 i9)) : Ci l D cy A yX9_copy wsX9_copy ({ frames := 2, cells := 0, slots := 0, locals := 92 }) 0 0 ws [.ref o, .int d, .int i, .int e0, .int j, .int m0] (fun r0 u => cX none (chs [16]) G ws u.1 u.2 ∧ (cpA kS9 zS9 d i e0 j m0 r0 ∧ ((cpOk kS9 zS9 d i e0 j m0 ∧ u.1 = G ∧ cF (fun b9 => b9 = sa e0.toNatClampNeg) ws u.2 ∧ ∃ (m1 m2 : Nat) (f1 f2 : Nat → Int64), cIn ws (sa d.toNatClampNeg) (.inl (cy 1, m1, .inr (.inl f1))) ∧ cIn ws (sa e0.toNatClampNeg) (.inl (cy 1, m2, .inr (.inl f2))) ∧ cIn u.2 (sa e0.toNatClampNeg) (.inl (cy 1, m2, .inr (.inl (va_cpy f1 f2 i.toNatClampNeg j.toNatClampNeg m0.toNatClampNeg))))) ∨ (¬ cpOk kS9 zS9 d i e0 j m0 ∧ u = (G, ws))))) := by
  refine Met.ofW (cc := cX9_copy) (maxL := 9) (ret := (some .int)) (by decide) rfl ?_
  intro p e s m args below meth c s₁ B hml hv
  obtain ⟨rfl, hP, hK, hA, hV⟩ := hv
  have hx := B.exec
  have hb := B.bytes
  have hr := B.returns
  have hts := atoms_spec (ws := wsX9_copy) B.pre
  have hown : s.vm.findClass RX9 = some m.cls := findClass_of_methodNamed B.named
  have hlocks := B.notSynchronized
  have hS : va_S A s.heap s.heap [] := va_S.rf
  have hX : cX none (chs [16]) G ws G ws := cX.rf
  have hl := lv_entry ([.ref o, .int d, .int i, .int e0, .int j, .int m0]) (n := 9) (Nat.le_of_ble_eq_true rfl)
  rw [lg_entry_eq]
  generalize (lg_sl ([.ref o, .int d, .int i, .int e0, .int j, .int m0]) ++ List.replicate (9 - (lg_sl ([.ref o, .int d, .int i, .int e0, .int j, .int m0])).length) Slot.unset).toArray = ls at hl ⊢
  have hl : lv_has ls 9 [(0, .ref o), (1, .int d), (2, .int i), (3, .int e0), (4, .int j), (5, .int m0)] := hl
  have k_m13 : (-13 : Int32).toInt = -13 := by decide
  have k_m12 : (-12 : Int32).toInt = -12 := by decide
  have k_m11 : (-11 : Int32).toInt = -11 := by decide
  have k_m1 : (-1 : Int32).toInt = -1 := by decide
  have k_0 : (0 : Int32).toInt = 0 := by decide
  obtain ⟨hjc_o, hlc_o, hG_bs_o, hG_js_o, hG_sh_o, hG_wk_o, hmo_o, hG_ll_o, hlb_o⟩ := w7sh hD hT hG_o hM_o
  have hf_sh_o := w10sh hD hT hG_sh_o hM_sh_o
  refine lv_iload_n hx hb dX9_copy_0 rfl (lv_at hl 1 rfl) ?_
  refine t_pu (As := [.int d]) (rest := []) ⟨hx, hb, hml, hown, hts⟩ (c_X9_isShelf l d ) (va_cwS 1 hts gX9_copy_X9_isShelf rfl rfl rfl (by decide +kernel) ⟨Nat.le_of_ble_eq_true rfl, Nat.le_of_ble_eq_true rfl⟩) hP rfl hl.1 rfl (Nat.le_of_ble_eq_true rfl) dX9_copy_1 ⟨Nat.le_of_ble_eq_true rfl, Nat.le_of_ble_eq_true rfl⟩ hS (fun r1 H locs q1 hP hS => ?_)
  refine lv_if_eq (tgt := 14) hx hb dX9_copy_4 (by decide) (fun c4 => ?_) (fun c4 => ?_)
  · skip
    have b4 := bo_f q1 c4
    refine lv_iconst (v := (-1)) hx hb dX9_copy_14 (by decide) ?_
    exact W.iret (v := ((-1) : Int32)) hx hb hr (fun t ht hW => ⟨⟨_, (G, ws), rfl, ⟨hX, ⟨(Or.inl ⟨(fun z9 => by first | exact b4 z9.1 | exact b11 z9.2), rfl⟩), Or.inr ⟨(fun z8 => by first | exact b4 z8.1.1 | exact b11 z8.1.2), rfl⟩⟩⟩, by show va_P D vwCl ws t.heap; rw [ht]; exact hP, hD, hT⟩, hS.F ht⟩) hS.2.2 dX9_copy_15
  · skip
    have b4 := bo_t q1 c4
    refine lv_iload_n hx hb dX9_copy_7 rfl (lv_at hl 3 rfl) ?_
    refine t_pu (As := [.int e0]) (rest := []) ⟨hx, hb, hml, hown, hts⟩ (c_X9_isShelf l e0 ) (va_cwS 1 hts gX9_copy_X9_isShelf rfl rfl rfl (by decide +kernel) ⟨Nat.le_of_ble_eq_true rfl, Nat.le_of_ble_eq_true rfl⟩) hP rfl hl.1 rfl (Nat.le_of_ble_eq_true rfl) dX9_copy_8 ⟨Nat.le_of_ble_eq_true rfl, Nat.le_of_ble_eq_true rfl⟩ hS (fun r8 H locs q8 hP hS => ?_)
    refine lv_if_ne (tgt := 16) hx hb dX9_copy_11 (by decide) (fun c11 => ?_) (fun c11 => ?_)
    · skip
      have b11 := bo_t q8 c11
      refine lv_aload_n hx hb dX9_copy_16 rfl (lv_at hl 0 rfl) ?_
      refine t_get (v := .ref sh_o) (C := RX9) (T := TX9) (N := 9) hx hb hts (by decide +kernel) hown hK hP hM_o rfl 3 (by decide) (hts (.fieldLink RX9 27 "ShadowBench" "shelves" "[LShadowBench$Held;") (by decide +kernel)) (fun _ h9 => h9) rfl dX9_copy_17 ?_
      refine lv_iload_n hx hb dX9_copy_20 rfl (lv_at hl 1 rfl) ?_
      refine t_aald10f hx hb hK hP hM_sh_o hf_sh_o (vp_in_iff.mpr ⟨by omega, by omega⟩) dX9_copy_21 (fun nf21 => ?_) (fun x21 kx21 nx21 hG_x21 nf21 => ?_) (fun x21 nx21 hG_x21 nf21 => ?_)
      · skip
        have s21 := hS9 d.toNatClampNeg (by have := m_cl (x := d) (by omega); omega)
        rw [nf21] at s21
        refine lv_ifnullN (tgt := 34) hx hb dX9_copy_22 (by decide) ?_
        refine lv_bipush (v := (-11)) hx hb dX9_copy_34 (by decide) ?_
        exact W.iret (v := ((-11) : Int32)) hx hb hr (fun t ht hW => ⟨⟨_, (G, ws), rfl, ⟨hX, ⟨(Or.inr ⟨⟨b4, b11⟩, Or.inl ⟨(by first | exact Or.inl (shX_n s21) | exact Or.inr (shX_n s30)), rfl⟩⟩), Or.inr ⟨(fun z8 => z8.2.1 (by first | exact Or.inl (shX_n s21) | exact Or.inr (shX_n s30))), rfl⟩⟩⟩, by show va_P D vwCl ws t.heap; rw [ht]; exact hP, hD, hT⟩, hS.F ht⟩) hS.2.2 dX9_copy_36
      · skip
        have s21 := hS9 d.toNatClampNeg (by have := m_cl (x := d) (by omega); omega)
        rw [nf21] at s21
        refine lv_ifnull hx hb dX9_copy_22 ?_
        refine lv_aload_n hx hb dX9_copy_25 rfl (lv_at hl 0 rfl) ?_
        refine t_get (v := .ref sh_o) (C := RX9) (T := TX9) (N := 9) hx hb hts (by decide +kernel) hown hK hP hM_o rfl 3 (by decide) (hts (.fieldLink RX9 27 "ShadowBench" "shelves" "[LShadowBench$Held;") (by decide +kernel)) (fun _ h9 => h9) rfl dX9_copy_26 ?_
        refine lv_iload_n hx hb dX9_copy_29 rfl (lv_at hl 3 rfl) ?_
        refine t_aald10f hx hb hK hP hM_sh_o hf_sh_o (vp_in_iff.mpr ⟨by omega, by omega⟩) dX9_copy_30 (fun nf30 => ?_) (fun x30 kx30 nx30 hG_x30 nf30 => ?_) (fun x30 nx30 hG_x30 nf30 => ?_)
        · skip
          have s30 := hS9 e0.toNatClampNeg (by have := m_cl (x := e0) (by omega); omega)
          rw [nf30] at s30
          refine lv_ifnonnullN hx hb dX9_copy_31 ?_
          refine lv_bipush (v := (-11)) hx hb dX9_copy_34 (by decide) ?_
          exact W.iret (v := ((-11) : Int32)) hx hb hr (fun t ht hW => ⟨⟨_, (G, ws), rfl, ⟨hX, ⟨(Or.inr ⟨⟨b4, b11⟩, Or.inl ⟨(by first | exact Or.inl (shX_n s21) | exact Or.inr (shX_n s30)), rfl⟩⟩), Or.inr ⟨(fun z8 => z8.2.1 (by first | exact Or.inl (shX_n s21) | exact Or.inr (shX_n s30))), rfl⟩⟩⟩, by show va_P D vwCl ws t.heap; rw [ht]; exact hP, hD, hT⟩, hS.F ht⟩) hS.2.2 dX9_copy_36
        · skip
          have s30 := hS9 e0.toNatClampNeg (by have := m_cl (x := e0) (by omega); omega)
          rw [nf30] at s30
          refine lv_ifnonnull (tgt := 37) hx hb dX9_copy_31 (by decide) ?_
          have nk9 : ¬ (kS9 d.toNatClampNeg = 0 ∨ kS9 e0.toNatClampNeg = 0) := by rintro (z9 | z9); exact shX_nz s21 z9; exact shX_nz s30 z9
          refine lv_aload_n hx hb dX9_copy_37 rfl (lv_at hl 0 rfl) ?_
          refine t_get (v := .ref sh_o) (C := RX9) (T := TX9) (N := 9) hx hb hts (by decide +kernel) hown hK hP hM_o rfl 3 (by decide) (hts (.fieldLink RX9 27 "ShadowBench" "shelves" "[LShadowBench$Held;") (by decide +kernel)) (fun _ h9 => h9) rfl dX9_copy_38 ?_
          refine lv_iload_n hx hb dX9_copy_41 rfl (lv_at hl 1 rfl) ?_
          refine t_aald10f hx hb hK hP hM_sh_o hf_sh_o (vp_in_iff.mpr ⟨by omega, by omega⟩) dX9_copy_42 (fun nf42 => ?_) (fun x42 kx42 nx42 hG_x42 nf42 => ?_) (fun x42 nx42 hG_x42 nf42 => ?_)
          · skip
            have s42 := hS9 d.toNatClampNeg (by have := m_cl (x := d) (by omega); omega)
            rw [nf42] at s42
            refine lv_astoreN (lv' := [(8, .null), (0, .ref o), (1, .int d), (2, .int i), (3, .int e0), (4, .int j), (5, .int m0)]) hx hb dX9_copy_43 hl (by decide) rfl (fun ls hl => ?_)
            refine lv_aloadN hx hb dX9_copy_45 (lv_at hl 0 rfl) ?_
            refine lv_instN hx hb dX9_copy_47 ?_
            refine lv_if_eq (tgt := 137) hx hb dX9_copy_50 (by decide) (fun c50 => ?_) (fun c50 => ?_)
            · skip
              have d50 := c50
              rw [fa_eq] at d50
              refine lv_bipush (v := (-12)) hx hb dX9_copy_137 (by decide) ?_
              exact W.iret (v := ((-12) : Int32)) hx hb hr (fun t ht hW => ⟨⟨_, (G, ws), rfl, ⟨hX, ⟨(Or.inr ⟨⟨b4, b11⟩, Or.inr ⟨nk9, Or.inl ⟨(by first | exact nomatch (show (none : Option Nat) = some _ from nf42.symm.trans nf21) | exact nomatch (show (none : Option Nat) = some _ from nf65.symm.trans nf30) | (intro z9; have y9 := shX_job s42 hG_x42; rw [y9] at z9; exact absurd z9.1 (by decide)) | (intro z9; have y9 := shX_job s65 hG_x65; have w9 := z9.1; rw [z9.2, y9] at w9; exact absurd w9 (by decide)) | (intro z9; rcases hk42 with ⟨p1, p2⟩ | ⟨p1, p2⟩ <;> rcases hk65 with ⟨o1, o2⟩ | ⟨o1, o2⟩ <;> first | exact c93 (p1.trans o1.symm) | (have w9 := z9.2; rw [p2, o2] at w9; exact absurd w9 (by decide)))), rfl⟩⟩⟩), Or.inr ⟨(fun z8 => absurd z8.2.2.1 (by first | exact nomatch (show (none : Option Nat) = some _ from nf42.symm.trans nf21) | exact nomatch (show (none : Option Nat) = some _ from nf65.symm.trans nf30) | (intro z9; have y9 := shX_job s42 hG_x42; rw [y9] at z9; exact absurd z9.1 (by decide)) | (intro z9; have y9 := shX_job s65 hG_x65; have w9 := z9.1; rw [z9.2, y9] at w9; exact absurd w9 (by decide)) | (intro z9; rcases hk42 with ⟨p1, p2⟩ | ⟨p1, p2⟩ <;> rcases hk65 with ⟨o1, o2⟩ | ⟨o1, o2⟩ <;> first | exact c93 (p1.trans o1.symm) | (have w9 := z9.2; rw [p2, o2] at w9; exact absurd w9 (by decide))))), rfl⟩⟩⟩, by show va_P D vwCl ws t.heap; rw [ht]; exact hP, hD, hT⟩, hS.F ht⟩) hS.2.2 dX9_copy_139
            · first | exact absurd c50 (by decide) | exact absurd (by decide) c50
          · skip
            have s42 := hS9 d.toNatClampNeg (by have := m_cl (x := d) (by omega); omega)
            rw [nf42] at s42
            refine lv_astore (lv' := [(8, .ref x42), (0, .ref o), (1, .int d), (2, .int i), (3, .int e0), (4, .int j), (5, .int m0)]) hx hb dX9_copy_43 hl (by decide) rfl (fun ls hl => ?_)
            refine lv_aload hx hb dX9_copy_45 (lv_at hl 0 rfl) ?_
            obtain ⟨_, hM_x42, b_x42, s_x42, w_x42, h_x42, t_x42, x_x42, y_x42, ms_x42, rfl, hG_b_x42, hG_s_x42, hJ_x42⟩ := hT _ _ hG_x42
            refine t_instRN hx hb hV hown (hts (.classLink RX9 245 RX7) (by decide +kernel)) hK hP hJ_x42.kc hM_x42 dX9_copy_47 ?_
            refine lv_if_eq (tgt := 137) hx hb dX9_copy_50 (by decide) (fun c50 => ?_) (fun c50 => ?_)
            · skip
              have d50 := c50
              rw [fa_eq] at d50
              refine lv_bipush (v := (-12)) hx hb dX9_copy_137 (by decide) ?_
              exact W.iret (v := ((-12) : Int32)) hx hb hr (fun t ht hW => ⟨⟨_, (G, ws), rfl, ⟨hX, ⟨(Or.inr ⟨⟨b4, b11⟩, Or.inr ⟨nk9, Or.inl ⟨(by first | exact nomatch (show (none : Option Nat) = some _ from nf42.symm.trans nf21) | exact nomatch (show (none : Option Nat) = some _ from nf65.symm.trans nf30) | (intro z9; have y9 := shX_job s42 hG_x42; rw [y9] at z9; exact absurd z9.1 (by decide)) | (intro z9; have y9 := shX_job s65 hG_x65; have w9 := z9.1; rw [z9.2, y9] at w9; exact absurd w9 (by decide)) | (intro z9; rcases hk42 with ⟨p1, p2⟩ | ⟨p1, p2⟩ <;> rcases hk65 with ⟨o1, o2⟩ | ⟨o1, o2⟩ <;> first | exact c93 (p1.trans o1.symm) | (have w9 := z9.2; rw [p2, o2] at w9; exact absurd w9 (by decide)))), rfl⟩⟩⟩), Or.inr ⟨(fun z8 => absurd z8.2.2.1 (by first | exact nomatch (show (none : Option Nat) = some _ from nf42.symm.trans nf21) | exact nomatch (show (none : Option Nat) = some _ from nf65.symm.trans nf30) | (intro z9; have y9 := shX_job s42 hG_x42; rw [y9] at z9; exact absurd z9.1 (by decide)) | (intro z9; have y9 := shX_job s65 hG_x65; have w9 := z9.1; rw [z9.2, y9] at w9; exact absurd w9 (by decide)) | (intro z9; rcases hk42 with ⟨p1, p2⟩ | ⟨p1, p2⟩ <;> rcases hk65 with ⟨o1, o2⟩ | ⟨o1, o2⟩ <;> first | exact c93 (p1.trans o1.symm) | (have w9 := z9.2; rw [p2, o2] at w9; exact absurd w9 (by decide))))), rfl⟩⟩⟩, by show va_P D vwCl ws t.heap; rw [ht]; exact hP, hD, hT⟩, hS.F ht⟩) hS.2.2 dX9_copy_139
            · first | exact absurd c50 (by decide) | exact absurd (by decide) c50
          · skip
            have s42 := hS9 d.toNatClampNeg (by have := m_cl (x := d) (by omega); omega)
            rw [nf42] at s42
            refine lv_astore (lv' := [(8, .ref x42), (0, .ref o), (1, .int d), (2, .int i), (3, .int e0), (4, .int j), (5, .int m0)]) hx hb dX9_copy_43 hl (by decide) rfl (fun ls hl => ?_)
            refine lv_aload hx hb dX9_copy_45 (lv_at hl 0 rfl) ?_
            obtain ⟨_, hM_x42, hn_x42, z_x42, a_x42, rfl, hz_x42, hG_a_x42⟩ := hT _ _ hG_x42
            refine va_instS hx hb hown (hts (.classLink RX9 245 RX7) (by decide +kernel)) (hK.1 6 _ rfl).2 (t_recJ hK hP hM_x42 rfl) dX9_copy_47 ?_
            refine lv_if_eq (tgt := 137) hx hb dX9_copy_50 (by decide) (fun c50 => ?_) (fun c50 => ?_)
            · first | exact absurd c50 (by decide) | exact absurd (by decide) c50
            · skip
              have d50 := c50
              rw [fa_eq] at d50
              obtain ⟨hx42, z42, f42, hG_ar42, hM_x42, hM_ar42, hn42, hm42, hk42, hf42, hb42⟩ := shX_row s42 hG_x42
              obtain ⟨ar42, har42⟩ : ∃ z, z = sa d.toNatClampNeg := ⟨_, rfl⟩
              rw [← har42] at hG_ar42 hM_x42 hM_ar42
              have hz42 : isBo z42 := hk42.elim (fun y9 => Or.inr y9.1) (fun y9 => Or.inl y9.1)
              refine lv_aload hx hb dX9_copy_53 (lv_at hl 0 rfl) ?_
              refine va_castS hx hb hown (hts (.classLink RX9 245 RX7) (by decide +kernel)) (hK.1 6 _ rfl).2 (t_recJ hK hP hM_x42 rfl) dX9_copy_55 ?_
              refine lv_astore (lv' := [(6, .ref x42), (8, .ref x42), (0, .ref o), (1, .int d), (2, .int i), (3, .int e0), (4, .int j), (5, .int m0)]) hx hb dX9_copy_58 hl (by decide) rfl (fun ls hl => ?_)
              refine lv_aload_n hx hb dX9_copy_60 rfl (lv_at hl 2 rfl) ?_
              refine t_get (v := .ref sh_o) (C := RX9) (T := TX9) (N := 9) hx hb hts (by decide +kernel) hown hK hP hM_o rfl 3 (by decide) (hts (.fieldLink RX9 27 "ShadowBench" "shelves" "[LShadowBench$Held;") (by decide +kernel)) (fun _ h9 => h9) rfl dX9_copy_61 ?_
              refine lv_iload_n hx hb dX9_copy_64 rfl (lv_at hl 5 rfl) ?_
              refine t_aald10f hx hb hK hP hM_sh_o hf_sh_o (vp_in_iff.mpr ⟨by omega, by omega⟩) dX9_copy_65 (fun nf65 => ?_) (fun x65 kx65 nx65 hG_x65 nf65 => ?_) (fun x65 nx65 hG_x65 nf65 => ?_)
              · skip
                have s65 := hS9 e0.toNatClampNeg (by have := m_cl (x := e0) (by omega); omega)
                rw [nf65] at s65
                refine lv_astoreN (lv' := [(8, .null), (6, .ref x42), (0, .ref o), (1, .int d), (2, .int i), (3, .int e0), (4, .int j), (5, .int m0)]) hx hb dX9_copy_66 hl (by decide) rfl (fun ls hl => ?_)
                refine lv_aloadN hx hb dX9_copy_68 (lv_at hl 0 rfl) ?_
                refine lv_instN hx hb dX9_copy_70 ?_
                refine lv_if_eq (tgt := 137) hx hb dX9_copy_73 (by decide) (fun c73 => ?_) (fun c73 => ?_)
                · skip
                  have d73 := c73
                  rw [fa_eq] at d73
                  refine lv_bipush (v := (-12)) hx hb dX9_copy_137 (by decide) ?_
                  exact W.iret (v := ((-12) : Int32)) hx hb hr (fun t ht hW => ⟨⟨_, (G, ws), rfl, ⟨hX, ⟨(Or.inr ⟨⟨b4, b11⟩, Or.inr ⟨nk9, Or.inl ⟨(by first | exact nomatch (show (none : Option Nat) = some _ from nf42.symm.trans nf21) | exact nomatch (show (none : Option Nat) = some _ from nf65.symm.trans nf30) | (intro z9; have y9 := shX_job s42 hG_x42; rw [y9] at z9; exact absurd z9.1 (by decide)) | (intro z9; have y9 := shX_job s65 hG_x65; have w9 := z9.1; rw [z9.2, y9] at w9; exact absurd w9 (by decide)) | (intro z9; rcases hk42 with ⟨p1, p2⟩ | ⟨p1, p2⟩ <;> rcases hk65 with ⟨o1, o2⟩ | ⟨o1, o2⟩ <;> first | exact c93 (p1.trans o1.symm) | (have w9 := z9.2; rw [p2, o2] at w9; exact absurd w9 (by decide)))), rfl⟩⟩⟩), Or.inr ⟨(fun z8 => absurd z8.2.2.1 (by first | exact nomatch (show (none : Option Nat) = some _ from nf42.symm.trans nf21) | exact nomatch (show (none : Option Nat) = some _ from nf65.symm.trans nf30) | (intro z9; have y9 := shX_job s42 hG_x42; rw [y9] at z9; exact absurd z9.1 (by decide)) | (intro z9; have y9 := shX_job s65 hG_x65; have w9 := z9.1; rw [z9.2, y9] at w9; exact absurd w9 (by decide)) | (intro z9; rcases hk42 with ⟨p1, p2⟩ | ⟨p1, p2⟩ <;> rcases hk65 with ⟨o1, o2⟩ | ⟨o1, o2⟩ <;> first | exact c93 (p1.trans o1.symm) | (have w9 := z9.2; rw [p2, o2] at w9; exact absurd w9 (by decide))))), rfl⟩⟩⟩, by show va_P D vwCl ws t.heap; rw [ht]; exact hP, hD, hT⟩, hS.F ht⟩) hS.2.2 dX9_copy_139
                · first | exact absurd c73 (by decide) | exact absurd (by decide) c73
              · skip
                have s65 := hS9 e0.toNatClampNeg (by have := m_cl (x := e0) (by omega); omega)
                rw [nf65] at s65
                refine lv_astore (lv' := [(8, .ref x65), (6, .ref x42), (0, .ref o), (1, .int d), (2, .int i), (3, .int e0), (4, .int j), (5, .int m0)]) hx hb dX9_copy_66 hl (by decide) rfl (fun ls hl => ?_)
                refine lv_aload hx hb dX9_copy_68 (lv_at hl 0 rfl) ?_
                obtain ⟨_, hM_x65, b_x65, s_x65, w_x65, h_x65, t_x65, x_x65, y_x65, ms_x65, rfl, hG_b_x65, hG_s_x65, hJ_x65⟩ := hT _ _ hG_x65
                refine t_instRN hx hb hV hown (hts (.classLink RX9 245 RX7) (by decide +kernel)) hK hP hJ_x65.kc hM_x65 dX9_copy_70 ?_
                refine lv_if_eq (tgt := 137) hx hb dX9_copy_73 (by decide) (fun c73 => ?_) (fun c73 => ?_)
                · skip
                  have d73 := c73
                  rw [fa_eq] at d73
                  refine lv_bipush (v := (-12)) hx hb dX9_copy_137 (by decide) ?_
                  exact W.iret (v := ((-12) : Int32)) hx hb hr (fun t ht hW => ⟨⟨_, (G, ws), rfl, ⟨hX, ⟨(Or.inr ⟨⟨b4, b11⟩, Or.inr ⟨nk9, Or.inl ⟨(by first | exact nomatch (show (none : Option Nat) = some _ from nf42.symm.trans nf21) | exact nomatch (show (none : Option Nat) = some _ from nf65.symm.trans nf30) | (intro z9; have y9 := shX_job s42 hG_x42; rw [y9] at z9; exact absurd z9.1 (by decide)) | (intro z9; have y9 := shX_job s65 hG_x65; have w9 := z9.1; rw [z9.2, y9] at w9; exact absurd w9 (by decide)) | (intro z9; rcases hk42 with ⟨p1, p2⟩ | ⟨p1, p2⟩ <;> rcases hk65 with ⟨o1, o2⟩ | ⟨o1, o2⟩ <;> first | exact c93 (p1.trans o1.symm) | (have w9 := z9.2; rw [p2, o2] at w9; exact absurd w9 (by decide)))), rfl⟩⟩⟩), Or.inr ⟨(fun z8 => absurd z8.2.2.1 (by first | exact nomatch (show (none : Option Nat) = some _ from nf42.symm.trans nf21) | exact nomatch (show (none : Option Nat) = some _ from nf65.symm.trans nf30) | (intro z9; have y9 := shX_job s42 hG_x42; rw [y9] at z9; exact absurd z9.1 (by decide)) | (intro z9; have y9 := shX_job s65 hG_x65; have w9 := z9.1; rw [z9.2, y9] at w9; exact absurd w9 (by decide)) | (intro z9; rcases hk42 with ⟨p1, p2⟩ | ⟨p1, p2⟩ <;> rcases hk65 with ⟨o1, o2⟩ | ⟨o1, o2⟩ <;> first | exact c93 (p1.trans o1.symm) | (have w9 := z9.2; rw [p2, o2] at w9; exact absurd w9 (by decide))))), rfl⟩⟩⟩, by show va_P D vwCl ws t.heap; rw [ht]; exact hP, hD, hT⟩, hS.F ht⟩) hS.2.2 dX9_copy_139
                · first | exact absurd c73 (by decide) | exact absurd (by decide) c73
              · skip
                have s65 := hS9 e0.toNatClampNeg (by have := m_cl (x := e0) (by omega); omega)
                rw [nf65] at s65
                refine lv_astore (lv' := [(8, .ref x65), (6, .ref x42), (0, .ref o), (1, .int d), (2, .int i), (3, .int e0), (4, .int j), (5, .int m0)]) hx hb dX9_copy_66 hl (by decide) rfl (fun ls hl => ?_)
                refine lv_aload hx hb dX9_copy_68 (lv_at hl 0 rfl) ?_
                obtain ⟨_, hM_x65, hn_x65, z_x65, a_x65, rfl, hz_x65, hG_a_x65⟩ := hT _ _ hG_x65
                refine va_instS hx hb hown (hts (.classLink RX9 245 RX7) (by decide +kernel)) (hK.1 6 _ rfl).2 (t_recJ hK hP hM_x65 rfl) dX9_copy_70 ?_
                refine lv_if_eq (tgt := 137) hx hb dX9_copy_73 (by decide) (fun c73 => ?_) (fun c73 => ?_)
                · first | exact absurd c73 (by decide) | exact absurd (by decide) c73
                · skip
                  have d73 := c73
                  rw [fa_eq] at d73
                  obtain ⟨hx65, z65, f65, hG_ar65, hM_x65, hM_ar65, hn65, hm65, hk65, hf65, hb65⟩ := shX_row s65 hG_x65
                  obtain ⟨ar65, har65⟩ : ∃ z, z = sa e0.toNatClampNeg := ⟨_, rfl⟩
                  rw [← har65] at hG_ar65 hM_x65 hM_ar65
                  have hz65 : isBo z65 := hk65.elim (fun y9 => Or.inr y9.1) (fun y9 => Or.inl y9.1)
                  refine lv_aload hx hb dX9_copy_76 (lv_at hl 0 rfl) ?_
                  refine va_castS hx hb hown (hts (.classLink RX9 245 RX7) (by decide +kernel)) (hK.1 6 _ rfl).2 (t_recJ hK hP hM_x65 rfl) dX9_copy_78 ?_
                  refine lv_astore (lv' := [(7, .ref x65), (8, .ref x65), (6, .ref x42), (0, .ref o), (1, .int d), (2, .int i), (3, .int e0), (4, .int j), (5, .int m0)]) hx hb dX9_copy_81 hl (by decide) rfl (fun ls hl => ?_)
                  refine lv_aload hx hb dX9_copy_83 (lv_at hl 2 rfl) ?_
                  refine t_get (v := .int z42) (C := RX7) (T := TX7) (N := 2) hx hb hts (by decide +kernel) hown hK hP hM_x42 rfl 0 (by decide) (hts (.fieldLink RX9 264 "ShadowBench$Row" "ofBytes" "Z") (by decide +kernel)) (fun _ h9 => h9) rfl dX9_copy_85 ?_
                  refine lv_aload hx hb dX9_copy_88 (lv_at hl 0 rfl) ?_
                  refine t_get (v := .int z65) (C := RX7) (T := TX7) (N := 2) hx hb hts (by decide +kernel) hown hK hP hM_x65 rfl 0 (by decide) (hts (.fieldLink RX9 264 "ShadowBench$Row" "ofBytes" "Z") (by decide +kernel)) (fun _ h9 => h9) rfl dX9_copy_90 ?_
                  refine lv_icmp_ne (tgt := 137) hx hb dX9_copy_93 (by decide) (fun c93 => ?_) (fun c93 => ?_)
                  · skip
                    have d93 := c93
                    rw [fa_eq] at d93
                    refine lv_bipush (v := (-12)) hx hb dX9_copy_137 (by decide) ?_
                    exact W.iret (v := ((-12) : Int32)) hx hb hr (fun t ht hW => ⟨⟨_, (G, ws), rfl, ⟨hX, ⟨(Or.inr ⟨⟨b4, b11⟩, Or.inr ⟨nk9, Or.inl ⟨(by first | exact nomatch (show (none : Option Nat) = some _ from nf42.symm.trans nf21) | exact nomatch (show (none : Option Nat) = some _ from nf65.symm.trans nf30) | (intro z9; have y9 := shX_job s42 hG_x42; rw [y9] at z9; exact absurd z9.1 (by decide)) | (intro z9; have y9 := shX_job s65 hG_x65; have w9 := z9.1; rw [z9.2, y9] at w9; exact absurd w9 (by decide)) | (intro z9; rcases hk42 with ⟨p1, p2⟩ | ⟨p1, p2⟩ <;> rcases hk65 with ⟨o1, o2⟩ | ⟨o1, o2⟩ <;> first | exact c93 (p1.trans o1.symm) | (have w9 := z9.2; rw [p2, o2] at w9; exact absurd w9 (by decide)))), rfl⟩⟩⟩), Or.inr ⟨(fun z8 => absurd z8.2.2.1 (by first | exact nomatch (show (none : Option Nat) = some _ from nf42.symm.trans nf21) | exact nomatch (show (none : Option Nat) = some _ from nf65.symm.trans nf30) | (intro z9; have y9 := shX_job s42 hG_x42; rw [y9] at z9; exact absurd z9.1 (by decide)) | (intro z9; have y9 := shX_job s65 hG_x65; have w9 := z9.1; rw [z9.2, y9] at w9; exact absurd w9 (by decide)) | (intro z9; rcases hk42 with ⟨p1, p2⟩ | ⟨p1, p2⟩ <;> rcases hk65 with ⟨o1, o2⟩ | ⟨o1, o2⟩ <;> first | exact c93 (p1.trans o1.symm) | (have w9 := z9.2; rw [p2, o2] at w9; exact absurd w9 (by decide))))), rfl⟩⟩⟩, by show va_P D vwCl ws t.heap; rw [ht]; exact hP, hD, hT⟩, hS.F ht⟩) hS.2.2 dX9_copy_139
                  · skip
                    have d93 := c93
                    rw [fa_eq] at d93
                    have ke9 : 3 ≤ (kS9 d.toNatClampNeg).toInt ∧ kS9 d.toNatClampNeg = kS9 e0.toNatClampNeg := by rcases hk42 with ⟨p1, p2⟩ | ⟨p1, p2⟩ <;> rcases hk65 with ⟨o1, o2⟩ | ⟨o1, o2⟩ <;> first | exact ⟨by rw [p2]; decide, p2.trans o2.symm⟩ | (have w9 := p1.symm.trans (c93.trans o1); exact absurd w9 (by decide))
                    refine lv_aload hx hb dX9_copy_96 (lv_at hl 2 rfl) ?_
                    refine lv_iload_n hx hb dX9_copy_98 rfl (lv_at hl 5 rfl) ?_
                    refine lv_iload hx hb dX9_copy_99 (lv_at hl 8 rfl) ?_
                    refine t_calli (va_runV (g := F0 m 101 ls ([.int m0, .int i, .ref x42])) (As := [.int i, .int m0]) (rest := []) ⟨hx, hb, hml, hown, hts⟩ (c_X7_has l D cy A G ws x42 i m0 hD hT hG_x42 ) (cwV 2 hts gX9_copy_X7_has rfl rfl rfl (by decide +kernel) ⟨Nat.le_of_ble_eq_true rfl, Nat.le_of_ble_eq_true rfl⟩) (c_preV hM_x42 rfl hP hK hA hS hV) rfl rfl hl.1 rfl (lv_room (Nat.le_of_ble_eq_true rfl)) dX9_copy_101 ⟨Nat.le_of_ble_eq_true rfl, Nat.le_of_ble_eq_true rfl⟩) hS (fun r101 u H locs q101 hP9 hD9 hT9 hS => ?_)
                    obtain ⟨rfl, q101⟩ := q101
                    have hP : va_P D vwCl ws H := hP9
                    refine lv_if_eq (tgt := 119) hx hb dX9_copy_104 (by decide) (fun c104 => ?_) (fun c104 => ?_)
                    · skip
                      have b104 := bo_f q101 c104
                      refine lv_bipush (v := (-13)) hx hb dX9_copy_119 (by decide) ?_
                      exact W.iret (v := ((-13) : Int32)) hx hb hr (fun t ht hW => ⟨⟨_, (G, ws), rfl, ⟨hX, ⟨(Or.inr ⟨⟨b4, b11⟩, Or.inr ⟨nk9, Or.inr ⟨ke9, Or.inl ⟨(fun z9 => by unfold hasP at z9; omega), rfl⟩⟩⟩⟩), Or.inr ⟨(fun z8 => absurd z8.2.2.2 (fun z9 => by unfold hasP at z9; omega)), rfl⟩⟩⟩, by show va_P D vwCl ws t.heap; rw [ht]; exact hP, hD, hT⟩, hS.F ht⟩) hS.2.2 dX9_copy_121
                    · skip
                      have b104 := bo_t q101 c104
                      refine lv_aload hx hb dX9_copy_107 (lv_at hl 0 rfl) ?_
                      refine lv_iload hx hb dX9_copy_109 (lv_at hl 7 rfl) ?_
                      refine lv_iload hx hb dX9_copy_111 (lv_at hl 8 rfl) ?_
                      refine t_calli (va_runV (g := F0 m 113 ls ([.int m0, .int j, .ref x65])) (As := [.int j, .int m0]) (rest := []) ⟨hx, hb, hml, hown, hts⟩ (c_X7_has l D cy A G ws x65 j m0 hD hT hG_x65 ) (cwV 2 hts gX9_copy_X7_has rfl rfl rfl (by decide +kernel) ⟨Nat.le_of_ble_eq_true rfl, Nat.le_of_ble_eq_true rfl⟩) (c_preV hM_x65 rfl hP hK hA hS hV) rfl rfl hl.1 rfl (lv_room (Nat.le_of_ble_eq_true rfl)) dX9_copy_113 ⟨Nat.le_of_ble_eq_true rfl, Nat.le_of_ble_eq_true rfl⟩) hS (fun r113 u H locs q113 hP9 hD9 hT9 hS => ?_)
                      obtain ⟨rfl, q113⟩ := q113
                      have hP : va_P D vwCl ws H := hP9
                      refine lv_if_ne (tgt := 122) hx hb dX9_copy_116 (by decide) (fun c116 => ?_) (fun c116 => ?_)
                      · skip
                        have b116 := bo_t q113 c116
                        have hM0_ar42 := hM_ar42
                        have hM0_ar65 := hM_ar65
                        refine lv_aload hx hb dX9_copy_122 (lv_at hl 0 rfl) ?_
                        refine lv_aload hx hb dX9_copy_124 (lv_at hl 2 rfl) ?_
                        refine lv_iload_n hx hb dX9_copy_126 rfl (lv_at hl 5 rfl) ?_
                        refine lv_iload hx hb dX9_copy_127 (lv_at hl 7 rfl) ?_
                        refine lv_iload hx hb dX9_copy_129 (lv_at hl 8 rfl) ?_
                        refine t_callv (va_runV (g := F0 m 131 ls ([.int m0, .int j, .int i, .ref x42, .ref x65])) (As := [.ref x42, .int i, .int j, .int m0]) (rest := []) ⟨hx, hb, hml, hown, hts⟩ (c_X7_takeFrom_x l D cy A G ws x65 x42 i j m0 hD hT hG_x65 hM_x65 hG_x42 hM_x42 hM_ar65 hM_ar42 b104 b116) (cwV 4 hts gX9_copy_X7_takeFrom rfl rfl rfl (by decide +kernel) ⟨Nat.le_of_ble_eq_true rfl, Nat.le_of_ble_eq_true rfl⟩) (c_preV hM_x65 rfl hP hK hA hS hV) rfl rfl hl.1 rfl (lv_room (Nat.le_of_ble_eq_true rfl)) dX9_copy_131 ⟨Nat.le_of_ble_eq_true rfl, Nat.le_of_ble_eq_true rfl⟩) hS (fun u H locs q131 hP9 hD9 hT9 hS => ?_)
                        obtain ⟨w131, rfl, hF131, q131⟩ := q131
                        have hP : va_P D vwCl w131 H := hP9
                        have hD : va_D A w131 := hD9
                        have hT : cT cy G w131 := hT9
                        have hM_o := hF131 _ _ (cne hG_o hG_ar65 (show (7 : Nat) ≠ 16 by decide)) hM_o
                        have hM_sh_o := hF131 _ _ (cne hG_sh_o hG_ar65 (show (10 : Nat) ≠ 16 by decide)) hM_sh_o
                        have hM_x42 := hF131 _ _ (cne hG_x42 hG_ar65 (show (4 : Nat) ≠ 16 by decide)) hM_x42
                        have hM_x65 := hF131 _ _ (cne hG_x65 hG_ar65 (show (4 : Nat) ≠ 16 by decide)) hM_x65
                        have hX := hX.tr ⟨cE.rf, hF131.wk (fun b9 z9 => by subst z9; exact (Or.inr ⟨_, hG_ar65, rfl⟩)), fun _ _ h9 => Or.inl h9⟩
                        have hM_ar65 : cIn w131 ar65 (.inl (cy 1, nx65, .inr (.inl (va_cpy f42 f65 i.toNatClampNeg j.toNatClampNeg m0.toNatClampNeg)))) := q131
                        refine lv_iload hx hb dX9_copy_134 (lv_at hl 8 rfl) ?_
                        exact W.iret (v := m0) hx hb hr (fun t ht hW => ⟨⟨_, (G, w131), rfl, ⟨hX, ⟨(Or.inr ⟨⟨b4, b11⟩, Or.inr ⟨nk9, Or.inr ⟨ke9, Or.inr ⟨(by unfold hasP; omega), rfl⟩⟩⟩⟩), Or.inl ⟨⟨⟨b4, b11⟩, nk9, ke9, (by unfold hasP; omega)⟩, rfl, (by rw [← har65]; exact hF131), _, _, _, _, (by rw [← har42]; exact hM0_ar42), (by rw [← har65]; exact hM0_ar65), (by rw [← har65]; exact hM_ar65)⟩⟩⟩, by show va_P D vwCl w131 t.heap; rw [ht]; exact hP, hD, hT⟩, hS.F ht⟩) hS.2.2 dX9_copy_136
                      · skip
                        have b116 := bo_f q113 c116
                        refine lv_bipush (v := (-13)) hx hb dX9_copy_119 (by decide) ?_
                        exact W.iret (v := ((-13) : Int32)) hx hb hr (fun t ht hW => ⟨⟨_, (G, ws), rfl, ⟨hX, ⟨(Or.inr ⟨⟨b4, b11⟩, Or.inr ⟨nk9, Or.inr ⟨ke9, Or.inl ⟨(fun z9 => by unfold hasP at z9; omega), rfl⟩⟩⟩⟩), Or.inr ⟨(fun z8 => absurd z8.2.2.2 (fun z9 => by unfold hasP at z9; omega)), rfl⟩⟩⟩, by show va_P D vwCl ws t.heap; rw [ht]; exact hP, hD, hT⟩, hS.F ht⟩) hS.2.2 dX9_copy_121
        · skip
          have s30 := hS9 e0.toNatClampNeg (by have := m_cl (x := e0) (by omega); omega)
          rw [nf30] at s30
          refine lv_ifnonnull (tgt := 37) hx hb dX9_copy_31 (by decide) ?_
          have nk9 : ¬ (kS9 d.toNatClampNeg = 0 ∨ kS9 e0.toNatClampNeg = 0) := by rintro (z9 | z9); exact shX_nz s21 z9; exact shX_nz s30 z9
          refine lv_aload_n hx hb dX9_copy_37 rfl (lv_at hl 0 rfl) ?_
          refine t_get (v := .ref sh_o) (C := RX9) (T := TX9) (N := 9) hx hb hts (by decide +kernel) hown hK hP hM_o rfl 3 (by decide) (hts (.fieldLink RX9 27 "ShadowBench" "shelves" "[LShadowBench$Held;") (by decide +kernel)) (fun _ h9 => h9) rfl dX9_copy_38 ?_
          refine lv_iload_n hx hb dX9_copy_41 rfl (lv_at hl 1 rfl) ?_
          refine t_aald10f hx hb hK hP hM_sh_o hf_sh_o (vp_in_iff.mpr ⟨by omega, by omega⟩) dX9_copy_42 (fun nf42 => ?_) (fun x42 kx42 nx42 hG_x42 nf42 => ?_) (fun x42 nx42 hG_x42 nf42 => ?_)
          · skip
            have s42 := hS9 d.toNatClampNeg (by have := m_cl (x := d) (by omega); omega)
            rw [nf42] at s42
            refine lv_astoreN (lv' := [(8, .null), (0, .ref o), (1, .int d), (2, .int i), (3, .int e0), (4, .int j), (5, .int m0)]) hx hb dX9_copy_43 hl (by decide) rfl (fun ls hl => ?_)
            refine lv_aloadN hx hb dX9_copy_45 (lv_at hl 0 rfl) ?_
            refine lv_instN hx hb dX9_copy_47 ?_
            refine lv_if_eq (tgt := 137) hx hb dX9_copy_50 (by decide) (fun c50 => ?_) (fun c50 => ?_)
            · skip
              have d50 := c50
              rw [fa_eq] at d50
              refine lv_bipush (v := (-12)) hx hb dX9_copy_137 (by decide) ?_
              exact W.iret (v := ((-12) : Int32)) hx hb hr (fun t ht hW => ⟨⟨_, (G, ws), rfl, ⟨hX, ⟨(Or.inr ⟨⟨b4, b11⟩, Or.inr ⟨nk9, Or.inl ⟨(by first | exact nomatch (show (none : Option Nat) = some _ from nf42.symm.trans nf21) | exact nomatch (show (none : Option Nat) = some _ from nf65.symm.trans nf30) | (intro z9; have y9 := shX_job s42 hG_x42; rw [y9] at z9; exact absurd z9.1 (by decide)) | (intro z9; have y9 := shX_job s65 hG_x65; have w9 := z9.1; rw [z9.2, y9] at w9; exact absurd w9 (by decide)) | (intro z9; rcases hk42 with ⟨p1, p2⟩ | ⟨p1, p2⟩ <;> rcases hk65 with ⟨o1, o2⟩ | ⟨o1, o2⟩ <;> first | exact c93 (p1.trans o1.symm) | (have w9 := z9.2; rw [p2, o2] at w9; exact absurd w9 (by decide)))), rfl⟩⟩⟩), Or.inr ⟨(fun z8 => absurd z8.2.2.1 (by first | exact nomatch (show (none : Option Nat) = some _ from nf42.symm.trans nf21) | exact nomatch (show (none : Option Nat) = some _ from nf65.symm.trans nf30) | (intro z9; have y9 := shX_job s42 hG_x42; rw [y9] at z9; exact absurd z9.1 (by decide)) | (intro z9; have y9 := shX_job s65 hG_x65; have w9 := z9.1; rw [z9.2, y9] at w9; exact absurd w9 (by decide)) | (intro z9; rcases hk42 with ⟨p1, p2⟩ | ⟨p1, p2⟩ <;> rcases hk65 with ⟨o1, o2⟩ | ⟨o1, o2⟩ <;> first | exact c93 (p1.trans o1.symm) | (have w9 := z9.2; rw [p2, o2] at w9; exact absurd w9 (by decide))))), rfl⟩⟩⟩, by show va_P D vwCl ws t.heap; rw [ht]; exact hP, hD, hT⟩, hS.F ht⟩) hS.2.2 dX9_copy_139
            · first | exact absurd c50 (by decide) | exact absurd (by decide) c50
          · skip
            have s42 := hS9 d.toNatClampNeg (by have := m_cl (x := d) (by omega); omega)
            rw [nf42] at s42
            refine lv_astore (lv' := [(8, .ref x42), (0, .ref o), (1, .int d), (2, .int i), (3, .int e0), (4, .int j), (5, .int m0)]) hx hb dX9_copy_43 hl (by decide) rfl (fun ls hl => ?_)
            refine lv_aload hx hb dX9_copy_45 (lv_at hl 0 rfl) ?_
            obtain ⟨_, hM_x42, b_x42, s_x42, w_x42, h_x42, t_x42, x_x42, y_x42, ms_x42, rfl, hG_b_x42, hG_s_x42, hJ_x42⟩ := hT _ _ hG_x42
            refine t_instRN hx hb hV hown (hts (.classLink RX9 245 RX7) (by decide +kernel)) hK hP hJ_x42.kc hM_x42 dX9_copy_47 ?_
            refine lv_if_eq (tgt := 137) hx hb dX9_copy_50 (by decide) (fun c50 => ?_) (fun c50 => ?_)
            · skip
              have d50 := c50
              rw [fa_eq] at d50
              refine lv_bipush (v := (-12)) hx hb dX9_copy_137 (by decide) ?_
              exact W.iret (v := ((-12) : Int32)) hx hb hr (fun t ht hW => ⟨⟨_, (G, ws), rfl, ⟨hX, ⟨(Or.inr ⟨⟨b4, b11⟩, Or.inr ⟨nk9, Or.inl ⟨(by first | exact nomatch (show (none : Option Nat) = some _ from nf42.symm.trans nf21) | exact nomatch (show (none : Option Nat) = some _ from nf65.symm.trans nf30) | (intro z9; have y9 := shX_job s42 hG_x42; rw [y9] at z9; exact absurd z9.1 (by decide)) | (intro z9; have y9 := shX_job s65 hG_x65; have w9 := z9.1; rw [z9.2, y9] at w9; exact absurd w9 (by decide)) | (intro z9; rcases hk42 with ⟨p1, p2⟩ | ⟨p1, p2⟩ <;> rcases hk65 with ⟨o1, o2⟩ | ⟨o1, o2⟩ <;> first | exact c93 (p1.trans o1.symm) | (have w9 := z9.2; rw [p2, o2] at w9; exact absurd w9 (by decide)))), rfl⟩⟩⟩), Or.inr ⟨(fun z8 => absurd z8.2.2.1 (by first | exact nomatch (show (none : Option Nat) = some _ from nf42.symm.trans nf21) | exact nomatch (show (none : Option Nat) = some _ from nf65.symm.trans nf30) | (intro z9; have y9 := shX_job s42 hG_x42; rw [y9] at z9; exact absurd z9.1 (by decide)) | (intro z9; have y9 := shX_job s65 hG_x65; have w9 := z9.1; rw [z9.2, y9] at w9; exact absurd w9 (by decide)) | (intro z9; rcases hk42 with ⟨p1, p2⟩ | ⟨p1, p2⟩ <;> rcases hk65 with ⟨o1, o2⟩ | ⟨o1, o2⟩ <;> first | exact c93 (p1.trans o1.symm) | (have w9 := z9.2; rw [p2, o2] at w9; exact absurd w9 (by decide))))), rfl⟩⟩⟩, by show va_P D vwCl ws t.heap; rw [ht]; exact hP, hD, hT⟩, hS.F ht⟩) hS.2.2 dX9_copy_139
            · first | exact absurd c50 (by decide) | exact absurd (by decide) c50
          · skip
            have s42 := hS9 d.toNatClampNeg (by have := m_cl (x := d) (by omega); omega)
            rw [nf42] at s42
            refine lv_astore (lv' := [(8, .ref x42), (0, .ref o), (1, .int d), (2, .int i), (3, .int e0), (4, .int j), (5, .int m0)]) hx hb dX9_copy_43 hl (by decide) rfl (fun ls hl => ?_)
            refine lv_aload hx hb dX9_copy_45 (lv_at hl 0 rfl) ?_
            obtain ⟨_, hM_x42, hn_x42, z_x42, a_x42, rfl, hz_x42, hG_a_x42⟩ := hT _ _ hG_x42
            refine va_instS hx hb hown (hts (.classLink RX9 245 RX7) (by decide +kernel)) (hK.1 6 _ rfl).2 (t_recJ hK hP hM_x42 rfl) dX9_copy_47 ?_
            refine lv_if_eq (tgt := 137) hx hb dX9_copy_50 (by decide) (fun c50 => ?_) (fun c50 => ?_)
            · first | exact absurd c50 (by decide) | exact absurd (by decide) c50
            · skip
              have d50 := c50
              rw [fa_eq] at d50
              obtain ⟨hx42, z42, f42, hG_ar42, hM_x42, hM_ar42, hn42, hm42, hk42, hf42, hb42⟩ := shX_row s42 hG_x42
              obtain ⟨ar42, har42⟩ : ∃ z, z = sa d.toNatClampNeg := ⟨_, rfl⟩
              rw [← har42] at hG_ar42 hM_x42 hM_ar42
              have hz42 : isBo z42 := hk42.elim (fun y9 => Or.inr y9.1) (fun y9 => Or.inl y9.1)
              refine lv_aload hx hb dX9_copy_53 (lv_at hl 0 rfl) ?_
              refine va_castS hx hb hown (hts (.classLink RX9 245 RX7) (by decide +kernel)) (hK.1 6 _ rfl).2 (t_recJ hK hP hM_x42 rfl) dX9_copy_55 ?_
              refine lv_astore (lv' := [(6, .ref x42), (8, .ref x42), (0, .ref o), (1, .int d), (2, .int i), (3, .int e0), (4, .int j), (5, .int m0)]) hx hb dX9_copy_58 hl (by decide) rfl (fun ls hl => ?_)
              refine lv_aload_n hx hb dX9_copy_60 rfl (lv_at hl 2 rfl) ?_
              refine t_get (v := .ref sh_o) (C := RX9) (T := TX9) (N := 9) hx hb hts (by decide +kernel) hown hK hP hM_o rfl 3 (by decide) (hts (.fieldLink RX9 27 "ShadowBench" "shelves" "[LShadowBench$Held;") (by decide +kernel)) (fun _ h9 => h9) rfl dX9_copy_61 ?_
              refine lv_iload_n hx hb dX9_copy_64 rfl (lv_at hl 5 rfl) ?_
              refine t_aald10f hx hb hK hP hM_sh_o hf_sh_o (vp_in_iff.mpr ⟨by omega, by omega⟩) dX9_copy_65 (fun nf65 => ?_) (fun x65 kx65 nx65 hG_x65 nf65 => ?_) (fun x65 nx65 hG_x65 nf65 => ?_)
              · skip
                have s65 := hS9 e0.toNatClampNeg (by have := m_cl (x := e0) (by omega); omega)
                rw [nf65] at s65
                refine lv_astoreN (lv' := [(8, .null), (6, .ref x42), (0, .ref o), (1, .int d), (2, .int i), (3, .int e0), (4, .int j), (5, .int m0)]) hx hb dX9_copy_66 hl (by decide) rfl (fun ls hl => ?_)
                refine lv_aloadN hx hb dX9_copy_68 (lv_at hl 0 rfl) ?_
                refine lv_instN hx hb dX9_copy_70 ?_
                refine lv_if_eq (tgt := 137) hx hb dX9_copy_73 (by decide) (fun c73 => ?_) (fun c73 => ?_)
                · skip
                  have d73 := c73
                  rw [fa_eq] at d73
                  refine lv_bipush (v := (-12)) hx hb dX9_copy_137 (by decide) ?_
                  exact W.iret (v := ((-12) : Int32)) hx hb hr (fun t ht hW => ⟨⟨_, (G, ws), rfl, ⟨hX, ⟨(Or.inr ⟨⟨b4, b11⟩, Or.inr ⟨nk9, Or.inl ⟨(by first | exact nomatch (show (none : Option Nat) = some _ from nf42.symm.trans nf21) | exact nomatch (show (none : Option Nat) = some _ from nf65.symm.trans nf30) | (intro z9; have y9 := shX_job s42 hG_x42; rw [y9] at z9; exact absurd z9.1 (by decide)) | (intro z9; have y9 := shX_job s65 hG_x65; have w9 := z9.1; rw [z9.2, y9] at w9; exact absurd w9 (by decide)) | (intro z9; rcases hk42 with ⟨p1, p2⟩ | ⟨p1, p2⟩ <;> rcases hk65 with ⟨o1, o2⟩ | ⟨o1, o2⟩ <;> first | exact c93 (p1.trans o1.symm) | (have w9 := z9.2; rw [p2, o2] at w9; exact absurd w9 (by decide)))), rfl⟩⟩⟩), Or.inr ⟨(fun z8 => absurd z8.2.2.1 (by first | exact nomatch (show (none : Option Nat) = some _ from nf42.symm.trans nf21) | exact nomatch (show (none : Option Nat) = some _ from nf65.symm.trans nf30) | (intro z9; have y9 := shX_job s42 hG_x42; rw [y9] at z9; exact absurd z9.1 (by decide)) | (intro z9; have y9 := shX_job s65 hG_x65; have w9 := z9.1; rw [z9.2, y9] at w9; exact absurd w9 (by decide)) | (intro z9; rcases hk42 with ⟨p1, p2⟩ | ⟨p1, p2⟩ <;> rcases hk65 with ⟨o1, o2⟩ | ⟨o1, o2⟩ <;> first | exact c93 (p1.trans o1.symm) | (have w9 := z9.2; rw [p2, o2] at w9; exact absurd w9 (by decide))))), rfl⟩⟩⟩, by show va_P D vwCl ws t.heap; rw [ht]; exact hP, hD, hT⟩, hS.F ht⟩) hS.2.2 dX9_copy_139
                · first | exact absurd c73 (by decide) | exact absurd (by decide) c73
              · skip
                have s65 := hS9 e0.toNatClampNeg (by have := m_cl (x := e0) (by omega); omega)
                rw [nf65] at s65
                refine lv_astore (lv' := [(8, .ref x65), (6, .ref x42), (0, .ref o), (1, .int d), (2, .int i), (3, .int e0), (4, .int j), (5, .int m0)]) hx hb dX9_copy_66 hl (by decide) rfl (fun ls hl => ?_)
                refine lv_aload hx hb dX9_copy_68 (lv_at hl 0 rfl) ?_
                obtain ⟨_, hM_x65, b_x65, s_x65, w_x65, h_x65, t_x65, x_x65, y_x65, ms_x65, rfl, hG_b_x65, hG_s_x65, hJ_x65⟩ := hT _ _ hG_x65
                refine t_instRN hx hb hV hown (hts (.classLink RX9 245 RX7) (by decide +kernel)) hK hP hJ_x65.kc hM_x65 dX9_copy_70 ?_
                refine lv_if_eq (tgt := 137) hx hb dX9_copy_73 (by decide) (fun c73 => ?_) (fun c73 => ?_)
                · skip
                  have d73 := c73
                  rw [fa_eq] at d73
                  refine lv_bipush (v := (-12)) hx hb dX9_copy_137 (by decide) ?_
                  exact W.iret (v := ((-12) : Int32)) hx hb hr (fun t ht hW => ⟨⟨_, (G, ws), rfl, ⟨hX, ⟨(Or.inr ⟨⟨b4, b11⟩, Or.inr ⟨nk9, Or.inl ⟨(by first | exact nomatch (show (none : Option Nat) = some _ from nf42.symm.trans nf21) | exact nomatch (show (none : Option Nat) = some _ from nf65.symm.trans nf30) | (intro z9; have y9 := shX_job s42 hG_x42; rw [y9] at z9; exact absurd z9.1 (by decide)) | (intro z9; have y9 := shX_job s65 hG_x65; have w9 := z9.1; rw [z9.2, y9] at w9; exact absurd w9 (by decide)) | (intro z9; rcases hk42 with ⟨p1, p2⟩ | ⟨p1, p2⟩ <;> rcases hk65 with ⟨o1, o2⟩ | ⟨o1, o2⟩ <;> first | exact c93 (p1.trans o1.symm) | (have w9 := z9.2; rw [p2, o2] at w9; exact absurd w9 (by decide)))), rfl⟩⟩⟩), Or.inr ⟨(fun z8 => absurd z8.2.2.1 (by first | exact nomatch (show (none : Option Nat) = some _ from nf42.symm.trans nf21) | exact nomatch (show (none : Option Nat) = some _ from nf65.symm.trans nf30) | (intro z9; have y9 := shX_job s42 hG_x42; rw [y9] at z9; exact absurd z9.1 (by decide)) | (intro z9; have y9 := shX_job s65 hG_x65; have w9 := z9.1; rw [z9.2, y9] at w9; exact absurd w9 (by decide)) | (intro z9; rcases hk42 with ⟨p1, p2⟩ | ⟨p1, p2⟩ <;> rcases hk65 with ⟨o1, o2⟩ | ⟨o1, o2⟩ <;> first | exact c93 (p1.trans o1.symm) | (have w9 := z9.2; rw [p2, o2] at w9; exact absurd w9 (by decide))))), rfl⟩⟩⟩, by show va_P D vwCl ws t.heap; rw [ht]; exact hP, hD, hT⟩, hS.F ht⟩) hS.2.2 dX9_copy_139
                · first | exact absurd c73 (by decide) | exact absurd (by decide) c73
              · skip
                have s65 := hS9 e0.toNatClampNeg (by have := m_cl (x := e0) (by omega); omega)
                rw [nf65] at s65
                refine lv_astore (lv' := [(8, .ref x65), (6, .ref x42), (0, .ref o), (1, .int d), (2, .int i), (3, .int e0), (4, .int j), (5, .int m0)]) hx hb dX9_copy_66 hl (by decide) rfl (fun ls hl => ?_)
                refine lv_aload hx hb dX9_copy_68 (lv_at hl 0 rfl) ?_
                obtain ⟨_, hM_x65, hn_x65, z_x65, a_x65, rfl, hz_x65, hG_a_x65⟩ := hT _ _ hG_x65
                refine va_instS hx hb hown (hts (.classLink RX9 245 RX7) (by decide +kernel)) (hK.1 6 _ rfl).2 (t_recJ hK hP hM_x65 rfl) dX9_copy_70 ?_
                refine lv_if_eq (tgt := 137) hx hb dX9_copy_73 (by decide) (fun c73 => ?_) (fun c73 => ?_)
                · first | exact absurd c73 (by decide) | exact absurd (by decide) c73
                · skip
                  have d73 := c73
                  rw [fa_eq] at d73
                  obtain ⟨hx65, z65, f65, hG_ar65, hM_x65, hM_ar65, hn65, hm65, hk65, hf65, hb65⟩ := shX_row s65 hG_x65
                  obtain ⟨ar65, har65⟩ : ∃ z, z = sa e0.toNatClampNeg := ⟨_, rfl⟩
                  rw [← har65] at hG_ar65 hM_x65 hM_ar65
                  have hz65 : isBo z65 := hk65.elim (fun y9 => Or.inr y9.1) (fun y9 => Or.inl y9.1)
                  refine lv_aload hx hb dX9_copy_76 (lv_at hl 0 rfl) ?_
                  refine va_castS hx hb hown (hts (.classLink RX9 245 RX7) (by decide +kernel)) (hK.1 6 _ rfl).2 (t_recJ hK hP hM_x65 rfl) dX9_copy_78 ?_
                  refine lv_astore (lv' := [(7, .ref x65), (8, .ref x65), (6, .ref x42), (0, .ref o), (1, .int d), (2, .int i), (3, .int e0), (4, .int j), (5, .int m0)]) hx hb dX9_copy_81 hl (by decide) rfl (fun ls hl => ?_)
                  refine lv_aload hx hb dX9_copy_83 (lv_at hl 2 rfl) ?_
                  refine t_get (v := .int z42) (C := RX7) (T := TX7) (N := 2) hx hb hts (by decide +kernel) hown hK hP hM_x42 rfl 0 (by decide) (hts (.fieldLink RX9 264 "ShadowBench$Row" "ofBytes" "Z") (by decide +kernel)) (fun _ h9 => h9) rfl dX9_copy_85 ?_
                  refine lv_aload hx hb dX9_copy_88 (lv_at hl 0 rfl) ?_
                  refine t_get (v := .int z65) (C := RX7) (T := TX7) (N := 2) hx hb hts (by decide +kernel) hown hK hP hM_x65 rfl 0 (by decide) (hts (.fieldLink RX9 264 "ShadowBench$Row" "ofBytes" "Z") (by decide +kernel)) (fun _ h9 => h9) rfl dX9_copy_90 ?_
                  refine lv_icmp_ne (tgt := 137) hx hb dX9_copy_93 (by decide) (fun c93 => ?_) (fun c93 => ?_)
                  · skip
                    have d93 := c93
                    rw [fa_eq] at d93
                    refine lv_bipush (v := (-12)) hx hb dX9_copy_137 (by decide) ?_
                    exact W.iret (v := ((-12) : Int32)) hx hb hr (fun t ht hW => ⟨⟨_, (G, ws), rfl, ⟨hX, ⟨(Or.inr ⟨⟨b4, b11⟩, Or.inr ⟨nk9, Or.inl ⟨(by first | exact nomatch (show (none : Option Nat) = some _ from nf42.symm.trans nf21) | exact nomatch (show (none : Option Nat) = some _ from nf65.symm.trans nf30) | (intro z9; have y9 := shX_job s42 hG_x42; rw [y9] at z9; exact absurd z9.1 (by decide)) | (intro z9; have y9 := shX_job s65 hG_x65; have w9 := z9.1; rw [z9.2, y9] at w9; exact absurd w9 (by decide)) | (intro z9; rcases hk42 with ⟨p1, p2⟩ | ⟨p1, p2⟩ <;> rcases hk65 with ⟨o1, o2⟩ | ⟨o1, o2⟩ <;> first | exact c93 (p1.trans o1.symm) | (have w9 := z9.2; rw [p2, o2] at w9; exact absurd w9 (by decide)))), rfl⟩⟩⟩), Or.inr ⟨(fun z8 => absurd z8.2.2.1 (by first | exact nomatch (show (none : Option Nat) = some _ from nf42.symm.trans nf21) | exact nomatch (show (none : Option Nat) = some _ from nf65.symm.trans nf30) | (intro z9; have y9 := shX_job s42 hG_x42; rw [y9] at z9; exact absurd z9.1 (by decide)) | (intro z9; have y9 := shX_job s65 hG_x65; have w9 := z9.1; rw [z9.2, y9] at w9; exact absurd w9 (by decide)) | (intro z9; rcases hk42 with ⟨p1, p2⟩ | ⟨p1, p2⟩ <;> rcases hk65 with ⟨o1, o2⟩ | ⟨o1, o2⟩ <;> first | exact c93 (p1.trans o1.symm) | (have w9 := z9.2; rw [p2, o2] at w9; exact absurd w9 (by decide))))), rfl⟩⟩⟩, by show va_P D vwCl ws t.heap; rw [ht]; exact hP, hD, hT⟩, hS.F ht⟩) hS.2.2 dX9_copy_139
                  · skip
                    have d93 := c93
                    rw [fa_eq] at d93
                    have ke9 : 3 ≤ (kS9 d.toNatClampNeg).toInt ∧ kS9 d.toNatClampNeg = kS9 e0.toNatClampNeg := by rcases hk42 with ⟨p1, p2⟩ | ⟨p1, p2⟩ <;> rcases hk65 with ⟨o1, o2⟩ | ⟨o1, o2⟩ <;> first | exact ⟨by rw [p2]; decide, p2.trans o2.symm⟩ | (have w9 := p1.symm.trans (c93.trans o1); exact absurd w9 (by decide))
                    refine lv_aload hx hb dX9_copy_96 (lv_at hl 2 rfl) ?_
                    refine lv_iload_n hx hb dX9_copy_98 rfl (lv_at hl 5 rfl) ?_
                    refine lv_iload hx hb dX9_copy_99 (lv_at hl 8 rfl) ?_
                    refine t_calli (va_runV (g := F0 m 101 ls ([.int m0, .int i, .ref x42])) (As := [.int i, .int m0]) (rest := []) ⟨hx, hb, hml, hown, hts⟩ (c_X7_has l D cy A G ws x42 i m0 hD hT hG_x42 ) (cwV 2 hts gX9_copy_X7_has rfl rfl rfl (by decide +kernel) ⟨Nat.le_of_ble_eq_true rfl, Nat.le_of_ble_eq_true rfl⟩) (c_preV hM_x42 rfl hP hK hA hS hV) rfl rfl hl.1 rfl (lv_room (Nat.le_of_ble_eq_true rfl)) dX9_copy_101 ⟨Nat.le_of_ble_eq_true rfl, Nat.le_of_ble_eq_true rfl⟩) hS (fun r101 u H locs q101 hP9 hD9 hT9 hS => ?_)
                    obtain ⟨rfl, q101⟩ := q101
                    have hP : va_P D vwCl ws H := hP9
                    refine lv_if_eq (tgt := 119) hx hb dX9_copy_104 (by decide) (fun c104 => ?_) (fun c104 => ?_)
                    · skip
                      have b104 := bo_f q101 c104
                      refine lv_bipush (v := (-13)) hx hb dX9_copy_119 (by decide) ?_
                      exact W.iret (v := ((-13) : Int32)) hx hb hr (fun t ht hW => ⟨⟨_, (G, ws), rfl, ⟨hX, ⟨(Or.inr ⟨⟨b4, b11⟩, Or.inr ⟨nk9, Or.inr ⟨ke9, Or.inl ⟨(fun z9 => by unfold hasP at z9; omega), rfl⟩⟩⟩⟩), Or.inr ⟨(fun z8 => absurd z8.2.2.2 (fun z9 => by unfold hasP at z9; omega)), rfl⟩⟩⟩, by show va_P D vwCl ws t.heap; rw [ht]; exact hP, hD, hT⟩, hS.F ht⟩) hS.2.2 dX9_copy_121
                    · skip
                      have b104 := bo_t q101 c104
                      refine lv_aload hx hb dX9_copy_107 (lv_at hl 0 rfl) ?_
                      refine lv_iload hx hb dX9_copy_109 (lv_at hl 7 rfl) ?_
                      refine lv_iload hx hb dX9_copy_111 (lv_at hl 8 rfl) ?_
                      refine t_calli (va_runV (g := F0 m 113 ls ([.int m0, .int j, .ref x65])) (As := [.int j, .int m0]) (rest := []) ⟨hx, hb, hml, hown, hts⟩ (c_X7_has l D cy A G ws x65 j m0 hD hT hG_x65 ) (cwV 2 hts gX9_copy_X7_has rfl rfl rfl (by decide +kernel) ⟨Nat.le_of_ble_eq_true rfl, Nat.le_of_ble_eq_true rfl⟩) (c_preV hM_x65 rfl hP hK hA hS hV) rfl rfl hl.1 rfl (lv_room (Nat.le_of_ble_eq_true rfl)) dX9_copy_113 ⟨Nat.le_of_ble_eq_true rfl, Nat.le_of_ble_eq_true rfl⟩) hS (fun r113 u H locs q113 hP9 hD9 hT9 hS => ?_)
                      obtain ⟨rfl, q113⟩ := q113
                      have hP : va_P D vwCl ws H := hP9
                      refine lv_if_ne (tgt := 122) hx hb dX9_copy_116 (by decide) (fun c116 => ?_) (fun c116 => ?_)
                      · skip
                        have b116 := bo_t q113 c116
                        have hM0_ar42 := hM_ar42
                        have hM0_ar65 := hM_ar65
                        refine lv_aload hx hb dX9_copy_122 (lv_at hl 0 rfl) ?_
                        refine lv_aload hx hb dX9_copy_124 (lv_at hl 2 rfl) ?_
                        refine lv_iload_n hx hb dX9_copy_126 rfl (lv_at hl 5 rfl) ?_
                        refine lv_iload hx hb dX9_copy_127 (lv_at hl 7 rfl) ?_
                        refine lv_iload hx hb dX9_copy_129 (lv_at hl 8 rfl) ?_
                        refine t_callv (va_runV (g := F0 m 131 ls ([.int m0, .int j, .int i, .ref x42, .ref x65])) (As := [.ref x42, .int i, .int j, .int m0]) (rest := []) ⟨hx, hb, hml, hown, hts⟩ (c_X7_takeFrom_x l D cy A G ws x65 x42 i j m0 hD hT hG_x65 hM_x65 hG_x42 hM_x42 hM_ar65 hM_ar42 b104 b116) (cwV 4 hts gX9_copy_X7_takeFrom rfl rfl rfl (by decide +kernel) ⟨Nat.le_of_ble_eq_true rfl, Nat.le_of_ble_eq_true rfl⟩) (c_preV hM_x65 rfl hP hK hA hS hV) rfl rfl hl.1 rfl (lv_room (Nat.le_of_ble_eq_true rfl)) dX9_copy_131 ⟨Nat.le_of_ble_eq_true rfl, Nat.le_of_ble_eq_true rfl⟩) hS (fun u H locs q131 hP9 hD9 hT9 hS => ?_)
                        obtain ⟨w131, rfl, hF131, q131⟩ := q131
                        have hP : va_P D vwCl w131 H := hP9
                        have hD : va_D A w131 := hD9
                        have hT : cT cy G w131 := hT9
                        have hM_o := hF131 _ _ (cne hG_o hG_ar65 (show (7 : Nat) ≠ 16 by decide)) hM_o
                        have hM_sh_o := hF131 _ _ (cne hG_sh_o hG_ar65 (show (10 : Nat) ≠ 16 by decide)) hM_sh_o
                        have hM_x42 := hF131 _ _ (cne hG_x42 hG_ar65 (show (4 : Nat) ≠ 16 by decide)) hM_x42
                        have hM_x65 := hF131 _ _ (cne hG_x65 hG_ar65 (show (4 : Nat) ≠ 16 by decide)) hM_x65
                        have hX := hX.tr ⟨cE.rf, hF131.wk (fun b9 z9 => by subst z9; exact (Or.inr ⟨_, hG_ar65, rfl⟩)), fun _ _ h9 => Or.inl h9⟩
                        have hM_ar65 : cIn w131 ar65 (.inl (cy 1, nx65, .inr (.inl (va_cpy f42 f65 i.toNatClampNeg j.toNatClampNeg m0.toNatClampNeg)))) := q131
                        refine lv_iload hx hb dX9_copy_134 (lv_at hl 8 rfl) ?_
                        exact W.iret (v := m0) hx hb hr (fun t ht hW => ⟨⟨_, (G, w131), rfl, ⟨hX, ⟨(Or.inr ⟨⟨b4, b11⟩, Or.inr ⟨nk9, Or.inr ⟨ke9, Or.inr ⟨(by unfold hasP; omega), rfl⟩⟩⟩⟩), Or.inl ⟨⟨⟨b4, b11⟩, nk9, ke9, (by unfold hasP; omega)⟩, rfl, (by rw [← har65]; exact hF131), _, _, _, _, (by rw [← har42]; exact hM0_ar42), (by rw [← har65]; exact hM0_ar65), (by rw [← har65]; exact hM_ar65)⟩⟩⟩, by show va_P D vwCl w131 t.heap; rw [ht]; exact hP, hD, hT⟩, hS.F ht⟩) hS.2.2 dX9_copy_136
                      · skip
                        have b116 := bo_f q113 c116
                        refine lv_bipush (v := (-13)) hx hb dX9_copy_119 (by decide) ?_
                        exact W.iret (v := ((-13) : Int32)) hx hb hr (fun t ht hW => ⟨⟨_, (G, ws), rfl, ⟨hX, ⟨(Or.inr ⟨⟨b4, b11⟩, Or.inr ⟨nk9, Or.inr ⟨ke9, Or.inl ⟨(fun z9 => by unfold hasP at z9; omega), rfl⟩⟩⟩⟩), Or.inr ⟨(fun z8 => absurd z8.2.2.2 (fun z9 => by unfold hasP at z9; omega)), rfl⟩⟩⟩, by show va_P D vwCl ws t.heap; rw [ht]; exact hP, hD, hT⟩, hS.F ht⟩) hS.2.2 dX9_copy_121
      · skip
        have s21 := hS9 d.toNatClampNeg (by have := m_cl (x := d) (by omega); omega)
        rw [nf21] at s21
        refine lv_ifnull hx hb dX9_copy_22 ?_
        refine lv_aload_n hx hb dX9_copy_25 rfl (lv_at hl 0 rfl) ?_
        refine t_get (v := .ref sh_o) (C := RX9) (T := TX9) (N := 9) hx hb hts (by decide +kernel) hown hK hP hM_o rfl 3 (by decide) (hts (.fieldLink RX9 27 "ShadowBench" "shelves" "[LShadowBench$Held;") (by decide +kernel)) (fun _ h9 => h9) rfl dX9_copy_26 ?_
        refine lv_iload_n hx hb dX9_copy_29 rfl (lv_at hl 3 rfl) ?_
        refine t_aald10f hx hb hK hP hM_sh_o hf_sh_o (vp_in_iff.mpr ⟨by omega, by omega⟩) dX9_copy_30 (fun nf30 => ?_) (fun x30 kx30 nx30 hG_x30 nf30 => ?_) (fun x30 nx30 hG_x30 nf30 => ?_)
        · skip
          have s30 := hS9 e0.toNatClampNeg (by have := m_cl (x := e0) (by omega); omega)
          rw [nf30] at s30
          refine lv_ifnonnullN hx hb dX9_copy_31 ?_
          refine lv_bipush (v := (-11)) hx hb dX9_copy_34 (by decide) ?_
          exact W.iret (v := ((-11) : Int32)) hx hb hr (fun t ht hW => ⟨⟨_, (G, ws), rfl, ⟨hX, ⟨(Or.inr ⟨⟨b4, b11⟩, Or.inl ⟨(by first | exact Or.inl (shX_n s21) | exact Or.inr (shX_n s30)), rfl⟩⟩), Or.inr ⟨(fun z8 => z8.2.1 (by first | exact Or.inl (shX_n s21) | exact Or.inr (shX_n s30))), rfl⟩⟩⟩, by show va_P D vwCl ws t.heap; rw [ht]; exact hP, hD, hT⟩, hS.F ht⟩) hS.2.2 dX9_copy_36
        · skip
          have s30 := hS9 e0.toNatClampNeg (by have := m_cl (x := e0) (by omega); omega)
          rw [nf30] at s30
          refine lv_ifnonnull (tgt := 37) hx hb dX9_copy_31 (by decide) ?_
          have nk9 : ¬ (kS9 d.toNatClampNeg = 0 ∨ kS9 e0.toNatClampNeg = 0) := by rintro (z9 | z9); exact shX_nz s21 z9; exact shX_nz s30 z9
          refine lv_aload_n hx hb dX9_copy_37 rfl (lv_at hl 0 rfl) ?_
          refine t_get (v := .ref sh_o) (C := RX9) (T := TX9) (N := 9) hx hb hts (by decide +kernel) hown hK hP hM_o rfl 3 (by decide) (hts (.fieldLink RX9 27 "ShadowBench" "shelves" "[LShadowBench$Held;") (by decide +kernel)) (fun _ h9 => h9) rfl dX9_copy_38 ?_
          refine lv_iload_n hx hb dX9_copy_41 rfl (lv_at hl 1 rfl) ?_
          refine t_aald10f hx hb hK hP hM_sh_o hf_sh_o (vp_in_iff.mpr ⟨by omega, by omega⟩) dX9_copy_42 (fun nf42 => ?_) (fun x42 kx42 nx42 hG_x42 nf42 => ?_) (fun x42 nx42 hG_x42 nf42 => ?_)
          · skip
            have s42 := hS9 d.toNatClampNeg (by have := m_cl (x := d) (by omega); omega)
            rw [nf42] at s42
            refine lv_astoreN (lv' := [(8, .null), (0, .ref o), (1, .int d), (2, .int i), (3, .int e0), (4, .int j), (5, .int m0)]) hx hb dX9_copy_43 hl (by decide) rfl (fun ls hl => ?_)
            refine lv_aloadN hx hb dX9_copy_45 (lv_at hl 0 rfl) ?_
            refine lv_instN hx hb dX9_copy_47 ?_
            refine lv_if_eq (tgt := 137) hx hb dX9_copy_50 (by decide) (fun c50 => ?_) (fun c50 => ?_)
            · skip
              have d50 := c50
              rw [fa_eq] at d50
              refine lv_bipush (v := (-12)) hx hb dX9_copy_137 (by decide) ?_
              exact W.iret (v := ((-12) : Int32)) hx hb hr (fun t ht hW => ⟨⟨_, (G, ws), rfl, ⟨hX, ⟨(Or.inr ⟨⟨b4, b11⟩, Or.inr ⟨nk9, Or.inl ⟨(by first | exact nomatch (show (none : Option Nat) = some _ from nf42.symm.trans nf21) | exact nomatch (show (none : Option Nat) = some _ from nf65.symm.trans nf30) | (intro z9; have y9 := shX_job s42 hG_x42; rw [y9] at z9; exact absurd z9.1 (by decide)) | (intro z9; have y9 := shX_job s65 hG_x65; have w9 := z9.1; rw [z9.2, y9] at w9; exact absurd w9 (by decide)) | (intro z9; rcases hk42 with ⟨p1, p2⟩ | ⟨p1, p2⟩ <;> rcases hk65 with ⟨o1, o2⟩ | ⟨o1, o2⟩ <;> first | exact c93 (p1.trans o1.symm) | (have w9 := z9.2; rw [p2, o2] at w9; exact absurd w9 (by decide)))), rfl⟩⟩⟩), Or.inr ⟨(fun z8 => absurd z8.2.2.1 (by first | exact nomatch (show (none : Option Nat) = some _ from nf42.symm.trans nf21) | exact nomatch (show (none : Option Nat) = some _ from nf65.symm.trans nf30) | (intro z9; have y9 := shX_job s42 hG_x42; rw [y9] at z9; exact absurd z9.1 (by decide)) | (intro z9; have y9 := shX_job s65 hG_x65; have w9 := z9.1; rw [z9.2, y9] at w9; exact absurd w9 (by decide)) | (intro z9; rcases hk42 with ⟨p1, p2⟩ | ⟨p1, p2⟩ <;> rcases hk65 with ⟨o1, o2⟩ | ⟨o1, o2⟩ <;> first | exact c93 (p1.trans o1.symm) | (have w9 := z9.2; rw [p2, o2] at w9; exact absurd w9 (by decide))))), rfl⟩⟩⟩, by show va_P D vwCl ws t.heap; rw [ht]; exact hP, hD, hT⟩, hS.F ht⟩) hS.2.2 dX9_copy_139
            · first | exact absurd c50 (by decide) | exact absurd (by decide) c50
          · skip
            have s42 := hS9 d.toNatClampNeg (by have := m_cl (x := d) (by omega); omega)
            rw [nf42] at s42
            refine lv_astore (lv' := [(8, .ref x42), (0, .ref o), (1, .int d), (2, .int i), (3, .int e0), (4, .int j), (5, .int m0)]) hx hb dX9_copy_43 hl (by decide) rfl (fun ls hl => ?_)
            refine lv_aload hx hb dX9_copy_45 (lv_at hl 0 rfl) ?_
            obtain ⟨_, hM_x42, b_x42, s_x42, w_x42, h_x42, t_x42, x_x42, y_x42, ms_x42, rfl, hG_b_x42, hG_s_x42, hJ_x42⟩ := hT _ _ hG_x42
            refine t_instRN hx hb hV hown (hts (.classLink RX9 245 RX7) (by decide +kernel)) hK hP hJ_x42.kc hM_x42 dX9_copy_47 ?_
            refine lv_if_eq (tgt := 137) hx hb dX9_copy_50 (by decide) (fun c50 => ?_) (fun c50 => ?_)
            · skip
              have d50 := c50
              rw [fa_eq] at d50
              refine lv_bipush (v := (-12)) hx hb dX9_copy_137 (by decide) ?_
              exact W.iret (v := ((-12) : Int32)) hx hb hr (fun t ht hW => ⟨⟨_, (G, ws), rfl, ⟨hX, ⟨(Or.inr ⟨⟨b4, b11⟩, Or.inr ⟨nk9, Or.inl ⟨(by first | exact nomatch (show (none : Option Nat) = some _ from nf42.symm.trans nf21) | exact nomatch (show (none : Option Nat) = some _ from nf65.symm.trans nf30) | (intro z9; have y9 := shX_job s42 hG_x42; rw [y9] at z9; exact absurd z9.1 (by decide)) | (intro z9; have y9 := shX_job s65 hG_x65; have w9 := z9.1; rw [z9.2, y9] at w9; exact absurd w9 (by decide)) | (intro z9; rcases hk42 with ⟨p1, p2⟩ | ⟨p1, p2⟩ <;> rcases hk65 with ⟨o1, o2⟩ | ⟨o1, o2⟩ <;> first | exact c93 (p1.trans o1.symm) | (have w9 := z9.2; rw [p2, o2] at w9; exact absurd w9 (by decide)))), rfl⟩⟩⟩), Or.inr ⟨(fun z8 => absurd z8.2.2.1 (by first | exact nomatch (show (none : Option Nat) = some _ from nf42.symm.trans nf21) | exact nomatch (show (none : Option Nat) = some _ from nf65.symm.trans nf30) | (intro z9; have y9 := shX_job s42 hG_x42; rw [y9] at z9; exact absurd z9.1 (by decide)) | (intro z9; have y9 := shX_job s65 hG_x65; have w9 := z9.1; rw [z9.2, y9] at w9; exact absurd w9 (by decide)) | (intro z9; rcases hk42 with ⟨p1, p2⟩ | ⟨p1, p2⟩ <;> rcases hk65 with ⟨o1, o2⟩ | ⟨o1, o2⟩ <;> first | exact c93 (p1.trans o1.symm) | (have w9 := z9.2; rw [p2, o2] at w9; exact absurd w9 (by decide))))), rfl⟩⟩⟩, by show va_P D vwCl ws t.heap; rw [ht]; exact hP, hD, hT⟩, hS.F ht⟩) hS.2.2 dX9_copy_139
            · first | exact absurd c50 (by decide) | exact absurd (by decide) c50
          · skip
            have s42 := hS9 d.toNatClampNeg (by have := m_cl (x := d) (by omega); omega)
            rw [nf42] at s42
            refine lv_astore (lv' := [(8, .ref x42), (0, .ref o), (1, .int d), (2, .int i), (3, .int e0), (4, .int j), (5, .int m0)]) hx hb dX9_copy_43 hl (by decide) rfl (fun ls hl => ?_)
            refine lv_aload hx hb dX9_copy_45 (lv_at hl 0 rfl) ?_
            obtain ⟨_, hM_x42, hn_x42, z_x42, a_x42, rfl, hz_x42, hG_a_x42⟩ := hT _ _ hG_x42
            refine va_instS hx hb hown (hts (.classLink RX9 245 RX7) (by decide +kernel)) (hK.1 6 _ rfl).2 (t_recJ hK hP hM_x42 rfl) dX9_copy_47 ?_
            refine lv_if_eq (tgt := 137) hx hb dX9_copy_50 (by decide) (fun c50 => ?_) (fun c50 => ?_)
            · first | exact absurd c50 (by decide) | exact absurd (by decide) c50
            · skip
              have d50 := c50
              rw [fa_eq] at d50
              obtain ⟨hx42, z42, f42, hG_ar42, hM_x42, hM_ar42, hn42, hm42, hk42, hf42, hb42⟩ := shX_row s42 hG_x42
              obtain ⟨ar42, har42⟩ : ∃ z, z = sa d.toNatClampNeg := ⟨_, rfl⟩
              rw [← har42] at hG_ar42 hM_x42 hM_ar42
              have hz42 : isBo z42 := hk42.elim (fun y9 => Or.inr y9.1) (fun y9 => Or.inl y9.1)
              refine lv_aload hx hb dX9_copy_53 (lv_at hl 0 rfl) ?_
              refine va_castS hx hb hown (hts (.classLink RX9 245 RX7) (by decide +kernel)) (hK.1 6 _ rfl).2 (t_recJ hK hP hM_x42 rfl) dX9_copy_55 ?_
              refine lv_astore (lv' := [(6, .ref x42), (8, .ref x42), (0, .ref o), (1, .int d), (2, .int i), (3, .int e0), (4, .int j), (5, .int m0)]) hx hb dX9_copy_58 hl (by decide) rfl (fun ls hl => ?_)
              refine lv_aload_n hx hb dX9_copy_60 rfl (lv_at hl 2 rfl) ?_
              refine t_get (v := .ref sh_o) (C := RX9) (T := TX9) (N := 9) hx hb hts (by decide +kernel) hown hK hP hM_o rfl 3 (by decide) (hts (.fieldLink RX9 27 "ShadowBench" "shelves" "[LShadowBench$Held;") (by decide +kernel)) (fun _ h9 => h9) rfl dX9_copy_61 ?_
              refine lv_iload_n hx hb dX9_copy_64 rfl (lv_at hl 5 rfl) ?_
              refine t_aald10f hx hb hK hP hM_sh_o hf_sh_o (vp_in_iff.mpr ⟨by omega, by omega⟩) dX9_copy_65 (fun nf65 => ?_) (fun x65 kx65 nx65 hG_x65 nf65 => ?_) (fun x65 nx65 hG_x65 nf65 => ?_)
              · skip
                have s65 := hS9 e0.toNatClampNeg (by have := m_cl (x := e0) (by omega); omega)
                rw [nf65] at s65
                refine lv_astoreN (lv' := [(8, .null), (6, .ref x42), (0, .ref o), (1, .int d), (2, .int i), (3, .int e0), (4, .int j), (5, .int m0)]) hx hb dX9_copy_66 hl (by decide) rfl (fun ls hl => ?_)
                refine lv_aloadN hx hb dX9_copy_68 (lv_at hl 0 rfl) ?_
                refine lv_instN hx hb dX9_copy_70 ?_
                refine lv_if_eq (tgt := 137) hx hb dX9_copy_73 (by decide) (fun c73 => ?_) (fun c73 => ?_)
                · skip
                  have d73 := c73
                  rw [fa_eq] at d73
                  refine lv_bipush (v := (-12)) hx hb dX9_copy_137 (by decide) ?_
                  exact W.iret (v := ((-12) : Int32)) hx hb hr (fun t ht hW => ⟨⟨_, (G, ws), rfl, ⟨hX, ⟨(Or.inr ⟨⟨b4, b11⟩, Or.inr ⟨nk9, Or.inl ⟨(by first | exact nomatch (show (none : Option Nat) = some _ from nf42.symm.trans nf21) | exact nomatch (show (none : Option Nat) = some _ from nf65.symm.trans nf30) | (intro z9; have y9 := shX_job s42 hG_x42; rw [y9] at z9; exact absurd z9.1 (by decide)) | (intro z9; have y9 := shX_job s65 hG_x65; have w9 := z9.1; rw [z9.2, y9] at w9; exact absurd w9 (by decide)) | (intro z9; rcases hk42 with ⟨p1, p2⟩ | ⟨p1, p2⟩ <;> rcases hk65 with ⟨o1, o2⟩ | ⟨o1, o2⟩ <;> first | exact c93 (p1.trans o1.symm) | (have w9 := z9.2; rw [p2, o2] at w9; exact absurd w9 (by decide)))), rfl⟩⟩⟩), Or.inr ⟨(fun z8 => absurd z8.2.2.1 (by first | exact nomatch (show (none : Option Nat) = some _ from nf42.symm.trans nf21) | exact nomatch (show (none : Option Nat) = some _ from nf65.symm.trans nf30) | (intro z9; have y9 := shX_job s42 hG_x42; rw [y9] at z9; exact absurd z9.1 (by decide)) | (intro z9; have y9 := shX_job s65 hG_x65; have w9 := z9.1; rw [z9.2, y9] at w9; exact absurd w9 (by decide)) | (intro z9; rcases hk42 with ⟨p1, p2⟩ | ⟨p1, p2⟩ <;> rcases hk65 with ⟨o1, o2⟩ | ⟨o1, o2⟩ <;> first | exact c93 (p1.trans o1.symm) | (have w9 := z9.2; rw [p2, o2] at w9; exact absurd w9 (by decide))))), rfl⟩⟩⟩, by show va_P D vwCl ws t.heap; rw [ht]; exact hP, hD, hT⟩, hS.F ht⟩) hS.2.2 dX9_copy_139
                · first | exact absurd c73 (by decide) | exact absurd (by decide) c73
              · skip
                have s65 := hS9 e0.toNatClampNeg (by have := m_cl (x := e0) (by omega); omega)
                rw [nf65] at s65
                refine lv_astore (lv' := [(8, .ref x65), (6, .ref x42), (0, .ref o), (1, .int d), (2, .int i), (3, .int e0), (4, .int j), (5, .int m0)]) hx hb dX9_copy_66 hl (by decide) rfl (fun ls hl => ?_)
                refine lv_aload hx hb dX9_copy_68 (lv_at hl 0 rfl) ?_
                obtain ⟨_, hM_x65, b_x65, s_x65, w_x65, h_x65, t_x65, x_x65, y_x65, ms_x65, rfl, hG_b_x65, hG_s_x65, hJ_x65⟩ := hT _ _ hG_x65
                refine t_instRN hx hb hV hown (hts (.classLink RX9 245 RX7) (by decide +kernel)) hK hP hJ_x65.kc hM_x65 dX9_copy_70 ?_
                refine lv_if_eq (tgt := 137) hx hb dX9_copy_73 (by decide) (fun c73 => ?_) (fun c73 => ?_)
                · skip
                  have d73 := c73
                  rw [fa_eq] at d73
                  refine lv_bipush (v := (-12)) hx hb dX9_copy_137 (by decide) ?_
                  exact W.iret (v := ((-12) : Int32)) hx hb hr (fun t ht hW => ⟨⟨_, (G, ws), rfl, ⟨hX, ⟨(Or.inr ⟨⟨b4, b11⟩, Or.inr ⟨nk9, Or.inl ⟨(by first | exact nomatch (show (none : Option Nat) = some _ from nf42.symm.trans nf21) | exact nomatch (show (none : Option Nat) = some _ from nf65.symm.trans nf30) | (intro z9; have y9 := shX_job s42 hG_x42; rw [y9] at z9; exact absurd z9.1 (by decide)) | (intro z9; have y9 := shX_job s65 hG_x65; have w9 := z9.1; rw [z9.2, y9] at w9; exact absurd w9 (by decide)) | (intro z9; rcases hk42 with ⟨p1, p2⟩ | ⟨p1, p2⟩ <;> rcases hk65 with ⟨o1, o2⟩ | ⟨o1, o2⟩ <;> first | exact c93 (p1.trans o1.symm) | (have w9 := z9.2; rw [p2, o2] at w9; exact absurd w9 (by decide)))), rfl⟩⟩⟩), Or.inr ⟨(fun z8 => absurd z8.2.2.1 (by first | exact nomatch (show (none : Option Nat) = some _ from nf42.symm.trans nf21) | exact nomatch (show (none : Option Nat) = some _ from nf65.symm.trans nf30) | (intro z9; have y9 := shX_job s42 hG_x42; rw [y9] at z9; exact absurd z9.1 (by decide)) | (intro z9; have y9 := shX_job s65 hG_x65; have w9 := z9.1; rw [z9.2, y9] at w9; exact absurd w9 (by decide)) | (intro z9; rcases hk42 with ⟨p1, p2⟩ | ⟨p1, p2⟩ <;> rcases hk65 with ⟨o1, o2⟩ | ⟨o1, o2⟩ <;> first | exact c93 (p1.trans o1.symm) | (have w9 := z9.2; rw [p2, o2] at w9; exact absurd w9 (by decide))))), rfl⟩⟩⟩, by show va_P D vwCl ws t.heap; rw [ht]; exact hP, hD, hT⟩, hS.F ht⟩) hS.2.2 dX9_copy_139
                · first | exact absurd c73 (by decide) | exact absurd (by decide) c73
              · skip
                have s65 := hS9 e0.toNatClampNeg (by have := m_cl (x := e0) (by omega); omega)
                rw [nf65] at s65
                refine lv_astore (lv' := [(8, .ref x65), (6, .ref x42), (0, .ref o), (1, .int d), (2, .int i), (3, .int e0), (4, .int j), (5, .int m0)]) hx hb dX9_copy_66 hl (by decide) rfl (fun ls hl => ?_)
                refine lv_aload hx hb dX9_copy_68 (lv_at hl 0 rfl) ?_
                obtain ⟨_, hM_x65, hn_x65, z_x65, a_x65, rfl, hz_x65, hG_a_x65⟩ := hT _ _ hG_x65
                refine va_instS hx hb hown (hts (.classLink RX9 245 RX7) (by decide +kernel)) (hK.1 6 _ rfl).2 (t_recJ hK hP hM_x65 rfl) dX9_copy_70 ?_
                refine lv_if_eq (tgt := 137) hx hb dX9_copy_73 (by decide) (fun c73 => ?_) (fun c73 => ?_)
                · first | exact absurd c73 (by decide) | exact absurd (by decide) c73
                · skip
                  have d73 := c73
                  rw [fa_eq] at d73
                  obtain ⟨hx65, z65, f65, hG_ar65, hM_x65, hM_ar65, hn65, hm65, hk65, hf65, hb65⟩ := shX_row s65 hG_x65
                  obtain ⟨ar65, har65⟩ : ∃ z, z = sa e0.toNatClampNeg := ⟨_, rfl⟩
                  rw [← har65] at hG_ar65 hM_x65 hM_ar65
                  have hz65 : isBo z65 := hk65.elim (fun y9 => Or.inr y9.1) (fun y9 => Or.inl y9.1)
                  refine lv_aload hx hb dX9_copy_76 (lv_at hl 0 rfl) ?_
                  refine va_castS hx hb hown (hts (.classLink RX9 245 RX7) (by decide +kernel)) (hK.1 6 _ rfl).2 (t_recJ hK hP hM_x65 rfl) dX9_copy_78 ?_
                  refine lv_astore (lv' := [(7, .ref x65), (8, .ref x65), (6, .ref x42), (0, .ref o), (1, .int d), (2, .int i), (3, .int e0), (4, .int j), (5, .int m0)]) hx hb dX9_copy_81 hl (by decide) rfl (fun ls hl => ?_)
                  refine lv_aload hx hb dX9_copy_83 (lv_at hl 2 rfl) ?_
                  refine t_get (v := .int z42) (C := RX7) (T := TX7) (N := 2) hx hb hts (by decide +kernel) hown hK hP hM_x42 rfl 0 (by decide) (hts (.fieldLink RX9 264 "ShadowBench$Row" "ofBytes" "Z") (by decide +kernel)) (fun _ h9 => h9) rfl dX9_copy_85 ?_
                  refine lv_aload hx hb dX9_copy_88 (lv_at hl 0 rfl) ?_
                  refine t_get (v := .int z65) (C := RX7) (T := TX7) (N := 2) hx hb hts (by decide +kernel) hown hK hP hM_x65 rfl 0 (by decide) (hts (.fieldLink RX9 264 "ShadowBench$Row" "ofBytes" "Z") (by decide +kernel)) (fun _ h9 => h9) rfl dX9_copy_90 ?_
                  refine lv_icmp_ne (tgt := 137) hx hb dX9_copy_93 (by decide) (fun c93 => ?_) (fun c93 => ?_)
                  · skip
                    have d93 := c93
                    rw [fa_eq] at d93
                    refine lv_bipush (v := (-12)) hx hb dX9_copy_137 (by decide) ?_
                    exact W.iret (v := ((-12) : Int32)) hx hb hr (fun t ht hW => ⟨⟨_, (G, ws), rfl, ⟨hX, ⟨(Or.inr ⟨⟨b4, b11⟩, Or.inr ⟨nk9, Or.inl ⟨(by first | exact nomatch (show (none : Option Nat) = some _ from nf42.symm.trans nf21) | exact nomatch (show (none : Option Nat) = some _ from nf65.symm.trans nf30) | (intro z9; have y9 := shX_job s42 hG_x42; rw [y9] at z9; exact absurd z9.1 (by decide)) | (intro z9; have y9 := shX_job s65 hG_x65; have w9 := z9.1; rw [z9.2, y9] at w9; exact absurd w9 (by decide)) | (intro z9; rcases hk42 with ⟨p1, p2⟩ | ⟨p1, p2⟩ <;> rcases hk65 with ⟨o1, o2⟩ | ⟨o1, o2⟩ <;> first | exact c93 (p1.trans o1.symm) | (have w9 := z9.2; rw [p2, o2] at w9; exact absurd w9 (by decide)))), rfl⟩⟩⟩), Or.inr ⟨(fun z8 => absurd z8.2.2.1 (by first | exact nomatch (show (none : Option Nat) = some _ from nf42.symm.trans nf21) | exact nomatch (show (none : Option Nat) = some _ from nf65.symm.trans nf30) | (intro z9; have y9 := shX_job s42 hG_x42; rw [y9] at z9; exact absurd z9.1 (by decide)) | (intro z9; have y9 := shX_job s65 hG_x65; have w9 := z9.1; rw [z9.2, y9] at w9; exact absurd w9 (by decide)) | (intro z9; rcases hk42 with ⟨p1, p2⟩ | ⟨p1, p2⟩ <;> rcases hk65 with ⟨o1, o2⟩ | ⟨o1, o2⟩ <;> first | exact c93 (p1.trans o1.symm) | (have w9 := z9.2; rw [p2, o2] at w9; exact absurd w9 (by decide))))), rfl⟩⟩⟩, by show va_P D vwCl ws t.heap; rw [ht]; exact hP, hD, hT⟩, hS.F ht⟩) hS.2.2 dX9_copy_139
                  · skip
                    have d93 := c93
                    rw [fa_eq] at d93
                    have ke9 : 3 ≤ (kS9 d.toNatClampNeg).toInt ∧ kS9 d.toNatClampNeg = kS9 e0.toNatClampNeg := by rcases hk42 with ⟨p1, p2⟩ | ⟨p1, p2⟩ <;> rcases hk65 with ⟨o1, o2⟩ | ⟨o1, o2⟩ <;> first | exact ⟨by rw [p2]; decide, p2.trans o2.symm⟩ | (have w9 := p1.symm.trans (c93.trans o1); exact absurd w9 (by decide))
                    refine lv_aload hx hb dX9_copy_96 (lv_at hl 2 rfl) ?_
                    refine lv_iload_n hx hb dX9_copy_98 rfl (lv_at hl 5 rfl) ?_
                    refine lv_iload hx hb dX9_copy_99 (lv_at hl 8 rfl) ?_
                    refine t_calli (va_runV (g := F0 m 101 ls ([.int m0, .int i, .ref x42])) (As := [.int i, .int m0]) (rest := []) ⟨hx, hb, hml, hown, hts⟩ (c_X7_has l D cy A G ws x42 i m0 hD hT hG_x42 ) (cwV 2 hts gX9_copy_X7_has rfl rfl rfl (by decide +kernel) ⟨Nat.le_of_ble_eq_true rfl, Nat.le_of_ble_eq_true rfl⟩) (c_preV hM_x42 rfl hP hK hA hS hV) rfl rfl hl.1 rfl (lv_room (Nat.le_of_ble_eq_true rfl)) dX9_copy_101 ⟨Nat.le_of_ble_eq_true rfl, Nat.le_of_ble_eq_true rfl⟩) hS (fun r101 u H locs q101 hP9 hD9 hT9 hS => ?_)
                    obtain ⟨rfl, q101⟩ := q101
                    have hP : va_P D vwCl ws H := hP9
                    refine lv_if_eq (tgt := 119) hx hb dX9_copy_104 (by decide) (fun c104 => ?_) (fun c104 => ?_)
                    · skip
                      have b104 := bo_f q101 c104
                      refine lv_bipush (v := (-13)) hx hb dX9_copy_119 (by decide) ?_
                      exact W.iret (v := ((-13) : Int32)) hx hb hr (fun t ht hW => ⟨⟨_, (G, ws), rfl, ⟨hX, ⟨(Or.inr ⟨⟨b4, b11⟩, Or.inr ⟨nk9, Or.inr ⟨ke9, Or.inl ⟨(fun z9 => by unfold hasP at z9; omega), rfl⟩⟩⟩⟩), Or.inr ⟨(fun z8 => absurd z8.2.2.2 (fun z9 => by unfold hasP at z9; omega)), rfl⟩⟩⟩, by show va_P D vwCl ws t.heap; rw [ht]; exact hP, hD, hT⟩, hS.F ht⟩) hS.2.2 dX9_copy_121
                    · skip
                      have b104 := bo_t q101 c104
                      refine lv_aload hx hb dX9_copy_107 (lv_at hl 0 rfl) ?_
                      refine lv_iload hx hb dX9_copy_109 (lv_at hl 7 rfl) ?_
                      refine lv_iload hx hb dX9_copy_111 (lv_at hl 8 rfl) ?_
                      refine t_calli (va_runV (g := F0 m 113 ls ([.int m0, .int j, .ref x65])) (As := [.int j, .int m0]) (rest := []) ⟨hx, hb, hml, hown, hts⟩ (c_X7_has l D cy A G ws x65 j m0 hD hT hG_x65 ) (cwV 2 hts gX9_copy_X7_has rfl rfl rfl (by decide +kernel) ⟨Nat.le_of_ble_eq_true rfl, Nat.le_of_ble_eq_true rfl⟩) (c_preV hM_x65 rfl hP hK hA hS hV) rfl rfl hl.1 rfl (lv_room (Nat.le_of_ble_eq_true rfl)) dX9_copy_113 ⟨Nat.le_of_ble_eq_true rfl, Nat.le_of_ble_eq_true rfl⟩) hS (fun r113 u H locs q113 hP9 hD9 hT9 hS => ?_)
                      obtain ⟨rfl, q113⟩ := q113
                      have hP : va_P D vwCl ws H := hP9
                      refine lv_if_ne (tgt := 122) hx hb dX9_copy_116 (by decide) (fun c116 => ?_) (fun c116 => ?_)
                      · skip
                        have b116 := bo_t q113 c116
                        have hM0_ar42 := hM_ar42
                        have hM0_ar65 := hM_ar65
                        refine lv_aload hx hb dX9_copy_122 (lv_at hl 0 rfl) ?_
                        refine lv_aload hx hb dX9_copy_124 (lv_at hl 2 rfl) ?_
                        refine lv_iload_n hx hb dX9_copy_126 rfl (lv_at hl 5 rfl) ?_
                        refine lv_iload hx hb dX9_copy_127 (lv_at hl 7 rfl) ?_
                        refine lv_iload hx hb dX9_copy_129 (lv_at hl 8 rfl) ?_
                        refine t_callv (va_runV (g := F0 m 131 ls ([.int m0, .int j, .int i, .ref x42, .ref x65])) (As := [.ref x42, .int i, .int j, .int m0]) (rest := []) ⟨hx, hb, hml, hown, hts⟩ (c_X7_takeFrom_x l D cy A G ws x65 x42 i j m0 hD hT hG_x65 hM_x65 hG_x42 hM_x42 hM_ar65 hM_ar42 b104 b116) (cwV 4 hts gX9_copy_X7_takeFrom rfl rfl rfl (by decide +kernel) ⟨Nat.le_of_ble_eq_true rfl, Nat.le_of_ble_eq_true rfl⟩) (c_preV hM_x65 rfl hP hK hA hS hV) rfl rfl hl.1 rfl (lv_room (Nat.le_of_ble_eq_true rfl)) dX9_copy_131 ⟨Nat.le_of_ble_eq_true rfl, Nat.le_of_ble_eq_true rfl⟩) hS (fun u H locs q131 hP9 hD9 hT9 hS => ?_)
                        obtain ⟨w131, rfl, hF131, q131⟩ := q131
                        have hP : va_P D vwCl w131 H := hP9
                        have hD : va_D A w131 := hD9
                        have hT : cT cy G w131 := hT9
                        have hM_o := hF131 _ _ (cne hG_o hG_ar65 (show (7 : Nat) ≠ 16 by decide)) hM_o
                        have hM_sh_o := hF131 _ _ (cne hG_sh_o hG_ar65 (show (10 : Nat) ≠ 16 by decide)) hM_sh_o
                        have hM_x42 := hF131 _ _ (cne hG_x42 hG_ar65 (show (4 : Nat) ≠ 16 by decide)) hM_x42
                        have hM_x65 := hF131 _ _ (cne hG_x65 hG_ar65 (show (4 : Nat) ≠ 16 by decide)) hM_x65
                        have hX := hX.tr ⟨cE.rf, hF131.wk (fun b9 z9 => by subst z9; exact (Or.inr ⟨_, hG_ar65, rfl⟩)), fun _ _ h9 => Or.inl h9⟩
                        have hM_ar65 : cIn w131 ar65 (.inl (cy 1, nx65, .inr (.inl (va_cpy f42 f65 i.toNatClampNeg j.toNatClampNeg m0.toNatClampNeg)))) := q131
                        refine lv_iload hx hb dX9_copy_134 (lv_at hl 8 rfl) ?_
                        exact W.iret (v := m0) hx hb hr (fun t ht hW => ⟨⟨_, (G, w131), rfl, ⟨hX, ⟨(Or.inr ⟨⟨b4, b11⟩, Or.inr ⟨nk9, Or.inr ⟨ke9, Or.inr ⟨(by unfold hasP; omega), rfl⟩⟩⟩⟩), Or.inl ⟨⟨⟨b4, b11⟩, nk9, ke9, (by unfold hasP; omega)⟩, rfl, (by rw [← har65]; exact hF131), _, _, _, _, (by rw [← har42]; exact hM0_ar42), (by rw [← har65]; exact hM0_ar65), (by rw [← har65]; exact hM_ar65)⟩⟩⟩, by show va_P D vwCl w131 t.heap; rw [ht]; exact hP, hD, hT⟩, hS.F ht⟩) hS.2.2 dX9_copy_136
                      · skip
                        have b116 := bo_f q113 c116
                        refine lv_bipush (v := (-13)) hx hb dX9_copy_119 (by decide) ?_
                        exact W.iret (v := ((-13) : Int32)) hx hb hr (fun t ht hW => ⟨⟨_, (G, ws), rfl, ⟨hX, ⟨(Or.inr ⟨⟨b4, b11⟩, Or.inr ⟨nk9, Or.inr ⟨ke9, Or.inl ⟨(fun z9 => by unfold hasP at z9; omega), rfl⟩⟩⟩⟩), Or.inr ⟨(fun z8 => absurd z8.2.2.2 (fun z9 => by unfold hasP at z9; omega)), rfl⟩⟩⟩, by show va_P D vwCl ws t.heap; rw [ht]; exact hP, hD, hT⟩, hS.F ht⟩) hS.2.2 dX9_copy_121
        · skip
          have s30 := hS9 e0.toNatClampNeg (by have := m_cl (x := e0) (by omega); omega)
          rw [nf30] at s30
          refine lv_ifnonnull (tgt := 37) hx hb dX9_copy_31 (by decide) ?_
          have nk9 : ¬ (kS9 d.toNatClampNeg = 0 ∨ kS9 e0.toNatClampNeg = 0) := by rintro (z9 | z9); exact shX_nz s21 z9; exact shX_nz s30 z9
          refine lv_aload_n hx hb dX9_copy_37 rfl (lv_at hl 0 rfl) ?_
          refine t_get (v := .ref sh_o) (C := RX9) (T := TX9) (N := 9) hx hb hts (by decide +kernel) hown hK hP hM_o rfl 3 (by decide) (hts (.fieldLink RX9 27 "ShadowBench" "shelves" "[LShadowBench$Held;") (by decide +kernel)) (fun _ h9 => h9) rfl dX9_copy_38 ?_
          refine lv_iload_n hx hb dX9_copy_41 rfl (lv_at hl 1 rfl) ?_
          refine t_aald10f hx hb hK hP hM_sh_o hf_sh_o (vp_in_iff.mpr ⟨by omega, by omega⟩) dX9_copy_42 (fun nf42 => ?_) (fun x42 kx42 nx42 hG_x42 nf42 => ?_) (fun x42 nx42 hG_x42 nf42 => ?_)
          · skip
            have s42 := hS9 d.toNatClampNeg (by have := m_cl (x := d) (by omega); omega)
            rw [nf42] at s42
            refine lv_astoreN (lv' := [(8, .null), (0, .ref o), (1, .int d), (2, .int i), (3, .int e0), (4, .int j), (5, .int m0)]) hx hb dX9_copy_43 hl (by decide) rfl (fun ls hl => ?_)
            refine lv_aloadN hx hb dX9_copy_45 (lv_at hl 0 rfl) ?_
            refine lv_instN hx hb dX9_copy_47 ?_
            refine lv_if_eq (tgt := 137) hx hb dX9_copy_50 (by decide) (fun c50 => ?_) (fun c50 => ?_)
            · skip
              have d50 := c50
              rw [fa_eq] at d50
              refine lv_bipush (v := (-12)) hx hb dX9_copy_137 (by decide) ?_
              exact W.iret (v := ((-12) : Int32)) hx hb hr (fun t ht hW => ⟨⟨_, (G, ws), rfl, ⟨hX, ⟨(Or.inr ⟨⟨b4, b11⟩, Or.inr ⟨nk9, Or.inl ⟨(by first | exact nomatch (show (none : Option Nat) = some _ from nf42.symm.trans nf21) | exact nomatch (show (none : Option Nat) = some _ from nf65.symm.trans nf30) | (intro z9; have y9 := shX_job s42 hG_x42; rw [y9] at z9; exact absurd z9.1 (by decide)) | (intro z9; have y9 := shX_job s65 hG_x65; have w9 := z9.1; rw [z9.2, y9] at w9; exact absurd w9 (by decide)) | (intro z9; rcases hk42 with ⟨p1, p2⟩ | ⟨p1, p2⟩ <;> rcases hk65 with ⟨o1, o2⟩ | ⟨o1, o2⟩ <;> first | exact c93 (p1.trans o1.symm) | (have w9 := z9.2; rw [p2, o2] at w9; exact absurd w9 (by decide)))), rfl⟩⟩⟩), Or.inr ⟨(fun z8 => absurd z8.2.2.1 (by first | exact nomatch (show (none : Option Nat) = some _ from nf42.symm.trans nf21) | exact nomatch (show (none : Option Nat) = some _ from nf65.symm.trans nf30) | (intro z9; have y9 := shX_job s42 hG_x42; rw [y9] at z9; exact absurd z9.1 (by decide)) | (intro z9; have y9 := shX_job s65 hG_x65; have w9 := z9.1; rw [z9.2, y9] at w9; exact absurd w9 (by decide)) | (intro z9; rcases hk42 with ⟨p1, p2⟩ | ⟨p1, p2⟩ <;> rcases hk65 with ⟨o1, o2⟩ | ⟨o1, o2⟩ <;> first | exact c93 (p1.trans o1.symm) | (have w9 := z9.2; rw [p2, o2] at w9; exact absurd w9 (by decide))))), rfl⟩⟩⟩, by show va_P D vwCl ws t.heap; rw [ht]; exact hP, hD, hT⟩, hS.F ht⟩) hS.2.2 dX9_copy_139
            · first | exact absurd c50 (by decide) | exact absurd (by decide) c50
          · skip
            have s42 := hS9 d.toNatClampNeg (by have := m_cl (x := d) (by omega); omega)
            rw [nf42] at s42
            refine lv_astore (lv' := [(8, .ref x42), (0, .ref o), (1, .int d), (2, .int i), (3, .int e0), (4, .int j), (5, .int m0)]) hx hb dX9_copy_43 hl (by decide) rfl (fun ls hl => ?_)
            refine lv_aload hx hb dX9_copy_45 (lv_at hl 0 rfl) ?_
            obtain ⟨_, hM_x42, b_x42, s_x42, w_x42, h_x42, t_x42, x_x42, y_x42, ms_x42, rfl, hG_b_x42, hG_s_x42, hJ_x42⟩ := hT _ _ hG_x42
            refine t_instRN hx hb hV hown (hts (.classLink RX9 245 RX7) (by decide +kernel)) hK hP hJ_x42.kc hM_x42 dX9_copy_47 ?_
            refine lv_if_eq (tgt := 137) hx hb dX9_copy_50 (by decide) (fun c50 => ?_) (fun c50 => ?_)
            · skip
              have d50 := c50
              rw [fa_eq] at d50
              refine lv_bipush (v := (-12)) hx hb dX9_copy_137 (by decide) ?_
              exact W.iret (v := ((-12) : Int32)) hx hb hr (fun t ht hW => ⟨⟨_, (G, ws), rfl, ⟨hX, ⟨(Or.inr ⟨⟨b4, b11⟩, Or.inr ⟨nk9, Or.inl ⟨(by first | exact nomatch (show (none : Option Nat) = some _ from nf42.symm.trans nf21) | exact nomatch (show (none : Option Nat) = some _ from nf65.symm.trans nf30) | (intro z9; have y9 := shX_job s42 hG_x42; rw [y9] at z9; exact absurd z9.1 (by decide)) | (intro z9; have y9 := shX_job s65 hG_x65; have w9 := z9.1; rw [z9.2, y9] at w9; exact absurd w9 (by decide)) | (intro z9; rcases hk42 with ⟨p1, p2⟩ | ⟨p1, p2⟩ <;> rcases hk65 with ⟨o1, o2⟩ | ⟨o1, o2⟩ <;> first | exact c93 (p1.trans o1.symm) | (have w9 := z9.2; rw [p2, o2] at w9; exact absurd w9 (by decide)))), rfl⟩⟩⟩), Or.inr ⟨(fun z8 => absurd z8.2.2.1 (by first | exact nomatch (show (none : Option Nat) = some _ from nf42.symm.trans nf21) | exact nomatch (show (none : Option Nat) = some _ from nf65.symm.trans nf30) | (intro z9; have y9 := shX_job s42 hG_x42; rw [y9] at z9; exact absurd z9.1 (by decide)) | (intro z9; have y9 := shX_job s65 hG_x65; have w9 := z9.1; rw [z9.2, y9] at w9; exact absurd w9 (by decide)) | (intro z9; rcases hk42 with ⟨p1, p2⟩ | ⟨p1, p2⟩ <;> rcases hk65 with ⟨o1, o2⟩ | ⟨o1, o2⟩ <;> first | exact c93 (p1.trans o1.symm) | (have w9 := z9.2; rw [p2, o2] at w9; exact absurd w9 (by decide))))), rfl⟩⟩⟩, by show va_P D vwCl ws t.heap; rw [ht]; exact hP, hD, hT⟩, hS.F ht⟩) hS.2.2 dX9_copy_139
            · first | exact absurd c50 (by decide) | exact absurd (by decide) c50
          · skip
            have s42 := hS9 d.toNatClampNeg (by have := m_cl (x := d) (by omega); omega)
            rw [nf42] at s42
            refine lv_astore (lv' := [(8, .ref x42), (0, .ref o), (1, .int d), (2, .int i), (3, .int e0), (4, .int j), (5, .int m0)]) hx hb dX9_copy_43 hl (by decide) rfl (fun ls hl => ?_)
            refine lv_aload hx hb dX9_copy_45 (lv_at hl 0 rfl) ?_
            obtain ⟨_, hM_x42, hn_x42, z_x42, a_x42, rfl, hz_x42, hG_a_x42⟩ := hT _ _ hG_x42
            refine va_instS hx hb hown (hts (.classLink RX9 245 RX7) (by decide +kernel)) (hK.1 6 _ rfl).2 (t_recJ hK hP hM_x42 rfl) dX9_copy_47 ?_
            refine lv_if_eq (tgt := 137) hx hb dX9_copy_50 (by decide) (fun c50 => ?_) (fun c50 => ?_)
            · first | exact absurd c50 (by decide) | exact absurd (by decide) c50
            · skip
              have d50 := c50
              rw [fa_eq] at d50
              obtain ⟨hx42, z42, f42, hG_ar42, hM_x42, hM_ar42, hn42, hm42, hk42, hf42, hb42⟩ := shX_row s42 hG_x42
              obtain ⟨ar42, har42⟩ : ∃ z, z = sa d.toNatClampNeg := ⟨_, rfl⟩
              rw [← har42] at hG_ar42 hM_x42 hM_ar42
              have hz42 : isBo z42 := hk42.elim (fun y9 => Or.inr y9.1) (fun y9 => Or.inl y9.1)
              refine lv_aload hx hb dX9_copy_53 (lv_at hl 0 rfl) ?_
              refine va_castS hx hb hown (hts (.classLink RX9 245 RX7) (by decide +kernel)) (hK.1 6 _ rfl).2 (t_recJ hK hP hM_x42 rfl) dX9_copy_55 ?_
              refine lv_astore (lv' := [(6, .ref x42), (8, .ref x42), (0, .ref o), (1, .int d), (2, .int i), (3, .int e0), (4, .int j), (5, .int m0)]) hx hb dX9_copy_58 hl (by decide) rfl (fun ls hl => ?_)
              refine lv_aload_n hx hb dX9_copy_60 rfl (lv_at hl 2 rfl) ?_
              refine t_get (v := .ref sh_o) (C := RX9) (T := TX9) (N := 9) hx hb hts (by decide +kernel) hown hK hP hM_o rfl 3 (by decide) (hts (.fieldLink RX9 27 "ShadowBench" "shelves" "[LShadowBench$Held;") (by decide +kernel)) (fun _ h9 => h9) rfl dX9_copy_61 ?_
              refine lv_iload_n hx hb dX9_copy_64 rfl (lv_at hl 5 rfl) ?_
              refine t_aald10f hx hb hK hP hM_sh_o hf_sh_o (vp_in_iff.mpr ⟨by omega, by omega⟩) dX9_copy_65 (fun nf65 => ?_) (fun x65 kx65 nx65 hG_x65 nf65 => ?_) (fun x65 nx65 hG_x65 nf65 => ?_)
              · skip
                have s65 := hS9 e0.toNatClampNeg (by have := m_cl (x := e0) (by omega); omega)
                rw [nf65] at s65
                refine lv_astoreN (lv' := [(8, .null), (6, .ref x42), (0, .ref o), (1, .int d), (2, .int i), (3, .int e0), (4, .int j), (5, .int m0)]) hx hb dX9_copy_66 hl (by decide) rfl (fun ls hl => ?_)
                refine lv_aloadN hx hb dX9_copy_68 (lv_at hl 0 rfl) ?_
                refine lv_instN hx hb dX9_copy_70 ?_
                refine lv_if_eq (tgt := 137) hx hb dX9_copy_73 (by decide) (fun c73 => ?_) (fun c73 => ?_)
                · skip
                  have d73 := c73
                  rw [fa_eq] at d73
                  refine lv_bipush (v := (-12)) hx hb dX9_copy_137 (by decide) ?_
                  exact W.iret (v := ((-12) : Int32)) hx hb hr (fun t ht hW => ⟨⟨_, (G, ws), rfl, ⟨hX, ⟨(Or.inr ⟨⟨b4, b11⟩, Or.inr ⟨nk9, Or.inl ⟨(by first | exact nomatch (show (none : Option Nat) = some _ from nf42.symm.trans nf21) | exact nomatch (show (none : Option Nat) = some _ from nf65.symm.trans nf30) | (intro z9; have y9 := shX_job s42 hG_x42; rw [y9] at z9; exact absurd z9.1 (by decide)) | (intro z9; have y9 := shX_job s65 hG_x65; have w9 := z9.1; rw [z9.2, y9] at w9; exact absurd w9 (by decide)) | (intro z9; rcases hk42 with ⟨p1, p2⟩ | ⟨p1, p2⟩ <;> rcases hk65 with ⟨o1, o2⟩ | ⟨o1, o2⟩ <;> first | exact c93 (p1.trans o1.symm) | (have w9 := z9.2; rw [p2, o2] at w9; exact absurd w9 (by decide)))), rfl⟩⟩⟩), Or.inr ⟨(fun z8 => absurd z8.2.2.1 (by first | exact nomatch (show (none : Option Nat) = some _ from nf42.symm.trans nf21) | exact nomatch (show (none : Option Nat) = some _ from nf65.symm.trans nf30) | (intro z9; have y9 := shX_job s42 hG_x42; rw [y9] at z9; exact absurd z9.1 (by decide)) | (intro z9; have y9 := shX_job s65 hG_x65; have w9 := z9.1; rw [z9.2, y9] at w9; exact absurd w9 (by decide)) | (intro z9; rcases hk42 with ⟨p1, p2⟩ | ⟨p1, p2⟩ <;> rcases hk65 with ⟨o1, o2⟩ | ⟨o1, o2⟩ <;> first | exact c93 (p1.trans o1.symm) | (have w9 := z9.2; rw [p2, o2] at w9; exact absurd w9 (by decide))))), rfl⟩⟩⟩, by show va_P D vwCl ws t.heap; rw [ht]; exact hP, hD, hT⟩, hS.F ht⟩) hS.2.2 dX9_copy_139
                · first | exact absurd c73 (by decide) | exact absurd (by decide) c73
              · skip
                have s65 := hS9 e0.toNatClampNeg (by have := m_cl (x := e0) (by omega); omega)
                rw [nf65] at s65
                refine lv_astore (lv' := [(8, .ref x65), (6, .ref x42), (0, .ref o), (1, .int d), (2, .int i), (3, .int e0), (4, .int j), (5, .int m0)]) hx hb dX9_copy_66 hl (by decide) rfl (fun ls hl => ?_)
                refine lv_aload hx hb dX9_copy_68 (lv_at hl 0 rfl) ?_
                obtain ⟨_, hM_x65, b_x65, s_x65, w_x65, h_x65, t_x65, x_x65, y_x65, ms_x65, rfl, hG_b_x65, hG_s_x65, hJ_x65⟩ := hT _ _ hG_x65
                refine t_instRN hx hb hV hown (hts (.classLink RX9 245 RX7) (by decide +kernel)) hK hP hJ_x65.kc hM_x65 dX9_copy_70 ?_
                refine lv_if_eq (tgt := 137) hx hb dX9_copy_73 (by decide) (fun c73 => ?_) (fun c73 => ?_)
                · skip
                  have d73 := c73
                  rw [fa_eq] at d73
                  refine lv_bipush (v := (-12)) hx hb dX9_copy_137 (by decide) ?_
                  exact W.iret (v := ((-12) : Int32)) hx hb hr (fun t ht hW => ⟨⟨_, (G, ws), rfl, ⟨hX, ⟨(Or.inr ⟨⟨b4, b11⟩, Or.inr ⟨nk9, Or.inl ⟨(by first | exact nomatch (show (none : Option Nat) = some _ from nf42.symm.trans nf21) | exact nomatch (show (none : Option Nat) = some _ from nf65.symm.trans nf30) | (intro z9; have y9 := shX_job s42 hG_x42; rw [y9] at z9; exact absurd z9.1 (by decide)) | (intro z9; have y9 := shX_job s65 hG_x65; have w9 := z9.1; rw [z9.2, y9] at w9; exact absurd w9 (by decide)) | (intro z9; rcases hk42 with ⟨p1, p2⟩ | ⟨p1, p2⟩ <;> rcases hk65 with ⟨o1, o2⟩ | ⟨o1, o2⟩ <;> first | exact c93 (p1.trans o1.symm) | (have w9 := z9.2; rw [p2, o2] at w9; exact absurd w9 (by decide)))), rfl⟩⟩⟩), Or.inr ⟨(fun z8 => absurd z8.2.2.1 (by first | exact nomatch (show (none : Option Nat) = some _ from nf42.symm.trans nf21) | exact nomatch (show (none : Option Nat) = some _ from nf65.symm.trans nf30) | (intro z9; have y9 := shX_job s42 hG_x42; rw [y9] at z9; exact absurd z9.1 (by decide)) | (intro z9; have y9 := shX_job s65 hG_x65; have w9 := z9.1; rw [z9.2, y9] at w9; exact absurd w9 (by decide)) | (intro z9; rcases hk42 with ⟨p1, p2⟩ | ⟨p1, p2⟩ <;> rcases hk65 with ⟨o1, o2⟩ | ⟨o1, o2⟩ <;> first | exact c93 (p1.trans o1.symm) | (have w9 := z9.2; rw [p2, o2] at w9; exact absurd w9 (by decide))))), rfl⟩⟩⟩, by show va_P D vwCl ws t.heap; rw [ht]; exact hP, hD, hT⟩, hS.F ht⟩) hS.2.2 dX9_copy_139
                · first | exact absurd c73 (by decide) | exact absurd (by decide) c73
              · skip
                have s65 := hS9 e0.toNatClampNeg (by have := m_cl (x := e0) (by omega); omega)
                rw [nf65] at s65
                refine lv_astore (lv' := [(8, .ref x65), (6, .ref x42), (0, .ref o), (1, .int d), (2, .int i), (3, .int e0), (4, .int j), (5, .int m0)]) hx hb dX9_copy_66 hl (by decide) rfl (fun ls hl => ?_)
                refine lv_aload hx hb dX9_copy_68 (lv_at hl 0 rfl) ?_
                obtain ⟨_, hM_x65, hn_x65, z_x65, a_x65, rfl, hz_x65, hG_a_x65⟩ := hT _ _ hG_x65
                refine va_instS hx hb hown (hts (.classLink RX9 245 RX7) (by decide +kernel)) (hK.1 6 _ rfl).2 (t_recJ hK hP hM_x65 rfl) dX9_copy_70 ?_
                refine lv_if_eq (tgt := 137) hx hb dX9_copy_73 (by decide) (fun c73 => ?_) (fun c73 => ?_)
                · first | exact absurd c73 (by decide) | exact absurd (by decide) c73
                · skip
                  have d73 := c73
                  rw [fa_eq] at d73
                  obtain ⟨hx65, z65, f65, hG_ar65, hM_x65, hM_ar65, hn65, hm65, hk65, hf65, hb65⟩ := shX_row s65 hG_x65
                  obtain ⟨ar65, har65⟩ : ∃ z, z = sa e0.toNatClampNeg := ⟨_, rfl⟩
                  rw [← har65] at hG_ar65 hM_x65 hM_ar65
                  have hz65 : isBo z65 := hk65.elim (fun y9 => Or.inr y9.1) (fun y9 => Or.inl y9.1)
                  refine lv_aload hx hb dX9_copy_76 (lv_at hl 0 rfl) ?_
                  refine va_castS hx hb hown (hts (.classLink RX9 245 RX7) (by decide +kernel)) (hK.1 6 _ rfl).2 (t_recJ hK hP hM_x65 rfl) dX9_copy_78 ?_
                  refine lv_astore (lv' := [(7, .ref x65), (8, .ref x65), (6, .ref x42), (0, .ref o), (1, .int d), (2, .int i), (3, .int e0), (4, .int j), (5, .int m0)]) hx hb dX9_copy_81 hl (by decide) rfl (fun ls hl => ?_)
                  refine lv_aload hx hb dX9_copy_83 (lv_at hl 2 rfl) ?_
                  refine t_get (v := .int z42) (C := RX7) (T := TX7) (N := 2) hx hb hts (by decide +kernel) hown hK hP hM_x42 rfl 0 (by decide) (hts (.fieldLink RX9 264 "ShadowBench$Row" "ofBytes" "Z") (by decide +kernel)) (fun _ h9 => h9) rfl dX9_copy_85 ?_
                  refine lv_aload hx hb dX9_copy_88 (lv_at hl 0 rfl) ?_
                  refine t_get (v := .int z65) (C := RX7) (T := TX7) (N := 2) hx hb hts (by decide +kernel) hown hK hP hM_x65 rfl 0 (by decide) (hts (.fieldLink RX9 264 "ShadowBench$Row" "ofBytes" "Z") (by decide +kernel)) (fun _ h9 => h9) rfl dX9_copy_90 ?_
                  refine lv_icmp_ne (tgt := 137) hx hb dX9_copy_93 (by decide) (fun c93 => ?_) (fun c93 => ?_)
                  · skip
                    have d93 := c93
                    rw [fa_eq] at d93
                    refine lv_bipush (v := (-12)) hx hb dX9_copy_137 (by decide) ?_
                    exact W.iret (v := ((-12) : Int32)) hx hb hr (fun t ht hW => ⟨⟨_, (G, ws), rfl, ⟨hX, ⟨(Or.inr ⟨⟨b4, b11⟩, Or.inr ⟨nk9, Or.inl ⟨(by first | exact nomatch (show (none : Option Nat) = some _ from nf42.symm.trans nf21) | exact nomatch (show (none : Option Nat) = some _ from nf65.symm.trans nf30) | (intro z9; have y9 := shX_job s42 hG_x42; rw [y9] at z9; exact absurd z9.1 (by decide)) | (intro z9; have y9 := shX_job s65 hG_x65; have w9 := z9.1; rw [z9.2, y9] at w9; exact absurd w9 (by decide)) | (intro z9; rcases hk42 with ⟨p1, p2⟩ | ⟨p1, p2⟩ <;> rcases hk65 with ⟨o1, o2⟩ | ⟨o1, o2⟩ <;> first | exact c93 (p1.trans o1.symm) | (have w9 := z9.2; rw [p2, o2] at w9; exact absurd w9 (by decide)))), rfl⟩⟩⟩), Or.inr ⟨(fun z8 => absurd z8.2.2.1 (by first | exact nomatch (show (none : Option Nat) = some _ from nf42.symm.trans nf21) | exact nomatch (show (none : Option Nat) = some _ from nf65.symm.trans nf30) | (intro z9; have y9 := shX_job s42 hG_x42; rw [y9] at z9; exact absurd z9.1 (by decide)) | (intro z9; have y9 := shX_job s65 hG_x65; have w9 := z9.1; rw [z9.2, y9] at w9; exact absurd w9 (by decide)) | (intro z9; rcases hk42 with ⟨p1, p2⟩ | ⟨p1, p2⟩ <;> rcases hk65 with ⟨o1, o2⟩ | ⟨o1, o2⟩ <;> first | exact c93 (p1.trans o1.symm) | (have w9 := z9.2; rw [p2, o2] at w9; exact absurd w9 (by decide))))), rfl⟩⟩⟩, by show va_P D vwCl ws t.heap; rw [ht]; exact hP, hD, hT⟩, hS.F ht⟩) hS.2.2 dX9_copy_139
                  · skip
                    have d93 := c93
                    rw [fa_eq] at d93
                    have ke9 : 3 ≤ (kS9 d.toNatClampNeg).toInt ∧ kS9 d.toNatClampNeg = kS9 e0.toNatClampNeg := by rcases hk42 with ⟨p1, p2⟩ | ⟨p1, p2⟩ <;> rcases hk65 with ⟨o1, o2⟩ | ⟨o1, o2⟩ <;> first | exact ⟨by rw [p2]; decide, p2.trans o2.symm⟩ | (have w9 := p1.symm.trans (c93.trans o1); exact absurd w9 (by decide))
                    refine lv_aload hx hb dX9_copy_96 (lv_at hl 2 rfl) ?_
                    refine lv_iload_n hx hb dX9_copy_98 rfl (lv_at hl 5 rfl) ?_
                    refine lv_iload hx hb dX9_copy_99 (lv_at hl 8 rfl) ?_
                    refine t_calli (va_runV (g := F0 m 101 ls ([.int m0, .int i, .ref x42])) (As := [.int i, .int m0]) (rest := []) ⟨hx, hb, hml, hown, hts⟩ (c_X7_has l D cy A G ws x42 i m0 hD hT hG_x42 ) (cwV 2 hts gX9_copy_X7_has rfl rfl rfl (by decide +kernel) ⟨Nat.le_of_ble_eq_true rfl, Nat.le_of_ble_eq_true rfl⟩) (c_preV hM_x42 rfl hP hK hA hS hV) rfl rfl hl.1 rfl (lv_room (Nat.le_of_ble_eq_true rfl)) dX9_copy_101 ⟨Nat.le_of_ble_eq_true rfl, Nat.le_of_ble_eq_true rfl⟩) hS (fun r101 u H locs q101 hP9 hD9 hT9 hS => ?_)
                    obtain ⟨rfl, q101⟩ := q101
                    have hP : va_P D vwCl ws H := hP9
                    refine lv_if_eq (tgt := 119) hx hb dX9_copy_104 (by decide) (fun c104 => ?_) (fun c104 => ?_)
                    · skip
                      have b104 := bo_f q101 c104
                      refine lv_bipush (v := (-13)) hx hb dX9_copy_119 (by decide) ?_
                      exact W.iret (v := ((-13) : Int32)) hx hb hr (fun t ht hW => ⟨⟨_, (G, ws), rfl, ⟨hX, ⟨(Or.inr ⟨⟨b4, b11⟩, Or.inr ⟨nk9, Or.inr ⟨ke9, Or.inl ⟨(fun z9 => by unfold hasP at z9; omega), rfl⟩⟩⟩⟩), Or.inr ⟨(fun z8 => absurd z8.2.2.2 (fun z9 => by unfold hasP at z9; omega)), rfl⟩⟩⟩, by show va_P D vwCl ws t.heap; rw [ht]; exact hP, hD, hT⟩, hS.F ht⟩) hS.2.2 dX9_copy_121
                    · skip
                      have b104 := bo_t q101 c104
                      refine lv_aload hx hb dX9_copy_107 (lv_at hl 0 rfl) ?_
                      refine lv_iload hx hb dX9_copy_109 (lv_at hl 7 rfl) ?_
                      refine lv_iload hx hb dX9_copy_111 (lv_at hl 8 rfl) ?_
                      refine t_calli (va_runV (g := F0 m 113 ls ([.int m0, .int j, .ref x65])) (As := [.int j, .int m0]) (rest := []) ⟨hx, hb, hml, hown, hts⟩ (c_X7_has l D cy A G ws x65 j m0 hD hT hG_x65 ) (cwV 2 hts gX9_copy_X7_has rfl rfl rfl (by decide +kernel) ⟨Nat.le_of_ble_eq_true rfl, Nat.le_of_ble_eq_true rfl⟩) (c_preV hM_x65 rfl hP hK hA hS hV) rfl rfl hl.1 rfl (lv_room (Nat.le_of_ble_eq_true rfl)) dX9_copy_113 ⟨Nat.le_of_ble_eq_true rfl, Nat.le_of_ble_eq_true rfl⟩) hS (fun r113 u H locs q113 hP9 hD9 hT9 hS => ?_)
                      obtain ⟨rfl, q113⟩ := q113
                      have hP : va_P D vwCl ws H := hP9
                      refine lv_if_ne (tgt := 122) hx hb dX9_copy_116 (by decide) (fun c116 => ?_) (fun c116 => ?_)
                      · skip
                        have b116 := bo_t q113 c116
                        have hM0_ar42 := hM_ar42
                        have hM0_ar65 := hM_ar65
                        refine lv_aload hx hb dX9_copy_122 (lv_at hl 0 rfl) ?_
                        refine lv_aload hx hb dX9_copy_124 (lv_at hl 2 rfl) ?_
                        refine lv_iload_n hx hb dX9_copy_126 rfl (lv_at hl 5 rfl) ?_
                        refine lv_iload hx hb dX9_copy_127 (lv_at hl 7 rfl) ?_
                        refine lv_iload hx hb dX9_copy_129 (lv_at hl 8 rfl) ?_
                        refine t_callv (va_runV (g := F0 m 131 ls ([.int m0, .int j, .int i, .ref x42, .ref x65])) (As := [.ref x42, .int i, .int j, .int m0]) (rest := []) ⟨hx, hb, hml, hown, hts⟩ (c_X7_takeFrom_x l D cy A G ws x65 x42 i j m0 hD hT hG_x65 hM_x65 hG_x42 hM_x42 hM_ar65 hM_ar42 b104 b116) (cwV 4 hts gX9_copy_X7_takeFrom rfl rfl rfl (by decide +kernel) ⟨Nat.le_of_ble_eq_true rfl, Nat.le_of_ble_eq_true rfl⟩) (c_preV hM_x65 rfl hP hK hA hS hV) rfl rfl hl.1 rfl (lv_room (Nat.le_of_ble_eq_true rfl)) dX9_copy_131 ⟨Nat.le_of_ble_eq_true rfl, Nat.le_of_ble_eq_true rfl⟩) hS (fun u H locs q131 hP9 hD9 hT9 hS => ?_)
                        obtain ⟨w131, rfl, hF131, q131⟩ := q131
                        have hP : va_P D vwCl w131 H := hP9
                        have hD : va_D A w131 := hD9
                        have hT : cT cy G w131 := hT9
                        have hM_o := hF131 _ _ (cne hG_o hG_ar65 (show (7 : Nat) ≠ 16 by decide)) hM_o
                        have hM_sh_o := hF131 _ _ (cne hG_sh_o hG_ar65 (show (10 : Nat) ≠ 16 by decide)) hM_sh_o
                        have hM_x42 := hF131 _ _ (cne hG_x42 hG_ar65 (show (4 : Nat) ≠ 16 by decide)) hM_x42
                        have hM_x65 := hF131 _ _ (cne hG_x65 hG_ar65 (show (4 : Nat) ≠ 16 by decide)) hM_x65
                        have hX := hX.tr ⟨cE.rf, hF131.wk (fun b9 z9 => by subst z9; exact (Or.inr ⟨_, hG_ar65, rfl⟩)), fun _ _ h9 => Or.inl h9⟩
                        have hM_ar65 : cIn w131 ar65 (.inl (cy 1, nx65, .inr (.inl (va_cpy f42 f65 i.toNatClampNeg j.toNatClampNeg m0.toNatClampNeg)))) := q131
                        refine lv_iload hx hb dX9_copy_134 (lv_at hl 8 rfl) ?_
                        exact W.iret (v := m0) hx hb hr (fun t ht hW => ⟨⟨_, (G, w131), rfl, ⟨hX, ⟨(Or.inr ⟨⟨b4, b11⟩, Or.inr ⟨nk9, Or.inr ⟨ke9, Or.inr ⟨(by unfold hasP; omega), rfl⟩⟩⟩⟩), Or.inl ⟨⟨⟨b4, b11⟩, nk9, ke9, (by unfold hasP; omega)⟩, rfl, (by rw [← har65]; exact hF131), _, _, _, _, (by rw [← har42]; exact hM0_ar42), (by rw [← har65]; exact hM0_ar65), (by rw [← har65]; exact hM_ar65)⟩⟩⟩, by show va_P D vwCl w131 t.heap; rw [ht]; exact hP, hD, hT⟩, hS.F ht⟩) hS.2.2 dX9_copy_136
                      · skip
                        have b116 := bo_f q113 c116
                        refine lv_bipush (v := (-13)) hx hb dX9_copy_119 (by decide) ?_
                        exact W.iret (v := ((-13) : Int32)) hx hb hr (fun t ht hW => ⟨⟨_, (G, ws), rfl, ⟨hX, ⟨(Or.inr ⟨⟨b4, b11⟩, Or.inr ⟨nk9, Or.inr ⟨ke9, Or.inl ⟨(fun z9 => by unfold hasP at z9; omega), rfl⟩⟩⟩⟩), Or.inr ⟨(fun z8 => absurd z8.2.2.2 (fun z9 => by unfold hasP at z9; omega)), rfl⟩⟩⟩, by show va_P D vwCl ws t.heap; rw [ht]; exact hP, hD, hT⟩, hS.F ht⟩) hS.2.2 dX9_copy_121
    · skip
      have b11 := bo_f q8 c11
      refine lv_iconst (v := (-1)) hx hb dX9_copy_14 (by decide) ?_
      exact W.iret (v := ((-1) : Int32)) hx hb hr (fun t ht hW => ⟨⟨_, (G, ws), rfl, ⟨hX, ⟨(Or.inl ⟨(fun z9 => by first | exact b4 z9.1 | exact b11 z9.2), rfl⟩), Or.inr ⟨(fun z8 => by first | exact b4 z8.1.1 | exact b11 z8.1.2), rfl⟩⟩⟩, by show va_P D vwCl ws t.heap; rw [ht]; exact hP, hD, hT⟩, hS.F ht⟩) hS.2.2 dX9_copy_15

theorem t_lastf {p : Program} {l : Launch} {e : Env} {R : Room} {s : State} {m : MethodId} {args : Array Value} {below : List Frame} {meth : Method} {c : Code} {H : Heap} {locs : List Loc} {cells slots : Nat} {Q : State → Prop} {cc : ByteArray} {pc : Nat} {ls : Array Slot} {rest : List Value} {D : va_G} {cy : Nat → ClassId} {A : Nat → Prop} {ws : va_W} {G : cG} {H0 : Heap} (hx : p.tables.exec = Jvm.exec) (hb : c.code = cc) (hK : va_K D vwCl (cTy cy) s) (hP : va_P D vwCl ws H) (hD : va_D A ws) (hS : va_S A H0 H locs) (hT : cT cy G ws) {a n z : Nat} (hg : G a = some (1, n, z)) {i : Int32} {x : Int64} (hin : vp_in i n) (hdg : decode cc pc = .ok (.lastore, 1))
    (kk : ∀ (H1 : Heap) (locs1 : List Loc) (ws1 : va_W), cF (fun b => b = a) ws ws1 → (∃ w : Nat → Int64, cIn ws1 a (.inl (cy 1, n, .inr (.inl w))) ∧ w i.toNatClampNeg = x) → va_P D vwCl ws1 H1 → va_D A ws1 → cT cy G ws1 → va_S A H0 H1 locs1 → W p l e R s m args below meth c H1 locs1 cells slots Q (F0 m (pc + 1) ls rest)) : W p l e R s m args below meth c H locs cells slots Q (F0 m pc ls (.long x :: .int i :: .ref a :: rest)) := by
  obtain ⟨_, ⟨q0, hq⟩, w, rfl⟩ := hT _ _ hg
  exact va_last hx hb hK hP hD hS q0 1 hq rfl hin hdg (fun H1 locs1 h1 h2 h3 => kk H1 locs1 _ (cF.up (cUp.set hq) rfl) ⟨_, (cUp.set hq).1, by simp [vp_updL]⟩ h1 h2 (hT.up (cUp.set hq) hg ⟨_, rfl⟩) h3)
set_option maxHeartbeats 4000000 in
set_option maxRecDepth 100000 in
theorem c_X9_element_x (l : Launch) (hst : l.stackTraces = false) (D : va_G) (cy : Nat → ClassId) (A : Nat → Prop) (G : cG) (ws : va_W) (o : Nat) (d : Int32) (i : Int32) {bs_o js_o sh_o wk_o ll_o : Nat} {jc_o lc_o : Int32} {mo_o lb_o : Option Nat} {fb : Nat → Option Nat} {sx sa : Nat → Nat} {kS9 zS9 : Nat → Int32} {rS9 : Nat → Nat → Int64} (hD : va_D A ws) (hT : cT cy G ws) (hG_o : G o = some (7, 0, 0)) (hM_o : cIn ws o (.inr (8, [.ref bs_o, .ref js_o, .int jc_o, .ref sh_o, .ref wk_o, va_rf mo_o, .ref ll_o, .int lc_o, va_rf lb_o]))) (hM_sh_o : cIn ws sh_o (.inl (cy 5, cqa 8 fb))) (hS9 : ∀ i9, i9 < 8 → shX cy G ws (fb i9) (sx i9) (sa i9) (kS9 i9) (zS9 i9) (rS9 i9)) : Xl l D cy A yX9_element wsX9_element ({ frames := 6, cells := 1, slots := 6, locals := 90 }) 1 6 ws [.ref o, .int d, .int i] (fun r0 u => u = (G, ws) ∧ (okSh d ∧ elOk (kS9 d.toNatClampNeg) (zS9 d.toNatClampNeg) i ∧ r0 = rS9 d.toNatClampNeg i.toNatClampNeg)) (fun u => u = (G, ws)) (fun E => (E = xIA ∧ ¬ okSh d) ∨ (E = xIS ∧ okSh d ∧ ¬ elOk (kS9 d.toNatClampNeg) (zS9 d.toNatClampNeg) i)) := by
  refine vx_ofW (cc := cX9_element) (maxL := 5) (ret := (some .long)) (by decide) rfl ?_
  intro p e s m args below meth c s₁ B hml hno hv
  obtain ⟨rfl, ⟨hP, hK, hA, hV⟩, hZ, hXT⟩ := hv
  have hx := B.exec
  have hb := B.bytes
  have hr := B.returns
  have hts := atoms_spec (ws := wsX9_element) B.pre
  have hown : s.vm.findClass RX9 = some m.cls := findClass_of_methodNamed B.named
  have hlocks := B.notSynchronized
  have hS : va_S A s.heap s.heap [] := va_S.rf
  have hl := lv_entry ([.ref o, .int d, .int i]) (n := 5) (Nat.le_of_ble_eq_true rfl)
  rw [lg_entry_eq]
  generalize (lg_sl ([.ref o, .int d, .int i]) ++ List.replicate (5 - (lg_sl ([.ref o, .int d, .int i])).length) Slot.unset).toArray = ls at hl ⊢
  have hl : lv_has ls 5 [(0, .ref o), (1, .int d), (2, .int i)] := hl
  have k_0 : (0 : Int32).toInt = 0 := by decide
  have k_1 : (1 : Int32).toInt = 1 := by decide
  obtain ⟨hjc_o, hlc_o, hG_bs_o, hG_js_o, hG_sh_o, hG_wk_o, hmo_o, hG_ll_o, hlb_o⟩ := w7sh hD hT hG_o hM_o
  have hf_sh_o := w10sh hD hT hG_sh_o hM_sh_o
  refine lv_iload_n hx hb dX9_element_0 rfl (lv_at hl 1 rfl) ?_
  refine t_pu (As := [.int d]) (rest := []) ⟨hx, hb, hml, hown, hts⟩ (c_X9_isShelf l d ) (va_cwS 1 hts gX9_element_X9_isShelf rfl rfl rfl (by decide +kernel) ⟨Nat.le_of_ble_eq_true rfl, Nat.le_of_ble_eq_true rfl⟩) hP rfl hl.1 rfl (Nat.le_of_ble_eq_true rfl) dX9_element_1 ⟨Nat.le_of_ble_eq_true rfl, Nat.le_of_ble_eq_true rfl⟩ hS (fun r1 H locs q1 hP hS => ?_)
  refine lv_if_ne (tgt := 17) hx hb dX9_element_4 (by decide) (fun c4 => ?_) (fun c4 => ?_)
  · skip
    have b4 := bo_t q1 c4
    refine lv_aload_n hx hb dX9_element_17 rfl (lv_at hl 0 rfl) ?_
    refine t_get (v := .ref sh_o) (C := RX9) (T := TX9) (N := 9) hx hb hts (by decide +kernel) hown hK hP hM_o rfl 3 (by decide) (hts (.fieldLink RX9 27 "ShadowBench" "shelves" "[LShadowBench$Held;") (by decide +kernel)) (fun _ h9 => h9) rfl dX9_element_18 ?_
    refine lv_iload_n hx hb dX9_element_21 rfl (lv_at hl 1 rfl) ?_
    refine t_aald10f hx hb hK hP hM_sh_o hf_sh_o (vp_in_iff.mpr ⟨by omega, by omega⟩) dX9_element_22 (fun nf22 => ?_) (fun x22 kx22 nx22 hG_x22 nf22 => ?_) (fun x22 nx22 hG_x22 nf22 => ?_)
    · skip
      have s22 := hS9 d.toNatClampNeg (by have := m_cl (x := d) (by omega); omega)
      rw [nf22] at s22
      refine lv_astoreN (lv' := [(4, .null), (0, .ref o), (1, .int d), (2, .int i)]) hx hb dX9_element_23 hl (by decide) rfl (fun ls hl => ?_)
      refine lv_aloadN hx hb dX9_element_25 (lv_at hl 0 rfl) ?_
      refine lv_instN hx hb dX9_element_27 ?_
      refine lv_if_eq (tgt := 54) hx hb dX9_element_30 (by decide) (fun c30 => ?_) (fun c30 => ?_)
      · skip
        have d30 := c30
        rw [fa_eq] at d30
        obtain ⟨sa54, hsa54⟩ := hXT.2.2.1 (RX9, 261, "no row with such a place is held there") (by decide)
        exact vx_throwSW (own := RX9) (cls := xIS) (names := [xRT, xEX]) (A := A) (ik := 259) (ic := 263) hx hb hst hown (by decide) (by decide) (hts (.classLink RX9 259 xIS) (by decide +kernel)) (hts (.initialized xIS) (by decide +kernel)) hsa54 (x_hat hts hXT (Or.inr (Or.inl rfl)) (by decide +kernel) (by decide +kernel)) (by decide +kernel) hXT.2.2.2.1 hXT.2.2.2.2 hS (by rw [hml]; exact hl.1) dX9_element_54 dX9_element_57 dX9_element_58 dX9_element_61 dX9_element_64 (fun x9 h9 => (hno x9 h9).elim) (Nat.le_of_ble_eq_true rfl) (Nat.le_of_ble_eq_true rfl) (Nat.le_of_ble_eq_true rfl) (Nat.le_of_ble_eq_true rfl) hlocks (x_thr (G' := G) (ws' := ws) rfl (Or.inr ⟨rfl, b4, (fun z9 => by first | (have y9 := shX_n s22; rw [y9] at z9; exact absurd z9.1 (by decide)) | (have y9 := shX_job s22 hG_x22; rw [y9] at z9; exact absurd z9.1 (by decide)) | (unfold elOk at z9; exact b45 (by omega)))⟩) hP hD hT hS) hS.2.2 (Nat.le_of_ble_eq_true rfl) (Nat.le_of_ble_eq_true rfl)
      · first | exact absurd c30 (by decide) | exact absurd (by decide) c30
    · skip
      have s22 := hS9 d.toNatClampNeg (by have := m_cl (x := d) (by omega); omega)
      rw [nf22] at s22
      refine lv_astore (lv' := [(4, .ref x22), (0, .ref o), (1, .int d), (2, .int i)]) hx hb dX9_element_23 hl (by decide) rfl (fun ls hl => ?_)
      refine lv_aload hx hb dX9_element_25 (lv_at hl 0 rfl) ?_
      obtain ⟨_, hM_x22, b_x22, s_x22, w_x22, h_x22, t_x22, x_x22, y_x22, ms_x22, rfl, hG_b_x22, hG_s_x22, hJ_x22⟩ := hT _ _ hG_x22
      refine t_instRN hx hb hV hown (hts (.classLink RX9 245 RX7) (by decide +kernel)) hK hP hJ_x22.kc hM_x22 dX9_element_27 ?_
      refine lv_if_eq (tgt := 54) hx hb dX9_element_30 (by decide) (fun c30 => ?_) (fun c30 => ?_)
      · skip
        have d30 := c30
        rw [fa_eq] at d30
        obtain ⟨sa54, hsa54⟩ := hXT.2.2.1 (RX9, 261, "no row with such a place is held there") (by decide)
        exact vx_throwSW (own := RX9) (cls := xIS) (names := [xRT, xEX]) (A := A) (ik := 259) (ic := 263) hx hb hst hown (by decide) (by decide) (hts (.classLink RX9 259 xIS) (by decide +kernel)) (hts (.initialized xIS) (by decide +kernel)) hsa54 (x_hat hts hXT (Or.inr (Or.inl rfl)) (by decide +kernel) (by decide +kernel)) (by decide +kernel) hXT.2.2.2.1 hXT.2.2.2.2 hS (by rw [hml]; exact hl.1) dX9_element_54 dX9_element_57 dX9_element_58 dX9_element_61 dX9_element_64 (fun x9 h9 => (hno x9 h9).elim) (Nat.le_of_ble_eq_true rfl) (Nat.le_of_ble_eq_true rfl) (Nat.le_of_ble_eq_true rfl) (Nat.le_of_ble_eq_true rfl) hlocks (x_thr (G' := G) (ws' := ws) rfl (Or.inr ⟨rfl, b4, (fun z9 => by first | (have y9 := shX_n s22; rw [y9] at z9; exact absurd z9.1 (by decide)) | (have y9 := shX_job s22 hG_x22; rw [y9] at z9; exact absurd z9.1 (by decide)) | (unfold elOk at z9; exact b45 (by omega)))⟩) hP hD hT hS) hS.2.2 (Nat.le_of_ble_eq_true rfl) (Nat.le_of_ble_eq_true rfl)
      · first | exact absurd c30 (by decide) | exact absurd (by decide) c30
    · skip
      have s22 := hS9 d.toNatClampNeg (by have := m_cl (x := d) (by omega); omega)
      rw [nf22] at s22
      refine lv_astore (lv' := [(4, .ref x22), (0, .ref o), (1, .int d), (2, .int i)]) hx hb dX9_element_23 hl (by decide) rfl (fun ls hl => ?_)
      refine lv_aload hx hb dX9_element_25 (lv_at hl 0 rfl) ?_
      obtain ⟨_, hM_x22, hn_x22, z_x22, a_x22, rfl, hz_x22, hG_a_x22⟩ := hT _ _ hG_x22
      refine va_instS hx hb hown (hts (.classLink RX9 245 RX7) (by decide +kernel)) (hK.1 6 _ rfl).2 (t_recJ hK hP hM_x22 rfl) dX9_element_27 ?_
      refine lv_if_eq (tgt := 54) hx hb dX9_element_30 (by decide) (fun c30 => ?_) (fun c30 => ?_)
      · first | exact absurd c30 (by decide) | exact absurd (by decide) c30
      · skip
        have d30 := c30
        rw [fa_eq] at d30
        obtain ⟨hx22, z22, f22, hG_ar22, hM_x22, hM_ar22, hn22, hm22, hk22, hf22, hb22⟩ := shX_row s22 hG_x22
        obtain ⟨ar22, har22⟩ : ∃ z, z = sa d.toNatClampNeg := ⟨_, rfl⟩
        rw [← har22] at hG_ar22 hM_x22 hM_ar22
        have hz22 : isBo z22 := hk22.elim (fun y9 => Or.inr y9.1) (fun y9 => Or.inl y9.1)
        refine lv_aload hx hb dX9_element_33 (lv_at hl 0 rfl) ?_
        refine va_castS hx hb hown (hts (.classLink RX9 245 RX7) (by decide +kernel)) (hK.1 6 _ rfl).2 (t_recJ hK hP hM_x22 rfl) dX9_element_35 ?_
        refine lv_astore_n (lv' := [(3, .ref x22), (4, .ref x22), (0, .ref o), (1, .int d), (2, .int i)]) hx hb dX9_element_38 rfl hl (by decide) rfl (fun ls hl => ?_)
        refine lv_aload_n hx hb dX9_element_39 rfl (lv_at hl 0 rfl) ?_
        refine lv_iload_n hx hb dX9_element_40 rfl (lv_at hl 4 rfl) ?_
        refine lv_iconst (v := 1) hx hb dX9_element_41 (by decide) ?_
        refine t_calli (va_runV (g := F0 m 42 ls ([.int (1 : Int32), .int i, .ref x22])) (As := [.int i, .int (1 : Int32)]) (rest := []) ⟨hx, hb, hml, hown, hts⟩ (c_X7_has l D cy A G ws x22 i (1 : Int32) hD hT hG_x22 ) (cwV 2 hts gX9_element_X7_has rfl rfl rfl (by decide +kernel) ⟨Nat.le_of_ble_eq_true rfl, Nat.le_of_ble_eq_true rfl⟩) (c_preV hM_x22 rfl hP hK hA hS hV) rfl rfl hl.1 rfl (lv_room (Nat.le_of_ble_eq_true rfl)) dX9_element_42 ⟨Nat.le_of_ble_eq_true rfl, Nat.le_of_ble_eq_true rfl⟩) hS (fun r42 u H locs q42 hP9 hD9 hT9 hS => ?_)
        obtain ⟨rfl, q42⟩ := q42
        have hP : va_P D vwCl ws H := hP9
        refine lv_if_eq (tgt := 54) hx hb dX9_element_45 (by decide) (fun c45 => ?_) (fun c45 => ?_)
        · skip
          have b45 := bo_f q42 c45
          obtain ⟨sa54, hsa54⟩ := hXT.2.2.1 (RX9, 261, "no row with such a place is held there") (by decide)
          exact vx_throwSW (own := RX9) (cls := xIS) (names := [xRT, xEX]) (A := A) (ik := 259) (ic := 263) hx hb hst hown (by decide) (by decide) (hts (.classLink RX9 259 xIS) (by decide +kernel)) (hts (.initialized xIS) (by decide +kernel)) hsa54 (x_hat hts hXT (Or.inr (Or.inl rfl)) (by decide +kernel) (by decide +kernel)) (by decide +kernel) hXT.2.2.2.1 hXT.2.2.2.2 hS (by rw [hml]; exact hl.1) dX9_element_54 dX9_element_57 dX9_element_58 dX9_element_61 dX9_element_64 (fun x9 h9 => (hno x9 h9).elim) (Nat.le_of_ble_eq_true rfl) (Nat.le_of_ble_eq_true rfl) (Nat.le_of_ble_eq_true rfl) (Nat.le_of_ble_eq_true rfl) hlocks (x_thr (G' := G) (ws' := ws) rfl (Or.inr ⟨rfl, b4, (fun z9 => by first | (have y9 := shX_n s22; rw [y9] at z9; exact absurd z9.1 (by decide)) | (have y9 := shX_job s22 hG_x22; rw [y9] at z9; exact absurd z9.1 (by decide)) | (unfold elOk at z9; exact b45 (by omega)))⟩) hP hD hT hS) hS.2.2 (Nat.le_of_ble_eq_true rfl) (Nat.le_of_ble_eq_true rfl)
        · skip
          have b45 := bo_t q42 c45
          refine lv_aload_n hx hb dX9_element_48 rfl (lv_at hl 0 rfl) ?_
          refine lv_iload_n hx hb dX9_element_49 rfl (lv_at hl 4 rfl) ?_
          refine t_calll (va_runV (g := F0 m 50 ls ([.int i, .ref x22])) (As := [.int i]) (rest := []) ⟨hx, hb, hml, hown, hts⟩ (c_X7_numberAt_x l D cy A G ws x22 i hD hT hG_x22 hM_x22 hM_ar22 (by omega)) (cwV 1 hts gX9_element_X7_numberAt rfl rfl rfl (by decide +kernel) ⟨Nat.le_of_ble_eq_true rfl, Nat.le_of_ble_eq_true rfl⟩) (c_preV hM_x22 rfl hP hK hA hS hV) rfl rfl hl.1 rfl (lv_room (Nat.le_of_ble_eq_true rfl)) dX9_element_50 ⟨Nat.le_of_ble_eq_true rfl, Nat.le_of_ble_eq_true rfl⟩) hS (fun r50 u H locs q50 hP9 hD9 hT9 hS => ?_)
          obtain ⟨rfl, q50⟩ := q50
          have hP : va_P D vwCl ws H := hP9
          refine vx_ret ?_
          refine W.widen (k := 1) (n := 6) (Nat.le_of_ble_eq_true rfl) (Nat.le_of_ble_eq_true rfl) ?_
          exact W.lret (v := r50) hx hb hr (fun t ht hW => ⟨⟨_, (G, ws), rfl, ⟨rfl, ⟨b4, ⟨(by rcases hk22 with ⟨y1, y2⟩ | ⟨y1, y2⟩ <;> (rw [y2]; decide)), (by omega), (by omega)⟩, (by rw [q50]; exact hf22 _ (by have := m_cl (x := i) (by omega); omega))⟩⟩, by show va_P D vwCl ws t.heap; rw [ht]; exact hP, hD, hT⟩, hS.F ht⟩) hS.2.2 dX9_element_53
  · skip
    have b4 := bo_f q1 c4
    obtain ⟨sa7, hsa7⟩ := hXT.2.2.1 (RX9, 250, "no such shelf") (by decide)
    exact vx_throwS (own := RX9) (cls := xIA) (names := [xRT, xEX]) (A := A) (ik := 223) (ic := 227) hx hb hst hown (by decide) (by decide) (hts (.classLink RX9 223 xIA) (by decide +kernel)) (hts (.initialized xIA) (by decide +kernel)) hsa7 (x_hat hts hXT (Or.inl rfl) (by decide +kernel) (by decide +kernel)) (by decide +kernel) hXT.2.2.2.1 hXT.2.2.2.2 hS (by rw [hml]; exact hl.1) dX9_element_7 dX9_element_10 dX9_element_11 dX9_element_13 dX9_element_16 (fun x9 h9 => (hno x9 h9).elim) (Nat.le_of_ble_eq_true rfl) (Nat.le_of_ble_eq_true rfl) (Nat.le_of_ble_eq_true rfl) (Nat.le_of_ble_eq_true rfl) hlocks (x_thr (G' := G) (ws' := ws) rfl (Or.inl ⟨rfl, b4⟩) hP hD hT hS) hS.2.2 (Nat.le_of_ble_eq_true rfl) (Nat.le_of_ble_eq_true rfl)
set_option maxHeartbeats 4000000 in
set_option maxRecDepth 100000 in
theorem c_L_element_x (l : Launch) (hst : l.stackTraces = false) (D : va_G) (cy : Nat → ClassId) (A : Nat → Prop) (G : cG) (ws : va_W) (xb : Nat) (p0 : Int32) (p1 : Int32) (ou : Nat) {bs_o js_o sh_o wk_o ll_o : Nat} {jc_o lc_o : Int32} {mo_o lb_o : Option Nat} {fb : Nat → Option Nat} {sx sa : Nat → Nat} {kS9 zS9 : Nat → Int32} {rS9 : Nat → Nat → Int64} (hD : va_D A ws) (hT : cT cy G ws) (hG_xb : G xb = some (7, 0, 0)) (hM_xb : cIn ws xb (.inr (8, [.ref bs_o, .ref js_o, .int jc_o, .ref sh_o, .ref wk_o, va_rf mo_o, .ref ll_o, .int lc_o, va_rf lb_o]))) (hG_ou : G ou = some (1, 1, 0)) (hM_sh_o : cIn ws sh_o (.inl (cy 5, cqa 8 fb))) (hS9 : ∀ i9, i9 < 8 → shX cy G ws (fb i9) (sx i9) (sa i9) (kS9 i9) (zS9 i9) (rS9 i9)) : Yi l D cy A yL_element wsL_element ({ frames := 7, cells := 1, slots := 6, locals := 114 }) 1 6 ws [.ref xb, .int p0, .int p1, .ref ou] (fun r0 u => cX none (chs [1]) G ws u.1 u.2 ∧ ((r0 = 1 ∧ ¬ okSh p0) ∨ (r0 = 2 ∧ okSh p0 ∧ ¬ elOk (kS9 p0.toNatClampNeg) (zS9 p0.toNatClampNeg) p1) ∨ (r0 = 0 ∧ okSh p0 ∧ elOk (kS9 p0.toNatClampNeg) (zS9 p0.toNatClampNeg) p1 ∧ ∃ w : Nat → Int64, cIn u.2 ou (.inl (cy 1, 1, .inr (.inl w))) ∧ w 0 = rS9 p0.toNatClampNeg p1.toNatClampNeg))) := by
  refine va_MetW (cc := cL_element) (maxL := 5) (ret := (some .int)) (by decide) rfl ?_
  intro p e s m args below meth c s₁ B hml hv
  obtain ⟨rfl, ⟨hP, hK, hA, hV⟩, hZ, hXT⟩ := hv
  have hx := B.exec
  have hb := B.bytes
  have hr := B.returns
  have hts := atoms_spec (ws := wsL_element) B.pre
  have hown : s.vm.findClass RL = some m.cls := findClass_of_methodNamed B.named
  have hlocks := B.notSynchronized
  have htab := vx_table (x := yL_element) B (hts (.codeWith yL_element cL_element 5 (some .int) [(0, 9, 12, 13), (0, 9, 16, 15)]) (by decide +kernel))
  have hS : va_S A s.heap s.heap [] := va_S.rf
  have hX : cX none (chs [1]) G ws G ws := cX.rf
  have hl := lv_entry ([.ref xb, .int p0, .int p1, .ref ou]) (n := 5) (Nat.le_of_ble_eq_true rfl)
  rw [lg_entry_eq]
  generalize (lg_sl ([.ref xb, .int p0, .int p1, .ref ou]) ++ List.replicate (5 - (lg_sl ([.ref xb, .int p0, .int p1, .ref ou])).length) Slot.unset).toArray = ls at hl ⊢
  have hl : lv_has ls 5 [(0, .ref xb), (1, .int p0), (2, .int p1), (3, .ref ou)] := hl
  have k_0 : (0 : Int32).toInt = 0 := by decide
  have k_1 : (1 : Int32).toInt = 1 := by decide
  have k_2 : (2 : Int32).toInt = 2 := by decide
  obtain ⟨hjc_o, hlc_o, hG_bs_o, hG_js_o, hG_sh_o, hG_wk_o, hmo_o, hG_ll_o, hlb_o⟩ := w7sh hD hT hG_xb hM_xb
  have hf_sh_o := w10sh hD hT hG_sh_o hM_sh_o
  refine lv_aload_n hx hb dL_element_0 rfl (lv_at hl 3 rfl) ?_
  refine lv_iconst (v := 0) hx hb dL_element_1 (by decide) ?_
  refine lv_aload_n hx hb dL_element_2 rfl (lv_at hl 0 rfl) ?_
  refine lv_iload_n hx hb dL_element_3 rfl (lv_at hl 1 rfl) ?_
  refine lv_iload_n hx hb dL_element_4 rfl (lv_at hl 2 rfl) ?_
  refine x_calll (vx_runV (g := F0 m 5 ls ([.int p1, .int p0, .ref xb, .int (0 : Int32), .ref ou])) (As := [.int p0, .int p1]) (rest := [.int (0 : Int32), .ref ou]) ⟨hx, hb, hml, hown, hts⟩ (c_X9_element_x l hst D cy A G ws xb p0 p1 hD hT hG_xb hM_xb hM_sh_o hS9) (cwV 2 hts gL_element_X9_element rfl rfl rfl (by decide +kernel) ⟨Nat.le_of_ble_eq_true rfl, Nat.le_of_ble_eq_true rfl⟩) (x_preV hM_xb rfl hP hK hA hS hV hZ hXT) rfl rfl hl.1 rfl (lv_room (Nat.le_of_ble_eq_true rfl)) dL_element_5 ⟨Nat.le_of_ble_eq_true rfl, Nat.le_of_ble_eq_true rfl⟩) hS (fun E9 ce9 q9 u H locs px9 pe9 hP9 hD9 hT9 hS hc9 hv9 hcl9 => ?_) (fun r5 u H locs q5 hP9 hD9 hT9 hS => ?_)
  · skip
    obtain rfl := px9
    have hP : va_P D vwCl ws H := hP9
    rcases pe9 with ⟨rfl, np9⟩ | ⟨rfl, np9⟩
    · skip
      refine vx_catch (own := RL) (name := xIA) (E := xIA) hown [] ⟨0, 9, 12, 13⟩ [⟨0, 9, 16, 15⟩] htab (fun z9 h9 => by simp at h9) (by decide) (by decide) (hts (.classLink RL 13 xIA) (by decide +kernel)) (hXT.1.2.1.use rfl) hc9 hv9 hcl9 ?_
      refine lv_astore (lv' := [(4, .ref q9), (0, .ref xb), (1, .int p0), (2, .int p1), (3, .ref ou)]) hx hb dL_element_12 hl (by decide) rfl (fun ls hl => ?_)
      refine lv_iconst (v := 1) hx hb dL_element_14 (by decide) ?_
      refine W.widen (k := 1) (n := 6) (Nat.le_of_ble_eq_true rfl) (Nat.le_of_ble_eq_true rfl) ?_
      exact W.iret (v := (1 : Int32)) hx hb hr (fun t ht hW => ⟨⟨_, (G, ws), rfl, ⟨hX, Or.inl ⟨rfl, np9⟩⟩, by show va_P D vwCl ws t.heap; rw [ht]; exact hP, hD, hT⟩, hS.F ht⟩) hS.2.2 dL_element_15
    · skip
      refine vx_catch (own := RL) (name := xIS) (E := xIS) hown [⟨0, 9, 12, 13⟩] ⟨0, 9, 16, 15⟩ [] htab (fun z9 h9 => by rcases List.mem_cons.mp h9 with rfl | h9; exact Or.inr ⟨by decide, xIA, hts (.classLink RL 13 xIA) (by decide +kernel), hXT.2.1.2.2.2⟩; simp at h9) (by decide) (by decide) (hts (.classLink RL 15 xIS) (by decide +kernel)) (hXT.1.2.2.1.use rfl) hc9 hv9 hcl9 ?_
      refine lv_astore (lv' := [(4, .ref q9), (0, .ref xb), (1, .int p0), (2, .int p1), (3, .ref ou)]) hx hb dL_element_16 hl (by decide) rfl (fun ls hl => ?_)
      refine lv_iconst (v := 2) hx hb dL_element_18 (by decide) ?_
      refine W.widen (k := 1) (n := 6) (Nat.le_of_ble_eq_true rfl) (Nat.le_of_ble_eq_true rfl) ?_
      exact W.iret (v := (2 : Int32)) hx hb hr (fun t ht hW => ⟨⟨_, (G, ws), rfl, ⟨hX, Or.inr (Or.inl ⟨rfl, np9⟩)⟩, by show va_P D vwCl ws t.heap; rw [ht]; exact hP, hD, hT⟩, hS.F ht⟩) hS.2.2 dL_element_19
  obtain ⟨rfl, q5⟩ := q5
  have hP : va_P D vwCl ws H := hP9
  refine t_lastf hx hb hK hP hD hS hT hG_ou (vp_in_iff.mpr ⟨by omega, by omega⟩) dL_element_8 (fun H locs w8 hU8 hc8 hP hD hT hS => ?_)
  have hM_xb := hU8 _ _ (cne hG_xb hG_ou (show (7 : Nat) ≠ 1 by decide)) hM_xb
  have hM_sh_o := hU8 _ _ (cne hG_sh_o hG_ou (show (10 : Nat) ≠ 1 by decide)) hM_sh_o
  have hX := hX.tr (cX.uF hU8 (Or.inr ⟨_, hG_ou, rfl⟩))
  refine lv_goto (tgt := 20) hx hb dL_element_9 (by decide) ?_
  refine lv_iconst (v := 0) hx hb dL_element_20 (by decide) ?_
  refine W.widen (k := 1) (n := 6) (Nat.le_of_ble_eq_true rfl) (Nat.le_of_ble_eq_true rfl) ?_
  exact W.iret (v := (0 : Int32)) hx hb hr (fun t ht hW => ⟨⟨_, (G, w8), rfl, ⟨hX, Or.inr (Or.inr ⟨rfl, q5.1, q5.2.1, (by obtain ⟨w, h1, h2⟩ := hc8; exact ⟨w, h1, (by have h3 : w 0 = _ := h2; rw [h3]; exact q5.2.2)⟩)⟩)⟩, by show va_P D vwCl w8 t.heap; rw [ht]; exact hP, hD, hT⟩, hS.F ht⟩) hS.2.2 dL_element_21
