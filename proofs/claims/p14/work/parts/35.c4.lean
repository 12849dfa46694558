
theorem nI_back {x : Int32} (h : 0 ≤ x.toInt) : nI x.toNatClampNeg = x := by
  obtain ⟨k, hk, rfl⟩ := nI_of (x := x) (fun z => by rw [fa_lt] at z; have : (0 : Int32).toInt = 0 := rfl; omega)
  rw [nI_clamp hk]
theorem c_X0_init_i (l : Launch) (D : va_G) (cy : Nat → ClassId) (A : Nat → Prop) (G : cG) (ws : va_W) (o : Nat) (wi hi : Int32) (hD : va_D A ws) (hT : cT cy G ws) (hO_o : G o = none) (hM_o : cIn ws o (.inr (0, [.int 0, .int 0, .int 0, .int 0, .int 0, .null, .null, .null]))) (hb1 : (1 ≤ wi.toInt ∧ wi.toInt ≤ 6) ∧ 1 ≤ hi.toInt ∧ hi.toInt ≤ 6) : Cv l D cy A yX0_init wsX0_init ({ frames := 3, cells := 3, slots := 494, locals := 71 }) 3 494 ws [.ref o, .int wi, .int hi] (fun u => cX (some o) (chs [1]) G ws u.1 u.2 ∧ u.1 o = some (2, wi.toNatClampNeg, hi.toNatClampNeg) ∧ True) := by
  have e1 := m_cl (x := wi) (by omega)
  have e2 := m_cl (x := hi) (by omega)
  have h := c_X0_init l D cy A G ws o wi.toNatClampNeg hi.toNatClampNeg hD hT hO_o hM_o (by omega)
  rw [nI_back (by omega), nI_back (by omega)] at h
  exact h
theorem c_X7_init_i (l : Launch) (D : va_G) (cy : Nat → ClassId) (A : Nat → Prop) (G : cG) (ws : va_W) (o : Nat) (z : Int32) (ni : Int32) (hD : va_D A ws) (hT : cT cy G ws) (hO_o : G o = none) (hM_o : cIn ws o (.inr (6, [.int 0, .null]))) (hz_z : isBo z) (hn1 : 0 ≤ ni.toInt ∧ ni.toInt ≤ 60) : Cv l D cy A yX7_init wsX7_init ({ frames := 2, cells := 1, slots := 60, locals := 40 }) 1 60 ws [.ref o, .int z, .int ni] (fun u => cX (some o) (chs []) G ws u.1 u.2 ∧ u.1 o = some (4, ni.toNatClampNeg, 0) ∧ True) := by
  have e1 := m_cl (x := ni) (by omega)
  have h := c_X7_init l D cy A G ws o z ni.toNatClampNeg hD hT hO_o hM_o hz_z (by omega)
  rw [nI_back (by omega)] at h
  exact h
set_option maxHeartbeats 4000000 in
set_option maxRecDepth 100000 in
theorem c_X9_isWay (l : Launch) (w0 : Int32)  : Pu l yX9_isWay wsX9_isWay ({ frames := 0, cells := 0, slots := 0, locals := 0 }) [.int w0] (fun r => Bo r (0 ≤ w0.toInt ∧ w0.toInt < 4)) := by
  refine Met.ofW (cc := cX9_isWay) (maxL := 1) (ret := (some .boolean)) (by decide) rfl ?_
  intro p e s m args below meth c s₁ B hml hv
  obtain ⟨rfl, -⟩ := hv
  have hx := B.exec
  have hb := B.bytes
  have hr := B.returns
  have hts := atoms_spec (ws := wsX9_isWay) B.pre
  have hown : s.vm.findClass RX9 = some m.cls := findClass_of_methodNamed B.named
  have hlocks := B.notSynchronized
  have hS : va_S (fun _ => False) s.heap s.heap [] := va_S.rf
  have hl := lv_entry ([.int w0]) (n := 1) (Nat.le_of_ble_eq_true rfl)
  rw [lg_entry_eq]
  generalize (lg_sl ([.int w0]) ++ List.replicate (1 - (lg_sl ([.int w0])).length) Slot.unset).toArray = ls at hl ⊢
  have hl : lv_has ls 1 [(0, .int w0)] := hl
  have hS0 := hS
  have k_0 : (0 : Int32).toInt = 0 := by decide
  have k_1 : (1 : Int32).toInt = 1 := by decide
  have k_4 : (4 : Int32).toInt = 4 := by decide
  refine lv_iload_n hx hb dX9_isWay_0 rfl (lv_at hl 0 rfl) ?_
  refine lv_if_lt (tgt := 13) hx hb dX9_isWay_1 (by decide) (fun c1 => ?_) (fun c1 => ?_)
  · skip
    have d1 := c1
    rw [fa_lt] at d1
    refine lv_iconst (v := 0) hx hb dX9_isWay_13 (by decide) ?_
    exact W.zret (v := (0 : Int32)) hx hb hr (by decide) (fun t ht hW => ⟨⟨_, (), rfl, Or.inr ⟨rfl, by omega⟩, trivial⟩, hS.F ht⟩) hS.2.2 dX9_isWay_14
  · skip
    have d1 := c1
    rw [fa_lt] at d1
    refine lv_iload_n hx hb dX9_isWay_4 rfl (lv_at hl 0 rfl) ?_
    refine lv_iconst (v := 4) hx hb dX9_isWay_5 (by decide) ?_
    refine lv_icmp_ge (tgt := 13) hx hb dX9_isWay_6 (by decide) (fun c6 => ?_) (fun c6 => ?_)
    · skip
      have d6 := c6
      rw [fa_le] at d6
      refine lv_iconst (v := 0) hx hb dX9_isWay_13 (by decide) ?_
      exact W.zret (v := (0 : Int32)) hx hb hr (by decide) (fun t ht hW => ⟨⟨_, (), rfl, Or.inr ⟨rfl, by omega⟩, trivial⟩, hS.F ht⟩) hS.2.2 dX9_isWay_14
    · skip
      have d6 := c6
      rw [fa_le] at d6
      refine lv_iconst (v := 1) hx hb dX9_isWay_9 (by decide) ?_
      refine lv_goto (tgt := 14) hx hb dX9_isWay_10 (by decide) ?_
      exact W.zret (v := (1 : Int32)) hx hb hr (by decide) (fun t ht hW => ⟨⟨_, (), rfl, Or.inl ⟨rfl, by omega⟩, trivial⟩, hS.F ht⟩) hS.2.2 dX9_isWay_14
set_option maxHeartbeats 4000000 in
set_option maxRecDepth 100000 in
theorem c_X9_isShelf (l : Launch) (d : Int32)  : Pu l yX9_isShelf wsX9_isShelf ({ frames := 0, cells := 0, slots := 0, locals := 0 }) [.int d] (fun r => Bo r (0 ≤ d.toInt ∧ d.toInt < 8)) := by
  refine Met.ofW (cc := cX9_isShelf) (maxL := 1) (ret := (some .boolean)) (by decide) rfl ?_
  intro p e s m args below meth c s₁ B hml hv
  obtain ⟨rfl, -⟩ := hv
  have hx := B.exec
  have hb := B.bytes
  have hr := B.returns
  have hts := atoms_spec (ws := wsX9_isShelf) B.pre
  have hown : s.vm.findClass RX9 = some m.cls := findClass_of_methodNamed B.named
  have hlocks := B.notSynchronized
  have hS : va_S (fun _ => False) s.heap s.heap [] := va_S.rf
  have hl := lv_entry ([.int d]) (n := 1) (Nat.le_of_ble_eq_true rfl)
  rw [lg_entry_eq]
  generalize (lg_sl ([.int d]) ++ List.replicate (1 - (lg_sl ([.int d])).length) Slot.unset).toArray = ls at hl ⊢
  have hl : lv_has ls 1 [(0, .int d)] := hl
  have hS0 := hS
  have k_0 : (0 : Int32).toInt = 0 := by decide
  have k_1 : (1 : Int32).toInt = 1 := by decide
  have k_8 : (8 : Int32).toInt = 8 := by decide
  refine lv_iload_n hx hb dX9_isShelf_0 rfl (lv_at hl 0 rfl) ?_
  refine lv_if_lt (tgt := 14) hx hb dX9_isShelf_1 (by decide) (fun c1 => ?_) (fun c1 => ?_)
  · skip
    have d1 := c1
    rw [fa_lt] at d1
    refine lv_iconst (v := 0) hx hb dX9_isShelf_14 (by decide) ?_
    exact W.zret (v := (0 : Int32)) hx hb hr (by decide) (fun t ht hW => ⟨⟨_, (), rfl, Or.inr ⟨rfl, by omega⟩, trivial⟩, hS.F ht⟩) hS.2.2 dX9_isShelf_15
  · skip
    have d1 := c1
    rw [fa_lt] at d1
    refine lv_iload_n hx hb dX9_isShelf_4 rfl (lv_at hl 0 rfl) ?_
    refine lv_bipush (v := 8) hx hb dX9_isShelf_5 (by decide) ?_
    refine lv_icmp_ge (tgt := 14) hx hb dX9_isShelf_7 (by decide) (fun c7 => ?_) (fun c7 => ?_)
    · skip
      have d7 := c7
      rw [fa_le] at d7
      refine lv_iconst (v := 0) hx hb dX9_isShelf_14 (by decide) ?_
      exact W.zret (v := (0 : Int32)) hx hb hr (by decide) (fun t ht hW => ⟨⟨_, (), rfl, Or.inr ⟨rfl, by omega⟩, trivial⟩, hS.F ht⟩) hS.2.2 dX9_isShelf_15
    · skip
      have d7 := c7
      rw [fa_le] at d7
      refine lv_iconst (v := 1) hx hb dX9_isShelf_10 (by decide) ?_
      refine lv_goto (tgt := 15) hx hb dX9_isShelf_11 (by decide) ?_
      exact W.zret (v := (1 : Int32)) hx hb hr (by decide) (fun t ht hW => ⟨⟨_, (), rfl, Or.inl ⟨rfl, by omega⟩, trivial⟩, hS.F ht⟩) hS.2.2 dX9_isShelf_15
set_option maxHeartbeats 4000000 in
set_option maxRecDepth 100000 in
theorem c_X9_isGhostSet (l : Launch) (w0 : Int32)  : Pu l yX9_isGhostSet wsX9_isGhostSet ({ frames := 0, cells := 0, slots := 0, locals := 0 }) [.int w0] (fun r => Bo r (0 < w0.toInt ∧ w0.toInt < 16)) := by
  refine Met.ofW (cc := cX9_isGhostSet) (maxL := 1) (ret := (some .boolean)) (by decide) rfl ?_
  intro p e s m args below meth c s₁ B hml hv
  obtain ⟨rfl, -⟩ := hv
  have hx := B.exec
  have hb := B.bytes
  have hr := B.returns
  have hts := atoms_spec (ws := wsX9_isGhostSet) B.pre
  have hown : s.vm.findClass RX9 = some m.cls := findClass_of_methodNamed B.named
  have hlocks := B.notSynchronized
  have hS : va_S (fun _ => False) s.heap s.heap [] := va_S.rf
  have hl := lv_entry ([.int w0]) (n := 1) (Nat.le_of_ble_eq_true rfl)
  rw [lg_entry_eq]
  generalize (lg_sl ([.int w0]) ++ List.replicate (1 - (lg_sl ([.int w0])).length) Slot.unset).toArray = ls at hl ⊢
  have hl : lv_has ls 1 [(0, .int w0)] := hl
  have hS0 := hS
  have k_0 : (0 : Int32).toInt = 0 := by decide
  have k_1 : (1 : Int32).toInt = 1 := by decide
  have k_16 : (16 : Int32).toInt = 16 := by decide
  refine lv_iload_n hx hb dX9_isGhostSet_0 rfl (lv_at hl 0 rfl) ?_
  refine lv_if_le (tgt := 14) hx hb dX9_isGhostSet_1 (by decide) (fun c1 => ?_) (fun c1 => ?_)
  · skip
    have d1 := c1
    rw [fa_le] at d1
    refine lv_iconst (v := 0) hx hb dX9_isGhostSet_14 (by decide) ?_
    exact W.zret (v := (0 : Int32)) hx hb hr (by decide) (fun t ht hW => ⟨⟨_, (), rfl, Or.inr ⟨rfl, by omega⟩, trivial⟩, hS.F ht⟩) hS.2.2 dX9_isGhostSet_15
  · skip
    have d1 := c1
    rw [fa_le] at d1
    refine lv_iload_n hx hb dX9_isGhostSet_4 rfl (lv_at hl 0 rfl) ?_
    refine lv_bipush (v := 16) hx hb dX9_isGhostSet_5 (by decide) ?_
    refine lv_icmp_ge (tgt := 14) hx hb dX9_isGhostSet_7 (by decide) (fun c7 => ?_) (fun c7 => ?_)
    · skip
      have d7 := c7
      rw [fa_le] at d7
      refine lv_iconst (v := 0) hx hb dX9_isGhostSet_14 (by decide) ?_
      exact W.zret (v := (0 : Int32)) hx hb hr (by decide) (fun t ht hW => ⟨⟨_, (), rfl, Or.inr ⟨rfl, by omega⟩, trivial⟩, hS.F ht⟩) hS.2.2 dX9_isGhostSet_15
    · skip
      have d7 := c7
      rw [fa_le] at d7
      refine lv_iconst (v := 1) hx hb dX9_isGhostSet_10 (by decide) ?_
      refine lv_goto (tgt := 15) hx hb dX9_isGhostSet_11 (by decide) ?_
      exact W.zret (v := (1 : Int32)) hx hb hr (by decide) (fun t ht hW => ⟨⟨_, (), rfl, Or.inl ⟨rfl, by omega⟩, trivial⟩, hS.F ht⟩) hS.2.2 dX9_isGhostSet_15
set_option maxHeartbeats 4000000 in
set_option maxRecDepth 100000 in
theorem c_X9_boardOf (l : Launch) (D : va_G) (cy : Nat → ClassId) (A : Nat → Prop) (G : cG) (ws : va_W) (o : Nat) (wide : Int32) (high : Int32)  (hD : va_D A ws) (hT : cT cy G ws) (hG_o : G o = some (7, 0, 0))  : Ca l D cy A yX9_boardOf wsX9_boardOf ({ frames := 4, cells := 4, slots := 502, locals := 93 }) 4 502 ws [.ref o, .int wide, .int high] (fun r0 u => cX none (chs [1, 8]) G ws u.1 u.2 ∧ (∀ x, r0 = some x → u.1 x = some (2, wide.toNatClampNeg, high.toNatClampNeg))) := by
  refine Met.ofW (cc := cX9_boardOf) (maxL := 4) (ret := (some (.object "ShadowBench$Board"))) (by decide) rfl ?_
  intro p e s m args below meth c s₁ B hml hv
  obtain ⟨rfl, hP, hK, hA, hV⟩ := hv
  have hx := B.exec
  have hb := B.bytes
  have hr := B.returns
  have hts := atoms_spec (ws := wsX9_boardOf) B.pre
  have hown : s.vm.findClass RX9 = some m.cls := findClass_of_methodNamed B.named
  have hlocks := B.notSynchronized
  have hS : va_S A s.heap s.heap [] := va_S.rf
  have hX : cX none (chs [1, 8]) G ws G ws := cX.rf
  have hl := lv_entry ([.ref o, .int wide, .int high]) (n := 4) (Nat.le_of_ble_eq_true rfl)
  rw [lg_entry_eq]
  generalize (lg_sl ([.ref o, .int wide, .int high]) ++ List.replicate (4 - (lg_sl ([.ref o, .int wide, .int high])).length) Slot.unset).toArray = ls at hl ⊢
  have hl : lv_has ls 4 [(0, .ref o), (1, .int wide), (2, .int high)] := hl
  have k_0 : (0 : Int32).toInt = 0 := by decide
  have k_1 : (1 : Int32).toInt = 1 := by decide
  have k_6 : (6 : Int32).toInt = 6 := by decide
  refine lv_iload_n hx hb dX9_boardOf_0 rfl (lv_at hl 1 rfl) ?_
  refine lv_iconst (v := 1) hx hb dX9_boardOf_1 (by decide) ?_
  refine lv_icmp_lt (tgt := 22) hx hb dX9_boardOf_2 (by decide) (fun c2 => ?_) (fun c2 => ?_)
  · skip
    have d2 := c2
    rw [fa_lt] at d2
    refine lv_null hx hb dX9_boardOf_22 ?_
    refine W.widen (k := 4) (n := 502) (Nat.le_of_ble_eq_true rfl) (Nat.le_of_ble_eq_true rfl) ?_
    exact W.aret (v := .null) hx hb hr (Or.inl ⟨_, rfl⟩) (Or.inl rfl) (fun t ht hW => ⟨⟨none, (G, ws), rfl, ⟨hX, fun _ z => nomatch z⟩, by show va_P D vwCl ws t.heap; rw [ht]; exact hP, hD, hT⟩, hS.F ht⟩) hS.2.2 dX9_boardOf_23
  · skip
    have d2 := c2
    rw [fa_lt] at d2
    refine lv_iload_n hx hb dX9_boardOf_5 rfl (lv_at hl 1 rfl) ?_
    refine lv_bipush (v := 6) hx hb dX9_boardOf_6 (by decide) ?_
    refine lv_icmp_gt (tgt := 22) hx hb dX9_boardOf_8 (by decide) (fun c8 => ?_) (fun c8 => ?_)
    · skip
      have d8 := c8
      rw [fa_lt] at d8
      refine lv_null hx hb dX9_boardOf_22 ?_
      refine W.widen (k := 4) (n := 502) (Nat.le_of_ble_eq_true rfl) (Nat.le_of_ble_eq_true rfl) ?_
      exact W.aret (v := .null) hx hb hr (Or.inl ⟨_, rfl⟩) (Or.inl rfl) (fun t ht hW => ⟨⟨none, (G, ws), rfl, ⟨hX, fun _ z => nomatch z⟩, by show va_P D vwCl ws t.heap; rw [ht]; exact hP, hD, hT⟩, hS.F ht⟩) hS.2.2 dX9_boardOf_23
    · skip
      have d8 := c8
      rw [fa_lt] at d8
      refine lv_iload_n hx hb dX9_boardOf_11 rfl (lv_at hl 2 rfl) ?_
      refine lv_iconst (v := 1) hx hb dX9_boardOf_12 (by decide) ?_
      refine lv_icmp_lt (tgt := 22) hx hb dX9_boardOf_13 (by decide) (fun c13 => ?_) (fun c13 => ?_)
      · skip
        have d13 := c13
        rw [fa_lt] at d13
        refine lv_null hx hb dX9_boardOf_22 ?_
        refine W.widen (k := 4) (n := 502) (Nat.le_of_ble_eq_true rfl) (Nat.le_of_ble_eq_true rfl) ?_
        exact W.aret (v := .null) hx hb hr (Or.inl ⟨_, rfl⟩) (Or.inl rfl) (fun t ht hW => ⟨⟨none, (G, ws), rfl, ⟨hX, fun _ z => nomatch z⟩, by show va_P D vwCl ws t.heap; rw [ht]; exact hP, hD, hT⟩, hS.F ht⟩) hS.2.2 dX9_boardOf_23
      · skip
        have d13 := c13
        rw [fa_lt] at d13
        refine lv_iload_n hx hb dX9_boardOf_16 rfl (lv_at hl 2 rfl) ?_
        refine lv_bipush (v := 6) hx hb dX9_boardOf_17 (by decide) ?_
        refine lv_icmp_le (tgt := 24) hx hb dX9_boardOf_19 (by decide) (fun c19 => ?_) (fun c19 => ?_)
        · skip
          have d19 := c19
          rw [fa_le] at d19
          refine lv_iload_n hx hb dX9_boardOf_24 rfl (lv_at hl 2 rfl) ?_
          refine lv_iconst (v := 1) hx hb dX9_boardOf_25 (by decide) ?_
          refine lv_isub hx hb dX9_boardOf_26 ?_
          refine lv_topi (fun v26 e26 => ?_)
          have i26 : v26.toInt = high.toInt - (1 : Int32).toInt := by rw [e26]; exact fb_subI (by omega) (by omega)
          refine lv_bipush (v := 6) hx hb dX9_boardOf_27 (by decide) ?_
          refine lv_imul hx hb dX9_boardOf_29 ?_
          refine lv_topi (fun v29 e29 => ?_)
          have i29 : v29.toInt = v26.toInt * 6 := by rw [e29]; exact mulcR rfl (by omega) (by omega)
          refine lv_iload_n hx hb dX9_boardOf_30 rfl (lv_at hl 1 rfl) ?_
          refine lv_iadd hx hb dX9_boardOf_31 ?_
          refine lv_topi (fun v31 e31 => ?_)
          have i31 : v31.toInt = v29.toInt + wide.toInt := by rw [e31]; exact fb_addI (by omega) (by omega)
          refine lv_iconst (v := 1) hx hb dX9_boardOf_32 (by decide) ?_
          refine lv_isub hx hb dX9_boardOf_33 ?_
          refine lv_topi (fun v33 e33 => ?_)
          have i33 : v33.toInt = v31.toInt - (1 : Int32).toInt := by rw [e33]; exact fb_subI (by omega) (by omega)
          refine lv_istore_n (lv' := [(3, .int v33), (0, .ref o), (1, .int wide), (2, .int high)]) hx hb dX9_boardOf_34 rfl hl (by decide) rfl (fun ls hl => ?_)
          have e9 := m_cl (x := v33) (by omega)
          have f9 := m_cl (x := wide) (by omega)
          have g9 := m_cl (x := high) (by omega)
          have e1 : v33.toNatClampNeg % 6 + 1 = wide.toNatClampNeg := by omega
          have e2 : v33.toNatClampNeg / 6 + 1 = high.toNatClampNeg := by omega
          refine lv_aload_n hx hb dX9_boardOf_35 rfl (lv_at hl 1 rfl) ?_
          obtain ⟨_, hM_o, bs_o, js_o, sh_o, wk_o, ll_o, jc_o, lc_o, mo_o, lb_o, rfl, hjc_o, hlc_o, hG_bs_o, hG_js_o, hG_sh_o, hG_wk_o, hmo_o, hG_ll_o, hlb_o⟩ := hT _ _ hG_o
          refine t_get (v := .ref bs_o) (C := RX9) (T := TX9) (N := 9) hx hb hts (by decide +kernel) hown hK hP hM_o rfl 0 (by decide) (hts (.fieldLink RX9 9 "ShadowBench" "boards" "[LShadowBench$Board;") (by decide +kernel)) (fun _ h9 => h9) rfl dX9_boardOf_36 ?_
          refine lv_iload_n hx hb dX9_boardOf_39 rfl (lv_at hl 0 rfl) ?_
          refine t_aald8 hx hb hK hP hT hG_bs_o (vp_in_iff.mpr ⟨by omega, by omega⟩) dX9_boardOf_40 ?_ (fun x40 hG_x40 => ?_)
          · skip
            refine lv_ifnonnullN hx hb dX9_boardOf_41 ?_
            refine lv_aload_n hx hb dX9_boardOf_44 rfl (lv_at hl 1 rfl) ?_
            refine t_get (v := .ref bs_o) (C := RX9) (T := TX9) (N := 9) hx hb hts (by decide +kernel) hown hK hP hM_o rfl 0 (by decide) (hts (.fieldLink RX9 9 "ShadowBench" "boards" "[LShadowBench$Board;") (by decide +kernel)) (fun _ h9 => h9) rfl dX9_boardOf_45 ?_
            refine lv_iload_n hx hb dX9_boardOf_48 rfl (lv_at hl 0 rfl) ?_
            refine t_new (C := RX0) (T := TX0) (N := 8) (ci := 0) (ty0 := tyX0) (fs := [.int 0, .int 0, .int 0, .int 0, .int 0, .null, .null, .null]) hx hb hts (by decide +kernel) tyX0_ok hown (hts (.classLink RX9 7 RX0) (by decide +kernel)) (hts (.instantiable RX0 8) (by decide +kernel)) (hts (.initialized RX0) (by decide +kernel)) hK hP hD hS hA hT rfl (by decide +kernel) (Nat.le_of_ble_eq_true rfl) (Nat.le_of_ble_eq_true rfl) dX9_boardOf_49 (fun q49 H w49 hM_q49 hO_q49 hF49 hX49 hk49 hP hD hT hS => ?_)
            have hN_q49 := hX.new0 hO_q49 hF49
            have hM_o := hk49 _ _ hM_o
            have hX := hX.tr (hX49 _ _)
            refine lv_dup hx hb dX9_boardOf_52 rfl ?_
            refine lv_iload_n hx hb dX9_boardOf_53 rfl (lv_at hl 2 rfl) ?_
            refine lv_iload_n hx hb dX9_boardOf_54 rfl (lv_at hl 3 rfl) ?_
            refine t_callv (va_runI (g := F0 m 55 ls ([.int high, .int wide, .ref q49, .ref q49, .int v33, .ref bs_o])) (As := [.int wide, .int high]) (rest := [.ref q49, .int v33, .ref bs_o]) (b := q49) ⟨hx, hb, hml, hown, hts⟩ (c_X0_init_i l D cy A G w49 q49 wide high hD hT hO_q49 hM_q49 (by omega)) (cwI 2 hts gX9_boardOf_X0_init rfl rfl rfl (hts (.initialized RX0) (by decide +kernel)) (hts (.methodLink RX9 290 yX0_init) (by decide +kernel)) (hts (.instanceMethod yX0_init) (by decide +kernel)) rfl (by decide +kernel) ⟨Nat.le_of_ble_eq_true rfl, Nat.le_of_ble_eq_true rfl⟩) (c_preS hP hK hA hS hV) rfl rfl hl.1 rfl (lv_room (Nat.le_of_ble_eq_true rfl)) dX9_boardOf_55 ⟨Nat.le_of_ble_eq_true rfl, Nat.le_of_ble_eq_true rfl⟩) hS (fun u H locs q55 hP9 hD9 hT9 hS => ?_)
            obtain ⟨G55, w55⟩ := u
            obtain ⟨hX9, q55⟩ := q55
            have hX9 : cX (some q49) (chs [1]) G w49 G55 w55 := hX9
            have hP : va_P D vwCl w55 H := hP9
            have hD : va_D A w55 := hD9
            have hT : cT cy G55 w55 := hT9
            have hM_o := hX9.2.1 _ _ (cP.no1 (Ne.symm (cne0 hO_q49 hG_o)) hG_o rfl) hM_o
            have hG_o := hX9.1 _ _ hG_o
            have hG_bs_o := hX9.1 _ _ hG_bs_o
            have hG_js_o := hX9.1 _ _ hG_js_o
            have hG_sh_o := hX9.1 _ _ hG_sh_o
            have hG_wk_o := hX9.1 _ _ hG_wk_o
            have hG_ll_o := hX9.1 _ _ hG_ll_o
            have hG_q49 : G55 q49 = some (2, wide.toNatClampNeg, high.toNatClampNeg) := q55.1
            have q55 := q55.2
            have hX := hX.trN hN_q49 (hX9.wk (chs_sub (by decide)))
            refine t_aast8 hx hb hK hP hD hS hT hG_bs_o (by rw [e1, e2]; exact hG_q49) (vp_in_iff.mpr ⟨by omega, by omega⟩) dX9_boardOf_58 (fun H locs w58 hU58 hP hD hT hS => ?_)
            have hM_o := hU58 _ _ (cne hG_o hG_bs_o (show (7 : Nat) ≠ 8 by decide)) hM_o
            have hX := hX.tr (cX.uF hU58 (Or.inr ⟨_, hG_bs_o, rfl⟩))
            refine lv_aload_n hx hb dX9_boardOf_59 rfl (lv_at hl 1 rfl) ?_
            refine t_get (v := .ref bs_o) (C := RX9) (T := TX9) (N := 9) hx hb hts (by decide +kernel) hown hK hP hM_o rfl 0 (by decide) (hts (.fieldLink RX9 9 "ShadowBench" "boards" "[LShadowBench$Board;") (by decide +kernel)) (fun _ h9 => h9) rfl dX9_boardOf_60 ?_
            refine lv_iload_n hx hb dX9_boardOf_63 rfl (lv_at hl 0 rfl) ?_
            refine t_aald8 hx hb hK hP hT hG_bs_o (vp_in_iff.mpr ⟨by omega, by omega⟩) dX9_boardOf_64 ?_ (fun x64 hG_x64 => ?_)
            · skip
              refine W.widen (k := 4) (n := 502) (Nat.le_of_ble_eq_true rfl) (Nat.le_of_ble_eq_true rfl) ?_
              exact W.aret (v := .null) hx hb hr (Or.inl ⟨_, rfl⟩) (Or.inl rfl) (fun t ht hW => ⟨⟨none, (G55, w58), rfl, ⟨hX, fun _ z => nomatch z⟩, by show va_P D vwCl w58 t.heap; rw [ht]; exact hP, hD, hT⟩, hS.F ht⟩) hS.2.2 dX9_boardOf_65
            · skip
              refine W.widen (k := 4) (n := 502) (Nat.le_of_ble_eq_true rfl) (Nat.le_of_ble_eq_true rfl) ?_
              exact W.aret (v := .ref x64) hx hb hr (Or.inl ⟨_, rfl⟩) (Or.inr ⟨_, rfl⟩) (fun t ht hW => ⟨⟨(some x64), (G55, w58), rfl, ⟨hX, fun _ z => Option.some.inj z ▸ (by rw [← e1, ← e2]; exact hG_x64)⟩, by show va_P D vwCl w58 t.heap; rw [ht]; exact hP, hD, hT⟩, hS.F ht⟩) hS.2.2 dX9_boardOf_65
          · skip
            refine lv_ifnonnull (tgt := 59) hx hb dX9_boardOf_41 (by decide) ?_
            refine lv_aload_n hx hb dX9_boardOf_59 rfl (lv_at hl 1 rfl) ?_
            refine t_get (v := .ref bs_o) (C := RX9) (T := TX9) (N := 9) hx hb hts (by decide +kernel) hown hK hP hM_o rfl 0 (by decide) (hts (.fieldLink RX9 9 "ShadowBench" "boards" "[LShadowBench$Board;") (by decide +kernel)) (fun _ h9 => h9) rfl dX9_boardOf_60 ?_
            refine lv_iload_n hx hb dX9_boardOf_63 rfl (lv_at hl 0 rfl) ?_
            refine t_aald8 hx hb hK hP hT hG_bs_o (vp_in_iff.mpr ⟨by omega, by omega⟩) dX9_boardOf_64 ?_ (fun x64 hG_x64 => ?_)
            · skip
              refine W.widen (k := 4) (n := 502) (Nat.le_of_ble_eq_true rfl) (Nat.le_of_ble_eq_true rfl) ?_
              exact W.aret (v := .null) hx hb hr (Or.inl ⟨_, rfl⟩) (Or.inl rfl) (fun t ht hW => ⟨⟨none, (G, ws), rfl, ⟨hX, fun _ z => nomatch z⟩, by show va_P D vwCl ws t.heap; rw [ht]; exact hP, hD, hT⟩, hS.F ht⟩) hS.2.2 dX9_boardOf_65
            · skip
              refine W.widen (k := 4) (n := 502) (Nat.le_of_ble_eq_true rfl) (Nat.le_of_ble_eq_true rfl) ?_
              exact W.aret (v := .ref x64) hx hb hr (Or.inl ⟨_, rfl⟩) (Or.inr ⟨_, rfl⟩) (fun t ht hW => ⟨⟨(some x64), (G, ws), rfl, ⟨hX, fun _ z => Option.some.inj z ▸ (by rw [← e1, ← e2]; exact hG_x64)⟩, by show va_P D vwCl ws t.heap; rw [ht]; exact hP, hD, hT⟩, hS.F ht⟩) hS.2.2 dX9_boardOf_65
        · skip
          have d19 := c19
          rw [fa_le] at d19
          refine lv_null hx hb dX9_boardOf_22 ?_
          refine W.widen (k := 4) (n := 502) (Nat.le_of_ble_eq_true rfl) (Nat.le_of_ble_eq_true rfl) ?_
          exact W.aret (v := .null) hx hb hr (Or.inl ⟨_, rfl⟩) (Or.inl rfl) (fun t ht hW => ⟨⟨none, (G, ws), rfl, ⟨hX, fun _ z => nomatch z⟩, by show va_P D vwCl ws t.heap; rw [ht]; exact hP, hD, hT⟩, hS.F ht⟩) hS.2.2 dX9_boardOf_23
set_option maxHeartbeats 4000000 in
set_option maxRecDepth 100000 in
theorem c_X9_jobOf (l : Launch) (D : va_G) (cy : Nat → ClassId) (A : Nat → Prop) (G : cG) (ws : va_W) (o : Nat) (j : Int32)  (hD : va_D A ws) (hT : cT cy G ws) (hG_o : G o = some (7, 0, 0))  : Ca l D cy A yX9_jobOf wsX9_jobOf ({ frames := 0, cells := 0, slots := 0, locals := 0 }) 0 0 ws [.ref o, .int j] (fun r0 u => u = (G, ws) ∧ (∀ x, r0 = some x → ∃ k n, G x = some (3, k, n))) := by
  refine Met.ofW (cc := cX9_jobOf) (maxL := 2) (ret := (some (.object "ShadowBench$Job"))) (by decide) rfl ?_
  intro p e s m args below meth c s₁ B hml hv
  obtain ⟨rfl, hP, hK, hA, hV⟩ := hv
  have hx := B.exec
  have hb := B.bytes
  have hr := B.returns
  have hts := atoms_spec (ws := wsX9_jobOf) B.pre
  have hown : s.vm.findClass RX9 = some m.cls := findClass_of_methodNamed B.named
  have hlocks := B.notSynchronized
  have hS : va_S A s.heap s.heap [] := va_S.rf
  have hl := lv_entry ([.ref o, .int j]) (n := 2) (Nat.le_of_ble_eq_true rfl)
  rw [lg_entry_eq]
  generalize (lg_sl ([.ref o, .int j]) ++ List.replicate (2 - (lg_sl ([.ref o, .int j])).length) Slot.unset).toArray = ls at hl ⊢
  have hl : lv_has ls 2 [(0, .ref o), (1, .int j)] := hl
  have k_0 : (0 : Int32).toInt = 0 := by decide
  have k_8 : (8 : Int32).toInt = 8 := by decide
  refine lv_iload_n hx hb dX9_jobOf_0 rfl (lv_at hl 1 rfl) ?_
  refine lv_if_lt (tgt := 27) hx hb dX9_jobOf_1 (by decide) (fun c1 => ?_) (fun c1 => ?_)
  · skip
    have d1 := c1
    rw [fa_lt] at d1
    refine lv_null hx hb dX9_jobOf_27 ?_
    exact W.aret (v := .null) hx hb hr (Or.inl ⟨_, rfl⟩) (Or.inl rfl) (fun t ht hW => ⟨⟨none, (G, ws), rfl, ⟨rfl, fun _ z => nomatch z⟩, by show va_P D vwCl ws t.heap; rw [ht]; exact hP, hD, hT⟩, hS.F ht⟩) hS.2.2 dX9_jobOf_28
  · skip
    have d1 := c1
    rw [fa_lt] at d1
    refine lv_iload_n hx hb dX9_jobOf_4 rfl (lv_at hl 1 rfl) ?_
    refine lv_aload_n hx hb dX9_jobOf_5 rfl (lv_at hl 0 rfl) ?_
    obtain ⟨_, hM_o, bs_o, js_o, sh_o, wk_o, ll_o, jc_o, lc_o, mo_o, lb_o, rfl, hjc_o, hlc_o, hG_bs_o, hG_js_o, hG_sh_o, hG_wk_o, hmo_o, hG_ll_o, hlb_o⟩ := hT _ _ hG_o
    refine t_get (v := .int jc_o) (C := RX9) (T := TX9) (N := 9) hx hb hts (by decide +kernel) hown hK hP hM_o rfl 2 (by decide) (hts (.fieldLink RX9 21 "ShadowBench" "jobCount" "I") (by decide +kernel)) (fun _ h9 => h9) rfl dX9_jobOf_6 ?_
    refine lv_icmp_ge (tgt := 27) hx hb dX9_jobOf_9 (by decide) (fun c9 => ?_) (fun c9 => ?_)
    · skip
      have d9 := c9
      rw [fa_le] at d9
      refine lv_null hx hb dX9_jobOf_27 ?_
      exact W.aret (v := .null) hx hb hr (Or.inl ⟨_, rfl⟩) (Or.inl rfl) (fun t ht hW => ⟨⟨none, (G, ws), rfl, ⟨rfl, fun _ z => nomatch z⟩, by show va_P D vwCl ws t.heap; rw [ht]; exact hP, hD, hT⟩, hS.F ht⟩) hS.2.2 dX9_jobOf_28
    · skip
      have d9 := c9
      rw [fa_le] at d9
      refine lv_iload_n hx hb dX9_jobOf_12 rfl (lv_at hl 1 rfl) ?_
      refine lv_bipush (v := 8) hx hb dX9_jobOf_13 (by decide) ?_
      refine lv_icmp_ge (tgt := 27) hx hb dX9_jobOf_15 (by decide) (fun c15 => ?_) (fun c15 => ?_)
      · skip
        have d15 := c15
        rw [fa_le] at d15
        refine lv_null hx hb dX9_jobOf_27 ?_
        exact W.aret (v := .null) hx hb hr (Or.inl ⟨_, rfl⟩) (Or.inl rfl) (fun t ht hW => ⟨⟨none, (G, ws), rfl, ⟨rfl, fun _ z => nomatch z⟩, by show va_P D vwCl ws t.heap; rw [ht]; exact hP, hD, hT⟩, hS.F ht⟩) hS.2.2 dX9_jobOf_28
      · skip
        have d15 := c15
        rw [fa_le] at d15
        refine lv_aload_n hx hb dX9_jobOf_18 rfl (lv_at hl 0 rfl) ?_
        refine t_get (v := .ref js_o) (C := RX9) (T := TX9) (N := 9) hx hb hts (by decide +kernel) hown hK hP hM_o rfl 1 (by decide) (hts (.fieldLink RX9 17 "ShadowBench" "jobs" "[LShadowBench$Job;") (by decide +kernel)) (fun _ h9 => h9) rfl dX9_jobOf_19 ?_
        refine lv_iload_n hx hb dX9_jobOf_22 rfl (lv_at hl 1 rfl) ?_
        refine t_aald9 hx hb hK hP hT hG_js_o (vp_in_iff.mpr ⟨by omega, by omega⟩) dX9_jobOf_23 ?_ (fun x23 kx23 nx23 hG_x23 => ?_)
        · skip
          refine lv_goto (tgt := 28) hx hb dX9_jobOf_24 (by decide) ?_
          exact W.aret (v := .null) hx hb hr (Or.inl ⟨_, rfl⟩) (Or.inl rfl) (fun t ht hW => ⟨⟨none, (G, ws), rfl, ⟨rfl, fun _ z => nomatch z⟩, by show va_P D vwCl ws t.heap; rw [ht]; exact hP, hD, hT⟩, hS.F ht⟩) hS.2.2 dX9_jobOf_28
        · skip
          refine lv_goto (tgt := 28) hx hb dX9_jobOf_24 (by decide) ?_
          exact W.aret (v := .ref x23) hx hb hr (Or.inl ⟨_, rfl⟩) (Or.inr ⟨_, rfl⟩) (fun t ht hW => ⟨⟨(some x23), (G, ws), rfl, ⟨rfl, fun _ z => Option.some.inj z ▸ ⟨_, _, hG_x23⟩⟩, by show va_P D vwCl ws t.heap; rw [ht]; exact hP, hD, hT⟩, hS.F ht⟩) hS.2.2 dX9_jobOf_28
set_option maxHeartbeats 4000000 in
set_option maxRecDepth 100000 in
theorem c_X9_newJob (l : Launch) (D : va_G) (cy : Nat → ClassId) (A : Nat → Prop) (G : cG) (ws : va_W) (kind : Int32) (b : Nat) {w h : Nat} (hD : va_D A ws) (hT : cT cy G ws) (hG_b : G b = some (2, w, h))  : Ca l D cy A yX9_newJob wsX9_newJob ({ frames := 5, cells := 3, slots := 86, locals := 103 }) 3 86 ws [.int kind, .ref b] (fun r0 u => cX none (chs []) G ws u.1 u.2 ∧ (∃ x k n, r0 = some x ∧ u.1 x = some (3, k, n))) := by
  refine Met.ofW (cc := cX9_newJob) (maxL := 2) (ret := (some (.object "ShadowBench$Job"))) (by decide) rfl ?_
  intro p e s m args below meth c s₁ B hml hv
  obtain ⟨rfl, hP, hK, hA, hV⟩ := hv
  have hx := B.exec
  have hb := B.bytes
  have hr := B.returns
  have hts := atoms_spec (ws := wsX9_newJob) B.pre
  have hown : s.vm.findClass RX9 = some m.cls := findClass_of_methodNamed B.named
  have hlocks := B.notSynchronized
  have hS : va_S A s.heap s.heap [] := va_S.rf
  have hX : cX none (chs []) G ws G ws := cX.rf
  have hl := lv_entry ([.int kind, .ref b]) (n := 2) (Nat.le_of_ble_eq_true rfl)
  rw [lg_entry_eq]
  generalize (lg_sl ([.int kind, .ref b]) ++ List.replicate (2 - (lg_sl ([.int kind, .ref b])).length) Slot.unset).toArray = ls at hl ⊢
  have hl : lv_has ls 2 [(0, .int kind), (1, .ref b)] := hl
  have k_0 : (0 : Int32).toInt = 0 := by decide
  refine lv_iload_n hx hb dX9_newJob_0 rfl (lv_at hl 0 rfl) ?_
  by_cases s1_0 : kind.toInt = 1
  · skip
    refine lv_tableIn (off := 27) (tgt := 28) hx hb dX9_newJob_1 (by omega) (by omega) (by rw [s1_0]; rfl) (by decide) ?_
    refine t_new (C := RX4) (T := TX4) (N := 5) (ci := 3) (ty0 := tyX4) (fs := [.null, .null, .int 0, .long 0, .long 0]) hx hb hts (by decide +kernel) tyX4_ok hown (hts (.classLink RX9 292 RX4) (by decide +kernel)) (hts (.instantiable RX4 5) (by decide +kernel)) (hts (.initialized RX4) (by decide +kernel)) hK hP hD hS hA hT rfl (by decide +kernel) (Nat.le_of_ble_eq_true rfl) (Nat.le_of_ble_eq_true rfl) dX9_newJob_28 (fun q28 H w28 hM_q28 hO_q28 hF28 hX28 hk28 hP hD hT hS => ?_)
    have hN_q28 := hX.new0 hO_q28 hF28
    have hX := hX.tr (hX28 _ _)
    refine lv_dup hx hb dX9_newJob_31 rfl ?_
    refine lv_aload_n hx hb dX9_newJob_32 rfl (lv_at hl 1 rfl) ?_
    refine t_callv (va_runI (g := F0 m 33 ls ([.ref b, .ref q28, .ref q28])) (As := [.ref b]) (rest := [.ref q28]) (b := q28) ⟨hx, hb, hml, hown, hts⟩ (c_X4_init l D cy A G w28 q28 b hD hT hO_q28 hM_q28 hG_b (by unfold cKc; omega)) (cwI 1 hts gX9_newJob_X4_init rfl rfl rfl (hts (.initialized RX4) (by decide +kernel)) (hts (.methodLink RX9 294 yX4_init) (by decide +kernel)) (hts (.instanceMethod yX4_init) (by decide +kernel)) rfl (by decide +kernel) ⟨Nat.le_of_ble_eq_true rfl, Nat.le_of_ble_eq_true rfl⟩) (c_preS hP hK hA hS hV) rfl rfl hl.1 rfl (lv_room (Nat.le_of_ble_eq_true rfl)) dX9_newJob_33 ⟨Nat.le_of_ble_eq_true rfl, Nat.le_of_ble_eq_true rfl⟩) hS (fun u H locs q33 hP9 hD9 hT9 hS => ?_)
    obtain ⟨G33, w33⟩ := u
    obtain ⟨hX9, q33⟩ := q33
    have hX9 : cX (some q28) (chs []) G w28 G33 w33 := hX9
    have hP : va_P D vwCl w33 H := hP9
    have hD : va_D A w33 := hD9
    have hT : cT cy G33 w33 := hT9
    have hG_b := hX9.1 _ _ hG_b
    obtain ⟨hO_q28, a33, hG_a33, hM_q28⟩ := q33
    have hM_q28 : cIn w33 q28 (.inr (3, [.ref b, .ref a33, .int 3, .long 0, .long 0])) := hM_q28
    have hX := hX.trN hN_q28 hX9
    obtain ⟨Gk33, hGk⟩ : ∃ z, z = va_up G33 q28 (some (3, 3, 8 * w + h)) := ⟨_, rfl⟩
    have hE9 : cE G33 Gk33 := by rw [hGk]; exact cE.add hO_q28
    have hG_q28 : Gk33 q28 = some (3, 3, 8 * w + h) := by rw [hGk]; simp [va_up]
    have hG_b := hE9 _ _ hG_b
    have hG_a33 := hE9 _ _ hG_a33
    have hT : cT cy Gk33 w33 := by rw [hGk]; exact hT.kind hO_q28 hM_q28 (by rw [← hGk]; exact ⟨_, _, _, _, _, _, _, _, rfl, hG_b, hG_a33, ⟨rfl, Or.inr (Or.inr (Or.inl ⟨rfl, rfl⟩))⟩⟩)
    have hX := hX.trN hN_q28 (show cX (some q28) (chs []) G33 w33 Gk33 w33 by rw [hGk]; exact cX.kind hO_q28)
    refine W.widen (k := 3) (n := 86) (Nat.le_of_ble_eq_true rfl) (Nat.le_of_ble_eq_true rfl) ?_
    exact W.aret (v := .ref q28) hx hb hr (Or.inl ⟨_, rfl⟩) (Or.inr ⟨_, rfl⟩) (fun t ht hW => ⟨⟨(some q28), (Gk33, w33), rfl, ⟨hX, ⟨_, _, _, rfl, hG_q28⟩⟩, by show va_P D vwCl w33 t.heap; rw [ht]; exact hP, hD, hT⟩, hS.F ht⟩) hS.2.2 dX9_newJob_36
  by_cases s1_1 : kind.toInt = 2
  · skip
    refine lv_tableIn (off := 36) (tgt := 37) hx hb dX9_newJob_1 (by omega) (by omega) (by rw [s1_1]; rfl) (by decide) ?_
    refine t_new (C := RX1) (T := TX1) (N := 5) (ci := 1) (ty0 := tyX1) (fs := [.null, .null, .int 0, .long 0, .long 0]) hx hb hts (by decide +kernel) tyX1_ok hown (hts (.classLink RX9 297 RX1) (by decide +kernel)) (hts (.instantiable RX1 5) (by decide +kernel)) (hts (.initialized RX1) (by decide +kernel)) hK hP hD hS hA hT rfl (by decide +kernel) (Nat.le_of_ble_eq_true rfl) (Nat.le_of_ble_eq_true rfl) dX9_newJob_37 (fun q37 H w37 hM_q37 hO_q37 hF37 hX37 hk37 hP hD hT hS => ?_)
    have hN_q37 := hX.new0 hO_q37 hF37
    have hX := hX.tr (hX37 _ _)
    refine lv_dup hx hb dX9_newJob_40 rfl ?_
    refine lv_aload_n hx hb dX9_newJob_41 rfl (lv_at hl 1 rfl) ?_
    refine t_callv (va_runI (g := F0 m 42 ls ([.ref b, .ref q37, .ref q37])) (As := [.ref b]) (rest := [.ref q37]) (b := q37) ⟨hx, hb, hml, hown, hts⟩ (c_X1_init l D cy A G w37 q37 b hD hT hO_q37 hM_q37 hG_b (by unfold cKc; omega)) (cwI 1 hts gX9_newJob_X1_init rfl rfl rfl (hts (.initialized RX1) (by decide +kernel)) (hts (.methodLink RX9 299 yX1_init) (by decide +kernel)) (hts (.instanceMethod yX1_init) (by decide +kernel)) rfl (by decide +kernel) ⟨Nat.le_of_ble_eq_true rfl, Nat.le_of_ble_eq_true rfl⟩) (c_preS hP hK hA hS hV) rfl rfl hl.1 rfl (lv_room (Nat.le_of_ble_eq_true rfl)) dX9_newJob_42 ⟨Nat.le_of_ble_eq_true rfl, Nat.le_of_ble_eq_true rfl⟩) hS (fun u H locs q42 hP9 hD9 hT9 hS => ?_)
    obtain ⟨G42, w42⟩ := u
    obtain ⟨hX9, q42⟩ := q42
    have hX9 : cX (some q37) (chs []) G w37 G42 w42 := hX9
    have hP : va_P D vwCl w42 H := hP9
    have hD : va_D A w42 := hD9
    have hT : cT cy G42 w42 := hT9
    have hG_b := hX9.1 _ _ hG_b
    obtain ⟨hO_q37, a42, hG_a42, hM_q37⟩ := q42
    have hM_q37 : cIn w42 q37 (.inr (1, [.ref b, .ref a42, .int 3, .long 0, .long 0])) := hM_q37
    have hX := hX.trN hN_q37 hX9
    obtain ⟨Gk42, hGk⟩ : ∃ z, z = va_up G42 q37 (some (3, 1, 8 * w + h)) := ⟨_, rfl⟩
    have hE9 : cE G42 Gk42 := by rw [hGk]; exact cE.add hO_q37
    have hG_q37 : Gk42 q37 = some (3, 1, 8 * w + h) := by rw [hGk]; simp [va_up]
    have hG_b := hE9 _ _ hG_b
    have hG_a42 := hE9 _ _ hG_a42
    have hT : cT cy Gk42 w42 := by rw [hGk]; exact hT.kind hO_q37 hM_q37 (by rw [← hGk]; exact ⟨_, _, _, _, _, _, _, _, rfl, hG_b, hG_a42, ⟨rfl, Or.inl ⟨rfl, rfl⟩⟩⟩)
    have hX := hX.trN hN_q37 (show cX (some q37) (chs []) G42 w42 Gk42 w42 by rw [hGk]; exact cX.kind hO_q37)
    refine W.widen (k := 3) (n := 86) (Nat.le_of_ble_eq_true rfl) (Nat.le_of_ble_eq_true rfl) ?_
    exact W.aret (v := .ref q37) hx hb hr (Or.inl ⟨_, rfl⟩) (Or.inr ⟨_, rfl⟩) (fun t ht hW => ⟨⟨(some q37), (Gk42, w42), rfl, ⟨hX, ⟨_, _, _, rfl, hG_q37⟩⟩, by show va_P D vwCl w42 t.heap; rw [ht]; exact hP, hD, hT⟩, hS.F ht⟩) hS.2.2 dX9_newJob_45
  by_cases s1_2 : kind.toInt = 3
  · skip
    refine lv_tableIn (off := 45) (tgt := 46) hx hb dX9_newJob_1 (by omega) (by omega) (by rw [s1_2]; rfl) (by decide) ?_
    refine t_new (C := RX5) (T := TX5) (N := 6) (ci := 4) (ty0 := tyX5) (fs := [.null, .null, .int 0, .long 0, .long 0, .null]) hx hb hts (by decide +kernel) tyX5_ok hown (hts (.classLink RX9 112 RX5) (by decide +kernel)) (hts (.instantiable RX5 6) (by decide +kernel)) (hts (.initialized RX5) (by decide +kernel)) hK hP hD hS hA hT rfl (by decide +kernel) (Nat.le_of_ble_eq_true rfl) (Nat.le_of_ble_eq_true rfl) dX9_newJob_46 (fun q46 H w46 hM_q46 hO_q46 hF46 hX46 hk46 hP hD hT hS => ?_)
    have hN_q46 := hX.new0 hO_q46 hF46
    have hX := hX.tr (hX46 _ _)
    refine lv_dup hx hb dX9_newJob_49 rfl ?_
    refine lv_aload_n hx hb dX9_newJob_50 rfl (lv_at hl 1 rfl) ?_
    refine t_callv (va_runI (g := F0 m 51 ls ([.ref b, .ref q46, .ref q46])) (As := [.ref b]) (rest := [.ref q46]) (b := q46) ⟨hx, hb, hml, hown, hts⟩ (c_X5_init l D cy A G w46 q46 b hD hT hO_q46 hM_q46 hG_b ) (cwI 1 hts gX9_newJob_X5_init rfl rfl rfl (hts (.initialized RX5) (by decide +kernel)) (hts (.methodLink RX9 300 yX5_init) (by decide +kernel)) (hts (.instanceMethod yX5_init) (by decide +kernel)) rfl (by decide +kernel) ⟨Nat.le_of_ble_eq_true rfl, Nat.le_of_ble_eq_true rfl⟩) (c_preS hP hK hA hS hV) rfl rfl hl.1 rfl (lv_room (Nat.le_of_ble_eq_true rfl)) dX9_newJob_51 ⟨Nat.le_of_ble_eq_true rfl, Nat.le_of_ble_eq_true rfl⟩) hS (fun u H locs q51 hP9 hD9 hT9 hS => ?_)
    obtain ⟨G51, w51⟩ := u
    obtain ⟨hX9, q51⟩ := q51
    have hX9 : cX (some q46) (chs []) G w46 G51 w51 := hX9
    have hP : va_P D vwCl w51 H := hP9
    have hD : va_D A w51 := hD9
    have hT : cT cy G51 w51 := hT9
    have hG_b := hX9.1 _ _ hG_b
    obtain ⟨hO_q46, a51, hG_a51, c51, hG_c51, hM_q46⟩ := q51
    have hM_q46 : cIn w51 q46 (.inr (4, [.ref b, .ref a51, .int 3, .long 0, .long 0, .ref c51])) := hM_q46
    have hX := hX.trN hN_q46 hX9
    have hb9 := cb_mul (c_hb hT hG_b)
    obtain ⟨Gk51, hGk⟩ : ∃ z, z = va_up G51 q46 (some (3, 4, 8 * w + h)) := ⟨_, rfl⟩
    have hE9 : cE G51 Gk51 := by rw [hGk]; exact cE.add hO_q46
    have hG_q46 : Gk51 q46 = some (3, 4, 8 * w + h) := by rw [hGk]; simp [va_up]
    have hG_b := hE9 _ _ hG_b
    have hG_a51 := hE9 _ _ hG_a51
    have hG_c51 := hE9 _ _ hG_c51
    have hT : cT cy Gk51 w51 := by rw [hGk]; exact hT.kind hO_q46 hM_q46 (by rw [← hGk]; exact ⟨_, _, _, _, _, _, _, _, rfl, hG_b, hG_a51, ⟨rfl, Or.inr (Or.inr (Or.inr ⟨rfl, _, rfl, hG_c51⟩))⟩⟩)
    have hX := hX.trN hN_q46 (show cX (some q46) (chs []) G51 w51 Gk51 w51 by rw [hGk]; exact cX.kind hO_q46)
    refine W.widen (k := 3) (n := 86) (Nat.le_of_ble_eq_true rfl) (Nat.le_of_ble_eq_true rfl) ?_
    exact W.aret (v := .ref q46) hx hb hr (Or.inl ⟨_, rfl⟩) (Or.inr ⟨_, rfl⟩) (fun t ht hW => ⟨⟨(some q46), (Gk51, w51), rfl, ⟨hX, ⟨_, _, _, rfl, hG_q46⟩⟩, by show va_P D vwCl w51 t.heap; rw [ht]; exact hP, hD, hT⟩, hS.F ht⟩) hS.2.2 dX9_newJob_54
  refine lv_tableOut (tgt := 55) hx hb dX9_newJob_1 (by omega) (by decide) ?_
  refine t_new (C := RX3) (T := TX3) (N := 5) (ci := 2) (ty0 := tyX3) (fs := [.null, .null, .int 0, .long 0, .long 0]) hx hb hts (by decide +kernel) tyX3_ok hown (hts (.classLink RX9 15 RX3) (by decide +kernel)) (hts (.instantiable RX3 5) (by decide +kernel)) (hts (.initialized RX3) (by decide +kernel)) hK hP hD hS hA hT rfl (by decide +kernel) (Nat.le_of_ble_eq_true rfl) (Nat.le_of_ble_eq_true rfl) dX9_newJob_55 (fun q55 H w55 hM_q55 hO_q55 hF55 hX55 hk55 hP hD hT hS => ?_)
  have hN_q55 := hX.new0 hO_q55 hF55
  have hX := hX.tr (hX55 _ _)
  refine lv_dup hx hb dX9_newJob_58 rfl ?_
  refine lv_aload_n hx hb dX9_newJob_59 rfl (lv_at hl 1 rfl) ?_
  refine t_callv (va_runI (g := F0 m 60 ls ([.ref b, .ref q55, .ref q55])) (As := [.ref b]) (rest := [.ref q55]) (b := q55) ⟨hx, hb, hml, hown, hts⟩ (c_X3_init l D cy A G w55 q55 b hD hT hO_q55 hM_q55 hG_b (by unfold cKc; omega)) (cwI 1 hts gX9_newJob_X3_init rfl rfl rfl (hts (.initialized RX3) (by decide +kernel)) (hts (.methodLink RX9 301 yX3_init) (by decide +kernel)) (hts (.instanceMethod yX3_init) (by decide +kernel)) rfl (by decide +kernel) ⟨Nat.le_of_ble_eq_true rfl, Nat.le_of_ble_eq_true rfl⟩) (c_preS hP hK hA hS hV) rfl rfl hl.1 rfl (lv_room (Nat.le_of_ble_eq_true rfl)) dX9_newJob_60 ⟨Nat.le_of_ble_eq_true rfl, Nat.le_of_ble_eq_true rfl⟩) hS (fun u H locs q60 hP9 hD9 hT9 hS => ?_)
  obtain ⟨G60, w60⟩ := u
  obtain ⟨hX9, q60⟩ := q60
  have hX9 : cX (some q55) (chs []) G w55 G60 w60 := hX9
  have hP : va_P D vwCl w60 H := hP9
  have hD : va_D A w60 := hD9
  have hT : cT cy G60 w60 := hT9
  have hG_b := hX9.1 _ _ hG_b
  obtain ⟨hO_q55, a60, hG_a60, hM_q55⟩ := q60
  have hM_q55 : cIn w60 q55 (.inr (2, [.ref b, .ref a60, .int 3, .long 0, .long 0])) := hM_q55
  have hX := hX.trN hN_q55 hX9
  obtain ⟨Gk60, hGk⟩ : ∃ z, z = va_up G60 q55 (some (3, 2, 8 * w + h)) := ⟨_, rfl⟩
  have hE9 : cE G60 Gk60 := by rw [hGk]; exact cE.add hO_q55
  have hG_q55 : Gk60 q55 = some (3, 2, 8 * w + h) := by rw [hGk]; simp [va_up]
  have hG_b := hE9 _ _ hG_b
  have hG_a60 := hE9 _ _ hG_a60
  have hT : cT cy Gk60 w60 := by rw [hGk]; exact hT.kind hO_q55 hM_q55 (by rw [← hGk]; exact ⟨_, _, _, _, _, _, _, _, rfl, hG_b, hG_a60, ⟨rfl, Or.inr (Or.inl ⟨rfl, rfl⟩)⟩⟩)
  have hX := hX.trN hN_q55 (show cX (some q55) (chs []) G60 w60 Gk60 w60 by rw [hGk]; exact cX.kind hO_q55)
  refine W.widen (k := 3) (n := 86) (Nat.le_of_ble_eq_true rfl) (Nat.le_of_ble_eq_true rfl) ?_
  exact W.aret (v := .ref q55) hx hb hr (Or.inl ⟨_, rfl⟩) (Or.inr ⟨_, rfl⟩) (fun t ht hW => ⟨⟨(some q55), (Gk60, w60), rfl, ⟨hX, ⟨_, _, _, rfl, hG_q55⟩⟩, by show va_P D vwCl w60 t.heap; rw [ht]; exact hP, hD, hT⟩, hS.F ht⟩) hS.2.2 dX9_newJob_63
set_option maxHeartbeats 4000000 in
set_option maxRecDepth 100000 in
theorem c_X9_sum (l : Launch) (D : va_G) (cy : Nat → ClassId) (A : Nat → Prop) (G : cG) (ws : va_W) (o : Nat) (j : Int32) (way : Int32) (line : Int32) (v : Int32)  (hD : va_D A ws) (hT : cT cy G ws) (hG_o : G o = some (7, 0, 0))  : Ci l D cy A yX9_sum wsX9_sum ({ frames := 3, cells := 0, slots := 0, locals := 66 }) 0 0 ws [.ref o, .int j, .int way, .int line, .int v] (fun r0 u => cX none (chs [3, 14]) G ws u.1 u.2 ∧ (True)) := by
  refine Met.ofW (cc := cX9_sum) (maxL := 6) (ret := (some .int)) (by decide) rfl ?_
  intro p e s m args below meth c s₁ B hml hv
  obtain ⟨rfl, hP, hK, hA, hV⟩ := hv
  have hx := B.exec
  have hb := B.bytes
  have hr := B.returns
  have hts := atoms_spec (ws := wsX9_sum) B.pre
  have hown : s.vm.findClass RX9 = some m.cls := findClass_of_methodNamed B.named
  have hlocks := B.notSynchronized
  have hS : va_S A s.heap s.heap [] := va_S.rf
  have hinJ : ∀ w ∈ wsX10 ++ wsX30 ++ wsX40 ++ wsX50, w ∈ wsX9_sum := by decide +kernel
  have hX : cX none (chs [3, 14]) G ws G ws := cX.rf
  have hl := lv_entry ([.ref o, .int j, .int way, .int line, .int v]) (n := 6) (Nat.le_of_ble_eq_true rfl)
  rw [lg_entry_eq]
  generalize (lg_sl ([.ref o, .int j, .int way, .int line, .int v]) ++ List.replicate (6 - (lg_sl ([.ref o, .int j, .int way, .int line, .int v])).length) Slot.unset).toArray = ls at hl ⊢
  have hl : lv_has ls 6 [(0, .ref o), (1, .int j), (2, .int way), (3, .int line), (4, .int v)] := hl
  have k_m1 : (-1 : Int32).toInt = -1 := by decide
  have k_0 : (0 : Int32).toInt = 0 := by decide
  have k_6 : (6 : Int32).toInt = 6 := by decide
  refine lv_aload_n hx hb dX9_sum_0 rfl (lv_at hl 0 rfl) ?_
  refine lv_iload_n hx hb dX9_sum_1 rfl (lv_at hl 1 rfl) ?_
  obtain ⟨_, hM_o, bs_o, js_o, sh_o, wk_o, ll_o, jc_o, lc_o, mo_o, lb_o, rfl, hjc_o, hlc_o, hG_bs_o, hG_js_o, hG_sh_o, hG_wk_o, hmo_o, hG_ll_o, hlb_o⟩ := hT _ _ hG_o
  refine t_calla (va_runV (g := F0 m 2 ls ([.int j, .ref o])) (As := [.int j]) (rest := []) ⟨hx, hb, hml, hown, hts⟩ (c_X9_jobOf l D cy A G ws o j hD hT hG_o ) (cwV 1 hts gX9_sum_X9_jobOf rfl rfl rfl (by decide +kernel) ⟨Nat.le_of_ble_eq_true rfl, Nat.le_of_ble_eq_true rfl⟩) (c_preV hM_o rfl hP hK hA hS hV) rfl rfl hl.1 rfl (lv_room (Nat.le_of_ble_eq_true rfl)) dX9_sum_2 ⟨Nat.le_of_ble_eq_true rfl, Nat.le_of_ble_eq_true rfl⟩) hS (fun r2 u H locs q2 hP9 hD9 hT9 hS => ?_)
  obtain ⟨rfl, q2⟩ := q2
  have hP : va_P D vwCl ws H := hP9
  rcases r2 with _ | x2
  · skip
    refine lv_astoreN (lv' := [(5, .null), (0, .ref o), (1, .int j), (2, .int way), (3, .int line), (4, .int v)]) hx hb dX9_sum_5 hl (by decide) rfl (fun ls hl => ?_)
    refine lv_aloadN hx hb dX9_sum_7 (lv_at hl 0 rfl) ?_
    refine lv_ifnullN (tgt := 37) hx hb dX9_sum_9 (by decide) ?_
    refine lv_iconst (v := (-1)) hx hb dX9_sum_37 (by decide) ?_
    exact W.iret (v := ((-1) : Int32)) hx hb hr (fun t ht hW => ⟨⟨_, (G, ws), rfl, ⟨hX, trivial⟩, by show va_P D vwCl ws t.heap; rw [ht]; exact hP, hD, hT⟩, hS.F ht⟩) hS.2.2 dX9_sum_38
  · skip
    obtain ⟨kx2, nx2, hG_x2⟩ := q2 x2 rfl
    refine lv_astore (lv' := [(5, .ref x2), (0, .ref o), (1, .int j), (2, .int way), (3, .int line), (4, .int v)]) hx hb dX9_sum_5 hl (by decide) rfl (fun ls hl => ?_)
    refine lv_aload hx hb dX9_sum_7 (lv_at hl 0 rfl) ?_
    refine lv_ifnull hx hb dX9_sum_9 ?_
    refine lv_aload hx hb dX9_sum_12 (lv_at hl 0 rfl) ?_
    obtain ⟨_, hM_x2, b_x2, s_x2, w_x2, h_x2, t_x2, x_x2, y_x2, ms_x2, rfl, hG_b_x2, hG_s_x2, hJ_x2⟩ := hT _ _ hG_x2
    refine t_getJ (v := .ref b_x2) hx hb hts hinJ hown hK hP hJ_x2.kc hM_x2 0 (by decide) (hts (.fieldLink RX9 65 "ShadowBench$Job" "board" "LShadowBench$Board;") (by decide +kernel)) (fun _ h9 => h9) rfl dX9_sum_14 ?_
    refine lv_iload_n hx hb dX9_sum_17 rfl (lv_at hl 3 rfl) ?_
    refine lv_iload_n hx hb dX9_sum_18 rfl (lv_at hl 4 rfl) ?_
    obtain ⟨_, hM_b_x2, hb_b_x2, l_b_x2, f_b_x2, r_b_x2, rfl, hG_l_b_x2, hG_f_b_x2, hG_r_b_x2⟩ := hT _ _ hG_b_x2
    refine t_calli (va_runV (g := F0 m 19 ls ([.int line, .int way, .ref b_x2])) (As := [.int way, .int line]) (rest := []) ⟨hx, hb, hml, hown, hts⟩ (c_X0_isLine l D cy A G ws b_x2 way line hD hT hG_b_x2 ) (cwV 2 hts gX9_sum_X0_isLine rfl rfl rfl (by decide +kernel) ⟨Nat.le_of_ble_eq_true rfl, Nat.le_of_ble_eq_true rfl⟩) (c_preV hM_b_x2 rfl hP hK hA hS hV) rfl rfl hl.1 rfl (lv_room (Nat.le_of_ble_eq_true rfl)) dX9_sum_19 ⟨Nat.le_of_ble_eq_true rfl, Nat.le_of_ble_eq_true rfl⟩) hS (fun r19 u H locs q19 hP9 hD9 hT9 hS => ?_)
    obtain ⟨rfl, q19⟩ := q19
    have hP : va_P D vwCl ws H := hP9
    refine lv_if_eq (tgt := 37) hx hb dX9_sum_22 (by decide) (fun c22 => ?_) (fun c22 => ?_)
    · skip
      have b22 := bo_f q19 c22
      refine lv_iconst (v := (-1)) hx hb dX9_sum_37 (by decide) ?_
      exact W.iret (v := ((-1) : Int32)) hx hb hr (fun t ht hW => ⟨⟨_, (G, ws), rfl, ⟨hX, trivial⟩, by show va_P D vwCl ws t.heap; rw [ht]; exact hP, hD, hT⟩, hS.F ht⟩) hS.2.2 dX9_sum_38
    · skip
      have b22 := bo_t q19 c22
      refine lv_iload hx hb dX9_sum_25 (lv_at hl 5 rfl) ?_
      refine lv_if_lt (tgt := 37) hx hb dX9_sum_27 (by decide) (fun c27 => ?_) (fun c27 => ?_)
      · skip
        have d27 := c27
        rw [fa_lt] at d27
        refine lv_iconst (v := (-1)) hx hb dX9_sum_37 (by decide) ?_
        exact W.iret (v := ((-1) : Int32)) hx hb hr (fun t ht hW => ⟨⟨_, (G, ws), rfl, ⟨hX, trivial⟩, by show va_P D vwCl ws t.heap; rw [ht]; exact hP, hD, hT⟩, hS.F ht⟩) hS.2.2 dX9_sum_38
      · skip
        have d27 := c27
        rw [fa_lt] at d27
        refine lv_iload hx hb dX9_sum_30 (lv_at hl 5 rfl) ?_
        refine lv_bipush (v := 6) hx hb dX9_sum_32 (by decide) ?_
        refine lv_icmp_le (tgt := 39) hx hb dX9_sum_34 (by decide) (fun c34 => ?_) (fun c34 => ?_)
        · skip
          have d34 := c34
          rw [fa_le] at d34
          refine lv_aload hx hb dX9_sum_39 (lv_at hl 0 rfl) ?_
          refine lv_iload_n hx hb dX9_sum_41 rfl (lv_at hl 3 rfl) ?_
          refine lv_iload_n hx hb dX9_sum_42 rfl (lv_at hl 4 rfl) ?_
          refine lv_iload hx hb dX9_sum_43 (lv_at hl 5 rfl) ?_
          refine t_callv (t_runJ (g := F0 m 45 ls ([.int v, .int line, .int way, .ref x2])) (As := [.int way, .int line, .int v]) (rest := []) ⟨hx, hb, hml, hown, hts⟩ (c_X3_tellLine l D cy A G ws x2 way line v hD hT hG_x2 ) (va_cwU 3 hts gX9_sum_X3_tellLine_u72X1 rfl rfl rfl rfl (by decide +kernel) ⟨Nat.le_of_ble_eq_true rfl, Nat.le_of_ble_eq_true rfl⟩) (cwV 3 hts gX9_sum_X3_tellLine rfl rfl rfl (by decide +kernel) ⟨Nat.le_of_ble_eq_true rfl, Nat.le_of_ble_eq_true rfl⟩) (va_cwU 3 hts gX9_sum_X3_tellLine_u72X4 rfl rfl rfl rfl (by decide +kernel) ⟨Nat.le_of_ble_eq_true rfl, Nat.le_of_ble_eq_true rfl⟩) (va_cwU 3 hts gX9_sum_X3_tellLine_u72X5 rfl rfl rfl rfl (by decide +kernel) ⟨Nat.le_of_ble_eq_true rfl, Nat.le_of_ble_eq_true rfl⟩) hJ_x2.kc hM_x2 hP hK c_blind (c_preS hP hK hA hS hV).2 rfl rfl hl.1 rfl (lv_room (Nat.le_of_ble_eq_true rfl)) dX9_sum_45 ⟨Nat.le_of_ble_eq_true rfl, Nat.le_of_ble_eq_true rfl⟩) hS (fun u H locs q45 hP9 hD9 hT9 hS => ?_)
          obtain ⟨G45, w45⟩ := u
          obtain ⟨hX9, q45⟩ := q45
          have hX9 : cX none (chs [3, 14]) G ws G45 w45 := hX9
          have hP : va_P D vwCl w45 H := hP9
          have hD : va_D A w45 := hD9
          have hT : cT cy G45 w45 := hT9
          have hM_o := hX9.2.1 _ _ (cP.no hG_o rfl) hM_o
          have hM_b_x2 := hX9.2.1 _ _ (cP.no hG_b_x2 rfl) hM_b_x2
          have hG_o := hX9.1 _ _ hG_o
          have hG_bs_o := hX9.1 _ _ hG_bs_o
          have hG_js_o := hX9.1 _ _ hG_js_o
          have hG_sh_o := hX9.1 _ _ hG_sh_o
          have hG_wk_o := hX9.1 _ _ hG_wk_o
          have hG_ll_o := hX9.1 _ _ hG_ll_o
          have hG_x2 := hX9.1 _ _ hG_x2
          have hG_b_x2 := hX9.1 _ _ hG_b_x2
          have hG_s_x2 := hX9.1 _ _ hG_s_x2
          have hG_l_b_x2 := hX9.1 _ _ hG_l_b_x2
          have hG_f_b_x2 := hX9.1 _ _ hG_f_b_x2
          have hG_r_b_x2 := hX9.1 _ _ hG_r_b_x2
          have hX := hX.tr hX9
          refine lv_iconst (v := 0) hx hb dX9_sum_48 (by decide) ?_
          exact W.iret (v := (0 : Int32)) hx hb hr (fun t ht hW => ⟨⟨_, (G45, w45), rfl, ⟨hX, trivial⟩, by show va_P D vwCl w45 t.heap; rw [ht]; exact hP, hD, hT⟩, hS.F ht⟩) hS.2.2 dX9_sum_49
        · skip
          have d34 := c34
          rw [fa_le] at d34
          refine lv_iconst (v := (-1)) hx hb dX9_sum_37 (by decide) ?_
          exact W.iret (v := ((-1) : Int32)) hx hb hr (fun t ht hW => ⟨⟨_, (G, ws), rfl, ⟨hX, trivial⟩, by show va_P D vwCl ws t.heap; rw [ht]; exact hP, hD, hT⟩, hS.F ht⟩) hS.2.2 dX9_sum_38
set_option maxHeartbeats 4000000 in
set_option maxRecDepth 100000 in
theorem c_X9_cast (l : Launch) (D : va_G) (cy : Nat → ClassId) (A : Nat → Prop) (G : cG) (ws : va_W) (o : Nat) (j : Int32) (way : Int32) (p0 : Int64)  (hD : va_D A ws) (hT : cT cy G ws) (hG_o : G o = some (7, 0, 0))  : Ci l D cy A yX9_cast wsX9_cast ({ frames := 4, cells := 0, slots := 0, locals := 90 }) 0 0 ws [.ref o, .int j, .int way, .long p0] (fun r0 u => cX none (chs [3, 14]) G ws u.1 u.2 ∧ (True)) := by
  refine Met.ofW (cc := cX9_cast) (maxL := 6) (ret := (some .int)) (by decide) rfl ?_
  intro p e s m args below meth c s₁ B hml hv
  obtain ⟨rfl, hP, hK, hA, hV⟩ := hv
  have hx := B.exec
  have hb := B.bytes
  have hr := B.returns
  have hts := atoms_spec (ws := wsX9_cast) B.pre
  have hown : s.vm.findClass RX9 = some m.cls := findClass_of_methodNamed B.named
  have hlocks := B.notSynchronized
  have hS : va_S A s.heap s.heap [] := va_S.rf
  have hinJ : ∀ w ∈ wsX10 ++ wsX30 ++ wsX40 ++ wsX50, w ∈ wsX9_cast := by decide +kernel
  have hX : cX none (chs [3, 14]) G ws G ws := cX.rf
  have hl := lv_entry ([.ref o, .int j, .int way, .long p0]) (n := 6) (Nat.le_of_ble_eq_true rfl)
  rw [lg_entry_eq]
  generalize (lg_sl ([.ref o, .int j, .int way, .long p0]) ++ List.replicate (6 - (lg_sl ([.ref o, .int j, .int way, .long p0])).length) Slot.unset).toArray = ls at hl ⊢
  have hl : lv_has ls 6 [(0, .ref o), (1, .int j), (2, .int way), (3, .long p0)] := hl
  have k_m1 : (-1 : Int32).toInt = -1 := by decide
  have k_0 : (0 : Int32).toInt = 0 := by decide
  refine lv_aload_n hx hb dX9_cast_0 rfl (lv_at hl 0 rfl) ?_
  refine lv_iload_n hx hb dX9_cast_1 rfl (lv_at hl 1 rfl) ?_
  obtain ⟨_, hM_o, bs_o, js_o, sh_o, wk_o, ll_o, jc_o, lc_o, mo_o, lb_o, rfl, hjc_o, hlc_o, hG_bs_o, hG_js_o, hG_sh_o, hG_wk_o, hmo_o, hG_ll_o, hlb_o⟩ := hT _ _ hG_o
  refine t_calla (va_runV (g := F0 m 2 ls ([.int j, .ref o])) (As := [.int j]) (rest := []) ⟨hx, hb, hml, hown, hts⟩ (c_X9_jobOf l D cy A G ws o j hD hT hG_o ) (cwV 1 hts gX9_cast_X9_jobOf rfl rfl rfl (by decide +kernel) ⟨Nat.le_of_ble_eq_true rfl, Nat.le_of_ble_eq_true rfl⟩) (c_preV hM_o rfl hP hK hA hS hV) rfl rfl hl.1 rfl (lv_room (Nat.le_of_ble_eq_true rfl)) dX9_cast_2 ⟨Nat.le_of_ble_eq_true rfl, Nat.le_of_ble_eq_true rfl⟩) hS (fun r2 u H locs q2 hP9 hD9 hT9 hS => ?_)
  obtain ⟨rfl, q2⟩ := q2
  have hP : va_P D vwCl ws H := hP9
  rcases r2 with _ | x2
  · skip
    refine lv_astoreN (lv' := [(5, .null), (0, .ref o), (1, .int j), (2, .int way), (3, .long p0)]) hx hb dX9_cast_5 hl (by decide) rfl (fun ls hl => ?_)
    refine lv_aloadN hx hb dX9_cast_7 (lv_at hl 0 rfl) ?_
    refine lv_ifnullN (tgt := 31) hx hb dX9_cast_9 (by decide) ?_
    refine lv_iconst (v := (-1)) hx hb dX9_cast_31 (by decide) ?_
    exact W.iret (v := ((-1) : Int32)) hx hb hr (fun t ht hW => ⟨⟨_, (G, ws), rfl, ⟨hX, trivial⟩, by show va_P D vwCl ws t.heap; rw [ht]; exact hP, hD, hT⟩, hS.F ht⟩) hS.2.2 dX9_cast_32
  · skip
    obtain ⟨kx2, nx2, hG_x2⟩ := q2 x2 rfl
    refine lv_astore (lv' := [(5, .ref x2), (0, .ref o), (1, .int j), (2, .int way), (3, .long p0)]) hx hb dX9_cast_5 hl (by decide) rfl (fun ls hl => ?_)
    refine lv_aload hx hb dX9_cast_7 (lv_at hl 0 rfl) ?_
    refine lv_ifnull hx hb dX9_cast_9 ?_
    refine lv_iload_n hx hb dX9_cast_12 rfl (lv_at hl 3 rfl) ?_
    refine t_pu (As := [.int way]) (rest := []) ⟨hx, hb, hml, hown, hts⟩ (c_X9_isWay l way ) (va_cwS 1 hts gX9_cast_X9_isWay rfl rfl rfl (by decide +kernel) ⟨Nat.le_of_ble_eq_true rfl, Nat.le_of_ble_eq_true rfl⟩) hP rfl hl.1 rfl (Nat.le_of_ble_eq_true rfl) dX9_cast_13 ⟨Nat.le_of_ble_eq_true rfl, Nat.le_of_ble_eq_true rfl⟩ hS (fun r13 H locs q13 hP hS => ?_)
    refine lv_if_eq (tgt := 31) hx hb dX9_cast_16 (by decide) (fun c16 => ?_) (fun c16 => ?_)
    · skip
      have b16 := bo_f q13 c16
      refine lv_iconst (v := (-1)) hx hb dX9_cast_31 (by decide) ?_
      exact W.iret (v := ((-1) : Int32)) hx hb hr (fun t ht hW => ⟨⟨_, (G, ws), rfl, ⟨hX, trivial⟩, by show va_P D vwCl ws t.heap; rw [ht]; exact hP, hD, hT⟩, hS.F ht⟩) hS.2.2 dX9_cast_32
    · skip
      have b16 := bo_t q13 c16
      refine lv_aload hx hb dX9_cast_19 (lv_at hl 0 rfl) ?_
      obtain ⟨_, hM_x2, b_x2, s_x2, w_x2, h_x2, t_x2, x_x2, y_x2, ms_x2, rfl, hG_b_x2, hG_s_x2, hJ_x2⟩ := hT _ _ hG_x2
      refine t_getJ (v := .ref b_x2) hx hb hts hinJ hown hK hP hJ_x2.kc hM_x2 0 (by decide) (hts (.fieldLink RX9 65 "ShadowBench$Job" "board" "LShadowBench$Board;") (by decide +kernel)) (fun _ h9 => h9) rfl dX9_cast_21 ?_
      refine lv_lload_n hx hb dX9_cast_24 rfl (lv_at hl 4 rfl) ?_
      obtain ⟨_, hM_b_x2, hb_b_x2, l_b_x2, f_b_x2, r_b_x2, rfl, hG_l_b_x2, hG_f_b_x2, hG_r_b_x2⟩ := hT _ _ hG_b_x2
      refine t_calli (va_runV (g := F0 m 25 ls ([.long p0, .ref b_x2])) (As := [.long p0]) (rest := []) ⟨hx, hb, hml, hown, hts⟩ (c_X0_isPicture l D cy A G ws b_x2 p0 hD hT hG_b_x2 ) (cwV 1 hts gX9_cast_X0_isPicture rfl rfl rfl (by decide +kernel) ⟨Nat.le_of_ble_eq_true rfl, Nat.le_of_ble_eq_true rfl⟩) (c_preV hM_b_x2 rfl hP hK hA hS hV) rfl rfl hl.1 rfl (lv_room (Nat.le_of_ble_eq_true rfl)) dX9_cast_25 ⟨Nat.le_of_ble_eq_true rfl, Nat.le_of_ble_eq_true rfl⟩) hS (fun r25 u H locs q25 hP9 hD9 hT9 hS => ?_)
      obtain ⟨rfl, q25⟩ := q25
      have hP : va_P D vwCl ws H := hP9
      refine lv_if_ne (tgt := 33) hx hb dX9_cast_28 (by decide) (fun c28 => ?_) (fun c28 => ?_)
      · skip
        have d28 := c28
        rw [fa_eq] at d28
        refine lv_aload hx hb dX9_cast_33 (lv_at hl 0 rfl) ?_
        refine lv_iload_n hx hb dX9_cast_35 rfl (lv_at hl 3 rfl) ?_
        refine lv_lload_n hx hb dX9_cast_36 rfl (lv_at hl 4 rfl) ?_
        refine t_callv (t_runJ (g := F0 m 37 ls ([.long p0, .int way, .ref x2])) (As := [.int way, .long p0]) (rest := []) ⟨hx, hb, hml, hown, hts⟩ (c_X3_tellShadow l D cy A G ws x2 way p0 hD hT hG_x2 ) (va_cwU 2 hts gX9_cast_X3_tellShadow_u84X1 rfl rfl rfl rfl (by decide +kernel) ⟨Nat.le_of_ble_eq_true rfl, Nat.le_of_ble_eq_true rfl⟩) (cwV 2 hts gX9_cast_X3_tellShadow rfl rfl rfl (by decide +kernel) ⟨Nat.le_of_ble_eq_true rfl, Nat.le_of_ble_eq_true rfl⟩) (va_cwU 2 hts gX9_cast_X3_tellShadow_u84X4 rfl rfl rfl rfl (by decide +kernel) ⟨Nat.le_of_ble_eq_true rfl, Nat.le_of_ble_eq_true rfl⟩) (va_cwU 2 hts gX9_cast_X3_tellShadow_u84X5 rfl rfl rfl rfl (by decide +kernel) ⟨Nat.le_of_ble_eq_true rfl, Nat.le_of_ble_eq_true rfl⟩) hJ_x2.kc hM_x2 hP hK c_blind (c_preS hP hK hA hS hV).2 rfl rfl hl.1 rfl (lv_room (Nat.le_of_ble_eq_true rfl)) dX9_cast_37 ⟨Nat.le_of_ble_eq_true rfl, Nat.le_of_ble_eq_true rfl⟩) hS (fun u H locs q37 hP9 hD9 hT9 hS => ?_)
        obtain ⟨G37, w37⟩ := u
        obtain ⟨hX9, q37⟩ := q37
        have hX9 : cX none (chs [3, 14]) G ws G37 w37 := hX9
        have hP : va_P D vwCl w37 H := hP9
        have hD : va_D A w37 := hD9
        have hT : cT cy G37 w37 := hT9
        have hM_o := hX9.2.1 _ _ (cP.no hG_o rfl) hM_o
        have hM_b_x2 := hX9.2.1 _ _ (cP.no hG_b_x2 rfl) hM_b_x2
        have hG_o := hX9.1 _ _ hG_o
        have hG_bs_o := hX9.1 _ _ hG_bs_o
        have hG_js_o := hX9.1 _ _ hG_js_o
        have hG_sh_o := hX9.1 _ _ hG_sh_o
        have hG_wk_o := hX9.1 _ _ hG_wk_o
        have hG_ll_o := hX9.1 _ _ hG_ll_o
        have hG_x2 := hX9.1 _ _ hG_x2
        have hG_b_x2 := hX9.1 _ _ hG_b_x2
        have hG_s_x2 := hX9.1 _ _ hG_s_x2
        have hG_l_b_x2 := hX9.1 _ _ hG_l_b_x2
        have hG_f_b_x2 := hX9.1 _ _ hG_f_b_x2
        have hG_r_b_x2 := hX9.1 _ _ hG_r_b_x2
        have hX := hX.tr hX9
        refine lv_lload_n hx hb dX9_cast_40 rfl (lv_at hl 4 rfl) ?_
        refine t_pu (As := [.long p0]) (rest := []) ⟨hx, hb, hml, hown, hts⟩ (c_J13_bitCount_95d88 l p0 ) (va_cwS 1 hts gX9_cast_J13_bitCount_95d88 rfl rfl rfl (by decide +kernel) ⟨Nat.le_of_ble_eq_true rfl, Nat.le_of_ble_eq_true rfl⟩) hP rfl hl.1 rfl (Nat.le_of_ble_eq_true rfl) dX9_cast_41 ⟨Nat.le_of_ble_eq_true rfl, Nat.le_of_ble_eq_true rfl⟩ hS (fun r41 H locs q41 hP hS => ?_)
        exact W.iret (v := r41) hx hb hr (fun t ht hW => ⟨⟨_, (G37, w37), rfl, ⟨hX, trivial⟩, by show va_P D vwCl w37 t.heap; rw [ht]; exact hP, hD, hT⟩, hS.F ht⟩) hS.2.2 dX9_cast_44
      · skip
        have d28 := c28
        rw [fa_eq] at d28
        refine lv_iconst (v := (-1)) hx hb dX9_cast_31 (by decide) ?_
        exact W.iret (v := ((-1) : Int32)) hx hb hr (fun t ht hW => ⟨⟨_, (G, ws), rfl, ⟨hX, trivial⟩, by show va_P D vwCl ws t.heap; rw [ht]; exact hP, hD, hT⟩, hS.F ht⟩) hS.2.2 dX9_cast_32
set_option maxHeartbeats 4000000 in
set_option maxRecDepth 100000 in
theorem c_X9_untell (l : Launch) (D : va_G) (cy : Nat → ClassId) (A : Nat → Prop) (G : cG) (ws : va_W) (o : Nat) (j : Int32) (way : Int32)  (hD : va_D A ws) (hT : cT cy G ws) (hG_o : G o = some (7, 0, 0))  : Ci l D cy A yX9_untell wsX9_untell ({ frames := 4, cells := 0, slots := 0, locals := 88 }) 0 0 ws [.ref o, .int j, .int way] (fun r0 u => cX none (chs [3, 14]) G ws u.1 u.2 ∧ (True)) := by
  refine Met.ofW (cc := cX9_untell) (maxL := 5) (ret := (some .int)) (by decide) rfl ?_
  intro p e s m args below meth c s₁ B hml hv
  obtain ⟨rfl, hP, hK, hA, hV⟩ := hv
  have hx := B.exec
  have hb := B.bytes
  have hr := B.returns
  have hts := atoms_spec (ws := wsX9_untell) B.pre
  have hown : s.vm.findClass RX9 = some m.cls := findClass_of_methodNamed B.named
  have hlocks := B.notSynchronized
  have hS : va_S A s.heap s.heap [] := va_S.rf
  have hX : cX none (chs [3, 14]) G ws G ws := cX.rf
  have hl := lv_entry ([.ref o, .int j, .int way]) (n := 5) (Nat.le_of_ble_eq_true rfl)
  rw [lg_entry_eq]
  generalize (lg_sl ([.ref o, .int j, .int way]) ++ List.replicate (5 - (lg_sl ([.ref o, .int j, .int way])).length) Slot.unset).toArray = ls at hl ⊢
  have hl : lv_has ls 5 [(0, .ref o), (1, .int j), (2, .int way)] := hl
  have k_m1 : (-1 : Int32).toInt = -1 := by decide
  have k_0 : (0 : Int32).toInt = 0 := by decide
  have k_1 : (1 : Int32).toInt = 1 := by decide
  have k_2 : (2 : Int32).toInt = 2 := by decide
  refine lv_aload_n hx hb dX9_untell_0 rfl (lv_at hl 0 rfl) ?_
  refine lv_iload_n hx hb dX9_untell_1 rfl (lv_at hl 1 rfl) ?_
  obtain ⟨_, hM_o, bs_o, js_o, sh_o, wk_o, ll_o, jc_o, lc_o, mo_o, lb_o, rfl, hjc_o, hlc_o, hG_bs_o, hG_js_o, hG_sh_o, hG_wk_o, hmo_o, hG_ll_o, hlb_o⟩ := hT _ _ hG_o
  refine t_calla (va_runV (g := F0 m 2 ls ([.int j, .ref o])) (As := [.int j]) (rest := []) ⟨hx, hb, hml, hown, hts⟩ (c_X9_jobOf l D cy A G ws o j hD hT hG_o ) (cwV 1 hts gX9_untell_X9_jobOf rfl rfl rfl (by decide +kernel) ⟨Nat.le_of_ble_eq_true rfl, Nat.le_of_ble_eq_true rfl⟩) (c_preV hM_o rfl hP hK hA hS hV) rfl rfl hl.1 rfl (lv_room (Nat.le_of_ble_eq_true rfl)) dX9_untell_2 ⟨Nat.le_of_ble_eq_true rfl, Nat.le_of_ble_eq_true rfl⟩) hS (fun r2 u H locs q2 hP9 hD9 hT9 hS => ?_)
  obtain ⟨rfl, q2⟩ := q2
  have hP : va_P D vwCl ws H := hP9
  rcases r2 with _ | x2
  · skip
    refine lv_astore_nN (lv' := [(3, .null), (0, .ref o), (1, .int j), (2, .int way)]) hx hb dX9_untell_5 rfl hl (by decide) rfl (fun ls hl => ?_)
    refine lv_aload_nN hx hb dX9_untell_6 rfl (lv_at hl 0 rfl) ?_
    refine lv_ifnullN (tgt := 22) hx hb dX9_untell_7 (by decide) ?_
    refine lv_iconst (v := (-1)) hx hb dX9_untell_22 (by decide) ?_
    exact W.iret (v := ((-1) : Int32)) hx hb hr (fun t ht hW => ⟨⟨_, (G, ws), rfl, ⟨hX, trivial⟩, by show va_P D vwCl ws t.heap; rw [ht]; exact hP, hD, hT⟩, hS.F ht⟩) hS.2.2 dX9_untell_23
  · skip
    obtain ⟨kx2, nx2, hG_x2⟩ := q2 x2 rfl
    refine lv_astore_n (lv' := [(3, .ref x2), (0, .ref o), (1, .int j), (2, .int way)]) hx hb dX9_untell_5 rfl hl (by decide) rfl (fun ls hl => ?_)
    refine lv_aload_n hx hb dX9_untell_6 rfl (lv_at hl 0 rfl) ?_
    refine lv_ifnull hx hb dX9_untell_7 ?_
    refine lv_iload_n hx hb dX9_untell_10 rfl (lv_at hl 3 rfl) ?_
    refine t_pu (As := [.int way]) (rest := []) ⟨hx, hb, hml, hown, hts⟩ (c_X9_isWay l way ) (va_cwS 1 hts gX9_untell_X9_isWay rfl rfl rfl (by decide +kernel) ⟨Nat.le_of_ble_eq_true rfl, Nat.le_of_ble_eq_true rfl⟩) hP rfl hl.1 rfl (Nat.le_of_ble_eq_true rfl) dX9_untell_11 ⟨Nat.le_of_ble_eq_true rfl, Nat.le_of_ble_eq_true rfl⟩ hS (fun r11 H locs q11 hP hS => ?_)
    refine lv_if_eq (tgt := 22) hx hb dX9_untell_14 (by decide) (fun c14 => ?_) (fun c14 => ?_)
    · skip
      have b14 := bo_f q11 c14
      refine lv_iconst (v := (-1)) hx hb dX9_untell_22 (by decide) ?_
      exact W.iret (v := ((-1) : Int32)) hx hb hr (fun t ht hW => ⟨⟨_, (G, ws), rfl, ⟨hX, trivial⟩, by show va_P D vwCl ws t.heap; rw [ht]; exact hP, hD, hT⟩, hS.F ht⟩) hS.2.2 dX9_untell_23
    · skip
      have b14 := bo_t q11 c14
      refine lv_iload_n hx hb dX9_untell_17 rfl (lv_at hl 3 rfl) ?_
      refine lv_iconst (v := 2) hx hb dX9_untell_18 (by decide) ?_
      refine lv_icmp_ge (tgt := 24) hx hb dX9_untell_19 (by decide) (fun c19 => ?_) (fun c19 => ?_)
      · skip
        have d19 := c19
        rw [fa_le] at d19
        refine lv_aload_n hx hb dX9_untell_24 rfl (lv_at hl 0 rfl) ?_
        refine lv_iload_n hx hb dX9_untell_25 rfl (lv_at hl 3 rfl) ?_
        obtain ⟨_, hM_x2, b_x2, s_x2, w_x2, h_x2, t_x2, x_x2, y_x2, ms_x2, rfl, hG_b_x2, hG_s_x2, hJ_x2⟩ := hT _ _ hG_x2
        refine t_calli (t_runJ (g := F0 m 26 ls ([.int way, .ref x2])) (As := [.int way]) (rest := []) ⟨hx, hb, hml, hown, hts⟩ (c_X3_isTold l D cy A G ws x2 way hD hT hG_x2 ) (va_cwU 1 hts gX9_untell_X3_isTold_u94X1 rfl rfl rfl rfl (by decide +kernel) ⟨Nat.le_of_ble_eq_true rfl, Nat.le_of_ble_eq_true rfl⟩) (cwV 1 hts gX9_untell_X3_isTold rfl rfl rfl (by decide +kernel) ⟨Nat.le_of_ble_eq_true rfl, Nat.le_of_ble_eq_true rfl⟩) (va_cwU 1 hts gX9_untell_X3_isTold_u94X4 rfl rfl rfl rfl (by decide +kernel) ⟨Nat.le_of_ble_eq_true rfl, Nat.le_of_ble_eq_true rfl⟩) (va_cwU 1 hts gX9_untell_X3_isTold_u94X5 rfl rfl rfl rfl (by decide +kernel) ⟨Nat.le_of_ble_eq_true rfl, Nat.le_of_ble_eq_true rfl⟩) hJ_x2.kc hM_x2 hP hK c_blind (c_preS hP hK hA hS hV).2 rfl rfl hl.1 rfl (lv_room (Nat.le_of_ble_eq_true rfl)) dX9_untell_26 ⟨Nat.le_of_ble_eq_true rfl, Nat.le_of_ble_eq_true rfl⟩) hS (fun r26 u H locs q26 hP9 hD9 hT9 hS => ?_)
        obtain ⟨rfl, q26⟩ := q26
        have hP : va_P D vwCl ws H := hP9
        refine lv_if_eq (tgt := 36) hx hb dX9_untell_29 (by decide) (fun c29 => ?_) (fun c29 => ?_)
        · skip
          have d29 := c29
          rw [fa_eq] at d29
          refine lv_iconst (v := 0) hx hb dX9_untell_36 (by decide) ?_
          refine lv_istore (lv' := [(4, .int (0 : Int32)), (3, .ref x2), (0, .ref o), (1, .int j), (2, .int way)]) hx hb dX9_untell_37 hl (by decide) rfl (fun ls hl => ?_)
          refine lv_aload_n hx hb dX9_untell_39 rfl (lv_at hl 1 rfl) ?_
          refine lv_iload_n hx hb dX9_untell_40 rfl (lv_at hl 4 rfl) ?_
          refine t_callv (t_runJ (g := F0 m 41 ls ([.int way, .ref x2])) (As := [.int way]) (rest := []) ⟨hx, hb, hml, hown, hts⟩ (c_X3_forgetWay l D cy A G ws x2 way hD hT hG_x2 ) (va_cwU 1 hts gX9_untell_X3_forgetWay_u97X1 rfl rfl rfl rfl (by decide +kernel) ⟨Nat.le_of_ble_eq_true rfl, Nat.le_of_ble_eq_true rfl⟩) (cwV 1 hts gX9_untell_X3_forgetWay rfl rfl rfl (by decide +kernel) ⟨Nat.le_of_ble_eq_true rfl, Nat.le_of_ble_eq_true rfl⟩) (va_cwU 1 hts gX9_untell_X3_forgetWay_u97X4 rfl rfl rfl rfl (by decide +kernel) ⟨Nat.le_of_ble_eq_true rfl, Nat.le_of_ble_eq_true rfl⟩) (va_cwU 1 hts gX9_untell_X3_forgetWay_u97X5 rfl rfl rfl rfl (by decide +kernel) ⟨Nat.le_of_ble_eq_true rfl, Nat.le_of_ble_eq_true rfl⟩) hJ_x2.kc hM_x2 hP hK c_blind (c_preS hP hK hA hS hV).2 rfl rfl hl.1 rfl (lv_room (Nat.le_of_ble_eq_true rfl)) dX9_untell_41 ⟨Nat.le_of_ble_eq_true rfl, Nat.le_of_ble_eq_true rfl⟩) hS (fun u H locs q41 hP9 hD9 hT9 hS => ?_)
          obtain ⟨G41, w41⟩ := u
          obtain ⟨hX9, q41⟩ := q41
          have hX9 : cX none (chs [3, 14]) G ws G41 w41 := hX9
          have hP : va_P D vwCl w41 H := hP9
          have hD : va_D A w41 := hD9
          have hT : cT cy G41 w41 := hT9
          have hM_o := hX9.2.1 _ _ (cP.no hG_o rfl) hM_o
          have hG_o := hX9.1 _ _ hG_o
          have hG_bs_o := hX9.1 _ _ hG_bs_o
          have hG_js_o := hX9.1 _ _ hG_js_o
          have hG_sh_o := hX9.1 _ _ hG_sh_o
          have hG_wk_o := hX9.1 _ _ hG_wk_o
          have hG_ll_o := hX9.1 _ _ hG_ll_o
          have hG_x2 := hX9.1 _ _ hG_x2
          have hG_b_x2 := hX9.1 _ _ hG_b_x2
          have hG_s_x2 := hX9.1 _ _ hG_s_x2
          have hX := hX.tr hX9
          refine lv_iload hx hb dX9_untell_44 (lv_at hl 0 rfl) ?_
          exact W.iret (v := (0 : Int32)) hx hb hr (fun t ht hW => ⟨⟨_, (G41, w41), rfl, ⟨hX, trivial⟩, by show va_P D vwCl w41 t.heap; rw [ht]; exact hP, hD, hT⟩, hS.F ht⟩) hS.2.2 dX9_untell_46
        · skip
          have d29 := c29
          rw [fa_eq] at d29
          refine lv_iconst (v := 1) hx hb dX9_untell_32 (by decide) ?_
          refine lv_goto (tgt := 37) hx hb dX9_untell_33 (by decide) ?_
          refine lv_istore (lv' := [(4, .int (1 : Int32)), (3, .ref x2), (0, .ref o), (1, .int j), (2, .int way)]) hx hb dX9_untell_37 hl (by decide) rfl (fun ls hl => ?_)
          refine lv_aload_n hx hb dX9_untell_39 rfl (lv_at hl 1 rfl) ?_
          refine lv_iload_n hx hb dX9_untell_40 rfl (lv_at hl 4 rfl) ?_
          refine t_callv (t_runJ (g := F0 m 41 ls ([.int way, .ref x2])) (As := [.int way]) (rest := []) ⟨hx, hb, hml, hown, hts⟩ (c_X3_forgetWay l D cy A G ws x2 way hD hT hG_x2 ) (va_cwU 1 hts gX9_untell_X3_forgetWay_u97X1 rfl rfl rfl rfl (by decide +kernel) ⟨Nat.le_of_ble_eq_true rfl, Nat.le_of_ble_eq_true rfl⟩) (cwV 1 hts gX9_untell_X3_forgetWay rfl rfl rfl (by decide +kernel) ⟨Nat.le_of_ble_eq_true rfl, Nat.le_of_ble_eq_true rfl⟩) (va_cwU 1 hts gX9_untell_X3_forgetWay_u97X4 rfl rfl rfl rfl (by decide +kernel) ⟨Nat.le_of_ble_eq_true rfl, Nat.le_of_ble_eq_true rfl⟩) (va_cwU 1 hts gX9_untell_X3_forgetWay_u97X5 rfl rfl rfl rfl (by decide +kernel) ⟨Nat.le_of_ble_eq_true rfl, Nat.le_of_ble_eq_true rfl⟩) hJ_x2.kc hM_x2 hP hK c_blind (c_preS hP hK hA hS hV).2 rfl rfl hl.1 rfl (lv_room (Nat.le_of_ble_eq_true rfl)) dX9_untell_41 ⟨Nat.le_of_ble_eq_true rfl, Nat.le_of_ble_eq_true rfl⟩) hS (fun u H locs q41 hP9 hD9 hT9 hS => ?_)
          obtain ⟨G41, w41⟩ := u
          obtain ⟨hX9, q41⟩ := q41
          have hX9 : cX none (chs [3, 14]) G ws G41 w41 := hX9
          have hP : va_P D vwCl w41 H := hP9
          have hD : va_D A w41 := hD9
          have hT : cT cy G41 w41 := hT9
          have hM_o := hX9.2.1 _ _ (cP.no hG_o rfl) hM_o
          have hG_o := hX9.1 _ _ hG_o
          have hG_bs_o := hX9.1 _ _ hG_bs_o
          have hG_js_o := hX9.1 _ _ hG_js_o
          have hG_sh_o := hX9.1 _ _ hG_sh_o
          have hG_wk_o := hX9.1 _ _ hG_wk_o
          have hG_ll_o := hX9.1 _ _ hG_ll_o
          have hG_x2 := hX9.1 _ _ hG_x2
          have hG_b_x2 := hX9.1 _ _ hG_b_x2
          have hG_s_x2 := hX9.1 _ _ hG_s_x2
          have hX := hX.tr hX9
          refine lv_iload hx hb dX9_untell_44 (lv_at hl 0 rfl) ?_
          exact W.iret (v := (1 : Int32)) hx hb hr (fun t ht hW => ⟨⟨_, (G41, w41), rfl, ⟨hX, trivial⟩, by show va_P D vwCl w41 t.heap; rw [ht]; exact hP, hD, hT⟩, hS.F ht⟩) hS.2.2 dX9_untell_46
      · skip
        have d19 := c19
        rw [fa_le] at d19
        refine lv_iconst (v := (-1)) hx hb dX9_untell_22 (by decide) ?_
        exact W.iret (v := ((-1) : Int32)) hx hb hr (fun t ht hW => ⟨⟨_, (G, ws), rfl, ⟨hX, trivial⟩, by show va_P D vwCl ws t.heap; rw [ht]; exact hP, hD, hT⟩, hS.F ht⟩) hS.2.2 dX9_untell_23
set_option maxHeartbeats 4000000 in
set_option maxRecDepth 100000 in
theorem c_X9_hold (l : Launch) (D : va_G) (cy : Nat → ClassId) (A : Nat → Prop) (G : cG) (ws : va_W) (o : Nat) (j : Int32) (s0 : Int32) (how : Int32)  (hD : va_D A ws) (hT : cT cy G ws) (hG_o : G o = some (7, 0, 0))  : Ci l D cy A yX9_hold wsX9_hold ({ frames := 1, cells := 0, slots := 0, locals := 24 }) 0 0 ws [.ref o, .int j, .int s0, .int how] (fun r0 u => cX none (chs [3]) G ws u.1 u.2 ∧ (True)) := by
  refine Met.ofW (cc := cX9_hold) (maxL := 6) (ret := (some .int)) (by decide) rfl ?_
  intro p e s m args below meth c s₁ B hml hv
  obtain ⟨rfl, hP, hK, hA, hV⟩ := hv
  have hx := B.exec
  have hb := B.bytes
  have hr := B.returns
  have hts := atoms_spec (ws := wsX9_hold) B.pre
  have hown : s.vm.findClass RX9 = some m.cls := findClass_of_methodNamed B.named
  have hlocks := B.notSynchronized
  have hS : va_S A s.heap s.heap [] := va_S.rf
  have hinJ : ∀ w ∈ wsX10 ++ wsX30 ++ wsX40 ++ wsX50, w ∈ wsX9_hold := by decide +kernel
  have hX : cX none (chs [3]) G ws G ws := cX.rf
  have hl := lv_entry ([.ref o, .int j, .int s0, .int how]) (n := 6) (Nat.le_of_ble_eq_true rfl)
  rw [lg_entry_eq]
  generalize (lg_sl ([.ref o, .int j, .int s0, .int how]) ++ List.replicate (6 - (lg_sl ([.ref o, .int j, .int s0, .int how])).length) Slot.unset).toArray = ls at hl ⊢
  have hl : lv_has ls 6 [(0, .ref o), (1, .int j), (2, .int s0), (3, .int how)] := hl
  have k_m1 : (-1 : Int32).toInt = -1 := by decide
  have k_0 : (0 : Int32).toInt = 0 := by decide
  have k_2 : (2 : Int32).toInt = 2 := by decide
  refine lv_aload_n hx hb dX9_hold_0 rfl (lv_at hl 0 rfl) ?_
  refine lv_iload_n hx hb dX9_hold_1 rfl (lv_at hl 1 rfl) ?_
  obtain ⟨_, hM_o, bs_o, js_o, sh_o, wk_o, ll_o, jc_o, lc_o, mo_o, lb_o, rfl, hjc_o, hlc_o, hG_bs_o, hG_js_o, hG_sh_o, hG_wk_o, hmo_o, hG_ll_o, hlb_o⟩ := hT _ _ hG_o
  refine t_calla (va_runV (g := F0 m 2 ls ([.int j, .ref o])) (As := [.int j]) (rest := []) ⟨hx, hb, hml, hown, hts⟩ (c_X9_jobOf l D cy A G ws o j hD hT hG_o ) (cwV 1 hts gX9_hold_X9_jobOf rfl rfl rfl (by decide +kernel) ⟨Nat.le_of_ble_eq_true rfl, Nat.le_of_ble_eq_true rfl⟩) (c_preV hM_o rfl hP hK hA hS hV) rfl rfl hl.1 rfl (lv_room (Nat.le_of_ble_eq_true rfl)) dX9_hold_2 ⟨Nat.le_of_ble_eq_true rfl, Nat.le_of_ble_eq_true rfl⟩) hS (fun r2 u H locs q2 hP9 hD9 hT9 hS => ?_)
  obtain ⟨rfl, q2⟩ := q2
  have hP : va_P D vwCl ws H := hP9
  rcases r2 with _ | x2
  · skip
    refine lv_astoreN (lv' := [(4, .null), (0, .ref o), (1, .int j), (2, .int s0), (3, .int how)]) hx hb dX9_hold_5 hl (by decide) rfl (fun ls hl => ?_)
    refine lv_aloadN hx hb dX9_hold_7 (lv_at hl 0 rfl) ?_
    refine lv_ifnullN (tgt := 33) hx hb dX9_hold_9 (by decide) ?_
    refine lv_iconst (v := (-1)) hx hb dX9_hold_33 (by decide) ?_
    exact W.iret (v := ((-1) : Int32)) hx hb hr (fun t ht hW => ⟨⟨_, (G, ws), rfl, ⟨hX, trivial⟩, by show va_P D vwCl ws t.heap; rw [ht]; exact hP, hD, hT⟩, hS.F ht⟩) hS.2.2 dX9_hold_34
  · skip
    obtain ⟨kx2, nx2, hG_x2⟩ := q2 x2 rfl
    refine lv_astore (lv' := [(4, .ref x2), (0, .ref o), (1, .int j), (2, .int s0), (3, .int how)]) hx hb dX9_hold_5 hl (by decide) rfl (fun ls hl => ?_)
    refine lv_aload hx hb dX9_hold_7 (lv_at hl 0 rfl) ?_
    refine lv_ifnull hx hb dX9_hold_9 ?_
    refine lv_aload hx hb dX9_hold_12 (lv_at hl 0 rfl) ?_
    obtain ⟨_, hM_x2, b_x2, s_x2, w_x2, h_x2, t_x2, x_x2, y_x2, ms_x2, rfl, hG_b_x2, hG_s_x2, hJ_x2⟩ := hT _ _ hG_x2
    refine t_getJ (v := .ref b_x2) hx hb hts hinJ hown hK hP hJ_x2.kc hM_x2 0 (by decide) (hts (.fieldLink RX9 65 "ShadowBench$Job" "board" "LShadowBench$Board;") (by decide +kernel)) (fun _ h9 => h9) rfl dX9_hold_14 ?_
    refine lv_iload_n hx hb dX9_hold_17 rfl (lv_at hl 3 rfl) ?_
    obtain ⟨_, hM_b_x2, hb_b_x2, l_b_x2, f_b_x2, r_b_x2, rfl, hG_l_b_x2, hG_f_b_x2, hG_r_b_x2⟩ := hT _ _ hG_b_x2
    refine t_calli (va_runV (g := F0 m 18 ls ([.int s0, .ref b_x2])) (As := [.int s0]) (rest := []) ⟨hx, hb, hml, hown, hts⟩ (c_X0_isSquare l D cy A G ws b_x2 s0 hD hT hG_b_x2 ) (cwV 1 hts gX9_hold_X0_isSquare rfl rfl rfl (by decide +kernel) ⟨Nat.le_of_ble_eq_true rfl, Nat.le_of_ble_eq_true rfl⟩) (c_preV hM_b_x2 rfl hP hK hA hS hV) rfl rfl hl.1 rfl (lv_room (Nat.le_of_ble_eq_true rfl)) dX9_hold_18 ⟨Nat.le_of_ble_eq_true rfl, Nat.le_of_ble_eq_true rfl⟩) hS (fun r18 u H locs q18 hP9 hD9 hT9 hS => ?_)
    obtain ⟨rfl, q18⟩ := q18
    have hP : va_P D vwCl ws H := hP9
    refine lv_if_eq (tgt := 33) hx hb dX9_hold_21 (by decide) (fun c21 => ?_) (fun c21 => ?_)
    · skip
      have b21 := bo_f q18 c21
      refine lv_iconst (v := (-1)) hx hb dX9_hold_33 (by decide) ?_
      exact W.iret (v := ((-1) : Int32)) hx hb hr (fun t ht hW => ⟨⟨_, (G, ws), rfl, ⟨hX, trivial⟩, by show va_P D vwCl ws t.heap; rw [ht]; exact hP, hD, hT⟩, hS.F ht⟩) hS.2.2 dX9_hold_34
    · skip
      have b21 := bo_t q18 c21
      refine lv_iload_n hx hb dX9_hold_24 rfl (lv_at hl 4 rfl) ?_
      refine lv_if_lt (tgt := 33) hx hb dX9_hold_25 (by decide) (fun c25 => ?_) (fun c25 => ?_)
      · skip
        have d25 := c25
        rw [fa_lt] at d25
        refine lv_iconst (v := (-1)) hx hb dX9_hold_33 (by decide) ?_
        exact W.iret (v := ((-1) : Int32)) hx hb hr (fun t ht hW => ⟨⟨_, (G, ws), rfl, ⟨hX, trivial⟩, by show va_P D vwCl ws t.heap; rw [ht]; exact hP, hD, hT⟩, hS.F ht⟩) hS.2.2 dX9_hold_34
      · skip
        have d25 := c25
        rw [fa_lt] at d25
        refine lv_iload_n hx hb dX9_hold_28 rfl (lv_at hl 4 rfl) ?_
        refine lv_iconst (v := 2) hx hb dX9_hold_29 (by decide) ?_
        refine lv_icmp_le (tgt := 35) hx hb dX9_hold_30 (by decide) (fun c30 => ?_) (fun c30 => ?_)
        · skip
          have d30 := c30
          rw [fa_le] at d30
          refine lv_aload hx hb dX9_hold_35 (lv_at hl 0 rfl) ?_
          refine lv_iload_n hx hb dX9_hold_37 rfl (lv_at hl 3 rfl) ?_
          refine t_calli (t_runJ (g := F0 m 38 ls ([.int s0, .ref x2])) (As := [.int s0]) (rest := []) ⟨hx, hb, hml, hown, hts⟩ (c_X3_howHeld l D cy A G ws x2 s0 hD hT hG_x2 ) (va_cwU 1 hts gX9_hold_X3_howHeld_u104X1 rfl rfl rfl rfl (by decide +kernel) ⟨Nat.le_of_ble_eq_true rfl, Nat.le_of_ble_eq_true rfl⟩) (cwV 1 hts gX9_hold_X3_howHeld rfl rfl rfl (by decide +kernel) ⟨Nat.le_of_ble_eq_true rfl, Nat.le_of_ble_eq_true rfl⟩) (va_cwU 1 hts gX9_hold_X3_howHeld_u104X4 rfl rfl rfl rfl (by decide +kernel) ⟨Nat.le_of_ble_eq_true rfl, Nat.le_of_ble_eq_true rfl⟩) (va_cwU 1 hts gX9_hold_X3_howHeld_u104X5 rfl rfl rfl rfl (by decide +kernel) ⟨Nat.le_of_ble_eq_true rfl, Nat.le_of_ble_eq_true rfl⟩) hJ_x2.kc hM_x2 hP hK c_blind (c_preS hP hK hA hS hV).2 rfl rfl hl.1 rfl (lv_room (Nat.le_of_ble_eq_true rfl)) dX9_hold_38 ⟨Nat.le_of_ble_eq_true rfl, Nat.le_of_ble_eq_true rfl⟩) hS (fun r38 u H locs q38 hP9 hD9 hT9 hS => ?_)
          obtain ⟨rfl, q38⟩ := q38
          have hP : va_P D vwCl ws H := hP9
          refine lv_istore (lv' := [(5, .int r38), (4, .ref x2), (0, .ref o), (1, .int j), (2, .int s0), (3, .int how)]) hx hb dX9_hold_41 hl (by decide) rfl (fun ls hl => ?_)
          refine lv_aload hx hb dX9_hold_43 (lv_at hl 1 rfl) ?_
          refine lv_iload_n hx hb dX9_hold_45 rfl (lv_at hl 4 rfl) ?_
          refine lv_iload_n hx hb dX9_hold_46 rfl (lv_at hl 5 rfl) ?_
          refine t_callv (t_runJ (g := F0 m 47 ls ([.int how, .int s0, .ref x2])) (As := [.int s0, .int how]) (rest := []) ⟨hx, hb, hml, hown, hts⟩ (c_X3_holdSquare l D cy A G ws x2 s0 how hD hT hG_x2 ) (va_cwU 2 hts gX9_hold_X3_holdSquare_u108X1 rfl rfl rfl rfl (by decide +kernel) ⟨Nat.le_of_ble_eq_true rfl, Nat.le_of_ble_eq_true rfl⟩) (cwV 2 hts gX9_hold_X3_holdSquare rfl rfl rfl (by decide +kernel) ⟨Nat.le_of_ble_eq_true rfl, Nat.le_of_ble_eq_true rfl⟩) (va_cwU 2 hts gX9_hold_X3_holdSquare_u108X4 rfl rfl rfl rfl (by decide +kernel) ⟨Nat.le_of_ble_eq_true rfl, Nat.le_of_ble_eq_true rfl⟩) (va_cwU 2 hts gX9_hold_X3_holdSquare_u108X5 rfl rfl rfl rfl (by decide +kernel) ⟨Nat.le_of_ble_eq_true rfl, Nat.le_of_ble_eq_true rfl⟩) hJ_x2.kc hM_x2 hP hK c_blind (c_preS hP hK hA hS hV).2 rfl rfl hl.1 rfl (lv_room (Nat.le_of_ble_eq_true rfl)) dX9_hold_47 ⟨Nat.le_of_ble_eq_true rfl, Nat.le_of_ble_eq_true rfl⟩) hS (fun u H locs q47 hP9 hD9 hT9 hS => ?_)
          obtain ⟨G47, w47⟩ := u
          obtain ⟨hX9, q47⟩ := q47
          have hX9 : cX none (chs [3]) G ws G47 w47 := hX9
          have hP : va_P D vwCl w47 H := hP9
          have hD : va_D A w47 := hD9
          have hT : cT cy G47 w47 := hT9
          have hM_o := hX9.2.1 _ _ (cP.no hG_o rfl) hM_o
          have hM_b_x2 := hX9.2.1 _ _ (cP.no hG_b_x2 rfl) hM_b_x2
          have hG_o := hX9.1 _ _ hG_o
          have hG_bs_o := hX9.1 _ _ hG_bs_o
          have hG_js_o := hX9.1 _ _ hG_js_o
          have hG_sh_o := hX9.1 _ _ hG_sh_o
          have hG_wk_o := hX9.1 _ _ hG_wk_o
          have hG_ll_o := hX9.1 _ _ hG_ll_o
          have hG_x2 := hX9.1 _ _ hG_x2
          have hG_b_x2 := hX9.1 _ _ hG_b_x2
          have hG_s_x2 := hX9.1 _ _ hG_s_x2
          have hG_l_b_x2 := hX9.1 _ _ hG_l_b_x2
          have hG_f_b_x2 := hX9.1 _ _ hG_f_b_x2
          have hG_r_b_x2 := hX9.1 _ _ hG_r_b_x2
          have hX := hX.tr hX9
          refine lv_iload hx hb dX9_hold_50 (lv_at hl 0 rfl) ?_
          exact W.iret (v := r38) hx hb hr (fun t ht hW => ⟨⟨_, (G47, w47), rfl, ⟨hX, trivial⟩, by show va_P D vwCl w47 t.heap; rw [ht]; exact hP, hD, hT⟩, hS.F ht⟩) hS.2.2 dX9_hold_52
        · skip
          have d30 := c30
          rw [fa_le] at d30
          refine lv_iconst (v := (-1)) hx hb dX9_hold_33 (by decide) ?_
          exact W.iret (v := ((-1) : Int32)) hx hb hr (fun t ht hW => ⟨⟨_, (G, ws), rfl, ⟨hX, trivial⟩, by show va_P D vwCl ws t.heap; rw [ht]; exact hP, hD, hT⟩, hS.F ht⟩) hS.2.2 dX9_hold_34
set_option maxHeartbeats 4000000 in
set_option maxRecDepth 100000 in
theorem c_X9_mark (l : Launch) (D : va_G) (cy : Nat → ClassId) (A : Nat → Prop) (G : cG) (ws : va_W) (o : Nat) (j : Int32) (s0 : Int32) (v : Int32)  (hD : va_D A ws) (hT : cT cy G ws) (hG_o : G o = some (7, 0, 0))  : Ci l D cy A yX9_mark wsX9_mark ({ frames := 1, cells := 0, slots := 0, locals := 22 }) 0 0 ws [.ref o, .int j, .int s0, .int v] (fun r0 u => cX none (chs [14]) G ws u.1 u.2 ∧ (True)) := by
  refine Met.ofW (cc := cX9_mark) (maxL := 6) (ret := (some .int)) (by decide) rfl ?_
  intro p e s m args below meth c s₁ B hml hv
  obtain ⟨rfl, hP, hK, hA, hV⟩ := hv
  have hx := B.exec
  have hb := B.bytes
  have hr := B.returns
  have hts := atoms_spec (ws := wsX9_mark) B.pre
  have hown : s.vm.findClass RX9 = some m.cls := findClass_of_methodNamed B.named
  have hlocks := B.notSynchronized
  have hS : va_S A s.heap s.heap [] := va_S.rf
  have hinJ : ∀ w ∈ wsX10 ++ wsX30 ++ wsX40 ++ wsX50, w ∈ wsX9_mark := by decide +kernel
  have hX : cX none (chs [14]) G ws G ws := cX.rf
  have hl := lv_entry ([.ref o, .int j, .int s0, .int v]) (n := 6) (Nat.le_of_ble_eq_true rfl)
  rw [lg_entry_eq]
  generalize (lg_sl ([.ref o, .int j, .int s0, .int v]) ++ List.replicate (6 - (lg_sl ([.ref o, .int j, .int s0, .int v])).length) Slot.unset).toArray = ls at hl ⊢
  have hl : lv_has ls 6 [(0, .ref o), (1, .int j), (2, .int s0), (3, .int v)] := hl
  have k_m99 : (-99 : Int32).toInt = -99 := by decide
  have k_m4 : (-4 : Int32).toInt = -4 := by decide
  have k_m1 : (-1 : Int32).toInt = -1 := by decide
  have k_0 : (0 : Int32).toInt = 0 := by decide
  have k_1 : (1 : Int32).toInt = 1 := by decide
  have k_99 : (99 : Int32).toInt = 99 := by decide
  refine lv_aload_n hx hb dX9_mark_0 rfl (lv_at hl 0 rfl) ?_
  refine lv_iload_n hx hb dX9_mark_1 rfl (lv_at hl 1 rfl) ?_
  obtain ⟨_, hM_o, bs_o, js_o, sh_o, wk_o, ll_o, jc_o, lc_o, mo_o, lb_o, rfl, hjc_o, hlc_o, hG_bs_o, hG_js_o, hG_sh_o, hG_wk_o, hmo_o, hG_ll_o, hlb_o⟩ := hT _ _ hG_o
  refine t_calla (va_runV (g := F0 m 2 ls ([.int j, .ref o])) (As := [.int j]) (rest := []) ⟨hx, hb, hml, hown, hts⟩ (c_X9_jobOf l D cy A G ws o j hD hT hG_o ) (cwV 1 hts gX9_mark_X9_jobOf rfl rfl rfl (by decide +kernel) ⟨Nat.le_of_ble_eq_true rfl, Nat.le_of_ble_eq_true rfl⟩) (c_preV hM_o rfl hP hK hA hS hV) rfl rfl hl.1 rfl (lv_room (Nat.le_of_ble_eq_true rfl)) dX9_mark_2 ⟨Nat.le_of_ble_eq_true rfl, Nat.le_of_ble_eq_true rfl⟩) hS (fun r2 u H locs q2 hP9 hD9 hT9 hS => ?_)
  obtain ⟨rfl, q2⟩ := q2
  have hP : va_P D vwCl ws H := hP9
  rcases r2 with _ | x2
  · skip
    refine lv_astoreN (lv' := [(4, .null), (0, .ref o), (1, .int j), (2, .int s0), (3, .int v)]) hx hb dX9_mark_5 hl (by decide) rfl (fun ls hl => ?_)
    refine lv_aloadN hx hb dX9_mark_7 (lv_at hl 0 rfl) ?_
    refine lv_ifnullN (tgt := 36) hx hb dX9_mark_9 (by decide) ?_
    refine lv_iconst (v := (-1)) hx hb dX9_mark_36 (by decide) ?_
    exact W.iret (v := ((-1) : Int32)) hx hb hr (fun t ht hW => ⟨⟨_, (G, ws), rfl, ⟨hX, trivial⟩, by show va_P D vwCl ws t.heap; rw [ht]; exact hP, hD, hT⟩, hS.F ht⟩) hS.2.2 dX9_mark_37
  · skip
    obtain ⟨kx2, nx2, hG_x2⟩ := q2 x2 rfl
    refine lv_astore (lv' := [(4, .ref x2), (0, .ref o), (1, .int j), (2, .int s0), (3, .int v)]) hx hb dX9_mark_5 hl (by decide) rfl (fun ls hl => ?_)
    refine lv_aload hx hb dX9_mark_7 (lv_at hl 0 rfl) ?_
    refine lv_ifnull hx hb dX9_mark_9 ?_
    refine lv_aload hx hb dX9_mark_12 (lv_at hl 0 rfl) ?_
    obtain ⟨_, hM_x2, b_x2, s_x2, w_x2, h_x2, t_x2, x_x2, y_x2, ms_x2, rfl, hG_b_x2, hG_s_x2, hJ_x2⟩ := hT _ _ hG_x2
    refine t_getJ (v := .ref b_x2) hx hb hts hinJ hown hK hP hJ_x2.kc hM_x2 0 (by decide) (hts (.fieldLink RX9 65 "ShadowBench$Job" "board" "LShadowBench$Board;") (by decide +kernel)) (fun _ h9 => h9) rfl dX9_mark_14 ?_
    refine lv_iload_n hx hb dX9_mark_17 rfl (lv_at hl 3 rfl) ?_
    obtain ⟨_, hM_b_x2, hb_b_x2, l_b_x2, f_b_x2, r_b_x2, rfl, hG_l_b_x2, hG_f_b_x2, hG_r_b_x2⟩ := hT _ _ hG_b_x2
    refine t_calli (va_runV (g := F0 m 18 ls ([.int s0, .ref b_x2])) (As := [.int s0]) (rest := []) ⟨hx, hb, hml, hown, hts⟩ (c_X0_isSquare l D cy A G ws b_x2 s0 hD hT hG_b_x2 ) (cwV 1 hts gX9_mark_X0_isSquare rfl rfl rfl (by decide +kernel) ⟨Nat.le_of_ble_eq_true rfl, Nat.le_of_ble_eq_true rfl⟩) (c_preV hM_b_x2 rfl hP hK hA hS hV) rfl rfl hl.1 rfl (lv_room (Nat.le_of_ble_eq_true rfl)) dX9_mark_18 ⟨Nat.le_of_ble_eq_true rfl, Nat.le_of_ble_eq_true rfl⟩) hS (fun r18 u H locs q18 hP9 hD9 hT9 hS => ?_)
    obtain ⟨rfl, q18⟩ := q18
    have hP : va_P D vwCl ws H := hP9
    refine lv_if_eq (tgt := 36) hx hb dX9_mark_21 (by decide) (fun c21 => ?_) (fun c21 => ?_)
    · skip
      have b21 := bo_f q18 c21
      refine lv_iconst (v := (-1)) hx hb dX9_mark_36 (by decide) ?_
      exact W.iret (v := ((-1) : Int32)) hx hb hr (fun t ht hW => ⟨⟨_, (G, ws), rfl, ⟨hX, trivial⟩, by show va_P D vwCl ws t.heap; rw [ht]; exact hP, hD, hT⟩, hS.F ht⟩) hS.2.2 dX9_mark_37
    · skip
      have b21 := bo_t q18 c21
      refine lv_iload_n hx hb dX9_mark_24 rfl (lv_at hl 4 rfl) ?_
      refine lv_bipush (v := (-99)) hx hb dX9_mark_25 (by decide) ?_
      refine lv_icmp_lt (tgt := 36) hx hb dX9_mark_27 (by decide) (fun c27 => ?_) (fun c27 => ?_)
      · skip
        have d27 := c27
        rw [fa_lt] at d27
        refine lv_iconst (v := (-1)) hx hb dX9_mark_36 (by decide) ?_
        exact W.iret (v := ((-1) : Int32)) hx hb hr (fun t ht hW => ⟨⟨_, (G, ws), rfl, ⟨hX, trivial⟩, by show va_P D vwCl ws t.heap; rw [ht]; exact hP, hD, hT⟩, hS.F ht⟩) hS.2.2 dX9_mark_37
      · skip
        have d27 := c27
        rw [fa_lt] at d27
        refine lv_iload_n hx hb dX9_mark_30 rfl (lv_at hl 4 rfl) ?_
        refine lv_bipush (v := 99) hx hb dX9_mark_31 (by decide) ?_
        refine lv_icmp_le (tgt := 38) hx hb dX9_mark_33 (by decide) (fun c33 => ?_) (fun c33 => ?_)
        · skip
          have d33 := c33
          rw [fa_le] at d33
          refine lv_aload hx hb dX9_mark_38 (lv_at hl 0 rfl) ?_
          have hJ9 := hJ_x2
          obtain ⟨hn9, hJ9⟩ := hJ9
          rcases hJ9 with ⟨rfl, rfl⟩ | ⟨rfl, rfl⟩ | ⟨rfl, rfl⟩ | ⟨rfl, c9, rfl, hG_c9⟩
          · skip
            have hM_x2 : cIn ws x2 (.inr (1, [.ref b_x2, .ref s_x2, .int t_x2, .long x_x2, .long y_x2])) := hM_x2
            refine va_instNo hx hb hown (hts (.classLink RX9 112 RX5) (by decide +kernel)) hV.2.2.2.1.1 (t_recJ hK hP hM_x2 rfl) dX9_mark_40 ?_
            refine lv_if_eq (tgt := 69) hx hb dX9_mark_43 (by decide) (fun c43 => ?_) (fun c43 => ?_)
            · skip
              have d43 := c43
              rw [fa_eq] at d43
              refine lv_bipush (v := (-4)) hx hb dX9_mark_69 (by decide) ?_
              exact W.iret (v := ((-4) : Int32)) hx hb hr (fun t ht hW => ⟨⟨_, (G, ws), rfl, ⟨hX, trivial⟩, by show va_P D vwCl ws t.heap; rw [ht]; exact hP, hD, hT⟩, hS.F ht⟩) hS.2.2 dX9_mark_71
            · first | exact absurd c43 (by decide) | exact absurd (by decide) c43
          · skip
            have hM_x2 : cIn ws x2 (.inr (2, [.ref b_x2, .ref s_x2, .int t_x2, .long x_x2, .long y_x2])) := hM_x2
            refine va_instNo hx hb hown (hts (.classLink RX9 112 RX5) (by decide +kernel)) hV.2.2.2.1.2.1 (t_recJ hK hP hM_x2 rfl) dX9_mark_40 ?_
            refine lv_if_eq (tgt := 69) hx hb dX9_mark_43 (by decide) (fun c43 => ?_) (fun c43 => ?_)
            · skip
              have d43 := c43
              rw [fa_eq] at d43
              refine lv_bipush (v := (-4)) hx hb dX9_mark_69 (by decide) ?_
              exact W.iret (v := ((-4) : Int32)) hx hb hr (fun t ht hW => ⟨⟨_, (G, ws), rfl, ⟨hX, trivial⟩, by show va_P D vwCl ws t.heap; rw [ht]; exact hP, hD, hT⟩, hS.F ht⟩) hS.2.2 dX9_mark_71
            · first | exact absurd c43 (by decide) | exact absurd (by decide) c43
          · skip
            have hM_x2 : cIn ws x2 (.inr (3, [.ref b_x2, .ref s_x2, .int t_x2, .long x_x2, .long y_x2])) := hM_x2
            refine va_instNo hx hb hown (hts (.classLink RX9 112 RX5) (by decide +kernel)) hV.2.2.2.1.2.2 (t_recJ hK hP hM_x2 rfl) dX9_mark_40 ?_
            refine lv_if_eq (tgt := 69) hx hb dX9_mark_43 (by decide) (fun c43 => ?_) (fun c43 => ?_)
            · skip
              have d43 := c43
              rw [fa_eq] at d43
              refine lv_bipush (v := (-4)) hx hb dX9_mark_69 (by decide) ?_
              exact W.iret (v := ((-4) : Int32)) hx hb hr (fun t ht hW => ⟨⟨_, (G, ws), rfl, ⟨hX, trivial⟩, by show va_P D vwCl ws t.heap; rw [ht]; exact hP, hD, hT⟩, hS.F ht⟩) hS.2.2 dX9_mark_71
            · first | exact absurd c43 (by decide) | exact absurd (by decide) c43
          · skip
            have hM_x2 : cIn ws x2 (.inr (4, [.ref b_x2, .ref s_x2, .int t_x2, .long x_x2, .long y_x2, .ref c9])) := hM_x2
            have hn36 := cb_mul (c_hb hT hG_b_x2)
            refine va_instS hx hb hown (hts (.classLink RX9 112 RX5) (by decide +kernel)) (hK.1 4 _ rfl).2 (t_recJ hK hP hM_x2 rfl) dX9_mark_40 ?_
            refine lv_if_eq (tgt := 69) hx hb dX9_mark_43 (by decide) (fun c43 => ?_) (fun c43 => ?_)
            · first | exact absurd c43 (by decide) | exact absurd (by decide) c43
            · skip
              have d43 := c43
              rw [fa_eq] at d43
              refine lv_aload hx hb dX9_mark_46 (lv_at hl 0 rfl) ?_
              refine va_castS hx hb hown (hts (.classLink RX9 112 RX5) (by decide +kernel)) (hK.1 4 _ rfl).2 (t_recJ hK hP hM_x2 rfl) dX9_mark_48 ?_
              refine lv_astore (lv' := [(5, .ref x2), (4, .ref x2), (0, .ref o), (1, .int j), (2, .int s0), (3, .int v)]) hx hb dX9_mark_51 hl (by decide) rfl (fun ls hl => ?_)
              refine lv_aload hx hb dX9_mark_53 (lv_at hl 0 rfl) ?_
              refine lv_iload_n hx hb dX9_mark_55 rfl (lv_at hl 4 rfl) ?_
              refine lv_iload_n hx hb dX9_mark_56 rfl (lv_at hl 5 rfl) ?_
              refine t_calli (va_runV (g := F0 m 57 ls ([.int v, .int s0, .ref x2])) (As := [.int s0, .int v]) (rest := []) ⟨hx, hb, hml, hown, hts⟩ (c_X5_setMark l D cy A G ws x2 s0 v hD hT hG_x2 ) (cwV 2 hts gX9_mark_X5_setMark rfl rfl rfl (by decide +kernel) ⟨Nat.le_of_ble_eq_true rfl, Nat.le_of_ble_eq_true rfl⟩) (c_preV hM_x2 rfl hP hK hA hS hV) rfl rfl hl.1 rfl (lv_room (Nat.le_of_ble_eq_true rfl)) dX9_mark_57 ⟨Nat.le_of_ble_eq_true rfl, Nat.le_of_ble_eq_true rfl⟩) hS (fun r57 u H locs q57 hP9 hD9 hT9 hS => ?_)
              obtain ⟨G57, w57⟩ := u
              obtain ⟨hX9, q57⟩ := q57
              have hX9 : cX none (chs [14]) G ws G57 w57 := hX9
              have hP : va_P D vwCl w57 H := hP9
              have hD : va_D A w57 := hD9
              have hT : cT cy G57 w57 := hT9
              have hM_o := hX9.2.1 _ _ (cP.no hG_o rfl) hM_o
              have hM_x2 := hX9.2.1 _ _ (cP.no hG_x2 rfl) hM_x2
              have hM_b_x2 := hX9.2.1 _ _ (cP.no hG_b_x2 rfl) hM_b_x2
              have hG_o := hX9.1 _ _ hG_o
              have hG_bs_o := hX9.1 _ _ hG_bs_o
              have hG_js_o := hX9.1 _ _ hG_js_o
              have hG_sh_o := hX9.1 _ _ hG_sh_o
              have hG_wk_o := hX9.1 _ _ hG_wk_o
              have hG_ll_o := hX9.1 _ _ hG_ll_o
              have hG_x2 := hX9.1 _ _ hG_x2
              have hG_b_x2 := hX9.1 _ _ hG_b_x2
              have hG_s_x2 := hX9.1 _ _ hG_s_x2
              have hG_l_b_x2 := hX9.1 _ _ hG_l_b_x2
              have hG_f_b_x2 := hX9.1 _ _ hG_f_b_x2
              have hG_r_b_x2 := hX9.1 _ _ hG_r_b_x2
              have hG_c9 := hX9.1 _ _ hG_c9
              have hX := hX.tr hX9
              refine lv_if_eq (tgt := 67) hx hb dX9_mark_60 (by decide) (fun c60 => ?_) (fun c60 => ?_)
              · skip
                have d60 := c60
                rw [fa_eq] at d60
                refine lv_iconst (v := 0) hx hb dX9_mark_67 (by decide) ?_
                exact W.iret (v := (0 : Int32)) hx hb hr (fun t ht hW => ⟨⟨_, (G57, w57), rfl, ⟨hX, trivial⟩, by show va_P D vwCl w57 t.heap; rw [ht]; exact hP, hD, hT⟩, hS.F ht⟩) hS.2.2 dX9_mark_68
              · skip
                have d60 := c60
                rw [fa_eq] at d60
                refine lv_iconst (v := 1) hx hb dX9_mark_63 (by decide) ?_
                refine lv_goto (tgt := 68) hx hb dX9_mark_64 (by decide) ?_
                exact W.iret (v := (1 : Int32)) hx hb hr (fun t ht hW => ⟨⟨_, (G57, w57), rfl, ⟨hX, trivial⟩, by show va_P D vwCl w57 t.heap; rw [ht]; exact hP, hD, hT⟩, hS.F ht⟩) hS.2.2 dX9_mark_68
        · skip
          have d33 := c33
          rw [fa_le] at d33
          refine lv_iconst (v := (-1)) hx hb dX9_mark_36 (by decide) ?_
          exact W.iret (v := ((-1) : Int32)) hx hb hr (fun t ht hW => ⟨⟨_, (G, ws), rfl, ⟨hX, trivial⟩, by show va_P D vwCl ws t.heap; rw [ht]; exact hP, hD, hT⟩, hS.F ht⟩) hS.2.2 dX9_mark_37
set_option maxHeartbeats 4000000 in
set_option maxRecDepth 100000 in
theorem c_X9_told (l : Launch) (D : va_G) (cy : Nat → ClassId) (A : Nat → Prop) (G : cG) (ws : va_W) (o : Nat) (j : Int32) (way : Int32) (line : Int32)  (hD : va_D A ws) (hT : cT cy G ws) (hG_o : G o = some (7, 0, 0))  : Ci l D cy A yX9_told wsX9_told ({ frames := 2, cells := 0, slots := 0, locals := 43 }) 0 0 ws [.ref o, .int j, .int way, .int line] (fun r0 u => u = (G, ws) ∧ (True)) := by
  refine Met.ofW (cc := cX9_told) (maxL := 5) (ret := (some .int)) (by decide) rfl ?_
  intro p e s m args below meth c s₁ B hml hv
  obtain ⟨rfl, hP, hK, hA, hV⟩ := hv
  have hx := B.exec
  have hb := B.bytes
  have hr := B.returns
  have hts := atoms_spec (ws := wsX9_told) B.pre
  have hown : s.vm.findClass RX9 = some m.cls := findClass_of_methodNamed B.named
  have hlocks := B.notSynchronized
  have hS : va_S A s.heap s.heap [] := va_S.rf
  have hinJ : ∀ w ∈ wsX10 ++ wsX30 ++ wsX40 ++ wsX50, w ∈ wsX9_told := by decide +kernel
  have hl := lv_entry ([.ref o, .int j, .int way, .int line]) (n := 5) (Nat.le_of_ble_eq_true rfl)
  rw [lg_entry_eq]
  generalize (lg_sl ([.ref o, .int j, .int way, .int line]) ++ List.replicate (5 - (lg_sl ([.ref o, .int j, .int way, .int line])).length) Slot.unset).toArray = ls at hl ⊢
  have hl : lv_has ls 5 [(0, .ref o), (1, .int j), (2, .int way), (3, .int line)] := hl
  have k_m2 : (-2 : Int32).toInt = -2 := by decide
  have k_m1 : (-1 : Int32).toInt = -1 := by decide
  have k_0 : (0 : Int32).toInt = 0 := by decide
  refine lv_aload_n hx hb dX9_told_0 rfl (lv_at hl 0 rfl) ?_
  refine lv_iload_n hx hb dX9_told_1 rfl (lv_at hl 1 rfl) ?_
  obtain ⟨_, hM_o, bs_o, js_o, sh_o, wk_o, ll_o, jc_o, lc_o, mo_o, lb_o, rfl, hjc_o, hlc_o, hG_bs_o, hG_js_o, hG_sh_o, hG_wk_o, hmo_o, hG_ll_o, hlb_o⟩ := hT _ _ hG_o
  refine t_calla (va_runV (g := F0 m 2 ls ([.int j, .ref o])) (As := [.int j]) (rest := []) ⟨hx, hb, hml, hown, hts⟩ (c_X9_jobOf l D cy A G ws o j hD hT hG_o ) (cwV 1 hts gX9_told_X9_jobOf rfl rfl rfl (by decide +kernel) ⟨Nat.le_of_ble_eq_true rfl, Nat.le_of_ble_eq_true rfl⟩) (c_preV hM_o rfl hP hK hA hS hV) rfl rfl hl.1 rfl (lv_room (Nat.le_of_ble_eq_true rfl)) dX9_told_2 ⟨Nat.le_of_ble_eq_true rfl, Nat.le_of_ble_eq_true rfl⟩) hS (fun r2 u H locs q2 hP9 hD9 hT9 hS => ?_)
  obtain ⟨rfl, q2⟩ := q2
  have hP : va_P D vwCl ws H := hP9
  rcases r2 with _ | x2
  · skip
    refine lv_astoreN (lv' := [(4, .null), (0, .ref o), (1, .int j), (2, .int way), (3, .int line)]) hx hb dX9_told_5 hl (by decide) rfl (fun ls hl => ?_)
    refine lv_aloadN hx hb dX9_told_7 (lv_at hl 0 rfl) ?_
    refine lv_ifnullN (tgt := 19) hx hb dX9_told_9 (by decide) ?_
    refine lv_iconst (v := (-1)) hx hb dX9_told_19 (by decide) ?_
    exact W.iret (v := ((-1) : Int32)) hx hb hr (fun t ht hW => ⟨⟨_, (G, ws), rfl, ⟨rfl, trivial⟩, by show va_P D vwCl ws t.heap; rw [ht]; exact hP, hD, hT⟩, hS.F ht⟩) hS.2.2 dX9_told_20
  · skip
    obtain ⟨kx2, nx2, hG_x2⟩ := q2 x2 rfl
    refine lv_astore (lv' := [(4, .ref x2), (0, .ref o), (1, .int j), (2, .int way), (3, .int line)]) hx hb dX9_told_5 hl (by decide) rfl (fun ls hl => ?_)
    refine lv_aload hx hb dX9_told_7 (lv_at hl 0 rfl) ?_
    refine lv_ifnull hx hb dX9_told_9 ?_
    refine lv_iload_n hx hb dX9_told_12 rfl (lv_at hl 3 rfl) ?_
    refine t_pu (As := [.int way]) (rest := []) ⟨hx, hb, hml, hown, hts⟩ (c_X9_isWay l way ) (va_cwS 1 hts gX9_told_X9_isWay rfl rfl rfl (by decide +kernel) ⟨Nat.le_of_ble_eq_true rfl, Nat.le_of_ble_eq_true rfl⟩) hP rfl hl.1 rfl (Nat.le_of_ble_eq_true rfl) dX9_told_13 ⟨Nat.le_of_ble_eq_true rfl, Nat.le_of_ble_eq_true rfl⟩ hS (fun r13 H locs q13 hP hS => ?_)
    refine lv_if_ne (tgt := 21) hx hb dX9_told_16 (by decide) (fun c16 => ?_) (fun c16 => ?_)
    · skip
      have b16 := bo_t q13 c16
      refine lv_iload_n hx hb dX9_told_21 rfl (lv_at hl 4 rfl) ?_
      refine lv_iconst (v := (-1)) hx hb dX9_told_22 (by decide) ?_
      refine lv_icmp_ne (tgt := 36) hx hb dX9_told_23 (by decide) (fun c23 => ?_) (fun c23 => ?_)
      · skip
        have d23 := c23
        rw [fa_eq] at d23
        refine lv_aload hx hb dX9_told_36 (lv_at hl 0 rfl) ?_
        obtain ⟨_, hM_x2, b_x2, s_x2, w_x2, h_x2, t_x2, x_x2, y_x2, ms_x2, rfl, hG_b_x2, hG_s_x2, hJ_x2⟩ := hT _ _ hG_x2
        refine t_getJ (v := .ref b_x2) hx hb hts hinJ hown hK hP hJ_x2.kc hM_x2 0 (by decide) (hts (.fieldLink RX9 65 "ShadowBench$Job" "board" "LShadowBench$Board;") (by decide +kernel)) (fun _ h9 => h9) rfl dX9_told_38 ?_
        refine lv_iload_n hx hb dX9_told_41 rfl (lv_at hl 3 rfl) ?_
        refine lv_iload_n hx hb dX9_told_42 rfl (lv_at hl 4 rfl) ?_
        obtain ⟨_, hM_b_x2, hb_b_x2, l_b_x2, f_b_x2, r_b_x2, rfl, hG_l_b_x2, hG_f_b_x2, hG_r_b_x2⟩ := hT _ _ hG_b_x2
        refine t_calli (va_runV (g := F0 m 43 ls ([.int line, .int way, .ref b_x2])) (As := [.int way, .int line]) (rest := []) ⟨hx, hb, hml, hown, hts⟩ (c_X0_isLine l D cy A G ws b_x2 way line hD hT hG_b_x2 ) (cwV 2 hts gX9_told_X0_isLine rfl rfl rfl (by decide +kernel) ⟨Nat.le_of_ble_eq_true rfl, Nat.le_of_ble_eq_true rfl⟩) (c_preV hM_b_x2 rfl hP hK hA hS hV) rfl rfl hl.1 rfl (lv_room (Nat.le_of_ble_eq_true rfl)) dX9_told_43 ⟨Nat.le_of_ble_eq_true rfl, Nat.le_of_ble_eq_true rfl⟩) hS (fun r43 u H locs q43 hP9 hD9 hT9 hS => ?_)
        obtain ⟨rfl, q43⟩ := q43
        have hP : va_P D vwCl ws H := hP9
        refine lv_if_ne (tgt := 51) hx hb dX9_told_46 (by decide) (fun c46 => ?_) (fun c46 => ?_)
        · skip
          have b46 := bo_t q43 c46
          refine lv_aload hx hb dX9_told_51 (lv_at hl 0 rfl) ?_
          refine lv_iload_n hx hb dX9_told_53 rfl (lv_at hl 3 rfl) ?_
          refine t_calli (t_runJ (g := F0 m 54 ls ([.int way, .ref x2])) (As := [.int way]) (rest := []) ⟨hx, hb, hml, hown, hts⟩ (c_X3_isTold l D cy A G ws x2 way hD hT hG_x2 ) (va_cwU 1 hts gX9_told_X3_isTold_u94X1 rfl rfl rfl rfl (by decide +kernel) ⟨Nat.le_of_ble_eq_true rfl, Nat.le_of_ble_eq_true rfl⟩) (cwV 1 hts gX9_told_X3_isTold rfl rfl rfl (by decide +kernel) ⟨Nat.le_of_ble_eq_true rfl, Nat.le_of_ble_eq_true rfl⟩) (va_cwU 1 hts gX9_told_X3_isTold_u94X4 rfl rfl rfl rfl (by decide +kernel) ⟨Nat.le_of_ble_eq_true rfl, Nat.le_of_ble_eq_true rfl⟩) (va_cwU 1 hts gX9_told_X3_isTold_u94X5 rfl rfl rfl rfl (by decide +kernel) ⟨Nat.le_of_ble_eq_true rfl, Nat.le_of_ble_eq_true rfl⟩) hJ_x2.kc hM_x2 hP hK c_blind (c_preS hP hK hA hS hV).2 rfl rfl hl.1 rfl (lv_room (Nat.le_of_ble_eq_true rfl)) dX9_told_54 ⟨Nat.le_of_ble_eq_true rfl, Nat.le_of_ble_eq_true rfl⟩) hS (fun r54 u H locs q54 hP9 hD9 hT9 hS => ?_)
          obtain ⟨rfl, q54⟩ := q54
          have hP : va_P D vwCl ws H := hP9
          refine lv_if_eq (tgt := 70) hx hb dX9_told_57 (by decide) (fun c57 => ?_) (fun c57 => ?_)
          · skip
            have d57 := c57
            rw [fa_eq] at d57
            refine lv_bipush (v := (-2)) hx hb dX9_told_70 (by decide) ?_
            exact W.iret (v := ((-2) : Int32)) hx hb hr (fun t ht hW => ⟨⟨_, (G, ws), rfl, ⟨rfl, trivial⟩, by show va_P D vwCl ws t.heap; rw [ht]; exact hP, hD, hT⟩, hS.F ht⟩) hS.2.2 dX9_told_72
          · skip
            have d57 := c57
            rw [fa_eq] at d57
            refine lv_aload hx hb dX9_told_60 (lv_at hl 0 rfl) ?_
            refine lv_iload_n hx hb dX9_told_62 rfl (lv_at hl 3 rfl) ?_
            refine lv_iload_n hx hb dX9_told_63 rfl (lv_at hl 4 rfl) ?_
            refine t_calli (t_runJ (g := F0 m 64 ls ([.int line, .int way, .ref x2])) (As := [.int way, .int line]) (rest := []) ⟨hx, hb, hml, hown, hts⟩ (c_X3_sumOf l D cy A G ws x2 way line hD hT hG_x2 ) (va_cwU 2 hts gX9_told_X3_sumOf_u120X1 rfl rfl rfl rfl (by decide +kernel) ⟨Nat.le_of_ble_eq_true rfl, Nat.le_of_ble_eq_true rfl⟩) (cwV 2 hts gX9_told_X3_sumOf rfl rfl rfl (by decide +kernel) ⟨Nat.le_of_ble_eq_true rfl, Nat.le_of_ble_eq_true rfl⟩) (va_cwU 2 hts gX9_told_X3_sumOf_u120X4 rfl rfl rfl rfl (by decide +kernel) ⟨Nat.le_of_ble_eq_true rfl, Nat.le_of_ble_eq_true rfl⟩) (va_cwU 2 hts gX9_told_X3_sumOf_u120X5 rfl rfl rfl rfl (by decide +kernel) ⟨Nat.le_of_ble_eq_true rfl, Nat.le_of_ble_eq_true rfl⟩) hJ_x2.kc hM_x2 hP hK c_blind (c_preS hP hK hA hS hV).2 rfl rfl hl.1 rfl (lv_room (Nat.le_of_ble_eq_true rfl)) dX9_told_64 ⟨Nat.le_of_ble_eq_true rfl, Nat.le_of_ble_eq_true rfl⟩) hS (fun r64 u H locs q64 hP9 hD9 hT9 hS => ?_)
            obtain ⟨rfl, q64⟩ := q64
            have hP : va_P D vwCl ws H := hP9
            refine lv_goto (tgt := 72) hx hb dX9_told_67 (by decide) ?_
            exact W.iret (v := r64) hx hb hr (fun t ht hW => ⟨⟨_, (G, ws), rfl, ⟨rfl, trivial⟩, by show va_P D vwCl ws t.heap; rw [ht]; exact hP, hD, hT⟩, hS.F ht⟩) hS.2.2 dX9_told_72
        · skip
          have b46 := bo_f q43 c46
          refine lv_iconst (v := (-1)) hx hb dX9_told_49 (by decide) ?_
          exact W.iret (v := ((-1) : Int32)) hx hb hr (fun t ht hW => ⟨⟨_, (G, ws), rfl, ⟨rfl, trivial⟩, by show va_P D vwCl ws t.heap; rw [ht]; exact hP, hD, hT⟩, hS.F ht⟩) hS.2.2 dX9_told_50
      · skip
        have d23 := c23
        rw [fa_eq] at d23
        refine lv_aload hx hb dX9_told_26 (lv_at hl 0 rfl) ?_
        obtain ⟨_, hM_x2, b_x2, s_x2, w_x2, h_x2, t_x2, x_x2, y_x2, ms_x2, rfl, hG_b_x2, hG_s_x2, hJ_x2⟩ := hT _ _ hG_x2
        refine t_getJ (v := .ref b_x2) hx hb hts hinJ hown hK hP hJ_x2.kc hM_x2 0 (by decide) (hts (.fieldLink RX9 65 "ShadowBench$Job" "board" "LShadowBench$Board;") (by decide +kernel)) (fun _ h9 => h9) rfl dX9_told_28 ?_
        refine lv_iload_n hx hb dX9_told_31 rfl (lv_at hl 3 rfl) ?_
        obtain ⟨_, hM_b_x2, hb_b_x2, l_b_x2, f_b_x2, r_b_x2, rfl, hG_l_b_x2, hG_f_b_x2, hG_r_b_x2⟩ := hT _ _ hG_b_x2
        refine t_calli (va_runV (g := F0 m 32 ls ([.int way, .ref b_x2])) (As := [.int way]) (rest := []) ⟨hx, hb, hml, hown, hts⟩ (c_X0_lineCount l D cy A G ws b_x2 way hD hT hG_b_x2 ) (cwV 1 hts gX9_told_X0_lineCount rfl rfl rfl (by decide +kernel) ⟨Nat.le_of_ble_eq_true rfl, Nat.le_of_ble_eq_true rfl⟩) (c_preV hM_b_x2 rfl hP hK hA hS hV) rfl rfl hl.1 rfl (lv_room (Nat.le_of_ble_eq_true rfl)) dX9_told_32 ⟨Nat.le_of_ble_eq_true rfl, Nat.le_of_ble_eq_true rfl⟩) hS (fun r32 u H locs q32 hP9 hD9 hT9 hS => ?_)
        obtain ⟨rfl, q32⟩ := q32
        have hP : va_P D vwCl ws H := hP9
        exact W.iret (v := r32) hx hb hr (fun t ht hW => ⟨⟨_, (G, ws), rfl, ⟨rfl, trivial⟩, by show va_P D vwCl ws t.heap; rw [ht]; exact hP, hD, hT⟩, hS.F ht⟩) hS.2.2 dX9_told_35
    · skip
      have b16 := bo_f q13 c16
      refine lv_iconst (v := (-1)) hx hb dX9_told_19 (by decide) ?_
      exact W.iret (v := ((-1) : Int32)) hx hb hr (fun t ht hW => ⟨⟨_, (G, ws), rfl, ⟨rfl, trivial⟩, by show va_P D vwCl ws t.heap; rw [ht]; exact hP, hD, hT⟩, hS.F ht⟩) hS.2.2 dX9_told_20
set_option maxHeartbeats 4000000 in
set_option maxRecDepth 100000 in
theorem c_X9_shadow (l : Launch) (D : va_G) (cy : Nat → ClassId) (A : Nat → Prop) (G : cG) (ws : va_W) (o : Nat) (wide : Int32) (high : Int32) (p0 : Int64) (way : Int32) (line : Int32)  (hD : va_D A ws) (hT : cT cy G ws) (hG_o : G o = some (7, 0, 0))  : Ci l D cy A yX9_shadow wsX9_shadow ({ frames := 5, cells := 4, slots := 502, locals := 116 }) 4 502 ws [.ref o, .int wide, .int high, .long p0, .int way, .int line] (fun r0 u => cX none (chs [1, 8]) G ws u.1 u.2 ∧ (True)) := by
  refine Met.ofW (cc := cX9_shadow) (maxL := 8) (ret := (some .int)) (by decide) rfl ?_
  intro p e s m args below meth c s₁ B hml hv
  obtain ⟨rfl, hP, hK, hA, hV⟩ := hv
  have hx := B.exec
  have hb := B.bytes
  have hr := B.returns
  have hts := atoms_spec (ws := wsX9_shadow) B.pre
  have hown : s.vm.findClass RX9 = some m.cls := findClass_of_methodNamed B.named
  have hlocks := B.notSynchronized
  have hS : va_S A s.heap s.heap [] := va_S.rf
  have hX : cX none (chs [1, 8]) G ws G ws := cX.rf
  have hl := lv_entry ([.ref o, .int wide, .int high, .long p0, .int way, .int line]) (n := 8) (Nat.le_of_ble_eq_true rfl)
  rw [lg_entry_eq]
  generalize (lg_sl ([.ref o, .int wide, .int high, .long p0, .int way, .int line]) ++ List.replicate (8 - (lg_sl ([.ref o, .int wide, .int high, .long p0, .int way, .int line])).length) Slot.unset).toArray = ls at hl ⊢
  have hl : lv_has ls 8 [(0, .ref o), (1, .int wide), (2, .int high), (3, .long p0), (5, .int way), (6, .int line)] := hl
  have k_m1 : (-1 : Int32).toInt = -1 := by decide
  have k_0 : (0 : Int32).toInt = 0 := by decide
  refine lv_aload_n hx hb dX9_shadow_0 rfl (lv_at hl 0 rfl) ?_
  refine lv_iload_n hx hb dX9_shadow_1 rfl (lv_at hl 1 rfl) ?_
  refine lv_iload_n hx hb dX9_shadow_2 rfl (lv_at hl 2 rfl) ?_
  obtain ⟨_, hM_o, bs_o, js_o, sh_o, wk_o, ll_o, jc_o, lc_o, mo_o, lb_o, rfl, hjc_o, hlc_o, hG_bs_o, hG_js_o, hG_sh_o, hG_wk_o, hmo_o, hG_ll_o, hlb_o⟩ := hT _ _ hG_o
  refine t_calla (va_runV (g := F0 m 3 ls ([.int high, .int wide, .ref o])) (As := [.int wide, .int high]) (rest := []) ⟨hx, hb, hml, hown, hts⟩ (c_X9_boardOf l D cy A G ws o wide high hD hT hG_o ) (cwV 2 hts gX9_shadow_X9_boardOf rfl rfl rfl (by decide +kernel) ⟨Nat.le_of_ble_eq_true rfl, Nat.le_of_ble_eq_true rfl⟩) (c_preV hM_o rfl hP hK hA hS hV) rfl rfl hl.1 rfl (lv_room (Nat.le_of_ble_eq_true rfl)) dX9_shadow_3 ⟨Nat.le_of_ble_eq_true rfl, Nat.le_of_ble_eq_true rfl⟩) hS (fun r3 u H locs q3 hP9 hD9 hT9 hS => ?_)
  obtain ⟨G3, w3⟩ := u
  obtain ⟨hX9, q3⟩ := q3
  have hX9 : cX none (chs [1, 8]) G ws G3 w3 := hX9
  have hP : va_P D vwCl w3 H := hP9
  have hD : va_D A w3 := hD9
  have hT : cT cy G3 w3 := hT9
  have hM_o := hX9.2.1 _ _ (cP.no hG_o rfl) hM_o
  have hG_o := hX9.1 _ _ hG_o
  have hG_bs_o := hX9.1 _ _ hG_bs_o
  have hG_js_o := hX9.1 _ _ hG_js_o
  have hG_sh_o := hX9.1 _ _ hG_sh_o
  have hG_wk_o := hX9.1 _ _ hG_wk_o
  have hG_ll_o := hX9.1 _ _ hG_ll_o
  have hX := hX.tr hX9
  rcases r3 with _ | x3
  · skip
    refine lv_astoreN (lv' := [(7, .null), (0, .ref o), (1, .int wide), (2, .int high), (3, .long p0), (5, .int way), (6, .int line)]) hx hb dX9_shadow_6 hl (by decide) rfl (fun ls hl => ?_)
    refine lv_aloadN hx hb dX9_shadow_8 (lv_at hl 0 rfl) ?_
    refine lv_ifnullN (tgt := 34) hx hb dX9_shadow_10 (by decide) ?_
    refine lv_iconst (v := (-1)) hx hb dX9_shadow_34 (by decide) ?_
    refine W.widen (k := 4) (n := 502) (Nat.le_of_ble_eq_true rfl) (Nat.le_of_ble_eq_true rfl) ?_
    exact W.iret (v := ((-1) : Int32)) hx hb hr (fun t ht hW => ⟨⟨_, (G3, w3), rfl, ⟨hX, trivial⟩, by show va_P D vwCl w3 t.heap; rw [ht]; exact hP, hD, hT⟩, hS.F ht⟩) hS.2.2 dX9_shadow_35
  · skip
    have hG_x3 := q3 x3 rfl
    refine lv_astore (lv' := [(7, .ref x3), (0, .ref o), (1, .int wide), (2, .int high), (3, .long p0), (5, .int way), (6, .int line)]) hx hb dX9_shadow_6 hl (by decide) rfl (fun ls hl => ?_)
    refine lv_aload hx hb dX9_shadow_8 (lv_at hl 0 rfl) ?_
    refine lv_ifnull hx hb dX9_shadow_10 ?_
    refine lv_aload hx hb dX9_shadow_13 (lv_at hl 0 rfl) ?_
    refine lv_lload_n hx hb dX9_shadow_15 rfl (lv_at hl 4 rfl) ?_
    obtain ⟨_, hM_x3, hb_x3, l_x3, f_x3, r_x3, rfl, hG_l_x3, hG_f_x3, hG_r_x3⟩ := hT _ _ hG_x3
    refine t_calli (va_runV (g := F0 m 16 ls ([.long p0, .ref x3])) (As := [.long p0]) (rest := []) ⟨hx, hb, hml, hown, hts⟩ (c_X0_isPicture l D cy A G3 w3 x3 p0 hD hT hG_x3 ) (cwV 1 hts gX9_shadow_X0_isPicture rfl rfl rfl (by decide +kernel) ⟨Nat.le_of_ble_eq_true rfl, Nat.le_of_ble_eq_true rfl⟩) (c_preV hM_x3 rfl hP hK hA hS hV) rfl rfl hl.1 rfl (lv_room (Nat.le_of_ble_eq_true rfl)) dX9_shadow_16 ⟨Nat.le_of_ble_eq_true rfl, Nat.le_of_ble_eq_true rfl⟩) hS (fun r16 u H locs q16 hP9 hD9 hT9 hS => ?_)
    obtain ⟨rfl, q16⟩ := q16
    have hP : va_P D vwCl w3 H := hP9
    refine lv_if_eq (tgt := 34) hx hb dX9_shadow_19 (by decide) (fun c19 => ?_) (fun c19 => ?_)
    · skip
      have d19 := c19
      rw [fa_eq] at d19
      refine lv_iconst (v := (-1)) hx hb dX9_shadow_34 (by decide) ?_
      refine W.widen (k := 4) (n := 502) (Nat.le_of_ble_eq_true rfl) (Nat.le_of_ble_eq_true rfl) ?_
      exact W.iret (v := ((-1) : Int32)) hx hb hr (fun t ht hW => ⟨⟨_, (G3, w3), rfl, ⟨hX, trivial⟩, by show va_P D vwCl w3 t.heap; rw [ht]; exact hP, hD, hT⟩, hS.F ht⟩) hS.2.2 dX9_shadow_35
    · skip
      have d19 := c19
      rw [fa_eq] at d19
      refine lv_aload hx hb dX9_shadow_22 (lv_at hl 0 rfl) ?_
      refine lv_iload hx hb dX9_shadow_24 (lv_at hl 5 rfl) ?_
      refine lv_iload hx hb dX9_shadow_26 (lv_at hl 6 rfl) ?_
      refine t_calli (va_runV (g := F0 m 28 ls ([.int line, .int way, .ref x3])) (As := [.int way, .int line]) (rest := []) ⟨hx, hb, hml, hown, hts⟩ (c_X0_isLine l D cy A G3 w3 x3 way line hD hT hG_x3 ) (cwV 2 hts gX9_shadow_X0_isLine rfl rfl rfl (by decide +kernel) ⟨Nat.le_of_ble_eq_true rfl, Nat.le_of_ble_eq_true rfl⟩) (c_preV hM_x3 rfl hP hK hA hS hV) rfl rfl hl.1 rfl (lv_room (Nat.le_of_ble_eq_true rfl)) dX9_shadow_28 ⟨Nat.le_of_ble_eq_true rfl, Nat.le_of_ble_eq_true rfl⟩) hS (fun r28 u H locs q28 hP9 hD9 hT9 hS => ?_)
      obtain ⟨rfl, q28⟩ := q28
      have hP : va_P D vwCl w3 H := hP9
      refine lv_if_ne (tgt := 36) hx hb dX9_shadow_31 (by decide) (fun c31 => ?_) (fun c31 => ?_)
      · skip
        have b31 := bo_t q28 c31
        refine lv_aload hx hb dX9_shadow_36 (lv_at hl 0 rfl) ?_
        refine lv_iload hx hb dX9_shadow_38 (lv_at hl 5 rfl) ?_
        refine lv_iload hx hb dX9_shadow_40 (lv_at hl 6 rfl) ?_
        refine lv_lload_n hx hb dX9_shadow_42 rfl (lv_at hl 4 rfl) ?_
        refine t_calli (va_runV (g := F0 m 43 ls ([.long p0, .int line, .int way, .ref x3])) (As := [.int way, .int line, .long p0]) (rest := []) ⟨hx, hb, hml, hown, hts⟩ (c_X0_onesOfLine l D cy A G3 w3 x3 way line p0 hD hT hG_x3 ) (cwV 3 hts gX9_shadow_X0_onesOfLine rfl rfl rfl (by decide +kernel) ⟨Nat.le_of_ble_eq_true rfl, Nat.le_of_ble_eq_true rfl⟩) (c_preV hM_x3 rfl hP hK hA hS hV) rfl rfl hl.1 rfl (lv_room (Nat.le_of_ble_eq_true rfl)) dX9_shadow_43 ⟨Nat.le_of_ble_eq_true rfl, Nat.le_of_ble_eq_true rfl⟩) hS (fun r43 u H locs q43 hP9 hD9 hT9 hS => ?_)
        obtain ⟨rfl, q43⟩ := q43
        have hP : va_P D vwCl w3 H := hP9
        refine W.widen (k := 4) (n := 502) (Nat.le_of_ble_eq_true rfl) (Nat.le_of_ble_eq_true rfl) ?_
        exact W.iret (v := r43) hx hb hr (fun t ht hW => ⟨⟨_, (G3, w3), rfl, ⟨hX, trivial⟩, by show va_P D vwCl w3 t.heap; rw [ht]; exact hP, hD, hT⟩, hS.F ht⟩) hS.2.2 dX9_shadow_46
      · skip
        have b31 := bo_f q28 c31
        refine lv_iconst (v := (-1)) hx hb dX9_shadow_34 (by decide) ?_
        refine W.widen (k := 4) (n := 502) (Nat.le_of_ble_eq_true rfl) (Nat.le_of_ble_eq_true rfl) ?_
        exact W.iret (v := ((-1) : Int32)) hx hb hr (fun t ht hW => ⟨⟨_, (G3, w3), rfl, ⟨hX, trivial⟩, by show va_P D vwCl w3 t.heap; rw [ht]; exact hP, hD, hT⟩, hS.F ht⟩) hS.2.2 dX9_shadow_35
set_option maxHeartbeats 4000000 in
set_option maxRecDepth 100000 in
theorem c_X9_fits (l : Launch) (D : va_G) (cy : Nat → ClassId) (A : Nat → Prop) (G : cG) (ws : va_W) (o : Nat) (j : Int32) (p0 : Int64)  (hD : va_D A ws) (hT : cT cy G ws) (hG_o : G o = some (7, 0, 0))  : Ci l D cy A yX9_fits wsX9_fits ({ frames := 4, cells := 0, slots := 0, locals := 99 }) 0 0 ws [.ref o, .int j, .long p0] (fun r0 u => u = (G, ws) ∧ (True)) := by
  refine Met.ofW (cc := cX9_fits) (maxL := 5) (ret := (some .int)) (by decide) rfl ?_
  intro p e s m args below meth c s₁ B hml hv
  obtain ⟨rfl, hP, hK, hA, hV⟩ := hv
  have hx := B.exec
  have hb := B.bytes
  have hr := B.returns
  have hts := atoms_spec (ws := wsX9_fits) B.pre
  have hown : s.vm.findClass RX9 = some m.cls := findClass_of_methodNamed B.named
  have hlocks := B.notSynchronized
  have hS : va_S A s.heap s.heap [] := va_S.rf
  have hinJ : ∀ w ∈ wsX10 ++ wsX30 ++ wsX40 ++ wsX50, w ∈ wsX9_fits := by decide +kernel
  have hl := lv_entry ([.ref o, .int j, .long p0]) (n := 5) (Nat.le_of_ble_eq_true rfl)
  rw [lg_entry_eq]
  generalize (lg_sl ([.ref o, .int j, .long p0]) ++ List.replicate (5 - (lg_sl ([.ref o, .int j, .long p0])).length) Slot.unset).toArray = ls at hl ⊢
  have hl : lv_has ls 5 [(0, .ref o), (1, .int j), (2, .long p0)] := hl
  have k_m1 : (-1 : Int32).toInt = -1 := by decide
  have k_0 : (0 : Int32).toInt = 0 := by decide
  have k_1 : (1 : Int32).toInt = 1 := by decide
  refine lv_aload_n hx hb dX9_fits_0 rfl (lv_at hl 0 rfl) ?_
  refine lv_iload_n hx hb dX9_fits_1 rfl (lv_at hl 1 rfl) ?_
  obtain ⟨_, hM_o, bs_o, js_o, sh_o, wk_o, ll_o, jc_o, lc_o, mo_o, lb_o, rfl, hjc_o, hlc_o, hG_bs_o, hG_js_o, hG_sh_o, hG_wk_o, hmo_o, hG_ll_o, hlb_o⟩ := hT _ _ hG_o
  refine t_calla (va_runV (g := F0 m 2 ls ([.int j, .ref o])) (As := [.int j]) (rest := []) ⟨hx, hb, hml, hown, hts⟩ (c_X9_jobOf l D cy A G ws o j hD hT hG_o ) (cwV 1 hts gX9_fits_X9_jobOf rfl rfl rfl (by decide +kernel) ⟨Nat.le_of_ble_eq_true rfl, Nat.le_of_ble_eq_true rfl⟩) (c_preV hM_o rfl hP hK hA hS hV) rfl rfl hl.1 rfl (lv_room (Nat.le_of_ble_eq_true rfl)) dX9_fits_2 ⟨Nat.le_of_ble_eq_true rfl, Nat.le_of_ble_eq_true rfl⟩) hS (fun r2 u H locs q2 hP9 hD9 hT9 hS => ?_)
  obtain ⟨rfl, q2⟩ := q2
  have hP : va_P D vwCl ws H := hP9
  rcases r2 with _ | x2
  · skip
    refine lv_astoreN (lv' := [(4, .null), (0, .ref o), (1, .int j), (2, .long p0)]) hx hb dX9_fits_5 hl (by decide) rfl (fun ls hl => ?_)
    refine lv_aloadN hx hb dX9_fits_7 (lv_at hl 0 rfl) ?_
    refine lv_ifnullN (tgt := 24) hx hb dX9_fits_9 (by decide) ?_
    refine lv_iconst (v := (-1)) hx hb dX9_fits_24 (by decide) ?_
    exact W.iret (v := ((-1) : Int32)) hx hb hr (fun t ht hW => ⟨⟨_, (G, ws), rfl, ⟨rfl, trivial⟩, by show va_P D vwCl ws t.heap; rw [ht]; exact hP, hD, hT⟩, hS.F ht⟩) hS.2.2 dX9_fits_25
  · skip
    obtain ⟨kx2, nx2, hG_x2⟩ := q2 x2 rfl
    refine lv_astore (lv' := [(4, .ref x2), (0, .ref o), (1, .int j), (2, .long p0)]) hx hb dX9_fits_5 hl (by decide) rfl (fun ls hl => ?_)
    refine lv_aload hx hb dX9_fits_7 (lv_at hl 0 rfl) ?_
    refine lv_ifnull hx hb dX9_fits_9 ?_
    refine lv_aload hx hb dX9_fits_12 (lv_at hl 0 rfl) ?_
    obtain ⟨_, hM_x2, b_x2, s_x2, w_x2, h_x2, t_x2, x_x2, y_x2, ms_x2, rfl, hG_b_x2, hG_s_x2, hJ_x2⟩ := hT _ _ hG_x2
    refine t_getJ (v := .ref b_x2) hx hb hts hinJ hown hK hP hJ_x2.kc hM_x2 0 (by decide) (hts (.fieldLink RX9 65 "ShadowBench$Job" "board" "LShadowBench$Board;") (by decide +kernel)) (fun _ h9 => h9) rfl dX9_fits_14 ?_
    refine lv_lload_n hx hb dX9_fits_17 rfl (lv_at hl 3 rfl) ?_
    obtain ⟨_, hM_b_x2, hb_b_x2, l_b_x2, f_b_x2, r_b_x2, rfl, hG_l_b_x2, hG_f_b_x2, hG_r_b_x2⟩ := hT _ _ hG_b_x2
    refine t_calli (va_runV (g := F0 m 18 ls ([.long p0, .ref b_x2])) (As := [.long p0]) (rest := []) ⟨hx, hb, hml, hown, hts⟩ (c_X0_isPicture l D cy A G ws b_x2 p0 hD hT hG_b_x2 ) (cwV 1 hts gX9_fits_X0_isPicture rfl rfl rfl (by decide +kernel) ⟨Nat.le_of_ble_eq_true rfl, Nat.le_of_ble_eq_true rfl⟩) (c_preV hM_b_x2 rfl hP hK hA hS hV) rfl rfl hl.1 rfl (lv_room (Nat.le_of_ble_eq_true rfl)) dX9_fits_18 ⟨Nat.le_of_ble_eq_true rfl, Nat.le_of_ble_eq_true rfl⟩) hS (fun r18 u H locs q18 hP9 hD9 hT9 hS => ?_)
    obtain ⟨rfl, q18⟩ := q18
    have hP : va_P D vwCl ws H := hP9
    refine lv_if_ne (tgt := 26) hx hb dX9_fits_21 (by decide) (fun c21 => ?_) (fun c21 => ?_)
    · skip
      have d21 := c21
      rw [fa_eq] at d21
      refine lv_aload hx hb dX9_fits_26 (lv_at hl 0 rfl) ?_
      refine lv_lload_n hx hb dX9_fits_28 rfl (lv_at hl 3 rfl) ?_
      refine t_calli (t_runJ (g := F0 m 29 ls ([.long p0, .ref x2])) (As := [.long p0]) (rest := []) ⟨hx, hb, hml, hown, hts⟩ (c_X3_admits l D cy A G ws x2 p0 hD hT hG_x2 ) (va_cwU 1 hts gX9_fits_X3_admits_u128X1 rfl rfl rfl rfl (by decide +kernel) ⟨Nat.le_of_ble_eq_true rfl, Nat.le_of_ble_eq_true rfl⟩) (cwV 1 hts gX9_fits_X3_admits rfl rfl rfl (by decide +kernel) ⟨Nat.le_of_ble_eq_true rfl, Nat.le_of_ble_eq_true rfl⟩) (va_cwU 1 hts gX9_fits_X3_admits_u128X4 rfl rfl rfl rfl (by decide +kernel) ⟨Nat.le_of_ble_eq_true rfl, Nat.le_of_ble_eq_true rfl⟩) (va_cwU 1 hts gX9_fits_X3_admits_u128X5 rfl rfl rfl rfl (by decide +kernel) ⟨Nat.le_of_ble_eq_true rfl, Nat.le_of_ble_eq_true rfl⟩) hJ_x2.kc hM_x2 hP hK c_blind (c_preS hP hK hA hS hV).2 rfl rfl hl.1 rfl (lv_room (Nat.le_of_ble_eq_true rfl)) dX9_fits_29 ⟨Nat.le_of_ble_eq_true rfl, Nat.le_of_ble_eq_true rfl⟩) hS (fun r29 u H locs q29 hP9 hD9 hT9 hS => ?_)
      obtain ⟨rfl, q29⟩ := q29
      have hP : va_P D vwCl ws H := hP9
      refine lv_if_eq (tgt := 39) hx hb dX9_fits_32 (by decide) (fun c32 => ?_) (fun c32 => ?_)
      · skip
        have d32 := c32
        rw [fa_eq] at d32
        refine lv_iconst (v := 0) hx hb dX9_fits_39 (by decide) ?_
        exact W.iret (v := (0 : Int32)) hx hb hr (fun t ht hW => ⟨⟨_, (G, ws), rfl, ⟨rfl, trivial⟩, by show va_P D vwCl ws t.heap; rw [ht]; exact hP, hD, hT⟩, hS.F ht⟩) hS.2.2 dX9_fits_40
      · skip
        have d32 := c32
        rw [fa_eq] at d32
        refine lv_iconst (v := 1) hx hb dX9_fits_35 (by decide) ?_
        refine lv_goto (tgt := 40) hx hb dX9_fits_36 (by decide) ?_
        exact W.iret (v := (1 : Int32)) hx hb hr (fun t ht hW => ⟨⟨_, (G, ws), rfl, ⟨rfl, trivial⟩, by show va_P D vwCl ws t.heap; rw [ht]; exact hP, hD, hT⟩, hS.F ht⟩) hS.2.2 dX9_fits_40
    · skip
      have d21 := c21
      rw [fa_eq] at d21
      refine lv_iconst (v := (-1)) hx hb dX9_fits_24 (by decide) ?_
      exact W.iret (v := ((-1) : Int32)) hx hb hr (fun t ht hW => ⟨⟨_, (G, ws), rfl, ⟨rfl, trivial⟩, by show va_P D vwCl ws t.heap; rw [ht]; exact hP, hD, hT⟩, hS.F ht⟩) hS.2.2 dX9_fits_25
set_option maxHeartbeats 4000000 in
set_option maxRecDepth 100000 in
theorem c_X9_count (l : Launch) (D : va_G) (cy : Nat → ClassId) (A : Nat → Prop) (G : cG) (ws : va_W) (o : Nat) (j : Int32)  (hD : va_D A ws) (hT : cT cy G ws) (hG_o : G o = some (7, 0, 0))  : Ci l D cy A yX9_count wsX9_count ({ frames := 6, cells := 0, slots := 0, locals := 144 }) 0 0 ws [.ref o, .int j] (fun r0 u => cX none (chs [1, 5, 20, 21, 22, 23]) G ws u.1 u.2 ∧ (True)) := by
  refine Met.ofW (cc := cX9_count) (maxL := 4) (ret := (some .int)) (by decide) rfl ?_
  intro p e s m args below meth c s₁ B hml hv
  obtain ⟨rfl, hP, hK, hA, hV⟩ := hv
  have hx := B.exec
  have hb := B.bytes
  have hr := B.returns
  have hts := atoms_spec (ws := wsX9_count) B.pre
  have hown : s.vm.findClass RX9 = some m.cls := findClass_of_methodNamed B.named
  have hlocks := B.notSynchronized
  have hS : va_S A s.heap s.heap [] := va_S.rf
  have hX : cX none (chs [1, 5, 20, 21, 22, 23]) G ws G ws := cX.rf
  have hl := lv_entry ([.ref o, .int j]) (n := 4) (Nat.le_of_ble_eq_true rfl)
  rw [lg_entry_eq]
  generalize (lg_sl ([.ref o, .int j]) ++ List.replicate (4 - (lg_sl ([.ref o, .int j])).length) Slot.unset).toArray = ls at hl ⊢
  have hl : lv_has ls 4 [(0, .ref o), (1, .int j)] := hl
  have k_m5 : (-5 : Int32).toInt = -5 := by decide
  have k_m1 : (-1 : Int32).toInt = -1 := by decide
  have k_0 : (0 : Int32).toInt = 0 := by decide
  have k_1000000 : (1000000 : Int32).toInt = 1000000 := by decide
  refine lv_aload_n hx hb dX9_count_0 rfl (lv_at hl 0 rfl) ?_
  refine lv_iload_n hx hb dX9_count_1 rfl (lv_at hl 1 rfl) ?_
  obtain ⟨_, hM_o, bs_o, js_o, sh_o, wk_o, ll_o, jc_o, lc_o, mo_o, lb_o, rfl, hjc_o, hlc_o, hG_bs_o, hG_js_o, hG_sh_o, hG_wk_o, hmo_o, hG_ll_o, hlb_o⟩ := hT _ _ hG_o
  refine t_calla (va_runV (g := F0 m 2 ls ([.int j, .ref o])) (As := [.int j]) (rest := []) ⟨hx, hb, hml, hown, hts⟩ (c_X9_jobOf l D cy A G ws o j hD hT hG_o ) (cwV 1 hts gX9_count_X9_jobOf rfl rfl rfl (by decide +kernel) ⟨Nat.le_of_ble_eq_true rfl, Nat.le_of_ble_eq_true rfl⟩) (c_preV hM_o rfl hP hK hA hS hV) rfl rfl hl.1 rfl (lv_room (Nat.le_of_ble_eq_true rfl)) dX9_count_2 ⟨Nat.le_of_ble_eq_true rfl, Nat.le_of_ble_eq_true rfl⟩) hS (fun r2 u H locs q2 hP9 hD9 hT9 hS => ?_)
  obtain ⟨rfl, q2⟩ := q2
  have hP : va_P D vwCl ws H := hP9
  rcases r2 with _ | x2
  · skip
    refine lv_astore_nN (lv' := [(2, .null), (0, .ref o), (1, .int j)]) hx hb dX9_count_5 rfl hl (by decide) rfl (fun ls hl => ?_)
    refine lv_aload_nN hx hb dX9_count_6 rfl (lv_at hl 0 rfl) ?_
    refine lv_ifnonnullN hx hb dX9_count_7 ?_
    refine lv_iconst (v := (-1)) hx hb dX9_count_10 (by decide) ?_
    exact W.iret (v := ((-1) : Int32)) hx hb hr (fun t ht hW => ⟨⟨_, (G, ws), rfl, ⟨hX, trivial⟩, by show va_P D vwCl ws t.heap; rw [ht]; exact hP, hD, hT⟩, hS.F ht⟩) hS.2.2 dX9_count_11
  · skip
    obtain ⟨kx2, nx2, hG_x2⟩ := q2 x2 rfl
    refine lv_astore_n (lv' := [(2, .ref x2), (0, .ref o), (1, .int j)]) hx hb dX9_count_5 rfl hl (by decide) rfl (fun ls hl => ?_)
    refine lv_aload_n hx hb dX9_count_6 rfl (lv_at hl 0 rfl) ?_
    refine lv_ifnonnull (tgt := 12) hx hb dX9_count_7 (by decide) ?_
    refine lv_aload_n hx hb dX9_count_12 rfl (lv_at hl 1 rfl) ?_
    refine t_get (v := .ref wk_o) (C := RX9) (T := TX9) (N := 9) hx hb hts (by decide +kernel) hown hK hP hM_o rfl 4 (by decide) (hts (.fieldLink RX9 34 "ShadowBench" "walk" "LShadowBench$Walk;") (by decide +kernel)) (fun _ h9 => h9) rfl dX9_count_13 ?_
    refine lv_aload_n hx hb dX9_count_16 rfl (lv_at hl 0 rfl) ?_
    obtain ⟨_, hM_wk_o, j_wk_o, y_wk_o, tr_wk_o, sp_wk_o, fd_wk_o, a1_wk_o, a2_wk_o, a3_wk_o, a4_wk_o, a5_wk_o, rfl, hsp_wk_o, hj_wk_o, hG_a1_wk_o, hG_a2_wk_o, hG_a3_wk_o, hG_a4_wk_o, hG_a5_wk_o⟩ := hT _ _ hG_wk_o
    refine t_callv (va_runV (g := F0 m 17 ls ([.ref x2, .ref wk_o])) (As := [.ref x2]) (rest := []) ⟨hx, hb, hml, hown, hts⟩ (c_X8_start l D cy A G ws wk_o x2 hD hT hG_wk_o hG_x2 ) (cwV 1 hts gX9_count_X8_start rfl rfl rfl (by decide +kernel) ⟨Nat.le_of_ble_eq_true rfl, Nat.le_of_ble_eq_true rfl⟩) (c_preV hM_wk_o rfl hP hK hA hS hV) rfl rfl hl.1 rfl (lv_room (Nat.le_of_ble_eq_true rfl)) dX9_count_17 ⟨Nat.le_of_ble_eq_true rfl, Nat.le_of_ble_eq_true rfl⟩) hS (fun u H locs q17 hP9 hD9 hT9 hS => ?_)
    obtain ⟨G17, w17⟩ := u
    obtain ⟨hX9, q17⟩ := q17
    have hX9 : cX none (chs [1, 5, 20, 21, 22, 23]) G ws G17 w17 := hX9
    have hP : va_P D vwCl w17 H := hP9
    have hD : va_D A w17 := hD9
    have hT : cT cy G17 w17 := hT9
    have hM_o := hX9.2.1 _ _ (cP.no hG_o rfl) hM_o
    have hG_o := hX9.1 _ _ hG_o
    have hG_bs_o := hX9.1 _ _ hG_bs_o
    have hG_js_o := hX9.1 _ _ hG_js_o
    have hG_sh_o := hX9.1 _ _ hG_sh_o
    have hG_wk_o := hX9.1 _ _ hG_wk_o
    have hG_ll_o := hX9.1 _ _ hG_ll_o
    have hG_x2 := hX9.1 _ _ hG_x2
    have hG_a1_wk_o := hX9.1 _ _ hG_a1_wk_o
    have hG_a2_wk_o := hX9.1 _ _ hG_a2_wk_o
    have hG_a3_wk_o := hX9.1 _ _ hG_a3_wk_o
    have hG_a4_wk_o := hX9.1 _ _ hG_a4_wk_o
    have hG_a5_wk_o := hX9.1 _ _ hG_a5_wk_o
    have hX := hX.tr hX9
    refine lv_iconst (v := 0) hx hb dX9_count_20 (by decide) ?_
    refine lv_istore_n (lv' := [(3, .int (0 : Int32)), (2, .ref x2), (0, .ref o), (1, .int j)]) hx hb dX9_count_21 rfl hl (by decide) rfl (fun ls hl => ?_)
    have loop_22 : ∀ (n : Nat) (i : Nat), (i ≤ 1000000) → 1000000 - i < n → ∀ (Gl22 : cG) (wl22 : va_W), cE G17 Gl22 → cX none (chs [1, 5, 20, 21, 22, 23]) G ws Gl22 wl22 → va_D A wl22 → cT cy Gl22 wl22 → ∀ (H : Heap) (locs : List Loc), va_P D vwCl wl22 H → va_S A s.heap H locs → ∀ (ls : Array Slot), lv_has ls 4 [(3, .int (nI i)), (2, .ref x2), (0, .ref o), (1, .int j)] → W p l e (headSpec wsX9_count ({ frames := 6, cells := 0, slots := 0, locals := 144 })).room s m #[Value.ref o, Value.int j] below meth c H locs 0 0 (MQ below (va_Qi (fun r0 u => cX none (chs [1, 5, 20, 21, 22, 23]) G ws u.1 u.2 ∧ (True)) (cB D cy A) A) #[Value.ref o, Value.int j] s 0 0 A) (F0 m 22 ls []) := by
      intro n
      induction n with
      | zero => intro i j22_0 hn; exact absurd hn (Nat.not_lt_zero _)
      | succ n ih_22 =>
        intro i j22_0 hn_22 Gl22 wl22 hEl22 hX hD hT H locs hP hS  ls hl
        have hG_o := hEl22 _ _ hG_o
        have hG_bs_o := hEl22 _ _ hG_bs_o
        have hG_js_o := hEl22 _ _ hG_js_o
        have hG_sh_o := hEl22 _ _ hG_sh_o
        have hG_wk_o := hEl22 _ _ hG_wk_o
        have hG_ll_o := hEl22 _ _ hG_ll_o
        have hG_x2 := hEl22 _ _ hG_x2
        have hG_a1_wk_o := hEl22 _ _ hG_a1_wk_o
        have hG_a2_wk_o := hEl22 _ _ hG_a2_wk_o
        have hG_a3_wk_o := hEl22 _ _ hG_a3_wk_o
        have hG_a4_wk_o := hEl22 _ _ hG_a4_wk_o
        have hG_a5_wk_o := hEl22 _ _ hG_a5_wk_o
        have ik_i : (nI i).toInt = (i : Int) := nI_toInt (by omega)
        refine lv_iload_n hx hb dX9_count_22 rfl (lv_at hl 0 rfl) ?_
        refine lv_ldc hx hb hown (hts (.constant RX9 135 (1000000)) (by decide +kernel)) dX9_count_23 ?_
        refine lv_icmp_ge (tgt := 44) hx hb dX9_count_25 (by decide) (fun c25 => ?_) (fun c25 => ?_)
        · skip
          have d25 := c25
          rw [fa_le] at d25
          refine lv_aload_n hx hb dX9_count_44 rfl (lv_at hl 2 rfl) ?_
          obtain ⟨_, hM_o, bsv1_o, jsv1_o, shv1_o, wkv1_o, llv1_o, jcv1_o, lcv1_o, mov1_o, lbv1_o, rfl, hjc_o, hlc_o, hG_bsv1_o, hG_jsv1_o, hG_shv1_o, hG_wkv1_o, hmo_o, hG_llv1_o, hlb_o⟩ := hT _ _ hG_o
          refine t_get (v := .ref wkv1_o) (C := RX9) (T := TX9) (N := 9) hx hb hts (by decide +kernel) hown hK hP hM_o rfl 4 (by decide) (hts (.fieldLink RX9 34 "ShadowBench" "walk" "LShadowBench$Walk;") (by decide +kernel)) (fun _ h9 => h9) rfl dX9_count_45 ?_
          obtain ⟨_, hM_wkv1_o, j_wkv1_o, y_wkv1_o, tr_wkv1_o, sp_wkv1_o, fd_wkv1_o, a1_wkv1_o, a2_wkv1_o, a3_wkv1_o, a4_wkv1_o, a5_wkv1_o, rfl, hsp_wkv1_o, hj_wkv1_o, hG_a1_wkv1_o, hG_a2_wkv1_o, hG_a3_wkv1_o, hG_a4_wkv1_o, hG_a5_wkv1_o⟩ := hT _ _ hG_wkv1_o
          refine t_calli (va_runV (g := F0 m 48 ls ([.ref wkv1_o])) (As := []) (rest := []) ⟨hx, hb, hml, hown, hts⟩ (c_X8_isSpent l D cy A Gl22 wl22 wkv1_o hD hT hG_wkv1_o ) (cwV 0 hts gX9_count_X8_isSpent rfl rfl rfl (by decide +kernel) ⟨Nat.le_of_ble_eq_true rfl, Nat.le_of_ble_eq_true rfl⟩) (c_preV hM_wkv1_o rfl hP hK hA hS hV) rfl rfl hl.1 rfl (lv_room (Nat.le_of_ble_eq_true rfl)) dX9_count_48 ⟨Nat.le_of_ble_eq_true rfl, Nat.le_of_ble_eq_true rfl⟩) hS (fun r48 u H locs q48 hP9 hD9 hT9 hS => ?_)
          obtain ⟨rfl, q48⟩ := q48
          have hP : va_P D vwCl wl22 H := hP9
          refine lv_if_eq (tgt := 59) hx hb dX9_count_51 (by decide) (fun c51 => ?_) (fun c51 => ?_)
          · skip
            have d51 := c51
            rw [fa_eq] at d51
            refine lv_iload_n hx hb dX9_count_59 rfl (lv_at hl 0 rfl) ?_
            exact W.iret (v := (nI i)) hx hb hr (fun t ht hW => ⟨⟨_, (Gl22, wl22), rfl, ⟨hX, trivial⟩, by show va_P D vwCl wl22 t.heap; rw [ht]; exact hP, hD, hT⟩, hS.F ht⟩) hS.2.2 dX9_count_60
          · skip
            have d51 := c51
            rw [fa_eq] at d51
            refine lv_bipush (v := (-5)) hx hb dX9_count_54 (by decide) ?_
            refine lv_goto (tgt := 60) hx hb dX9_count_56 (by decide) ?_
            exact W.iret (v := ((-5) : Int32)) hx hb hr (fun t ht hW => ⟨⟨_, (Gl22, wl22), rfl, ⟨hX, trivial⟩, by show va_P D vwCl wl22 t.heap; rw [ht]; exact hP, hD, hT⟩, hS.F ht⟩) hS.2.2 dX9_count_60
        · skip
          have d25 := c25
          rw [fa_le] at d25
          refine lv_aload_n hx hb dX9_count_28 rfl (lv_at hl 2 rfl) ?_
          obtain ⟨_, hM_o, bsv1_o, jsv1_o, shv1_o, wkv1_o, llv1_o, jcv1_o, lcv1_o, mov1_o, lbv1_o, rfl, hjc_o, hlc_o, hG_bsv1_o, hG_jsv1_o, hG_shv1_o, hG_wkv1_o, hmo_o, hG_llv1_o, hlb_o⟩ := hT _ _ hG_o
          refine t_get (v := .ref wkv1_o) (C := RX9) (T := TX9) (N := 9) hx hb hts (by decide +kernel) hown hK hP hM_o rfl 4 (by decide) (hts (.fieldLink RX9 34 "ShadowBench" "walk" "LShadowBench$Walk;") (by decide +kernel)) (fun _ h9 => h9) rfl dX9_count_29 ?_
          obtain ⟨_, hM_wkv1_o, j_wkv1_o, y_wkv1_o, tr_wkv1_o, sp_wkv1_o, fd_wkv1_o, a1_wkv1_o, a2_wkv1_o, a3_wkv1_o, a4_wkv1_o, a5_wkv1_o, rfl, hsp_wkv1_o, hj_wkv1_o, hG_a1_wkv1_o, hG_a2_wkv1_o, hG_a3_wkv1_o, hG_a4_wkv1_o, hG_a5_wkv1_o⟩ := hT _ _ hG_wkv1_o
          refine t_calli (va_runV (g := F0 m 32 ls ([.ref wkv1_o])) (As := []) (rest := []) ⟨hx, hb, hml, hown, hts⟩ (c_X8_advance l D cy A Gl22 wl22 wkv1_o hD hT hG_wkv1_o ) (cwV 0 hts gX9_count_X8_advance rfl rfl rfl (by decide +kernel) ⟨Nat.le_of_ble_eq_true rfl, Nat.le_of_ble_eq_true rfl⟩) (c_preV hM_wkv1_o rfl hP hK hA hS hV) rfl rfl hl.1 rfl (lv_room (Nat.le_of_ble_eq_true rfl)) dX9_count_32 ⟨Nat.le_of_ble_eq_true rfl, Nat.le_of_ble_eq_true rfl⟩) hS (fun r32 u H locs q32 hP9 hD9 hT9 hS => ?_)
          obtain ⟨G32, w32⟩ := u
          obtain ⟨hX9, q32⟩ := q32
          have hX9 : cX none (chs [1, 5, 20, 21, 22, 23]) Gl22 wl22 G32 w32 := hX9
          have hP : va_P D vwCl w32 H := hP9
          have hD : va_D A w32 := hD9
          have hT : cT cy G32 w32 := hT9
          have hM_o := hX9.2.1 _ _ (cP.no hG_o rfl) hM_o
          have hG_o := hX9.1 _ _ hG_o
          have hG_bs_o := hX9.1 _ _ hG_bs_o
          have hG_js_o := hX9.1 _ _ hG_js_o
          have hG_sh_o := hX9.1 _ _ hG_sh_o
          have hG_wk_o := hX9.1 _ _ hG_wk_o
          have hG_ll_o := hX9.1 _ _ hG_ll_o
          have hG_x2 := hX9.1 _ _ hG_x2
          have hG_a1_wk_o := hX9.1 _ _ hG_a1_wk_o
          have hG_a2_wk_o := hX9.1 _ _ hG_a2_wk_o
          have hG_a3_wk_o := hX9.1 _ _ hG_a3_wk_o
          have hG_a4_wk_o := hX9.1 _ _ hG_a4_wk_o
          have hG_a5_wk_o := hX9.1 _ _ hG_a5_wk_o
          have hG_bsv1_o := hX9.1 _ _ hG_bsv1_o
          have hG_jsv1_o := hX9.1 _ _ hG_jsv1_o
          have hG_shv1_o := hX9.1 _ _ hG_shv1_o
          have hG_wkv1_o := hX9.1 _ _ hG_wkv1_o
          have hG_llv1_o := hX9.1 _ _ hG_llv1_o
          have hG_a1_wkv1_o := hX9.1 _ _ hG_a1_wkv1_o
          have hG_a2_wkv1_o := hX9.1 _ _ hG_a2_wkv1_o
          have hG_a3_wkv1_o := hX9.1 _ _ hG_a3_wkv1_o
          have hG_a4_wkv1_o := hX9.1 _ _ hG_a4_wkv1_o
          have hG_a5_wkv1_o := hX9.1 _ _ hG_a5_wkv1_o
          have hEl22 := hEl22.tr hX9.1
          have hX := hX.tr hX9
          refine lv_if_eq (tgt := 44) hx hb dX9_count_35 (by decide) (fun c35 => ?_) (fun c35 => ?_)
          · skip
            have d35 := c35
            rw [fa_eq] at d35
            refine lv_aload_n hx hb dX9_count_44 rfl (lv_at hl 2 rfl) ?_
            refine t_get (v := .ref wkv1_o) (C := RX9) (T := TX9) (N := 9) hx hb hts (by decide +kernel) hown hK hP hM_o rfl 4 (by decide) (hts (.fieldLink RX9 34 "ShadowBench" "walk" "LShadowBench$Walk;") (by decide +kernel)) (fun _ h9 => h9) rfl dX9_count_45 ?_
            obtain ⟨_, hM_wkv1_o, jv1_wkv1_o, yv1_wkv1_o, trv1_wkv1_o, spv1_wkv1_o, fdv1_wkv1_o, a1v1_wkv1_o, a2v1_wkv1_o, a3v1_wkv1_o, a4v1_wkv1_o, a5v1_wkv1_o, rfl, hsp_wkv1_o, hj_wkv1_o, hG_a1v1_wkv1_o, hG_a2v1_wkv1_o, hG_a3v1_wkv1_o, hG_a4v1_wkv1_o, hG_a5v1_wkv1_o⟩ := hT _ _ hG_wkv1_o
            refine t_calli (va_runV (g := F0 m 48 ls ([.ref wkv1_o])) (As := []) (rest := []) ⟨hx, hb, hml, hown, hts⟩ (c_X8_isSpent l D cy A G32 w32 wkv1_o hD hT hG_wkv1_o ) (cwV 0 hts gX9_count_X8_isSpent rfl rfl rfl (by decide +kernel) ⟨Nat.le_of_ble_eq_true rfl, Nat.le_of_ble_eq_true rfl⟩) (c_preV hM_wkv1_o rfl hP hK hA hS hV) rfl rfl hl.1 rfl (lv_room (Nat.le_of_ble_eq_true rfl)) dX9_count_48 ⟨Nat.le_of_ble_eq_true rfl, Nat.le_of_ble_eq_true rfl⟩) hS (fun r48 u H locs q48 hP9 hD9 hT9 hS => ?_)
            obtain ⟨rfl, q48⟩ := q48
            have hP : va_P D vwCl w32 H := hP9
            refine lv_if_eq (tgt := 59) hx hb dX9_count_51 (by decide) (fun c51 => ?_) (fun c51 => ?_)
            · skip
              have d51 := c51
              rw [fa_eq] at d51
              refine lv_iload_n hx hb dX9_count_59 rfl (lv_at hl 0 rfl) ?_
              exact W.iret (v := (nI i)) hx hb hr (fun t ht hW => ⟨⟨_, (G32, w32), rfl, ⟨hX, trivial⟩, by show va_P D vwCl w32 t.heap; rw [ht]; exact hP, hD, hT⟩, hS.F ht⟩) hS.2.2 dX9_count_60
            · skip
              have d51 := c51
              rw [fa_eq] at d51
              refine lv_bipush (v := (-5)) hx hb dX9_count_54 (by decide) ?_
              refine lv_goto (tgt := 60) hx hb dX9_count_56 (by decide) ?_
              exact W.iret (v := ((-5) : Int32)) hx hb hr (fun t ht hW => ⟨⟨_, (G32, w32), rfl, ⟨hX, trivial⟩, by show va_P D vwCl w32 t.heap; rw [ht]; exact hP, hD, hT⟩, hS.F ht⟩) hS.2.2 dX9_count_60
          · skip
            have d35 := c35
            rw [fa_eq] at d35
            refine lv_iinc (v := (nI (i + 1))) (lv' := [(3, .int (nI (i + 1))), (2, .ref x2), (0, .ref o), (1, .int j)]) hx hb dX9_count_38 hl (k := 0) rfl (nI_1 _) (by decide) rfl (fun ls hl => ?_)
            refine lv_goto (tgt := 22) hx hb dX9_count_41 (by decide) ?_
            exact ih_22 (i + 1) (by omega) (by omega) G32 w32 hEl22 hX hD hT _ _ hP hS  ls (lv_sub hl [0, 1, 2, 3] rfl)
    exact loop_22 (1000000 + 1) 0 (by omega) (by omega) G17 w17 cE.rf hX hD hT _ _ hP hS  ls (lv_sub hl [0, 1, 2, 3] rfl)
set_option maxHeartbeats 4000000 in
set_option maxRecDepth 100000 in
theorem c_X9_find (l : Launch) (D : va_G) (cy : Nat → ClassId) (A : Nat → Prop) (G : cG) (ws : va_W) (o : Nat) (j : Int32) (i0 : Int32)  (hD : va_D A ws) (hT : cT cy G ws) (hG_o : G o = some (7, 0, 0))  : Cl l D cy A yX9_find wsX9_find ({ frames := 6, cells := 0, slots := 0, locals := 144 }) 0 0 ws [.ref o, .int j, .int i0] (fun r0 u => cX none (chs [1, 5, 20, 21, 22, 23]) G ws u.1 u.2 ∧ (True)) := by
  refine Met.ofW (cc := cX9_find) (maxL := 5) (ret := (some .long)) (by decide) rfl ?_
  intro p e s m args below meth c s₁ B hml hv
  obtain ⟨rfl, hP, hK, hA, hV⟩ := hv
  have hx := B.exec
  have hb := B.bytes
  have hr := B.returns
  have hts := atoms_spec (ws := wsX9_find) B.pre
  have hown : s.vm.findClass RX9 = some m.cls := findClass_of_methodNamed B.named
  have hlocks := B.notSynchronized
  have hS : va_S A s.heap s.heap [] := va_S.rf
  have hX : cX none (chs [1, 5, 20, 21, 22, 23]) G ws G ws := cX.rf
  have hl := lv_entry ([.ref o, .int j, .int i0]) (n := 5) (Nat.le_of_ble_eq_true rfl)
  rw [lg_entry_eq]
  generalize (lg_sl ([.ref o, .int j, .int i0]) ++ List.replicate (5 - (lg_sl ([.ref o, .int j, .int i0])).length) Slot.unset).toArray = ls at hl ⊢
  have hl : lv_has ls 5 [(0, .ref o), (1, .int j), (2, .int i0)] := hl
  have k_0 : (0 : Int32).toInt = 0 := by decide
  have k_1000000 : (1000000 : Int32).toInt = 1000000 := by decide
  have k_m5L : (-5 : Int64).toInt = -5 := by decide
  have k_m2L : (-2 : Int64).toInt = -2 := by decide
  have k_m1L : (-1 : Int64).toInt = -1 := by decide
  refine lv_aload_n hx hb dX9_find_0 rfl (lv_at hl 0 rfl) ?_
  refine lv_iload_n hx hb dX9_find_1 rfl (lv_at hl 1 rfl) ?_
  obtain ⟨_, hM_o, bs_o, js_o, sh_o, wk_o, ll_o, jc_o, lc_o, mo_o, lb_o, rfl, hjc_o, hlc_o, hG_bs_o, hG_js_o, hG_sh_o, hG_wk_o, hmo_o, hG_ll_o, hlb_o⟩ := hT _ _ hG_o
  refine t_calla (va_runV (g := F0 m 2 ls ([.int j, .ref o])) (As := [.int j]) (rest := []) ⟨hx, hb, hml, hown, hts⟩ (c_X9_jobOf l D cy A G ws o j hD hT hG_o ) (cwV 1 hts gX9_find_X9_jobOf rfl rfl rfl (by decide +kernel) ⟨Nat.le_of_ble_eq_true rfl, Nat.le_of_ble_eq_true rfl⟩) (c_preV hM_o rfl hP hK hA hS hV) rfl rfl hl.1 rfl (lv_room (Nat.le_of_ble_eq_true rfl)) dX9_find_2 ⟨Nat.le_of_ble_eq_true rfl, Nat.le_of_ble_eq_true rfl⟩) hS (fun r2 u H locs q2 hP9 hD9 hT9 hS => ?_)
  obtain ⟨rfl, q2⟩ := q2
  have hP : va_P D vwCl ws H := hP9
  rcases r2 with _ | x2
  · skip
    refine lv_astore_nN (lv' := [(3, .null), (0, .ref o), (1, .int j), (2, .int i0)]) hx hb dX9_find_5 rfl hl (by decide) rfl (fun ls hl => ?_)
    refine lv_aload_nN hx hb dX9_find_6 rfl (lv_at hl 0 rfl) ?_
    refine lv_ifnullN (tgt := 14) hx hb dX9_find_7 (by decide) ?_
    refine lv_ldc2 hx hb hown (hts (.constantLong RX9 143 (-1)) (by decide +kernel)) dX9_find_14 ?_
    exact W.lret (v := (-1 : Int64)) hx hb hr (fun t ht hW => ⟨⟨_, (G, ws), rfl, ⟨hX, trivial⟩, by show va_P D vwCl ws t.heap; rw [ht]; exact hP, hD, hT⟩, hS.F ht⟩) hS.2.2 dX9_find_17
  · skip
    obtain ⟨kx2, nx2, hG_x2⟩ := q2 x2 rfl
    refine lv_astore_n (lv' := [(3, .ref x2), (0, .ref o), (1, .int j), (2, .int i0)]) hx hb dX9_find_5 rfl hl (by decide) rfl (fun ls hl => ?_)
    refine lv_aload_n hx hb dX9_find_6 rfl (lv_at hl 0 rfl) ?_
    refine lv_ifnull hx hb dX9_find_7 ?_
    refine lv_iload_n hx hb dX9_find_10 rfl (lv_at hl 3 rfl) ?_
    refine lv_if_ge (tgt := 18) hx hb dX9_find_11 (by decide) (fun c11 => ?_) (fun c11 => ?_)
    · skip
      have d11 := c11
      rw [fa_le] at d11
      refine lv_aload_n hx hb dX9_find_18 rfl (lv_at hl 1 rfl) ?_
      refine t_get (v := .ref wk_o) (C := RX9) (T := TX9) (N := 9) hx hb hts (by decide +kernel) hown hK hP hM_o rfl 4 (by decide) (hts (.fieldLink RX9 34 "ShadowBench" "walk" "LShadowBench$Walk;") (by decide +kernel)) (fun _ h9 => h9) rfl dX9_find_19 ?_
      refine lv_aload_n hx hb dX9_find_22 rfl (lv_at hl 0 rfl) ?_
      obtain ⟨_, hM_wk_o, j_wk_o, y_wk_o, tr_wk_o, sp_wk_o, fd_wk_o, a1_wk_o, a2_wk_o, a3_wk_o, a4_wk_o, a5_wk_o, rfl, hsp_wk_o, hj_wk_o, hG_a1_wk_o, hG_a2_wk_o, hG_a3_wk_o, hG_a4_wk_o, hG_a5_wk_o⟩ := hT _ _ hG_wk_o
      refine t_callv (va_runV (g := F0 m 23 ls ([.ref x2, .ref wk_o])) (As := [.ref x2]) (rest := []) ⟨hx, hb, hml, hown, hts⟩ (c_X8_start l D cy A G ws wk_o x2 hD hT hG_wk_o hG_x2 ) (cwV 1 hts gX9_find_X8_start rfl rfl rfl (by decide +kernel) ⟨Nat.le_of_ble_eq_true rfl, Nat.le_of_ble_eq_true rfl⟩) (c_preV hM_wk_o rfl hP hK hA hS hV) rfl rfl hl.1 rfl (lv_room (Nat.le_of_ble_eq_true rfl)) dX9_find_23 ⟨Nat.le_of_ble_eq_true rfl, Nat.le_of_ble_eq_true rfl⟩) hS (fun u H locs q23 hP9 hD9 hT9 hS => ?_)
      obtain ⟨G23, w23⟩ := u
      obtain ⟨hX9, q23⟩ := q23
      have hX9 : cX none (chs [1, 5, 20, 21, 22, 23]) G ws G23 w23 := hX9
      have hP : va_P D vwCl w23 H := hP9
      have hD : va_D A w23 := hD9
      have hT : cT cy G23 w23 := hT9
      have hM_o := hX9.2.1 _ _ (cP.no hG_o rfl) hM_o
      have hG_o := hX9.1 _ _ hG_o
      have hG_bs_o := hX9.1 _ _ hG_bs_o
      have hG_js_o := hX9.1 _ _ hG_js_o
      have hG_sh_o := hX9.1 _ _ hG_sh_o
      have hG_wk_o := hX9.1 _ _ hG_wk_o
      have hG_ll_o := hX9.1 _ _ hG_ll_o
      have hG_x2 := hX9.1 _ _ hG_x2
      have hG_a1_wk_o := hX9.1 _ _ hG_a1_wk_o
      have hG_a2_wk_o := hX9.1 _ _ hG_a2_wk_o
      have hG_a3_wk_o := hX9.1 _ _ hG_a3_wk_o
      have hG_a4_wk_o := hX9.1 _ _ hG_a4_wk_o
      have hG_a5_wk_o := hX9.1 _ _ hG_a5_wk_o
      have hX := hX.tr hX9
      refine lv_iconst (v := 0) hx hb dX9_find_26 (by decide) ?_
      refine lv_istore (lv' := [(4, .int (0 : Int32)), (3, .ref x2), (0, .ref o), (1, .int j), (2, .int i0)]) hx hb dX9_find_27 hl (by decide) rfl (fun ls hl => ?_)
      have loop_29 : ∀ (n : Nat) (i : Nat), (i ≤ 1000000) → 1000000 - i < n → ∀ (Gl29 : cG) (wl29 : va_W), cE G23 Gl29 → cX none (chs [1, 5, 20, 21, 22, 23]) G ws Gl29 wl29 → va_D A wl29 → cT cy Gl29 wl29 → ∀ (H : Heap) (locs : List Loc), va_P D vwCl wl29 H → va_S A s.heap H locs → ∀ (ls : Array Slot), lv_has ls 5 [(4, .int (nI i)), (3, .ref x2), (0, .ref o), (1, .int j), (2, .int i0)] → W p l e (headSpec wsX9_find ({ frames := 6, cells := 0, slots := 0, locals := 144 })).room s m #[Value.ref o, Value.int j, Value.int i0] below meth c H locs 0 0 (MQ below (va_Ql (fun r0 u => cX none (chs [1, 5, 20, 21, 22, 23]) G ws u.1 u.2 ∧ (True)) (cB D cy A) A) #[Value.ref o, Value.int j, Value.int i0] s 0 0 A) (F0 m 29 ls []) := by
        intro n
        induction n with
        | zero => intro i j29_0 hn; exact absurd hn (Nat.not_lt_zero _)
        | succ n ih_29 =>
          intro i j29_0 hn_29 Gl29 wl29 hEl29 hX hD hT H locs hP hS  ls hl
          have hG_o := hEl29 _ _ hG_o
          have hG_bs_o := hEl29 _ _ hG_bs_o
          have hG_js_o := hEl29 _ _ hG_js_o
          have hG_sh_o := hEl29 _ _ hG_sh_o
          have hG_wk_o := hEl29 _ _ hG_wk_o
          have hG_ll_o := hEl29 _ _ hG_ll_o
          have hG_x2 := hEl29 _ _ hG_x2
          have hG_a1_wk_o := hEl29 _ _ hG_a1_wk_o
          have hG_a2_wk_o := hEl29 _ _ hG_a2_wk_o
          have hG_a3_wk_o := hEl29 _ _ hG_a3_wk_o
          have hG_a4_wk_o := hEl29 _ _ hG_a4_wk_o
          have hG_a5_wk_o := hEl29 _ _ hG_a5_wk_o
          have ik_i : (nI i).toInt = (i : Int) := nI_toInt (by omega)
          refine lv_iload hx hb dX9_find_29 (lv_at hl 0 rfl) ?_
          refine lv_ldc hx hb hown (hts (.constant RX9 135 (1000000)) (by decide +kernel)) dX9_find_31 ?_
          refine lv_icmp_ge (tgt := 66) hx hb dX9_find_33 (by decide) (fun c33 => ?_) (fun c33 => ?_)
          · skip
            have d33 := c33
            rw [fa_le] at d33
            refine lv_aload_n hx hb dX9_find_66 rfl (lv_at hl 2 rfl) ?_
            obtain ⟨_, hM_o, bsv1_o, jsv1_o, shv1_o, wkv1_o, llv1_o, jcv1_o, lcv1_o, mov1_o, lbv1_o, rfl, hjc_o, hlc_o, hG_bsv1_o, hG_jsv1_o, hG_shv1_o, hG_wkv1_o, hmo_o, hG_llv1_o, hlb_o⟩ := hT _ _ hG_o
            refine t_get (v := .ref wkv1_o) (C := RX9) (T := TX9) (N := 9) hx hb hts (by decide +kernel) hown hK hP hM_o rfl 4 (by decide) (hts (.fieldLink RX9 34 "ShadowBench" "walk" "LShadowBench$Walk;") (by decide +kernel)) (fun _ h9 => h9) rfl dX9_find_67 ?_
            obtain ⟨_, hM_wkv1_o, j_wkv1_o, y_wkv1_o, tr_wkv1_o, sp_wkv1_o, fd_wkv1_o, a1_wkv1_o, a2_wkv1_o, a3_wkv1_o, a4_wkv1_o, a5_wkv1_o, rfl, hsp_wkv1_o, hj_wkv1_o, hG_a1_wkv1_o, hG_a2_wkv1_o, hG_a3_wkv1_o, hG_a4_wkv1_o, hG_a5_wkv1_o⟩ := hT _ _ hG_wkv1_o
            refine t_calli (va_runV (g := F0 m 70 ls ([.ref wkv1_o])) (As := []) (rest := []) ⟨hx, hb, hml, hown, hts⟩ (c_X8_isSpent l D cy A Gl29 wl29 wkv1_o hD hT hG_wkv1_o ) (cwV 0 hts gX9_find_X8_isSpent rfl rfl rfl (by decide +kernel) ⟨Nat.le_of_ble_eq_true rfl, Nat.le_of_ble_eq_true rfl⟩) (c_preV hM_wkv1_o rfl hP hK hA hS hV) rfl rfl hl.1 rfl (lv_room (Nat.le_of_ble_eq_true rfl)) dX9_find_70 ⟨Nat.le_of_ble_eq_true rfl, Nat.le_of_ble_eq_true rfl⟩) hS (fun r70 u H locs q70 hP9 hD9 hT9 hS => ?_)
            obtain ⟨rfl, q70⟩ := q70
            have hP : va_P D vwCl wl29 H := hP9
            refine lv_if_eq (tgt := 82) hx hb dX9_find_73 (by decide) (fun c73 => ?_) (fun c73 => ?_)
            · skip
              have d73 := c73
              rw [fa_eq] at d73
              refine lv_ldc2 hx hb hown (hts (.constantLong RX9 151 (-2)) (by decide +kernel)) dX9_find_82 ?_
              exact W.lret (v := (-2 : Int64)) hx hb hr (fun t ht hW => ⟨⟨_, (Gl29, wl29), rfl, ⟨hX, trivial⟩, by show va_P D vwCl wl29 t.heap; rw [ht]; exact hP, hD, hT⟩, hS.F ht⟩) hS.2.2 dX9_find_85
            · skip
              have d73 := c73
              rw [fa_eq] at d73
              refine lv_ldc2 hx hb hown (hts (.constantLong RX9 149 (-5)) (by decide +kernel)) dX9_find_76 ?_
              refine lv_goto (tgt := 85) hx hb dX9_find_79 (by decide) ?_
              exact W.lret (v := (-5 : Int64)) hx hb hr (fun t ht hW => ⟨⟨_, (Gl29, wl29), rfl, ⟨hX, trivial⟩, by show va_P D vwCl wl29 t.heap; rw [ht]; exact hP, hD, hT⟩, hS.F ht⟩) hS.2.2 dX9_find_85
          · skip
            have d33 := c33
            rw [fa_le] at d33
            refine lv_aload_n hx hb dX9_find_36 rfl (lv_at hl 2 rfl) ?_
            obtain ⟨_, hM_o, bsv1_o, jsv1_o, shv1_o, wkv1_o, llv1_o, jcv1_o, lcv1_o, mov1_o, lbv1_o, rfl, hjc_o, hlc_o, hG_bsv1_o, hG_jsv1_o, hG_shv1_o, hG_wkv1_o, hmo_o, hG_llv1_o, hlb_o⟩ := hT _ _ hG_o
            refine t_get (v := .ref wkv1_o) (C := RX9) (T := TX9) (N := 9) hx hb hts (by decide +kernel) hown hK hP hM_o rfl 4 (by decide) (hts (.fieldLink RX9 34 "ShadowBench" "walk" "LShadowBench$Walk;") (by decide +kernel)) (fun _ h9 => h9) rfl dX9_find_37 ?_
            obtain ⟨_, hM_wkv1_o, j_wkv1_o, y_wkv1_o, tr_wkv1_o, sp_wkv1_o, fd_wkv1_o, a1_wkv1_o, a2_wkv1_o, a3_wkv1_o, a4_wkv1_o, a5_wkv1_o, rfl, hsp_wkv1_o, hj_wkv1_o, hG_a1_wkv1_o, hG_a2_wkv1_o, hG_a3_wkv1_o, hG_a4_wkv1_o, hG_a5_wkv1_o⟩ := hT _ _ hG_wkv1_o
            refine t_calli (va_runV (g := F0 m 40 ls ([.ref wkv1_o])) (As := []) (rest := []) ⟨hx, hb, hml, hown, hts⟩ (c_X8_advance l D cy A Gl29 wl29 wkv1_o hD hT hG_wkv1_o ) (cwV 0 hts gX9_find_X8_advance rfl rfl rfl (by decide +kernel) ⟨Nat.le_of_ble_eq_true rfl, Nat.le_of_ble_eq_true rfl⟩) (c_preV hM_wkv1_o rfl hP hK hA hS hV) rfl rfl hl.1 rfl (lv_room (Nat.le_of_ble_eq_true rfl)) dX9_find_40 ⟨Nat.le_of_ble_eq_true rfl, Nat.le_of_ble_eq_true rfl⟩) hS (fun r40 u H locs q40 hP9 hD9 hT9 hS => ?_)
            obtain ⟨G40, w40⟩ := u
            obtain ⟨hX9, q40⟩ := q40
            have hX9 : cX none (chs [1, 5, 20, 21, 22, 23]) Gl29 wl29 G40 w40 := hX9
            have hP : va_P D vwCl w40 H := hP9
            have hD : va_D A w40 := hD9
            have hT : cT cy G40 w40 := hT9
            have hM_o := hX9.2.1 _ _ (cP.no hG_o rfl) hM_o
            have hG_o := hX9.1 _ _ hG_o
            have hG_bs_o := hX9.1 _ _ hG_bs_o
            have hG_js_o := hX9.1 _ _ hG_js_o
            have hG_sh_o := hX9.1 _ _ hG_sh_o
            have hG_wk_o := hX9.1 _ _ hG_wk_o
            have hG_ll_o := hX9.1 _ _ hG_ll_o
            have hG_x2 := hX9.1 _ _ hG_x2
            have hG_a1_wk_o := hX9.1 _ _ hG_a1_wk_o
            have hG_a2_wk_o := hX9.1 _ _ hG_a2_wk_o
            have hG_a3_wk_o := hX9.1 _ _ hG_a3_wk_o
            have hG_a4_wk_o := hX9.1 _ _ hG_a4_wk_o
            have hG_a5_wk_o := hX9.1 _ _ hG_a5_wk_o
            have hG_bsv1_o := hX9.1 _ _ hG_bsv1_o
            have hG_jsv1_o := hX9.1 _ _ hG_jsv1_o
            have hG_shv1_o := hX9.1 _ _ hG_shv1_o
            have hG_wkv1_o := hX9.1 _ _ hG_wkv1_o
            have hG_llv1_o := hX9.1 _ _ hG_llv1_o
            have hG_a1_wkv1_o := hX9.1 _ _ hG_a1_wkv1_o
            have hG_a2_wkv1_o := hX9.1 _ _ hG_a2_wkv1_o
            have hG_a3_wkv1_o := hX9.1 _ _ hG_a3_wkv1_o
            have hG_a4_wkv1_o := hX9.1 _ _ hG_a4_wkv1_o
            have hG_a5_wkv1_o := hX9.1 _ _ hG_a5_wkv1_o
            have hEl29 := hEl29.tr hX9.1
            have hX := hX.tr hX9
            refine lv_if_eq (tgt := 66) hx hb dX9_find_43 (by decide) (fun c43 => ?_) (fun c43 => ?_)
            · skip
              have d43 := c43
              rw [fa_eq] at d43
              refine lv_aload_n hx hb dX9_find_66 rfl (lv_at hl 2 rfl) ?_
              refine t_get (v := .ref wkv1_o) (C := RX9) (T := TX9) (N := 9) hx hb hts (by decide +kernel) hown hK hP hM_o rfl 4 (by decide) (hts (.fieldLink RX9 34 "ShadowBench" "walk" "LShadowBench$Walk;") (by decide +kernel)) (fun _ h9 => h9) rfl dX9_find_67 ?_
              obtain ⟨_, hM_wkv1_o, jv1_wkv1_o, yv1_wkv1_o, trv1_wkv1_o, spv1_wkv1_o, fdv1_wkv1_o, a1v1_wkv1_o, a2v1_wkv1_o, a3v1_wkv1_o, a4v1_wkv1_o, a5v1_wkv1_o, rfl, hsp_wkv1_o, hj_wkv1_o, hG_a1v1_wkv1_o, hG_a2v1_wkv1_o, hG_a3v1_wkv1_o, hG_a4v1_wkv1_o, hG_a5v1_wkv1_o⟩ := hT _ _ hG_wkv1_o
              refine t_calli (va_runV (g := F0 m 70 ls ([.ref wkv1_o])) (As := []) (rest := []) ⟨hx, hb, hml, hown, hts⟩ (c_X8_isSpent l D cy A G40 w40 wkv1_o hD hT hG_wkv1_o ) (cwV 0 hts gX9_find_X8_isSpent rfl rfl rfl (by decide +kernel) ⟨Nat.le_of_ble_eq_true rfl, Nat.le_of_ble_eq_true rfl⟩) (c_preV hM_wkv1_o rfl hP hK hA hS hV) rfl rfl hl.1 rfl (lv_room (Nat.le_of_ble_eq_true rfl)) dX9_find_70 ⟨Nat.le_of_ble_eq_true rfl, Nat.le_of_ble_eq_true rfl⟩) hS (fun r70 u H locs q70 hP9 hD9 hT9 hS => ?_)
              obtain ⟨rfl, q70⟩ := q70
              have hP : va_P D vwCl w40 H := hP9
              refine lv_if_eq (tgt := 82) hx hb dX9_find_73 (by decide) (fun c73 => ?_) (fun c73 => ?_)
              · skip
                have d73 := c73
                rw [fa_eq] at d73
                refine lv_ldc2 hx hb hown (hts (.constantLong RX9 151 (-2)) (by decide +kernel)) dX9_find_82 ?_
                exact W.lret (v := (-2 : Int64)) hx hb hr (fun t ht hW => ⟨⟨_, (G40, w40), rfl, ⟨hX, trivial⟩, by show va_P D vwCl w40 t.heap; rw [ht]; exact hP, hD, hT⟩, hS.F ht⟩) hS.2.2 dX9_find_85
              · skip
                have d73 := c73
                rw [fa_eq] at d73
                refine lv_ldc2 hx hb hown (hts (.constantLong RX9 149 (-5)) (by decide +kernel)) dX9_find_76 ?_
                refine lv_goto (tgt := 85) hx hb dX9_find_79 (by decide) ?_
                exact W.lret (v := (-5 : Int64)) hx hb hr (fun t ht hW => ⟨⟨_, (G40, w40), rfl, ⟨hX, trivial⟩, by show va_P D vwCl w40 t.heap; rw [ht]; exact hP, hD, hT⟩, hS.F ht⟩) hS.2.2 dX9_find_85
            · skip
              have d43 := c43
              rw [fa_eq] at d43
              refine lv_iload hx hb dX9_find_46 (lv_at hl 0 rfl) ?_
              refine lv_iload_n hx hb dX9_find_48 rfl (lv_at hl 4 rfl) ?_
              refine lv_icmp_ne (tgt := 60) hx hb dX9_find_49 (by decide) (fun c49 => ?_) (fun c49 => ?_)
              · skip
                have d49 := c49
                rw [fa_eq] at d49
                refine lv_iinc (v := (nI (i + 1))) (lv' := [(4, .int (nI (i + 1))), (3, .ref x2), (0, .ref o), (1, .int j), (2, .int i0)]) hx hb dX9_find_60 hl (k := 0) rfl (nI_1 _) (by decide) rfl (fun ls hl => ?_)
                refine lv_goto (tgt := 29) hx hb dX9_find_63 (by decide) ?_
                exact ih_29 (i + 1) (by omega) (by omega) G40 w40 hEl29 hX hD hT _ _ hP hS  ls (lv_sub hl [0, 1, 2, 3, 4] rfl)
              · skip
                have d49 := c49
                rw [fa_eq] at d49
                refine lv_aload_n hx hb dX9_find_52 rfl (lv_at hl 2 rfl) ?_
                refine t_get (v := .ref wkv1_o) (C := RX9) (T := TX9) (N := 9) hx hb hts (by decide +kernel) hown hK hP hM_o rfl 4 (by decide) (hts (.fieldLink RX9 34 "ShadowBench" "walk" "LShadowBench$Walk;") (by decide +kernel)) (fun _ h9 => h9) rfl dX9_find_53 ?_
                obtain ⟨_, hM_wkv1_o, jv1_wkv1_o, yv1_wkv1_o, trv1_wkv1_o, spv1_wkv1_o, fdv1_wkv1_o, a1v1_wkv1_o, a2v1_wkv1_o, a3v1_wkv1_o, a4v1_wkv1_o, a5v1_wkv1_o, rfl, hsp_wkv1_o, hj_wkv1_o, hG_a1v1_wkv1_o, hG_a2v1_wkv1_o, hG_a3v1_wkv1_o, hG_a4v1_wkv1_o, hG_a5v1_wkv1_o⟩ := hT _ _ hG_wkv1_o
                refine t_calll (va_runV (g := F0 m 56 ls ([.ref wkv1_o])) (As := []) (rest := []) ⟨hx, hb, hml, hown, hts⟩ (c_X8_found l D cy A G40 w40 wkv1_o hD hT hG_wkv1_o ) (cwV 0 hts gX9_find_X8_found rfl rfl rfl (by decide +kernel) ⟨Nat.le_of_ble_eq_true rfl, Nat.le_of_ble_eq_true rfl⟩) (c_preV hM_wkv1_o rfl hP hK hA hS hV) rfl rfl hl.1 rfl (lv_room (Nat.le_of_ble_eq_true rfl)) dX9_find_56 ⟨Nat.le_of_ble_eq_true rfl, Nat.le_of_ble_eq_true rfl⟩) hS (fun r56 u H locs q56 hP9 hD9 hT9 hS => ?_)
                obtain ⟨rfl, q56⟩ := q56
                have hP : va_P D vwCl w40 H := hP9
                exact W.lret (v := r56) hx hb hr (fun t ht hW => ⟨⟨_, (G40, w40), rfl, ⟨hX, trivial⟩, by show va_P D vwCl w40 t.heap; rw [ht]; exact hP, hD, hT⟩, hS.F ht⟩) hS.2.2 dX9_find_59
      exact loop_29 (1000000 + 1) 0 (by omega) (by omega) G23 w23 cE.rf hX hD hT _ _ hP hS  ls (lv_sub hl [0, 1, 2, 3, 4] rfl)
    · skip
      have d11 := c11
      rw [fa_le] at d11
      refine lv_ldc2 hx hb hown (hts (.constantLong RX9 143 (-1)) (by decide +kernel)) dX9_find_14 ?_
      exact W.lret (v := (-1 : Int64)) hx hb hr (fun t ht hW => ⟨⟨_, (G, ws), rfl, ⟨hX, trivial⟩, by show va_P D vwCl ws t.heap; rw [ht]; exact hP, hD, hT⟩, hS.F ht⟩) hS.2.2 dX9_find_17
set_option maxHeartbeats 4000000 in
set_option maxRecDepth 100000 in
theorem c_X9_rank (l : Launch) (D : va_G) (cy : Nat → ClassId) (A : Nat → Prop) (G : cG) (ws : va_W) (o : Nat) (j : Int32) (p0 : Int64)  (hD : va_D A ws) (hT : cT cy G ws) (hG_o : G o = some (7, 0, 0))  : Ci l D cy A yX9_rank wsX9_rank ({ frames := 6, cells := 0, slots := 0, locals := 144 }) 0 0 ws [.ref o, .int j, .long p0] (fun r0 u => cX none (chs [1, 5, 20, 21, 22, 23]) G ws u.1 u.2 ∧ (True)) := by
  refine Met.ofW (cc := cX9_rank) (maxL := 6) (ret := (some .int)) (by decide) rfl ?_
  intro p e s m args below meth c s₁ B hml hv
  obtain ⟨rfl, hP, hK, hA, hV⟩ := hv
  have hx := B.exec
  have hb := B.bytes
  have hr := B.returns
  have hts := atoms_spec (ws := wsX9_rank) B.pre
  have hown : s.vm.findClass RX9 = some m.cls := findClass_of_methodNamed B.named
  have hlocks := B.notSynchronized
  have hS : va_S A s.heap s.heap [] := va_S.rf
  have hinJ : ∀ w ∈ wsX10 ++ wsX30 ++ wsX40 ++ wsX50, w ∈ wsX9_rank := by decide +kernel
  have hX : cX none (chs [1, 5, 20, 21, 22, 23]) G ws G ws := cX.rf
  have hl := lv_entry ([.ref o, .int j, .long p0]) (n := 6) (Nat.le_of_ble_eq_true rfl)
  rw [lg_entry_eq]
  generalize (lg_sl ([.ref o, .int j, .long p0]) ++ List.replicate (6 - (lg_sl ([.ref o, .int j, .long p0])).length) Slot.unset).toArray = ls at hl ⊢
  have hl : lv_has ls 6 [(0, .ref o), (1, .int j), (2, .long p0)] := hl
  have k_m5 : (-5 : Int32).toInt = -5 := by decide
  have k_m2 : (-2 : Int32).toInt = -2 := by decide
  have k_m1 : (-1 : Int32).toInt = -1 := by decide
  have k_0 : (0 : Int32).toInt = 0 := by decide
  have k_1000000 : (1000000 : Int32).toInt = 1000000 := by decide
  refine lv_aload_n hx hb dX9_rank_0 rfl (lv_at hl 0 rfl) ?_
  refine lv_iload_n hx hb dX9_rank_1 rfl (lv_at hl 1 rfl) ?_
  obtain ⟨_, hM_o, bs_o, js_o, sh_o, wk_o, ll_o, jc_o, lc_o, mo_o, lb_o, rfl, hjc_o, hlc_o, hG_bs_o, hG_js_o, hG_sh_o, hG_wk_o, hmo_o, hG_ll_o, hlb_o⟩ := hT _ _ hG_o
  refine t_calla (va_runV (g := F0 m 2 ls ([.int j, .ref o])) (As := [.int j]) (rest := []) ⟨hx, hb, hml, hown, hts⟩ (c_X9_jobOf l D cy A G ws o j hD hT hG_o ) (cwV 1 hts gX9_rank_X9_jobOf rfl rfl rfl (by decide +kernel) ⟨Nat.le_of_ble_eq_true rfl, Nat.le_of_ble_eq_true rfl⟩) (c_preV hM_o rfl hP hK hA hS hV) rfl rfl hl.1 rfl (lv_room (Nat.le_of_ble_eq_true rfl)) dX9_rank_2 ⟨Nat.le_of_ble_eq_true rfl, Nat.le_of_ble_eq_true rfl⟩) hS (fun r2 u H locs q2 hP9 hD9 hT9 hS => ?_)
  obtain ⟨rfl, q2⟩ := q2
  have hP : va_P D vwCl ws H := hP9
  rcases r2 with _ | x2
  · skip
    refine lv_astoreN (lv' := [(4, .null), (0, .ref o), (1, .int j), (2, .long p0)]) hx hb dX9_rank_5 hl (by decide) rfl (fun ls hl => ?_)
    refine lv_aloadN hx hb dX9_rank_7 (lv_at hl 0 rfl) ?_
    refine lv_ifnullN (tgt := 24) hx hb dX9_rank_9 (by decide) ?_
    refine lv_iconst (v := (-1)) hx hb dX9_rank_24 (by decide) ?_
    exact W.iret (v := ((-1) : Int32)) hx hb hr (fun t ht hW => ⟨⟨_, (G, ws), rfl, ⟨hX, trivial⟩, by show va_P D vwCl ws t.heap; rw [ht]; exact hP, hD, hT⟩, hS.F ht⟩) hS.2.2 dX9_rank_25
  · skip
    obtain ⟨kx2, nx2, hG_x2⟩ := q2 x2 rfl
    refine lv_astore (lv' := [(4, .ref x2), (0, .ref o), (1, .int j), (2, .long p0)]) hx hb dX9_rank_5 hl (by decide) rfl (fun ls hl => ?_)
    refine lv_aload hx hb dX9_rank_7 (lv_at hl 0 rfl) ?_
    refine lv_ifnull hx hb dX9_rank_9 ?_
    refine lv_aload hx hb dX9_rank_12 (lv_at hl 0 rfl) ?_
    obtain ⟨_, hM_x2, b_x2, s_x2, w_x2, h_x2, t_x2, x_x2, y_x2, ms_x2, rfl, hG_b_x2, hG_s_x2, hJ_x2⟩ := hT _ _ hG_x2
    refine t_getJ (v := .ref b_x2) hx hb hts hinJ hown hK hP hJ_x2.kc hM_x2 0 (by decide) (hts (.fieldLink RX9 65 "ShadowBench$Job" "board" "LShadowBench$Board;") (by decide +kernel)) (fun _ h9 => h9) rfl dX9_rank_14 ?_
    refine lv_lload_n hx hb dX9_rank_17 rfl (lv_at hl 3 rfl) ?_
    obtain ⟨_, hM_b_x2, hb_b_x2, l_b_x2, f_b_x2, r_b_x2, rfl, hG_l_b_x2, hG_f_b_x2, hG_r_b_x2⟩ := hT _ _ hG_b_x2
    refine t_calli (va_runV (g := F0 m 18 ls ([.long p0, .ref b_x2])) (As := [.long p0]) (rest := []) ⟨hx, hb, hml, hown, hts⟩ (c_X0_isPicture l D cy A G ws b_x2 p0 hD hT hG_b_x2 ) (cwV 1 hts gX9_rank_X0_isPicture rfl rfl rfl (by decide +kernel) ⟨Nat.le_of_ble_eq_true rfl, Nat.le_of_ble_eq_true rfl⟩) (c_preV hM_b_x2 rfl hP hK hA hS hV) rfl rfl hl.1 rfl (lv_room (Nat.le_of_ble_eq_true rfl)) dX9_rank_18 ⟨Nat.le_of_ble_eq_true rfl, Nat.le_of_ble_eq_true rfl⟩) hS (fun r18 u H locs q18 hP9 hD9 hT9 hS => ?_)
    obtain ⟨rfl, q18⟩ := q18
    have hP : va_P D vwCl ws H := hP9
    refine lv_if_ne (tgt := 26) hx hb dX9_rank_21 (by decide) (fun c21 => ?_) (fun c21 => ?_)
    · skip
      have d21 := c21
      rw [fa_eq] at d21
      refine lv_aload hx hb dX9_rank_26 (lv_at hl 0 rfl) ?_
      refine lv_lload_n hx hb dX9_rank_28 rfl (lv_at hl 3 rfl) ?_
      refine t_calli (t_runJ (g := F0 m 29 ls ([.long p0, .ref x2])) (As := [.long p0]) (rest := []) ⟨hx, hb, hml, hown, hts⟩ (c_X3_admits l D cy A G ws x2 p0 hD hT hG_x2 ) (va_cwU 1 hts gX9_rank_X3_admits_u128X1 rfl rfl rfl rfl (by decide +kernel) ⟨Nat.le_of_ble_eq_true rfl, Nat.le_of_ble_eq_true rfl⟩) (cwV 1 hts gX9_rank_X3_admits rfl rfl rfl (by decide +kernel) ⟨Nat.le_of_ble_eq_true rfl, Nat.le_of_ble_eq_true rfl⟩) (va_cwU 1 hts gX9_rank_X3_admits_u128X4 rfl rfl rfl rfl (by decide +kernel) ⟨Nat.le_of_ble_eq_true rfl, Nat.le_of_ble_eq_true rfl⟩) (va_cwU 1 hts gX9_rank_X3_admits_u128X5 rfl rfl rfl rfl (by decide +kernel) ⟨Nat.le_of_ble_eq_true rfl, Nat.le_of_ble_eq_true rfl⟩) hJ_x2.kc hM_x2 hP hK c_blind (c_preS hP hK hA hS hV).2 rfl rfl hl.1 rfl (lv_room (Nat.le_of_ble_eq_true rfl)) dX9_rank_29 ⟨Nat.le_of_ble_eq_true rfl, Nat.le_of_ble_eq_true rfl⟩) hS (fun r29 u H locs q29 hP9 hD9 hT9 hS => ?_)
      obtain ⟨rfl, q29⟩ := q29
      have hP : va_P D vwCl ws H := hP9
      refine lv_if_ne (tgt := 38) hx hb dX9_rank_32 (by decide) (fun c32 => ?_) (fun c32 => ?_)
      · skip
        have d32 := c32
        rw [fa_eq] at d32
        refine lv_aload_n hx hb dX9_rank_38 rfl (lv_at hl 1 rfl) ?_
        refine t_get (v := .ref wk_o) (C := RX9) (T := TX9) (N := 9) hx hb hts (by decide +kernel) hown hK hP hM_o rfl 4 (by decide) (hts (.fieldLink RX9 34 "ShadowBench" "walk" "LShadowBench$Walk;") (by decide +kernel)) (fun _ h9 => h9) rfl dX9_rank_39 ?_
        refine lv_aload hx hb dX9_rank_42 (lv_at hl 0 rfl) ?_
        obtain ⟨_, hM_wk_o, j_wk_o, y_wk_o, tr_wk_o, sp_wk_o, fd_wk_o, a1_wk_o, a2_wk_o, a3_wk_o, a4_wk_o, a5_wk_o, rfl, hsp_wk_o, hj_wk_o, hG_a1_wk_o, hG_a2_wk_o, hG_a3_wk_o, hG_a4_wk_o, hG_a5_wk_o⟩ := hT _ _ hG_wk_o
        refine t_callv (va_runV (g := F0 m 44 ls ([.ref x2, .ref wk_o])) (As := [.ref x2]) (rest := []) ⟨hx, hb, hml, hown, hts⟩ (c_X8_start l D cy A G ws wk_o x2 hD hT hG_wk_o hG_x2 ) (cwV 1 hts gX9_rank_X8_start rfl rfl rfl (by decide +kernel) ⟨Nat.le_of_ble_eq_true rfl, Nat.le_of_ble_eq_true rfl⟩) (c_preV hM_wk_o rfl hP hK hA hS hV) rfl rfl hl.1 rfl (lv_room (Nat.le_of_ble_eq_true rfl)) dX9_rank_44 ⟨Nat.le_of_ble_eq_true rfl, Nat.le_of_ble_eq_true rfl⟩) hS (fun u H locs q44 hP9 hD9 hT9 hS => ?_)
        obtain ⟨G44, w44⟩ := u
        obtain ⟨hX9, q44⟩ := q44
        have hX9 : cX none (chs [1, 5, 20, 21, 22, 23]) G ws G44 w44 := hX9
        have hP : va_P D vwCl w44 H := hP9
        have hD : va_D A w44 := hD9
        have hT : cT cy G44 w44 := hT9
        have hM_o := hX9.2.1 _ _ (cP.no hG_o rfl) hM_o
        have hM_x2 := hX9.2.1 _ _ (cP.no hG_x2 rfl) hM_x2
        have hM_b_x2 := hX9.2.1 _ _ (cP.no hG_b_x2 rfl) hM_b_x2
        have hG_o := hX9.1 _ _ hG_o
        have hG_bs_o := hX9.1 _ _ hG_bs_o
        have hG_js_o := hX9.1 _ _ hG_js_o
        have hG_sh_o := hX9.1 _ _ hG_sh_o
        have hG_wk_o := hX9.1 _ _ hG_wk_o
        have hG_ll_o := hX9.1 _ _ hG_ll_o
        have hG_x2 := hX9.1 _ _ hG_x2
        have hG_b_x2 := hX9.1 _ _ hG_b_x2
        have hG_s_x2 := hX9.1 _ _ hG_s_x2
        have hG_l_b_x2 := hX9.1 _ _ hG_l_b_x2
        have hG_f_b_x2 := hX9.1 _ _ hG_f_b_x2
        have hG_r_b_x2 := hX9.1 _ _ hG_r_b_x2
        have hG_a1_wk_o := hX9.1 _ _ hG_a1_wk_o
        have hG_a2_wk_o := hX9.1 _ _ hG_a2_wk_o
        have hG_a3_wk_o := hX9.1 _ _ hG_a3_wk_o
        have hG_a4_wk_o := hX9.1 _ _ hG_a4_wk_o
        have hG_a5_wk_o := hX9.1 _ _ hG_a5_wk_o
        have hX := hX.tr hX9
        refine lv_iconst (v := 0) hx hb dX9_rank_47 (by decide) ?_
        refine lv_istore (lv' := [(5, .int (0 : Int32)), (4, .ref x2), (0, .ref o), (1, .int j), (2, .long p0)]) hx hb dX9_rank_48 hl (by decide) rfl (fun ls hl => ?_)
        have loop_50 : ∀ (n : Nat) (i : Nat), (i ≤ 1000000) → 1000000 - i < n → ∀ (Gl50 : cG) (wl50 : va_W), cE G44 Gl50 → cX none (chs [1, 5, 20, 21, 22, 23]) G ws Gl50 wl50 → va_D A wl50 → cT cy Gl50 wl50 → ∀ (H : Heap) (locs : List Loc), va_P D vwCl wl50 H → va_S A s.heap H locs → ∀ (ls : Array Slot), lv_has ls 6 [(5, .int (nI i)), (4, .ref x2), (0, .ref o), (1, .int j), (2, .long p0)] → W p l e (headSpec wsX9_rank ({ frames := 6, cells := 0, slots := 0, locals := 144 })).room s m #[Value.ref o, Value.int j, Value.long p0] below meth c H locs 0 0 (MQ below (va_Qi (fun r0 u => cX none (chs [1, 5, 20, 21, 22, 23]) G ws u.1 u.2 ∧ (True)) (cB D cy A) A) #[Value.ref o, Value.int j, Value.long p0] s 0 0 A) (F0 m 50 ls []) := by
          intro n
          induction n with
          | zero => intro i j50_0 hn; exact absurd hn (Nat.not_lt_zero _)
          | succ n ih_50 =>
            intro i j50_0 hn_50 Gl50 wl50 hEl50 hX hD hT H locs hP hS  ls hl
            have hG_o := hEl50 _ _ hG_o
            have hG_bs_o := hEl50 _ _ hG_bs_o
            have hG_js_o := hEl50 _ _ hG_js_o
            have hG_sh_o := hEl50 _ _ hG_sh_o
            have hG_wk_o := hEl50 _ _ hG_wk_o
            have hG_ll_o := hEl50 _ _ hG_ll_o
            have hG_x2 := hEl50 _ _ hG_x2
            have hG_b_x2 := hEl50 _ _ hG_b_x2
            have hG_s_x2 := hEl50 _ _ hG_s_x2
            have hG_l_b_x2 := hEl50 _ _ hG_l_b_x2
            have hG_f_b_x2 := hEl50 _ _ hG_f_b_x2
            have hG_r_b_x2 := hEl50 _ _ hG_r_b_x2
            have hG_a1_wk_o := hEl50 _ _ hG_a1_wk_o
            have hG_a2_wk_o := hEl50 _ _ hG_a2_wk_o
            have hG_a3_wk_o := hEl50 _ _ hG_a3_wk_o
            have hG_a4_wk_o := hEl50 _ _ hG_a4_wk_o
            have hG_a5_wk_o := hEl50 _ _ hG_a5_wk_o
            have ik_i : (nI i).toInt = (i : Int) := nI_toInt (by omega)
            refine lv_iload hx hb dX9_rank_50 (lv_at hl 0 rfl) ?_
            refine lv_ldc hx hb hown (hts (.constant RX9 135 (1000000)) (by decide +kernel)) dX9_rank_52 ?_
            refine lv_icmp_ge (tgt := 88) hx hb dX9_rank_54 (by decide) (fun c54 => ?_) (fun c54 => ?_)
            · skip
              have d54 := c54
              rw [fa_le] at d54
              refine lv_bipush (v := (-5)) hx hb dX9_rank_88 (by decide) ?_
              exact W.iret (v := ((-5) : Int32)) hx hb hr (fun t ht hW => ⟨⟨_, (Gl50, wl50), rfl, ⟨hX, trivial⟩, by show va_P D vwCl wl50 t.heap; rw [ht]; exact hP, hD, hT⟩, hS.F ht⟩) hS.2.2 dX9_rank_90
            · skip
              have d54 := c54
              rw [fa_le] at d54
              refine lv_aload_n hx hb dX9_rank_57 rfl (lv_at hl 2 rfl) ?_
              obtain ⟨_, hM_o, bsv1_o, jsv1_o, shv1_o, wkv1_o, llv1_o, jcv1_o, lcv1_o, mov1_o, lbv1_o, rfl, hjc_o, hlc_o, hG_bsv1_o, hG_jsv1_o, hG_shv1_o, hG_wkv1_o, hmo_o, hG_llv1_o, hlb_o⟩ := hT _ _ hG_o
              refine t_get (v := .ref wkv1_o) (C := RX9) (T := TX9) (N := 9) hx hb hts (by decide +kernel) hown hK hP hM_o rfl 4 (by decide) (hts (.fieldLink RX9 34 "ShadowBench" "walk" "LShadowBench$Walk;") (by decide +kernel)) (fun _ h9 => h9) rfl dX9_rank_58 ?_
              obtain ⟨_, hM_wkv1_o, j_wkv1_o, y_wkv1_o, tr_wkv1_o, sp_wkv1_o, fd_wkv1_o, a1_wkv1_o, a2_wkv1_o, a3_wkv1_o, a4_wkv1_o, a5_wkv1_o, rfl, hsp_wkv1_o, hj_wkv1_o, hG_a1_wkv1_o, hG_a2_wkv1_o, hG_a3_wkv1_o, hG_a4_wkv1_o, hG_a5_wkv1_o⟩ := hT _ _ hG_wkv1_o
              refine t_calli (va_runV (g := F0 m 61 ls ([.ref wkv1_o])) (As := []) (rest := []) ⟨hx, hb, hml, hown, hts⟩ (c_X8_advance l D cy A Gl50 wl50 wkv1_o hD hT hG_wkv1_o ) (cwV 0 hts gX9_rank_X8_advance rfl rfl rfl (by decide +kernel) ⟨Nat.le_of_ble_eq_true rfl, Nat.le_of_ble_eq_true rfl⟩) (c_preV hM_wkv1_o rfl hP hK hA hS hV) rfl rfl hl.1 rfl (lv_room (Nat.le_of_ble_eq_true rfl)) dX9_rank_61 ⟨Nat.le_of_ble_eq_true rfl, Nat.le_of_ble_eq_true rfl⟩) hS (fun r61 u H locs q61 hP9 hD9 hT9 hS => ?_)
              obtain ⟨G61, w61⟩ := u
              obtain ⟨hX9, q61⟩ := q61
              have hX9 : cX none (chs [1, 5, 20, 21, 22, 23]) Gl50 wl50 G61 w61 := hX9
              have hP : va_P D vwCl w61 H := hP9
              have hD : va_D A w61 := hD9
              have hT : cT cy G61 w61 := hT9
              have hM_o := hX9.2.1 _ _ (cP.no hG_o rfl) hM_o
              have hG_o := hX9.1 _ _ hG_o
              have hG_bs_o := hX9.1 _ _ hG_bs_o
              have hG_js_o := hX9.1 _ _ hG_js_o
              have hG_sh_o := hX9.1 _ _ hG_sh_o
              have hG_wk_o := hX9.1 _ _ hG_wk_o
              have hG_ll_o := hX9.1 _ _ hG_ll_o
              have hG_x2 := hX9.1 _ _ hG_x2
              have hG_b_x2 := hX9.1 _ _ hG_b_x2
              have hG_s_x2 := hX9.1 _ _ hG_s_x2
              have hG_l_b_x2 := hX9.1 _ _ hG_l_b_x2
              have hG_f_b_x2 := hX9.1 _ _ hG_f_b_x2
              have hG_r_b_x2 := hX9.1 _ _ hG_r_b_x2
              have hG_a1_wk_o := hX9.1 _ _ hG_a1_wk_o
              have hG_a2_wk_o := hX9.1 _ _ hG_a2_wk_o
              have hG_a3_wk_o := hX9.1 _ _ hG_a3_wk_o
              have hG_a4_wk_o := hX9.1 _ _ hG_a4_wk_o
              have hG_a5_wk_o := hX9.1 _ _ hG_a5_wk_o
              have hG_bsv1_o := hX9.1 _ _ hG_bsv1_o
              have hG_jsv1_o := hX9.1 _ _ hG_jsv1_o
              have hG_shv1_o := hX9.1 _ _ hG_shv1_o
              have hG_wkv1_o := hX9.1 _ _ hG_wkv1_o
              have hG_llv1_o := hX9.1 _ _ hG_llv1_o
              have hG_a1_wkv1_o := hX9.1 _ _ hG_a1_wkv1_o
              have hG_a2_wkv1_o := hX9.1 _ _ hG_a2_wkv1_o
              have hG_a3_wkv1_o := hX9.1 _ _ hG_a3_wkv1_o
              have hG_a4_wkv1_o := hX9.1 _ _ hG_a4_wkv1_o
              have hG_a5_wkv1_o := hX9.1 _ _ hG_a5_wkv1_o
              have hEl50 := hEl50.tr hX9.1
              have hX := hX.tr hX9
              refine lv_if_eq (tgt := 88) hx hb dX9_rank_64 (by decide) (fun c64 => ?_) (fun c64 => ?_)
              · skip
                have d64 := c64
                rw [fa_eq] at d64
                refine lv_bipush (v := (-5)) hx hb dX9_rank_88 (by decide) ?_
                exact W.iret (v := ((-5) : Int32)) hx hb hr (fun t ht hW => ⟨⟨_, (G61, w61), rfl, ⟨hX, trivial⟩, by show va_P D vwCl w61 t.heap; rw [ht]; exact hP, hD, hT⟩, hS.F ht⟩) hS.2.2 dX9_rank_90
              · skip
                have d64 := c64
                rw [fa_eq] at d64
                refine lv_aload_n hx hb dX9_rank_67 rfl (lv_at hl 2 rfl) ?_
                refine t_get (v := .ref wkv1_o) (C := RX9) (T := TX9) (N := 9) hx hb hts (by decide +kernel) hown hK hP hM_o rfl 4 (by decide) (hts (.fieldLink RX9 34 "ShadowBench" "walk" "LShadowBench$Walk;") (by decide +kernel)) (fun _ h9 => h9) rfl dX9_rank_68 ?_
                obtain ⟨_, hM_wkv1_o, jv1_wkv1_o, yv1_wkv1_o, trv1_wkv1_o, spv1_wkv1_o, fdv1_wkv1_o, a1v1_wkv1_o, a2v1_wkv1_o, a3v1_wkv1_o, a4v1_wkv1_o, a5v1_wkv1_o, rfl, hsp_wkv1_o, hj_wkv1_o, hG_a1v1_wkv1_o, hG_a2v1_wkv1_o, hG_a3v1_wkv1_o, hG_a4v1_wkv1_o, hG_a5v1_wkv1_o⟩ := hT _ _ hG_wkv1_o
                refine t_calll (va_runV (g := F0 m 71 ls ([.ref wkv1_o])) (As := []) (rest := []) ⟨hx, hb, hml, hown, hts⟩ (c_X8_found l D cy A G61 w61 wkv1_o hD hT hG_wkv1_o ) (cwV 0 hts gX9_rank_X8_found rfl rfl rfl (by decide +kernel) ⟨Nat.le_of_ble_eq_true rfl, Nat.le_of_ble_eq_true rfl⟩) (c_preV hM_wkv1_o rfl hP hK hA hS hV) rfl rfl hl.1 rfl (lv_room (Nat.le_of_ble_eq_true rfl)) dX9_rank_71 ⟨Nat.le_of_ble_eq_true rfl, Nat.le_of_ble_eq_true rfl⟩) hS (fun r71 u H locs q71 hP9 hD9 hT9 hS => ?_)
                obtain ⟨rfl, q71⟩ := q71
                have hP : va_P D vwCl w61 H := hP9
                refine lv_lload_n hx hb dX9_rank_74 rfl (lv_at hl 4 rfl) ?_
                refine W.lcmp hx hb dX9_rank_75 ?_
                refine lv_if_ne (tgt := 82) hx hb dX9_rank_76 (by decide) (fun c76 => ?_) (fun c76 => ?_)
                · skip
                  have d76 := c76
                  rw [lg_cmp_eq, fa_eq64] at d76
                  refine lv_iinc (v := (nI (i + 1))) (lv' := [(5, .int (nI (i + 1))), (4, .ref x2), (0, .ref o), (1, .int j), (2, .long p0)]) hx hb dX9_rank_82 hl (k := 0) rfl (nI_1 _) (by decide) rfl (fun ls hl => ?_)
                  refine lv_goto (tgt := 50) hx hb dX9_rank_85 (by decide) ?_
                  exact ih_50 (i + 1) (by omega) (by omega) G61 w61 hEl50 hX hD hT _ _ hP hS  ls (lv_sub hl [0, 1, 2, 3, 4] rfl)
                · skip
                  have d76 := c76
                  rw [lg_cmp_eq, fa_eq64] at d76
                  refine lv_iload hx hb dX9_rank_79 (lv_at hl 0 rfl) ?_
                  exact W.iret (v := (nI i)) hx hb hr (fun t ht hW => ⟨⟨_, (G61, w61), rfl, ⟨hX, trivial⟩, by show va_P D vwCl w61 t.heap; rw [ht]; exact hP, hD, hT⟩, hS.F ht⟩) hS.2.2 dX9_rank_81
        exact loop_50 (1000000 + 1) 0 (by omega) (by omega) G44 w44 cE.rf hX hD hT _ _ hP hS  ls (lv_sub hl [0, 1, 2, 3, 4] rfl)
      · skip
        have d32 := c32
        rw [fa_eq] at d32
        refine lv_bipush (v := (-2)) hx hb dX9_rank_35 (by decide) ?_
        exact W.iret (v := ((-2) : Int32)) hx hb hr (fun t ht hW => ⟨⟨_, (G, ws), rfl, ⟨hX, trivial⟩, by show va_P D vwCl ws t.heap; rw [ht]; exact hP, hD, hT⟩, hS.F ht⟩) hS.2.2 dX9_rank_37
    · skip
      have d21 := c21
      rw [fa_eq] at d21
      refine lv_iconst (v := (-1)) hx hb dX9_rank_24 (by decide) ?_
      exact W.iret (v := ((-1) : Int32)) hx hb hr (fun t ht hW => ⟨⟨_, (G, ws), rfl, ⟨hX, trivial⟩, by show va_P D vwCl ws t.heap; rw [ht]; exact hP, hD, hT⟩, hS.F ht⟩) hS.2.2 dX9_rank_25
set_option maxHeartbeats 4000000 in
set_option maxRecDepth 100000 in
theorem c_X9_sure (l : Launch) (D : va_G) (cy : Nat → ClassId) (A : Nat → Prop) (G : cG) (ws : va_W) (o : Nat) (j : Int32) (s0 : Int32)  (hD : va_D A ws) (hT : cT cy G ws) (hG_o : G o = some (7, 0, 0))  : Ci l D cy A yX9_sure wsX9_sure ({ frames := 6, cells := 0, slots := 0, locals := 144 }) 0 0 ws [.ref o, .int j, .int s0] (fun r0 u => cX none (chs [1, 5, 20, 21, 22, 23]) G ws u.1 u.2 ∧ (True)) := by
  refine Met.ofW (cc := cX9_sure) (maxL := 6) (ret := (some .int)) (by decide) rfl ?_
  intro p e s m args below meth c s₁ B hml hv
  obtain ⟨rfl, hP, hK, hA, hV⟩ := hv
  have hx := B.exec
  have hb := B.bytes
  have hr := B.returns
  have hts := atoms_spec (ws := wsX9_sure) B.pre
  have hown : s.vm.findClass RX9 = some m.cls := findClass_of_methodNamed B.named
  have hlocks := B.notSynchronized
  have hS : va_S A s.heap s.heap [] := va_S.rf
  have hinJ : ∀ w ∈ wsX10 ++ wsX30 ++ wsX40 ++ wsX50, w ∈ wsX9_sure := by decide +kernel
  have hX : cX none (chs [1, 5, 20, 21, 22, 23]) G ws G ws := cX.rf
  have hl := lv_entry ([.ref o, .int j, .int s0]) (n := 6) (Nat.le_of_ble_eq_true rfl)
  rw [lg_entry_eq]
  generalize (lg_sl ([.ref o, .int j, .int s0]) ++ List.replicate (6 - (lg_sl ([.ref o, .int j, .int s0])).length) Slot.unset).toArray = ls at hl ⊢
  have hl : lv_has ls 6 [(0, .ref o), (1, .int j), (2, .int s0)] := hl
  have k_m5 : (-5 : Int32).toInt = -5 := by decide
  have k_m2 : (-2 : Int32).toInt = -2 := by decide
  have k_m1 : (-1 : Int32).toInt = -1 := by decide
  have k_0 : (0 : Int32).toInt = 0 := by decide
  have k_1 : (1 : Int32).toInt = 1 := by decide
  have k_2 : (2 : Int32).toInt = 2 := by decide
  have k_1000000 : (1000000 : Int32).toInt = 1000000 := by decide
  have k_1L : (1 : Int64).toInt = 1 := by decide
  refine lv_aload_n hx hb dX9_sure_0 rfl (lv_at hl 0 rfl) ?_
  refine lv_iload_n hx hb dX9_sure_1 rfl (lv_at hl 1 rfl) ?_
  obtain ⟨_, hM_o, bs_o, js_o, sh_o, wk_o, ll_o, jc_o, lc_o, mo_o, lb_o, rfl, hjc_o, hlc_o, hG_bs_o, hG_js_o, hG_sh_o, hG_wk_o, hmo_o, hG_ll_o, hlb_o⟩ := hT _ _ hG_o
  refine t_calla (va_runV (g := F0 m 2 ls ([.int j, .ref o])) (As := [.int j]) (rest := []) ⟨hx, hb, hml, hown, hts⟩ (c_X9_jobOf l D cy A G ws o j hD hT hG_o ) (cwV 1 hts gX9_sure_X9_jobOf rfl rfl rfl (by decide +kernel) ⟨Nat.le_of_ble_eq_true rfl, Nat.le_of_ble_eq_true rfl⟩) (c_preV hM_o rfl hP hK hA hS hV) rfl rfl hl.1 rfl (lv_room (Nat.le_of_ble_eq_true rfl)) dX9_sure_2 ⟨Nat.le_of_ble_eq_true rfl, Nat.le_of_ble_eq_true rfl⟩) hS (fun r2 u H locs q2 hP9 hD9 hT9 hS => ?_)
  obtain ⟨rfl, q2⟩ := q2
  have hP : va_P D vwCl ws H := hP9
  rcases r2 with _ | x2
  · skip
    refine lv_astore_nN (lv' := [(3, .null), (0, .ref o), (1, .int j), (2, .int s0)]) hx hb dX9_sure_5 rfl hl (by decide) rfl (fun ls hl => ?_)
    refine lv_aload_nN hx hb dX9_sure_6 rfl (lv_at hl 0 rfl) ?_
    refine lv_ifnullN (tgt := 21) hx hb dX9_sure_7 (by decide) ?_
    refine lv_iconst (v := (-1)) hx hb dX9_sure_21 (by decide) ?_
    exact W.iret (v := ((-1) : Int32)) hx hb hr (fun t ht hW => ⟨⟨_, (G, ws), rfl, ⟨hX, trivial⟩, by show va_P D vwCl ws t.heap; rw [ht]; exact hP, hD, hT⟩, hS.F ht⟩) hS.2.2 dX9_sure_22
  · skip
    obtain ⟨kx2, nx2, hG_x2⟩ := q2 x2 rfl
    refine lv_astore_n (lv' := [(3, .ref x2), (0, .ref o), (1, .int j), (2, .int s0)]) hx hb dX9_sure_5 rfl hl (by decide) rfl (fun ls hl => ?_)
    refine lv_aload_n hx hb dX9_sure_6 rfl (lv_at hl 0 rfl) ?_
    refine lv_ifnull hx hb dX9_sure_7 ?_
    refine lv_aload_n hx hb dX9_sure_10 rfl (lv_at hl 0 rfl) ?_
    obtain ⟨_, hM_x2, b_x2, s_x2, w_x2, h_x2, t_x2, x_x2, y_x2, ms_x2, rfl, hG_b_x2, hG_s_x2, hJ_x2⟩ := hT _ _ hG_x2
    refine t_getJ (v := .ref b_x2) hx hb hts hinJ hown hK hP hJ_x2.kc hM_x2 0 (by decide) (hts (.fieldLink RX9 65 "ShadowBench$Job" "board" "LShadowBench$Board;") (by decide +kernel)) (fun _ h9 => h9) rfl dX9_sure_11 ?_
    refine lv_iload_n hx hb dX9_sure_14 rfl (lv_at hl 3 rfl) ?_
    obtain ⟨_, hM_b_x2, hb_b_x2, l_b_x2, f_b_x2, r_b_x2, rfl, hG_l_b_x2, hG_f_b_x2, hG_r_b_x2⟩ := hT _ _ hG_b_x2
    refine t_calli (va_runV (g := F0 m 15 ls ([.int s0, .ref b_x2])) (As := [.int s0]) (rest := []) ⟨hx, hb, hml, hown, hts⟩ (c_X0_isSquare l D cy A G ws b_x2 s0 hD hT hG_b_x2 ) (cwV 1 hts gX9_sure_X0_isSquare rfl rfl rfl (by decide +kernel) ⟨Nat.le_of_ble_eq_true rfl, Nat.le_of_ble_eq_true rfl⟩) (c_preV hM_b_x2 rfl hP hK hA hS hV) rfl rfl hl.1 rfl (lv_room (Nat.le_of_ble_eq_true rfl)) dX9_sure_15 ⟨Nat.le_of_ble_eq_true rfl, Nat.le_of_ble_eq_true rfl⟩) hS (fun r15 u H locs q15 hP9 hD9 hT9 hS => ?_)
    obtain ⟨rfl, q15⟩ := q15
    have hP : va_P D vwCl ws H := hP9
    refine lv_if_ne (tgt := 23) hx hb dX9_sure_18 (by decide) (fun c18 => ?_) (fun c18 => ?_)
    · skip
      have b18 := bo_t q15 c18
      refine lv_aload_n hx hb dX9_sure_23 rfl (lv_at hl 1 rfl) ?_
      refine t_get (v := .ref wk_o) (C := RX9) (T := TX9) (N := 9) hx hb hts (by decide +kernel) hown hK hP hM_o rfl 4 (by decide) (hts (.fieldLink RX9 34 "ShadowBench" "walk" "LShadowBench$Walk;") (by decide +kernel)) (fun _ h9 => h9) rfl dX9_sure_24 ?_
      refine lv_aload_n hx hb dX9_sure_27 rfl (lv_at hl 0 rfl) ?_
      obtain ⟨_, hM_wk_o, j_wk_o, y_wk_o, tr_wk_o, sp_wk_o, fd_wk_o, a1_wk_o, a2_wk_o, a3_wk_o, a4_wk_o, a5_wk_o, rfl, hsp_wk_o, hj_wk_o, hG_a1_wk_o, hG_a2_wk_o, hG_a3_wk_o, hG_a4_wk_o, hG_a5_wk_o⟩ := hT _ _ hG_wk_o
      refine t_callv (va_runV (g := F0 m 28 ls ([.ref x2, .ref wk_o])) (As := [.ref x2]) (rest := []) ⟨hx, hb, hml, hown, hts⟩ (c_X8_start l D cy A G ws wk_o x2 hD hT hG_wk_o hG_x2 ) (cwV 1 hts gX9_sure_X8_start rfl rfl rfl (by decide +kernel) ⟨Nat.le_of_ble_eq_true rfl, Nat.le_of_ble_eq_true rfl⟩) (c_preV hM_wk_o rfl hP hK hA hS hV) rfl rfl hl.1 rfl (lv_room (Nat.le_of_ble_eq_true rfl)) dX9_sure_28 ⟨Nat.le_of_ble_eq_true rfl, Nat.le_of_ble_eq_true rfl⟩) hS (fun u H locs q28 hP9 hD9 hT9 hS => ?_)
      obtain ⟨G28, w28⟩ := u
      obtain ⟨hX9, q28⟩ := q28
      have hX9 : cX none (chs [1, 5, 20, 21, 22, 23]) G ws G28 w28 := hX9
      have hP : va_P D vwCl w28 H := hP9
      have hD : va_D A w28 := hD9
      have hT : cT cy G28 w28 := hT9
      have hM_o := hX9.2.1 _ _ (cP.no hG_o rfl) hM_o
      have hM_x2 := hX9.2.1 _ _ (cP.no hG_x2 rfl) hM_x2
      have hM_b_x2 := hX9.2.1 _ _ (cP.no hG_b_x2 rfl) hM_b_x2
      have hG_o := hX9.1 _ _ hG_o
      have hG_bs_o := hX9.1 _ _ hG_bs_o
      have hG_js_o := hX9.1 _ _ hG_js_o
      have hG_sh_o := hX9.1 _ _ hG_sh_o
      have hG_wk_o := hX9.1 _ _ hG_wk_o
      have hG_ll_o := hX9.1 _ _ hG_ll_o
      have hG_x2 := hX9.1 _ _ hG_x2
      have hG_b_x2 := hX9.1 _ _ hG_b_x2
      have hG_s_x2 := hX9.1 _ _ hG_s_x2
      have hG_l_b_x2 := hX9.1 _ _ hG_l_b_x2
      have hG_f_b_x2 := hX9.1 _ _ hG_f_b_x2
      have hG_r_b_x2 := hX9.1 _ _ hG_r_b_x2
      have hG_a1_wk_o := hX9.1 _ _ hG_a1_wk_o
      have hG_a2_wk_o := hX9.1 _ _ hG_a2_wk_o
      have hG_a3_wk_o := hX9.1 _ _ hG_a3_wk_o
      have hG_a4_wk_o := hX9.1 _ _ hG_a4_wk_o
      have hG_a5_wk_o := hX9.1 _ _ hG_a5_wk_o
      have hX := hX.tr hX9
      refine lv_iconst (v := 0) hx hb dX9_sure_31 (by decide) ?_
      refine lv_istore (lv' := [(4, .int (0 : Int32)), (3, .ref x2), (0, .ref o), (1, .int j), (2, .int s0)]) hx hb dX9_sure_32 hl (by decide) rfl (fun ls hl => ?_)
      refine lv_iconst (v := 0) hx hb dX9_sure_34 (by decide) ?_
      refine lv_istore (lv' := [(5, .int (0 : Int32)), (4, .int (0 : Int32)), (3, .ref x2), (0, .ref o), (1, .int j), (2, .int s0)]) hx hb dX9_sure_35 hl (by decide) rfl (fun ls hl => ?_)
      have loop_37 : ∀ (n : Nat) (x5 : Int32) (i : Nat), (i ≤ 1000000) → 1000000 - i < n → ∀ (Gl37 : cG) (wl37 : va_W), cE G28 Gl37 → cX none (chs [1, 5, 20, 21, 22, 23]) G ws Gl37 wl37 → va_D A wl37 → cT cy Gl37 wl37 → ∀ (H : Heap) (locs : List Loc), va_P D vwCl wl37 H → va_S A s.heap H locs → ∀ (ls : Array Slot), lv_has ls 6 [(5, .int x5), (4, .int (nI i)), (3, .ref x2), (0, .ref o), (1, .int j), (2, .int s0)] → W p l e (headSpec wsX9_sure ({ frames := 6, cells := 0, slots := 0, locals := 144 })).room s m #[Value.ref o, Value.int j, Value.int s0] below meth c H locs 0 0 (MQ below (va_Qi (fun r0 u => cX none (chs [1, 5, 20, 21, 22, 23]) G ws u.1 u.2 ∧ (True)) (cB D cy A) A) #[Value.ref o, Value.int j, Value.int s0] s 0 0 A) (F0 m 37 ls []) := by
        intro n
        induction n with
        | zero => intro x5 i j37_0 hn; exact absurd hn (Nat.not_lt_zero _)
        | succ n ih_37 =>
          intro x5 i j37_0 hn_37 Gl37 wl37 hEl37 hX hD hT H locs hP hS  ls hl
          have hG_o := hEl37 _ _ hG_o
          have hG_bs_o := hEl37 _ _ hG_bs_o
          have hG_js_o := hEl37 _ _ hG_js_o
          have hG_sh_o := hEl37 _ _ hG_sh_o
          have hG_wk_o := hEl37 _ _ hG_wk_o
          have hG_ll_o := hEl37 _ _ hG_ll_o
          have hG_x2 := hEl37 _ _ hG_x2
          have hG_b_x2 := hEl37 _ _ hG_b_x2
          have hG_s_x2 := hEl37 _ _ hG_s_x2
          have hG_l_b_x2 := hEl37 _ _ hG_l_b_x2
          have hG_f_b_x2 := hEl37 _ _ hG_f_b_x2
          have hG_r_b_x2 := hEl37 _ _ hG_r_b_x2
          have hG_a1_wk_o := hEl37 _ _ hG_a1_wk_o
          have hG_a2_wk_o := hEl37 _ _ hG_a2_wk_o
          have hG_a3_wk_o := hEl37 _ _ hG_a3_wk_o
          have hG_a4_wk_o := hEl37 _ _ hG_a4_wk_o
          have hG_a5_wk_o := hEl37 _ _ hG_a5_wk_o
          have ik_i : (nI i).toInt = (i : Int) := nI_toInt (by omega)
          refine lv_iload hx hb dX9_sure_37 (lv_at hl 1 rfl) ?_
          refine lv_ldc hx hb hown (hts (.constant RX9 135 (1000000)) (by decide +kernel)) dX9_sure_39 ?_
          refine lv_icmp_ge (tgt := 77) hx hb dX9_sure_41 (by decide) (fun c41 => ?_) (fun c41 => ?_)
          · skip
            have d41 := c41
            rw [fa_le] at d41
            refine lv_aload_n hx hb dX9_sure_77 rfl (lv_at hl 3 rfl) ?_
            obtain ⟨_, hM_o, bsv1_o, jsv1_o, shv1_o, wkv1_o, llv1_o, jcv1_o, lcv1_o, mov1_o, lbv1_o, rfl, hjc_o, hlc_o, hG_bsv1_o, hG_jsv1_o, hG_shv1_o, hG_wkv1_o, hmo_o, hG_llv1_o, hlb_o⟩ := hT _ _ hG_o
            refine t_get (v := .ref wkv1_o) (C := RX9) (T := TX9) (N := 9) hx hb hts (by decide +kernel) hown hK hP hM_o rfl 4 (by decide) (hts (.fieldLink RX9 34 "ShadowBench" "walk" "LShadowBench$Walk;") (by decide +kernel)) (fun _ h9 => h9) rfl dX9_sure_78 ?_
            obtain ⟨_, hM_wkv1_o, j_wkv1_o, y_wkv1_o, tr_wkv1_o, sp_wkv1_o, fd_wkv1_o, a1_wkv1_o, a2_wkv1_o, a3_wkv1_o, a4_wkv1_o, a5_wkv1_o, rfl, hsp_wkv1_o, hj_wkv1_o, hG_a1_wkv1_o, hG_a2_wkv1_o, hG_a3_wkv1_o, hG_a4_wkv1_o, hG_a5_wkv1_o⟩ := hT _ _ hG_wkv1_o
            refine t_calli (va_runV (g := F0 m 81 ls ([.ref wkv1_o])) (As := []) (rest := []) ⟨hx, hb, hml, hown, hts⟩ (c_X8_isSpent l D cy A Gl37 wl37 wkv1_o hD hT hG_wkv1_o ) (cwV 0 hts gX9_sure_X8_isSpent rfl rfl rfl (by decide +kernel) ⟨Nat.le_of_ble_eq_true rfl, Nat.le_of_ble_eq_true rfl⟩) (c_preV hM_wkv1_o rfl hP hK hA hS hV) rfl rfl hl.1 rfl (lv_room (Nat.le_of_ble_eq_true rfl)) dX9_sure_81 ⟨Nat.le_of_ble_eq_true rfl, Nat.le_of_ble_eq_true rfl⟩) hS (fun r81 u H locs q81 hP9 hD9 hT9 hS => ?_)
            obtain ⟨rfl, q81⟩ := q81
            have hP : va_P D vwCl wl37 H := hP9
            refine lv_if_eq (tgt := 90) hx hb dX9_sure_84 (by decide) (fun c84 => ?_) (fun c84 => ?_)
            · skip
              have d84 := c84
              rw [fa_eq] at d84
              refine lv_iload hx hb dX9_sure_90 (lv_at hl 1 rfl) ?_
              refine lv_if_ne (tgt := 98) hx hb dX9_sure_92 (by decide) (fun c92 => ?_) (fun c92 => ?_)
              · skip
                have d92 := c92
                rw [fa_eq] at d92
                refine lv_iload hx hb dX9_sure_98 (lv_at hl 0 rfl) ?_
                refine lv_if_ne (tgt := 107) hx hb dX9_sure_100 (by decide) (fun c100 => ?_) (fun c100 => ?_)
                · skip
                  have d100 := c100
                  rw [fa_eq] at d100
                  refine lv_iload hx hb dX9_sure_107 (lv_at hl 0 rfl) ?_
                  refine lv_iload hx hb dX9_sure_109 (lv_at hl 1 rfl) ?_
                  refine lv_icmp_ne (tgt := 118) hx hb dX9_sure_111 (by decide) (fun c111 => ?_) (fun c111 => ?_)
                  · skip
                    have d111 := c111
                    rw [fa_eq] at d111
                    refine lv_iconst (v := 2) hx hb dX9_sure_118 (by decide) ?_
                    exact W.iret (v := (2 : Int32)) hx hb hr (fun t ht hW => ⟨⟨_, (Gl37, wl37), rfl, ⟨hX, trivial⟩, by show va_P D vwCl wl37 t.heap; rw [ht]; exact hP, hD, hT⟩, hS.F ht⟩) hS.2.2 dX9_sure_119
                  · skip
                    have d111 := c111
                    rw [fa_eq] at d111
                    refine lv_iconst (v := 1) hx hb dX9_sure_114 (by decide) ?_
                    refine lv_goto (tgt := 119) hx hb dX9_sure_115 (by decide) ?_
                    exact W.iret (v := (1 : Int32)) hx hb hr (fun t ht hW => ⟨⟨_, (Gl37, wl37), rfl, ⟨hX, trivial⟩, by show va_P D vwCl wl37 t.heap; rw [ht]; exact hP, hD, hT⟩, hS.F ht⟩) hS.2.2 dX9_sure_119
                · skip
                  have d100 := c100
                  rw [fa_eq] at d100
                  refine lv_iconst (v := 0) hx hb dX9_sure_103 (by decide) ?_
                  refine lv_goto (tgt := 119) hx hb dX9_sure_104 (by decide) ?_
                  exact W.iret (v := (0 : Int32)) hx hb hr (fun t ht hW => ⟨⟨_, (Gl37, wl37), rfl, ⟨hX, trivial⟩, by show va_P D vwCl wl37 t.heap; rw [ht]; exact hP, hD, hT⟩, hS.F ht⟩) hS.2.2 dX9_sure_119
              · skip
                have d92 := c92
                rw [fa_eq] at d92
                refine lv_bipush (v := (-2)) hx hb dX9_sure_95 (by decide) ?_
                exact W.iret (v := ((-2) : Int32)) hx hb hr (fun t ht hW => ⟨⟨_, (Gl37, wl37), rfl, ⟨hX, trivial⟩, by show va_P D vwCl wl37 t.heap; rw [ht]; exact hP, hD, hT⟩, hS.F ht⟩) hS.2.2 dX9_sure_97
            · skip
              have d84 := c84
              rw [fa_eq] at d84
              refine lv_bipush (v := (-5)) hx hb dX9_sure_87 (by decide) ?_
              exact W.iret (v := ((-5) : Int32)) hx hb hr (fun t ht hW => ⟨⟨_, (Gl37, wl37), rfl, ⟨hX, trivial⟩, by show va_P D vwCl wl37 t.heap; rw [ht]; exact hP, hD, hT⟩, hS.F ht⟩) hS.2.2 dX9_sure_89
          · skip
            have d41 := c41
            rw [fa_le] at d41
            refine lv_aload_n hx hb dX9_sure_44 rfl (lv_at hl 3 rfl) ?_
            obtain ⟨_, hM_o, bsv1_o, jsv1_o, shv1_o, wkv1_o, llv1_o, jcv1_o, lcv1_o, mov1_o, lbv1_o, rfl, hjc_o, hlc_o, hG_bsv1_o, hG_jsv1_o, hG_shv1_o, hG_wkv1_o, hmo_o, hG_llv1_o, hlb_o⟩ := hT _ _ hG_o
            refine t_get (v := .ref wkv1_o) (C := RX9) (T := TX9) (N := 9) hx hb hts (by decide +kernel) hown hK hP hM_o rfl 4 (by decide) (hts (.fieldLink RX9 34 "ShadowBench" "walk" "LShadowBench$Walk;") (by decide +kernel)) (fun _ h9 => h9) rfl dX9_sure_45 ?_
            obtain ⟨_, hM_wkv1_o, j_wkv1_o, y_wkv1_o, tr_wkv1_o, sp_wkv1_o, fd_wkv1_o, a1_wkv1_o, a2_wkv1_o, a3_wkv1_o, a4_wkv1_o, a5_wkv1_o, rfl, hsp_wkv1_o, hj_wkv1_o, hG_a1_wkv1_o, hG_a2_wkv1_o, hG_a3_wkv1_o, hG_a4_wkv1_o, hG_a5_wkv1_o⟩ := hT _ _ hG_wkv1_o
            refine t_calli (va_runV (g := F0 m 48 ls ([.ref wkv1_o])) (As := []) (rest := []) ⟨hx, hb, hml, hown, hts⟩ (c_X8_advance l D cy A Gl37 wl37 wkv1_o hD hT hG_wkv1_o ) (cwV 0 hts gX9_sure_X8_advance rfl rfl rfl (by decide +kernel) ⟨Nat.le_of_ble_eq_true rfl, Nat.le_of_ble_eq_true rfl⟩) (c_preV hM_wkv1_o rfl hP hK hA hS hV) rfl rfl hl.1 rfl (lv_room (Nat.le_of_ble_eq_true rfl)) dX9_sure_48 ⟨Nat.le_of_ble_eq_true rfl, Nat.le_of_ble_eq_true rfl⟩) hS (fun r48 u H locs q48 hP9 hD9 hT9 hS => ?_)
            obtain ⟨G48, w48⟩ := u
            obtain ⟨hX9, q48⟩ := q48
            have hX9 : cX none (chs [1, 5, 20, 21, 22, 23]) Gl37 wl37 G48 w48 := hX9
            have hP : va_P D vwCl w48 H := hP9
            have hD : va_D A w48 := hD9
            have hT : cT cy G48 w48 := hT9
            have hM_o := hX9.2.1 _ _ (cP.no hG_o rfl) hM_o
            have hG_o := hX9.1 _ _ hG_o
            have hG_bs_o := hX9.1 _ _ hG_bs_o
            have hG_js_o := hX9.1 _ _ hG_js_o
            have hG_sh_o := hX9.1 _ _ hG_sh_o
            have hG_wk_o := hX9.1 _ _ hG_wk_o
            have hG_ll_o := hX9.1 _ _ hG_ll_o
            have hG_x2 := hX9.1 _ _ hG_x2
            have hG_b_x2 := hX9.1 _ _ hG_b_x2
            have hG_s_x2 := hX9.1 _ _ hG_s_x2
            have hG_l_b_x2 := hX9.1 _ _ hG_l_b_x2
            have hG_f_b_x2 := hX9.1 _ _ hG_f_b_x2
            have hG_r_b_x2 := hX9.1 _ _ hG_r_b_x2
            have hG_a1_wk_o := hX9.1 _ _ hG_a1_wk_o
            have hG_a2_wk_o := hX9.1 _ _ hG_a2_wk_o
            have hG_a3_wk_o := hX9.1 _ _ hG_a3_wk_o
            have hG_a4_wk_o := hX9.1 _ _ hG_a4_wk_o
            have hG_a5_wk_o := hX9.1 _ _ hG_a5_wk_o
            have hG_bsv1_o := hX9.1 _ _ hG_bsv1_o
            have hG_jsv1_o := hX9.1 _ _ hG_jsv1_o
            have hG_shv1_o := hX9.1 _ _ hG_shv1_o
            have hG_wkv1_o := hX9.1 _ _ hG_wkv1_o
            have hG_llv1_o := hX9.1 _ _ hG_llv1_o
            have hG_a1_wkv1_o := hX9.1 _ _ hG_a1_wkv1_o
            have hG_a2_wkv1_o := hX9.1 _ _ hG_a2_wkv1_o
            have hG_a3_wkv1_o := hX9.1 _ _ hG_a3_wkv1_o
            have hG_a4_wkv1_o := hX9.1 _ _ hG_a4_wkv1_o
            have hG_a5_wkv1_o := hX9.1 _ _ hG_a5_wkv1_o
            have hEl37 := hEl37.tr hX9.1
            have hX := hX.tr hX9
            refine lv_if_eq (tgt := 77) hx hb dX9_sure_51 (by decide) (fun c51 => ?_) (fun c51 => ?_)
            · skip
              have d51 := c51
              rw [fa_eq] at d51
              refine lv_aload_n hx hb dX9_sure_77 rfl (lv_at hl 3 rfl) ?_
              refine t_get (v := .ref wkv1_o) (C := RX9) (T := TX9) (N := 9) hx hb hts (by decide +kernel) hown hK hP hM_o rfl 4 (by decide) (hts (.fieldLink RX9 34 "ShadowBench" "walk" "LShadowBench$Walk;") (by decide +kernel)) (fun _ h9 => h9) rfl dX9_sure_78 ?_
              obtain ⟨_, hM_wkv1_o, jv1_wkv1_o, yv1_wkv1_o, trv1_wkv1_o, spv1_wkv1_o, fdv1_wkv1_o, a1v1_wkv1_o, a2v1_wkv1_o, a3v1_wkv1_o, a4v1_wkv1_o, a5v1_wkv1_o, rfl, hsp_wkv1_o, hj_wkv1_o, hG_a1v1_wkv1_o, hG_a2v1_wkv1_o, hG_a3v1_wkv1_o, hG_a4v1_wkv1_o, hG_a5v1_wkv1_o⟩ := hT _ _ hG_wkv1_o
              refine t_calli (va_runV (g := F0 m 81 ls ([.ref wkv1_o])) (As := []) (rest := []) ⟨hx, hb, hml, hown, hts⟩ (c_X8_isSpent l D cy A G48 w48 wkv1_o hD hT hG_wkv1_o ) (cwV 0 hts gX9_sure_X8_isSpent rfl rfl rfl (by decide +kernel) ⟨Nat.le_of_ble_eq_true rfl, Nat.le_of_ble_eq_true rfl⟩) (c_preV hM_wkv1_o rfl hP hK hA hS hV) rfl rfl hl.1 rfl (lv_room (Nat.le_of_ble_eq_true rfl)) dX9_sure_81 ⟨Nat.le_of_ble_eq_true rfl, Nat.le_of_ble_eq_true rfl⟩) hS (fun r81 u H locs q81 hP9 hD9 hT9 hS => ?_)
              obtain ⟨rfl, q81⟩ := q81
              have hP : va_P D vwCl w48 H := hP9
              refine lv_if_eq (tgt := 90) hx hb dX9_sure_84 (by decide) (fun c84 => ?_) (fun c84 => ?_)
              · skip
                have d84 := c84
                rw [fa_eq] at d84
                refine lv_iload hx hb dX9_sure_90 (lv_at hl 1 rfl) ?_
                refine lv_if_ne (tgt := 98) hx hb dX9_sure_92 (by decide) (fun c92 => ?_) (fun c92 => ?_)
                · skip
                  have d92 := c92
                  rw [fa_eq] at d92
                  refine lv_iload hx hb dX9_sure_98 (lv_at hl 0 rfl) ?_
                  refine lv_if_ne (tgt := 107) hx hb dX9_sure_100 (by decide) (fun c100 => ?_) (fun c100 => ?_)
                  · skip
                    have d100 := c100
                    rw [fa_eq] at d100
                    refine lv_iload hx hb dX9_sure_107 (lv_at hl 0 rfl) ?_
                    refine lv_iload hx hb dX9_sure_109 (lv_at hl 1 rfl) ?_
                    refine lv_icmp_ne (tgt := 118) hx hb dX9_sure_111 (by decide) (fun c111 => ?_) (fun c111 => ?_)
                    · skip
                      have d111 := c111
                      rw [fa_eq] at d111
                      refine lv_iconst (v := 2) hx hb dX9_sure_118 (by decide) ?_
                      exact W.iret (v := (2 : Int32)) hx hb hr (fun t ht hW => ⟨⟨_, (G48, w48), rfl, ⟨hX, trivial⟩, by show va_P D vwCl w48 t.heap; rw [ht]; exact hP, hD, hT⟩, hS.F ht⟩) hS.2.2 dX9_sure_119
                    · skip
                      have d111 := c111
                      rw [fa_eq] at d111
                      refine lv_iconst (v := 1) hx hb dX9_sure_114 (by decide) ?_
                      refine lv_goto (tgt := 119) hx hb dX9_sure_115 (by decide) ?_
                      exact W.iret (v := (1 : Int32)) hx hb hr (fun t ht hW => ⟨⟨_, (G48, w48), rfl, ⟨hX, trivial⟩, by show va_P D vwCl w48 t.heap; rw [ht]; exact hP, hD, hT⟩, hS.F ht⟩) hS.2.2 dX9_sure_119
                  · skip
                    have d100 := c100
                    rw [fa_eq] at d100
                    refine lv_iconst (v := 0) hx hb dX9_sure_103 (by decide) ?_
                    refine lv_goto (tgt := 119) hx hb dX9_sure_104 (by decide) ?_
                    exact W.iret (v := (0 : Int32)) hx hb hr (fun t ht hW => ⟨⟨_, (G48, w48), rfl, ⟨hX, trivial⟩, by show va_P D vwCl w48 t.heap; rw [ht]; exact hP, hD, hT⟩, hS.F ht⟩) hS.2.2 dX9_sure_119
                · skip
                  have d92 := c92
                  rw [fa_eq] at d92
                  refine lv_bipush (v := (-2)) hx hb dX9_sure_95 (by decide) ?_
                  exact W.iret (v := ((-2) : Int32)) hx hb hr (fun t ht hW => ⟨⟨_, (G48, w48), rfl, ⟨hX, trivial⟩, by show va_P D vwCl w48 t.heap; rw [ht]; exact hP, hD, hT⟩, hS.F ht⟩) hS.2.2 dX9_sure_97
              · skip
                have d84 := c84
                rw [fa_eq] at d84
                refine lv_bipush (v := (-5)) hx hb dX9_sure_87 (by decide) ?_
                exact W.iret (v := ((-5) : Int32)) hx hb hr (fun t ht hW => ⟨⟨_, (G48, w48), rfl, ⟨hX, trivial⟩, by show va_P D vwCl w48 t.heap; rw [ht]; exact hP, hD, hT⟩, hS.F ht⟩) hS.2.2 dX9_sure_89
            · skip
              have d51 := c51
              rw [fa_eq] at d51
              refine lv_iinc (v := (nI (i + 1))) (lv' := [(4, .int (nI (i + 1))), (5, .int x5), (3, .ref x2), (0, .ref o), (1, .int j), (2, .int s0)]) hx hb dX9_sure_54 hl (k := 1) rfl (nI_1 _) (by decide) rfl (fun ls hl => ?_)
              refine lv_iload hx hb dX9_sure_57 (lv_at hl 1 rfl) ?_
              refine lv_aload_n hx hb dX9_sure_59 rfl (lv_at hl 3 rfl) ?_
              refine t_get (v := .ref wkv1_o) (C := RX9) (T := TX9) (N := 9) hx hb hts (by decide +kernel) hown hK hP hM_o rfl 4 (by decide) (hts (.fieldLink RX9 34 "ShadowBench" "walk" "LShadowBench$Walk;") (by decide +kernel)) (fun _ h9 => h9) rfl dX9_sure_60 ?_
              obtain ⟨_, hM_wkv1_o, jv1_wkv1_o, yv1_wkv1_o, trv1_wkv1_o, spv1_wkv1_o, fdv1_wkv1_o, a1v1_wkv1_o, a2v1_wkv1_o, a3v1_wkv1_o, a4v1_wkv1_o, a5v1_wkv1_o, rfl, hsp_wkv1_o, hj_wkv1_o, hG_a1v1_wkv1_o, hG_a2v1_wkv1_o, hG_a3v1_wkv1_o, hG_a4v1_wkv1_o, hG_a5v1_wkv1_o⟩ := hT _ _ hG_wkv1_o
              refine t_calll (va_runV (g := F0 m 63 ls ([.ref wkv1_o, .int x5])) (As := []) (rest := [.int x5]) ⟨hx, hb, hml, hown, hts⟩ (c_X8_found l D cy A G48 w48 wkv1_o hD hT hG_wkv1_o ) (cwV 0 hts gX9_sure_X8_found rfl rfl rfl (by decide +kernel) ⟨Nat.le_of_ble_eq_true rfl, Nat.le_of_ble_eq_true rfl⟩) (c_preV hM_wkv1_o rfl hP hK hA hS hV) rfl rfl hl.1 rfl (lv_room (Nat.le_of_ble_eq_true rfl)) dX9_sure_63 ⟨Nat.le_of_ble_eq_true rfl, Nat.le_of_ble_eq_true rfl⟩) hS (fun r63 u H locs q63 hP9 hD9 hT9 hS => ?_)
              obtain ⟨rfl, q63⟩ := q63
              have hP : va_P D vwCl w48 H := hP9
              refine lv_iload_n hx hb dX9_sure_66 rfl (lv_at hl 5 rfl) ?_
              refine lv_lushr (v := (r63.toUInt64 >>> (s0.toInt64.toUInt64 &&& Int64.toUInt64 63)).toInt64) hx hb dX9_sure_67 rfl ?_
              refine lv_lconst (v := 1) hx hb dX9_sure_68 (by decide) ?_
              refine lv_land hx hb dX9_sure_69 ?_
              refine lv_topl (fun v69 e69 => ?_)
              refine lv_l2i (v := v69.toInt32) hx hb dX9_sure_70 rfl ?_
              refine lv_iadd hx hb dX9_sure_71 ?_
              refine lv_topi (fun v71 e71 => ?_)
              refine lv_istore (lv' := [(5, .int v71), (4, .int (nI (i + 1))), (3, .ref x2), (0, .ref o), (1, .int j), (2, .int s0)]) hx hb dX9_sure_72 hl (by decide) rfl (fun ls hl => ?_)
              refine lv_goto (tgt := 37) hx hb dX9_sure_74 (by decide) ?_
              exact ih_37 v71 (i + 1) (by omega) (by omega) G48 w48 hEl37 hX hD hT _ _ hP hS  ls (lv_sub hl [0, 1, 2, 3, 4, 5] rfl)
      exact loop_37 (1000000 + 1) (0 : Int32) 0 (by omega) (by omega) G28 w28 cE.rf hX hD hT _ _ hP hS  ls (lv_sub hl [0, 1, 2, 3, 4, 5] rfl)
    · skip
      have b18 := bo_f q15 c18
      refine lv_iconst (v := (-1)) hx hb dX9_sure_21 (by decide) ?_
      exact W.iret (v := ((-1) : Int32)) hx hb hr (fun t ht hW => ⟨⟨_, (G, ws), rfl, ⟨hX, trivial⟩, by show va_P D vwCl ws t.heap; rw [ht]; exact hP, hD, hT⟩, hS.F ht⟩) hS.2.2 dX9_sure_22
set_option maxHeartbeats 4000000 in
set_option maxRecDepth 100000 in
theorem c_X9_clash (l : Launch) (D : va_G) (cy : Nat → ClassId) (A : Nat → Prop) (G : cG) (ws : va_W) (o : Nat) (j : Int32)  (hD : va_D A ws) (hT : cT cy G ws) (hG_o : G o = some (7, 0, 0))  : Ci l D cy A yX9_clash wsX9_clash ({ frames := 2, cells := 0, slots := 0, locals := 48 }) 0 0 ws [.ref o, .int j] (fun r0 u => u = (G, ws) ∧ (True)) := by
  refine Met.ofW (cc := cX9_clash) (maxL := 4) (ret := (some .int)) (by decide) rfl ?_
  intro p e s m args below meth c s₁ B hml hv
  obtain ⟨rfl, hP, hK, hA, hV⟩ := hv
  have hx := B.exec
  have hb := B.bytes
  have hr := B.returns
  have hts := atoms_spec (ws := wsX9_clash) B.pre
  have hown : s.vm.findClass RX9 = some m.cls := findClass_of_methodNamed B.named
  have hlocks := B.notSynchronized
  have hS : va_S A s.heap s.heap [] := va_S.rf
  have hinJ : ∀ w ∈ wsX10 ++ wsX30 ++ wsX40 ++ wsX50, w ∈ wsX9_clash := by decide +kernel
  have hl := lv_entry ([.ref o, .int j]) (n := 4) (Nat.le_of_ble_eq_true rfl)
  rw [lg_entry_eq]
  generalize (lg_sl ([.ref o, .int j]) ++ List.replicate (4 - (lg_sl ([.ref o, .int j])).length) Slot.unset).toArray = ls at hl ⊢
  have hl : lv_has ls 4 [(0, .ref o), (1, .int j)] := hl
  have k_m2 : (-2 : Int32).toInt = -2 := by decide
  have k_m1 : (-1 : Int32).toInt = -1 := by decide
  have k_0 : (0 : Int32).toInt = 0 := by decide
  have k_1 : (1 : Int32).toInt = 1 := by decide
  refine lv_aload_n hx hb dX9_clash_0 rfl (lv_at hl 0 rfl) ?_
  refine lv_iload_n hx hb dX9_clash_1 rfl (lv_at hl 1 rfl) ?_
  obtain ⟨_, hM_o, bs_o, js_o, sh_o, wk_o, ll_o, jc_o, lc_o, mo_o, lb_o, rfl, hjc_o, hlc_o, hG_bs_o, hG_js_o, hG_sh_o, hG_wk_o, hmo_o, hG_ll_o, hlb_o⟩ := hT _ _ hG_o
  refine t_calla (va_runV (g := F0 m 2 ls ([.int j, .ref o])) (As := [.int j]) (rest := []) ⟨hx, hb, hml, hown, hts⟩ (c_X9_jobOf l D cy A G ws o j hD hT hG_o ) (cwV 1 hts gX9_clash_X9_jobOf rfl rfl rfl (by decide +kernel) ⟨Nat.le_of_ble_eq_true rfl, Nat.le_of_ble_eq_true rfl⟩) (c_preV hM_o rfl hP hK hA hS hV) rfl rfl hl.1 rfl (lv_room (Nat.le_of_ble_eq_true rfl)) dX9_clash_2 ⟨Nat.le_of_ble_eq_true rfl, Nat.le_of_ble_eq_true rfl⟩) hS (fun r2 u H locs q2 hP9 hD9 hT9 hS => ?_)
  obtain ⟨rfl, q2⟩ := q2
  have hP : va_P D vwCl ws H := hP9
  rcases r2 with _ | x2
  · skip
    refine lv_astore_nN (lv' := [(2, .null), (0, .ref o), (1, .int j)]) hx hb dX9_clash_5 rfl hl (by decide) rfl (fun ls hl => ?_)
    refine lv_aload_nN hx hb dX9_clash_6 rfl (lv_at hl 0 rfl) ?_
    refine lv_ifnonnullN hx hb dX9_clash_7 ?_
    refine lv_iconst (v := (-1)) hx hb dX9_clash_10 (by decide) ?_
    exact W.iret (v := ((-1) : Int32)) hx hb hr (fun t ht hW => ⟨⟨_, (G, ws), rfl, ⟨rfl, trivial⟩, by show va_P D vwCl ws t.heap; rw [ht]; exact hP, hD, hT⟩, hS.F ht⟩) hS.2.2 dX9_clash_11
  · skip
    obtain ⟨kx2, nx2, hG_x2⟩ := q2 x2 rfl
    refine lv_astore_n (lv' := [(2, .ref x2), (0, .ref o), (1, .int j)]) hx hb dX9_clash_5 rfl hl (by decide) rfl (fun ls hl => ?_)
    refine lv_aload_n hx hb dX9_clash_6 rfl (lv_at hl 0 rfl) ?_
    refine lv_ifnonnull (tgt := 12) hx hb dX9_clash_7 (by decide) ?_
    refine lv_aload_n hx hb dX9_clash_12 rfl (lv_at hl 0 rfl) ?_
    refine lv_iconst (v := 0) hx hb dX9_clash_13 (by decide) ?_
    obtain ⟨_, hM_x2, b_x2, s_x2, w_x2, h_x2, t_x2, x_x2, y_x2, ms_x2, rfl, hG_b_x2, hG_s_x2, hJ_x2⟩ := hT _ _ hG_x2
    refine t_calli (t_runJ (g := F0 m 14 ls ([.int (0 : Int32), .ref x2])) (As := [.int (0 : Int32)]) (rest := []) ⟨hx, hb, hml, hown, hts⟩ (c_X3_sumOfWay l D cy A G ws x2 (0 : Int32) hD hT hG_x2 ) (va_cwU 1 hts gX9_clash_X3_sumOfWay_u153X1 rfl rfl rfl rfl (by decide +kernel) ⟨Nat.le_of_ble_eq_true rfl, Nat.le_of_ble_eq_true rfl⟩) (cwV 1 hts gX9_clash_X3_sumOfWay rfl rfl rfl (by decide +kernel) ⟨Nat.le_of_ble_eq_true rfl, Nat.le_of_ble_eq_true rfl⟩) (va_cwU 1 hts gX9_clash_X3_sumOfWay_u153X4 rfl rfl rfl rfl (by decide +kernel) ⟨Nat.le_of_ble_eq_true rfl, Nat.le_of_ble_eq_true rfl⟩) (va_cwU 1 hts gX9_clash_X3_sumOfWay_u153X5 rfl rfl rfl rfl (by decide +kernel) ⟨Nat.le_of_ble_eq_true rfl, Nat.le_of_ble_eq_true rfl⟩) hJ_x2.kc hM_x2 hP hK c_blind (c_preS hP hK hA hS hV).2 rfl rfl hl.1 rfl (lv_room (Nat.le_of_ble_eq_true rfl)) dX9_clash_14 ⟨Nat.le_of_ble_eq_true rfl, Nat.le_of_ble_eq_true rfl⟩) hS (fun r14 u H locs q14 hP9 hD9 hT9 hS => ?_)
    obtain ⟨rfl, q14⟩ := q14
    have hP : va_P D vwCl ws H := hP9
    refine lv_aload_n hx hb dX9_clash_17 rfl (lv_at hl 0 rfl) ?_
    refine lv_iconst (v := 1) hx hb dX9_clash_18 (by decide) ?_
    refine t_calli (t_runJ (g := F0 m 19 ls ([.int (1 : Int32), .ref x2, .int r14])) (As := [.int (1 : Int32)]) (rest := [.int r14]) ⟨hx, hb, hml, hown, hts⟩ (c_X3_sumOfWay l D cy A G ws x2 (1 : Int32) hD hT hG_x2 ) (va_cwU 1 hts gX9_clash_X3_sumOfWay_u153X1 rfl rfl rfl rfl (by decide +kernel) ⟨Nat.le_of_ble_eq_true rfl, Nat.le_of_ble_eq_true rfl⟩) (cwV 1 hts gX9_clash_X3_sumOfWay rfl rfl rfl (by decide +kernel) ⟨Nat.le_of_ble_eq_true rfl, Nat.le_of_ble_eq_true rfl⟩) (va_cwU 1 hts gX9_clash_X3_sumOfWay_u153X4 rfl rfl rfl rfl (by decide +kernel) ⟨Nat.le_of_ble_eq_true rfl, Nat.le_of_ble_eq_true rfl⟩) (va_cwU 1 hts gX9_clash_X3_sumOfWay_u153X5 rfl rfl rfl rfl (by decide +kernel) ⟨Nat.le_of_ble_eq_true rfl, Nat.le_of_ble_eq_true rfl⟩) hJ_x2.kc hM_x2 hP hK c_blind (c_preS hP hK hA hS hV).2 rfl rfl hl.1 rfl (lv_room (Nat.le_of_ble_eq_true rfl)) dX9_clash_19 ⟨Nat.le_of_ble_eq_true rfl, Nat.le_of_ble_eq_true rfl⟩) hS (fun r19 u H locs q19 hP9 hD9 hT9 hS => ?_)
    obtain ⟨rfl, q19⟩ := q19
    have hP : va_P D vwCl ws H := hP9
    refine lv_icmp_eq (tgt := 27) hx hb dX9_clash_22 (by decide) (fun c22 => ?_) (fun c22 => ?_)
    · skip
      have d22 := c22
      rw [fa_eq] at d22
      refine lv_iconst (v := 1) hx hb dX9_clash_27 (by decide) ?_
      refine lv_istore_n (lv' := [(3, .int (1 : Int32)), (2, .ref x2), (0, .ref o), (1, .int j)]) hx hb dX9_clash_28 rfl hl (by decide) rfl (fun ls hl => ?_)
      have loop_29 : ∀ (n : Nat) (i : Nat), (i ≤ 7) → 7 - i < n → ∀ (H : Heap) (locs : List Loc), va_P D vwCl ws H → va_S A s.heap H locs → ∀ (ls : Array Slot), lv_has ls 4 [(3, .int (nI i)), (2, .ref x2), (0, .ref o), (1, .int j)] → W p l e (headSpec wsX9_clash ({ frames := 2, cells := 0, slots := 0, locals := 48 })).room s m #[Value.ref o, Value.int j] below meth c H locs 0 0 (MQ below (va_Qi (fun r0 u => u = (G, ws) ∧ (True)) (cB D cy A) A) #[Value.ref o, Value.int j] s 0 0 A) (F0 m 29 ls []) := by
        intro n
        induction n with
        | zero => intro i j29_0 hn; exact absurd hn (Nat.not_lt_zero _)
        | succ n ih_29 =>
          intro i j29_0 hn_29 H locs hP hS  ls hl
          have ik_i : (nI i).toInt = (i : Int) := nI_toInt (by omega)
          refine lv_iload_n hx hb dX9_clash_29 rfl (lv_at hl 0 rfl) ?_
          refine lv_aload_n hx hb dX9_clash_30 rfl (lv_at hl 1 rfl) ?_
          refine t_getJ (v := .ref b_x2) hx hb hts hinJ hown hK hP hJ_x2.kc hM_x2 0 (by decide) (hts (.fieldLink RX9 65 "ShadowBench$Job" "board" "LShadowBench$Board;") (by decide +kernel)) (fun _ h9 => h9) rfl dX9_clash_31 ?_
          obtain ⟨_, hM_b_x2, hb_b_x2, l_b_x2, f_b_x2, r_b_x2, rfl, hG_l_b_x2, hG_f_b_x2, hG_r_b_x2⟩ := hT _ _ hG_b_x2
          refine t_get (v := .int (nI w_x2)) (C := RX0) (T := TX0) (N := 8) hx hb hts (by decide +kernel) hown hK hP hM_b_x2 rfl 0 (by decide) (hts (.fieldLink RX9 156 "ShadowBench$Board" "wide" "I") (by decide +kernel)) (fun _ h9 => h9) rfl dX9_clash_34 ?_
          have i_w_b_x2 : (nI w_x2).toInt = _ := nI_toInt (by omega)
          refine lv_icmp_gt (tgt := 61) hx hb dX9_clash_37 (by decide) (fun c37 => ?_) (fun c37 => ?_)
          · skip
            have d37 := c37
            rw [fa_lt] at d37
            refine lv_bipush (v := (-2)) hx hb dX9_clash_61 (by decide) ?_
            exact W.iret (v := ((-2) : Int32)) hx hb hr (fun t ht hW => ⟨⟨_, (G, ws), rfl, ⟨rfl, trivial⟩, by show va_P D vwCl ws t.heap; rw [ht]; exact hP, hD, hT⟩, hS.F ht⟩) hS.2.2 dX9_clash_63
          · skip
            have d37 := c37
            rw [fa_lt] at d37
            refine lv_aload_n hx hb dX9_clash_40 rfl (lv_at hl 1 rfl) ?_
            refine lv_iload_n hx hb dX9_clash_41 rfl (lv_at hl 0 rfl) ?_
            refine t_calli (t_runJ (g := F0 m 42 ls ([.int (nI i), .ref x2])) (As := [.int (nI i)]) (rest := []) ⟨hx, hb, hml, hown, hts⟩ (c_X3_greatestColumns l D cy A G ws x2 (nI i) hD hT hG_x2 ) (va_cwU 1 hts gX9_clash_X3_greatestColumns_u159X1 rfl rfl rfl rfl (by decide +kernel) ⟨Nat.le_of_ble_eq_true rfl, Nat.le_of_ble_eq_true rfl⟩) (cwV 1 hts gX9_clash_X3_greatestColumns rfl rfl rfl (by decide +kernel) ⟨Nat.le_of_ble_eq_true rfl, Nat.le_of_ble_eq_true rfl⟩) (va_cwU 1 hts gX9_clash_X3_greatestColumns_u159X4 rfl rfl rfl rfl (by decide +kernel) ⟨Nat.le_of_ble_eq_true rfl, Nat.le_of_ble_eq_true rfl⟩) (va_cwU 1 hts gX9_clash_X3_greatestColumns_u159X5 rfl rfl rfl rfl (by decide +kernel) ⟨Nat.le_of_ble_eq_true rfl, Nat.le_of_ble_eq_true rfl⟩) hJ_x2.kc hM_x2 hP hK c_blind (c_preS hP hK hA hS hV).2 rfl rfl hl.1 rfl (lv_room (Nat.le_of_ble_eq_true rfl)) dX9_clash_42 ⟨Nat.le_of_ble_eq_true rfl, Nat.le_of_ble_eq_true rfl⟩) hS (fun r42 u H locs q42 hP9 hD9 hT9 hS => ?_)
            obtain ⟨rfl, q42⟩ := q42
            have hP : va_P D vwCl ws H := hP9
            refine lv_aload_n hx hb dX9_clash_45 rfl (lv_at hl 1 rfl) ?_
            refine lv_iload_n hx hb dX9_clash_46 rfl (lv_at hl 0 rfl) ?_
            refine t_calli (t_runJ (g := F0 m 47 ls ([.int (nI i), .ref x2, .int r42])) (As := [.int (nI i)]) (rest := [.int r42]) ⟨hx, hb, hml, hown, hts⟩ (c_X3_roomInRows l D cy A G ws x2 (nI i) hD hT hG_x2 ) (va_cwU 1 hts gX9_clash_X3_roomInRows_u162X1 rfl rfl rfl rfl (by decide +kernel) ⟨Nat.le_of_ble_eq_true rfl, Nat.le_of_ble_eq_true rfl⟩) (cwV 1 hts gX9_clash_X3_roomInRows rfl rfl rfl (by decide +kernel) ⟨Nat.le_of_ble_eq_true rfl, Nat.le_of_ble_eq_true rfl⟩) (va_cwU 1 hts gX9_clash_X3_roomInRows_u162X4 rfl rfl rfl rfl (by decide +kernel) ⟨Nat.le_of_ble_eq_true rfl, Nat.le_of_ble_eq_true rfl⟩) (va_cwU 1 hts gX9_clash_X3_roomInRows_u162X5 rfl rfl rfl rfl (by decide +kernel) ⟨Nat.le_of_ble_eq_true rfl, Nat.le_of_ble_eq_true rfl⟩) hJ_x2.kc hM_x2 hP hK c_blind (c_preS hP hK hA hS hV).2 rfl rfl hl.1 rfl (lv_room (Nat.le_of_ble_eq_true rfl)) dX9_clash_47 ⟨Nat.le_of_ble_eq_true rfl, Nat.le_of_ble_eq_true rfl⟩) hS (fun r47 u H locs q47 hP9 hD9 hT9 hS => ?_)
            obtain ⟨rfl, q47⟩ := q47
            have hP : va_P D vwCl ws H := hP9
            refine lv_icmp_le (tgt := 55) hx hb dX9_clash_50 (by decide) (fun c50 => ?_) (fun c50 => ?_)
            · skip
              have d50 := c50
              rw [fa_le] at d50
              refine lv_iinc (v := (nI (i + 1))) (lv' := [(3, .int (nI (i + 1))), (2, .ref x2), (0, .ref o), (1, .int j)]) hx hb dX9_clash_55 hl (k := 0) rfl (nI_1 _) (by decide) rfl (fun ls hl => ?_)
              refine lv_goto (tgt := 29) hx hb dX9_clash_58 (by decide) ?_
              exact ih_29 (i + 1) (by omega) (by omega) _ _ hP hS  ls (lv_sub hl [0, 1, 2, 3] rfl)
            · skip
              have d50 := c50
              rw [fa_le] at d50
              refine lv_iload_n hx hb dX9_clash_53 rfl (lv_at hl 0 rfl) ?_
              exact W.iret (v := (nI i)) hx hb hr (fun t ht hW => ⟨⟨_, (G, ws), rfl, ⟨rfl, trivial⟩, by show va_P D vwCl ws t.heap; rw [ht]; exact hP, hD, hT⟩, hS.F ht⟩) hS.2.2 dX9_clash_54
      exact loop_29 (7 + 1) 1 (by omega) (by omega) _ _ hP hS  ls (lv_sub hl [0, 1, 2, 3] rfl)
    · skip
      have d22 := c22
      rw [fa_eq] at d22
      refine lv_iconst (v := 0) hx hb dX9_clash_25 (by decide) ?_
      exact W.iret (v := (0 : Int32)) hx hb hr (fun t ht hW => ⟨⟨_, (G, ws), rfl, ⟨rfl, trivial⟩, by show va_P D vwCl ws t.heap; rw [ht]; exact hP, hD, hT⟩, hS.F ht⟩) hS.2.2 dX9_clash_26
set_option maxHeartbeats 4000000 in
set_option maxRecDepth 100000 in
theorem c_X9_switches (l : Launch) (D : va_G) (cy : Nat → ClassId) (A : Nat → Prop) (G : cG) (ws : va_W) (o : Nat) (wide : Int32) (high : Int32) (p0 : Int64)  (hD : va_D A ws) (hT : cT cy G ws) (hG_o : G o = some (7, 0, 0))  : Ci l D cy A yX9_switches wsX9_switches ({ frames := 5, cells := 4, slots := 502, locals := 116 }) 4 502 ws [.ref o, .int wide, .int high, .long p0] (fun r0 u => cX none (chs [1, 8]) G ws u.1 u.2 ∧ (True)) := by
  refine Met.ofW (cc := cX9_switches) (maxL := 8) (ret := (some .int)) (by decide) rfl ?_
  intro p e s m args below meth c s₁ B hml hv
  obtain ⟨rfl, hP, hK, hA, hV⟩ := hv
  have hx := B.exec
  have hb := B.bytes
  have hr := B.returns
  have hts := atoms_spec (ws := wsX9_switches) B.pre
  have hown : s.vm.findClass RX9 = some m.cls := findClass_of_methodNamed B.named
  have hlocks := B.notSynchronized
  have hS : va_S A s.heap s.heap [] := va_S.rf
  have hX : cX none (chs [1, 8]) G ws G ws := cX.rf
  have hl := lv_entry ([.ref o, .int wide, .int high, .long p0]) (n := 8) (Nat.le_of_ble_eq_true rfl)
  rw [lg_entry_eq]
  generalize (lg_sl ([.ref o, .int wide, .int high, .long p0]) ++ List.replicate (8 - (lg_sl ([.ref o, .int wide, .int high, .long p0])).length) Slot.unset).toArray = ls at hl ⊢
  have hl : lv_has ls 8 [(0, .ref o), (1, .int wide), (2, .int high), (3, .long p0)] := hl
  have k_m1 : (-1 : Int32).toInt = -1 := by decide
  have k_0 : (0 : Int32).toInt = 0 := by decide
  refine lv_aload_n hx hb dX9_switches_0 rfl (lv_at hl 0 rfl) ?_
  refine lv_iload_n hx hb dX9_switches_1 rfl (lv_at hl 1 rfl) ?_
  refine lv_iload_n hx hb dX9_switches_2 rfl (lv_at hl 2 rfl) ?_
  obtain ⟨_, hM_o, bs_o, js_o, sh_o, wk_o, ll_o, jc_o, lc_o, mo_o, lb_o, rfl, hjc_o, hlc_o, hG_bs_o, hG_js_o, hG_sh_o, hG_wk_o, hmo_o, hG_ll_o, hlb_o⟩ := hT _ _ hG_o
  refine t_calla (va_runV (g := F0 m 3 ls ([.int high, .int wide, .ref o])) (As := [.int wide, .int high]) (rest := []) ⟨hx, hb, hml, hown, hts⟩ (c_X9_boardOf l D cy A G ws o wide high hD hT hG_o ) (cwV 2 hts gX9_switches_X9_boardOf rfl rfl rfl (by decide +kernel) ⟨Nat.le_of_ble_eq_true rfl, Nat.le_of_ble_eq_true rfl⟩) (c_preV hM_o rfl hP hK hA hS hV) rfl rfl hl.1 rfl (lv_room (Nat.le_of_ble_eq_true rfl)) dX9_switches_3 ⟨Nat.le_of_ble_eq_true rfl, Nat.le_of_ble_eq_true rfl⟩) hS (fun r3 u H locs q3 hP9 hD9 hT9 hS => ?_)
  obtain ⟨G3, w3⟩ := u
  obtain ⟨hX9, q3⟩ := q3
  have hX9 : cX none (chs [1, 8]) G ws G3 w3 := hX9
  have hP : va_P D vwCl w3 H := hP9
  have hD : va_D A w3 := hD9
  have hT : cT cy G3 w3 := hT9
  have hM_o := hX9.2.1 _ _ (cP.no hG_o rfl) hM_o
  have hG_o := hX9.1 _ _ hG_o
  have hG_bs_o := hX9.1 _ _ hG_bs_o
  have hG_js_o := hX9.1 _ _ hG_js_o
  have hG_sh_o := hX9.1 _ _ hG_sh_o
  have hG_wk_o := hX9.1 _ _ hG_wk_o
  have hG_ll_o := hX9.1 _ _ hG_ll_o
  have hX := hX.tr hX9
  rcases r3 with _ | x3
  · skip
    refine lv_astoreN (lv' := [(5, .null), (0, .ref o), (1, .int wide), (2, .int high), (3, .long p0)]) hx hb dX9_switches_6 hl (by decide) rfl (fun ls hl => ?_)
    refine lv_aloadN hx hb dX9_switches_8 (lv_at hl 0 rfl) ?_
    refine lv_ifnullN (tgt := 22) hx hb dX9_switches_10 (by decide) ?_
    refine lv_iconst (v := (-1)) hx hb dX9_switches_22 (by decide) ?_
    refine W.widen (k := 4) (n := 502) (Nat.le_of_ble_eq_true rfl) (Nat.le_of_ble_eq_true rfl) ?_
    exact W.iret (v := ((-1) : Int32)) hx hb hr (fun t ht hW => ⟨⟨_, (G3, w3), rfl, ⟨hX, trivial⟩, by show va_P D vwCl w3 t.heap; rw [ht]; exact hP, hD, hT⟩, hS.F ht⟩) hS.2.2 dX9_switches_23
  · skip
    have hG_x3 := q3 x3 rfl
    refine lv_astore (lv' := [(5, .ref x3), (0, .ref o), (1, .int wide), (2, .int high), (3, .long p0)]) hx hb dX9_switches_6 hl (by decide) rfl (fun ls hl => ?_)
    refine lv_aload hx hb dX9_switches_8 (lv_at hl 0 rfl) ?_
    refine lv_ifnull hx hb dX9_switches_10 ?_
    refine lv_aload hx hb dX9_switches_13 (lv_at hl 0 rfl) ?_
    refine lv_lload_n hx hb dX9_switches_15 rfl (lv_at hl 4 rfl) ?_
    obtain ⟨_, hM_x3, hb_x3, l_x3, f_x3, r_x3, rfl, hG_l_x3, hG_f_x3, hG_r_x3⟩ := hT _ _ hG_x3
    refine t_calli (va_runV (g := F0 m 16 ls ([.long p0, .ref x3])) (As := [.long p0]) (rest := []) ⟨hx, hb, hml, hown, hts⟩ (c_X0_isPicture l D cy A G3 w3 x3 p0 hD hT hG_x3 ) (cwV 1 hts gX9_switches_X0_isPicture rfl rfl rfl (by decide +kernel) ⟨Nat.le_of_ble_eq_true rfl, Nat.le_of_ble_eq_true rfl⟩) (c_preV hM_x3 rfl hP hK hA hS hV) rfl rfl hl.1 rfl (lv_room (Nat.le_of_ble_eq_true rfl)) dX9_switches_16 ⟨Nat.le_of_ble_eq_true rfl, Nat.le_of_ble_eq_true rfl⟩) hS (fun r16 u H locs q16 hP9 hD9 hT9 hS => ?_)
    obtain ⟨rfl, q16⟩ := q16
    have hP : va_P D vwCl w3 H := hP9
    refine lv_if_ne (tgt := 24) hx hb dX9_switches_19 (by decide) (fun c19 => ?_) (fun c19 => ?_)
    · skip
      have d19 := c19
      rw [fa_eq] at d19
      refine lv_iconst (v := 0) hx hb dX9_switches_24 (by decide) ?_
      refine lv_istore (lv' := [(6, .int (0 : Int32)), (5, .ref x3), (0, .ref o), (1, .int wide), (2, .int high), (3, .long p0)]) hx hb dX9_switches_25 hl (by decide) rfl (fun ls hl => ?_)
      refine lv_iconst (v := 0) hx hb dX9_switches_27 (by decide) ?_
      refine lv_istore (lv' := [(7, .int (0 : Int32)), (6, .int (0 : Int32)), (5, .ref x3), (0, .ref o), (1, .int wide), (2, .int high), (3, .long p0)]) hx hb dX9_switches_28 hl (by decide) rfl (fun ls hl => ?_)
      have loop_30 : ∀ (n : Nat) (i : Nat) (x6 : Int32), (i ≤ 225) → 225 - i < n → ∀ (H : Heap) (locs : List Loc), va_P D vwCl w3 H → va_S A s.heap H locs → ∀ (ls : Array Slot), lv_has ls 8 [(7, .int (nI i)), (6, .int x6), (5, .ref x3), (0, .ref o), (1, .int wide), (2, .int high), (3, .long p0)] → W p l e (headSpec wsX9_switches ({ frames := 5, cells := 4, slots := 502, locals := 116 })).room s m #[Value.ref o, Value.int wide, Value.int high, Value.long p0] below meth c H locs 4 502 (MQ below (va_Qi (fun r0 u => cX none (chs [1, 8]) G ws u.1 u.2 ∧ (True)) (cB D cy A) A) #[Value.ref o, Value.int wide, Value.int high, Value.long p0] s 4 502 A) (F0 m 30 ls []) := by
        intro n
        induction n with
        | zero => intro i x6 j30_0 hn; exact absurd hn (Nat.not_lt_zero _)
        | succ n ih_30 =>
          intro i x6 j30_0 hn_30 H locs hP hS  ls hl
          have ik_i : (nI i).toInt = (i : Int) := nI_toInt (by omega)
          refine lv_iload hx hb dX9_switches_30 (lv_at hl 0 rfl) ?_
          refine lv_aload hx hb dX9_switches_32 (lv_at hl 2 rfl) ?_
          refine t_get (v := .int (nI (cfo wide.toNatClampNeg high.toNatClampNeg))) (C := RX0) (T := TX0) (N := 8) hx hb hts (by decide +kernel) hown hK hP hM_x3 rfl 4 (by decide) (hts (.fieldLink RX9 176 "ShadowBench$Board" "fours" "I") (by decide +kernel)) (fun _ h9 => h9) rfl dX9_switches_34 ?_
          have m_fo_x3 := cb_fo hb_x3
          have i_fo_x3 : (nI (cfo wide.toNatClampNeg high.toNatClampNeg)).toInt = _ := nI_toInt (by omega)
          refine lv_icmp_ge (tgt := 62) hx hb dX9_switches_37 (by decide) (fun c37 => ?_) (fun c37 => ?_)
          · skip
            have d37 := c37
            rw [fa_le] at d37
            refine lv_iload hx hb dX9_switches_62 (lv_at hl 1 rfl) ?_
            refine W.widen (k := 4) (n := 502) (Nat.le_of_ble_eq_true rfl) (Nat.le_of_ble_eq_true rfl) ?_
            exact W.iret (v := x6) hx hb hr (fun t ht hW => ⟨⟨_, (G3, w3), rfl, ⟨hX, trivial⟩, by show va_P D vwCl w3 t.heap; rw [ht]; exact hP, hD, hT⟩, hS.F ht⟩) hS.2.2 dX9_switches_64
          · skip
            have d37 := c37
            rw [fa_le] at d37
            refine lv_aload hx hb dX9_switches_40 (lv_at hl 2 rfl) ?_
            refine lv_iload hx hb dX9_switches_42 (lv_at hl 0 rfl) ?_
            refine lv_lload_n hx hb dX9_switches_44 rfl (lv_at hl 6 rfl) ?_
            refine t_calll (va_runV (g := F0 m 45 ls ([.long p0, .int (nI i), .ref x3])) (As := [.int (nI i), .long p0]) (rest := []) ⟨hx, hb, hml, hown, hts⟩ (c_X0_behindFour l D cy A G3 w3 x3 (nI i) p0 hD hT hG_x3 ) (cwV 2 hts gX9_switches_X0_behindFour rfl rfl rfl (by decide +kernel) ⟨Nat.le_of_ble_eq_true rfl, Nat.le_of_ble_eq_true rfl⟩) (c_preV hM_x3 rfl hP hK hA hS hV) rfl rfl hl.1 rfl (lv_room (Nat.le_of_ble_eq_true rfl)) dX9_switches_45 ⟨Nat.le_of_ble_eq_true rfl, Nat.le_of_ble_eq_true rfl⟩) hS (fun r45 u H locs q45 hP9 hD9 hT9 hS => ?_)
            obtain ⟨rfl, q45⟩ := q45
            have hP : va_P D vwCl w3 H := hP9
            refine lv_lload_n hx hb dX9_switches_48 rfl (lv_at hl 6 rfl) ?_
            refine W.lcmp hx hb dX9_switches_49 ?_
            refine lv_if_eq (tgt := 56) hx hb dX9_switches_50 (by decide) (fun c50 => ?_) (fun c50 => ?_)
            · skip
              have d50 := c50
              rw [lg_cmp_eq, fa_eq64] at d50
              refine lv_iinc (v := (nI (i + 1))) (lv' := [(7, .int (nI (i + 1))), (6, .int x6), (5, .ref x3), (0, .ref o), (1, .int wide), (2, .int high), (3, .long p0)]) hx hb dX9_switches_56 hl (k := 0) rfl (nI_1 _) (by decide) rfl (fun ls hl => ?_)
              refine lv_goto (tgt := 30) hx hb dX9_switches_59 (by decide) ?_
              exact ih_30 (i + 1) x6 (by omega) (by omega) _ _ hP hS  ls (lv_sub hl [0, 1, 2, 3, 4, 5, 6] rfl)
            · skip
              have d50 := c50
              rw [lg_cmp_eq, fa_eq64] at d50
              obtain ⟨v53, e53⟩ : ∃ y : Int32, y = x6 + 1 := ⟨_, rfl⟩
              refine lv_iinc (v := v53) (lv' := [(6, .int v53), (7, .int (nI i)), (5, .ref x3), (0, .ref o), (1, .int wide), (2, .int high), (3, .long p0)]) hx hb dX9_switches_53 hl (k := 1) rfl (by rw [e53]; rfl) (by decide) rfl (fun ls hl => ?_)
              refine lv_iinc (v := (nI (i + 1))) (lv' := [(7, .int (nI (i + 1))), (6, .int v53), (5, .ref x3), (0, .ref o), (1, .int wide), (2, .int high), (3, .long p0)]) hx hb dX9_switches_56 hl (k := 1) rfl (nI_1 _) (by decide) rfl (fun ls hl => ?_)
              refine lv_goto (tgt := 30) hx hb dX9_switches_59 (by decide) ?_
              exact ih_30 (i + 1) v53 (by omega) (by omega) _ _ hP hS  ls (lv_sub hl [0, 1, 2, 3, 4, 5, 6] rfl)
      exact loop_30 (225 + 1) 0 (0 : Int32) (by omega) (by omega) _ _ hP hS  ls (lv_sub hl [0, 1, 2, 3, 4, 5, 6] rfl)
    · skip
      have d19 := c19
      rw [fa_eq] at d19
      refine lv_iconst (v := (-1)) hx hb dX9_switches_22 (by decide) ?_
      refine W.widen (k := 4) (n := 502) (Nat.le_of_ble_eq_true rfl) (Nat.le_of_ble_eq_true rfl) ?_
      exact W.iret (v := ((-1) : Int32)) hx hb hr (fun t ht hW => ⟨⟨_, (G3, w3), rfl, ⟨hX, trivial⟩, by show va_P D vwCl w3 t.heap; rw [ht]; exact hP, hD, hT⟩, hS.F ht⟩) hS.2.2 dX9_switches_23
set_option maxHeartbeats 4000000 in
set_option maxRecDepth 100000 in
theorem c_X9_switched (l : Launch) (D : va_G) (cy : Nat → ClassId) (A : Nat → Prop) (G : cG) (ws : va_W) (o : Nat) (wide : Int32) (high : Int32) (p0 : Int64) (i0 : Int32)  (hD : va_D A ws) (hT : cT cy G ws) (hG_o : G o = some (7, 0, 0))  : Cl l D cy A yX9_switched wsX9_switched ({ frames := 5, cells := 4, slots := 502, locals := 116 }) 4 502 ws [.ref o, .int wide, .int high, .long p0, .int i0] (fun r0 u => cX none (chs [1, 8]) G ws u.1 u.2 ∧ (True)) := by
  refine Met.ofW (cc := cX9_switched) (maxL := 11) (ret := (some .long)) (by decide) rfl ?_
  intro p e s m args below meth c s₁ B hml hv
  obtain ⟨rfl, hP, hK, hA, hV⟩ := hv
  have hx := B.exec
  have hb := B.bytes
  have hr := B.returns
  have hts := atoms_spec (ws := wsX9_switched) B.pre
  have hown : s.vm.findClass RX9 = some m.cls := findClass_of_methodNamed B.named
  have hlocks := B.notSynchronized
  have hS : va_S A s.heap s.heap [] := va_S.rf
  have hX : cX none (chs [1, 8]) G ws G ws := cX.rf
  have hl := lv_entry ([.ref o, .int wide, .int high, .long p0, .int i0]) (n := 11) (Nat.le_of_ble_eq_true rfl)
  rw [lg_entry_eq]
  generalize (lg_sl ([.ref o, .int wide, .int high, .long p0, .int i0]) ++ List.replicate (11 - (lg_sl ([.ref o, .int wide, .int high, .long p0, .int i0])).length) Slot.unset).toArray = ls at hl ⊢
  have hl : lv_has ls 11 [(0, .ref o), (1, .int wide), (2, .int high), (3, .long p0), (5, .int i0)] := hl
  have k_0 : (0 : Int32).toInt = 0 := by decide
  have k_m2L : (-2 : Int64).toInt = -2 := by decide
  have k_m1L : (-1 : Int64).toInt = -1 := by decide
  refine lv_aload_n hx hb dX9_switched_0 rfl (lv_at hl 0 rfl) ?_
  refine lv_iload_n hx hb dX9_switched_1 rfl (lv_at hl 1 rfl) ?_
  refine lv_iload_n hx hb dX9_switched_2 rfl (lv_at hl 2 rfl) ?_
  obtain ⟨_, hM_o, bs_o, js_o, sh_o, wk_o, ll_o, jc_o, lc_o, mo_o, lb_o, rfl, hjc_o, hlc_o, hG_bs_o, hG_js_o, hG_sh_o, hG_wk_o, hmo_o, hG_ll_o, hlb_o⟩ := hT _ _ hG_o
  refine t_calla (va_runV (g := F0 m 3 ls ([.int high, .int wide, .ref o])) (As := [.int wide, .int high]) (rest := []) ⟨hx, hb, hml, hown, hts⟩ (c_X9_boardOf l D cy A G ws o wide high hD hT hG_o ) (cwV 2 hts gX9_switched_X9_boardOf rfl rfl rfl (by decide +kernel) ⟨Nat.le_of_ble_eq_true rfl, Nat.le_of_ble_eq_true rfl⟩) (c_preV hM_o rfl hP hK hA hS hV) rfl rfl hl.1 rfl (lv_room (Nat.le_of_ble_eq_true rfl)) dX9_switched_3 ⟨Nat.le_of_ble_eq_true rfl, Nat.le_of_ble_eq_true rfl⟩) hS (fun r3 u H locs q3 hP9 hD9 hT9 hS => ?_)
  obtain ⟨G3, w3⟩ := u
  obtain ⟨hX9, q3⟩ := q3
  have hX9 : cX none (chs [1, 8]) G ws G3 w3 := hX9
  have hP : va_P D vwCl w3 H := hP9
  have hD : va_D A w3 := hD9
  have hT : cT cy G3 w3 := hT9
  have hM_o := hX9.2.1 _ _ (cP.no hG_o rfl) hM_o
  have hG_o := hX9.1 _ _ hG_o
  have hG_bs_o := hX9.1 _ _ hG_bs_o
  have hG_js_o := hX9.1 _ _ hG_js_o
  have hG_sh_o := hX9.1 _ _ hG_sh_o
  have hG_wk_o := hX9.1 _ _ hG_wk_o
  have hG_ll_o := hX9.1 _ _ hG_ll_o
  have hX := hX.tr hX9
  rcases r3 with _ | x3
  · skip
    refine lv_astoreN (lv' := [(6, .null), (0, .ref o), (1, .int wide), (2, .int high), (3, .long p0), (5, .int i0)]) hx hb dX9_switched_6 hl (by decide) rfl (fun ls hl => ?_)
    refine lv_aloadN hx hb dX9_switched_8 (lv_at hl 0 rfl) ?_
    refine lv_ifnullN (tgt := 27) hx hb dX9_switched_10 (by decide) ?_
    refine lv_ldc2 hx hb hown (hts (.constantLong RX9 143 (-1)) (by decide +kernel)) dX9_switched_27 ?_
    refine W.widen (k := 4) (n := 502) (Nat.le_of_ble_eq_true rfl) (Nat.le_of_ble_eq_true rfl) ?_
    exact W.lret (v := (-1 : Int64)) hx hb hr (fun t ht hW => ⟨⟨_, (G3, w3), rfl, ⟨hX, trivial⟩, by show va_P D vwCl w3 t.heap; rw [ht]; exact hP, hD, hT⟩, hS.F ht⟩) hS.2.2 dX9_switched_30
  · skip
    have hG_x3 := q3 x3 rfl
    refine lv_astore (lv' := [(6, .ref x3), (0, .ref o), (1, .int wide), (2, .int high), (3, .long p0), (5, .int i0)]) hx hb dX9_switched_6 hl (by decide) rfl (fun ls hl => ?_)
    refine lv_aload hx hb dX9_switched_8 (lv_at hl 0 rfl) ?_
    refine lv_ifnull hx hb dX9_switched_10 ?_
    refine lv_aload hx hb dX9_switched_13 (lv_at hl 0 rfl) ?_
    refine lv_lload_n hx hb dX9_switched_15 rfl (lv_at hl 4 rfl) ?_
    obtain ⟨_, hM_x3, hb_x3, l_x3, f_x3, r_x3, rfl, hG_l_x3, hG_f_x3, hG_r_x3⟩ := hT _ _ hG_x3
    refine t_calli (va_runV (g := F0 m 16 ls ([.long p0, .ref x3])) (As := [.long p0]) (rest := []) ⟨hx, hb, hml, hown, hts⟩ (c_X0_isPicture l D cy A G3 w3 x3 p0 hD hT hG_x3 ) (cwV 1 hts gX9_switched_X0_isPicture rfl rfl rfl (by decide +kernel) ⟨Nat.le_of_ble_eq_true rfl, Nat.le_of_ble_eq_true rfl⟩) (c_preV hM_x3 rfl hP hK hA hS hV) rfl rfl hl.1 rfl (lv_room (Nat.le_of_ble_eq_true rfl)) dX9_switched_16 ⟨Nat.le_of_ble_eq_true rfl, Nat.le_of_ble_eq_true rfl⟩) hS (fun r16 u H locs q16 hP9 hD9 hT9 hS => ?_)
    obtain ⟨rfl, q16⟩ := q16
    have hP : va_P D vwCl w3 H := hP9
    refine lv_if_eq (tgt := 27) hx hb dX9_switched_19 (by decide) (fun c19 => ?_) (fun c19 => ?_)
    · skip
      have d19 := c19
      rw [fa_eq] at d19
      refine lv_ldc2 hx hb hown (hts (.constantLong RX9 143 (-1)) (by decide +kernel)) dX9_switched_27 ?_
      refine W.widen (k := 4) (n := 502) (Nat.le_of_ble_eq_true rfl) (Nat.le_of_ble_eq_true rfl) ?_
      exact W.lret (v := (-1 : Int64)) hx hb hr (fun t ht hW => ⟨⟨_, (G3, w3), rfl, ⟨hX, trivial⟩, by show va_P D vwCl w3 t.heap; rw [ht]; exact hP, hD, hT⟩, hS.F ht⟩) hS.2.2 dX9_switched_30
    · skip
      have d19 := c19
      rw [fa_eq] at d19
      refine lv_iload hx hb dX9_switched_22 (lv_at hl 5 rfl) ?_
      refine lv_if_ge (tgt := 31) hx hb dX9_switched_24 (by decide) (fun c24 => ?_) (fun c24 => ?_)
      · skip
        have d24 := c24
        rw [fa_le] at d24
        refine lv_iconst (v := 0) hx hb dX9_switched_31 (by decide) ?_
        refine lv_istore (lv' := [(7, .int (0 : Int32)), (6, .ref x3), (0, .ref o), (1, .int wide), (2, .int high), (3, .long p0), (5, .int i0)]) hx hb dX9_switched_32 hl (by decide) rfl (fun ls hl => ?_)
        refine lv_iconst (v := 0) hx hb dX9_switched_34 (by decide) ?_
        refine lv_istore (lv' := [(8, .int (0 : Int32)), (7, .int (0 : Int32)), (6, .ref x3), (0, .ref o), (1, .int wide), (2, .int high), (3, .long p0), (5, .int i0)]) hx hb dX9_switched_35 hl (by decide) rfl (fun ls hl => ?_)
        have loop_37 : ∀ (n : Nat) (i : Nat) (x7 : Int32), (i ≤ 225) → 225 - i < n → ∀ (H : Heap) (locs : List Loc), va_P D vwCl w3 H → va_S A s.heap H locs → ∀ (ls : Array Slot), lv_has ls 11 [(8, .int (nI i)), (7, .int x7), (6, .ref x3), (0, .ref o), (1, .int wide), (2, .int high), (3, .long p0), (5, .int i0)] → W p l e (headSpec wsX9_switched ({ frames := 5, cells := 4, slots := 502, locals := 116 })).room s m #[Value.ref o, Value.int wide, Value.int high, Value.long p0, Value.int i0] below meth c H locs 4 502 (MQ below (va_Ql (fun r0 u => cX none (chs [1, 8]) G ws u.1 u.2 ∧ (True)) (cB D cy A) A) #[Value.ref o, Value.int wide, Value.int high, Value.long p0, Value.int i0] s 4 502 A) (F0 m 37 ls []) := by
          intro n
          induction n with
          | zero => intro i x7 j37_0 hn; exact absurd hn (Nat.not_lt_zero _)
          | succ n ih_37 =>
            intro i x7 j37_0 hn_37 H locs hP hS  ls hl
            have ik_i : (nI i).toInt = (i : Int) := nI_toInt (by omega)
            refine lv_iload hx hb dX9_switched_37 (lv_at hl 0 rfl) ?_
            refine lv_aload hx hb dX9_switched_39 (lv_at hl 2 rfl) ?_
            refine t_get (v := .int (nI (cfo wide.toNatClampNeg high.toNatClampNeg))) (C := RX0) (T := TX0) (N := 8) hx hb hts (by decide +kernel) hown hK hP hM_x3 rfl 4 (by decide) (hts (.fieldLink RX9 176 "ShadowBench$Board" "fours" "I") (by decide +kernel)) (fun _ h9 => h9) rfl dX9_switched_41 ?_
            have m_fo_x3 := cb_fo hb_x3
            have i_fo_x3 : (nI (cfo wide.toNatClampNeg high.toNatClampNeg)).toInt = _ := nI_toInt (by omega)
            refine lv_icmp_ge (tgt := 83) hx hb dX9_switched_44 (by decide) (fun c44 => ?_) (fun c44 => ?_)
            · skip
              have d44 := c44
              rw [fa_le] at d44
              refine lv_ldc2 hx hb hown (hts (.constantLong RX9 151 (-2)) (by decide +kernel)) dX9_switched_83 ?_
              refine W.widen (k := 4) (n := 502) (Nat.le_of_ble_eq_true rfl) (Nat.le_of_ble_eq_true rfl) ?_
              exact W.lret (v := (-2 : Int64)) hx hb hr (fun t ht hW => ⟨⟨_, (G3, w3), rfl, ⟨hX, trivial⟩, by show va_P D vwCl w3 t.heap; rw [ht]; exact hP, hD, hT⟩, hS.F ht⟩) hS.2.2 dX9_switched_86
            · skip
              have d44 := c44
              rw [fa_le] at d44
              refine lv_aload hx hb dX9_switched_47 (lv_at hl 2 rfl) ?_
              refine lv_iload hx hb dX9_switched_49 (lv_at hl 0 rfl) ?_
              refine lv_lload_n hx hb dX9_switched_51 rfl (lv_at hl 6 rfl) ?_
              refine t_calll (va_runV (g := F0 m 52 ls ([.long p0, .int (nI i), .ref x3])) (As := [.int (nI i), .long p0]) (rest := []) ⟨hx, hb, hml, hown, hts⟩ (c_X0_behindFour l D cy A G3 w3 x3 (nI i) p0 hD hT hG_x3 ) (cwV 2 hts gX9_switched_X0_behindFour rfl rfl rfl (by decide +kernel) ⟨Nat.le_of_ble_eq_true rfl, Nat.le_of_ble_eq_true rfl⟩) (c_preV hM_x3 rfl hP hK hA hS hV) rfl rfl hl.1 rfl (lv_room (Nat.le_of_ble_eq_true rfl)) dX9_switched_52 ⟨Nat.le_of_ble_eq_true rfl, Nat.le_of_ble_eq_true rfl⟩) hS (fun r52 u H locs q52 hP9 hD9 hT9 hS => ?_)
              obtain ⟨rfl, q52⟩ := q52
              have hP : va_P D vwCl w3 H := hP9
              refine lv_lstore (lv' := [(9, .long r52), (8, .int (nI i)), (7, .int x7), (6, .ref x3), (0, .ref o), (1, .int wide), (2, .int high), (3, .long p0), (5, .int i0)]) hx hb dX9_switched_55 hl (by decide) rfl (fun ls hl => ?_)
              refine lv_lload hx hb dX9_switched_57 (lv_at hl 0 rfl) ?_
              refine lv_lload_n hx hb dX9_switched_59 rfl (lv_at hl 7 rfl) ?_
              refine W.lcmp hx hb dX9_switched_60 ?_
              refine lv_if_eq (tgt := 77) hx hb dX9_switched_61 (by decide) (fun c61 => ?_) (fun c61 => ?_)
              · skip
                have d61 := c61
                rw [lg_cmp_eq, fa_eq64] at d61
                refine lv_iinc (v := (nI (i + 1))) (lv' := [(8, .int (nI (i + 1))), (9, .long r52), (7, .int x7), (6, .ref x3), (0, .ref o), (1, .int wide), (2, .int high), (3, .long p0), (5, .int i0)]) hx hb dX9_switched_77 hl (k := 1) rfl (nI_1 _) (by decide) rfl (fun ls hl => ?_)
                refine lv_goto (tgt := 37) hx hb dX9_switched_80 (by decide) ?_
                exact ih_37 (i + 1) x7 (by omega) (by omega) _ _ hP hS  ls (lv_sub hl [0, 2, 3, 4, 5, 6, 7, 8] rfl)
              · skip
                have d61 := c61
                rw [lg_cmp_eq, fa_eq64] at d61
                refine lv_iload hx hb dX9_switched_64 (lv_at hl 2 rfl) ?_
                refine lv_iload hx hb dX9_switched_66 (lv_at hl 8 rfl) ?_
                refine lv_icmp_ne (tgt := 74) hx hb dX9_switched_68 (by decide) (fun c68 => ?_) (fun c68 => ?_)
                · skip
                  have d68 := c68
                  rw [fa_eq] at d68
                  obtain ⟨v74, e74⟩ : ∃ y : Int32, y = x7 + 1 := ⟨_, rfl⟩
                  refine lv_iinc (v := v74) (lv' := [(7, .int v74), (9, .long r52), (8, .int (nI i)), (6, .ref x3), (0, .ref o), (1, .int wide), (2, .int high), (3, .long p0), (5, .int i0)]) hx hb dX9_switched_74 hl (k := 2) rfl (by rw [e74]; rfl) (by decide) rfl (fun ls hl => ?_)
                  refine lv_iinc (v := (nI (i + 1))) (lv' := [(8, .int (nI (i + 1))), (7, .int v74), (9, .long r52), (6, .ref x3), (0, .ref o), (1, .int wide), (2, .int high), (3, .long p0), (5, .int i0)]) hx hb dX9_switched_77 hl (k := 2) rfl (nI_1 _) (by decide) rfl (fun ls hl => ?_)
                  refine lv_goto (tgt := 37) hx hb dX9_switched_80 (by decide) ?_
                  exact ih_37 (i + 1) v74 (by omega) (by omega) _ _ hP hS  ls (lv_sub hl [0, 1, 3, 4, 5, 6, 7, 8] rfl)
                · skip
                  have d68 := c68
                  rw [fa_eq] at d68
                  refine lv_lload hx hb dX9_switched_71 (lv_at hl 0 rfl) ?_
                  refine W.widen (k := 4) (n := 502) (Nat.le_of_ble_eq_true rfl) (Nat.le_of_ble_eq_true rfl) ?_
                  exact W.lret (v := r52) hx hb hr (fun t ht hW => ⟨⟨_, (G3, w3), rfl, ⟨hX, trivial⟩, by show va_P D vwCl w3 t.heap; rw [ht]; exact hP, hD, hT⟩, hS.F ht⟩) hS.2.2 dX9_switched_73
        exact loop_37 (225 + 1) 0 (0 : Int32) (by omega) (by omega) _ _ hP hS  ls (lv_sub hl [0, 1, 2, 3, 4, 5, 6, 7] rfl)
      · skip
        have d24 := c24
        rw [fa_le] at d24
        refine lv_ldc2 hx hb hown (hts (.constantLong RX9 143 (-1)) (by decide +kernel)) dX9_switched_27 ?_
        refine W.widen (k := 4) (n := 502) (Nat.le_of_ble_eq_true rfl) (Nat.le_of_ble_eq_true rfl) ?_
        exact W.lret (v := (-1 : Int64)) hx hb hr (fun t ht hW => ⟨⟨_, (G3, w3), rfl, ⟨hX, trivial⟩, by show va_P D vwCl w3 t.heap; rw [ht]; exact hP, hD, hT⟩, hS.F ht⟩) hS.2.2 dX9_switched_30
set_option maxHeartbeats 4000000 in
set_option maxRecDepth 100000 in
theorem c_X9_joined (l : Launch) (D : va_G) (cy : Nat → ClassId) (A : Nat → Prop) (G : cG) (ws : va_W) (o : Nat) (wide : Int32) (high : Int32) (p0 : Int64)  (hD : va_D A ws) (hT : cT cy G ws) (hG_o : G o = some (7, 0, 0))  : Ci l D cy A yX9_joined wsX9_joined ({ frames := 5, cells := 4, slots := 502, locals := 116 }) 4 502 ws [.ref o, .int wide, .int high, .long p0] (fun r0 u => cX none (chs [1, 8]) G ws u.1 u.2 ∧ (True)) := by
  refine Met.ofW (cc := cX9_joined) (maxL := 6) (ret := (some .int)) (by decide) rfl ?_
  intro p e s m args below meth c s₁ B hml hv
  obtain ⟨rfl, hP, hK, hA, hV⟩ := hv
  have hx := B.exec
  have hb := B.bytes
  have hr := B.returns
  have hts := atoms_spec (ws := wsX9_joined) B.pre
  have hown : s.vm.findClass RX9 = some m.cls := findClass_of_methodNamed B.named
  have hlocks := B.notSynchronized
  have hS : va_S A s.heap s.heap [] := va_S.rf
  have hX : cX none (chs [1, 8]) G ws G ws := cX.rf
  have hl := lv_entry ([.ref o, .int wide, .int high, .long p0]) (n := 6) (Nat.le_of_ble_eq_true rfl)
  rw [lg_entry_eq]
  generalize (lg_sl ([.ref o, .int wide, .int high, .long p0]) ++ List.replicate (6 - (lg_sl ([.ref o, .int wide, .int high, .long p0])).length) Slot.unset).toArray = ls at hl ⊢
  have hl : lv_has ls 6 [(0, .ref o), (1, .int wide), (2, .int high), (3, .long p0)] := hl
  have k_m1 : (-1 : Int32).toInt = -1 := by decide
  have k_0 : (0 : Int32).toInt = 0 := by decide
  have k_1 : (1 : Int32).toInt = 1 := by decide
  refine lv_aload_n hx hb dX9_joined_0 rfl (lv_at hl 0 rfl) ?_
  refine lv_iload_n hx hb dX9_joined_1 rfl (lv_at hl 1 rfl) ?_
  refine lv_iload_n hx hb dX9_joined_2 rfl (lv_at hl 2 rfl) ?_
  obtain ⟨_, hM_o, bs_o, js_o, sh_o, wk_o, ll_o, jc_o, lc_o, mo_o, lb_o, rfl, hjc_o, hlc_o, hG_bs_o, hG_js_o, hG_sh_o, hG_wk_o, hmo_o, hG_ll_o, hlb_o⟩ := hT _ _ hG_o
  refine t_calla (va_runV (g := F0 m 3 ls ([.int high, .int wide, .ref o])) (As := [.int wide, .int high]) (rest := []) ⟨hx, hb, hml, hown, hts⟩ (c_X9_boardOf l D cy A G ws o wide high hD hT hG_o ) (cwV 2 hts gX9_joined_X9_boardOf rfl rfl rfl (by decide +kernel) ⟨Nat.le_of_ble_eq_true rfl, Nat.le_of_ble_eq_true rfl⟩) (c_preV hM_o rfl hP hK hA hS hV) rfl rfl hl.1 rfl (lv_room (Nat.le_of_ble_eq_true rfl)) dX9_joined_3 ⟨Nat.le_of_ble_eq_true rfl, Nat.le_of_ble_eq_true rfl⟩) hS (fun r3 u H locs q3 hP9 hD9 hT9 hS => ?_)
  obtain ⟨G3, w3⟩ := u
  obtain ⟨hX9, q3⟩ := q3
  have hX9 : cX none (chs [1, 8]) G ws G3 w3 := hX9
  have hP : va_P D vwCl w3 H := hP9
  have hD : va_D A w3 := hD9
  have hT : cT cy G3 w3 := hT9
  have hM_o := hX9.2.1 _ _ (cP.no hG_o rfl) hM_o
  have hG_o := hX9.1 _ _ hG_o
  have hG_bs_o := hX9.1 _ _ hG_bs_o
  have hG_js_o := hX9.1 _ _ hG_js_o
  have hG_sh_o := hX9.1 _ _ hG_sh_o
  have hG_wk_o := hX9.1 _ _ hG_wk_o
  have hG_ll_o := hX9.1 _ _ hG_ll_o
  have hX := hX.tr hX9
  rcases r3 with _ | x3
  · skip
    refine lv_astoreN (lv' := [(5, .null), (0, .ref o), (1, .int wide), (2, .int high), (3, .long p0)]) hx hb dX9_joined_6 hl (by decide) rfl (fun ls hl => ?_)
    refine lv_aloadN hx hb dX9_joined_8 (lv_at hl 0 rfl) ?_
    refine lv_ifnullN (tgt := 22) hx hb dX9_joined_10 (by decide) ?_
    refine lv_iconst (v := (-1)) hx hb dX9_joined_22 (by decide) ?_
    refine W.widen (k := 4) (n := 502) (Nat.le_of_ble_eq_true rfl) (Nat.le_of_ble_eq_true rfl) ?_
    exact W.iret (v := ((-1) : Int32)) hx hb hr (fun t ht hW => ⟨⟨_, (G3, w3), rfl, ⟨hX, trivial⟩, by show va_P D vwCl w3 t.heap; rw [ht]; exact hP, hD, hT⟩, hS.F ht⟩) hS.2.2 dX9_joined_23
  · skip
    have hG_x3 := q3 x3 rfl
    refine lv_astore (lv' := [(5, .ref x3), (0, .ref o), (1, .int wide), (2, .int high), (3, .long p0)]) hx hb dX9_joined_6 hl (by decide) rfl (fun ls hl => ?_)
    refine lv_aload hx hb dX9_joined_8 (lv_at hl 0 rfl) ?_
    refine lv_ifnull hx hb dX9_joined_10 ?_
    refine lv_aload hx hb dX9_joined_13 (lv_at hl 0 rfl) ?_
    refine lv_lload_n hx hb dX9_joined_15 rfl (lv_at hl 4 rfl) ?_
    obtain ⟨_, hM_x3, hb_x3, l_x3, f_x3, r_x3, rfl, hG_l_x3, hG_f_x3, hG_r_x3⟩ := hT _ _ hG_x3
    refine t_calli (va_runV (g := F0 m 16 ls ([.long p0, .ref x3])) (As := [.long p0]) (rest := []) ⟨hx, hb, hml, hown, hts⟩ (c_X0_isPicture l D cy A G3 w3 x3 p0 hD hT hG_x3 ) (cwV 1 hts gX9_joined_X0_isPicture rfl rfl rfl (by decide +kernel) ⟨Nat.le_of_ble_eq_true rfl, Nat.le_of_ble_eq_true rfl⟩) (c_preV hM_x3 rfl hP hK hA hS hV) rfl rfl hl.1 rfl (lv_room (Nat.le_of_ble_eq_true rfl)) dX9_joined_16 ⟨Nat.le_of_ble_eq_true rfl, Nat.le_of_ble_eq_true rfl⟩) hS (fun r16 u H locs q16 hP9 hD9 hT9 hS => ?_)
    obtain ⟨rfl, q16⟩ := q16
    have hP : va_P D vwCl w3 H := hP9
    refine lv_if_ne (tgt := 24) hx hb dX9_joined_19 (by decide) (fun c19 => ?_) (fun c19 => ?_)
    · skip
      have d19 := c19
      rw [fa_eq] at d19
      refine lv_aload hx hb dX9_joined_24 (lv_at hl 0 rfl) ?_
      refine lv_lload_n hx hb dX9_joined_26 rfl (lv_at hl 4 rfl) ?_
      refine t_calli (va_runV (g := F0 m 27 ls ([.long p0, .ref x3])) (As := [.long p0]) (rest := []) ⟨hx, hb, hml, hown, hts⟩ (c_X0_hangsTogether l D cy A G3 w3 x3 p0 hD hT hG_x3 ) (cwV 1 hts gX9_joined_X0_hangsTogether rfl rfl rfl (by decide +kernel) ⟨Nat.le_of_ble_eq_true rfl, Nat.le_of_ble_eq_true rfl⟩) (c_preV hM_x3 rfl hP hK hA hS hV) rfl rfl hl.1 rfl (lv_room (Nat.le_of_ble_eq_true rfl)) dX9_joined_27 ⟨Nat.le_of_ble_eq_true rfl, Nat.le_of_ble_eq_true rfl⟩) hS (fun r27 u H locs q27 hP9 hD9 hT9 hS => ?_)
      obtain ⟨rfl, q27⟩ := q27
      have hP : va_P D vwCl w3 H := hP9
      refine lv_if_eq (tgt := 37) hx hb dX9_joined_30 (by decide) (fun c30 => ?_) (fun c30 => ?_)
      · skip
        have d30 := c30
        rw [fa_eq] at d30
        refine lv_iconst (v := 0) hx hb dX9_joined_37 (by decide) ?_
        refine W.widen (k := 4) (n := 502) (Nat.le_of_ble_eq_true rfl) (Nat.le_of_ble_eq_true rfl) ?_
        exact W.iret (v := (0 : Int32)) hx hb hr (fun t ht hW => ⟨⟨_, (G3, w3), rfl, ⟨hX, trivial⟩, by show va_P D vwCl w3 t.heap; rw [ht]; exact hP, hD, hT⟩, hS.F ht⟩) hS.2.2 dX9_joined_38
      · skip
        have d30 := c30
        rw [fa_eq] at d30
        refine lv_iconst (v := 1) hx hb dX9_joined_33 (by decide) ?_
        refine lv_goto (tgt := 38) hx hb dX9_joined_34 (by decide) ?_
        refine W.widen (k := 4) (n := 502) (Nat.le_of_ble_eq_true rfl) (Nat.le_of_ble_eq_true rfl) ?_
        exact W.iret (v := (1 : Int32)) hx hb hr (fun t ht hW => ⟨⟨_, (G3, w3), rfl, ⟨hX, trivial⟩, by show va_P D vwCl w3 t.heap; rw [ht]; exact hP, hD, hT⟩, hS.F ht⟩) hS.2.2 dX9_joined_38
    · skip
      have d19 := c19
      rw [fa_eq] at d19
      refine lv_iconst (v := (-1)) hx hb dX9_joined_22 (by decide) ?_
      refine W.widen (k := 4) (n := 502) (Nat.le_of_ble_eq_true rfl) (Nat.le_of_ble_eq_true rfl) ?_
      exact W.iret (v := ((-1) : Int32)) hx hb hr (fun t ht hW => ⟨⟨_, (G3, w3), rfl, ⟨hX, trivial⟩, by show va_P D vwCl w3 t.heap; rw [ht]; exact hP, hD, hT⟩, hS.F ht⟩) hS.2.2 dX9_joined_23
set_option maxHeartbeats 4000000 in
set_option maxRecDepth 100000 in
theorem c_X9_even (l : Launch) (D : va_G) (cy : Nat → ClassId) (A : Nat → Prop) (G : cG) (ws : va_W) (o : Nat) (wide : Int32) (high : Int32) (p0 : Int64) (col : Int32)  (hD : va_D A ws) (hT : cT cy G ws) (hG_o : G o = some (7, 0, 0))  : Ci l D cy A yX9_even wsX9_even ({ frames := 5, cells := 4, slots := 502, locals := 116 }) 4 502 ws [.ref o, .int wide, .int high, .long p0, .int col] (fun r0 u => cX none (chs [1, 8]) G ws u.1 u.2 ∧ (True)) := by
  refine Met.ofW (cc := cX9_even) (maxL := 8) (ret := (some .int)) (by decide) rfl ?_
  intro p e s m args below meth c s₁ B hml hv
  obtain ⟨rfl, hP, hK, hA, hV⟩ := hv
  have hx := B.exec
  have hb := B.bytes
  have hr := B.returns
  have hts := atoms_spec (ws := wsX9_even) B.pre
  have hown : s.vm.findClass RX9 = some m.cls := findClass_of_methodNamed B.named
  have hlocks := B.notSynchronized
  have hS : va_S A s.heap s.heap [] := va_S.rf
  have hX : cX none (chs [1, 8]) G ws G ws := cX.rf
  have hl := lv_entry ([.ref o, .int wide, .int high, .long p0, .int col]) (n := 8) (Nat.le_of_ble_eq_true rfl)
  rw [lg_entry_eq]
  generalize (lg_sl ([.ref o, .int wide, .int high, .long p0, .int col]) ++ List.replicate (8 - (lg_sl ([.ref o, .int wide, .int high, .long p0, .int col])).length) Slot.unset).toArray = ls at hl ⊢
  have hl : lv_has ls 8 [(0, .ref o), (1, .int wide), (2, .int high), (3, .long p0), (5, .int col)] := hl
  have k_m1 : (-1 : Int32).toInt = -1 := by decide
  have k_0 : (0 : Int32).toInt = 0 := by decide
  have k_1 : (1 : Int32).toInt = 1 := by decide
  refine lv_aload_n hx hb dX9_even_0 rfl (lv_at hl 0 rfl) ?_
  refine lv_iload_n hx hb dX9_even_1 rfl (lv_at hl 1 rfl) ?_
  refine lv_iload_n hx hb dX9_even_2 rfl (lv_at hl 2 rfl) ?_
  obtain ⟨_, hM_o, bs_o, js_o, sh_o, wk_o, ll_o, jc_o, lc_o, mo_o, lb_o, rfl, hjc_o, hlc_o, hG_bs_o, hG_js_o, hG_sh_o, hG_wk_o, hmo_o, hG_ll_o, hlb_o⟩ := hT _ _ hG_o
  refine t_calla (va_runV (g := F0 m 3 ls ([.int high, .int wide, .ref o])) (As := [.int wide, .int high]) (rest := []) ⟨hx, hb, hml, hown, hts⟩ (c_X9_boardOf l D cy A G ws o wide high hD hT hG_o ) (cwV 2 hts gX9_even_X9_boardOf rfl rfl rfl (by decide +kernel) ⟨Nat.le_of_ble_eq_true rfl, Nat.le_of_ble_eq_true rfl⟩) (c_preV hM_o rfl hP hK hA hS hV) rfl rfl hl.1 rfl (lv_room (Nat.le_of_ble_eq_true rfl)) dX9_even_3 ⟨Nat.le_of_ble_eq_true rfl, Nat.le_of_ble_eq_true rfl⟩) hS (fun r3 u H locs q3 hP9 hD9 hT9 hS => ?_)
  obtain ⟨G3, w3⟩ := u
  obtain ⟨hX9, q3⟩ := q3
  have hX9 : cX none (chs [1, 8]) G ws G3 w3 := hX9
  have hP : va_P D vwCl w3 H := hP9
  have hD : va_D A w3 := hD9
  have hT : cT cy G3 w3 := hT9
  have hM_o := hX9.2.1 _ _ (cP.no hG_o rfl) hM_o
  have hG_o := hX9.1 _ _ hG_o
  have hG_bs_o := hX9.1 _ _ hG_bs_o
  have hG_js_o := hX9.1 _ _ hG_js_o
  have hG_sh_o := hX9.1 _ _ hG_sh_o
  have hG_wk_o := hX9.1 _ _ hG_wk_o
  have hG_ll_o := hX9.1 _ _ hG_ll_o
  have hX := hX.tr hX9
  rcases r3 with _ | x3
  · skip
    refine lv_astoreN (lv' := [(6, .null), (0, .ref o), (1, .int wide), (2, .int high), (3, .long p0), (5, .int col)]) hx hb dX9_even_6 hl (by decide) rfl (fun ls hl => ?_)
    refine lv_aloadN hx hb dX9_even_8 (lv_at hl 0 rfl) ?_
    refine lv_ifnullN (tgt := 22) hx hb dX9_even_10 (by decide) ?_
    refine lv_iconst (v := (-1)) hx hb dX9_even_22 (by decide) ?_
    refine W.widen (k := 4) (n := 502) (Nat.le_of_ble_eq_true rfl) (Nat.le_of_ble_eq_true rfl) ?_
    exact W.iret (v := ((-1) : Int32)) hx hb hr (fun t ht hW => ⟨⟨_, (G3, w3), rfl, ⟨hX, trivial⟩, by show va_P D vwCl w3 t.heap; rw [ht]; exact hP, hD, hT⟩, hS.F ht⟩) hS.2.2 dX9_even_23
  · skip
    have hG_x3 := q3 x3 rfl
    refine lv_astore (lv' := [(6, .ref x3), (0, .ref o), (1, .int wide), (2, .int high), (3, .long p0), (5, .int col)]) hx hb dX9_even_6 hl (by decide) rfl (fun ls hl => ?_)
    refine lv_aload hx hb dX9_even_8 (lv_at hl 0 rfl) ?_
    refine lv_ifnull hx hb dX9_even_10 ?_
    refine lv_aload hx hb dX9_even_13 (lv_at hl 0 rfl) ?_
    refine lv_lload_n hx hb dX9_even_15 rfl (lv_at hl 4 rfl) ?_
    obtain ⟨_, hM_x3, hb_x3, l_x3, f_x3, r_x3, rfl, hG_l_x3, hG_f_x3, hG_r_x3⟩ := hT _ _ hG_x3
    refine t_calli (va_runV (g := F0 m 16 ls ([.long p0, .ref x3])) (As := [.long p0]) (rest := []) ⟨hx, hb, hml, hown, hts⟩ (c_X0_isPicture l D cy A G3 w3 x3 p0 hD hT hG_x3 ) (cwV 1 hts gX9_even_X0_isPicture rfl rfl rfl (by decide +kernel) ⟨Nat.le_of_ble_eq_true rfl, Nat.le_of_ble_eq_true rfl⟩) (c_preV hM_x3 rfl hP hK hA hS hV) rfl rfl hl.1 rfl (lv_room (Nat.le_of_ble_eq_true rfl)) dX9_even_16 ⟨Nat.le_of_ble_eq_true rfl, Nat.le_of_ble_eq_true rfl⟩) hS (fun r16 u H locs q16 hP9 hD9 hT9 hS => ?_)
    obtain ⟨rfl, q16⟩ := q16
    have hP : va_P D vwCl w3 H := hP9
    refine lv_if_ne (tgt := 24) hx hb dX9_even_19 (by decide) (fun c19 => ?_) (fun c19 => ?_)
    · skip
      have d19 := c19
      rw [fa_eq] at d19
      refine lv_iload hx hb dX9_even_24 (lv_at hl 5 rfl) ?_
      refine lv_if_eq (tgt := 38) hx hb dX9_even_26 (by decide) (fun c26 => ?_) (fun c26 => ?_)
      · skip
        have d26 := c26
        rw [fa_eq] at d26
        refine lv_aload hx hb dX9_even_38 (lv_at hl 0 rfl) ?_
        refine lv_lload_n hx hb dX9_even_40 rfl (lv_at hl 4 rfl) ?_
        refine t_calli (va_runV (g := F0 m 41 ls ([.long p0, .ref x3])) (As := [.long p0]) (rest := []) ⟨hx, hb, hml, hown, hts⟩ (c_X0_rowsAreWhole l D cy A G3 w3 x3 p0 hD hT hG_x3 ) (cwV 1 hts gX9_even_X0_rowsAreWhole rfl rfl rfl (by decide +kernel) ⟨Nat.le_of_ble_eq_true rfl, Nat.le_of_ble_eq_true rfl⟩) (c_preV hM_x3 rfl hP hK hA hS hV) rfl rfl hl.1 rfl (lv_room (Nat.le_of_ble_eq_true rfl)) dX9_even_41 ⟨Nat.le_of_ble_eq_true rfl, Nat.le_of_ble_eq_true rfl⟩) hS (fun r41 u H locs q41 hP9 hD9 hT9 hS => ?_)
        obtain ⟨rfl, q41⟩ := q41
        have hP : va_P D vwCl w3 H := hP9
        refine lv_istore (lv' := [(7, .int r41), (6, .ref x3), (0, .ref o), (1, .int wide), (2, .int high), (3, .long p0), (5, .int col)]) hx hb dX9_even_44 hl (by decide) rfl (fun ls hl => ?_)
        refine lv_iload hx hb dX9_even_46 (lv_at hl 0 rfl) ?_
        refine lv_if_eq (tgt := 55) hx hb dX9_even_48 (by decide) (fun c48 => ?_) (fun c48 => ?_)
        · skip
          have d48 := c48
          rw [fa_eq] at d48
          refine lv_iconst (v := 0) hx hb dX9_even_55 (by decide) ?_
          refine W.widen (k := 4) (n := 502) (Nat.le_of_ble_eq_true rfl) (Nat.le_of_ble_eq_true rfl) ?_
          exact W.iret (v := (0 : Int32)) hx hb hr (fun t ht hW => ⟨⟨_, (G3, w3), rfl, ⟨hX, trivial⟩, by show va_P D vwCl w3 t.heap; rw [ht]; exact hP, hD, hT⟩, hS.F ht⟩) hS.2.2 dX9_even_56
        · skip
          have d48 := c48
          rw [fa_eq] at d48
          refine lv_iconst (v := 1) hx hb dX9_even_51 (by decide) ?_
          refine lv_goto (tgt := 56) hx hb dX9_even_52 (by decide) ?_
          refine W.widen (k := 4) (n := 502) (Nat.le_of_ble_eq_true rfl) (Nat.le_of_ble_eq_true rfl) ?_
          exact W.iret (v := (1 : Int32)) hx hb hr (fun t ht hW => ⟨⟨_, (G3, w3), rfl, ⟨hX, trivial⟩, by show va_P D vwCl w3 t.heap; rw [ht]; exact hP, hD, hT⟩, hS.F ht⟩) hS.2.2 dX9_even_56
      · skip
        have d26 := c26
        rw [fa_eq] at d26
        refine lv_aload hx hb dX9_even_29 (lv_at hl 0 rfl) ?_
        refine lv_lload_n hx hb dX9_even_31 rfl (lv_at hl 4 rfl) ?_
        refine t_calli (va_runV (g := F0 m 32 ls ([.long p0, .ref x3])) (As := [.long p0]) (rest := []) ⟨hx, hb, hml, hown, hts⟩ (c_X0_columnsAreWhole l D cy A G3 w3 x3 p0 hD hT hG_x3 ) (cwV 1 hts gX9_even_X0_columnsAreWhole rfl rfl rfl (by decide +kernel) ⟨Nat.le_of_ble_eq_true rfl, Nat.le_of_ble_eq_true rfl⟩) (c_preV hM_x3 rfl hP hK hA hS hV) rfl rfl hl.1 rfl (lv_room (Nat.le_of_ble_eq_true rfl)) dX9_even_32 ⟨Nat.le_of_ble_eq_true rfl, Nat.le_of_ble_eq_true rfl⟩) hS (fun r32 u H locs q32 hP9 hD9 hT9 hS => ?_)
        obtain ⟨rfl, q32⟩ := q32
        have hP : va_P D vwCl w3 H := hP9
        refine lv_goto (tgt := 44) hx hb dX9_even_35 (by decide) ?_
        refine lv_istore (lv' := [(7, .int r32), (6, .ref x3), (0, .ref o), (1, .int wide), (2, .int high), (3, .long p0), (5, .int col)]) hx hb dX9_even_44 hl (by decide) rfl (fun ls hl => ?_)
        refine lv_iload hx hb dX9_even_46 (lv_at hl 0 rfl) ?_
        refine lv_if_eq (tgt := 55) hx hb dX9_even_48 (by decide) (fun c48 => ?_) (fun c48 => ?_)
        · skip
          have d48 := c48
          rw [fa_eq] at d48
          refine lv_iconst (v := 0) hx hb dX9_even_55 (by decide) ?_
          refine W.widen (k := 4) (n := 502) (Nat.le_of_ble_eq_true rfl) (Nat.le_of_ble_eq_true rfl) ?_
          exact W.iret (v := (0 : Int32)) hx hb hr (fun t ht hW => ⟨⟨_, (G3, w3), rfl, ⟨hX, trivial⟩, by show va_P D vwCl w3 t.heap; rw [ht]; exact hP, hD, hT⟩, hS.F ht⟩) hS.2.2 dX9_even_56
        · skip
          have d48 := c48
          rw [fa_eq] at d48
          refine lv_iconst (v := 1) hx hb dX9_even_51 (by decide) ?_
          refine lv_goto (tgt := 56) hx hb dX9_even_52 (by decide) ?_
          refine W.widen (k := 4) (n := 502) (Nat.le_of_ble_eq_true rfl) (Nat.le_of_ble_eq_true rfl) ?_
          exact W.iret (v := (1 : Int32)) hx hb hr (fun t ht hW => ⟨⟨_, (G3, w3), rfl, ⟨hX, trivial⟩, by show va_P D vwCl w3 t.heap; rw [ht]; exact hP, hD, hT⟩, hS.F ht⟩) hS.2.2 dX9_even_56
    · skip
      have d19 := c19
      rw [fa_eq] at d19
      refine lv_iconst (v := (-1)) hx hb dX9_even_22 (by decide) ?_
      refine W.widen (k := 4) (n := 502) (Nat.le_of_ble_eq_true rfl) (Nat.le_of_ble_eq_true rfl) ?_
      exact W.iret (v := ((-1) : Int32)) hx hb hr (fun t ht hW => ⟨⟨_, (G3, w3), rfl, ⟨hX, trivial⟩, by show va_P D vwCl w3 t.heap; rw [ht]; exact hP, hD, hT⟩, hS.F ht⟩) hS.2.2 dX9_even_23
set_option maxHeartbeats 4000000 in
set_option maxRecDepth 100000 in
theorem c_X9_turned (l : Launch) (D : va_G) (cy : Nat → ClassId) (A : Nat → Prop) (G : cG) (ws : va_W) (o : Nat) (wide : Int32) (high : Int32) (p0 : Int64) (how : Int32)  (hD : va_D A ws) (hT : cT cy G ws) (hG_o : G o = some (7, 0, 0))  : Cl l D cy A yX9_turned wsX9_turned ({ frames := 5, cells := 4, slots := 502, locals := 116 }) 4 502 ws [.ref o, .int wide, .int high, .long p0, .int how] (fun r0 u => cX none (chs [1, 8]) G ws u.1 u.2 ∧ (True)) := by
  refine Met.ofW (cc := cX9_turned) (maxL := 7) (ret := (some .long)) (by decide) rfl ?_
  intro p e s m args below meth c s₁ B hml hv
  obtain ⟨rfl, hP, hK, hA, hV⟩ := hv
  have hx := B.exec
  have hb := B.bytes
  have hr := B.returns
  have hts := atoms_spec (ws := wsX9_turned) B.pre
  have hown : s.vm.findClass RX9 = some m.cls := findClass_of_methodNamed B.named
  have hlocks := B.notSynchronized
  have hS : va_S A s.heap s.heap [] := va_S.rf
  have hX : cX none (chs [1, 8]) G ws G ws := cX.rf
  have hl := lv_entry ([.ref o, .int wide, .int high, .long p0, .int how]) (n := 7) (Nat.le_of_ble_eq_true rfl)
  rw [lg_entry_eq]
  generalize (lg_sl ([.ref o, .int wide, .int high, .long p0, .int how]) ++ List.replicate (7 - (lg_sl ([.ref o, .int wide, .int high, .long p0, .int how])).length) Slot.unset).toArray = ls at hl ⊢
  have hl : lv_has ls 7 [(0, .ref o), (1, .int wide), (2, .int high), (3, .long p0), (5, .int how)] := hl
  have k_0 : (0 : Int32).toInt = 0 := by decide
  have k_3 : (3 : Int32).toInt = 3 := by decide
  have k_m1L : (-1 : Int64).toInt = -1 := by decide
  refine lv_aload_n hx hb dX9_turned_0 rfl (lv_at hl 0 rfl) ?_
  refine lv_iload_n hx hb dX9_turned_1 rfl (lv_at hl 1 rfl) ?_
  refine lv_iload_n hx hb dX9_turned_2 rfl (lv_at hl 2 rfl) ?_
  obtain ⟨_, hM_o, bs_o, js_o, sh_o, wk_o, ll_o, jc_o, lc_o, mo_o, lb_o, rfl, hjc_o, hlc_o, hG_bs_o, hG_js_o, hG_sh_o, hG_wk_o, hmo_o, hG_ll_o, hlb_o⟩ := hT _ _ hG_o
  refine t_calla (va_runV (g := F0 m 3 ls ([.int high, .int wide, .ref o])) (As := [.int wide, .int high]) (rest := []) ⟨hx, hb, hml, hown, hts⟩ (c_X9_boardOf l D cy A G ws o wide high hD hT hG_o ) (cwV 2 hts gX9_turned_X9_boardOf rfl rfl rfl (by decide +kernel) ⟨Nat.le_of_ble_eq_true rfl, Nat.le_of_ble_eq_true rfl⟩) (c_preV hM_o rfl hP hK hA hS hV) rfl rfl hl.1 rfl (lv_room (Nat.le_of_ble_eq_true rfl)) dX9_turned_3 ⟨Nat.le_of_ble_eq_true rfl, Nat.le_of_ble_eq_true rfl⟩) hS (fun r3 u H locs q3 hP9 hD9 hT9 hS => ?_)
  obtain ⟨G3, w3⟩ := u
  obtain ⟨hX9, q3⟩ := q3
  have hX9 : cX none (chs [1, 8]) G ws G3 w3 := hX9
  have hP : va_P D vwCl w3 H := hP9
  have hD : va_D A w3 := hD9
  have hT : cT cy G3 w3 := hT9
  have hM_o := hX9.2.1 _ _ (cP.no hG_o rfl) hM_o
  have hG_o := hX9.1 _ _ hG_o
  have hG_bs_o := hX9.1 _ _ hG_bs_o
  have hG_js_o := hX9.1 _ _ hG_js_o
  have hG_sh_o := hX9.1 _ _ hG_sh_o
  have hG_wk_o := hX9.1 _ _ hG_wk_o
  have hG_ll_o := hX9.1 _ _ hG_ll_o
  have hX := hX.tr hX9
  rcases r3 with _ | x3
  · skip
    refine lv_astoreN (lv' := [(6, .null), (0, .ref o), (1, .int wide), (2, .int high), (3, .long p0), (5, .int how)]) hx hb dX9_turned_6 hl (by decide) rfl (fun ls hl => ?_)
    refine lv_aloadN hx hb dX9_turned_8 (lv_at hl 0 rfl) ?_
    refine lv_ifnullN (tgt := 33) hx hb dX9_turned_10 (by decide) ?_
    refine lv_ldc2 hx hb hown (hts (.constantLong RX9 143 (-1)) (by decide +kernel)) dX9_turned_33 ?_
    refine W.widen (k := 4) (n := 502) (Nat.le_of_ble_eq_true rfl) (Nat.le_of_ble_eq_true rfl) ?_
    exact W.lret (v := (-1 : Int64)) hx hb hr (fun t ht hW => ⟨⟨_, (G3, w3), rfl, ⟨hX, trivial⟩, by show va_P D vwCl w3 t.heap; rw [ht]; exact hP, hD, hT⟩, hS.F ht⟩) hS.2.2 dX9_turned_36
  · skip
    have hG_x3 := q3 x3 rfl
    refine lv_astore (lv' := [(6, .ref x3), (0, .ref o), (1, .int wide), (2, .int high), (3, .long p0), (5, .int how)]) hx hb dX9_turned_6 hl (by decide) rfl (fun ls hl => ?_)
    refine lv_aload hx hb dX9_turned_8 (lv_at hl 0 rfl) ?_
    refine lv_ifnull hx hb dX9_turned_10 ?_
    refine lv_aload hx hb dX9_turned_13 (lv_at hl 0 rfl) ?_
    refine lv_lload_n hx hb dX9_turned_15 rfl (lv_at hl 4 rfl) ?_
    obtain ⟨_, hM_x3, hb_x3, l_x3, f_x3, r_x3, rfl, hG_l_x3, hG_f_x3, hG_r_x3⟩ := hT _ _ hG_x3
    refine t_calli (va_runV (g := F0 m 16 ls ([.long p0, .ref x3])) (As := [.long p0]) (rest := []) ⟨hx, hb, hml, hown, hts⟩ (c_X0_isPicture l D cy A G3 w3 x3 p0 hD hT hG_x3 ) (cwV 1 hts gX9_turned_X0_isPicture rfl rfl rfl (by decide +kernel) ⟨Nat.le_of_ble_eq_true rfl, Nat.le_of_ble_eq_true rfl⟩) (c_preV hM_x3 rfl hP hK hA hS hV) rfl rfl hl.1 rfl (lv_room (Nat.le_of_ble_eq_true rfl)) dX9_turned_16 ⟨Nat.le_of_ble_eq_true rfl, Nat.le_of_ble_eq_true rfl⟩) hS (fun r16 u H locs q16 hP9 hD9 hT9 hS => ?_)
    obtain ⟨rfl, q16⟩ := q16
    have hP : va_P D vwCl w3 H := hP9
    refine lv_if_eq (tgt := 33) hx hb dX9_turned_19 (by decide) (fun c19 => ?_) (fun c19 => ?_)
    · skip
      have d19 := c19
      rw [fa_eq] at d19
      refine lv_ldc2 hx hb hown (hts (.constantLong RX9 143 (-1)) (by decide +kernel)) dX9_turned_33 ?_
      refine W.widen (k := 4) (n := 502) (Nat.le_of_ble_eq_true rfl) (Nat.le_of_ble_eq_true rfl) ?_
      exact W.lret (v := (-1 : Int64)) hx hb hr (fun t ht hW => ⟨⟨_, (G3, w3), rfl, ⟨hX, trivial⟩, by show va_P D vwCl w3 t.heap; rw [ht]; exact hP, hD, hT⟩, hS.F ht⟩) hS.2.2 dX9_turned_36
    · skip
      have d19 := c19
      rw [fa_eq] at d19
      refine lv_iload hx hb dX9_turned_22 (lv_at hl 5 rfl) ?_
      refine lv_if_lt (tgt := 33) hx hb dX9_turned_24 (by decide) (fun c24 => ?_) (fun c24 => ?_)
      · skip
        have d24 := c24
        rw [fa_lt] at d24
        refine lv_ldc2 hx hb hown (hts (.constantLong RX9 143 (-1)) (by decide +kernel)) dX9_turned_33 ?_
        refine W.widen (k := 4) (n := 502) (Nat.le_of_ble_eq_true rfl) (Nat.le_of_ble_eq_true rfl) ?_
        exact W.lret (v := (-1 : Int64)) hx hb hr (fun t ht hW => ⟨⟨_, (G3, w3), rfl, ⟨hX, trivial⟩, by show va_P D vwCl w3 t.heap; rw [ht]; exact hP, hD, hT⟩, hS.F ht⟩) hS.2.2 dX9_turned_36
      · skip
        have d24 := c24
        rw [fa_lt] at d24
        refine lv_iload hx hb dX9_turned_27 (lv_at hl 5 rfl) ?_
        refine lv_iconst (v := 3) hx hb dX9_turned_29 (by decide) ?_
        refine lv_icmp_le (tgt := 37) hx hb dX9_turned_30 (by decide) (fun c30 => ?_) (fun c30 => ?_)
        · skip
          have d30 := c30
          rw [fa_le] at d30
          refine lv_aload hx hb dX9_turned_37 (lv_at hl 0 rfl) ?_
          refine lv_lload_n hx hb dX9_turned_39 rfl (lv_at hl 4 rfl) ?_
          refine lv_iload hx hb dX9_turned_40 (lv_at hl 5 rfl) ?_
          refine t_calll (va_runV (g := F0 m 42 ls ([.int how, .long p0, .ref x3])) (As := [.long p0, .int how]) (rest := []) ⟨hx, hb, hml, hown, hts⟩ (c_X0_turnedPicture l D cy A G3 w3 x3 p0 how hD hT hG_x3 ) (cwV 2 hts gX9_turned_X0_turnedPicture rfl rfl rfl (by decide +kernel) ⟨Nat.le_of_ble_eq_true rfl, Nat.le_of_ble_eq_true rfl⟩) (c_preV hM_x3 rfl hP hK hA hS hV) rfl rfl hl.1 rfl (lv_room (Nat.le_of_ble_eq_true rfl)) dX9_turned_42 ⟨Nat.le_of_ble_eq_true rfl, Nat.le_of_ble_eq_true rfl⟩) hS (fun r42 u H locs q42 hP9 hD9 hT9 hS => ?_)
          obtain ⟨rfl, q42⟩ := q42
          have hP : va_P D vwCl w3 H := hP9
          refine W.widen (k := 4) (n := 502) (Nat.le_of_ble_eq_true rfl) (Nat.le_of_ble_eq_true rfl) ?_
          exact W.lret (v := r42) hx hb hr (fun t ht hW => ⟨⟨_, (G3, w3), rfl, ⟨hX, trivial⟩, by show va_P D vwCl w3 t.heap; rw [ht]; exact hP, hD, hT⟩, hS.F ht⟩) hS.2.2 dX9_turned_45
        · skip
          have d30 := c30
          rw [fa_le] at d30
          refine lv_ldc2 hx hb hown (hts (.constantLong RX9 143 (-1)) (by decide +kernel)) dX9_turned_33 ?_
          refine W.widen (k := 4) (n := 502) (Nat.le_of_ble_eq_true rfl) (Nat.le_of_ble_eq_true rfl) ?_
          exact W.lret (v := (-1 : Int64)) hx hb hr (fun t ht hW => ⟨⟨_, (G3, w3), rfl, ⟨hX, trivial⟩, by show va_P D vwCl w3 t.heap; rw [ht]; exact hP, hD, hT⟩, hS.F ht⟩) hS.2.2 dX9_turned_36
set_option maxHeartbeats 4000000 in
set_option maxRecDepth 100000 in
theorem c_X9_parts (l : Launch) (D : va_G) (cy : Nat → ClassId) (A : Nat → Prop) (G : cG) (ws : va_W) (o : Nat) (wide : Int32) (high : Int32) (p0 : Int64) (p1 : Int64) (ways : Int32)  (hD : va_D A ws) (hT : cT cy G ws) (hG_o : G o = some (7, 0, 0))  : Ci l D cy A yX9_parts wsX9_parts ({ frames := 5, cells := 4, slots := 502, locals := 116 }) 4 502 ws [.ref o, .int wide, .int high, .long p0, .long p1, .int ways] (fun r0 u => cX none (chs [1, 8]) G ws u.1 u.2 ∧ (True)) := by
  refine Met.ofW (cc := cX9_parts) (maxL := 10) (ret := (some .int)) (by decide) rfl ?_
  intro p e s m args below meth c s₁ B hml hv
  obtain ⟨rfl, hP, hK, hA, hV⟩ := hv
  have hx := B.exec
  have hb := B.bytes
  have hr := B.returns
  have hts := atoms_spec (ws := wsX9_parts) B.pre
  have hown : s.vm.findClass RX9 = some m.cls := findClass_of_methodNamed B.named
  have hlocks := B.notSynchronized
  have hS : va_S A s.heap s.heap [] := va_S.rf
  have hX : cX none (chs [1, 8]) G ws G ws := cX.rf
  have hl := lv_entry ([.ref o, .int wide, .int high, .long p0, .long p1, .int ways]) (n := 10) (Nat.le_of_ble_eq_true rfl)
  rw [lg_entry_eq]
  generalize (lg_sl ([.ref o, .int wide, .int high, .long p0, .long p1, .int ways]) ++ List.replicate (10 - (lg_sl ([.ref o, .int wide, .int high, .long p0, .long p1, .int ways])).length) Slot.unset).toArray = ls at hl ⊢
  have hl : lv_has ls 10 [(0, .ref o), (1, .int wide), (2, .int high), (3, .long p0), (5, .long p1), (7, .int ways)] := hl
  have k_m2 : (-2 : Int32).toInt = -2 := by decide
  have k_m1 : (-1 : Int32).toInt = -1 := by decide
  have k_0 : (0 : Int32).toInt = 0 := by decide
  have k_16 : (16 : Int32).toInt = 16 := by decide
  refine lv_aload_n hx hb dX9_parts_0 rfl (lv_at hl 0 rfl) ?_
  refine lv_iload_n hx hb dX9_parts_1 rfl (lv_at hl 1 rfl) ?_
  refine lv_iload_n hx hb dX9_parts_2 rfl (lv_at hl 2 rfl) ?_
  obtain ⟨_, hM_o, bs_o, js_o, sh_o, wk_o, ll_o, jc_o, lc_o, mo_o, lb_o, rfl, hjc_o, hlc_o, hG_bs_o, hG_js_o, hG_sh_o, hG_wk_o, hmo_o, hG_ll_o, hlb_o⟩ := hT _ _ hG_o
  refine t_calla (va_runV (g := F0 m 3 ls ([.int high, .int wide, .ref o])) (As := [.int wide, .int high]) (rest := []) ⟨hx, hb, hml, hown, hts⟩ (c_X9_boardOf l D cy A G ws o wide high hD hT hG_o ) (cwV 2 hts gX9_parts_X9_boardOf rfl rfl rfl (by decide +kernel) ⟨Nat.le_of_ble_eq_true rfl, Nat.le_of_ble_eq_true rfl⟩) (c_preV hM_o rfl hP hK hA hS hV) rfl rfl hl.1 rfl (lv_room (Nat.le_of_ble_eq_true rfl)) dX9_parts_3 ⟨Nat.le_of_ble_eq_true rfl, Nat.le_of_ble_eq_true rfl⟩) hS (fun r3 u H locs q3 hP9 hD9 hT9 hS => ?_)
  obtain ⟨G3, w3⟩ := u
  obtain ⟨hX9, q3⟩ := q3
  have hX9 : cX none (chs [1, 8]) G ws G3 w3 := hX9
  have hP : va_P D vwCl w3 H := hP9
  have hD : va_D A w3 := hD9
  have hT : cT cy G3 w3 := hT9
  have hM_o := hX9.2.1 _ _ (cP.no hG_o rfl) hM_o
  have hG_o := hX9.1 _ _ hG_o
  have hG_bs_o := hX9.1 _ _ hG_bs_o
  have hG_js_o := hX9.1 _ _ hG_js_o
  have hG_sh_o := hX9.1 _ _ hG_sh_o
  have hG_wk_o := hX9.1 _ _ hG_wk_o
  have hG_ll_o := hX9.1 _ _ hG_ll_o
  have hX := hX.tr hX9
  rcases r3 with _ | x3
  · skip
    refine lv_astoreN (lv' := [(8, .null), (0, .ref o), (1, .int wide), (2, .int high), (3, .long p0), (5, .long p1), (7, .int ways)]) hx hb dX9_parts_6 hl (by decide) rfl (fun ls hl => ?_)
    refine lv_aloadN hx hb dX9_parts_8 (lv_at hl 0 rfl) ?_
    refine lv_ifnullN (tgt := 44) hx hb dX9_parts_10 (by decide) ?_
    refine lv_iconst (v := (-1)) hx hb dX9_parts_44 (by decide) ?_
    refine W.widen (k := 4) (n := 502) (Nat.le_of_ble_eq_true rfl) (Nat.le_of_ble_eq_true rfl) ?_
    exact W.iret (v := ((-1) : Int32)) hx hb hr (fun t ht hW => ⟨⟨_, (G3, w3), rfl, ⟨hX, trivial⟩, by show va_P D vwCl w3 t.heap; rw [ht]; exact hP, hD, hT⟩, hS.F ht⟩) hS.2.2 dX9_parts_45
  · skip
    have hG_x3 := q3 x3 rfl
    refine lv_astore (lv' := [(8, .ref x3), (0, .ref o), (1, .int wide), (2, .int high), (3, .long p0), (5, .long p1), (7, .int ways)]) hx hb dX9_parts_6 hl (by decide) rfl (fun ls hl => ?_)
    refine lv_aload hx hb dX9_parts_8 (lv_at hl 0 rfl) ?_
    refine lv_ifnull hx hb dX9_parts_10 ?_
    refine lv_aload hx hb dX9_parts_13 (lv_at hl 0 rfl) ?_
    refine lv_lload_n hx hb dX9_parts_15 rfl (lv_at hl 4 rfl) ?_
    obtain ⟨_, hM_x3, hb_x3, l_x3, f_x3, r_x3, rfl, hG_l_x3, hG_f_x3, hG_r_x3⟩ := hT _ _ hG_x3
    refine t_calli (va_runV (g := F0 m 16 ls ([.long p0, .ref x3])) (As := [.long p0]) (rest := []) ⟨hx, hb, hml, hown, hts⟩ (c_X0_isPicture l D cy A G3 w3 x3 p0 hD hT hG_x3 ) (cwV 1 hts gX9_parts_X0_isPicture rfl rfl rfl (by decide +kernel) ⟨Nat.le_of_ble_eq_true rfl, Nat.le_of_ble_eq_true rfl⟩) (c_preV hM_x3 rfl hP hK hA hS hV) rfl rfl hl.1 rfl (lv_room (Nat.le_of_ble_eq_true rfl)) dX9_parts_16 ⟨Nat.le_of_ble_eq_true rfl, Nat.le_of_ble_eq_true rfl⟩) hS (fun r16 u H locs q16 hP9 hD9 hT9 hS => ?_)
    obtain ⟨rfl, q16⟩ := q16
    have hP : va_P D vwCl w3 H := hP9
    refine lv_if_eq (tgt := 44) hx hb dX9_parts_19 (by decide) (fun c19 => ?_) (fun c19 => ?_)
    · skip
      have d19 := c19
      rw [fa_eq] at d19
      refine lv_iconst (v := (-1)) hx hb dX9_parts_44 (by decide) ?_
      refine W.widen (k := 4) (n := 502) (Nat.le_of_ble_eq_true rfl) (Nat.le_of_ble_eq_true rfl) ?_
      exact W.iret (v := ((-1) : Int32)) hx hb hr (fun t ht hW => ⟨⟨_, (G3, w3), rfl, ⟨hX, trivial⟩, by show va_P D vwCl w3 t.heap; rw [ht]; exact hP, hD, hT⟩, hS.F ht⟩) hS.2.2 dX9_parts_45
    · skip
      have d19 := c19
      rw [fa_eq] at d19
      refine lv_aload hx hb dX9_parts_22 (lv_at hl 0 rfl) ?_
      refine lv_lload hx hb dX9_parts_24 (lv_at hl 5 rfl) ?_
      refine t_calli (va_runV (g := F0 m 26 ls ([.long p1, .ref x3])) (As := [.long p1]) (rest := []) ⟨hx, hb, hml, hown, hts⟩ (c_X0_isPicture l D cy A G3 w3 x3 p1 hD hT hG_x3 ) (cwV 1 hts gX9_parts_X0_isPicture rfl rfl rfl (by decide +kernel) ⟨Nat.le_of_ble_eq_true rfl, Nat.le_of_ble_eq_true rfl⟩) (c_preV hM_x3 rfl hP hK hA hS hV) rfl rfl hl.1 rfl (lv_room (Nat.le_of_ble_eq_true rfl)) dX9_parts_26 ⟨Nat.le_of_ble_eq_true rfl, Nat.le_of_ble_eq_true rfl⟩) hS (fun r26 u H locs q26 hP9 hD9 hT9 hS => ?_)
      obtain ⟨rfl, q26⟩ := q26
      have hP : va_P D vwCl w3 H := hP9
      refine lv_if_eq (tgt := 44) hx hb dX9_parts_29 (by decide) (fun c29 => ?_) (fun c29 => ?_)
      · skip
        have d29 := c29
        rw [fa_eq] at d29
        refine lv_iconst (v := (-1)) hx hb dX9_parts_44 (by decide) ?_
        refine W.widen (k := 4) (n := 502) (Nat.le_of_ble_eq_true rfl) (Nat.le_of_ble_eq_true rfl) ?_
        exact W.iret (v := ((-1) : Int32)) hx hb hr (fun t ht hW => ⟨⟨_, (G3, w3), rfl, ⟨hX, trivial⟩, by show va_P D vwCl w3 t.heap; rw [ht]; exact hP, hD, hT⟩, hS.F ht⟩) hS.2.2 dX9_parts_45
      · skip
        have d29 := c29
        rw [fa_eq] at d29
        refine lv_iload hx hb dX9_parts_32 (lv_at hl 6 rfl) ?_
        refine lv_if_lt (tgt := 44) hx hb dX9_parts_34 (by decide) (fun c34 => ?_) (fun c34 => ?_)
        · skip
          have d34 := c34
          rw [fa_lt] at d34
          refine lv_iconst (v := (-1)) hx hb dX9_parts_44 (by decide) ?_
          refine W.widen (k := 4) (n := 502) (Nat.le_of_ble_eq_true rfl) (Nat.le_of_ble_eq_true rfl) ?_
          exact W.iret (v := ((-1) : Int32)) hx hb hr (fun t ht hW => ⟨⟨_, (G3, w3), rfl, ⟨hX, trivial⟩, by show va_P D vwCl w3 t.heap; rw [ht]; exact hP, hD, hT⟩, hS.F ht⟩) hS.2.2 dX9_parts_45
        · skip
          have d34 := c34
          rw [fa_lt] at d34
          refine lv_iload hx hb dX9_parts_37 (lv_at hl 6 rfl) ?_
          refine lv_bipush (v := 16) hx hb dX9_parts_39 (by decide) ?_
          refine lv_icmp_lt (tgt := 46) hx hb dX9_parts_41 (by decide) (fun c41 => ?_) (fun c41 => ?_)
          · skip
            have d41 := c41
            rw [fa_lt] at d41
            refine lv_aload hx hb dX9_parts_46 (lv_at hl 0 rfl) ?_
            refine lv_lload_n hx hb dX9_parts_48 rfl (lv_at hl 4 rfl) ?_
            refine lv_lload hx hb dX9_parts_49 (lv_at hl 5 rfl) ?_
            refine lv_iload hx hb dX9_parts_51 (lv_at hl 6 rfl) ?_
            refine t_calli (va_runV (g := F0 m 53 ls ([.int ways, .long p1, .long p0, .ref x3])) (As := [.long p0, .long p1, .int ways]) (rest := []) ⟨hx, hb, hml, hown, hts⟩ (c_X0_firstUnlikeWay l D cy A G3 w3 x3 p0 p1 ways hD hT hG_x3 ) (cwV 3 hts gX9_parts_X0_firstUnlikeWay rfl rfl rfl (by decide +kernel) ⟨Nat.le_of_ble_eq_true rfl, Nat.le_of_ble_eq_true rfl⟩) (c_preV hM_x3 rfl hP hK hA hS hV) rfl rfl hl.1 rfl (lv_room (Nat.le_of_ble_eq_true rfl)) dX9_parts_53 ⟨Nat.le_of_ble_eq_true rfl, Nat.le_of_ble_eq_true rfl⟩) hS (fun r53 u H locs q53 hP9 hD9 hT9 hS => ?_)
            obtain ⟨rfl, q53⟩ := q53
            have hP : va_P D vwCl w3 H := hP9
            refine lv_istore (lv' := [(9, .int r53), (8, .ref x3), (0, .ref o), (1, .int wide), (2, .int high), (3, .long p0), (5, .long p1), (7, .int ways)]) hx hb dX9_parts_56 hl (by decide) rfl (fun ls hl => ?_)
            refine lv_iload hx hb dX9_parts_58 (lv_at hl 0 rfl) ?_
            refine lv_if_ge (tgt := 68) hx hb dX9_parts_60 (by decide) (fun c60 => ?_) (fun c60 => ?_)
            · skip
              have d60 := c60
              rw [fa_le] at d60
              refine lv_iload hx hb dX9_parts_68 (lv_at hl 0 rfl) ?_
              refine W.widen (k := 4) (n := 502) (Nat.le_of_ble_eq_true rfl) (Nat.le_of_ble_eq_true rfl) ?_
              exact W.iret (v := r53) hx hb hr (fun t ht hW => ⟨⟨_, (G3, w3), rfl, ⟨hX, trivial⟩, by show va_P D vwCl w3 t.heap; rw [ht]; exact hP, hD, hT⟩, hS.F ht⟩) hS.2.2 dX9_parts_70
            · skip
              have d60 := c60
              rw [fa_le] at d60
              refine lv_bipush (v := (-2)) hx hb dX9_parts_63 (by decide) ?_
              refine lv_goto (tgt := 70) hx hb dX9_parts_65 (by decide) ?_
              refine W.widen (k := 4) (n := 502) (Nat.le_of_ble_eq_true rfl) (Nat.le_of_ble_eq_true rfl) ?_
              exact W.iret (v := ((-2) : Int32)) hx hb hr (fun t ht hW => ⟨⟨_, (G3, w3), rfl, ⟨hX, trivial⟩, by show va_P D vwCl w3 t.heap; rw [ht]; exact hP, hD, hT⟩, hS.F ht⟩) hS.2.2 dX9_parts_70
          · skip
            have d41 := c41
            rw [fa_lt] at d41
            refine lv_iconst (v := (-1)) hx hb dX9_parts_44 (by decide) ?_
            refine W.widen (k := 4) (n := 502) (Nat.le_of_ble_eq_true rfl) (Nat.le_of_ble_eq_true rfl) ?_
            exact W.iret (v := ((-1) : Int32)) hx hb hr (fun t ht hW => ⟨⟨_, (G3, w3), rfl, ⟨hX, trivial⟩, by show va_P D vwCl w3 t.heap; rw [ht]; exact hP, hD, hT⟩, hS.F ht⟩) hS.2.2 dX9_parts_45
set_option maxHeartbeats 4000000 in
set_option maxRecDepth 100000 in
theorem c_X9_isOtherThanListed (l : Launch) (D : va_G) (cy : Nat → ClassId) (A : Nat → Prop) (G : cG) (ws : va_W) (o : Nat) (wide : Int32) (high : Int32)  (hD : va_D A ws) (hT : cT cy G ws) (hG_o : G o = some (7, 0, 0))  : Ci l D cy A yX9_isOtherThanListed wsX9_isOtherThanListed ({ frames := 0, cells := 0, slots := 0, locals := 0 }) 0 0 ws [.ref o, .int wide, .int high] (fun r0 u => u = (G, ws) ∧ (isBo r0)) := by
  refine Met.ofW (cc := cX9_isOtherThanListed) (maxL := 3) (ret := (some .boolean)) (by decide) rfl ?_
  intro p e s m args below meth c s₁ B hml hv
  obtain ⟨rfl, hP, hK, hA, hV⟩ := hv
  have hx := B.exec
  have hb := B.bytes
  have hr := B.returns
  have hts := atoms_spec (ws := wsX9_isOtherThanListed) B.pre
  have hown : s.vm.findClass RX9 = some m.cls := findClass_of_methodNamed B.named
  have hlocks := B.notSynchronized
  have hS : va_S A s.heap s.heap [] := va_S.rf
  have hl := lv_entry ([.ref o, .int wide, .int high]) (n := 3) (Nat.le_of_ble_eq_true rfl)
  rw [lg_entry_eq]
  generalize (lg_sl ([.ref o, .int wide, .int high]) ++ List.replicate (3 - (lg_sl ([.ref o, .int wide, .int high])).length) Slot.unset).toArray = ls at hl ⊢
  have hl : lv_has ls 3 [(0, .ref o), (1, .int wide), (2, .int high)] := hl
  have k_0 : (0 : Int32).toInt = 0 := by decide
  have k_1 : (1 : Int32).toInt = 1 := by decide
  refine lv_aload_n hx hb dX9_isOtherThanListed_0 rfl (lv_at hl 0 rfl) ?_
  obtain ⟨_, hM_o, bs_o, js_o, sh_o, wk_o, ll_o, jc_o, lc_o, mo_o, lb_o, rfl, hjc_o, hlc_o, hG_bs_o, hG_js_o, hG_sh_o, hG_wk_o, hmo_o, hG_ll_o, hlb_o⟩ := hT _ _ hG_o
  have hoq : lb_o = none ∨ ∃ x, lb_o = some x := by cases lb_o; exact Or.inl rfl; exact Or.inr ⟨_, rfl⟩
  rcases hoq with hopt | ⟨x1, hopt⟩
  · skip
    rw [hopt] at hM_o
    have hM_o : cIn ws o (.inr (8, [.ref bs_o, .ref js_o, .int jc_o, .ref sh_o, .ref wk_o, va_rf mo_o, .ref ll_o, .int lc_o, .null])) := hM_o
    refine t_get (v := .null) (C := RX9) (T := TX9) (N := 9) hx hb hts (by decide +kernel) hown hK hP hM_o rfl 8 (by decide) (hts (.fieldLink RX9 49 "ShadowBench" "listBoard" "LShadowBench$Board;") (by decide +kernel)) (fun _ h9 => h9) rfl dX9_isOtherThanListed_1 ?_
    refine lv_ifnullN (tgt := 33) hx hb dX9_isOtherThanListed_4 (by decide) ?_
    refine lv_iconst (v := 0) hx hb dX9_isOtherThanListed_33 (by decide) ?_
    exact W.zret (v := (0 : Int32)) hx hb hr (by decide) (fun t ht hW => ⟨⟨_, (G, ws), rfl, ⟨rfl, Or.inl rfl⟩, by show va_P D vwCl ws t.heap; rw [ht]; exact hP, hD, hT⟩, hS.F ht⟩) hS.2.2 dX9_isOtherThanListed_34
  · skip
    obtain ⟨wx1, hx1, hG_x1⟩ := hlb_o x1 hopt
    rw [hopt] at hM_o
    have hM_o : cIn ws o (.inr (8, [.ref bs_o, .ref js_o, .int jc_o, .ref sh_o, .ref wk_o, va_rf mo_o, .ref ll_o, .int lc_o, .ref x1])) := hM_o
    refine t_get (v := .ref x1) (C := RX9) (T := TX9) (N := 9) hx hb hts (by decide +kernel) hown hK hP hM_o rfl 8 (by decide) (hts (.fieldLink RX9 49 "ShadowBench" "listBoard" "LShadowBench$Board;") (by decide +kernel)) (fun _ h9 => h9) rfl dX9_isOtherThanListed_1 ?_
    refine lv_ifnull hx hb dX9_isOtherThanListed_4 ?_
    refine lv_aload_n hx hb dX9_isOtherThanListed_7 rfl (lv_at hl 0 rfl) ?_
    refine t_get (v := .ref x1) (C := RX9) (T := TX9) (N := 9) hx hb hts (by decide +kernel) hown hK hP hM_o rfl 8 (by decide) (hts (.fieldLink RX9 49 "ShadowBench" "listBoard" "LShadowBench$Board;") (by decide +kernel)) (fun _ h9 => h9) rfl dX9_isOtherThanListed_8 ?_
    obtain ⟨_, hM_x1, hb_x1, l_x1, f_x1, r_x1, rfl, hG_l_x1, hG_f_x1, hG_r_x1⟩ := hT _ _ hG_x1
    refine t_get (v := .int (nI wx1)) (C := RX0) (T := TX0) (N := 8) hx hb hts (by decide +kernel) hown hK hP hM_x1 rfl 0 (by decide) (hts (.fieldLink RX9 156 "ShadowBench$Board" "wide" "I") (by decide +kernel)) (fun _ h9 => h9) rfl dX9_isOtherThanListed_11 ?_
    have i_w_x1 : (nI wx1).toInt = _ := nI_toInt (by omega)
    refine lv_iload_n hx hb dX9_isOtherThanListed_14 rfl (lv_at hl 1 rfl) ?_
    refine lv_icmp_ne (tgt := 29) hx hb dX9_isOtherThanListed_15 (by decide) (fun c15 => ?_) (fun c15 => ?_)
    · skip
      have d15 := c15
      rw [fa_eq] at d15
      refine lv_iconst (v := 1) hx hb dX9_isOtherThanListed_29 (by decide) ?_
      refine lv_goto (tgt := 34) hx hb dX9_isOtherThanListed_30 (by decide) ?_
      exact W.zret (v := (1 : Int32)) hx hb hr (by decide) (fun t ht hW => ⟨⟨_, (G, ws), rfl, ⟨rfl, Or.inr rfl⟩, by show va_P D vwCl ws t.heap; rw [ht]; exact hP, hD, hT⟩, hS.F ht⟩) hS.2.2 dX9_isOtherThanListed_34
    · skip
      have d15 := c15
      rw [fa_eq] at d15
      refine lv_aload_n hx hb dX9_isOtherThanListed_18 rfl (lv_at hl 0 rfl) ?_
      refine t_get (v := .ref x1) (C := RX9) (T := TX9) (N := 9) hx hb hts (by decide +kernel) hown hK hP hM_o rfl 8 (by decide) (hts (.fieldLink RX9 49 "ShadowBench" "listBoard" "LShadowBench$Board;") (by decide +kernel)) (fun _ h9 => h9) rfl dX9_isOtherThanListed_19 ?_
      refine t_get (v := .int (nI hx1)) (C := RX0) (T := TX0) (N := 8) hx hb hts (by decide +kernel) hown hK hP hM_x1 rfl 1 (by decide) (hts (.fieldLink RX9 306 "ShadowBench$Board" "high" "I") (by decide +kernel)) (fun _ h9 => h9) rfl dX9_isOtherThanListed_22 ?_
      have i_h_x1 : (nI hx1).toInt = _ := nI_toInt (by omega)
      refine lv_iload_n hx hb dX9_isOtherThanListed_25 rfl (lv_at hl 2 rfl) ?_
      refine lv_icmp_eq (tgt := 33) hx hb dX9_isOtherThanListed_26 (by decide) (fun c26 => ?_) (fun c26 => ?_)
      · skip
        have d26 := c26
        rw [fa_eq] at d26
        refine lv_iconst (v := 0) hx hb dX9_isOtherThanListed_33 (by decide) ?_
        exact W.zret (v := (0 : Int32)) hx hb hr (by decide) (fun t ht hW => ⟨⟨_, (G, ws), rfl, ⟨rfl, Or.inl rfl⟩, by show va_P D vwCl ws t.heap; rw [ht]; exact hP, hD, hT⟩, hS.F ht⟩) hS.2.2 dX9_isOtherThanListed_34
      · skip
        have d26 := c26
        rw [fa_eq] at d26
        refine lv_iconst (v := 1) hx hb dX9_isOtherThanListed_29 (by decide) ?_
        refine lv_goto (tgt := 34) hx hb dX9_isOtherThanListed_30 (by decide) ?_
        exact W.zret (v := (1 : Int32)) hx hb hr (by decide) (fun t ht hW => ⟨⟨_, (G, ws), rfl, ⟨rfl, Or.inr rfl⟩, by show va_P D vwCl ws t.heap; rw [ht]; exact hP, hD, hT⟩, hS.F ht⟩) hS.2.2 dX9_isOtherThanListed_34
set_option maxHeartbeats 4000000 in
set_option maxRecDepth 100000 in
theorem c_X9_isListed (l : Launch) (D : va_G) (cy : Nat → ClassId) (A : Nat → Prop) (G : cG) (ws : va_W) (o : Nat) (p0 : Int64)  (hD : va_D A ws) (hT : cT cy G ws) (hG_o : G o = some (7, 0, 0))  : Ci l D cy A yX9_isListed wsX9_isListed ({ frames := 0, cells := 0, slots := 0, locals := 0 }) 0 0 ws [.ref o, .long p0] (fun r0 u => u = (G, ws) ∧ (isBo r0)) := by
  refine Met.ofW (cc := cX9_isListed) (maxL := 4) (ret := (some .boolean)) (by decide) rfl ?_
  intro p e s m args below meth c s₁ B hml hv
  obtain ⟨rfl, hP, hK, hA, hV⟩ := hv
  have hx := B.exec
  have hb := B.bytes
  have hr := B.returns
  have hts := atoms_spec (ws := wsX9_isListed) B.pre
  have hown : s.vm.findClass RX9 = some m.cls := findClass_of_methodNamed B.named
  have hlocks := B.notSynchronized
  have hS : va_S A s.heap s.heap [] := va_S.rf
  have hl := lv_entry ([.ref o, .long p0]) (n := 4) (Nat.le_of_ble_eq_true rfl)
  rw [lg_entry_eq]
  generalize (lg_sl ([.ref o, .long p0]) ++ List.replicate (4 - (lg_sl ([.ref o, .long p0])).length) Slot.unset).toArray = ls at hl ⊢
  have hl : lv_has ls 4 [(0, .ref o), (1, .long p0)] := hl
  have k_0 : (0 : Int32).toInt = 0 := by decide
  have k_1 : (1 : Int32).toInt = 1 := by decide
  have k_12 : (12 : Int32).toInt = 12 := by decide
  refine lv_iconst (v := 0) hx hb dX9_isListed_0 (by decide) ?_
  refine lv_istore_n (lv' := [(3, .int (0 : Int32)), (0, .ref o), (1, .long p0)]) hx hb dX9_isListed_1 rfl hl (by decide) rfl (fun ls hl => ?_)
  have loop_2 : ∀ (n : Nat) (i : Nat), (i ≤ 12) → 12 - i < n → ∀ (H : Heap) (locs : List Loc), va_P D vwCl ws H → va_S A s.heap H locs → ∀ (ls : Array Slot), lv_has ls 4 [(3, .int (nI i)), (0, .ref o), (1, .long p0)] → W p l e (headSpec wsX9_isListed ({ frames := 0, cells := 0, slots := 0, locals := 0 })).room s m #[Value.ref o, Value.long p0] below meth c H locs 0 0 (MQ below (va_Qi (fun r0 u => u = (G, ws) ∧ (isBo r0)) (cB D cy A) A) #[Value.ref o, Value.long p0] s 0 0 A) (F0 m 2 ls []) := by
    intro n
    induction n with
    | zero => intro i j2_0 hn; exact absurd hn (Nat.not_lt_zero _)
    | succ n ih_2 =>
      intro i j2_0 hn_2 H locs hP hS  ls hl
      have ik_i : (nI i).toInt = (i : Int) := nI_toInt (by omega)
      refine lv_iload_n hx hb dX9_isListed_2 rfl (lv_at hl 0 rfl) ?_
      refine lv_aload_n hx hb dX9_isListed_3 rfl (lv_at hl 1 rfl) ?_
      obtain ⟨_, hM_o, bs_o, js_o, sh_o, wk_o, ll_o, jc_o, lc_o, mo_o, lb_o, rfl, hjc_o, hlc_o, hG_bs_o, hG_js_o, hG_sh_o, hG_wk_o, hmo_o, hG_ll_o, hlb_o⟩ := hT _ _ hG_o
      refine t_get (v := .int lc_o) (C := RX9) (T := TX9) (N := 9) hx hb hts (by decide +kernel) hown hK hP hM_o rfl 7 (by decide) (hts (.fieldLink RX9 46 "ShadowBench" "listCount" "I") (by decide +kernel)) (fun _ h9 => h9) rfl dX9_isListed_4 ?_
      refine lv_icmp_ge (tgt := 35) hx hb dX9_isListed_7 (by decide) (fun c7 => ?_) (fun c7 => ?_)
      · skip
        have d7 := c7
        rw [fa_le] at d7
        refine lv_iconst (v := 0) hx hb dX9_isListed_35 (by decide) ?_
        exact W.zret (v := (0 : Int32)) hx hb hr (by decide) (fun t ht hW => ⟨⟨_, (G, ws), rfl, ⟨rfl, Or.inl rfl⟩, by show va_P D vwCl ws t.heap; rw [ht]; exact hP, hD, hT⟩, hS.F ht⟩) hS.2.2 dX9_isListed_36
      · skip
        have d7 := c7
        rw [fa_le] at d7
        refine lv_iload_n hx hb dX9_isListed_10 rfl (lv_at hl 0 rfl) ?_
        refine lv_bipush (v := 12) hx hb dX9_isListed_11 (by decide) ?_
        refine lv_icmp_ge (tgt := 35) hx hb dX9_isListed_13 (by decide) (fun c13 => ?_) (fun c13 => ?_)
        · skip
          have d13 := c13
          rw [fa_le] at d13
          refine lv_iconst (v := 0) hx hb dX9_isListed_35 (by decide) ?_
          exact W.zret (v := (0 : Int32)) hx hb hr (by decide) (fun t ht hW => ⟨⟨_, (G, ws), rfl, ⟨rfl, Or.inl rfl⟩, by show va_P D vwCl ws t.heap; rw [ht]; exact hP, hD, hT⟩, hS.F ht⟩) hS.2.2 dX9_isListed_36
        · skip
          have d13 := c13
          rw [fa_le] at d13
          refine lv_aload_n hx hb dX9_isListed_16 rfl (lv_at hl 1 rfl) ?_
          refine t_get (v := .ref ll_o) (C := RX9) (T := TX9) (N := 9) hx hb hts (by decide +kernel) hown hK hP hM_o rfl 6 (by decide) (hts (.fieldLink RX9 42 "ShadowBench" "listed" "[J") (by decide +kernel)) (fun _ h9 => h9) rfl dX9_isListed_17 ?_
          refine lv_iload_n hx hb dX9_isListed_20 rfl (lv_at hl 0 rfl) ?_
          refine t_lald hx hb hK hP hT (Or.inr (Or.inr rfl)) hG_ll_o (vp_in_iff.mpr ⟨by omega, by omega⟩) dX9_isListed_21 (fun v21 => ?_)
          refine lv_lload_n hx hb dX9_isListed_22 rfl (lv_at hl 2 rfl) ?_
          refine W.lcmp hx hb dX9_isListed_23 ?_
          refine lv_if_ne (tgt := 29) hx hb dX9_isListed_24 (by decide) (fun c24 => ?_) (fun c24 => ?_)
          · skip
            have d24 := c24
            rw [lg_cmp_eq, fa_eq64] at d24
            refine lv_iinc (v := (nI (i + 1))) (lv' := [(3, .int (nI (i + 1))), (0, .ref o), (1, .long p0)]) hx hb dX9_isListed_29 hl (k := 0) rfl (nI_1 _) (by decide) rfl (fun ls hl => ?_)
            refine lv_goto (tgt := 2) hx hb dX9_isListed_32 (by decide) ?_
            exact ih_2 (i + 1) (by omega) (by omega) _ _ hP hS  ls (lv_sub hl [0, 1, 2] rfl)
          · skip
            have d24 := c24
            rw [lg_cmp_eq, fa_eq64] at d24
            refine lv_iconst (v := 1) hx hb dX9_isListed_27 (by decide) ?_
            exact W.zret (v := (1 : Int32)) hx hb hr (by decide) (fun t ht hW => ⟨⟨_, (G, ws), rfl, ⟨rfl, Or.inr rfl⟩, by show va_P D vwCl ws t.heap; rw [ht]; exact hP, hD, hT⟩, hS.F ht⟩) hS.2.2 dX9_isListed_28
  exact loop_2 (12 + 1) 0 (by omega) (by omega) _ _ hP hS  ls (lv_sub hl [0, 1, 2] rfl)
set_option maxHeartbeats 4000000 in
set_option maxRecDepth 100000 in
theorem c_X9_tellsListApart (l : Launch) (D : va_G) (cy : Nat → ClassId) (A : Nat → Prop) (G : cG) (ws : va_W) (o : Nat) (set : Int32)  (hD : va_D A ws) (hT : cT cy G ws) (hG_o : G o = some (7, 0, 0))  : Ci l D cy A yX9_tellsListApart wsX9_tellsListApart ({ frames := 4, cells := 0, slots := 0, locals := 98 }) 0 0 ws [.ref o, .int set] (fun r0 u => u = (G, ws) ∧ (isBo r0)) := by
  refine Met.ofW (cc := cX9_tellsListApart) (maxL := 4) (ret := (some .boolean)) (by decide) rfl ?_
  intro p e s m args below meth c s₁ B hml hv
  obtain ⟨rfl, hP, hK, hA, hV⟩ := hv
  have hx := B.exec
  have hb := B.bytes
  have hr := B.returns
  have hts := atoms_spec (ws := wsX9_tellsListApart) B.pre
  have hown : s.vm.findClass RX9 = some m.cls := findClass_of_methodNamed B.named
  have hlocks := B.notSynchronized
  have hS : va_S A s.heap s.heap [] := va_S.rf
  have hl := lv_entry ([.ref o, .int set]) (n := 4) (Nat.le_of_ble_eq_true rfl)
  rw [lg_entry_eq]
  generalize (lg_sl ([.ref o, .int set]) ++ List.replicate (4 - (lg_sl ([.ref o, .int set])).length) Slot.unset).toArray = ls at hl ⊢
  have hl : lv_has ls 4 [(0, .ref o), (1, .int set)] := hl
  have k_0 : (0 : Int32).toInt = 0 := by decide
  have k_1 : (1 : Int32).toInt = 1 := by decide
  have k_12 : (12 : Int32).toInt = 12 := by decide
  refine lv_iconst (v := 1) hx hb dX9_tellsListApart_0 (by decide) ?_
  refine lv_istore_n (lv' := [(2, .int (1 : Int32)), (0, .ref o), (1, .int set)]) hx hb dX9_tellsListApart_1 rfl hl (by decide) rfl (fun ls hl => ?_)
  have loop_2 : ∀ (n : Nat) (k : Nat), (1 ≤ k ∧ k ≤ 12) → 12 - k < n → ∀ (H : Heap) (locs : List Loc), va_P D vwCl ws H → va_S A s.heap H locs → ∀ (ls : Array Slot), lv_has ls 4 [(2, .int (nI k)), (0, .ref o), (1, .int set)] → W p l e (headSpec wsX9_tellsListApart ({ frames := 4, cells := 0, slots := 0, locals := 98 })).room s m #[Value.ref o, Value.int set] below meth c H locs 0 0 (MQ below (va_Qi (fun r0 u => u = (G, ws) ∧ (isBo r0)) (cB D cy A) A) #[Value.ref o, Value.int set] s 0 0 A) (F0 m 2 ls []) := by
    intro n
    induction n with
    | zero => intro k j2_0 hn; exact absurd hn (Nat.not_lt_zero _)
    | succ n ih_2 =>
      intro k j2_0 hn_2 H locs hP hS  ls hl
      have ik_k : (nI k).toInt = (k : Int) := nI_toInt (by omega)
      refine lv_iload_n hx hb dX9_tellsListApart_2 rfl (lv_at hl 0 rfl) ?_
      refine lv_aload_n hx hb dX9_tellsListApart_3 rfl (lv_at hl 1 rfl) ?_
      obtain ⟨_, hM_o, bs_o, js_o, sh_o, wk_o, ll_o, jc_o, lc_o, mo_o, lb_o, rfl, hjc_o, hlc_o, hG_bs_o, hG_js_o, hG_sh_o, hG_wk_o, hmo_o, hG_ll_o, hlb_o⟩ := hT _ _ hG_o
      refine t_get (v := .int lc_o) (C := RX9) (T := TX9) (N := 9) hx hb hts (by decide +kernel) hown hK hP hM_o rfl 7 (by decide) (hts (.fieldLink RX9 46 "ShadowBench" "listCount" "I") (by decide +kernel)) (fun _ h9 => h9) rfl dX9_tellsListApart_4 ?_
      refine lv_icmp_ge (tgt := 67) hx hb dX9_tellsListApart_7 (by decide) (fun c7 => ?_) (fun c7 => ?_)
      · skip
        have d7 := c7
        rw [fa_le] at d7
        refine lv_iconst (v := 1) hx hb dX9_tellsListApart_67 (by decide) ?_
        exact W.zret (v := (1 : Int32)) hx hb hr (by decide) (fun t ht hW => ⟨⟨_, (G, ws), rfl, ⟨rfl, Or.inr rfl⟩, by show va_P D vwCl ws t.heap; rw [ht]; exact hP, hD, hT⟩, hS.F ht⟩) hS.2.2 dX9_tellsListApart_68
      · skip
        have d7 := c7
        rw [fa_le] at d7
        refine lv_iload_n hx hb dX9_tellsListApart_10 rfl (lv_at hl 0 rfl) ?_
        refine lv_bipush (v := 12) hx hb dX9_tellsListApart_11 (by decide) ?_
        refine lv_icmp_ge (tgt := 67) hx hb dX9_tellsListApart_13 (by decide) (fun c13 => ?_) (fun c13 => ?_)
        · skip
          have d13 := c13
          rw [fa_le] at d13
          refine lv_iconst (v := 1) hx hb dX9_tellsListApart_67 (by decide) ?_
          exact W.zret (v := (1 : Int32)) hx hb hr (by decide) (fun t ht hW => ⟨⟨_, (G, ws), rfl, ⟨rfl, Or.inr rfl⟩, by show va_P D vwCl ws t.heap; rw [ht]; exact hP, hD, hT⟩, hS.F ht⟩) hS.2.2 dX9_tellsListApart_68
        · skip
          have d13 := c13
          rw [fa_le] at d13
          refine lv_iconst (v := 0) hx hb dX9_tellsListApart_16 (by decide) ?_
          refine lv_istore_n (lv' := [(3, .int (0 : Int32)), (2, .int (nI k)), (0, .ref o), (1, .int set)]) hx hb dX9_tellsListApart_17 rfl hl (by decide) rfl (fun ls hl => ?_)
          have loop_18 : ∀ (n : Nat) (i : Nat), (i ≤ 12) → 12 - i < n → ∀ (H : Heap) (locs : List Loc), va_P D vwCl ws H → va_S A s.heap H locs → ∀ (ls : Array Slot), lv_has ls 4 [(3, .int (nI i)), (2, .int (nI k)), (0, .ref o), (1, .int set)] → W p l e (headSpec wsX9_tellsListApart ({ frames := 4, cells := 0, slots := 0, locals := 98 })).room s m #[Value.ref o, Value.int set] below meth c H locs 0 0 (MQ below (va_Qi (fun r0 u => u = (G, ws) ∧ (isBo r0)) (cB D cy A) A) #[Value.ref o, Value.int set] s 0 0 A) (F0 m 18 ls []) := by
            intro n
            induction n with
            | zero => intro i j18_0 hn; exact absurd hn (Nat.not_lt_zero _)
            | succ n ih_18 =>
              intro i j18_0 hn_18 H locs hP hS  ls hl
              have ik_i : (nI i).toInt = (i : Int) := nI_toInt (by omega)
              refine lv_iload_n hx hb dX9_tellsListApart_18 rfl (lv_at hl 0 rfl) ?_
              refine lv_iload_n hx hb dX9_tellsListApart_19 rfl (lv_at hl 1 rfl) ?_
              refine lv_icmp_ge (tgt := 61) hx hb dX9_tellsListApart_20 (by decide) (fun c20 => ?_) (fun c20 => ?_)
              · skip
                have d20 := c20
                rw [fa_le] at d20
                refine lv_iinc (v := (nI (k + 1))) (lv' := [(2, .int (nI (k + 1))), (3, .int (nI i)), (0, .ref o), (1, .int set)]) hx hb dX9_tellsListApart_61 hl (k := 1) rfl (nI_1 _) (by decide) rfl (fun ls hl => ?_)
                refine lv_goto (tgt := 2) hx hb dX9_tellsListApart_64 (by decide) ?_
                exact ih_2 (k + 1) (by omega) (by omega) _ _ hP hS  ls (lv_sub hl [0, 2, 3] rfl)
              · skip
                have d20 := c20
                rw [fa_le] at d20
                refine lv_aload_n hx hb dX9_tellsListApart_23 rfl (lv_at hl 2 rfl) ?_
                have hoq : lb_o = none ∨ ∃ x, lb_o = some x := by cases lb_o; exact Or.inl rfl; exact Or.inr ⟨_, rfl⟩
                rcases hoq with hopt | ⟨x24, hopt⟩
                · skip
                  rw [hopt] at hM_o
                  have hM_o : cIn ws o (.inr (8, [.ref bs_o, .ref js_o, .int jc_o, .ref sh_o, .ref wk_o, va_rf mo_o, .ref ll_o, .int lc_o, .null])) := hM_o
                  refine t_get (v := .null) (C := RX9) (T := TX9) (N := 9) hx hb hts (by decide +kernel) hown hK hP hM_o rfl 8 (by decide) (hts (.fieldLink RX9 49 "ShadowBench" "listBoard" "LShadowBench$Board;") (by decide +kernel)) (fun _ h9 => h9) rfl dX9_tellsListApart_24 ?_
                  refine lv_ifnullN (tgt := 53) hx hb dX9_tellsListApart_27 (by decide) ?_
                  refine lv_iconst (v := 0) hx hb dX9_tellsListApart_53 (by decide) ?_
                  exact W.zret (v := (0 : Int32)) hx hb hr (by decide) (fun t ht hW => ⟨⟨_, (G, ws), rfl, ⟨rfl, Or.inl rfl⟩, by show va_P D vwCl ws t.heap; rw [ht]; exact hP, hD, hT⟩, hS.F ht⟩) hS.2.2 dX9_tellsListApart_54
                · skip
                  obtain ⟨wx24, hx24, hG_x24⟩ := hlb_o x24 hopt
                  rw [hopt] at hM_o
                  have hM_o : cIn ws o (.inr (8, [.ref bs_o, .ref js_o, .int jc_o, .ref sh_o, .ref wk_o, va_rf mo_o, .ref ll_o, .int lc_o, .ref x24])) := hM_o
                  refine t_get (v := .ref x24) (C := RX9) (T := TX9) (N := 9) hx hb hts (by decide +kernel) hown hK hP hM_o rfl 8 (by decide) (hts (.fieldLink RX9 49 "ShadowBench" "listBoard" "LShadowBench$Board;") (by decide +kernel)) (fun _ h9 => h9) rfl dX9_tellsListApart_24 ?_
                  refine lv_ifnull hx hb dX9_tellsListApart_27 ?_
                  refine lv_aload_n hx hb dX9_tellsListApart_30 rfl (lv_at hl 2 rfl) ?_
                  refine t_get (v := .ref x24) (C := RX9) (T := TX9) (N := 9) hx hb hts (by decide +kernel) hown hK hP hM_o rfl 8 (by decide) (hts (.fieldLink RX9 49 "ShadowBench" "listBoard" "LShadowBench$Board;") (by decide +kernel)) (fun _ h9 => h9) rfl dX9_tellsListApart_31 ?_
                  refine lv_aload_n hx hb dX9_tellsListApart_34 rfl (lv_at hl 2 rfl) ?_
                  refine t_get (v := .ref ll_o) (C := RX9) (T := TX9) (N := 9) hx hb hts (by decide +kernel) hown hK hP hM_o rfl 6 (by decide) (hts (.fieldLink RX9 42 "ShadowBench" "listed" "[J") (by decide +kernel)) (fun _ h9 => h9) rfl dX9_tellsListApart_35 ?_
                  refine lv_iload_n hx hb dX9_tellsListApart_38 rfl (lv_at hl 1 rfl) ?_
                  refine t_lald hx hb hK hP hT (Or.inr (Or.inr rfl)) hG_ll_o (vp_in_iff.mpr ⟨by omega, by omega⟩) dX9_tellsListApart_39 (fun v39 => ?_)
                  refine lv_aload_n hx hb dX9_tellsListApart_40 rfl (lv_at hl 2 rfl) ?_
                  refine t_get (v := .ref ll_o) (C := RX9) (T := TX9) (N := 9) hx hb hts (by decide +kernel) hown hK hP hM_o rfl 6 (by decide) (hts (.fieldLink RX9 42 "ShadowBench" "listed" "[J") (by decide +kernel)) (fun _ h9 => h9) rfl dX9_tellsListApart_41 ?_
                  refine lv_iload_n hx hb dX9_tellsListApart_44 rfl (lv_at hl 0 rfl) ?_
                  refine t_lald hx hb hK hP hT (Or.inr (Or.inr rfl)) hG_ll_o (vp_in_iff.mpr ⟨by omega, by omega⟩) dX9_tellsListApart_45 (fun v45 => ?_)
                  refine lv_iload_n hx hb dX9_tellsListApart_46 rfl (lv_at hl 3 rfl) ?_
                  obtain ⟨_, hM_x24, hb_x24, l_x24, f_x24, r_x24, rfl, hG_l_x24, hG_f_x24, hG_r_x24⟩ := hT _ _ hG_x24
                  refine t_calli (va_runV (g := F0 m 47 ls ([.int set, .long v45, .long v39, .ref x24])) (As := [.long v39, .long v45, .int set]) (rest := []) ⟨hx, hb, hml, hown, hts⟩ (c_X0_firstUnlikeWay l D cy A G ws x24 v39 v45 set hD hT hG_x24 ) (cwV 3 hts gX9_tellsListApart_X0_firstUnlikeWay rfl rfl rfl (by decide +kernel) ⟨Nat.le_of_ble_eq_true rfl, Nat.le_of_ble_eq_true rfl⟩) (c_preV hM_x24 rfl hP hK hA hS hV) rfl rfl hl.1 rfl (lv_room (Nat.le_of_ble_eq_true rfl)) dX9_tellsListApart_47 ⟨Nat.le_of_ble_eq_true rfl, Nat.le_of_ble_eq_true rfl⟩) hS (fun r47 u H locs q47 hP9 hD9 hT9 hS => ?_)
                  obtain ⟨rfl, q47⟩ := q47
                  have hP : va_P D vwCl ws H := hP9
                  refine lv_if_ge (tgt := 55) hx hb dX9_tellsListApart_50 (by decide) (fun c50 => ?_) (fun c50 => ?_)
                  · skip
                    have d50 := c50
                    rw [fa_le] at d50
                    refine lv_iinc (v := (nI (i + 1))) (lv' := [(3, .int (nI (i + 1))), (2, .int (nI k)), (0, .ref o), (1, .int set)]) hx hb dX9_tellsListApart_55 hl (k := 0) rfl (nI_1 _) (by decide) rfl (fun ls hl => ?_)
                    refine lv_goto (tgt := 18) hx hb dX9_tellsListApart_58 (by decide) ?_
                    exact ih_18 (i + 1) (by omega) (by omega) _ _ hP hS  ls (lv_sub hl [0, 1, 2, 3] rfl)
                  · skip
                    have d50 := c50
                    rw [fa_le] at d50
                    refine lv_iconst (v := 0) hx hb dX9_tellsListApart_53 (by decide) ?_
                    exact W.zret (v := (0 : Int32)) hx hb hr (by decide) (fun t ht hW => ⟨⟨_, (G, ws), rfl, ⟨rfl, Or.inl rfl⟩, by show va_P D vwCl ws t.heap; rw [ht]; exact hP, hD, hT⟩, hS.F ht⟩) hS.2.2 dX9_tellsListApart_54
          exact loop_18 (12 + 1) 0 (by omega) (by omega) _ _ hP hS  ls (lv_sub hl [0, 1, 2, 3] rfl)
  exact loop_2 (12 + 1) 1 (by omega) (by omega) _ _ hP hS  ls (lv_sub hl [0, 1, 2] rfl)
set_option maxHeartbeats 4000000 in
set_option maxRecDepth 100000 in
theorem c_X9_ways (l : Launch) (D : va_G) (cy : Nat → ClassId) (A : Nat → Prop) (G : cG) (ws : va_W) (o : Nat)  (hD : va_D A ws) (hT : cT cy G ws) (hG_o : G o = some (7, 0, 0))  : Ci l D cy A yX9_ways wsX9_ways ({ frames := 5, cells := 0, slots := 0, locals := 121 }) 0 0 ws [.ref o] (fun r0 u => u = (G, ws) ∧ (True)) := by
  refine Met.ofW (cc := cX9_ways) (maxL := 3) (ret := (some .int)) (by decide) rfl ?_
  intro p e s m args below meth c s₁ B hml hv
  obtain ⟨rfl, hP, hK, hA, hV⟩ := hv
  have hx := B.exec
  have hb := B.bytes
  have hr := B.returns
  have hts := atoms_spec (ws := wsX9_ways) B.pre
  have hown : s.vm.findClass RX9 = some m.cls := findClass_of_methodNamed B.named
  have hlocks := B.notSynchronized
  have hS : va_S A s.heap s.heap [] := va_S.rf
  have hl := lv_entry ([.ref o]) (n := 3) (Nat.le_of_ble_eq_true rfl)
  rw [lg_entry_eq]
  generalize (lg_sl ([.ref o]) ++ List.replicate (3 - (lg_sl ([.ref o])).length) Slot.unset).toArray = ls at hl ⊢
  have hl : lv_has ls 3 [(0, .ref o)] := hl
  have k_m2 : (-2 : Int32).toInt = -2 := by decide
  have k_0 : (0 : Int32).toInt = 0 := by decide
  have k_4 : (4 : Int32).toInt = 4 := by decide
  have k_16 : (16 : Int32).toInt = 16 := by decide
  refine lv_iconst (v := 0) hx hb dX9_ways_0 (by decide) ?_
  refine lv_istore_n (lv' := [(1, .int (0 : Int32)), (0, .ref o)]) hx hb dX9_ways_1 rfl hl (by decide) rfl (fun ls hl => ?_)
  have loop_2 : ∀ (n : Nat) (k : Nat), (k ≤ 5) → 5 - k < n → ∀ (H : Heap) (locs : List Loc), va_P D vwCl ws H → va_S A s.heap H locs → ∀ (ls : Array Slot), lv_has ls 3 [(1, .int (nI k)), (0, .ref o)] → W p l e (headSpec wsX9_ways ({ frames := 5, cells := 0, slots := 0, locals := 121 })).room s m #[Value.ref o] below meth c H locs 0 0 (MQ below (va_Qi (fun r0 u => u = (G, ws) ∧ (True)) (cB D cy A) A) #[Value.ref o] s 0 0 A) (F0 m 2 ls []) := by
    intro n
    induction n with
    | zero => intro k j2_0 hn; exact absurd hn (Nat.not_lt_zero _)
    | succ n ih_2 =>
      intro k j2_0 hn_2 H locs hP hS  ls hl
      have ik_k : (nI k).toInt = (k : Int) := nI_toInt (by omega)
      refine lv_iload_n hx hb dX9_ways_2 rfl (lv_at hl 0 rfl) ?_
      refine lv_iconst (v := 4) hx hb dX9_ways_3 (by decide) ?_
      refine lv_icmp_gt (tgt := 45) hx hb dX9_ways_4 (by decide) (fun c4 => ?_) (fun c4 => ?_)
      · skip
        have d4 := c4
        rw [fa_lt] at d4
        refine lv_bipush (v := (-2)) hx hb dX9_ways_45 (by decide) ?_
        exact W.iret (v := ((-2) : Int32)) hx hb hr (fun t ht hW => ⟨⟨_, (G, ws), rfl, ⟨rfl, trivial⟩, by show va_P D vwCl ws t.heap; rw [ht]; exact hP, hD, hT⟩, hS.F ht⟩) hS.2.2 dX9_ways_47
      · skip
        have d4 := c4
        rw [fa_lt] at d4
        refine lv_iconst (v := 0) hx hb dX9_ways_7 (by decide) ?_
        refine lv_istore_n (lv' := [(2, .int (0 : Int32)), (1, .int (nI k)), (0, .ref o)]) hx hb dX9_ways_8 rfl hl (by decide) rfl (fun ls hl => ?_)
        have loop_9 : ∀ (n : Nat) (i : Nat), (i ≤ 16) → 16 - i < n → ∀ (H : Heap) (locs : List Loc), va_P D vwCl ws H → va_S A s.heap H locs → ∀ (ls : Array Slot), lv_has ls 3 [(2, .int (nI i)), (1, .int (nI k)), (0, .ref o)] → W p l e (headSpec wsX9_ways ({ frames := 5, cells := 0, slots := 0, locals := 121 })).room s m #[Value.ref o] below meth c H locs 0 0 (MQ below (va_Qi (fun r0 u => u = (G, ws) ∧ (True)) (cB D cy A) A) #[Value.ref o] s 0 0 A) (F0 m 9 ls []) := by
          intro n
          induction n with
          | zero => intro i j9_0 hn; exact absurd hn (Nat.not_lt_zero _)
          | succ n ih_9 =>
            intro i j9_0 hn_9 H locs hP hS  ls hl
            have ik_i : (nI i).toInt = (i : Int) := nI_toInt (by omega)
            refine lv_iload_n hx hb dX9_ways_9 rfl (lv_at hl 0 rfl) ?_
            refine lv_bipush (v := 16) hx hb dX9_ways_10 (by decide) ?_
            refine lv_icmp_ge (tgt := 39) hx hb dX9_ways_12 (by decide) (fun c12 => ?_) (fun c12 => ?_)
            · skip
              have d12 := c12
              rw [fa_le] at d12
              refine lv_iinc (v := (nI (k + 1))) (lv' := [(1, .int (nI (k + 1))), (2, .int (nI i)), (0, .ref o)]) hx hb dX9_ways_39 hl (k := 1) rfl (nI_1 _) (by decide) rfl (fun ls hl => ?_)
              refine lv_goto (tgt := 2) hx hb dX9_ways_42 (by decide) ?_
              exact ih_2 (k + 1) (by omega) (by omega) _ _ hP hS  ls (lv_sub hl [0, 2] rfl)
            · skip
              have d12 := c12
              rw [fa_le] at d12
              refine lv_iload_n hx hb dX9_ways_15 rfl (lv_at hl 0 rfl) ?_
              refine t_pu (As := [.int (nI i)]) (rest := []) ⟨hx, hb, hml, hown, hts⟩ (c_J6_bitCount_0f7a4 l (nI i) ) (va_cwS 1 hts gX9_ways_J6_bitCount_0f7a4 rfl rfl rfl (by decide +kernel) ⟨Nat.le_of_ble_eq_true rfl, Nat.le_of_ble_eq_true rfl⟩) hP rfl hl.1 rfl (Nat.le_of_ble_eq_true rfl) dX9_ways_16 ⟨Nat.le_of_ble_eq_true rfl, Nat.le_of_ble_eq_true rfl⟩ hS (fun r16 H locs q16 hP hS => ?_)
              refine lv_iload_n hx hb dX9_ways_19 rfl (lv_at hl 1 rfl) ?_
              refine lv_icmp_ne (tgt := 33) hx hb dX9_ways_20 (by decide) (fun c20 => ?_) (fun c20 => ?_)
              · skip
                have d20 := c20
                rw [fa_eq] at d20
                refine lv_iinc (v := (nI (i + 1))) (lv' := [(2, .int (nI (i + 1))), (1, .int (nI k)), (0, .ref o)]) hx hb dX9_ways_33 hl (k := 0) rfl (nI_1 _) (by decide) rfl (fun ls hl => ?_)
                refine lv_goto (tgt := 9) hx hb dX9_ways_36 (by decide) ?_
                exact ih_9 (i + 1) (by omega) (by omega) _ _ hP hS  ls (lv_sub hl [0, 1, 2] rfl)
              · skip
                have d20 := c20
                rw [fa_eq] at d20
                refine lv_aload_n hx hb dX9_ways_23 rfl (lv_at hl 2 rfl) ?_
                refine lv_iload_n hx hb dX9_ways_24 rfl (lv_at hl 0 rfl) ?_
                obtain ⟨_, hM_o, bs_o, js_o, sh_o, wk_o, ll_o, jc_o, lc_o, mo_o, lb_o, rfl, hjc_o, hlc_o, hG_bs_o, hG_js_o, hG_sh_o, hG_wk_o, hmo_o, hG_ll_o, hlb_o⟩ := hT _ _ hG_o
                refine t_calli (va_runV (g := F0 m 25 ls ([.int (nI i), .ref o])) (As := [.int (nI i)]) (rest := []) ⟨hx, hb, hml, hown, hts⟩ (c_X9_tellsListApart l D cy A G ws o (nI i) hD hT hG_o ) (cwV 1 hts gX9_ways_X9_tellsListApart rfl rfl rfl (by decide +kernel) ⟨Nat.le_of_ble_eq_true rfl, Nat.le_of_ble_eq_true rfl⟩) (c_preV hM_o rfl hP hK hA hS hV) rfl rfl hl.1 rfl (lv_room (Nat.le_of_ble_eq_true rfl)) dX9_ways_25 ⟨Nat.le_of_ble_eq_true rfl, Nat.le_of_ble_eq_true rfl⟩) hS (fun r25 u H locs q25 hP9 hD9 hT9 hS => ?_)
                obtain ⟨rfl, q25⟩ := q25
                have hP : va_P D vwCl ws H := hP9
                refine lv_if_eq (tgt := 33) hx hb dX9_ways_28 (by decide) (fun c28 => ?_) (fun c28 => ?_)
                · skip
                  have d28 := c28
                  rw [fa_eq] at d28
                  refine lv_iinc (v := (nI (i + 1))) (lv' := [(2, .int (nI (i + 1))), (1, .int (nI k)), (0, .ref o)]) hx hb dX9_ways_33 hl (k := 0) rfl (nI_1 _) (by decide) rfl (fun ls hl => ?_)
                  refine lv_goto (tgt := 9) hx hb dX9_ways_36 (by decide) ?_
                  exact ih_9 (i + 1) (by omega) (by omega) _ _ hP hS  ls (lv_sub hl [0, 1, 2] rfl)
                · skip
                  have d28 := c28
                  rw [fa_eq] at d28
                  refine lv_iload_n hx hb dX9_ways_31 rfl (lv_at hl 0 rfl) ?_
                  exact W.iret (v := (nI i)) hx hb hr (fun t ht hW => ⟨⟨_, (G, ws), rfl, ⟨rfl, trivial⟩, by show va_P D vwCl ws t.heap; rw [ht]; exact hP, hD, hT⟩, hS.F ht⟩) hS.2.2 dX9_ways_32
        exact loop_9 (16 + 1) 0 (by omega) (by omega) _ _ hP hS  ls (lv_sub hl [0, 1, 2] rfl)
  exact loop_2 (5 + 1) 0 (by omega) (by omega) _ _ hP hS  ls (lv_sub hl [0, 1] rfl)
set_option maxHeartbeats 4000000 in
set_option maxRecDepth 100000 in
theorem c_X9_squaresOf (l : Launch) (D : va_G) (cy : Nat → ClassId) (A : Nat → Prop) (G : cG) (ws : va_W) (b : Nat) (p0 : Int64) {w h : Nat} (hD : va_D A ws) (hT : cT cy G ws) (hG_b : G b = some (2, w, h))  : Ca l D cy A yX9_squaresOf wsX9_squaresOf ({ frames := 3, cells := 2, slots := 62, locals := 62 }) 2 62 ws [.ref b, .long p0] (fun r0 u => cX none (chs [16]) G ws u.1 u.2 ∧ (∃ x n, r0 = some x ∧ u.1 x = some (4, n, 0))) := by
  refine Met.ofW (cc := cX9_squaresOf) (maxL := 5) (ret := (some (.object "ShadowBench$Row"))) (by decide) rfl ?_
  intro p e s m args below meth c s₁ B hml hv
  obtain ⟨rfl, hP, hK, hA, hV⟩ := hv
  have hx := B.exec
  have hb := B.bytes
  have hr := B.returns
  have hts := atoms_spec (ws := wsX9_squaresOf) B.pre
  have hown : s.vm.findClass RX9 = some m.cls := findClass_of_methodNamed B.named
  have hlocks := B.notSynchronized
  have hS : va_S A s.heap s.heap [] := va_S.rf
  have hX : cX none (chs [16]) G ws G ws := cX.rf
  have hl := lv_entry ([.ref b, .long p0]) (n := 5) (Nat.le_of_ble_eq_true rfl)
  rw [lg_entry_eq]
  generalize (lg_sl ([.ref b, .long p0]) ++ List.replicate (5 - (lg_sl ([.ref b, .long p0])).length) Slot.unset).toArray = ls at hl ⊢
  have hl : lv_has ls 5 [(0, .ref b), (1, .long p0)] := hl
  have k_0 : (0 : Int32).toInt = 0 := by decide
  have k_1 : (1 : Int32).toInt = 1 := by decide
  have k_1L : (1 : Int64).toInt = 1 := by decide
  refine t_new (C := RX7) (T := TX7) (N := 2) (ci := 6) (ty0 := tyX7) (fs := [.int 0, .null]) hx hb hts (by decide +kernel) tyX7_ok hown (hts (.classLink RX9 245 RX7) (by decide +kernel)) (hts (.instantiable RX7 2) (by decide +kernel)) (hts (.initialized RX7) (by decide +kernel)) hK hP hD hS hA hT rfl (by decide +kernel) (Nat.le_of_ble_eq_true rfl) (Nat.le_of_ble_eq_true rfl) dX9_squaresOf_0 (fun q0 H w0 hM_q0 hO_q0 hF0 hX0 hk0 hP hD hT hS => ?_)
  have hN_q0 := hX.new0 hO_q0 hF0
  have hX := hX.tr (hX0 _ _)
  refine lv_dup hx hb dX9_squaresOf_3 rfl ?_
  refine lv_iconst (v := 1) hx hb dX9_squaresOf_4 (by decide) ?_
  refine lv_aload_n hx hb dX9_squaresOf_5 rfl (lv_at hl 0 rfl) ?_
  obtain ⟨_, hM_b, hb_b, l_b, f_b, r_b, rfl, hG_l_b, hG_f_b, hG_r_b⟩ := hT _ _ hG_b
  refine t_get (v := .int (nI (w * h))) (C := RX0) (T := TX0) (N := 8) hx hb hts (by decide +kernel) hown hK hP hM_b rfl 2 (by decide) (hts (.fieldLink RX9 333 "ShadowBench$Board" "squares" "I") (by decide +kernel)) (fun _ h9 => h9) rfl dX9_squaresOf_6 ?_
  have m_wh_b := cb_mul hb_b
  have i_wh_b : (nI (w * h)).toInt = _ := nI_toInt (by omega)
  refine t_callv (va_runI (g := F0 m 9 ls ([.int (nI (w * h)), .int (1 : Int32), .ref q0, .ref q0])) (As := [.int (1 : Int32), .int (nI (w * h))]) (rest := [.ref q0]) (b := q0) ⟨hx, hb, hml, hown, hts⟩ (c_X7_init_i l D cy A G w0 q0 (1 : Int32) ((nI (w * h))) hD hT hO_q0 hM_q0 (Or.inr rfl) (by omega)) (cwI 2 hts gX9_squaresOf_X7_init rfl rfl rfl (hts (.initialized RX7) (by decide +kernel)) (hts (.methodLink RX9 247 yX7_init) (by decide +kernel)) (hts (.instanceMethod yX7_init) (by decide +kernel)) rfl (by decide +kernel) ⟨Nat.le_of_ble_eq_true rfl, Nat.le_of_ble_eq_true rfl⟩) (c_preS hP hK hA hS hV) rfl rfl hl.1 rfl (lv_room (Nat.le_of_ble_eq_true rfl)) dX9_squaresOf_9 ⟨Nat.le_of_ble_eq_true rfl, Nat.le_of_ble_eq_true rfl⟩) hS (fun u H locs q9 hP9 hD9 hT9 hS => ?_)
  obtain ⟨G9, w9⟩ := u
  obtain ⟨hX9, q9⟩ := q9
  have hX9 : cX (some q0) (chs []) G w0 G9 w9 := hX9
  have hP : va_P D vwCl w9 H := hP9
  have hD : va_D A w9 := hD9
  have hT : cT cy G9 w9 := hT9
  have hM_b := hX9.2.1 _ _ (cP.no1 (Ne.symm (cne0 hO_q0 hG_b)) hG_b rfl) hM_b
  have hG_b := hX9.1 _ _ hG_b
  have hG_l_b := hX9.1 _ _ hG_l_b
  have hG_f_b := hX9.1 _ _ hG_f_b
  have hG_r_b := hX9.1 _ _ hG_r_b
  have hG_q0 : G9 q0 = some (4, ((nI (w * h))).toNatClampNeg, 0) := q9.1
  have q9 := q9.2
  have hX := hX.trN hN_q0 (hX9.wk (chs_sub (by decide)))
  refine lv_astore_n (lv' := [(3, .ref q0), (0, .ref b), (1, .long p0)]) hx hb dX9_squaresOf_12 rfl hl (by decide) rfl (fun ls hl => ?_)
  refine lv_iconst (v := 0) hx hb dX9_squaresOf_13 (by decide) ?_
  refine lv_istore (lv' := [(4, .int (0 : Int32)), (3, .ref q0), (0, .ref b), (1, .long p0)]) hx hb dX9_squaresOf_14 hl (by decide) rfl (fun ls hl => ?_)
  have loop_16 : ∀ (n : Nat) (i : Nat), (i ≤ 36) → 36 - i < n → ∀ (Gl16 : cG) (wl16 : va_W), cE G9 Gl16 → cX none (chs [16]) G ws Gl16 wl16 → va_D A wl16 → cT cy Gl16 wl16 → ∀ (H : Heap) (locs : List Loc), va_P D vwCl wl16 H → va_S A s.heap H locs → ∀ (ls : Array Slot), lv_has ls 5 [(4, .int (nI i)), (3, .ref q0), (0, .ref b), (1, .long p0)] → W p l e (headSpec wsX9_squaresOf ({ frames := 3, cells := 2, slots := 62, locals := 62 })).room s m #[Value.ref b, Value.long p0] below meth c H locs 2 62 (MQ below (cQa (fun r0 u => cX none (chs [16]) G ws u.1 u.2 ∧ (∃ x n, r0 = some x ∧ u.1 x = some (4, n, 0))) (cB D cy A) A) #[Value.ref b, Value.long p0] s 2 62 A) (F0 m 16 ls []) := by
    intro n
    induction n with
    | zero => intro i j16_0 hn; exact absurd hn (Nat.not_lt_zero _)
    | succ n ih_16 =>
      intro i j16_0 hn_16 Gl16 wl16 hEl16 hX hD hT H locs hP hS  ls hl
      have hG_b := hEl16 _ _ hG_b
      have hG_l_b := hEl16 _ _ hG_l_b
      have hG_f_b := hEl16 _ _ hG_f_b
      have hG_r_b := hEl16 _ _ hG_r_b
      have hG_q0 := hEl16 _ _ hG_q0
      have ik_i : (nI i).toInt = (i : Int) := nI_toInt (by omega)
      refine lv_iload hx hb dX9_squaresOf_16 (lv_at hl 0 rfl) ?_
      refine lv_aload_n hx hb dX9_squaresOf_18 rfl (lv_at hl 2 rfl) ?_
      obtain ⟨_, hM_b, hb_b, lv1_b, fv1_b, rv1_b, rfl, hG_lv1_b, hG_fv1_b, hG_rv1_b⟩ := hT _ _ hG_b
      refine t_get (v := .int (nI (w * h))) (C := RX0) (T := TX0) (N := 8) hx hb hts (by decide +kernel) hown hK hP hM_b rfl 2 (by decide) (hts (.fieldLink RX9 333 "ShadowBench$Board" "squares" "I") (by decide +kernel)) (fun _ h9 => h9) rfl dX9_squaresOf_19 ?_
      refine lv_icmp_ge (tgt := 43) hx hb dX9_squaresOf_22 (by decide) (fun c22 => ?_) (fun c22 => ?_)
      · skip
        have d22 := c22
        rw [fa_le] at d22
        refine lv_aload_n hx hb dX9_squaresOf_43 rfl (lv_at hl 1 rfl) ?_
        refine W.widen (k := 2) (n := 62) (Nat.le_of_ble_eq_true rfl) (Nat.le_of_ble_eq_true rfl) ?_
        exact W.aret (v := .ref q0) hx hb hr (Or.inl ⟨_, rfl⟩) (Or.inr ⟨_, rfl⟩) (fun t ht hW => ⟨⟨(some q0), (Gl16, wl16), rfl, ⟨hX, ⟨_, _, rfl, hG_q0⟩⟩, by show va_P D vwCl wl16 t.heap; rw [ht]; exact hP, hD, hT⟩, hS.F ht⟩) hS.2.2 dX9_squaresOf_44
      · skip
        have d22 := c22
        rw [fa_le] at d22
        refine lv_aload_n hx hb dX9_squaresOf_25 rfl (lv_at hl 1 rfl) ?_
        refine lv_iload hx hb dX9_squaresOf_26 (lv_at hl 0 rfl) ?_
        refine lv_lload_n hx hb dX9_squaresOf_28 rfl (lv_at hl 3 rfl) ?_
        refine lv_iload hx hb dX9_squaresOf_29 (lv_at hl 0 rfl) ?_
        refine lv_lushr (v := (p0.toUInt64 >>> ((nI i).toInt64.toUInt64 &&& Int64.toUInt64 63)).toInt64) hx hb dX9_squaresOf_31 rfl ?_
        refine lv_lconst (v := 1) hx hb dX9_squaresOf_32 (by decide) ?_
        refine lv_land hx hb dX9_squaresOf_33 ?_
        refine lv_topl (fun v33 e33 => ?_)
        obtain ⟨_, hM_q0, hn_q0, z_q0, a_q0, rfl, hz_q0, hG_a_q0⟩ := hT _ _ hG_q0
        refine t_callv (va_runV (g := F0 m 34 ls ([.long v33, .int (nI i), .ref q0])) (As := [.int (nI i), .long v33]) (rest := []) ⟨hx, hb, hml, hown, hts⟩ (c_X7_put l D cy A Gl16 wl16 q0 (nI i) v33 hD hT hG_q0 ) (cwV 2 hts gX9_squaresOf_X7_put rfl rfl rfl (by decide +kernel) ⟨Nat.le_of_ble_eq_true rfl, Nat.le_of_ble_eq_true rfl⟩) (c_preV hM_q0 rfl hP hK hA hS hV) rfl rfl hl.1 rfl (lv_room (Nat.le_of_ble_eq_true rfl)) dX9_squaresOf_34 ⟨Nat.le_of_ble_eq_true rfl, Nat.le_of_ble_eq_true rfl⟩) hS (fun u H locs q34 hP9 hD9 hT9 hS => ?_)
        obtain ⟨G34, w34⟩ := u
        obtain ⟨hX9, q34⟩ := q34
        have hX9 : cX none (chs [16]) Gl16 wl16 G34 w34 := hX9
        have hP : va_P D vwCl w34 H := hP9
        have hD : va_D A w34 := hD9
        have hT : cT cy G34 w34 := hT9
        have hM_b := hX9.2.1 _ _ (cP.no hG_b rfl) hM_b
        have hM_q0 := hX9.2.1 _ _ (cP.no hG_q0 rfl) hM_q0
        have hG_b := hX9.1 _ _ hG_b
        have hG_l_b := hX9.1 _ _ hG_l_b
        have hG_f_b := hX9.1 _ _ hG_f_b
        have hG_r_b := hX9.1 _ _ hG_r_b
        have hG_q0 := hX9.1 _ _ hG_q0
        have hG_lv1_b := hX9.1 _ _ hG_lv1_b
        have hG_fv1_b := hX9.1 _ _ hG_fv1_b
        have hG_rv1_b := hX9.1 _ _ hG_rv1_b
        have hG_a_q0 := hX9.1 _ _ hG_a_q0
        have hEl16 := hEl16.tr hX9.1
        have hX := hX.tr hX9
        refine lv_iinc (v := (nI (i + 1))) (lv' := [(4, .int (nI (i + 1))), (3, .ref q0), (0, .ref b), (1, .long p0)]) hx hb dX9_squaresOf_37 hl (k := 0) rfl (nI_1 _) (by decide) rfl (fun ls hl => ?_)
        refine lv_goto (tgt := 16) hx hb dX9_squaresOf_40 (by decide) ?_
        exact ih_16 (i + 1) (by omega) (by omega) G34 w34 hEl16 hX hD hT _ _ hP hS  ls (lv_sub hl [0, 1, 2, 3] rfl)
  exact loop_16 (36 + 1) 0 (by omega) (by omega) G9 w9 cE.rf hX hD hT _ _ hP hS  ls (lv_sub hl [0, 1, 2, 3] rfl)
set_option maxHeartbeats 4000000 in
set_option maxRecDepth 100000 in
theorem c_X9_sumsOf (l : Launch) (D : va_G) (cy : Nat → ClassId) (A : Nat → Prop) (G : cG) (ws : va_W) (x1 : Nat) {k1 n1 : Nat} (hD : va_D A ws) (hT : cT cy G ws) (hG_x1 : G x1 = some (3, k1, n1))  : Ca l D cy A yX9_sumsOf wsX9_sumsOf ({ frames := 3, cells := 2, slots := 62, locals := 62 }) 2 62 ws [.ref x1] (fun r0 u => cX none (chs [16]) G ws u.1 u.2 ∧ (∃ x n, r0 = some x ∧ u.1 x = some (4, n, 0))) := by
  refine Met.ofW (cc := cX9_sumsOf) (maxL := 4) (ret := (some (.object "ShadowBench$Row"))) (by decide) rfl ?_
  intro p e s m args below meth c s₁ B hml hv
  obtain ⟨rfl, hP, hK, hA, hV⟩ := hv
  have hx := B.exec
  have hb := B.bytes
  have hr := B.returns
  have hts := atoms_spec (ws := wsX9_sumsOf) B.pre
  have hown : s.vm.findClass RX9 = some m.cls := findClass_of_methodNamed B.named
  have hlocks := B.notSynchronized
  have hS : va_S A s.heap s.heap [] := va_S.rf
  have hinJ : ∀ w ∈ wsX10 ++ wsX30 ++ wsX40 ++ wsX50, w ∈ wsX9_sumsOf := by decide +kernel
  have hX : cX none (chs [16]) G ws G ws := cX.rf
  have hl := lv_entry ([.ref x1]) (n := 4) (Nat.le_of_ble_eq_true rfl)
  rw [lg_entry_eq]
  generalize (lg_sl ([.ref x1]) ++ List.replicate (4 - (lg_sl ([.ref x1])).length) Slot.unset).toArray = ls at hl ⊢
  have hl : lv_has ls 4 [(0, .ref x1)] := hl
  have k_0 : (0 : Int32).toInt = 0 := by decide
  have k_1 : (1 : Int32).toInt = 1 := by decide
  refine lv_aload_n hx hb dX9_sumsOf_0 rfl (lv_at hl 0 rfl) ?_
  obtain ⟨_, hM_x1, b_x1, s_x1, w_x1, h_x1, t_x1, x_x1, y_x1, ms_x1, rfl, hG_b_x1, hG_s_x1, hJ_x1⟩ := hT _ _ hG_x1
  refine t_getJ (v := .ref b_x1) hx hb hts hinJ hown hK hP hJ_x1.kc hM_x1 0 (by decide) (hts (.fieldLink RX9 65 "ShadowBench$Job" "board" "LShadowBench$Board;") (by decide +kernel)) (fun _ h9 => h9) rfl dX9_sumsOf_1 ?_
  obtain ⟨_, hM_b_x1, hb_b_x1, l_b_x1, f_b_x1, r_b_x1, rfl, hG_l_b_x1, hG_f_b_x1, hG_r_b_x1⟩ := hT _ _ hG_b_x1
  refine t_get (v := .int (nI h_x1)) (C := RX0) (T := TX0) (N := 8) hx hb hts (by decide +kernel) hown hK hP hM_b_x1 rfl 1 (by decide) (hts (.fieldLink RX9 306 "ShadowBench$Board" "high" "I") (by decide +kernel)) (fun _ h9 => h9) rfl dX9_sumsOf_4 ?_
  have i_h_b_x1 : (nI h_x1).toInt = _ := nI_toInt (by omega)
  refine lv_istore_n (lv' := [(1, .int (nI h_x1)), (0, .ref x1)]) hx hb dX9_sumsOf_7 rfl hl (by decide) rfl (fun ls hl => ?_)
  refine t_new (C := RX7) (T := TX7) (N := 2) (ci := 6) (ty0 := tyX7) (fs := [.int 0, .null]) hx hb hts (by decide +kernel) tyX7_ok hown (hts (.classLink RX9 245 RX7) (by decide +kernel)) (hts (.instantiable RX7 2) (by decide +kernel)) (hts (.initialized RX7) (by decide +kernel)) hK hP hD hS hA hT rfl (by decide +kernel) (Nat.le_of_ble_eq_true rfl) (Nat.le_of_ble_eq_true rfl) dX9_sumsOf_8 (fun q8 H w8 hM_q8 hO_q8 hF8 hX8 hk8 hP hD hT hS => ?_)
  have hN_q8 := hX.new0 hO_q8 hF8
  have hM_x1 := hk8 _ _ hM_x1
  have hM_b_x1 := hk8 _ _ hM_b_x1
  have hX := hX.tr (hX8 _ _)
  refine lv_dup hx hb dX9_sumsOf_11 rfl ?_
  refine lv_iconst (v := 0) hx hb dX9_sumsOf_12 (by decide) ?_
  refine lv_iload_n hx hb dX9_sumsOf_13 rfl (lv_at hl 0 rfl) ?_
  refine lv_aload_n hx hb dX9_sumsOf_14 rfl (lv_at hl 1 rfl) ?_
  refine t_getJ (v := .ref b_x1) hx hb hts hinJ hown hK hP hJ_x1.kc hM_x1 0 (by decide) (hts (.fieldLink RX9 65 "ShadowBench$Job" "board" "LShadowBench$Board;") (by decide +kernel)) (fun _ h9 => h9) rfl dX9_sumsOf_15 ?_
  refine t_get (v := .int (nI w_x1)) (C := RX0) (T := TX0) (N := 8) hx hb hts (by decide +kernel) hown hK hP hM_b_x1 rfl 0 (by decide) (hts (.fieldLink RX9 156 "ShadowBench$Board" "wide" "I") (by decide +kernel)) (fun _ h9 => h9) rfl dX9_sumsOf_18 ?_
  have i_w_b_x1 : (nI w_x1).toInt = _ := nI_toInt (by omega)
  refine lv_iadd hx hb dX9_sumsOf_21 ?_
  refine lv_topi (fun v21 e21 => ?_)
  have i21 : v21.toInt = (nI h_x1).toInt + (nI w_x1).toInt := by rw [e21]; exact fb_addI (by omega) (by omega)
  refine t_callv (va_runI (g := F0 m 22 ls ([.int v21, .int (0 : Int32), .ref q8, .ref q8])) (As := [.int (0 : Int32), .int v21]) (rest := [.ref q8]) (b := q8) ⟨hx, hb, hml, hown, hts⟩ (c_X7_init_i l D cy A G w8 q8 (0 : Int32) v21 hD hT hO_q8 hM_q8 (Or.inl rfl) (by omega)) (cwI 2 hts gX9_sumsOf_X7_init rfl rfl rfl (hts (.initialized RX7) (by decide +kernel)) (hts (.methodLink RX9 247 yX7_init) (by decide +kernel)) (hts (.instanceMethod yX7_init) (by decide +kernel)) rfl (by decide +kernel) ⟨Nat.le_of_ble_eq_true rfl, Nat.le_of_ble_eq_true rfl⟩) (c_preS hP hK hA hS hV) rfl rfl hl.1 rfl (lv_room (Nat.le_of_ble_eq_true rfl)) dX9_sumsOf_22 ⟨Nat.le_of_ble_eq_true rfl, Nat.le_of_ble_eq_true rfl⟩) hS (fun u H locs q22 hP9 hD9 hT9 hS => ?_)
  obtain ⟨G22, w22⟩ := u
  obtain ⟨hX9, q22⟩ := q22
  have hX9 : cX (some q8) (chs []) G w8 G22 w22 := hX9
  have hP : va_P D vwCl w22 H := hP9
  have hD : va_D A w22 := hD9
  have hT : cT cy G22 w22 := hT9
  have hM_x1 := hX9.2.1 _ _ (cP.no1 (Ne.symm (cne0 hO_q8 hG_x1)) hG_x1 rfl) hM_x1
  have hM_b_x1 := hX9.2.1 _ _ (cP.no1 (Ne.symm (cne0 hO_q8 hG_b_x1)) hG_b_x1 rfl) hM_b_x1
  have hG_x1 := hX9.1 _ _ hG_x1
  have hG_b_x1 := hX9.1 _ _ hG_b_x1
  have hG_s_x1 := hX9.1 _ _ hG_s_x1
  have hG_l_b_x1 := hX9.1 _ _ hG_l_b_x1
  have hG_f_b_x1 := hX9.1 _ _ hG_f_b_x1
  have hG_r_b_x1 := hX9.1 _ _ hG_r_b_x1
  have hG_q8 : G22 q8 = some (4, v21.toNatClampNeg, 0) := q22.1
  have q22 := q22.2
  have hX := hX.trN hN_q8 (hX9.wk (chs_sub (by decide)))
  refine lv_astore_n (lv' := [(2, .ref q8), (1, .int (nI h_x1)), (0, .ref x1)]) hx hb dX9_sumsOf_25 rfl hl (by decide) rfl (fun ls hl => ?_)
  refine lv_iconst (v := 0) hx hb dX9_sumsOf_26 (by decide) ?_
  refine lv_istore_n (lv' := [(3, .int (0 : Int32)), (2, .ref q8), (1, .int (nI h_x1)), (0, .ref x1)]) hx hb dX9_sumsOf_27 rfl hl (by decide) rfl (fun ls hl => ?_)
  have loop_28 : ∀ (n : Nat) (i : Nat), (i ≤ 6) → 6 - i < n → ∀ (Gl28 : cG) (wl28 : va_W), cE G22 Gl28 → cX none (chs [16]) G ws Gl28 wl28 → va_D A wl28 → cT cy Gl28 wl28 → ∀ (H : Heap) (locs : List Loc), va_P D vwCl wl28 H → va_S A s.heap H locs → ∀ (ls : Array Slot), lv_has ls 4 [(3, .int (nI i)), (2, .ref q8), (1, .int (nI h_x1)), (0, .ref x1)] → W p l e (headSpec wsX9_sumsOf ({ frames := 3, cells := 2, slots := 62, locals := 62 })).room s m #[Value.ref x1] below meth c H locs 2 62 (MQ below (cQa (fun r0 u => cX none (chs [16]) G ws u.1 u.2 ∧ (∃ x n, r0 = some x ∧ u.1 x = some (4, n, 0))) (cB D cy A) A) #[Value.ref x1] s 2 62 A) (F0 m 28 ls []) := by
    intro n
    induction n with
    | zero => intro i j28_0 hn; exact absurd hn (Nat.not_lt_zero _)
    | succ n ih_28 =>
      intro i j28_0 hn_28 Gl28 wl28 hEl28 hX hD hT H locs hP hS  ls hl
      have hG_x1 := hEl28 _ _ hG_x1
      have hG_b_x1 := hEl28 _ _ hG_b_x1
      have hG_s_x1 := hEl28 _ _ hG_s_x1
      have hG_l_b_x1 := hEl28 _ _ hG_l_b_x1
      have hG_f_b_x1 := hEl28 _ _ hG_f_b_x1
      have hG_r_b_x1 := hEl28 _ _ hG_r_b_x1
      have hG_q8 := hEl28 _ _ hG_q8
      have ik_i : (nI i).toInt = (i : Int) := nI_toInt (by omega)
      refine lv_iload_n hx hb dX9_sumsOf_28 rfl (lv_at hl 0 rfl) ?_
      refine lv_iload_n hx hb dX9_sumsOf_29 rfl (lv_at hl 2 rfl) ?_
      refine lv_icmp_ge (tgt := 51) hx hb dX9_sumsOf_30 (by decide) (fun c30 => ?_) (fun c30 => ?_)
      · skip
        have d30 := c30
        rw [fa_le] at d30
        refine lv_iconst (v := 0) hx hb dX9_sumsOf_51 (by decide) ?_
        refine lv_istore_n (lv' := [(3, .int (0 : Int32)), (2, .ref q8), (1, .int (nI h_x1)), (0, .ref x1)]) hx hb dX9_sumsOf_52 rfl hl (by decide) rfl (fun ls hl => ?_)
        have loop_53 : ∀ (n : Nat) (i2 : Nat), (i2 ≤ 6) → 6 - i2 < n → ∀ (Gl53 : cG) (wl53 : va_W), cE Gl28 Gl53 → cX none (chs [16]) G ws Gl53 wl53 → va_D A wl53 → cT cy Gl53 wl53 → ∀ (H : Heap) (locs : List Loc), va_P D vwCl wl53 H → va_S A s.heap H locs → ∀ (ls : Array Slot), lv_has ls 4 [(3, .int (nI i2)), (2, .ref q8), (1, .int (nI h_x1)), (0, .ref x1)] → W p l e (headSpec wsX9_sumsOf ({ frames := 3, cells := 2, slots := 62, locals := 62 })).room s m #[Value.ref x1] below meth c H locs 2 62 (MQ below (cQa (fun r0 u => cX none (chs [16]) G ws u.1 u.2 ∧ (∃ x n, r0 = some x ∧ u.1 x = some (4, n, 0))) (cB D cy A) A) #[Value.ref x1] s 2 62 A) (F0 m 53 ls []) := by
          intro n
          induction n with
          | zero => intro i2 j53_0 hn; exact absurd hn (Nat.not_lt_zero _)
          | succ n ih_53 =>
            intro i2 j53_0 hn_53 Gl53 wl53 hEl53 hX hD hT H locs hP hS  ls hl
            have hG_x1 := hEl53 _ _ hG_x1
            have hG_b_x1 := hEl53 _ _ hG_b_x1
            have hG_s_x1 := hEl53 _ _ hG_s_x1
            have hG_l_b_x1 := hEl53 _ _ hG_l_b_x1
            have hG_f_b_x1 := hEl53 _ _ hG_f_b_x1
            have hG_r_b_x1 := hEl53 _ _ hG_r_b_x1
            have hG_q8 := hEl53 _ _ hG_q8
            have hEl28 := hEl28.tr hEl53
            have ik_i2 : (nI i2).toInt = (i2 : Int) := nI_toInt (by omega)
            refine lv_iload_n hx hb dX9_sumsOf_53 rfl (lv_at hl 0 rfl) ?_
            refine lv_aload_n hx hb dX9_sumsOf_54 rfl (lv_at hl 3 rfl) ?_
            obtain ⟨_, hM_x1, bv1_x1, sv1_x1, wv1_x1, hv1_x1, tv1_x1, xv1_x1, yv1_x1, msv1_x1, rfl, hG_bv1_x1, hG_sv1_x1, hJ_x1⟩ := hT _ _ hG_x1
            refine t_getJ (v := .ref bv1_x1) hx hb hts hinJ hown hK hP hJ_x1.kc hM_x1 0 (by decide) (hts (.fieldLink RX9 65 "ShadowBench$Job" "board" "LShadowBench$Board;") (by decide +kernel)) (fun _ h9 => h9) rfl dX9_sumsOf_55 ?_
            obtain ⟨_, hM_bv1_x1, hb_bv1_x1, l_bv1_x1, f_bv1_x1, r_bv1_x1, rfl, hG_l_bv1_x1, hG_f_bv1_x1, hG_r_bv1_x1⟩ := hT _ _ hG_bv1_x1
            refine t_get (v := .int (nI wv1_x1)) (C := RX0) (T := TX0) (N := 8) hx hb hts (by decide +kernel) hown hK hP hM_bv1_x1 rfl 0 (by decide) (hts (.fieldLink RX9 156 "ShadowBench$Board" "wide" "I") (by decide +kernel)) (fun _ h9 => h9) rfl dX9_sumsOf_58 ?_
            have i_w_bv1_x1 : (nI wv1_x1).toInt = _ := nI_toInt (by omega)
            refine lv_icmp_ge (tgt := 84) hx hb dX9_sumsOf_61 (by decide) (fun c61 => ?_) (fun c61 => ?_)
            · skip
              have d61 := c61
              rw [fa_le] at d61
              refine lv_aload_n hx hb dX9_sumsOf_84 rfl (lv_at hl 1 rfl) ?_
              refine W.widen (k := 2) (n := 62) (Nat.le_of_ble_eq_true rfl) (Nat.le_of_ble_eq_true rfl) ?_
              exact W.aret (v := .ref q8) hx hb hr (Or.inl ⟨_, rfl⟩) (Or.inr ⟨_, rfl⟩) (fun t ht hW => ⟨⟨(some q8), (Gl53, wl53), rfl, ⟨hX, ⟨_, _, rfl, hG_q8⟩⟩, by show va_P D vwCl wl53 t.heap; rw [ht]; exact hP, hD, hT⟩, hS.F ht⟩) hS.2.2 dX9_sumsOf_85
            · skip
              have d61 := c61
              rw [fa_le] at d61
              refine lv_aload_n hx hb dX9_sumsOf_64 rfl (lv_at hl 1 rfl) ?_
              refine lv_iload_n hx hb dX9_sumsOf_65 rfl (lv_at hl 2 rfl) ?_
              refine lv_iload_n hx hb dX9_sumsOf_66 rfl (lv_at hl 0 rfl) ?_
              refine lv_iadd hx hb dX9_sumsOf_67 ?_
              refine lv_topi (fun v67 e67 => ?_)
              refine lv_aload_n hx hb dX9_sumsOf_68 rfl (lv_at hl 3 rfl) ?_
              refine lv_iconst (v := 1) hx hb dX9_sumsOf_69 (by decide) ?_
              refine lv_iload_n hx hb dX9_sumsOf_70 rfl (lv_at hl 0 rfl) ?_
              refine t_calli (t_runJ (g := F0 m 71 ls ([.int (nI i2), .int (1 : Int32), .ref x1, .int v67, .ref q8])) (As := [.int (1 : Int32), .int (nI i2)]) (rest := [.int v67, .ref q8]) ⟨hx, hb, hml, hown, hts⟩ (c_X3_sumOf l D cy A Gl53 wl53 x1 (1 : Int32) (nI i2) hD hT hG_x1 ) (va_cwU 2 hts gX9_sumsOf_X3_sumOf_u120X1 rfl rfl rfl rfl (by decide +kernel) ⟨Nat.le_of_ble_eq_true rfl, Nat.le_of_ble_eq_true rfl⟩) (cwV 2 hts gX9_sumsOf_X3_sumOf rfl rfl rfl (by decide +kernel) ⟨Nat.le_of_ble_eq_true rfl, Nat.le_of_ble_eq_true rfl⟩) (va_cwU 2 hts gX9_sumsOf_X3_sumOf_u120X4 rfl rfl rfl rfl (by decide +kernel) ⟨Nat.le_of_ble_eq_true rfl, Nat.le_of_ble_eq_true rfl⟩) (va_cwU 2 hts gX9_sumsOf_X3_sumOf_u120X5 rfl rfl rfl rfl (by decide +kernel) ⟨Nat.le_of_ble_eq_true rfl, Nat.le_of_ble_eq_true rfl⟩) hJ_x1.kc hM_x1 hP hK c_blind (c_preS hP hK hA hS hV).2 rfl rfl hl.1 rfl (lv_room (Nat.le_of_ble_eq_true rfl)) dX9_sumsOf_71 ⟨Nat.le_of_ble_eq_true rfl, Nat.le_of_ble_eq_true rfl⟩) hS (fun r71 u H locs q71 hP9 hD9 hT9 hS => ?_)
              obtain ⟨rfl, q71⟩ := q71
              have hP : va_P D vwCl wl53 H := hP9
              refine lv_i2l (v := r71.toInt64) hx hb dX9_sumsOf_74 rfl ?_
              obtain ⟨_, hM_q8, hn_q8, z_q8, a_q8, rfl, hz_q8, hG_a_q8⟩ := hT _ _ hG_q8
              refine t_callv (va_runV (g := F0 m 75 ls ([.long (r71.toInt64), .int v67, .ref q8])) (As := [.int v67, .long (r71.toInt64)]) (rest := []) ⟨hx, hb, hml, hown, hts⟩ (c_X7_put l D cy A Gl53 wl53 q8 v67 r71.toInt64 hD hT hG_q8 ) (cwV 2 hts gX9_sumsOf_X7_put rfl rfl rfl (by decide +kernel) ⟨Nat.le_of_ble_eq_true rfl, Nat.le_of_ble_eq_true rfl⟩) (c_preV hM_q8 rfl hP hK hA hS hV) rfl rfl hl.1 rfl (lv_room (Nat.le_of_ble_eq_true rfl)) dX9_sumsOf_75 ⟨Nat.le_of_ble_eq_true rfl, Nat.le_of_ble_eq_true rfl⟩) hS (fun u H locs q75 hP9 hD9 hT9 hS => ?_)
              obtain ⟨G75, w75⟩ := u
              obtain ⟨hX9, q75⟩ := q75
              have hX9 : cX none (chs [16]) Gl53 wl53 G75 w75 := hX9
              have hP : va_P D vwCl w75 H := hP9
              have hD : va_D A w75 := hD9
              have hT : cT cy G75 w75 := hT9
              have hM_x1 := hX9.2.1 _ _ (cP.no hG_x1 rfl) hM_x1
              have hM_bv1_x1 := hX9.2.1 _ _ (cP.no hG_bv1_x1 rfl) hM_bv1_x1
              have hM_q8 := hX9.2.1 _ _ (cP.no hG_q8 rfl) hM_q8
              have hG_x1 := hX9.1 _ _ hG_x1
              have hG_b_x1 := hX9.1 _ _ hG_b_x1
              have hG_s_x1 := hX9.1 _ _ hG_s_x1
              have hG_l_b_x1 := hX9.1 _ _ hG_l_b_x1
              have hG_f_b_x1 := hX9.1 _ _ hG_f_b_x1
              have hG_r_b_x1 := hX9.1 _ _ hG_r_b_x1
              have hG_q8 := hX9.1 _ _ hG_q8
              have hG_bv1_x1 := hX9.1 _ _ hG_bv1_x1
              have hG_sv1_x1 := hX9.1 _ _ hG_sv1_x1
              have hG_l_bv1_x1 := hX9.1 _ _ hG_l_bv1_x1
              have hG_f_bv1_x1 := hX9.1 _ _ hG_f_bv1_x1
              have hG_r_bv1_x1 := hX9.1 _ _ hG_r_bv1_x1
              have hG_a_q8 := hX9.1 _ _ hG_a_q8
              have hEl28 := hEl28.tr hX9.1
              have hEl53 := hEl53.tr hX9.1
              have hX := hX.tr hX9
              refine lv_iinc (v := (nI (i2 + 1))) (lv' := [(3, .int (nI (i2 + 1))), (2, .ref q8), (1, .int (nI h_x1)), (0, .ref x1)]) hx hb dX9_sumsOf_78 hl (k := 0) rfl (nI_1 _) (by decide) rfl (fun ls hl => ?_)
              refine lv_goto (tgt := 53) hx hb dX9_sumsOf_81 (by decide) ?_
              exact ih_53 (i2 + 1) (by omega) (by omega) G75 w75 hEl53 hX hD hT _ _ hP hS  ls (lv_sub hl [0, 1, 2, 3] rfl)
        exact loop_53 (6 + 1) 0 (by omega) (by omega) Gl28 wl28 cE.rf hX hD hT _ _ hP hS  ls (lv_sub hl [0, 1, 2, 3] rfl)
      · skip
        have d30 := c30
        rw [fa_le] at d30
        refine lv_aload_n hx hb dX9_sumsOf_33 rfl (lv_at hl 1 rfl) ?_
        refine lv_iload_n hx hb dX9_sumsOf_34 rfl (lv_at hl 0 rfl) ?_
        refine lv_aload_n hx hb dX9_sumsOf_35 rfl (lv_at hl 3 rfl) ?_
        refine lv_iconst (v := 0) hx hb dX9_sumsOf_36 (by decide) ?_
        refine lv_iload_n hx hb dX9_sumsOf_37 rfl (lv_at hl 0 rfl) ?_
        obtain ⟨_, hM_x1, bv1_x1, sv1_x1, wv1_x1, hv1_x1, tv1_x1, xv1_x1, yv1_x1, msv1_x1, rfl, hG_bv1_x1, hG_sv1_x1, hJ_x1⟩ := hT _ _ hG_x1
        refine t_calli (t_runJ (g := F0 m 38 ls ([.int (nI i), .int (0 : Int32), .ref x1, .int (nI i), .ref q8])) (As := [.int (0 : Int32), .int (nI i)]) (rest := [.int (nI i), .ref q8]) ⟨hx, hb, hml, hown, hts⟩ (c_X3_sumOf l D cy A Gl28 wl28 x1 (0 : Int32) (nI i) hD hT hG_x1 ) (va_cwU 2 hts gX9_sumsOf_X3_sumOf_u120X1 rfl rfl rfl rfl (by decide +kernel) ⟨Nat.le_of_ble_eq_true rfl, Nat.le_of_ble_eq_true rfl⟩) (cwV 2 hts gX9_sumsOf_X3_sumOf rfl rfl rfl (by decide +kernel) ⟨Nat.le_of_ble_eq_true rfl, Nat.le_of_ble_eq_true rfl⟩) (va_cwU 2 hts gX9_sumsOf_X3_sumOf_u120X4 rfl rfl rfl rfl (by decide +kernel) ⟨Nat.le_of_ble_eq_true rfl, Nat.le_of_ble_eq_true rfl⟩) (va_cwU 2 hts gX9_sumsOf_X3_sumOf_u120X5 rfl rfl rfl rfl (by decide +kernel) ⟨Nat.le_of_ble_eq_true rfl, Nat.le_of_ble_eq_true rfl⟩) hJ_x1.kc hM_x1 hP hK c_blind (c_preS hP hK hA hS hV).2 rfl rfl hl.1 rfl (lv_room (Nat.le_of_ble_eq_true rfl)) dX9_sumsOf_38 ⟨Nat.le_of_ble_eq_true rfl, Nat.le_of_ble_eq_true rfl⟩) hS (fun r38 u H locs q38 hP9 hD9 hT9 hS => ?_)
        obtain ⟨rfl, q38⟩ := q38
        have hP : va_P D vwCl wl28 H := hP9
        refine lv_i2l (v := r38.toInt64) hx hb dX9_sumsOf_41 rfl ?_
        obtain ⟨_, hM_q8, hn_q8, z_q8, a_q8, rfl, hz_q8, hG_a_q8⟩ := hT _ _ hG_q8
        refine t_callv (va_runV (g := F0 m 42 ls ([.long (r38.toInt64), .int (nI i), .ref q8])) (As := [.int (nI i), .long (r38.toInt64)]) (rest := []) ⟨hx, hb, hml, hown, hts⟩ (c_X7_put l D cy A Gl28 wl28 q8 (nI i) r38.toInt64 hD hT hG_q8 ) (cwV 2 hts gX9_sumsOf_X7_put rfl rfl rfl (by decide +kernel) ⟨Nat.le_of_ble_eq_true rfl, Nat.le_of_ble_eq_true rfl⟩) (c_preV hM_q8 rfl hP hK hA hS hV) rfl rfl hl.1 rfl (lv_room (Nat.le_of_ble_eq_true rfl)) dX9_sumsOf_42 ⟨Nat.le_of_ble_eq_true rfl, Nat.le_of_ble_eq_true rfl⟩) hS (fun u H locs q42 hP9 hD9 hT9 hS => ?_)
        obtain ⟨G42, w42⟩ := u
        obtain ⟨hX9, q42⟩ := q42
        have hX9 : cX none (chs [16]) Gl28 wl28 G42 w42 := hX9
        have hP : va_P D vwCl w42 H := hP9
        have hD : va_D A w42 := hD9
        have hT : cT cy G42 w42 := hT9
        have hM_x1 := hX9.2.1 _ _ (cP.no hG_x1 rfl) hM_x1
        have hM_q8 := hX9.2.1 _ _ (cP.no hG_q8 rfl) hM_q8
        have hG_x1 := hX9.1 _ _ hG_x1
        have hG_b_x1 := hX9.1 _ _ hG_b_x1
        have hG_s_x1 := hX9.1 _ _ hG_s_x1
        have hG_l_b_x1 := hX9.1 _ _ hG_l_b_x1
        have hG_f_b_x1 := hX9.1 _ _ hG_f_b_x1
        have hG_r_b_x1 := hX9.1 _ _ hG_r_b_x1
        have hG_q8 := hX9.1 _ _ hG_q8
        have hG_bv1_x1 := hX9.1 _ _ hG_bv1_x1
        have hG_sv1_x1 := hX9.1 _ _ hG_sv1_x1
        have hG_a_q8 := hX9.1 _ _ hG_a_q8
        have hEl28 := hEl28.tr hX9.1
        have hX := hX.tr hX9
        refine lv_iinc (v := (nI (i + 1))) (lv' := [(3, .int (nI (i + 1))), (2, .ref q8), (1, .int (nI h_x1)), (0, .ref x1)]) hx hb dX9_sumsOf_45 hl (k := 0) rfl (nI_1 _) (by decide) rfl (fun ls hl => ?_)
        refine lv_goto (tgt := 28) hx hb dX9_sumsOf_48 (by decide) ?_
        exact ih_28 (i + 1) (by omega) (by omega) G42 w42 hEl28 hX hD hT _ _ hP hS  ls (lv_sub hl [0, 1, 2, 3] rfl)
  exact loop_28 (6 + 1) 0 (by omega) (by omega) G22 w22 cE.rf hX hD hT _ _ hP hS  ls (lv_sub hl [0, 1, 2, 3] rfl)
set_option maxHeartbeats 4000000 in
set_option maxRecDepth 100000 in
theorem c_X9_thingToKeep_n (l : Launch) (D : va_G) (cy : Nat → ClassId) (A : Nat → Prop) (G : cG) (ws : va_W) (what : Int32) (p0 : Int64)  (hD : va_D A ws) (hT : cT cy G ws)   : Ca l D cy A yX9_thingToKeep wsX9_thingToKeep ({ frames := 0, cells := 0, slots := 0, locals := 0 }) 0 0 ws [.int what, .null, .long p0] (fun r0 u => cX none (chs [3, 14, 16]) G ws u.1 u.2 ∧ (r0 = none ∨ (∃ x k n, r0 = some x ∧ u.1 x = some (3, k, n)) ∨ ∃ x n, r0 = some x ∧ u.1 x = some (4, n, 0))) := by
  refine Met.ofW (cc := cX9_thingToKeep) (maxL := 4) (ret := (some (.object "ShadowBench$Held"))) (by decide) rfl ?_
  intro p e s m args below meth c s₁ B hml hv
  obtain ⟨rfl, hP, hK, hA, hV⟩ := hv
  have hx := B.exec
  have hb := B.bytes
  have hr := B.returns
  have hts := atoms_spec (ws := wsX9_thingToKeep) B.pre
  have hown : s.vm.findClass RX9 = some m.cls := findClass_of_methodNamed B.named
  have hlocks := B.notSynchronized
  have hS : va_S A s.heap s.heap [] := va_S.rf
  have hX : cX none (chs [3, 14, 16]) G ws G ws := cX.rf
  have hl := lv_entry ([.int what, .null, .long p0]) (n := 4) (Nat.le_of_ble_eq_true rfl)
  rw [lg_entry_eq]
  generalize (lg_sl ([.int what, .null, .long p0]) ++ List.replicate (4 - (lg_sl ([.int what, .null, .long p0])).length) Slot.unset).toArray = ls at hl ⊢
  have hl : lv_has ls 4 [(0, .int what), (1, .null), (2, .long p0)] := hl
  have k_0 : (0 : Int32).toInt = 0 := by decide
  refine lv_aload_nN hx hb dX9_thingToKeep_0 rfl (lv_at hl 1 rfl) ?_
  refine lv_ifnonnullN hx hb dX9_thingToKeep_1 ?_
  refine lv_null hx hb dX9_thingToKeep_4 ?_
  exact W.aret (v := .null) hx hb hr (Or.inl ⟨_, rfl⟩) (Or.inl rfl) (fun t ht hW => ⟨⟨none, (G, ws), rfl, ⟨hX, Or.inl rfl⟩, by show va_P D vwCl ws t.heap; rw [ht]; exact hP, hD, hT⟩, hS.F ht⟩) hS.2.2 dX9_thingToKeep_5
set_option maxHeartbeats 4000000 in
set_option maxRecDepth 100000 in
theorem c_X9_thingToKeep (l : Launch) (D : va_G) (cy : Nat → ClassId) (A : Nat → Prop) (G : cG) (ws : va_W) (what : Int32) (x1 : Nat) (p0 : Int64) {k1 n1 : Nat} (hD : va_D A ws) (hT : cT cy G ws) (hG_x1 : G x1 = some (3, k1, n1))  : Ca l D cy A yX9_thingToKeep wsX9_thingToKeep ({ frames := 6, cells := 3, slots := 86, locals := 123 }) 3 86 ws [.int what, .ref x1, .long p0] (fun r0 u => cX none (chs [3, 14, 16]) G ws u.1 u.2 ∧ (r0 = none ∨ (∃ x k n, r0 = some x ∧ u.1 x = some (3, k, n)) ∨ ∃ x n, r0 = some x ∧ u.1 x = some (4, n, 0))) := by
  refine Met.ofW (cc := cX9_thingToKeep) (maxL := 4) (ret := (some (.object "ShadowBench$Held"))) (by decide) rfl ?_
  intro p e s m args below meth c s₁ B hml hv
  obtain ⟨rfl, hP, hK, hA, hV⟩ := hv
  have hx := B.exec
  have hb := B.bytes
  have hr := B.returns
  have hts := atoms_spec (ws := wsX9_thingToKeep) B.pre
  have hown : s.vm.findClass RX9 = some m.cls := findClass_of_methodNamed B.named
  have hlocks := B.notSynchronized
  have hS : va_S A s.heap s.heap [] := va_S.rf
  have hinJ : ∀ w ∈ wsX10 ++ wsX30 ++ wsX40 ++ wsX50, w ∈ wsX9_thingToKeep := by decide +kernel
  have hX : cX none (chs [3, 14, 16]) G ws G ws := cX.rf
  have hl := lv_entry ([.int what, .ref x1, .long p0]) (n := 4) (Nat.le_of_ble_eq_true rfl)
  rw [lg_entry_eq]
  generalize (lg_sl ([.int what, .ref x1, .long p0]) ++ List.replicate (4 - (lg_sl ([.int what, .ref x1, .long p0])).length) Slot.unset).toArray = ls at hl ⊢
  have hl : lv_has ls 4 [(0, .int what), (1, .ref x1), (2, .long p0)] := hl
  have k_0 : (0 : Int32).toInt = 0 := by decide
  have k_1 : (1 : Int32).toInt = 1 := by decide
  have k_3 : (3 : Int32).toInt = 3 := by decide
  have k_4 : (4 : Int32).toInt = 4 := by decide
  refine lv_aload_n hx hb dX9_thingToKeep_0 rfl (lv_at hl 1 rfl) ?_
  refine lv_ifnonnull (tgt := 6) hx hb dX9_thingToKeep_1 (by decide) ?_
  refine lv_iload_n hx hb dX9_thingToKeep_6 rfl (lv_at hl 0 rfl) ?_
  refine lv_iconst (v := 1) hx hb dX9_thingToKeep_7 (by decide) ?_
  refine lv_icmp_ne (tgt := 16) hx hb dX9_thingToKeep_8 (by decide) (fun c8 => ?_) (fun c8 => ?_)
  · skip
    have d8 := c8
    rw [fa_eq] at d8
    refine lv_iload_n hx hb dX9_thingToKeep_16 rfl (lv_at hl 0 rfl) ?_
    refine lv_iconst (v := 3) hx hb dX9_thingToKeep_17 (by decide) ?_
    refine lv_icmp_ne (tgt := 41) hx hb dX9_thingToKeep_18 (by decide) (fun c18 => ?_) (fun c18 => ?_)
    · skip
      have d18 := c18
      rw [fa_eq] at d18
      refine lv_iload_n hx hb dX9_thingToKeep_41 rfl (lv_at hl 0 rfl) ?_
      refine lv_iconst (v := 4) hx hb dX9_thingToKeep_42 (by decide) ?_
      refine lv_icmp_ne (tgt := 53) hx hb dX9_thingToKeep_43 (by decide) (fun c43 => ?_) (fun c43 => ?_)
      · skip
        have d43 := c43
        rw [fa_eq] at d43
        refine lv_null hx hb dX9_thingToKeep_53 ?_
        refine W.widen (k := 3) (n := 86) (Nat.le_of_ble_eq_true rfl) (Nat.le_of_ble_eq_true rfl) ?_
        exact W.aret (v := .null) hx hb hr (Or.inl ⟨_, rfl⟩) (Or.inl rfl) (fun t ht hW => ⟨⟨none, (G, ws), rfl, ⟨hX, Or.inl rfl⟩, by show va_P D vwCl ws t.heap; rw [ht]; exact hP, hD, hT⟩, hS.F ht⟩) hS.2.2 dX9_thingToKeep_54
      · skip
        have d43 := c43
        rw [fa_eq] at d43
        refine lv_aload_n hx hb dX9_thingToKeep_46 rfl (lv_at hl 1 rfl) ?_
        refine t_calla (va_runS (g := F0 m 47 ls ([.ref x1])) (As := [.ref x1]) (rest := []) ⟨hx, hb, hml, hown, hts⟩ (c_X9_sumsOf l D cy A G ws x1 hD hT hG_x1 ) (va_cwS 1 hts gX9_thingToKeep_X9_sumsOf rfl rfl rfl (by decide +kernel) ⟨Nat.le_of_ble_eq_true rfl, Nat.le_of_ble_eq_true rfl⟩) (c_preS hP hK hA hS hV) rfl rfl hl.1 rfl (lv_room (Nat.le_of_ble_eq_true rfl)) dX9_thingToKeep_47 ⟨Nat.le_of_ble_eq_true rfl, Nat.le_of_ble_eq_true rfl⟩) hS (fun r47 u H locs q47 hP9 hD9 hT9 hS => ?_)
        obtain ⟨G47, w47⟩ := u
        obtain ⟨hX9, q47⟩ := q47
        have hX9 : cX none (chs [16]) G ws G47 w47 := hX9
        have hP : va_P D vwCl w47 H := hP9
        have hD : va_D A w47 := hD9
        have hT : cT cy G47 w47 := hT9
        have hG_x1 := hX9.1 _ _ hG_x1
        have hX := hX.tr (hX9.wk (chs_sub (by decide)))
        obtain ⟨x47, n47, rfl, hG_x47⟩ := q47
        refine lv_goto (tgt := 54) hx hb dX9_thingToKeep_50 (by decide) ?_
        refine W.widen (k := 3) (n := 86) (Nat.le_of_ble_eq_true rfl) (Nat.le_of_ble_eq_true rfl) ?_
        exact W.aret (v := .ref x47) hx hb hr (Or.inl ⟨_, rfl⟩) (Or.inr ⟨_, rfl⟩) (fun t ht hW => ⟨⟨(some x47), (G47, w47), rfl, ⟨hX, Or.inr (Or.inr ⟨_, _, rfl, hG_x47⟩)⟩, by show va_P D vwCl w47 t.heap; rw [ht]; exact hP, hD, hT⟩, hS.F ht⟩) hS.2.2 dX9_thingToKeep_54
    · skip
      have d18 := c18
      rw [fa_eq] at d18
      refine lv_aload_n hx hb dX9_thingToKeep_21 rfl (lv_at hl 1 rfl) ?_
      obtain ⟨_, hM_x1, b_x1, s_x1, w_x1, h_x1, t_x1, x_x1, y_x1, ms_x1, rfl, hG_b_x1, hG_s_x1, hJ_x1⟩ := hT _ _ hG_x1
      refine t_getJ (v := .ref b_x1) hx hb hts hinJ hown hK hP hJ_x1.kc hM_x1 0 (by decide) (hts (.fieldLink RX9 65 "ShadowBench$Job" "board" "LShadowBench$Board;") (by decide +kernel)) (fun _ h9 => h9) rfl dX9_thingToKeep_22 ?_
      refine lv_lload_n hx hb dX9_thingToKeep_25 rfl (lv_at hl 2 rfl) ?_
      obtain ⟨_, hM_b_x1, hb_b_x1, l_b_x1, f_b_x1, r_b_x1, rfl, hG_l_b_x1, hG_f_b_x1, hG_r_b_x1⟩ := hT _ _ hG_b_x1
      refine t_calli (va_runV (g := F0 m 26 ls ([.long p0, .ref b_x1])) (As := [.long p0]) (rest := []) ⟨hx, hb, hml, hown, hts⟩ (c_X0_isPicture l D cy A G ws b_x1 p0 hD hT hG_b_x1 ) (cwV 1 hts gX9_thingToKeep_X0_isPicture rfl rfl rfl (by decide +kernel) ⟨Nat.le_of_ble_eq_true rfl, Nat.le_of_ble_eq_true rfl⟩) (c_preV hM_b_x1 rfl hP hK hA hS hV) rfl rfl hl.1 rfl (lv_room (Nat.le_of_ble_eq_true rfl)) dX9_thingToKeep_26 ⟨Nat.le_of_ble_eq_true rfl, Nat.le_of_ble_eq_true rfl⟩) hS (fun r26 u H locs q26 hP9 hD9 hT9 hS => ?_)
      obtain ⟨rfl, q26⟩ := q26
      have hP : va_P D vwCl ws H := hP9
      refine lv_if_eq (tgt := 41) hx hb dX9_thingToKeep_29 (by decide) (fun c29 => ?_) (fun c29 => ?_)
      · skip
        have d29 := c29
        rw [fa_eq] at d29
        refine lv_iload_n hx hb dX9_thingToKeep_41 rfl (lv_at hl 0 rfl) ?_
        refine lv_iconst (v := 4) hx hb dX9_thingToKeep_42 (by decide) ?_
        refine lv_icmp_ne (tgt := 53) hx hb dX9_thingToKeep_43 (by decide) (fun c43 => ?_) (fun c43 => ?_)
        · skip
          have d43 := c43
          rw [fa_eq] at d43
          refine lv_null hx hb dX9_thingToKeep_53 ?_
          refine W.widen (k := 3) (n := 86) (Nat.le_of_ble_eq_true rfl) (Nat.le_of_ble_eq_true rfl) ?_
          exact W.aret (v := .null) hx hb hr (Or.inl ⟨_, rfl⟩) (Or.inl rfl) (fun t ht hW => ⟨⟨none, (G, ws), rfl, ⟨hX, Or.inl rfl⟩, by show va_P D vwCl ws t.heap; rw [ht]; exact hP, hD, hT⟩, hS.F ht⟩) hS.2.2 dX9_thingToKeep_54
        · skip
          have d43 := c43
          rw [fa_eq] at d43
          refine lv_aload_n hx hb dX9_thingToKeep_46 rfl (lv_at hl 1 rfl) ?_
          refine t_calla (va_runS (g := F0 m 47 ls ([.ref x1])) (As := [.ref x1]) (rest := []) ⟨hx, hb, hml, hown, hts⟩ (c_X9_sumsOf l D cy A G ws x1 hD hT hG_x1 ) (va_cwS 1 hts gX9_thingToKeep_X9_sumsOf rfl rfl rfl (by decide +kernel) ⟨Nat.le_of_ble_eq_true rfl, Nat.le_of_ble_eq_true rfl⟩) (c_preS hP hK hA hS hV) rfl rfl hl.1 rfl (lv_room (Nat.le_of_ble_eq_true rfl)) dX9_thingToKeep_47 ⟨Nat.le_of_ble_eq_true rfl, Nat.le_of_ble_eq_true rfl⟩) hS (fun r47 u H locs q47 hP9 hD9 hT9 hS => ?_)
          obtain ⟨G47, w47⟩ := u
          obtain ⟨hX9, q47⟩ := q47
          have hX9 : cX none (chs [16]) G ws G47 w47 := hX9
          have hP : va_P D vwCl w47 H := hP9
          have hD : va_D A w47 := hD9
          have hT : cT cy G47 w47 := hT9
          have hM_x1 := hX9.2.1 _ _ (cP.no hG_x1 rfl) hM_x1
          have hM_b_x1 := hX9.2.1 _ _ (cP.no hG_b_x1 rfl) hM_b_x1
          have hG_x1 := hX9.1 _ _ hG_x1
          have hG_b_x1 := hX9.1 _ _ hG_b_x1
          have hG_s_x1 := hX9.1 _ _ hG_s_x1
          have hG_l_b_x1 := hX9.1 _ _ hG_l_b_x1
          have hG_f_b_x1 := hX9.1 _ _ hG_f_b_x1
          have hG_r_b_x1 := hX9.1 _ _ hG_r_b_x1
          have hX := hX.tr (hX9.wk (chs_sub (by decide)))
          obtain ⟨x47, n47, rfl, hG_x47⟩ := q47
          refine lv_goto (tgt := 54) hx hb dX9_thingToKeep_50 (by decide) ?_
          refine W.widen (k := 3) (n := 86) (Nat.le_of_ble_eq_true rfl) (Nat.le_of_ble_eq_true rfl) ?_
          exact W.aret (v := .ref x47) hx hb hr (Or.inl ⟨_, rfl⟩) (Or.inr ⟨_, rfl⟩) (fun t ht hW => ⟨⟨(some x47), (G47, w47), rfl, ⟨hX, Or.inr (Or.inr ⟨_, _, rfl, hG_x47⟩)⟩, by show va_P D vwCl w47 t.heap; rw [ht]; exact hP, hD, hT⟩, hS.F ht⟩) hS.2.2 dX9_thingToKeep_54
      · skip
        have d29 := c29
        rw [fa_eq] at d29
        refine lv_aload_n hx hb dX9_thingToKeep_32 rfl (lv_at hl 1 rfl) ?_
        refine t_getJ (v := .ref b_x1) hx hb hts hinJ hown hK hP hJ_x1.kc hM_x1 0 (by decide) (hts (.fieldLink RX9 65 "ShadowBench$Job" "board" "LShadowBench$Board;") (by decide +kernel)) (fun _ h9 => h9) rfl dX9_thingToKeep_33 ?_
        refine lv_lload_n hx hb dX9_thingToKeep_36 rfl (lv_at hl 2 rfl) ?_
        refine t_calla (va_runS (g := F0 m 37 ls ([.long p0, .ref b_x1])) (As := [.ref b_x1, .long p0]) (rest := []) ⟨hx, hb, hml, hown, hts⟩ (c_X9_squaresOf l D cy A G ws b_x1 p0 hD hT hG_b_x1 ) (va_cwS 2 hts gX9_thingToKeep_X9_squaresOf rfl rfl rfl (by decide +kernel) ⟨Nat.le_of_ble_eq_true rfl, Nat.le_of_ble_eq_true rfl⟩) (c_preS hP hK hA hS hV) rfl rfl hl.1 rfl (lv_room (Nat.le_of_ble_eq_true rfl)) dX9_thingToKeep_37 ⟨Nat.le_of_ble_eq_true rfl, Nat.le_of_ble_eq_true rfl⟩) hS (fun r37 u H locs q37 hP9 hD9 hT9 hS => ?_)
        obtain ⟨G37, w37⟩ := u
        obtain ⟨hX9, q37⟩ := q37
        have hX9 : cX none (chs [16]) G ws G37 w37 := hX9
        have hP : va_P D vwCl w37 H := hP9
        have hD : va_D A w37 := hD9
        have hT : cT cy G37 w37 := hT9
        have hM_x1 := hX9.2.1 _ _ (cP.no hG_x1 rfl) hM_x1
        have hM_b_x1 := hX9.2.1 _ _ (cP.no hG_b_x1 rfl) hM_b_x1
        have hG_x1 := hX9.1 _ _ hG_x1
        have hG_b_x1 := hX9.1 _ _ hG_b_x1
        have hG_s_x1 := hX9.1 _ _ hG_s_x1
        have hG_l_b_x1 := hX9.1 _ _ hG_l_b_x1
        have hG_f_b_x1 := hX9.1 _ _ hG_f_b_x1
        have hG_r_b_x1 := hX9.1 _ _ hG_r_b_x1
        have hX := hX.tr (hX9.wk (chs_sub (by decide)))
        obtain ⟨x37, n37, rfl, hG_x37⟩ := q37
        refine W.widen (k := 3) (n := 86) (Nat.le_of_ble_eq_true rfl) (Nat.le_of_ble_eq_true rfl) ?_
        exact W.aret (v := .ref x37) hx hb hr (Or.inl ⟨_, rfl⟩) (Or.inr ⟨_, rfl⟩) (fun t ht hW => ⟨⟨(some x37), (G37, w37), rfl, ⟨hX, Or.inr (Or.inr ⟨_, _, rfl, hG_x37⟩)⟩, by show va_P D vwCl w37 t.heap; rw [ht]; exact hP, hD, hT⟩, hS.F ht⟩) hS.2.2 dX9_thingToKeep_40
  · skip
    have d8 := c8
    rw [fa_eq] at d8
    refine lv_aload_n hx hb dX9_thingToKeep_11 rfl (lv_at hl 1 rfl) ?_
    obtain ⟨_, hM_x1, b_x1, s_x1, w_x1, h_x1, t_x1, x_x1, y_x1, ms_x1, rfl, hG_b_x1, hG_s_x1, hJ_x1⟩ := hT _ _ hG_x1
    have hJ9 := hJ_x1
    obtain ⟨hn9, hJ9⟩ := hJ9
    rcases hJ9 with ⟨rfl, rfl⟩ | ⟨rfl, rfl⟩ | ⟨rfl, rfl⟩ | ⟨rfl, c9, rfl, hG_c9⟩
    · skip
      have hM_x1 : cIn ws x1 (.inr (1, [.ref b_x1, .ref s_x1, .int t_x1, .long x_x1, .long y_x1])) := hM_x1
      refine t_calla (va_runU (g := F0 m 12 ls ([.ref x1])) (As := []) (rest := []) ⟨hx, hb, hml, hown, hts⟩ (c_X1_asItIs l D cy A G ws x1 hD hT hG_x1 ) (va_cwO 0 hts gX9_thingToKeep_X1_asItIs_u321X1 rfl rfl rfl (b0 := cX3_asItIs) (m0 := 1) (r0 := (some (.object "ShadowBench$Job"))) (by decide +kernel) (by decide +kernel) ⟨Nat.le_of_ble_eq_true rfl, Nat.le_of_ble_eq_true rfl⟩) (c_preV hM_x1 rfl hP hK hA hS hV) rfl rfl hl.1 rfl (lv_room (Nat.le_of_ble_eq_true rfl)) dX9_thingToKeep_12 ⟨Nat.le_of_ble_eq_true rfl, Nat.le_of_ble_eq_true rfl⟩) hS (fun r12 u H locs q12 hP9 hD9 hT9 hS => ?_)
      obtain ⟨G12, w12⟩ := u
      obtain ⟨hX9, q12⟩ := q12
      have hX9 : cX none (chs [3, 14]) G ws G12 w12 := hX9
      have hP : va_P D vwCl w12 H := hP9
      have hD : va_D A w12 := hD9
      have hT : cT cy G12 w12 := hT9
      have hG_x1 := hX9.1 _ _ hG_x1
      have hG_b_x1 := hX9.1 _ _ hG_b_x1
      have hG_s_x1 := hX9.1 _ _ hG_s_x1
      have hX := hX.tr (hX9.wk (chs_sub (by decide)))
      obtain ⟨x12, k12, n12, rfl, hG_x12⟩ := q12
      refine W.widen (k := 3) (n := 86) (Nat.le_of_ble_eq_true rfl) (Nat.le_of_ble_eq_true rfl) ?_
      exact W.aret (v := .ref x12) hx hb hr (Or.inl ⟨_, rfl⟩) (Or.inr ⟨_, rfl⟩) (fun t ht hW => ⟨⟨(some x12), (G12, w12), rfl, ⟨hX, Or.inr (Or.inl ⟨_, _, _, rfl, hG_x12⟩)⟩, by show va_P D vwCl w12 t.heap; rw [ht]; exact hP, hD, hT⟩, hS.F ht⟩) hS.2.2 dX9_thingToKeep_15
    · skip
      have hM_x1 : cIn ws x1 (.inr (2, [.ref b_x1, .ref s_x1, .int t_x1, .long x_x1, .long y_x1])) := hM_x1
      refine t_calla (va_runV (g := F0 m 12 ls ([.ref x1])) (As := []) (rest := []) ⟨hx, hb, hml, hown, hts⟩ (c_X3_asItIs l D cy A G ws x1 hD hT hG_x1 ) (cwV 0 hts gX9_thingToKeep_X3_asItIs rfl rfl rfl (by decide +kernel) ⟨Nat.le_of_ble_eq_true rfl, Nat.le_of_ble_eq_true rfl⟩) (c_preV hM_x1 rfl hP hK hA hS hV) rfl rfl hl.1 rfl (lv_room (Nat.le_of_ble_eq_true rfl)) dX9_thingToKeep_12 ⟨Nat.le_of_ble_eq_true rfl, Nat.le_of_ble_eq_true rfl⟩) hS (fun r12 u H locs q12 hP9 hD9 hT9 hS => ?_)
      obtain ⟨G12, w12⟩ := u
      obtain ⟨hX9, q12⟩ := q12
      have hX9 : cX none (chs [3, 14]) G ws G12 w12 := hX9
      have hP : va_P D vwCl w12 H := hP9
      have hD : va_D A w12 := hD9
      have hT : cT cy G12 w12 := hT9
      have hG_x1 := hX9.1 _ _ hG_x1
      have hG_b_x1 := hX9.1 _ _ hG_b_x1
      have hG_s_x1 := hX9.1 _ _ hG_s_x1
      have hX := hX.tr (hX9.wk (chs_sub (by decide)))
      obtain ⟨x12, k12, n12, rfl, hG_x12⟩ := q12
      refine W.widen (k := 3) (n := 86) (Nat.le_of_ble_eq_true rfl) (Nat.le_of_ble_eq_true rfl) ?_
      exact W.aret (v := .ref x12) hx hb hr (Or.inl ⟨_, rfl⟩) (Or.inr ⟨_, rfl⟩) (fun t ht hW => ⟨⟨(some x12), (G12, w12), rfl, ⟨hX, Or.inr (Or.inl ⟨_, _, _, rfl, hG_x12⟩)⟩, by show va_P D vwCl w12 t.heap; rw [ht]; exact hP, hD, hT⟩, hS.F ht⟩) hS.2.2 dX9_thingToKeep_15
    · skip
      have hM_x1 : cIn ws x1 (.inr (3, [.ref b_x1, .ref s_x1, .int t_x1, .long x_x1, .long y_x1])) := hM_x1
      refine t_calla (va_runU (g := F0 m 12 ls ([.ref x1])) (As := []) (rest := []) ⟨hx, hb, hml, hown, hts⟩ (c_X4_asItIs l D cy A G ws x1 hD hT hG_x1 ) (va_cwO 0 hts gX9_thingToKeep_X4_asItIs_u321X4 rfl rfl rfl (b0 := cX3_asItIs) (m0 := 1) (r0 := (some (.object "ShadowBench$Job"))) (by decide +kernel) (by decide +kernel) ⟨Nat.le_of_ble_eq_true rfl, Nat.le_of_ble_eq_true rfl⟩) (c_preV hM_x1 rfl hP hK hA hS hV) rfl rfl hl.1 rfl (lv_room (Nat.le_of_ble_eq_true rfl)) dX9_thingToKeep_12 ⟨Nat.le_of_ble_eq_true rfl, Nat.le_of_ble_eq_true rfl⟩) hS (fun r12 u H locs q12 hP9 hD9 hT9 hS => ?_)
      obtain ⟨G12, w12⟩ := u
      obtain ⟨hX9, q12⟩ := q12
      have hX9 : cX none (chs [3, 14]) G ws G12 w12 := hX9
      have hP : va_P D vwCl w12 H := hP9
      have hD : va_D A w12 := hD9
      have hT : cT cy G12 w12 := hT9
      have hG_x1 := hX9.1 _ _ hG_x1
      have hG_b_x1 := hX9.1 _ _ hG_b_x1
      have hG_s_x1 := hX9.1 _ _ hG_s_x1
      have hX := hX.tr (hX9.wk (chs_sub (by decide)))
      obtain ⟨x12, k12, n12, rfl, hG_x12⟩ := q12
      refine W.widen (k := 3) (n := 86) (Nat.le_of_ble_eq_true rfl) (Nat.le_of_ble_eq_true rfl) ?_
      exact W.aret (v := .ref x12) hx hb hr (Or.inl ⟨_, rfl⟩) (Or.inr ⟨_, rfl⟩) (fun t ht hW => ⟨⟨(some x12), (G12, w12), rfl, ⟨hX, Or.inr (Or.inl ⟨_, _, _, rfl, hG_x12⟩)⟩, by show va_P D vwCl w12 t.heap; rw [ht]; exact hP, hD, hT⟩, hS.F ht⟩) hS.2.2 dX9_thingToKeep_15
    · skip
      have hM_x1 : cIn ws x1 (.inr (4, [.ref b_x1, .ref s_x1, .int t_x1, .long x_x1, .long y_x1, .ref c9])) := hM_x1
      have hn36 := cb_mul (c_hb hT hG_b_x1)
      refine t_calla (va_runU (g := F0 m 12 ls ([.ref x1])) (As := []) (rest := []) ⟨hx, hb, hml, hown, hts⟩ (c_X5_asItIs l D cy A G ws x1 hD hT hG_x1 ) (va_cwO 0 hts gX9_thingToKeep_X5_asItIs_u321X5 rfl rfl rfl (b0 := cX3_asItIs) (m0 := 1) (r0 := (some (.object "ShadowBench$Job"))) (by decide +kernel) (by decide +kernel) ⟨Nat.le_of_ble_eq_true rfl, Nat.le_of_ble_eq_true rfl⟩) (c_preV hM_x1 rfl hP hK hA hS hV) rfl rfl hl.1 rfl (lv_room (Nat.le_of_ble_eq_true rfl)) dX9_thingToKeep_12 ⟨Nat.le_of_ble_eq_true rfl, Nat.le_of_ble_eq_true rfl⟩) hS (fun r12 u H locs q12 hP9 hD9 hT9 hS => ?_)
      obtain ⟨G12, w12⟩ := u
      obtain ⟨hX9, q12⟩ := q12
      have hX9 : cX none (chs [3, 14]) G ws G12 w12 := hX9
      have hP : va_P D vwCl w12 H := hP9
      have hD : va_D A w12 := hD9
      have hT : cT cy G12 w12 := hT9
      have hG_x1 := hX9.1 _ _ hG_x1
      have hG_b_x1 := hX9.1 _ _ hG_b_x1
      have hG_s_x1 := hX9.1 _ _ hG_s_x1
      have hG_c9 := hX9.1 _ _ hG_c9
      have hX := hX.tr (hX9.wk (chs_sub (by decide)))
      obtain ⟨x12, k12, n12, rfl, hG_x12⟩ := q12
      refine W.widen (k := 3) (n := 86) (Nat.le_of_ble_eq_true rfl) (Nat.le_of_ble_eq_true rfl) ?_
      exact W.aret (v := .ref x12) hx hb hr (Or.inl ⟨_, rfl⟩) (Or.inr ⟨_, rfl⟩) (fun t ht hW => ⟨⟨(some x12), (G12, w12), rfl, ⟨hX, Or.inr (Or.inl ⟨_, _, _, rfl, hG_x12⟩)⟩, by show va_P D vwCl w12 t.heap; rw [ht]; exact hP, hD, hT⟩, hS.F ht⟩) hS.2.2 dX9_thingToKeep_15
set_option maxHeartbeats 4000000 in
set_option maxRecDepth 100000 in
theorem c_X9_keep (l : Launch) (D : va_G) (cy : Nat → ClassId) (A : Nat → Prop) (G : cG) (ws : va_W) (o : Nat) (d : Int32) (what : Int32) (k0 : Int32) (p0 : Int64)  (hD : va_D A ws) (hT : cT cy G ws) (hG_o : G o = some (7, 0, 0))  : Ci l D cy A yX9_keep wsX9_keep ({ frames := 7, cells := 3, slots := 86, locals := 146 }) 3 86 ws [.ref o, .int d, .int what, .int k0, .long p0] (fun r0 u => cX none (chs [3, 10, 14, 16]) G ws u.1 u.2 ∧ (True)) := by
  refine Met.ofW (cc := cX9_keep) (maxL := 7) (ret := (some .int)) (by decide) rfl ?_
  intro p e s m args below meth c s₁ B hml hv
  obtain ⟨rfl, hP, hK, hA, hV⟩ := hv
  have hx := B.exec
  have hb := B.bytes
  have hr := B.returns
  have hts := atoms_spec (ws := wsX9_keep) B.pre
  have hown : s.vm.findClass RX9 = some m.cls := findClass_of_methodNamed B.named
  have hlocks := B.notSynchronized
  have hS : va_S A s.heap s.heap [] := va_S.rf
  have hX : cX none (chs [3, 10, 14, 16]) G ws G ws := cX.rf
  have hl := lv_entry ([.ref o, .int d, .int what, .int k0, .long p0]) (n := 7) (Nat.le_of_ble_eq_true rfl)
  rw [lg_entry_eq]
  generalize (lg_sl ([.ref o, .int d, .int what, .int k0, .long p0]) ++ List.replicate (7 - (lg_sl ([.ref o, .int d, .int what, .int k0, .long p0])).length) Slot.unset).toArray = ls at hl ⊢
  have hl : lv_has ls 7 [(0, .ref o), (1, .int d), (2, .int what), (3, .int k0), (4, .long p0)] := hl
  have k_m1 : (-1 : Int32).toInt = -1 := by decide
  have k_0 : (0 : Int32).toInt = 0 := by decide
  refine lv_iload_n hx hb dX9_keep_0 rfl (lv_at hl 1 rfl) ?_
  refine t_pu (As := [.int d]) (rest := []) ⟨hx, hb, hml, hown, hts⟩ (c_X9_isShelf l d ) (va_cwS 1 hts gX9_keep_X9_isShelf rfl rfl rfl (by decide +kernel) ⟨Nat.le_of_ble_eq_true rfl, Nat.le_of_ble_eq_true rfl⟩) hP rfl hl.1 rfl (Nat.le_of_ble_eq_true rfl) dX9_keep_1 ⟨Nat.le_of_ble_eq_true rfl, Nat.le_of_ble_eq_true rfl⟩ hS (fun r1 H locs q1 hP hS => ?_)
  refine lv_if_ne (tgt := 9) hx hb dX9_keep_4 (by decide) (fun c4 => ?_) (fun c4 => ?_)
  · skip
    have b4 := bo_t q1 c4
    refine lv_iload_n hx hb dX9_keep_9 rfl (lv_at hl 2 rfl) ?_
    refine lv_if_ne (tgt := 22) hx hb dX9_keep_10 (by decide) (fun c10 => ?_) (fun c10 => ?_)
    · skip
      have d10 := c10
      rw [fa_eq] at d10
      refine lv_iload_n hx hb dX9_keep_22 rfl (lv_at hl 2 rfl) ?_
      refine lv_aload_n hx hb dX9_keep_23 rfl (lv_at hl 0 rfl) ?_
      refine lv_iload_n hx hb dX9_keep_24 rfl (lv_at hl 3 rfl) ?_
      obtain ⟨_, hM_o, bs_o, js_o, sh_o, wk_o, ll_o, jc_o, lc_o, mo_o, lb_o, rfl, hjc_o, hlc_o, hG_bs_o, hG_js_o, hG_sh_o, hG_wk_o, hmo_o, hG_ll_o, hlb_o⟩ := hT _ _ hG_o
      refine t_calla (va_runV (g := F0 m 25 ls ([.int k0, .ref o, .int what])) (As := [.int k0]) (rest := [.int what]) ⟨hx, hb, hml, hown, hts⟩ (c_X9_jobOf l D cy A G ws o k0 hD hT hG_o ) (cwV 1 hts gX9_keep_X9_jobOf rfl rfl rfl (by decide +kernel) ⟨Nat.le_of_ble_eq_true rfl, Nat.le_of_ble_eq_true rfl⟩) (c_preV hM_o rfl hP hK hA hS hV) rfl rfl hl.1 rfl (lv_room (Nat.le_of_ble_eq_true rfl)) dX9_keep_25 ⟨Nat.le_of_ble_eq_true rfl, Nat.le_of_ble_eq_true rfl⟩) hS (fun r25 u H locs q25 hP9 hD9 hT9 hS => ?_)
      obtain ⟨rfl, q25⟩ := q25
      have hP : va_P D vwCl ws H := hP9
      rcases r25 with _ | x25
      · skip
        refine lv_lload hx hb dX9_keep_28 (lv_at hl 4 rfl) ?_
        refine t_calla (va_runS (g := F0 m 30 ls ([.long p0, .null, .int what])) (As := [.int what, .null, .long p0]) (rest := []) ⟨hx, hb, hml, hown, hts⟩ (c_X9_thingToKeep_n l D cy A G ws what p0 hD hT ) (va_cwS 3 hts gX9_keep_X9_thingToKeep rfl rfl rfl (by decide +kernel) ⟨Nat.le_of_ble_eq_true rfl, Nat.le_of_ble_eq_true rfl⟩) (c_preS hP hK hA hS hV) rfl rfl hl.1 rfl (lv_room (Nat.le_of_ble_eq_true rfl)) dX9_keep_30 ⟨Nat.le_of_ble_eq_true rfl, Nat.le_of_ble_eq_true rfl⟩) hS (fun r30 u H locs q30 hP9 hD9 hT9 hS => ?_)
        obtain ⟨G30, w30⟩ := u
        obtain ⟨hX9, q30⟩ := q30
        have hX9 : cX none (chs [3, 14, 16]) G ws G30 w30 := hX9
        have hP : va_P D vwCl w30 H := hP9
        have hD : va_D A w30 := hD9
        have hT : cT cy G30 w30 := hT9
        have hM_o := hX9.2.1 _ _ (cP.no hG_o rfl) hM_o
        have hG_o := hX9.1 _ _ hG_o
        have hG_bs_o := hX9.1 _ _ hG_bs_o
        have hG_js_o := hX9.1 _ _ hG_js_o
        have hG_sh_o := hX9.1 _ _ hG_sh_o
        have hG_wk_o := hX9.1 _ _ hG_wk_o
        have hG_ll_o := hX9.1 _ _ hG_ll_o
        have hX := hX.tr (hX9.wk (chs_sub (by decide)))
        rcases q30 with rfl | ⟨x30, k30, n30, rfl, hG_x30⟩ | ⟨x30, n30, rfl, hG_x30⟩
        · skip
          refine lv_astoreN (lv' := [(6, .null), (0, .ref o), (1, .int d), (2, .int what), (3, .int k0), (4, .long p0)]) hx hb dX9_keep_33 hl (by decide) rfl (fun ls hl => ?_)
          refine lv_aloadN hx hb dX9_keep_35 (lv_at hl 0 rfl) ?_
          refine lv_ifnonnullN hx hb dX9_keep_37 ?_
          refine lv_iconst (v := (-1)) hx hb dX9_keep_40 (by decide) ?_
          refine W.widen (k := 3) (n := 86) (Nat.le_of_ble_eq_true rfl) (Nat.le_of_ble_eq_true rfl) ?_
          exact W.iret (v := ((-1) : Int32)) hx hb hr (fun t ht hW => ⟨⟨_, (G30, w30), rfl, ⟨hX, trivial⟩, by show va_P D vwCl w30 t.heap; rw [ht]; exact hP, hD, hT⟩, hS.F ht⟩) hS.2.2 dX9_keep_41
        · skip
          refine lv_astore (lv' := [(6, .ref x30), (0, .ref o), (1, .int d), (2, .int what), (3, .int k0), (4, .long p0)]) hx hb dX9_keep_33 hl (by decide) rfl (fun ls hl => ?_)
          refine lv_aload hx hb dX9_keep_35 (lv_at hl 0 rfl) ?_
          refine lv_ifnonnull (tgt := 42) hx hb dX9_keep_37 (by decide) ?_
          refine lv_aload_n hx hb dX9_keep_42 rfl (lv_at hl 1 rfl) ?_
          refine t_get (v := .ref sh_o) (C := RX9) (T := TX9) (N := 9) hx hb hts (by decide +kernel) hown hK hP hM_o rfl 3 (by decide) (hts (.fieldLink RX9 27 "ShadowBench" "shelves" "[LShadowBench$Held;") (by decide +kernel)) (fun _ h9 => h9) rfl dX9_keep_43 ?_
          refine lv_iload_n hx hb dX9_keep_46 rfl (lv_at hl 2 rfl) ?_
          refine lv_aload hx hb dX9_keep_47 (lv_at hl 0 rfl) ?_
          refine t_aast10 hx hb hV hK hP hD hS hT hG_sh_o (Or.inl ⟨_, _, hG_x30⟩) (vp_in_iff.mpr ⟨by omega, by omega⟩) dX9_keep_49 (fun H locs w49 hU49 hP hD hT hS => ?_)
          have hM_o := hU49 _ _ (cne hG_o hG_sh_o (show (7 : Nat) ≠ 10 by decide)) hM_o
          have hX := hX.tr (cX.uF hU49 (Or.inr ⟨_, hG_sh_o, rfl⟩))
          refine lv_iconst (v := 0) hx hb dX9_keep_50 (by decide) ?_
          refine W.widen (k := 3) (n := 86) (Nat.le_of_ble_eq_true rfl) (Nat.le_of_ble_eq_true rfl) ?_
          exact W.iret (v := (0 : Int32)) hx hb hr (fun t ht hW => ⟨⟨_, (G30, w49), rfl, ⟨hX, trivial⟩, by show va_P D vwCl w49 t.heap; rw [ht]; exact hP, hD, hT⟩, hS.F ht⟩) hS.2.2 dX9_keep_51
        · skip
          refine lv_astore (lv' := [(6, .ref x30), (0, .ref o), (1, .int d), (2, .int what), (3, .int k0), (4, .long p0)]) hx hb dX9_keep_33 hl (by decide) rfl (fun ls hl => ?_)
          refine lv_aload hx hb dX9_keep_35 (lv_at hl 0 rfl) ?_
          refine lv_ifnonnull (tgt := 42) hx hb dX9_keep_37 (by decide) ?_
          refine lv_aload_n hx hb dX9_keep_42 rfl (lv_at hl 1 rfl) ?_
          refine t_get (v := .ref sh_o) (C := RX9) (T := TX9) (N := 9) hx hb hts (by decide +kernel) hown hK hP hM_o rfl 3 (by decide) (hts (.fieldLink RX9 27 "ShadowBench" "shelves" "[LShadowBench$Held;") (by decide +kernel)) (fun _ h9 => h9) rfl dX9_keep_43 ?_
          refine lv_iload_n hx hb dX9_keep_46 rfl (lv_at hl 2 rfl) ?_
          refine lv_aload hx hb dX9_keep_47 (lv_at hl 0 rfl) ?_
          refine t_aast10 hx hb hV hK hP hD hS hT hG_sh_o (Or.inr ⟨_, hG_x30⟩) (vp_in_iff.mpr ⟨by omega, by omega⟩) dX9_keep_49 (fun H locs w49 hU49 hP hD hT hS => ?_)
          have hM_o := hU49 _ _ (cne hG_o hG_sh_o (show (7 : Nat) ≠ 10 by decide)) hM_o
          have hX := hX.tr (cX.uF hU49 (Or.inr ⟨_, hG_sh_o, rfl⟩))
          refine lv_iconst (v := 0) hx hb dX9_keep_50 (by decide) ?_
          refine W.widen (k := 3) (n := 86) (Nat.le_of_ble_eq_true rfl) (Nat.le_of_ble_eq_true rfl) ?_
          exact W.iret (v := (0 : Int32)) hx hb hr (fun t ht hW => ⟨⟨_, (G30, w49), rfl, ⟨hX, trivial⟩, by show va_P D vwCl w49 t.heap; rw [ht]; exact hP, hD, hT⟩, hS.F ht⟩) hS.2.2 dX9_keep_51
      · skip
        obtain ⟨kx25, nx25, hG_x25⟩ := q25 x25 rfl
        refine lv_lload hx hb dX9_keep_28 (lv_at hl 4 rfl) ?_
        refine t_calla (va_runS (g := F0 m 30 ls ([.long p0, .ref x25, .int what])) (As := [.int what, .ref x25, .long p0]) (rest := []) ⟨hx, hb, hml, hown, hts⟩ (c_X9_thingToKeep l D cy A G ws what x25 p0 hD hT hG_x25 ) (va_cwS 3 hts gX9_keep_X9_thingToKeep rfl rfl rfl (by decide +kernel) ⟨Nat.le_of_ble_eq_true rfl, Nat.le_of_ble_eq_true rfl⟩) (c_preS hP hK hA hS hV) rfl rfl hl.1 rfl (lv_room (Nat.le_of_ble_eq_true rfl)) dX9_keep_30 ⟨Nat.le_of_ble_eq_true rfl, Nat.le_of_ble_eq_true rfl⟩) hS (fun r30 u H locs q30 hP9 hD9 hT9 hS => ?_)
        obtain ⟨G30, w30⟩ := u
        obtain ⟨hX9, q30⟩ := q30
        have hX9 : cX none (chs [3, 14, 16]) G ws G30 w30 := hX9
        have hP : va_P D vwCl w30 H := hP9
        have hD : va_D A w30 := hD9
        have hT : cT cy G30 w30 := hT9
        have hM_o := hX9.2.1 _ _ (cP.no hG_o rfl) hM_o
        have hG_o := hX9.1 _ _ hG_o
        have hG_bs_o := hX9.1 _ _ hG_bs_o
        have hG_js_o := hX9.1 _ _ hG_js_o
        have hG_sh_o := hX9.1 _ _ hG_sh_o
        have hG_wk_o := hX9.1 _ _ hG_wk_o
        have hG_ll_o := hX9.1 _ _ hG_ll_o
        have hG_x25 := hX9.1 _ _ hG_x25
        have hX := hX.tr (hX9.wk (chs_sub (by decide)))
        rcases q30 with rfl | ⟨x30, k30, n30, rfl, hG_x30⟩ | ⟨x30, n30, rfl, hG_x30⟩
        · skip
          refine lv_astoreN (lv' := [(6, .null), (0, .ref o), (1, .int d), (2, .int what), (3, .int k0), (4, .long p0)]) hx hb dX9_keep_33 hl (by decide) rfl (fun ls hl => ?_)
          refine lv_aloadN hx hb dX9_keep_35 (lv_at hl 0 rfl) ?_
          refine lv_ifnonnullN hx hb dX9_keep_37 ?_
          refine lv_iconst (v := (-1)) hx hb dX9_keep_40 (by decide) ?_
          refine W.widen (k := 3) (n := 86) (Nat.le_of_ble_eq_true rfl) (Nat.le_of_ble_eq_true rfl) ?_
          exact W.iret (v := ((-1) : Int32)) hx hb hr (fun t ht hW => ⟨⟨_, (G30, w30), rfl, ⟨hX, trivial⟩, by show va_P D vwCl w30 t.heap; rw [ht]; exact hP, hD, hT⟩, hS.F ht⟩) hS.2.2 dX9_keep_41
        · skip
          refine lv_astore (lv' := [(6, .ref x30), (0, .ref o), (1, .int d), (2, .int what), (3, .int k0), (4, .long p0)]) hx hb dX9_keep_33 hl (by decide) rfl (fun ls hl => ?_)
          refine lv_aload hx hb dX9_keep_35 (lv_at hl 0 rfl) ?_
          refine lv_ifnonnull (tgt := 42) hx hb dX9_keep_37 (by decide) ?_
          refine lv_aload_n hx hb dX9_keep_42 rfl (lv_at hl 1 rfl) ?_
          refine t_get (v := .ref sh_o) (C := RX9) (T := TX9) (N := 9) hx hb hts (by decide +kernel) hown hK hP hM_o rfl 3 (by decide) (hts (.fieldLink RX9 27 "ShadowBench" "shelves" "[LShadowBench$Held;") (by decide +kernel)) (fun _ h9 => h9) rfl dX9_keep_43 ?_
          refine lv_iload_n hx hb dX9_keep_46 rfl (lv_at hl 2 rfl) ?_
          refine lv_aload hx hb dX9_keep_47 (lv_at hl 0 rfl) ?_
          refine t_aast10 hx hb hV hK hP hD hS hT hG_sh_o (Or.inl ⟨_, _, hG_x30⟩) (vp_in_iff.mpr ⟨by omega, by omega⟩) dX9_keep_49 (fun H locs w49 hU49 hP hD hT hS => ?_)
          have hM_o := hU49 _ _ (cne hG_o hG_sh_o (show (7 : Nat) ≠ 10 by decide)) hM_o
          have hX := hX.tr (cX.uF hU49 (Or.inr ⟨_, hG_sh_o, rfl⟩))
          refine lv_iconst (v := 0) hx hb dX9_keep_50 (by decide) ?_
          refine W.widen (k := 3) (n := 86) (Nat.le_of_ble_eq_true rfl) (Nat.le_of_ble_eq_true rfl) ?_
          exact W.iret (v := (0 : Int32)) hx hb hr (fun t ht hW => ⟨⟨_, (G30, w49), rfl, ⟨hX, trivial⟩, by show va_P D vwCl w49 t.heap; rw [ht]; exact hP, hD, hT⟩, hS.F ht⟩) hS.2.2 dX9_keep_51
        · skip
          refine lv_astore (lv' := [(6, .ref x30), (0, .ref o), (1, .int d), (2, .int what), (3, .int k0), (4, .long p0)]) hx hb dX9_keep_33 hl (by decide) rfl (fun ls hl => ?_)
          refine lv_aload hx hb dX9_keep_35 (lv_at hl 0 rfl) ?_
          refine lv_ifnonnull (tgt := 42) hx hb dX9_keep_37 (by decide) ?_
          refine lv_aload_n hx hb dX9_keep_42 rfl (lv_at hl 1 rfl) ?_
          refine t_get (v := .ref sh_o) (C := RX9) (T := TX9) (N := 9) hx hb hts (by decide +kernel) hown hK hP hM_o rfl 3 (by decide) (hts (.fieldLink RX9 27 "ShadowBench" "shelves" "[LShadowBench$Held;") (by decide +kernel)) (fun _ h9 => h9) rfl dX9_keep_43 ?_
          refine lv_iload_n hx hb dX9_keep_46 rfl (lv_at hl 2 rfl) ?_
          refine lv_aload hx hb dX9_keep_47 (lv_at hl 0 rfl) ?_
          refine t_aast10 hx hb hV hK hP hD hS hT hG_sh_o (Or.inr ⟨_, hG_x30⟩) (vp_in_iff.mpr ⟨by omega, by omega⟩) dX9_keep_49 (fun H locs w49 hU49 hP hD hT hS => ?_)
          have hM_o := hU49 _ _ (cne hG_o hG_sh_o (show (7 : Nat) ≠ 10 by decide)) hM_o
          have hX := hX.tr (cX.uF hU49 (Or.inr ⟨_, hG_sh_o, rfl⟩))
          refine lv_iconst (v := 0) hx hb dX9_keep_50 (by decide) ?_
          refine W.widen (k := 3) (n := 86) (Nat.le_of_ble_eq_true rfl) (Nat.le_of_ble_eq_true rfl) ?_
          exact W.iret (v := (0 : Int32)) hx hb hr (fun t ht hW => ⟨⟨_, (G30, w49), rfl, ⟨hX, trivial⟩, by show va_P D vwCl w49 t.heap; rw [ht]; exact hP, hD, hT⟩, hS.F ht⟩) hS.2.2 dX9_keep_51
    · skip
      have d10 := c10
      rw [fa_eq] at d10
      refine lv_aload_n hx hb dX9_keep_13 rfl (lv_at hl 0 rfl) ?_
      obtain ⟨_, hM_o, bs_o, js_o, sh_o, wk_o, ll_o, jc_o, lc_o, mo_o, lb_o, rfl, hjc_o, hlc_o, hG_bs_o, hG_js_o, hG_sh_o, hG_wk_o, hmo_o, hG_ll_o, hlb_o⟩ := hT _ _ hG_o
      refine t_get (v := .ref sh_o) (C := RX9) (T := TX9) (N := 9) hx hb hts (by decide +kernel) hown hK hP hM_o rfl 3 (by decide) (hts (.fieldLink RX9 27 "ShadowBench" "shelves" "[LShadowBench$Held;") (by decide +kernel)) (fun _ h9 => h9) rfl dX9_keep_14 ?_
      refine lv_iload_n hx hb dX9_keep_17 rfl (lv_at hl 1 rfl) ?_
      refine lv_null hx hb dX9_keep_18 ?_
      refine t_aastN hx hb hK hP hD hS hT hG_sh_o (vp_in_iff.mpr ⟨by omega, by omega⟩) dX9_keep_19 (fun H locs w19 hU19 hP hD hT hS => ?_)
      have hM_o := hU19 _ _ (cne hG_o hG_sh_o (show (7 : Nat) ≠ 10 by decide)) hM_o
      have hX := hX.tr (cX.uF hU19 (Or.inr ⟨_, hG_sh_o, rfl⟩))
      refine lv_iconst (v := 0) hx hb dX9_keep_20 (by decide) ?_
      refine W.widen (k := 3) (n := 86) (Nat.le_of_ble_eq_true rfl) (Nat.le_of_ble_eq_true rfl) ?_
      exact W.iret (v := (0 : Int32)) hx hb hr (fun t ht hW => ⟨⟨_, (G, w19), rfl, ⟨hX, trivial⟩, by show va_P D vwCl w19 t.heap; rw [ht]; exact hP, hD, hT⟩, hS.F ht⟩) hS.2.2 dX9_keep_21
  · skip
    have b4 := bo_f q1 c4
    refine lv_iconst (v := (-1)) hx hb dX9_keep_7 (by decide) ?_
    refine W.widen (k := 3) (n := 86) (Nat.le_of_ble_eq_true rfl) (Nat.le_of_ble_eq_true rfl) ?_
    exact W.iret (v := ((-1) : Int32)) hx hb hr (fun t ht hW => ⟨⟨_, (G, ws), rfl, ⟨hX, trivial⟩, by show va_P D vwCl ws t.heap; rw [ht]; exact hP, hD, hT⟩, hS.F ht⟩) hS.2.2 dX9_keep_8
set_option maxHeartbeats 4000000 in
set_option maxRecDepth 100000 in
theorem c_X9_make (l : Launch) (D : va_G) (cy : Nat → ClassId) (A : Nat → Prop) (G : cG) (ws : va_W) (o : Nat) (d : Int32) (what : Int32) (n1 : Int32)  (hD : va_D A ws) (hT : cT cy G ws) (hG_o : G o = some (7, 0, 0))  : Ci l D cy A yX9_make wsX9_make ({ frames := 3, cells := 2, slots := 62, locals := 62 }) 2 62 ws [.ref o, .int d, .int what, .int n1] (fun r0 u => cX none (chs [10]) G ws u.1 u.2 ∧ (True)) := by
  refine Met.ofW (cc := cX9_make) (maxL := 4) (ret := (some .int)) (by decide) rfl ?_
  intro p e s m args below meth c s₁ B hml hv
  obtain ⟨rfl, hP, hK, hA, hV⟩ := hv
  have hx := B.exec
  have hb := B.bytes
  have hr := B.returns
  have hts := atoms_spec (ws := wsX9_make) B.pre
  have hown : s.vm.findClass RX9 = some m.cls := findClass_of_methodNamed B.named
  have hlocks := B.notSynchronized
  have hS : va_S A s.heap s.heap [] := va_S.rf
  have hX : cX none (chs [10]) G ws G ws := cX.rf
  have hl := lv_entry ([.ref o, .int d, .int what, .int n1]) (n := 4) (Nat.le_of_ble_eq_true rfl)
  rw [lg_entry_eq]
  generalize (lg_sl ([.ref o, .int d, .int what, .int n1]) ++ List.replicate (4 - (lg_sl ([.ref o, .int d, .int what, .int n1])).length) Slot.unset).toArray = ls at hl ⊢
  have hl : lv_has ls 4 [(0, .ref o), (1, .int d), (2, .int what), (3, .int n1)] := hl
  have k_m14 : (-14 : Int32).toInt = -14 := by decide
  have k_m1 : (-1 : Int32).toInt = -1 := by decide
  have k_0 : (0 : Int32).toInt = 0 := by decide
  have k_1 : (1 : Int32).toInt = 1 := by decide
  have k_3 : (3 : Int32).toInt = 3 := by decide
  have k_4 : (4 : Int32).toInt = 4 := by decide
  have k_60 : (60 : Int32).toInt = 60 := by decide
  refine lv_iload_n hx hb dX9_make_0 rfl (lv_at hl 1 rfl) ?_
  refine t_pu (As := [.int d]) (rest := []) ⟨hx, hb, hml, hown, hts⟩ (c_X9_isShelf l d ) (va_cwS 1 hts gX9_make_X9_isShelf rfl rfl rfl (by decide +kernel) ⟨Nat.le_of_ble_eq_true rfl, Nat.le_of_ble_eq_true rfl⟩) hP rfl hl.1 rfl (Nat.le_of_ble_eq_true rfl) dX9_make_1 ⟨Nat.le_of_ble_eq_true rfl, Nat.le_of_ble_eq_true rfl⟩ hS (fun r1 H locs q1 hP hS => ?_)
  refine lv_if_eq (tgt := 23) hx hb dX9_make_4 (by decide) (fun c4 => ?_) (fun c4 => ?_)
  · skip
    have b4 := bo_f q1 c4
    refine lv_iconst (v := (-1)) hx hb dX9_make_23 (by decide) ?_
    refine W.widen (k := 2) (n := 62) (Nat.le_of_ble_eq_true rfl) (Nat.le_of_ble_eq_true rfl) ?_
    exact W.iret (v := ((-1) : Int32)) hx hb hr (fun t ht hW => ⟨⟨_, (G, ws), rfl, ⟨hX, trivial⟩, by show va_P D vwCl ws t.heap; rw [ht]; exact hP, hD, hT⟩, hS.F ht⟩) hS.2.2 dX9_make_24
  · skip
    have b4 := bo_t q1 c4
    refine lv_iload_n hx hb dX9_make_7 rfl (lv_at hl 2 rfl) ?_
    refine lv_iconst (v := 3) hx hb dX9_make_8 (by decide) ?_
    refine lv_icmp_eq (tgt := 17) hx hb dX9_make_9 (by decide) (fun c9 => ?_) (fun c9 => ?_)
    · skip
      have d9 := c9
      rw [fa_eq] at d9
      refine lv_iload_n hx hb dX9_make_17 rfl (lv_at hl 3 rfl) ?_
      refine lv_bipush (v := 60) hx hb dX9_make_18 (by decide) ?_
      refine lv_icmp_le (tgt := 25) hx hb dX9_make_20 (by decide) (fun c20 => ?_) (fun c20 => ?_)
      · skip
        have d20 := c20
        rw [fa_le] at d20
        refine lv_iload_n hx hb dX9_make_25 rfl (lv_at hl 3 rfl) ?_
        refine lv_if_ge (tgt := 32) hx hb dX9_make_26 (by decide) (fun c26 => ?_) (fun c26 => ?_)
        · skip
          have d26 := c26
          rw [fa_le] at d26
          refine lv_aload_n hx hb dX9_make_32 rfl (lv_at hl 0 rfl) ?_
          obtain ⟨_, hM_o, bs_o, js_o, sh_o, wk_o, ll_o, jc_o, lc_o, mo_o, lb_o, rfl, hjc_o, hlc_o, hG_bs_o, hG_js_o, hG_sh_o, hG_wk_o, hmo_o, hG_ll_o, hlb_o⟩ := hT _ _ hG_o
          refine t_get (v := .ref sh_o) (C := RX9) (T := TX9) (N := 9) hx hb hts (by decide +kernel) hown hK hP hM_o rfl 3 (by decide) (hts (.fieldLink RX9 27 "ShadowBench" "shelves" "[LShadowBench$Held;") (by decide +kernel)) (fun _ h9 => h9) rfl dX9_make_33 ?_
          refine lv_iload_n hx hb dX9_make_36 rfl (lv_at hl 1 rfl) ?_
          refine t_new (C := RX7) (T := TX7) (N := 2) (ci := 6) (ty0 := tyX7) (fs := [.int 0, .null]) hx hb hts (by decide +kernel) tyX7_ok hown (hts (.classLink RX9 245 RX7) (by decide +kernel)) (hts (.instantiable RX7 2) (by decide +kernel)) (hts (.initialized RX7) (by decide +kernel)) hK hP hD hS hA hT rfl (by decide +kernel) (Nat.le_of_ble_eq_true rfl) (Nat.le_of_ble_eq_true rfl) dX9_make_37 (fun q37 H w37 hM_q37 hO_q37 hF37 hX37 hk37 hP hD hT hS => ?_)
          have hN_q37 := hX.new0 hO_q37 hF37
          have hM_o := hk37 _ _ hM_o
          have hX := hX.tr (hX37 _ _)
          refine lv_dup hx hb dX9_make_40 rfl ?_
          refine lv_iload_n hx hb dX9_make_41 rfl (lv_at hl 2 rfl) ?_
          refine lv_iconst (v := 3) hx hb dX9_make_42 (by decide) ?_
          refine lv_icmp_ne (tgt := 50) hx hb dX9_make_43 (by decide) (fun c43 => ?_) (fun c43 => ?_)
          · skip
            have d43 := c43
            rw [fa_eq] at d43
            refine lv_iconst (v := 0) hx hb dX9_make_50 (by decide) ?_
            refine lv_iload_n hx hb dX9_make_51 rfl (lv_at hl 3 rfl) ?_
            refine t_callv (va_runI (g := F0 m 52 ls ([.int n1, .int (0 : Int32), .ref q37, .ref q37, .int d, .ref sh_o])) (As := [.int (0 : Int32), .int n1]) (rest := [.ref q37, .int d, .ref sh_o]) (b := q37) ⟨hx, hb, hml, hown, hts⟩ (c_X7_init_i l D cy A G w37 q37 (0 : Int32) n1 hD hT hO_q37 hM_q37 (Or.inl rfl) (by omega)) (cwI 2 hts gX9_make_X7_init rfl rfl rfl (hts (.initialized RX7) (by decide +kernel)) (hts (.methodLink RX9 247 yX7_init) (by decide +kernel)) (hts (.instanceMethod yX7_init) (by decide +kernel)) rfl (by decide +kernel) ⟨Nat.le_of_ble_eq_true rfl, Nat.le_of_ble_eq_true rfl⟩) (c_preS hP hK hA hS hV) rfl rfl hl.1 rfl (lv_room (Nat.le_of_ble_eq_true rfl)) dX9_make_52 ⟨Nat.le_of_ble_eq_true rfl, Nat.le_of_ble_eq_true rfl⟩) hS (fun u H locs q52 hP9 hD9 hT9 hS => ?_)
            obtain ⟨G52, w52⟩ := u
            obtain ⟨hX9, q52⟩ := q52
            have hX9 : cX (some q37) (chs []) G w37 G52 w52 := hX9
            have hP : va_P D vwCl w52 H := hP9
            have hD : va_D A w52 := hD9
            have hT : cT cy G52 w52 := hT9
            have hM_o := hX9.2.1 _ _ (cP.no1 (Ne.symm (cne0 hO_q37 hG_o)) hG_o rfl) hM_o
            have hG_o := hX9.1 _ _ hG_o
            have hG_bs_o := hX9.1 _ _ hG_bs_o
            have hG_js_o := hX9.1 _ _ hG_js_o
            have hG_sh_o := hX9.1 _ _ hG_sh_o
            have hG_wk_o := hX9.1 _ _ hG_wk_o
            have hG_ll_o := hX9.1 _ _ hG_ll_o
            have hG_q37 : G52 q37 = some (4, n1.toNatClampNeg, 0) := q52.1
            have q52 := q52.2
            have hX := hX.trN hN_q37 (hX9.wk (chs_sub (by decide)))
            refine t_aast10 hx hb hV hK hP hD hS hT hG_sh_o (Or.inr ⟨_, hG_q37⟩) (vp_in_iff.mpr ⟨by omega, by omega⟩) dX9_make_55 (fun H locs w55 hU55 hP hD hT hS => ?_)
            have hM_o := hU55 _ _ (cne hG_o hG_sh_o (show (7 : Nat) ≠ 10 by decide)) hM_o
            have hX := hX.tr (cX.uF hU55 (Or.inr ⟨_, hG_sh_o, rfl⟩))
            refine lv_iconst (v := 0) hx hb dX9_make_56 (by decide) ?_
            refine W.widen (k := 2) (n := 62) (Nat.le_of_ble_eq_true rfl) (Nat.le_of_ble_eq_true rfl) ?_
            exact W.iret (v := (0 : Int32)) hx hb hr (fun t ht hW => ⟨⟨_, (G52, w55), rfl, ⟨hX, trivial⟩, by show va_P D vwCl w55 t.heap; rw [ht]; exact hP, hD, hT⟩, hS.F ht⟩) hS.2.2 dX9_make_57
          · skip
            have d43 := c43
            rw [fa_eq] at d43
            refine lv_iconst (v := 1) hx hb dX9_make_46 (by decide) ?_
            refine lv_goto (tgt := 51) hx hb dX9_make_47 (by decide) ?_
            refine lv_iload_n hx hb dX9_make_51 rfl (lv_at hl 3 rfl) ?_
            refine t_callv (va_runI (g := F0 m 52 ls ([.int n1, .int (1 : Int32), .ref q37, .ref q37, .int d, .ref sh_o])) (As := [.int (1 : Int32), .int n1]) (rest := [.ref q37, .int d, .ref sh_o]) (b := q37) ⟨hx, hb, hml, hown, hts⟩ (c_X7_init_i l D cy A G w37 q37 (1 : Int32) n1 hD hT hO_q37 hM_q37 (Or.inr rfl) (by omega)) (cwI 2 hts gX9_make_X7_init rfl rfl rfl (hts (.initialized RX7) (by decide +kernel)) (hts (.methodLink RX9 247 yX7_init) (by decide +kernel)) (hts (.instanceMethod yX7_init) (by decide +kernel)) rfl (by decide +kernel) ⟨Nat.le_of_ble_eq_true rfl, Nat.le_of_ble_eq_true rfl⟩) (c_preS hP hK hA hS hV) rfl rfl hl.1 rfl (lv_room (Nat.le_of_ble_eq_true rfl)) dX9_make_52 ⟨Nat.le_of_ble_eq_true rfl, Nat.le_of_ble_eq_true rfl⟩) hS (fun u H locs q52 hP9 hD9 hT9 hS => ?_)
            obtain ⟨G52, w52⟩ := u
            obtain ⟨hX9, q52⟩ := q52
            have hX9 : cX (some q37) (chs []) G w37 G52 w52 := hX9
            have hP : va_P D vwCl w52 H := hP9
            have hD : va_D A w52 := hD9
            have hT : cT cy G52 w52 := hT9
            have hM_o := hX9.2.1 _ _ (cP.no1 (Ne.symm (cne0 hO_q37 hG_o)) hG_o rfl) hM_o
            have hG_o := hX9.1 _ _ hG_o
            have hG_bs_o := hX9.1 _ _ hG_bs_o
            have hG_js_o := hX9.1 _ _ hG_js_o
            have hG_sh_o := hX9.1 _ _ hG_sh_o
            have hG_wk_o := hX9.1 _ _ hG_wk_o
            have hG_ll_o := hX9.1 _ _ hG_ll_o
            have hG_q37 : G52 q37 = some (4, n1.toNatClampNeg, 0) := q52.1
            have q52 := q52.2
            have hX := hX.trN hN_q37 (hX9.wk (chs_sub (by decide)))
            refine t_aast10 hx hb hV hK hP hD hS hT hG_sh_o (Or.inr ⟨_, hG_q37⟩) (vp_in_iff.mpr ⟨by omega, by omega⟩) dX9_make_55 (fun H locs w55 hU55 hP hD hT hS => ?_)
            have hM_o := hU55 _ _ (cne hG_o hG_sh_o (show (7 : Nat) ≠ 10 by decide)) hM_o
            have hX := hX.tr (cX.uF hU55 (Or.inr ⟨_, hG_sh_o, rfl⟩))
            refine lv_iconst (v := 0) hx hb dX9_make_56 (by decide) ?_
            refine W.widen (k := 2) (n := 62) (Nat.le_of_ble_eq_true rfl) (Nat.le_of_ble_eq_true rfl) ?_
            exact W.iret (v := (0 : Int32)) hx hb hr (fun t ht hW => ⟨⟨_, (G52, w55), rfl, ⟨hX, trivial⟩, by show va_P D vwCl w55 t.heap; rw [ht]; exact hP, hD, hT⟩, hS.F ht⟩) hS.2.2 dX9_make_57
        · skip
          have d26 := c26
          rw [fa_le] at d26
          refine lv_bipush (v := (-14)) hx hb dX9_make_29 (by decide) ?_
          refine W.widen (k := 2) (n := 62) (Nat.le_of_ble_eq_true rfl) (Nat.le_of_ble_eq_true rfl) ?_
          exact W.iret (v := ((-14) : Int32)) hx hb hr (fun t ht hW => ⟨⟨_, (G, ws), rfl, ⟨hX, trivial⟩, by show va_P D vwCl ws t.heap; rw [ht]; exact hP, hD, hT⟩, hS.F ht⟩) hS.2.2 dX9_make_31
      · skip
        have d20 := c20
        rw [fa_le] at d20
        refine lv_iconst (v := (-1)) hx hb dX9_make_23 (by decide) ?_
        refine W.widen (k := 2) (n := 62) (Nat.le_of_ble_eq_true rfl) (Nat.le_of_ble_eq_true rfl) ?_
        exact W.iret (v := ((-1) : Int32)) hx hb hr (fun t ht hW => ⟨⟨_, (G, ws), rfl, ⟨hX, trivial⟩, by show va_P D vwCl ws t.heap; rw [ht]; exact hP, hD, hT⟩, hS.F ht⟩) hS.2.2 dX9_make_24
    · skip
      have d9 := c9
      rw [fa_eq] at d9
      refine lv_iload_n hx hb dX9_make_12 rfl (lv_at hl 2 rfl) ?_
      refine lv_iconst (v := 4) hx hb dX9_make_13 (by decide) ?_
      refine lv_icmp_ne (tgt := 23) hx hb dX9_make_14 (by decide) (fun c14 => ?_) (fun c14 => ?_)
      · skip
        have d14 := c14
        rw [fa_eq] at d14
        refine lv_iconst (v := (-1)) hx hb dX9_make_23 (by decide) ?_
        refine W.widen (k := 2) (n := 62) (Nat.le_of_ble_eq_true rfl) (Nat.le_of_ble_eq_true rfl) ?_
        exact W.iret (v := ((-1) : Int32)) hx hb hr (fun t ht hW => ⟨⟨_, (G, ws), rfl, ⟨hX, trivial⟩, by show va_P D vwCl ws t.heap; rw [ht]; exact hP, hD, hT⟩, hS.F ht⟩) hS.2.2 dX9_make_24
      · skip
        have d14 := c14
        rw [fa_eq] at d14
        refine lv_iload_n hx hb dX9_make_17 rfl (lv_at hl 3 rfl) ?_
        refine lv_bipush (v := 60) hx hb dX9_make_18 (by decide) ?_
        refine lv_icmp_le (tgt := 25) hx hb dX9_make_20 (by decide) (fun c20 => ?_) (fun c20 => ?_)
        · skip
          have d20 := c20
          rw [fa_le] at d20
          refine lv_iload_n hx hb dX9_make_25 rfl (lv_at hl 3 rfl) ?_
          refine lv_if_ge (tgt := 32) hx hb dX9_make_26 (by decide) (fun c26 => ?_) (fun c26 => ?_)
          · skip
            have d26 := c26
            rw [fa_le] at d26
            refine lv_aload_n hx hb dX9_make_32 rfl (lv_at hl 0 rfl) ?_
            obtain ⟨_, hM_o, bs_o, js_o, sh_o, wk_o, ll_o, jc_o, lc_o, mo_o, lb_o, rfl, hjc_o, hlc_o, hG_bs_o, hG_js_o, hG_sh_o, hG_wk_o, hmo_o, hG_ll_o, hlb_o⟩ := hT _ _ hG_o
            refine t_get (v := .ref sh_o) (C := RX9) (T := TX9) (N := 9) hx hb hts (by decide +kernel) hown hK hP hM_o rfl 3 (by decide) (hts (.fieldLink RX9 27 "ShadowBench" "shelves" "[LShadowBench$Held;") (by decide +kernel)) (fun _ h9 => h9) rfl dX9_make_33 ?_
            refine lv_iload_n hx hb dX9_make_36 rfl (lv_at hl 1 rfl) ?_
            refine t_new (C := RX7) (T := TX7) (N := 2) (ci := 6) (ty0 := tyX7) (fs := [.int 0, .null]) hx hb hts (by decide +kernel) tyX7_ok hown (hts (.classLink RX9 245 RX7) (by decide +kernel)) (hts (.instantiable RX7 2) (by decide +kernel)) (hts (.initialized RX7) (by decide +kernel)) hK hP hD hS hA hT rfl (by decide +kernel) (Nat.le_of_ble_eq_true rfl) (Nat.le_of_ble_eq_true rfl) dX9_make_37 (fun q37 H w37 hM_q37 hO_q37 hF37 hX37 hk37 hP hD hT hS => ?_)
            have hN_q37 := hX.new0 hO_q37 hF37
            have hM_o := hk37 _ _ hM_o
            have hX := hX.tr (hX37 _ _)
            refine lv_dup hx hb dX9_make_40 rfl ?_
            refine lv_iload_n hx hb dX9_make_41 rfl (lv_at hl 2 rfl) ?_
            refine lv_iconst (v := 3) hx hb dX9_make_42 (by decide) ?_
            refine lv_icmp_ne (tgt := 50) hx hb dX9_make_43 (by decide) (fun c43 => ?_) (fun c43 => ?_)
            · skip
              have d43 := c43
              rw [fa_eq] at d43
              refine lv_iconst (v := 0) hx hb dX9_make_50 (by decide) ?_
              refine lv_iload_n hx hb dX9_make_51 rfl (lv_at hl 3 rfl) ?_
              refine t_callv (va_runI (g := F0 m 52 ls ([.int n1, .int (0 : Int32), .ref q37, .ref q37, .int d, .ref sh_o])) (As := [.int (0 : Int32), .int n1]) (rest := [.ref q37, .int d, .ref sh_o]) (b := q37) ⟨hx, hb, hml, hown, hts⟩ (c_X7_init_i l D cy A G w37 q37 (0 : Int32) n1 hD hT hO_q37 hM_q37 (Or.inl rfl) (by omega)) (cwI 2 hts gX9_make_X7_init rfl rfl rfl (hts (.initialized RX7) (by decide +kernel)) (hts (.methodLink RX9 247 yX7_init) (by decide +kernel)) (hts (.instanceMethod yX7_init) (by decide +kernel)) rfl (by decide +kernel) ⟨Nat.le_of_ble_eq_true rfl, Nat.le_of_ble_eq_true rfl⟩) (c_preS hP hK hA hS hV) rfl rfl hl.1 rfl (lv_room (Nat.le_of_ble_eq_true rfl)) dX9_make_52 ⟨Nat.le_of_ble_eq_true rfl, Nat.le_of_ble_eq_true rfl⟩) hS (fun u H locs q52 hP9 hD9 hT9 hS => ?_)
              obtain ⟨G52, w52⟩ := u
              obtain ⟨hX9, q52⟩ := q52
              have hX9 : cX (some q37) (chs []) G w37 G52 w52 := hX9
              have hP : va_P D vwCl w52 H := hP9
              have hD : va_D A w52 := hD9
              have hT : cT cy G52 w52 := hT9
              have hM_o := hX9.2.1 _ _ (cP.no1 (Ne.symm (cne0 hO_q37 hG_o)) hG_o rfl) hM_o
              have hG_o := hX9.1 _ _ hG_o
              have hG_bs_o := hX9.1 _ _ hG_bs_o
              have hG_js_o := hX9.1 _ _ hG_js_o
              have hG_sh_o := hX9.1 _ _ hG_sh_o
              have hG_wk_o := hX9.1 _ _ hG_wk_o
              have hG_ll_o := hX9.1 _ _ hG_ll_o
              have hG_q37 : G52 q37 = some (4, n1.toNatClampNeg, 0) := q52.1
              have q52 := q52.2
              have hX := hX.trN hN_q37 (hX9.wk (chs_sub (by decide)))
              refine t_aast10 hx hb hV hK hP hD hS hT hG_sh_o (Or.inr ⟨_, hG_q37⟩) (vp_in_iff.mpr ⟨by omega, by omega⟩) dX9_make_55 (fun H locs w55 hU55 hP hD hT hS => ?_)
              have hM_o := hU55 _ _ (cne hG_o hG_sh_o (show (7 : Nat) ≠ 10 by decide)) hM_o
              have hX := hX.tr (cX.uF hU55 (Or.inr ⟨_, hG_sh_o, rfl⟩))
              refine lv_iconst (v := 0) hx hb dX9_make_56 (by decide) ?_
              refine W.widen (k := 2) (n := 62) (Nat.le_of_ble_eq_true rfl) (Nat.le_of_ble_eq_true rfl) ?_
              exact W.iret (v := (0 : Int32)) hx hb hr (fun t ht hW => ⟨⟨_, (G52, w55), rfl, ⟨hX, trivial⟩, by show va_P D vwCl w55 t.heap; rw [ht]; exact hP, hD, hT⟩, hS.F ht⟩) hS.2.2 dX9_make_57
            · skip
              have d43 := c43
              rw [fa_eq] at d43
              refine lv_iconst (v := 1) hx hb dX9_make_46 (by decide) ?_
              refine lv_goto (tgt := 51) hx hb dX9_make_47 (by decide) ?_
              refine lv_iload_n hx hb dX9_make_51 rfl (lv_at hl 3 rfl) ?_
              refine t_callv (va_runI (g := F0 m 52 ls ([.int n1, .int (1 : Int32), .ref q37, .ref q37, .int d, .ref sh_o])) (As := [.int (1 : Int32), .int n1]) (rest := [.ref q37, .int d, .ref sh_o]) (b := q37) ⟨hx, hb, hml, hown, hts⟩ (c_X7_init_i l D cy A G w37 q37 (1 : Int32) n1 hD hT hO_q37 hM_q37 (Or.inr rfl) (by omega)) (cwI 2 hts gX9_make_X7_init rfl rfl rfl (hts (.initialized RX7) (by decide +kernel)) (hts (.methodLink RX9 247 yX7_init) (by decide +kernel)) (hts (.instanceMethod yX7_init) (by decide +kernel)) rfl (by decide +kernel) ⟨Nat.le_of_ble_eq_true rfl, Nat.le_of_ble_eq_true rfl⟩) (c_preS hP hK hA hS hV) rfl rfl hl.1 rfl (lv_room (Nat.le_of_ble_eq_true rfl)) dX9_make_52 ⟨Nat.le_of_ble_eq_true rfl, Nat.le_of_ble_eq_true rfl⟩) hS (fun u H locs q52 hP9 hD9 hT9 hS => ?_)
              obtain ⟨G52, w52⟩ := u
              obtain ⟨hX9, q52⟩ := q52
              have hX9 : cX (some q37) (chs []) G w37 G52 w52 := hX9
              have hP : va_P D vwCl w52 H := hP9
              have hD : va_D A w52 := hD9
              have hT : cT cy G52 w52 := hT9
              have hM_o := hX9.2.1 _ _ (cP.no1 (Ne.symm (cne0 hO_q37 hG_o)) hG_o rfl) hM_o
              have hG_o := hX9.1 _ _ hG_o
              have hG_bs_o := hX9.1 _ _ hG_bs_o
              have hG_js_o := hX9.1 _ _ hG_js_o
              have hG_sh_o := hX9.1 _ _ hG_sh_o
              have hG_wk_o := hX9.1 _ _ hG_wk_o
              have hG_ll_o := hX9.1 _ _ hG_ll_o
              have hG_q37 : G52 q37 = some (4, n1.toNatClampNeg, 0) := q52.1
              have q52 := q52.2
              have hX := hX.trN hN_q37 (hX9.wk (chs_sub (by decide)))
              refine t_aast10 hx hb hV hK hP hD hS hT hG_sh_o (Or.inr ⟨_, hG_q37⟩) (vp_in_iff.mpr ⟨by omega, by omega⟩) dX9_make_55 (fun H locs w55 hU55 hP hD hT hS => ?_)
              have hM_o := hU55 _ _ (cne hG_o hG_sh_o (show (7 : Nat) ≠ 10 by decide)) hM_o
              have hX := hX.tr (cX.uF hU55 (Or.inr ⟨_, hG_sh_o, rfl⟩))
              refine lv_iconst (v := 0) hx hb dX9_make_56 (by decide) ?_
              refine W.widen (k := 2) (n := 62) (Nat.le_of_ble_eq_true rfl) (Nat.le_of_ble_eq_true rfl) ?_
              exact W.iret (v := (0 : Int32)) hx hb hr (fun t ht hW => ⟨⟨_, (G52, w55), rfl, ⟨hX, trivial⟩, by show va_P D vwCl w55 t.heap; rw [ht]; exact hP, hD, hT⟩, hS.F ht⟩) hS.2.2 dX9_make_57
          · skip
            have d26 := c26
            rw [fa_le] at d26
            refine lv_bipush (v := (-14)) hx hb dX9_make_29 (by decide) ?_
            refine W.widen (k := 2) (n := 62) (Nat.le_of_ble_eq_true rfl) (Nat.le_of_ble_eq_true rfl) ?_
            exact W.iret (v := ((-14) : Int32)) hx hb hr (fun t ht hW => ⟨⟨_, (G, ws), rfl, ⟨hX, trivial⟩, by show va_P D vwCl ws t.heap; rw [ht]; exact hP, hD, hT⟩, hS.F ht⟩) hS.2.2 dX9_make_31
        · skip
          have d20 := c20
          rw [fa_le] at d20
          refine lv_iconst (v := (-1)) hx hb dX9_make_23 (by decide) ?_
          refine W.widen (k := 2) (n := 62) (Nat.le_of_ble_eq_true rfl) (Nat.le_of_ble_eq_true rfl) ?_
          exact W.iret (v := ((-1) : Int32)) hx hb hr (fun t ht hW => ⟨⟨_, (G, ws), rfl, ⟨hX, trivial⟩, by show va_P D vwCl ws t.heap; rw [ht]; exact hP, hD, hT⟩, hS.F ht⟩) hS.2.2 dX9_make_24
set_option maxHeartbeats 4000000 in
set_option maxRecDepth 100000 in
theorem c_X9_copy (l : Launch) (D : va_G) (cy : Nat → ClassId) (A : Nat → Prop) (G : cG) (ws : va_W) (o : Nat) (d : Int32) (i : Int32) (e0 : Int32) (j : Int32) (m0 : Int32)  (hD : va_D A ws) (hT : cT cy G ws) (hG_o : G o = some (7, 0, 0))  : Ci l D cy A yX9_copy wsX9_copy ({ frames := 2, cells := 0, slots := 0, locals := 92 }) 0 0 ws [.ref o, .int d, .int i, .int e0, .int j, .int m0] (fun r0 u => cX none (chs [16]) G ws u.1 u.2 ∧ (True)) := by
  refine Met.ofW (cc := cX9_copy) (maxL := 9) (ret := (some .int)) (by decide) rfl ?_
  intro p e s m args below meth c s₁ B hml hv
  obtain ⟨rfl, hP, hK, hA, hV⟩ := hv
  have hx := B.exec
  have hb := B.bytes
  have hr := B.returns
  have hts := atoms_spec (ws := wsX9_copy) B.pre
  have hown : s.vm.findClass RX9 = some m.cls := findClass_of_methodNamed B.named
  have hlocks := B.notSynchronized
  have hS : va_S A s.heap s.heap [] := va_S.rf
  have hX : cX none (chs [16]) G ws G ws := cX.rf
  have hl := lv_entry ([.ref o, .int d, .int i, .int e0, .int j, .int m0]) (n := 9) (Nat.le_of_ble_eq_true rfl)
  rw [lg_entry_eq]
  generalize (lg_sl ([.ref o, .int d, .int i, .int e0, .int j, .int m0]) ++ List.replicate (9 - (lg_sl ([.ref o, .int d, .int i, .int e0, .int j, .int m0])).length) Slot.unset).toArray = ls at hl ⊢
  have hl : lv_has ls 9 [(0, .ref o), (1, .int d), (2, .int i), (3, .int e0), (4, .int j), (5, .int m0)] := hl
  have k_m13 : (-13 : Int32).toInt = -13 := by decide
  have k_m12 : (-12 : Int32).toInt = -12 := by decide
  have k_m11 : (-11 : Int32).toInt = -11 := by decide
  have k_m1 : (-1 : Int32).toInt = -1 := by decide
  have k_0 : (0 : Int32).toInt = 0 := by decide
  refine lv_iload_n hx hb dX9_copy_0 rfl (lv_at hl 1 rfl) ?_
  refine t_pu (As := [.int d]) (rest := []) ⟨hx, hb, hml, hown, hts⟩ (c_X9_isShelf l d ) (va_cwS 1 hts gX9_copy_X9_isShelf rfl rfl rfl (by decide +kernel) ⟨Nat.le_of_ble_eq_true rfl, Nat.le_of_ble_eq_true rfl⟩) hP rfl hl.1 rfl (Nat.le_of_ble_eq_true rfl) dX9_copy_1 ⟨Nat.le_of_ble_eq_true rfl, Nat.le_of_ble_eq_true rfl⟩ hS (fun r1 H locs q1 hP hS => ?_)
  refine lv_if_eq (tgt := 14) hx hb dX9_copy_4 (by decide) (fun c4 => ?_) (fun c4 => ?_)
  · skip
    have b4 := bo_f q1 c4
    refine lv_iconst (v := (-1)) hx hb dX9_copy_14 (by decide) ?_
    exact W.iret (v := ((-1) : Int32)) hx hb hr (fun t ht hW => ⟨⟨_, (G, ws), rfl, ⟨hX, trivial⟩, by show va_P D vwCl ws t.heap; rw [ht]; exact hP, hD, hT⟩, hS.F ht⟩) hS.2.2 dX9_copy_15
  · skip
    have b4 := bo_t q1 c4
    refine lv_iload_n hx hb dX9_copy_7 rfl (lv_at hl 3 rfl) ?_
    refine t_pu (As := [.int e0]) (rest := []) ⟨hx, hb, hml, hown, hts⟩ (c_X9_isShelf l e0 ) (va_cwS 1 hts gX9_copy_X9_isShelf rfl rfl rfl (by decide +kernel) ⟨Nat.le_of_ble_eq_true rfl, Nat.le_of_ble_eq_true rfl⟩) hP rfl hl.1 rfl (Nat.le_of_ble_eq_true rfl) dX9_copy_8 ⟨Nat.le_of_ble_eq_true rfl, Nat.le_of_ble_eq_true rfl⟩ hS (fun r8 H locs q8 hP hS => ?_)
    refine lv_if_ne (tgt := 16) hx hb dX9_copy_11 (by decide) (fun c11 => ?_) (fun c11 => ?_)
    · skip
      have b11 := bo_t q8 c11
      refine lv_aload_n hx hb dX9_copy_16 rfl (lv_at hl 0 rfl) ?_
      obtain ⟨_, hM_o, bs_o, js_o, sh_o, wk_o, ll_o, jc_o, lc_o, mo_o, lb_o, rfl, hjc_o, hlc_o, hG_bs_o, hG_js_o, hG_sh_o, hG_wk_o, hmo_o, hG_ll_o, hlb_o⟩ := hT _ _ hG_o
      refine t_get (v := .ref sh_o) (C := RX9) (T := TX9) (N := 9) hx hb hts (by decide +kernel) hown hK hP hM_o rfl 3 (by decide) (hts (.fieldLink RX9 27 "ShadowBench" "shelves" "[LShadowBench$Held;") (by decide +kernel)) (fun _ h9 => h9) rfl dX9_copy_17 ?_
      refine lv_iload_n hx hb dX9_copy_20 rfl (lv_at hl 1 rfl) ?_
      refine t_aald10 hx hb hK hP hT hG_sh_o (vp_in_iff.mpr ⟨by omega, by omega⟩) dX9_copy_21 ?_ (fun x21 kx21 nx21 hG_x21 => ?_) (fun x21 nx21 hG_x21 => ?_)
      · skip
        refine lv_ifnullN (tgt := 34) hx hb dX9_copy_22 (by decide) ?_
        refine lv_bipush (v := (-11)) hx hb dX9_copy_34 (by decide) ?_
        exact W.iret (v := ((-11) : Int32)) hx hb hr (fun t ht hW => ⟨⟨_, (G, ws), rfl, ⟨hX, trivial⟩, by show va_P D vwCl ws t.heap; rw [ht]; exact hP, hD, hT⟩, hS.F ht⟩) hS.2.2 dX9_copy_36
      · skip
        refine lv_ifnull hx hb dX9_copy_22 ?_
        refine lv_aload_n hx hb dX9_copy_25 rfl (lv_at hl 0 rfl) ?_
        refine t_get (v := .ref sh_o) (C := RX9) (T := TX9) (N := 9) hx hb hts (by decide +kernel) hown hK hP hM_o rfl 3 (by decide) (hts (.fieldLink RX9 27 "ShadowBench" "shelves" "[LShadowBench$Held;") (by decide +kernel)) (fun _ h9 => h9) rfl dX9_copy_26 ?_
        refine lv_iload_n hx hb dX9_copy_29 rfl (lv_at hl 3 rfl) ?_
        refine t_aald10 hx hb hK hP hT hG_sh_o (vp_in_iff.mpr ⟨by omega, by omega⟩) dX9_copy_30 ?_ (fun x30 kx30 nx30 hG_x30 => ?_) (fun x30 nx30 hG_x30 => ?_)
        · skip
          refine lv_ifnonnullN hx hb dX9_copy_31 ?_
          refine lv_bipush (v := (-11)) hx hb dX9_copy_34 (by decide) ?_
          exact W.iret (v := ((-11) : Int32)) hx hb hr (fun t ht hW => ⟨⟨_, (G, ws), rfl, ⟨hX, trivial⟩, by show va_P D vwCl ws t.heap; rw [ht]; exact hP, hD, hT⟩, hS.F ht⟩) hS.2.2 dX9_copy_36
        · skip
          refine lv_ifnonnull (tgt := 37) hx hb dX9_copy_31 (by decide) ?_
          refine lv_aload_n hx hb dX9_copy_37 rfl (lv_at hl 0 rfl) ?_
          refine t_get (v := .ref sh_o) (C := RX9) (T := TX9) (N := 9) hx hb hts (by decide +kernel) hown hK hP hM_o rfl 3 (by decide) (hts (.fieldLink RX9 27 "ShadowBench" "shelves" "[LShadowBench$Held;") (by decide +kernel)) (fun _ h9 => h9) rfl dX9_copy_38 ?_
          refine lv_iload_n hx hb dX9_copy_41 rfl (lv_at hl 1 rfl) ?_
          refine t_aald10 hx hb hK hP hT hG_sh_o (vp_in_iff.mpr ⟨by omega, by omega⟩) dX9_copy_42 ?_ (fun x42 kx42 nx42 hG_x42 => ?_) (fun x42 nx42 hG_x42 => ?_)
          · skip
            refine lv_astoreN (lv' := [(8, .null), (0, .ref o), (1, .int d), (2, .int i), (3, .int e0), (4, .int j), (5, .int m0)]) hx hb dX9_copy_43 hl (by decide) rfl (fun ls hl => ?_)
            refine lv_aloadN hx hb dX9_copy_45 (lv_at hl 0 rfl) ?_
            refine lv_instN hx hb dX9_copy_47 ?_
            refine lv_if_eq (tgt := 137) hx hb dX9_copy_50 (by decide) (fun c50 => ?_) (fun c50 => ?_)
            · skip
              have d50 := c50
              rw [fa_eq] at d50
              refine lv_bipush (v := (-12)) hx hb dX9_copy_137 (by decide) ?_
              exact W.iret (v := ((-12) : Int32)) hx hb hr (fun t ht hW => ⟨⟨_, (G, ws), rfl, ⟨hX, trivial⟩, by show va_P D vwCl ws t.heap; rw [ht]; exact hP, hD, hT⟩, hS.F ht⟩) hS.2.2 dX9_copy_139
            · first | exact absurd c50 (by decide) | exact absurd (by decide) c50
          · skip
            refine lv_astore (lv' := [(8, .ref x42), (0, .ref o), (1, .int d), (2, .int i), (3, .int e0), (4, .int j), (5, .int m0)]) hx hb dX9_copy_43 hl (by decide) rfl (fun ls hl => ?_)
            refine lv_aload hx hb dX9_copy_45 (lv_at hl 0 rfl) ?_
            obtain ⟨_, hM_x42, b_x42, s_x42, w_x42, h_x42, t_x42, x_x42, y_x42, ms_x42, rfl, hG_b_x42, hG_s_x42, hJ_x42⟩ := hT _ _ hG_x42
            refine t_instRN hx hb hV hown (hts (.classLink RX9 245 RX7) (by decide +kernel)) hK hP hJ_x42.kc hM_x42 dX9_copy_47 ?_
            refine lv_if_eq (tgt := 137) hx hb dX9_copy_50 (by decide) (fun c50 => ?_) (fun c50 => ?_)
            · skip
              have d50 := c50
              rw [fa_eq] at d50
              refine lv_bipush (v := (-12)) hx hb dX9_copy_137 (by decide) ?_
              exact W.iret (v := ((-12) : Int32)) hx hb hr (fun t ht hW => ⟨⟨_, (G, ws), rfl, ⟨hX, trivial⟩, by show va_P D vwCl ws t.heap; rw [ht]; exact hP, hD, hT⟩, hS.F ht⟩) hS.2.2 dX9_copy_139
            · first | exact absurd c50 (by decide) | exact absurd (by decide) c50
          · skip
            refine lv_astore (lv' := [(8, .ref x42), (0, .ref o), (1, .int d), (2, .int i), (3, .int e0), (4, .int j), (5, .int m0)]) hx hb dX9_copy_43 hl (by decide) rfl (fun ls hl => ?_)
            refine lv_aload hx hb dX9_copy_45 (lv_at hl 0 rfl) ?_
            obtain ⟨_, hM_x42, hn_x42, z_x42, a_x42, rfl, hz_x42, hG_a_x42⟩ := hT _ _ hG_x42
            refine va_instS hx hb hown (hts (.classLink RX9 245 RX7) (by decide +kernel)) (hK.1 6 _ rfl).2 (t_recJ hK hP hM_x42 rfl) dX9_copy_47 ?_
            refine lv_if_eq (tgt := 137) hx hb dX9_copy_50 (by decide) (fun c50 => ?_) (fun c50 => ?_)
            · first | exact absurd c50 (by decide) | exact absurd (by decide) c50
            · skip
              have d50 := c50
              rw [fa_eq] at d50
              refine lv_aload hx hb dX9_copy_53 (lv_at hl 0 rfl) ?_
              refine va_castS hx hb hown (hts (.classLink RX9 245 RX7) (by decide +kernel)) (hK.1 6 _ rfl).2 (t_recJ hK hP hM_x42 rfl) dX9_copy_55 ?_
              refine lv_astore (lv' := [(6, .ref x42), (8, .ref x42), (0, .ref o), (1, .int d), (2, .int i), (3, .int e0), (4, .int j), (5, .int m0)]) hx hb dX9_copy_58 hl (by decide) rfl (fun ls hl => ?_)
              refine lv_aload_n hx hb dX9_copy_60 rfl (lv_at hl 2 rfl) ?_
              refine t_get (v := .ref sh_o) (C := RX9) (T := TX9) (N := 9) hx hb hts (by decide +kernel) hown hK hP hM_o rfl 3 (by decide) (hts (.fieldLink RX9 27 "ShadowBench" "shelves" "[LShadowBench$Held;") (by decide +kernel)) (fun _ h9 => h9) rfl dX9_copy_61 ?_
              refine lv_iload_n hx hb dX9_copy_64 rfl (lv_at hl 5 rfl) ?_
              refine t_aald10 hx hb hK hP hT hG_sh_o (vp_in_iff.mpr ⟨by omega, by omega⟩) dX9_copy_65 ?_ (fun x65 kx65 nx65 hG_x65 => ?_) (fun x65 nx65 hG_x65 => ?_)
              · skip
                refine lv_astoreN (lv' := [(8, .null), (6, .ref x42), (0, .ref o), (1, .int d), (2, .int i), (3, .int e0), (4, .int j), (5, .int m0)]) hx hb dX9_copy_66 hl (by decide) rfl (fun ls hl => ?_)
                refine lv_aloadN hx hb dX9_copy_68 (lv_at hl 0 rfl) ?_
                refine lv_instN hx hb dX9_copy_70 ?_
                refine lv_if_eq (tgt := 137) hx hb dX9_copy_73 (by decide) (fun c73 => ?_) (fun c73 => ?_)
                · skip
                  have d73 := c73
                  rw [fa_eq] at d73
                  refine lv_bipush (v := (-12)) hx hb dX9_copy_137 (by decide) ?_
                  exact W.iret (v := ((-12) : Int32)) hx hb hr (fun t ht hW => ⟨⟨_, (G, ws), rfl, ⟨hX, trivial⟩, by show va_P D vwCl ws t.heap; rw [ht]; exact hP, hD, hT⟩, hS.F ht⟩) hS.2.2 dX9_copy_139
                · first | exact absurd c73 (by decide) | exact absurd (by decide) c73
              · skip
                refine lv_astore (lv' := [(8, .ref x65), (6, .ref x42), (0, .ref o), (1, .int d), (2, .int i), (3, .int e0), (4, .int j), (5, .int m0)]) hx hb dX9_copy_66 hl (by decide) rfl (fun ls hl => ?_)
                refine lv_aload hx hb dX9_copy_68 (lv_at hl 0 rfl) ?_
                obtain ⟨_, hM_x65, b_x65, s_x65, w_x65, h_x65, t_x65, x_x65, y_x65, ms_x65, rfl, hG_b_x65, hG_s_x65, hJ_x65⟩ := hT _ _ hG_x65
                refine t_instRN hx hb hV hown (hts (.classLink RX9 245 RX7) (by decide +kernel)) hK hP hJ_x65.kc hM_x65 dX9_copy_70 ?_
                refine lv_if_eq (tgt := 137) hx hb dX9_copy_73 (by decide) (fun c73 => ?_) (fun c73 => ?_)
                · skip
                  have d73 := c73
                  rw [fa_eq] at d73
                  refine lv_bipush (v := (-12)) hx hb dX9_copy_137 (by decide) ?_
                  exact W.iret (v := ((-12) : Int32)) hx hb hr (fun t ht hW => ⟨⟨_, (G, ws), rfl, ⟨hX, trivial⟩, by show va_P D vwCl ws t.heap; rw [ht]; exact hP, hD, hT⟩, hS.F ht⟩) hS.2.2 dX9_copy_139
                · first | exact absurd c73 (by decide) | exact absurd (by decide) c73
              · skip
                refine lv_astore (lv' := [(8, .ref x65), (6, .ref x42), (0, .ref o), (1, .int d), (2, .int i), (3, .int e0), (4, .int j), (5, .int m0)]) hx hb dX9_copy_66 hl (by decide) rfl (fun ls hl => ?_)
                refine lv_aload hx hb dX9_copy_68 (lv_at hl 0 rfl) ?_
                obtain ⟨_, hM_x65, hn_x65, z_x65, a_x65, rfl, hz_x65, hG_a_x65⟩ := hT _ _ hG_x65
                refine va_instS hx hb hown (hts (.classLink RX9 245 RX7) (by decide +kernel)) (hK.1 6 _ rfl).2 (t_recJ hK hP hM_x65 rfl) dX9_copy_70 ?_
                refine lv_if_eq (tgt := 137) hx hb dX9_copy_73 (by decide) (fun c73 => ?_) (fun c73 => ?_)
                · first | exact absurd c73 (by decide) | exact absurd (by decide) c73
                · skip
                  have d73 := c73
                  rw [fa_eq] at d73
                  refine lv_aload hx hb dX9_copy_76 (lv_at hl 0 rfl) ?_
                  refine va_castS hx hb hown (hts (.classLink RX9 245 RX7) (by decide +kernel)) (hK.1 6 _ rfl).2 (t_recJ hK hP hM_x65 rfl) dX9_copy_78 ?_
                  refine lv_astore (lv' := [(7, .ref x65), (8, .ref x65), (6, .ref x42), (0, .ref o), (1, .int d), (2, .int i), (3, .int e0), (4, .int j), (5, .int m0)]) hx hb dX9_copy_81 hl (by decide) rfl (fun ls hl => ?_)
                  refine lv_aload hx hb dX9_copy_83 (lv_at hl 2 rfl) ?_
                  refine t_get (v := .int z_x42) (C := RX7) (T := TX7) (N := 2) hx hb hts (by decide +kernel) hown hK hP hM_x42 rfl 0 (by decide) (hts (.fieldLink RX9 264 "ShadowBench$Row" "ofBytes" "Z") (by decide +kernel)) (fun _ h9 => h9) rfl dX9_copy_85 ?_
                  refine lv_aload hx hb dX9_copy_88 (lv_at hl 0 rfl) ?_
                  refine t_get (v := .int z_x65) (C := RX7) (T := TX7) (N := 2) hx hb hts (by decide +kernel) hown hK hP hM_x65 rfl 0 (by decide) (hts (.fieldLink RX9 264 "ShadowBench$Row" "ofBytes" "Z") (by decide +kernel)) (fun _ h9 => h9) rfl dX9_copy_90 ?_
                  refine lv_icmp_ne (tgt := 137) hx hb dX9_copy_93 (by decide) (fun c93 => ?_) (fun c93 => ?_)
                  · skip
                    have d93 := c93
                    rw [fa_eq] at d93
                    refine lv_bipush (v := (-12)) hx hb dX9_copy_137 (by decide) ?_
                    exact W.iret (v := ((-12) : Int32)) hx hb hr (fun t ht hW => ⟨⟨_, (G, ws), rfl, ⟨hX, trivial⟩, by show va_P D vwCl ws t.heap; rw [ht]; exact hP, hD, hT⟩, hS.F ht⟩) hS.2.2 dX9_copy_139
                  · skip
                    have d93 := c93
                    rw [fa_eq] at d93
                    refine lv_aload hx hb dX9_copy_96 (lv_at hl 2 rfl) ?_
                    refine lv_iload_n hx hb dX9_copy_98 rfl (lv_at hl 5 rfl) ?_
                    refine lv_iload hx hb dX9_copy_99 (lv_at hl 8 rfl) ?_
                    refine t_calli (va_runV (g := F0 m 101 ls ([.int m0, .int i, .ref x42])) (As := [.int i, .int m0]) (rest := []) ⟨hx, hb, hml, hown, hts⟩ (c_X7_has l D cy A G ws x42 i m0 hD hT hG_x42 ) (cwV 2 hts gX9_copy_X7_has rfl rfl rfl (by decide +kernel) ⟨Nat.le_of_ble_eq_true rfl, Nat.le_of_ble_eq_true rfl⟩) (c_preV hM_x42 rfl hP hK hA hS hV) rfl rfl hl.1 rfl (lv_room (Nat.le_of_ble_eq_true rfl)) dX9_copy_101 ⟨Nat.le_of_ble_eq_true rfl, Nat.le_of_ble_eq_true rfl⟩) hS (fun r101 u H locs q101 hP9 hD9 hT9 hS => ?_)
                    obtain ⟨rfl, q101⟩ := q101
                    have hP : va_P D vwCl ws H := hP9
                    refine lv_if_eq (tgt := 119) hx hb dX9_copy_104 (by decide) (fun c104 => ?_) (fun c104 => ?_)
                    · skip
                      have b104 := bo_f q101 c104
                      refine lv_bipush (v := (-13)) hx hb dX9_copy_119 (by decide) ?_
                      exact W.iret (v := ((-13) : Int32)) hx hb hr (fun t ht hW => ⟨⟨_, (G, ws), rfl, ⟨hX, trivial⟩, by show va_P D vwCl ws t.heap; rw [ht]; exact hP, hD, hT⟩, hS.F ht⟩) hS.2.2 dX9_copy_121
                    · skip
                      have b104 := bo_t q101 c104
                      refine lv_aload hx hb dX9_copy_107 (lv_at hl 0 rfl) ?_
                      refine lv_iload hx hb dX9_copy_109 (lv_at hl 7 rfl) ?_
                      refine lv_iload hx hb dX9_copy_111 (lv_at hl 8 rfl) ?_
                      refine t_calli (va_runV (g := F0 m 113 ls ([.int m0, .int j, .ref x65])) (As := [.int j, .int m0]) (rest := []) ⟨hx, hb, hml, hown, hts⟩ (c_X7_has l D cy A G ws x65 j m0 hD hT hG_x65 ) (cwV 2 hts gX9_copy_X7_has rfl rfl rfl (by decide +kernel) ⟨Nat.le_of_ble_eq_true rfl, Nat.le_of_ble_eq_true rfl⟩) (c_preV hM_x65 rfl hP hK hA hS hV) rfl rfl hl.1 rfl (lv_room (Nat.le_of_ble_eq_true rfl)) dX9_copy_113 ⟨Nat.le_of_ble_eq_true rfl, Nat.le_of_ble_eq_true rfl⟩) hS (fun r113 u H locs q113 hP9 hD9 hT9 hS => ?_)
                      obtain ⟨rfl, q113⟩ := q113
                      have hP : va_P D vwCl ws H := hP9
                      refine lv_if_ne (tgt := 122) hx hb dX9_copy_116 (by decide) (fun c116 => ?_) (fun c116 => ?_)
                      · skip
                        have b116 := bo_t q113 c116
                        refine lv_aload hx hb dX9_copy_122 (lv_at hl 0 rfl) ?_
                        refine lv_aload hx hb dX9_copy_124 (lv_at hl 2 rfl) ?_
                        refine lv_iload_n hx hb dX9_copy_126 rfl (lv_at hl 5 rfl) ?_
                        refine lv_iload hx hb dX9_copy_127 (lv_at hl 7 rfl) ?_
                        refine lv_iload hx hb dX9_copy_129 (lv_at hl 8 rfl) ?_
                        refine t_callv (va_runV (g := F0 m 131 ls ([.int m0, .int j, .int i, .ref x42, .ref x65])) (As := [.ref x42, .int i, .int j, .int m0]) (rest := []) ⟨hx, hb, hml, hown, hts⟩ (c_X7_takeFrom l D cy A G ws x65 x42 i j m0 hD hT hG_x65 hG_x42 ) (cwV 4 hts gX9_copy_X7_takeFrom rfl rfl rfl (by decide +kernel) ⟨Nat.le_of_ble_eq_true rfl, Nat.le_of_ble_eq_true rfl⟩) (c_preV hM_x65 rfl hP hK hA hS hV) rfl rfl hl.1 rfl (lv_room (Nat.le_of_ble_eq_true rfl)) dX9_copy_131 ⟨Nat.le_of_ble_eq_true rfl, Nat.le_of_ble_eq_true rfl⟩) hS (fun u H locs q131 hP9 hD9 hT9 hS => ?_)
                        obtain ⟨G131, w131⟩ := u
                        obtain ⟨hX9, q131⟩ := q131
                        have hX9 : cX none (chs [16]) G ws G131 w131 := hX9
                        have hP : va_P D vwCl w131 H := hP9
                        have hD : va_D A w131 := hD9
                        have hT : cT cy G131 w131 := hT9
                        have hM_o := hX9.2.1 _ _ (cP.no hG_o rfl) hM_o
                        have hM_x42 := hX9.2.1 _ _ (cP.no hG_x42 rfl) hM_x42
                        have hM_x65 := hX9.2.1 _ _ (cP.no hG_x65 rfl) hM_x65
                        have hG_o := hX9.1 _ _ hG_o
                        have hG_bs_o := hX9.1 _ _ hG_bs_o
                        have hG_js_o := hX9.1 _ _ hG_js_o
                        have hG_sh_o := hX9.1 _ _ hG_sh_o
                        have hG_wk_o := hX9.1 _ _ hG_wk_o
                        have hG_ll_o := hX9.1 _ _ hG_ll_o
                        have hG_x21 := hX9.1 _ _ hG_x21
                        have hG_x30 := hX9.1 _ _ hG_x30
                        have hG_x42 := hX9.1 _ _ hG_x42
                        have hG_a_x42 := hX9.1 _ _ hG_a_x42
                        have hG_x65 := hX9.1 _ _ hG_x65
                        have hG_a_x65 := hX9.1 _ _ hG_a_x65
                        have hX := hX.tr hX9
                        refine lv_iload hx hb dX9_copy_134 (lv_at hl 8 rfl) ?_
                        exact W.iret (v := m0) hx hb hr (fun t ht hW => ⟨⟨_, (G131, w131), rfl, ⟨hX, trivial⟩, by show va_P D vwCl w131 t.heap; rw [ht]; exact hP, hD, hT⟩, hS.F ht⟩) hS.2.2 dX9_copy_136
                      · skip
                        have b116 := bo_f q113 c116
                        refine lv_bipush (v := (-13)) hx hb dX9_copy_119 (by decide) ?_
                        exact W.iret (v := ((-13) : Int32)) hx hb hr (fun t ht hW => ⟨⟨_, (G, ws), rfl, ⟨hX, trivial⟩, by show va_P D vwCl ws t.heap; rw [ht]; exact hP, hD, hT⟩, hS.F ht⟩) hS.2.2 dX9_copy_121
        · skip
          refine lv_ifnonnull (tgt := 37) hx hb dX9_copy_31 (by decide) ?_
          refine lv_aload_n hx hb dX9_copy_37 rfl (lv_at hl 0 rfl) ?_
          refine t_get (v := .ref sh_o) (C := RX9) (T := TX9) (N := 9) hx hb hts (by decide +kernel) hown hK hP hM_o rfl 3 (by decide) (hts (.fieldLink RX9 27 "ShadowBench" "shelves" "[LShadowBench$Held;") (by decide +kernel)) (fun _ h9 => h9) rfl dX9_copy_38 ?_
          refine lv_iload_n hx hb dX9_copy_41 rfl (lv_at hl 1 rfl) ?_
          refine t_aald10 hx hb hK hP hT hG_sh_o (vp_in_iff.mpr ⟨by omega, by omega⟩) dX9_copy_42 ?_ (fun x42 kx42 nx42 hG_x42 => ?_) (fun x42 nx42 hG_x42 => ?_)
          · skip
            refine lv_astoreN (lv' := [(8, .null), (0, .ref o), (1, .int d), (2, .int i), (3, .int e0), (4, .int j), (5, .int m0)]) hx hb dX9_copy_43 hl (by decide) rfl (fun ls hl => ?_)
            refine lv_aloadN hx hb dX9_copy_45 (lv_at hl 0 rfl) ?_
            refine lv_instN hx hb dX9_copy_47 ?_
            refine lv_if_eq (tgt := 137) hx hb dX9_copy_50 (by decide) (fun c50 => ?_) (fun c50 => ?_)
            · skip
              have d50 := c50
              rw [fa_eq] at d50
              refine lv_bipush (v := (-12)) hx hb dX9_copy_137 (by decide) ?_
              exact W.iret (v := ((-12) : Int32)) hx hb hr (fun t ht hW => ⟨⟨_, (G, ws), rfl, ⟨hX, trivial⟩, by show va_P D vwCl ws t.heap; rw [ht]; exact hP, hD, hT⟩, hS.F ht⟩) hS.2.2 dX9_copy_139
            · first | exact absurd c50 (by decide) | exact absurd (by decide) c50
          · skip
            refine lv_astore (lv' := [(8, .ref x42), (0, .ref o), (1, .int d), (2, .int i), (3, .int e0), (4, .int j), (5, .int m0)]) hx hb dX9_copy_43 hl (by decide) rfl (fun ls hl => ?_)
            refine lv_aload hx hb dX9_copy_45 (lv_at hl 0 rfl) ?_
            obtain ⟨_, hM_x42, b_x42, s_x42, w_x42, h_x42, t_x42, x_x42, y_x42, ms_x42, rfl, hG_b_x42, hG_s_x42, hJ_x42⟩ := hT _ _ hG_x42
            refine t_instRN hx hb hV hown (hts (.classLink RX9 245 RX7) (by decide +kernel)) hK hP hJ_x42.kc hM_x42 dX9_copy_47 ?_
            refine lv_if_eq (tgt := 137) hx hb dX9_copy_50 (by decide) (fun c50 => ?_) (fun c50 => ?_)
            · skip
              have d50 := c50
              rw [fa_eq] at d50
              refine lv_bipush (v := (-12)) hx hb dX9_copy_137 (by decide) ?_
              exact W.iret (v := ((-12) : Int32)) hx hb hr (fun t ht hW => ⟨⟨_, (G, ws), rfl, ⟨hX, trivial⟩, by show va_P D vwCl ws t.heap; rw [ht]; exact hP, hD, hT⟩, hS.F ht⟩) hS.2.2 dX9_copy_139
            · first | exact absurd c50 (by decide) | exact absurd (by decide) c50
          · skip
            refine lv_astore (lv' := [(8, .ref x42), (0, .ref o), (1, .int d), (2, .int i), (3, .int e0), (4, .int j), (5, .int m0)]) hx hb dX9_copy_43 hl (by decide) rfl (fun ls hl => ?_)
            refine lv_aload hx hb dX9_copy_45 (lv_at hl 0 rfl) ?_
            obtain ⟨_, hM_x42, hn_x42, z_x42, a_x42, rfl, hz_x42, hG_a_x42⟩ := hT _ _ hG_x42
            refine va_instS hx hb hown (hts (.classLink RX9 245 RX7) (by decide +kernel)) (hK.1 6 _ rfl).2 (t_recJ hK hP hM_x42 rfl) dX9_copy_47 ?_
            refine lv_if_eq (tgt := 137) hx hb dX9_copy_50 (by decide) (fun c50 => ?_) (fun c50 => ?_)
            · first | exact absurd c50 (by decide) | exact absurd (by decide) c50
            · skip
              have d50 := c50
              rw [fa_eq] at d50
              refine lv_aload hx hb dX9_copy_53 (lv_at hl 0 rfl) ?_
              refine va_castS hx hb hown (hts (.classLink RX9 245 RX7) (by decide +kernel)) (hK.1 6 _ rfl).2 (t_recJ hK hP hM_x42 rfl) dX9_copy_55 ?_
              refine lv_astore (lv' := [(6, .ref x42), (8, .ref x42), (0, .ref o), (1, .int d), (2, .int i), (3, .int e0), (4, .int j), (5, .int m0)]) hx hb dX9_copy_58 hl (by decide) rfl (fun ls hl => ?_)
              refine lv_aload_n hx hb dX9_copy_60 rfl (lv_at hl 2 rfl) ?_
              refine t_get (v := .ref sh_o) (C := RX9) (T := TX9) (N := 9) hx hb hts (by decide +kernel) hown hK hP hM_o rfl 3 (by decide) (hts (.fieldLink RX9 27 "ShadowBench" "shelves" "[LShadowBench$Held;") (by decide +kernel)) (fun _ h9 => h9) rfl dX9_copy_61 ?_
              refine lv_iload_n hx hb dX9_copy_64 rfl (lv_at hl 5 rfl) ?_
              refine t_aald10 hx hb hK hP hT hG_sh_o (vp_in_iff.mpr ⟨by omega, by omega⟩) dX9_copy_65 ?_ (fun x65 kx65 nx65 hG_x65 => ?_) (fun x65 nx65 hG_x65 => ?_)
              · skip
                refine lv_astoreN (lv' := [(8, .null), (6, .ref x42), (0, .ref o), (1, .int d), (2, .int i), (3, .int e0), (4, .int j), (5, .int m0)]) hx hb dX9_copy_66 hl (by decide) rfl (fun ls hl => ?_)
                refine lv_aloadN hx hb dX9_copy_68 (lv_at hl 0 rfl) ?_
                refine lv_instN hx hb dX9_copy_70 ?_
                refine lv_if_eq (tgt := 137) hx hb dX9_copy_73 (by decide) (fun c73 => ?_) (fun c73 => ?_)
                · skip
                  have d73 := c73
                  rw [fa_eq] at d73
                  refine lv_bipush (v := (-12)) hx hb dX9_copy_137 (by decide) ?_
                  exact W.iret (v := ((-12) : Int32)) hx hb hr (fun t ht hW => ⟨⟨_, (G, ws), rfl, ⟨hX, trivial⟩, by show va_P D vwCl ws t.heap; rw [ht]; exact hP, hD, hT⟩, hS.F ht⟩) hS.2.2 dX9_copy_139
                · first | exact absurd c73 (by decide) | exact absurd (by decide) c73
              · skip
                refine lv_astore (lv' := [(8, .ref x65), (6, .ref x42), (0, .ref o), (1, .int d), (2, .int i), (3, .int e0), (4, .int j), (5, .int m0)]) hx hb dX9_copy_66 hl (by decide) rfl (fun ls hl => ?_)
                refine lv_aload hx hb dX9_copy_68 (lv_at hl 0 rfl) ?_
                obtain ⟨_, hM_x65, b_x65, s_x65, w_x65, h_x65, t_x65, x_x65, y_x65, ms_x65, rfl, hG_b_x65, hG_s_x65, hJ_x65⟩ := hT _ _ hG_x65
                refine t_instRN hx hb hV hown (hts (.classLink RX9 245 RX7) (by decide +kernel)) hK hP hJ_x65.kc hM_x65 dX9_copy_70 ?_
                refine lv_if_eq (tgt := 137) hx hb dX9_copy_73 (by decide) (fun c73 => ?_) (fun c73 => ?_)
                · skip
                  have d73 := c73
                  rw [fa_eq] at d73
                  refine lv_bipush (v := (-12)) hx hb dX9_copy_137 (by decide) ?_
                  exact W.iret (v := ((-12) : Int32)) hx hb hr (fun t ht hW => ⟨⟨_, (G, ws), rfl, ⟨hX, trivial⟩, by show va_P D vwCl ws t.heap; rw [ht]; exact hP, hD, hT⟩, hS.F ht⟩) hS.2.2 dX9_copy_139
                · first | exact absurd c73 (by decide) | exact absurd (by decide) c73
              · skip
                refine lv_astore (lv' := [(8, .ref x65), (6, .ref x42), (0, .ref o), (1, .int d), (2, .int i), (3, .int e0), (4, .int j), (5, .int m0)]) hx hb dX9_copy_66 hl (by decide) rfl (fun ls hl => ?_)
                refine lv_aload hx hb dX9_copy_68 (lv_at hl 0 rfl) ?_
                obtain ⟨_, hM_x65, hn_x65, z_x65, a_x65, rfl, hz_x65, hG_a_x65⟩ := hT _ _ hG_x65
                refine va_instS hx hb hown (hts (.classLink RX9 245 RX7) (by decide +kernel)) (hK.1 6 _ rfl).2 (t_recJ hK hP hM_x65 rfl) dX9_copy_70 ?_
                refine lv_if_eq (tgt := 137) hx hb dX9_copy_73 (by decide) (fun c73 => ?_) (fun c73 => ?_)
                · first | exact absurd c73 (by decide) | exact absurd (by decide) c73
                · skip
                  have d73 := c73
                  rw [fa_eq] at d73
                  refine lv_aload hx hb dX9_copy_76 (lv_at hl 0 rfl) ?_
                  refine va_castS hx hb hown (hts (.classLink RX9 245 RX7) (by decide +kernel)) (hK.1 6 _ rfl).2 (t_recJ hK hP hM_x65 rfl) dX9_copy_78 ?_
                  refine lv_astore (lv' := [(7, .ref x65), (8, .ref x65), (6, .ref x42), (0, .ref o), (1, .int d), (2, .int i), (3, .int e0), (4, .int j), (5, .int m0)]) hx hb dX9_copy_81 hl (by decide) rfl (fun ls hl => ?_)
                  refine lv_aload hx hb dX9_copy_83 (lv_at hl 2 rfl) ?_
                  refine t_get (v := .int z_x42) (C := RX7) (T := TX7) (N := 2) hx hb hts (by decide +kernel) hown hK hP hM_x42 rfl 0 (by decide) (hts (.fieldLink RX9 264 "ShadowBench$Row" "ofBytes" "Z") (by decide +kernel)) (fun _ h9 => h9) rfl dX9_copy_85 ?_
                  refine lv_aload hx hb dX9_copy_88 (lv_at hl 0 rfl) ?_
                  refine t_get (v := .int z_x65) (C := RX7) (T := TX7) (N := 2) hx hb hts (by decide +kernel) hown hK hP hM_x65 rfl 0 (by decide) (hts (.fieldLink RX9 264 "ShadowBench$Row" "ofBytes" "Z") (by decide +kernel)) (fun _ h9 => h9) rfl dX9_copy_90 ?_
                  refine lv_icmp_ne (tgt := 137) hx hb dX9_copy_93 (by decide) (fun c93 => ?_) (fun c93 => ?_)
                  · skip
                    have d93 := c93
                    rw [fa_eq] at d93
                    refine lv_bipush (v := (-12)) hx hb dX9_copy_137 (by decide) ?_
                    exact W.iret (v := ((-12) : Int32)) hx hb hr (fun t ht hW => ⟨⟨_, (G, ws), rfl, ⟨hX, trivial⟩, by show va_P D vwCl ws t.heap; rw [ht]; exact hP, hD, hT⟩, hS.F ht⟩) hS.2.2 dX9_copy_139
                  · skip
                    have d93 := c93
                    rw [fa_eq] at d93
                    refine lv_aload hx hb dX9_copy_96 (lv_at hl 2 rfl) ?_
                    refine lv_iload_n hx hb dX9_copy_98 rfl (lv_at hl 5 rfl) ?_
                    refine lv_iload hx hb dX9_copy_99 (lv_at hl 8 rfl) ?_
                    refine t_calli (va_runV (g := F0 m 101 ls ([.int m0, .int i, .ref x42])) (As := [.int i, .int m0]) (rest := []) ⟨hx, hb, hml, hown, hts⟩ (c_X7_has l D cy A G ws x42 i m0 hD hT hG_x42 ) (cwV 2 hts gX9_copy_X7_has rfl rfl rfl (by decide +kernel) ⟨Nat.le_of_ble_eq_true rfl, Nat.le_of_ble_eq_true rfl⟩) (c_preV hM_x42 rfl hP hK hA hS hV) rfl rfl hl.1 rfl (lv_room (Nat.le_of_ble_eq_true rfl)) dX9_copy_101 ⟨Nat.le_of_ble_eq_true rfl, Nat.le_of_ble_eq_true rfl⟩) hS (fun r101 u H locs q101 hP9 hD9 hT9 hS => ?_)
                    obtain ⟨rfl, q101⟩ := q101
                    have hP : va_P D vwCl ws H := hP9
                    refine lv_if_eq (tgt := 119) hx hb dX9_copy_104 (by decide) (fun c104 => ?_) (fun c104 => ?_)
                    · skip
                      have b104 := bo_f q101 c104
                      refine lv_bipush (v := (-13)) hx hb dX9_copy_119 (by decide) ?_
                      exact W.iret (v := ((-13) : Int32)) hx hb hr (fun t ht hW => ⟨⟨_, (G, ws), rfl, ⟨hX, trivial⟩, by show va_P D vwCl ws t.heap; rw [ht]; exact hP, hD, hT⟩, hS.F ht⟩) hS.2.2 dX9_copy_121
                    · skip
                      have b104 := bo_t q101 c104
                      refine lv_aload hx hb dX9_copy_107 (lv_at hl 0 rfl) ?_
                      refine lv_iload hx hb dX9_copy_109 (lv_at hl 7 rfl) ?_
                      refine lv_iload hx hb dX9_copy_111 (lv_at hl 8 rfl) ?_
                      refine t_calli (va_runV (g := F0 m 113 ls ([.int m0, .int j, .ref x65])) (As := [.int j, .int m0]) (rest := []) ⟨hx, hb, hml, hown, hts⟩ (c_X7_has l D cy A G ws x65 j m0 hD hT hG_x65 ) (cwV 2 hts gX9_copy_X7_has rfl rfl rfl (by decide +kernel) ⟨Nat.le_of_ble_eq_true rfl, Nat.le_of_ble_eq_true rfl⟩) (c_preV hM_x65 rfl hP hK hA hS hV) rfl rfl hl.1 rfl (lv_room (Nat.le_of_ble_eq_true rfl)) dX9_copy_113 ⟨Nat.le_of_ble_eq_true rfl, Nat.le_of_ble_eq_true rfl⟩) hS (fun r113 u H locs q113 hP9 hD9 hT9 hS => ?_)
                      obtain ⟨rfl, q113⟩ := q113
                      have hP : va_P D vwCl ws H := hP9
                      refine lv_if_ne (tgt := 122) hx hb dX9_copy_116 (by decide) (fun c116 => ?_) (fun c116 => ?_)
                      · skip
                        have b116 := bo_t q113 c116
                        refine lv_aload hx hb dX9_copy_122 (lv_at hl 0 rfl) ?_
                        refine lv_aload hx hb dX9_copy_124 (lv_at hl 2 rfl) ?_
                        refine lv_iload_n hx hb dX9_copy_126 rfl (lv_at hl 5 rfl) ?_
                        refine lv_iload hx hb dX9_copy_127 (lv_at hl 7 rfl) ?_
                        refine lv_iload hx hb dX9_copy_129 (lv_at hl 8 rfl) ?_
                        refine t_callv (va_runV (g := F0 m 131 ls ([.int m0, .int j, .int i, .ref x42, .ref x65])) (As := [.ref x42, .int i, .int j, .int m0]) (rest := []) ⟨hx, hb, hml, hown, hts⟩ (c_X7_takeFrom l D cy A G ws x65 x42 i j m0 hD hT hG_x65 hG_x42 ) (cwV 4 hts gX9_copy_X7_takeFrom rfl rfl rfl (by decide +kernel) ⟨Nat.le_of_ble_eq_true rfl, Nat.le_of_ble_eq_true rfl⟩) (c_preV hM_x65 rfl hP hK hA hS hV) rfl rfl hl.1 rfl (lv_room (Nat.le_of_ble_eq_true rfl)) dX9_copy_131 ⟨Nat.le_of_ble_eq_true rfl, Nat.le_of_ble_eq_true rfl⟩) hS (fun u H locs q131 hP9 hD9 hT9 hS => ?_)
                        obtain ⟨G131, w131⟩ := u
                        obtain ⟨hX9, q131⟩ := q131
                        have hX9 : cX none (chs [16]) G ws G131 w131 := hX9
                        have hP : va_P D vwCl w131 H := hP9
                        have hD : va_D A w131 := hD9
                        have hT : cT cy G131 w131 := hT9
                        have hM_o := hX9.2.1 _ _ (cP.no hG_o rfl) hM_o
                        have hM_x42 := hX9.2.1 _ _ (cP.no hG_x42 rfl) hM_x42
                        have hM_x65 := hX9.2.1 _ _ (cP.no hG_x65 rfl) hM_x65
                        have hG_o := hX9.1 _ _ hG_o
                        have hG_bs_o := hX9.1 _ _ hG_bs_o
                        have hG_js_o := hX9.1 _ _ hG_js_o
                        have hG_sh_o := hX9.1 _ _ hG_sh_o
                        have hG_wk_o := hX9.1 _ _ hG_wk_o
                        have hG_ll_o := hX9.1 _ _ hG_ll_o
                        have hG_x21 := hX9.1 _ _ hG_x21
                        have hG_x30 := hX9.1 _ _ hG_x30
                        have hG_x42 := hX9.1 _ _ hG_x42
                        have hG_a_x42 := hX9.1 _ _ hG_a_x42
                        have hG_x65 := hX9.1 _ _ hG_x65
                        have hG_a_x65 := hX9.1 _ _ hG_a_x65
                        have hX := hX.tr hX9
                        refine lv_iload hx hb dX9_copy_134 (lv_at hl 8 rfl) ?_
                        exact W.iret (v := m0) hx hb hr (fun t ht hW => ⟨⟨_, (G131, w131), rfl, ⟨hX, trivial⟩, by show va_P D vwCl w131 t.heap; rw [ht]; exact hP, hD, hT⟩, hS.F ht⟩) hS.2.2 dX9_copy_136
                      · skip
                        have b116 := bo_f q113 c116
                        refine lv_bipush (v := (-13)) hx hb dX9_copy_119 (by decide) ?_
                        exact W.iret (v := ((-13) : Int32)) hx hb hr (fun t ht hW => ⟨⟨_, (G, ws), rfl, ⟨hX, trivial⟩, by show va_P D vwCl ws t.heap; rw [ht]; exact hP, hD, hT⟩, hS.F ht⟩) hS.2.2 dX9_copy_121
      · skip
        refine lv_ifnull hx hb dX9_copy_22 ?_
        refine lv_aload_n hx hb dX9_copy_25 rfl (lv_at hl 0 rfl) ?_
        refine t_get (v := .ref sh_o) (C := RX9) (T := TX9) (N := 9) hx hb hts (by decide +kernel) hown hK hP hM_o rfl 3 (by decide) (hts (.fieldLink RX9 27 "ShadowBench" "shelves" "[LShadowBench$Held;") (by decide +kernel)) (fun _ h9 => h9) rfl dX9_copy_26 ?_
        refine lv_iload_n hx hb dX9_copy_29 rfl (lv_at hl 3 rfl) ?_
        refine t_aald10 hx hb hK hP hT hG_sh_o (vp_in_iff.mpr ⟨by omega, by omega⟩) dX9_copy_30 ?_ (fun x30 kx30 nx30 hG_x30 => ?_) (fun x30 nx30 hG_x30 => ?_)
        · skip
          refine lv_ifnonnullN hx hb dX9_copy_31 ?_
          refine lv_bipush (v := (-11)) hx hb dX9_copy_34 (by decide) ?_
          exact W.iret (v := ((-11) : Int32)) hx hb hr (fun t ht hW => ⟨⟨_, (G, ws), rfl, ⟨hX, trivial⟩, by show va_P D vwCl ws t.heap; rw [ht]; exact hP, hD, hT⟩, hS.F ht⟩) hS.2.2 dX9_copy_36
        · skip
          refine lv_ifnonnull (tgt := 37) hx hb dX9_copy_31 (by decide) ?_
          refine lv_aload_n hx hb dX9_copy_37 rfl (lv_at hl 0 rfl) ?_
          refine t_get (v := .ref sh_o) (C := RX9) (T := TX9) (N := 9) hx hb hts (by decide +kernel) hown hK hP hM_o rfl 3 (by decide) (hts (.fieldLink RX9 27 "ShadowBench" "shelves" "[LShadowBench$Held;") (by decide +kernel)) (fun _ h9 => h9) rfl dX9_copy_38 ?_
          refine lv_iload_n hx hb dX9_copy_41 rfl (lv_at hl 1 rfl) ?_
          refine t_aald10 hx hb hK hP hT hG_sh_o (vp_in_iff.mpr ⟨by omega, by omega⟩) dX9_copy_42 ?_ (fun x42 kx42 nx42 hG_x42 => ?_) (fun x42 nx42 hG_x42 => ?_)
          · skip
            refine lv_astoreN (lv' := [(8, .null), (0, .ref o), (1, .int d), (2, .int i), (3, .int e0), (4, .int j), (5, .int m0)]) hx hb dX9_copy_43 hl (by decide) rfl (fun ls hl => ?_)
            refine lv_aloadN hx hb dX9_copy_45 (lv_at hl 0 rfl) ?_
            refine lv_instN hx hb dX9_copy_47 ?_
            refine lv_if_eq (tgt := 137) hx hb dX9_copy_50 (by decide) (fun c50 => ?_) (fun c50 => ?_)
            · skip
              have d50 := c50
              rw [fa_eq] at d50
              refine lv_bipush (v := (-12)) hx hb dX9_copy_137 (by decide) ?_
              exact W.iret (v := ((-12) : Int32)) hx hb hr (fun t ht hW => ⟨⟨_, (G, ws), rfl, ⟨hX, trivial⟩, by show va_P D vwCl ws t.heap; rw [ht]; exact hP, hD, hT⟩, hS.F ht⟩) hS.2.2 dX9_copy_139
            · first | exact absurd c50 (by decide) | exact absurd (by decide) c50
          · skip
            refine lv_astore (lv' := [(8, .ref x42), (0, .ref o), (1, .int d), (2, .int i), (3, .int e0), (4, .int j), (5, .int m0)]) hx hb dX9_copy_43 hl (by decide) rfl (fun ls hl => ?_)
            refine lv_aload hx hb dX9_copy_45 (lv_at hl 0 rfl) ?_
            obtain ⟨_, hM_x42, b_x42, s_x42, w_x42, h_x42, t_x42, x_x42, y_x42, ms_x42, rfl, hG_b_x42, hG_s_x42, hJ_x42⟩ := hT _ _ hG_x42
            refine t_instRN hx hb hV hown (hts (.classLink RX9 245 RX7) (by decide +kernel)) hK hP hJ_x42.kc hM_x42 dX9_copy_47 ?_
            refine lv_if_eq (tgt := 137) hx hb dX9_copy_50 (by decide) (fun c50 => ?_) (fun c50 => ?_)
            · skip
              have d50 := c50
              rw [fa_eq] at d50
              refine lv_bipush (v := (-12)) hx hb dX9_copy_137 (by decide) ?_
              exact W.iret (v := ((-12) : Int32)) hx hb hr (fun t ht hW => ⟨⟨_, (G, ws), rfl, ⟨hX, trivial⟩, by show va_P D vwCl ws t.heap; rw [ht]; exact hP, hD, hT⟩, hS.F ht⟩) hS.2.2 dX9_copy_139
            · first | exact absurd c50 (by decide) | exact absurd (by decide) c50
          · skip
            refine lv_astore (lv' := [(8, .ref x42), (0, .ref o), (1, .int d), (2, .int i), (3, .int e0), (4, .int j), (5, .int m0)]) hx hb dX9_copy_43 hl (by decide) rfl (fun ls hl => ?_)
            refine lv_aload hx hb dX9_copy_45 (lv_at hl 0 rfl) ?_
            obtain ⟨_, hM_x42, hn_x42, z_x42, a_x42, rfl, hz_x42, hG_a_x42⟩ := hT _ _ hG_x42
            refine va_instS hx hb hown (hts (.classLink RX9 245 RX7) (by decide +kernel)) (hK.1 6 _ rfl).2 (t_recJ hK hP hM_x42 rfl) dX9_copy_47 ?_
            refine lv_if_eq (tgt := 137) hx hb dX9_copy_50 (by decide) (fun c50 => ?_) (fun c50 => ?_)
            · first | exact absurd c50 (by decide) | exact absurd (by decide) c50
            · skip
              have d50 := c50
              rw [fa_eq] at d50
              refine lv_aload hx hb dX9_copy_53 (lv_at hl 0 rfl) ?_
              refine va_castS hx hb hown (hts (.classLink RX9 245 RX7) (by decide +kernel)) (hK.1 6 _ rfl).2 (t_recJ hK hP hM_x42 rfl) dX9_copy_55 ?_
              refine lv_astore (lv' := [(6, .ref x42), (8, .ref x42), (0, .ref o), (1, .int d), (2, .int i), (3, .int e0), (4, .int j), (5, .int m0)]) hx hb dX9_copy_58 hl (by decide) rfl (fun ls hl => ?_)
              refine lv_aload_n hx hb dX9_copy_60 rfl (lv_at hl 2 rfl) ?_
              refine t_get (v := .ref sh_o) (C := RX9) (T := TX9) (N := 9) hx hb hts (by decide +kernel) hown hK hP hM_o rfl 3 (by decide) (hts (.fieldLink RX9 27 "ShadowBench" "shelves" "[LShadowBench$Held;") (by decide +kernel)) (fun _ h9 => h9) rfl dX9_copy_61 ?_
              refine lv_iload_n hx hb dX9_copy_64 rfl (lv_at hl 5 rfl) ?_
              refine t_aald10 hx hb hK hP hT hG_sh_o (vp_in_iff.mpr ⟨by omega, by omega⟩) dX9_copy_65 ?_ (fun x65 kx65 nx65 hG_x65 => ?_) (fun x65 nx65 hG_x65 => ?_)
              · skip
                refine lv_astoreN (lv' := [(8, .null), (6, .ref x42), (0, .ref o), (1, .int d), (2, .int i), (3, .int e0), (4, .int j), (5, .int m0)]) hx hb dX9_copy_66 hl (by decide) rfl (fun ls hl => ?_)
                refine lv_aloadN hx hb dX9_copy_68 (lv_at hl 0 rfl) ?_
                refine lv_instN hx hb dX9_copy_70 ?_
                refine lv_if_eq (tgt := 137) hx hb dX9_copy_73 (by decide) (fun c73 => ?_) (fun c73 => ?_)
                · skip
                  have d73 := c73
                  rw [fa_eq] at d73
                  refine lv_bipush (v := (-12)) hx hb dX9_copy_137 (by decide) ?_
                  exact W.iret (v := ((-12) : Int32)) hx hb hr (fun t ht hW => ⟨⟨_, (G, ws), rfl, ⟨hX, trivial⟩, by show va_P D vwCl ws t.heap; rw [ht]; exact hP, hD, hT⟩, hS.F ht⟩) hS.2.2 dX9_copy_139
                · first | exact absurd c73 (by decide) | exact absurd (by decide) c73
              · skip
                refine lv_astore (lv' := [(8, .ref x65), (6, .ref x42), (0, .ref o), (1, .int d), (2, .int i), (3, .int e0), (4, .int j), (5, .int m0)]) hx hb dX9_copy_66 hl (by decide) rfl (fun ls hl => ?_)
                refine lv_aload hx hb dX9_copy_68 (lv_at hl 0 rfl) ?_
                obtain ⟨_, hM_x65, b_x65, s_x65, w_x65, h_x65, t_x65, x_x65, y_x65, ms_x65, rfl, hG_b_x65, hG_s_x65, hJ_x65⟩ := hT _ _ hG_x65
                refine t_instRN hx hb hV hown (hts (.classLink RX9 245 RX7) (by decide +kernel)) hK hP hJ_x65.kc hM_x65 dX9_copy_70 ?_
                refine lv_if_eq (tgt := 137) hx hb dX9_copy_73 (by decide) (fun c73 => ?_) (fun c73 => ?_)
                · skip
                  have d73 := c73
                  rw [fa_eq] at d73
                  refine lv_bipush (v := (-12)) hx hb dX9_copy_137 (by decide) ?_
                  exact W.iret (v := ((-12) : Int32)) hx hb hr (fun t ht hW => ⟨⟨_, (G, ws), rfl, ⟨hX, trivial⟩, by show va_P D vwCl ws t.heap; rw [ht]; exact hP, hD, hT⟩, hS.F ht⟩) hS.2.2 dX9_copy_139
                · first | exact absurd c73 (by decide) | exact absurd (by decide) c73
              · skip
                refine lv_astore (lv' := [(8, .ref x65), (6, .ref x42), (0, .ref o), (1, .int d), (2, .int i), (3, .int e0), (4, .int j), (5, .int m0)]) hx hb dX9_copy_66 hl (by decide) rfl (fun ls hl => ?_)
                refine lv_aload hx hb dX9_copy_68 (lv_at hl 0 rfl) ?_
                obtain ⟨_, hM_x65, hn_x65, z_x65, a_x65, rfl, hz_x65, hG_a_x65⟩ := hT _ _ hG_x65
                refine va_instS hx hb hown (hts (.classLink RX9 245 RX7) (by decide +kernel)) (hK.1 6 _ rfl).2 (t_recJ hK hP hM_x65 rfl) dX9_copy_70 ?_
                refine lv_if_eq (tgt := 137) hx hb dX9_copy_73 (by decide) (fun c73 => ?_) (fun c73 => ?_)
                · first | exact absurd c73 (by decide) | exact absurd (by decide) c73
                · skip
                  have d73 := c73
                  rw [fa_eq] at d73
                  refine lv_aload hx hb dX9_copy_76 (lv_at hl 0 rfl) ?_
                  refine va_castS hx hb hown (hts (.classLink RX9 245 RX7) (by decide +kernel)) (hK.1 6 _ rfl).2 (t_recJ hK hP hM_x65 rfl) dX9_copy_78 ?_
                  refine lv_astore (lv' := [(7, .ref x65), (8, .ref x65), (6, .ref x42), (0, .ref o), (1, .int d), (2, .int i), (3, .int e0), (4, .int j), (5, .int m0)]) hx hb dX9_copy_81 hl (by decide) rfl (fun ls hl => ?_)
                  refine lv_aload hx hb dX9_copy_83 (lv_at hl 2 rfl) ?_
                  refine t_get (v := .int z_x42) (C := RX7) (T := TX7) (N := 2) hx hb hts (by decide +kernel) hown hK hP hM_x42 rfl 0 (by decide) (hts (.fieldLink RX9 264 "ShadowBench$Row" "ofBytes" "Z") (by decide +kernel)) (fun _ h9 => h9) rfl dX9_copy_85 ?_
                  refine lv_aload hx hb dX9_copy_88 (lv_at hl 0 rfl) ?_
                  refine t_get (v := .int z_x65) (C := RX7) (T := TX7) (N := 2) hx hb hts (by decide +kernel) hown hK hP hM_x65 rfl 0 (by decide) (hts (.fieldLink RX9 264 "ShadowBench$Row" "ofBytes" "Z") (by decide +kernel)) (fun _ h9 => h9) rfl dX9_copy_90 ?_
                  refine lv_icmp_ne (tgt := 137) hx hb dX9_copy_93 (by decide) (fun c93 => ?_) (fun c93 => ?_)
                  · skip
                    have d93 := c93
                    rw [fa_eq] at d93
                    refine lv_bipush (v := (-12)) hx hb dX9_copy_137 (by decide) ?_
                    exact W.iret (v := ((-12) : Int32)) hx hb hr (fun t ht hW => ⟨⟨_, (G, ws), rfl, ⟨hX, trivial⟩, by show va_P D vwCl ws t.heap; rw [ht]; exact hP, hD, hT⟩, hS.F ht⟩) hS.2.2 dX9_copy_139
                  · skip
                    have d93 := c93
                    rw [fa_eq] at d93
                    refine lv_aload hx hb dX9_copy_96 (lv_at hl 2 rfl) ?_
                    refine lv_iload_n hx hb dX9_copy_98 rfl (lv_at hl 5 rfl) ?_
                    refine lv_iload hx hb dX9_copy_99 (lv_at hl 8 rfl) ?_
                    refine t_calli (va_runV (g := F0 m 101 ls ([.int m0, .int i, .ref x42])) (As := [.int i, .int m0]) (rest := []) ⟨hx, hb, hml, hown, hts⟩ (c_X7_has l D cy A G ws x42 i m0 hD hT hG_x42 ) (cwV 2 hts gX9_copy_X7_has rfl rfl rfl (by decide +kernel) ⟨Nat.le_of_ble_eq_true rfl, Nat.le_of_ble_eq_true rfl⟩) (c_preV hM_x42 rfl hP hK hA hS hV) rfl rfl hl.1 rfl (lv_room (Nat.le_of_ble_eq_true rfl)) dX9_copy_101 ⟨Nat.le_of_ble_eq_true rfl, Nat.le_of_ble_eq_true rfl⟩) hS (fun r101 u H locs q101 hP9 hD9 hT9 hS => ?_)
                    obtain ⟨rfl, q101⟩ := q101
                    have hP : va_P D vwCl ws H := hP9
                    refine lv_if_eq (tgt := 119) hx hb dX9_copy_104 (by decide) (fun c104 => ?_) (fun c104 => ?_)
                    · skip
                      have b104 := bo_f q101 c104
                      refine lv_bipush (v := (-13)) hx hb dX9_copy_119 (by decide) ?_
                      exact W.iret (v := ((-13) : Int32)) hx hb hr (fun t ht hW => ⟨⟨_, (G, ws), rfl, ⟨hX, trivial⟩, by show va_P D vwCl ws t.heap; rw [ht]; exact hP, hD, hT⟩, hS.F ht⟩) hS.2.2 dX9_copy_121
                    · skip
                      have b104 := bo_t q101 c104
                      refine lv_aload hx hb dX9_copy_107 (lv_at hl 0 rfl) ?_
                      refine lv_iload hx hb dX9_copy_109 (lv_at hl 7 rfl) ?_
                      refine lv_iload hx hb dX9_copy_111 (lv_at hl 8 rfl) ?_
                      refine t_calli (va_runV (g := F0 m 113 ls ([.int m0, .int j, .ref x65])) (As := [.int j, .int m0]) (rest := []) ⟨hx, hb, hml, hown, hts⟩ (c_X7_has l D cy A G ws x65 j m0 hD hT hG_x65 ) (cwV 2 hts gX9_copy_X7_has rfl rfl rfl (by decide +kernel) ⟨Nat.le_of_ble_eq_true rfl, Nat.le_of_ble_eq_true rfl⟩) (c_preV hM_x65 rfl hP hK hA hS hV) rfl rfl hl.1 rfl (lv_room (Nat.le_of_ble_eq_true rfl)) dX9_copy_113 ⟨Nat.le_of_ble_eq_true rfl, Nat.le_of_ble_eq_true rfl⟩) hS (fun r113 u H locs q113 hP9 hD9 hT9 hS => ?_)
                      obtain ⟨rfl, q113⟩ := q113
                      have hP : va_P D vwCl ws H := hP9
                      refine lv_if_ne (tgt := 122) hx hb dX9_copy_116 (by decide) (fun c116 => ?_) (fun c116 => ?_)
                      · skip
                        have b116 := bo_t q113 c116
                        refine lv_aload hx hb dX9_copy_122 (lv_at hl 0 rfl) ?_
                        refine lv_aload hx hb dX9_copy_124 (lv_at hl 2 rfl) ?_
                        refine lv_iload_n hx hb dX9_copy_126 rfl (lv_at hl 5 rfl) ?_
                        refine lv_iload hx hb dX9_copy_127 (lv_at hl 7 rfl) ?_
                        refine lv_iload hx hb dX9_copy_129 (lv_at hl 8 rfl) ?_
                        refine t_callv (va_runV (g := F0 m 131 ls ([.int m0, .int j, .int i, .ref x42, .ref x65])) (As := [.ref x42, .int i, .int j, .int m0]) (rest := []) ⟨hx, hb, hml, hown, hts⟩ (c_X7_takeFrom l D cy A G ws x65 x42 i j m0 hD hT hG_x65 hG_x42 ) (cwV 4 hts gX9_copy_X7_takeFrom rfl rfl rfl (by decide +kernel) ⟨Nat.le_of_ble_eq_true rfl, Nat.le_of_ble_eq_true rfl⟩) (c_preV hM_x65 rfl hP hK hA hS hV) rfl rfl hl.1 rfl (lv_room (Nat.le_of_ble_eq_true rfl)) dX9_copy_131 ⟨Nat.le_of_ble_eq_true rfl, Nat.le_of_ble_eq_true rfl⟩) hS (fun u H locs q131 hP9 hD9 hT9 hS => ?_)
                        obtain ⟨G131, w131⟩ := u
                        obtain ⟨hX9, q131⟩ := q131
                        have hX9 : cX none (chs [16]) G ws G131 w131 := hX9
                        have hP : va_P D vwCl w131 H := hP9
                        have hD : va_D A w131 := hD9
                        have hT : cT cy G131 w131 := hT9
                        have hM_o := hX9.2.1 _ _ (cP.no hG_o rfl) hM_o
                        have hM_x42 := hX9.2.1 _ _ (cP.no hG_x42 rfl) hM_x42
                        have hM_x65 := hX9.2.1 _ _ (cP.no hG_x65 rfl) hM_x65
                        have hG_o := hX9.1 _ _ hG_o
                        have hG_bs_o := hX9.1 _ _ hG_bs_o
                        have hG_js_o := hX9.1 _ _ hG_js_o
                        have hG_sh_o := hX9.1 _ _ hG_sh_o
                        have hG_wk_o := hX9.1 _ _ hG_wk_o
                        have hG_ll_o := hX9.1 _ _ hG_ll_o
                        have hG_x21 := hX9.1 _ _ hG_x21
                        have hG_x30 := hX9.1 _ _ hG_x30
                        have hG_x42 := hX9.1 _ _ hG_x42
                        have hG_a_x42 := hX9.1 _ _ hG_a_x42
                        have hG_x65 := hX9.1 _ _ hG_x65
                        have hG_a_x65 := hX9.1 _ _ hG_a_x65
                        have hX := hX.tr hX9
                        refine lv_iload hx hb dX9_copy_134 (lv_at hl 8 rfl) ?_
                        exact W.iret (v := m0) hx hb hr (fun t ht hW => ⟨⟨_, (G131, w131), rfl, ⟨hX, trivial⟩, by show va_P D vwCl w131 t.heap; rw [ht]; exact hP, hD, hT⟩, hS.F ht⟩) hS.2.2 dX9_copy_136
                      · skip
                        have b116 := bo_f q113 c116
                        refine lv_bipush (v := (-13)) hx hb dX9_copy_119 (by decide) ?_
                        exact W.iret (v := ((-13) : Int32)) hx hb hr (fun t ht hW => ⟨⟨_, (G, ws), rfl, ⟨hX, trivial⟩, by show va_P D vwCl ws t.heap; rw [ht]; exact hP, hD, hT⟩, hS.F ht⟩) hS.2.2 dX9_copy_121
        · skip
          refine lv_ifnonnull (tgt := 37) hx hb dX9_copy_31 (by decide) ?_
          refine lv_aload_n hx hb dX9_copy_37 rfl (lv_at hl 0 rfl) ?_
          refine t_get (v := .ref sh_o) (C := RX9) (T := TX9) (N := 9) hx hb hts (by decide +kernel) hown hK hP hM_o rfl 3 (by decide) (hts (.fieldLink RX9 27 "ShadowBench" "shelves" "[LShadowBench$Held;") (by decide +kernel)) (fun _ h9 => h9) rfl dX9_copy_38 ?_
          refine lv_iload_n hx hb dX9_copy_41 rfl (lv_at hl 1 rfl) ?_
          refine t_aald10 hx hb hK hP hT hG_sh_o (vp_in_iff.mpr ⟨by omega, by omega⟩) dX9_copy_42 ?_ (fun x42 kx42 nx42 hG_x42 => ?_) (fun x42 nx42 hG_x42 => ?_)
          · skip
            refine lv_astoreN (lv' := [(8, .null), (0, .ref o), (1, .int d), (2, .int i), (3, .int e0), (4, .int j), (5, .int m0)]) hx hb dX9_copy_43 hl (by decide) rfl (fun ls hl => ?_)
            refine lv_aloadN hx hb dX9_copy_45 (lv_at hl 0 rfl) ?_
            refine lv_instN hx hb dX9_copy_47 ?_
            refine lv_if_eq (tgt := 137) hx hb dX9_copy_50 (by decide) (fun c50 => ?_) (fun c50 => ?_)
            · skip
              have d50 := c50
              rw [fa_eq] at d50
              refine lv_bipush (v := (-12)) hx hb dX9_copy_137 (by decide) ?_
              exact W.iret (v := ((-12) : Int32)) hx hb hr (fun t ht hW => ⟨⟨_, (G, ws), rfl, ⟨hX, trivial⟩, by show va_P D vwCl ws t.heap; rw [ht]; exact hP, hD, hT⟩, hS.F ht⟩) hS.2.2 dX9_copy_139
            · first | exact absurd c50 (by decide) | exact absurd (by decide) c50
          · skip
            refine lv_astore (lv' := [(8, .ref x42), (0, .ref o), (1, .int d), (2, .int i), (3, .int e0), (4, .int j), (5, .int m0)]) hx hb dX9_copy_43 hl (by decide) rfl (fun ls hl => ?_)
            refine lv_aload hx hb dX9_copy_45 (lv_at hl 0 rfl) ?_
            obtain ⟨_, hM_x42, b_x42, s_x42, w_x42, h_x42, t_x42, x_x42, y_x42, ms_x42, rfl, hG_b_x42, hG_s_x42, hJ_x42⟩ := hT _ _ hG_x42
            refine t_instRN hx hb hV hown (hts (.classLink RX9 245 RX7) (by decide +kernel)) hK hP hJ_x42.kc hM_x42 dX9_copy_47 ?_
            refine lv_if_eq (tgt := 137) hx hb dX9_copy_50 (by decide) (fun c50 => ?_) (fun c50 => ?_)
            · skip
              have d50 := c50
              rw [fa_eq] at d50
              refine lv_bipush (v := (-12)) hx hb dX9_copy_137 (by decide) ?_
              exact W.iret (v := ((-12) : Int32)) hx hb hr (fun t ht hW => ⟨⟨_, (G, ws), rfl, ⟨hX, trivial⟩, by show va_P D vwCl ws t.heap; rw [ht]; exact hP, hD, hT⟩, hS.F ht⟩) hS.2.2 dX9_copy_139
            · first | exact absurd c50 (by decide) | exact absurd (by decide) c50
          · skip
            refine lv_astore (lv' := [(8, .ref x42), (0, .ref o), (1, .int d), (2, .int i), (3, .int e0), (4, .int j), (5, .int m0)]) hx hb dX9_copy_43 hl (by decide) rfl (fun ls hl => ?_)
            refine lv_aload hx hb dX9_copy_45 (lv_at hl 0 rfl) ?_
            obtain ⟨_, hM_x42, hn_x42, z_x42, a_x42, rfl, hz_x42, hG_a_x42⟩ := hT _ _ hG_x42
            refine va_instS hx hb hown (hts (.classLink RX9 245 RX7) (by decide +kernel)) (hK.1 6 _ rfl).2 (t_recJ hK hP hM_x42 rfl) dX9_copy_47 ?_
            refine lv_if_eq (tgt := 137) hx hb dX9_copy_50 (by decide) (fun c50 => ?_) (fun c50 => ?_)
            · first | exact absurd c50 (by decide) | exact absurd (by decide) c50
            · skip
              have d50 := c50
              rw [fa_eq] at d50
              refine lv_aload hx hb dX9_copy_53 (lv_at hl 0 rfl) ?_
              refine va_castS hx hb hown (hts (.classLink RX9 245 RX7) (by decide +kernel)) (hK.1 6 _ rfl).2 (t_recJ hK hP hM_x42 rfl) dX9_copy_55 ?_
              refine lv_astore (lv' := [(6, .ref x42), (8, .ref x42), (0, .ref o), (1, .int d), (2, .int i), (3, .int e0), (4, .int j), (5, .int m0)]) hx hb dX9_copy_58 hl (by decide) rfl (fun ls hl => ?_)
              refine lv_aload_n hx hb dX9_copy_60 rfl (lv_at hl 2 rfl) ?_
              refine t_get (v := .ref sh_o) (C := RX9) (T := TX9) (N := 9) hx hb hts (by decide +kernel) hown hK hP hM_o rfl 3 (by decide) (hts (.fieldLink RX9 27 "ShadowBench" "shelves" "[LShadowBench$Held;") (by decide +kernel)) (fun _ h9 => h9) rfl dX9_copy_61 ?_
              refine lv_iload_n hx hb dX9_copy_64 rfl (lv_at hl 5 rfl) ?_
              refine t_aald10 hx hb hK hP hT hG_sh_o (vp_in_iff.mpr ⟨by omega, by omega⟩) dX9_copy_65 ?_ (fun x65 kx65 nx65 hG_x65 => ?_) (fun x65 nx65 hG_x65 => ?_)
              · skip
                refine lv_astoreN (lv' := [(8, .null), (6, .ref x42), (0, .ref o), (1, .int d), (2, .int i), (3, .int e0), (4, .int j), (5, .int m0)]) hx hb dX9_copy_66 hl (by decide) rfl (fun ls hl => ?_)
                refine lv_aloadN hx hb dX9_copy_68 (lv_at hl 0 rfl) ?_
                refine lv_instN hx hb dX9_copy_70 ?_
                refine lv_if_eq (tgt := 137) hx hb dX9_copy_73 (by decide) (fun c73 => ?_) (fun c73 => ?_)
                · skip
                  have d73 := c73
                  rw [fa_eq] at d73
                  refine lv_bipush (v := (-12)) hx hb dX9_copy_137 (by decide) ?_
                  exact W.iret (v := ((-12) : Int32)) hx hb hr (fun t ht hW => ⟨⟨_, (G, ws), rfl, ⟨hX, trivial⟩, by show va_P D vwCl ws t.heap; rw [ht]; exact hP, hD, hT⟩, hS.F ht⟩) hS.2.2 dX9_copy_139
                · first | exact absurd c73 (by decide) | exact absurd (by decide) c73
              · skip
                refine lv_astore (lv' := [(8, .ref x65), (6, .ref x42), (0, .ref o), (1, .int d), (2, .int i), (3, .int e0), (4, .int j), (5, .int m0)]) hx hb dX9_copy_66 hl (by decide) rfl (fun ls hl => ?_)
                refine lv_aload hx hb dX9_copy_68 (lv_at hl 0 rfl) ?_
                obtain ⟨_, hM_x65, b_x65, s_x65, w_x65, h_x65, t_x65, x_x65, y_x65, ms_x65, rfl, hG_b_x65, hG_s_x65, hJ_x65⟩ := hT _ _ hG_x65
                refine t_instRN hx hb hV hown (hts (.classLink RX9 245 RX7) (by decide +kernel)) hK hP hJ_x65.kc hM_x65 dX9_copy_70 ?_
                refine lv_if_eq (tgt := 137) hx hb dX9_copy_73 (by decide) (fun c73 => ?_) (fun c73 => ?_)
                · skip
                  have d73 := c73
                  rw [fa_eq] at d73
                  refine lv_bipush (v := (-12)) hx hb dX9_copy_137 (by decide) ?_
                  exact W.iret (v := ((-12) : Int32)) hx hb hr (fun t ht hW => ⟨⟨_, (G, ws), rfl, ⟨hX, trivial⟩, by show va_P D vwCl ws t.heap; rw [ht]; exact hP, hD, hT⟩, hS.F ht⟩) hS.2.2 dX9_copy_139
                · first | exact absurd c73 (by decide) | exact absurd (by decide) c73
              · skip
                refine lv_astore (lv' := [(8, .ref x65), (6, .ref x42), (0, .ref o), (1, .int d), (2, .int i), (3, .int e0), (4, .int j), (5, .int m0)]) hx hb dX9_copy_66 hl (by decide) rfl (fun ls hl => ?_)
                refine lv_aload hx hb dX9_copy_68 (lv_at hl 0 rfl) ?_
                obtain ⟨_, hM_x65, hn_x65, z_x65, a_x65, rfl, hz_x65, hG_a_x65⟩ := hT _ _ hG_x65
                refine va_instS hx hb hown (hts (.classLink RX9 245 RX7) (by decide +kernel)) (hK.1 6 _ rfl).2 (t_recJ hK hP hM_x65 rfl) dX9_copy_70 ?_
                refine lv_if_eq (tgt := 137) hx hb dX9_copy_73 (by decide) (fun c73 => ?_) (fun c73 => ?_)
                · first | exact absurd c73 (by decide) | exact absurd (by decide) c73
                · skip
                  have d73 := c73
                  rw [fa_eq] at d73
                  refine lv_aload hx hb dX9_copy_76 (lv_at hl 0 rfl) ?_
                  refine va_castS hx hb hown (hts (.classLink RX9 245 RX7) (by decide +kernel)) (hK.1 6 _ rfl).2 (t_recJ hK hP hM_x65 rfl) dX9_copy_78 ?_
                  refine lv_astore (lv' := [(7, .ref x65), (8, .ref x65), (6, .ref x42), (0, .ref o), (1, .int d), (2, .int i), (3, .int e0), (4, .int j), (5, .int m0)]) hx hb dX9_copy_81 hl (by decide) rfl (fun ls hl => ?_)
                  refine lv_aload hx hb dX9_copy_83 (lv_at hl 2 rfl) ?_
                  refine t_get (v := .int z_x42) (C := RX7) (T := TX7) (N := 2) hx hb hts (by decide +kernel) hown hK hP hM_x42 rfl 0 (by decide) (hts (.fieldLink RX9 264 "ShadowBench$Row" "ofBytes" "Z") (by decide +kernel)) (fun _ h9 => h9) rfl dX9_copy_85 ?_
                  refine lv_aload hx hb dX9_copy_88 (lv_at hl 0 rfl) ?_
                  refine t_get (v := .int z_x65) (C := RX7) (T := TX7) (N := 2) hx hb hts (by decide +kernel) hown hK hP hM_x65 rfl 0 (by decide) (hts (.fieldLink RX9 264 "ShadowBench$Row" "ofBytes" "Z") (by decide +kernel)) (fun _ h9 => h9) rfl dX9_copy_90 ?_
                  refine lv_icmp_ne (tgt := 137) hx hb dX9_copy_93 (by decide) (fun c93 => ?_) (fun c93 => ?_)
                  · skip
                    have d93 := c93
                    rw [fa_eq] at d93
                    refine lv_bipush (v := (-12)) hx hb dX9_copy_137 (by decide) ?_
                    exact W.iret (v := ((-12) : Int32)) hx hb hr (fun t ht hW => ⟨⟨_, (G, ws), rfl, ⟨hX, trivial⟩, by show va_P D vwCl ws t.heap; rw [ht]; exact hP, hD, hT⟩, hS.F ht⟩) hS.2.2 dX9_copy_139
                  · skip
                    have d93 := c93
                    rw [fa_eq] at d93
                    refine lv_aload hx hb dX9_copy_96 (lv_at hl 2 rfl) ?_
                    refine lv_iload_n hx hb dX9_copy_98 rfl (lv_at hl 5 rfl) ?_
                    refine lv_iload hx hb dX9_copy_99 (lv_at hl 8 rfl) ?_
                    refine t_calli (va_runV (g := F0 m 101 ls ([.int m0, .int i, .ref x42])) (As := [.int i, .int m0]) (rest := []) ⟨hx, hb, hml, hown, hts⟩ (c_X7_has l D cy A G ws x42 i m0 hD hT hG_x42 ) (cwV 2 hts gX9_copy_X7_has rfl rfl rfl (by decide +kernel) ⟨Nat.le_of_ble_eq_true rfl, Nat.le_of_ble_eq_true rfl⟩) (c_preV hM_x42 rfl hP hK hA hS hV) rfl rfl hl.1 rfl (lv_room (Nat.le_of_ble_eq_true rfl)) dX9_copy_101 ⟨Nat.le_of_ble_eq_true rfl, Nat.le_of_ble_eq_true rfl⟩) hS (fun r101 u H locs q101 hP9 hD9 hT9 hS => ?_)
                    obtain ⟨rfl, q101⟩ := q101
                    have hP : va_P D vwCl ws H := hP9
                    refine lv_if_eq (tgt := 119) hx hb dX9_copy_104 (by decide) (fun c104 => ?_) (fun c104 => ?_)
                    · skip
                      have b104 := bo_f q101 c104
                      refine lv_bipush (v := (-13)) hx hb dX9_copy_119 (by decide) ?_
                      exact W.iret (v := ((-13) : Int32)) hx hb hr (fun t ht hW => ⟨⟨_, (G, ws), rfl, ⟨hX, trivial⟩, by show va_P D vwCl ws t.heap; rw [ht]; exact hP, hD, hT⟩, hS.F ht⟩) hS.2.2 dX9_copy_121
                    · skip
                      have b104 := bo_t q101 c104
                      refine lv_aload hx hb dX9_copy_107 (lv_at hl 0 rfl) ?_
                      refine lv_iload hx hb dX9_copy_109 (lv_at hl 7 rfl) ?_
                      refine lv_iload hx hb dX9_copy_111 (lv_at hl 8 rfl) ?_
                      refine t_calli (va_runV (g := F0 m 113 ls ([.int m0, .int j, .ref x65])) (As := [.int j, .int m0]) (rest := []) ⟨hx, hb, hml, hown, hts⟩ (c_X7_has l D cy A G ws x65 j m0 hD hT hG_x65 ) (cwV 2 hts gX9_copy_X7_has rfl rfl rfl (by decide +kernel) ⟨Nat.le_of_ble_eq_true rfl, Nat.le_of_ble_eq_true rfl⟩) (c_preV hM_x65 rfl hP hK hA hS hV) rfl rfl hl.1 rfl (lv_room (Nat.le_of_ble_eq_true rfl)) dX9_copy_113 ⟨Nat.le_of_ble_eq_true rfl, Nat.le_of_ble_eq_true rfl⟩) hS (fun r113 u H locs q113 hP9 hD9 hT9 hS => ?_)
                      obtain ⟨rfl, q113⟩ := q113
                      have hP : va_P D vwCl ws H := hP9
                      refine lv_if_ne (tgt := 122) hx hb dX9_copy_116 (by decide) (fun c116 => ?_) (fun c116 => ?_)
                      · skip
                        have b116 := bo_t q113 c116
                        refine lv_aload hx hb dX9_copy_122 (lv_at hl 0 rfl) ?_
                        refine lv_aload hx hb dX9_copy_124 (lv_at hl 2 rfl) ?_
                        refine lv_iload_n hx hb dX9_copy_126 rfl (lv_at hl 5 rfl) ?_
                        refine lv_iload hx hb dX9_copy_127 (lv_at hl 7 rfl) ?_
                        refine lv_iload hx hb dX9_copy_129 (lv_at hl 8 rfl) ?_
                        refine t_callv (va_runV (g := F0 m 131 ls ([.int m0, .int j, .int i, .ref x42, .ref x65])) (As := [.ref x42, .int i, .int j, .int m0]) (rest := []) ⟨hx, hb, hml, hown, hts⟩ (c_X7_takeFrom l D cy A G ws x65 x42 i j m0 hD hT hG_x65 hG_x42 ) (cwV 4 hts gX9_copy_X7_takeFrom rfl rfl rfl (by decide +kernel) ⟨Nat.le_of_ble_eq_true rfl, Nat.le_of_ble_eq_true rfl⟩) (c_preV hM_x65 rfl hP hK hA hS hV) rfl rfl hl.1 rfl (lv_room (Nat.le_of_ble_eq_true rfl)) dX9_copy_131 ⟨Nat.le_of_ble_eq_true rfl, Nat.le_of_ble_eq_true rfl⟩) hS (fun u H locs q131 hP9 hD9 hT9 hS => ?_)
                        obtain ⟨G131, w131⟩ := u
                        obtain ⟨hX9, q131⟩ := q131
                        have hX9 : cX none (chs [16]) G ws G131 w131 := hX9
                        have hP : va_P D vwCl w131 H := hP9
                        have hD : va_D A w131 := hD9
                        have hT : cT cy G131 w131 := hT9
                        have hM_o := hX9.2.1 _ _ (cP.no hG_o rfl) hM_o
                        have hM_x42 := hX9.2.1 _ _ (cP.no hG_x42 rfl) hM_x42
                        have hM_x65 := hX9.2.1 _ _ (cP.no hG_x65 rfl) hM_x65
                        have hG_o := hX9.1 _ _ hG_o
                        have hG_bs_o := hX9.1 _ _ hG_bs_o
                        have hG_js_o := hX9.1 _ _ hG_js_o
                        have hG_sh_o := hX9.1 _ _ hG_sh_o
                        have hG_wk_o := hX9.1 _ _ hG_wk_o
                        have hG_ll_o := hX9.1 _ _ hG_ll_o
                        have hG_x21 := hX9.1 _ _ hG_x21
                        have hG_x30 := hX9.1 _ _ hG_x30
                        have hG_x42 := hX9.1 _ _ hG_x42
                        have hG_a_x42 := hX9.1 _ _ hG_a_x42
                        have hG_x65 := hX9.1 _ _ hG_x65
                        have hG_a_x65 := hX9.1 _ _ hG_a_x65
                        have hX := hX.tr hX9
                        refine lv_iload hx hb dX9_copy_134 (lv_at hl 8 rfl) ?_
                        exact W.iret (v := m0) hx hb hr (fun t ht hW => ⟨⟨_, (G131, w131), rfl, ⟨hX, trivial⟩, by show va_P D vwCl w131 t.heap; rw [ht]; exact hP, hD, hT⟩, hS.F ht⟩) hS.2.2 dX9_copy_136
                      · skip
                        have b116 := bo_f q113 c116
                        refine lv_bipush (v := (-13)) hx hb dX9_copy_119 (by decide) ?_
                        exact W.iret (v := ((-13) : Int32)) hx hb hr (fun t ht hW => ⟨⟨_, (G, ws), rfl, ⟨hX, trivial⟩, by show va_P D vwCl ws t.heap; rw [ht]; exact hP, hD, hT⟩, hS.F ht⟩) hS.2.2 dX9_copy_121
    · skip
      have b11 := bo_f q8 c11
      refine lv_iconst (v := (-1)) hx hb dX9_copy_14 (by decide) ?_
      exact W.iret (v := ((-1) : Int32)) hx hb hr (fun t ht hW => ⟨⟨_, (G, ws), rfl, ⟨hX, trivial⟩, by show va_P D vwCl ws t.heap; rw [ht]; exact hP, hD, hT⟩, hS.F ht⟩) hS.2.2 dX9_copy_15
set_option maxHeartbeats 4000000 in
set_option maxRecDepth 100000 in
theorem c_X9_layerOf (l : Launch) (D : va_G) (cy : Nat → ClassId) (A : Nat → Prop) (G : cG) (ws : va_W) (x1 : Nat) (k0 : Int32) {n1 z1 : Nat} (hD : va_D A ws) (hT : cT cy G ws) (hG_x1 : G x1 = some (4, n1, z1))  : Cl l D cy A yX9_layerOf wsX9_layerOf ({ frames := 2, cells := 0, slots := 0, locals := 43 }) 0 0 ws [.ref x1, .int k0] (fun r0 u => u = (G, ws) ∧ (True)) := by
  refine Met.ofW (cc := cX9_layerOf) (maxL := 7) (ret := (some .long)) (by decide) rfl ?_
  intro p e s m args below meth c s₁ B hml hv
  obtain ⟨rfl, hP, hK, hA, hV⟩ := hv
  have hx := B.exec
  have hb := B.bytes
  have hr := B.returns
  have hts := atoms_spec (ws := wsX9_layerOf) B.pre
  have hown : s.vm.findClass RX9 = some m.cls := findClass_of_methodNamed B.named
  have hlocks := B.notSynchronized
  have hS : va_S A s.heap s.heap [] := va_S.rf
  have hl := lv_entry ([.ref x1, .int k0]) (n := 7) (Nat.le_of_ble_eq_true rfl)
  rw [lg_entry_eq]
  generalize (lg_sl ([.ref x1, .int k0]) ++ List.replicate (7 - (lg_sl ([.ref x1, .int k0])).length) Slot.unset).toArray = ls at hl ⊢
  have hl : lv_has ls 7 [(0, .ref x1), (1, .int k0)] := hl
  have k_0 : (0 : Int32).toInt = 0 := by decide
  have k_36 : (36 : Int32).toInt = 36 := by decide
  have k_m13L : (-13 : Int64).toInt = -13 := by decide
  have k_m2L : (-2 : Int64).toInt = -2 := by decide
  have k_0L : (0 : Int64).toInt = 0 := by decide
  have k_1L : (1 : Int64).toInt = 1 := by decide
  have k_9L : (9 : Int64).toInt = 9 := by decide
  have hn1 : n1 ≤ 60 := by obtain ⟨_, _, h0, _⟩ := hT _ _ hG_x1; exact h0
  refine lv_lconst (v := 0) hx hb dX9_layerOf_0 (by decide) ?_
  refine lv_lstore_n (lv' := [(2, .long (0 : Int64)), (0, .ref x1), (1, .int k0)]) hx hb dX9_layerOf_1 rfl hl (by decide) rfl (fun ls hl => ?_)
  refine lv_iconst (v := 0) hx hb dX9_layerOf_2 (by decide) ?_
  refine lv_istore (lv' := [(4, .int (0 : Int32)), (2, .long (0 : Int64)), (0, .ref x1), (1, .int k0)]) hx hb dX9_layerOf_3 hl (by decide) rfl (fun ls hl => ?_)
  have loop_5 : ∀ (n : Nat) (i : Nat) (x2 : Int64), (i ≤ 60) → 60 - i < n → ∀ (H : Heap) (locs : List Loc), va_P D vwCl ws H → va_S A s.heap H locs → ∀ (ls : Array Slot), lv_has ls 7 [(4, .int (nI i)), (2, .long x2), (0, .ref x1), (1, .int k0)] → W p l e (headSpec wsX9_layerOf ({ frames := 2, cells := 0, slots := 0, locals := 43 })).room s m #[Value.ref x1, Value.int k0] below meth c H locs 0 0 (MQ below (va_Ql (fun r0 u => u = (G, ws) ∧ (True)) (cB D cy A) A) #[Value.ref x1, Value.int k0] s 0 0 A) (F0 m 5 ls []) := by
    intro n
    induction n with
    | zero => intro i x2 j5_0 hn; exact absurd hn (Nat.not_lt_zero _)
    | succ n ih_5 =>
      intro i x2 j5_0 hn_5 H locs hP hS  ls hl
      have ik_i : (nI i).toInt = (i : Int) := nI_toInt (by omega)
      refine lv_iload hx hb dX9_layerOf_5 (lv_at hl 0 rfl) ?_
      refine lv_aload_n hx hb dX9_layerOf_7 rfl (lv_at hl 2 rfl) ?_
      obtain ⟨_, hM_x1, hn_x1, z_x1, a_x1, rfl, hz_x1, hG_a_x1⟩ := hT _ _ hG_x1
      refine t_calli (va_runV (g := F0 m 8 ls ([.ref x1, .int (nI i)])) (As := []) (rest := [.int (nI i)]) ⟨hx, hb, hml, hown, hts⟩ (c_X7_size l D cy A G ws x1 hD hT hG_x1 ) (cwV 0 hts gX9_layerOf_X7_size rfl rfl rfl (by decide +kernel) ⟨Nat.le_of_ble_eq_true rfl, Nat.le_of_ble_eq_true rfl⟩) (c_preV hM_x1 rfl hP hK hA hS hV) rfl rfl hl.1 rfl (lv_room (Nat.le_of_ble_eq_true rfl)) dX9_layerOf_8 ⟨Nat.le_of_ble_eq_true rfl, Nat.le_of_ble_eq_true rfl⟩) hS (fun r8 u H locs q8 hP9 hD9 hT9 hS => ?_)
      obtain ⟨rfl, q8⟩ := q8
      have hP : va_P D vwCl ws H := hP9
      have z8 := congrArg Int32.toInt q8
      rw [nI_toInt (by omega)] at z8
      refine lv_icmp_ge (tgt := 63) hx hb dX9_layerOf_11 (by decide) (fun c11 => ?_) (fun c11 => ?_)
      · skip
        have d11 := c11
        rw [fa_le] at d11
        refine lv_aload_n hx hb dX9_layerOf_63 rfl (lv_at hl 2 rfl) ?_
        refine t_calli (va_runV (g := F0 m 64 ls ([.ref x1])) (As := []) (rest := []) ⟨hx, hb, hml, hown, hts⟩ (c_X7_size l D cy A G ws x1 hD hT hG_x1 ) (cwV 0 hts gX9_layerOf_X7_size rfl rfl rfl (by decide +kernel) ⟨Nat.le_of_ble_eq_true rfl, Nat.le_of_ble_eq_true rfl⟩) (c_preV hM_x1 rfl hP hK hA hS hV) rfl rfl hl.1 rfl (lv_room (Nat.le_of_ble_eq_true rfl)) dX9_layerOf_64 ⟨Nat.le_of_ble_eq_true rfl, Nat.le_of_ble_eq_true rfl⟩) hS (fun r64 u H locs q64 hP9 hD9 hT9 hS => ?_)
        obtain ⟨rfl, q64⟩ := q64
        have hP : va_P D vwCl ws H := hP9
        refine lv_bipush (v := 36) hx hb dX9_layerOf_67 (by decide) ?_
        refine lv_icmp_le (tgt := 78) hx hb dX9_layerOf_69 (by decide) (fun c69 => ?_) (fun c69 => ?_)
        · skip
          have d69 := c69
          rw [fa_le] at d69
          refine lv_lload_n hx hb dX9_layerOf_78 rfl (lv_at hl 1 rfl) ?_
          exact W.lret (v := x2) hx hb hr (fun t ht hW => ⟨⟨_, (G, ws), rfl, ⟨rfl, trivial⟩, by show va_P D vwCl ws t.heap; rw [ht]; exact hP, hD, hT⟩, hS.F ht⟩) hS.2.2 dX9_layerOf_79
        · skip
          have d69 := c69
          rw [fa_le] at d69
          refine lv_ldc2 hx hb hown (hts (.constantLong RX9 344 (-13)) (by decide +kernel)) dX9_layerOf_72 ?_
          refine lv_goto (tgt := 79) hx hb dX9_layerOf_75 (by decide) ?_
          exact W.lret (v := (-13 : Int64)) hx hb hr (fun t ht hW => ⟨⟨_, (G, ws), rfl, ⟨rfl, trivial⟩, by show va_P D vwCl ws t.heap; rw [ht]; exact hP, hD, hT⟩, hS.F ht⟩) hS.2.2 dX9_layerOf_79
      · skip
        have d11 := c11
        rw [fa_le] at d11
        refine lv_aload_n hx hb dX9_layerOf_14 rfl (lv_at hl 2 rfl) ?_
        refine lv_iload hx hb dX9_layerOf_15 (lv_at hl 0 rfl) ?_
        refine t_calll (va_runV (g := F0 m 17 ls ([.int (nI i), .ref x1])) (As := [.int (nI i)]) (rest := []) ⟨hx, hb, hml, hown, hts⟩ (c_X7_numberAt l D cy A G ws x1 (nI i) hD hT hG_x1 ) (cwV 1 hts gX9_layerOf_X7_numberAt rfl rfl rfl (by decide +kernel) ⟨Nat.le_of_ble_eq_true rfl, Nat.le_of_ble_eq_true rfl⟩) (c_preV hM_x1 rfl hP hK hA hS hV) rfl rfl hl.1 rfl (lv_room (Nat.le_of_ble_eq_true rfl)) dX9_layerOf_17 ⟨Nat.le_of_ble_eq_true rfl, Nat.le_of_ble_eq_true rfl⟩) hS (fun r17 u H locs q17 hP9 hD9 hT9 hS => ?_)
        obtain ⟨rfl, q17⟩ := q17
        have hP : va_P D vwCl ws H := hP9
        refine lv_lstore (lv' := [(5, .long r17), (4, .int (nI i)), (2, .long x2), (0, .ref x1), (1, .int k0)]) hx hb dX9_layerOf_20 hl (by decide) rfl (fun ls hl => ?_)
        refine lv_lload hx hb dX9_layerOf_22 (lv_at hl 0 rfl) ?_
        refine lv_lconst (v := 0) hx hb dX9_layerOf_24 (by decide) ?_
        refine W.lcmp hx hb dX9_layerOf_25 ?_
        refine lv_if_lt (tgt := 38) hx hb dX9_layerOf_26 (by decide) (fun c26 => ?_) (fun c26 => ?_)
        · skip
          have d26 := c26
          rw [lg_cmp_lt, fa_lt64] at d26
          refine lv_ldc2 hx hb hown (hts (.constantLong RX9 151 (-2)) (by decide +kernel)) dX9_layerOf_38 ?_
          exact W.lret (v := (-2 : Int64)) hx hb hr (fun t ht hW => ⟨⟨_, (G, ws), rfl, ⟨rfl, trivial⟩, by show va_P D vwCl ws t.heap; rw [ht]; exact hP, hD, hT⟩, hS.F ht⟩) hS.2.2 dX9_layerOf_41
        · skip
          have d26 := c26
          rw [lg_cmp_lt, fa_lt64] at d26
          refine lv_lload hx hb dX9_layerOf_29 (lv_at hl 0 rfl) ?_
          refine lv_ldc2 hx hb hown (hts (.constantLong RX9 342 (9)) (by decide +kernel)) dX9_layerOf_31 ?_
          refine W.lcmp hx hb dX9_layerOf_34 ?_
          refine lv_if_le (tgt := 42) hx hb dX9_layerOf_35 (by decide) (fun c35 => ?_) (fun c35 => ?_)
          · skip
            have d35 := c35
            rw [lg_cmp_le, fa_le64] at d35
            refine lv_lload hx hb dX9_layerOf_42 (lv_at hl 0 rfl) ?_
            refine lv_iload_n hx hb dX9_layerOf_44 rfl (lv_at hl 4 rfl) ?_
            refine lv_i2l (v := k0.toInt64) hx hb dX9_layerOf_45 rfl ?_
            refine W.lcmp hx hb dX9_layerOf_46 ?_
            refine lv_if_le (tgt := 57) hx hb dX9_layerOf_47 (by decide) (fun c47 => ?_) (fun c47 => ?_)
            · skip
              have d47 := c47
              rw [lg_cmp_le, fa_le64] at d47
              refine lv_iinc (v := (nI (i + 1))) (lv' := [(4, .int (nI (i + 1))), (5, .long r17), (2, .long x2), (0, .ref x1), (1, .int k0)]) hx hb dX9_layerOf_57 hl (k := 1) rfl (nI_1 _) (by decide) rfl (fun ls hl => ?_)
              refine lv_goto (tgt := 5) hx hb dX9_layerOf_60 (by decide) ?_
              exact ih_5 (i + 1) x2 (by omega) (by omega) _ _ hP hS  ls (lv_sub hl [0, 2, 3, 4] rfl)
            · skip
              have d47 := c47
              rw [lg_cmp_le, fa_le64] at d47
              refine lv_lload_n hx hb dX9_layerOf_50 rfl (lv_at hl 2 rfl) ?_
              refine lv_lconst (v := 1) hx hb dX9_layerOf_51 (by decide) ?_
              refine lv_iload hx hb dX9_layerOf_52 (lv_at hl 1 rfl) ?_
              refine lv_lshl (v := (1 : Int64) <<< ((nI i).toInt64 &&& 63)) hx hb dX9_layerOf_54 rfl ?_
              refine lv_lor hx hb dX9_layerOf_55 ?_
              refine lv_topl (fun v55 e55 => ?_)
              refine lv_lstore_n (lv' := [(2, .long v55), (5, .long r17), (4, .int (nI i)), (0, .ref x1), (1, .int k0)]) hx hb dX9_layerOf_56 rfl hl (by decide) rfl (fun ls hl => ?_)
              refine lv_iinc (v := (nI (i + 1))) (lv' := [(4, .int (nI (i + 1))), (2, .long v55), (5, .long r17), (0, .ref x1), (1, .int k0)]) hx hb dX9_layerOf_57 hl (k := 2) rfl (nI_1 _) (by decide) rfl (fun ls hl => ?_)
              refine lv_goto (tgt := 5) hx hb dX9_layerOf_60 (by decide) ?_
              exact ih_5 (i + 1) v55 (by omega) (by omega) _ _ hP hS  ls (lv_sub hl [0, 1, 3, 4] rfl)
          · skip
            have d35 := c35
            rw [lg_cmp_le, fa_le64] at d35
            refine lv_ldc2 hx hb hown (hts (.constantLong RX9 151 (-2)) (by decide +kernel)) dX9_layerOf_38 ?_
            exact W.lret (v := (-2 : Int64)) hx hb hr (fun t ht hW => ⟨⟨_, (G, ws), rfl, ⟨rfl, trivial⟩, by show va_P D vwCl ws t.heap; rw [ht]; exact hP, hD, hT⟩, hS.F ht⟩) hS.2.2 dX9_layerOf_41
  exact loop_5 (60 + 1) 0 (0 : Int64) (by omega) (by omega) _ _ hP hS  ls (lv_sub hl [0, 1, 2, 3] rfl)
set_option maxHeartbeats 4000000 in
set_option maxRecDepth 100000 in
theorem c_X9_layer (l : Launch) (D : va_G) (cy : Nat → ClassId) (A : Nat → Prop) (G : cG) (ws : va_W) (o : Nat) (d : Int32) (k0 : Int32)  (hD : va_D A ws) (hT : cT cy G ws) (hG_o : G o = some (7, 0, 0))  : Cl l D cy A yX9_layer wsX9_layer ({ frames := 3, cells := 0, slots := 0, locals := 69 }) 0 0 ws [.ref o, .int d, .int k0] (fun r0 u => u = (G, ws) ∧ (True)) := by
  refine Met.ofW (cc := cX9_layer) (maxL := 5) (ret := (some .long)) (by decide) rfl ?_
  intro p e s m args below meth c s₁ B hml hv
  obtain ⟨rfl, hP, hK, hA, hV⟩ := hv
  have hx := B.exec
  have hb := B.bytes
  have hr := B.returns
  have hts := atoms_spec (ws := wsX9_layer) B.pre
  have hown : s.vm.findClass RX9 = some m.cls := findClass_of_methodNamed B.named
  have hlocks := B.notSynchronized
  have hS : va_S A s.heap s.heap [] := va_S.rf
  have hl := lv_entry ([.ref o, .int d, .int k0]) (n := 5) (Nat.le_of_ble_eq_true rfl)
  rw [lg_entry_eq]
  generalize (lg_sl ([.ref o, .int d, .int k0]) ++ List.replicate (5 - (lg_sl ([.ref o, .int d, .int k0])).length) Slot.unset).toArray = ls at hl ⊢
  have hl : lv_has ls 5 [(0, .ref o), (1, .int d), (2, .int k0)] := hl
  have k_0 : (0 : Int32).toInt = 0 := by decide
  have k_9 : (9 : Int32).toInt = 9 := by decide
  have k_m12L : (-12 : Int64).toInt = -12 := by decide
  have k_m11L : (-11 : Int64).toInt = -11 := by decide
  have k_m1L : (-1 : Int64).toInt = -1 := by decide
  refine lv_iload_n hx hb dX9_layer_0 rfl (lv_at hl 1 rfl) ?_
  refine t_pu (As := [.int d]) (rest := []) ⟨hx, hb, hml, hown, hts⟩ (c_X9_isShelf l d ) (va_cwS 1 hts gX9_layer_X9_isShelf rfl rfl rfl (by decide +kernel) ⟨Nat.le_of_ble_eq_true rfl, Nat.le_of_ble_eq_true rfl⟩) hP rfl hl.1 rfl (Nat.le_of_ble_eq_true rfl) dX9_layer_1 ⟨Nat.le_of_ble_eq_true rfl, Nat.le_of_ble_eq_true rfl⟩ hS (fun r1 H locs q1 hP hS => ?_)
  refine lv_if_eq (tgt := 17) hx hb dX9_layer_4 (by decide) (fun c4 => ?_) (fun c4 => ?_)
  · skip
    have b4 := bo_f q1 c4
    refine lv_ldc2 hx hb hown (hts (.constantLong RX9 143 (-1)) (by decide +kernel)) dX9_layer_17 ?_
    exact W.lret (v := (-1 : Int64)) hx hb hr (fun t ht hW => ⟨⟨_, (G, ws), rfl, ⟨rfl, trivial⟩, by show va_P D vwCl ws t.heap; rw [ht]; exact hP, hD, hT⟩, hS.F ht⟩) hS.2.2 dX9_layer_20
  · skip
    have b4 := bo_t q1 c4
    refine lv_iload_n hx hb dX9_layer_7 rfl (lv_at hl 2 rfl) ?_
    refine lv_if_lt (tgt := 17) hx hb dX9_layer_8 (by decide) (fun c8 => ?_) (fun c8 => ?_)
    · skip
      have d8 := c8
      rw [fa_lt] at d8
      refine lv_ldc2 hx hb hown (hts (.constantLong RX9 143 (-1)) (by decide +kernel)) dX9_layer_17 ?_
      exact W.lret (v := (-1 : Int64)) hx hb hr (fun t ht hW => ⟨⟨_, (G, ws), rfl, ⟨rfl, trivial⟩, by show va_P D vwCl ws t.heap; rw [ht]; exact hP, hD, hT⟩, hS.F ht⟩) hS.2.2 dX9_layer_20
    · skip
      have d8 := c8
      rw [fa_lt] at d8
      refine lv_iload_n hx hb dX9_layer_11 rfl (lv_at hl 2 rfl) ?_
      refine lv_bipush (v := 9) hx hb dX9_layer_12 (by decide) ?_
      refine lv_icmp_lt (tgt := 21) hx hb dX9_layer_14 (by decide) (fun c14 => ?_) (fun c14 => ?_)
      · skip
        have d14 := c14
        rw [fa_lt] at d14
        refine lv_aload_n hx hb dX9_layer_21 rfl (lv_at hl 0 rfl) ?_
        obtain ⟨_, hM_o, bs_o, js_o, sh_o, wk_o, ll_o, jc_o, lc_o, mo_o, lb_o, rfl, hjc_o, hlc_o, hG_bs_o, hG_js_o, hG_sh_o, hG_wk_o, hmo_o, hG_ll_o, hlb_o⟩ := hT _ _ hG_o
        refine t_get (v := .ref sh_o) (C := RX9) (T := TX9) (N := 9) hx hb hts (by decide +kernel) hown hK hP hM_o rfl 3 (by decide) (hts (.fieldLink RX9 27 "ShadowBench" "shelves" "[LShadowBench$Held;") (by decide +kernel)) (fun _ h9 => h9) rfl dX9_layer_22 ?_
        refine lv_iload_n hx hb dX9_layer_25 rfl (lv_at hl 1 rfl) ?_
        refine t_aald10 hx hb hK hP hT hG_sh_o (vp_in_iff.mpr ⟨by omega, by omega⟩) dX9_layer_26 ?_ (fun x26 kx26 nx26 hG_x26 => ?_) (fun x26 nx26 hG_x26 => ?_)
        · skip
          refine lv_ifnonnullN hx hb dX9_layer_27 ?_
          refine lv_ldc2 hx hb hown (hts (.constantLong RX9 272 (-11)) (by decide +kernel)) dX9_layer_30 ?_
          exact W.lret (v := (-11 : Int64)) hx hb hr (fun t ht hW => ⟨⟨_, (G, ws), rfl, ⟨rfl, trivial⟩, by show va_P D vwCl ws t.heap; rw [ht]; exact hP, hD, hT⟩, hS.F ht⟩) hS.2.2 dX9_layer_33
        · skip
          refine lv_ifnonnull (tgt := 34) hx hb dX9_layer_27 (by decide) ?_
          refine lv_aload_n hx hb dX9_layer_34 rfl (lv_at hl 0 rfl) ?_
          refine t_get (v := .ref sh_o) (C := RX9) (T := TX9) (N := 9) hx hb hts (by decide +kernel) hown hK hP hM_o rfl 3 (by decide) (hts (.fieldLink RX9 27 "ShadowBench" "shelves" "[LShadowBench$Held;") (by decide +kernel)) (fun _ h9 => h9) rfl dX9_layer_35 ?_
          refine lv_iload_n hx hb dX9_layer_38 rfl (lv_at hl 1 rfl) ?_
          refine t_aald10 hx hb hK hP hT hG_sh_o (vp_in_iff.mpr ⟨by omega, by omega⟩) dX9_layer_39 ?_ (fun x39 kx39 nx39 hG_x39 => ?_) (fun x39 nx39 hG_x39 => ?_)
          · skip
            refine lv_astoreN (lv' := [(4, .null), (0, .ref o), (1, .int d), (2, .int k0)]) hx hb dX9_layer_40 hl (by decide) rfl (fun ls hl => ?_)
            refine lv_aloadN hx hb dX9_layer_42 (lv_at hl 0 rfl) ?_
            refine lv_instN hx hb dX9_layer_44 ?_
            refine lv_if_eq (tgt := 69) hx hb dX9_layer_47 (by decide) (fun c47 => ?_) (fun c47 => ?_)
            · skip
              have d47 := c47
              rw [fa_eq] at d47
              refine lv_ldc2 hx hb hown (hts (.constantLong RX9 278 (-12)) (by decide +kernel)) dX9_layer_69 ?_
              exact W.lret (v := (-12 : Int64)) hx hb hr (fun t ht hW => ⟨⟨_, (G, ws), rfl, ⟨rfl, trivial⟩, by show va_P D vwCl ws t.heap; rw [ht]; exact hP, hD, hT⟩, hS.F ht⟩) hS.2.2 dX9_layer_72
            · first | exact absurd c47 (by decide) | exact absurd (by decide) c47
          · skip
            refine lv_astore (lv' := [(4, .ref x39), (0, .ref o), (1, .int d), (2, .int k0)]) hx hb dX9_layer_40 hl (by decide) rfl (fun ls hl => ?_)
            refine lv_aload hx hb dX9_layer_42 (lv_at hl 0 rfl) ?_
            obtain ⟨_, hM_x39, b_x39, s_x39, w_x39, h_x39, t_x39, x_x39, y_x39, ms_x39, rfl, hG_b_x39, hG_s_x39, hJ_x39⟩ := hT _ _ hG_x39
            refine t_instRN hx hb hV hown (hts (.classLink RX9 245 RX7) (by decide +kernel)) hK hP hJ_x39.kc hM_x39 dX9_layer_44 ?_
            refine lv_if_eq (tgt := 69) hx hb dX9_layer_47 (by decide) (fun c47 => ?_) (fun c47 => ?_)
            · skip
              have d47 := c47
              rw [fa_eq] at d47
              refine lv_ldc2 hx hb hown (hts (.constantLong RX9 278 (-12)) (by decide +kernel)) dX9_layer_69 ?_
              exact W.lret (v := (-12 : Int64)) hx hb hr (fun t ht hW => ⟨⟨_, (G, ws), rfl, ⟨rfl, trivial⟩, by show va_P D vwCl ws t.heap; rw [ht]; exact hP, hD, hT⟩, hS.F ht⟩) hS.2.2 dX9_layer_72
            · first | exact absurd c47 (by decide) | exact absurd (by decide) c47
          · skip
            refine lv_astore (lv' := [(4, .ref x39), (0, .ref o), (1, .int d), (2, .int k0)]) hx hb dX9_layer_40 hl (by decide) rfl (fun ls hl => ?_)
            refine lv_aload hx hb dX9_layer_42 (lv_at hl 0 rfl) ?_
            obtain ⟨_, hM_x39, hn_x39, z_x39, a_x39, rfl, hz_x39, hG_a_x39⟩ := hT _ _ hG_x39
            refine va_instS hx hb hown (hts (.classLink RX9 245 RX7) (by decide +kernel)) (hK.1 6 _ rfl).2 (t_recJ hK hP hM_x39 rfl) dX9_layer_44 ?_
            refine lv_if_eq (tgt := 69) hx hb dX9_layer_47 (by decide) (fun c47 => ?_) (fun c47 => ?_)
            · first | exact absurd c47 (by decide) | exact absurd (by decide) c47
            · skip
              have d47 := c47
              rw [fa_eq] at d47
              refine lv_aload hx hb dX9_layer_50 (lv_at hl 0 rfl) ?_
              refine va_castS hx hb hown (hts (.classLink RX9 245 RX7) (by decide +kernel)) (hK.1 6 _ rfl).2 (t_recJ hK hP hM_x39 rfl) dX9_layer_52 ?_
              refine lv_astore_n (lv' := [(3, .ref x39), (4, .ref x39), (0, .ref o), (1, .int d), (2, .int k0)]) hx hb dX9_layer_55 rfl hl (by decide) rfl (fun ls hl => ?_)
              refine lv_aload_n hx hb dX9_layer_56 rfl (lv_at hl 0 rfl) ?_
              refine t_get (v := .int z_x39) (C := RX7) (T := TX7) (N := 2) hx hb hts (by decide +kernel) hown hK hP hM_x39 rfl 0 (by decide) (hts (.fieldLink RX9 264 "ShadowBench$Row" "ofBytes" "Z") (by decide +kernel)) (fun _ h9 => h9) rfl dX9_layer_57 ?_
              refine lv_if_eq (tgt := 69) hx hb dX9_layer_60 (by decide) (fun c60 => ?_) (fun c60 => ?_)
              · skip
                have d60 := c60
                rw [fa_eq] at d60
                refine lv_ldc2 hx hb hown (hts (.constantLong RX9 278 (-12)) (by decide +kernel)) dX9_layer_69 ?_
                exact W.lret (v := (-12 : Int64)) hx hb hr (fun t ht hW => ⟨⟨_, (G, ws), rfl, ⟨rfl, trivial⟩, by show va_P D vwCl ws t.heap; rw [ht]; exact hP, hD, hT⟩, hS.F ht⟩) hS.2.2 dX9_layer_72
              · skip
                have d60 := c60
                rw [fa_eq] at d60
                refine lv_aload_n hx hb dX9_layer_63 rfl (lv_at hl 0 rfl) ?_
                refine lv_iload_n hx hb dX9_layer_64 rfl (lv_at hl 4 rfl) ?_
                refine t_calll (va_runS (g := F0 m 65 ls ([.int k0, .ref x39])) (As := [.ref x39, .int k0]) (rest := []) ⟨hx, hb, hml, hown, hts⟩ (c_X9_layerOf l D cy A G ws x39 k0 hD hT hG_x39 ) (va_cwS 2 hts gX9_layer_X9_layerOf rfl rfl rfl (by decide +kernel) ⟨Nat.le_of_ble_eq_true rfl, Nat.le_of_ble_eq_true rfl⟩) (c_preS hP hK hA hS hV) rfl rfl hl.1 rfl (lv_room (Nat.le_of_ble_eq_true rfl)) dX9_layer_65 ⟨Nat.le_of_ble_eq_true rfl, Nat.le_of_ble_eq_true rfl⟩) hS (fun r65 u H locs q65 hP9 hD9 hT9 hS => ?_)
                obtain ⟨rfl, q65⟩ := q65
                have hP : va_P D vwCl ws H := hP9
                exact W.lret (v := r65) hx hb hr (fun t ht hW => ⟨⟨_, (G, ws), rfl, ⟨rfl, trivial⟩, by show va_P D vwCl ws t.heap; rw [ht]; exact hP, hD, hT⟩, hS.F ht⟩) hS.2.2 dX9_layer_68
        · skip
          refine lv_ifnonnull (tgt := 34) hx hb dX9_layer_27 (by decide) ?_
          refine lv_aload_n hx hb dX9_layer_34 rfl (lv_at hl 0 rfl) ?_
          refine t_get (v := .ref sh_o) (C := RX9) (T := TX9) (N := 9) hx hb hts (by decide +kernel) hown hK hP hM_o rfl 3 (by decide) (hts (.fieldLink RX9 27 "ShadowBench" "shelves" "[LShadowBench$Held;") (by decide +kernel)) (fun _ h9 => h9) rfl dX9_layer_35 ?_
          refine lv_iload_n hx hb dX9_layer_38 rfl (lv_at hl 1 rfl) ?_
          refine t_aald10 hx hb hK hP hT hG_sh_o (vp_in_iff.mpr ⟨by omega, by omega⟩) dX9_layer_39 ?_ (fun x39 kx39 nx39 hG_x39 => ?_) (fun x39 nx39 hG_x39 => ?_)
          · skip
            refine lv_astoreN (lv' := [(4, .null), (0, .ref o), (1, .int d), (2, .int k0)]) hx hb dX9_layer_40 hl (by decide) rfl (fun ls hl => ?_)
            refine lv_aloadN hx hb dX9_layer_42 (lv_at hl 0 rfl) ?_
            refine lv_instN hx hb dX9_layer_44 ?_
            refine lv_if_eq (tgt := 69) hx hb dX9_layer_47 (by decide) (fun c47 => ?_) (fun c47 => ?_)
            · skip
              have d47 := c47
              rw [fa_eq] at d47
              refine lv_ldc2 hx hb hown (hts (.constantLong RX9 278 (-12)) (by decide +kernel)) dX9_layer_69 ?_
              exact W.lret (v := (-12 : Int64)) hx hb hr (fun t ht hW => ⟨⟨_, (G, ws), rfl, ⟨rfl, trivial⟩, by show va_P D vwCl ws t.heap; rw [ht]; exact hP, hD, hT⟩, hS.F ht⟩) hS.2.2 dX9_layer_72
            · first | exact absurd c47 (by decide) | exact absurd (by decide) c47
          · skip
            refine lv_astore (lv' := [(4, .ref x39), (0, .ref o), (1, .int d), (2, .int k0)]) hx hb dX9_layer_40 hl (by decide) rfl (fun ls hl => ?_)
            refine lv_aload hx hb dX9_layer_42 (lv_at hl 0 rfl) ?_
            obtain ⟨_, hM_x39, b_x39, s_x39, w_x39, h_x39, t_x39, x_x39, y_x39, ms_x39, rfl, hG_b_x39, hG_s_x39, hJ_x39⟩ := hT _ _ hG_x39
            refine t_instRN hx hb hV hown (hts (.classLink RX9 245 RX7) (by decide +kernel)) hK hP hJ_x39.kc hM_x39 dX9_layer_44 ?_
            refine lv_if_eq (tgt := 69) hx hb dX9_layer_47 (by decide) (fun c47 => ?_) (fun c47 => ?_)
            · skip
              have d47 := c47
              rw [fa_eq] at d47
              refine lv_ldc2 hx hb hown (hts (.constantLong RX9 278 (-12)) (by decide +kernel)) dX9_layer_69 ?_
              exact W.lret (v := (-12 : Int64)) hx hb hr (fun t ht hW => ⟨⟨_, (G, ws), rfl, ⟨rfl, trivial⟩, by show va_P D vwCl ws t.heap; rw [ht]; exact hP, hD, hT⟩, hS.F ht⟩) hS.2.2 dX9_layer_72
            · first | exact absurd c47 (by decide) | exact absurd (by decide) c47
          · skip
            refine lv_astore (lv' := [(4, .ref x39), (0, .ref o), (1, .int d), (2, .int k0)]) hx hb dX9_layer_40 hl (by decide) rfl (fun ls hl => ?_)
            refine lv_aload hx hb dX9_layer_42 (lv_at hl 0 rfl) ?_
            obtain ⟨_, hM_x39, hn_x39, z_x39, a_x39, rfl, hz_x39, hG_a_x39⟩ := hT _ _ hG_x39
            refine va_instS hx hb hown (hts (.classLink RX9 245 RX7) (by decide +kernel)) (hK.1 6 _ rfl).2 (t_recJ hK hP hM_x39 rfl) dX9_layer_44 ?_
            refine lv_if_eq (tgt := 69) hx hb dX9_layer_47 (by decide) (fun c47 => ?_) (fun c47 => ?_)
            · first | exact absurd c47 (by decide) | exact absurd (by decide) c47
            · skip
              have d47 := c47
              rw [fa_eq] at d47
              refine lv_aload hx hb dX9_layer_50 (lv_at hl 0 rfl) ?_
              refine va_castS hx hb hown (hts (.classLink RX9 245 RX7) (by decide +kernel)) (hK.1 6 _ rfl).2 (t_recJ hK hP hM_x39 rfl) dX9_layer_52 ?_
              refine lv_astore_n (lv' := [(3, .ref x39), (4, .ref x39), (0, .ref o), (1, .int d), (2, .int k0)]) hx hb dX9_layer_55 rfl hl (by decide) rfl (fun ls hl => ?_)
              refine lv_aload_n hx hb dX9_layer_56 rfl (lv_at hl 0 rfl) ?_
              refine t_get (v := .int z_x39) (C := RX7) (T := TX7) (N := 2) hx hb hts (by decide +kernel) hown hK hP hM_x39 rfl 0 (by decide) (hts (.fieldLink RX9 264 "ShadowBench$Row" "ofBytes" "Z") (by decide +kernel)) (fun _ h9 => h9) rfl dX9_layer_57 ?_
              refine lv_if_eq (tgt := 69) hx hb dX9_layer_60 (by decide) (fun c60 => ?_) (fun c60 => ?_)
              · skip
                have d60 := c60
                rw [fa_eq] at d60
                refine lv_ldc2 hx hb hown (hts (.constantLong RX9 278 (-12)) (by decide +kernel)) dX9_layer_69 ?_
                exact W.lret (v := (-12 : Int64)) hx hb hr (fun t ht hW => ⟨⟨_, (G, ws), rfl, ⟨rfl, trivial⟩, by show va_P D vwCl ws t.heap; rw [ht]; exact hP, hD, hT⟩, hS.F ht⟩) hS.2.2 dX9_layer_72
              · skip
                have d60 := c60
                rw [fa_eq] at d60
                refine lv_aload_n hx hb dX9_layer_63 rfl (lv_at hl 0 rfl) ?_
                refine lv_iload_n hx hb dX9_layer_64 rfl (lv_at hl 4 rfl) ?_
                refine t_calll (va_runS (g := F0 m 65 ls ([.int k0, .ref x39])) (As := [.ref x39, .int k0]) (rest := []) ⟨hx, hb, hml, hown, hts⟩ (c_X9_layerOf l D cy A G ws x39 k0 hD hT hG_x39 ) (va_cwS 2 hts gX9_layer_X9_layerOf rfl rfl rfl (by decide +kernel) ⟨Nat.le_of_ble_eq_true rfl, Nat.le_of_ble_eq_true rfl⟩) (c_preS hP hK hA hS hV) rfl rfl hl.1 rfl (lv_room (Nat.le_of_ble_eq_true rfl)) dX9_layer_65 ⟨Nat.le_of_ble_eq_true rfl, Nat.le_of_ble_eq_true rfl⟩) hS (fun r65 u H locs q65 hP9 hD9 hT9 hS => ?_)
                obtain ⟨rfl, q65⟩ := q65
                have hP : va_P D vwCl ws H := hP9
                exact W.lret (v := r65) hx hb hr (fun t ht hW => ⟨⟨_, (G, ws), rfl, ⟨rfl, trivial⟩, by show va_P D vwCl ws t.heap; rw [ht]; exact hP, hD, hT⟩, hS.F ht⟩) hS.2.2 dX9_layer_68
      · skip
        have d14 := c14
        rw [fa_lt] at d14
        refine lv_ldc2 hx hb hown (hts (.constantLong RX9 143 (-1)) (by decide +kernel)) dX9_layer_17 ?_
        exact W.lret (v := (-1 : Int64)) hx hb hr (fun t ht hW => ⟨⟨_, (G, ws), rfl, ⟨rfl, trivial⟩, by show va_P D vwCl ws t.heap; rw [ht]; exact hP, hD, hT⟩, hS.F ht⟩) hS.2.2 dX9_layer_20
