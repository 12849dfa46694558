
theorem mul56 {a b : Int32} (ha : 0 ≤ a.toInt ∧ a.toInt ≤ 5) (hb : 1 ≤ b.toInt ∧ b.toInt ≤ 6) : 0 ≤ a.toInt * b.toInt ∧ a.toInt * b.toInt ≤ 30 := by
  have h1 : a.toInt = 0 ∨ a.toInt = 1 ∨ a.toInt = 2 ∨ a.toInt = 3 ∨ a.toInt = 4 ∨ a.toInt = 5 := by omega
  rcases h1 with e | e | e | e | e | e <;> rw [e] <;> omega
set_option maxHeartbeats 4000000 in
set_option maxRecDepth 100000 in
theorem c_X10_begin (l : Launch) (D : va_G) (cy : Nat → ClassId) (mo : Nat) (a : Nat → Nat) (f : Nat → Int32) (g : Nat → Int64) (r : Nat → Nat → Int32) (q : Nat → Nat → Int64)  (hD : DM cy mo a)  : Mv l D cy mo a yX10_begin wsX10_begin ({ frames := 0, cells := 0, slots := 0, locals := 0 }) f g r q [] (fun u => ∃ (rw : Nat → Int32), u = ((upd (upd (upd f 11 (0 : Int32)) 12 (0 : Int32)) 13 (0 : Int32)), g, (va_up r 10 rw), q) ∧ (True)) := by
  refine Met.ofW (cc := cX10_begin) (maxL := 1) (ret := none) (by decide) rfl ?_
  intro p e s m args below meth c s₁ B hml hv
  obtain ⟨rfl, hP, hK⟩ := hv
  have hx := B.exec
  have hb := B.bytes
  have hr := B.returns
  have hts := atoms_spec (ws := wsX10_begin) B.pre
  have hin : ∀ w ∈ u_ws RX10 TX10 35, w ∈ wsX10_begin := by decide +kernel
  have hown : s.vm.findClass RX10 = some m.cls := findClass_of_methodNamed B.named
  have hlocks := B.notSynchronized
  have hS : va_S (AM mo a) s.heap s.heap [] := va_S.rf
  have hl := lv_entry ([.ref mo]) (n := 1) (Nat.le_of_ble_eq_true rfl)
  rw [lg_entry_eq]
  generalize (lg_sl ([.ref mo]) ++ List.replicate (1 - (lg_sl ([.ref mo])).length) Slot.unset).toArray = ls at hl ⊢
  have hl : lv_has ls 1 [(0, .ref mo)] := hl
  have k_m1 : (-1 : Int32).toInt = -1 := by decide
  have k_0 : (0 : Int32).toInt = 0 := by decide
  refine lv_aload_n hx hb dX10_begin_0 rfl (lv_at hl 0 rfl) ?_
  refine lv_iconst (v := 0) hx hb dX10_begin_1 (by decide) ?_
  refine m_put (v := .int (0 : Int32)) (ty := .int) hx hb hts hin hown hK hP hD hS 11 (by decide) rfl (hts (.fieldLink RX10 157 "ShadowBenchModel" "depth" "I") (by decide +kernel)) rfl (by decide +kernel) rfl rfl (upd f 11 (0 : Int32)) g rfl dX10_begin_2 (fun H locs hP hS => ?_)
  refine lv_aload_n hx hb dX10_begin_5 rfl (lv_at hl 0 rfl) ?_
  refine m_get (v := .ref (a 10)) hx hb hts hin hown hK hP 10 (by decide) rfl (hts (.fieldLink RX10 35 "ShadowBenchModel" "rows" "[I") (by decide +kernel)) rfl dX10_begin_6 ?_
  refine lv_iconst (v := 0) hx hb dX10_begin_9 (by decide) ?_
  refine lv_iconst (v := (-1)) hx hb dX10_begin_10 (by decide) ?_
  refine m_iast (w := (r 10)) hx hb hK hP hD hS 9 rfl (vp_in_iff.mpr ⟨by omega, by omega⟩) (va_up r 10 ((upd (r 10) (0 : Int32).toNatClampNeg (((-1) : Int32))))) rfl dX10_begin_11 (fun H locs hP hS => ?_)
  refine lv_aload_n hx hb dX10_begin_12 rfl (lv_at hl 0 rfl) ?_
  refine lv_iconst (v := 0) hx hb dX10_begin_13 (by decide) ?_
  refine m_put (v := .int (0 : Int32)) (ty := .int) hx hb hts hin hown hK hP hD hS 12 (by decide) rfl (hts (.fieldLink RX10 160 "ShadowBenchModel" "tries" "I") (by decide +kernel)) rfl (by decide +kernel) rfl rfl (upd (upd f 11 (0 : Int32)) 12 (0 : Int32)) g rfl dX10_begin_14 (fun H locs hP hS => ?_)
  refine lv_aload_n hx hb dX10_begin_17 rfl (lv_at hl 0 rfl) ?_
  refine lv_iconst (v := 0) hx hb dX10_begin_18 (by decide) ?_
  refine m_put (v := .int (0 : Int32)) (ty := .boolean) hx hb hts hin hown hK hP hD hS 13 (by decide) rfl (hts (.fieldLink RX10 163 "ShadowBenchModel" "spent" "Z") (by decide +kernel)) rfl (by decide +kernel) rfl rfl (upd (upd (upd f 11 (0 : Int32)) 12 (0 : Int32)) 13 (0 : Int32)) g rfl dX10_begin_19 (fun H locs hP hS => ?_)
  exact W.vret hx hb hr (fun t ht hW => ⟨⟨((upd (upd (upd f 11 (0 : Int32)) 12 (0 : Int32)) 13 (0 : Int32)), g, (va_up r 10 (((upd (r 10) (0 : Int32).toNatClampNeg (((-1) : Int32)))))), q), rfl, ⟨((upd (r 10) (0 : Int32).toNatClampNeg (((-1) : Int32)))), rfl, trivial⟩, by unfold mB; rw [ht]; exact hP⟩, hS.F ht⟩) hS.2.2 dX10_begin_22
set_option maxHeartbeats 4000000 in
set_option maxRecDepth 100000 in
theorem c_X10_picture (l : Launch) (D : va_G) (cy : Nat → ClassId) (mo : Nat) (a : Nat → Nat) (f : Nat → Int32) (g : Nat → Int64) (r : Nat → Nat → Int32) (q : Nat → Nat → Int64) (j : Int32) (many : Int32) (hD : DM cy mo a) (hI : MI f r) (hj : 0 ≤ j.toInt ∧ j.toInt < (f 1).toInt) (hm : many.toInt ≤ 6) : Ml l D cy mo a yX10_picture wsX10_picture ({ frames := 0, cells := 0, slots := 0, locals := 0 }) f g r q [.int j, .int many] (fun r0 u => u = (f, g, r, q) ∧ (True)) := by
  refine Met.ofW (cc := cX10_picture) (maxL := 6) (ret := (some .long)) (by decide) rfl ?_
  intro p e s m args below meth c s₁ B hml hv
  obtain ⟨rfl, hP, hK⟩ := hv
  have hx := B.exec
  have hb := B.bytes
  have hr := B.returns
  have hts := atoms_spec (ws := wsX10_picture) B.pre
  have hin : ∀ w ∈ u_ws RX10 TX10 35, w ∈ wsX10_picture := by decide +kernel
  have hown : s.vm.findClass RX10 = some m.cls := findClass_of_methodNamed B.named
  have hlocks := B.notSynchronized
  have hS : va_S (AM mo a) s.heap s.heap [] := va_S.rf
  have hl := lv_entry ([.ref mo, .int j, .int many]) (n := 6) (Nat.le_of_ble_eq_true rfl)
  rw [lg_entry_eq]
  generalize (lg_sl ([.ref mo, .int j, .int many]) ++ List.replicate (6 - (lg_sl ([.ref mo, .int j, .int many])).length) Slot.unset).toArray = ls at hl ⊢
  have hl : lv_has ls 6 [(0, .ref mo), (1, .int j), (2, .int many)] := hl
  have k_0 : (0 : Int32).toInt = 0 := by decide
  have k_0L : (0 : Int64).toInt = 0 := by decide
  have hI1 := hI.1
  refine lv_lconst (v := 0) hx hb dX10_picture_0 (by decide) ?_
  refine lv_lstore_n (lv' := [(3, .long (0 : Int64)), (0, .ref mo), (1, .int j), (2, .int many)]) hx hb dX10_picture_1 rfl hl (by decide) rfl (fun ls hl => ?_)
  refine lv_iconst (v := 0) hx hb dX10_picture_2 (by decide) ?_
  refine lv_istore (lv' := [(5, .int (0 : Int32)), (3, .long (0 : Int64)), (0, .ref mo), (1, .int j), (2, .int many)]) hx hb dX10_picture_3 hl (by decide) rfl (fun ls hl => ?_)
  have loop_5 : ∀ (n : Nat) (k : Nat) (x3 : Int64), (k ≤ 6) → 6 - k < n → ∀ (H : Heap) (locs : List Loc), va_P D vwCl (WM cy mo a f g r q) H → va_S (AM mo a) s.heap H locs → ∀ (ls : Array Slot), lv_has ls 6 [(5, .int (nI k)), (3, .long x3), (0, .ref mo), (1, .int j), (2, .int many)] → W p l e (headSpec wsX10_picture ({ frames := 0, cells := 0, slots := 0, locals := 0 })).room s m #[Value.ref mo, Value.int j, Value.int many] below meth c H locs 0 0 (MQ below (va_Ql (fun r0 u => u = (f, g, r, q) ∧ (True)) (mB D cy mo a) (AM mo a)) #[Value.ref mo, Value.int j, Value.int many] s 0 0 (AM mo a)) (F0 m 5 ls []) := by
    intro n
    induction n with
    | zero => intro k x3  j5_0 hn; exact absurd hn (Nat.not_lt_zero _)
    | succ n ih_5 =>
      intro k x3  j5_0 hn_5 H locs hP hS ls hl
      have ik : (nI k).toInt = (k : Int) := nI_toInt (by omega)
      refine lv_iload hx hb dX10_picture_5 (lv_at hl 0 rfl) ?_
      refine lv_iload_n hx hb dX10_picture_7 rfl (lv_at hl 4 rfl) ?_
      refine lv_icmp_ge (tgt := 38) hx hb dX10_picture_8 (by decide) (fun c8 => ?_) (fun c8 => ?_)
      · skip
        have d8 := c8
        rw [fa_le] at d8
        refine lv_lload_n hx hb dX10_picture_38 rfl (lv_at hl 1 rfl) ?_
        exact W.lret (v := x3) hx hb hr (fun t ht hW => ⟨⟨_, (f, g, r, q), rfl, ⟨rfl, trivial⟩, by unfold mB; rw [ht]; exact hP⟩, hS.F ht⟩) hS.2.2 dX10_picture_39
      · skip
        have d8 := c8
        rw [fa_le] at d8
        refine lv_lload_n hx hb dX10_picture_11 rfl (lv_at hl 1 rfl) ?_
        refine lv_aload_n hx hb dX10_picture_12 rfl (lv_at hl 2 rfl) ?_
        refine m_get (v := .ref (a 10)) hx hb hts hin hown hK hP 10 (by decide) rfl (hts (.fieldLink RX10 35 "ShadowBenchModel" "rows" "[I") (by decide +kernel)) rfl dX10_picture_13 ?_
        refine lv_iload hx hb dX10_picture_16 (lv_at hl 0 rfl) ?_
        refine m_iald (w := (r 10)) hx hb hK hP 9 rfl (vp_in_iff.mpr ⟨by omega, by omega⟩) dX10_picture_18 ?_
        refine lv_topi (fun v18 e18 => ?_)
        have i18 : v18.toInt = ((r 10) (nI k).toNatClampNeg).toInt := congrArg Int32.toInt e18
        refine lv_i2l (v := v18.toInt64) hx hb dX10_picture_19 rfl ?_
        refine lv_iload hx hb dX10_picture_20 (lv_at hl 0 rfl) ?_
        refine lv_aload_n hx hb dX10_picture_22 rfl (lv_at hl 2 rfl) ?_
        refine m_get (v := .ref (a 3)) hx hb hts hin hown hK hP 3 (by decide) rfl (hts (.fieldLink RX10 13 "ShadowBenchModel" "wide" "[I") (by decide +kernel)) rfl dX10_picture_23 ?_
        refine lv_iload_n hx hb dX10_picture_26 rfl (lv_at hl 3 rfl) ?_
        refine m_iald (w := (r 3)) hx hb hK hP 2 rfl (vp_in_iff.mpr ⟨by omega, by omega⟩) dX10_picture_27 ?_
        refine lv_topi (fun v27 e27 => ?_)
        have i27 : v27.toInt = ((r 3) j.toNatClampNeg).toInt := congrArg Int32.toInt e27
        have w27 := mi_w hI (x := j) (by omega) (by omega) e27
        refine lv_imul hx hb dX10_picture_28 ?_
        refine lv_topi (fun v28 e28 => ?_)
        refine lv_lshl (v := v18.toInt64 <<< (v28.toInt64 &&& 63)) hx hb dX10_picture_29 rfl ?_
        refine lv_lor hx hb dX10_picture_30 ?_
        refine lv_topl (fun v30 e30 => ?_)
        refine lv_lstore_n (lv' := [(3, .long v30), (5, .int (nI k)), (0, .ref mo), (1, .int j), (2, .int many)]) hx hb dX10_picture_31 rfl hl (by decide) rfl (fun ls hl => ?_)
        refine lv_iinc (v := (nI (k + 1))) (lv' := [(5, .int (nI (k + 1))), (3, .long v30), (0, .ref mo), (1, .int j), (2, .int many)]) hx hb dX10_picture_32 hl (k := 1) rfl (nI_1 _) (by decide) rfl (fun ls hl => ?_)
        refine lv_goto (tgt := 5) hx hb dX10_picture_35 (by decide) ?_
        exact ih_5 (k + 1) v30 (by omega) (by omega) _ _ hP hS ls (lv_sub hl [0, 1, 2, 3, 4] rfl)
  exact loop_5 (6 + 1) 0 (0 : Int64) (by omega) (by omega) _ _ hP hS ls (lv_sub hl [0, 1, 2, 3, 4] rfl)
set_option maxHeartbeats 4000000 in
set_option maxRecDepth 100000 in
theorem c_X10_goesOn (l : Launch) (D : va_G) (cy : Nat → ClassId) (mo : Nat) (a : Nat → Nat) (f : Nat → Int32) (g : Nat → Int64) (r : Nat → Nat → Int32) (q : Nat → Nat → Int64) (j : Int32) (hD : DM cy mo a) (hI : MI f r) (hj : 0 ≤ j.toInt ∧ j.toInt < (f 1).toInt) (hd : 0 ≤ (f 11).toInt ∧ (f 11).toInt < (r 4 j.toNatClampNeg).toInt) : Mi l D cy mo a yX10_goesOn wsX10_goesOn ({ frames := 0, cells := 0, slots := 0, locals := 0 }) f g r q [.int j] (fun r0 u => u = (f, g, r, q) ∧ (r0 = 0 ∨ r0 = 1)) := by
  refine Met.ofW (cc := cX10_goesOn) (maxL := 10) (ret := (some .boolean)) (by decide) rfl ?_
  intro p e s m args below meth c s₁ B hml hv
  obtain ⟨rfl, hP, hK⟩ := hv
  have hx := B.exec
  have hb := B.bytes
  have hr := B.returns
  have hts := atoms_spec (ws := wsX10_goesOn) B.pre
  have hin : ∀ w ∈ u_ws RX10 TX10 35, w ∈ wsX10_goesOn := by decide +kernel
  have hown : s.vm.findClass RX10 = some m.cls := findClass_of_methodNamed B.named
  have hlocks := B.notSynchronized
  have hS : va_S (AM mo a) s.heap s.heap [] := va_S.rf
  have hl := lv_entry ([.ref mo, .int j]) (n := 10) (Nat.le_of_ble_eq_true rfl)
  rw [lg_entry_eq]
  generalize (lg_sl ([.ref mo, .int j]) ++ List.replicate (10 - (lg_sl ([.ref mo, .int j])).length) Slot.unset).toArray = ls at hl ⊢
  have hl : lv_has ls 10 [(0, .ref mo), (1, .int j)] := hl
  have k_0 : (0 : Int32).toInt = 0 := by decide
  have k_1 : (1 : Int32).toInt = 1 := by decide
  have k_2 : (2 : Int32).toInt = 2 := by decide
  have k_11 : (11 : Int32).toInt = 11 := by decide
  have k_36 : (36 : Int32).toInt = 36 := by decide
  have k_44 : (44 : Int32).toInt = 44 := by decide
  have hI1 := hI.1
  have hh := mi_h hI (x := j) (by omega) (by omega) rfl
  refine lv_aload_n hx hb dX10_goesOn_0 rfl (lv_at hl 0 rfl) ?_
  refine m_get (v := .ref (a 3)) hx hb hts hin hown hK hP 3 (by decide) rfl (hts (.fieldLink RX10 13 "ShadowBenchModel" "wide" "[I") (by decide +kernel)) rfl dX10_goesOn_1 ?_
  refine lv_iload_n hx hb dX10_goesOn_4 rfl (lv_at hl 1 rfl) ?_
  refine m_iald (w := (r 3)) hx hb hK hP 2 rfl (vp_in_iff.mpr ⟨by omega, by omega⟩) dX10_goesOn_5 ?_
  refine lv_topi (fun v5 e5 => ?_)
  have i5 : v5.toInt = ((r 3) j.toNatClampNeg).toInt := congrArg Int32.toInt e5
  have w5 := mi_w hI (x := j) (by omega) (by omega) e5
  refine lv_istore_n (lv' := [(2, .int v5), (0, .ref mo), (1, .int j)]) hx hb dX10_goesOn_6 rfl hl (by decide) rfl (fun ls hl => ?_)
  refine lv_iconst (v := 0) hx hb dX10_goesOn_7 (by decide) ?_
  refine lv_istore_n (lv' := [(3, .int (0 : Int32)), (2, .int v5), (0, .ref mo), (1, .int j)]) hx hb dX10_goesOn_8 rfl hl (by decide) rfl (fun ls hl => ?_)
  refine lv_iconst (v := 1) hx hb dX10_goesOn_9 (by decide) ?_
  refine lv_istore (lv' := [(4, .int (1 : Int32)), (3, .int (0 : Int32)), (2, .int v5), (0, .ref mo), (1, .int j)]) hx hb dX10_goesOn_10 hl (by decide) rfl (fun ls hl => ?_)
  refine lv_iconst (v := 0) hx hb dX10_goesOn_12 (by decide) ?_
  refine lv_istore (lv' := [(5, .int (0 : Int32)), (4, .int (1 : Int32)), (3, .int (0 : Int32)), (2, .int v5), (0, .ref mo), (1, .int j)]) hx hb dX10_goesOn_13 hl (by decide) rfl (fun ls hl => ?_)
  have loop_15 : ∀ (n : Nat) (x : Nat) (x4 : Int32) (x3 : Int32), (x ≤ 6) → 6 - x < n → ∀ (H : Heap) (locs : List Loc), va_P D vwCl (WM cy mo a f g r q) H → va_S (AM mo a) s.heap H locs → ∀ (ls : Array Slot), lv_has ls 10 [(5, .int (nI x)), (4, .int x4), (3, .int x3), (2, .int v5), (0, .ref mo), (1, .int j)] → W p l e (headSpec wsX10_goesOn ({ frames := 0, cells := 0, slots := 0, locals := 0 })).room s m #[Value.ref mo, Value.int j] below meth c H locs 0 0 (MQ below (va_Qi (fun r0 u => u = (f, g, r, q) ∧ (r0 = 0 ∨ r0 = 1)) (mB D cy mo a) (AM mo a)) #[Value.ref mo, Value.int j] s 0 0 (AM mo a)) (F0 m 15 ls []) := by
    intro n
    induction n with
    | zero => intro x x4 x3  j15_0 hn; exact absurd hn (Nat.not_lt_zero _)
    | succ n ih_15 =>
      intro x x4 x3  j15_0 hn_15 H locs hP hS ls hl
      have ix : (nI x).toInt = (x : Int) := nI_toInt (by omega)
      refine lv_iload hx hb dX10_goesOn_15 (lv_at hl 0 rfl) ?_
      refine lv_iload_n hx hb dX10_goesOn_17 rfl (lv_at hl 3 rfl) ?_
      refine lv_icmp_ge (tgt := 152) hx hb dX10_goesOn_18 (by decide) (fun c18 => ?_) (fun c18 => ?_)
      · skip
        have d18 := c18
        rw [fa_le] at d18
        refine lv_iload hx hb dX10_goesOn_152 (lv_at hl 1 rfl) ?_
        refine lv_if_eq (tgt := 179) hx hb dX10_goesOn_154 (by decide) (fun c154 => ?_) (fun c154 => ?_)
        · skip
          have d154 := c154
          rw [fa_eq] at d154
          refine lv_iconst (v := 0) hx hb dX10_goesOn_179 (by decide) ?_
          exact W.zret (v := (0 : Int32)) hx hb hr (by decide) (fun t ht hW => ⟨⟨_, (f, g, r, q), rfl, ⟨rfl, by decide⟩, by unfold mB; rw [ht]; exact hP⟩, hS.F ht⟩) hS.2.2 dX10_goesOn_180
        · skip
          have d154 := c154
          rw [fa_eq] at d154
          refine lv_iload_n hx hb dX10_goesOn_157 rfl (lv_at hl 2 rfl) ?_
          refine lv_aload_n hx hb dX10_goesOn_158 rfl (lv_at hl 4 rfl) ?_
          refine m_get (v := .ref (a 5)) hx hb hts hin hown hK hP 5 (by decide) rfl (hts (.fieldLink RX10 19 "ShadowBenchModel" "sums" "[I") (by decide +kernel)) rfl dX10_goesOn_159 ?_
          refine lv_bipush (v := 44) hx hb dX10_goesOn_162 (by decide) ?_
          refine lv_iload_n hx hb dX10_goesOn_164 rfl (lv_at hl 5 rfl) ?_
          refine lv_imul hx hb dX10_goesOn_165 ?_
          refine lv_topi (fun v165 e165 => ?_)
          have i165 : v165.toInt = 44 * j.toInt := by rw [e165]; exact mulcL rfl (by omega) (by omega)
          refine lv_aload_n hx hb dX10_goesOn_166 rfl (lv_at hl 4 rfl) ?_
          refine m_get (v := .int (f 11)) hx hb hts hin hown hK hP 11 (by decide) rfl (hts (.fieldLink RX10 157 "ShadowBenchModel" "depth" "I") (by decide +kernel)) rfl dX10_goesOn_167 ?_
          refine lv_iadd hx hb dX10_goesOn_170 ?_
          refine lv_topi (fun v170 e170 => ?_)
          have i170 : v170.toInt = v165.toInt + (f 11).toInt := by rw [e170]; exact fb_addI (by omega) (by omega)
          refine m_iald (w := (r 5)) hx hb hK hP 4 rfl (vp_in_iff.mpr ⟨by omega, by omega⟩) dX10_goesOn_171 ?_
          refine lv_topi (fun v171 e171 => ?_)
          have i171 : v171.toInt = ((r 5) v170.toNatClampNeg).toInt := congrArg Int32.toInt e171
          refine lv_icmp_ne (tgt := 179) hx hb dX10_goesOn_172 (by decide) (fun c172 => ?_) (fun c172 => ?_)
          · skip
            have d172 := c172
            rw [fa_eq] at d172
            refine lv_iconst (v := 0) hx hb dX10_goesOn_179 (by decide) ?_
            exact W.zret (v := (0 : Int32)) hx hb hr (by decide) (fun t ht hW => ⟨⟨_, (f, g, r, q), rfl, ⟨rfl, by decide⟩, by unfold mB; rw [ht]; exact hP⟩, hS.F ht⟩) hS.2.2 dX10_goesOn_180
          · skip
            have d172 := c172
            rw [fa_eq] at d172
            refine lv_iconst (v := 1) hx hb dX10_goesOn_175 (by decide) ?_
            refine lv_goto (tgt := 180) hx hb dX10_goesOn_176 (by decide) ?_
            exact W.zret (v := (1 : Int32)) hx hb hr (by decide) (fun t ht hW => ⟨⟨_, (f, g, r, q), rfl, ⟨rfl, by decide⟩, by unfold mB; rw [ht]; exact hP⟩, hS.F ht⟩) hS.2.2 dX10_goesOn_180
      · skip
        have d18 := c18
        rw [fa_le] at d18
        refine lv_aload_n hx hb dX10_goesOn_21 rfl (lv_at hl 4 rfl) ?_
        refine m_get (v := .ref (a 7)) hx hb hts hin hown hK hP 7 (by decide) rfl (hts (.fieldLink RX10 26 "ShadowBenchModel" "held" "[I") (by decide +kernel)) rfl dX10_goesOn_22 ?_
        refine lv_bipush (v := 36) hx hb dX10_goesOn_25 (by decide) ?_
        refine lv_iload_n hx hb dX10_goesOn_27 rfl (lv_at hl 5 rfl) ?_
        refine lv_imul hx hb dX10_goesOn_28 ?_
        refine lv_topi (fun v28 e28 => ?_)
        have i28 : v28.toInt = 36 * j.toInt := by rw [e28]; exact mulcL rfl (by omega) (by omega)
        refine lv_aload_n hx hb dX10_goesOn_29 rfl (lv_at hl 4 rfl) ?_
        refine m_get (v := .int (f 11)) hx hb hts hin hown hK hP 11 (by decide) rfl (hts (.fieldLink RX10 157 "ShadowBenchModel" "depth" "I") (by decide +kernel)) rfl dX10_goesOn_30 ?_
        refine lv_iload_n hx hb dX10_goesOn_33 rfl (lv_at hl 3 rfl) ?_
        have m34 := mul56 (a := f 11) (b := v5) (by omega) w5
        refine lv_imul hx hb dX10_goesOn_34 ?_
        refine lv_topi (fun v34 e34 => ?_)
        have i34 : v34.toInt = (f 11).toInt * v5.toInt := by rw [e34]; exact fb_mulI (by omega) (by omega)
        refine lv_iadd hx hb dX10_goesOn_35 ?_
        refine lv_topi (fun v35 e35 => ?_)
        have i35 : v35.toInt = v28.toInt + v34.toInt := by rw [e35]; exact fb_addI (by omega) (by omega)
        refine lv_iload hx hb dX10_goesOn_36 (lv_at hl 0 rfl) ?_
        refine lv_iadd hx hb dX10_goesOn_38 ?_
        refine lv_topi (fun v38 e38 => ?_)
        have i38 : v38.toInt = v35.toInt + (nI x).toInt := by rw [e38]; exact fb_addI (by omega) (by omega)
        refine m_iald (w := (r 7)) hx hb hK hP 6 rfl (vp_in_iff.mpr ⟨by omega, by omega⟩) dX10_goesOn_39 ?_
        refine lv_topi (fun v39 e39 => ?_)
        have i39 : v39.toInt = ((r 7) v38.toNatClampNeg).toInt := congrArg Int32.toInt e39
        refine lv_istore (lv' := [(6, .int v39), (5, .int (nI x)), (4, .int x4), (3, .int x3), (2, .int v5), (0, .ref mo), (1, .int j)]) hx hb dX10_goesOn_40 hl (by decide) rfl (fun ls hl => ?_)
        refine lv_aload_n hx hb dX10_goesOn_42 rfl (lv_at hl 5 rfl) ?_
        refine m_get (v := .ref (a 10)) hx hb hts hin hown hK hP 10 (by decide) rfl (hts (.fieldLink RX10 35 "ShadowBenchModel" "rows" "[I") (by decide +kernel)) rfl dX10_goesOn_43 ?_
        refine lv_aload_n hx hb dX10_goesOn_46 rfl (lv_at hl 5 rfl) ?_
        refine m_get (v := .int (f 11)) hx hb hts hin hown hK hP 11 (by decide) rfl (hts (.fieldLink RX10 157 "ShadowBenchModel" "depth" "I") (by decide +kernel)) rfl dX10_goesOn_47 ?_
        refine m_iald (w := (r 10)) hx hb hK hP 9 rfl (vp_in_iff.mpr ⟨by omega, by omega⟩) dX10_goesOn_50 ?_
        refine lv_topi (fun v50 e50 => ?_)
        have i50 : v50.toInt = ((r 10) (f 11).toNatClampNeg).toInt := congrArg Int32.toInt e50
        refine lv_iload hx hb dX10_goesOn_51 (lv_at hl 1 rfl) ?_
        refine lv_ishr hx hb dX10_goesOn_53 ?_
        refine lv_topi (fun v53 e53 => ?_)
        refine lv_iconst (v := 1) hx hb dX10_goesOn_54 (by decide) ?_
        refine lv_iand hx hb dX10_goesOn_55 ?_
        refine lv_topi (fun v55 e55 => ?_)
        refine lv_istore (lv' := [(7, .int v55), (6, .int v39), (5, .int (nI x)), (4, .int x4), (3, .int x3), (2, .int v5), (0, .ref mo), (1, .int j)]) hx hb dX10_goesOn_56 hl (by decide) rfl (fun ls hl => ?_)
        refine lv_iconst (v := 0) hx hb dX10_goesOn_58 (by decide) ?_
        refine lv_istore (lv' := [(8, .int (0 : Int32)), (7, .int v55), (6, .int v39), (5, .int (nI x)), (4, .int x4), (3, .int x3), (2, .int v5), (0, .ref mo), (1, .int j)]) hx hb dX10_goesOn_59 hl (by decide) rfl (fun ls hl => ?_)
        refine lv_iconst (v := 0) hx hb dX10_goesOn_61 (by decide) ?_
        refine lv_istore (lv' := [(9, .int (0 : Int32)), (8, .int (0 : Int32)), (7, .int v55), (6, .int v39), (5, .int (nI x)), (4, .int x4), (3, .int x3), (2, .int v5), (0, .ref mo), (1, .int j)]) hx hb dX10_goesOn_62 hl (by decide) rfl (fun ls hl => ?_)
        have loop_64 : ∀ (n : Nat) (y : Nat) (x8 : Int32), (y ≤ 6) → 6 - y < n → ∀ (H : Heap) (locs : List Loc), va_P D vwCl (WM cy mo a f g r q) H → va_S (AM mo a) s.heap H locs → ∀ (ls : Array Slot), lv_has ls 10 [(9, .int (nI y)), (8, .int x8), (7, .int v55), (6, .int v39), (5, .int (nI x)), (4, .int x4), (3, .int x3), (2, .int v5), (0, .ref mo), (1, .int j)] → W p l e (headSpec wsX10_goesOn ({ frames := 0, cells := 0, slots := 0, locals := 0 })).room s m #[Value.ref mo, Value.int j] below meth c H locs 0 0 (MQ below (va_Qi (fun r0 u => u = (f, g, r, q) ∧ (r0 = 0 ∨ r0 = 1)) (mB D cy mo a) (AM mo a)) #[Value.ref mo, Value.int j] s 0 0 (AM mo a)) (F0 m 64 ls []) := by
          intro n
          induction n with
          | zero => intro y x8  j64_0 hn; exact absurd hn (Nat.not_lt_zero _)
          | succ n ih_64 =>
            intro y x8  j64_0 hn_64 H locs hP hS ls hl
            have iy : (nI y).toInt = (y : Int) := nI_toInt (by omega)
            refine lv_iload hx hb dX10_goesOn_64 (lv_at hl 0 rfl) ?_
            refine lv_aload_n hx hb dX10_goesOn_66 rfl (lv_at hl 8 rfl) ?_
            refine m_get (v := .int (f 11)) hx hb hts hin hown hK hP 11 (by decide) rfl (hts (.fieldLink RX10 157 "ShadowBenchModel" "depth" "I") (by decide +kernel)) rfl dX10_goesOn_67 ?_
            refine lv_icmp_gt (tgt := 96) hx hb dX10_goesOn_70 (by decide) (fun c70 => ?_) (fun c70 => ?_)
            · skip
              have d70 := c70
              rw [fa_lt] at d70
              refine lv_iload hx hb dX10_goesOn_96 (lv_at hl 5 rfl) ?_
              refine lv_if_eq (tgt := 138) hx hb dX10_goesOn_98 (by decide) (fun c98 => ?_) (fun c98 => ?_)
              · skip
                have d98 := c98
                rw [fa_eq] at d98
                refine lv_iconst (v := 0) hx hb dX10_goesOn_138 (by decide) ?_
                refine lv_istore (lv' := [(4, .int (0 : Int32)), (9, .int (nI y)), (8, .int x8), (7, .int v55), (6, .int v39), (5, .int (nI x)), (3, .int x3), (2, .int v5), (0, .ref mo), (1, .int j)]) hx hb dX10_goesOn_139 hl (by decide) rfl (fun ls hl => ?_)
                refine lv_iload_n hx hb dX10_goesOn_141 rfl (lv_at hl 6 rfl) ?_
                refine lv_iload hx hb dX10_goesOn_142 (lv_at hl 3 rfl) ?_
                refine lv_iadd hx hb dX10_goesOn_144 ?_
                refine lv_topi (fun v144 e144 => ?_)
                refine lv_istore_n (lv' := [(3, .int v144), (4, .int (0 : Int32)), (9, .int (nI y)), (8, .int x8), (7, .int v55), (6, .int v39), (5, .int (nI x)), (2, .int v5), (0, .ref mo), (1, .int j)]) hx hb dX10_goesOn_145 rfl hl (by decide) rfl (fun ls hl => ?_)
                refine lv_iinc (v := (nI (x + 1))) (lv' := [(5, .int (nI (x + 1))), (3, .int v144), (4, .int (0 : Int32)), (9, .int (nI y)), (8, .int x8), (7, .int v55), (6, .int v39), (2, .int v5), (0, .ref mo), (1, .int j)]) hx hb dX10_goesOn_146 hl (k := 6) rfl (nI_1 _) (by decide) rfl (fun ls hl => ?_)
                refine lv_goto (tgt := 15) hx hb dX10_goesOn_149 (by decide) ?_
                exact ih_15 (x + 1) (0 : Int32) v144 (by omega) (by omega) _ _ hP hS ls (lv_sub hl [0, 2, 1, 7, 8, 9] rfl)
              · skip
                have d98 := c98
                rw [fa_eq] at d98
                refine lv_iload hx hb dX10_goesOn_101 (lv_at hl 3 rfl) ?_
                refine lv_iconst (v := 2) hx hb dX10_goesOn_103 (by decide) ?_
                refine lv_icmp_eq (tgt := 114) hx hb dX10_goesOn_104 (by decide) (fun c104 => ?_) (fun c104 => ?_)
                · skip
                  have d104 := c104
                  rw [fa_eq] at d104
                  refine lv_iload hx hb dX10_goesOn_114 (lv_at hl 1 rfl) ?_
                  refine lv_aload_n hx hb dX10_goesOn_116 rfl (lv_at hl 8 rfl) ?_
                  refine m_get (v := .ref (a 5)) hx hb hts hin hown hK hP 5 (by decide) rfl (hts (.fieldLink RX10 19 "ShadowBenchModel" "sums" "[I") (by decide +kernel)) rfl dX10_goesOn_117 ?_
                  refine lv_bipush (v := 44) hx hb dX10_goesOn_120 (by decide) ?_
                  refine lv_iload_n hx hb dX10_goesOn_122 rfl (lv_at hl 9 rfl) ?_
                  refine lv_imul hx hb dX10_goesOn_123 ?_
                  refine lv_topi (fun v123 e123 => ?_)
                  have i123 : v123.toInt = 44 * j.toInt := by rw [e123]; exact mulcL rfl (by omega) (by omega)
                  refine lv_bipush (v := 11) hx hb dX10_goesOn_124 (by decide) ?_
                  refine lv_iadd hx hb dX10_goesOn_126 ?_
                  refine lv_topi (fun v126 e126 => ?_)
                  have i126 : v126.toInt = v123.toInt + (11 : Int32).toInt := by rw [e126]; exact fb_addI (by omega) (by omega)
                  refine lv_iload hx hb dX10_goesOn_127 (lv_at hl 4 rfl) ?_
                  refine lv_iadd hx hb dX10_goesOn_129 ?_
                  refine lv_topi (fun v129 e129 => ?_)
                  have i129 : v129.toInt = v126.toInt + (nI x).toInt := by rw [e129]; exact fb_addI (by omega) (by omega)
                  refine m_iald (w := (r 5)) hx hb hK hP 4 rfl (vp_in_iff.mpr ⟨by omega, by omega⟩) dX10_goesOn_130 ?_
                  refine lv_topi (fun v130 e130 => ?_)
                  have i130 : v130.toInt = ((r 5) v129.toNatClampNeg).toInt := congrArg Int32.toInt e130
                  refine lv_icmp_gt (tgt := 138) hx hb dX10_goesOn_131 (by decide) (fun c131 => ?_) (fun c131 => ?_)
                  · skip
                    have d131 := c131
                    rw [fa_lt] at d131
                    refine lv_iconst (v := 0) hx hb dX10_goesOn_138 (by decide) ?_
                    refine lv_istore (lv' := [(4, .int (0 : Int32)), (9, .int (nI y)), (8, .int x8), (7, .int v55), (6, .int v39), (5, .int (nI x)), (3, .int x3), (2, .int v5), (0, .ref mo), (1, .int j)]) hx hb dX10_goesOn_139 hl (by decide) rfl (fun ls hl => ?_)
                    refine lv_iload_n hx hb dX10_goesOn_141 rfl (lv_at hl 6 rfl) ?_
                    refine lv_iload hx hb dX10_goesOn_142 (lv_at hl 3 rfl) ?_
                    refine lv_iadd hx hb dX10_goesOn_144 ?_
                    refine lv_topi (fun v144 e144 => ?_)
                    refine lv_istore_n (lv' := [(3, .int v144), (4, .int (0 : Int32)), (9, .int (nI y)), (8, .int x8), (7, .int v55), (6, .int v39), (5, .int (nI x)), (2, .int v5), (0, .ref mo), (1, .int j)]) hx hb dX10_goesOn_145 rfl hl (by decide) rfl (fun ls hl => ?_)
                    refine lv_iinc (v := (nI (x + 1))) (lv' := [(5, .int (nI (x + 1))), (3, .int v144), (4, .int (0 : Int32)), (9, .int (nI y)), (8, .int x8), (7, .int v55), (6, .int v39), (2, .int v5), (0, .ref mo), (1, .int j)]) hx hb dX10_goesOn_146 hl (k := 6) rfl (nI_1 _) (by decide) rfl (fun ls hl => ?_)
                    refine lv_goto (tgt := 15) hx hb dX10_goesOn_149 (by decide) ?_
                    exact ih_15 (x + 1) (0 : Int32) v144 (by omega) (by omega) _ _ hP hS ls (lv_sub hl [0, 2, 1, 7, 8, 9] rfl)
                  · skip
                    have d131 := c131
                    rw [fa_lt] at d131
                    refine lv_iconst (v := 1) hx hb dX10_goesOn_134 (by decide) ?_
                    refine lv_goto (tgt := 139) hx hb dX10_goesOn_135 (by decide) ?_
                    refine lv_istore (lv' := [(4, .int (1 : Int32)), (9, .int (nI y)), (8, .int x8), (7, .int v55), (6, .int v39), (5, .int (nI x)), (3, .int x3), (2, .int v5), (0, .ref mo), (1, .int j)]) hx hb dX10_goesOn_139 hl (by decide) rfl (fun ls hl => ?_)
                    refine lv_iload_n hx hb dX10_goesOn_141 rfl (lv_at hl 6 rfl) ?_
                    refine lv_iload hx hb dX10_goesOn_142 (lv_at hl 3 rfl) ?_
                    refine lv_iadd hx hb dX10_goesOn_144 ?_
                    refine lv_topi (fun v144 e144 => ?_)
                    refine lv_istore_n (lv' := [(3, .int v144), (4, .int (1 : Int32)), (9, .int (nI y)), (8, .int x8), (7, .int v55), (6, .int v39), (5, .int (nI x)), (2, .int v5), (0, .ref mo), (1, .int j)]) hx hb dX10_goesOn_145 rfl hl (by decide) rfl (fun ls hl => ?_)
                    refine lv_iinc (v := (nI (x + 1))) (lv' := [(5, .int (nI (x + 1))), (3, .int v144), (4, .int (1 : Int32)), (9, .int (nI y)), (8, .int x8), (7, .int v55), (6, .int v39), (2, .int v5), (0, .ref mo), (1, .int j)]) hx hb dX10_goesOn_146 hl (k := 6) rfl (nI_1 _) (by decide) rfl (fun ls hl => ?_)
                    refine lv_goto (tgt := 15) hx hb dX10_goesOn_149 (by decide) ?_
                    exact ih_15 (x + 1) (1 : Int32) v144 (by omega) (by omega) _ _ hP hS ls (lv_sub hl [0, 2, 1, 7, 8, 9] rfl)
                · skip
                  have d104 := c104
                  rw [fa_eq] at d104
                  refine lv_iload hx hb dX10_goesOn_107 (lv_at hl 3 rfl) ?_
                  refine lv_iload hx hb dX10_goesOn_109 (lv_at hl 2 rfl) ?_
                  refine lv_icmp_ne (tgt := 138) hx hb dX10_goesOn_111 (by decide) (fun c111 => ?_) (fun c111 => ?_)
                  · skip
                    have d111 := c111
                    rw [fa_eq] at d111
                    refine lv_iconst (v := 0) hx hb dX10_goesOn_138 (by decide) ?_
                    refine lv_istore (lv' := [(4, .int (0 : Int32)), (9, .int (nI y)), (8, .int x8), (7, .int v55), (6, .int v39), (5, .int (nI x)), (3, .int x3), (2, .int v5), (0, .ref mo), (1, .int j)]) hx hb dX10_goesOn_139 hl (by decide) rfl (fun ls hl => ?_)
                    refine lv_iload_n hx hb dX10_goesOn_141 rfl (lv_at hl 6 rfl) ?_
                    refine lv_iload hx hb dX10_goesOn_142 (lv_at hl 3 rfl) ?_
                    refine lv_iadd hx hb dX10_goesOn_144 ?_
                    refine lv_topi (fun v144 e144 => ?_)
                    refine lv_istore_n (lv' := [(3, .int v144), (4, .int (0 : Int32)), (9, .int (nI y)), (8, .int x8), (7, .int v55), (6, .int v39), (5, .int (nI x)), (2, .int v5), (0, .ref mo), (1, .int j)]) hx hb dX10_goesOn_145 rfl hl (by decide) rfl (fun ls hl => ?_)
                    refine lv_iinc (v := (nI (x + 1))) (lv' := [(5, .int (nI (x + 1))), (3, .int v144), (4, .int (0 : Int32)), (9, .int (nI y)), (8, .int x8), (7, .int v55), (6, .int v39), (2, .int v5), (0, .ref mo), (1, .int j)]) hx hb dX10_goesOn_146 hl (k := 6) rfl (nI_1 _) (by decide) rfl (fun ls hl => ?_)
                    refine lv_goto (tgt := 15) hx hb dX10_goesOn_149 (by decide) ?_
                    exact ih_15 (x + 1) (0 : Int32) v144 (by omega) (by omega) _ _ hP hS ls (lv_sub hl [0, 2, 1, 7, 8, 9] rfl)
                  · skip
                    have d111 := c111
                    rw [fa_eq] at d111
                    refine lv_iload hx hb dX10_goesOn_114 (lv_at hl 1 rfl) ?_
                    refine lv_aload_n hx hb dX10_goesOn_116 rfl (lv_at hl 8 rfl) ?_
                    refine m_get (v := .ref (a 5)) hx hb hts hin hown hK hP 5 (by decide) rfl (hts (.fieldLink RX10 19 "ShadowBenchModel" "sums" "[I") (by decide +kernel)) rfl dX10_goesOn_117 ?_
                    refine lv_bipush (v := 44) hx hb dX10_goesOn_120 (by decide) ?_
                    refine lv_iload_n hx hb dX10_goesOn_122 rfl (lv_at hl 9 rfl) ?_
                    refine lv_imul hx hb dX10_goesOn_123 ?_
                    refine lv_topi (fun v123 e123 => ?_)
                    have i123 : v123.toInt = 44 * j.toInt := by rw [e123]; exact mulcL rfl (by omega) (by omega)
                    refine lv_bipush (v := 11) hx hb dX10_goesOn_124 (by decide) ?_
                    refine lv_iadd hx hb dX10_goesOn_126 ?_
                    refine lv_topi (fun v126 e126 => ?_)
                    have i126 : v126.toInt = v123.toInt + (11 : Int32).toInt := by rw [e126]; exact fb_addI (by omega) (by omega)
                    refine lv_iload hx hb dX10_goesOn_127 (lv_at hl 4 rfl) ?_
                    refine lv_iadd hx hb dX10_goesOn_129 ?_
                    refine lv_topi (fun v129 e129 => ?_)
                    have i129 : v129.toInt = v126.toInt + (nI x).toInt := by rw [e129]; exact fb_addI (by omega) (by omega)
                    refine m_iald (w := (r 5)) hx hb hK hP 4 rfl (vp_in_iff.mpr ⟨by omega, by omega⟩) dX10_goesOn_130 ?_
                    refine lv_topi (fun v130 e130 => ?_)
                    have i130 : v130.toInt = ((r 5) v129.toNatClampNeg).toInt := congrArg Int32.toInt e130
                    refine lv_icmp_gt (tgt := 138) hx hb dX10_goesOn_131 (by decide) (fun c131 => ?_) (fun c131 => ?_)
                    · skip
                      have d131 := c131
                      rw [fa_lt] at d131
                      refine lv_iconst (v := 0) hx hb dX10_goesOn_138 (by decide) ?_
                      refine lv_istore (lv' := [(4, .int (0 : Int32)), (9, .int (nI y)), (8, .int x8), (7, .int v55), (6, .int v39), (5, .int (nI x)), (3, .int x3), (2, .int v5), (0, .ref mo), (1, .int j)]) hx hb dX10_goesOn_139 hl (by decide) rfl (fun ls hl => ?_)
                      refine lv_iload_n hx hb dX10_goesOn_141 rfl (lv_at hl 6 rfl) ?_
                      refine lv_iload hx hb dX10_goesOn_142 (lv_at hl 3 rfl) ?_
                      refine lv_iadd hx hb dX10_goesOn_144 ?_
                      refine lv_topi (fun v144 e144 => ?_)
                      refine lv_istore_n (lv' := [(3, .int v144), (4, .int (0 : Int32)), (9, .int (nI y)), (8, .int x8), (7, .int v55), (6, .int v39), (5, .int (nI x)), (2, .int v5), (0, .ref mo), (1, .int j)]) hx hb dX10_goesOn_145 rfl hl (by decide) rfl (fun ls hl => ?_)
                      refine lv_iinc (v := (nI (x + 1))) (lv' := [(5, .int (nI (x + 1))), (3, .int v144), (4, .int (0 : Int32)), (9, .int (nI y)), (8, .int x8), (7, .int v55), (6, .int v39), (2, .int v5), (0, .ref mo), (1, .int j)]) hx hb dX10_goesOn_146 hl (k := 6) rfl (nI_1 _) (by decide) rfl (fun ls hl => ?_)
                      refine lv_goto (tgt := 15) hx hb dX10_goesOn_149 (by decide) ?_
                      exact ih_15 (x + 1) (0 : Int32) v144 (by omega) (by omega) _ _ hP hS ls (lv_sub hl [0, 2, 1, 7, 8, 9] rfl)
                    · skip
                      have d131 := c131
                      rw [fa_lt] at d131
                      refine lv_iconst (v := 1) hx hb dX10_goesOn_134 (by decide) ?_
                      refine lv_goto (tgt := 139) hx hb dX10_goesOn_135 (by decide) ?_
                      refine lv_istore (lv' := [(4, .int (1 : Int32)), (9, .int (nI y)), (8, .int x8), (7, .int v55), (6, .int v39), (5, .int (nI x)), (3, .int x3), (2, .int v5), (0, .ref mo), (1, .int j)]) hx hb dX10_goesOn_139 hl (by decide) rfl (fun ls hl => ?_)
                      refine lv_iload_n hx hb dX10_goesOn_141 rfl (lv_at hl 6 rfl) ?_
                      refine lv_iload hx hb dX10_goesOn_142 (lv_at hl 3 rfl) ?_
                      refine lv_iadd hx hb dX10_goesOn_144 ?_
                      refine lv_topi (fun v144 e144 => ?_)
                      refine lv_istore_n (lv' := [(3, .int v144), (4, .int (1 : Int32)), (9, .int (nI y)), (8, .int x8), (7, .int v55), (6, .int v39), (5, .int (nI x)), (2, .int v5), (0, .ref mo), (1, .int j)]) hx hb dX10_goesOn_145 rfl hl (by decide) rfl (fun ls hl => ?_)
                      refine lv_iinc (v := (nI (x + 1))) (lv' := [(5, .int (nI (x + 1))), (3, .int v144), (4, .int (1 : Int32)), (9, .int (nI y)), (8, .int x8), (7, .int v55), (6, .int v39), (2, .int v5), (0, .ref mo), (1, .int j)]) hx hb dX10_goesOn_146 hl (k := 6) rfl (nI_1 _) (by decide) rfl (fun ls hl => ?_)
                      refine lv_goto (tgt := 15) hx hb dX10_goesOn_149 (by decide) ?_
                      exact ih_15 (x + 1) (1 : Int32) v144 (by omega) (by omega) _ _ hP hS ls (lv_sub hl [0, 2, 1, 7, 8, 9] rfl)
            · skip
              have d70 := c70
              rw [fa_lt] at d70
              refine lv_iload hx hb dX10_goesOn_73 (lv_at hl 1 rfl) ?_
              refine lv_aload_n hx hb dX10_goesOn_75 rfl (lv_at hl 8 rfl) ?_
              refine m_get (v := .ref (a 10)) hx hb hts hin hown hK hP 10 (by decide) rfl (hts (.fieldLink RX10 35 "ShadowBenchModel" "rows" "[I") (by decide +kernel)) rfl dX10_goesOn_76 ?_
              refine lv_iload hx hb dX10_goesOn_79 (lv_at hl 0 rfl) ?_
              refine m_iald (w := (r 10)) hx hb hK hP 9 rfl (vp_in_iff.mpr ⟨by omega, by omega⟩) dX10_goesOn_81 ?_
              refine lv_topi (fun v81 e81 => ?_)
              have i81 : v81.toInt = ((r 10) (nI y).toNatClampNeg).toInt := congrArg Int32.toInt e81
              refine lv_iload hx hb dX10_goesOn_82 (lv_at hl 4 rfl) ?_
              refine lv_ishr hx hb dX10_goesOn_84 ?_
              refine lv_topi (fun v84 e84 => ?_)
              refine lv_iconst (v := 1) hx hb dX10_goesOn_85 (by decide) ?_
              refine lv_iand hx hb dX10_goesOn_86 ?_
              refine lv_topi (fun v86 e86 => ?_)
              refine lv_iadd hx hb dX10_goesOn_87 ?_
              refine lv_topi (fun v87 e87 => ?_)
              refine lv_istore (lv' := [(8, .int v87), (9, .int (nI y)), (7, .int v55), (6, .int v39), (5, .int (nI x)), (4, .int x4), (3, .int x3), (2, .int v5), (0, .ref mo), (1, .int j)]) hx hb dX10_goesOn_88 hl (by decide) rfl (fun ls hl => ?_)
              refine lv_iinc (v := (nI (y + 1))) (lv' := [(9, .int (nI (y + 1))), (8, .int v87), (7, .int v55), (6, .int v39), (5, .int (nI x)), (4, .int x4), (3, .int x3), (2, .int v5), (0, .ref mo), (1, .int j)]) hx hb dX10_goesOn_90 hl (k := 1) rfl (nI_1 _) (by decide) rfl (fun ls hl => ?_)
              refine lv_goto (tgt := 64) hx hb dX10_goesOn_93 (by decide) ?_
              exact ih_64 (y + 1) v87 (by omega) (by omega) _ _ hP hS ls (lv_sub hl [0, 1, 2, 3, 4, 5, 6, 7, 8, 9] rfl)
        exact loop_64 (6 + 1) 0 (0 : Int32) (by omega) (by omega) _ _ hP hS ls (lv_sub hl [0, 1, 2, 3, 4, 5, 6, 7, 8, 9] rfl)
  exact loop_15 (6 + 1) 0 (1 : Int32) (0 : Int32) (by omega) (by omega) _ _ hP hS ls (lv_sub hl [0, 1, 2, 3, 4, 5] rfl)
