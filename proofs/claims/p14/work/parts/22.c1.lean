
def cLines (w h : Nat) (way : Int32) : Int32 := if way.toInt = 0 then nI h else if way.toInt = 1 then nI w else nI (w + h - 1)
theorem cLines_b {w h : Nat} (hb : 1 ≤ w ∧ w ≤ 6 ∧ 1 ≤ h ∧ h ≤ 6) (way : Int32) : 1 ≤ (cLines w h way).toInt ∧ (cLines w h way).toInt ≤ 11 := by
  unfold cLines
  split
  · rw [nI_toInt (by omega)]; omega
  · split
    · rw [nI_toInt (by omega)]; omega
    · rw [nI_toInt (by omega)]; omega
theorem pair6 {a b : Int} (ha : 1 ≤ a ∧ a ≤ 6) (hb : b = a - 1) : 0 ≤ a * b ∧ a * b ≤ 30 := by
  subst hb
  have h1 : a = 1 ∨ a = 2 ∨ a = 3 ∨ a = 4 ∨ a = 5 ∨ a = 6 := by omega
  rcases h1 with e | e | e | e | e | e <;> rw [e] <;> omega
set_option maxHeartbeats 4000000 in
set_option maxRecDepth 100000 in
theorem c_J13_bitCount_95d88 (l : Launch) (p0 : Int64)  : Pu l yJ13_bitCount_95d88 wsJ13_bitCount_95d88 ({ frames := 0, cells := 0, slots := 0, locals := 0 }) [.long p0] (fun r => True) := by
  refine Met.ofW (cc := cJ13_bitCount_95d88) (maxL := 2) (ret := (some .int)) (by decide) rfl ?_
  intro p e s m args below meth c s₁ B hml hv
  obtain ⟨rfl, -⟩ := hv
  have hx := B.exec
  have hb := B.bytes
  have hr := B.returns
  have hts := atoms_spec (ws := wsJ13_bitCount_95d88) B.pre
  have hown : s.vm.findClass RJ13 = some m.cls := findClass_of_methodNamed B.named
  have hlocks := B.notSynchronized
  have hS : va_S (fun _ => False) s.heap s.heap [] := va_S.rf
  have hl := lv_entry ([.long p0]) (n := 2) (Nat.le_of_ble_eq_true rfl)
  rw [lg_entry_eq]
  generalize (lg_sl ([.long p0]) ++ List.replicate (2 - (lg_sl ([.long p0])).length) Slot.unset).toArray = ls at hl ⊢
  have hl : lv_has ls 2 [(0, .long p0)] := hl
  have hS0 := hS
  have k_0 : (0 : Int32).toInt = 0 := by decide
  have k_1 : (1 : Int32).toInt = 1 := by decide
  have k_2 : (2 : Int32).toInt = 2 := by decide
  have k_4 : (4 : Int32).toInt = 4 := by decide
  have k_8 : (8 : Int32).toInt = 8 := by decide
  have k_16 : (16 : Int32).toInt = 16 := by decide
  have k_32 : (32 : Int32).toInt = 32 := by decide
  have k_127 : (127 : Int32).toInt = 127 := by decide
  have k_1085102592571150095L : (1085102592571150095 : Int64).toInt = 1085102592571150095 := by decide
  have k_3689348814741910323L : (3689348814741910323 : Int64).toInt = 3689348814741910323 := by decide
  have k_6148914691236517205L : (6148914691236517205 : Int64).toInt = 6148914691236517205 := by decide
  refine lv_lload_n hx hb dJ13_bitCount_95d88_0 rfl (lv_at hl 0 rfl) ?_
  refine lv_lload_n hx hb dJ13_bitCount_95d88_1 rfl (lv_at hl 0 rfl) ?_
  refine lv_iconst (v := 1) hx hb dJ13_bitCount_95d88_2 (by decide) ?_
  refine lv_lushr (v := (p0.toUInt64 >>> ((1 : Int32).toInt64.toUInt64 &&& Int64.toUInt64 63)).toInt64) hx hb dJ13_bitCount_95d88_3 rfl ?_
  refine lv_ldc2 hx hb hown (hts (.constantLong RJ13 314 (6148914691236517205)) (by decide +kernel)) dJ13_bitCount_95d88_4 ?_
  refine lv_land hx hb dJ13_bitCount_95d88_7 ?_
  refine lv_topl (fun v7 e7 => ?_)
  refine lv_lsub hx hb dJ13_bitCount_95d88_8 ?_
  refine lv_topl (fun v8 e8 => ?_)
  refine lv_lstore_n (lv' := [(0, .long v8)]) hx hb dJ13_bitCount_95d88_9 rfl hl (by decide) rfl (fun ls hl => ?_)
  refine lv_lload_n hx hb dJ13_bitCount_95d88_10 rfl (lv_at hl 0 rfl) ?_
  refine lv_ldc2 hx hb hown (hts (.constantLong RJ13 316 (3689348814741910323)) (by decide +kernel)) dJ13_bitCount_95d88_11 ?_
  refine lv_land hx hb dJ13_bitCount_95d88_14 ?_
  refine lv_topl (fun v14 e14 => ?_)
  refine lv_lload_n hx hb dJ13_bitCount_95d88_15 rfl (lv_at hl 0 rfl) ?_
  refine lv_iconst (v := 2) hx hb dJ13_bitCount_95d88_16 (by decide) ?_
  refine lv_lushr (v := (v8.toUInt64 >>> ((2 : Int32).toInt64.toUInt64 &&& Int64.toUInt64 63)).toInt64) hx hb dJ13_bitCount_95d88_17 rfl ?_
  refine lv_ldc2 hx hb hown (hts (.constantLong RJ13 316 (3689348814741910323)) (by decide +kernel)) dJ13_bitCount_95d88_18 ?_
  refine lv_land hx hb dJ13_bitCount_95d88_21 ?_
  refine lv_topl (fun v21 e21 => ?_)
  refine lv_ladd hx hb dJ13_bitCount_95d88_22 ?_
  refine lv_topl (fun v22 e22 => ?_)
  refine lv_lstore_n (lv' := [(0, .long v22)]) hx hb dJ13_bitCount_95d88_23 rfl hl (by decide) rfl (fun ls hl => ?_)
  refine lv_lload_n hx hb dJ13_bitCount_95d88_24 rfl (lv_at hl 0 rfl) ?_
  refine lv_lload_n hx hb dJ13_bitCount_95d88_25 rfl (lv_at hl 0 rfl) ?_
  refine lv_iconst (v := 4) hx hb dJ13_bitCount_95d88_26 (by decide) ?_
  refine lv_lushr (v := (v22.toUInt64 >>> ((4 : Int32).toInt64.toUInt64 &&& Int64.toUInt64 63)).toInt64) hx hb dJ13_bitCount_95d88_27 rfl ?_
  refine lv_ladd hx hb dJ13_bitCount_95d88_28 ?_
  refine lv_topl (fun v28 e28 => ?_)
  refine lv_ldc2 hx hb hown (hts (.constantLong RJ13 318 (1085102592571150095)) (by decide +kernel)) dJ13_bitCount_95d88_29 ?_
  refine lv_land hx hb dJ13_bitCount_95d88_32 ?_
  refine lv_topl (fun v32 e32 => ?_)
  refine lv_lstore_n (lv' := [(0, .long v32)]) hx hb dJ13_bitCount_95d88_33 rfl hl (by decide) rfl (fun ls hl => ?_)
  refine lv_lload_n hx hb dJ13_bitCount_95d88_34 rfl (lv_at hl 0 rfl) ?_
  refine lv_lload_n hx hb dJ13_bitCount_95d88_35 rfl (lv_at hl 0 rfl) ?_
  refine lv_bipush (v := 8) hx hb dJ13_bitCount_95d88_36 (by decide) ?_
  refine lv_lushr (v := (v32.toUInt64 >>> ((8 : Int32).toInt64.toUInt64 &&& Int64.toUInt64 63)).toInt64) hx hb dJ13_bitCount_95d88_38 rfl ?_
  refine lv_ladd hx hb dJ13_bitCount_95d88_39 ?_
  refine lv_topl (fun v39 e39 => ?_)
  refine lv_lstore_n (lv' := [(0, .long v39)]) hx hb dJ13_bitCount_95d88_40 rfl hl (by decide) rfl (fun ls hl => ?_)
  refine lv_lload_n hx hb dJ13_bitCount_95d88_41 rfl (lv_at hl 0 rfl) ?_
  refine lv_lload_n hx hb dJ13_bitCount_95d88_42 rfl (lv_at hl 0 rfl) ?_
  refine lv_bipush (v := 16) hx hb dJ13_bitCount_95d88_43 (by decide) ?_
  refine lv_lushr (v := (v39.toUInt64 >>> ((16 : Int32).toInt64.toUInt64 &&& Int64.toUInt64 63)).toInt64) hx hb dJ13_bitCount_95d88_45 rfl ?_
  refine lv_ladd hx hb dJ13_bitCount_95d88_46 ?_
  refine lv_topl (fun v46 e46 => ?_)
  refine lv_lstore_n (lv' := [(0, .long v46)]) hx hb dJ13_bitCount_95d88_47 rfl hl (by decide) rfl (fun ls hl => ?_)
  refine lv_lload_n hx hb dJ13_bitCount_95d88_48 rfl (lv_at hl 0 rfl) ?_
  refine lv_lload_n hx hb dJ13_bitCount_95d88_49 rfl (lv_at hl 0 rfl) ?_
  refine lv_bipush (v := 32) hx hb dJ13_bitCount_95d88_50 (by decide) ?_
  refine lv_lushr (v := (v46.toUInt64 >>> ((32 : Int32).toInt64.toUInt64 &&& Int64.toUInt64 63)).toInt64) hx hb dJ13_bitCount_95d88_52 rfl ?_
  refine lv_ladd hx hb dJ13_bitCount_95d88_53 ?_
  refine lv_topl (fun v53 e53 => ?_)
  refine lv_lstore_n (lv' := [(0, .long v53)]) hx hb dJ13_bitCount_95d88_54 rfl hl (by decide) rfl (fun ls hl => ?_)
  refine lv_lload_n hx hb dJ13_bitCount_95d88_55 rfl (lv_at hl 0 rfl) ?_
  refine lv_l2i (v := v53.toInt32) hx hb dJ13_bitCount_95d88_56 rfl ?_
  refine lv_bipush (v := 127) hx hb dJ13_bitCount_95d88_57 (by decide) ?_
  refine lv_iand hx hb dJ13_bitCount_95d88_59 ?_
  refine lv_topi (fun v59 e59 => ?_)
  exact W.iret (v := v59) hx hb hr (fun t ht hW => ⟨⟨_, (), rfl, trivial, trivial⟩, hS.F ht⟩) hS.2.2 dJ13_bitCount_95d88_60
set_option maxHeartbeats 4000000 in
set_option maxRecDepth 100000 in
theorem c_J6_bitCount_0f7a4 (l : Launch) (p0 : Int32)  : Pu l yJ6_bitCount_0f7a4 wsJ6_bitCount_0f7a4 ({ frames := 0, cells := 0, slots := 0, locals := 0 }) [.int p0] (fun r => True) := by
  refine Met.ofW (cc := cJ6_bitCount_0f7a4) (maxL := 1) (ret := (some .int)) (by decide) rfl ?_
  intro p e s m args below meth c s₁ B hml hv
  obtain ⟨rfl, -⟩ := hv
  have hx := B.exec
  have hb := B.bytes
  have hr := B.returns
  have hts := atoms_spec (ws := wsJ6_bitCount_0f7a4) B.pre
  have hown : s.vm.findClass RJ6 = some m.cls := findClass_of_methodNamed B.named
  have hlocks := B.notSynchronized
  have hS : va_S (fun _ => False) s.heap s.heap [] := va_S.rf
  have hl := lv_entry ([.int p0]) (n := 1) (Nat.le_of_ble_eq_true rfl)
  rw [lg_entry_eq]
  generalize (lg_sl ([.int p0]) ++ List.replicate (1 - (lg_sl ([.int p0])).length) Slot.unset).toArray = ls at hl ⊢
  have hl : lv_has ls 1 [(0, .int p0)] := hl
  have hS0 := hS
  have k_0 : (0 : Int32).toInt = 0 := by decide
  have k_1 : (1 : Int32).toInt = 1 := by decide
  have k_2 : (2 : Int32).toInt = 2 := by decide
  have k_4 : (4 : Int32).toInt = 4 := by decide
  have k_8 : (8 : Int32).toInt = 8 := by decide
  have k_16 : (16 : Int32).toInt = 16 := by decide
  have k_63 : (63 : Int32).toInt = 63 := by decide
  have k_252645135 : (252645135 : Int32).toInt = 252645135 := by decide
  have k_858993459 : (858993459 : Int32).toInt = 858993459 := by decide
  have k_1431655765 : (1431655765 : Int32).toInt = 1431655765 := by decide
  refine lv_iload_n hx hb dJ6_bitCount_0f7a4_0 rfl (lv_at hl 0 rfl) ?_
  refine lv_iload_n hx hb dJ6_bitCount_0f7a4_1 rfl (lv_at hl 0 rfl) ?_
  refine lv_iconst (v := 1) hx hb dJ6_bitCount_0f7a4_2 (by decide) ?_
  refine lv_iushr (v := (p0.toUInt32 >>> ((1 : Int32).toUInt32 &&& Int32.toUInt32 31)).toInt32) hx hb dJ6_bitCount_0f7a4_3 rfl ?_
  refine lv_ldcw hx hb hown (hts (.constant RJ6 265 (1431655765)) (by decide +kernel)) dJ6_bitCount_0f7a4_4 ?_
  refine lv_iand hx hb dJ6_bitCount_0f7a4_7 ?_
  refine lv_topi (fun v7 e7 => ?_)
  refine lv_isub hx hb dJ6_bitCount_0f7a4_8 ?_
  refine lv_topi (fun v8 e8 => ?_)
  refine lv_istore_n (lv' := [(0, .int v8)]) hx hb dJ6_bitCount_0f7a4_9 rfl hl (by decide) rfl (fun ls hl => ?_)
  refine lv_iload_n hx hb dJ6_bitCount_0f7a4_10 rfl (lv_at hl 0 rfl) ?_
  refine lv_ldcw hx hb hown (hts (.constant RJ6 266 (858993459)) (by decide +kernel)) dJ6_bitCount_0f7a4_11 ?_
  refine lv_iand hx hb dJ6_bitCount_0f7a4_14 ?_
  refine lv_topi (fun v14 e14 => ?_)
  refine lv_iload_n hx hb dJ6_bitCount_0f7a4_15 rfl (lv_at hl 0 rfl) ?_
  refine lv_iconst (v := 2) hx hb dJ6_bitCount_0f7a4_16 (by decide) ?_
  refine lv_iushr (v := (v8.toUInt32 >>> ((2 : Int32).toUInt32 &&& Int32.toUInt32 31)).toInt32) hx hb dJ6_bitCount_0f7a4_17 rfl ?_
  refine lv_ldcw hx hb hown (hts (.constant RJ6 266 (858993459)) (by decide +kernel)) dJ6_bitCount_0f7a4_18 ?_
  refine lv_iand hx hb dJ6_bitCount_0f7a4_21 ?_
  refine lv_topi (fun v21 e21 => ?_)
  refine lv_iadd hx hb dJ6_bitCount_0f7a4_22 ?_
  refine lv_topi (fun v22 e22 => ?_)
  refine lv_istore_n (lv' := [(0, .int v22)]) hx hb dJ6_bitCount_0f7a4_23 rfl hl (by decide) rfl (fun ls hl => ?_)
  refine lv_iload_n hx hb dJ6_bitCount_0f7a4_24 rfl (lv_at hl 0 rfl) ?_
  refine lv_iload_n hx hb dJ6_bitCount_0f7a4_25 rfl (lv_at hl 0 rfl) ?_
  refine lv_iconst (v := 4) hx hb dJ6_bitCount_0f7a4_26 (by decide) ?_
  refine lv_iushr (v := (v22.toUInt32 >>> ((4 : Int32).toUInt32 &&& Int32.toUInt32 31)).toInt32) hx hb dJ6_bitCount_0f7a4_27 rfl ?_
  refine lv_iadd hx hb dJ6_bitCount_0f7a4_28 ?_
  refine lv_topi (fun v28 e28 => ?_)
  refine lv_ldcw hx hb hown (hts (.constant RJ6 267 (252645135)) (by decide +kernel)) dJ6_bitCount_0f7a4_29 ?_
  refine lv_iand hx hb dJ6_bitCount_0f7a4_32 ?_
  refine lv_topi (fun v32 e32 => ?_)
  refine lv_istore_n (lv' := [(0, .int v32)]) hx hb dJ6_bitCount_0f7a4_33 rfl hl (by decide) rfl (fun ls hl => ?_)
  refine lv_iload_n hx hb dJ6_bitCount_0f7a4_34 rfl (lv_at hl 0 rfl) ?_
  refine lv_iload_n hx hb dJ6_bitCount_0f7a4_35 rfl (lv_at hl 0 rfl) ?_
  refine lv_bipush (v := 8) hx hb dJ6_bitCount_0f7a4_36 (by decide) ?_
  refine lv_iushr (v := (v32.toUInt32 >>> ((8 : Int32).toUInt32 &&& Int32.toUInt32 31)).toInt32) hx hb dJ6_bitCount_0f7a4_38 rfl ?_
  refine lv_iadd hx hb dJ6_bitCount_0f7a4_39 ?_
  refine lv_topi (fun v39 e39 => ?_)
  refine lv_istore_n (lv' := [(0, .int v39)]) hx hb dJ6_bitCount_0f7a4_40 rfl hl (by decide) rfl (fun ls hl => ?_)
  refine lv_iload_n hx hb dJ6_bitCount_0f7a4_41 rfl (lv_at hl 0 rfl) ?_
  refine lv_iload_n hx hb dJ6_bitCount_0f7a4_42 rfl (lv_at hl 0 rfl) ?_
  refine lv_bipush (v := 16) hx hb dJ6_bitCount_0f7a4_43 (by decide) ?_
  refine lv_iushr (v := (v39.toUInt32 >>> ((16 : Int32).toUInt32 &&& Int32.toUInt32 31)).toInt32) hx hb dJ6_bitCount_0f7a4_45 rfl ?_
  refine lv_iadd hx hb dJ6_bitCount_0f7a4_46 ?_
  refine lv_topi (fun v46 e46 => ?_)
  refine lv_istore_n (lv' := [(0, .int v46)]) hx hb dJ6_bitCount_0f7a4_47 rfl hl (by decide) rfl (fun ls hl => ?_)
  refine lv_iload_n hx hb dJ6_bitCount_0f7a4_48 rfl (lv_at hl 0 rfl) ?_
  refine lv_bipush (v := 63) hx hb dJ6_bitCount_0f7a4_49 (by decide) ?_
  refine lv_iand hx hb dJ6_bitCount_0f7a4_51 ?_
  refine lv_topi (fun v51 e51 => ?_)
  exact W.iret (v := v51) hx hb hr (fun t ht hW => ⟨⟨_, (), rfl, trivial, trivial⟩, hS.F ht⟩) hS.2.2 dJ6_bitCount_0f7a4_52
set_option maxHeartbeats 4000000 in
set_option maxRecDepth 100000 in
theorem c_X0_pairsOf (l : Launch) (n0 : Int32) (hn : 1 ≤ n0.toInt ∧ n0.toInt ≤ 6) : Pu l yX0_pairsOf wsX0_pairsOf ({ frames := 0, cells := 0, slots := 0, locals := 0 }) [.int n0] (fun r => r.toInt = n0.toInt * (n0.toInt - 1) / 2) := by
  refine Met.ofW (cc := cX0_pairsOf) (maxL := 1) (ret := (some .int)) (by decide) rfl ?_
  intro p e s m args below meth c s₁ B hml hv
  obtain ⟨rfl, -⟩ := hv
  have hx := B.exec
  have hb := B.bytes
  have hr := B.returns
  have hts := atoms_spec (ws := wsX0_pairsOf) B.pre
  have hown : s.vm.findClass RX0 = some m.cls := findClass_of_methodNamed B.named
  have hlocks := B.notSynchronized
  have hS : va_S (fun _ => False) s.heap s.heap [] := va_S.rf
  have hl := lv_entry ([.int n0]) (n := 1) (Nat.le_of_ble_eq_true rfl)
  rw [lg_entry_eq]
  generalize (lg_sl ([.int n0]) ++ List.replicate (1 - (lg_sl ([.int n0])).length) Slot.unset).toArray = ls at hl ⊢
  have hl : lv_has ls 1 [(0, .int n0)] := hl
  have hS0 := hS
  have k_0 : (0 : Int32).toInt = 0 := by decide
  have k_1 : (1 : Int32).toInt = 1 := by decide
  have k_2 : (2 : Int32).toInt = 2 := by decide
  refine lv_iload_n hx hb dX0_pairsOf_0 rfl (lv_at hl 0 rfl) ?_
  refine lv_iconst (v := 1) hx hb dX0_pairsOf_1 (by decide) ?_
  refine lv_icmp_le (tgt := 15) hx hb dX0_pairsOf_2 (by decide) (fun c2 => ?_) (fun c2 => ?_)
  · skip
    have d2 := c2
    rw [fa_le] at d2
    refine lv_iconst (v := 0) hx hb dX0_pairsOf_15 (by decide) ?_
    exact W.iret (v := (0 : Int32)) hx hb hr (fun t ht hW => ⟨⟨_, (), rfl, (by show _ = n0.toInt * (n0.toInt - 1) / 2; first | (rw [i11, i9, i8, k_1, k_2]) | (have : n0.toInt = 1 := (by omega); rw [this]; decide)), trivial⟩, hS.F ht⟩) hS.2.2 dX0_pairsOf_16
  · skip
    have d2 := c2
    rw [fa_le] at d2
    refine lv_iload_n hx hb dX0_pairsOf_5 rfl (lv_at hl 0 rfl) ?_
    refine lv_iload_n hx hb dX0_pairsOf_6 rfl (lv_at hl 0 rfl) ?_
    refine lv_iconst (v := 1) hx hb dX0_pairsOf_7 (by decide) ?_
    refine lv_isub hx hb dX0_pairsOf_8 ?_
    refine lv_topi (fun v8 e8 => ?_)
    have i8 : v8.toInt = n0.toInt - (1 : Int32).toInt := by rw [e8]; exact fb_subI (by omega) (by omega)
    have m9 := pair6 hn (b := v8.toInt) (by omega)
    refine lv_imul hx hb dX0_pairsOf_9 ?_
    refine lv_topi (fun v9 e9 => ?_)
    have i9 : v9.toInt = n0.toInt * v8.toInt := by rw [e9]; exact fb_mulI (by omega) (by omega)
    refine lv_iconst (v := 2) hx hb dX0_pairsOf_10 (by decide) ?_
    refine lv_idiv hx hb dX0_pairsOf_11 (fun z => by rw [fa_eq] at z; omega) ?_
    refine lv_topi (fun v11 e11 => ?_)
    have i11 : v11.toInt = v9.toInt / (2 : Int32).toInt := by rw [e11]; exact my_idiv (by omega) (by omega)
    have j11 : 0 ≤ v11.toInt ∧ v11.toInt ≤ v9.toInt := by rw [e11]; exact my_divb (by omega) (by omega)
    refine lv_goto (tgt := 16) hx hb dX0_pairsOf_12 (by decide) ?_
    exact W.iret (v := v11) hx hb hr (fun t ht hW => ⟨⟨_, (), rfl, (by show _ = n0.toInt * (n0.toInt - 1) / 2; first | (rw [i11, i9, i8, k_1, k_2]) | (have : n0.toInt = 1 := (by omega); rw [this]; decide)), trivial⟩, hS.F ht⟩) hS.2.2 dX0_pairsOf_16
set_option maxHeartbeats 4000000 in
set_option maxRecDepth 100000 in
theorem c_X0_bit (l : Launch) (D : va_G) (cy : Nat → ClassId) (A : Nat → Prop) (G : cG) (ws : va_W) (o : Nat) (x : Nat) (y : Nat) {w h l_o f_o r_o : Nat} (hD : va_D A ws) (hT : cT cy G ws) (hM_o : cIn ws o (.inr (0, [.int (nI w), .int (nI h), .int (nI (w * h)), .int (nI (2 ^ w)), .int (nI (cfo w h)), .ref l_o, .ref f_o, .ref r_o]))) (hb_o : 1 ≤ w ∧ w ≤ 6 ∧ 1 ≤ h ∧ h ≤ 6) : Cl l D cy A yX0_bit wsX0_bit ({ frames := 0, cells := 0, slots := 0, locals := 0 }) 0 0 ws [.ref o, .int (nI x), .int (nI y)] (fun r0 u => u = (G, ws) ∧ (r0 = l1 (y * w + x))) := by
  refine Met.ofW (cc := cX0_bit) (maxL := 3) (ret := (some .long)) (by decide) rfl ?_
  intro p e s m args below meth c s₁ B hml hv
  obtain ⟨rfl, hP, hK, hA, hV⟩ := hv
  have hx := B.exec
  have hb := B.bytes
  have hr := B.returns
  have hts := atoms_spec (ws := wsX0_bit) B.pre
  have hown : s.vm.findClass RX0 = some m.cls := findClass_of_methodNamed B.named
  have hlocks := B.notSynchronized
  have hS : va_S A s.heap s.heap [] := va_S.rf
  have hl := lv_entry ([.ref o, .int (nI x), .int (nI y)]) (n := 3) (Nat.le_of_ble_eq_true rfl)
  rw [lg_entry_eq]
  generalize (lg_sl ([.ref o, .int (nI x), .int (nI y)]) ++ List.replicate (3 - (lg_sl ([.ref o, .int (nI x), .int (nI y)])).length) Slot.unset).toArray = ls at hl ⊢
  have hl : lv_has ls 3 [(0, .ref o), (1, .int (nI x)), (2, .int (nI y))] := hl
  have k_0 : (0 : Int32).toInt = 0 := by decide
  have k_1L : (1 : Int64).toInt = 1 := by decide
  refine lv_lconst (v := 1) hx hb dX0_bit_0 (by decide) ?_
  refine lv_iload_n hx hb dX0_bit_1 rfl (lv_at hl 2 rfl) ?_
  refine lv_aload_n hx hb dX0_bit_2 rfl (lv_at hl 0 rfl) ?_
  refine t_get (v := .int (nI w)) (C := RX0) (T := TX0) (N := 8) hx hb hts (by decide +kernel) hown hK hP hM_o rfl 0 (by decide) (hts (.fieldLink RX0 13 "ShadowBench$Board" "wide" "I") (by decide +kernel)) (fun _ h9 => h9) rfl dX0_bit_3 ?_
  have i_w_o : (nI w).toInt = _ := nI_toInt (by omega)
  refine lv_imul hx hb dX0_bit_6 ?_
  refine lv_topi (fun v6 e6 => ?_)
  refine lv_iload_n hx hb dX0_bit_7 rfl (lv_at hl 1 rfl) ?_
  refine lv_iadd hx hb dX0_bit_8 ?_
  refine lv_topi (fun v8 e8 => ?_)
  refine lv_lshl (v := (1 : Int64) <<< (v8.toInt64 &&& 63)) hx hb dX0_bit_9 rfl ?_
  exact W.lret (v := ((1 : Int64) <<< (v8.toInt64 &&& 63))) hx hb hr (fun t ht hW => ⟨⟨_, (G, ws), rfl, ⟨rfl, (by unfold l1; rw [e8, e6, pk_mul, nI_add])⟩, by show va_P D vwCl ws t.heap; rw [ht]; exact hP, hD, hT⟩, hS.F ht⟩) hS.2.2 dX0_bit_10
set_option maxHeartbeats 4000000 in
set_option maxRecDepth 100000 in
theorem c_X0_lineThrough (l : Launch) (D : va_G) (cy : Nat → ClassId) (A : Nat → Prop) (G : cG) (ws : va_W) (o : Nat) (way : Nat) (x : Nat) (y : Nat) {w h l_o f_o r_o : Nat} (hD : va_D A ws) (hT : cT cy G ws) (hM_o : cIn ws o (.inr (0, [.int (nI w), .int (nI h), .int (nI (w * h)), .int (nI (2 ^ w)), .int (nI (cfo w h)), .ref l_o, .ref f_o, .ref r_o]))) (hb_o : 1 ≤ w ∧ w ≤ 6 ∧ 1 ≤ h ∧ h ≤ 6) (hx1 : x < w) (hy1 : y < h) (hw1 : way < 4) : Ci l D cy A yX0_lineThrough wsX0_lineThrough ({ frames := 0, cells := 0, slots := 0, locals := 0 }) 0 0 ws [.ref o, .int (nI way), .int (nI x), .int (nI y)] (fun r0 u => u = (G, ws) ∧ (r0 = nI (lnT h way x y))) := by
  refine Met.ofW (cc := cX0_lineThrough) (maxL := 4) (ret := (some .int)) (by decide) rfl ?_
  intro p e s m args below meth c s₁ B hml hv
  obtain ⟨rfl, hP, hK, hA, hV⟩ := hv
  have hx := B.exec
  have hb := B.bytes
  have hr := B.returns
  have hts := atoms_spec (ws := wsX0_lineThrough) B.pre
  have hown : s.vm.findClass RX0 = some m.cls := findClass_of_methodNamed B.named
  have hlocks := B.notSynchronized
  have hS : va_S A s.heap s.heap [] := va_S.rf
  have hl := lv_entry ([.ref o, .int (nI way), .int (nI x), .int (nI y)]) (n := 4) (Nat.le_of_ble_eq_true rfl)
  rw [lg_entry_eq]
  generalize (lg_sl ([.ref o, .int (nI way), .int (nI x), .int (nI y)]) ++ List.replicate (4 - (lg_sl ([.ref o, .int (nI way), .int (nI x), .int (nI y)])).length) Slot.unset).toArray = ls at hl ⊢
  have hl : lv_has ls 4 [(0, .ref o), (1, .int (nI way)), (2, .int (nI x)), (3, .int (nI y))] := hl
  have k_0 : (0 : Int32).toInt = 0 := by decide
  have k_1 : (1 : Int32).toInt = 1 := by decide
  have ik_way : (nI way).toInt = (way : Int) := nI_toInt (by omega)
  have ik_x : (nI x).toInt = (x : Int) := nI_toInt (by omega)
  have ik_y : (nI y).toInt = (y : Int) := nI_toInt (by omega)
  refine lv_iload_n hx hb dX0_lineThrough_0 rfl (lv_at hl 1 rfl) ?_
  by_cases s1_0 : (nI way).toInt = 0
  · skip
    refine lv_tableIn (off := 27) (tgt := 28) hx hb dX0_lineThrough_1 (by omega) (by omega) (by rw [s1_0]; rfl) (by decide) ?_
    refine lv_iload_n hx hb dX0_lineThrough_28 rfl (lv_at hl 3 rfl) ?_
    exact W.iret (v := (nI y)) hx hb hr (fun t ht hW => ⟨⟨_, (G, ws), rfl, ⟨rfl, (by unfold lnT; rw [if_pos (by omega)])⟩, by show va_P D vwCl ws t.heap; rw [ht]; exact hP, hD, hT⟩, hS.F ht⟩) hS.2.2 dX0_lineThrough_29
  by_cases s1_1 : (nI way).toInt = 1
  · skip
    refine lv_tableIn (off := 29) (tgt := 30) hx hb dX0_lineThrough_1 (by omega) (by omega) (by rw [s1_1]; rfl) (by decide) ?_
    refine lv_iload_n hx hb dX0_lineThrough_30 rfl (lv_at hl 2 rfl) ?_
    exact W.iret (v := (nI x)) hx hb hr (fun t ht hW => ⟨⟨_, (G, ws), rfl, ⟨rfl, (by unfold lnT; rw [if_neg (by omega), if_pos (by omega)])⟩, by show va_P D vwCl ws t.heap; rw [ht]; exact hP, hD, hT⟩, hS.F ht⟩) hS.2.2 dX0_lineThrough_31
  by_cases s1_2 : (nI way).toInt = 2
  · skip
    refine lv_tableIn (off := 31) (tgt := 32) hx hb dX0_lineThrough_1 (by omega) (by omega) (by rw [s1_2]; rfl) (by decide) ?_
    refine lv_iload_n hx hb dX0_lineThrough_32 rfl (lv_at hl 2 rfl) ?_
    refine lv_iload_n hx hb dX0_lineThrough_33 rfl (lv_at hl 3 rfl) ?_
    refine lv_isub hx hb dX0_lineThrough_34 ?_
    refine lv_topi (fun v34 e34 => ?_)
    have i34 : v34.toInt = (nI x).toInt - (nI y).toInt := by rw [e34]; exact fb_subI (by omega) (by omega)
    refine lv_aload_n hx hb dX0_lineThrough_35 rfl (lv_at hl 0 rfl) ?_
    refine t_get (v := .int (nI h)) (C := RX0) (T := TX0) (N := 8) hx hb hts (by decide +kernel) hown hK hP hM_o rfl 1 (by decide) (hts (.fieldLink RX0 17 "ShadowBench$Board" "high" "I") (by decide +kernel)) (fun _ h9 => h9) rfl dX0_lineThrough_36 ?_
    have i_h_o : (nI h).toInt = _ := nI_toInt (by omega)
    refine lv_iadd hx hb dX0_lineThrough_39 ?_
    refine lv_topi (fun v39 e39 => ?_)
    have i39 : v39.toInt = v34.toInt + (nI h).toInt := by rw [e39]; exact fb_addI (by omega) (by omega)
    refine lv_iconst (v := 1) hx hb dX0_lineThrough_40 (by decide) ?_
    refine lv_isub hx hb dX0_lineThrough_41 ?_
    refine lv_topi (fun v41 e41 => ?_)
    have i41 : v41.toInt = v39.toInt - (1 : Int32).toInt := by rw [e41]; exact fb_subI (by omega) (by omega)
    exact W.iret (v := v41) hx hb hr (fun t ht hW => ⟨⟨_, (G, ws), rfl, ⟨rfl, (by unfold lnT; rw [if_neg (by omega), if_neg (by omega), if_pos (by omega)]; apply Int32.toInt_inj.mp; rw [nI_toInt (by omega)]; omega)⟩, by show va_P D vwCl ws t.heap; rw [ht]; exact hP, hD, hT⟩, hS.F ht⟩) hS.2.2 dX0_lineThrough_42
  refine lv_tableOut (tgt := 43) hx hb dX0_lineThrough_1 (by omega) (by decide) ?_
  refine lv_iload_n hx hb dX0_lineThrough_43 rfl (lv_at hl 2 rfl) ?_
  refine lv_iload_n hx hb dX0_lineThrough_44 rfl (lv_at hl 3 rfl) ?_
  refine lv_iadd hx hb dX0_lineThrough_45 ?_
  refine lv_topi (fun v45 e45 => ?_)
  have i45 : v45.toInt = (nI x).toInt + (nI y).toInt := by rw [e45]; exact fb_addI (by omega) (by omega)
  exact W.iret (v := v45) hx hb hr (fun t ht hW => ⟨⟨_, (G, ws), rfl, ⟨rfl, (by unfold lnT; rw [if_neg (by omega), if_neg (by omega), if_neg (by omega), e45]; exact nI_add _ _)⟩, by show va_P D vwCl ws t.heap; rw [ht]; exact hP, hD, hT⟩, hS.F ht⟩) hS.2.2 dX0_lineThrough_46
set_option maxHeartbeats 4000000 in
set_option maxRecDepth 100000 in
theorem c_X0_isSquare (l : Launch) (D : va_G) (cy : Nat → ClassId) (A : Nat → Prop) (G : cG) (ws : va_W) (o : Nat) (s0 : Int32) {w h : Nat} (hD : va_D A ws) (hT : cT cy G ws) (hG_o : G o = some (2, w, h))  : Ci l D cy A yX0_isSquare wsX0_isSquare ({ frames := 0, cells := 0, slots := 0, locals := 0 }) 0 0 ws [.ref o, .int s0] (fun r0 u => u = (G, ws) ∧ (Bo r0 (0 ≤ s0.toInt ∧ s0.toInt < ((w * h : Nat) : Int)))) := by
  refine Met.ofW (cc := cX0_isSquare) (maxL := 2) (ret := (some .boolean)) (by decide) rfl ?_
  intro p e s m args below meth c s₁ B hml hv
  obtain ⟨rfl, hP, hK, hA, hV⟩ := hv
  have hx := B.exec
  have hb := B.bytes
  have hr := B.returns
  have hts := atoms_spec (ws := wsX0_isSquare) B.pre
  have hown : s.vm.findClass RX0 = some m.cls := findClass_of_methodNamed B.named
  have hlocks := B.notSynchronized
  have hS : va_S A s.heap s.heap [] := va_S.rf
  have hl := lv_entry ([.ref o, .int s0]) (n := 2) (Nat.le_of_ble_eq_true rfl)
  rw [lg_entry_eq]
  generalize (lg_sl ([.ref o, .int s0]) ++ List.replicate (2 - (lg_sl ([.ref o, .int s0])).length) Slot.unset).toArray = ls at hl ⊢
  have hl : lv_has ls 2 [(0, .ref o), (1, .int s0)] := hl
  have k_0 : (0 : Int32).toInt = 0 := by decide
  have k_1 : (1 : Int32).toInt = 1 := by decide
  refine lv_iload_n hx hb dX0_isSquare_0 rfl (lv_at hl 1 rfl) ?_
  refine lv_if_lt (tgt := 16) hx hb dX0_isSquare_1 (by decide) (fun c1 => ?_) (fun c1 => ?_)
  · skip
    have d1 := c1
    rw [fa_lt] at d1
    refine lv_iconst (v := 0) hx hb dX0_isSquare_16 (by decide) ?_
    exact W.zret (v := (0 : Int32)) hx hb hr (by decide) (fun t ht hW => ⟨⟨_, (G, ws), rfl, ⟨rfl, Or.inr ⟨rfl, by omega⟩⟩, by show va_P D vwCl ws t.heap; rw [ht]; exact hP, hD, hT⟩, hS.F ht⟩) hS.2.2 dX0_isSquare_17
  · skip
    have d1 := c1
    rw [fa_lt] at d1
    refine lv_iload_n hx hb dX0_isSquare_4 rfl (lv_at hl 1 rfl) ?_
    refine lv_aload_n hx hb dX0_isSquare_5 rfl (lv_at hl 0 rfl) ?_
    obtain ⟨_, hM_o, hb_o, l_o, f_o, r_o, rfl, hG_l_o, hG_f_o, hG_r_o⟩ := hT _ _ hG_o
    refine t_get (v := .int (nI (w * h))) (C := RX0) (T := TX0) (N := 8) hx hb hts (by decide +kernel) hown hK hP hM_o rfl 2 (by decide) (hts (.fieldLink RX0 20 "ShadowBench$Board" "squares" "I") (by decide +kernel)) (fun _ h9 => h9) rfl dX0_isSquare_6 ?_
    have m_wh_o := cb_mul hb_o
    have i_wh_o : (nI (w * h)).toInt = _ := nI_toInt (by omega)
    refine lv_icmp_ge (tgt := 16) hx hb dX0_isSquare_9 (by decide) (fun c9 => ?_) (fun c9 => ?_)
    · skip
      have d9 := c9
      rw [fa_le] at d9
      refine lv_iconst (v := 0) hx hb dX0_isSquare_16 (by decide) ?_
      exact W.zret (v := (0 : Int32)) hx hb hr (by decide) (fun t ht hW => ⟨⟨_, (G, ws), rfl, ⟨rfl, Or.inr ⟨rfl, by omega⟩⟩, by show va_P D vwCl ws t.heap; rw [ht]; exact hP, hD, hT⟩, hS.F ht⟩) hS.2.2 dX0_isSquare_17
    · skip
      have d9 := c9
      rw [fa_le] at d9
      refine lv_iconst (v := 1) hx hb dX0_isSquare_12 (by decide) ?_
      refine lv_goto (tgt := 17) hx hb dX0_isSquare_13 (by decide) ?_
      exact W.zret (v := (1 : Int32)) hx hb hr (by decide) (fun t ht hW => ⟨⟨_, (G, ws), rfl, ⟨rfl, Or.inl ⟨rfl, by omega⟩⟩, by show va_P D vwCl ws t.heap; rw [ht]; exact hP, hD, hT⟩, hS.F ht⟩) hS.2.2 dX0_isSquare_17
set_option maxHeartbeats 4000000 in
set_option maxRecDepth 100000 in
theorem c_X0_isPicture (l : Launch) (D : va_G) (cy : Nat → ClassId) (A : Nat → Prop) (G : cG) (ws : va_W) (o : Nat) (p0 : Int64) {w h : Nat} (hD : va_D A ws) (hT : cT cy G ws) (hG_o : G o = some (2, w, h))  : Ci l D cy A yX0_isPicture wsX0_isPicture ({ frames := 0, cells := 0, slots := 0, locals := 0 }) 0 0 ws [.ref o, .long p0] (fun r0 u => u = (G, ws) ∧ (isBo r0)) := by
  refine Met.ofW (cc := cX0_isPicture) (maxL := 3) (ret := (some .boolean)) (by decide) rfl ?_
  intro p e s m args below meth c s₁ B hml hv
  obtain ⟨rfl, hP, hK, hA, hV⟩ := hv
  have hx := B.exec
  have hb := B.bytes
  have hr := B.returns
  have hts := atoms_spec (ws := wsX0_isPicture) B.pre
  have hown : s.vm.findClass RX0 = some m.cls := findClass_of_methodNamed B.named
  have hlocks := B.notSynchronized
  have hS : va_S A s.heap s.heap [] := va_S.rf
  have hl := lv_entry ([.ref o, .long p0]) (n := 3) (Nat.le_of_ble_eq_true rfl)
  rw [lg_entry_eq]
  generalize (lg_sl ([.ref o, .long p0]) ++ List.replicate (3 - (lg_sl ([.ref o, .long p0])).length) Slot.unset).toArray = ls at hl ⊢
  have hl : lv_has ls 3 [(0, .ref o), (1, .long p0)] := hl
  have k_0 : (0 : Int32).toInt = 0 := by decide
  have k_1 : (1 : Int32).toInt = 1 := by decide
  have k_0L : (0 : Int64).toInt = 0 := by decide
  refine lv_lload_n hx hb dX0_isPicture_0 rfl (lv_at hl 1 rfl) ?_
  refine lv_aload_n hx hb dX0_isPicture_1 rfl (lv_at hl 0 rfl) ?_
  obtain ⟨_, hM_o, hb_o, l_o, f_o, r_o, rfl, hG_l_o, hG_f_o, hG_r_o⟩ := hT _ _ hG_o
  refine t_get (v := .int (nI (w * h))) (C := RX0) (T := TX0) (N := 8) hx hb hts (by decide +kernel) hown hK hP hM_o rfl 2 (by decide) (hts (.fieldLink RX0 20 "ShadowBench$Board" "squares" "I") (by decide +kernel)) (fun _ h9 => h9) rfl dX0_isPicture_2 ?_
  have m_wh_o := cb_mul hb_o
  have i_wh_o : (nI (w * h)).toInt = _ := nI_toInt (by omega)
  refine lv_lushr (v := (p0.toUInt64 >>> (((nI (w * h))).toInt64.toUInt64 &&& Int64.toUInt64 63)).toInt64) hx hb dX0_isPicture_5 rfl ?_
  refine lv_lconst (v := 0) hx hb dX0_isPicture_6 (by decide) ?_
  refine W.lcmp hx hb dX0_isPicture_7 ?_
  refine lv_if_ne (tgt := 15) hx hb dX0_isPicture_8 (by decide) (fun c8 => ?_) (fun c8 => ?_)
  · skip
    have d8 := c8
    rw [lg_cmp_eq, fa_eq64] at d8
    refine lv_iconst (v := 0) hx hb dX0_isPicture_15 (by decide) ?_
    exact W.zret (v := (0 : Int32)) hx hb hr (by decide) (fun t ht hW => ⟨⟨_, (G, ws), rfl, ⟨rfl, Or.inl rfl⟩, by show va_P D vwCl ws t.heap; rw [ht]; exact hP, hD, hT⟩, hS.F ht⟩) hS.2.2 dX0_isPicture_16
  · skip
    have d8 := c8
    rw [lg_cmp_eq, fa_eq64] at d8
    refine lv_iconst (v := 1) hx hb dX0_isPicture_11 (by decide) ?_
    refine lv_goto (tgt := 16) hx hb dX0_isPicture_12 (by decide) ?_
    exact W.zret (v := (1 : Int32)) hx hb hr (by decide) (fun t ht hW => ⟨⟨_, (G, ws), rfl, ⟨rfl, Or.inr rfl⟩, by show va_P D vwCl ws t.heap; rw [ht]; exact hP, hD, hT⟩, hS.F ht⟩) hS.2.2 dX0_isPicture_16
set_option maxHeartbeats 4000000 in
set_option maxRecDepth 100000 in
theorem c_X0_lineCount (l : Launch) (D : va_G) (cy : Nat → ClassId) (A : Nat → Prop) (G : cG) (ws : va_W) (o : Nat) (way : Int32) {w h : Nat} (hD : va_D A ws) (hT : cT cy G ws) (hG_o : G o = some (2, w, h))  : Ci l D cy A yX0_lineCount wsX0_lineCount ({ frames := 0, cells := 0, slots := 0, locals := 0 }) 0 0 ws [.ref o, .int way] (fun r0 u => u = (G, ws) ∧ (r0 = cLines w h way)) := by
  refine Met.ofW (cc := cX0_lineCount) (maxL := 2) (ret := (some .int)) (by decide) rfl ?_
  intro p e s m args below meth c s₁ B hml hv
  obtain ⟨rfl, hP, hK, hA, hV⟩ := hv
  have hx := B.exec
  have hb := B.bytes
  have hr := B.returns
  have hts := atoms_spec (ws := wsX0_lineCount) B.pre
  have hown : s.vm.findClass RX0 = some m.cls := findClass_of_methodNamed B.named
  have hlocks := B.notSynchronized
  have hS : va_S A s.heap s.heap [] := va_S.rf
  have hl := lv_entry ([.ref o, .int way]) (n := 2) (Nat.le_of_ble_eq_true rfl)
  rw [lg_entry_eq]
  generalize (lg_sl ([.ref o, .int way]) ++ List.replicate (2 - (lg_sl ([.ref o, .int way])).length) Slot.unset).toArray = ls at hl ⊢
  have hl : lv_has ls 2 [(0, .ref o), (1, .int way)] := hl
  have k_0 : (0 : Int32).toInt = 0 := by decide
  have k_1 : (1 : Int32).toInt = 1 := by decide
  refine lv_iload_n hx hb dX0_lineCount_0 rfl (lv_at hl 1 rfl) ?_
  by_cases s1_0 : way.toInt = 0
  · skip
    refine lv_lookup (off := 27) (tgt := 28) hx hb dX0_lineCount_1 (by decide) (by rw [s1_0]; decide) (by decide) ?_
    refine lv_aload_n hx hb dX0_lineCount_28 rfl (lv_at hl 0 rfl) ?_
    obtain ⟨_, hM_o, hb_o, l_o, f_o, r_o, rfl, hG_l_o, hG_f_o, hG_r_o⟩ := hT _ _ hG_o
    refine t_get (v := .int (nI h)) (C := RX0) (T := TX0) (N := 8) hx hb hts (by decide +kernel) hown hK hP hM_o rfl 1 (by decide) (hts (.fieldLink RX0 17 "ShadowBench$Board" "high" "I") (by decide +kernel)) (fun _ h9 => h9) rfl dX0_lineCount_29 ?_
    have i_h_o : (nI h).toInt = _ := nI_toInt (by omega)
    exact W.iret (v := (nI h)) hx hb hr (fun t ht hW => ⟨⟨_, (G, ws), rfl, ⟨rfl, by unfold cLines; simp [s1_0]⟩, by show va_P D vwCl ws t.heap; rw [ht]; exact hP, hD, hT⟩, hS.F ht⟩) hS.2.2 dX0_lineCount_32
  by_cases s1_1 : way.toInt = 1
  · skip
    refine lv_lookup (off := 32) (tgt := 33) hx hb dX0_lineCount_1 (by decide) (by rw [s1_1]; decide) (by decide) ?_
    refine lv_aload_n hx hb dX0_lineCount_33 rfl (lv_at hl 0 rfl) ?_
    obtain ⟨_, hM_o, hb_o, l_o, f_o, r_o, rfl, hG_l_o, hG_f_o, hG_r_o⟩ := hT _ _ hG_o
    refine t_get (v := .int (nI w)) (C := RX0) (T := TX0) (N := 8) hx hb hts (by decide +kernel) hown hK hP hM_o rfl 0 (by decide) (hts (.fieldLink RX0 13 "ShadowBench$Board" "wide" "I") (by decide +kernel)) (fun _ h9 => h9) rfl dX0_lineCount_34 ?_
    have i_w_o : (nI w).toInt = _ := nI_toInt (by omega)
    exact W.iret (v := (nI w)) hx hb hr (fun t ht hW => ⟨⟨_, (G, ws), rfl, ⟨rfl, by unfold cLines; simp [s1_0, s1_1]⟩, by show va_P D vwCl ws t.heap; rw [ht]; exact hP, hD, hT⟩, hS.F ht⟩) hS.2.2 dX0_lineCount_37
  refine lv_lookup (off := 37) (tgt := 38) hx hb dX0_lineCount_1 (by decide) (by simp [Op.lookupswitch.offset_cons, Op.lookupswitch.offset_nil, Ne.symm s1_0, s1_0, Ne.symm s1_1, s1_1]) (by decide) ?_
  refine lv_aload_n hx hb dX0_lineCount_38 rfl (lv_at hl 0 rfl) ?_
  obtain ⟨_, hM_o, hb_o, l_o, f_o, r_o, rfl, hG_l_o, hG_f_o, hG_r_o⟩ := hT _ _ hG_o
  refine t_get (v := .int (nI w)) (C := RX0) (T := TX0) (N := 8) hx hb hts (by decide +kernel) hown hK hP hM_o rfl 0 (by decide) (hts (.fieldLink RX0 13 "ShadowBench$Board" "wide" "I") (by decide +kernel)) (fun _ h9 => h9) rfl dX0_lineCount_39 ?_
  have i_w_o : (nI w).toInt = _ := nI_toInt (by omega)
  refine lv_aload_n hx hb dX0_lineCount_42 rfl (lv_at hl 0 rfl) ?_
  refine t_get (v := .int (nI h)) (C := RX0) (T := TX0) (N := 8) hx hb hts (by decide +kernel) hown hK hP hM_o rfl 1 (by decide) (hts (.fieldLink RX0 17 "ShadowBench$Board" "high" "I") (by decide +kernel)) (fun _ h9 => h9) rfl dX0_lineCount_43 ?_
  have i_h_o : (nI h).toInt = _ := nI_toInt (by omega)
  refine lv_iadd hx hb dX0_lineCount_46 ?_
  refine lv_topi (fun v46 e46 => ?_)
  have i46 : v46.toInt = (nI w).toInt + (nI h).toInt := by rw [e46]; exact fb_addI (by omega) (by omega)
  refine lv_iconst (v := 1) hx hb dX0_lineCount_47 (by decide) ?_
  refine lv_isub hx hb dX0_lineCount_48 ?_
  refine lv_topi (fun v48 e48 => ?_)
  have i48 : v48.toInt = v46.toInt - (1 : Int32).toInt := by rw [e48]; exact fb_subI (by omega) (by omega)
  exact W.iret (v := v48) hx hb hr (fun t ht hW => ⟨⟨_, (G, ws), rfl, ⟨rfl, (by unfold cLines; simp only [s1_0, s1_1, if_false]; apply Int32.toInt_inj.mp; rw [nI_toInt (by omega)]; omega)⟩, by show va_P D vwCl ws t.heap; rw [ht]; exact hP, hD, hT⟩, hS.F ht⟩) hS.2.2 dX0_lineCount_49
set_option maxHeartbeats 4000000 in
set_option maxRecDepth 100000 in
theorem c_X0_isLine (l : Launch) (D : va_G) (cy : Nat → ClassId) (A : Nat → Prop) (G : cG) (ws : va_W) (o : Nat) (way : Int32) (line : Int32) {w h : Nat} (hD : va_D A ws) (hT : cT cy G ws) (hG_o : G o = some (2, w, h))  : Ci l D cy A yX0_isLine wsX0_isLine ({ frames := 1, cells := 0, slots := 0, locals := 21 }) 0 0 ws [.ref o, .int way, .int line] (fun r0 u => u = (G, ws) ∧ (Bo r0 ((0 ≤ way.toInt ∧ way.toInt < 4) ∧ 0 ≤ line.toInt ∧ line.toInt < (cLines w h way).toInt))) := by
  refine Met.ofW (cc := cX0_isLine) (maxL := 3) (ret := (some .boolean)) (by decide) rfl ?_
  intro p e s m args below meth c s₁ B hml hv
  obtain ⟨rfl, hP, hK, hA, hV⟩ := hv
  have hx := B.exec
  have hb := B.bytes
  have hr := B.returns
  have hts := atoms_spec (ws := wsX0_isLine) B.pre
  have hown : s.vm.findClass RX0 = some m.cls := findClass_of_methodNamed B.named
  have hlocks := B.notSynchronized
  have hS : va_S A s.heap s.heap [] := va_S.rf
  have hl := lv_entry ([.ref o, .int way, .int line]) (n := 3) (Nat.le_of_ble_eq_true rfl)
  rw [lg_entry_eq]
  generalize (lg_sl ([.ref o, .int way, .int line]) ++ List.replicate (3 - (lg_sl ([.ref o, .int way, .int line])).length) Slot.unset).toArray = ls at hl ⊢
  have hl : lv_has ls 3 [(0, .ref o), (1, .int way), (2, .int line)] := hl
  have k_0 : (0 : Int32).toInt = 0 := by decide
  have k_1 : (1 : Int32).toInt = 1 := by decide
  have k_4 : (4 : Int32).toInt = 4 := by decide
  refine lv_iload_n hx hb dX0_isLine_0 rfl (lv_at hl 1 rfl) ?_
  refine lv_if_lt (tgt := 26) hx hb dX0_isLine_1 (by decide) (fun c1 => ?_) (fun c1 => ?_)
  · skip
    have d1 := c1
    rw [fa_lt] at d1
    refine lv_iconst (v := 0) hx hb dX0_isLine_26 (by decide) ?_
    exact W.zret (v := (0 : Int32)) hx hb hr (by decide) (fun t ht hW => ⟨⟨_, (G, ws), rfl, ⟨rfl, Or.inr ⟨rfl, by first | omega | (rw [← q16]; omega)⟩⟩, by show va_P D vwCl ws t.heap; rw [ht]; exact hP, hD, hT⟩, hS.F ht⟩) hS.2.2 dX0_isLine_27
  · skip
    have d1 := c1
    rw [fa_lt] at d1
    refine lv_iload_n hx hb dX0_isLine_4 rfl (lv_at hl 1 rfl) ?_
    refine lv_iconst (v := 4) hx hb dX0_isLine_5 (by decide) ?_
    refine lv_icmp_ge (tgt := 26) hx hb dX0_isLine_6 (by decide) (fun c6 => ?_) (fun c6 => ?_)
    · skip
      have d6 := c6
      rw [fa_le] at d6
      refine lv_iconst (v := 0) hx hb dX0_isLine_26 (by decide) ?_
      exact W.zret (v := (0 : Int32)) hx hb hr (by decide) (fun t ht hW => ⟨⟨_, (G, ws), rfl, ⟨rfl, Or.inr ⟨rfl, by first | omega | (rw [← q16]; omega)⟩⟩, by show va_P D vwCl ws t.heap; rw [ht]; exact hP, hD, hT⟩, hS.F ht⟩) hS.2.2 dX0_isLine_27
    · skip
      have d6 := c6
      rw [fa_le] at d6
      refine lv_iload_n hx hb dX0_isLine_9 rfl (lv_at hl 2 rfl) ?_
      refine lv_if_lt (tgt := 26) hx hb dX0_isLine_10 (by decide) (fun c10 => ?_) (fun c10 => ?_)
      · skip
        have d10 := c10
        rw [fa_lt] at d10
        refine lv_iconst (v := 0) hx hb dX0_isLine_26 (by decide) ?_
        exact W.zret (v := (0 : Int32)) hx hb hr (by decide) (fun t ht hW => ⟨⟨_, (G, ws), rfl, ⟨rfl, Or.inr ⟨rfl, by first | omega | (rw [← q16]; omega)⟩⟩, by show va_P D vwCl ws t.heap; rw [ht]; exact hP, hD, hT⟩, hS.F ht⟩) hS.2.2 dX0_isLine_27
      · skip
        have d10 := c10
        rw [fa_lt] at d10
        refine lv_iload_n hx hb dX0_isLine_13 rfl (lv_at hl 2 rfl) ?_
        refine lv_aload_n hx hb dX0_isLine_14 rfl (lv_at hl 0 rfl) ?_
        refine lv_iload_n hx hb dX0_isLine_15 rfl (lv_at hl 1 rfl) ?_
        obtain ⟨_, hM_o, hb_o, l_o, f_o, r_o, rfl, hG_l_o, hG_f_o, hG_r_o⟩ := hT _ _ hG_o
        refine t_calli (va_runV (g := F0 m 16 ls ([.int way, .ref o, .int line])) (As := [.int way]) (rest := [.int line]) ⟨hx, hb, hml, hown, hts⟩ (c_X0_lineCount l D cy A G ws o way hD hT hG_o ) (cwV 1 hts gX0_isLine_X0_lineCount rfl rfl rfl (by decide +kernel) ⟨Nat.le_of_ble_eq_true rfl, Nat.le_of_ble_eq_true rfl⟩) (c_preV hM_o rfl hP hK hA hS hV) rfl rfl hl.1 rfl (lv_room (Nat.le_of_ble_eq_true rfl)) dX0_isLine_16 ⟨Nat.le_of_ble_eq_true rfl, Nat.le_of_ble_eq_true rfl⟩) hS (fun r16 u H locs q16 hP9 hD9 hT9 hS => ?_)
        obtain ⟨rfl, q16⟩ := q16
        have hP : va_P D vwCl ws H := hP9
        refine lv_icmp_ge (tgt := 26) hx hb dX0_isLine_19 (by decide) (fun c19 => ?_) (fun c19 => ?_)
        · skip
          have d19 := c19
          rw [fa_le] at d19
          refine lv_iconst (v := 0) hx hb dX0_isLine_26 (by decide) ?_
          exact W.zret (v := (0 : Int32)) hx hb hr (by decide) (fun t ht hW => ⟨⟨_, (G, ws), rfl, ⟨rfl, Or.inr ⟨rfl, by first | omega | (rw [← q16]; omega)⟩⟩, by show va_P D vwCl ws t.heap; rw [ht]; exact hP, hD, hT⟩, hS.F ht⟩) hS.2.2 dX0_isLine_27
        · skip
          have d19 := c19
          rw [fa_le] at d19
          refine lv_iconst (v := 1) hx hb dX0_isLine_22 (by decide) ?_
          refine lv_goto (tgt := 27) hx hb dX0_isLine_23 (by decide) ?_
          exact W.zret (v := (1 : Int32)) hx hb hr (by decide) (fun t ht hW => ⟨⟨_, (G, ws), rfl, ⟨rfl, Or.inl ⟨rfl, by rw [← q16]; omega⟩⟩, by show va_P D vwCl ws t.heap; rw [ht]; exact hP, hD, hT⟩, hS.F ht⟩) hS.2.2 dX0_isLine_27
set_option maxHeartbeats 4000000 in
set_option maxRecDepth 100000 in
theorem c_X0_onesOfLine (l : Launch) (D : va_G) (cy : Nat → ClassId) (A : Nat → Prop) (G : cG) (ws : va_W) (o : Nat) (way : Int32) (line : Int32) (p0 : Int64) {w h : Nat} (hD : va_D A ws) (hT : cT cy G ws) (hG_o : G o = some (2, w, h))  : Ci l D cy A yX0_onesOfLine wsX0_onesOfLine ({ frames := 1, cells := 0, slots := 0, locals := 21 }) 0 0 ws [.ref o, .int way, .int line, .long p0] (fun r0 u => u = (G, ws) ∧ (True)) := by
  refine Met.ofW (cc := cX0_onesOfLine) (maxL := 6) (ret := (some .int)) (by decide) rfl ?_
  intro p e s m args below meth c s₁ B hml hv
  obtain ⟨rfl, hP, hK, hA, hV⟩ := hv
  have hx := B.exec
  have hb := B.bytes
  have hr := B.returns
  have hts := atoms_spec (ws := wsX0_onesOfLine) B.pre
  have hown : s.vm.findClass RX0 = some m.cls := findClass_of_methodNamed B.named
  have hlocks := B.notSynchronized
  have hS : va_S A s.heap s.heap [] := va_S.rf
  have hl := lv_entry ([.ref o, .int way, .int line, .long p0]) (n := 6) (Nat.le_of_ble_eq_true rfl)
  rw [lg_entry_eq]
  generalize (lg_sl ([.ref o, .int way, .int line, .long p0]) ++ List.replicate (6 - (lg_sl ([.ref o, .int way, .int line, .long p0])).length) Slot.unset).toArray = ls at hl ⊢
  have hl : lv_has ls 6 [(0, .ref o), (1, .int way), (2, .int line), (3, .long p0)] := hl
  have k_0 : (0 : Int32).toInt = 0 := by decide
  have k_11 : (11 : Int32).toInt = 11 := by decide
  refine lv_iload_n hx hb dX0_onesOfLine_0 rfl (lv_at hl 1 rfl) ?_
  refine lv_bipush (v := 11) hx hb dX0_onesOfLine_1 (by decide) ?_
  refine lv_imul hx hb dX0_onesOfLine_3 ?_
  refine lv_topi (fun v3 e3 => ?_)
  refine lv_iload_n hx hb dX0_onesOfLine_4 rfl (lv_at hl 2 rfl) ?_
  refine lv_iadd hx hb dX0_onesOfLine_5 ?_
  refine lv_topi (fun v5 e5 => ?_)
  refine lv_istore (lv' := [(5, .int v5), (0, .ref o), (1, .int way), (2, .int line), (3, .long p0)]) hx hb dX0_onesOfLine_6 hl (by decide) rfl (fun ls hl => ?_)
  refine lv_iload hx hb dX0_onesOfLine_8 (lv_at hl 0 rfl) ?_
  refine lv_if_lt (tgt := 38) hx hb dX0_onesOfLine_10 (by decide) (fun c10 => ?_) (fun c10 => ?_)
  · skip
    have d10 := c10
    rw [fa_lt] at d10
    refine lv_iconst (v := 0) hx hb dX0_onesOfLine_38 (by decide) ?_
    exact W.iret (v := (0 : Int32)) hx hb hr (fun t ht hW => ⟨⟨_, (G, ws), rfl, ⟨rfl, trivial⟩, by show va_P D vwCl ws t.heap; rw [ht]; exact hP, hD, hT⟩, hS.F ht⟩) hS.2.2 dX0_onesOfLine_39
  · skip
    have d10 := c10
    rw [fa_lt] at d10
    refine lv_iload hx hb dX0_onesOfLine_13 (lv_at hl 0 rfl) ?_
    refine lv_aload_n hx hb dX0_onesOfLine_15 rfl (lv_at hl 1 rfl) ?_
    obtain ⟨_, hM_o, hb_o, l_o, f_o, r_o, rfl, hG_l_o, hG_f_o, hG_r_o⟩ := hT _ _ hG_o
    refine t_get (v := .ref l_o) (C := RX0) (T := TX0) (N := 8) hx hb hts (by decide +kernel) hown hK hP hM_o rfl 5 (by decide) (hts (.fieldLink RX0 9 "ShadowBench$Board" "lines" "[J") (by decide +kernel)) (fun _ h9 => h9) rfl dX0_onesOfLine_16 ?_
    refine t_alen11 hx hb hK hP hT hG_l_o dX0_onesOfLine_19 ?_
    have i19 : (nI 44).toInt = 44 := nI_toInt (by omega)
    refine lv_icmp_ge (tgt := 38) hx hb dX0_onesOfLine_20 (by decide) (fun c20 => ?_) (fun c20 => ?_)
    · skip
      have d20 := c20
      rw [fa_le] at d20
      refine lv_iconst (v := 0) hx hb dX0_onesOfLine_38 (by decide) ?_
      exact W.iret (v := (0 : Int32)) hx hb hr (fun t ht hW => ⟨⟨_, (G, ws), rfl, ⟨rfl, trivial⟩, by show va_P D vwCl ws t.heap; rw [ht]; exact hP, hD, hT⟩, hS.F ht⟩) hS.2.2 dX0_onesOfLine_39
    · skip
      have d20 := c20
      rw [fa_le] at d20
      refine lv_lload_n hx hb dX0_onesOfLine_23 rfl (lv_at hl 4 rfl) ?_
      refine lv_aload_n hx hb dX0_onesOfLine_24 rfl (lv_at hl 1 rfl) ?_
      refine t_get (v := .ref l_o) (C := RX0) (T := TX0) (N := 8) hx hb hts (by decide +kernel) hown hK hP hM_o rfl 5 (by decide) (hts (.fieldLink RX0 9 "ShadowBench$Board" "lines" "[J") (by decide +kernel)) (fun _ h9 => h9) rfl dX0_onesOfLine_25 ?_
      refine lv_iload hx hb dX0_onesOfLine_28 (lv_at hl 0 rfl) ?_
      refine t_lald11 hx hb hK hP hT hG_l_o (vp_in_iff.mpr ⟨by omega, by omega⟩) dX0_onesOfLine_30 ?_
      refine lv_topl (fun v30 e30 => ?_)
      refine lv_land hx hb dX0_onesOfLine_31 ?_
      refine lv_topl (fun v31 e31 => ?_)
      refine t_pu (As := [.long v31]) (rest := []) ⟨hx, hb, hml, hown, hts⟩ (c_J13_bitCount_95d88 l v31 ) (va_cwS 1 hts gX0_onesOfLine_J13_bitCount_95d88 rfl rfl rfl (by decide +kernel) ⟨Nat.le_of_ble_eq_true rfl, Nat.le_of_ble_eq_true rfl⟩) hP rfl hl.1 rfl (Nat.le_of_ble_eq_true rfl) dX0_onesOfLine_32 ⟨Nat.le_of_ble_eq_true rfl, Nat.le_of_ble_eq_true rfl⟩ hS (fun r32 H locs q32 hP hS => ?_)
      refine lv_goto (tgt := 39) hx hb dX0_onesOfLine_35 (by decide) ?_
      exact W.iret (v := r32) hx hb hr (fun t ht hW => ⟨⟨_, (G, ws), rfl, ⟨rfl, trivial⟩, by show va_P D vwCl ws t.heap; rw [ht]; exact hP, hD, hT⟩, hS.F ht⟩) hS.2.2 dX0_onesOfLine_39
set_option maxHeartbeats 4000000 in
set_option maxRecDepth 100000 in
theorem c_X0_rowOf (l : Launch) (D : va_G) (cy : Nat → ClassId) (A : Nat → Prop) (G : cG) (ws : va_W) (o : Nat) (p0 : Int64) (y : Int32) {w h : Nat} (hD : va_D A ws) (hT : cT cy G ws) (hG_o : G o = some (2, w, h))  : Ci l D cy A yX0_rowOf wsX0_rowOf ({ frames := 0, cells := 0, slots := 0, locals := 0 }) 0 0 ws [.ref o, .long p0, .int y] (fun r0 u => u = (G, ws) ∧ (True)) := by
  refine Met.ofW (cc := cX0_rowOf) (maxL := 4) (ret := (some .int)) (by decide) rfl ?_
  intro p e s m args below meth c s₁ B hml hv
  obtain ⟨rfl, hP, hK, hA, hV⟩ := hv
  have hx := B.exec
  have hb := B.bytes
  have hr := B.returns
  have hts := atoms_spec (ws := wsX0_rowOf) B.pre
  have hown : s.vm.findClass RX0 = some m.cls := findClass_of_methodNamed B.named
  have hlocks := B.notSynchronized
  have hS : va_S A s.heap s.heap [] := va_S.rf
  have hl := lv_entry ([.ref o, .long p0, .int y]) (n := 4) (Nat.le_of_ble_eq_true rfl)
  rw [lg_entry_eq]
  generalize (lg_sl ([.ref o, .long p0, .int y]) ++ List.replicate (4 - (lg_sl ([.ref o, .long p0, .int y])).length) Slot.unset).toArray = ls at hl ⊢
  have hl : lv_has ls 4 [(0, .ref o), (1, .long p0), (3, .int y)] := hl
  have k_0 : (0 : Int32).toInt = 0 := by decide
  have k_1 : (1 : Int32).toInt = 1 := by decide
  refine lv_lload_n hx hb dX0_rowOf_0 rfl (lv_at hl 1 rfl) ?_
  refine lv_iload_n hx hb dX0_rowOf_1 rfl (lv_at hl 2 rfl) ?_
  refine lv_aload_n hx hb dX0_rowOf_2 rfl (lv_at hl 0 rfl) ?_
  obtain ⟨_, hM_o, hb_o, l_o, f_o, r_o, rfl, hG_l_o, hG_f_o, hG_r_o⟩ := hT _ _ hG_o
  refine t_get (v := .int (nI w)) (C := RX0) (T := TX0) (N := 8) hx hb hts (by decide +kernel) hown hK hP hM_o rfl 0 (by decide) (hts (.fieldLink RX0 13 "ShadowBench$Board" "wide" "I") (by decide +kernel)) (fun _ h9 => h9) rfl dX0_rowOf_3 ?_
  have i_w_o : (nI w).toInt = _ := nI_toInt (by omega)
  refine lv_imul hx hb dX0_rowOf_6 ?_
  refine lv_topi (fun v6 e6 => ?_)
  refine lv_lushr (v := (p0.toUInt64 >>> (v6.toInt64.toUInt64 &&& Int64.toUInt64 63)).toInt64) hx hb dX0_rowOf_7 rfl ?_
  refine lv_l2i (v := (((p0.toUInt64 >>> (v6.toInt64.toUInt64 &&& Int64.toUInt64 63)).toInt64)).toInt32) hx hb dX0_rowOf_8 rfl ?_
  refine lv_aload_n hx hb dX0_rowOf_9 rfl (lv_at hl 0 rfl) ?_
  refine t_get (v := .int (nI (2 ^ w))) (C := RX0) (T := TX0) (N := 8) hx hb hts (by decide +kernel) hown hK hP hM_o rfl 3 (by decide) (hts (.fieldLink RX0 23 "ShadowBench$Board" "rowNumbers" "I") (by decide +kernel)) (fun _ h9 => h9) rfl dX0_rowOf_10 ?_
  have m_p_o := cb_pow hb_o
  have i_p_o : (nI (2 ^ w)).toInt = _ := nI_toInt (by omega)
  refine lv_iconst (v := 1) hx hb dX0_rowOf_13 (by decide) ?_
  refine lv_isub hx hb dX0_rowOf_14 ?_
  refine lv_topi (fun v14 e14 => ?_)
  refine lv_iand hx hb dX0_rowOf_15 ?_
  refine lv_topi (fun v15 e15 => ?_)
  exact W.iret (v := v15) hx hb hr (fun t ht hW => ⟨⟨_, (G, ws), rfl, ⟨rfl, trivial⟩, by show va_P D vwCl ws t.heap; rw [ht]; exact hP, hD, hT⟩, hS.F ht⟩) hS.2.2 dX0_rowOf_16
set_option maxHeartbeats 4000000 in
set_option maxRecDepth 100000 in
theorem c_X0_hasUnlikeLine (l : Launch) (D : va_G) (cy : Nat → ClassId) (A : Nat → Prop) (G : cG) (ws : va_W) (o : Nat) (p0 : Int64) (p1 : Int64) (way : Int32) {w h : Nat} (hD : va_D A ws) (hT : cT cy G ws) (hG_o : G o = some (2, w, h))  : Ci l D cy A yX0_hasUnlikeLine wsX0_hasUnlikeLine ({ frames := 2, cells := 0, slots := 0, locals := 46 }) 0 0 ws [.ref o, .long p0, .long p1, .int way] (fun r0 u => u = (G, ws) ∧ (isBo r0)) := by
  refine Met.ofW (cc := cX0_hasUnlikeLine) (maxL := 7) (ret := (some .boolean)) (by decide) rfl ?_
  intro p e s m args below meth c s₁ B hml hv
  obtain ⟨rfl, hP, hK, hA, hV⟩ := hv
  have hx := B.exec
  have hb := B.bytes
  have hr := B.returns
  have hts := atoms_spec (ws := wsX0_hasUnlikeLine) B.pre
  have hown : s.vm.findClass RX0 = some m.cls := findClass_of_methodNamed B.named
  have hlocks := B.notSynchronized
  have hS : va_S A s.heap s.heap [] := va_S.rf
  have hl := lv_entry ([.ref o, .long p0, .long p1, .int way]) (n := 7) (Nat.le_of_ble_eq_true rfl)
  rw [lg_entry_eq]
  generalize (lg_sl ([.ref o, .long p0, .long p1, .int way]) ++ List.replicate (7 - (lg_sl ([.ref o, .long p0, .long p1, .int way])).length) Slot.unset).toArray = ls at hl ⊢
  have hl : lv_has ls 7 [(0, .ref o), (1, .long p0), (3, .long p1), (5, .int way)] := hl
  have k_0 : (0 : Int32).toInt = 0 := by decide
  have k_1 : (1 : Int32).toInt = 1 := by decide
  obtain ⟨_, _, hb0, _⟩ := hT _ _ hG_o
  have hcl := cLines_b hb0 way
  refine lv_iconst (v := 0) hx hb dX0_hasUnlikeLine_0 (by decide) ?_
  refine lv_istore (lv' := [(6, .int (0 : Int32)), (0, .ref o), (1, .long p0), (3, .long p1), (5, .int way)]) hx hb dX0_hasUnlikeLine_1 hl (by decide) rfl (fun ls hl => ?_)
  have loop_3 : ∀ (n : Nat) (k : Nat), (k ≤ 11) → 11 - k < n → ∀ (H : Heap) (locs : List Loc), va_P D vwCl ws H → va_S A s.heap H locs → ∀ (ls : Array Slot), lv_has ls 7 [(6, .int (nI k)), (0, .ref o), (1, .long p0), (3, .long p1), (5, .int way)] → W p l e (headSpec wsX0_hasUnlikeLine ({ frames := 2, cells := 0, slots := 0, locals := 46 })).room s m #[Value.ref o, Value.long p0, Value.long p1, Value.int way] below meth c H locs 0 0 (MQ below (va_Qi (fun r0 u => u = (G, ws) ∧ (isBo r0)) (cB D cy A) A) #[Value.ref o, Value.long p0, Value.long p1, Value.int way] s 0 0 A) (F0 m 3 ls []) := by
    intro n
    induction n with
    | zero => intro k j3_0 hn; exact absurd hn (Nat.not_lt_zero _)
    | succ n ih_3 =>
      intro k j3_0 hn_3 H locs hP hS  ls hl
      have ik_k : (nI k).toInt = (k : Int) := nI_toInt (by omega)
      refine lv_iload hx hb dX0_hasUnlikeLine_3 (lv_at hl 0 rfl) ?_
      refine lv_aload_n hx hb dX0_hasUnlikeLine_5 rfl (lv_at hl 1 rfl) ?_
      refine lv_iload hx hb dX0_hasUnlikeLine_6 (lv_at hl 4 rfl) ?_
      obtain ⟨_, hM_o, hb_o, l_o, f_o, r_o, rfl, hG_l_o, hG_f_o, hG_r_o⟩ := hT _ _ hG_o
      refine t_calli (va_runV (g := F0 m 8 ls ([.int way, .ref o, .int (nI k)])) (As := [.int way]) (rest := [.int (nI k)]) ⟨hx, hb, hml, hown, hts⟩ (c_X0_lineCount l D cy A G ws o way hD hT hG_o ) (cwV 1 hts gX0_hasUnlikeLine_X0_lineCount rfl rfl rfl (by decide +kernel) ⟨Nat.le_of_ble_eq_true rfl, Nat.le_of_ble_eq_true rfl⟩) (c_preV hM_o rfl hP hK hA hS hV) rfl rfl hl.1 rfl (lv_room (Nat.le_of_ble_eq_true rfl)) dX0_hasUnlikeLine_8 ⟨Nat.le_of_ble_eq_true rfl, Nat.le_of_ble_eq_true rfl⟩) hS (fun r8 u H locs q8 hP9 hD9 hT9 hS => ?_)
      obtain ⟨rfl, q8⟩ := q8
      have hP : va_P D vwCl ws H := hP9
      have z8 := congrArg Int32.toInt q8
      refine lv_icmp_ge (tgt := 43) hx hb dX0_hasUnlikeLine_11 (by decide) (fun c11 => ?_) (fun c11 => ?_)
      · skip
        have d11 := c11
        rw [fa_le] at d11
        refine lv_iconst (v := 0) hx hb dX0_hasUnlikeLine_43 (by decide) ?_
        exact W.zret (v := (0 : Int32)) hx hb hr (by decide) (fun t ht hW => ⟨⟨_, (G, ws), rfl, ⟨rfl, Or.inl rfl⟩, by show va_P D vwCl ws t.heap; rw [ht]; exact hP, hD, hT⟩, hS.F ht⟩) hS.2.2 dX0_hasUnlikeLine_44
      · skip
        have d11 := c11
        rw [fa_le] at d11
        refine lv_aload_n hx hb dX0_hasUnlikeLine_14 rfl (lv_at hl 1 rfl) ?_
        refine lv_iload hx hb dX0_hasUnlikeLine_15 (lv_at hl 4 rfl) ?_
        refine lv_iload hx hb dX0_hasUnlikeLine_17 (lv_at hl 0 rfl) ?_
        refine lv_lload_n hx hb dX0_hasUnlikeLine_19 rfl (lv_at hl 2 rfl) ?_
        refine t_calli (va_runV (g := F0 m 20 ls ([.long p0, .int (nI k), .int way, .ref o])) (As := [.int way, .int (nI k), .long p0]) (rest := []) ⟨hx, hb, hml, hown, hts⟩ (c_X0_onesOfLine l D cy A G ws o way (nI k) p0 hD hT hG_o ) (cwV 3 hts gX0_hasUnlikeLine_X0_onesOfLine rfl rfl rfl (by decide +kernel) ⟨Nat.le_of_ble_eq_true rfl, Nat.le_of_ble_eq_true rfl⟩) (c_preV hM_o rfl hP hK hA hS hV) rfl rfl hl.1 rfl (lv_room (Nat.le_of_ble_eq_true rfl)) dX0_hasUnlikeLine_20 ⟨Nat.le_of_ble_eq_true rfl, Nat.le_of_ble_eq_true rfl⟩) hS (fun r20 u H locs q20 hP9 hD9 hT9 hS => ?_)
        obtain ⟨rfl, q20⟩ := q20
        have hP : va_P D vwCl ws H := hP9
        refine lv_aload_n hx hb dX0_hasUnlikeLine_23 rfl (lv_at hl 1 rfl) ?_
        refine lv_iload hx hb dX0_hasUnlikeLine_24 (lv_at hl 4 rfl) ?_
        refine lv_iload hx hb dX0_hasUnlikeLine_26 (lv_at hl 0 rfl) ?_
        refine lv_lload_n hx hb dX0_hasUnlikeLine_28 rfl (lv_at hl 3 rfl) ?_
        refine t_calli (va_runV (g := F0 m 29 ls ([.long p1, .int (nI k), .int way, .ref o, .int r20])) (As := [.int way, .int (nI k), .long p1]) (rest := [.int r20]) ⟨hx, hb, hml, hown, hts⟩ (c_X0_onesOfLine l D cy A G ws o way (nI k) p1 hD hT hG_o ) (cwV 3 hts gX0_hasUnlikeLine_X0_onesOfLine rfl rfl rfl (by decide +kernel) ⟨Nat.le_of_ble_eq_true rfl, Nat.le_of_ble_eq_true rfl⟩) (c_preV hM_o rfl hP hK hA hS hV) rfl rfl hl.1 rfl (lv_room (Nat.le_of_ble_eq_true rfl)) dX0_hasUnlikeLine_29 ⟨Nat.le_of_ble_eq_true rfl, Nat.le_of_ble_eq_true rfl⟩) hS (fun r29 u H locs q29 hP9 hD9 hT9 hS => ?_)
        obtain ⟨rfl, q29⟩ := q29
        have hP : va_P D vwCl ws H := hP9
        refine lv_icmp_eq (tgt := 37) hx hb dX0_hasUnlikeLine_32 (by decide) (fun c32 => ?_) (fun c32 => ?_)
        · skip
          have d32 := c32
          rw [fa_eq] at d32
          refine lv_iinc (v := (nI (k + 1))) (lv' := [(6, .int (nI (k + 1))), (0, .ref o), (1, .long p0), (3, .long p1), (5, .int way)]) hx hb dX0_hasUnlikeLine_37 hl (k := 0) rfl (nI_1 _) (by decide) rfl (fun ls hl => ?_)
          refine lv_goto (tgt := 3) hx hb dX0_hasUnlikeLine_40 (by decide) ?_
          exact ih_3 (k + 1) (by omega) (by omega) _ _ hP hS  ls (lv_sub hl [0, 1, 2, 3, 4] rfl)
        · skip
          have d32 := c32
          rw [fa_eq] at d32
          refine lv_iconst (v := 1) hx hb dX0_hasUnlikeLine_35 (by decide) ?_
          exact W.zret (v := (1 : Int32)) hx hb hr (by decide) (fun t ht hW => ⟨⟨_, (G, ws), rfl, ⟨rfl, Or.inr rfl⟩, by show va_P D vwCl ws t.heap; rw [ht]; exact hP, hD, hT⟩, hS.F ht⟩) hS.2.2 dX0_hasUnlikeLine_36
  exact loop_3 (11 + 1) 0 (by omega) (by omega) _ _ hP hS  ls (lv_sub hl [0, 1, 2, 3, 4] rfl)
set_option maxHeartbeats 4000000 in
set_option maxRecDepth 100000 in
theorem c_X0_firstUnlikeWay (l : Launch) (D : va_G) (cy : Nat → ClassId) (A : Nat → Prop) (G : cG) (ws : va_W) (o : Nat) (p0 : Int64) (p1 : Int64) (set : Int32) {w h : Nat} (hD : va_D A ws) (hT : cT cy G ws) (hG_o : G o = some (2, w, h))  : Ci l D cy A yX0_firstUnlikeWay wsX0_firstUnlikeWay ({ frames := 3, cells := 0, slots := 0, locals := 72 }) 0 0 ws [.ref o, .long p0, .long p1, .int set] (fun r0 u => u = (G, ws) ∧ (-1 ≤ r0.toInt ∧ r0.toInt ≤ 3)) := by
  refine Met.ofW (cc := cX0_firstUnlikeWay) (maxL := 7) (ret := (some .int)) (by decide) rfl ?_
  intro p e s m args below meth c s₁ B hml hv
  obtain ⟨rfl, hP, hK, hA, hV⟩ := hv
  have hx := B.exec
  have hb := B.bytes
  have hr := B.returns
  have hts := atoms_spec (ws := wsX0_firstUnlikeWay) B.pre
  have hown : s.vm.findClass RX0 = some m.cls := findClass_of_methodNamed B.named
  have hlocks := B.notSynchronized
  have hS : va_S A s.heap s.heap [] := va_S.rf
  have hl := lv_entry ([.ref o, .long p0, .long p1, .int set]) (n := 7) (Nat.le_of_ble_eq_true rfl)
  rw [lg_entry_eq]
  generalize (lg_sl ([.ref o, .long p0, .long p1, .int set]) ++ List.replicate (7 - (lg_sl ([.ref o, .long p0, .long p1, .int set])).length) Slot.unset).toArray = ls at hl ⊢
  have hl : lv_has ls 7 [(0, .ref o), (1, .long p0), (3, .long p1), (5, .int set)] := hl
  have k_m1 : (-1 : Int32).toInt = -1 := by decide
  have k_0 : (0 : Int32).toInt = 0 := by decide
  have k_1 : (1 : Int32).toInt = 1 := by decide
  have k_4 : (4 : Int32).toInt = 4 := by decide
  refine lv_iconst (v := 0) hx hb dX0_firstUnlikeWay_0 (by decide) ?_
  refine lv_istore (lv' := [(6, .int (0 : Int32)), (0, .ref o), (1, .long p0), (3, .long p1), (5, .int set)]) hx hb dX0_firstUnlikeWay_1 hl (by decide) rfl (fun ls hl => ?_)
  have loop_3 : ∀ (n : Nat) (k : Nat), (k ≤ 4) → 4 - k < n → ∀ (H : Heap) (locs : List Loc), va_P D vwCl ws H → va_S A s.heap H locs → ∀ (ls : Array Slot), lv_has ls 7 [(6, .int (nI k)), (0, .ref o), (1, .long p0), (3, .long p1), (5, .int set)] → W p l e (headSpec wsX0_firstUnlikeWay ({ frames := 3, cells := 0, slots := 0, locals := 72 })).room s m #[Value.ref o, Value.long p0, Value.long p1, Value.int set] below meth c H locs 0 0 (MQ below (va_Qi (fun r0 u => u = (G, ws) ∧ (-1 ≤ r0.toInt ∧ r0.toInt ≤ 3)) (cB D cy A) A) #[Value.ref o, Value.long p0, Value.long p1, Value.int set] s 0 0 A) (F0 m 3 ls []) := by
    intro n
    induction n with
    | zero => intro k j3_0 hn; exact absurd hn (Nat.not_lt_zero _)
    | succ n ih_3 =>
      intro k j3_0 hn_3 H locs hP hS  ls hl
      have ik_k : (nI k).toInt = (k : Int) := nI_toInt (by omega)
      refine lv_iload hx hb dX0_firstUnlikeWay_3 (lv_at hl 0 rfl) ?_
      refine lv_iconst (v := 4) hx hb dX0_firstUnlikeWay_5 (by decide) ?_
      refine lv_icmp_ge (tgt := 40) hx hb dX0_firstUnlikeWay_6 (by decide) (fun c6 => ?_) (fun c6 => ?_)
      · skip
        have d6 := c6
        rw [fa_le] at d6
        refine lv_iconst (v := (-1)) hx hb dX0_firstUnlikeWay_40 (by decide) ?_
        exact W.iret (v := ((-1) : Int32)) hx hb hr (fun t ht hW => ⟨⟨_, (G, ws), rfl, ⟨rfl, by omega⟩, by show va_P D vwCl ws t.heap; rw [ht]; exact hP, hD, hT⟩, hS.F ht⟩) hS.2.2 dX0_firstUnlikeWay_41
      · skip
        have d6 := c6
        rw [fa_le] at d6
        refine lv_iload hx hb dX0_firstUnlikeWay_9 (lv_at hl 4 rfl) ?_
        refine lv_iload hx hb dX0_firstUnlikeWay_11 (lv_at hl 0 rfl) ?_
        refine lv_ishr hx hb dX0_firstUnlikeWay_13 ?_
        refine lv_topi (fun v13 e13 => ?_)
        refine lv_iconst (v := 1) hx hb dX0_firstUnlikeWay_14 (by decide) ?_
        refine lv_iand hx hb dX0_firstUnlikeWay_15 ?_
        refine lv_topi (fun v15 e15 => ?_)
        refine lv_iconst (v := 1) hx hb dX0_firstUnlikeWay_16 (by decide) ?_
        refine lv_icmp_ne (tgt := 34) hx hb dX0_firstUnlikeWay_17 (by decide) (fun c17 => ?_) (fun c17 => ?_)
        · skip
          have d17 := c17
          rw [fa_eq] at d17
          refine lv_iinc (v := (nI (k + 1))) (lv' := [(6, .int (nI (k + 1))), (0, .ref o), (1, .long p0), (3, .long p1), (5, .int set)]) hx hb dX0_firstUnlikeWay_34 hl (k := 0) rfl (nI_1 _) (by decide) rfl (fun ls hl => ?_)
          refine lv_goto (tgt := 3) hx hb dX0_firstUnlikeWay_37 (by decide) ?_
          exact ih_3 (k + 1) (by omega) (by omega) _ _ hP hS  ls (lv_sub hl [0, 1, 2, 3, 4] rfl)
        · skip
          have d17 := c17
          rw [fa_eq] at d17
          refine lv_aload_n hx hb dX0_firstUnlikeWay_20 rfl (lv_at hl 1 rfl) ?_
          refine lv_lload_n hx hb dX0_firstUnlikeWay_21 rfl (lv_at hl 2 rfl) ?_
          refine lv_lload_n hx hb dX0_firstUnlikeWay_22 rfl (lv_at hl 3 rfl) ?_
          refine lv_iload hx hb dX0_firstUnlikeWay_23 (lv_at hl 0 rfl) ?_
          obtain ⟨_, hM_o, hb_o, l_o, f_o, r_o, rfl, hG_l_o, hG_f_o, hG_r_o⟩ := hT _ _ hG_o
          refine t_calli (va_runV (g := F0 m 25 ls ([.int (nI k), .long p1, .long p0, .ref o])) (As := [.long p0, .long p1, .int (nI k)]) (rest := []) ⟨hx, hb, hml, hown, hts⟩ (c_X0_hasUnlikeLine l D cy A G ws o p0 p1 (nI k) hD hT hG_o ) (cwV 3 hts gX0_firstUnlikeWay_X0_hasUnlikeLine rfl rfl rfl (by decide +kernel) ⟨Nat.le_of_ble_eq_true rfl, Nat.le_of_ble_eq_true rfl⟩) (c_preV hM_o rfl hP hK hA hS hV) rfl rfl hl.1 rfl (lv_room (Nat.le_of_ble_eq_true rfl)) dX0_firstUnlikeWay_25 ⟨Nat.le_of_ble_eq_true rfl, Nat.le_of_ble_eq_true rfl⟩) hS (fun r25 u H locs q25 hP9 hD9 hT9 hS => ?_)
          obtain ⟨rfl, q25⟩ := q25
          have hP : va_P D vwCl ws H := hP9
          refine lv_if_eq (tgt := 34) hx hb dX0_firstUnlikeWay_28 (by decide) (fun c28 => ?_) (fun c28 => ?_)
          · skip
            have d28 := c28
            rw [fa_eq] at d28
            refine lv_iinc (v := (nI (k + 1))) (lv' := [(6, .int (nI (k + 1))), (0, .ref o), (1, .long p0), (3, .long p1), (5, .int set)]) hx hb dX0_firstUnlikeWay_34 hl (k := 0) rfl (nI_1 _) (by decide) rfl (fun ls hl => ?_)
            refine lv_goto (tgt := 3) hx hb dX0_firstUnlikeWay_37 (by decide) ?_
            exact ih_3 (k + 1) (by omega) (by omega) _ _ hP hS  ls (lv_sub hl [0, 1, 2, 3, 4] rfl)
          · skip
            have d28 := c28
            rw [fa_eq] at d28
            refine lv_iload hx hb dX0_firstUnlikeWay_31 (lv_at hl 0 rfl) ?_
            exact W.iret (v := (nI k)) hx hb hr (fun t ht hW => ⟨⟨_, (G, ws), rfl, ⟨rfl, by omega⟩, by show va_P D vwCl ws t.heap; rw [ht]; exact hP, hD, hT⟩, hS.F ht⟩) hS.2.2 dX0_firstUnlikeWay_33
  exact loop_3 (4 + 1) 0 (by omega) (by omega) _ _ hP hS  ls (lv_sub hl [0, 1, 2, 3, 4] rfl)
set_option maxHeartbeats 4000000 in
set_option maxRecDepth 100000 in
theorem c_X0_behindFour (l : Launch) (D : va_G) (cy : Nat → ClassId) (A : Nat → Prop) (G : cG) (ws : va_W) (o : Nat) (four : Int32) (p0 : Int64) {w h : Nat} (hD : va_D A ws) (hT : cT cy G ws) (hG_o : G o = some (2, w, h))  : Cl l D cy A yX0_behindFour wsX0_behindFour ({ frames := 0, cells := 0, slots := 0, locals := 0 }) 0 0 ws [.ref o, .int four, .long p0] (fun r0 u => u = (G, ws) ∧ (True)) := by
  refine Met.ofW (cc := cX0_behindFour) (maxL := 9) (ret := (some .long)) (by decide) rfl ?_
  intro p e s m args below meth c s₁ B hml hv
  obtain ⟨rfl, hP, hK, hA, hV⟩ := hv
  have hx := B.exec
  have hb := B.bytes
  have hr := B.returns
  have hts := atoms_spec (ws := wsX0_behindFour) B.pre
  have hown : s.vm.findClass RX0 = some m.cls := findClass_of_methodNamed B.named
  have hlocks := B.notSynchronized
  have hS : va_S A s.heap s.heap [] := va_S.rf
  have hl := lv_entry ([.ref o, .int four, .long p0]) (n := 9) (Nat.le_of_ble_eq_true rfl)
  rw [lg_entry_eq]
  generalize (lg_sl ([.ref o, .int four, .long p0]) ++ List.replicate (9 - (lg_sl ([.ref o, .int four, .long p0])).length) Slot.unset).toArray = ls at hl ⊢
  have hl : lv_has ls 9 [(0, .ref o), (1, .int four), (2, .long p0)] := hl
  have k_0 : (0 : Int32).toInt = 0 := by decide
  have k_1 : (1 : Int32).toInt = 1 := by decide
  refine lv_iload_n hx hb dX0_behindFour_0 rfl (lv_at hl 1 rfl) ?_
  refine lv_if_lt (tgt := 12) hx hb dX0_behindFour_1 (by decide) (fun c1 => ?_) (fun c1 => ?_)
  · skip
    have d1 := c1
    rw [fa_lt] at d1
    refine lv_lload_n hx hb dX0_behindFour_12 rfl (lv_at hl 2 rfl) ?_
    exact W.lret (v := p0) hx hb hr (fun t ht hW => ⟨⟨_, (G, ws), rfl, ⟨rfl, trivial⟩, by show va_P D vwCl ws t.heap; rw [ht]; exact hP, hD, hT⟩, hS.F ht⟩) hS.2.2 dX0_behindFour_13
  · skip
    have d1 := c1
    rw [fa_lt] at d1
    refine lv_iload_n hx hb dX0_behindFour_4 rfl (lv_at hl 1 rfl) ?_
    refine lv_aload_n hx hb dX0_behindFour_5 rfl (lv_at hl 0 rfl) ?_
    obtain ⟨_, hM_o, hb_o, l_o, f_o, r_o, rfl, hG_l_o, hG_f_o, hG_r_o⟩ := hT _ _ hG_o
    refine t_get (v := .int (nI (cfo w h))) (C := RX0) (T := TX0) (N := 8) hx hb hts (by decide +kernel) hown hK hP hM_o rfl 4 (by decide) (hts (.fieldLink RX0 30 "ShadowBench$Board" "fours" "I") (by decide +kernel)) (fun _ h9 => h9) rfl dX0_behindFour_6 ?_
    have m_fo_o := cb_fo hb_o
    have i_fo_o : (nI (cfo w h)).toInt = _ := nI_toInt (by omega)
    refine lv_icmp_lt (tgt := 14) hx hb dX0_behindFour_9 (by decide) (fun c9 => ?_) (fun c9 => ?_)
    · skip
      have d9 := c9
      rw [fa_lt] at d9
      refine lv_aload_n hx hb dX0_behindFour_14 rfl (lv_at hl 0 rfl) ?_
      refine t_get (v := .ref f_o) (C := RX0) (T := TX0) (N := 8) hx hb hts (by decide +kernel) hown hK hP hM_o rfl 6 (by decide) (hts (.fieldLink RX0 33 "ShadowBench$Board" "falling" "[J") (by decide +kernel)) (fun _ h9 => h9) rfl dX0_behindFour_15 ?_
      refine lv_iload_n hx hb dX0_behindFour_18 rfl (lv_at hl 1 rfl) ?_
      refine t_lald12 hx hb hK hP hT hG_f_o (vp_in_iff.mpr ⟨by omega, by omega⟩) dX0_behindFour_19 ?_
      refine lv_topl (fun v19 e19 => ?_)
      refine lv_aload_n hx hb dX0_behindFour_20 rfl (lv_at hl 0 rfl) ?_
      refine t_get (v := .ref r_o) (C := RX0) (T := TX0) (N := 8) hx hb hts (by decide +kernel) hown hK hP hM_o rfl 7 (by decide) (hts (.fieldLink RX0 36 "ShadowBench$Board" "rising" "[J") (by decide +kernel)) (fun _ h9 => h9) rfl dX0_behindFour_21 ?_
      refine lv_iload_n hx hb dX0_behindFour_24 rfl (lv_at hl 1 rfl) ?_
      refine t_lald13 hx hb hK hP hT hG_r_o (vp_in_iff.mpr ⟨by omega, by omega⟩) dX0_behindFour_25 ?_
      refine lv_topl (fun v25 e25 => ?_)
      refine lv_lor hx hb dX0_behindFour_26 ?_
      refine lv_topl (fun v26 e26 => ?_)
      refine lv_lstore (lv' := [(4, .long v26), (0, .ref o), (1, .int four), (2, .long p0)]) hx hb dX0_behindFour_27 hl (by decide) rfl (fun ls hl => ?_)
      refine lv_lload_n hx hb dX0_behindFour_29 rfl (lv_at hl 3 rfl) ?_
      refine lv_lload hx hb dX0_behindFour_30 (lv_at hl 0 rfl) ?_
      refine lv_land hx hb dX0_behindFour_32 ?_
      refine lv_topl (fun v32 e32 => ?_)
      refine lv_lstore (lv' := [(6, .long v32), (4, .long v26), (0, .ref o), (1, .int four), (2, .long p0)]) hx hb dX0_behindFour_33 hl (by decide) rfl (fun ls hl => ?_)
      refine lv_lload hx hb dX0_behindFour_35 (lv_at hl 0 rfl) ?_
      refine lv_aload_n hx hb dX0_behindFour_37 rfl (lv_at hl 2 rfl) ?_
      refine t_get (v := .ref f_o) (C := RX0) (T := TX0) (N := 8) hx hb hts (by decide +kernel) hown hK hP hM_o rfl 6 (by decide) (hts (.fieldLink RX0 33 "ShadowBench$Board" "falling" "[J") (by decide +kernel)) (fun _ h9 => h9) rfl dX0_behindFour_38 ?_
      refine lv_iload_n hx hb dX0_behindFour_41 rfl (lv_at hl 3 rfl) ?_
      refine t_lald12 hx hb hK hP hT hG_f_o (vp_in_iff.mpr ⟨by omega, by omega⟩) dX0_behindFour_42 ?_
      refine lv_topl (fun v42 e42 => ?_)
      refine W.lcmp hx hb dX0_behindFour_43 ?_
      refine lv_if_eq (tgt := 59) hx hb dX0_behindFour_44 (by decide) (fun c44 => ?_) (fun c44 => ?_)
      · skip
        have d44 := c44
        rw [lg_cmp_eq, fa_eq64] at d44
        refine lv_iconst (v := 1) hx hb dX0_behindFour_59 (by decide) ?_
        refine lv_goto (tgt := 64) hx hb dX0_behindFour_60 (by decide) ?_
        refine lv_istore (lv' := [(8, .int (1 : Int32)), (6, .long v32), (4, .long v26), (0, .ref o), (1, .int four), (2, .long p0)]) hx hb dX0_behindFour_64 hl (by decide) rfl (fun ls hl => ?_)
        refine lv_iload hx hb dX0_behindFour_66 (lv_at hl 0 rfl) ?_
        refine lv_if_eq (tgt := 78) hx hb dX0_behindFour_68 (by decide) (fun c68 => ?_) (fun c68 => ?_)
        · first | exact absurd c68 (by decide) | exact absurd (by decide) c68
        · skip
          have d68 := c68
          rw [fa_eq] at d68
          refine lv_lload_n hx hb dX0_behindFour_71 rfl (lv_at hl 5 rfl) ?_
          refine lv_lload hx hb dX0_behindFour_72 (lv_at hl 2 rfl) ?_
          refine lv_lxor hx hb dX0_behindFour_74 ?_
          refine lv_topl (fun v74 e74 => ?_)
          refine lv_goto (tgt := 79) hx hb dX0_behindFour_75 (by decide) ?_
          exact W.lret (v := v74) hx hb hr (fun t ht hW => ⟨⟨_, (G, ws), rfl, ⟨rfl, trivial⟩, by show va_P D vwCl ws t.heap; rw [ht]; exact hP, hD, hT⟩, hS.F ht⟩) hS.2.2 dX0_behindFour_79
      · skip
        have d44 := c44
        rw [lg_cmp_eq, fa_eq64] at d44
        refine lv_lload hx hb dX0_behindFour_47 (lv_at hl 0 rfl) ?_
        refine lv_aload_n hx hb dX0_behindFour_49 rfl (lv_at hl 2 rfl) ?_
        refine t_get (v := .ref r_o) (C := RX0) (T := TX0) (N := 8) hx hb hts (by decide +kernel) hown hK hP hM_o rfl 7 (by decide) (hts (.fieldLink RX0 36 "ShadowBench$Board" "rising" "[J") (by decide +kernel)) (fun _ h9 => h9) rfl dX0_behindFour_50 ?_
        refine lv_iload_n hx hb dX0_behindFour_53 rfl (lv_at hl 3 rfl) ?_
        refine t_lald13 hx hb hK hP hT hG_r_o (vp_in_iff.mpr ⟨by omega, by omega⟩) dX0_behindFour_54 ?_
        refine lv_topl (fun v54 e54 => ?_)
        refine W.lcmp hx hb dX0_behindFour_55 ?_
        refine lv_if_ne (tgt := 63) hx hb dX0_behindFour_56 (by decide) (fun c56 => ?_) (fun c56 => ?_)
        · skip
          have d56 := c56
          rw [lg_cmp_eq, fa_eq64] at d56
          refine lv_iconst (v := 0) hx hb dX0_behindFour_63 (by decide) ?_
          refine lv_istore (lv' := [(8, .int (0 : Int32)), (6, .long v32), (4, .long v26), (0, .ref o), (1, .int four), (2, .long p0)]) hx hb dX0_behindFour_64 hl (by decide) rfl (fun ls hl => ?_)
          refine lv_iload hx hb dX0_behindFour_66 (lv_at hl 0 rfl) ?_
          refine lv_if_eq (tgt := 78) hx hb dX0_behindFour_68 (by decide) (fun c68 => ?_) (fun c68 => ?_)
          · skip
            have d68 := c68
            rw [fa_eq] at d68
            refine lv_lload_n hx hb dX0_behindFour_78 rfl (lv_at hl 5 rfl) ?_
            exact W.lret (v := p0) hx hb hr (fun t ht hW => ⟨⟨_, (G, ws), rfl, ⟨rfl, trivial⟩, by show va_P D vwCl ws t.heap; rw [ht]; exact hP, hD, hT⟩, hS.F ht⟩) hS.2.2 dX0_behindFour_79
          · first | exact absurd c68 (by decide) | exact absurd (by decide) c68
        · skip
          have d56 := c56
          rw [lg_cmp_eq, fa_eq64] at d56
          refine lv_iconst (v := 1) hx hb dX0_behindFour_59 (by decide) ?_
          refine lv_goto (tgt := 64) hx hb dX0_behindFour_60 (by decide) ?_
          refine lv_istore (lv' := [(8, .int (1 : Int32)), (6, .long v32), (4, .long v26), (0, .ref o), (1, .int four), (2, .long p0)]) hx hb dX0_behindFour_64 hl (by decide) rfl (fun ls hl => ?_)
          refine lv_iload hx hb dX0_behindFour_66 (lv_at hl 0 rfl) ?_
          refine lv_if_eq (tgt := 78) hx hb dX0_behindFour_68 (by decide) (fun c68 => ?_) (fun c68 => ?_)
          · first | exact absurd c68 (by decide) | exact absurd (by decide) c68
          · skip
            have d68 := c68
            rw [fa_eq] at d68
            refine lv_lload_n hx hb dX0_behindFour_71 rfl (lv_at hl 5 rfl) ?_
            refine lv_lload hx hb dX0_behindFour_72 (lv_at hl 2 rfl) ?_
            refine lv_lxor hx hb dX0_behindFour_74 ?_
            refine lv_topl (fun v74 e74 => ?_)
            refine lv_goto (tgt := 79) hx hb dX0_behindFour_75 (by decide) ?_
            exact W.lret (v := v74) hx hb hr (fun t ht hW => ⟨⟨_, (G, ws), rfl, ⟨rfl, trivial⟩, by show va_P D vwCl ws t.heap; rw [ht]; exact hP, hD, hT⟩, hS.F ht⟩) hS.2.2 dX0_behindFour_79
    · skip
      have d9 := c9
      rw [fa_lt] at d9
      refine lv_lload_n hx hb dX0_behindFour_12 rfl (lv_at hl 2 rfl) ?_
      exact W.lret (v := p0) hx hb hr (fun t ht hW => ⟨⟨_, (G, ws), rfl, ⟨rfl, trivial⟩, by show va_P D vwCl ws t.heap; rw [ht]; exact hP, hD, hT⟩, hS.F ht⟩) hS.2.2 dX0_behindFour_13
set_option maxHeartbeats 4000000 in
set_option maxRecDepth 100000 in
theorem c_X0_hangsTogether (l : Launch) (D : va_G) (cy : Nat → ClassId) (A : Nat → Prop) (G : cG) (ws : va_W) (o : Nat) (p0 : Int64) {w h : Nat} (hD : va_D A ws) (hT : cT cy G ws) (hG_o : G o = some (2, w, h))  : Ci l D cy A yX0_hangsTogether wsX0_hangsTogether ({ frames := 0, cells := 0, slots := 0, locals := 0 }) 0 0 ws [.ref o, .long p0] (fun r0 u => u = (G, ws) ∧ (isBo r0)) := by
  refine Met.ofW (cc := cX0_hangsTogether) (maxL := 14) (ret := (some .boolean)) (by decide) rfl ?_
  intro p e s m args below meth c s₁ B hml hv
  obtain ⟨rfl, hP, hK, hA, hV⟩ := hv
  have hx := B.exec
  have hb := B.bytes
  have hr := B.returns
  have hts := atoms_spec (ws := wsX0_hangsTogether) B.pre
  have hown : s.vm.findClass RX0 = some m.cls := findClass_of_methodNamed B.named
  have hlocks := B.notSynchronized
  have hS : va_S A s.heap s.heap [] := va_S.rf
  have hl := lv_entry ([.ref o, .long p0]) (n := 14) (Nat.le_of_ble_eq_true rfl)
  rw [lg_entry_eq]
  generalize (lg_sl ([.ref o, .long p0]) ++ List.replicate (14 - (lg_sl ([.ref o, .long p0])).length) Slot.unset).toArray = ls at hl ⊢
  have hl : lv_has ls 14 [(0, .ref o), (1, .long p0)] := hl
  have k_0 : (0 : Int32).toInt = 0 := by decide
  have k_1 : (1 : Int32).toInt = 1 := by decide
  have k_11 : (11 : Int32).toInt = 11 := by decide
  have k_m1L : (-1 : Int64).toInt = -1 := by decide
  refine lv_aload_n hx hb dX0_hangsTogether_0 rfl (lv_at hl 0 rfl) ?_
  obtain ⟨_, hM_o, hb_o, l_o, f_o, r_o, rfl, hG_l_o, hG_f_o, hG_r_o⟩ := hT _ _ hG_o
  refine t_get (v := .ref l_o) (C := RX0) (T := TX0) (N := 8) hx hb hts (by decide +kernel) hown hK hP hM_o rfl 5 (by decide) (hts (.fieldLink RX0 9 "ShadowBench$Board" "lines" "[J") (by decide +kernel)) (fun _ h9 => h9) rfl dX0_hangsTogether_1 ?_
  refine lv_bipush (v := 11) hx hb dX0_hangsTogether_4 (by decide) ?_
  refine t_lald11 hx hb hK hP hT hG_l_o (vp_in_iff.mpr ⟨by omega, by omega⟩) dX0_hangsTogether_6 ?_
  refine lv_topl (fun v6 e6 => ?_)
  refine lv_lstore_n (lv' := [(3, .long v6), (0, .ref o), (1, .long p0)]) hx hb dX0_hangsTogether_7 rfl hl (by decide) rfl (fun ls hl => ?_)
  refine lv_lload_n hx hb dX0_hangsTogether_8 rfl (lv_at hl 0 rfl) ?_
  refine lv_aload_n hx hb dX0_hangsTogether_9 rfl (lv_at hl 1 rfl) ?_
  refine t_get (v := .int (nI w)) (C := RX0) (T := TX0) (N := 8) hx hb hts (by decide +kernel) hown hK hP hM_o rfl 0 (by decide) (hts (.fieldLink RX0 13 "ShadowBench$Board" "wide" "I") (by decide +kernel)) (fun _ h9 => h9) rfl dX0_hangsTogether_10 ?_
  have i_w_o : (nI w).toInt = _ := nI_toInt (by omega)
  refine lv_iconst (v := 1) hx hb dX0_hangsTogether_13 (by decide) ?_
  refine lv_isub hx hb dX0_hangsTogether_14 ?_
  refine lv_topi (fun v14 e14 => ?_)
  refine lv_lshl (v := v6 <<< (v14.toInt64 &&& 63)) hx hb dX0_hangsTogether_15 rfl ?_
  refine lv_lstore (lv' := [(5, .long (v6 <<< (v14.toInt64 &&& 63))), (3, .long v6), (0, .ref o), (1, .long p0)]) hx hb dX0_hangsTogether_16 hl (by decide) rfl (fun ls hl => ?_)
  refine lv_lload_n hx hb dX0_hangsTogether_18 rfl (lv_at hl 3 rfl) ?_
  refine lv_lload_n hx hb dX0_hangsTogether_19 rfl (lv_at hl 3 rfl) ?_
  refine lv_lneg hx hb dX0_hangsTogether_20 ?_
  refine lv_topl (fun v20 e20 => ?_)
  refine lv_land hx hb dX0_hangsTogether_21 ?_
  refine lv_topl (fun v21 e21 => ?_)
  refine lv_lstore (lv' := [(7, .long v21), (5, .long (v6 <<< (v14.toInt64 &&& 63))), (3, .long v6), (0, .ref o), (1, .long p0)]) hx hb dX0_hangsTogether_22 hl (by decide) rfl (fun ls hl => ?_)
  refine lv_iconst (v := 1) hx hb dX0_hangsTogether_24 (by decide) ?_
  refine lv_istore (lv' := [(9, .int (1 : Int32)), (7, .long v21), (5, .long (v6 <<< (v14.toInt64 &&& 63))), (3, .long v6), (0, .ref o), (1, .long p0)]) hx hb dX0_hangsTogether_25 hl (by decide) rfl (fun ls hl => ?_)
  have loop_27 : ∀ (n : Nat) (k : Nat) (x7 : Int64), (1 ≤ k ∧ k ≤ 36) → 36 - k < n → ∀ (H : Heap) (locs : List Loc), va_P D vwCl ws H → va_S A s.heap H locs → ∀ (ls : Array Slot), lv_has ls 14 [(9, .int (nI k)), (7, .long x7), (5, .long (v6 <<< (v14.toInt64 &&& 63))), (3, .long v6), (0, .ref o), (1, .long p0)] → W p l e (headSpec wsX0_hangsTogether ({ frames := 0, cells := 0, slots := 0, locals := 0 })).room s m #[Value.ref o, Value.long p0] below meth c H locs 0 0 (MQ below (va_Qi (fun r0 u => u = (G, ws) ∧ (isBo r0)) (cB D cy A) A) #[Value.ref o, Value.long p0] s 0 0 A) (F0 m 27 ls []) := by
    intro n
    induction n with
    | zero => intro k x7 j27_0 hn; exact absurd hn (Nat.not_lt_zero _)
    | succ n ih_27 =>
      intro k x7 j27_0 hn_27 H locs hP hS  ls hl
      have ik_k : (nI k).toInt = (k : Int) := nI_toInt (by omega)
      refine lv_iload hx hb dX0_hangsTogether_27 (lv_at hl 0 rfl) ?_
      refine lv_aload_n hx hb dX0_hangsTogether_29 rfl (lv_at hl 4 rfl) ?_
      refine t_get (v := .int (nI (w * h))) (C := RX0) (T := TX0) (N := 8) hx hb hts (by decide +kernel) hown hK hP hM_o rfl 2 (by decide) (hts (.fieldLink RX0 20 "ShadowBench$Board" "squares" "I") (by decide +kernel)) (fun _ h9 => h9) rfl dX0_hangsTogether_30 ?_
      have m_wh_o := cb_mul hb_o
      have i_wh_o : (nI (w * h)).toInt = _ := nI_toInt (by omega)
      refine lv_icmp_ge (tgt := 102) hx hb dX0_hangsTogether_33 (by decide) (fun c33 => ?_) (fun c33 => ?_)
      · skip
        have d33 := c33
        rw [fa_le] at d33
        refine lv_lload hx hb dX0_hangsTogether_102 (lv_at hl 1 rfl) ?_
        refine lv_lload_n hx hb dX0_hangsTogether_104 rfl (lv_at hl 5 rfl) ?_
        refine W.lcmp hx hb dX0_hangsTogether_105 ?_
        refine lv_if_ne (tgt := 113) hx hb dX0_hangsTogether_106 (by decide) (fun c106 => ?_) (fun c106 => ?_)
        · skip
          have d106 := c106
          rw [lg_cmp_eq, fa_eq64] at d106
          refine lv_iconst (v := 0) hx hb dX0_hangsTogether_113 (by decide) ?_
          exact W.zret (v := (0 : Int32)) hx hb hr (by decide) (fun t ht hW => ⟨⟨_, (G, ws), rfl, ⟨rfl, Or.inl rfl⟩, by show va_P D vwCl ws t.heap; rw [ht]; exact hP, hD, hT⟩, hS.F ht⟩) hS.2.2 dX0_hangsTogether_114
        · skip
          have d106 := c106
          rw [lg_cmp_eq, fa_eq64] at d106
          refine lv_iconst (v := 1) hx hb dX0_hangsTogether_109 (by decide) ?_
          refine lv_goto (tgt := 114) hx hb dX0_hangsTogether_110 (by decide) ?_
          exact W.zret (v := (1 : Int32)) hx hb hr (by decide) (fun t ht hW => ⟨⟨_, (G, ws), rfl, ⟨rfl, Or.inr rfl⟩, by show va_P D vwCl ws t.heap; rw [ht]; exact hP, hD, hT⟩, hS.F ht⟩) hS.2.2 dX0_hangsTogether_114
      · skip
        have d33 := c33
        rw [fa_le] at d33
        refine lv_lload hx hb dX0_hangsTogether_36 (lv_at hl 1 rfl) ?_
        refine lv_lload_n hx hb dX0_hangsTogether_38 rfl (lv_at hl 5 rfl) ?_
        refine W.lcmp hx hb dX0_hangsTogether_39 ?_
        refine lv_if_eq (tgt := 102) hx hb dX0_hangsTogether_40 (by decide) (fun c40 => ?_) (fun c40 => ?_)
        · skip
          have d40 := c40
          rw [lg_cmp_eq, fa_eq64] at d40
          refine lv_lload hx hb dX0_hangsTogether_102 (lv_at hl 1 rfl) ?_
          refine lv_lload_n hx hb dX0_hangsTogether_104 rfl (lv_at hl 5 rfl) ?_
          refine W.lcmp hx hb dX0_hangsTogether_105 ?_
          refine lv_if_ne (tgt := 113) hx hb dX0_hangsTogether_106 (by decide) (fun c106 => ?_) (fun c106 => ?_)
          · skip
            have d106 := c106
            rw [lg_cmp_eq, fa_eq64] at d106
            refine lv_iconst (v := 0) hx hb dX0_hangsTogether_113 (by decide) ?_
            exact W.zret (v := (0 : Int32)) hx hb hr (by decide) (fun t ht hW => ⟨⟨_, (G, ws), rfl, ⟨rfl, Or.inl rfl⟩, by show va_P D vwCl ws t.heap; rw [ht]; exact hP, hD, hT⟩, hS.F ht⟩) hS.2.2 dX0_hangsTogether_114
          · skip
            have d106 := c106
            rw [lg_cmp_eq, fa_eq64] at d106
            refine lv_iconst (v := 1) hx hb dX0_hangsTogether_109 (by decide) ?_
            refine lv_goto (tgt := 114) hx hb dX0_hangsTogether_110 (by decide) ?_
            exact W.zret (v := (1 : Int32)) hx hb hr (by decide) (fun t ht hW => ⟨⟨_, (G, ws), rfl, ⟨rfl, Or.inr rfl⟩, by show va_P D vwCl ws t.heap; rw [ht]; exact hP, hD, hT⟩, hS.F ht⟩) hS.2.2 dX0_hangsTogether_114
        · skip
          have d40 := c40
          rw [lg_cmp_eq, fa_eq64] at d40
          refine lv_lload hx hb dX0_hangsTogether_43 (lv_at hl 1 rfl) ?_
          refine lv_lload hx hb dX0_hangsTogether_45 (lv_at hl 2 rfl) ?_
          refine lv_ldc2 hx hb hown (hts (.constantLong RX0 73 (-1)) (by decide +kernel)) dX0_hangsTogether_47 ?_
          refine lv_lxor hx hb dX0_hangsTogether_50 ?_
          refine lv_topl (fun v50 e50 => ?_)
          refine lv_land hx hb dX0_hangsTogether_51 ?_
          refine lv_topl (fun v51 e51 => ?_)
          refine lv_iconst (v := 1) hx hb dX0_hangsTogether_52 (by decide) ?_
          refine lv_lshl (v := v51 <<< ((1 : Int32).toInt64 &&& 63)) hx hb dX0_hangsTogether_53 rfl ?_
          refine lv_lload hx hb dX0_hangsTogether_54 (lv_at hl 1 rfl) ?_
          refine lv_lload_n hx hb dX0_hangsTogether_56 rfl (lv_at hl 3 rfl) ?_
          refine lv_ldc2 hx hb hown (hts (.constantLong RX0 73 (-1)) (by decide +kernel)) dX0_hangsTogether_57 ?_
          refine lv_lxor hx hb dX0_hangsTogether_60 ?_
          refine lv_topl (fun v60 e60 => ?_)
          refine lv_land hx hb dX0_hangsTogether_61 ?_
          refine lv_topl (fun v61 e61 => ?_)
          refine lv_iconst (v := 1) hx hb dX0_hangsTogether_62 (by decide) ?_
          refine lv_lushr (v := (v61.toUInt64 >>> ((1 : Int32).toInt64.toUInt64 &&& Int64.toUInt64 63)).toInt64) hx hb dX0_hangsTogether_63 rfl ?_
          refine lv_lor hx hb dX0_hangsTogether_64 ?_
          refine lv_topl (fun v64 e64 => ?_)
          refine lv_lstore (lv' := [(10, .long v64), (9, .int (nI k)), (7, .long x7), (5, .long (v6 <<< (v14.toInt64 &&& 63))), (3, .long v6), (0, .ref o), (1, .long p0)]) hx hb dX0_hangsTogether_65 hl (by decide) rfl (fun ls hl => ?_)
          refine lv_lload hx hb dX0_hangsTogether_67 (lv_at hl 2 rfl) ?_
          refine lv_aload_n hx hb dX0_hangsTogether_69 rfl (lv_at hl 5 rfl) ?_
          refine t_get (v := .int (nI w)) (C := RX0) (T := TX0) (N := 8) hx hb hts (by decide +kernel) hown hK hP hM_o rfl 0 (by decide) (hts (.fieldLink RX0 13 "ShadowBench$Board" "wide" "I") (by decide +kernel)) (fun _ h9 => h9) rfl dX0_hangsTogether_70 ?_
          refine lv_lshl (v := x7 <<< ((nI w).toInt64 &&& 63)) hx hb dX0_hangsTogether_73 rfl ?_
          refine lv_lload hx hb dX0_hangsTogether_74 (lv_at hl 2 rfl) ?_
          refine lv_aload_n hx hb dX0_hangsTogether_76 rfl (lv_at hl 5 rfl) ?_
          refine t_get (v := .int (nI w)) (C := RX0) (T := TX0) (N := 8) hx hb hts (by decide +kernel) hown hK hP hM_o rfl 0 (by decide) (hts (.fieldLink RX0 13 "ShadowBench$Board" "wide" "I") (by decide +kernel)) (fun _ h9 => h9) rfl dX0_hangsTogether_77 ?_
          refine lv_lushr (v := (x7.toUInt64 >>> ((nI w).toInt64.toUInt64 &&& Int64.toUInt64 63)).toInt64) hx hb dX0_hangsTogether_80 rfl ?_
          refine lv_lor hx hb dX0_hangsTogether_81 ?_
          refine lv_topl (fun v81 e81 => ?_)
          refine lv_lstore (lv' := [(12, .long v81), (10, .long v64), (9, .int (nI k)), (7, .long x7), (5, .long (v6 <<< (v14.toInt64 &&& 63))), (3, .long v6), (0, .ref o), (1, .long p0)]) hx hb dX0_hangsTogether_82 hl (by decide) rfl (fun ls hl => ?_)
          refine lv_lload hx hb dX0_hangsTogether_84 (lv_at hl 3 rfl) ?_
          refine lv_lload hx hb dX0_hangsTogether_86 (lv_at hl 1 rfl) ?_
          refine lv_lload hx hb dX0_hangsTogether_88 (lv_at hl 0 rfl) ?_
          refine lv_lor hx hb dX0_hangsTogether_90 ?_
          refine lv_topl (fun v90 e90 => ?_)
          refine lv_lload_n hx hb dX0_hangsTogether_91 rfl (lv_at hl 7 rfl) ?_
          refine lv_land hx hb dX0_hangsTogether_92 ?_
          refine lv_topl (fun v92 e92 => ?_)
          refine lv_lor hx hb dX0_hangsTogether_93 ?_
          refine lv_topl (fun v93 e93 => ?_)
          refine lv_lstore (lv' := [(7, .long v93), (12, .long v81), (10, .long v64), (9, .int (nI k)), (5, .long (v6 <<< (v14.toInt64 &&& 63))), (3, .long v6), (0, .ref o), (1, .long p0)]) hx hb dX0_hangsTogether_94 hl (by decide) rfl (fun ls hl => ?_)
          refine lv_iinc (v := (nI (k + 1))) (lv' := [(9, .int (nI (k + 1))), (7, .long v93), (12, .long v81), (10, .long v64), (5, .long (v6 <<< (v14.toInt64 &&& 63))), (3, .long v6), (0, .ref o), (1, .long p0)]) hx hb dX0_hangsTogether_96 hl (k := 3) rfl (nI_1 _) (by decide) rfl (fun ls hl => ?_)
          refine lv_goto (tgt := 27) hx hb dX0_hangsTogether_99 (by decide) ?_
          exact ih_27 (k + 1) v93 (by omega) (by omega) _ _ hP hS  ls (lv_sub hl [0, 1, 4, 5, 6, 7] rfl)
  exact loop_27 (36 + 1) 1 v21 (by omega) (by omega) _ _ hP hS  ls (lv_sub hl [0, 1, 2, 3, 4, 5] rfl)
set_option maxHeartbeats 4000000 in
set_option maxRecDepth 100000 in
theorem c_X0_rowsAreWhole (l : Launch) (D : va_G) (cy : Nat → ClassId) (A : Nat → Prop) (G : cG) (ws : va_W) (o : Nat) (p0 : Int64) {w h : Nat} (hD : va_D A ws) (hT : cT cy G ws) (hG_o : G o = some (2, w, h))  : Ci l D cy A yX0_rowsAreWhole wsX0_rowsAreWhole ({ frames := 1, cells := 0, slots := 0, locals := 23 }) 0 0 ws [.ref o, .long p0] (fun r0 u => u = (G, ws) ∧ (isBo r0)) := by
  refine Met.ofW (cc := cX0_rowsAreWhole) (maxL := 5) (ret := (some .boolean)) (by decide) rfl ?_
  intro p e s m args below meth c s₁ B hml hv
  obtain ⟨rfl, hP, hK, hA, hV⟩ := hv
  have hx := B.exec
  have hb := B.bytes
  have hr := B.returns
  have hts := atoms_spec (ws := wsX0_rowsAreWhole) B.pre
  have hown : s.vm.findClass RX0 = some m.cls := findClass_of_methodNamed B.named
  have hlocks := B.notSynchronized
  have hS : va_S A s.heap s.heap [] := va_S.rf
  have hl := lv_entry ([.ref o, .long p0]) (n := 5) (Nat.le_of_ble_eq_true rfl)
  rw [lg_entry_eq]
  generalize (lg_sl ([.ref o, .long p0]) ++ List.replicate (5 - (lg_sl ([.ref o, .long p0])).length) Slot.unset).toArray = ls at hl ⊢
  have hl : lv_has ls 5 [(0, .ref o), (1, .long p0)] := hl
  have k_0 : (0 : Int32).toInt = 0 := by decide
  have k_1 : (1 : Int32).toInt = 1 := by decide
  refine lv_iconst (v := 0) hx hb dX0_rowsAreWhole_0 (by decide) ?_
  refine lv_istore_n (lv' := [(3, .int (0 : Int32)), (0, .ref o), (1, .long p0)]) hx hb dX0_rowsAreWhole_1 rfl hl (by decide) rfl (fun ls hl => ?_)
  have loop_2 : ∀ (n : Nat) (k : Nat), (k ≤ 6) → 6 - k < n → ∀ (H : Heap) (locs : List Loc), va_P D vwCl ws H → va_S A s.heap H locs → ∀ (ls : Array Slot), lv_has ls 5 [(3, .int (nI k)), (0, .ref o), (1, .long p0)] → W p l e (headSpec wsX0_rowsAreWhole ({ frames := 1, cells := 0, slots := 0, locals := 23 })).room s m #[Value.ref o, Value.long p0] below meth c H locs 0 0 (MQ below (va_Qi (fun r0 u => u = (G, ws) ∧ (isBo r0)) (cB D cy A) A) #[Value.ref o, Value.long p0] s 0 0 A) (F0 m 2 ls []) := by
    intro n
    induction n with
    | zero => intro k j2_0 hn; exact absurd hn (Nat.not_lt_zero _)
    | succ n ih_2 =>
      intro k j2_0 hn_2 H locs hP hS  ls hl
      have ik_k : (nI k).toInt = (k : Int) := nI_toInt (by omega)
      refine lv_iload_n hx hb dX0_rowsAreWhole_2 rfl (lv_at hl 0 rfl) ?_
      refine lv_aload_n hx hb dX0_rowsAreWhole_3 rfl (lv_at hl 1 rfl) ?_
      obtain ⟨_, hM_o, hb_o, l_o, f_o, r_o, rfl, hG_l_o, hG_f_o, hG_r_o⟩ := hT _ _ hG_o
      refine t_get (v := .int (nI h)) (C := RX0) (T := TX0) (N := 8) hx hb hts (by decide +kernel) hown hK hP hM_o rfl 1 (by decide) (hts (.fieldLink RX0 17 "ShadowBench$Board" "high" "I") (by decide +kernel)) (fun _ h9 => h9) rfl dX0_rowsAreWhole_4 ?_
      have i_h_o : (nI h).toInt = _ := nI_toInt (by omega)
      refine lv_icmp_ge (tgt := 41) hx hb dX0_rowsAreWhole_7 (by decide) (fun c7 => ?_) (fun c7 => ?_)
      · skip
        have d7 := c7
        rw [fa_le] at d7
        refine lv_iconst (v := 1) hx hb dX0_rowsAreWhole_41 (by decide) ?_
        exact W.zret (v := (1 : Int32)) hx hb hr (by decide) (fun t ht hW => ⟨⟨_, (G, ws), rfl, ⟨rfl, Or.inr rfl⟩, by show va_P D vwCl ws t.heap; rw [ht]; exact hP, hD, hT⟩, hS.F ht⟩) hS.2.2 dX0_rowsAreWhole_42
      · skip
        have d7 := c7
        rw [fa_le] at d7
        refine lv_aload_n hx hb dX0_rowsAreWhole_10 rfl (lv_at hl 1 rfl) ?_
        refine lv_lload_n hx hb dX0_rowsAreWhole_11 rfl (lv_at hl 2 rfl) ?_
        refine lv_iload_n hx hb dX0_rowsAreWhole_12 rfl (lv_at hl 0 rfl) ?_
        refine t_calli (va_runV (g := F0 m 13 ls ([.int (nI k), .long p0, .ref o])) (As := [.long p0, .int (nI k)]) (rest := []) ⟨hx, hb, hml, hown, hts⟩ (c_X0_rowOf l D cy A G ws o p0 (nI k) hD hT hG_o ) (cwV 2 hts gX0_rowsAreWhole_X0_rowOf rfl rfl rfl (by decide +kernel) ⟨Nat.le_of_ble_eq_true rfl, Nat.le_of_ble_eq_true rfl⟩) (c_preV hM_o rfl hP hK hA hS hV) rfl rfl hl.1 rfl (lv_room (Nat.le_of_ble_eq_true rfl)) dX0_rowsAreWhole_13 ⟨Nat.le_of_ble_eq_true rfl, Nat.le_of_ble_eq_true rfl⟩) hS (fun r13 u H locs q13 hP9 hD9 hT9 hS => ?_)
        obtain ⟨rfl, q13⟩ := q13
        have hP : va_P D vwCl ws H := hP9
        refine lv_istore (lv' := [(4, .int r13), (3, .int (nI k)), (0, .ref o), (1, .long p0)]) hx hb dX0_rowsAreWhole_16 hl (by decide) rfl (fun ls hl => ?_)
        refine lv_iload hx hb dX0_rowsAreWhole_18 (lv_at hl 0 rfl) ?_
        refine lv_iload hx hb dX0_rowsAreWhole_20 (lv_at hl 0 rfl) ?_
        refine lv_iload hx hb dX0_rowsAreWhole_22 (lv_at hl 0 rfl) ?_
        refine lv_iload hx hb dX0_rowsAreWhole_24 (lv_at hl 0 rfl) ?_
        refine lv_ineg hx hb dX0_rowsAreWhole_26 ?_
        refine lv_topi (fun v26 e26 => ?_)
        refine lv_iand hx hb dX0_rowsAreWhole_27 ?_
        refine lv_topi (fun v27 e27 => ?_)
        refine lv_iadd hx hb dX0_rowsAreWhole_28 ?_
        refine lv_topi (fun v28 e28 => ?_)
        refine lv_iand hx hb dX0_rowsAreWhole_29 ?_
        refine lv_topi (fun v29 e29 => ?_)
        refine lv_if_eq (tgt := 35) hx hb dX0_rowsAreWhole_30 (by decide) (fun c30 => ?_) (fun c30 => ?_)
        · skip
          have d30 := c30
          rw [fa_eq] at d30
          refine lv_iinc (v := (nI (k + 1))) (lv' := [(3, .int (nI (k + 1))), (4, .int r13), (0, .ref o), (1, .long p0)]) hx hb dX0_rowsAreWhole_35 hl (k := 1) rfl (nI_1 _) (by decide) rfl (fun ls hl => ?_)
          refine lv_goto (tgt := 2) hx hb dX0_rowsAreWhole_38 (by decide) ?_
          exact ih_2 (k + 1) (by omega) (by omega) _ _ hP hS  ls (lv_sub hl [0, 2, 3] rfl)
        · skip
          have d30 := c30
          rw [fa_eq] at d30
          refine lv_iconst (v := 0) hx hb dX0_rowsAreWhole_33 (by decide) ?_
          exact W.zret (v := (0 : Int32)) hx hb hr (by decide) (fun t ht hW => ⟨⟨_, (G, ws), rfl, ⟨rfl, Or.inl rfl⟩, by show va_P D vwCl ws t.heap; rw [ht]; exact hP, hD, hT⟩, hS.F ht⟩) hS.2.2 dX0_rowsAreWhole_34
  exact loop_2 (6 + 1) 0 (by omega) (by omega) _ _ hP hS  ls (lv_sub hl [0, 1, 2] rfl)
set_option maxHeartbeats 4000000 in
set_option maxRecDepth 100000 in
theorem c_X0_columnsAreWhole (l : Launch) (D : va_G) (cy : Nat → ClassId) (A : Nat → Prop) (G : cG) (ws : va_W) (o : Nat) (p0 : Int64) {w h : Nat} (hD : va_D A ws) (hT : cT cy G ws) (hG_o : G o = some (2, w, h))  : Ci l D cy A yX0_columnsAreWhole wsX0_columnsAreWhole ({ frames := 1, cells := 0, slots := 0, locals := 23 }) 0 0 ws [.ref o, .long p0] (fun r0 u => u = (G, ws) ∧ (isBo r0)) := by
  refine Met.ofW (cc := cX0_columnsAreWhole) (maxL := 7) (ret := (some .boolean)) (by decide) rfl ?_
  intro p e s m args below meth c s₁ B hml hv
  obtain ⟨rfl, hP, hK, hA, hV⟩ := hv
  have hx := B.exec
  have hb := B.bytes
  have hr := B.returns
  have hts := atoms_spec (ws := wsX0_columnsAreWhole) B.pre
  have hown : s.vm.findClass RX0 = some m.cls := findClass_of_methodNamed B.named
  have hlocks := B.notSynchronized
  have hS : va_S A s.heap s.heap [] := va_S.rf
  have hl := lv_entry ([.ref o, .long p0]) (n := 7) (Nat.le_of_ble_eq_true rfl)
  rw [lg_entry_eq]
  generalize (lg_sl ([.ref o, .long p0]) ++ List.replicate (7 - (lg_sl ([.ref o, .long p0])).length) Slot.unset).toArray = ls at hl ⊢
  have hl : lv_has ls 7 [(0, .ref o), (1, .long p0)] := hl
  have k_m1 : (-1 : Int32).toInt = -1 := by decide
  have k_0 : (0 : Int32).toInt = 0 := by decide
  have k_1 : (1 : Int32).toInt = 1 := by decide
  refine lv_iconst (v := 0) hx hb dX0_columnsAreWhole_0 (by decide) ?_
  refine lv_istore_n (lv' := [(3, .int (0 : Int32)), (0, .ref o), (1, .long p0)]) hx hb dX0_columnsAreWhole_1 rfl hl (by decide) rfl (fun ls hl => ?_)
  refine lv_iconst (v := 0) hx hb dX0_columnsAreWhole_2 (by decide) ?_
  refine lv_istore (lv' := [(4, .int (0 : Int32)), (3, .int (0 : Int32)), (0, .ref o), (1, .long p0)]) hx hb dX0_columnsAreWhole_3 hl (by decide) rfl (fun ls hl => ?_)
  refine lv_iconst (v := 0) hx hb dX0_columnsAreWhole_5 (by decide) ?_
  refine lv_istore (lv' := [(5, .int (0 : Int32)), (4, .int (0 : Int32)), (3, .int (0 : Int32)), (0, .ref o), (1, .long p0)]) hx hb dX0_columnsAreWhole_6 hl (by decide) rfl (fun ls hl => ?_)
  have loop_8 : ∀ (n : Nat) (k : Nat) (x4 : Int32) (x3 : Int32), (k ≤ 6) → 6 - k < n → ∀ (H : Heap) (locs : List Loc), va_P D vwCl ws H → va_S A s.heap H locs → ∀ (ls : Array Slot), lv_has ls 7 [(5, .int (nI k)), (4, .int x4), (3, .int x3), (0, .ref o), (1, .long p0)] → W p l e (headSpec wsX0_columnsAreWhole ({ frames := 1, cells := 0, slots := 0, locals := 23 })).room s m #[Value.ref o, Value.long p0] below meth c H locs 0 0 (MQ below (va_Qi (fun r0 u => u = (G, ws) ∧ (isBo r0)) (cB D cy A) A) #[Value.ref o, Value.long p0] s 0 0 A) (F0 m 8 ls []) := by
    intro n
    induction n with
    | zero => intro k x4 x3 j8_0 hn; exact absurd hn (Nat.not_lt_zero _)
    | succ n ih_8 =>
      intro k x4 x3 j8_0 hn_8 H locs hP hS  ls hl
      have ik_k : (nI k).toInt = (k : Int) := nI_toInt (by omega)
      refine lv_iload hx hb dX0_columnsAreWhole_8 (lv_at hl 0 rfl) ?_
      refine lv_aload_n hx hb dX0_columnsAreWhole_10 rfl (lv_at hl 3 rfl) ?_
      obtain ⟨_, hM_o, hb_o, l_o, f_o, r_o, rfl, hG_l_o, hG_f_o, hG_r_o⟩ := hT _ _ hG_o
      refine t_get (v := .int (nI h)) (C := RX0) (T := TX0) (N := 8) hx hb hts (by decide +kernel) hown hK hP hM_o rfl 1 (by decide) (hts (.fieldLink RX0 17 "ShadowBench$Board" "high" "I") (by decide +kernel)) (fun _ h9 => h9) rfl dX0_columnsAreWhole_11 ?_
      have i_h_o : (nI h).toInt = _ := nI_toInt (by omega)
      refine lv_icmp_ge (tgt := 55) hx hb dX0_columnsAreWhole_14 (by decide) (fun c14 => ?_) (fun c14 => ?_)
      · skip
        have d14 := c14
        rw [fa_le] at d14
        refine lv_iconst (v := 1) hx hb dX0_columnsAreWhole_55 (by decide) ?_
        exact W.zret (v := (1 : Int32)) hx hb hr (by decide) (fun t ht hW => ⟨⟨_, (G, ws), rfl, ⟨rfl, Or.inr rfl⟩, by show va_P D vwCl ws t.heap; rw [ht]; exact hP, hD, hT⟩, hS.F ht⟩) hS.2.2 dX0_columnsAreWhole_56
      · skip
        have d14 := c14
        rw [fa_le] at d14
        refine lv_aload_n hx hb dX0_columnsAreWhole_17 rfl (lv_at hl 3 rfl) ?_
        refine lv_lload_n hx hb dX0_columnsAreWhole_18 rfl (lv_at hl 4 rfl) ?_
        refine lv_iload hx hb dX0_columnsAreWhole_19 (lv_at hl 0 rfl) ?_
        refine t_calli (va_runV (g := F0 m 21 ls ([.int (nI k), .long p0, .ref o])) (As := [.long p0, .int (nI k)]) (rest := []) ⟨hx, hb, hml, hown, hts⟩ (c_X0_rowOf l D cy A G ws o p0 (nI k) hD hT hG_o ) (cwV 2 hts gX0_columnsAreWhole_X0_rowOf rfl rfl rfl (by decide +kernel) ⟨Nat.le_of_ble_eq_true rfl, Nat.le_of_ble_eq_true rfl⟩) (c_preV hM_o rfl hP hK hA hS hV) rfl rfl hl.1 rfl (lv_room (Nat.le_of_ble_eq_true rfl)) dX0_columnsAreWhole_21 ⟨Nat.le_of_ble_eq_true rfl, Nat.le_of_ble_eq_true rfl⟩) hS (fun r21 u H locs q21 hP9 hD9 hT9 hS => ?_)
        obtain ⟨rfl, q21⟩ := q21
        have hP : va_P D vwCl ws H := hP9
        refine lv_istore (lv' := [(6, .int r21), (5, .int (nI k)), (4, .int x4), (3, .int x3), (0, .ref o), (1, .long p0)]) hx hb dX0_columnsAreWhole_24 hl (by decide) rfl (fun ls hl => ?_)
        refine lv_iload hx hb dX0_columnsAreWhole_26 (lv_at hl 0 rfl) ?_
        refine lv_iload hx hb dX0_columnsAreWhole_28 (lv_at hl 2 rfl) ?_
        refine lv_iand hx hb dX0_columnsAreWhole_30 ?_
        refine lv_topi (fun v30 e30 => ?_)
        refine lv_if_eq (tgt := 36) hx hb dX0_columnsAreWhole_31 (by decide) (fun c31 => ?_) (fun c31 => ?_)
        · skip
          have d31 := c31
          rw [fa_eq] at d31
          refine lv_iload_n hx hb dX0_columnsAreWhole_36 rfl (lv_at hl 3 rfl) ?_
          refine lv_iload hx hb dX0_columnsAreWhole_37 (lv_at hl 0 rfl) ?_
          refine lv_ior hx hb dX0_columnsAreWhole_39 ?_
          refine lv_topi (fun v39 e39 => ?_)
          refine lv_istore_n (lv' := [(3, .int v39), (6, .int r21), (5, .int (nI k)), (4, .int x4), (0, .ref o), (1, .long p0)]) hx hb dX0_columnsAreWhole_40 rfl hl (by decide) rfl (fun ls hl => ?_)
          refine lv_iload_n hx hb dX0_columnsAreWhole_41 rfl (lv_at hl 0 rfl) ?_
          refine lv_iload hx hb dX0_columnsAreWhole_42 (lv_at hl 1 rfl) ?_
          refine lv_iconst (v := (-1)) hx hb dX0_columnsAreWhole_44 (by decide) ?_
          refine lv_ixor hx hb dX0_columnsAreWhole_45 ?_
          refine lv_topi (fun v45 e45 => ?_)
          refine lv_iand hx hb dX0_columnsAreWhole_46 ?_
          refine lv_topi (fun v46 e46 => ?_)
          refine lv_istore (lv' := [(4, .int v46), (3, .int v39), (6, .int r21), (5, .int (nI k)), (0, .ref o), (1, .long p0)]) hx hb dX0_columnsAreWhole_47 hl (by decide) rfl (fun ls hl => ?_)
          refine lv_iinc (v := (nI (k + 1))) (lv' := [(5, .int (nI (k + 1))), (4, .int v46), (3, .int v39), (6, .int r21), (0, .ref o), (1, .long p0)]) hx hb dX0_columnsAreWhole_49 hl (k := 3) rfl (nI_1 _) (by decide) rfl (fun ls hl => ?_)
          refine lv_goto (tgt := 8) hx hb dX0_columnsAreWhole_52 (by decide) ?_
          exact ih_8 (k + 1) v46 v39 (by omega) (by omega) _ _ hP hS  ls (lv_sub hl [0, 1, 2, 4, 5] rfl)
        · skip
          have d31 := c31
          rw [fa_eq] at d31
          refine lv_iconst (v := 0) hx hb dX0_columnsAreWhole_34 (by decide) ?_
          exact W.zret (v := (0 : Int32)) hx hb hr (by decide) (fun t ht hW => ⟨⟨_, (G, ws), rfl, ⟨rfl, Or.inl rfl⟩, by show va_P D vwCl ws t.heap; rw [ht]; exact hP, hD, hT⟩, hS.F ht⟩) hS.2.2 dX0_columnsAreWhole_35
  exact loop_8 (6 + 1) 0 (0 : Int32) (0 : Int32) (by omega) (by omega) _ _ hP hS  ls (lv_sub hl [0, 1, 2, 3, 4] rfl)
set_option maxHeartbeats 4000000 in
set_option maxRecDepth 100000 in
theorem c_X0_placeTurned (l : Launch) (D : va_G) (cy : Nat → ClassId) (A : Nat → Prop) (G : cG) (ws : va_W) (o : Nat) (how : Int32) (x : Int32) (y : Int32) {w h : Nat} (hD : va_D A ws) (hT : cT cy G ws) (hG_o : G o = some (2, w, h))  : Ci l D cy A yX0_placeTurned wsX0_placeTurned ({ frames := 0, cells := 0, slots := 0, locals := 0 }) 0 0 ws [.ref o, .int how, .int x, .int y] (fun r0 u => u = (G, ws) ∧ (True)) := by
  refine Met.ofW (cc := cX0_placeTurned) (maxL := 4) (ret := (some .int)) (by decide) rfl ?_
  intro p e s m args below meth c s₁ B hml hv
  obtain ⟨rfl, hP, hK, hA, hV⟩ := hv
  have hx := B.exec
  have hb := B.bytes
  have hr := B.returns
  have hts := atoms_spec (ws := wsX0_placeTurned) B.pre
  have hown : s.vm.findClass RX0 = some m.cls := findClass_of_methodNamed B.named
  have hlocks := B.notSynchronized
  have hS : va_S A s.heap s.heap [] := va_S.rf
  have hl := lv_entry ([.ref o, .int how, .int x, .int y]) (n := 4) (Nat.le_of_ble_eq_true rfl)
  rw [lg_entry_eq]
  generalize (lg_sl ([.ref o, .int how, .int x, .int y]) ++ List.replicate (4 - (lg_sl ([.ref o, .int how, .int x, .int y])).length) Slot.unset).toArray = ls at hl ⊢
  have hl : lv_has ls 4 [(0, .ref o), (1, .int how), (2, .int x), (3, .int y)] := hl
  have k_0 : (0 : Int32).toInt = 0 := by decide
  have k_1 : (1 : Int32).toInt = 1 := by decide
  refine lv_iload_n hx hb dX0_placeTurned_0 rfl (lv_at hl 1 rfl) ?_
  by_cases s1_0 : how.toInt = 0
  · skip
    refine lv_lookup (off := 27) (tgt := 28) hx hb dX0_placeTurned_1 (by decide) (by rw [s1_0]; decide) (by decide) ?_
    refine lv_iload_n hx hb dX0_placeTurned_28 rfl (lv_at hl 2 rfl) ?_
    refine lv_aload_n hx hb dX0_placeTurned_29 rfl (lv_at hl 0 rfl) ?_
    obtain ⟨_, hM_o, hb_o, l_o, f_o, r_o, rfl, hG_l_o, hG_f_o, hG_r_o⟩ := hT _ _ hG_o
    refine t_get (v := .int (nI h)) (C := RX0) (T := TX0) (N := 8) hx hb hts (by decide +kernel) hown hK hP hM_o rfl 1 (by decide) (hts (.fieldLink RX0 17 "ShadowBench$Board" "high" "I") (by decide +kernel)) (fun _ h9 => h9) rfl dX0_placeTurned_30 ?_
    have i_h_o : (nI h).toInt = _ := nI_toInt (by omega)
    refine lv_imul hx hb dX0_placeTurned_33 ?_
    refine lv_topi (fun v33 e33 => ?_)
    refine lv_aload_n hx hb dX0_placeTurned_34 rfl (lv_at hl 0 rfl) ?_
    refine t_get (v := .int (nI h)) (C := RX0) (T := TX0) (N := 8) hx hb hts (by decide +kernel) hown hK hP hM_o rfl 1 (by decide) (hts (.fieldLink RX0 17 "ShadowBench$Board" "high" "I") (by decide +kernel)) (fun _ h9 => h9) rfl dX0_placeTurned_35 ?_
    refine lv_iadd hx hb dX0_placeTurned_38 ?_
    refine lv_topi (fun v38 e38 => ?_)
    refine lv_iconst (v := 1) hx hb dX0_placeTurned_39 (by decide) ?_
    refine lv_isub hx hb dX0_placeTurned_40 ?_
    refine lv_topi (fun v40 e40 => ?_)
    refine lv_iload_n hx hb dX0_placeTurned_41 rfl (lv_at hl 3 rfl) ?_
    refine lv_isub hx hb dX0_placeTurned_42 ?_
    refine lv_topi (fun v42 e42 => ?_)
    exact W.iret (v := v42) hx hb hr (fun t ht hW => ⟨⟨_, (G, ws), rfl, ⟨rfl, trivial⟩, by show va_P D vwCl ws t.heap; rw [ht]; exact hP, hD, hT⟩, hS.F ht⟩) hS.2.2 dX0_placeTurned_43
  by_cases s1_1 : how.toInt = 1
  · skip
    refine lv_lookup (off := 43) (tgt := 44) hx hb dX0_placeTurned_1 (by decide) (by rw [s1_1]; decide) (by decide) ?_
    refine lv_aload_n hx hb dX0_placeTurned_44 rfl (lv_at hl 0 rfl) ?_
    obtain ⟨_, hM_o, hb_o, l_o, f_o, r_o, rfl, hG_l_o, hG_f_o, hG_r_o⟩ := hT _ _ hG_o
    refine t_get (v := .int (nI h)) (C := RX0) (T := TX0) (N := 8) hx hb hts (by decide +kernel) hown hK hP hM_o rfl 1 (by decide) (hts (.fieldLink RX0 17 "ShadowBench$Board" "high" "I") (by decide +kernel)) (fun _ h9 => h9) rfl dX0_placeTurned_45 ?_
    have i_h_o : (nI h).toInt = _ := nI_toInt (by omega)
    refine lv_iconst (v := 1) hx hb dX0_placeTurned_48 (by decide) ?_
    refine lv_isub hx hb dX0_placeTurned_49 ?_
    refine lv_topi (fun v49 e49 => ?_)
    refine lv_iload_n hx hb dX0_placeTurned_50 rfl (lv_at hl 3 rfl) ?_
    refine lv_isub hx hb dX0_placeTurned_51 ?_
    refine lv_topi (fun v51 e51 => ?_)
    refine lv_aload_n hx hb dX0_placeTurned_52 rfl (lv_at hl 0 rfl) ?_
    refine t_get (v := .int (nI w)) (C := RX0) (T := TX0) (N := 8) hx hb hts (by decide +kernel) hown hK hP hM_o rfl 0 (by decide) (hts (.fieldLink RX0 13 "ShadowBench$Board" "wide" "I") (by decide +kernel)) (fun _ h9 => h9) rfl dX0_placeTurned_53 ?_
    have i_w_o : (nI w).toInt = _ := nI_toInt (by omega)
    refine lv_imul hx hb dX0_placeTurned_56 ?_
    refine lv_topi (fun v56 e56 => ?_)
    refine lv_iload_n hx hb dX0_placeTurned_57 rfl (lv_at hl 2 rfl) ?_
    refine lv_iadd hx hb dX0_placeTurned_58 ?_
    refine lv_topi (fun v58 e58 => ?_)
    exact W.iret (v := v58) hx hb hr (fun t ht hW => ⟨⟨_, (G, ws), rfl, ⟨rfl, trivial⟩, by show va_P D vwCl ws t.heap; rw [ht]; exact hP, hD, hT⟩, hS.F ht⟩) hS.2.2 dX0_placeTurned_59
  refine lv_lookup (off := 59) (tgt := 60) hx hb dX0_placeTurned_1 (by decide) (by simp [Op.lookupswitch.offset_cons, Op.lookupswitch.offset_nil, Ne.symm s1_0, s1_0, Ne.symm s1_1, s1_1]) (by decide) ?_
  refine lv_iload_n hx hb dX0_placeTurned_60 rfl (lv_at hl 2 rfl) ?_
  refine lv_aload_n hx hb dX0_placeTurned_61 rfl (lv_at hl 0 rfl) ?_
  obtain ⟨_, hM_o, hb_o, l_o, f_o, r_o, rfl, hG_l_o, hG_f_o, hG_r_o⟩ := hT _ _ hG_o
  refine t_get (v := .int (nI h)) (C := RX0) (T := TX0) (N := 8) hx hb hts (by decide +kernel) hown hK hP hM_o rfl 1 (by decide) (hts (.fieldLink RX0 17 "ShadowBench$Board" "high" "I") (by decide +kernel)) (fun _ h9 => h9) rfl dX0_placeTurned_62 ?_
  have i_h_o : (nI h).toInt = _ := nI_toInt (by omega)
  refine lv_imul hx hb dX0_placeTurned_65 ?_
  refine lv_topi (fun v65 e65 => ?_)
  refine lv_iload_n hx hb dX0_placeTurned_66 rfl (lv_at hl 3 rfl) ?_
  refine lv_iadd hx hb dX0_placeTurned_67 ?_
  refine lv_topi (fun v67 e67 => ?_)
  exact W.iret (v := v67) hx hb hr (fun t ht hW => ⟨⟨_, (G, ws), rfl, ⟨rfl, trivial⟩, by show va_P D vwCl ws t.heap; rw [ht]; exact hP, hD, hT⟩, hS.F ht⟩) hS.2.2 dX0_placeTurned_68
set_option maxHeartbeats 4000000 in
set_option maxRecDepth 100000 in
theorem c_X0_turnedPicture (l : Launch) (D : va_G) (cy : Nat → ClassId) (A : Nat → Prop) (G : cG) (ws : va_W) (o : Nat) (p0 : Int64) (how : Int32) {w h : Nat} (hD : va_D A ws) (hT : cT cy G ws) (hG_o : G o = some (2, w, h))  : Cl l D cy A yX0_turnedPicture wsX0_turnedPicture ({ frames := 1, cells := 0, slots := 0, locals := 23 }) 0 0 ws [.ref o, .long p0, .int how] (fun r0 u => u = (G, ws) ∧ (True)) := by
  refine Met.ofW (cc := cX0_turnedPicture) (maxL := 8) (ret := (some .long)) (by decide) rfl ?_
  intro p e s m args below meth c s₁ B hml hv
  obtain ⟨rfl, hP, hK, hA, hV⟩ := hv
  have hx := B.exec
  have hb := B.bytes
  have hr := B.returns
  have hts := atoms_spec (ws := wsX0_turnedPicture) B.pre
  have hown : s.vm.findClass RX0 = some m.cls := findClass_of_methodNamed B.named
  have hlocks := B.notSynchronized
  have hS : va_S A s.heap s.heap [] := va_S.rf
  have hl := lv_entry ([.ref o, .long p0, .int how]) (n := 8) (Nat.le_of_ble_eq_true rfl)
  rw [lg_entry_eq]
  generalize (lg_sl ([.ref o, .long p0, .int how]) ++ List.replicate (8 - (lg_sl ([.ref o, .long p0, .int how])).length) Slot.unset).toArray = ls at hl ⊢
  have hl : lv_has ls 8 [(0, .ref o), (1, .long p0), (3, .int how)] := hl
  have k_0 : (0 : Int32).toInt = 0 := by decide
  have k_3 : (3 : Int32).toInt = 3 := by decide
  have k_m1L : (-1 : Int64).toInt = -1 := by decide
  have k_0L : (0 : Int64).toInt = 0 := by decide
  have k_1L : (1 : Int64).toInt = 1 := by decide
  refine lv_iload_n hx hb dX0_turnedPicture_0 rfl (lv_at hl 2 rfl) ?_
  refine lv_iconst (v := 3) hx hb dX0_turnedPicture_1 (by decide) ?_
  refine lv_icmp_ne (tgt := 20) hx hb dX0_turnedPicture_2 (by decide) (fun c2 => ?_) (fun c2 => ?_)
  · skip
    have d2 := c2
    rw [fa_eq] at d2
    refine lv_lconst (v := 0) hx hb dX0_turnedPicture_20 (by decide) ?_
    refine lv_lstore (lv' := [(4, .long (0 : Int64)), (0, .ref o), (1, .long p0), (3, .int how)]) hx hb dX0_turnedPicture_21 hl (by decide) rfl (fun ls hl => ?_)
    refine lv_iconst (v := 0) hx hb dX0_turnedPicture_23 (by decide) ?_
    refine lv_istore (lv' := [(6, .int (0 : Int32)), (4, .long (0 : Int64)), (0, .ref o), (1, .long p0), (3, .int how)]) hx hb dX0_turnedPicture_24 hl (by decide) rfl (fun ls hl => ?_)
    have loop_26 : ∀ (n : Nat) (k : Nat) (x4 : Int64), (k ≤ 6) → 6 - k < n → ∀ (H : Heap) (locs : List Loc), va_P D vwCl ws H → va_S A s.heap H locs → ∀ (ls : Array Slot), lv_has ls 8 [(6, .int (nI k)), (4, .long x4), (0, .ref o), (1, .long p0), (3, .int how)] → W p l e (headSpec wsX0_turnedPicture ({ frames := 1, cells := 0, slots := 0, locals := 23 })).room s m #[Value.ref o, Value.long p0, Value.int how] below meth c H locs 0 0 (MQ below (va_Ql (fun r0 u => u = (G, ws) ∧ (True)) (cB D cy A) A) #[Value.ref o, Value.long p0, Value.int how] s 0 0 A) (F0 m 26 ls []) := by
      intro n
      induction n with
      | zero => intro k x4 j26_0 hn; exact absurd hn (Nat.not_lt_zero _)
      | succ n ih_26 =>
        intro k x4 j26_0 hn_26 H locs hP hS  ls hl
        have ik_k : (nI k).toInt = (k : Int) := nI_toInt (by omega)
        refine lv_iload hx hb dX0_turnedPicture_26 (lv_at hl 0 rfl) ?_
        refine lv_aload_n hx hb dX0_turnedPicture_28 rfl (lv_at hl 2 rfl) ?_
        obtain ⟨_, hM_o, hb_o, l_o, f_o, r_o, rfl, hG_l_o, hG_f_o, hG_r_o⟩ := hT _ _ hG_o
        refine t_get (v := .int (nI h)) (C := RX0) (T := TX0) (N := 8) hx hb hts (by decide +kernel) hown hK hP hM_o rfl 1 (by decide) (hts (.fieldLink RX0 17 "ShadowBench$Board" "high" "I") (by decide +kernel)) (fun _ h9 => h9) rfl dX0_turnedPicture_29 ?_
        have i_h_o : (nI h).toInt = _ := nI_toInt (by omega)
        refine lv_icmp_ge (tgt := 90) hx hb dX0_turnedPicture_32 (by decide) (fun c32 => ?_) (fun c32 => ?_)
        · skip
          have d32 := c32
          rw [fa_le] at d32
          refine lv_lload hx hb dX0_turnedPicture_90 (lv_at hl 1 rfl) ?_
          exact W.lret (v := x4) hx hb hr (fun t ht hW => ⟨⟨_, (G, ws), rfl, ⟨rfl, trivial⟩, by show va_P D vwCl ws t.heap; rw [ht]; exact hP, hD, hT⟩, hS.F ht⟩) hS.2.2 dX0_turnedPicture_92
        · skip
          have d32 := c32
          rw [fa_le] at d32
          refine lv_iconst (v := 0) hx hb dX0_turnedPicture_35 (by decide) ?_
          refine lv_istore (lv' := [(7, .int (0 : Int32)), (6, .int (nI k)), (4, .long x4), (0, .ref o), (1, .long p0), (3, .int how)]) hx hb dX0_turnedPicture_36 hl (by decide) rfl (fun ls hl => ?_)
          have loop_38 : ∀ (n : Nat) (i : Nat) (z4 : Int64), (i ≤ 6) → 6 - i < n → ∀ (H : Heap) (locs : List Loc), va_P D vwCl ws H → va_S A s.heap H locs → ∀ (ls : Array Slot), lv_has ls 8 [(7, .int (nI i)), (6, .int (nI k)), (4, .long z4), (0, .ref o), (1, .long p0), (3, .int how)] → W p l e (headSpec wsX0_turnedPicture ({ frames := 1, cells := 0, slots := 0, locals := 23 })).room s m #[Value.ref o, Value.long p0, Value.int how] below meth c H locs 0 0 (MQ below (va_Ql (fun r0 u => u = (G, ws) ∧ (True)) (cB D cy A) A) #[Value.ref o, Value.long p0, Value.int how] s 0 0 A) (F0 m 38 ls []) := by
            intro n
            induction n with
            | zero => intro i z4 j38_0 hn; exact absurd hn (Nat.not_lt_zero _)
            | succ n ih_38 =>
              intro i z4 j38_0 hn_38 H locs hP hS  ls hl
              have ik_i : (nI i).toInt = (i : Int) := nI_toInt (by omega)
              refine lv_iload hx hb dX0_turnedPicture_38 (lv_at hl 0 rfl) ?_
              refine lv_aload_n hx hb dX0_turnedPicture_40 rfl (lv_at hl 3 rfl) ?_
              refine t_get (v := .int (nI w)) (C := RX0) (T := TX0) (N := 8) hx hb hts (by decide +kernel) hown hK hP hM_o rfl 0 (by decide) (hts (.fieldLink RX0 13 "ShadowBench$Board" "wide" "I") (by decide +kernel)) (fun _ h9 => h9) rfl dX0_turnedPicture_41 ?_
              have i_w_o : (nI w).toInt = _ := nI_toInt (by omega)
              refine lv_icmp_ge (tgt := 84) hx hb dX0_turnedPicture_44 (by decide) (fun c44 => ?_) (fun c44 => ?_)
              · skip
                have d44 := c44
                rw [fa_le] at d44
                refine lv_iinc (v := (nI (k + 1))) (lv' := [(6, .int (nI (k + 1))), (7, .int (nI i)), (4, .long z4), (0, .ref o), (1, .long p0), (3, .int how)]) hx hb dX0_turnedPicture_84 hl (k := 1) rfl (nI_1 _) (by decide) rfl (fun ls hl => ?_)
                refine lv_goto (tgt := 26) hx hb dX0_turnedPicture_87 (by decide) ?_
                exact ih_26 (k + 1) z4 (by omega) (by omega) _ _ hP hS  ls (lv_sub hl [0, 2, 3, 4, 5] rfl)
              · skip
                have d44 := c44
                rw [fa_le] at d44
                refine lv_lload_n hx hb dX0_turnedPicture_47 rfl (lv_at hl 4 rfl) ?_
                refine lv_aload_n hx hb dX0_turnedPicture_48 rfl (lv_at hl 3 rfl) ?_
                refine lv_iload hx hb dX0_turnedPicture_49 (lv_at hl 0 rfl) ?_
                refine lv_iload hx hb dX0_turnedPicture_51 (lv_at hl 1 rfl) ?_
                refine t_calll (va_runV (g := F0 m 53 ls ([.int (nI k), .int (nI i), .ref o, .long p0])) (As := [.int (nI i), .int (nI k)]) (rest := [.long p0]) ⟨hx, hb, hml, hown, hts⟩ (c_X0_bit l D cy A G ws o i k hD hT hM_o (by omega)) (cwV 2 hts gX0_turnedPicture_X0_bit rfl rfl rfl (by decide +kernel) ⟨Nat.le_of_ble_eq_true rfl, Nat.le_of_ble_eq_true rfl⟩) (c_preV hM_o rfl hP hK hA hS hV) rfl rfl hl.1 rfl (lv_room (Nat.le_of_ble_eq_true rfl)) dX0_turnedPicture_53 ⟨Nat.le_of_ble_eq_true rfl, Nat.le_of_ble_eq_true rfl⟩) hS (fun r53 u H locs q53 hP9 hD9 hT9 hS => ?_)
                obtain ⟨rfl, q53⟩ := q53
                have hP : va_P D vwCl ws H := hP9
                refine lv_land hx hb dX0_turnedPicture_56 ?_
                refine lv_topl (fun v56 e56 => ?_)
                refine lv_lconst (v := 0) hx hb dX0_turnedPicture_57 (by decide) ?_
                refine W.lcmp hx hb dX0_turnedPicture_58 ?_
                refine lv_if_eq (tgt := 78) hx hb dX0_turnedPicture_59 (by decide) (fun c59 => ?_) (fun c59 => ?_)
                · skip
                  have d59 := c59
                  rw [lg_cmp_eq, fa_eq64] at d59
                  refine lv_iinc (v := (nI (i + 1))) (lv' := [(7, .int (nI (i + 1))), (6, .int (nI k)), (4, .long z4), (0, .ref o), (1, .long p0), (3, .int how)]) hx hb dX0_turnedPicture_78 hl (k := 0) rfl (nI_1 _) (by decide) rfl (fun ls hl => ?_)
                  refine lv_goto (tgt := 38) hx hb dX0_turnedPicture_81 (by decide) ?_
                  exact ih_38 (i + 1) z4 (by omega) (by omega) _ _ hP hS  ls (lv_sub hl [0, 1, 2, 3, 4, 5] rfl)
                · skip
                  have d59 := c59
                  rw [lg_cmp_eq, fa_eq64] at d59
                  refine lv_lload hx hb dX0_turnedPicture_62 (lv_at hl 2 rfl) ?_
                  refine lv_lconst (v := 1) hx hb dX0_turnedPicture_64 (by decide) ?_
                  refine lv_aload_n hx hb dX0_turnedPicture_65 rfl (lv_at hl 3 rfl) ?_
                  refine lv_iload_n hx hb dX0_turnedPicture_66 rfl (lv_at hl 5 rfl) ?_
                  refine lv_iload hx hb dX0_turnedPicture_67 (lv_at hl 0 rfl) ?_
                  refine lv_iload hx hb dX0_turnedPicture_69 (lv_at hl 1 rfl) ?_
                  refine t_calli (va_runV (g := F0 m 71 ls ([.int (nI k), .int (nI i), .int how, .ref o, .long (1 : Int64), .long z4])) (As := [.int how, .int (nI i), .int (nI k)]) (rest := [.long (1 : Int64), .long z4]) ⟨hx, hb, hml, hown, hts⟩ (c_X0_placeTurned l D cy A G ws o how (nI i) (nI k) hD hT hG_o ) (cwV 3 hts gX0_turnedPicture_X0_placeTurned rfl rfl rfl (by decide +kernel) ⟨Nat.le_of_ble_eq_true rfl, Nat.le_of_ble_eq_true rfl⟩) (c_preV hM_o rfl hP hK hA hS hV) rfl rfl hl.1 rfl (lv_room (Nat.le_of_ble_eq_true rfl)) dX0_turnedPicture_71 ⟨Nat.le_of_ble_eq_true rfl, Nat.le_of_ble_eq_true rfl⟩) hS (fun r71 u H locs q71 hP9 hD9 hT9 hS => ?_)
                  obtain ⟨rfl, q71⟩ := q71
                  have hP : va_P D vwCl ws H := hP9
                  refine lv_lshl (v := (1 : Int64) <<< (r71.toInt64 &&& 63)) hx hb dX0_turnedPicture_74 rfl ?_
                  refine lv_lor hx hb dX0_turnedPicture_75 ?_
                  refine lv_topl (fun v75 e75 => ?_)
                  refine lv_lstore (lv' := [(4, .long v75), (7, .int (nI i)), (6, .int (nI k)), (0, .ref o), (1, .long p0), (3, .int how)]) hx hb dX0_turnedPicture_76 hl (by decide) rfl (fun ls hl => ?_)
                  refine lv_iinc (v := (nI (i + 1))) (lv' := [(7, .int (nI (i + 1))), (4, .long v75), (6, .int (nI k)), (0, .ref o), (1, .long p0), (3, .int how)]) hx hb dX0_turnedPicture_78 hl (k := 1) rfl (nI_1 _) (by decide) rfl (fun ls hl => ?_)
                  refine lv_goto (tgt := 38) hx hb dX0_turnedPicture_81 (by decide) ?_
                  exact ih_38 (i + 1) v75 (by omega) (by omega) _ _ hP hS  ls (lv_sub hl [0, 2, 1, 3, 4, 5] rfl)
          exact loop_38 (6 + 1) 0 x4 (by omega) (by omega) _ _ hP hS  ls (lv_sub hl [0, 1, 2, 3, 4, 5] rfl)
    exact loop_26 (6 + 1) 0 (0 : Int64) (by omega) (by omega) _ _ hP hS  ls (lv_sub hl [0, 1, 2, 3, 4] rfl)
  · skip
    have d2 := c2
    rw [fa_eq] at d2
    refine lv_lload_n hx hb dX0_turnedPicture_5 rfl (lv_at hl 1 rfl) ?_
    refine lv_ldc2 hx hb hown (hts (.constantLong RX0 73 (-1)) (by decide +kernel)) dX0_turnedPicture_6 ?_
    refine lv_lxor hx hb dX0_turnedPicture_9 ?_
    refine lv_topl (fun v9 e9 => ?_)
    refine lv_lconst (v := 1) hx hb dX0_turnedPicture_10 (by decide) ?_
    refine lv_aload_n hx hb dX0_turnedPicture_11 rfl (lv_at hl 0 rfl) ?_
    obtain ⟨_, hM_o, hb_o, l_o, f_o, r_o, rfl, hG_l_o, hG_f_o, hG_r_o⟩ := hT _ _ hG_o
    refine t_get (v := .int (nI (w * h))) (C := RX0) (T := TX0) (N := 8) hx hb hts (by decide +kernel) hown hK hP hM_o rfl 2 (by decide) (hts (.fieldLink RX0 20 "ShadowBench$Board" "squares" "I") (by decide +kernel)) (fun _ h9 => h9) rfl dX0_turnedPicture_12 ?_
    have m_wh_o := cb_mul hb_o
    have i_wh_o : (nI (w * h)).toInt = _ := nI_toInt (by omega)
    refine lv_lshl (v := (1 : Int64) <<< (((nI (w * h))).toInt64 &&& 63)) hx hb dX0_turnedPicture_15 rfl ?_
    refine lv_lconst (v := 1) hx hb dX0_turnedPicture_16 (by decide) ?_
    refine lv_lsub hx hb dX0_turnedPicture_17 ?_
    refine lv_topl (fun v17 e17 => ?_)
    refine lv_land hx hb dX0_turnedPicture_18 ?_
    refine lv_topl (fun v18 e18 => ?_)
    exact W.lret (v := v18) hx hb hr (fun t ht hW => ⟨⟨_, (G, ws), rfl, ⟨rfl, trivial⟩, by show va_P D vwCl ws t.heap; rw [ht]; exact hP, hD, hT⟩, hS.F ht⟩) hS.2.2 dX0_turnedPicture_19
