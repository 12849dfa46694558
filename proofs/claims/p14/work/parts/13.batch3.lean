set_option maxHeartbeats 4000000 in
set_option maxRecDepth 100000 in
theorem c_X10_areAlike (l : Launch) (w : Int32) (h : Int32) (p0 : Int64) (q0 : Int64) (way : Int32) (hw : 1 ≤ w.toInt ∧ w.toInt ≤ 6) (hh : 1 ≤ h.toInt ∧ h.toInt ≤ 6) : Pu l yX10_areAlike wsX10_areAlike ({ frames := 2, cells := 0, slots := 0, locals := 50 }) [.int w, .int h, .long p0, .long q0, .int way] (fun r => r = 0 ∨ r = 1) := by
  refine Met.ofW (cc := cX10_areAlike) (maxL := 9) (ret := (some .boolean)) (by decide) rfl ?_
  intro p e s m args below meth c s₁ B hml hv
  obtain ⟨rfl, -⟩ := hv
  have hx := B.exec
  have hb := B.bytes
  have hr := B.returns
  have hts := atoms_spec (ws := wsX10_areAlike) B.pre
  have hown : s.vm.findClass RX10 = some m.cls := findClass_of_methodNamed B.named
  have hlocks := B.notSynchronized
  have hS : va_S (fun _ => False) s.heap s.heap [] := va_S.rf
  have hl := lv_entry ([.int w, .int h, .long p0, .long q0, .int way]) (n := 9) (Nat.le_of_ble_eq_true rfl)
  rw [lg_entry_eq]
  generalize (lg_sl ([.int w, .int h, .long p0, .long q0, .int way]) ++ List.replicate (9 - (lg_sl ([.int w, .int h, .long p0, .long q0, .int way])).length) Slot.unset).toArray = ls at hl ⊢
  have hl : lv_has ls 9 [(0, .int w), (1, .int h), (2, .long p0), (4, .long q0), (6, .int way)] := hl
  have hS0 := hS
  have k_0 : (0 : Int32).toInt = 0 := by decide
  have k_1 : (1 : Int32).toInt = 1 := by decide
  have hlb := lines_lt hw hh way
  refine lv_iconst (v := 1) hx hb dX10_areAlike_0 (by decide) ?_
  refine lv_istore (lv' := [(7, .int (1 : Int32)), (0, .int w), (1, .int h), (2, .long p0), (4, .long q0), (6, .int way)]) hx hb dX10_areAlike_1 hl (by decide) rfl (fun ls hl => ?_)
  refine lv_iconst (v := 0) hx hb dX10_areAlike_3 (by decide) ?_
  refine lv_istore (lv' := [(8, .int (0 : Int32)), (7, .int (1 : Int32)), (0, .int w), (1, .int h), (2, .long p0), (4, .long q0), (6, .int way)]) hx hb dX10_areAlike_4 hl (by decide) rfl (fun ls hl => ?_)
  have loop_6 : ∀ (n : Nat) (k : Nat) (x7 : Int32), ((k : Int) ≤ (r_lines w h way).toInt) → (x7 = 0 ∨ x7 = 1) → ((r_lines w h way).toInt - k).toNat < n → ∀ (H : Heap) (locs : List Loc), va_S (fun _ => False) s.heap H locs → ∀ (ls : Array Slot), lv_has ls 9 [(8, .int (nI k)), (7, .int x7), (0, .int w), (1, .int h), (2, .long p0), (4, .long q0), (6, .int way)] → W p l e (headSpec wsX10_areAlike ({ frames := 2, cells := 0, slots := 0, locals := 50 })).room s m #[Value.int w, Value.int h, Value.long p0, Value.long q0, Value.int way] below meth c H locs 0 0 (MQ below (va_Qi (fun r (_ : Unit) => r = 0 ∨ r = 1) (fun _ _ => True) (fun _ => False)) #[Value.int w, Value.int h, Value.long p0, Value.long q0, Value.int way] s 0 0 (fun _ => False)) (F0 m 6 ls []) := by
    intro n
    induction n with
    | zero => intro k x7 j6_0 j6_1 hn; exact absurd hn (Nat.not_lt_zero _)
    | succ n ih_6 =>
      intro k x7 j6_0 j6_1 hn_6 H locs hS ls hl
      have ik : (nI k).toInt = (k : Int) := nI_toInt (by omega)
      refine lv_iload hx hb dX10_areAlike_6 (lv_at hl 0 rfl) ?_
      refine lv_iload_n hx hb dX10_areAlike_8 rfl (lv_at hl 2 rfl) ?_
      refine lv_iload_n hx hb dX10_areAlike_9 rfl (lv_at hl 3 rfl) ?_
      refine lv_iload hx hb dX10_areAlike_10 (lv_at hl 6 rfl) ?_
      refine pu_call (As := [.int w, .int h, .int way]) (rest := [.int (nI k)]) ⟨hx, hb, hml, hown, hts⟩ (c_X10_linesOf l w h way ) (va_cwS 3 hts gX10_areAlike_X10_linesOf rfl rfl rfl (by decide +kernel) ⟨Nat.le_of_ble_eq_true rfl, Nat.le_of_ble_eq_true rfl⟩) rfl hl.1 rfl (Nat.le_of_ble_eq_true rfl) dX10_areAlike_12 ⟨Nat.le_of_ble_eq_true rfl, Nat.le_of_ble_eq_true rfl⟩ hS (fun r12 H locs q12 hS => ?_)
      have i12 : r12.toInt = (r_lines w h way).toInt := congrArg Int32.toInt q12
      refine lv_icmp_ge (tgt := 60) hx hb dX10_areAlike_15 (by decide) (fun c15 => ?_) (fun c15 => ?_)
      · skip
        have d15 := c15
        rw [fa_le] at d15
        refine lv_iload hx hb dX10_areAlike_60 (lv_at hl 1 rfl) ?_
        exact W.zret (v := x7) hx hb hr (by rcases j6_1 with z | z <;> rw [z] <;> rfl) (fun t ht hW => ⟨⟨_, (), rfl, j6_1, trivial⟩, hS.F ht⟩) hS.2.2 dX10_areAlike_62
      · skip
        have d15 := c15
        rw [fa_le] at d15
        refine lv_iload hx hb dX10_areAlike_18 (lv_at hl 1 rfl) ?_
        refine lv_if_eq (tgt := 51) hx hb dX10_areAlike_20 (by decide) (fun c20 => ?_) (fun c20 => ?_)
        · skip
          have d20 := c20
          rw [fa_eq] at d20
          refine lv_iconst (v := 0) hx hb dX10_areAlike_51 (by decide) ?_
          refine lv_istore (lv' := [(7, .int (0 : Int32)), (8, .int (nI k)), (0, .int w), (1, .int h), (2, .long p0), (4, .long q0), (6, .int way)]) hx hb dX10_areAlike_52 hl (by decide) rfl (fun ls hl => ?_)
          refine lv_iinc (v := (nI (k + 1))) (lv' := [(8, .int (nI (k + 1))), (7, .int (0 : Int32)), (0, .int w), (1, .int h), (2, .long p0), (4, .long q0), (6, .int way)]) hx hb dX10_areAlike_54 hl (k := 1) rfl (nI_1 _) (by decide) rfl (fun ls hl => ?_)
          refine lv_goto (tgt := 6) hx hb dX10_areAlike_57 (by decide) ?_
          exact ih_6 (k + 1) (0 : Int32) (by omega) (by decide) (by omega) _ _ hS ls (lv_sub hl [0, 1, 2, 3, 4, 5, 6] rfl)
        · skip
          have d20 := c20
          rw [fa_eq] at d20
          refine lv_iload_n hx hb dX10_areAlike_23 rfl (lv_at hl 2 rfl) ?_
          refine lv_iload_n hx hb dX10_areAlike_24 rfl (lv_at hl 3 rfl) ?_
          refine lv_lload_n hx hb dX10_areAlike_25 rfl (lv_at hl 4 rfl) ?_
          refine lv_iload hx hb dX10_areAlike_26 (lv_at hl 6 rfl) ?_
          refine lv_iload hx hb dX10_areAlike_28 (lv_at hl 0 rfl) ?_
          refine pu_call (As := [.int w, .int h, .long p0, .int way, .int (nI k)]) (rest := []) ⟨hx, hb, hml, hown, hts⟩ (c_X10_shadowOf l w h p0 way (nI k) hw hh) (va_cwS 5 hts gX10_areAlike_X10_shadowOf rfl rfl rfl (by decide +kernel) ⟨Nat.le_of_ble_eq_true rfl, Nat.le_of_ble_eq_true rfl⟩) rfl hl.1 rfl (Nat.le_of_ble_eq_true rfl) dX10_areAlike_30 ⟨Nat.le_of_ble_eq_true rfl, Nat.le_of_ble_eq_true rfl⟩ hS (fun r30 H locs q30 hS => ?_)
          refine lv_iload_n hx hb dX10_areAlike_33 rfl (lv_at hl 2 rfl) ?_
          refine lv_iload_n hx hb dX10_areAlike_34 rfl (lv_at hl 3 rfl) ?_
          refine lv_lload hx hb dX10_areAlike_35 (lv_at hl 5 rfl) ?_
          refine lv_iload hx hb dX10_areAlike_37 (lv_at hl 6 rfl) ?_
          refine lv_iload hx hb dX10_areAlike_39 (lv_at hl 0 rfl) ?_
          refine pu_call (As := [.int w, .int h, .long q0, .int way, .int (nI k)]) (rest := [.int r30]) ⟨hx, hb, hml, hown, hts⟩ (c_X10_shadowOf l w h q0 way (nI k) hw hh) (va_cwS 5 hts gX10_areAlike_X10_shadowOf rfl rfl rfl (by decide +kernel) ⟨Nat.le_of_ble_eq_true rfl, Nat.le_of_ble_eq_true rfl⟩) rfl hl.1 rfl (Nat.le_of_ble_eq_true rfl) dX10_areAlike_41 ⟨Nat.le_of_ble_eq_true rfl, Nat.le_of_ble_eq_true rfl⟩ hS (fun r41 H locs q41 hS => ?_)
          refine lv_icmp_ne (tgt := 51) hx hb dX10_areAlike_44 (by decide) (fun c44 => ?_) (fun c44 => ?_)
          · skip
            have d44 := c44
            rw [fa_eq] at d44
            refine lv_iconst (v := 0) hx hb dX10_areAlike_51 (by decide) ?_
            refine lv_istore (lv' := [(7, .int (0 : Int32)), (8, .int (nI k)), (0, .int w), (1, .int h), (2, .long p0), (4, .long q0), (6, .int way)]) hx hb dX10_areAlike_52 hl (by decide) rfl (fun ls hl => ?_)
            refine lv_iinc (v := (nI (k + 1))) (lv' := [(8, .int (nI (k + 1))), (7, .int (0 : Int32)), (0, .int w), (1, .int h), (2, .long p0), (4, .long q0), (6, .int way)]) hx hb dX10_areAlike_54 hl (k := 1) rfl (nI_1 _) (by decide) rfl (fun ls hl => ?_)
            refine lv_goto (tgt := 6) hx hb dX10_areAlike_57 (by decide) ?_
            exact ih_6 (k + 1) (0 : Int32) (by omega) (by decide) (by omega) _ _ hS ls (lv_sub hl [0, 1, 2, 3, 4, 5, 6] rfl)
          · skip
            have d44 := c44
            rw [fa_eq] at d44
            refine lv_iconst (v := 1) hx hb dX10_areAlike_47 (by decide) ?_
            refine lv_goto (tgt := 52) hx hb dX10_areAlike_48 (by decide) ?_
            refine lv_istore (lv' := [(7, .int (1 : Int32)), (8, .int (nI k)), (0, .int w), (1, .int h), (2, .long p0), (4, .long q0), (6, .int way)]) hx hb dX10_areAlike_52 hl (by decide) rfl (fun ls hl => ?_)
            refine lv_iinc (v := (nI (k + 1))) (lv' := [(8, .int (nI (k + 1))), (7, .int (1 : Int32)), (0, .int w), (1, .int h), (2, .long p0), (4, .long q0), (6, .int way)]) hx hb dX10_areAlike_54 hl (k := 1) rfl (nI_1 _) (by decide) rfl (fun ls hl => ?_)
            refine lv_goto (tgt := 6) hx hb dX10_areAlike_57 (by decide) ?_
            exact ih_6 (k + 1) (1 : Int32) (by omega) (by decide) (by omega) _ _ hS ls (lv_sub hl [0, 1, 2, 3, 4, 5, 6] rfl)
  exact loop_6 ((r_lines w h way).toInt.toNat + 1) 0 (1 : Int32) (by omega) (by decide) (by omega) _ _ hS ls (lv_sub hl [0, 1, 2, 3, 4, 5, 6] rfl)
set_option maxHeartbeats 4000000 in
set_option maxRecDepth 100000 in
theorem c_X10_isEven (l : Launch) (w : Int32) (h : Int32) (p0 : Int64) (col : Int32) (hw : 1 ≤ w.toInt ∧ w.toInt ≤ 6) (hh : 1 ≤ h.toInt ∧ h.toInt ≤ 6) : Pu l yX10_isEven wsX10_isEven ({ frames := 1, cells := 0, slots := 0, locals := 22 }) [.int w, .int h, .long p0, .int col] (fun r => r = 0 ∨ r = 1) := by
  refine Met.ofW (cc := cX10_isEven) (maxL := 13) (ret := (some .boolean)) (by decide) rfl ?_
  intro p e s m args below meth c s₁ B hml hv
  obtain ⟨rfl, -⟩ := hv
  have hx := B.exec
  have hb := B.bytes
  have hr := B.returns
  have hts := atoms_spec (ws := wsX10_isEven) B.pre
  have hown : s.vm.findClass RX10 = some m.cls := findClass_of_methodNamed B.named
  have hlocks := B.notSynchronized
  have hS : va_S (fun _ => False) s.heap s.heap [] := va_S.rf
  have hl := lv_entry ([.int w, .int h, .long p0, .int col]) (n := 13) (Nat.le_of_ble_eq_true rfl)
  rw [lg_entry_eq]
  generalize (lg_sl ([.int w, .int h, .long p0, .int col]) ++ List.replicate (13 - (lg_sl ([.int w, .int h, .long p0, .int col])).length) Slot.unset).toArray = ls at hl ⊢
  have hl : lv_has ls 13 [(0, .int w), (1, .int h), (2, .long p0), (4, .int col)] := hl
  have hS0 := hS
  have k_0 : (0 : Int32).toInt = 0 := by decide
  have k_1 : (1 : Int32).toInt = 1 := by decide
  have k_2 : (2 : Int32).toInt = 2 := by decide
  refine lv_iload hx hb dX10_isEven_0 (lv_at hl 3 rfl) ?_
  refine lv_if_eq (tgt := 9) hx hb dX10_isEven_2 (by decide) (fun c2 => ?_) (fun c2 => ?_)
  · skip
    have d2 := c2
    rw [fa_eq] at d2
    refine lv_iload_n hx hb dX10_isEven_9 rfl (lv_at hl 1 rfl) ?_
    refine lv_istore (lv' := [(5, .int h), (0, .int w), (1, .int h), (2, .long p0), (4, .int col)]) hx hb dX10_isEven_10 hl (by decide) rfl (fun ls hl => ?_)
    refine lv_iload hx hb dX10_isEven_12 (lv_at hl 4 rfl) ?_
    refine lv_if_eq (tgt := 21) hx hb dX10_isEven_14 (by decide) (fun c14 => ?_) (fun c14 => ?_)
    · skip
      have d14 := c14
      rw [fa_eq] at d14
      refine lv_iload_n hx hb dX10_isEven_21 rfl (lv_at hl 1 rfl) ?_
      refine lv_istore (lv' := [(6, .int w), (5, .int h), (0, .int w), (1, .int h), (2, .long p0), (4, .int col)]) hx hb dX10_isEven_22 hl (by decide) rfl (fun ls hl => ?_)
      refine lv_iconst (v := 1) hx hb dX10_isEven_24 (by decide) ?_
      refine lv_istore (lv' := [(7, .int (1 : Int32)), (6, .int w), (5, .int h), (0, .int w), (1, .int h), (2, .long p0), (4, .int col)]) hx hb dX10_isEven_25 hl (by decide) rfl (fun ls hl => ?_)
      refine lv_iconst (v := 0) hx hb dX10_isEven_27 (by decide) ?_
      refine lv_istore (lv' := [(8, .int (0 : Int32)), (7, .int (1 : Int32)), (6, .int w), (5, .int h), (0, .int w), (1, .int h), (2, .long p0), (4, .int col)]) hx hb dX10_isEven_28 hl (by decide) rfl (fun ls hl => ?_)
      have loop_30 : ∀ (n : Nat) (k : Nat) (x7 : Int32), (k ≤ 6) → (x7 = 0 ∨ x7 = 1) → 6 - k < n → ∀ (H : Heap) (locs : List Loc), va_S (fun _ => False) s.heap H locs → ∀ (ls : Array Slot), lv_has ls 13 [(8, .int (nI k)), (7, .int x7), (6, .int w), (5, .int h), (0, .int w), (1, .int h), (2, .long p0), (4, .int col)] → W p l e (headSpec wsX10_isEven ({ frames := 1, cells := 0, slots := 0, locals := 22 })).room s m #[Value.int w, Value.int h, Value.long p0, Value.int col] below meth c H locs 0 0 (MQ below (va_Qi (fun r (_ : Unit) => r = 0 ∨ r = 1) (fun _ _ => True) (fun _ => False)) #[Value.int w, Value.int h, Value.long p0, Value.int col] s 0 0 (fun _ => False)) (F0 m 30 ls []) := by
        intro n
        induction n with
        | zero => intro k x7 j30_0 j30_1 hn; exact absurd hn (Nat.not_lt_zero _)
        | succ n ih_30 =>
          intro k x7 j30_0 j30_1 hn_30 H locs hS ls hl
          have ik : (nI k).toInt = (k : Int) := nI_toInt (by omega)
          refine lv_iload hx hb dX10_isEven_30 (lv_at hl 0 rfl) ?_
          refine lv_iload hx hb dX10_isEven_32 (lv_at hl 3 rfl) ?_
          refine lv_icmp_ge (tgt := 136) hx hb dX10_isEven_34 (by decide) (fun c34 => ?_) (fun c34 => ?_)
          · skip
            have d34 := c34
            rw [fa_le] at d34
            refine lv_iload hx hb dX10_isEven_136 (lv_at hl 1 rfl) ?_
            exact W.zret (v := x7) hx hb hr (by rcases j30_1 with z | z <;> rw [z] <;> rfl) (fun t ht hW => ⟨⟨_, (), rfl, j30_1, trivial⟩, hS.F ht⟩) hS.2.2 dX10_isEven_138
          · skip
            have d34 := c34
            rw [fa_le] at d34
            refine lv_iconst (v := 0) hx hb dX10_isEven_37 (by decide) ?_
            refine lv_istore (lv' := [(9, .int (0 : Int32)), (8, .int (nI k)), (7, .int x7), (6, .int w), (5, .int h), (0, .int w), (1, .int h), (2, .long p0), (4, .int col)]) hx hb dX10_isEven_38 hl (by decide) rfl (fun ls hl => ?_)
            refine lv_iconst (v := 0) hx hb dX10_isEven_40 (by decide) ?_
            refine lv_istore (lv' := [(10, .int (0 : Int32)), (9, .int (0 : Int32)), (8, .int (nI k)), (7, .int x7), (6, .int w), (5, .int h), (0, .int w), (1, .int h), (2, .long p0), (4, .int col)]) hx hb dX10_isEven_41 hl (by decide) rfl (fun ls hl => ?_)
            refine lv_iconst (v := 0) hx hb dX10_isEven_43 (by decide) ?_
            refine lv_istore (lv' := [(11, .int (0 : Int32)), (10, .int (0 : Int32)), (9, .int (0 : Int32)), (8, .int (nI k)), (7, .int x7), (6, .int w), (5, .int h), (0, .int w), (1, .int h), (2, .long p0), (4, .int col)]) hx hb dX10_isEven_44 hl (by decide) rfl (fun ls hl => ?_)
            have loop_46 : ∀ (n : Nat) (i : Nat) (x10 : Int32) (x9 : Int32), (i ≤ 6) → 6 - i < n → ∀ (H : Heap) (locs : List Loc), va_S (fun _ => False) s.heap H locs → ∀ (ls : Array Slot), lv_has ls 13 [(11, .int (nI i)), (10, .int x10), (9, .int x9), (8, .int (nI k)), (7, .int x7), (6, .int w), (5, .int h), (0, .int w), (1, .int h), (2, .long p0), (4, .int col)] → W p l e (headSpec wsX10_isEven ({ frames := 1, cells := 0, slots := 0, locals := 22 })).room s m #[Value.int w, Value.int h, Value.long p0, Value.int col] below meth c H locs 0 0 (MQ below (va_Qi (fun r (_ : Unit) => r = 0 ∨ r = 1) (fun _ _ => True) (fun _ => False)) #[Value.int w, Value.int h, Value.long p0, Value.int col] s 0 0 (fun _ => False)) (F0 m 46 ls []) := by
              intro n
              induction n with
              | zero => intro i x10 x9 j46_0 hn; exact absurd hn (Nat.not_lt_zero _)
              | succ n ih_46 =>
                intro i x10 x9 j46_0 hn_46 H locs hS ls hl
                have ii : (nI i).toInt = (i : Int) := nI_toInt (by omega)
                refine lv_iload hx hb dX10_isEven_46 (lv_at hl 0 rfl) ?_
                refine lv_iload hx hb dX10_isEven_48 (lv_at hl 5 rfl) ?_
                refine lv_icmp_ge (tgt := 112) hx hb dX10_isEven_50 (by decide) (fun c50 => ?_) (fun c50 => ?_)
                · skip
                  have d50 := c50
                  rw [fa_le] at d50
                  refine lv_iload hx hb dX10_isEven_112 (lv_at hl 4 rfl) ?_
                  refine lv_if_eq (tgt := 127) hx hb dX10_isEven_114 (by decide) (fun c114 => ?_) (fun c114 => ?_)
                  · skip
                    have d114 := c114
                    rw [fa_eq] at d114
                    refine lv_iconst (v := 0) hx hb dX10_isEven_127 (by decide) ?_
                    refine lv_istore (lv' := [(7, .int (0 : Int32)), (11, .int (nI i)), (10, .int x10), (9, .int x9), (8, .int (nI k)), (6, .int w), (5, .int h), (0, .int w), (1, .int h), (2, .long p0), (4, .int col)]) hx hb dX10_isEven_128 hl (by decide) rfl (fun ls hl => ?_)
                    refine lv_iinc (v := (nI (k + 1))) (lv' := [(8, .int (nI (k + 1))), (7, .int (0 : Int32)), (11, .int (nI i)), (10, .int x10), (9, .int x9), (6, .int w), (5, .int h), (0, .int w), (1, .int h), (2, .long p0), (4, .int col)]) hx hb dX10_isEven_130 hl (k := 4) rfl (nI_1 _) (by decide) rfl (fun ls hl => ?_)
                    refine lv_goto (tgt := 30) hx hb dX10_isEven_133 (by decide) ?_
                    exact ih_30 (k + 1) (0 : Int32) (by omega) (by decide) (by omega) _ _ hS ls (lv_sub hl [0, 1, 5, 6, 7, 8, 9, 10] rfl)
                  · skip
                    have d114 := c114
                    rw [fa_eq] at d114
                    refine lv_iload hx hb dX10_isEven_117 (lv_at hl 2 rfl) ?_
                    refine lv_iconst (v := 2) hx hb dX10_isEven_119 (by decide) ?_
                    refine lv_icmp_ge (tgt := 127) hx hb dX10_isEven_120 (by decide) (fun c120 => ?_) (fun c120 => ?_)
                    · skip
                      have d120 := c120
                      rw [fa_le] at d120
                      refine lv_iconst (v := 0) hx hb dX10_isEven_127 (by decide) ?_
                      refine lv_istore (lv' := [(7, .int (0 : Int32)), (11, .int (nI i)), (10, .int x10), (9, .int x9), (8, .int (nI k)), (6, .int w), (5, .int h), (0, .int w), (1, .int h), (2, .long p0), (4, .int col)]) hx hb dX10_isEven_128 hl (by decide) rfl (fun ls hl => ?_)
                      refine lv_iinc (v := (nI (k + 1))) (lv' := [(8, .int (nI (k + 1))), (7, .int (0 : Int32)), (11, .int (nI i)), (10, .int x10), (9, .int x9), (6, .int w), (5, .int h), (0, .int w), (1, .int h), (2, .long p0), (4, .int col)]) hx hb dX10_isEven_130 hl (k := 4) rfl (nI_1 _) (by decide) rfl (fun ls hl => ?_)
                      refine lv_goto (tgt := 30) hx hb dX10_isEven_133 (by decide) ?_
                      exact ih_30 (k + 1) (0 : Int32) (by omega) (by decide) (by omega) _ _ hS ls (lv_sub hl [0, 1, 5, 6, 7, 8, 9, 10] rfl)
                    · skip
                      have d120 := c120
                      rw [fa_le] at d120
                      refine lv_iconst (v := 1) hx hb dX10_isEven_123 (by decide) ?_
                      refine lv_goto (tgt := 128) hx hb dX10_isEven_124 (by decide) ?_
                      refine lv_istore (lv' := [(7, .int (1 : Int32)), (11, .int (nI i)), (10, .int x10), (9, .int x9), (8, .int (nI k)), (6, .int w), (5, .int h), (0, .int w), (1, .int h), (2, .long p0), (4, .int col)]) hx hb dX10_isEven_128 hl (by decide) rfl (fun ls hl => ?_)
                      refine lv_iinc (v := (nI (k + 1))) (lv' := [(8, .int (nI (k + 1))), (7, .int (1 : Int32)), (11, .int (nI i)), (10, .int x10), (9, .int x9), (6, .int w), (5, .int h), (0, .int w), (1, .int h), (2, .long p0), (4, .int col)]) hx hb dX10_isEven_130 hl (k := 4) rfl (nI_1 _) (by decide) rfl (fun ls hl => ?_)
                      refine lv_goto (tgt := 30) hx hb dX10_isEven_133 (by decide) ?_
                      exact ih_30 (k + 1) (1 : Int32) (by omega) (by decide) (by omega) _ _ hS ls (lv_sub hl [0, 1, 5, 6, 7, 8, 9, 10] rfl)
                · skip
                  have d50 := c50
                  rw [fa_le] at d50
                  refine lv_lload_n hx hb dX10_isEven_53 rfl (lv_at hl 9 rfl) ?_
                  refine lv_iload hx hb dX10_isEven_54 (lv_at hl 10 rfl) ?_
                  refine lv_if_eq (tgt := 69) hx hb dX10_isEven_56 (by decide) (fun c56 => ?_) (fun c56 => ?_)
                  · skip
                    have d56 := c56
                    rw [fa_eq] at d56
                    refine lv_iload hx hb dX10_isEven_69 (lv_at hl 3 rfl) ?_
                    refine lv_iload_n hx hb dX10_isEven_71 rfl (lv_at hl 7 rfl) ?_
                    refine lv_imul hx hb dX10_isEven_72 ?_
                    refine lv_topi (fun v72 e72 => ?_)
                    refine lv_iload hx hb dX10_isEven_73 (lv_at hl 0 rfl) ?_
                    refine lv_iadd hx hb dX10_isEven_75 ?_
                    refine lv_topi (fun v75 e75 => ?_)
                    refine pu_call (As := [.long p0, .int v75]) (rest := []) ⟨hx, hb, hml, hown, hts⟩ (c_X10_one l p0 v75 ) (va_cwS 2 hts gX10_isEven_X10_one rfl rfl rfl (by decide +kernel) ⟨Nat.le_of_ble_eq_true rfl, Nat.le_of_ble_eq_true rfl⟩) rfl hl.1 rfl (Nat.le_of_ble_eq_true rfl) dX10_isEven_76 ⟨Nat.le_of_ble_eq_true rfl, Nat.le_of_ble_eq_true rfl⟩ hS (fun r76 H locs q76 hS => ?_)
                    have i76 : r76.toInt = (r_one p0 v75).toInt := congrArg Int32.toInt q76
                    refine lv_istore (lv' := [(12, .int r76), (11, .int (nI i)), (10, .int x10), (9, .int x9), (8, .int (nI k)), (7, .int x7), (6, .int w), (5, .int h), (0, .int w), (1, .int h), (2, .long p0), (4, .int col)]) hx hb dX10_isEven_79 hl (by decide) rfl (fun ls hl => ?_)
                    refine lv_iload hx hb dX10_isEven_81 (lv_at hl 3 rfl) ?_
                    refine lv_iload hx hb dX10_isEven_83 (lv_at hl 0 rfl) ?_
                    refine lv_iconst (v := 1) hx hb dX10_isEven_85 (by decide) ?_
                    refine lv_icmp_ne (tgt := 98) hx hb dX10_isEven_86 (by decide) (fun c86 => ?_) (fun c86 => ?_)
                    · skip
                      have d86 := c86
                      rw [fa_eq] at d86
                      refine lv_iconst (v := 0) hx hb dX10_isEven_98 (by decide) ?_
                      refine lv_iadd hx hb dX10_isEven_99 ?_
                      refine lv_topi (fun v99 e99 => ?_)
                      refine lv_istore (lv' := [(9, .int v99), (12, .int r76), (11, .int (nI i)), (10, .int x10), (8, .int (nI k)), (7, .int x7), (6, .int w), (5, .int h), (0, .int w), (1, .int h), (2, .long p0), (4, .int col)]) hx hb dX10_isEven_100 hl (by decide) rfl (fun ls hl => ?_)
                      refine lv_iload hx hb dX10_isEven_102 (lv_at hl 1 rfl) ?_
                      refine lv_istore (lv' := [(10, .int r76), (9, .int v99), (12, .int r76), (11, .int (nI i)), (8, .int (nI k)), (7, .int x7), (6, .int w), (5, .int h), (0, .int w), (1, .int h), (2, .long p0), (4, .int col)]) hx hb dX10_isEven_104 hl (by decide) rfl (fun ls hl => ?_)
                      refine lv_iinc (v := (nI (i + 1))) (lv' := [(11, .int (nI (i + 1))), (10, .int r76), (9, .int v99), (12, .int r76), (8, .int (nI k)), (7, .int x7), (6, .int w), (5, .int h), (0, .int w), (1, .int h), (2, .long p0), (4, .int col)]) hx hb dX10_isEven_106 hl (k := 3) rfl (nI_1 _) (by decide) rfl (fun ls hl => ?_)
                      refine lv_goto (tgt := 46) hx hb dX10_isEven_109 (by decide) ?_
                      exact ih_46 (i + 1) r76 v99 (by omega) (by omega) _ _ hS ls (lv_sub hl [0, 1, 2, 4, 5, 6, 7, 8, 9, 10, 11] rfl)
                    · skip
                      have d86 := c86
                      rw [fa_eq] at d86
                      refine lv_iload hx hb dX10_isEven_89 (lv_at hl 2 rfl) ?_
                      refine lv_if_ne (tgt := 98) hx hb dX10_isEven_91 (by decide) (fun c91 => ?_) (fun c91 => ?_)
                      · skip
                        have d91 := c91
                        rw [fa_eq] at d91
                        refine lv_iconst (v := 0) hx hb dX10_isEven_98 (by decide) ?_
                        refine lv_iadd hx hb dX10_isEven_99 ?_
                        refine lv_topi (fun v99 e99 => ?_)
                        refine lv_istore (lv' := [(9, .int v99), (12, .int r76), (11, .int (nI i)), (10, .int x10), (8, .int (nI k)), (7, .int x7), (6, .int w), (5, .int h), (0, .int w), (1, .int h), (2, .long p0), (4, .int col)]) hx hb dX10_isEven_100 hl (by decide) rfl (fun ls hl => ?_)
                        refine lv_iload hx hb dX10_isEven_102 (lv_at hl 1 rfl) ?_
                        refine lv_istore (lv' := [(10, .int r76), (9, .int v99), (12, .int r76), (11, .int (nI i)), (8, .int (nI k)), (7, .int x7), (6, .int w), (5, .int h), (0, .int w), (1, .int h), (2, .long p0), (4, .int col)]) hx hb dX10_isEven_104 hl (by decide) rfl (fun ls hl => ?_)
                        refine lv_iinc (v := (nI (i + 1))) (lv' := [(11, .int (nI (i + 1))), (10, .int r76), (9, .int v99), (12, .int r76), (8, .int (nI k)), (7, .int x7), (6, .int w), (5, .int h), (0, .int w), (1, .int h), (2, .long p0), (4, .int col)]) hx hb dX10_isEven_106 hl (k := 3) rfl (nI_1 _) (by decide) rfl (fun ls hl => ?_)
                        refine lv_goto (tgt := 46) hx hb dX10_isEven_109 (by decide) ?_
                        exact ih_46 (i + 1) r76 v99 (by omega) (by omega) _ _ hS ls (lv_sub hl [0, 1, 2, 4, 5, 6, 7, 8, 9, 10, 11] rfl)
                      · skip
                        have d91 := c91
                        rw [fa_eq] at d91
                        refine lv_iconst (v := 1) hx hb dX10_isEven_94 (by decide) ?_
                        refine lv_goto (tgt := 99) hx hb dX10_isEven_95 (by decide) ?_
                        refine lv_iadd hx hb dX10_isEven_99 ?_
                        refine lv_topi (fun v99 e99 => ?_)
                        refine lv_istore (lv' := [(9, .int v99), (12, .int r76), (11, .int (nI i)), (10, .int x10), (8, .int (nI k)), (7, .int x7), (6, .int w), (5, .int h), (0, .int w), (1, .int h), (2, .long p0), (4, .int col)]) hx hb dX10_isEven_100 hl (by decide) rfl (fun ls hl => ?_)
                        refine lv_iload hx hb dX10_isEven_102 (lv_at hl 1 rfl) ?_
                        refine lv_istore (lv' := [(10, .int r76), (9, .int v99), (12, .int r76), (11, .int (nI i)), (8, .int (nI k)), (7, .int x7), (6, .int w), (5, .int h), (0, .int w), (1, .int h), (2, .long p0), (4, .int col)]) hx hb dX10_isEven_104 hl (by decide) rfl (fun ls hl => ?_)
                        refine lv_iinc (v := (nI (i + 1))) (lv' := [(11, .int (nI (i + 1))), (10, .int r76), (9, .int v99), (12, .int r76), (8, .int (nI k)), (7, .int x7), (6, .int w), (5, .int h), (0, .int w), (1, .int h), (2, .long p0), (4, .int col)]) hx hb dX10_isEven_106 hl (k := 3) rfl (nI_1 _) (by decide) rfl (fun ls hl => ?_)
                        refine lv_goto (tgt := 46) hx hb dX10_isEven_109 (by decide) ?_
                        exact ih_46 (i + 1) r76 v99 (by omega) (by omega) _ _ hS ls (lv_sub hl [0, 1, 2, 4, 5, 6, 7, 8, 9, 10, 11] rfl)
                  · first | exact absurd c56 c14 | exact absurd c14 c56
            exact loop_46 (6 + 1) 0 (0 : Int32) (0 : Int32) (by omega) (by omega) _ _ hS ls (lv_sub hl [0, 1, 2, 3, 4, 5, 6, 7, 8, 9, 10] rfl)
      exact loop_30 (6 + 1) 0 (1 : Int32) (by omega) (by decide) (by omega) _ _ hS ls (lv_sub hl [0, 1, 2, 3, 4, 5, 6, 7] rfl)
    · first | exact absurd c14 c2 | exact absurd c2 c14
  · skip
    have d2 := c2
    rw [fa_eq] at d2
    refine lv_iload_n hx hb dX10_isEven_5 rfl (lv_at hl 0 rfl) ?_
    refine lv_goto (tgt := 10) hx hb dX10_isEven_6 (by decide) ?_
    refine lv_istore (lv' := [(5, .int w), (0, .int w), (1, .int h), (2, .long p0), (4, .int col)]) hx hb dX10_isEven_10 hl (by decide) rfl (fun ls hl => ?_)
    refine lv_iload hx hb dX10_isEven_12 (lv_at hl 4 rfl) ?_
    refine lv_if_eq (tgt := 21) hx hb dX10_isEven_14 (by decide) (fun c14 => ?_) (fun c14 => ?_)
    · first | exact absurd c14 c2 | exact absurd c2 c14
    · skip
      have d14 := c14
      rw [fa_eq] at d14
      refine lv_iload_n hx hb dX10_isEven_17 rfl (lv_at hl 2 rfl) ?_
      refine lv_goto (tgt := 22) hx hb dX10_isEven_18 (by decide) ?_
      refine lv_istore (lv' := [(6, .int h), (5, .int w), (0, .int w), (1, .int h), (2, .long p0), (4, .int col)]) hx hb dX10_isEven_22 hl (by decide) rfl (fun ls hl => ?_)
      refine lv_iconst (v := 1) hx hb dX10_isEven_24 (by decide) ?_
      refine lv_istore (lv' := [(7, .int (1 : Int32)), (6, .int h), (5, .int w), (0, .int w), (1, .int h), (2, .long p0), (4, .int col)]) hx hb dX10_isEven_25 hl (by decide) rfl (fun ls hl => ?_)
      refine lv_iconst (v := 0) hx hb dX10_isEven_27 (by decide) ?_
      refine lv_istore (lv' := [(8, .int (0 : Int32)), (7, .int (1 : Int32)), (6, .int h), (5, .int w), (0, .int w), (1, .int h), (2, .long p0), (4, .int col)]) hx hb dX10_isEven_28 hl (by decide) rfl (fun ls hl => ?_)
      have loop_30 : ∀ (n : Nat) (k : Nat) (x7 : Int32), (k ≤ 6) → (x7 = 0 ∨ x7 = 1) → 6 - k < n → ∀ (H : Heap) (locs : List Loc), va_S (fun _ => False) s.heap H locs → ∀ (ls : Array Slot), lv_has ls 13 [(8, .int (nI k)), (7, .int x7), (6, .int h), (5, .int w), (0, .int w), (1, .int h), (2, .long p0), (4, .int col)] → W p l e (headSpec wsX10_isEven ({ frames := 1, cells := 0, slots := 0, locals := 22 })).room s m #[Value.int w, Value.int h, Value.long p0, Value.int col] below meth c H locs 0 0 (MQ below (va_Qi (fun r (_ : Unit) => r = 0 ∨ r = 1) (fun _ _ => True) (fun _ => False)) #[Value.int w, Value.int h, Value.long p0, Value.int col] s 0 0 (fun _ => False)) (F0 m 30 ls []) := by
        intro n
        induction n with
        | zero => intro k x7 j30_0 j30_1 hn; exact absurd hn (Nat.not_lt_zero _)
        | succ n ih_30 =>
          intro k x7 j30_0 j30_1 hn_30 H locs hS ls hl
          have ik : (nI k).toInt = (k : Int) := nI_toInt (by omega)
          refine lv_iload hx hb dX10_isEven_30 (lv_at hl 0 rfl) ?_
          refine lv_iload hx hb dX10_isEven_32 (lv_at hl 3 rfl) ?_
          refine lv_icmp_ge (tgt := 136) hx hb dX10_isEven_34 (by decide) (fun c34 => ?_) (fun c34 => ?_)
          · skip
            have d34 := c34
            rw [fa_le] at d34
            refine lv_iload hx hb dX10_isEven_136 (lv_at hl 1 rfl) ?_
            exact W.zret (v := x7) hx hb hr (by rcases j30_1 with z | z <;> rw [z] <;> rfl) (fun t ht hW => ⟨⟨_, (), rfl, j30_1, trivial⟩, hS.F ht⟩) hS.2.2 dX10_isEven_138
          · skip
            have d34 := c34
            rw [fa_le] at d34
            refine lv_iconst (v := 0) hx hb dX10_isEven_37 (by decide) ?_
            refine lv_istore (lv' := [(9, .int (0 : Int32)), (8, .int (nI k)), (7, .int x7), (6, .int h), (5, .int w), (0, .int w), (1, .int h), (2, .long p0), (4, .int col)]) hx hb dX10_isEven_38 hl (by decide) rfl (fun ls hl => ?_)
            refine lv_iconst (v := 0) hx hb dX10_isEven_40 (by decide) ?_
            refine lv_istore (lv' := [(10, .int (0 : Int32)), (9, .int (0 : Int32)), (8, .int (nI k)), (7, .int x7), (6, .int h), (5, .int w), (0, .int w), (1, .int h), (2, .long p0), (4, .int col)]) hx hb dX10_isEven_41 hl (by decide) rfl (fun ls hl => ?_)
            refine lv_iconst (v := 0) hx hb dX10_isEven_43 (by decide) ?_
            refine lv_istore (lv' := [(11, .int (0 : Int32)), (10, .int (0 : Int32)), (9, .int (0 : Int32)), (8, .int (nI k)), (7, .int x7), (6, .int h), (5, .int w), (0, .int w), (1, .int h), (2, .long p0), (4, .int col)]) hx hb dX10_isEven_44 hl (by decide) rfl (fun ls hl => ?_)
            have loop_46 : ∀ (n : Nat) (i : Nat) (x10 : Int32) (x9 : Int32), (i ≤ 6) → 6 - i < n → ∀ (H : Heap) (locs : List Loc), va_S (fun _ => False) s.heap H locs → ∀ (ls : Array Slot), lv_has ls 13 [(11, .int (nI i)), (10, .int x10), (9, .int x9), (8, .int (nI k)), (7, .int x7), (6, .int h), (5, .int w), (0, .int w), (1, .int h), (2, .long p0), (4, .int col)] → W p l e (headSpec wsX10_isEven ({ frames := 1, cells := 0, slots := 0, locals := 22 })).room s m #[Value.int w, Value.int h, Value.long p0, Value.int col] below meth c H locs 0 0 (MQ below (va_Qi (fun r (_ : Unit) => r = 0 ∨ r = 1) (fun _ _ => True) (fun _ => False)) #[Value.int w, Value.int h, Value.long p0, Value.int col] s 0 0 (fun _ => False)) (F0 m 46 ls []) := by
              intro n
              induction n with
              | zero => intro i x10 x9 j46_0 hn; exact absurd hn (Nat.not_lt_zero _)
              | succ n ih_46 =>
                intro i x10 x9 j46_0 hn_46 H locs hS ls hl
                have ii : (nI i).toInt = (i : Int) := nI_toInt (by omega)
                refine lv_iload hx hb dX10_isEven_46 (lv_at hl 0 rfl) ?_
                refine lv_iload hx hb dX10_isEven_48 (lv_at hl 5 rfl) ?_
                refine lv_icmp_ge (tgt := 112) hx hb dX10_isEven_50 (by decide) (fun c50 => ?_) (fun c50 => ?_)
                · skip
                  have d50 := c50
                  rw [fa_le] at d50
                  refine lv_iload hx hb dX10_isEven_112 (lv_at hl 4 rfl) ?_
                  refine lv_if_eq (tgt := 127) hx hb dX10_isEven_114 (by decide) (fun c114 => ?_) (fun c114 => ?_)
                  · skip
                    have d114 := c114
                    rw [fa_eq] at d114
                    refine lv_iconst (v := 0) hx hb dX10_isEven_127 (by decide) ?_
                    refine lv_istore (lv' := [(7, .int (0 : Int32)), (11, .int (nI i)), (10, .int x10), (9, .int x9), (8, .int (nI k)), (6, .int h), (5, .int w), (0, .int w), (1, .int h), (2, .long p0), (4, .int col)]) hx hb dX10_isEven_128 hl (by decide) rfl (fun ls hl => ?_)
                    refine lv_iinc (v := (nI (k + 1))) (lv' := [(8, .int (nI (k + 1))), (7, .int (0 : Int32)), (11, .int (nI i)), (10, .int x10), (9, .int x9), (6, .int h), (5, .int w), (0, .int w), (1, .int h), (2, .long p0), (4, .int col)]) hx hb dX10_isEven_130 hl (k := 4) rfl (nI_1 _) (by decide) rfl (fun ls hl => ?_)
                    refine lv_goto (tgt := 30) hx hb dX10_isEven_133 (by decide) ?_
                    exact ih_30 (k + 1) (0 : Int32) (by omega) (by decide) (by omega) _ _ hS ls (lv_sub hl [0, 1, 5, 6, 7, 8, 9, 10] rfl)
                  · skip
                    have d114 := c114
                    rw [fa_eq] at d114
                    refine lv_iload hx hb dX10_isEven_117 (lv_at hl 2 rfl) ?_
                    refine lv_iconst (v := 2) hx hb dX10_isEven_119 (by decide) ?_
                    refine lv_icmp_ge (tgt := 127) hx hb dX10_isEven_120 (by decide) (fun c120 => ?_) (fun c120 => ?_)
                    · skip
                      have d120 := c120
                      rw [fa_le] at d120
                      refine lv_iconst (v := 0) hx hb dX10_isEven_127 (by decide) ?_
                      refine lv_istore (lv' := [(7, .int (0 : Int32)), (11, .int (nI i)), (10, .int x10), (9, .int x9), (8, .int (nI k)), (6, .int h), (5, .int w), (0, .int w), (1, .int h), (2, .long p0), (4, .int col)]) hx hb dX10_isEven_128 hl (by decide) rfl (fun ls hl => ?_)
                      refine lv_iinc (v := (nI (k + 1))) (lv' := [(8, .int (nI (k + 1))), (7, .int (0 : Int32)), (11, .int (nI i)), (10, .int x10), (9, .int x9), (6, .int h), (5, .int w), (0, .int w), (1, .int h), (2, .long p0), (4, .int col)]) hx hb dX10_isEven_130 hl (k := 4) rfl (nI_1 _) (by decide) rfl (fun ls hl => ?_)
                      refine lv_goto (tgt := 30) hx hb dX10_isEven_133 (by decide) ?_
                      exact ih_30 (k + 1) (0 : Int32) (by omega) (by decide) (by omega) _ _ hS ls (lv_sub hl [0, 1, 5, 6, 7, 8, 9, 10] rfl)
                    · skip
                      have d120 := c120
                      rw [fa_le] at d120
                      refine lv_iconst (v := 1) hx hb dX10_isEven_123 (by decide) ?_
                      refine lv_goto (tgt := 128) hx hb dX10_isEven_124 (by decide) ?_
                      refine lv_istore (lv' := [(7, .int (1 : Int32)), (11, .int (nI i)), (10, .int x10), (9, .int x9), (8, .int (nI k)), (6, .int h), (5, .int w), (0, .int w), (1, .int h), (2, .long p0), (4, .int col)]) hx hb dX10_isEven_128 hl (by decide) rfl (fun ls hl => ?_)
                      refine lv_iinc (v := (nI (k + 1))) (lv' := [(8, .int (nI (k + 1))), (7, .int (1 : Int32)), (11, .int (nI i)), (10, .int x10), (9, .int x9), (6, .int h), (5, .int w), (0, .int w), (1, .int h), (2, .long p0), (4, .int col)]) hx hb dX10_isEven_130 hl (k := 4) rfl (nI_1 _) (by decide) rfl (fun ls hl => ?_)
                      refine lv_goto (tgt := 30) hx hb dX10_isEven_133 (by decide) ?_
                      exact ih_30 (k + 1) (1 : Int32) (by omega) (by decide) (by omega) _ _ hS ls (lv_sub hl [0, 1, 5, 6, 7, 8, 9, 10] rfl)
                · skip
                  have d50 := c50
                  rw [fa_le] at d50
                  refine lv_lload_n hx hb dX10_isEven_53 rfl (lv_at hl 9 rfl) ?_
                  refine lv_iload hx hb dX10_isEven_54 (lv_at hl 10 rfl) ?_
                  refine lv_if_eq (tgt := 69) hx hb dX10_isEven_56 (by decide) (fun c56 => ?_) (fun c56 => ?_)
                  · first | exact absurd c56 c14 | exact absurd c14 c56
                  · skip
                    have d56 := c56
                    rw [fa_eq] at d56
                    refine lv_iload hx hb dX10_isEven_59 (lv_at hl 0 rfl) ?_
                    refine lv_iload_n hx hb dX10_isEven_61 rfl (lv_at hl 7 rfl) ?_
                    refine lv_imul hx hb dX10_isEven_62 ?_
                    refine lv_topi (fun v62 e62 => ?_)
                    refine lv_iload hx hb dX10_isEven_63 (lv_at hl 3 rfl) ?_
                    refine lv_iadd hx hb dX10_isEven_65 ?_
                    refine lv_topi (fun v65 e65 => ?_)
                    refine lv_goto (tgt := 76) hx hb dX10_isEven_66 (by decide) ?_
                    refine pu_call (As := [.long p0, .int v65]) (rest := []) ⟨hx, hb, hml, hown, hts⟩ (c_X10_one l p0 v65 ) (va_cwS 2 hts gX10_isEven_X10_one rfl rfl rfl (by decide +kernel) ⟨Nat.le_of_ble_eq_true rfl, Nat.le_of_ble_eq_true rfl⟩) rfl hl.1 rfl (Nat.le_of_ble_eq_true rfl) dX10_isEven_76 ⟨Nat.le_of_ble_eq_true rfl, Nat.le_of_ble_eq_true rfl⟩ hS (fun r76 H locs q76 hS => ?_)
                    have i76 : r76.toInt = (r_one p0 v65).toInt := congrArg Int32.toInt q76
                    refine lv_istore (lv' := [(12, .int r76), (11, .int (nI i)), (10, .int x10), (9, .int x9), (8, .int (nI k)), (7, .int x7), (6, .int h), (5, .int w), (0, .int w), (1, .int h), (2, .long p0), (4, .int col)]) hx hb dX10_isEven_79 hl (by decide) rfl (fun ls hl => ?_)
                    refine lv_iload hx hb dX10_isEven_81 (lv_at hl 3 rfl) ?_
                    refine lv_iload hx hb dX10_isEven_83 (lv_at hl 0 rfl) ?_
                    refine lv_iconst (v := 1) hx hb dX10_isEven_85 (by decide) ?_
                    refine lv_icmp_ne (tgt := 98) hx hb dX10_isEven_86 (by decide) (fun c86 => ?_) (fun c86 => ?_)
                    · skip
                      have d86 := c86
                      rw [fa_eq] at d86
                      refine lv_iconst (v := 0) hx hb dX10_isEven_98 (by decide) ?_
                      refine lv_iadd hx hb dX10_isEven_99 ?_
                      refine lv_topi (fun v99 e99 => ?_)
                      refine lv_istore (lv' := [(9, .int v99), (12, .int r76), (11, .int (nI i)), (10, .int x10), (8, .int (nI k)), (7, .int x7), (6, .int h), (5, .int w), (0, .int w), (1, .int h), (2, .long p0), (4, .int col)]) hx hb dX10_isEven_100 hl (by decide) rfl (fun ls hl => ?_)
                      refine lv_iload hx hb dX10_isEven_102 (lv_at hl 1 rfl) ?_
                      refine lv_istore (lv' := [(10, .int r76), (9, .int v99), (12, .int r76), (11, .int (nI i)), (8, .int (nI k)), (7, .int x7), (6, .int h), (5, .int w), (0, .int w), (1, .int h), (2, .long p0), (4, .int col)]) hx hb dX10_isEven_104 hl (by decide) rfl (fun ls hl => ?_)
                      refine lv_iinc (v := (nI (i + 1))) (lv' := [(11, .int (nI (i + 1))), (10, .int r76), (9, .int v99), (12, .int r76), (8, .int (nI k)), (7, .int x7), (6, .int h), (5, .int w), (0, .int w), (1, .int h), (2, .long p0), (4, .int col)]) hx hb dX10_isEven_106 hl (k := 3) rfl (nI_1 _) (by decide) rfl (fun ls hl => ?_)
                      refine lv_goto (tgt := 46) hx hb dX10_isEven_109 (by decide) ?_
                      exact ih_46 (i + 1) r76 v99 (by omega) (by omega) _ _ hS ls (lv_sub hl [0, 1, 2, 4, 5, 6, 7, 8, 9, 10, 11] rfl)
                    · skip
                      have d86 := c86
                      rw [fa_eq] at d86
                      refine lv_iload hx hb dX10_isEven_89 (lv_at hl 2 rfl) ?_
                      refine lv_if_ne (tgt := 98) hx hb dX10_isEven_91 (by decide) (fun c91 => ?_) (fun c91 => ?_)
                      · skip
                        have d91 := c91
                        rw [fa_eq] at d91
                        refine lv_iconst (v := 0) hx hb dX10_isEven_98 (by decide) ?_
                        refine lv_iadd hx hb dX10_isEven_99 ?_
                        refine lv_topi (fun v99 e99 => ?_)
                        refine lv_istore (lv' := [(9, .int v99), (12, .int r76), (11, .int (nI i)), (10, .int x10), (8, .int (nI k)), (7, .int x7), (6, .int h), (5, .int w), (0, .int w), (1, .int h), (2, .long p0), (4, .int col)]) hx hb dX10_isEven_100 hl (by decide) rfl (fun ls hl => ?_)
                        refine lv_iload hx hb dX10_isEven_102 (lv_at hl 1 rfl) ?_
                        refine lv_istore (lv' := [(10, .int r76), (9, .int v99), (12, .int r76), (11, .int (nI i)), (8, .int (nI k)), (7, .int x7), (6, .int h), (5, .int w), (0, .int w), (1, .int h), (2, .long p0), (4, .int col)]) hx hb dX10_isEven_104 hl (by decide) rfl (fun ls hl => ?_)
                        refine lv_iinc (v := (nI (i + 1))) (lv' := [(11, .int (nI (i + 1))), (10, .int r76), (9, .int v99), (12, .int r76), (8, .int (nI k)), (7, .int x7), (6, .int h), (5, .int w), (0, .int w), (1, .int h), (2, .long p0), (4, .int col)]) hx hb dX10_isEven_106 hl (k := 3) rfl (nI_1 _) (by decide) rfl (fun ls hl => ?_)
                        refine lv_goto (tgt := 46) hx hb dX10_isEven_109 (by decide) ?_
                        exact ih_46 (i + 1) r76 v99 (by omega) (by omega) _ _ hS ls (lv_sub hl [0, 1, 2, 4, 5, 6, 7, 8, 9, 10, 11] rfl)
                      · skip
                        have d91 := c91
                        rw [fa_eq] at d91
                        refine lv_iconst (v := 1) hx hb dX10_isEven_94 (by decide) ?_
                        refine lv_goto (tgt := 99) hx hb dX10_isEven_95 (by decide) ?_
                        refine lv_iadd hx hb dX10_isEven_99 ?_
                        refine lv_topi (fun v99 e99 => ?_)
                        refine lv_istore (lv' := [(9, .int v99), (12, .int r76), (11, .int (nI i)), (10, .int x10), (8, .int (nI k)), (7, .int x7), (6, .int h), (5, .int w), (0, .int w), (1, .int h), (2, .long p0), (4, .int col)]) hx hb dX10_isEven_100 hl (by decide) rfl (fun ls hl => ?_)
                        refine lv_iload hx hb dX10_isEven_102 (lv_at hl 1 rfl) ?_
                        refine lv_istore (lv' := [(10, .int r76), (9, .int v99), (12, .int r76), (11, .int (nI i)), (8, .int (nI k)), (7, .int x7), (6, .int h), (5, .int w), (0, .int w), (1, .int h), (2, .long p0), (4, .int col)]) hx hb dX10_isEven_104 hl (by decide) rfl (fun ls hl => ?_)
                        refine lv_iinc (v := (nI (i + 1))) (lv' := [(11, .int (nI (i + 1))), (10, .int r76), (9, .int v99), (12, .int r76), (8, .int (nI k)), (7, .int x7), (6, .int h), (5, .int w), (0, .int w), (1, .int h), (2, .long p0), (4, .int col)]) hx hb dX10_isEven_106 hl (k := 3) rfl (nI_1 _) (by decide) rfl (fun ls hl => ?_)
                        refine lv_goto (tgt := 46) hx hb dX10_isEven_109 (by decide) ?_
                        exact ih_46 (i + 1) r76 v99 (by omega) (by omega) _ _ hS ls (lv_sub hl [0, 1, 2, 4, 5, 6, 7, 8, 9, 10, 11] rfl)
            exact loop_46 (6 + 1) 0 (0 : Int32) (0 : Int32) (by omega) (by omega) _ _ hS ls (lv_sub hl [0, 1, 2, 3, 4, 5, 6, 7, 8, 9, 10] rfl)
      exact loop_30 (6 + 1) 0 (1 : Int32) (by omega) (by decide) (by omega) _ _ hS ls (lv_sub hl [0, 1, 2, 3, 4, 5, 6, 7] rfl)
set_option maxHeartbeats 4000000 in
set_option maxRecDepth 100000 in
theorem c_X10_shadow (l : Launch) (D : va_G) (cy : Nat → ClassId) (mo : Nat) (a : Nat → Nat) (f : Nat → Int32) (g : Nat → Int64) (r : Nat → Nat → Int32) (q : Nat → Nat → Int64) (w : Int32) (h : Int32) (p0 : Int64) (way : Int32) (line : Int32) (hD : DM cy mo a)  : Mi l D cy mo a yX10_shadow wsX10_shadow ({ frames := 3, cells := 0, slots := 0, locals := 69 }) f g r q [.int w, .int h, .long p0, .int way, .int line] (fun r0 u => u = ((upd f 0 (0 : Int32)), g, r, q) ∧ (True)) := by
  refine Met.ofW (cc := cX10_shadow) (maxL := 8) (ret := (some .int)) (by decide) rfl ?_
  intro p e s m args below meth c s₁ B hml hv
  obtain ⟨rfl, hP, hK⟩ := hv
  have hx := B.exec
  have hb := B.bytes
  have hr := B.returns
  have hts := atoms_spec (ws := wsX10_shadow) B.pre
  have hin : ∀ w ∈ u_ws RX10 TX10 35, w ∈ wsX10_shadow := by decide +kernel
  have hown : s.vm.findClass RX10 = some m.cls := findClass_of_methodNamed B.named
  have hlocks := B.notSynchronized
  have hS : va_S (AM mo a) s.heap s.heap [] := va_S.rf
  have hl := lv_entry ([.ref mo, .int w, .int h, .long p0, .int way, .int line]) (n := 8) (Nat.le_of_ble_eq_true rfl)
  rw [lg_entry_eq]
  generalize (lg_sl ([.ref mo, .int w, .int h, .long p0, .int way, .int line]) ++ List.replicate (8 - (lg_sl ([.ref mo, .int w, .int h, .long p0, .int way, .int line])).length) Slot.unset).toArray = ls at hl ⊢
  have hl : lv_has ls 8 [(0, .ref mo), (1, .int w), (2, .int h), (3, .long p0), (5, .int way), (6, .int line)] := hl
  have k_m1 : (-1 : Int32).toInt = -1 := by decide
  have k_0 : (0 : Int32).toInt = 0 := by decide
  have k_1 : (1 : Int32).toInt = 1 := by decide
  have k_0L : (0 : Int64).toInt = 0 := by decide
  have k_3L : (3 : Int64).toInt = 3 := by decide
  refine lv_aload_n hx hb dX10_shadow_0 rfl (lv_at hl 0 rfl) ?_
  refine lv_iconst (v := 0) hx hb dX10_shadow_1 (by decide) ?_
  refine m_put (v := .int (0 : Int32)) (ty := .int) hx hb hts hin hown hK hP hD hS 0 (by decide) rfl (hts (.fieldLink RX10 79 "ShadowBenchModel" "thrown" "I") (by decide +kernel)) rfl (by decide +kernel) rfl rfl (upd f 0 (0 : Int32)) g rfl dX10_shadow_2 (fun H locs hP hS => ?_)
  refine lv_iload_n hx hb dX10_shadow_5 rfl (lv_at hl 1 rfl) ?_
  refine lv_iload_n hx hb dX10_shadow_6 rfl (lv_at hl 2 rfl) ?_
  refine lv_lload_n hx hb dX10_shadow_7 rfl (lv_at hl 3 rfl) ?_
  refine m_pu (As := [.int w, .int h, .long p0]) (rest := []) ⟨hx, hb, hml, hown, hts⟩ (c_X10_isPicture l w h p0 ) (va_cwS 3 hts gX10_shadow_X10_isPicture rfl rfl rfl (by decide +kernel) ⟨Nat.le_of_ble_eq_true rfl, Nat.le_of_ble_eq_true rfl⟩) hP rfl hl.1 rfl (Nat.le_of_ble_eq_true rfl) dX10_shadow_8 ⟨Nat.le_of_ble_eq_true rfl, Nat.le_of_ble_eq_true rfl⟩ hS (fun r8 H locs q8 hP hS => ?_)
  refine lv_if_eq (tgt := 48) hx hb dX10_shadow_11 (by decide) (fun c11 => ?_) (fun c11 => ?_)
  · skip
    have b11 := bo_f q8 c11
    refine lv_iconst (v := 0) hx hb dX10_shadow_48 (by decide) ?_
    refine lv_istore (lv' := [(7, .int (0 : Int32)), (0, .ref mo), (1, .int w), (2, .int h), (3, .long p0), (5, .int way), (6, .int line)]) hx hb dX10_shadow_49 hl (by decide) rfl (fun ls hl => ?_)
    refine lv_iload hx hb dX10_shadow_51 (lv_at hl 0 rfl) ?_
    refine lv_if_eq (tgt := 69) hx hb dX10_shadow_53 (by decide) (fun c53 => ?_) (fun c53 => ?_)
    · skip
      have d53 := c53
      rw [fa_eq] at d53
      refine lv_iconst (v := (-1)) hx hb dX10_shadow_69 (by decide) ?_
      exact W.iret (v := ((-1) : Int32)) hx hb hr (fun t ht hW => ⟨⟨_, ((upd f 0 (0 : Int32)), g, r, q), rfl, ⟨rfl, trivial⟩, by unfold mB; rw [ht]; exact hP⟩, hS.F ht⟩) hS.2.2 dX10_shadow_70
    · first | exact absurd c53 (by decide) | exact absurd (by decide) c53
  · skip
    have b11 := bo_t q8 c11
    refine lv_iload hx hb dX10_shadow_14 (lv_at hl 4 rfl) ?_
    refine lv_i2l (v := way.toInt64) hx hb dX10_shadow_16 rfl ?_
    refine lv_lconst (v := 0) hx hb dX10_shadow_17 (by decide) ?_
    refine lv_ldc2 hx hb hown (hts (.constantLong RX10 116 (3)) (by decide +kernel)) dX10_shadow_18 ?_
    refine m_pu (As := [.long (way.toInt64), .long (0 : Int64), .long (3 : Int64)]) (rest := []) ⟨hx, hb, hml, hown, hts⟩ (c_X10_isIn l way.toInt64 (0 : Int64) (3 : Int64) ) (va_cwS 3 hts gX10_shadow_X10_isIn rfl rfl rfl (by decide +kernel) ⟨Nat.le_of_ble_eq_true rfl, Nat.le_of_ble_eq_true rfl⟩) hP rfl hl.1 rfl (Nat.le_of_ble_eq_true rfl) dX10_shadow_21 ⟨Nat.le_of_ble_eq_true rfl, Nat.le_of_ble_eq_true rfl⟩ hS (fun r21 H locs q21 hP hS => ?_)
    have q21 := q21
    simp only [k64, show (0 : Int64).toInt = 0 from rfl, show (1 : Int64).toInt = 1 from rfl, show (2 : Int64).toInt = 2 from rfl, show (3 : Int64).toInt = 3 from rfl, show (6 : Int64).toInt = 6 from rfl] at q21
    refine lv_if_eq (tgt := 48) hx hb dX10_shadow_24 (by decide) (fun c24 => ?_) (fun c24 => ?_)
    · skip
      have b24 := bo_f q21 c24
      refine lv_iconst (v := 0) hx hb dX10_shadow_48 (by decide) ?_
      refine lv_istore (lv' := [(7, .int (0 : Int32)), (0, .ref mo), (1, .int w), (2, .int h), (3, .long p0), (5, .int way), (6, .int line)]) hx hb dX10_shadow_49 hl (by decide) rfl (fun ls hl => ?_)
      refine lv_iload hx hb dX10_shadow_51 (lv_at hl 0 rfl) ?_
      refine lv_if_eq (tgt := 69) hx hb dX10_shadow_53 (by decide) (fun c53 => ?_) (fun c53 => ?_)
      · skip
        have d53 := c53
        rw [fa_eq] at d53
        refine lv_iconst (v := (-1)) hx hb dX10_shadow_69 (by decide) ?_
        exact W.iret (v := ((-1) : Int32)) hx hb hr (fun t ht hW => ⟨⟨_, ((upd f 0 (0 : Int32)), g, r, q), rfl, ⟨rfl, trivial⟩, by unfold mB; rw [ht]; exact hP⟩, hS.F ht⟩) hS.2.2 dX10_shadow_70
      · first | exact absurd c53 (by decide) | exact absurd (by decide) c53
    · skip
      have b24 := bo_t q21 c24
      refine lv_iload hx hb dX10_shadow_27 (lv_at hl 5 rfl) ?_
      refine lv_if_lt (tgt := 48) hx hb dX10_shadow_29 (by decide) (fun c29 => ?_) (fun c29 => ?_)
      · skip
        have d29 := c29
        rw [fa_lt] at d29
        refine lv_iconst (v := 0) hx hb dX10_shadow_48 (by decide) ?_
        refine lv_istore (lv' := [(7, .int (0 : Int32)), (0, .ref mo), (1, .int w), (2, .int h), (3, .long p0), (5, .int way), (6, .int line)]) hx hb dX10_shadow_49 hl (by decide) rfl (fun ls hl => ?_)
        refine lv_iload hx hb dX10_shadow_51 (lv_at hl 0 rfl) ?_
        refine lv_if_eq (tgt := 69) hx hb dX10_shadow_53 (by decide) (fun c53 => ?_) (fun c53 => ?_)
        · skip
          have d53 := c53
          rw [fa_eq] at d53
          refine lv_iconst (v := (-1)) hx hb dX10_shadow_69 (by decide) ?_
          exact W.iret (v := ((-1) : Int32)) hx hb hr (fun t ht hW => ⟨⟨_, ((upd f 0 (0 : Int32)), g, r, q), rfl, ⟨rfl, trivial⟩, by unfold mB; rw [ht]; exact hP⟩, hS.F ht⟩) hS.2.2 dX10_shadow_70
        · first | exact absurd c53 (by decide) | exact absurd (by decide) c53
      · skip
        have d29 := c29
        rw [fa_lt] at d29
        refine lv_iload hx hb dX10_shadow_32 (lv_at hl 5 rfl) ?_
        refine lv_iload_n hx hb dX10_shadow_34 rfl (lv_at hl 1 rfl) ?_
        refine lv_iload_n hx hb dX10_shadow_35 rfl (lv_at hl 2 rfl) ?_
        refine lv_iload hx hb dX10_shadow_36 (lv_at hl 4 rfl) ?_
        refine m_pu (As := [.int w, .int h, .int way]) (rest := [.int line]) ⟨hx, hb, hml, hown, hts⟩ (c_X10_linesOf l w h way ) (va_cwS 3 hts gX10_shadow_X10_linesOf rfl rfl rfl (by decide +kernel) ⟨Nat.le_of_ble_eq_true rfl, Nat.le_of_ble_eq_true rfl⟩) hP rfl hl.1 rfl (Nat.le_of_ble_eq_true rfl) dX10_shadow_38 ⟨Nat.le_of_ble_eq_true rfl, Nat.le_of_ble_eq_true rfl⟩ hS (fun r38 H locs q38 hP hS => ?_)
        have i38 : r38.toInt = (r_lines w h way).toInt := congrArg Int32.toInt q38
        refine lv_icmp_ge (tgt := 48) hx hb dX10_shadow_41 (by decide) (fun c41 => ?_) (fun c41 => ?_)
        · skip
          have d41 := c41
          rw [fa_le] at d41
          refine lv_iconst (v := 0) hx hb dX10_shadow_48 (by decide) ?_
          refine lv_istore (lv' := [(7, .int (0 : Int32)), (0, .ref mo), (1, .int w), (2, .int h), (3, .long p0), (5, .int way), (6, .int line)]) hx hb dX10_shadow_49 hl (by decide) rfl (fun ls hl => ?_)
          refine lv_iload hx hb dX10_shadow_51 (lv_at hl 0 rfl) ?_
          refine lv_if_eq (tgt := 69) hx hb dX10_shadow_53 (by decide) (fun c53 => ?_) (fun c53 => ?_)
          · skip
            have d53 := c53
            rw [fa_eq] at d53
            refine lv_iconst (v := (-1)) hx hb dX10_shadow_69 (by decide) ?_
            exact W.iret (v := ((-1) : Int32)) hx hb hr (fun t ht hW => ⟨⟨_, ((upd f 0 (0 : Int32)), g, r, q), rfl, ⟨rfl, trivial⟩, by unfold mB; rw [ht]; exact hP⟩, hS.F ht⟩) hS.2.2 dX10_shadow_70
          · first | exact absurd c53 (by decide) | exact absurd (by decide) c53
        · skip
          have d41 := c41
          rw [fa_le] at d41
          refine lv_iconst (v := 1) hx hb dX10_shadow_44 (by decide) ?_
          refine lv_goto (tgt := 49) hx hb dX10_shadow_45 (by decide) ?_
          refine lv_istore (lv' := [(7, .int (1 : Int32)), (0, .ref mo), (1, .int w), (2, .int h), (3, .long p0), (5, .int way), (6, .int line)]) hx hb dX10_shadow_49 hl (by decide) rfl (fun ls hl => ?_)
          refine lv_iload hx hb dX10_shadow_51 (lv_at hl 0 rfl) ?_
          refine lv_if_eq (tgt := 69) hx hb dX10_shadow_53 (by decide) (fun c53 => ?_) (fun c53 => ?_)
          · first | exact absurd c53 (by decide) | exact absurd (by decide) c53
          · skip
            have d53 := c53
            rw [fa_eq] at d53
            refine lv_iload_n hx hb dX10_shadow_56 rfl (lv_at hl 2 rfl) ?_
            refine lv_iload_n hx hb dX10_shadow_57 rfl (lv_at hl 3 rfl) ?_
            refine lv_lload_n hx hb dX10_shadow_58 rfl (lv_at hl 4 rfl) ?_
            refine lv_iload hx hb dX10_shadow_59 (lv_at hl 5 rfl) ?_
            refine lv_iload hx hb dX10_shadow_61 (lv_at hl 6 rfl) ?_
            refine m_pu (As := [.int w, .int h, .long p0, .int way, .int line]) (rest := []) ⟨hx, hb, hml, hown, hts⟩ (c_X10_shadowOf l w h p0 way line b11.1.1 b11.1.2) (va_cwS 5 hts gX10_shadow_X10_shadowOf rfl rfl rfl (by decide +kernel) ⟨Nat.le_of_ble_eq_true rfl, Nat.le_of_ble_eq_true rfl⟩) hP rfl hl.1 rfl (Nat.le_of_ble_eq_true rfl) dX10_shadow_63 ⟨Nat.le_of_ble_eq_true rfl, Nat.le_of_ble_eq_true rfl⟩ hS (fun r63 H locs q63 hP hS => ?_)
            refine lv_goto (tgt := 70) hx hb dX10_shadow_66 (by decide) ?_
            exact W.iret (v := r63) hx hb hr (fun t ht hW => ⟨⟨_, ((upd f 0 (0 : Int32)), g, r, q), rfl, ⟨rfl, trivial⟩, by unfold mB; rw [ht]; exact hP⟩, hS.F ht⟩) hS.2.2 dX10_shadow_70
set_option maxHeartbeats 4000000 in
set_option maxRecDepth 100000 in
theorem c_X10_cast (l : Launch) (D : va_G) (cy : Nat → ClassId) (mo : Nat) (a : Nat → Nat) (f : Nat → Int32) (g : Nat → Int64) (r : Nat → Nat → Int32) (q : Nat → Nat → Int64) (j : Int32) (way : Int32) (p0 : Int64) (hD : DM cy mo a) (hI : MI f r) : Mi l D cy mo a yX10_cast wsX10_cast ({ frames := 3, cells := 0, slots := 0, locals := 69 }) f g r q [.int j, .int way, .long p0] (fun r0 u => ∃ (sm : Nat → Int32), ∃ (tl : Nat → Int32), u = ((upd f 0 (0 : Int32)), g, (va_up (va_up r 5 sm) 6 tl), q) ∧ (True)) := by
  refine Met.ofW (cc := cX10_cast) (maxL := 6) (ret := (some .int)) (by decide) rfl ?_
  intro p e s m args below meth c s₁ B hml hv
  obtain ⟨rfl, hP, hK⟩ := hv
  have hx := B.exec
  have hb := B.bytes
  have hr := B.returns
  have hts := atoms_spec (ws := wsX10_cast) B.pre
  have hin : ∀ w ∈ u_ws RX10 TX10 35, w ∈ wsX10_cast := by decide +kernel
  have hown : s.vm.findClass RX10 = some m.cls := findClass_of_methodNamed B.named
  have hlocks := B.notSynchronized
  have hS : va_S (AM mo a) s.heap s.heap [] := va_S.rf
  have hl := lv_entry ([.ref mo, .int j, .int way, .long p0]) (n := 6) (Nat.le_of_ble_eq_true rfl)
  rw [lg_entry_eq]
  generalize (lg_sl ([.ref mo, .int j, .int way, .long p0]) ++ List.replicate (6 - (lg_sl ([.ref mo, .int j, .int way, .long p0])).length) Slot.unset).toArray = ls at hl ⊢
  have hl : lv_has ls 6 [(0, .ref mo), (1, .int j), (2, .int way), (3, .long p0)] := hl
  have k_m1 : (-1 : Int32).toInt = -1 := by decide
  have k_0 : (0 : Int32).toInt = 0 := by decide
  have k_11 : (11 : Int32).toInt = 11 := by decide
  have k_44 : (44 : Int32).toInt = 44 := by decide
  have hI1 := hI.1
  refine lv_aload_n hx hb dX10_cast_0 rfl (lv_at hl 0 rfl) ?_
  refine lv_iconst (v := 0) hx hb dX10_cast_1 (by decide) ?_
  refine m_put (v := .int (0 : Int32)) (ty := .int) hx hb hts hin hown hK hP hD hS 0 (by decide) rfl (hts (.fieldLink RX10 79 "ShadowBenchModel" "thrown" "I") (by decide +kernel)) rfl (by decide +kernel) rfl rfl (upd f 0 (0 : Int32)) g rfl dX10_cast_2 (fun H locs hP hS => ?_)
  refine lv_aload_n hx hb dX10_cast_5 rfl (lv_at hl 0 rfl) ?_
  refine lv_iload_n hx hb dX10_cast_6 rfl (lv_at hl 1 rfl) ?_
  refine lv_iload_n hx hb dX10_cast_7 rfl (lv_at hl 2 rfl) ?_
  refine lv_iconst (v := 0) hx hb dX10_cast_8 (by decide) ?_
  refine m_calli (As := [.int j, .int way, .int (0 : Int32)]) (rest := []) ⟨hx, hb, hml, hown, hts⟩ (c_X10_isLine l D cy mo a (upd f 0 (0 : Int32)) g r q j way (0 : Int32) hD hI) (cwV 3 hts gX10_cast_X10_isLine rfl rfl rfl (by decide +kernel) ⟨Nat.le_of_ble_eq_true rfl, Nat.le_of_ble_eq_true rfl⟩) hK hP rfl hl.1 rfl (Nat.le_of_ble_eq_true rfl) dX10_cast_9 ⟨Nat.le_of_ble_eq_true rfl, Nat.le_of_ble_eq_true rfl⟩ hS (fun r9 u H locs q9 hP hS => ?_)
  obtain ⟨rfl, q9⟩ := q9
  have hP : va_P D vwCl (WM cy mo a (upd f 0 (0 : Int32)) g r q) H := hP
  have q9 : Bo r9 (((0 ≤ j.toInt ∧ j.toInt < ((f 1)).toInt) ∧ 0 ≤ way.toInt ∧ way.toInt ≤ 3) ∧ 0 ≤ (0 : Int32).toInt ∧ (0 : Int32).toInt < (r_lines ((r 3) j.toNatClampNeg) ((r 4) j.toNatClampNeg) way).toInt) := q9
  refine lv_if_eq (tgt := 34) hx hb dX10_cast_12 (by decide) (fun c12 => ?_) (fun c12 => ?_)
  · skip
    have b12 := bo_f q9 c12
    refine lv_iconst (v := (-1)) hx hb dX10_cast_34 (by decide) ?_
    exact W.iret (v := ((-1) : Int32)) hx hb hr (fun t ht hW => ⟨⟨_, ((upd f 0 (0 : Int32)), g, (va_up (va_up r 5 (r 5)) 6 (r 6)), q), rfl, ⟨(r 5), (r 6), rfl, trivial⟩, by unfold mB; rw [ht]; exact hP⟩, hS.F ht⟩) hS.2.2 dX10_cast_35
  · skip
    have b12 := bo_t q9 c12
    refine lv_aload_n hx hb dX10_cast_15 rfl (lv_at hl 0 rfl) ?_
    refine m_get (v := .ref (a 3)) hx hb hts hin hown hK hP 3 (by decide) rfl (hts (.fieldLink RX10 13 "ShadowBenchModel" "wide" "[I") (by decide +kernel)) rfl dX10_cast_16 ?_
    refine lv_iload_n hx hb dX10_cast_19 rfl (lv_at hl 1 rfl) ?_
    refine m_iald (w := (r 3)) hx hb hK hP 2 rfl (vp_in_iff.mpr ⟨by omega, by omega⟩) dX10_cast_20 ?_
    refine lv_topi (fun v20 e20 => ?_)
    have i20 : v20.toInt = ((r 3) j.toNatClampNeg).toInt := congrArg Int32.toInt e20
    have w20 := mi_w hI (x := j) (by omega) (by omega) e20
    refine lv_aload_n hx hb dX10_cast_21 rfl (lv_at hl 0 rfl) ?_
    refine m_get (v := .ref (a 4)) hx hb hts hin hown hK hP 4 (by decide) rfl (hts (.fieldLink RX10 16 "ShadowBenchModel" "high" "[I") (by decide +kernel)) rfl dX10_cast_22 ?_
    refine lv_iload_n hx hb dX10_cast_25 rfl (lv_at hl 1 rfl) ?_
    refine m_iald (w := (r 4)) hx hb hK hP 3 rfl (vp_in_iff.mpr ⟨by omega, by omega⟩) dX10_cast_26 ?_
    refine lv_topi (fun v26 e26 => ?_)
    have i26 : v26.toInt = ((r 4) j.toNatClampNeg).toInt := congrArg Int32.toInt e26
    have w26 := mi_h hI (x := j) (by omega) (by omega) e26
    refine lv_lload_n hx hb dX10_cast_27 rfl (lv_at hl 3 rfl) ?_
    refine m_pu (As := [.int v20, .int v26, .long p0]) (rest := []) ⟨hx, hb, hml, hown, hts⟩ (c_X10_isPicture l v20 v26 p0 ) (va_cwS 3 hts gX10_cast_X10_isPicture rfl rfl rfl (by decide +kernel) ⟨Nat.le_of_ble_eq_true rfl, Nat.le_of_ble_eq_true rfl⟩) hP rfl hl.1 rfl (Nat.le_of_ble_eq_true rfl) dX10_cast_28 ⟨Nat.le_of_ble_eq_true rfl, Nat.le_of_ble_eq_true rfl⟩ hS (fun r28 H locs q28 hP hS => ?_)
    refine lv_if_ne (tgt := 36) hx hb dX10_cast_31 (by decide) (fun c31 => ?_) (fun c31 => ?_)
    · skip
      have b31 := bo_t q28 c31
      refine lv_aload_n hx hb dX10_cast_36 rfl (lv_at hl 0 rfl) ?_
      refine lv_iload_n hx hb dX10_cast_37 rfl (lv_at hl 1 rfl) ?_
      refine lv_iload_n hx hb dX10_cast_38 rfl (lv_at hl 2 rfl) ?_
      refine m_callv (As := [.int j, .int way]) (rest := []) ⟨hx, hb, hml, hown, hts⟩ (c_X10_tell l D cy mo a (upd f 0 (0 : Int32)) g r q j way hD (show 0 ≤ j.toInt ∧ j.toInt < 8 by omega) (show 0 ≤ way.toInt ∧ way.toInt ≤ 3 by omega)) (cwV 2 hts gX10_cast_X10_tell rfl rfl rfl (by decide +kernel) ⟨Nat.le_of_ble_eq_true rfl, Nat.le_of_ble_eq_true rfl⟩) hK hP rfl hl.1 rfl (Nat.le_of_ble_eq_true rfl) dX10_cast_39 ⟨Nat.le_of_ble_eq_true rfl, Nat.le_of_ble_eq_true rfl⟩ hS (fun u H locs q39 hP hS => ?_)
      obtain ⟨sm_39, tl_39, rfl, q39⟩ := q39
      have hP : va_P D vwCl (WM cy mo a (upd f 0 (0 : Int32)) g (va_up (va_up r 5 sm_39) 6 tl_39) q) H := hP
      have q39 : True := q39
      refine lv_iconst (v := 0) hx hb dX10_cast_42 (by decide) ?_
      refine lv_istore (lv' := [(5, .int (0 : Int32)), (0, .ref mo), (1, .int j), (2, .int way), (3, .long p0)]) hx hb dX10_cast_43 hl (by decide) rfl (fun ls hl => ?_)
      have loop_45 : ∀ (n : Nat) (k : Nat) (sm : Nat → Int32), (k ≤ 11) → 11 - k < n → ∀ (H : Heap) (locs : List Loc), va_P D vwCl (WM cy mo a (upd f 0 (0 : Int32)) g (va_up (va_up r 6 tl_39) 5 sm) q) H → va_S (AM mo a) s.heap H locs → ∀ (ls : Array Slot), lv_has ls 6 [(5, .int (nI k)), (0, .ref mo), (1, .int j), (2, .int way), (3, .long p0)] → W p l e (headSpec wsX10_cast ({ frames := 3, cells := 0, slots := 0, locals := 69 })).room s m #[Value.ref mo, Value.int j, Value.int way, Value.long p0] below meth c H locs 0 0 (MQ below (va_Qi (fun r0 u => ∃ (sm : Nat → Int32), ∃ (tl : Nat → Int32), u = ((upd f 0 (0 : Int32)), g, (va_up (va_up r 5 sm) 6 tl), q) ∧ (True)) (mB D cy mo a) (AM mo a)) #[Value.ref mo, Value.int j, Value.int way, Value.long p0] s 0 0 (AM mo a)) (F0 m 45 ls []) := by
        intro n
        induction n with
        | zero => intro k sm j45_0 hn; exact absurd hn (Nat.not_lt_zero _)
        | succ n ih_45 =>
          intro k sm j45_0 hn_45 H locs hP hS ls hl
          have ik : (nI k).toInt = (k : Int) := nI_toInt (by omega)
          refine lv_iload hx hb dX10_cast_45 (lv_at hl 0 rfl) ?_
          refine lv_aload_n hx hb dX10_cast_47 rfl (lv_at hl 1 rfl) ?_
          refine m_get (v := .ref (a 3)) hx hb hts hin hown hK hP 3 (by decide) rfl (hts (.fieldLink RX10 13 "ShadowBenchModel" "wide" "[I") (by decide +kernel)) rfl dX10_cast_48 ?_
          refine lv_iload_n hx hb dX10_cast_51 rfl (lv_at hl 2 rfl) ?_
          refine m_iald (w := (r 3)) hx hb hK hP 2 rfl (vp_in_iff.mpr ⟨by omega, by omega⟩) dX10_cast_52 ?_
          refine lv_topi (fun v52 e52 => ?_)
          have i52 : v52.toInt = ((r 3) j.toNatClampNeg).toInt := congrArg Int32.toInt e52
          have w52 := mi_w hI (x := j) (by omega) (by omega) e52
          refine lv_aload_n hx hb dX10_cast_53 rfl (lv_at hl 1 rfl) ?_
          refine m_get (v := .ref (a 4)) hx hb hts hin hown hK hP 4 (by decide) rfl (hts (.fieldLink RX10 16 "ShadowBenchModel" "high" "[I") (by decide +kernel)) rfl dX10_cast_54 ?_
          refine lv_iload_n hx hb dX10_cast_57 rfl (lv_at hl 2 rfl) ?_
          refine m_iald (w := (r 4)) hx hb hK hP 3 rfl (vp_in_iff.mpr ⟨by omega, by omega⟩) dX10_cast_58 ?_
          refine lv_topi (fun v58 e58 => ?_)
          have i58 : v58.toInt = ((r 4) j.toNatClampNeg).toInt := congrArg Int32.toInt e58
          have w58 := mi_h hI (x := j) (by omega) (by omega) e58
          refine lv_iload_n hx hb dX10_cast_59 rfl (lv_at hl 3 rfl) ?_
          refine m_pu (As := [.int v52, .int v58, .int way]) (rest := [.int (nI k)]) ⟨hx, hb, hml, hown, hts⟩ (c_X10_linesOf l v52 v58 way ) (va_cwS 3 hts gX10_cast_X10_linesOf rfl rfl rfl (by decide +kernel) ⟨Nat.le_of_ble_eq_true rfl, Nat.le_of_ble_eq_true rfl⟩) hP rfl hl.1 rfl (Nat.le_of_ble_eq_true rfl) dX10_cast_60 ⟨Nat.le_of_ble_eq_true rfl, Nat.le_of_ble_eq_true rfl⟩ hS (fun r60 H locs q60 hP hS => ?_)
          have i60 : r60.toInt = (r_lines v52 v58 way).toInt := congrArg Int32.toInt q60
          have hlb := lines_lt w52 w58 way
          refine lv_icmp_ge (tgt := 108) hx hb dX10_cast_63 (by decide) (fun c63 => ?_) (fun c63 => ?_)
          · skip
            have d63 := c63
            rw [fa_le] at d63
            refine lv_lload_n hx hb dX10_cast_108 rfl (lv_at hl 4 rfl) ?_
            refine m_pu (As := [.long p0]) (rest := []) ⟨hx, hb, hml, hown, hts⟩ (c_X10_countOnes l p0 ) (va_cwS 1 hts gX10_cast_X10_countOnes rfl rfl rfl (by decide +kernel) ⟨Nat.le_of_ble_eq_true rfl, Nat.le_of_ble_eq_true rfl⟩) hP rfl hl.1 rfl (Nat.le_of_ble_eq_true rfl) dX10_cast_109 ⟨Nat.le_of_ble_eq_true rfl, Nat.le_of_ble_eq_true rfl⟩ hS (fun r109 H locs q109 hP hS => ?_)
            exact W.iret (v := r109) hx hb hr (fun t ht hW => ⟨⟨_, ((upd f 0 (0 : Int32)), g, (va_up (va_up r 5 sm) 6 tl_39), q), rfl, ⟨sm, tl_39, rfl, trivial⟩, by unfold mB; rw [ht]; exact hP⟩, hS.F ht⟩) hS.2.2 dX10_cast_112
          · skip
            have d63 := c63
            rw [fa_le] at d63
            refine lv_aload_n hx hb dX10_cast_66 rfl (lv_at hl 1 rfl) ?_
            refine m_get (v := .ref (a 5)) hx hb hts hin hown hK hP 5 (by decide) rfl (hts (.fieldLink RX10 19 "ShadowBenchModel" "sums" "[I") (by decide +kernel)) rfl dX10_cast_67 ?_
            refine lv_bipush (v := 44) hx hb dX10_cast_70 (by decide) ?_
            refine lv_iload_n hx hb dX10_cast_72 rfl (lv_at hl 2 rfl) ?_
            refine lv_imul hx hb dX10_cast_73 ?_
            refine lv_topi (fun v73 e73 => ?_)
            have i73 : v73.toInt = 44 * j.toInt := by rw [e73]; exact mulcL rfl (by omega) (by omega)
            refine lv_bipush (v := 11) hx hb dX10_cast_74 (by decide) ?_
            refine lv_iload_n hx hb dX10_cast_76 rfl (lv_at hl 3 rfl) ?_
            refine lv_imul hx hb dX10_cast_77 ?_
            refine lv_topi (fun v77 e77 => ?_)
            have i77 : v77.toInt = 11 * way.toInt := by rw [e77]; exact mulcL rfl (by omega) (by omega)
            refine lv_iadd hx hb dX10_cast_78 ?_
            refine lv_topi (fun v78 e78 => ?_)
            have i78 : v78.toInt = v73.toInt + v77.toInt := by rw [e78]; exact fb_addI (by omega) (by omega)
            refine lv_iload hx hb dX10_cast_79 (lv_at hl 0 rfl) ?_
            refine lv_iadd hx hb dX10_cast_81 ?_
            refine lv_topi (fun v81 e81 => ?_)
            have i81 : v81.toInt = v78.toInt + (nI k).toInt := by rw [e81]; exact fb_addI (by omega) (by omega)
            refine lv_aload_n hx hb dX10_cast_82 rfl (lv_at hl 1 rfl) ?_
            refine m_get (v := .ref (a 3)) hx hb hts hin hown hK hP 3 (by decide) rfl (hts (.fieldLink RX10 13 "ShadowBenchModel" "wide" "[I") (by decide +kernel)) rfl dX10_cast_83 ?_
            refine lv_iload_n hx hb dX10_cast_86 rfl (lv_at hl 2 rfl) ?_
            refine m_iald (w := (r 3)) hx hb hK hP 2 rfl (vp_in_iff.mpr ⟨by omega, by omega⟩) dX10_cast_87 ?_
            refine lv_topi (fun v87 e87 => ?_)
            have i87 : v87.toInt = ((r 3) j.toNatClampNeg).toInt := congrArg Int32.toInt e87
            have w87 := mi_w hI (x := j) (by omega) (by omega) e87
            refine lv_aload_n hx hb dX10_cast_88 rfl (lv_at hl 1 rfl) ?_
            refine m_get (v := .ref (a 4)) hx hb hts hin hown hK hP 4 (by decide) rfl (hts (.fieldLink RX10 16 "ShadowBenchModel" "high" "[I") (by decide +kernel)) rfl dX10_cast_89 ?_
            refine lv_iload_n hx hb dX10_cast_92 rfl (lv_at hl 2 rfl) ?_
            refine m_iald (w := (r 4)) hx hb hK hP 3 rfl (vp_in_iff.mpr ⟨by omega, by omega⟩) dX10_cast_93 ?_
            refine lv_topi (fun v93 e93 => ?_)
            have i93 : v93.toInt = ((r 4) j.toNatClampNeg).toInt := congrArg Int32.toInt e93
            have w93 := mi_h hI (x := j) (by omega) (by omega) e93
            refine lv_lload_n hx hb dX10_cast_94 rfl (lv_at hl 4 rfl) ?_
            refine lv_iload_n hx hb dX10_cast_95 rfl (lv_at hl 3 rfl) ?_
            refine lv_iload hx hb dX10_cast_96 (lv_at hl 0 rfl) ?_
            refine m_pu (As := [.int v87, .int v93, .long p0, .int way, .int (nI k)]) (rest := [.int v81, .ref (a 5)]) ⟨hx, hb, hml, hown, hts⟩ (c_X10_shadowOf l v87 v93 p0 way (nI k) w87 w93) (va_cwS 5 hts gX10_cast_X10_shadowOf rfl rfl rfl (by decide +kernel) ⟨Nat.le_of_ble_eq_true rfl, Nat.le_of_ble_eq_true rfl⟩) hP rfl hl.1 rfl (Nat.le_of_ble_eq_true rfl) dX10_cast_98 ⟨Nat.le_of_ble_eq_true rfl, Nat.le_of_ble_eq_true rfl⟩ hS (fun r98 H locs q98 hP hS => ?_)
            refine m_iast (w := sm) hx hb hK hP hD hS 4 rfl (vp_in_iff.mpr ⟨by omega, by omega⟩) (va_up (va_up r 6 tl_39) 5 (upd sm v81.toNatClampNeg r98)) rfl dX10_cast_101 (fun H locs hP hS => ?_)
            refine lv_iinc (v := (nI (k + 1))) (lv' := [(5, .int (nI (k + 1))), (0, .ref mo), (1, .int j), (2, .int way), (3, .long p0)]) hx hb dX10_cast_102 hl (k := 0) rfl (nI_1 _) (by decide) rfl (fun ls hl => ?_)
            refine lv_goto (tgt := 45) hx hb dX10_cast_105 (by decide) ?_
            exact ih_45 (k + 1) (upd sm v81.toNatClampNeg r98) (by omega) (by omega) _ _ hP hS ls (lv_sub hl [0, 1, 2, 3, 4] rfl)
      exact loop_45 (11 + 1) 0 sm_39 (by omega) (by omega) _ _ hP hS ls (lv_sub hl [0, 1, 2, 3, 4] rfl)
    · skip
      have b31 := bo_f q28 c31
      refine lv_iconst (v := (-1)) hx hb dX10_cast_34 (by decide) ?_
      exact W.iret (v := ((-1) : Int32)) hx hb hr (fun t ht hW => ⟨⟨_, ((upd f 0 (0 : Int32)), g, (va_up (va_up r 5 (r 5)) 6 (r 6)), q), rfl, ⟨(r 5), (r 6), rfl, trivial⟩, by unfold mB; rw [ht]; exact hP⟩, hS.F ht⟩) hS.2.2 dX10_cast_35
