
/-- the reference's small functions, as numbers -/
def r_one (p : Int64) (s : Int32) : Int32 := ((p >>> (s.toInt64 &&& 63)) &&& 1).toInt32
def r_lines (w h way : Int32) : Int32 := if way = 0 then h else if way = 1 then w else w + h - 1
def r_line (h way x y : Int32) : Int32 := if way = 0 then y else if way = 1 then x else if way = 2 then x - y + h - 1 else x + y
def r_sh (w h : Int32) (p : Int64) (way line : Int32) : Nat → Int32
  | 0 => 0
  | k + 1 => r_sh w h p way line k + (if r_line h way (nI k - nI k / w * w) (nI k / w) = line then r_one p (nI k) else 0)
def r_top (w h : Int32) : Int64 := (1 : Int64) <<< ((w * h).toInt64 &&& 63)
def r_ones (p : Int64) : Nat → Int32
  | 0 => 0
  | k + 1 => r_ones p k + r_one p (nI k)
theorem mul66 {w h : Int32} (hw : 1 ≤ w.toInt ∧ w.toInt ≤ 6) (hh : 1 ≤ h.toInt ∧ h.toInt ≤ 6) : 1 ≤ w.toInt * h.toInt ∧ w.toInt * h.toInt ≤ 36 := by
  have h1 : w.toInt = 1 ∨ w.toInt = 2 ∨ w.toInt = 3 ∨ w.toInt = 4 ∨ w.toInt = 5 ∨ w.toInt = 6 := by omega
  rcases h1 with e | e | e | e | e | e <;> rw [e] <;> omega
set_option maxHeartbeats 4000000 in
set_option maxRecDepth 100000 in
theorem c_X10_isIn (l : Launch) (v : Int64) (lo : Int64) (hi : Int64)  : Pu l yX10_isIn wsX10_isIn ({ frames := 0, cells := 0, slots := 0, locals := 0 }) [.long v, .long lo, .long hi] (fun r => Bo r (lo.toInt ≤ v.toInt ∧ v.toInt ≤ hi.toInt)) := by
  refine Met.ofW (cc := cX10_isIn) (maxL := 6) (ret := (some .boolean)) (by decide) rfl ?_
  intro p e s m args below meth c s₁ B hml hv
  obtain ⟨rfl, -⟩ := hv
  have hx := B.exec
  have hb := B.bytes
  have hr := B.returns
  have hts := atoms_spec (ws := wsX10_isIn) B.pre
  have hown : s.vm.findClass RX10 = some m.cls := findClass_of_methodNamed B.named
  have hlocks := B.notSynchronized
  have hS : va_S (fun _ => False) s.heap s.heap [] := va_S.rf
  have hl := lv_entry ([.long v, .long lo, .long hi]) (n := 6) (Nat.le_of_ble_eq_true rfl)
  rw [lg_entry_eq]
  generalize (lg_sl ([.long v, .long lo, .long hi]) ++ List.replicate (6 - (lg_sl ([.long v, .long lo, .long hi])).length) Slot.unset).toArray = ls at hl ⊢
  have hl : lv_has ls 6 [(0, .long v), (2, .long lo), (4, .long hi)] := hl
  have hS0 := hS
  have k_0 : (0 : Int32).toInt = 0 := by decide
  have k_1 : (1 : Int32).toInt = 1 := by decide
  refine lv_lload_n hx hb dX10_isIn_0 rfl (lv_at hl 0 rfl) ?_
  refine lv_lload_n hx hb dX10_isIn_1 rfl (lv_at hl 1 rfl) ?_
  refine W.lcmp hx hb dX10_isIn_2 ?_
  refine lv_if_lt (tgt := 17) hx hb dX10_isIn_3 (by decide) (fun c3 => ?_) (fun c3 => ?_)
  · skip
    have d3 := c3
    rw [lg_cmp_lt, fa_lt64] at d3
    refine lv_iconst (v := 0) hx hb dX10_isIn_17 (by decide) ?_
    exact W.zret (v := (0 : Int32)) hx hb hr (by decide) (fun t ht hW => ⟨⟨_, (), rfl, Or.inr ⟨rfl, by omega⟩, trivial⟩, hS.F ht⟩) hS.2.2 dX10_isIn_18
  · skip
    have d3 := c3
    rw [lg_cmp_lt, fa_lt64] at d3
    refine lv_lload_n hx hb dX10_isIn_6 rfl (lv_at hl 0 rfl) ?_
    refine lv_lload hx hb dX10_isIn_7 (lv_at hl 2 rfl) ?_
    refine W.lcmp hx hb dX10_isIn_9 ?_
    refine lv_if_gt (tgt := 17) hx hb dX10_isIn_10 (by decide) (fun c10 => ?_) (fun c10 => ?_)
    · skip
      have d10 := c10
      rw [lg_cmp_gt, fa_lt64] at d10
      refine lv_iconst (v := 0) hx hb dX10_isIn_17 (by decide) ?_
      exact W.zret (v := (0 : Int32)) hx hb hr (by decide) (fun t ht hW => ⟨⟨_, (), rfl, Or.inr ⟨rfl, by omega⟩, trivial⟩, hS.F ht⟩) hS.2.2 dX10_isIn_18
    · skip
      have d10 := c10
      rw [lg_cmp_gt, fa_lt64] at d10
      refine lv_iconst (v := 1) hx hb dX10_isIn_13 (by decide) ?_
      refine lv_goto (tgt := 18) hx hb dX10_isIn_14 (by decide) ?_
      exact W.zret (v := (1 : Int32)) hx hb hr (by decide) (fun t ht hW => ⟨⟨_, (), rfl, Or.inl ⟨rfl, by omega⟩, trivial⟩, hS.F ht⟩) hS.2.2 dX10_isIn_18
set_option maxHeartbeats 4000000 in
set_option maxRecDepth 100000 in
theorem c_X10_isBoard (l : Launch) (w : Int32) (h : Int32)  : Pu l yX10_isBoard wsX10_isBoard ({ frames := 1, cells := 0, slots := 0, locals := 25 }) [.int w, .int h] (fun r => Bo r ((1 ≤ w.toInt ∧ w.toInt ≤ 6) ∧ (1 ≤ h.toInt ∧ h.toInt ≤ 6))) := by
  refine Met.ofW (cc := cX10_isBoard) (maxL := 2) (ret := (some .boolean)) (by decide) rfl ?_
  intro p e s m args below meth c s₁ B hml hv
  obtain ⟨rfl, -⟩ := hv
  have hx := B.exec
  have hb := B.bytes
  have hr := B.returns
  have hts := atoms_spec (ws := wsX10_isBoard) B.pre
  have hown : s.vm.findClass RX10 = some m.cls := findClass_of_methodNamed B.named
  have hlocks := B.notSynchronized
  have hS : va_S (fun _ => False) s.heap s.heap [] := va_S.rf
  have hl := lv_entry ([.int w, .int h]) (n := 2) (Nat.le_of_ble_eq_true rfl)
  rw [lg_entry_eq]
  generalize (lg_sl ([.int w, .int h]) ++ List.replicate (2 - (lg_sl ([.int w, .int h])).length) Slot.unset).toArray = ls at hl ⊢
  have hl : lv_has ls 2 [(0, .int w), (1, .int h)] := hl
  have hS0 := hS
  have k_0 : (0 : Int32).toInt = 0 := by decide
  have k_1 : (1 : Int32).toInt = 1 := by decide
  have k_1L : (1 : Int64).toInt = 1 := by decide
  have k_6L : (6 : Int64).toInt = 6 := by decide
  refine lv_iload_n hx hb dX10_isBoard_0 rfl (lv_at hl 0 rfl) ?_
  refine lv_i2l (v := w.toInt64) hx hb dX10_isBoard_1 rfl ?_
  refine lv_lconst (v := 1) hx hb dX10_isBoard_2 (by decide) ?_
  refine lv_ldc2 hx hb hown (hts (.constantLong RX10 83 (6)) (by decide +kernel)) dX10_isBoard_3 ?_
  refine pu_call (As := [.long (w.toInt64), .long (1 : Int64), .long (6 : Int64)]) (rest := []) ⟨hx, hb, hml, hown, hts⟩ (c_X10_isIn l w.toInt64 (1 : Int64) (6 : Int64) ) (va_cwS 3 hts gX10_isBoard_X10_isIn rfl rfl rfl (by decide +kernel) ⟨Nat.le_of_ble_eq_true rfl, Nat.le_of_ble_eq_true rfl⟩) rfl hl.1 rfl (Nat.le_of_ble_eq_true rfl) dX10_isBoard_6 ⟨Nat.le_of_ble_eq_true rfl, Nat.le_of_ble_eq_true rfl⟩ hS (fun r6 H locs q6 hS => ?_)
  have q6 := q6
  simp only [k64, show (0 : Int64).toInt = 0 from rfl, show (1 : Int64).toInt = 1 from rfl, show (2 : Int64).toInt = 2 from rfl, show (3 : Int64).toInt = 3 from rfl, show (6 : Int64).toInt = 6 from rfl] at q6
  refine lv_if_eq (tgt := 28) hx hb dX10_isBoard_9 (by decide) (fun c9 => ?_) (fun c9 => ?_)
  · skip
    have b9 := bo_f q6 c9
    refine lv_iconst (v := 0) hx hb dX10_isBoard_28 (by decide) ?_
    exact W.zret (v := (0 : Int32)) hx hb hr (by decide) (fun t ht hW => ⟨⟨_, (), rfl, Or.inr ⟨rfl, by omega⟩, trivial⟩, hS.F ht⟩) hS.2.2 dX10_isBoard_29
  · skip
    have b9 := bo_t q6 c9
    refine lv_iload_n hx hb dX10_isBoard_12 rfl (lv_at hl 1 rfl) ?_
    refine lv_i2l (v := h.toInt64) hx hb dX10_isBoard_13 rfl ?_
    refine lv_lconst (v := 1) hx hb dX10_isBoard_14 (by decide) ?_
    refine lv_ldc2 hx hb hown (hts (.constantLong RX10 83 (6)) (by decide +kernel)) dX10_isBoard_15 ?_
    refine pu_call (As := [.long (h.toInt64), .long (1 : Int64), .long (6 : Int64)]) (rest := []) ⟨hx, hb, hml, hown, hts⟩ (c_X10_isIn l h.toInt64 (1 : Int64) (6 : Int64) ) (va_cwS 3 hts gX10_isBoard_X10_isIn rfl rfl rfl (by decide +kernel) ⟨Nat.le_of_ble_eq_true rfl, Nat.le_of_ble_eq_true rfl⟩) rfl hl.1 rfl (Nat.le_of_ble_eq_true rfl) dX10_isBoard_18 ⟨Nat.le_of_ble_eq_true rfl, Nat.le_of_ble_eq_true rfl⟩ hS (fun r18 H locs q18 hS => ?_)
    have q18 := q18
    simp only [k64, show (0 : Int64).toInt = 0 from rfl, show (1 : Int64).toInt = 1 from rfl, show (2 : Int64).toInt = 2 from rfl, show (3 : Int64).toInt = 3 from rfl, show (6 : Int64).toInt = 6 from rfl] at q18
    refine lv_if_eq (tgt := 28) hx hb dX10_isBoard_21 (by decide) (fun c21 => ?_) (fun c21 => ?_)
    · skip
      have b21 := bo_f q18 c21
      refine lv_iconst (v := 0) hx hb dX10_isBoard_28 (by decide) ?_
      exact W.zret (v := (0 : Int32)) hx hb hr (by decide) (fun t ht hW => ⟨⟨_, (), rfl, Or.inr ⟨rfl, by omega⟩, trivial⟩, hS.F ht⟩) hS.2.2 dX10_isBoard_29
    · skip
      have b21 := bo_t q18 c21
      refine lv_iconst (v := 1) hx hb dX10_isBoard_24 (by decide) ?_
      refine lv_goto (tgt := 29) hx hb dX10_isBoard_25 (by decide) ?_
      exact W.zret (v := (1 : Int32)) hx hb hr (by decide) (fun t ht hW => ⟨⟨_, (), rfl, Or.inl ⟨rfl, by omega⟩, trivial⟩, hS.F ht⟩) hS.2.2 dX10_isBoard_29
set_option maxHeartbeats 4000000 in
set_option maxRecDepth 100000 in
theorem c_X10_one (l : Launch) (p0 : Int64) (s0 : Int32)  : Pu l yX10_one wsX10_one ({ frames := 0, cells := 0, slots := 0, locals := 0 }) [.long p0, .int s0] (fun r => r = r_one p0 s0) := by
  refine Met.ofW (cc := cX10_one) (maxL := 3) (ret := (some .int)) (by decide) rfl ?_
  intro p e s m args below meth c s₁ B hml hv
  obtain ⟨rfl, -⟩ := hv
  have hx := B.exec
  have hb := B.bytes
  have hr := B.returns
  have hts := atoms_spec (ws := wsX10_one) B.pre
  have hown : s.vm.findClass RX10 = some m.cls := findClass_of_methodNamed B.named
  have hlocks := B.notSynchronized
  have hS : va_S (fun _ => False) s.heap s.heap [] := va_S.rf
  have hl := lv_entry ([.long p0, .int s0]) (n := 3) (Nat.le_of_ble_eq_true rfl)
  rw [lg_entry_eq]
  generalize (lg_sl ([.long p0, .int s0]) ++ List.replicate (3 - (lg_sl ([.long p0, .int s0])).length) Slot.unset).toArray = ls at hl ⊢
  have hl : lv_has ls 3 [(0, .long p0), (2, .int s0)] := hl
  have hS0 := hS
  have k_0 : (0 : Int32).toInt = 0 := by decide
  have k_1L : (1 : Int64).toInt = 1 := by decide
  refine lv_lload_n hx hb dX10_one_0 rfl (lv_at hl 0 rfl) ?_
  refine lv_iload_n hx hb dX10_one_1 rfl (lv_at hl 1 rfl) ?_
  refine lv_lshr (v := p0 >>> (s0.toInt64 &&& 63)) hx hb dX10_one_2 rfl ?_
  refine lv_lconst (v := 1) hx hb dX10_one_3 (by decide) ?_
  refine lv_land hx hb dX10_one_4 ?_
  refine lv_topl (fun v4 e4 => ?_)
  refine lv_l2i (v := v4.toInt32) hx hb dX10_one_5 rfl ?_
  exact W.iret (v := v4.toInt32) hx hb hr (fun t ht hW => ⟨⟨_, (), rfl, by simp only [r_one, *], trivial⟩, hS.F ht⟩) hS.2.2 dX10_one_6
set_option maxHeartbeats 4000000 in
set_option maxRecDepth 100000 in
theorem c_X10_linesOf (l : Launch) (w : Int32) (h : Int32) (way : Int32)  : Pu l yX10_linesOf wsX10_linesOf ({ frames := 0, cells := 0, slots := 0, locals := 0 }) [.int w, .int h, .int way] (fun r => r = r_lines w h way) := by
  refine Met.ofW (cc := cX10_linesOf) (maxL := 3) (ret := (some .int)) (by decide) rfl ?_
  intro p e s m args below meth c s₁ B hml hv
  obtain ⟨rfl, -⟩ := hv
  have hx := B.exec
  have hb := B.bytes
  have hr := B.returns
  have hts := atoms_spec (ws := wsX10_linesOf) B.pre
  have hown : s.vm.findClass RX10 = some m.cls := findClass_of_methodNamed B.named
  have hlocks := B.notSynchronized
  have hS : va_S (fun _ => False) s.heap s.heap [] := va_S.rf
  have hl := lv_entry ([.int w, .int h, .int way]) (n := 3) (Nat.le_of_ble_eq_true rfl)
  rw [lg_entry_eq]
  generalize (lg_sl ([.int w, .int h, .int way]) ++ List.replicate (3 - (lg_sl ([.int w, .int h, .int way])).length) Slot.unset).toArray = ls at hl ⊢
  have hl : lv_has ls 3 [(0, .int w), (1, .int h), (2, .int way)] := hl
  have hS0 := hS
  have k_0 : (0 : Int32).toInt = 0 := by decide
  have k_1 : (1 : Int32).toInt = 1 := by decide
  refine lv_iload_n hx hb dX10_linesOf_0 rfl (lv_at hl 2 rfl) ?_
  refine lv_if_ne (tgt := 8) hx hb dX10_linesOf_1 (by decide) (fun c1 => ?_) (fun c1 => ?_)
  · skip
    have d1 := c1
    rw [fa_eq] at d1
    refine lv_iload_n hx hb dX10_linesOf_8 rfl (lv_at hl 2 rfl) ?_
    refine lv_iconst (v := 1) hx hb dX10_linesOf_9 (by decide) ?_
    refine lv_icmp_ne (tgt := 17) hx hb dX10_linesOf_10 (by decide) (fun c10 => ?_) (fun c10 => ?_)
    · skip
      have d10 := c10
      rw [fa_eq] at d10
      refine lv_iload_n hx hb dX10_linesOf_17 rfl (lv_at hl 0 rfl) ?_
      refine lv_iload_n hx hb dX10_linesOf_18 rfl (lv_at hl 1 rfl) ?_
      refine lv_iadd hx hb dX10_linesOf_19 ?_
      refine lv_topi (fun v19 e19 => ?_)
      refine lv_iconst (v := 1) hx hb dX10_linesOf_20 (by decide) ?_
      refine lv_isub hx hb dX10_linesOf_21 ?_
      refine lv_topi (fun v21 e21 => ?_)
      exact W.iret (v := v21) hx hb hr (fun t ht hW => ⟨⟨_, (), rfl, by simp_all [r_lines], trivial⟩, hS.F ht⟩) hS.2.2 dX10_linesOf_22
    · skip
      have d10 := c10
      rw [fa_eq] at d10
      refine lv_iload_n hx hb dX10_linesOf_13 rfl (lv_at hl 0 rfl) ?_
      refine lv_goto (tgt := 22) hx hb dX10_linesOf_14 (by decide) ?_
      exact W.iret (v := w) hx hb hr (fun t ht hW => ⟨⟨_, (), rfl, by simp_all [r_lines], trivial⟩, hS.F ht⟩) hS.2.2 dX10_linesOf_22
  · skip
    have d1 := c1
    rw [fa_eq] at d1
    refine lv_iload_n hx hb dX10_linesOf_4 rfl (lv_at hl 1 rfl) ?_
    refine lv_goto (tgt := 22) hx hb dX10_linesOf_5 (by decide) ?_
    exact W.iret (v := h) hx hb hr (fun t ht hW => ⟨⟨_, (), rfl, by simp_all [r_lines], trivial⟩, hS.F ht⟩) hS.2.2 dX10_linesOf_22
set_option maxHeartbeats 4000000 in
set_option maxRecDepth 100000 in
theorem c_X10_lineOf (l : Launch) (h : Int32) (way : Int32) (x : Int32) (y : Int32)  : Pu l yX10_lineOf wsX10_lineOf ({ frames := 0, cells := 0, slots := 0, locals := 0 }) [.int h, .int way, .int x, .int y] (fun r => r = r_line h way x y) := by
  refine Met.ofW (cc := cX10_lineOf) (maxL := 4) (ret := (some .int)) (by decide) rfl ?_
  intro p e s m args below meth c s₁ B hml hv
  obtain ⟨rfl, -⟩ := hv
  have hx := B.exec
  have hb := B.bytes
  have hr := B.returns
  have hts := atoms_spec (ws := wsX10_lineOf) B.pre
  have hown : s.vm.findClass RX10 = some m.cls := findClass_of_methodNamed B.named
  have hlocks := B.notSynchronized
  have hS : va_S (fun _ => False) s.heap s.heap [] := va_S.rf
  have hl := lv_entry ([.int h, .int way, .int x, .int y]) (n := 4) (Nat.le_of_ble_eq_true rfl)
  rw [lg_entry_eq]
  generalize (lg_sl ([.int h, .int way, .int x, .int y]) ++ List.replicate (4 - (lg_sl ([.int h, .int way, .int x, .int y])).length) Slot.unset).toArray = ls at hl ⊢
  have hl : lv_has ls 4 [(0, .int h), (1, .int way), (2, .int x), (3, .int y)] := hl
  have hS0 := hS
  have k_0 : (0 : Int32).toInt = 0 := by decide
  have k_1 : (1 : Int32).toInt = 1 := by decide
  have k_2 : (2 : Int32).toInt = 2 := by decide
  refine lv_iload_n hx hb dX10_lineOf_0 rfl (lv_at hl 1 rfl) ?_
  refine lv_if_ne (tgt := 8) hx hb dX10_lineOf_1 (by decide) (fun c1 => ?_) (fun c1 => ?_)
  · skip
    have d1 := c1
    rw [fa_eq] at d1
    refine lv_iload_n hx hb dX10_lineOf_8 rfl (lv_at hl 1 rfl) ?_
    refine lv_iconst (v := 1) hx hb dX10_lineOf_9 (by decide) ?_
    refine lv_icmp_ne (tgt := 17) hx hb dX10_lineOf_10 (by decide) (fun c10 => ?_) (fun c10 => ?_)
    · skip
      have d10 := c10
      rw [fa_eq] at d10
      refine lv_iload_n hx hb dX10_lineOf_17 rfl (lv_at hl 1 rfl) ?_
      refine lv_iconst (v := 2) hx hb dX10_lineOf_18 (by decide) ?_
      refine lv_icmp_ne (tgt := 32) hx hb dX10_lineOf_19 (by decide) (fun c19 => ?_) (fun c19 => ?_)
      · skip
        have d19 := c19
        rw [fa_eq] at d19
        refine lv_iload_n hx hb dX10_lineOf_32 rfl (lv_at hl 2 rfl) ?_
        refine lv_iload_n hx hb dX10_lineOf_33 rfl (lv_at hl 3 rfl) ?_
        refine lv_iadd hx hb dX10_lineOf_34 ?_
        refine lv_topi (fun v34 e34 => ?_)
        exact W.iret (v := v34) hx hb hr (fun t ht hW => ⟨⟨_, (), rfl, by simp_all [r_line], trivial⟩, hS.F ht⟩) hS.2.2 dX10_lineOf_35
      · skip
        have d19 := c19
        rw [fa_eq] at d19
        refine lv_iload_n hx hb dX10_lineOf_22 rfl (lv_at hl 2 rfl) ?_
        refine lv_iload_n hx hb dX10_lineOf_23 rfl (lv_at hl 3 rfl) ?_
        refine lv_isub hx hb dX10_lineOf_24 ?_
        refine lv_topi (fun v24 e24 => ?_)
        refine lv_iload_n hx hb dX10_lineOf_25 rfl (lv_at hl 0 rfl) ?_
        refine lv_iadd hx hb dX10_lineOf_26 ?_
        refine lv_topi (fun v26 e26 => ?_)
        refine lv_iconst (v := 1) hx hb dX10_lineOf_27 (by decide) ?_
        refine lv_isub hx hb dX10_lineOf_28 ?_
        refine lv_topi (fun v28 e28 => ?_)
        refine lv_goto (tgt := 35) hx hb dX10_lineOf_29 (by decide) ?_
        exact W.iret (v := v28) hx hb hr (fun t ht hW => ⟨⟨_, (), rfl, by simp_all [r_line], trivial⟩, hS.F ht⟩) hS.2.2 dX10_lineOf_35
    · skip
      have d10 := c10
      rw [fa_eq] at d10
      refine lv_iload_n hx hb dX10_lineOf_13 rfl (lv_at hl 2 rfl) ?_
      refine lv_goto (tgt := 35) hx hb dX10_lineOf_14 (by decide) ?_
      exact W.iret (v := x) hx hb hr (fun t ht hW => ⟨⟨_, (), rfl, by simp_all [r_line], trivial⟩, hS.F ht⟩) hS.2.2 dX10_lineOf_35
  · skip
    have d1 := c1
    rw [fa_eq] at d1
    refine lv_iload_n hx hb dX10_lineOf_4 rfl (lv_at hl 3 rfl) ?_
    refine lv_goto (tgt := 35) hx hb dX10_lineOf_5 (by decide) ?_
    exact W.iret (v := y) hx hb hr (fun t ht hW => ⟨⟨_, (), rfl, by simp_all [r_line], trivial⟩, hS.F ht⟩) hS.2.2 dX10_lineOf_35
set_option maxHeartbeats 4000000 in
set_option maxRecDepth 100000 in
theorem c_X10_isShelf (l : Launch) (d : Int32)  : Pu l yX10_isShelf wsX10_isShelf ({ frames := 0, cells := 0, slots := 0, locals := 0 }) [.int d] (fun r => Bo r (0 ≤ d.toInt ∧ d.toInt < 8)) := by
  refine Met.ofW (cc := cX10_isShelf) (maxL := 1) (ret := (some .boolean)) (by decide) rfl ?_
  intro p e s m args below meth c s₁ B hml hv
  obtain ⟨rfl, -⟩ := hv
  have hx := B.exec
  have hb := B.bytes
  have hr := B.returns
  have hts := atoms_spec (ws := wsX10_isShelf) B.pre
  have hown : s.vm.findClass RX10 = some m.cls := findClass_of_methodNamed B.named
  have hlocks := B.notSynchronized
  have hS : va_S (fun _ => False) s.heap s.heap [] := va_S.rf
  have hl := lv_entry ([.int d]) (n := 1) (Nat.le_of_ble_eq_true rfl)
  rw [lg_entry_eq]
  generalize (lg_sl ([.int d]) ++ List.replicate (1 - (lg_sl ([.int d])).length) Slot.unset).toArray = ls at hl ⊢
  have hl : lv_has ls 1 [(0, .int d)] := hl
  have hS0 := hS
  have k_0 : (0 : Int32).toInt = 0 := by decide
  have k_1 : (1 : Int32).toInt = 1 := by decide
  have k_8 : (8 : Int32).toInt = 8 := by decide
  refine lv_iload_n hx hb dX10_isShelf_0 rfl (lv_at hl 0 rfl) ?_
  refine lv_if_lt (tgt := 14) hx hb dX10_isShelf_1 (by decide) (fun c1 => ?_) (fun c1 => ?_)
  · skip
    have d1 := c1
    rw [fa_lt] at d1
    refine lv_iconst (v := 0) hx hb dX10_isShelf_14 (by decide) ?_
    exact W.zret (v := (0 : Int32)) hx hb hr (by decide) (fun t ht hW => ⟨⟨_, (), rfl, Or.inr ⟨rfl, by omega⟩, trivial⟩, hS.F ht⟩) hS.2.2 dX10_isShelf_15
  · skip
    have d1 := c1
    rw [fa_lt] at d1
    refine lv_iload_n hx hb dX10_isShelf_4 rfl (lv_at hl 0 rfl) ?_
    refine lv_bipush (v := 8) hx hb dX10_isShelf_5 (by decide) ?_
    refine lv_icmp_ge (tgt := 14) hx hb dX10_isShelf_7 (by decide) (fun c7 => ?_) (fun c7 => ?_)
    · skip
      have d7 := c7
      rw [fa_le] at d7
      refine lv_iconst (v := 0) hx hb dX10_isShelf_14 (by decide) ?_
      exact W.zret (v := (0 : Int32)) hx hb hr (by decide) (fun t ht hW => ⟨⟨_, (), rfl, Or.inr ⟨rfl, by omega⟩, trivial⟩, hS.F ht⟩) hS.2.2 dX10_isShelf_15
    · skip
      have d7 := c7
      rw [fa_le] at d7
      refine lv_iconst (v := 1) hx hb dX10_isShelf_10 (by decide) ?_
      refine lv_goto (tgt := 15) hx hb dX10_isShelf_11 (by decide) ?_
      exact W.zret (v := (1 : Int32)) hx hb hr (by decide) (fun t ht hW => ⟨⟨_, (), rfl, Or.inl ⟨rfl, by omega⟩, trivial⟩, hS.F ht⟩) hS.2.2 dX10_isShelf_15
set_option maxHeartbeats 4000000 in
set_option maxRecDepth 100000 in
theorem c_X10_isPicture (l : Launch) (w : Int32) (h : Int32) (p0 : Int64)  : Pu l yX10_isPicture wsX10_isPicture ({ frames := 2, cells := 0, slots := 0, locals := 46 }) [.int w, .int h, .long p0] (fun r => Bo r (((1 ≤ w.toInt ∧ w.toInt ≤ 6) ∧ (1 ≤ h.toInt ∧ h.toInt ≤ 6)) ∧ 0 ≤ p0.toInt ∧ p0.toInt < (r_top w h).toInt)) := by
  refine Met.ofW (cc := cX10_isPicture) (maxL := 4) (ret := (some .boolean)) (by decide) rfl ?_
  intro p e s m args below meth c s₁ B hml hv
  obtain ⟨rfl, -⟩ := hv
  have hx := B.exec
  have hb := B.bytes
  have hr := B.returns
  have hts := atoms_spec (ws := wsX10_isPicture) B.pre
  have hown : s.vm.findClass RX10 = some m.cls := findClass_of_methodNamed B.named
  have hlocks := B.notSynchronized
  have hS : va_S (fun _ => False) s.heap s.heap [] := va_S.rf
  have hl := lv_entry ([.int w, .int h, .long p0]) (n := 4) (Nat.le_of_ble_eq_true rfl)
  rw [lg_entry_eq]
  generalize (lg_sl ([.int w, .int h, .long p0]) ++ List.replicate (4 - (lg_sl ([.int w, .int h, .long p0])).length) Slot.unset).toArray = ls at hl ⊢
  have hl : lv_has ls 4 [(0, .int w), (1, .int h), (2, .long p0)] := hl
  have hS0 := hS
  have k_0 : (0 : Int32).toInt = 0 := by decide
  have k_1 : (1 : Int32).toInt = 1 := by decide
  have k_0L : (0 : Int64).toInt = 0 := by decide
  have k_1L : (1 : Int64).toInt = 1 := by decide
  refine lv_iload_n hx hb dX10_isPicture_0 rfl (lv_at hl 0 rfl) ?_
  refine lv_iload_n hx hb dX10_isPicture_1 rfl (lv_at hl 1 rfl) ?_
  refine pu_call (As := [.int w, .int h]) (rest := []) ⟨hx, hb, hml, hown, hts⟩ (c_X10_isBoard l w h ) (va_cwS 2 hts gX10_isPicture_X10_isBoard rfl rfl rfl (by decide +kernel) ⟨Nat.le_of_ble_eq_true rfl, Nat.le_of_ble_eq_true rfl⟩) rfl hl.1 rfl (Nat.le_of_ble_eq_true rfl) dX10_isPicture_2 ⟨Nat.le_of_ble_eq_true rfl, Nat.le_of_ble_eq_true rfl⟩ hS (fun r2 H locs q2 hS => ?_)
  refine lv_if_eq (tgt := 28) hx hb dX10_isPicture_5 (by decide) (fun c5 => ?_) (fun c5 => ?_)
  · skip
    have b5 := bo_f q2 c5
    refine lv_iconst (v := 0) hx hb dX10_isPicture_28 (by decide) ?_
    exact W.zret (v := (0 : Int32)) hx hb hr (by decide) (fun t ht hW => ⟨⟨_, (), rfl, Or.inr ⟨rfl, by first | omega | (subst e18; unfold r_top; omega)⟩, trivial⟩, hS.F ht⟩) hS.2.2 dX10_isPicture_29
  · skip
    have b5 := bo_t q2 c5
    refine lv_lload_n hx hb dX10_isPicture_8 rfl (lv_at hl 2 rfl) ?_
    refine lv_lconst (v := 0) hx hb dX10_isPicture_9 (by decide) ?_
    refine W.lcmp hx hb dX10_isPicture_10 ?_
    refine lv_if_lt (tgt := 28) hx hb dX10_isPicture_11 (by decide) (fun c11 => ?_) (fun c11 => ?_)
    · skip
      have d11 := c11
      rw [lg_cmp_lt, fa_lt64] at d11
      refine lv_iconst (v := 0) hx hb dX10_isPicture_28 (by decide) ?_
      exact W.zret (v := (0 : Int32)) hx hb hr (by decide) (fun t ht hW => ⟨⟨_, (), rfl, Or.inr ⟨rfl, by first | omega | (subst e18; unfold r_top; omega)⟩, trivial⟩, hS.F ht⟩) hS.2.2 dX10_isPicture_29
    · skip
      have d11 := c11
      rw [lg_cmp_lt, fa_lt64] at d11
      refine lv_lload_n hx hb dX10_isPicture_14 rfl (lv_at hl 2 rfl) ?_
      refine lv_lconst (v := 1) hx hb dX10_isPicture_15 (by decide) ?_
      refine lv_iload_n hx hb dX10_isPicture_16 rfl (lv_at hl 0 rfl) ?_
      refine lv_iload_n hx hb dX10_isPicture_17 rfl (lv_at hl 1 rfl) ?_
      refine lv_imul hx hb dX10_isPicture_18 ?_
      refine lv_topi (fun v18 e18 => ?_)
      refine lv_lshl (v := (1 : Int64) <<< (v18.toInt64 &&& 63)) hx hb dX10_isPicture_19 rfl ?_
      refine W.lcmp hx hb dX10_isPicture_20 ?_
      refine lv_if_ge (tgt := 28) hx hb dX10_isPicture_21 (by decide) (fun c21 => ?_) (fun c21 => ?_)
      · skip
        have d21 := c21
        rw [lg_cmp_ge, fa_le64] at d21
        refine lv_iconst (v := 0) hx hb dX10_isPicture_28 (by decide) ?_
        exact W.zret (v := (0 : Int32)) hx hb hr (by decide) (fun t ht hW => ⟨⟨_, (), rfl, Or.inr ⟨rfl, by first | omega | (subst e18; unfold r_top; omega)⟩, trivial⟩, hS.F ht⟩) hS.2.2 dX10_isPicture_29
      · skip
        have d21 := c21
        rw [lg_cmp_ge, fa_le64] at d21
        refine lv_iconst (v := 1) hx hb dX10_isPicture_24 (by decide) ?_
        refine lv_goto (tgt := 29) hx hb dX10_isPicture_25 (by decide) ?_
        exact W.zret (v := (1 : Int32)) hx hb hr (by decide) (fun t ht hW => ⟨⟨_, (), rfl, Or.inl ⟨rfl, by subst e18; unfold r_top; omega⟩, trivial⟩, hS.F ht⟩) hS.2.2 dX10_isPicture_29
set_option maxHeartbeats 4000000 in
set_option maxRecDepth 100000 in
theorem c_X10_shadowOf (l : Launch) (w : Int32) (h : Int32) (p0 : Int64) (way : Int32) (line : Int32) (hw : 1 ≤ w.toInt ∧ w.toInt ≤ 6) (hh : 1 ≤ h.toInt ∧ h.toInt ≤ 6) : Pu l yX10_shadowOf wsX10_shadowOf ({ frames := 1, cells := 0, slots := 0, locals := 23 }) [.int w, .int h, .long p0, .int way, .int line] (fun r => r = r_sh w h p0 way line (w.toInt * h.toInt).toNat) := by
  refine Met.ofW (cc := cX10_shadowOf) (maxL := 8) (ret := (some .int)) (by decide) rfl ?_
  intro p e s m args below meth c s₁ B hml hv
  obtain ⟨rfl, -⟩ := hv
  have hx := B.exec
  have hb := B.bytes
  have hr := B.returns
  have hts := atoms_spec (ws := wsX10_shadowOf) B.pre
  have hown : s.vm.findClass RX10 = some m.cls := findClass_of_methodNamed B.named
  have hlocks := B.notSynchronized
  have hS : va_S (fun _ => False) s.heap s.heap [] := va_S.rf
  have hl := lv_entry ([.int w, .int h, .long p0, .int way, .int line]) (n := 8) (Nat.le_of_ble_eq_true rfl)
  rw [lg_entry_eq]
  generalize (lg_sl ([.int w, .int h, .long p0, .int way, .int line]) ++ List.replicate (8 - (lg_sl ([.int w, .int h, .long p0, .int way, .int line])).length) Slot.unset).toArray = ls at hl ⊢
  have hl : lv_has ls 8 [(0, .int w), (1, .int h), (2, .long p0), (4, .int way), (5, .int line)] := hl
  have hS0 := hS
  have k_0 : (0 : Int32).toInt = 0 := by decide
  have hwh := mul66 hw hh
  refine lv_iconst (v := 0) hx hb dX10_shadowOf_0 (by decide) ?_
  refine lv_istore (lv' := [(6, .int (0 : Int32)), (0, .int w), (1, .int h), (2, .long p0), (4, .int way), (5, .int line)]) hx hb dX10_shadowOf_1 hl (by decide) rfl (fun ls hl => ?_)
  refine lv_iconst (v := 0) hx hb dX10_shadowOf_3 (by decide) ?_
  refine lv_istore (lv' := [(7, .int (0 : Int32)), (6, .int (0 : Int32)), (0, .int w), (1, .int h), (2, .long p0), (4, .int way), (5, .int line)]) hx hb dX10_shadowOf_4 hl (by decide) rfl (fun ls hl => ?_)
  have loop_6 : ∀ (n : Nat) (k : Nat) (x6 : Int32), ((k : Int) ≤ w.toInt * h.toInt) → (x6 = r_sh w h p0 way line k) → (w.toInt * h.toInt - k).toNat < n → ∀ (H : Heap) (locs : List Loc), va_S (fun _ => False) s.heap H locs → ∀ (ls : Array Slot), lv_has ls 8 [(7, .int (nI k)), (6, .int x6), (0, .int w), (1, .int h), (2, .long p0), (4, .int way), (5, .int line)] → W p l e (headSpec wsX10_shadowOf ({ frames := 1, cells := 0, slots := 0, locals := 23 })).room s m #[Value.int w, Value.int h, Value.long p0, Value.int way, Value.int line] below meth c H locs 0 0 (MQ below (va_Qi (fun r (_ : Unit) => r = r_sh w h p0 way line (w.toInt * h.toInt).toNat) (fun _ _ => True) (fun _ => False)) #[Value.int w, Value.int h, Value.long p0, Value.int way, Value.int line] s 0 0 (fun _ => False)) (F0 m 6 ls []) := by
    intro n
    induction n with
    | zero => intro k x6 j6_0 j6_1 hn; exact absurd hn (Nat.not_lt_zero _)
    | succ n ih_6 =>
      intro k x6 j6_0 j6_1 hn_6 H locs hS ls hl
      have ik : (nI k).toInt = (k : Int) := nI_toInt (by omega)
      refine lv_iload hx hb dX10_shadowOf_6 (lv_at hl 0 rfl) ?_
      refine lv_iload_n hx hb dX10_shadowOf_8 rfl (lv_at hl 2 rfl) ?_
      refine lv_iload_n hx hb dX10_shadowOf_9 rfl (lv_at hl 3 rfl) ?_
      refine lv_imul hx hb dX10_shadowOf_10 ?_
      refine lv_topi (fun v10 e10 => ?_)
      have i10 : v10.toInt = w.toInt * h.toInt := by rw [e10]; exact fb_mulI (by omega) (by omega)
      refine lv_icmp_ge (tgt := 54) hx hb dX10_shadowOf_11 (by decide) (fun c11 => ?_) (fun c11 => ?_)
      · skip
        have d11 := c11
        rw [fa_le] at d11
        refine lv_iload hx hb dX10_shadowOf_54 (lv_at hl 1 rfl) ?_
        exact W.iret (v := x6) hx hb hr (fun t ht hW => ⟨⟨_, (), rfl, (by have hk : (w.toInt * h.toInt).toNat = k := (by omega); simp only [hk]; exact j6_1), trivial⟩, hS.F ht⟩) hS.2.2 dX10_shadowOf_56
      · skip
        have d11 := c11
        rw [fa_le] at d11
        refine lv_iload hx hb dX10_shadowOf_14 (lv_at hl 1 rfl) ?_
        refine lv_iload_n hx hb dX10_shadowOf_16 rfl (lv_at hl 3 rfl) ?_
        refine lv_iload hx hb dX10_shadowOf_17 (lv_at hl 5 rfl) ?_
        refine lv_iload hx hb dX10_shadowOf_19 (lv_at hl 0 rfl) ?_
        refine lv_iload_n hx hb dX10_shadowOf_21 rfl (lv_at hl 2 rfl) ?_
        refine lv_irem hx hb dX10_shadowOf_22 (fun z => by rw [fa_eq] at z; omega) ?_
        refine lv_topi (fun v22 e22 => ?_)
        have i22 : v22.toInt = (nI k).toInt % w.toInt := by rw [e22]; exact my_irem (by omega) (by omega)
        have j22 : 0 ≤ v22.toInt ∧ v22.toInt < w.toInt ∧ v22.toInt ≤ (nI k).toInt := by rw [e22]; exact my_remb (by omega) (by omega)
        refine lv_iload hx hb dX10_shadowOf_23 (lv_at hl 0 rfl) ?_
        refine lv_iload_n hx hb dX10_shadowOf_25 rfl (lv_at hl 2 rfl) ?_
        refine lv_idiv hx hb dX10_shadowOf_26 (fun z => by rw [fa_eq] at z; omega) ?_
        refine lv_topi (fun v26 e26 => ?_)
        have i26 : v26.toInt = (nI k).toInt / w.toInt := by rw [e26]; exact my_idiv (by omega) (by omega)
        have j26 : 0 ≤ v26.toInt ∧ v26.toInt ≤ (nI k).toInt := by rw [e26]; exact my_divb (by omega) (by omega)
        refine pu_call (As := [.int h, .int way, .int v22, .int v26]) (rest := [.int x6]) ⟨hx, hb, hml, hown, hts⟩ (c_X10_lineOf l h way v22 v26 ) (va_cwS 4 hts gX10_shadowOf_X10_lineOf rfl rfl rfl (by decide +kernel) ⟨Nat.le_of_ble_eq_true rfl, Nat.le_of_ble_eq_true rfl⟩) rfl hl.1 rfl (Nat.le_of_ble_eq_true rfl) dX10_shadowOf_27 ⟨Nat.le_of_ble_eq_true rfl, Nat.le_of_ble_eq_true rfl⟩ hS (fun r27 H locs q27 hS => ?_)
        refine lv_iload hx hb dX10_shadowOf_30 (lv_at hl 6 rfl) ?_
        refine lv_icmp_ne (tgt := 44) hx hb dX10_shadowOf_32 (by decide) (fun c32 => ?_) (fun c32 => ?_)
        · skip
          have d32 := c32
          rw [fa_eq] at d32
          refine lv_iconst (v := 0) hx hb dX10_shadowOf_44 (by decide) ?_
          refine lv_iadd hx hb dX10_shadowOf_45 ?_
          refine lv_topi (fun v45 e45 => ?_)
          refine lv_istore (lv' := [(6, .int v45), (7, .int (nI k)), (0, .int w), (1, .int h), (2, .long p0), (4, .int way), (5, .int line)]) hx hb dX10_shadowOf_46 hl (by decide) rfl (fun ls hl => ?_)
          refine lv_iinc (v := (nI (k + 1))) (lv' := [(7, .int (nI (k + 1))), (6, .int v45), (0, .int w), (1, .int h), (2, .long p0), (4, .int way), (5, .int line)]) hx hb dX10_shadowOf_48 hl (k := 1) rfl (nI_1 _) (by decide) rfl (fun ls hl => ?_)
          refine lv_goto (tgt := 6) hx hb dX10_shadowOf_51 (by decide) ?_
          exact ih_6 (k + 1) v45 (by omega) (by simp_all [r_sh]) (by omega) _ _ hS ls (lv_sub hl [0, 1, 2, 3, 4, 5, 6] rfl)
        · skip
          have d32 := c32
          rw [fa_eq] at d32
          refine lv_lload_n hx hb dX10_shadowOf_35 rfl (lv_at hl 4 rfl) ?_
          refine lv_iload hx hb dX10_shadowOf_36 (lv_at hl 0 rfl) ?_
          refine pu_call (As := [.long p0, .int (nI k)]) (rest := [.int x6]) ⟨hx, hb, hml, hown, hts⟩ (c_X10_one l p0 (nI k) ) (va_cwS 2 hts gX10_shadowOf_X10_one rfl rfl rfl (by decide +kernel) ⟨Nat.le_of_ble_eq_true rfl, Nat.le_of_ble_eq_true rfl⟩) rfl hl.1 rfl (Nat.le_of_ble_eq_true rfl) dX10_shadowOf_38 ⟨Nat.le_of_ble_eq_true rfl, Nat.le_of_ble_eq_true rfl⟩ hS (fun r38 H locs q38 hS => ?_)
          have i38 : r38.toInt = (r_one p0 (nI k)).toInt := congrArg Int32.toInt q38
          refine lv_goto (tgt := 45) hx hb dX10_shadowOf_41 (by decide) ?_
          refine lv_iadd hx hb dX10_shadowOf_45 ?_
          refine lv_topi (fun v45 e45 => ?_)
          refine lv_istore (lv' := [(6, .int v45), (7, .int (nI k)), (0, .int w), (1, .int h), (2, .long p0), (4, .int way), (5, .int line)]) hx hb dX10_shadowOf_46 hl (by decide) rfl (fun ls hl => ?_)
          refine lv_iinc (v := (nI (k + 1))) (lv' := [(7, .int (nI (k + 1))), (6, .int v45), (0, .int w), (1, .int h), (2, .long p0), (4, .int way), (5, .int line)]) hx hb dX10_shadowOf_48 hl (k := 1) rfl (nI_1 _) (by decide) rfl (fun ls hl => ?_)
          refine lv_goto (tgt := 6) hx hb dX10_shadowOf_51 (by decide) ?_
          exact ih_6 (k + 1) v45 (by omega) (by simp_all [r_sh]) (by omega) _ _ hS ls (lv_sub hl [0, 1, 2, 3, 4, 5, 6] rfl)
  exact loop_6 ((w.toInt * h.toInt).toNat + 1) 0 (0 : Int32) (by omega) (rfl) (by omega) _ _ hS ls (lv_sub hl [0, 1, 2, 3, 4, 5, 6] rfl)
set_option maxHeartbeats 4000000 in
set_option maxRecDepth 100000 in
theorem c_X10_countOnes (l : Launch) (p0 : Int64)  : Pu l yX10_countOnes wsX10_countOnes ({ frames := 1, cells := 0, slots := 0, locals := 22 }) [.long p0] (fun r => r = r_ones p0 36) := by
  refine Met.ofW (cc := cX10_countOnes) (maxL := 4) (ret := (some .int)) (by decide) rfl ?_
  intro p e s m args below meth c s₁ B hml hv
  obtain ⟨rfl, -⟩ := hv
  have hx := B.exec
  have hb := B.bytes
  have hr := B.returns
  have hts := atoms_spec (ws := wsX10_countOnes) B.pre
  have hown : s.vm.findClass RX10 = some m.cls := findClass_of_methodNamed B.named
  have hlocks := B.notSynchronized
  have hS : va_S (fun _ => False) s.heap s.heap [] := va_S.rf
  have hl := lv_entry ([.long p0]) (n := 4) (Nat.le_of_ble_eq_true rfl)
  rw [lg_entry_eq]
  generalize (lg_sl ([.long p0]) ++ List.replicate (4 - (lg_sl ([.long p0])).length) Slot.unset).toArray = ls at hl ⊢
  have hl : lv_has ls 4 [(0, .long p0)] := hl
  have hS0 := hS
  have k_0 : (0 : Int32).toInt = 0 := by decide
  have k_36 : (36 : Int32).toInt = 36 := by decide
  refine lv_iconst (v := 0) hx hb dX10_countOnes_0 (by decide) ?_
  refine lv_istore_n (lv' := [(2, .int (0 : Int32)), (0, .long p0)]) hx hb dX10_countOnes_1 rfl hl (by decide) rfl (fun ls hl => ?_)
  refine lv_iconst (v := 0) hx hb dX10_countOnes_2 (by decide) ?_
  refine lv_istore_n (lv' := [(3, .int (0 : Int32)), (2, .int (0 : Int32)), (0, .long p0)]) hx hb dX10_countOnes_3 rfl hl (by decide) rfl (fun ls hl => ?_)
  have loop_4 : ∀ (n : Nat) (k : Nat) (x2 : Int32), (k ≤ 36) → (x2 = r_ones p0 k) → 36 - k < n → ∀ (H : Heap) (locs : List Loc), va_S (fun _ => False) s.heap H locs → ∀ (ls : Array Slot), lv_has ls 4 [(3, .int (nI k)), (2, .int x2), (0, .long p0)] → W p l e (headSpec wsX10_countOnes ({ frames := 1, cells := 0, slots := 0, locals := 22 })).room s m #[Value.long p0] below meth c H locs 0 0 (MQ below (va_Qi (fun r (_ : Unit) => r = r_ones p0 36) (fun _ _ => True) (fun _ => False)) #[Value.long p0] s 0 0 (fun _ => False)) (F0 m 4 ls []) := by
    intro n
    induction n with
    | zero => intro k x2 j4_0 j4_1 hn; exact absurd hn (Nat.not_lt_zero _)
    | succ n ih_4 =>
      intro k x2 j4_0 j4_1 hn_4 H locs hS ls hl
      have ik : (nI k).toInt = (k : Int) := nI_toInt (by omega)
      refine lv_iload_n hx hb dX10_countOnes_4 rfl (lv_at hl 0 rfl) ?_
      refine lv_bipush (v := 36) hx hb dX10_countOnes_5 (by decide) ?_
      refine lv_icmp_ge (tgt := 24) hx hb dX10_countOnes_7 (by decide) (fun c7 => ?_) (fun c7 => ?_)
      · skip
        have d7 := c7
        rw [fa_le] at d7
        refine lv_iload_n hx hb dX10_countOnes_24 rfl (lv_at hl 1 rfl) ?_
        exact W.iret (v := x2) hx hb hr (fun t ht hW => ⟨⟨_, (), rfl, (by have hk : k = 36 := (by omega); subst hk; exact j4_1), trivial⟩, hS.F ht⟩) hS.2.2 dX10_countOnes_25
      · skip
        have d7 := c7
        rw [fa_le] at d7
        refine lv_iload_n hx hb dX10_countOnes_10 rfl (lv_at hl 1 rfl) ?_
        refine lv_lload_n hx hb dX10_countOnes_11 rfl (lv_at hl 2 rfl) ?_
        refine lv_iload_n hx hb dX10_countOnes_12 rfl (lv_at hl 0 rfl) ?_
        refine pu_call (As := [.long p0, .int (nI k)]) (rest := [.int x2]) ⟨hx, hb, hml, hown, hts⟩ (c_X10_one l p0 (nI k) ) (va_cwS 2 hts gX10_countOnes_X10_one rfl rfl rfl (by decide +kernel) ⟨Nat.le_of_ble_eq_true rfl, Nat.le_of_ble_eq_true rfl⟩) rfl hl.1 rfl (Nat.le_of_ble_eq_true rfl) dX10_countOnes_13 ⟨Nat.le_of_ble_eq_true rfl, Nat.le_of_ble_eq_true rfl⟩ hS (fun r13 H locs q13 hS => ?_)
        have i13 : r13.toInt = (r_one p0 (nI k)).toInt := congrArg Int32.toInt q13
        refine lv_iadd hx hb dX10_countOnes_16 ?_
        refine lv_topi (fun v16 e16 => ?_)
        refine lv_istore_n (lv' := [(2, .int v16), (3, .int (nI k)), (0, .long p0)]) hx hb dX10_countOnes_17 rfl hl (by decide) rfl (fun ls hl => ?_)
        refine lv_iinc (v := (nI (k + 1))) (lv' := [(3, .int (nI (k + 1))), (2, .int v16), (0, .long p0)]) hx hb dX10_countOnes_18 hl (k := 1) rfl (nI_1 _) (by decide) rfl (fun ls hl => ?_)
        refine lv_goto (tgt := 4) hx hb dX10_countOnes_21 (by decide) ?_
        exact ih_4 (k + 1) v16 (by omega) (by simp_all [r_ones]) (by omega) _ _ hS ls (lv_sub hl [0, 1, 2] rfl)
  exact loop_4 (36 + 1) 0 (0 : Int32) (by omega) (rfl) (by omega) _ _ hS ls (lv_sub hl [0, 1, 2] rfl)
